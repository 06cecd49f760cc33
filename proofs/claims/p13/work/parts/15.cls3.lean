/-! the class's methods over the typed heap. Laid by wip/p5/mkclass.py. -/
set_option maxHeartbeats 4000000 in
set_option maxRecDepth 100000 in
theorem c_X5_isKept (d : tw_D) (g : tw_G) (τ : tw_K) (h : tw_H) (hw : tw_wt d g τ h) (x : Nat) (kx : τ x = 11) (m : Int32) : tw_Ct d mX5_isKept 0 0 [.ref x, .int m] h (tw_qi (fun r h1 => h1 = h ∧ tw_01 r) tw_nx) := by
  refine tw_of (by decide +kernel) (Nat.le_of_ble_eq_true rfl) ?_
  show tw_W d mX5_isKept _ 0 [(0, .ref x), (1, .int m)] [] h 0 0
  have sp0 := tw_sp.rf hw
  refine tw_aload_n 0 dX5_isKept_0 rfl rfl ?_
  refine tw_iload_n 1 dX5_isKept_1 rfl rfl ?_
  obtain ⟨e1, f2, td_3, ca_4, ha_5, da_6, c1_7, c2_8, c3_9, c4_10, rfl, k11, k12, k13, k14, k15, k16, k17, k18, k19, k20, k21⟩ := sp0.1 x 11 kx (by decide)
  refine tw_bi (tw_callV (M := mX5_isKept) (pc := 2) okX5_inVaults dX5_isKept_2 w_185 rfl f2 [.int m] [] rfl rfl ⟨by decide, by decide⟩ (Nat.le_of_ble_eq_true rfl) (c_X5_inVaults d g τ h sp0.1 x kx m) 0 0 (Nat.le_of_ble_eq_true rfl) (Nat.le_of_ble_eq_true rfl)) (fun r24 h23 q22 => ?_) (fun E h1 q => q.elim)
  rw [q22]
  refine tw_aload_n 0 dX5_isKept_5 rfl rfl ?_
  refine tw_iload_n 1 dX5_isKept_6 rfl rfl ?_
  refine tw_bi (tw_callV (M := mX5_isKept) (pc := 7) okX5_inPurses dX5_isKept_7 w_193 rfl f2 [.int m] [.int r24] rfl rfl ⟨by decide, by decide⟩ (Nat.le_of_ble_eq_true rfl) (c_X5_inPurses d g τ h sp0.1 x kx m) 0 0 (Nat.le_of_ble_eq_true rfl) (Nat.le_of_ble_eq_true rfl)) (fun r27 h26 q25 => ?_) (fun E h1 q => q.elim)
  rw [q25]
  refine tw_iadd dX5_isKept_10 ?_
  refine tw_nmi (fun v28 ev28 => ?_)
  refine tw_aload_n 0 dX5_isKept_11 rfl rfl ?_
  refine tw_get (v := .ref c1_7) rfl in_9 8 dX5_isKept_12 w_148 rfl (by decide) f2 rfl ?_
  refine tw_iload_n 1 dX5_isKept_15 rfl rfl ?_
  obtain ⟨e29, f30, a_31, b_32, rfl⟩ := sp0.1 c1_7 1 k14 (by decide)
  refine tw_bi (tw_callVN (M := mX5_isKept) (pc := 16) okX3_of dX5_isKept_16 w_189 rfl f30 [.int m] [.int v28] rfl rfl ⟨by decide, by decide⟩ (Nat.le_of_ble_eq_true rfl) (c_X3_of d g τ h sp0.1 c1_7 k14 m) 0 0 (Nat.le_of_ble_eq_true rfl) (Nat.le_of_ble_eq_true rfl)) (fun r35 h34 q33 => ?_) (fun E h1 q => q.elim)
  rw [q33]
  refine tw_iadd dX5_isKept_19 ?_
  refine tw_nmi (fun v36 ev36 => ?_)
  refine tw_aload_n 0 dX5_isKept_20 rfl rfl ?_
  refine tw_get (v := .ref c2_8) rfl in_9 9 dX5_isKept_21 w_149 rfl (by decide) f2 rfl ?_
  refine tw_iload_n 1 dX5_isKept_24 rfl rfl ?_
  obtain ⟨e37, f38, a_39, b_40, rfl⟩ := sp0.1 c2_8 1 k15 (by decide)
  refine tw_bi (tw_callVN (M := mX5_isKept) (pc := 25) okX3_of dX5_isKept_25 w_189 rfl f38 [.int m] [.int v36] rfl rfl ⟨by decide, by decide⟩ (Nat.le_of_ble_eq_true rfl) (c_X3_of d g τ h sp0.1 c2_8 k15 m) 0 0 (Nat.le_of_ble_eq_true rfl) (Nat.le_of_ble_eq_true rfl)) (fun r43 h42 q41 => ?_) (fun E h1 q => q.elim)
  rw [q41]
  refine tw_iadd dX5_isKept_28 ?_
  refine tw_nmi (fun v44 ev44 => ?_)
  refine tw_aload_n 0 dX5_isKept_29 rfl rfl ?_
  refine tw_get (v := .ref c3_9) rfl in_9 10 dX5_isKept_30 w_150 rfl (by decide) f2 rfl ?_
  refine tw_iload_n 1 dX5_isKept_33 rfl rfl ?_
  obtain ⟨e45, f46, a_47, b_48, rfl⟩ := sp0.1 c3_9 1 k16 (by decide)
  refine tw_bi (tw_callVN (M := mX5_isKept) (pc := 34) okX3_of dX5_isKept_34 w_189 rfl f46 [.int m] [.int v44] rfl rfl ⟨by decide, by decide⟩ (Nat.le_of_ble_eq_true rfl) (c_X3_of d g τ h sp0.1 c3_9 k16 m) 0 0 (Nat.le_of_ble_eq_true rfl) (Nat.le_of_ble_eq_true rfl)) (fun r51 h50 q49 => ?_) (fun E h1 q => q.elim)
  rw [q49]
  refine tw_iadd dX5_isKept_37 ?_
  refine tw_nmi (fun v52 ev52 => ?_)
  refine tw_istore_n [(2, .int v52), (0, .ref x), (1, .int m)] dX5_isKept_38 rfl (by decide) rfl ?_
  refine tw_iload_n 0 dX5_isKept_39 rfl rfl ?_
  refine tw_aload_n 1 dX5_isKept_40 rfl rfl ?_
  refine tw_get (v := .ref c4_10) rfl in_9 11 dX5_isKept_41 w_151 rfl (by decide) f2 rfl ?_
  refine tw_iload_n 2 dX5_isKept_44 rfl rfl ?_
  obtain ⟨e53, f54, a_55, b_56, rfl⟩ := sp0.1 c4_10 1 k17 (by decide)
  refine tw_bi (tw_callVN (M := mX5_isKept) (pc := 45) okX3_of dX5_isKept_45 w_189 rfl f54 [.int m] [.int v52] rfl rfl ⟨by decide, by decide⟩ (Nat.le_of_ble_eq_true rfl) (c_X3_of d g τ h sp0.1 c4_10 k17 m) 0 0 (Nat.le_of_ble_eq_true rfl) (Nat.le_of_ble_eq_true rfl)) (fun r59 h58 q57 => ?_) (fun E h1 q => q.elim)
  rw [q57]
  refine tw_icmp_ne 55 dX5_isKept_48 (by decide) (fun c60 => ?_) (fun c60 => ?_)
  · refine tw_iconst (v := 0) dX5_isKept_55 (by decide) ?_
    exact tw_zret dX5_isKept_56 rfl rfl (Or.inl ⟨_, rfl, ⟨rfl, (by unfold tw_01; decide)⟩⟩)
  · refine tw_iconst (v := 1) dX5_isKept_51 (by decide) ?_
    refine tw_goto 56 dX5_isKept_52 (by decide) ?_
    exact tw_zret dX5_isKept_56 rfl rfl (Or.inl ⟨_, rfl, ⟨rfl, (by unfold tw_01; decide)⟩⟩)

set_option maxHeartbeats 4000000 in
set_option maxRecDepth 100000 in
theorem c_X5_areCountriesSound (d : tw_D) (g : tw_G) (τ : tw_K) (h : tw_H) (hw : tw_wt d g τ h) (x : Nat) (kx : τ x = 11) : tw_Ct d mX5_areCountriesSound 0 0 [.ref x] h (tw_qi (fun r h1 => h1 = h ∧ tw_01 r) tw_nx) := by
  refine tw_of (by decide +kernel) (Nat.le_of_ble_eq_true rfl) ?_
  show tw_W d mX5_areCountriesSound _ 0 [(0, .ref x)] [] h 0 0
  have sp0 := tw_sp.rf hw
  refine tw_aload_n 0 dX5_areCountriesSound_0 rfl rfl ?_
  obtain ⟨e1, f2, td_3, ca_4, ha_5, da_6, c1_7, c2_8, c3_9, c4_10, rfl, k11, k12, k13, k14, k15, k16, k17, k18, k19, k20, k21⟩ := sp0.1 x 11 kx (by decide)
  refine tw_get (v := .ref ca_4) rfl in_9 2 dX5_areCountriesSound_1 w_142 rfl (by decide) f2 rfl ?_
  refine tw_astore_n [(1, .ref ca_4), (0, .ref x)] dX5_areCountriesSound_4 rfl (by decide) rfl ?_
  refine tw_aload_n 0 dX5_areCountriesSound_5 rfl rfl ?_
  obtain ⟨e22, f23, F24, rfl, k25, pn26, pb27, px28⟩ := sp0.1 ca_4 8 k11 (by decide)
  refine tw_alen (v := nI 4) 4 rfl dX5_areCountriesSound_6 f23 rfl ?_
  refine tw_istore_n [(2, .int (nI 4)), (1, .ref ca_4), (0, .ref x)] dX5_areCountriesSound_7 rfl (by decide) rfl ?_
  refine tw_iconst (v := 0) dX5_areCountriesSound_8 (by decide) ?_
  refine tw_istore_n [(3, .int 0), (2, .int (nI 4)), (1, .ref ca_4), (0, .ref x)] dX5_areCountriesSound_9 rfl (by decide) rfl ?_
  have L32 : ∀ (r30 k29 : Nat), 4 + 1 ≤ k29 + r30 → k29 ≤ 4 → tw_W d mX5_areCountriesSound (tw_qi (fun r h1 => h1 = h ∧ tw_01 r) tw_nx) 10 [(0, .ref x), (1, .ref ca_4), (2, .int (nI 4)), (3, .int (nI k29))] [] h 0 0 := by
    intro r30
    induction r30 with
    | zero => intro k29  hk36 hk37; exact absurd hk36 (by omega)
    | succ r30 ih31 =>
      intro k29  hk36 hk37
      refine tw_iload_n 3 dX5_areCountriesSound_10 rfl rfl ?_
      refine tw_iload_n 2 dX5_areCountriesSound_11 rfl rfl ?_
      refine tw_icmp_ge 55 dX5_areCountriesSound_12 (by decide) (fun c38 => ?_) (fun c38 => ?_)
      · refine tw_iconst (v := 1) dX5_areCountriesSound_55 (by decide) ?_
        exact tw_zret dX5_areCountriesSound_56 rfl rfl (Or.inl ⟨_, rfl, ⟨rfl, (by unfold tw_01; decide)⟩⟩)
      · have kl39 := tw_klt (N := 4) c38 hk37 (by decide)
        refine tw_aload_n 1 dX5_areCountriesSound_15 rfl rfl ?_
        refine tw_iload_n 3 dX5_areCountriesSound_16 rfl rfl ?_
        cases k40 : F24 ((nI k29)).toNatClampNeg with
        | none =>
          refine tw_aald (v := .null) 4 rfl rfl dX5_areCountriesSound_17 f23 (vp_in_nI (by omega) (by decide)) (by rw [k40]; rfl) ?_
          refine tw_astoreN [(4, .null), (0, .ref x), (1, .ref ca_4), (2, .int (nI 4)), (3, .int (nI k29))] dX5_areCountriesSound_18 (by decide) rfl ?_
          refine tw_aloadN 0 dX5_areCountriesSound_20 rfl ?_
          refine tw_ifnullN 49 dX5_areCountriesSound_22 (by decide) ?_
          obtain ⟨v42, ev42⟩ : ∃ y : Int32, y = (nI k29) + 1 := ⟨_, rfl⟩
          refine tw_iinc [(3, .int v42), (4, .null), (0, .ref x), (1, .ref ca_4), (2, .int (nI 4))] 4 dX5_areCountriesSound_49 rfl (by rw [ev42]; rfl) (by decide) rfl ?_
          refine tw_goto 10 dX5_areCountriesSound_52 (by decide) ?_
          have qv42 := tw_nI3 ev42
          rw [qv42]
          refine tw_lv [2, 3, 4, 0] rfl ?_
          exact ih31 (k29 + 1)  (by omega) (by omega)
        | some q41 =>
          have k43 := k25 _ _ k40
          refine tw_aald (v := .ref q41) 4 rfl rfl dX5_areCountriesSound_17 f23 (vp_in_nI (by omega) (by decide)) (by rw [k40]; rfl) ?_
          refine tw_astore [(4, .ref q41), (0, .ref x), (1, .ref ca_4), (2, .int (nI 4)), (3, .int (nI k29))] dX5_areCountriesSound_18 (by decide) rfl ?_
          refine tw_aload 0 dX5_areCountriesSound_20 rfl ?_
          refine tw_ifnull dX5_areCountriesSound_22 ?_
          refine tw_aload 0 dX5_areCountriesSound_25 rfl ?_
          obtain ⟨e44, f45, n_46, r_47, c_48, go_49, so_50, v_51, rd_52, rf_53, t_54, rfl, k55, k56, k57, k58, k59, k60, k61, k62⟩ := sp0.1 q41 2 k43 (by decide)
          refine tw_getN (v := .ref v_51) rfl in_4 3 dX5_areCountriesSound_27 w_508 rfl (by decide) f45 rfl ?_
          obtain ⟨e63, f64, a_65, b_66, rfl⟩ := sp0.1 v_51 1 k55 (by decide)
          refine tw_bi (tw_callVN (M := mX5_areCountriesSound) (pc := 30) okX3_isBelowZero dX5_areCountriesSound_30 w_201 rfl f64 [] [] rfl rfl ⟨by decide, by decide⟩ (Nat.le_of_ble_eq_true rfl) (c_X3_isBelowZero d g τ h sp0.1 v_51 k55) 0 0 (Nat.le_of_ble_eq_true rfl) (Nat.le_of_ble_eq_true rfl)) (fun r69 h68 q67 => ?_) (fun E h1 q => q.elim)
          obtain ⟨q67e, p70⟩ := q67
          rw [q67e]
          refine tw_if_ne 47 dX5_areCountriesSound_33 (by decide) (fun c71 => ?_) (fun c71 => ?_)
          · refine tw_iconst (v := 0) dX5_areCountriesSound_47 (by decide) ?_
            exact tw_zret dX5_areCountriesSound_48 rfl rfl (Or.inl ⟨_, rfl, ⟨rfl, (by unfold tw_01; decide)⟩⟩)
          · refine tw_aload 0 dX5_areCountriesSound_36 rfl ?_
            refine tw_getN (v := .ref t_54) rfl in_4 8 dX5_areCountriesSound_38 w_514 rfl (by decide) f45 rfl ?_
            obtain ⟨e72, f73, m_74, rfl, k75⟩ := sp0.1 t_54 5 k58 (by decide)
            refine tw_bi (tw_callVN (M := mX5_areCountriesSound) (pc := 41) okX4_isBelowZero dX5_areCountriesSound_41 w_205 rfl f73 [] [] rfl rfl ⟨by decide, by decide⟩ (Nat.le_of_ble_eq_true rfl) (c_X4_isBelowZero d g τ h sp0.1 t_54 k58) 0 0 (Nat.le_of_ble_eq_true rfl) (Nat.le_of_ble_eq_true rfl)) (fun r78 h77 q76 => ?_) (fun E h1 q => q.elim)
            obtain ⟨q76e, p79⟩ := q76
            rw [q76e]
            refine tw_if_eq 49 dX5_areCountriesSound_44 (by decide) (fun c80 => ?_) (fun c80 => ?_)
            · obtain ⟨v81, ev81⟩ : ∃ y : Int32, y = (nI k29) + 1 := ⟨_, rfl⟩
              refine tw_iinc [(3, .int v81), (4, .ref q41), (0, .ref x), (1, .ref ca_4), (2, .int (nI 4))] 4 dX5_areCountriesSound_49 rfl (by rw [ev81]; rfl) (by decide) rfl ?_
              refine tw_goto 10 dX5_areCountriesSound_52 (by decide) ?_
              have qv81 := tw_nI3 ev81
              rw [qv81]
              refine tw_lv [2, 3, 4, 0] rfl ?_
              exact ih31 (k29 + 1)  (by omega) (by omega)
            · refine tw_iconst (v := 0) dX5_areCountriesSound_47 (by decide) ?_
              exact tw_zret dX5_areCountriesSound_48 rfl rfl (Or.inl ⟨_, rfl, ⟨rfl, (by unfold tw_01; decide)⟩⟩)
  refine tw_lv [3, 2, 1, 0] rfl ?_
  exact L32 (4 + 1) 0  (by omega) (by omega)

set_option maxHeartbeats 4000000 in
set_option maxRecDepth 100000 in
theorem c_X5_areHousesSound (d : tw_D) (g : tw_G) (τ : tw_K) (h : tw_H) (hw : tw_wt d g τ h) (x : Nat) (kx : τ x = 11) : tw_Ct d mX5_areHousesSound 0 0 [.ref x] h (tw_qi (fun r h1 => h1 = h ∧ tw_01 r) tw_nx) := by
  refine tw_of (by decide +kernel) (Nat.le_of_ble_eq_true rfl) ?_
  show tw_W d mX5_areHousesSound _ 0 [(0, .ref x)] [] h 0 0
  have sp0 := tw_sp.rf hw
  refine tw_aload_n 0 dX5_areHousesSound_0 rfl rfl ?_
  obtain ⟨e1, f2, td_3, ca_4, ha_5, da_6, c1_7, c2_8, c3_9, c4_10, rfl, k11, k12, k13, k14, k15, k16, k17, k18, k19, k20, k21⟩ := sp0.1 x 11 kx (by decide)
  refine tw_get (v := .ref ha_5) rfl in_9 4 dX5_areHousesSound_1 w_144 rfl (by decide) f2 rfl ?_
  refine tw_astore_n [(1, .ref ha_5), (0, .ref x)] dX5_areHousesSound_4 rfl (by decide) rfl ?_
  refine tw_aload_n 0 dX5_areHousesSound_5 rfl rfl ?_
  obtain ⟨e22, f23, F24, rfl, k25, pn26, pb27, px28⟩ := sp0.1 ha_5 9 k12 (by decide)
  refine tw_alen (v := nI 6) 5 rfl dX5_areHousesSound_6 f23 rfl ?_
  refine tw_istore_n [(2, .int (nI 6)), (1, .ref ha_5), (0, .ref x)] dX5_areHousesSound_7 rfl (by decide) rfl ?_
  refine tw_iconst (v := 0) dX5_areHousesSound_8 (by decide) ?_
  refine tw_istore_n [(3, .int 0), (2, .int (nI 6)), (1, .ref ha_5), (0, .ref x)] dX5_areHousesSound_9 rfl (by decide) rfl ?_
  have L32 : ∀ (r30 k29 : Nat), 6 + 1 ≤ k29 + r30 → k29 ≤ 6 → tw_W d mX5_areHousesSound (tw_qi (fun r h1 => h1 = h ∧ tw_01 r) tw_nx) 10 [(0, .ref x), (1, .ref ha_5), (2, .int (nI 6)), (3, .int (nI k29))] [] h 0 0 := by
    intro r30
    induction r30 with
    | zero => intro k29  hk36 hk37; exact absurd hk36 (by omega)
    | succ r30 ih31 =>
      intro k29  hk36 hk37
      refine tw_iload_n 3 dX5_areHousesSound_10 rfl rfl ?_
      refine tw_iload_n 2 dX5_areHousesSound_11 rfl rfl ?_
      refine tw_icmp_ge 56 dX5_areHousesSound_12 (by decide) (fun c38 => ?_) (fun c38 => ?_)
      · refine tw_iconst (v := 1) dX5_areHousesSound_56 (by decide) ?_
        exact tw_zret dX5_areHousesSound_57 rfl rfl (Or.inl ⟨_, rfl, ⟨rfl, (by unfold tw_01; decide)⟩⟩)
      · have kl39 := tw_klt (N := 6) c38 hk37 (by decide)
        refine tw_aload_n 1 dX5_areHousesSound_15 rfl rfl ?_
        refine tw_iload_n 3 dX5_areHousesSound_16 rfl rfl ?_
        cases k40 : F24 ((nI k29)).toNatClampNeg with
        | none =>
          refine tw_aald (v := .null) 5 rfl rfl dX5_areHousesSound_17 f23 (vp_in_nI (by omega) (by decide)) (by rw [k40]; rfl) ?_
          refine tw_astoreN [(4, .null), (0, .ref x), (1, .ref ha_5), (2, .int (nI 6)), (3, .int (nI k29))] dX5_areHousesSound_18 (by decide) rfl ?_
          refine tw_aloadN 0 dX5_areHousesSound_20 rfl ?_
          refine tw_ifnullN 50 dX5_areHousesSound_22 (by decide) ?_
          obtain ⟨v42, ev42⟩ : ∃ y : Int32, y = (nI k29) + 1 := ⟨_, rfl⟩
          refine tw_iinc [(3, .int v42), (4, .null), (0, .ref x), (1, .ref ha_5), (2, .int (nI 6))] 4 dX5_areHousesSound_50 rfl (by rw [ev42]; rfl) (by decide) rfl ?_
          refine tw_goto 10 dX5_areHousesSound_53 (by decide) ?_
          have qv42 := tw_nI3 ev42
          rw [qv42]
          refine tw_lv [2, 3, 4, 0] rfl ?_
          exact ih31 (k29 + 1)  (by omega) (by omega)
        | some q41 =>
          have k43 := k25 _ _ k40
          refine tw_aald (v := .ref q41) 5 rfl rfl dX5_areHousesSound_17 f23 (vp_in_nI (by omega) (by decide)) (by rw [k40]; rfl) ?_
          refine tw_astore [(4, .ref q41), (0, .ref x), (1, .ref ha_5), (2, .int (nI 6)), (3, .int (nI k29))] dX5_areHousesSound_18 (by decide) rfl ?_
          refine tw_aload 0 dX5_areHousesSound_20 rfl ?_
          refine tw_ifnull dX5_areHousesSound_22 ?_
          refine tw_aload 0 dX5_areHousesSound_25 rfl ?_
          obtain ⟨e44, f45, n_46, ar_47, p_48, pl_49, go_50, rfl, k51, k52, k53⟩ := sp0.1 q41 3 k43 (by decide)
          refine tw_getN (v := .ref p_48) rfl in_6 1 dX5_areHousesSound_27 w_639 rfl (by decide) f45 rfl ?_
          obtain ⟨e54, f55, a_56, b_57, rfl⟩ := sp0.1 p_48 1 k51 (by decide)
          refine tw_bi (tw_callVN (M := mX5_areHousesSound) (pc := 30) okX3_isBelowZero dX5_areHousesSound_30 w_201 rfl f55 [] [] rfl rfl ⟨by decide, by decide⟩ (Nat.le_of_ble_eq_true rfl) (c_X3_isBelowZero d g τ h sp0.1 p_48 k51) 0 0 (Nat.le_of_ble_eq_true rfl) (Nat.le_of_ble_eq_true rfl)) (fun r60 h59 q58 => ?_) (fun E h1 q => q.elim)
          obtain ⟨q58e, p61⟩ := q58
          rw [q58e]
          refine tw_if_ne 48 dX5_areHousesSound_33 (by decide) (fun c62 => ?_) (fun c62 => ?_)
          · refine tw_iconst (v := 0) dX5_areHousesSound_48 (by decide) ?_
            exact tw_zret dX5_areHousesSound_49 rfl rfl (Or.inl ⟨_, rfl, ⟨rfl, (by unfold tw_01; decide)⟩⟩)
          · refine tw_aload 0 dX5_areHousesSound_36 rfl ?_
            refine tw_aload_n 1 dX5_areHousesSound_38 rfl rfl ?_
            refine tw_get (v := .int td_3) rfl in_9 0 dX5_areHousesSound_39 w_140 rfl (by decide) f2 rfl ?_
            refine tw_bi (tw_callVN (M := mX5_areHousesSound) (pc := 42) okX2_isLateOn dX5_areHousesSound_42 w_214 rfl f45 [.int td_3] [] rfl rfl ⟨by decide, by decide⟩ (Nat.le_of_ble_eq_true rfl) (c_X2_isLateOn d g τ h sp0.1 q41 k43 td_3) 0 0 (Nat.le_of_ble_eq_true rfl) (Nat.le_of_ble_eq_true rfl)) (fun r65 h64 q63 => ?_) (fun E h1 q => q.elim)
            obtain ⟨q63e, p66⟩ := q63
            rw [q63e]
            refine tw_if_eq 50 dX5_areHousesSound_45 (by decide) (fun c67 => ?_) (fun c67 => ?_)
            · obtain ⟨v68, ev68⟩ : ∃ y : Int32, y = (nI k29) + 1 := ⟨_, rfl⟩
              refine tw_iinc [(3, .int v68), (4, .ref q41), (0, .ref x), (1, .ref ha_5), (2, .int (nI 6))] 4 dX5_areHousesSound_50 rfl (by rw [ev68]; rfl) (by decide) rfl ?_
              refine tw_goto 10 dX5_areHousesSound_53 (by decide) ?_
              have qv68 := tw_nI3 ev68
              rw [qv68]
              refine tw_lv [2, 3, 4, 0] rfl ?_
              exact ih31 (k29 + 1)  (by omega) (by omega)
            · refine tw_iconst (v := 0) dX5_areHousesSound_48 (by decide) ?_
              exact tw_zret dX5_areHousesSound_49 rfl rfl (Or.inl ⟨_, rfl, ⟨rfl, (by unfold tw_01; decide)⟩⟩)
  refine tw_lv [3, 2, 1, 0] rfl ?_
  exact L32 (6 + 1) 0  (by omega) (by omega)

set_option maxHeartbeats 4000000 in
set_option maxRecDepth 100000 in
theorem c_X5_hasSameRoads (d : tw_D) (g : tw_G) (τ : tw_K) (h : tw_H) (hw : tw_wt d g τ h) (a : Nat) (ka : τ a = 2) (b : Nat) (kb : τ b = 2) : tw_Ct d mX5_hasSameRoads 0 0 [.ref a, .ref b] h (tw_qi (fun r h1 => h1 = h ∧ tw_01 r) tw_nx) := by
  refine tw_of (by decide +kernel) (Nat.le_of_ble_eq_true rfl) ?_
  show tw_W d mX5_hasSameRoads _ 0 [(0, .ref a), (1, .ref b)] [] h 0 0
  have sp0 := tw_sp.rf hw
  refine tw_aload_n 0 dX5_hasSameRoads_0 rfl rfl ?_
  refine tw_aload_n 1 dX5_hasSameRoads_1 rfl rfl ?_
  obtain ⟨e1, f2, n_3, r_4, c_5, go_6, so_7, v_8, rd_9, rf_10, t_11, rfl, k12, k13, k14, k15, k16, k17, k18, k19⟩ := sp0.1 b 2 kb (by decide)
  refine tw_getN (v := .int n_3) rfl in_4 0 dX5_hasSameRoads_2 w_502 rfl (by decide) f2 rfl ?_
  obtain ⟨e20, f21, n_22, r_23, c_24, go_25, so_26, v_27, rd_28, rf_29, t_30, rfl, k31, k32, k33, k34, k35, k36, k37, k38⟩ := sp0.1 a 2 ka (by decide)
  refine tw_bi (tw_callVN (M := mX5_hasSameRoads) (pc := 5) okX0_daysTo dX5_hasSameRoads_5 w_226 rfl f21 [.int n_3] [] rfl rfl ⟨by decide, by decide⟩ (Nat.le_of_ble_eq_true rfl) (c_X0_daysTo d g τ h sp0.1 a ka n_3) 0 0 (Nat.le_of_ble_eq_true rfl) (Nat.le_of_ble_eq_true rfl)) (fun r41 h40 q39 => ?_) (fun E h1 q => q.elim)
  rw [q39]
  refine tw_aload_n 1 dX5_hasSameRoads_8 rfl rfl ?_
  refine tw_aload_n 0 dX5_hasSameRoads_9 rfl rfl ?_
  refine tw_getN (v := .int n_22) rfl in_4 0 dX5_hasSameRoads_10 w_502 rfl (by decide) f21 rfl ?_
  refine tw_bi (tw_callVN (M := mX5_hasSameRoads) (pc := 13) okX0_daysTo dX5_hasSameRoads_13 w_226 rfl f2 [.int n_22] [.int r41] rfl rfl ⟨by decide, by decide⟩ (Nat.le_of_ble_eq_true rfl) (c_X0_daysTo d g τ h sp0.1 b kb n_22) 0 0 (Nat.le_of_ble_eq_true rfl) (Nat.le_of_ble_eq_true rfl)) (fun r44 h43 q42 => ?_) (fun E h1 q => q.elim)
  rw [q42]
  refine tw_icmp_ne 42 dX5_hasSameRoads_16 (by decide) (fun c45 => ?_) (fun c45 => ?_)
  · refine tw_iconst (v := 0) dX5_hasSameRoads_42 (by decide) ?_
    exact tw_zret dX5_hasSameRoads_43 rfl rfl (Or.inl ⟨_, rfl, ⟨rfl, (by unfold tw_01; decide)⟩⟩)
  · refine tw_aload_n 0 dX5_hasSameRoads_19 rfl rfl ?_
    refine tw_aload_n 1 dX5_hasSameRoads_20 rfl rfl ?_
    refine tw_getN (v := .int n_3) rfl in_4 0 dX5_hasSameRoads_21 w_502 rfl (by decide) f2 rfl ?_
    refine tw_bi (tw_callVN (M := mX5_hasSameRoads) (pc := 24) okX0_freightTo dX5_hasSameRoads_24 w_231 rfl f21 [.int n_3] [] rfl rfl ⟨by decide, by decide⟩ (Nat.le_of_ble_eq_true rfl) (c_X0_freightTo d g τ h sp0.1 a ka n_3) 0 0 (Nat.le_of_ble_eq_true rfl) (Nat.le_of_ble_eq_true rfl)) (fun r48 h47 q46 => ?_) (fun E h1 q => q.elim)
    rw [q46]
    refine tw_aload_n 1 dX5_hasSameRoads_27 rfl rfl ?_
    refine tw_aload_n 0 dX5_hasSameRoads_28 rfl rfl ?_
    refine tw_getN (v := .int n_22) rfl in_4 0 dX5_hasSameRoads_29 w_502 rfl (by decide) f21 rfl ?_
    refine tw_bi (tw_callVN (M := mX5_hasSameRoads) (pc := 32) okX0_freightTo dX5_hasSameRoads_32 w_231 rfl f2 [.int n_22] [.int r48] rfl rfl ⟨by decide, by decide⟩ (Nat.le_of_ble_eq_true rfl) (c_X0_freightTo d g τ h sp0.1 b kb n_22) 0 0 (Nat.le_of_ble_eq_true rfl) (Nat.le_of_ble_eq_true rfl)) (fun r51 h50 q49 => ?_) (fun E h1 q => q.elim)
    rw [q49]
    refine tw_icmp_ne 42 dX5_hasSameRoads_35 (by decide) (fun c52 => ?_) (fun c52 => ?_)
    · refine tw_iconst (v := 0) dX5_hasSameRoads_42 (by decide) ?_
      exact tw_zret dX5_hasSameRoads_43 rfl rfl (Or.inl ⟨_, rfl, ⟨rfl, (by unfold tw_01; decide)⟩⟩)
    · refine tw_iconst (v := 1) dX5_hasSameRoads_38 (by decide) ?_
      refine tw_goto 43 dX5_hasSameRoads_39 (by decide) ?_
      exact tw_zret dX5_hasSameRoads_43 rfl rfl (Or.inl ⟨_, rfl, ⟨rfl, (by unfold tw_01; decide)⟩⟩)

set_option maxHeartbeats 4000000 in
set_option maxRecDepth 100000 in
theorem c_X5_areRoadsTheSame (d : tw_D) (g : tw_G) (τ : tw_K) (h : tw_H) (hw : tw_wt d g τ h) (x : Nat) (kx : τ x = 11) : tw_Ct d mX5_areRoadsTheSame 0 0 [.ref x] h (tw_qi (fun r h1 => h1 = h ∧ tw_01 r) tw_nx) := by
  refine tw_of (by decide +kernel) (Nat.le_of_ble_eq_true rfl) ?_
  show tw_W d mX5_areRoadsTheSame _ 0 [(0, .ref x)] [] h 0 0
  have sp0 := tw_sp.rf hw
  refine tw_aload_n 0 dX5_areRoadsTheSame_0 rfl rfl ?_
  obtain ⟨e1, f2, td_3, ca_4, ha_5, da_6, c1_7, c2_8, c3_9, c4_10, rfl, k11, k12, k13, k14, k15, k16, k17, k18, k19, k20, k21⟩ := sp0.1 x 11 kx (by decide)
  refine tw_get (v := .ref ca_4) rfl in_9 2 dX5_areRoadsTheSame_1 w_142 rfl (by decide) f2 rfl ?_
  refine tw_astore_n [(1, .ref ca_4), (0, .ref x)] dX5_areRoadsTheSame_4 rfl (by decide) rfl ?_
  refine tw_aload_n 0 dX5_areRoadsTheSame_5 rfl rfl ?_
  obtain ⟨e22, f23, F24, rfl, k25, pn26, pb27, px28⟩ := sp0.1 ca_4 8 k11 (by decide)
  refine tw_alen (v := nI 4) 4 rfl dX5_areRoadsTheSame_6 f23 rfl ?_
  refine tw_istore_n [(2, .int (nI 4)), (1, .ref ca_4), (0, .ref x)] dX5_areRoadsTheSame_7 rfl (by decide) rfl ?_
  refine tw_iconst (v := 0) dX5_areRoadsTheSame_8 (by decide) ?_
  refine tw_istore_n [(3, .int 0), (2, .int (nI 4)), (1, .ref ca_4), (0, .ref x)] dX5_areRoadsTheSame_9 rfl (by decide) rfl ?_
  have L32 : ∀ (r30 k29 : Nat), 4 + 1 ≤ k29 + r30 → k29 ≤ 4 → tw_W d mX5_areRoadsTheSame (tw_qi (fun r h1 => h1 = h ∧ tw_01 r) tw_nx) 10 [(0, .ref x), (1, .ref ca_4), (2, .int (nI 4)), (3, .int (nI k29))] [] h 0 0 := by
    intro r30
    induction r30 with
    | zero => intro k29  hk36 hk37; exact absurd hk36 (by omega)
    | succ r30 ih31 =>
      intro k29  hk36 hk37
      refine tw_iload_n 3 dX5_areRoadsTheSame_10 rfl rfl ?_
      refine tw_iload_n 2 dX5_areRoadsTheSame_11 rfl rfl ?_
      refine tw_icmp_ge 82 dX5_areRoadsTheSame_12 (by decide) (fun c38 => ?_) (fun c38 => ?_)
      · refine tw_iconst (v := 1) dX5_areRoadsTheSame_82 (by decide) ?_
        exact tw_zret dX5_areRoadsTheSame_83 rfl rfl (Or.inl ⟨_, rfl, ⟨rfl, (by unfold tw_01; decide)⟩⟩)
      · have kl39 := tw_klt (N := 4) c38 hk37 (by decide)
        refine tw_aload_n 1 dX5_areRoadsTheSame_15 rfl rfl ?_
        refine tw_iload_n 3 dX5_areRoadsTheSame_16 rfl rfl ?_
        cases k40 : F24 ((nI k29)).toNatClampNeg with
        | none =>
          refine tw_aald (v := .null) 4 rfl rfl dX5_areRoadsTheSame_17 f23 (vp_in_nI (by omega) (by decide)) (by rw [k40]; rfl) ?_
          refine tw_astoreN [(4, .null), (0, .ref x), (1, .ref ca_4), (2, .int (nI 4)), (3, .int (nI k29))] dX5_areRoadsTheSame_18 (by decide) rfl ?_
          refine tw_aload_n 1 dX5_areRoadsTheSame_20 rfl rfl ?_
          refine tw_get (v := .ref ca_4) rfl in_9 2 dX5_areRoadsTheSame_21 w_142 rfl (by decide) f2 rfl ?_
          refine tw_astore [(5, .ref ca_4), (4, .null), (0, .ref x), (1, .ref ca_4), (2, .int (nI 4)), (3, .int (nI k29))] dX5_areRoadsTheSame_24 (by decide) rfl ?_
          refine tw_aload 0 dX5_areRoadsTheSame_26 rfl ?_
          refine tw_alen (v := nI 4) 4 rfl dX5_areRoadsTheSame_28 f23 rfl ?_
          refine tw_istore [(6, .int (nI 4)), (5, .ref ca_4), (4, .null), (0, .ref x), (1, .ref ca_4), (2, .int (nI 4)), (3, .int (nI k29))] dX5_areRoadsTheSame_29 (by decide) rfl ?_
          refine tw_iconst (v := 0) dX5_areRoadsTheSame_31 (by decide) ?_
          refine tw_istore [(7, .int 0), (6, .int (nI 4)), (5, .ref ca_4), (4, .null), (0, .ref x), (1, .ref ca_4), (2, .int (nI 4)), (3, .int (nI k29))] dX5_areRoadsTheSame_32 (by decide) rfl ?_
          have L45 : ∀ (r43 k42 : Nat), 4 + 1 ≤ k42 + r43 → k42 ≤ 4 → tw_W d mX5_areRoadsTheSame (tw_qi (fun r h1 => h1 = h ∧ tw_01 r) tw_nx) 34 [(0, .ref x), (1, .ref ca_4), (2, .int (nI 4)), (3, .int (nI k29)), (4, .null), (5, .ref ca_4), (6, .int (nI 4)), (7, .int (nI k42))] [] h 0 0 := by
            intro r43
            induction r43 with
            | zero => intro k42  hk49 hk50; exact absurd hk49 (by omega)
            | succ r43 ih44 =>
              intro k42  hk49 hk50
              refine tw_iload 7 dX5_areRoadsTheSame_34 rfl ?_
              refine tw_iload 6 dX5_areRoadsTheSame_36 rfl ?_
              refine tw_icmp_ge 76 dX5_areRoadsTheSame_38 (by decide) (fun c51 => ?_) (fun c51 => ?_)
              · obtain ⟨v52, ev52⟩ : ∃ y : Int32, y = (nI k29) + 1 := ⟨_, rfl⟩
                refine tw_iinc [(3, .int v52), (0, .ref x), (1, .ref ca_4), (2, .int (nI 4)), (4, .null), (5, .ref ca_4), (6, .int (nI 4)), (7, .int (nI k42))] 3 dX5_areRoadsTheSame_76 rfl (by rw [ev52]; rfl) (by decide) rfl ?_
                refine tw_goto 10 dX5_areRoadsTheSame_79 (by decide) ?_
                have qv52 := tw_nI3 ev52
                rw [qv52]
                refine tw_lv [1, 2, 3, 0] rfl ?_
                exact ih31 (k29 + 1)  (by omega) (by omega)
              · have kl53 := tw_klt (N := 4) c51 hk50 (by decide)
                refine tw_aload 5 dX5_areRoadsTheSame_41 rfl ?_
                refine tw_iload 7 dX5_areRoadsTheSame_43 rfl ?_
                cases k54 : F24 ((nI k42)).toNatClampNeg with
                | none =>
                  refine tw_aald (v := .null) 4 rfl rfl dX5_areRoadsTheSame_45 f23 (vp_in_nI (by omega) (by decide)) (by rw [k54]; rfl) ?_
                  refine tw_astoreN [(8, .null), (0, .ref x), (1, .ref ca_4), (2, .int (nI 4)), (3, .int (nI k29)), (4, .null), (5, .ref ca_4), (6, .int (nI 4)), (7, .int (nI k42))] dX5_areRoadsTheSame_46 (by decide) rfl ?_
                  refine tw_aloadN 5 dX5_areRoadsTheSame_48 rfl ?_
                  refine tw_ifnullN 70 dX5_areRoadsTheSame_50 (by decide) ?_
                  obtain ⟨v56, ev56⟩ : ∃ y : Int32, y = (nI k42) + 1 := ⟨_, rfl⟩
                  refine tw_iinc [(7, .int v56), (8, .null), (0, .ref x), (1, .ref ca_4), (2, .int (nI 4)), (3, .int (nI k29)), (4, .null), (5, .ref ca_4), (6, .int (nI 4))] 8 dX5_areRoadsTheSame_70 rfl (by rw [ev56]; rfl) (by decide) rfl ?_
                  refine tw_goto 34 dX5_areRoadsTheSame_73 (by decide) ?_
                  have qv56 := tw_nI3 ev56
                  rw [qv56]
                  refine tw_lv [2, 3, 4, 5, 6, 7, 8, 0] rfl ?_
                  exact ih44 (k42 + 1)  (by omega) (by omega)
                | some q55 =>
                  have k57 := k25 _ _ k54
                  refine tw_aald (v := .ref q55) 4 rfl rfl dX5_areRoadsTheSame_45 f23 (vp_in_nI (by omega) (by decide)) (by rw [k54]; rfl) ?_
                  refine tw_astore [(8, .ref q55), (0, .ref x), (1, .ref ca_4), (2, .int (nI 4)), (3, .int (nI k29)), (4, .null), (5, .ref ca_4), (6, .int (nI 4)), (7, .int (nI k42))] dX5_areRoadsTheSame_46 (by decide) rfl ?_
                  refine tw_aloadN 5 dX5_areRoadsTheSame_48 rfl ?_
                  refine tw_ifnullN 70 dX5_areRoadsTheSame_50 (by decide) ?_
                  obtain ⟨v58, ev58⟩ : ∃ y : Int32, y = (nI k42) + 1 := ⟨_, rfl⟩
                  refine tw_iinc [(7, .int v58), (8, .ref q55), (0, .ref x), (1, .ref ca_4), (2, .int (nI 4)), (3, .int (nI k29)), (4, .null), (5, .ref ca_4), (6, .int (nI 4))] 8 dX5_areRoadsTheSame_70 rfl (by rw [ev58]; rfl) (by decide) rfl ?_
                  refine tw_goto 34 dX5_areRoadsTheSame_73 (by decide) ?_
                  have qv58 := tw_nI3 ev58
                  rw [qv58]
                  refine tw_lv [2, 3, 4, 5, 6, 7, 8, 0] rfl ?_
                  exact ih44 (k42 + 1)  (by omega) (by omega)
          refine tw_lv [4, 5, 6, 7, 3, 2, 1, 0] rfl ?_
          exact L45 (4 + 1) 0  (by omega) (by omega)
        | some q41 =>
          have k59 := k25 _ _ k40
          refine tw_aald (v := .ref q41) 4 rfl rfl dX5_areRoadsTheSame_17 f23 (vp_in_nI (by omega) (by decide)) (by rw [k40]; rfl) ?_
          refine tw_astore [(4, .ref q41), (0, .ref x), (1, .ref ca_4), (2, .int (nI 4)), (3, .int (nI k29))] dX5_areRoadsTheSame_18 (by decide) rfl ?_
          refine tw_aload_n 1 dX5_areRoadsTheSame_20 rfl rfl ?_
          refine tw_get (v := .ref ca_4) rfl in_9 2 dX5_areRoadsTheSame_21 w_142 rfl (by decide) f2 rfl ?_
          refine tw_astore [(5, .ref ca_4), (4, .ref q41), (0, .ref x), (1, .ref ca_4), (2, .int (nI 4)), (3, .int (nI k29))] dX5_areRoadsTheSame_24 (by decide) rfl ?_
          refine tw_aload 0 dX5_areRoadsTheSame_26 rfl ?_
          refine tw_alen (v := nI 4) 4 rfl dX5_areRoadsTheSame_28 f23 rfl ?_
          refine tw_istore [(6, .int (nI 4)), (5, .ref ca_4), (4, .ref q41), (0, .ref x), (1, .ref ca_4), (2, .int (nI 4)), (3, .int (nI k29))] dX5_areRoadsTheSame_29 (by decide) rfl ?_
          refine tw_iconst (v := 0) dX5_areRoadsTheSame_31 (by decide) ?_
          refine tw_istore [(7, .int 0), (6, .int (nI 4)), (5, .ref ca_4), (4, .ref q41), (0, .ref x), (1, .ref ca_4), (2, .int (nI 4)), (3, .int (nI k29))] dX5_areRoadsTheSame_32 (by decide) rfl ?_
          have L63 : ∀ (r61 k60 : Nat), 4 + 1 ≤ k60 + r61 → k60 ≤ 4 → tw_W d mX5_areRoadsTheSame (tw_qi (fun r h1 => h1 = h ∧ tw_01 r) tw_nx) 34 [(0, .ref x), (1, .ref ca_4), (2, .int (nI 4)), (3, .int (nI k29)), (4, .ref q41), (5, .ref ca_4), (6, .int (nI 4)), (7, .int (nI k60))] [] h 0 0 := by
            intro r61
            induction r61 with
            | zero => intro k60  hk67 hk68; exact absurd hk67 (by omega)
            | succ r61 ih62 =>
              intro k60  hk67 hk68
              refine tw_iload 7 dX5_areRoadsTheSame_34 rfl ?_
              refine tw_iload 6 dX5_areRoadsTheSame_36 rfl ?_
              refine tw_icmp_ge 76 dX5_areRoadsTheSame_38 (by decide) (fun c69 => ?_) (fun c69 => ?_)
              · obtain ⟨v70, ev70⟩ : ∃ y : Int32, y = (nI k29) + 1 := ⟨_, rfl⟩
                refine tw_iinc [(3, .int v70), (0, .ref x), (1, .ref ca_4), (2, .int (nI 4)), (4, .ref q41), (5, .ref ca_4), (6, .int (nI 4)), (7, .int (nI k60))] 3 dX5_areRoadsTheSame_76 rfl (by rw [ev70]; rfl) (by decide) rfl ?_
                refine tw_goto 10 dX5_areRoadsTheSame_79 (by decide) ?_
                have qv70 := tw_nI3 ev70
                rw [qv70]
                refine tw_lv [1, 2, 3, 0] rfl ?_
                exact ih31 (k29 + 1)  (by omega) (by omega)
              · have kl71 := tw_klt (N := 4) c69 hk68 (by decide)
                refine tw_aload 5 dX5_areRoadsTheSame_41 rfl ?_
                refine tw_iload 7 dX5_areRoadsTheSame_43 rfl ?_
                cases k72 : F24 ((nI k60)).toNatClampNeg with
                | none =>
                  refine tw_aald (v := .null) 4 rfl rfl dX5_areRoadsTheSame_45 f23 (vp_in_nI (by omega) (by decide)) (by rw [k72]; rfl) ?_
                  refine tw_astoreN [(8, .null), (0, .ref x), (1, .ref ca_4), (2, .int (nI 4)), (3, .int (nI k29)), (4, .ref q41), (5, .ref ca_4), (6, .int (nI 4)), (7, .int (nI k60))] dX5_areRoadsTheSame_46 (by decide) rfl ?_
                  refine tw_aload 5 dX5_areRoadsTheSame_48 rfl ?_
                  refine tw_ifnull dX5_areRoadsTheSame_50 ?_
                  refine tw_aloadN 0 dX5_areRoadsTheSame_53 rfl ?_
                  refine tw_ifnullN 70 dX5_areRoadsTheSame_55 (by decide) ?_
                  obtain ⟨v74, ev74⟩ : ∃ y : Int32, y = (nI k60) + 1 := ⟨_, rfl⟩
                  refine tw_iinc [(7, .int v74), (8, .null), (0, .ref x), (1, .ref ca_4), (2, .int (nI 4)), (3, .int (nI k29)), (4, .ref q41), (5, .ref ca_4), (6, .int (nI 4))] 8 dX5_areRoadsTheSame_70 rfl (by rw [ev74]; rfl) (by decide) rfl ?_
                  refine tw_goto 34 dX5_areRoadsTheSame_73 (by decide) ?_
                  have qv74 := tw_nI3 ev74
                  rw [qv74]
                  refine tw_lv [2, 3, 4, 5, 6, 7, 8, 0] rfl ?_
                  exact ih62 (k60 + 1)  (by omega) (by omega)
                | some q73 =>
                  have k75 := k25 _ _ k72
                  refine tw_aald (v := .ref q73) 4 rfl rfl dX5_areRoadsTheSame_45 f23 (vp_in_nI (by omega) (by decide)) (by rw [k72]; rfl) ?_
                  refine tw_astore [(8, .ref q73), (0, .ref x), (1, .ref ca_4), (2, .int (nI 4)), (3, .int (nI k29)), (4, .ref q41), (5, .ref ca_4), (6, .int (nI 4)), (7, .int (nI k60))] dX5_areRoadsTheSame_46 (by decide) rfl ?_
                  refine tw_aload 5 dX5_areRoadsTheSame_48 rfl ?_
                  refine tw_ifnull dX5_areRoadsTheSame_50 ?_
                  refine tw_aload 0 dX5_areRoadsTheSame_53 rfl ?_
                  refine tw_ifnull dX5_areRoadsTheSame_55 ?_
                  refine tw_aload 5 dX5_areRoadsTheSame_58 rfl ?_
                  refine tw_aload 0 dX5_areRoadsTheSame_60 rfl ?_
                  refine tw_bi (tw_callS (M := mX5_areRoadsTheSame) (pc := 62) okX5_hasSameRoads dX5_areRoadsTheSame_62 w_223 [.ref q41, .ref q73] [] rfl rfl ⟨by decide, by decide⟩ (Nat.le_of_ble_eq_true rfl) (c_X5_hasSameRoads d g τ h sp0.1 q41 k59 q73 k75) 0 0 (Nat.le_of_ble_eq_true rfl) (Nat.le_of_ble_eq_true rfl)) (fun r78 h77 q76 => ?_) (fun E h1 q => q.elim)
                  obtain ⟨q76e, p79⟩ := q76
                  rw [q76e]
                  refine tw_if_ne 70 dX5_areRoadsTheSame_65 (by decide) (fun c80 => ?_) (fun c80 => ?_)
                  · obtain ⟨v81, ev81⟩ : ∃ y : Int32, y = (nI k60) + 1 := ⟨_, rfl⟩
                    refine tw_iinc [(7, .int v81), (8, .ref q73), (0, .ref x), (1, .ref ca_4), (2, .int (nI 4)), (3, .int (nI k29)), (4, .ref q41), (5, .ref ca_4), (6, .int (nI 4))] 8 dX5_areRoadsTheSame_70 rfl (by rw [ev81]; rfl) (by decide) rfl ?_
                    refine tw_goto 34 dX5_areRoadsTheSame_73 (by decide) ?_
                    have qv81 := tw_nI3 ev81
                    rw [qv81]
                    refine tw_lv [2, 3, 4, 5, 6, 7, 8, 0] rfl ?_
                    exact ih62 (k60 + 1)  (by omega) (by omega)
                  · refine tw_iconst (v := 0) dX5_areRoadsTheSame_68 (by decide) ?_
                    exact tw_zret dX5_areRoadsTheSame_69 rfl rfl (Or.inl ⟨_, rfl, ⟨rfl, (by unfold tw_01; decide)⟩⟩)
          refine tw_lv [4, 5, 6, 7, 3, 2, 1, 0] rfl ?_
          exact L63 (4 + 1) 0  (by omega) (by omega)
  refine tw_lv [3, 2, 1, 0] rfl ?_
  exact L32 (4 + 1) 0  (by omega) (by omega)

set_option maxHeartbeats 4000000 in
set_option maxRecDepth 100000 in
theorem c_X5_isSound (d : tw_D) (g : tw_G) (τ : tw_K) (h : tw_H) (hw : tw_wt d g τ h) (x : Nat) (kx : τ x = 11) : tw_Ct d mX5_isSound 0 0 [.ref x] h (tw_qi (fun r h1 => h1 = h ∧ tw_01 r) tw_nx) := by
  refine tw_of (by decide +kernel) (Nat.le_of_ble_eq_true rfl) ?_
  show tw_W d mX5_isSound _ 0 [(0, .ref x)] [] h 0 0
  have sp0 := tw_sp.rf hw
  refine tw_aload_n 0 dX5_isSound_0 rfl rfl ?_
  refine tw_iconst (v := 0) dX5_isSound_1 (by decide) ?_
  obtain ⟨e1, f2, td_3, ca_4, ha_5, da_6, c1_7, c2_8, c3_9, c4_10, rfl, k11, k12, k13, k14, k15, k16, k17, k18, k19, k20, k21⟩ := sp0.1 x 11 kx (by decide)
  refine tw_bi (tw_callV (M := mX5_isSound) (pc := 2) okX5_isKept dX5_isSound_2 w_181 rfl f2 [.int 0] [] rfl rfl ⟨by decide, by decide⟩ (Nat.le_of_ble_eq_true rfl) (c_X5_isKept d g τ h sp0.1 x kx 0) 0 0 (Nat.le_of_ble_eq_true rfl) (Nat.le_of_ble_eq_true rfl)) (fun r24 h23 q22 => ?_) (fun E h1 q => q.elim)
  obtain ⟨q22e, p25⟩ := q22
  rw [q22e]
  refine tw_if_eq 41 dX5_isSound_5 (by decide) (fun c26 => ?_) (fun c26 => ?_)
  · refine tw_iconst (v := 0) dX5_isSound_41 (by decide) ?_
    exact tw_zret dX5_isSound_42 rfl rfl (Or.inl ⟨_, rfl, ⟨rfl, (by unfold tw_01; decide)⟩⟩)
  · refine tw_aload_n 0 dX5_isSound_8 rfl rfl ?_
    refine tw_iconst (v := 1) dX5_isSound_9 (by decide) ?_
    refine tw_bi (tw_callV (M := mX5_isSound) (pc := 10) okX5_isKept dX5_isSound_10 w_181 rfl f2 [.int 1] [] rfl rfl ⟨by decide, by decide⟩ (Nat.le_of_ble_eq_true rfl) (c_X5_isKept d g τ h sp0.1 x kx 1) 0 0 (Nat.le_of_ble_eq_true rfl) (Nat.le_of_ble_eq_true rfl)) (fun r29 h28 q27 => ?_) (fun E h1 q => q.elim)
    obtain ⟨q27e, p30⟩ := q27
    rw [q27e]
    refine tw_if_eq 41 dX5_isSound_13 (by decide) (fun c31 => ?_) (fun c31 => ?_)
    · refine tw_iconst (v := 0) dX5_isSound_41 (by decide) ?_
      exact tw_zret dX5_isSound_42 rfl rfl (Or.inl ⟨_, rfl, ⟨rfl, (by unfold tw_01; decide)⟩⟩)
    · refine tw_aload_n 0 dX5_isSound_16 rfl rfl ?_
      refine tw_bi (tw_callV (M := mX5_isSound) (pc := 17) okX5_areCountriesSound dX5_isSound_17 w_197 rfl f2 [] [] rfl rfl ⟨by decide, by decide⟩ (Nat.le_of_ble_eq_true rfl) (c_X5_areCountriesSound d g τ h sp0.1 x kx) 0 0 (Nat.le_of_ble_eq_true rfl) (Nat.le_of_ble_eq_true rfl)) (fun r34 h33 q32 => ?_) (fun E h1 q => q.elim)
      obtain ⟨q32e, p35⟩ := q32
      rw [q32e]
      refine tw_if_eq 41 dX5_isSound_20 (by decide) (fun c36 => ?_) (fun c36 => ?_)
      · refine tw_iconst (v := 0) dX5_isSound_41 (by decide) ?_
        exact tw_zret dX5_isSound_42 rfl rfl (Or.inl ⟨_, rfl, ⟨rfl, (by unfold tw_01; decide)⟩⟩)
      · refine tw_aload_n 0 dX5_isSound_23 rfl rfl ?_
        refine tw_bi (tw_callV (M := mX5_isSound) (pc := 24) okX5_areHousesSound dX5_isSound_24 w_210 rfl f2 [] [] rfl rfl ⟨by decide, by decide⟩ (Nat.le_of_ble_eq_true rfl) (c_X5_areHousesSound d g τ h sp0.1 x kx) 0 0 (Nat.le_of_ble_eq_true rfl) (Nat.le_of_ble_eq_true rfl)) (fun r39 h38 q37 => ?_) (fun E h1 q => q.elim)
        obtain ⟨q37e, p40⟩ := q37
        rw [q37e]
        refine tw_if_eq 41 dX5_isSound_27 (by decide) (fun c41 => ?_) (fun c41 => ?_)
        · refine tw_iconst (v := 0) dX5_isSound_41 (by decide) ?_
          exact tw_zret dX5_isSound_42 rfl rfl (Or.inl ⟨_, rfl, ⟨rfl, (by unfold tw_01; decide)⟩⟩)
        · refine tw_aload_n 0 dX5_isSound_30 rfl rfl ?_
          refine tw_bi (tw_callV (M := mX5_isSound) (pc := 31) okX5_areRoadsTheSame dX5_isSound_31 w_219 rfl f2 [] [] rfl rfl ⟨by decide, by decide⟩ (Nat.le_of_ble_eq_true rfl) (c_X5_areRoadsTheSame d g τ h sp0.1 x kx) 0 0 (Nat.le_of_ble_eq_true rfl) (Nat.le_of_ble_eq_true rfl)) (fun r44 h43 q42 => ?_) (fun E h1 q => q.elim)
          obtain ⟨q42e, p45⟩ := q42
          rw [q42e]
          refine tw_if_eq 41 dX5_isSound_34 (by decide) (fun c46 => ?_) (fun c46 => ?_)
          · refine tw_iconst (v := 0) dX5_isSound_41 (by decide) ?_
            exact tw_zret dX5_isSound_42 rfl rfl (Or.inl ⟨_, rfl, ⟨rfl, (by unfold tw_01; decide)⟩⟩)
          · refine tw_iconst (v := 1) dX5_isSound_37 (by decide) ?_
            refine tw_goto 42 dX5_isSound_38 (by decide) ?_
            exact tw_zret dX5_isSound_42 rfl rfl (Or.inl ⟨_, rfl, ⟨rfl, (by unfold tw_01; decide)⟩⟩)

set_option maxHeartbeats 4000000 in
set_option maxRecDepth 100000 in
theorem c_X5_digestWorld (d : tw_D) (g : tw_G) (τ : tw_K) (h : tw_H) (hw : tw_wt d g τ h) (x : Nat) (kx : τ x = 11) (v : Int64) (m : Int32) : tw_Ct d mX5_digestWorld 0 0 [.ref x, .long v, .int m] h (tw_ql (fun r h1 => h1 = h) tw_nx) := by
  refine tw_of (by decide +kernel) (Nat.le_of_ble_eq_true rfl) ?_
  show tw_W d mX5_digestWorld _ 0 [(0, .ref x), (1, .long v), (3, .int m)] [] h 0 0
  have sp0 := tw_sp.rf hw
  refine tw_lload_n 1 dX5_digestWorld_0 rfl rfl ?_
  refine tw_lstore [(4, .long v), (0, .ref x), (1, .long v), (3, .int m)] dX5_digestWorld_1 (by decide) rfl ?_
  refine tw_iconst (v := 0) dX5_digestWorld_3 (by decide) ?_
  refine tw_istore [(6, .int 0), (4, .long v), (0, .ref x), (1, .long v), (3, .int m)] dX5_digestWorld_4 (by decide) rfl ?_
  have L5 : ∀ (r3 k2 : Nat) (x1 : Int64), 6 + 1 ≤ k2 + r3 → k2 ≤ 6 → tw_W d mX5_digestWorld (tw_ql (fun r h1 => h1 = h) tw_nx) 6 [(0, .ref x), (1, .long v), (3, .int m), (4, .long x1), (6, .int (nI k2))] [] h 0 0 := by
    intro r3
    induction r3 with
    | zero => intro k2 x1 hk9 hk10; exact absurd hk9 (by omega)
    | succ r3 ih4 =>
      intro k2 x1 hk9 hk10
      refine tw_iload 4 dX5_digestWorld_6 rfl ?_
      refine tw_bipush (v := 6) dX5_digestWorld_8 (by decide) ?_
      refine tw_icmp_ge 36 dX5_digestWorld_10 (by decide) (fun c11 => ?_) (fun c11 => ?_)
      · refine tw_lload 3 dX5_digestWorld_36 rfl ?_
        exact tw_lret dX5_digestWorld_38 rfl (Or.inl ⟨_, rfl, rfl⟩)
      · have kl12 := tw_klt (N := 6) c11 hk10 (by decide)
        refine tw_lload 3 dX5_digestWorld_13 rfl ?_
        refine tw_ldc2 (v := 31) dX5_digestWorld_15 w_240 ?_
        refine tw_lmul dX5_digestWorld_18 ?_
        refine tw_nml (fun v13 ev13 => ?_)
        refine tw_aload_n 0 dX5_digestWorld_19 rfl rfl ?_
        refine tw_iload_n 2 dX5_digestWorld_20 rfl rfl ?_
        refine tw_iload 4 dX5_digestWorld_21 rfl ?_
        obtain ⟨e14, f15, td_16, ca_17, ha_18, da_19, c1_20, c2_21, c3_22, c4_23, rfl, k24, k25, k26, k27, k28, k29, k30, k31, k32, k33, k34⟩ := sp0.1 x 11 kx (by decide)
        refine tw_bi (tw_callV (M := mX5_digestWorld) (pc := 23) okX5_worldFact dX5_digestWorld_23 w_245 rfl f15 [.int m, .int (nI k2)] [.long v13] rfl rfl ⟨by decide, by decide⟩ (Nat.le_of_ble_eq_true rfl) (c_X5_worldFact d g τ h sp0.1 x kx m (nI k2)) 0 0 (Nat.le_of_ble_eq_true rfl) (Nat.le_of_ble_eq_true rfl)) (fun r37 h36 q35 => ?_) (fun E h1 q => q.elim)
        rw [q35]
        refine tw_i2l dX5_digestWorld_26 ?_
        refine tw_nml (fun v38 ev38 => ?_)
        refine tw_ladd dX5_digestWorld_27 ?_
        refine tw_nml (fun v39 ev39 => ?_)
        refine tw_lstore [(4, .long v39), (0, .ref x), (1, .long v), (3, .int m), (6, .int (nI k2))] dX5_digestWorld_28 (by decide) rfl ?_
        obtain ⟨v40, ev40⟩ : ∃ y : Int32, y = (nI k2) + 1 := ⟨_, rfl⟩
        refine tw_iinc [(6, .int v40), (4, .long v39), (0, .ref x), (1, .long v), (3, .int m)] 4 dX5_digestWorld_30 rfl (by rw [ev40]; rfl) (by decide) rfl ?_
        refine tw_goto 6 dX5_digestWorld_33 (by decide) ?_
        have qv40 := tw_nI3 ev40
        rw [qv40]
        refine tw_lv [2, 3, 4, 1, 0] rfl ?_
        exact ih4 (k2 + 1) v39 (by omega) (by omega)
  refine tw_lv [2, 3, 4, 1, 0] rfl ?_
  exact L5 (6 + 1) 0 v (by omega) (by omega)

set_option maxHeartbeats 4000000 in
set_option maxRecDepth 100000 in
theorem c_X5_digestCountry (d : tw_D) (g : tw_G) (τ : tw_K) (h : tw_H) (hw : tw_wt d g τ h) (x : Nat) (kx : τ x = 11) (v : Int64) (c : Nat) (kc : τ c = 2) : tw_Ct d mX5_digestCountry 0 0 [.ref x, .long v, .ref c] h (tw_ql (fun r h1 => h1 = h) tw_nx) := by
  refine tw_of (by decide +kernel) (Nat.le_of_ble_eq_true rfl) ?_
  show tw_W d mX5_digestCountry _ 0 [(0, .ref x), (1, .long v), (3, .ref c)] [] h 0 0
  have sp0 := tw_sp.rf hw
  refine tw_lload_n 1 dX5_digestCountry_0 rfl rfl ?_
  refine tw_lstore [(4, .long v), (0, .ref x), (1, .long v), (3, .ref c)] dX5_digestCountry_1 (by decide) rfl ?_
  refine tw_iconst (v := 0) dX5_digestCountry_3 (by decide) ?_
  refine tw_istore [(6, .int 0), (4, .long v), (0, .ref x), (1, .long v), (3, .ref c)] dX5_digestCountry_4 (by decide) rfl ?_
  have L5 : ∀ (r3 k2 : Nat) (x1 : Int64), 9 + 1 ≤ k2 + r3 → k2 ≤ 9 → tw_W d mX5_digestCountry (tw_ql (fun r h1 => h1 = h) tw_nx) 6 [(0, .ref x), (1, .long v), (3, .ref c), (4, .long x1), (6, .int (nI k2))] [] h 0 0 := by
    intro r3
    induction r3 with
    | zero => intro k2 x1 hk9 hk10; exact absurd hk9 (by omega)
    | succ r3 ih4 =>
      intro k2 x1 hk9 hk10
      refine tw_iload 4 dX5_digestCountry_6 rfl ?_
      refine tw_bipush (v := 9) dX5_digestCountry_8 (by decide) ?_
      refine tw_icmp_ge 36 dX5_digestCountry_10 (by decide) (fun c11 => ?_) (fun c11 => ?_)
      · refine tw_lload 3 dX5_digestCountry_36 rfl ?_
        refine tw_ldc2 (v := 31) dX5_digestCountry_38 w_240 ?_
        refine tw_lmul dX5_digestCountry_41 ?_
        refine tw_nml (fun v12 ev12 => ?_)
        refine tw_aload_n 2 dX5_digestCountry_42 rfl rfl ?_
        obtain ⟨e13, f14, n_15, r_16, c_17, go_18, so_19, v_20, rd_21, rf_22, t_23, rfl, k24, k25, k26, k27, k28, k29, k30, k31⟩ := sp0.1 c 2 kc (by decide)
        refine tw_getN (v := .ref t_23) rfl in_4 8 dX5_digestCountry_43 w_514 rfl (by decide) f14 rfl ?_
        refine tw_bipush (v := 37) dX5_digestCountry_46 (by decide) ?_
        obtain ⟨e32, f33, m_34, rfl, k35⟩ := sp0.1 t_23 5 k27 (by decide)
        refine tw_bi (tw_callVN (M := mX5_digestCountry) (pc := 48) okX4_fewestFor dX5_digestCountry_48 w_285 rfl f33 [.int 37] [.long v12] rfl rfl ⟨by decide, by decide⟩ (Nat.le_of_ble_eq_true rfl) (c_X4_fewestFor d g τ h sp0.1 t_23 k27 37) 0 0 (Nat.le_of_ble_eq_true rfl) (Nat.le_of_ble_eq_true rfl)) (fun r38 h37 q36 => ?_) (fun E h1 q => q.elim)
        rw [q36]
        refine tw_i2l dX5_digestCountry_51 ?_
        refine tw_nml (fun v39 ev39 => ?_)
        refine tw_ladd dX5_digestCountry_52 ?_
        refine tw_nml (fun v40 ev40 => ?_)
        refine tw_lstore [(4, .long v40), (0, .ref x), (1, .long v), (3, .ref c), (6, .int (nI k2))] dX5_digestCountry_53 (by decide) rfl ?_
        refine tw_lload 0 dX5_digestCountry_55 rfl ?_
        refine tw_ldc2 (v := 31) dX5_digestCountry_57 w_240 ?_
        refine tw_lmul dX5_digestCountry_60 ?_
        refine tw_nml (fun v41 ev41 => ?_)
        refine tw_aload_n 1 dX5_digestCountry_61 rfl rfl ?_
        refine tw_aload_n 3 dX5_digestCountry_62 rfl rfl ?_
        refine tw_iconst (v := 0) dX5_digestCountry_63 (by decide) ?_
        refine tw_sipush (v := 1000) dX5_digestCountry_64 (by decide) ?_
        obtain ⟨e42, f43, td_44, ca_45, ha_46, da_47, c1_48, c2_49, c3_50, c4_51, rfl, k52, k53, k54, k55, k56, k57, k58, k59, k60, k61, k62⟩ := sp0.1 x 11 kx (by decide)
        refine tw_bi (tw_callV (M := mX5_digestCountry) (pc := 67) okX5_bestOver dX5_digestCountry_67 w_292 rfl f43 [.ref c, .int 0, .int 1000] [.long v41] rfl rfl ⟨by decide, by decide⟩ (Nat.le_of_ble_eq_true rfl) (c_X5_bestOver d g τ h sp0.1 x kx c kc 0 1000) 0 0 (Nat.le_of_ble_eq_true rfl) (Nat.le_of_ble_eq_true rfl)) (fun r65 h64 q63 => ?_) (fun E h1 q => q.elim)
        rw [q63]
        refine tw_i2l dX5_digestCountry_70 ?_
        refine tw_nml (fun v66 ev66 => ?_)
        refine tw_ladd dX5_digestCountry_71 ?_
        refine tw_nml (fun v67 ev67 => ?_)
        refine tw_lstore [(4, .long v67), (0, .ref x), (1, .long v), (3, .ref c), (6, .int (nI k2))] dX5_digestCountry_72 (by decide) rfl ?_
        refine tw_lload 0 dX5_digestCountry_74 rfl ?_
        refine tw_ldc2 (v := 31) dX5_digestCountry_76 w_240 ?_
        refine tw_lmul dX5_digestCountry_79 ?_
        refine tw_nml (fun v68 ev68 => ?_)
        refine tw_aload_n 1 dX5_digestCountry_80 rfl rfl ?_
        refine tw_aload_n 3 dX5_digestCountry_81 rfl rfl ?_
        refine tw_iconst (v := 1) dX5_digestCountry_82 (by decide) ?_
        refine tw_sipush (v := 1000) dX5_digestCountry_83 (by decide) ?_
        refine tw_bi (tw_callV (M := mX5_digestCountry) (pc := 86) okX5_bestOver dX5_digestCountry_86 w_292 rfl f43 [.ref c, .int 1, .int 1000] [.long v68] rfl rfl ⟨by decide, by decide⟩ (Nat.le_of_ble_eq_true rfl) (c_X5_bestOver d g τ h sp0.1 x kx c kc 1 1000) 0 0 (Nat.le_of_ble_eq_true rfl) (Nat.le_of_ble_eq_true rfl)) (fun r71 h70 q69 => ?_) (fun E h1 q => q.elim)
        rw [q69]
        refine tw_i2l dX5_digestCountry_89 ?_
        refine tw_nml (fun v72 ev72 => ?_)
        refine tw_ladd dX5_digestCountry_90 ?_
        refine tw_nml (fun v73 ev73 => ?_)
        refine tw_lstore [(4, .long v73), (0, .ref x), (1, .long v), (3, .ref c), (6, .int (nI k2))] dX5_digestCountry_91 (by decide) rfl ?_
        refine tw_lload 0 dX5_digestCountry_93 rfl ?_
        refine tw_ldc2 (v := 31) dX5_digestCountry_95 w_240 ?_
        refine tw_lmul dX5_digestCountry_98 ?_
        refine tw_nml (fun v74 ev74 => ?_)
        refine tw_aload_n 1 dX5_digestCountry_99 rfl rfl ?_
        refine tw_aload_n 3 dX5_digestCountry_100 rfl rfl ?_
        refine tw_getN (v := .ref v_20) rfl in_4 3 dX5_digestCountry_101 w_508 rfl (by decide) f14 rfl ?_
        refine tw_iconst (v := 0) dX5_digestCountry_104 (by decide) ?_
        refine tw_bipush (v := 10) dX5_digestCountry_105 (by decide) ?_
        refine tw_bi (tw_callV (M := mX5_digestCountry) (pc := 107) okX5_firstDayShort dX5_digestCountry_107 w_321 rfl f43 [.ref v_20, .int 0, .int 10] [.long v74] rfl rfl ⟨by decide, by decide⟩ (Nat.le_of_ble_eq_true rfl) (c_X5_firstDayShort d g τ h sp0.1 x kx v_20 k24 0 10) 0 0 (Nat.le_of_ble_eq_true rfl) (Nat.le_of_ble_eq_true rfl)) (fun r77 h76 q75 => ?_) (fun E h1 q => q.elim)
        rw [q75]
        refine tw_i2l dX5_digestCountry_110 ?_
        refine tw_nml (fun v78 ev78 => ?_)
        refine tw_ladd dX5_digestCountry_111 ?_
        refine tw_nml (fun v79 ev79 => ?_)
        refine tw_lstore [(4, .long v79), (0, .ref x), (1, .long v), (3, .ref c), (6, .int (nI k2))] dX5_digestCountry_112 (by decide) rfl ?_
        refine tw_lload 0 dX5_digestCountry_114 rfl ?_
        refine tw_ldc2 (v := 31) dX5_digestCountry_116 w_240 ?_
        refine tw_lmul dX5_digestCountry_119 ?_
        refine tw_nml (fun v80 ev80 => ?_)
        refine tw_aload_n 1 dX5_digestCountry_120 rfl rfl ?_
        refine tw_aload_n 3 dX5_digestCountry_121 rfl rfl ?_
        refine tw_getN (v := .ref v_20) rfl in_4 3 dX5_digestCountry_122 w_508 rfl (by decide) f14 rfl ?_
        refine tw_iconst (v := 1) dX5_digestCountry_125 (by decide) ?_
        refine tw_bipush (v := 10) dX5_digestCountry_126 (by decide) ?_
        refine tw_bi (tw_callV (M := mX5_digestCountry) (pc := 128) okX5_firstDayShort dX5_digestCountry_128 w_321 rfl f43 [.ref v_20, .int 1, .int 10] [.long v80] rfl rfl ⟨by decide, by decide⟩ (Nat.le_of_ble_eq_true rfl) (c_X5_firstDayShort d g τ h sp0.1 x kx v_20 k24 1 10) 0 0 (Nat.le_of_ble_eq_true rfl) (Nat.le_of_ble_eq_true rfl)) (fun r83 h82 q81 => ?_) (fun E h1 q => q.elim)
        rw [q81]
        refine tw_i2l dX5_digestCountry_131 ?_
        refine tw_nml (fun v84 ev84 => ?_)
        refine tw_ladd dX5_digestCountry_132 ?_
        refine tw_nml (fun v85 ev85 => ?_)
        refine tw_lstore [(4, .long v85), (0, .ref x), (1, .long v), (3, .ref c), (6, .int (nI k2))] dX5_digestCountry_133 (by decide) rfl ?_
        refine tw_lload 0 dX5_digestCountry_135 rfl ?_
        exact tw_lret dX5_digestCountry_137 rfl (Or.inl ⟨_, rfl, rfl⟩)
      · have kl86 := tw_klt (N := 9) c11 hk10 (by decide)
        refine tw_lload 3 dX5_digestCountry_13 rfl ?_
        refine tw_ldc2 (v := 31) dX5_digestCountry_15 w_240 ?_
        refine tw_lmul dX5_digestCountry_18 ?_
        refine tw_nml (fun v87 ev87 => ?_)
        refine tw_aload_n 0 dX5_digestCountry_19 rfl rfl ?_
        refine tw_aload_n 2 dX5_digestCountry_20 rfl rfl ?_
        refine tw_iload 4 dX5_digestCountry_21 rfl ?_
        obtain ⟨e88, f89, td_90, ca_91, ha_92, da_93, c1_94, c2_95, c3_96, c4_97, rfl, k98, k99, k100, k101, k102, k103, k104, k105, k106, k107, k108⟩ := sp0.1 x 11 kx (by decide)
        refine tw_bi (tw_callV (M := mX5_digestCountry) (pc := 23) okX5_countryFact dX5_digestCountry_23 w_253 rfl f89 [.ref c, .int (nI k2)] [.long v87] rfl rfl ⟨by decide, by decide⟩ (Nat.le_of_ble_eq_true rfl) (c_X5_countryFact d g τ h sp0.1 x kx c kc (nI k2)) 0 0 (Nat.le_of_ble_eq_true rfl) (Nat.le_of_ble_eq_true rfl)) (fun r111 h110 q109 => ?_) (fun E h1 q => q.elim)
        rw [q109]
        refine tw_i2l dX5_digestCountry_26 ?_
        refine tw_nml (fun v112 ev112 => ?_)
        refine tw_ladd dX5_digestCountry_27 ?_
        refine tw_nml (fun v113 ev113 => ?_)
        refine tw_lstore [(4, .long v113), (0, .ref x), (1, .long v), (3, .ref c), (6, .int (nI k2))] dX5_digestCountry_28 (by decide) rfl ?_
        obtain ⟨v114, ev114⟩ : ∃ y : Int32, y = (nI k2) + 1 := ⟨_, rfl⟩
        refine tw_iinc [(6, .int v114), (4, .long v113), (0, .ref x), (1, .long v), (3, .ref c)] 4 dX5_digestCountry_30 rfl (by rw [ev114]; rfl) (by decide) rfl ?_
        refine tw_goto 6 dX5_digestCountry_33 (by decide) ?_
        have qv114 := tw_nI3 ev114
        rw [qv114]
        refine tw_lv [2, 3, 4, 1, 0] rfl ?_
        exact ih4 (k2 + 1) v113 (by omega) (by omega)
  refine tw_lv [2, 3, 4, 1, 0] rfl ?_
  exact L5 (9 + 1) 0 v (by omega) (by omega)

set_option maxHeartbeats 4000000 in
set_option maxRecDepth 100000 in
theorem c_X5_digestHouse (d : tw_D) (g : tw_G) (τ : tw_K) (h : tw_H) (hw : tw_wt d g τ h) (x : Nat) (kx : τ x = 11) (v : Int64) (c : Nat) (kc : τ c = 3) : tw_Ct d mX5_digestHouse 0 0 [.ref x, .long v, .ref c] h (tw_ql (fun r h1 => h1 = h) tw_nx) := by
  refine tw_of (by decide +kernel) (Nat.le_of_ble_eq_true rfl) ?_
  show tw_W d mX5_digestHouse _ 0 [(0, .ref x), (1, .long v), (3, .ref c)] [] h 0 0
  have sp0 := tw_sp.rf hw
  refine tw_lload_n 1 dX5_digestHouse_0 rfl rfl ?_
  refine tw_lstore [(4, .long v), (0, .ref x), (1, .long v), (3, .ref c)] dX5_digestHouse_1 (by decide) rfl ?_
  refine tw_iconst (v := 0) dX5_digestHouse_3 (by decide) ?_
  refine tw_istore [(6, .int 0), (4, .long v), (0, .ref x), (1, .long v), (3, .ref c)] dX5_digestHouse_4 (by decide) rfl ?_
  have L5 : ∀ (r3 k2 : Nat) (x1 : Int64), 8 + 1 ≤ k2 + r3 → k2 ≤ 8 → tw_W d mX5_digestHouse (tw_ql (fun r h1 => h1 = h) tw_nx) 6 [(0, .ref x), (1, .long v), (3, .ref c), (4, .long x1), (6, .int (nI k2))] [] h 0 0 := by
    intro r3
    induction r3 with
    | zero => intro k2 x1 hk9 hk10; exact absurd hk9 (by omega)
    | succ r3 ih4 =>
      intro k2 x1 hk9 hk10
      refine tw_iload 4 dX5_digestHouse_6 rfl ?_
      refine tw_bipush (v := 8) dX5_digestHouse_8 (by decide) ?_
      refine tw_icmp_ge 36 dX5_digestHouse_10 (by decide) (fun c11 => ?_) (fun c11 => ?_)
      · refine tw_lload 3 dX5_digestHouse_36 rfl ?_
        exact tw_lret dX5_digestHouse_38 rfl (Or.inl ⟨_, rfl, rfl⟩)
      · have kl12 := tw_klt (N := 8) c11 hk10 (by decide)
        refine tw_lload 3 dX5_digestHouse_13 rfl ?_
        refine tw_ldc2 (v := 31) dX5_digestHouse_15 w_240 ?_
        refine tw_lmul dX5_digestHouse_18 ?_
        refine tw_nml (fun v13 ev13 => ?_)
        refine tw_aload_n 0 dX5_digestHouse_19 rfl rfl ?_
        refine tw_aload_n 2 dX5_digestHouse_20 rfl rfl ?_
        refine tw_iload 4 dX5_digestHouse_21 rfl ?_
        obtain ⟨e14, f15, td_16, ca_17, ha_18, da_19, c1_20, c2_21, c3_22, c4_23, rfl, k24, k25, k26, k27, k28, k29, k30, k31, k32, k33, k34⟩ := sp0.1 x 11 kx (by decide)
        refine tw_bi (tw_callV (M := mX5_digestHouse) (pc := 23) okX5_houseFact dX5_digestHouse_23 w_332 rfl f15 [.ref c, .int (nI k2)] [.long v13] rfl rfl ⟨by decide, by decide⟩ (Nat.le_of_ble_eq_true rfl) (c_X5_houseFact d g τ h sp0.1 x kx c kc (nI k2)) 0 0 (Nat.le_of_ble_eq_true rfl) (Nat.le_of_ble_eq_true rfl)) (fun r37 h36 q35 => ?_) (fun E h1 q => q.elim)
        rw [q35]
        refine tw_i2l dX5_digestHouse_26 ?_
        refine tw_nml (fun v38 ev38 => ?_)
        refine tw_ladd dX5_digestHouse_27 ?_
        refine tw_nml (fun v39 ev39 => ?_)
        refine tw_lstore [(4, .long v39), (0, .ref x), (1, .long v), (3, .ref c), (6, .int (nI k2))] dX5_digestHouse_28 (by decide) rfl ?_
        obtain ⟨v40, ev40⟩ : ∃ y : Int32, y = (nI k2) + 1 := ⟨_, rfl⟩
        refine tw_iinc [(6, .int v40), (4, .long v39), (0, .ref x), (1, .long v), (3, .ref c)] 4 dX5_digestHouse_30 rfl (by rw [ev40]; rfl) (by decide) rfl ?_
        refine tw_goto 6 dX5_digestHouse_33 (by decide) ?_
        have qv40 := tw_nI3 ev40
        rw [qv40]
        refine tw_lv [2, 3, 4, 1, 0] rfl ?_
        exact ih4 (k2 + 1) v39 (by omega) (by omega)
  refine tw_lv [2, 3, 4, 1, 0] rfl ?_
  exact L5 (8 + 1) 0 v (by omega) (by omega)

set_option maxHeartbeats 4000000 in
set_option maxRecDepth 100000 in
theorem c_X5_digestDebt (d : tw_D) (g : tw_G) (τ : tw_K) (h : tw_H) (hw : tw_wt d g τ h) (x : Nat) (kx : τ x = 11) (v : Int64) (c : Nat) (kc : τ c = 4) : tw_Ct d mX5_digestDebt 0 0 [.ref x, .long v, .ref c] h (tw_ql (fun r h1 => h1 = h) tw_nx) := by
  refine tw_of (by decide +kernel) (Nat.le_of_ble_eq_true rfl) ?_
  show tw_W d mX5_digestDebt _ 0 [(0, .ref x), (1, .long v), (3, .ref c)] [] h 0 0
  have sp0 := tw_sp.rf hw
  refine tw_lload_n 1 dX5_digestDebt_0 rfl rfl ?_
  refine tw_lstore [(4, .long v), (0, .ref x), (1, .long v), (3, .ref c)] dX5_digestDebt_1 (by decide) rfl ?_
  refine tw_iconst (v := 4) dX5_digestDebt_3 (by decide) ?_
  refine tw_istore [(6, .int 4), (4, .long v), (0, .ref x), (1, .long v), (3, .ref c)] dX5_digestDebt_4 (by decide) rfl ?_
  have L5 : ∀ (r3 : Nat) (x1 : Int64) (x2 : Int32), ((7 : Int32).toInt - x2.toInt).toNat < r3 → tw_W d mX5_digestDebt (tw_ql (fun r h1 => h1 = h) tw_nx) 6 [(0, .ref x), (1, .long v), (3, .ref c), (4, .long x1), (6, .int x2)] [] h 0 0 := by
    intro r3
    induction r3 with
    | zero => intro x1 x2 hk9; exact absurd hk9 (Nat.not_lt_zero _)
    | succ r3 ih4 =>
      intro x1 x2 hk9
      refine tw_iload 4 dX5_digestDebt_6 rfl ?_
      refine tw_bipush (v := 7) dX5_digestDebt_8 (by decide) ?_
      refine tw_icmp_ge 36 dX5_digestDebt_10 (by decide) (fun c11 => ?_) (fun c11 => ?_)
      · refine tw_lload 3 dX5_digestDebt_36 rfl ?_
        exact tw_lret dX5_digestDebt_38 rfl (Or.inl ⟨_, rfl, rfl⟩)
      · refine tw_lload 3 dX5_digestDebt_13 rfl ?_
        refine tw_ldc2 (v := 31) dX5_digestDebt_15 w_240 ?_
        refine tw_lmul dX5_digestDebt_18 ?_
        refine tw_nml (fun v12 ev12 => ?_)
        refine tw_aload_n 0 dX5_digestDebt_19 rfl rfl ?_
        refine tw_aload_n 2 dX5_digestDebt_20 rfl rfl ?_
        refine tw_iload 4 dX5_digestDebt_21 rfl ?_
        obtain ⟨e13, f14, td_15, ca_16, ha_17, da_18, c1_19, c2_20, c3_21, c4_22, rfl, k23, k24, k25, k26, k27, k28, k29, k30, k31, k32, k33⟩ := sp0.1 x 11 kx (by decide)
        refine tw_bi (tw_callV (M := mX5_digestDebt) (pc := 23) okX5_debtFact dX5_digestDebt_23 w_351 rfl f14 [.ref c, .int x2] [.long v12] rfl rfl ⟨by decide, by decide⟩ (Nat.le_of_ble_eq_true rfl) (c_X5_debtFact d g τ h sp0.1 x kx c kc x2) 0 0 (Nat.le_of_ble_eq_true rfl) (Nat.le_of_ble_eq_true rfl)) (fun r36 h35 q34 => ?_) (fun E h1 q => q.elim)
        rw [q34]
        refine tw_i2l dX5_digestDebt_26 ?_
        refine tw_nml (fun v37 ev37 => ?_)
        refine tw_ladd dX5_digestDebt_27 ?_
        refine tw_nml (fun v38 ev38 => ?_)
        refine tw_lstore [(4, .long v38), (0, .ref x), (1, .long v), (3, .ref c), (6, .int x2)] dX5_digestDebt_28 (by decide) rfl ?_
        obtain ⟨v39, ev39⟩ : ∃ y : Int32, y = x2 + 1 := ⟨_, rfl⟩
        refine tw_iinc [(6, .int v39), (4, .long v38), (0, .ref x), (1, .long v), (3, .ref c)] 4 dX5_digestDebt_30 rfl (by rw [ev39]; rfl) (by decide) rfl ?_
        refine tw_goto 6 dX5_digestDebt_33 (by decide) ?_
        refine tw_lv [2, 3, 4, 1, 0] rfl ?_
        exact ih4 v38 v39 (tw_mup ev39 c11 hk9)
  refine tw_lv [2, 3, 4, 1, 0] rfl ?_
  exact L5 _ v 4 (Nat.lt_succ_self _)

set_option maxHeartbeats 4000000 in
set_option maxRecDepth 100000 in
theorem c_X5_digest (d : tw_D) (g : tw_G) (τ : tw_K) (h : tw_H) (hw : tw_wt d g τ h) (x : Nat) (kx : τ x = 11) : tw_Ct d mX5_digest 0 0 [.ref x] h (tw_ql (fun r h1 => h1 = h) tw_nx) := by
  refine tw_of (by decide +kernel) (Nat.le_of_ble_eq_true rfl) ?_
  show tw_W d mX5_digest _ 0 [(0, .ref x)] [] h 0 0
  have sp0 := tw_sp.rf hw
  refine tw_ldc2 (v := 5573) dX5_digest_0 w_239 ?_
  refine tw_lstore_n [(1, .long 5573), (0, .ref x)] dX5_digest_3 rfl (by decide) rfl ?_
  refine tw_lload_n 0 dX5_digest_4 rfl rfl ?_
  refine tw_ldc2 (v := 31) dX5_digest_5 w_240 ?_
  refine tw_lmul dX5_digest_8 ?_
  refine tw_nml (fun v1 ev1 => ?_)
  refine tw_aload_n 1 dX5_digest_9 rfl rfl ?_
  obtain ⟨e2, f3, td_4, ca_5, ha_6, da_7, c1_8, c2_9, c3_10, c4_11, rfl, k12, k13, k14, k15, k16, k17, k18, k19, k20, k21, k22⟩ := sp0.1 x 11 kx (by decide)
  refine tw_get (v := .int td_4) rfl in_9 0 dX5_digest_10 w_140 rfl (by decide) f3 rfl ?_
  refine tw_i2l dX5_digest_13 ?_
  refine tw_nml (fun v23 ev23 => ?_)
  refine tw_ladd dX5_digest_14 ?_
  refine tw_nml (fun v24 ev24 => ?_)
  refine tw_lstore_n [(1, .long v24), (0, .ref x)] dX5_digest_15 rfl (by decide) rfl ?_
  refine tw_lload_n 0 dX5_digest_16 rfl rfl ?_
  refine tw_ldc2 (v := 31) dX5_digest_17 w_240 ?_
  refine tw_lmul dX5_digest_20 ?_
  refine tw_nml (fun v25 ev25 => ?_)
  refine tw_aload_n 1 dX5_digest_21 rfl rfl ?_
  refine tw_get (v := .int (g.1 0)) rfl in_9 1 dX5_digest_22 w_141 rfl (by decide) f3 rfl ?_
  refine tw_i2l dX5_digest_25 ?_
  refine tw_nml (fun v26 ev26 => ?_)
  refine tw_ladd dX5_digest_26 ?_
  refine tw_nml (fun v27 ev27 => ?_)
  refine tw_lstore_n [(1, .long v27), (0, .ref x)] dX5_digest_27 rfl (by decide) rfl ?_
  refine tw_aload_n 1 dX5_digest_28 rfl rfl ?_
  refine tw_lload_n 0 dX5_digest_29 rfl rfl ?_
  refine tw_iconst (v := 0) dX5_digest_30 (by decide) ?_
  refine tw_bl (tw_callV (M := mX5_digest) (pc := 31) okX5_digestWorld dX5_digest_31 w_241 rfl f3 [.long v27, .int 0] [] rfl rfl ⟨by decide, by decide⟩ (Nat.le_of_ble_eq_true rfl) (c_X5_digestWorld d g τ h sp0.1 x kx v27 0) 0 0 (Nat.le_of_ble_eq_true rfl) (Nat.le_of_ble_eq_true rfl)) (fun r30 h29 q28 => ?_) (fun E h1 q => q.elim)
  rw [q28]
  refine tw_lstore_n [(1, .long r30), (0, .ref x)] dX5_digest_34 rfl (by decide) rfl ?_
  refine tw_aload_n 1 dX5_digest_35 rfl rfl ?_
  refine tw_lload_n 0 dX5_digest_36 rfl rfl ?_
  refine tw_iconst (v := 1) dX5_digest_37 (by decide) ?_
  refine tw_bl (tw_callV (M := mX5_digest) (pc := 38) okX5_digestWorld dX5_digest_38 w_241 rfl f3 [.long r30, .int 1] [] rfl rfl ⟨by decide, by decide⟩ (Nat.le_of_ble_eq_true rfl) (c_X5_digestWorld d g τ h sp0.1 x kx r30 1) 0 0 (Nat.le_of_ble_eq_true rfl) (Nat.le_of_ble_eq_true rfl)) (fun r33 h32 q31 => ?_) (fun E h1 q => q.elim)
  rw [q31]
  refine tw_lstore_n [(1, .long r33), (0, .ref x)] dX5_digest_41 rfl (by decide) rfl ?_
  refine tw_aload_n 1 dX5_digest_42 rfl rfl ?_
  refine tw_get (v := .ref ca_5) rfl in_9 2 dX5_digest_43 w_142 rfl (by decide) f3 rfl ?_
  refine tw_astore_n [(3, .ref ca_5), (1, .long r33), (0, .ref x)] dX5_digest_46 rfl (by decide) rfl ?_
  refine tw_aload_n 0 dX5_digest_47 rfl rfl ?_
  obtain ⟨e34, f35, F36, rfl, k37, pn38, pb39, px40⟩ := sp0.1 ca_5 8 k12 (by decide)
  refine tw_alen (v := nI 4) 4 rfl dX5_digest_48 f35 rfl ?_
  refine tw_istore [(4, .int (nI 4)), (3, .ref ca_5), (1, .long r33), (0, .ref x)] dX5_digest_49 (by decide) rfl ?_
  refine tw_iconst (v := 0) dX5_digest_51 (by decide) ?_
  refine tw_istore [(5, .int 0), (4, .int (nI 4)), (3, .ref ca_5), (1, .long r33), (0, .ref x)] dX5_digest_52 (by decide) rfl ?_
  have L45 : ∀ (r43 k42 : Nat) (x41 : Int64), 4 + 1 ≤ k42 + r43 → k42 ≤ 4 → tw_W d mX5_digest (tw_ql (fun r h1 => h1 = h) tw_nx) 54 [(0, .ref x), (1, .long x41), (3, .ref ca_5), (4, .int (nI 4)), (5, .int (nI k42))] [] h 0 0 := by
    intro r43
    induction r43 with
    | zero => intro k42 x41 hk49 hk50; exact absurd hk49 (by omega)
    | succ r43 ih44 =>
      intro k42 x41 hk49 hk50
      refine tw_iload 4 dX5_digest_54 rfl ?_
      refine tw_iload 3 dX5_digest_56 rfl ?_
      refine tw_icmp_ge 86 dX5_digest_58 (by decide) (fun c51 => ?_) (fun c51 => ?_)
      · refine tw_aload_n 0 dX5_digest_86 rfl rfl ?_
        refine tw_get (v := .ref ha_6) rfl in_9 4 dX5_digest_87 w_144 rfl (by decide) f3 rfl ?_
        refine tw_astore_n [(3, .ref ha_6), (0, .ref x), (1, .long x41), (4, .int (nI 4)), (5, .int (nI k42))] dX5_digest_90 rfl (by decide) rfl ?_
        refine tw_aload_n 0 dX5_digest_91 rfl rfl ?_
        obtain ⟨e52, f53, F54, rfl, k55, pn56, pb57, px58⟩ := sp0.1 ha_6 9 k13 (by decide)
        refine tw_alen (v := nI 6) 5 rfl dX5_digest_92 f53 rfl ?_
        refine tw_istore [(4, .int (nI 6)), (3, .ref ha_6), (0, .ref x), (1, .long x41), (5, .int (nI k42))] dX5_digest_93 (by decide) rfl ?_
        refine tw_iconst (v := 0) dX5_digest_95 (by decide) ?_
        refine tw_istore [(5, .int 0), (4, .int (nI 6)), (3, .ref ha_6), (0, .ref x), (1, .long x41)] dX5_digest_96 (by decide) rfl ?_
        have L63 : ∀ (r61 k60 : Nat) (x59 : Int64), 6 + 1 ≤ k60 + r61 → k60 ≤ 6 → tw_W d mX5_digest (tw_ql (fun r h1 => h1 = h) tw_nx) 98 [(0, .ref x), (1, .long x59), (3, .ref ha_6), (4, .int (nI 6)), (5, .int (nI k60))] [] h 0 0 := by
          intro r61
          induction r61 with
          | zero => intro k60 x59 hk67 hk68; exact absurd hk67 (by omega)
          | succ r61 ih62 =>
            intro k60 x59 hk67 hk68
            refine tw_iload 4 dX5_digest_98 rfl ?_
            refine tw_iload 3 dX5_digest_100 rfl ?_
            refine tw_icmp_ge 130 dX5_digest_102 (by decide) (fun c69 => ?_) (fun c69 => ?_)
            · refine tw_aload_n 0 dX5_digest_130 rfl rfl ?_
              refine tw_get (v := .ref da_7) rfl in_9 6 dX5_digest_131 w_146 rfl (by decide) f3 rfl ?_
              refine tw_astore_n [(3, .ref da_7), (0, .ref x), (1, .long x59), (4, .int (nI 6)), (5, .int (nI k60))] dX5_digest_134 rfl (by decide) rfl ?_
              refine tw_aload_n 0 dX5_digest_135 rfl rfl ?_
              obtain ⟨e70, f71, F72, rfl, k73, pn74, pb75, px76⟩ := sp0.1 da_7 10 k14 (by decide)
              refine tw_alen (v := nI 10) 6 rfl dX5_digest_136 f71 rfl ?_
              refine tw_istore [(4, .int (nI 10)), (3, .ref da_7), (0, .ref x), (1, .long x59), (5, .int (nI k60))] dX5_digest_137 (by decide) rfl ?_
              refine tw_iconst (v := 0) dX5_digest_139 (by decide) ?_
              refine tw_istore [(5, .int 0), (4, .int (nI 10)), (3, .ref da_7), (0, .ref x), (1, .long x59)] dX5_digest_140 (by decide) rfl ?_
              have L81 : ∀ (r79 k78 : Nat) (x77 : Int64), 10 + 1 ≤ k78 + r79 → k78 ≤ 10 → tw_W d mX5_digest (tw_ql (fun r h1 => h1 = h) tw_nx) 142 [(0, .ref x), (1, .long x77), (3, .ref da_7), (4, .int (nI 10)), (5, .int (nI k78))] [] h 0 0 := by
                intro r79
                induction r79 with
                | zero => intro k78 x77 hk85 hk86; exact absurd hk85 (by omega)
                | succ r79 ih80 =>
                  intro k78 x77 hk85 hk86
                  refine tw_iload 4 dX5_digest_142 rfl ?_
                  refine tw_iload 3 dX5_digest_144 rfl ?_
                  refine tw_icmp_ge 174 dX5_digest_146 (by decide) (fun c87 => ?_) (fun c87 => ?_)
                  · refine tw_lload_n 1 dX5_digest_174 rfl rfl ?_
                    refine tw_ldc2 (v := 31) dX5_digest_175 w_240 ?_
                    refine tw_lmul dX5_digest_178 ?_
                    refine tw_nml (fun v88 ev88 => ?_)
                    refine tw_aload_n 0 dX5_digest_179 rfl rfl ?_
                    refine tw_sipush (v := 1000) dX5_digest_180 (by decide) ?_
                    refine tw_bi (tw_callV (M := mX5_digest) (pc := 183) okX5_isRest dX5_digest_183 w_369 rfl f3 [.int 1000] [.long v88] rfl rfl ⟨by decide, by decide⟩ (Nat.le_of_ble_eq_true rfl) (c_X5_isRest d g τ h sp0.1 x kx 1000) 0 0 (Nat.le_of_ble_eq_true rfl) (Nat.le_of_ble_eq_true rfl)) (fun r91 h90 q89 => ?_) (fun E h1 q => q.elim)
                    obtain ⟨q89e, p92⟩ := q89
                    rw [q89e]
                    refine tw_if_eq 193 dX5_digest_186 (by decide) (fun c93 => ?_) (fun c93 => ?_)
                    · refine tw_iconst (v := 0) dX5_digest_193 (by decide) ?_
                      refine tw_i2l dX5_digest_194 ?_
                      refine tw_nml (fun v94 ev94 => ?_)
                      refine tw_ladd dX5_digest_195 ?_
                      refine tw_nml (fun v95 ev95 => ?_)
                      refine tw_lstore_n [(1, .long v95), (0, .ref x), (3, .ref da_7), (4, .int (nI 10)), (5, .int (nI k78))] dX5_digest_196 rfl (by decide) rfl ?_
                      refine tw_lload_n 0 dX5_digest_197 rfl rfl ?_
                      refine tw_ldc2 (v := 31) dX5_digest_198 w_240 ?_
                      refine tw_lmul dX5_digest_201 ?_
                      refine tw_nml (fun v96 ev96 => ?_)
                      refine tw_aload_n 1 dX5_digest_202 rfl rfl ?_
                      refine tw_bi (tw_callV (M := mX5_digest) (pc := 203) okX5_isSound dX5_digest_203 w_373 rfl f3 [] [.long v96] rfl rfl ⟨by decide, by decide⟩ (Nat.le_of_ble_eq_true rfl) (c_X5_isSound d g τ h sp0.1 x kx) 0 0 (Nat.le_of_ble_eq_true rfl) (Nat.le_of_ble_eq_true rfl)) (fun r99 h98 q97 => ?_) (fun E h1 q => q.elim)
                      obtain ⟨q97e, p100⟩ := q97
                      rw [q97e]
                      refine tw_if_eq 213 dX5_digest_206 (by decide) (fun c101 => ?_) (fun c101 => ?_)
                      · refine tw_iconst (v := 0) dX5_digest_213 (by decide) ?_
                        refine tw_i2l dX5_digest_214 ?_
                        refine tw_nml (fun v102 ev102 => ?_)
                        refine tw_ladd dX5_digest_215 ?_
                        refine tw_nml (fun v103 ev103 => ?_)
                        refine tw_lstore_n [(1, .long v103), (0, .ref x), (3, .ref da_7), (4, .int (nI 10)), (5, .int (nI k78))] dX5_digest_216 rfl (by decide) rfl ?_
                        refine tw_lload_n 0 dX5_digest_217 rfl rfl ?_
                        exact tw_lret dX5_digest_218 rfl (Or.inl ⟨_, rfl, rfl⟩)
                      · refine tw_iconst (v := 1) dX5_digest_209 (by decide) ?_
                        refine tw_goto 214 dX5_digest_210 (by decide) ?_
                        refine tw_i2l dX5_digest_214 ?_
                        refine tw_nml (fun v104 ev104 => ?_)
                        refine tw_ladd dX5_digest_215 ?_
                        refine tw_nml (fun v105 ev105 => ?_)
                        refine tw_lstore_n [(1, .long v105), (0, .ref x), (3, .ref da_7), (4, .int (nI 10)), (5, .int (nI k78))] dX5_digest_216 rfl (by decide) rfl ?_
                        refine tw_lload_n 0 dX5_digest_217 rfl rfl ?_
                        exact tw_lret dX5_digest_218 rfl (Or.inl ⟨_, rfl, rfl⟩)
                    · refine tw_iconst (v := 1) dX5_digest_189 (by decide) ?_
                      refine tw_goto 194 dX5_digest_190 (by decide) ?_
                      refine tw_i2l dX5_digest_194 ?_
                      refine tw_nml (fun v106 ev106 => ?_)
                      refine tw_ladd dX5_digest_195 ?_
                      refine tw_nml (fun v107 ev107 => ?_)
                      refine tw_lstore_n [(1, .long v107), (0, .ref x), (3, .ref da_7), (4, .int (nI 10)), (5, .int (nI k78))] dX5_digest_196 rfl (by decide) rfl ?_
                      refine tw_lload_n 0 dX5_digest_197 rfl rfl ?_
                      refine tw_ldc2 (v := 31) dX5_digest_198 w_240 ?_
                      refine tw_lmul dX5_digest_201 ?_
                      refine tw_nml (fun v108 ev108 => ?_)
                      refine tw_aload_n 1 dX5_digest_202 rfl rfl ?_
                      refine tw_bi (tw_callV (M := mX5_digest) (pc := 203) okX5_isSound dX5_digest_203 w_373 rfl f3 [] [.long v108] rfl rfl ⟨by decide, by decide⟩ (Nat.le_of_ble_eq_true rfl) (c_X5_isSound d g τ h sp0.1 x kx) 0 0 (Nat.le_of_ble_eq_true rfl) (Nat.le_of_ble_eq_true rfl)) (fun r111 h110 q109 => ?_) (fun E h1 q => q.elim)
                      obtain ⟨q109e, p112⟩ := q109
                      rw [q109e]
                      refine tw_if_eq 213 dX5_digest_206 (by decide) (fun c113 => ?_) (fun c113 => ?_)
                      · refine tw_iconst (v := 0) dX5_digest_213 (by decide) ?_
                        refine tw_i2l dX5_digest_214 ?_
                        refine tw_nml (fun v114 ev114 => ?_)
                        refine tw_ladd dX5_digest_215 ?_
                        refine tw_nml (fun v115 ev115 => ?_)
                        refine tw_lstore_n [(1, .long v115), (0, .ref x), (3, .ref da_7), (4, .int (nI 10)), (5, .int (nI k78))] dX5_digest_216 rfl (by decide) rfl ?_
                        refine tw_lload_n 0 dX5_digest_217 rfl rfl ?_
                        exact tw_lret dX5_digest_218 rfl (Or.inl ⟨_, rfl, rfl⟩)
                      · refine tw_iconst (v := 1) dX5_digest_209 (by decide) ?_
                        refine tw_goto 214 dX5_digest_210 (by decide) ?_
                        refine tw_i2l dX5_digest_214 ?_
                        refine tw_nml (fun v116 ev116 => ?_)
                        refine tw_ladd dX5_digest_215 ?_
                        refine tw_nml (fun v117 ev117 => ?_)
                        refine tw_lstore_n [(1, .long v117), (0, .ref x), (3, .ref da_7), (4, .int (nI 10)), (5, .int (nI k78))] dX5_digest_216 rfl (by decide) rfl ?_
                        refine tw_lload_n 0 dX5_digest_217 rfl rfl ?_
                        exact tw_lret dX5_digest_218 rfl (Or.inl ⟨_, rfl, rfl⟩)
                  · have kl118 := tw_klt (N := 10) c87 hk86 (by decide)
                    refine tw_aload_n 2 dX5_digest_149 rfl rfl ?_
                    refine tw_iload 4 dX5_digest_150 rfl ?_
                    cases k119 : F72 ((nI k78)).toNatClampNeg with
                    | none =>
                      refine tw_aald (v := .null) 6 rfl rfl dX5_digest_152 f71 (vp_in_nI (by omega) (by decide)) (by rw [k119]; rfl) ?_
                      refine tw_astoreN [(6, .null), (0, .ref x), (1, .long x77), (3, .ref da_7), (4, .int (nI 10)), (5, .int (nI k78))] dX5_digest_153 (by decide) rfl ?_
                      refine tw_aloadN 0 dX5_digest_155 rfl ?_
                      refine tw_ifnullN 168 dX5_digest_157 (by decide) ?_
                      obtain ⟨v121, ev121⟩ : ∃ y : Int32, y = (nI k78) + 1 := ⟨_, rfl⟩
                      refine tw_iinc [(5, .int v121), (6, .null), (0, .ref x), (1, .long x77), (3, .ref da_7), (4, .int (nI 10))] 5 dX5_digest_168 rfl (by rw [ev121]; rfl) (by decide) rfl ?_
                      refine tw_goto 142 dX5_digest_171 (by decide) ?_
                      have qv121 := tw_nI3 ev121
                      rw [qv121]
                      refine tw_lv [2, 3, 4, 5, 0] rfl ?_
                      exact ih80 (k78 + 1) x77 (by omega) (by omega)
                    | some q120 =>
                      have k122 := k73 _ _ k119
                      refine tw_aald (v := .ref q120) 6 rfl rfl dX5_digest_152 f71 (vp_in_nI (by omega) (by decide)) (by rw [k119]; rfl) ?_
                      refine tw_astore [(6, .ref q120), (0, .ref x), (1, .long x77), (3, .ref da_7), (4, .int (nI 10)), (5, .int (nI k78))] dX5_digest_153 (by decide) rfl ?_
                      refine tw_aload 0 dX5_digest_155 rfl ?_
                      refine tw_ifnull dX5_digest_157 ?_
                      refine tw_aload_n 1 dX5_digest_160 rfl rfl ?_
                      refine tw_lload_n 2 dX5_digest_161 rfl rfl ?_
                      refine tw_aload 0 dX5_digest_162 rfl ?_
                      refine tw_bl (tw_callV (M := mX5_digest) (pc := 164) okX5_digestDebt dX5_digest_164 w_347 rfl f3 [.long x77, .ref q120] [] rfl rfl ⟨by decide, by decide⟩ (Nat.le_of_ble_eq_true rfl) (c_X5_digestDebt d g τ h sp0.1 x kx x77 q120 k122) 0 0 (Nat.le_of_ble_eq_true rfl) (Nat.le_of_ble_eq_true rfl)) (fun r125 h124 q123 => ?_) (fun E h1 q => q.elim)
                      rw [q123]
                      refine tw_lstore_n [(1, .long r125), (6, .ref q120), (0, .ref x), (3, .ref da_7), (4, .int (nI 10)), (5, .int (nI k78))] dX5_digest_167 rfl (by decide) rfl ?_
                      obtain ⟨v126, ev126⟩ : ∃ y : Int32, y = (nI k78) + 1 := ⟨_, rfl⟩
                      refine tw_iinc [(5, .int v126), (1, .long r125), (6, .ref q120), (0, .ref x), (3, .ref da_7), (4, .int (nI 10))] 5 dX5_digest_168 rfl (by rw [ev126]; rfl) (by decide) rfl ?_
                      refine tw_goto 142 dX5_digest_171 (by decide) ?_
                      have qv126 := tw_nI3 ev126
                      rw [qv126]
                      refine tw_lv [3, 1, 4, 5, 0] rfl ?_
                      exact ih80 (k78 + 1) r125 (by omega) (by omega)
              refine tw_lv [3, 4, 2, 1, 0] rfl ?_
              exact L81 (10 + 1) 0 x59 (by omega) (by omega)
            · have kl127 := tw_klt (N := 6) c69 hk68 (by decide)
              refine tw_aload_n 2 dX5_digest_105 rfl rfl ?_
              refine tw_iload 4 dX5_digest_106 rfl ?_
              cases k128 : F54 ((nI k60)).toNatClampNeg with
              | none =>
                refine tw_aald (v := .null) 5 rfl rfl dX5_digest_108 f53 (vp_in_nI (by omega) (by decide)) (by rw [k128]; rfl) ?_
                refine tw_astoreN [(6, .null), (0, .ref x), (1, .long x59), (3, .ref ha_6), (4, .int (nI 6)), (5, .int (nI k60))] dX5_digest_109 (by decide) rfl ?_
                refine tw_aloadN 0 dX5_digest_111 rfl ?_
                refine tw_ifnullN 124 dX5_digest_113 (by decide) ?_
                obtain ⟨v130, ev130⟩ : ∃ y : Int32, y = (nI k60) + 1 := ⟨_, rfl⟩
                refine tw_iinc [(5, .int v130), (6, .null), (0, .ref x), (1, .long x59), (3, .ref ha_6), (4, .int (nI 6))] 5 dX5_digest_124 rfl (by rw [ev130]; rfl) (by decide) rfl ?_
                refine tw_goto 98 dX5_digest_127 (by decide) ?_
                have qv130 := tw_nI3 ev130
                rw [qv130]
                refine tw_lv [2, 3, 4, 5, 0] rfl ?_
                exact ih62 (k60 + 1) x59 (by omega) (by omega)
              | some q129 =>
                have k131 := k55 _ _ k128
                refine tw_aald (v := .ref q129) 5 rfl rfl dX5_digest_108 f53 (vp_in_nI (by omega) (by decide)) (by rw [k128]; rfl) ?_
                refine tw_astore [(6, .ref q129), (0, .ref x), (1, .long x59), (3, .ref ha_6), (4, .int (nI 6)), (5, .int (nI k60))] dX5_digest_109 (by decide) rfl ?_
                refine tw_aload 0 dX5_digest_111 rfl ?_
                refine tw_ifnull dX5_digest_113 ?_
                refine tw_aload_n 1 dX5_digest_116 rfl rfl ?_
                refine tw_lload_n 2 dX5_digest_117 rfl rfl ?_
                refine tw_aload 0 dX5_digest_118 rfl ?_
                refine tw_bl (tw_callV (M := mX5_digest) (pc := 120) okX5_digestHouse dX5_digest_120 w_328 rfl f3 [.long x59, .ref q129] [] rfl rfl ⟨by decide, by decide⟩ (Nat.le_of_ble_eq_true rfl) (c_X5_digestHouse d g τ h sp0.1 x kx x59 q129 k131) 0 0 (Nat.le_of_ble_eq_true rfl) (Nat.le_of_ble_eq_true rfl)) (fun r134 h133 q132 => ?_) (fun E h1 q => q.elim)
                rw [q132]
                refine tw_lstore_n [(1, .long r134), (6, .ref q129), (0, .ref x), (3, .ref ha_6), (4, .int (nI 6)), (5, .int (nI k60))] dX5_digest_123 rfl (by decide) rfl ?_
                obtain ⟨v135, ev135⟩ : ∃ y : Int32, y = (nI k60) + 1 := ⟨_, rfl⟩
                refine tw_iinc [(5, .int v135), (1, .long r134), (6, .ref q129), (0, .ref x), (3, .ref ha_6), (4, .int (nI 6))] 5 dX5_digest_124 rfl (by rw [ev135]; rfl) (by decide) rfl ?_
                refine tw_goto 98 dX5_digest_127 (by decide) ?_
                have qv135 := tw_nI3 ev135
                rw [qv135]
                refine tw_lv [3, 1, 4, 5, 0] rfl ?_
                exact ih62 (k60 + 1) r134 (by omega) (by omega)
        refine tw_lv [3, 4, 2, 1, 0] rfl ?_
        exact L63 (6 + 1) 0 x41 (by omega) (by omega)
      · have kl136 := tw_klt (N := 4) c51 hk50 (by decide)
        refine tw_aload_n 2 dX5_digest_61 rfl rfl ?_
        refine tw_iload 4 dX5_digest_62 rfl ?_
        cases k137 : F36 ((nI k42)).toNatClampNeg with
        | none =>
          refine tw_aald (v := .null) 4 rfl rfl dX5_digest_64 f35 (vp_in_nI (by omega) (by decide)) (by rw [k137]; rfl) ?_
          refine tw_astoreN [(6, .null), (0, .ref x), (1, .long x41), (3, .ref ca_5), (4, .int (nI 4)), (5, .int (nI k42))] dX5_digest_65 (by decide) rfl ?_
          refine tw_aloadN 0 dX5_digest_67 rfl ?_
          refine tw_ifnullN 80 dX5_digest_69 (by decide) ?_
          obtain ⟨v139, ev139⟩ : ∃ y : Int32, y = (nI k42) + 1 := ⟨_, rfl⟩
          refine tw_iinc [(5, .int v139), (6, .null), (0, .ref x), (1, .long x41), (3, .ref ca_5), (4, .int (nI 4))] 5 dX5_digest_80 rfl (by rw [ev139]; rfl) (by decide) rfl ?_
          refine tw_goto 54 dX5_digest_83 (by decide) ?_
          have qv139 := tw_nI3 ev139
          rw [qv139]
          refine tw_lv [2, 3, 4, 5, 0] rfl ?_
          exact ih44 (k42 + 1) x41 (by omega) (by omega)
        | some q138 =>
          have k140 := k37 _ _ k137
          refine tw_aald (v := .ref q138) 4 rfl rfl dX5_digest_64 f35 (vp_in_nI (by omega) (by decide)) (by rw [k137]; rfl) ?_
          refine tw_astore [(6, .ref q138), (0, .ref x), (1, .long x41), (3, .ref ca_5), (4, .int (nI 4)), (5, .int (nI k42))] dX5_digest_65 (by decide) rfl ?_
          refine tw_aload 0 dX5_digest_67 rfl ?_
          refine tw_ifnull dX5_digest_69 ?_
          refine tw_aload_n 1 dX5_digest_72 rfl rfl ?_
          refine tw_lload_n 2 dX5_digest_73 rfl rfl ?_
          refine tw_aload 0 dX5_digest_74 rfl ?_
          refine tw_bl (tw_callV (M := mX5_digest) (pc := 76) okX5_digestCountry dX5_digest_76 w_249 rfl f3 [.long x41, .ref q138] [] rfl rfl ⟨by decide, by decide⟩ (Nat.le_of_ble_eq_true rfl) (c_X5_digestCountry d g τ h sp0.1 x kx x41 q138 k140) 0 0 (Nat.le_of_ble_eq_true rfl) (Nat.le_of_ble_eq_true rfl)) (fun r143 h142 q141 => ?_) (fun E h1 q => q.elim)
          rw [q141]
          refine tw_lstore_n [(1, .long r143), (6, .ref q138), (0, .ref x), (3, .ref ca_5), (4, .int (nI 4)), (5, .int (nI k42))] dX5_digest_79 rfl (by decide) rfl ?_
          obtain ⟨v144, ev144⟩ : ∃ y : Int32, y = (nI k42) + 1 := ⟨_, rfl⟩
          refine tw_iinc [(5, .int v144), (1, .long r143), (6, .ref q138), (0, .ref x), (3, .ref ca_5), (4, .int (nI 4))] 5 dX5_digest_80 rfl (by rw [ev144]; rfl) (by decide) rfl ?_
          refine tw_goto 54 dX5_digest_83 (by decide) ?_
          have qv144 := tw_nI3 ev144
          rw [qv144]
          refine tw_lv [3, 1, 4, 5, 0] rfl ?_
          exact ih44 (k42 + 1) r143 (by omega) (by omega)
  refine tw_lv [4, 3, 2, 1, 0] rfl ?_
  exact L45 (4 + 1) 0 r33 (by omega) (by omega)

set_option maxHeartbeats 4000000 in
set_option maxRecDepth 100000 in
theorem c_X5_coins (d : tw_D) (g : tw_G) (τ : tw_K) (h : tw_H) (hw : tw_wt d g τ h) (x : Nat) (kx : τ x = 11) (n : Int32) (am : Int32) : tw_Ct d mX5_coins 20 120 [.ref x, .int n, .int am] h (tw_qi (fun r h1 => h1 = h) (fun E h1 => (E = tw_IOE ∨ E = tw_IAE) ∧ h1 = h)) := by
  refine tw_of (by decide +kernel) (Nat.le_of_ble_eq_true rfl) ?_
  show tw_W d mX5_coins _ 0 [(0, .ref x), (1, .int n), (2, .int am)] [] h 20 120
  have sp0 := tw_sp.rf hw
  refine tw_aload_n 0 dX5_coins_0 rfl rfl ?_
  refine tw_iload_n 1 dX5_coins_1 rfl rfl ?_
  obtain ⟨e1, f2, td_3, ca_4, ha_5, da_6, c1_7, c2_8, c3_9, c4_10, rfl, k11, k12, k13, k14, k15, k16, k17, k18, k19, k20, k21⟩ := sp0.1 x 11 kx (by decide)
  refine tw_br (tw_callV (M := mX5_coins) (pc := 2) okX5_countryAt dX5_coins_2 w_546 rfl f2 [.int n] [] rfl rfl ⟨by decide, by decide⟩ (Nat.le_of_ble_eq_true rfl) (c_X5_countryAt d g τ h sp0.1 x kx n) 19 114 (Nat.le_of_ble_eq_true rfl) (Nat.le_of_ble_eq_true rfl)) (fun r24 h23 q22 => ?_) (fun E h1 q => Or.inr ⟨E, rfl, (Or.inl q.1), q.2⟩)
  obtain ⟨q22e, p25⟩ := q22
  rw [q22e]
  obtain ⟨e26, f27, n_28, r_29, c_30, go_31, so_32, v_33, rd_34, rf_35, t_36, rfl, k37, k38, k39, k40, k41, k42, k43, k44⟩ := sp0.1 r24 2 p25 (by decide)
  refine tw_getN (v := .ref t_36) rfl in_4 8 dX5_coins_5 w_514 rfl (by decide) f27 rfl ?_
  refine tw_astore_n [(3, .ref t_36), (0, .ref x), (1, .int n), (2, .int am)] dX5_coins_8 rfl (by decide) rfl ?_
  refine tw_iload_n 3 dX5_coins_9 rfl rfl ?_
  refine tw_iconst (v := 1) dX5_coins_10 (by decide) ?_
  refine tw_sipush (v := 400) dX5_coins_11 (by decide) ?_
  refine tw_bv (tw_callS (M := mX5_coins) (pc := 14) okX5_needRange dX5_coins_14 w_399 [.int am, .int 1, .int 400] [] rfl rfl ⟨by decide, by decide⟩ (Nat.le_of_ble_eq_true rfl) (c_X5_needRange d g τ h sp0.1 am 1 400) 18 108 (Nat.le_of_ble_eq_true rfl) (Nat.le_of_ble_eq_true rfl)) (fun h46 q45 => ?_) (fun E h1 q => Or.inr ⟨E, rfl, (Or.inr (q.1)), q.2⟩)
  obtain ⟨q45e, p48⟩ := q45
  rw [q45e]
  refine tw_aload_n 0 dX5_coins_17 rfl rfl ?_
  refine tw_iload_n 3 dX5_coins_18 rfl rfl ?_
  obtain ⟨e49, f50, m_51, rfl, k52⟩ := sp0.1 t_36 5 k40 (by decide)
  refine tw_bi (tw_callVN (M := mX5_coins) (pc := 19) okX4_fewestFor dX5_coins_19 w_285 rfl f50 [.int am] [] rfl rfl ⟨by decide, by decide⟩ (Nat.le_of_ble_eq_true rfl) (c_X4_fewestFor d g τ h sp0.1 t_36 k40 am) 18 108 (Nat.le_of_ble_eq_true rfl) (Nat.le_of_ble_eq_true rfl)) (fun r55 h54 q53 => ?_) (fun E h1 q => q.elim)
  rw [q53]
  exact tw_iret dX5_coins_22 rfl (Or.inl ⟨_, rfl, rfl⟩)

set_option maxHeartbeats 4000000 in
set_option maxRecDepth 100000 in
theorem c_X5_give (d : tw_D) (g : tw_G) (τ : tw_K) (h : tw_H) (hw : tw_wt d g τ h) (x : Nat) (kx : τ x = 11) (n : Int32) (am : Int32) : tw_Ct d mX5_give 20 120 [.ref x, .int n, .int am] h (tw_qi (fun r h1 => tw_sp d τ h g τ h1) (fun E h1 => (E = tw_IOE ∨ E = tw_IAE ∨ E = tw_ISE) ∧ ∃ τ1, tw_sp d τ h g τ1 h1)) := by
  refine tw_of (by decide +kernel) (Nat.le_of_ble_eq_true rfl) ?_
  show tw_W d mX5_give _ 0 [(0, .ref x), (1, .int n), (2, .int am)] [] h 20 120
  have sp0 := tw_sp.rf hw
  refine tw_aload_n 0 dX5_give_0 rfl rfl ?_
  refine tw_iload_n 1 dX5_give_1 rfl rfl ?_
  obtain ⟨e1, f2, td_3, ca_4, ha_5, da_6, c1_7, c2_8, c3_9, c4_10, rfl, k11, k12, k13, k14, k15, k16, k17, k18, k19, k20, k21⟩ := sp0.1 x 11 kx (by decide)
  refine tw_br (tw_callV (M := mX5_give) (pc := 2) okX5_countryAt dX5_give_2 w_546 rfl f2 [.int n] [] rfl rfl ⟨by decide, by decide⟩ (Nat.le_of_ble_eq_true rfl) (c_X5_countryAt d g τ h sp0.1 x kx n) 19 114 (Nat.le_of_ble_eq_true rfl) (Nat.le_of_ble_eq_true rfl)) (fun r24 h23 q22 => ?_) (fun E h1 q => Or.inr ⟨E, rfl, (Or.inl q.1), ⟨τ, by rw [q.2]; exact sp0⟩⟩)
  obtain ⟨q22e, p25⟩ := q22
  rw [q22e]
  obtain ⟨e26, f27, n_28, r_29, c_30, go_31, so_32, v_33, rd_34, rf_35, t_36, rfl, k37, k38, k39, k40, k41, k42, k43, k44⟩ := sp0.1 r24 2 p25 (by decide)
  refine tw_getN (v := .ref t_36) rfl in_4 8 dX5_give_5 w_514 rfl (by decide) f27 rfl ?_
  refine tw_astore_n [(3, .ref t_36), (0, .ref x), (1, .int n), (2, .int am)] dX5_give_8 rfl (by decide) rfl ?_
  refine tw_iload_n 3 dX5_give_9 rfl rfl ?_
  refine tw_iconst (v := 1) dX5_give_10 (by decide) ?_
  refine tw_sipush (v := 400) dX5_give_11 (by decide) ?_
  refine tw_bv (tw_callS (M := mX5_give) (pc := 14) okX5_needRange dX5_give_14 w_399 [.int am, .int 1, .int 400] [] rfl rfl ⟨by decide, by decide⟩ (Nat.le_of_ble_eq_true rfl) (c_X5_needRange d g τ h sp0.1 am 1 400) 18 108 (Nat.le_of_ble_eq_true rfl) (Nat.le_of_ble_eq_true rfl)) (fun h46 q45 => ?_) (fun E h1 q => Or.inr ⟨E, rfl, (Or.inr (Or.inl q.1)), ⟨τ, by rw [q.2]; exact sp0⟩⟩)
  obtain ⟨q45e, p48⟩ := q45
  rw [q45e]
  refine tw_aload_n 0 dX5_give_17 rfl rfl ?_
  refine tw_iload_n 3 dX5_give_18 rfl rfl ?_
  obtain ⟨e49, f50, m_51, rfl, k52⟩ := sp0.1 t_36 5 k40 (by decide)
  refine tw_bi (tw_callVN (M := mX5_give) (pc := 19) okX4_fewestFor dX5_give_19 w_285 rfl f50 [.int am] [] rfl rfl ⟨by decide, by decide⟩ (Nat.le_of_ble_eq_true rfl) (c_X4_fewestFor d g τ h sp0.1 t_36 k40 am) 18 108 (Nat.le_of_ble_eq_true rfl) (Nat.le_of_ble_eq_true rfl)) (fun r55 h54 q53 => ?_) (fun E h1 q => q.elim)
  rw [q53]
  refine tw_istore [(4, .int r55), (3, .ref t_36), (0, .ref x), (1, .int n), (2, .int am)] dX5_give_22 (by decide) rfl ?_
  refine tw_iload 0 dX5_give_24 rfl ?_
  refine tw_iconst (v := -1) dX5_give_26 (by decide) ?_
  refine tw_icmp_ne 40 dX5_give_27 (by decide) (fun c56 => ?_) (fun c56 => ?_)
  · refine tw_aload_n 1 dX5_give_40 rfl rfl ?_
    refine tw_iload 0 dX5_give_41 rfl ?_
    refine tw_bi (tw_callVN (M := mX5_give) (pc := 43) okX4_takeOut dX5_give_43 w_775 rfl f50 [.int r55] [] rfl rfl ⟨by decide, by decide⟩ (Nat.le_of_ble_eq_true rfl) (c_X4_takeOut d g τ h sp0.1 t_36 k40 r55) 18 108 (Nat.le_of_ble_eq_true rfl) (Nat.le_of_ble_eq_true rfl)) (fun r59 h58 q57 => ?_) (fun E h1 q => q.elim)
    have q57s := q57
    have sp60 := sp0.tr q57s
    exact tw_iret dX5_give_46 rfl (Or.inl ⟨_, rfl, sp60⟩)
  · exact tw_throwS (i := 18) (by decide +kernel) w_471 w_88 rfl at_ISE dX5_give_30 dX5_give_33 dX5_give_34 dX5_give_36 dX5_give_39 ⟨by decide, Nat.le_of_ble_eq_true rfl⟩ (Nat.le_of_ble_eq_true rfl) (Nat.le_of_ble_eq_true rfl) (Or.inr ⟨_, rfl, (Or.inr (Or.inr (rfl))), _, sp0⟩)

set_option maxHeartbeats 4000000 in
set_option maxRecDepth 100000 in
theorem c_X5_till (d : tw_D) (g : tw_G) (τ : tw_K) (h : tw_H) (hw : tw_wt d g τ h) (x : Nat) (kx : τ x = 11) (n : Int32) (k : Int32) (many : Int32) : tw_Ct d mX5_till 20 120 [.ref x, .int n, .int k, .int many] h (tw_qi (fun r h1 => tw_sp d τ h g τ h1) (fun E h1 => (E = tw_IOE ∨ E = tw_IAE) ∧ ∃ τ1, tw_sp d τ h g τ1 h1)) := by
  refine tw_of (by decide +kernel) (Nat.le_of_ble_eq_true rfl) ?_
  show tw_W d mX5_till _ 0 [(0, .ref x), (1, .int n), (2, .int k), (3, .int many)] [] h 20 120
  have sp0 := tw_sp.rf hw
  refine tw_aload_n 0 dX5_till_0 rfl rfl ?_
  refine tw_iload_n 1 dX5_till_1 rfl rfl ?_
  obtain ⟨e1, f2, td_3, ca_4, ha_5, da_6, c1_7, c2_8, c3_9, c4_10, rfl, k11, k12, k13, k14, k15, k16, k17, k18, k19, k20, k21⟩ := sp0.1 x 11 kx (by decide)
  refine tw_br (tw_callV (M := mX5_till) (pc := 2) okX5_countryAt dX5_till_2 w_546 rfl f2 [.int n] [] rfl rfl ⟨by decide, by decide⟩ (Nat.le_of_ble_eq_true rfl) (c_X5_countryAt d g τ h sp0.1 x kx n) 19 114 (Nat.le_of_ble_eq_true rfl) (Nat.le_of_ble_eq_true rfl)) (fun r24 h23 q22 => ?_) (fun E h1 q => Or.inr ⟨E, rfl, (Or.inl q.1), ⟨τ, by rw [q.2]; exact sp0⟩⟩)
  obtain ⟨q22e, p25⟩ := q22
  rw [q22e]
  obtain ⟨e26, f27, n_28, r_29, c_30, go_31, so_32, v_33, rd_34, rf_35, t_36, rfl, k37, k38, k39, k40, k41, k42, k43, k44⟩ := sp0.1 r24 2 p25 (by decide)
  refine tw_getN (v := .ref t_36) rfl in_4 8 dX5_till_5 w_514 rfl (by decide) f27 rfl ?_
  refine tw_astore [(4, .ref t_36), (0, .ref x), (1, .int n), (2, .int k), (3, .int many)] dX5_till_8 (by decide) rfl ?_
  refine tw_iload_n 3 dX5_till_10 rfl rfl ?_
  refine tw_if_lt 19 dX5_till_11 (by decide) (fun c45 => ?_) (fun c45 => ?_)
  · exact tw_throwS (i := 17) (by decide +kernel) w_550 w_96 rfl at_IOE dX5_till_19 dX5_till_22 dX5_till_23 dX5_till_25 dX5_till_28 ⟨by decide, Nat.le_of_ble_eq_true rfl⟩ (Nat.le_of_ble_eq_true rfl) (Nat.le_of_ble_eq_true rfl) (Or.inr ⟨_, rfl, (Or.inl rfl), _, sp0⟩)
  · refine tw_iload_n 3 dX5_till_14 rfl rfl ?_
    refine tw_iconst (v := 5) dX5_till_15 (by decide) ?_
    refine tw_icmp_lt 29 dX5_till_16 (by decide) (fun c46 => ?_) (fun c46 => ?_)
    · refine tw_iload_n 4 dX5_till_29 rfl rfl ?_
      refine tw_iconst (v := 0) dX5_till_30 (by decide) ?_
      refine tw_bipush (v := 9) dX5_till_31 (by decide) ?_
      refine tw_bv (tw_callS (M := mX5_till) (pc := 33) okX5_needRange dX5_till_33 w_399 [.int many, .int 0, .int 9] [] rfl rfl ⟨by decide, by decide⟩ (Nat.le_of_ble_eq_true rfl) (c_X5_needRange d g τ h sp0.1 many 0 9) 18 108 (Nat.le_of_ble_eq_true rfl) (Nat.le_of_ble_eq_true rfl)) (fun h48 q47 => ?_) (fun E h1 q => Or.inr ⟨E, rfl, (Or.inr (q.1)), ⟨τ, by rw [q.2]; exact sp0⟩⟩)
      obtain ⟨q47e, p50⟩ := q47
      rw [q47e]
      refine tw_aload 0 dX5_till_36 rfl ?_
      refine tw_iload_n 3 dX5_till_38 rfl rfl ?_
      obtain ⟨e51, f52, m_53, rfl, k54⟩ := sp0.1 t_36 5 k40 (by decide)
      refine tw_bi (tw_callVN (M := mX5_till) (pc := 39) okX4_manyOf dX5_till_39 w_762 rfl f52 [.int k] [] rfl rfl ⟨by decide, by decide⟩ (Nat.le_of_ble_eq_true rfl) (c_X4_manyOf d g τ h sp0.1 t_36 k40 k) 18 108 (Nat.le_of_ble_eq_true rfl) (Nat.le_of_ble_eq_true rfl)) (fun r57 h56 q55 => ?_) (fun E h1 q => q.elim)
      rw [q55]
      refine tw_istore [(5, .int r57), (4, .ref t_36), (0, .ref x), (1, .int n), (2, .int k), (3, .int many)] dX5_till_42 (by decide) rfl ?_
      refine tw_aload 1 dX5_till_44 rfl ?_
      refine tw_iload_n 4 dX5_till_46 rfl rfl ?_
      refine tw_iload_n 5 dX5_till_47 rfl rfl ?_
      refine tw_bv (tw_callVN (M := mX5_till) (pc := 48) okX4_setMany dX5_till_48 w_763 rfl f52 [.int k, .int many] [] rfl rfl ⟨by decide, by decide⟩ (Nat.le_of_ble_eq_true rfl) (c_X4_setMany d g τ h sp0.1 t_36 k40 k many) 18 108 (Nat.le_of_ble_eq_true rfl) (Nat.le_of_ble_eq_true rfl)) (fun h59 q58 => ?_) (fun E h1 q => q.elim)
      have q58s := q58
      have sp61 := sp0.tr q58s
      refine tw_iload 0 dX5_till_51 rfl ?_
      exact tw_iret dX5_till_53 rfl (Or.inl ⟨_, rfl, sp61⟩)
    · exact tw_throwS (i := 17) (by decide +kernel) w_550 w_96 rfl at_IOE dX5_till_19 dX5_till_22 dX5_till_23 dX5_till_25 dX5_till_28 ⟨by decide, Nat.le_of_ble_eq_true rfl⟩ (Nat.le_of_ble_eq_true rfl) (Nat.le_of_ble_eq_true rfl) (Or.inr ⟨_, rfl, (Or.inl rfl), _, sp0⟩)

set_option maxHeartbeats 4000000 in
set_option maxRecDepth 100000 in
theorem c_X5_law (d : tw_D) (g : tw_G) (τ : tw_K) (h : tw_H) (hw : tw_wt d g τ h) (x : Nat) (kx : τ x = 11) (n : Int32) (rt : Int32) (ct : Int32) : tw_Ct d mX5_law 20 120 [.ref x, .int n, .int rt, .int ct] h (tw_qi (fun r h1 => tw_sp d τ h g τ h1) (fun E h1 => (E = tw_IOE ∨ E = tw_IAE) ∧ ∃ τ1, tw_sp d τ h g τ1 h1)) := by
  refine tw_of (by decide +kernel) (Nat.le_of_ble_eq_true rfl) ?_
  show tw_W d mX5_law _ 0 [(0, .ref x), (1, .int n), (2, .int rt), (3, .int ct)] [] h 20 120
  have sp0 := tw_sp.rf hw
  refine tw_aload_n 0 dX5_law_0 rfl rfl ?_
  refine tw_iload_n 1 dX5_law_1 rfl rfl ?_
  obtain ⟨e1, f2, td_3, ca_4, ha_5, da_6, c1_7, c2_8, c3_9, c4_10, rfl, k11, k12, k13, k14, k15, k16, k17, k18, k19, k20, k21⟩ := sp0.1 x 11 kx (by decide)
  refine tw_br (tw_callV (M := mX5_law) (pc := 2) okX5_countryAt dX5_law_2 w_546 rfl f2 [.int n] [] rfl rfl ⟨by decide, by decide⟩ (Nat.le_of_ble_eq_true rfl) (c_X5_countryAt d g τ h sp0.1 x kx n) 19 114 (Nat.le_of_ble_eq_true rfl) (Nat.le_of_ble_eq_true rfl)) (fun r24 h23 q22 => ?_) (fun E h1 q => Or.inr ⟨E, rfl, (Or.inl q.1), ⟨τ, by rw [q.2]; exact sp0⟩⟩)
  obtain ⟨q22e, p25⟩ := q22
  rw [q22e]
  refine tw_astore [(4, .ref r24), (0, .ref x), (1, .int n), (2, .int rt), (3, .int ct)] dX5_law_5 (by decide) rfl ?_
  refine tw_iload_n 3 dX5_law_7 rfl rfl ?_
  refine tw_iload_n 4 dX5_law_8 rfl rfl ?_
  refine tw_bv (tw_callS (M := mX5_law) (pc := 9) okX5_needLaw dX5_law_9 w_396 [.int rt, .int ct] [] rfl rfl ⟨by decide, by decide⟩ (Nat.le_of_ble_eq_true rfl) (c_X5_needLaw d g τ h sp0.1 rt ct) 17 102 (Nat.le_of_ble_eq_true rfl) (Nat.le_of_ble_eq_true rfl)) (fun h27 q26 => ?_) (fun E h1 q => Or.inr ⟨E, rfl, (Or.inr (q.1)), ⟨τ, by rw [q.2]; exact sp0⟩⟩)
  obtain ⟨q26e, p29⟩ := q26
  rw [q26e]
  refine tw_aload 0 dX5_law_12 rfl ?_
  obtain ⟨e30, f31, n_32, r_33, c_34, go_35, so_36, v_37, rd_38, rf_39, t_40, rfl, k41, k42, k43, k44, k45, k46, k47, k48⟩ := sp0.1 r24 2 p25 (by decide)
  refine tw_getN (v := .int r_33) rfl in_4 1 dX5_law_14 w_504 rfl (by decide) f31 rfl ?_
  refine tw_istore [(5, .int r_33), (4, .ref r24), (0, .ref x), (1, .int n), (2, .int rt), (3, .int ct)] dX5_law_17 (by decide) rfl ?_
  refine tw_aload 1 dX5_law_19 rfl ?_
  refine tw_iload_n 4 dX5_law_21 rfl rfl ?_
  refine tw_putN rfl in_4 tyX0 tyX0_ok nmX0 1 dX5_law_22 w_504 rfl (by decide) f31 rfl rfl rfl rfl (Nat.le_of_ble_eq_true rfl) [.int n_32, .int rt, .int c_34, .ref v_37, .int go_35, .int so_36, .ref rd_38, .ref rf_39, .ref t_40] rfl ?_
  obtain ⟨h49, eh49⟩ : ∃ z : tw_H, z = tw_up h r24 (.inr (4, [.int n_32, .int rt, .int c_34, .ref v_37, .int go_35, .int so_36, .ref rd_38, .ref rf_39, .ref t_40])) := ⟨_, rfl⟩
  rw [← eh49]
  have sp50 : tw_sp d τ h g τ h49 := by rw [eh49]; exact sp0.set p25 (by decide) ⟨n_32, rt, c_34, go_35, so_36, v_37, rd_38, rf_39, t_40, rfl, k41, k42, k43, k44, k45, k46, p29.1, p29.2⟩
  have f51 : h49 r24 = some (.inr (4, [.int n_32, .int rt, .int c_34, .ref v_37, .int go_35, .int so_36, .ref rd_38, .ref rf_39, .ref t_40])) := by rw [eh49]; exact tw_up_s
  refine tw_aload 1 dX5_law_25 rfl ?_
  refine tw_iload_n 5 dX5_law_27 rfl rfl ?_
  refine tw_putN rfl in_4 tyX0 tyX0_ok nmX0 2 dX5_law_28 w_506 rfl (by decide) f51 rfl rfl rfl rfl (Nat.le_of_ble_eq_true rfl) [.int n_32, .int rt, .int ct, .ref v_37, .int go_35, .int so_36, .ref rd_38, .ref rf_39, .ref t_40] rfl ?_
  obtain ⟨h52, eh52⟩ : ∃ z : tw_H, z = tw_up h49 r24 (.inr (4, [.int n_32, .int rt, .int ct, .ref v_37, .int go_35, .int so_36, .ref rd_38, .ref rf_39, .ref t_40])) := ⟨_, rfl⟩
  rw [← eh52]
  have sp53 : tw_sp d τ h g τ h52 := by rw [eh52]; exact sp50.set p25 (by decide) ⟨n_32, rt, ct, go_35, so_36, v_37, rd_38, rf_39, t_40, rfl, k41, k42, k43, k44, k45, k46, p29.1, p29.2⟩
  have f54 : h52 r24 = some (.inr (4, [.int n_32, .int rt, .int ct, .ref v_37, .int go_35, .int so_36, .ref rd_38, .ref rf_39, .ref t_40])) := by rw [eh52]; exact tw_up_s
  refine tw_iload 0 dX5_law_31 rfl ?_
  exact tw_iret dX5_law_33 rfl (Or.inl ⟨_, rfl, sp53⟩)

set_option maxHeartbeats 4000000 in
set_option maxRecDepth 100000 in
theorem c_X5_gate (d : tw_D) (g : tw_G) (τ : tw_K) (h : tw_H) (hw : tw_wt d g τ h) (x : Nat) (kx : τ x = 11) (n : Int32) (m : Int32) (b : Int32) (kb : tw_01 b) : tw_Ct d mX5_gate 20 120 [.ref x, .int n, .int m, .int b] h (tw_qi (fun r h1 => tw_sp d τ h g τ h1 ∧ tw_01 r) (fun E h1 => (E = tw_IOE ∨ E = tw_IAE) ∧ ∃ τ1, tw_sp d τ h g τ1 h1)) := by
  refine tw_of (by decide +kernel) (Nat.le_of_ble_eq_true rfl) ?_
  show tw_W d mX5_gate _ 0 [(0, .ref x), (1, .int n), (2, .int m), (3, .int b)] [] h 20 120
  have sp0 := tw_sp.rf hw
  refine tw_aload_n 0 dX5_gate_0 rfl rfl ?_
  refine tw_iload_n 1 dX5_gate_1 rfl rfl ?_
  obtain ⟨e1, f2, td_3, ca_4, ha_5, da_6, c1_7, c2_8, c3_9, c4_10, rfl, k11, k12, k13, k14, k15, k16, k17, k18, k19, k20, k21⟩ := sp0.1 x 11 kx (by decide)
  refine tw_br (tw_callV (M := mX5_gate) (pc := 2) okX5_countryAt dX5_gate_2 w_546 rfl f2 [.int n] [] rfl rfl ⟨by decide, by decide⟩ (Nat.le_of_ble_eq_true rfl) (c_X5_countryAt d g τ h sp0.1 x kx n) 19 114 (Nat.le_of_ble_eq_true rfl) (Nat.le_of_ble_eq_true rfl)) (fun r24 h23 q22 => ?_) (fun E h1 q => Or.inr ⟨E, rfl, (Or.inl q.1), ⟨τ, by rw [q.2]; exact sp0⟩⟩)
  obtain ⟨q22e, p25⟩ := q22
  rw [q22e]
  refine tw_astore [(4, .ref r24), (0, .ref x), (1, .int n), (2, .int m), (3, .int b)] dX5_gate_5 (by decide) rfl ?_
  refine tw_iload_n 3 dX5_gate_7 rfl rfl ?_
  refine tw_bv (tw_callS (M := mX5_gate) (pc := 8) okX5_needMetal dX5_gate_8 w_573 [.int m] [] rfl rfl ⟨by decide, by decide⟩ (Nat.le_of_ble_eq_true rfl) (c_X5_needMetal d g τ h sp0.1 m) 18 108 (Nat.le_of_ble_eq_true rfl) (Nat.le_of_ble_eq_true rfl)) (fun h27 q26 => ?_) (fun E h1 q => Or.inr ⟨E, rfl, (Or.inr (q.1)), ⟨τ, by rw [q.2]; exact sp0⟩⟩)
  obtain ⟨q26e, p29⟩ := q26
  rw [q26e]
  refine tw_aload 0 dX5_gate_11 rfl ?_
  refine tw_iload_n 3 dX5_gate_13 rfl rfl ?_
  obtain ⟨e30, f31, n_32, r_33, c_34, go_35, so_36, v_37, rd_38, rf_39, t_40, rfl, k41, k42, k43, k44, k45, k46, k47, k48⟩ := sp0.1 r24 2 p25 (by decide)
  refine tw_bi (tw_callVN (M := mX5_gate) (pc := 14) okX0_isOpenFor dX5_gate_14 w_577 rfl f31 [.int m] [] rfl rfl ⟨by decide, by decide⟩ (Nat.le_of_ble_eq_true rfl) (c_X0_isOpenFor d g τ h sp0.1 r24 p25 m) 18 108 (Nat.le_of_ble_eq_true rfl) (Nat.le_of_ble_eq_true rfl)) (fun r51 h50 q49 => ?_) (fun E h1 q => q.elim)
  obtain ⟨q49e, p52⟩ := q49
  rw [q49e]
  refine tw_istore [(5, .int r51), (4, .ref r24), (0, .ref x), (1, .int n), (2, .int m), (3, .int b)] dX5_gate_17 (by decide) rfl ?_
  refine tw_aload 1 dX5_gate_19 rfl ?_
  refine tw_iload_n 4 dX5_gate_21 rfl rfl ?_
  refine tw_iload_n 5 dX5_gate_22 rfl rfl ?_
  refine tw_bv (tw_callVN (M := mX5_gate) (pc := 23) okX0_setOpenFor dX5_gate_23 w_581 rfl f31 [.int m, .int b] [] rfl rfl ⟨by decide, by decide⟩ (Nat.le_of_ble_eq_true rfl) (c_X0_setOpenFor d g τ h sp0.1 r24 p25 m b kb) 18 108 (Nat.le_of_ble_eq_true rfl) (Nat.le_of_ble_eq_true rfl)) (fun h54 q53 => ?_) (fun E h1 q => q.elim)
  have q53s := q53
  have sp56 := sp0.tr q53s
  refine tw_iload 0 dX5_gate_26 rfl ?_
  exact tw_zret dX5_gate_28 rfl (tw_nar01 p52) (Or.inl ⟨_, rfl, ⟨sp56, p52⟩⟩)

set_option maxHeartbeats 4000000 in
set_option maxRecDepth 100000 in
theorem c_X5_road (d : tw_D) (g : tw_G) (τ : tw_K) (h : tw_H) (hw : tw_wt d g τ h) (x : Nat) (kx : τ x = 11) (a : Int32) (b : Int32) (dy : Int32) (fr : Int32) : tw_Ct d mX5_road 20 120 [.ref x, .int a, .int b, .int dy, .int fr] h (tw_qi (fun r h1 => tw_sp d τ h g τ h1) (fun E h1 => (E = tw_IOE ∨ E = tw_IAE) ∧ ∃ τ1, tw_sp d τ h g τ1 h1)) := by
  refine tw_of (by decide +kernel) (Nat.le_of_ble_eq_true rfl) ?_
  show tw_W d mX5_road _ 0 [(0, .ref x), (1, .int a), (2, .int b), (3, .int dy), (4, .int fr)] [] h 20 120
  have sp0 := tw_sp.rf hw
  refine tw_aload_n 0 dX5_road_0 rfl rfl ?_
  refine tw_iload_n 1 dX5_road_1 rfl rfl ?_
  obtain ⟨e1, f2, td_3, ca_4, ha_5, da_6, c1_7, c2_8, c3_9, c4_10, rfl, k11, k12, k13, k14, k15, k16, k17, k18, k19, k20, k21⟩ := sp0.1 x 11 kx (by decide)
  refine tw_br (tw_callV (M := mX5_road) (pc := 2) okX5_countryAt dX5_road_2 w_546 rfl f2 [.int a] [] rfl rfl ⟨by decide, by decide⟩ (Nat.le_of_ble_eq_true rfl) (c_X5_countryAt d g τ h sp0.1 x kx a) 19 114 (Nat.le_of_ble_eq_true rfl) (Nat.le_of_ble_eq_true rfl)) (fun r24 h23 q22 => ?_) (fun E h1 q => Or.inr ⟨E, rfl, (Or.inl q.1), ⟨τ, by rw [q.2]; exact sp0⟩⟩)
  obtain ⟨q22e, p25⟩ := q22
  rw [q22e]
  refine tw_astore [(5, .ref r24), (0, .ref x), (1, .int a), (2, .int b), (3, .int dy), (4, .int fr)] dX5_road_5 (by decide) rfl ?_
  refine tw_aload_n 1 dX5_road_7 rfl rfl ?_
  refine tw_iload_n 3 dX5_road_8 rfl rfl ?_
  refine tw_br (tw_callV (M := mX5_road) (pc := 9) okX5_countryAt dX5_road_9 w_546 rfl f2 [.int b] [] rfl rfl ⟨by decide, by decide⟩ (Nat.le_of_ble_eq_true rfl) (c_X5_countryAt d g τ h sp0.1 x kx b) 18 108 (Nat.le_of_ble_eq_true rfl) (Nat.le_of_ble_eq_true rfl)) (fun r28 h27 q26 => ?_) (fun E h1 q => Or.inr ⟨E, rfl, (Or.inl q.1), ⟨τ, by rw [q.2]; exact sp0⟩⟩)
  obtain ⟨q26e, p29⟩ := q26
  rw [q26e]
  refine tw_astore [(6, .ref r28), (5, .ref r24), (0, .ref x), (1, .int a), (2, .int b), (3, .int dy), (4, .int fr)] dX5_road_12 (by decide) rfl ?_
  refine tw_iload_n 3 dX5_road_14 rfl rfl ?_
  refine tw_iload_n 4 dX5_road_15 rfl rfl ?_
  refine tw_bv (tw_callS (M := mX5_road) (pc := 16) okX5_needDifferent dX5_road_16 w_599 [.int a, .int b] [] rfl rfl ⟨by decide, by decide⟩ (Nat.le_of_ble_eq_true rfl) (c_X5_needDifferent d g τ h sp0.1 a b) 17 102 (Nat.le_of_ble_eq_true rfl) (Nat.le_of_ble_eq_true rfl)) (fun h31 q30 => ?_) (fun E h1 q => Or.inr ⟨E, rfl, (Or.inr (q.1)), ⟨τ, by rw [q.2]; exact sp0⟩⟩)
  rw [q30]
  refine tw_iload_n 5 dX5_road_19 rfl rfl ?_
  refine tw_iconst (v := 1) dX5_road_20 (by decide) ?_
  refine tw_bipush (v := 30) dX5_road_21 (by decide) ?_
  refine tw_bv (tw_callS (M := mX5_road) (pc := 23) okX5_needRange dX5_road_23 w_399 [.int dy, .int 1, .int 30] [] rfl rfl ⟨by decide, by decide⟩ (Nat.le_of_ble_eq_true rfl) (c_X5_needRange d g τ h sp0.1 dy 1 30) 16 96 (Nat.le_of_ble_eq_true rfl) (Nat.le_of_ble_eq_true rfl)) (fun h34 q33 => ?_) (fun E h1 q => Or.inr ⟨E, rfl, (Or.inr (q.1)), ⟨τ, by rw [q.2]; exact sp0⟩⟩)
  obtain ⟨q33e, p36⟩ := q33
  rw [q33e]
  refine tw_iload 6 dX5_road_26 rfl ?_
  refine tw_iconst (v := 0) dX5_road_28 (by decide) ?_
  refine tw_bipush (v := 100) dX5_road_29 (by decide) ?_
  refine tw_bv (tw_callS (M := mX5_road) (pc := 31) okX5_needRange dX5_road_31 w_399 [.int fr, .int 0, .int 100] [] rfl rfl ⟨by decide, by decide⟩ (Nat.le_of_ble_eq_true rfl) (c_X5_needRange d g τ h sp0.1 fr 0 100) 15 90 (Nat.le_of_ble_eq_true rfl) (Nat.le_of_ble_eq_true rfl)) (fun h38 q37 => ?_) (fun E h1 q => Or.inr ⟨E, rfl, (Or.inr (q.1)), ⟨τ, by rw [q.2]; exact sp0⟩⟩)
  obtain ⟨q37e, p40⟩ := q37
  rw [q37e]
  refine tw_aload 1 dX5_road_34 rfl ?_
  refine tw_aload 0 dX5_road_36 rfl ?_
  obtain ⟨e41, f42, n_43, r_44, c_45, go_46, so_47, v_48, rd_49, rf_50, t_51, rfl, k52, k53, k54, k55, k56, k57, k58, k59⟩ := sp0.1 r28 2 p29 (by decide)
  refine tw_getN (v := .int n_43) rfl in_4 0 dX5_road_38 w_502 rfl (by decide) f42 rfl ?_
  obtain ⟨e60, f61, n_62, r_63, c_64, go_65, so_66, v_67, rd_68, rf_69, t_70, rfl, k71, k72, k73, k74, k75, k76, k77, k78⟩ := sp0.1 r24 2 p25 (by decide)
  refine tw_bi (tw_callVN (M := mX5_road) (pc := 41) okX0_daysTo dX5_road_41 w_226 rfl f61 [.int n_43] [] rfl rfl ⟨by decide, by decide⟩ (Nat.le_of_ble_eq_true rfl) (c_X0_daysTo d g τ h sp0.1 r24 p25 n_43) 15 90 (Nat.le_of_ble_eq_true rfl) (Nat.le_of_ble_eq_true rfl)) (fun r81 h80 q79 => ?_) (fun E h1 q => q.elim)
  rw [q79]
  refine tw_istore [(7, .int r81), (6, .ref r28), (5, .ref r24), (0, .ref x), (1, .int a), (2, .int b), (3, .int dy), (4, .int fr)] dX5_road_44 (by decide) rfl ?_
  refine tw_aload 2 dX5_road_46 rfl ?_
  refine tw_aload 1 dX5_road_48 rfl ?_
  refine tw_getN (v := .int n_43) rfl in_4 0 dX5_road_50 w_502 rfl (by decide) f42 rfl ?_
  refine tw_iload_n 6 dX5_road_53 rfl rfl ?_
  refine tw_iload 7 dX5_road_54 rfl ?_
  refine tw_bv (tw_callVN (M := mX5_road) (pc := 56) okX0_setRoadTo dX5_road_56 w_603 rfl f61 [.int n_43, .int dy, .int fr] [] rfl rfl ⟨by decide, by decide⟩ (Nat.le_of_ble_eq_true rfl) (c_X0_setRoadTo d g τ h sp0.1 r24 p25 n_43 dy fr) 15 90 (Nat.le_of_ble_eq_true rfl) (Nat.le_of_ble_eq_true rfl)) (fun h83 q82 => ?_) (fun E h1 q => q.elim)
  have q82s := q82
  have sp85 := sp0.tr q82s
  refine tw_aload 1 dX5_road_59 rfl ?_
  refine tw_aload 2 dX5_road_61 rfl ?_
  obtain ⟨e87, f88, n_89, r_90, c_91, go_92, so_93, v_94, rd_95, rf_96, t_97, rfl, k98, k99, k100, k101, k102, k103, k104, k105⟩ := sp85.1 r24 2 p25 (by decide)
  refine tw_getN (v := .int n_89) rfl in_4 0 dX5_road_63 w_502 rfl (by decide) f88 rfl ?_
  refine tw_iload_n 6 dX5_road_66 rfl rfl ?_
  refine tw_iload 7 dX5_road_67 rfl ?_
  obtain ⟨e106, f107, n_108, r_109, c_110, go_111, so_112, v_113, rd_114, rf_115, t_116, rfl, k117, k118, k119, k120, k121, k122, k123, k124⟩ := sp85.1 r28 2 p29 (by decide)
  refine tw_bv (tw_callVN (M := mX5_road) (pc := 69) okX0_setRoadTo dX5_road_69 w_603 rfl f107 [.int n_89, .int dy, .int fr] [] rfl rfl ⟨by decide, by decide⟩ (Nat.le_of_ble_eq_true rfl) (c_X0_setRoadTo d g τ h83 sp85.1 r28 p29 n_89 dy fr) 15 90 (Nat.le_of_ble_eq_true rfl) (Nat.le_of_ble_eq_true rfl)) (fun h126 q125 => ?_) (fun E h1 q => q.elim)
  have q125s := q125
  have sp128 := sp85.tr q125s
  refine tw_iload 0 dX5_road_72 rfl ?_
  exact tw_iret dX5_road_74 rfl (Or.inl ⟨_, rfl, sp128⟩)

set_option maxHeartbeats 4000000 in
set_option maxRecDepth 100000 in
theorem c_X5_mine (d : tw_D) (g : tw_G) (τ : tw_K) (h : tw_H) (hw : tw_wt d g τ h) (x : Nat) (kx : τ x = 11) (a : Int32) (m : Int32) (gr : Int32) : tw_Ct d mX5_mine 20 120 [.ref x, .int a, .int m, .int gr] h (tw_qi (fun r h1 => tw_sp d τ h g τ h1) (fun E h1 => (E = tw_IOE ∨ E = tw_IAE ∨ E = tw_ISE) ∧ ∃ τ1, tw_sp d τ h g τ1 h1)) := by
  refine tw_of (by decide +kernel) (Nat.le_of_ble_eq_true rfl) ?_
  show tw_W d mX5_mine _ 0 [(0, .ref x), (1, .int a), (2, .int m), (3, .int gr)] [] h 20 120
  have sp0 := tw_sp.rf hw
  refine tw_aload_n 0 dX5_mine_0 rfl rfl ?_
  refine tw_iload_n 1 dX5_mine_1 rfl rfl ?_
  obtain ⟨e1, f2, td_3, ca_4, ha_5, da_6, c1_7, c2_8, c3_9, c4_10, rfl, k11, k12, k13, k14, k15, k16, k17, k18, k19, k20, k21⟩ := sp0.1 x 11 kx (by decide)
  refine tw_br (tw_callV (M := mX5_mine) (pc := 2) okX5_countryAt dX5_mine_2 w_546 rfl f2 [.int a] [] rfl rfl ⟨by decide, by decide⟩ (Nat.le_of_ble_eq_true rfl) (c_X5_countryAt d g τ h sp0.1 x kx a) 19 114 (Nat.le_of_ble_eq_true rfl) (Nat.le_of_ble_eq_true rfl)) (fun r24 h23 q22 => ?_) (fun E h1 q => Or.inr ⟨E, rfl, (Or.inl q.1), ⟨τ, by rw [q.2]; exact sp0⟩⟩)
  obtain ⟨q22e, p25⟩ := q22
  rw [q22e]
  obtain ⟨e26, f27, n_28, r_29, c_30, go_31, so_32, v_33, rd_34, rf_35, t_36, rfl, k37, k38, k39, k40, k41, k42, k43, k44⟩ := sp0.1 r24 2 p25 (by decide)
  refine tw_getN (v := .ref v_33) rfl in_4 3 dX5_mine_5 w_508 rfl (by decide) f27 rfl ?_
  refine tw_astore [(4, .ref v_33), (0, .ref x), (1, .int a), (2, .int m), (3, .int gr)] dX5_mine_8 (by decide) rfl ?_
  refine tw_iload_n 3 dX5_mine_10 rfl rfl ?_
  refine tw_bv (tw_callS (M := mX5_mine) (pc := 11) okX5_needMetal dX5_mine_11 w_573 [.int m] [] rfl rfl ⟨by decide, by decide⟩ (Nat.le_of_ble_eq_true rfl) (c_X5_needMetal d g τ h sp0.1 m) 18 108 (Nat.le_of_ble_eq_true rfl) (Nat.le_of_ble_eq_true rfl)) (fun h46 q45 => ?_) (fun E h1 q => Or.inr ⟨E, rfl, (Or.inr (Or.inl q.1)), ⟨τ, by rw [q.2]; exact sp0⟩⟩)
  obtain ⟨q45e, p48⟩ := q45
  rw [q45e]
  refine tw_iload_n 4 dX5_mine_14 rfl rfl ?_
  refine tw_iconst (v := 1) dX5_mine_15 (by decide) ?_
  refine tw_ldc (v := 99999) dX5_mine_16 w_470 ?_
  refine tw_bv (tw_callS (M := mX5_mine) (pc := 18) okX5_needRange dX5_mine_18 w_399 [.int gr, .int 1, .int 99999] [] rfl rfl ⟨by decide, by decide⟩ (Nat.le_of_ble_eq_true rfl) (c_X5_needRange d g τ h sp0.1 gr 1 99999) 17 102 (Nat.le_of_ble_eq_true rfl) (Nat.le_of_ble_eq_true rfl)) (fun h50 q49 => ?_) (fun E h1 q => Or.inr ⟨E, rfl, (Or.inr (Or.inl q.1)), ⟨τ, by rw [q.2]; exact sp0⟩⟩)
  obtain ⟨q49e, p52⟩ := q49
  rw [q49e]
  refine tw_aload 0 dX5_mine_21 rfl ?_
  refine tw_iload_n 3 dX5_mine_23 rfl rfl ?_
  obtain ⟨e53, f54, a_55, b_56, rfl⟩ := sp0.1 v_33 1 k37 (by decide)
  refine tw_bi (tw_callVN (M := mX5_mine) (pc := 24) okX3_of dX5_mine_24 w_189 rfl f54 [.int m] [] rfl rfl ⟨by decide, by decide⟩ (Nat.le_of_ble_eq_true rfl) (c_X3_of d g τ h sp0.1 v_33 k37 m) 17 102 (Nat.le_of_ble_eq_true rfl) (Nat.le_of_ble_eq_true rfl)) (fun r59 h58 q57 => ?_) (fun E h1 q => q.elim)
  rw [q57]
  refine tw_ldc (v := 999999) dX5_mine_27 w_614 ?_
  refine tw_iload_n 4 dX5_mine_29 rfl rfl ?_
  refine tw_isub dX5_mine_30 ?_
  refine tw_nmi (fun v60 ev60 => ?_)
  refine tw_icmp_le 44 dX5_mine_31 (by decide) (fun c61 => ?_) (fun c61 => ?_)
  · refine tw_aload 0 dX5_mine_44 rfl ?_
    refine tw_iload_n 3 dX5_mine_46 rfl rfl ?_
    refine tw_iload_n 4 dX5_mine_47 rfl rfl ?_
    refine tw_bv (tw_callVN (M := mX5_mine) (pc := 48) okX3_add dX5_mine_48 w_534 rfl f54 [.int m, .int gr] [] rfl rfl ⟨by decide, by decide⟩ (Nat.le_of_ble_eq_true rfl) (c_X3_add d g τ h sp0.1 v_33 k37 m gr) 17 102 (Nat.le_of_ble_eq_true rfl) (Nat.le_of_ble_eq_true rfl)) (fun h63 q62 => ?_) (fun E h1 q => q.elim)
    have q62s := q62
    have sp65 := sp0.tr q62s
    refine tw_aload_n 1 dX5_mine_51 rfl rfl ?_
    obtain ⟨e67, f68, td_69, ca_70, ha_71, da_72, c1_73, c2_74, c3_75, c4_76, rfl, k77, k78, k79, k80, k81, k82, k83, k84, k85, k86, k87⟩ := sp65.1 x 11 kx (by decide)
    refine tw_get (v := .ref c4_76) rfl in_9 11 dX5_mine_52 w_151 rfl (by decide) f68 rfl ?_
    refine tw_iload_n 3 dX5_mine_55 rfl rfl ?_
    refine tw_iload_n 4 dX5_mine_56 rfl rfl ?_
    obtain ⟨e88, f89, a_90, b_91, rfl⟩ := sp65.1 c4_76 1 k83 (by decide)
    refine tw_bv (tw_callVN (M := mX5_mine) (pc := 57) okX3_add dX5_mine_57 w_534 rfl f89 [.int m, .int gr] [] rfl rfl ⟨by decide, by decide⟩ (Nat.le_of_ble_eq_true rfl) (c_X3_add d g τ h63 sp65.1 c4_76 k83 m gr) 17 102 (Nat.le_of_ble_eq_true rfl) (Nat.le_of_ble_eq_true rfl)) (fun h93 q92 => ?_) (fun E h1 q => q.elim)
    have q92s := q92
    have sp95 := sp65.tr q92s
    refine tw_aload 0 dX5_mine_60 rfl ?_
    refine tw_iload_n 3 dX5_mine_62 rfl rfl ?_
    obtain ⟨e97, f98, a_99, b_100, rfl⟩ := sp95.1 v_33 1 k37 (by decide)
    refine tw_bi (tw_callVN (M := mX5_mine) (pc := 63) okX3_of dX5_mine_63 w_189 rfl f98 [.int m] [] rfl rfl ⟨by decide, by decide⟩ (Nat.le_of_ble_eq_true rfl) (c_X3_of d g τ h93 sp95.1 v_33 k37 m) 17 102 (Nat.le_of_ble_eq_true rfl) (Nat.le_of_ble_eq_true rfl)) (fun r103 h102 q101 => ?_) (fun E h1 q => q.elim)
    rw [q101]
    exact tw_iret dX5_mine_66 rfl (Or.inl ⟨_, rfl, sp95⟩)
  · exact tw_throwS (i := 5) (by decide +kernel) w_471 w_88 rfl at_ISE dX5_mine_34 dX5_mine_37 dX5_mine_38 dX5_mine_40 dX5_mine_43 ⟨by decide, Nat.le_of_ble_eq_true rfl⟩ (Nat.le_of_ble_eq_true rfl) (Nat.le_of_ble_eq_true rfl) (Or.inr ⟨_, rfl, (Or.inr (Or.inr (rfl))), _, sp0⟩)

set_option maxHeartbeats 4000000 in
set_option maxRecDepth 100000 in
theorem c_X5_use (d : tw_D) (g : tw_G) (τ : tw_K) (h : tw_H) (hw : tw_wt d g τ h) (x : Nat) (kx : τ x = 11) (a : Int32) (m : Int32) (gr : Int32) : tw_Ct d mX5_use 20 120 [.ref x, .int a, .int m, .int gr] h (tw_qi (fun r h1 => tw_sp d τ h g τ h1) (fun E h1 => (E = tw_IOE ∨ E = tw_IAE ∨ E = tw_ISE) ∧ ∃ τ1, tw_sp d τ h g τ1 h1)) := by
  refine tw_of (by decide +kernel) (Nat.le_of_ble_eq_true rfl) ?_
  show tw_W d mX5_use _ 0 [(0, .ref x), (1, .int a), (2, .int m), (3, .int gr)] [] h 20 120
  have sp0 := tw_sp.rf hw
  refine tw_aload_n 0 dX5_use_0 rfl rfl ?_
  refine tw_iload_n 1 dX5_use_1 rfl rfl ?_
  obtain ⟨e1, f2, td_3, ca_4, ha_5, da_6, c1_7, c2_8, c3_9, c4_10, rfl, k11, k12, k13, k14, k15, k16, k17, k18, k19, k20, k21⟩ := sp0.1 x 11 kx (by decide)
  refine tw_br (tw_callV (M := mX5_use) (pc := 2) okX5_countryAt dX5_use_2 w_546 rfl f2 [.int a] [] rfl rfl ⟨by decide, by decide⟩ (Nat.le_of_ble_eq_true rfl) (c_X5_countryAt d g τ h sp0.1 x kx a) 19 114 (Nat.le_of_ble_eq_true rfl) (Nat.le_of_ble_eq_true rfl)) (fun r24 h23 q22 => ?_) (fun E h1 q => Or.inr ⟨E, rfl, (Or.inl q.1), ⟨τ, by rw [q.2]; exact sp0⟩⟩)
  obtain ⟨q22e, p25⟩ := q22
  rw [q22e]
  obtain ⟨e26, f27, n_28, r_29, c_30, go_31, so_32, v_33, rd_34, rf_35, t_36, rfl, k37, k38, k39, k40, k41, k42, k43, k44⟩ := sp0.1 r24 2 p25 (by decide)
  refine tw_getN (v := .ref v_33) rfl in_4 3 dX5_use_5 w_508 rfl (by decide) f27 rfl ?_
  refine tw_astore [(4, .ref v_33), (0, .ref x), (1, .int a), (2, .int m), (3, .int gr)] dX5_use_8 (by decide) rfl ?_
  refine tw_iload_n 3 dX5_use_10 rfl rfl ?_
  refine tw_bv (tw_callS (M := mX5_use) (pc := 11) okX5_needMetal dX5_use_11 w_573 [.int m] [] rfl rfl ⟨by decide, by decide⟩ (Nat.le_of_ble_eq_true rfl) (c_X5_needMetal d g τ h sp0.1 m) 18 108 (Nat.le_of_ble_eq_true rfl) (Nat.le_of_ble_eq_true rfl)) (fun h46 q45 => ?_) (fun E h1 q => Or.inr ⟨E, rfl, (Or.inr (Or.inl q.1)), ⟨τ, by rw [q.2]; exact sp0⟩⟩)
  obtain ⟨q45e, p48⟩ := q45
  rw [q45e]
  refine tw_iload_n 4 dX5_use_14 rfl rfl ?_
  refine tw_iconst (v := 1) dX5_use_15 (by decide) ?_
  refine tw_ldc (v := 99999) dX5_use_16 w_470 ?_
  refine tw_bv (tw_callS (M := mX5_use) (pc := 18) okX5_needRange dX5_use_18 w_399 [.int gr, .int 1, .int 99999] [] rfl rfl ⟨by decide, by decide⟩ (Nat.le_of_ble_eq_true rfl) (c_X5_needRange d g τ h sp0.1 gr 1 99999) 17 102 (Nat.le_of_ble_eq_true rfl) (Nat.le_of_ble_eq_true rfl)) (fun h50 q49 => ?_) (fun E h1 q => Or.inr ⟨E, rfl, (Or.inr (Or.inl q.1)), ⟨τ, by rw [q.2]; exact sp0⟩⟩)
  obtain ⟨q49e, p52⟩ := q49
  rw [q49e]
  refine tw_aload 0 dX5_use_21 rfl ?_
  refine tw_iload_n 3 dX5_use_23 rfl rfl ?_
  obtain ⟨e53, f54, a_55, b_56, rfl⟩ := sp0.1 v_33 1 k37 (by decide)
  refine tw_bi (tw_callVN (M := mX5_use) (pc := 24) okX3_of dX5_use_24 w_189 rfl f54 [.int m] [] rfl rfl ⟨by decide, by decide⟩ (Nat.le_of_ble_eq_true rfl) (c_X3_of d g τ h sp0.1 v_33 k37 m) 17 102 (Nat.le_of_ble_eq_true rfl) (Nat.le_of_ble_eq_true rfl)) (fun r59 h58 q57 => ?_) (fun E h1 q => q.elim)
  rw [q57]
  refine tw_iload_n 4 dX5_use_27 rfl rfl ?_
  refine tw_icmp_ge 41 dX5_use_28 (by decide) (fun c60 => ?_) (fun c60 => ?_)
  · refine tw_aload 0 dX5_use_41 rfl ?_
    refine tw_iload_n 3 dX5_use_43 rfl rfl ?_
    refine tw_iload_n 4 dX5_use_44 rfl rfl ?_
    refine tw_ineg dX5_use_45 ?_
    refine tw_nmi (fun v61 ev61 => ?_)
    refine tw_bv (tw_callVN (M := mX5_use) (pc := 46) okX3_add dX5_use_46 w_534 rfl f54 [.int m, .int v61] [] rfl rfl ⟨by decide, by decide⟩ (Nat.le_of_ble_eq_true rfl) (c_X3_add d g τ h sp0.1 v_33 k37 m v61) 17 102 (Nat.le_of_ble_eq_true rfl) (Nat.le_of_ble_eq_true rfl)) (fun h63 q62 => ?_) (fun E h1 q => q.elim)
    have q62s := q62
    have sp65 := sp0.tr q62s
    refine tw_aload_n 1 dX5_use_49 rfl rfl ?_
    obtain ⟨e67, f68, td_69, ca_70, ha_71, da_72, c1_73, c2_74, c3_75, c4_76, rfl, k77, k78, k79, k80, k81, k82, k83, k84, k85, k86, k87⟩ := sp65.1 x 11 kx (by decide)
    refine tw_get (v := .ref c2_74) rfl in_9 9 dX5_use_50 w_149 rfl (by decide) f68 rfl ?_
    refine tw_iload_n 3 dX5_use_53 rfl rfl ?_
    refine tw_iload_n 4 dX5_use_54 rfl rfl ?_
    obtain ⟨e88, f89, a_90, b_91, rfl⟩ := sp65.1 c2_74 1 k81 (by decide)
    refine tw_bv (tw_callVN (M := mX5_use) (pc := 55) okX3_add dX5_use_55 w_534 rfl f89 [.int m, .int gr] [] rfl rfl ⟨by decide, by decide⟩ (Nat.le_of_ble_eq_true rfl) (c_X3_add d g τ h63 sp65.1 c2_74 k81 m gr) 17 102 (Nat.le_of_ble_eq_true rfl) (Nat.le_of_ble_eq_true rfl)) (fun h93 q92 => ?_) (fun E h1 q => q.elim)
    have q92s := q92
    have sp95 := sp65.tr q92s
    refine tw_aload 0 dX5_use_58 rfl ?_
    refine tw_iload_n 3 dX5_use_60 rfl rfl ?_
    obtain ⟨e97, f98, a_99, b_100, rfl⟩ := sp95.1 v_33 1 k37 (by decide)
    refine tw_bi (tw_callVN (M := mX5_use) (pc := 61) okX3_of dX5_use_61 w_189 rfl f98 [.int m] [] rfl rfl ⟨by decide, by decide⟩ (Nat.le_of_ble_eq_true rfl) (c_X3_of d g τ h93 sp95.1 v_33 k37 m) 17 102 (Nat.le_of_ble_eq_true rfl) (Nat.le_of_ble_eq_true rfl)) (fun r103 h102 q101 => ?_) (fun E h1 q => q.elim)
    rw [q101]
    exact tw_iret dX5_use_64 rfl (Or.inl ⟨_, rfl, sp95⟩)
  · exact tw_throwS (i := 6) (by decide +kernel) w_471 w_88 rfl at_ISE dX5_use_31 dX5_use_34 dX5_use_35 dX5_use_37 dX5_use_40 ⟨by decide, Nat.le_of_ble_eq_true rfl⟩ (Nat.le_of_ble_eq_true rfl) (Nat.le_of_ble_eq_true rfl) (Or.inr ⟨_, rfl, (Or.inr (Or.inr (rfl))), _, sp0⟩)

set_option maxHeartbeats 4000000 in
set_option maxRecDepth 100000 in
theorem c_X5_change (d : tw_D) (g : tw_G) (τ : tw_K) (h : tw_H) (hw : tw_wt d g τ h) (x : Nat) (kx : τ x = 11) (a : Int32) (m : Int32) (gr : Int32) : tw_Ct d mX5_change 20 120 [.ref x, .int a, .int m, .int gr] h (tw_qi (fun r h1 => tw_sp d τ h g τ h1) (fun E h1 => (E = tw_IOE ∨ E = tw_IAE ∨ E = tw_ISE) ∧ ∃ τ1, tw_sp d τ h g τ1 h1)) := by
  refine tw_of (by decide +kernel) (Nat.le_of_ble_eq_true rfl) ?_
  show tw_W d mX5_change _ 0 [(0, .ref x), (1, .int a), (2, .int m), (3, .int gr)] [] h 20 120
  have sp0 := tw_sp.rf hw
  refine tw_aload_n 0 dX5_change_0 rfl rfl ?_
  refine tw_iload_n 1 dX5_change_1 rfl rfl ?_
  obtain ⟨e1, f2, td_3, ca_4, ha_5, da_6, c1_7, c2_8, c3_9, c4_10, rfl, k11, k12, k13, k14, k15, k16, k17, k18, k19, k20, k21⟩ := sp0.1 x 11 kx (by decide)
  refine tw_br (tw_callV (M := mX5_change) (pc := 2) okX5_houseAt dX5_change_2 w_664 rfl f2 [.int a] [] rfl rfl ⟨by decide, by decide⟩ (Nat.le_of_ble_eq_true rfl) (c_X5_houseAt d g τ h sp0.1 x kx a) 19 114 (Nat.le_of_ble_eq_true rfl) (Nat.le_of_ble_eq_true rfl)) (fun r24 h23 q22 => ?_) (fun E h1 q => Or.inr ⟨E, rfl, (Or.inl q.1), ⟨τ, by rw [q.2]; exact sp0⟩⟩)
  obtain ⟨q22e, p25⟩ := q22
  rw [q22e]
  refine tw_astore [(4, .ref r24), (0, .ref x), (1, .int a), (2, .int m), (3, .int gr)] dX5_change_5 (by decide) rfl ?_
  refine tw_iload_n 3 dX5_change_7 rfl rfl ?_
  refine tw_bv (tw_callS (M := mX5_change) (pc := 8) okX5_needMetal dX5_change_8 w_573 [.int m] [] rfl rfl ⟨by decide, by decide⟩ (Nat.le_of_ble_eq_true rfl) (c_X5_needMetal d g τ h sp0.1 m) 18 108 (Nat.le_of_ble_eq_true rfl) (Nat.le_of_ble_eq_true rfl)) (fun h27 q26 => ?_) (fun E h1 q => Or.inr ⟨E, rfl, (Or.inr (Or.inl q.1)), ⟨τ, by rw [q.2]; exact sp0⟩⟩)
  obtain ⟨q26e, p29⟩ := q26
  rw [q26e]
  refine tw_iload_n 4 dX5_change_11 rfl rfl ?_
  refine tw_iconst (v := 1) dX5_change_12 (by decide) ?_
  refine tw_ldc (v := 99999) dX5_change_13 w_470 ?_
  refine tw_bv (tw_callS (M := mX5_change) (pc := 15) okX5_needRange dX5_change_15 w_399 [.int gr, .int 1, .int 99999] [] rfl rfl ⟨by decide, by decide⟩ (Nat.le_of_ble_eq_true rfl) (c_X5_needRange d g τ h sp0.1 gr 1 99999) 17 102 (Nat.le_of_ble_eq_true rfl) (Nat.le_of_ble_eq_true rfl)) (fun h31 q30 => ?_) (fun E h1 q => Or.inr ⟨E, rfl, (Or.inr (Or.inl q.1)), ⟨τ, by rw [q.2]; exact sp0⟩⟩)
  obtain ⟨q30e, p33⟩ := q30
  rw [q30e]
  refine tw_aload 0 dX5_change_18 rfl ?_
  obtain ⟨e34, f35, n_36, ar_37, p_38, pl_39, go_40, rfl, k41, k42, k43⟩ := sp0.1 r24 3 p25 (by decide)
  cases pl_39 with
  | none =>
    refine tw_getN (v := .null) rfl in_6 2 dX5_change_20 w_641 rfl (by decide) f35 rfl ?_
    refine tw_astoreN [(5, .null), (4, .ref r24), (0, .ref x), (1, .int a), (2, .int m), (3, .int gr)] dX5_change_23 (by decide) rfl ?_
    refine tw_aloadN 0 dX5_change_25 rfl ?_
    refine tw_ifnullN 43 dX5_change_27 (by decide) ?_
    exact tw_throwS (i := 9) (by decide +kernel) w_471 w_88 rfl at_ISE dX5_change_43 dX5_change_46 dX5_change_47 dX5_change_49 dX5_change_52 ⟨by decide, Nat.le_of_ble_eq_true rfl⟩ (Nat.le_of_ble_eq_true rfl) (Nat.le_of_ble_eq_true rfl) (Or.inr ⟨_, rfl, (Or.inr (Or.inr (rfl))), _, sp0⟩)
  | some q44 =>
    refine tw_getN (v := .ref q44) rfl in_6 2 dX5_change_20 w_641 rfl (by decide) f35 rfl ?_
    refine tw_astore [(5, .ref q44), (4, .ref r24), (0, .ref x), (1, .int a), (2, .int m), (3, .int gr)] dX5_change_23 (by decide) rfl ?_
    refine tw_aload 0 dX5_change_25 rfl ?_
    refine tw_ifnull dX5_change_27 ?_
    refine tw_aload 1 dX5_change_30 rfl ?_
    refine tw_getN (v := .ref p_38) rfl in_6 1 dX5_change_32 w_639 rfl (by decide) f35 rfl ?_
    refine tw_iload_n 4 dX5_change_35 rfl rfl ?_
    obtain ⟨e45, f46, a_47, b_48, rfl⟩ := sp0.1 p_38 1 k41 (by decide)
    refine tw_bi (tw_callVN (M := mX5_change) (pc := 36) okX3_of dX5_change_36 w_189 rfl f46 [.int m] [] rfl rfl ⟨by decide, by decide⟩ (Nat.le_of_ble_eq_true rfl) (c_X3_of d g τ h sp0.1 p_38 k41 m) 17 102 (Nat.le_of_ble_eq_true rfl) (Nat.le_of_ble_eq_true rfl)) (fun r51 h50 q49 => ?_) (fun E h1 q => q.elim)
    rw [q49]
    refine tw_iload_n 5 dX5_change_39 rfl rfl ?_
    refine tw_icmp_ge 53 dX5_change_40 (by decide) (fun c52 => ?_) (fun c52 => ?_)
    · refine tw_aload 0 dX5_change_53 rfl ?_
      refine tw_iload_n 4 dX5_change_55 rfl rfl ?_
      refine tw_iload_n 5 dX5_change_56 rfl rfl ?_
      obtain ⟨e53, f54, n_55, r_56, c_57, go_58, so_59, v_60, rd_61, rf_62, t_63, rfl, k64, k65, k66, k67, k68, k69, k70, k71⟩ := sp0.1 q44 2 (k42 _ rfl) (by decide)
      refine tw_bi (tw_callVN (M := mX5_change) (pc := 57) okX0_minted dX5_change_57 w_299 rfl f54 [.int m, .int gr] [] rfl rfl ⟨by decide, by decide⟩ (Nat.le_of_ble_eq_true rfl) (c_X0_minted d g τ h sp0.1 q44 (k42 _ rfl) m gr) 17 102 (Nat.le_of_ble_eq_true rfl) (Nat.le_of_ble_eq_true rfl)) (fun r74 h73 q72 => ?_) (fun E h1 q => q.elim)
      rw [q72]
      refine tw_istore [(6, .int r74), (5, .ref q44), (4, .ref r24), (0, .ref x), (1, .int a), (2, .int m), (3, .int gr)] dX5_change_60 (by decide) rfl ?_
      refine tw_iload_n 5 dX5_change_62 rfl rfl ?_
      refine tw_bi (tw_callS (M := mX5_change) (pc := 63) okX5_otherMetal dX5_change_63 w_318 [.int m] [] rfl rfl ⟨by decide, by decide⟩ (Nat.le_of_ble_eq_true rfl) (c_X5_otherMetal d g τ h sp0.1 m) 17 102 (Nat.le_of_ble_eq_true rfl) (Nat.le_of_ble_eq_true rfl)) (fun r77 h76 q75 => ?_) (fun E h1 q => q.elim)
      obtain ⟨q75e, p78⟩ := q75
      rw [q75e]
      refine tw_istore [(7, .int r77), (6, .int r74), (5, .ref q44), (4, .ref r24), (0, .ref x), (1, .int a), (2, .int m), (3, .int gr)] dX5_change_66 (by decide) rfl ?_
      refine tw_aload 2 dX5_change_68 rfl ?_
      refine tw_iload_n 6 dX5_change_70 rfl rfl ?_
      refine tw_bi (tw_callVN (M := mX5_change) (pc := 71) okX0_isOpenFor dX5_change_71 w_577 rfl f54 [.int m] [] rfl rfl ⟨by decide, by decide⟩ (Nat.le_of_ble_eq_true rfl) (c_X0_isOpenFor d g τ h sp0.1 q44 (k42 _ rfl) m) 17 102 (Nat.le_of_ble_eq_true rfl) (Nat.le_of_ble_eq_true rfl)) (fun r81 h80 q79 => ?_) (fun E h1 q => q.elim)
      obtain ⟨q79e, p82⟩ := q79
      rw [q79e]
      refine tw_if_eq 92 dX5_change_74 (by decide) (fun c83 => ?_) (fun c83 => ?_)
      · exact tw_throwS (i := 10) (by decide +kernel) w_471 w_88 rfl at_ISE dX5_change_92 dX5_change_95 dX5_change_96 dX5_change_98 dX5_change_101 ⟨by decide, Nat.le_of_ble_eq_true rfl⟩ (Nat.le_of_ble_eq_true rfl) (Nat.le_of_ble_eq_true rfl) (Or.inr ⟨_, rfl, (Or.inr (Or.inr (rfl))), _, sp0⟩)
      · refine tw_aload 2 dX5_change_77 rfl ?_
        refine tw_getN (v := .ref v_60) rfl in_4 3 dX5_change_79 w_508 rfl (by decide) f54 rfl ?_
        refine tw_iload 0 dX5_change_82 rfl ?_
        obtain ⟨e84, f85, a_86, b_87, rfl⟩ := sp0.1 v_60 1 k64 (by decide)
        refine tw_bi (tw_callVN (M := mX5_change) (pc := 84) okX3_of dX5_change_84 w_189 rfl f85 [.int r77] [] rfl rfl ⟨by decide, by decide⟩ (Nat.le_of_ble_eq_true rfl) (c_X3_of d g τ h sp0.1 v_60 k64 r77) 17 102 (Nat.le_of_ble_eq_true rfl) (Nat.le_of_ble_eq_true rfl)) (fun r90 h89 q88 => ?_) (fun E h1 q => q.elim)
        rw [q88]
        refine tw_iload 1 dX5_change_87 rfl ?_
        refine tw_icmp_ge 102 dX5_change_89 (by decide) (fun c91 => ?_) (fun c91 => ?_)
        · refine tw_aload 3 dX5_change_102 rfl ?_
          refine tw_getN (v := .ref p_38) rfl in_6 1 dX5_change_104 w_639 rfl (by decide) f35 rfl ?_
          refine tw_iload_n 6 dX5_change_107 rfl rfl ?_
          refine tw_iload_n 7 dX5_change_108 rfl rfl ?_
          refine tw_ineg dX5_change_109 ?_
          refine tw_nmi (fun v92 ev92 => ?_)
          refine tw_bv (tw_callVN (M := mX5_change) (pc := 110) okX3_add dX5_change_110 w_534 rfl f46 [.int m, .int v92] [] rfl rfl ⟨by decide, by decide⟩ (Nat.le_of_ble_eq_true rfl) (c_X3_add d g τ h sp0.1 p_38 k41 m v92) 17 102 (Nat.le_of_ble_eq_true rfl) (Nat.le_of_ble_eq_true rfl)) (fun h94 q93 => ?_) (fun E h1 q => q.elim)
          have q93s := q93
          have sp96 := sp0.tr q93s
          refine tw_aload 2 dX5_change_113 rfl ?_
          obtain ⟨e98, f99, n_100, r_101, c_102, go_103, so_104, v_105, rd_106, rf_107, t_108, rfl, k109, k110, k111, k112, k113, k114, k115, k116⟩ := sp96.1 q44 2 (k42 _ rfl) (by decide)
          refine tw_getN (v := .ref v_105) rfl in_4 3 dX5_change_115 w_508 rfl (by decide) f99 rfl ?_
          refine tw_iload_n 6 dX5_change_118 rfl rfl ?_
          refine tw_iload_n 7 dX5_change_119 rfl rfl ?_
          obtain ⟨e117, f118, a_119, b_120, rfl⟩ := sp96.1 v_105 1 k109 (by decide)
          refine tw_bv (tw_callVN (M := mX5_change) (pc := 120) okX3_add dX5_change_120 w_534 rfl f118 [.int m, .int gr] [] rfl rfl ⟨by decide, by decide⟩ (Nat.le_of_ble_eq_true rfl) (c_X3_add d g τ h94 sp96.1 v_105 k109 m gr) 17 102 (Nat.le_of_ble_eq_true rfl) (Nat.le_of_ble_eq_true rfl)) (fun h122 q121 => ?_) (fun E h1 q => q.elim)
          have q121s := q121
          have sp124 := sp96.tr q121s
          refine tw_aload 2 dX5_change_123 rfl ?_
          obtain ⟨e126, f127, n_128, r_129, c_130, go_131, so_132, v_133, rd_134, rf_135, t_136, rfl, k137, k138, k139, k140, k141, k142, k143, k144⟩ := sp124.1 q44 2 (k42 _ rfl) (by decide)
          refine tw_getN (v := .ref v_133) rfl in_4 3 dX5_change_125 w_508 rfl (by decide) f127 rfl ?_
          refine tw_iload 0 dX5_change_128 rfl ?_
          refine tw_iload 1 dX5_change_130 rfl ?_
          refine tw_ineg dX5_change_132 ?_
          refine tw_nmi (fun v145 ev145 => ?_)
          obtain ⟨e146, f147, a_148, b_149, rfl⟩ := sp124.1 v_133 1 k137 (by decide)
          refine tw_bv (tw_callVN (M := mX5_change) (pc := 133) okX3_add dX5_change_133 w_534 rfl f147 [.int r77, .int v145] [] rfl rfl ⟨by decide, by decide⟩ (Nat.le_of_ble_eq_true rfl) (c_X3_add d g τ h122 sp124.1 v_133 k137 r77 v145) 17 102 (Nat.le_of_ble_eq_true rfl) (Nat.le_of_ble_eq_true rfl)) (fun h151 q150 => ?_) (fun E h1 q => q.elim)
          have q150s := q150
          have sp153 := sp124.tr q150s
          refine tw_aload 3 dX5_change_136 rfl ?_
          obtain ⟨e155, f156, n_157, ar_158, p_159, pl_160, go_161, rfl, k162, k163, k164⟩ := sp153.1 r24 3 p25 (by decide)
          refine tw_getN (v := .ref p_159) rfl in_6 1 dX5_change_138 w_639 rfl (by decide) f156 rfl ?_
          refine tw_iload 0 dX5_change_141 rfl ?_
          refine tw_iload 1 dX5_change_143 rfl ?_
          obtain ⟨e165, f166, a_167, b_168, rfl⟩ := sp153.1 p_159 1 k162 (by decide)
          refine tw_bv (tw_callVN (M := mX5_change) (pc := 145) okX3_add dX5_change_145 w_534 rfl f166 [.int r77, .int r74] [] rfl rfl ⟨by decide, by decide⟩ (Nat.le_of_ble_eq_true rfl) (c_X3_add d g τ h151 sp153.1 p_159 k162 r77 r74) 17 102 (Nat.le_of_ble_eq_true rfl) (Nat.le_of_ble_eq_true rfl)) (fun h170 q169 => ?_) (fun E h1 q => q.elim)
          have q169s := q169
          have sp172 := sp153.tr q169s
          refine tw_iload 1 dX5_change_148 rfl ?_
          exact tw_iret dX5_change_150 rfl (Or.inl ⟨_, rfl, sp172⟩)
        · exact tw_throwS (i := 10) (by decide +kernel) w_471 w_88 rfl at_ISE dX5_change_92 dX5_change_95 dX5_change_96 dX5_change_98 dX5_change_101 ⟨by decide, Nat.le_of_ble_eq_true rfl⟩ (Nat.le_of_ble_eq_true rfl) (Nat.le_of_ble_eq_true rfl) (Or.inr ⟨_, rfl, (Or.inr (Or.inr (rfl))), _, sp0⟩)
    · exact tw_throwS (i := 9) (by decide +kernel) w_471 w_88 rfl at_ISE dX5_change_43 dX5_change_46 dX5_change_47 dX5_change_49 dX5_change_52 ⟨by decide, Nat.le_of_ble_eq_true rfl⟩ (Nat.le_of_ble_eq_true rfl) (Nat.le_of_ble_eq_true rfl) (Or.inr ⟨_, rfl, (Or.inr (Or.inr (rfl))), _, sp0⟩)

set_option maxHeartbeats 4000000 in
set_option maxRecDepth 100000 in
theorem c_X5_payFreight (d : tw_D) (g : tw_G) (τ : tw_K) (h : tw_H) (hw : tw_wt d g τ h) (x : Nat) (kx : τ x = 11) (p : Nat) (kp : τ p = 1) (m : Int32) (fr : Int32) : tw_Ct d mX5_payFreight 0 0 [.ref x, .ref p, .int m, .int fr] h (tw_qv (fun h1 => tw_sp d τ h g τ h1) tw_nx) := by
  refine tw_of (by decide +kernel) (Nat.le_of_ble_eq_true rfl) ?_
  show tw_W d mX5_payFreight _ 0 [(0, .ref x), (1, .ref p), (2, .int m), (3, .int fr)] [] h 0 0
  have sp0 := tw_sp.rf hw
  refine tw_aload_n 1 dX5_payFreight_0 rfl rfl ?_
  refine tw_iload_n 2 dX5_payFreight_1 rfl rfl ?_
  obtain ⟨e1, f2, a_3, b_4, rfl⟩ := sp0.1 p 1 kp (by decide)
  refine tw_bi (tw_callVN (M := mX5_payFreight) (pc := 2) okX3_of dX5_payFreight_2 w_189 rfl f2 [.int m] [] rfl rfl ⟨by decide, by decide⟩ (Nat.le_of_ble_eq_true rfl) (c_X3_of d g τ h sp0.1 p kp m) 0 0 (Nat.le_of_ble_eq_true rfl) (Nat.le_of_ble_eq_true rfl)) (fun r7 h6 q5 => ?_) (fun E h1 q => q.elim)
  rw [q5]
  refine tw_iload_n 3 dX5_payFreight_5 rfl rfl ?_
  refine tw_bi (tw_callS (M := mX5_payFreight) (pc := 6) okX5_thousandthsRoundedUp dX5_payFreight_6 w_317 [.int r7, .int fr] [] rfl rfl ⟨by decide, by decide⟩ (Nat.le_of_ble_eq_true rfl) (c_X5_thousandthsRoundedUp d g τ h sp0.1 r7 fr) 0 0 (Nat.le_of_ble_eq_true rfl) (Nat.le_of_ble_eq_true rfl)) (fun r10 h9 q8 => ?_) (fun E h1 q => q.elim)
  rw [q8]
  refine tw_istore [(4, .int r10), (0, .ref x), (1, .ref p), (2, .int m), (3, .int fr)] dX5_payFreight_9 (by decide) rfl ?_
  refine tw_aload_n 2 dX5_payFreight_11 rfl rfl ?_
  refine tw_iload_n 3 dX5_payFreight_12 rfl rfl ?_
  refine tw_iload 0 dX5_payFreight_13 rfl ?_
  refine tw_ineg dX5_payFreight_15 ?_
  refine tw_nmi (fun v11 ev11 => ?_)
  refine tw_bv (tw_callVN (M := mX5_payFreight) (pc := 16) okX3_add dX5_payFreight_16 w_534 rfl f2 [.int m, .int v11] [] rfl rfl ⟨by decide, by decide⟩ (Nat.le_of_ble_eq_true rfl) (c_X3_add d g τ h sp0.1 p kp m v11) 0 0 (Nat.le_of_ble_eq_true rfl) (Nat.le_of_ble_eq_true rfl)) (fun h13 q12 => ?_) (fun E h1 q => q.elim)
  have q12s := q12
  have sp15 := sp0.tr q12s
  refine tw_aload_n 1 dX5_payFreight_19 rfl rfl ?_
  obtain ⟨e17, f18, td_19, ca_20, ha_21, da_22, c1_23, c2_24, c3_25, c4_26, rfl, k27, k28, k29, k30, k31, k32, k33, k34, k35, k36, k37⟩ := sp15.1 x 11 kx (by decide)
  refine tw_get (v := .ref c1_23) rfl in_9 8 dX5_payFreight_20 w_148 rfl (by decide) f18 rfl ?_
  refine tw_iload_n 3 dX5_payFreight_23 rfl rfl ?_
  refine tw_iload 0 dX5_payFreight_24 rfl ?_
  obtain ⟨e38, f39, a_40, b_41, rfl⟩ := sp15.1 c1_23 1 k30 (by decide)
  refine tw_bv (tw_callVN (M := mX5_payFreight) (pc := 26) okX3_add dX5_payFreight_26 w_534 rfl f39 [.int m, .int r10] [] rfl rfl ⟨by decide, by decide⟩ (Nat.le_of_ble_eq_true rfl) (c_X3_add d g τ h13 sp15.1 c1_23 k30 m r10) 0 0 (Nat.le_of_ble_eq_true rfl) (Nat.le_of_ble_eq_true rfl)) (fun h43 q42 => ?_) (fun E h1 q => q.elim)
  have q42s := q42
  have sp45 := sp15.tr q42s
  exact tw_vret dX5_payFreight_29 rfl (Or.inl ⟨rfl, sp45⟩)

set_option maxHeartbeats 4000000 in
set_option maxRecDepth 100000 in
theorem c_X5_send (d : tw_D) (g : tw_G) (τ : tw_K) (h : tw_H) (hw : tw_wt d g τ h) (x : Nat) (kx : τ x = 11) (a : Int32) (b : Int32) : tw_Ct d mX5_send 20 120 [.ref x, .int a, .int b] h (tw_qi (fun r h1 => tw_sp d τ h g τ h1) (fun E h1 => (E = tw_IOE ∨ E = tw_ISE) ∧ ∃ τ1, tw_sp d τ h g τ1 h1)) := by
  refine tw_of (by decide +kernel) (Nat.le_of_ble_eq_true rfl) ?_
  show tw_W d mX5_send _ 0 [(0, .ref x), (1, .int a), (2, .int b)] [] h 20 120
  have sp0 := tw_sp.rf hw
  refine tw_aload_n 0 dX5_send_0 rfl rfl ?_
  refine tw_iload_n 1 dX5_send_1 rfl rfl ?_
  obtain ⟨e1, f2, td_3, ca_4, ha_5, da_6, c1_7, c2_8, c3_9, c4_10, rfl, k11, k12, k13, k14, k15, k16, k17, k18, k19, k20, k21⟩ := sp0.1 x 11 kx (by decide)
  refine tw_br (tw_callV (M := mX5_send) (pc := 2) okX5_houseAt dX5_send_2 w_664 rfl f2 [.int a] [] rfl rfl ⟨by decide, by decide⟩ (Nat.le_of_ble_eq_true rfl) (c_X5_houseAt d g τ h sp0.1 x kx a) 19 114 (Nat.le_of_ble_eq_true rfl) (Nat.le_of_ble_eq_true rfl)) (fun r24 h23 q22 => ?_) (fun E h1 q => Or.inr ⟨E, rfl, (Or.inl q.1), ⟨τ, by rw [q.2]; exact sp0⟩⟩)
  obtain ⟨q22e, p25⟩ := q22
  rw [q22e]
  refine tw_astore_n [(3, .ref r24), (0, .ref x), (1, .int a), (2, .int b)] dX5_send_5 rfl (by decide) rfl ?_
  refine tw_aload_n 1 dX5_send_6 rfl rfl ?_
  refine tw_iload_n 3 dX5_send_7 rfl rfl ?_
  refine tw_br (tw_callV (M := mX5_send) (pc := 8) okX5_countryAt dX5_send_8 w_546 rfl f2 [.int b] [] rfl rfl ⟨by decide, by decide⟩ (Nat.le_of_ble_eq_true rfl) (c_X5_countryAt d g τ h sp0.1 x kx b) 18 108 (Nat.le_of_ble_eq_true rfl) (Nat.le_of_ble_eq_true rfl)) (fun r28 h27 q26 => ?_) (fun E h1 q => Or.inr ⟨E, rfl, (Or.inl q.1), ⟨τ, by rw [q.2]; exact sp0⟩⟩)
  obtain ⟨q26e, p29⟩ := q26
  rw [q26e]
  refine tw_astore [(4, .ref r28), (3, .ref r24), (0, .ref x), (1, .int a), (2, .int b)] dX5_send_11 (by decide) rfl ?_
  refine tw_aload_n 1 dX5_send_13 rfl rfl ?_
  obtain ⟨e30, f31, n_32, ar_33, p_34, pl_35, go_36, rfl, k37, k38, k39⟩ := sp0.1 r24 3 p25 (by decide)
  cases pl_35 with
  | none =>
    refine tw_getN (v := .null) rfl in_6 2 dX5_send_14 w_641 rfl (by decide) f31 rfl ?_
    refine tw_astoreN [(5, .null), (4, .ref r28), (3, .ref r24), (0, .ref x), (1, .int a), (2, .int b)] dX5_send_17 (by decide) rfl ?_
    refine tw_aloadN 0 dX5_send_19 rfl ?_
    refine tw_ifnullN 31 dX5_send_21 (by decide) ?_
    exact tw_throwS (i := 11) (by decide +kernel) w_471 w_88 rfl at_ISE dX5_send_31 dX5_send_34 dX5_send_35 dX5_send_37 dX5_send_40 ⟨by decide, Nat.le_of_ble_eq_true rfl⟩ (Nat.le_of_ble_eq_true rfl) (Nat.le_of_ble_eq_true rfl) (Or.inr ⟨_, rfl, (Or.inr (rfl)), _, sp0⟩)
  | some q40 =>
    refine tw_getN (v := .ref q40) rfl in_6 2 dX5_send_14 w_641 rfl (by decide) f31 rfl ?_
    refine tw_astore [(5, .ref q40), (4, .ref r28), (3, .ref r24), (0, .ref x), (1, .int a), (2, .int b)] dX5_send_17 (by decide) rfl ?_
    refine tw_aload 0 dX5_send_19 rfl ?_
    refine tw_ifnull dX5_send_21 ?_
    refine tw_aload 0 dX5_send_24 rfl ?_
    refine tw_aload 1 dX5_send_26 rfl ?_
    refine tw_acmp_ne (rx := (some q40)) (ry := (some r28)) 41 dX5_send_28 (by decide) (fun c41 => ?_) (fun c41 => ?_)
    · refine tw_aload_n 3 dX5_send_41 rfl rfl ?_
      refine tw_aload_n 2 dX5_send_42 rfl rfl ?_
      refine tw_getN (v := .ref p_34) rfl in_6 1 dX5_send_43 w_639 rfl (by decide) f31 rfl ?_
      refine tw_iconst (v := 0) dX5_send_46 (by decide) ?_
      refine tw_aload 0 dX5_send_47 rfl ?_
      refine tw_aload 1 dX5_send_49 rfl ?_
      obtain ⟨e42, f43, n_44, r_45, c_46, go_47, so_48, v_49, rd_50, rf_51, t_52, rfl, k53, k54, k55, k56, k57, k58, k59, k60⟩ := sp0.1 r28 2 p29 (by decide)
      refine tw_getN (v := .int n_44) rfl in_4 0 dX5_send_51 w_502 rfl (by decide) f43 rfl ?_
      obtain ⟨e61, f62, n_63, r_64, c_65, go_66, so_67, v_68, rd_69, rf_70, t_71, rfl, k72, k73, k74, k75, k76, k77, k78, k79⟩ := sp0.1 q40 2 (k38 _ rfl) (by decide)
      refine tw_bi (tw_callVN (M := mX5_send) (pc := 54) okX0_freightTo dX5_send_54 w_231 rfl f62 [.int n_44] [.int 0, .ref p_34, .ref x] rfl rfl ⟨by decide, by decide⟩ (Nat.le_of_ble_eq_true rfl) (c_X0_freightTo d g τ h sp0.1 q40 (k38 _ rfl) n_44) 18 108 (Nat.le_of_ble_eq_true rfl) (Nat.le_of_ble_eq_true rfl)) (fun r82 h81 q80 => ?_) (fun E h1 q => q.elim)
      rw [q80]
      refine tw_bv (tw_callV (M := mX5_send) (pc := 57) okX5_payFreight dX5_send_57 w_679 rfl f2 [.ref p_34, .int 0, .int r82] [] rfl rfl ⟨by decide, by decide⟩ (Nat.le_of_ble_eq_true rfl) (c_X5_payFreight d g τ h sp0.1 x kx p_34 k37 0 r82) 18 108 (Nat.le_of_ble_eq_true rfl) (Nat.le_of_ble_eq_true rfl)) (fun h84 q83 => ?_) (fun E h1 q => q.elim)
      have q83s := q83
      have sp86 := sp0.tr q83s
      refine tw_aload_n 3 dX5_send_60 rfl rfl ?_
      refine tw_aload_n 2 dX5_send_61 rfl rfl ?_
      obtain ⟨e88, f89, n_90, ar_91, p_92, pl_93, go_94, rfl, k95, k96, k97⟩ := sp86.1 r24 3 p25 (by decide)
      refine tw_getN (v := .ref p_92) rfl in_6 1 dX5_send_62 w_639 rfl (by decide) f89 rfl ?_
      refine tw_iconst (v := 1) dX5_send_65 (by decide) ?_
      refine tw_aload 0 dX5_send_66 rfl ?_
      refine tw_aload 1 dX5_send_68 rfl ?_
      obtain ⟨e98, f99, n_100, r_101, c_102, go_103, so_104, v_105, rd_106, rf_107, t_108, rfl, k109, k110, k111, k112, k113, k114, k115, k116⟩ := sp86.1 r28 2 p29 (by decide)
      refine tw_getN (v := .int n_100) rfl in_4 0 dX5_send_70 w_502 rfl (by decide) f99 rfl ?_
      obtain ⟨e117, f118, n_119, r_120, c_121, go_122, so_123, v_124, rd_125, rf_126, t_127, rfl, k128, k129, k130, k131, k132, k133, k134, k135⟩ := sp86.1 q40 2 (k38 _ rfl) (by decide)
      refine tw_bi (tw_callVN (M := mX5_send) (pc := 73) okX0_freightTo dX5_send_73 w_231 rfl f118 [.int n_100] [.int 1, .ref p_92, .ref x] rfl rfl ⟨by decide, by decide⟩ (Nat.le_of_ble_eq_true rfl) (c_X0_freightTo d g τ h84 sp86.1 q40 (k38 _ rfl) n_100) 18 108 (Nat.le_of_ble_eq_true rfl) (Nat.le_of_ble_eq_true rfl)) (fun r138 h137 q136 => ?_) (fun E h1 q => q.elim)
      rw [q136]
      obtain ⟨e139, f140, td_141, ca_142, ha_143, da_144, c1_145, c2_146, c3_147, c4_148, rfl, k149, k150, k151, k152, k153, k154, k155, k156, k157, k158, k159⟩ := sp86.1 x 11 kx (by decide)
      refine tw_bv (tw_callV (M := mX5_send) (pc := 76) okX5_payFreight dX5_send_76 w_679 rfl f140 [.ref p_92, .int 1, .int r138] [] rfl rfl ⟨by decide, by decide⟩ (Nat.le_of_ble_eq_true rfl) (c_X5_payFreight d g τ h84 sp86.1 x kx p_92 k95 1 r138) 18 108 (Nat.le_of_ble_eq_true rfl) (Nat.le_of_ble_eq_true rfl)) (fun h161 q160 => ?_) (fun E h1 q => q.elim)
      have q160s := q160
      have sp163 := sp86.tr q160s
      refine tw_aload_n 2 dX5_send_79 rfl rfl ?_
      refine tw_aload 1 dX5_send_80 rfl ?_
      refine tw_aload_n 3 dX5_send_82 rfl rfl ?_
      obtain ⟨e165, f166, td_167, ca_168, ha_169, da_170, c1_171, c2_172, c3_173, c4_174, rfl, k175, k176, k177, k178, k179, k180, k181, k182, k183, k184, k185⟩ := sp163.1 x 11 kx (by decide)
      refine tw_get (v := .int td_167) rfl in_9 0 dX5_send_83 w_140 rfl (by decide) f166 rfl ?_
      refine tw_aload 0 dX5_send_86 rfl ?_
      refine tw_aload 1 dX5_send_88 rfl ?_
      obtain ⟨e186, f187, n_188, r_189, c_190, go_191, so_192, v_193, rd_194, rf_195, t_196, rfl, k197, k198, k199, k200, k201, k202, k203, k204⟩ := sp163.1 r28 2 p29 (by decide)
      refine tw_getN (v := .int n_188) rfl in_4 0 dX5_send_90 w_502 rfl (by decide) f187 rfl ?_
      obtain ⟨e205, f206, n_207, r_208, c_209, go_210, so_211, v_212, rd_213, rf_214, t_215, rfl, k216, k217, k218, k219, k220, k221, k222, k223⟩ := sp163.1 q40 2 (k38 _ rfl) (by decide)
      refine tw_bi (tw_callVN (M := mX5_send) (pc := 93) okX0_daysTo dX5_send_93 w_226 rfl f206 [.int n_188] [.int td_167, .ref r28, .ref r24] rfl rfl ⟨by decide, by decide⟩ (Nat.le_of_ble_eq_true rfl) (c_X0_daysTo d g τ h161 sp163.1 q40 (k38 _ rfl) n_188) 18 108 (Nat.le_of_ble_eq_true rfl) (Nat.le_of_ble_eq_true rfl)) (fun r226 h225 q224 => ?_) (fun E h1 q => q.elim)
      rw [q224]
      refine tw_iadd dX5_send_96 ?_
      refine tw_nmi (fun v227 ev227 => ?_)
      obtain ⟨e228, f229, n_230, ar_231, p_232, pl_233, go_234, rfl, k235, k236, k237⟩ := sp163.1 r24 3 p25 (by decide)
      refine tw_bv (tw_callVN (M := mX5_send) (pc := 97) okX2_leaveFor dX5_send_97 w_683 rfl f229 [.ref r28, .int v227] [] rfl rfl ⟨by decide, by decide⟩ (Nat.le_of_ble_eq_true rfl) (c_X2_leaveFor d g τ h161 sp163.1 r24 p25 r28 p29 v227) 18 108 (Nat.le_of_ble_eq_true rfl) (Nat.le_of_ble_eq_true rfl)) (fun h239 q238 => ?_) (fun E h1 q => q.elim)
      have q238s := q238
      have sp241 := sp163.tr q238s
      refine tw_aload_n 2 dX5_send_100 rfl rfl ?_
      obtain ⟨e243, f244, n_245, ar_246, p_247, pl_248, go_249, rfl, k250, k251, k252⟩ := sp241.1 r24 3 p25 (by decide)
      refine tw_getN (v := .int ar_246) rfl in_6 4 dX5_send_101 w_645 rfl (by decide) f244 rfl ?_
      exact tw_iret dX5_send_104 rfl (Or.inl ⟨_, rfl, sp241⟩)
    · exact tw_throwS (i := 11) (by decide +kernel) w_471 w_88 rfl at_ISE dX5_send_31 dX5_send_34 dX5_send_35 dX5_send_37 dX5_send_40 ⟨by decide, Nat.le_of_ble_eq_true rfl⟩ (Nat.le_of_ble_eq_true rfl) (Nat.le_of_ble_eq_true rfl) (Or.inr ⟨_, rfl, (Or.inr (rfl)), _, sp0⟩)

set_option maxHeartbeats 4000000 in
set_option maxRecDepth 100000 in
theorem c_X5_wearVaults (d : tw_D) (g : tw_G) (τ : tw_K) (h : tw_H) (hw : tw_wt d g τ h) (x : Nat) (kx : τ x = 11) : tw_Ct d mX5_wearVaults 0 0 [.ref x] h (tw_qv (fun h1 => ∃ τ1, tw_sp d τ h g τ1 h1) tw_nx) := by
  refine tw_of (by decide +kernel) (Nat.le_of_ble_eq_true rfl) ?_
  show tw_W d mX5_wearVaults _ 0 [(0, .ref x)] [] h 0 0
  have sp0 := tw_sp.rf hw
  refine tw_aload_n 0 dX5_wearVaults_0 rfl rfl ?_
  obtain ⟨e1, f2, td_3, ca_4, ha_5, da_6, c1_7, c2_8, c3_9, c4_10, rfl, k11, k12, k13, k14, k15, k16, k17, k18, k19, k20, k21⟩ := sp0.1 x 11 kx (by decide)
  refine tw_get (v := .ref ca_4) rfl in_9 2 dX5_wearVaults_1 w_142 rfl (by decide) f2 rfl ?_
  refine tw_astore_n [(1, .ref ca_4), (0, .ref x)] dX5_wearVaults_4 rfl (by decide) rfl ?_
  refine tw_aload_n 0 dX5_wearVaults_5 rfl rfl ?_
  obtain ⟨e22, f23, F24, rfl, k25, pn26, pb27, px28⟩ := sp0.1 ca_4 8 k11 (by decide)
  refine tw_alen (v := nI 4) 4 rfl dX5_wearVaults_6 f23 rfl ?_
  refine tw_istore_n [(2, .int (nI 4)), (1, .ref ca_4), (0, .ref x)] dX5_wearVaults_7 rfl (by decide) rfl ?_
  refine tw_iconst (v := 0) dX5_wearVaults_8 (by decide) ?_
  refine tw_istore_n [(3, .int 0), (2, .int (nI 4)), (1, .ref ca_4), (0, .ref x)] dX5_wearVaults_9 rfl (by decide) rfl ?_
  have L32 : ∀ (r30 k29 : Nat) (τ33 : tw_K) (h34 : tw_H) (sp35 : tw_sp d τ h g τ33 h34), 4 + 1 ≤ k29 + r30 → k29 ≤ 4 → tw_W d mX5_wearVaults (tw_qv (fun h1 => ∃ τ1, tw_sp d τ h g τ1 h1) tw_nx) 10 [(0, .ref x), (1, .ref ca_4), (2, .int (nI 4)), (3, .int (nI k29))] [] h34 0 0 := by
    intro r30
    induction r30 with
    | zero => intro k29  τ33 h34 sp35 hk36 hk37; exact absurd hk36 (by omega)
    | succ r30 ih31 =>
      intro k29  τ33 h34 sp35 hk36 hk37
      refine tw_iload_n 3 dX5_wearVaults_10 rfl rfl ?_
      refine tw_iload_n 2 dX5_wearVaults_11 rfl rfl ?_
      refine tw_icmp_ge 67 dX5_wearVaults_12 (by decide) (fun c38 => ?_) (fun c38 => ?_)
      · exact tw_vret dX5_wearVaults_67 rfl (Or.inl ⟨rfl, ⟨_, (sp0.tr sp35)⟩⟩)
      · have kl39 := tw_klt (N := 4) c38 hk37 (by decide)
        refine tw_aload_n 1 dX5_wearVaults_15 rfl rfl ?_
        refine tw_iload_n 3 dX5_wearVaults_16 rfl rfl ?_
        obtain ⟨e40, f41, F42, rfl, k43, pn44, pb45, px46⟩ := sp35.1 ca_4 8 (sp35.2.1.k k11 (by decide)) (by decide)
        cases k47 : F42 ((nI k29)).toNatClampNeg with
        | none =>
          refine tw_aald (v := .null) 4 rfl rfl dX5_wearVaults_17 f41 (vp_in_nI (by omega) (by decide)) (by rw [k47]; rfl) ?_
          refine tw_astoreN [(4, .null), (0, .ref x), (1, .ref ca_4), (2, .int (nI 4)), (3, .int (nI k29))] dX5_wearVaults_18 (by decide) rfl ?_
          refine tw_aloadN 0 dX5_wearVaults_20 rfl ?_
          refine tw_ifnullN 61 dX5_wearVaults_22 (by decide) ?_
          obtain ⟨v49, ev49⟩ : ∃ y : Int32, y = (nI k29) + 1 := ⟨_, rfl⟩
          refine tw_iinc [(3, .int v49), (4, .null), (0, .ref x), (1, .ref ca_4), (2, .int (nI 4))] 4 dX5_wearVaults_61 rfl (by rw [ev49]; rfl) (by decide) rfl ?_
          refine tw_goto 10 dX5_wearVaults_64 (by decide) ?_
          have qv49 := tw_nI3 ev49
          rw [qv49]
          refine tw_lv [2, 3, 4, 0] rfl ?_
          exact ih31 (k29 + 1)  _ _ sp35 (by omega) (by omega)
        | some q48 =>
          have k50 := k43 _ _ k47
          refine tw_aald (v := .ref q48) 4 rfl rfl dX5_wearVaults_17 f41 (vp_in_nI (by omega) (by decide)) (by rw [k47]; rfl) ?_
          refine tw_astore [(4, .ref q48), (0, .ref x), (1, .ref ca_4), (2, .int (nI 4)), (3, .int (nI k29))] dX5_wearVaults_18 (by decide) rfl ?_
          refine tw_aload 0 dX5_wearVaults_20 rfl ?_
          refine tw_ifnull dX5_wearVaults_22 ?_
          refine tw_aload 0 dX5_wearVaults_25 rfl ?_
          obtain ⟨e51, f52, n_53, r_54, c_55, go_56, so_57, v_58, rd_59, rf_60, t_61, rfl, k62, k63, k64, k65, k66, k67, k68, k69⟩ := sp35.1 q48 2 k50 (by decide)
          refine tw_getN (v := .ref v_58) rfl in_4 3 dX5_wearVaults_27 w_508 rfl (by decide) f52 rfl ?_
          obtain ⟨e70, f71, a_72, b_73, rfl⟩ := sp35.1 v_58 1 k62 (by decide)
          refine tw_getN (v := .int b_73) rfl in_7 1 dX5_wearVaults_30 w_134 rfl (by decide) f71 rfl ?_
          refine tw_sipush (v := 10000) dX5_wearVaults_33 (by decide) ?_
          refine tw_idiv dX5_wearVaults_36 (by decide) ?_
          refine tw_nmi (fun v74 ev74 => ?_)
          refine tw_istore [(5, .int v74), (4, .ref q48), (0, .ref x), (1, .ref ca_4), (2, .int (nI 4)), (3, .int (nI k29))] dX5_wearVaults_37 (by decide) rfl ?_
          refine tw_aload 1 dX5_wearVaults_39 rfl ?_
          refine tw_getN (v := .ref v_58) rfl in_4 3 dX5_wearVaults_41 w_508 rfl (by decide) f52 rfl ?_
          refine tw_iconst (v := 1) dX5_wearVaults_44 (by decide) ?_
          refine tw_iload 0 dX5_wearVaults_45 rfl ?_
          refine tw_ineg dX5_wearVaults_47 ?_
          refine tw_nmi (fun v75 ev75 => ?_)
          refine tw_bv (tw_callVN (M := mX5_wearVaults) (pc := 48) okX3_add dX5_wearVaults_48 w_534 rfl f71 [.int 1, .int v75] [] rfl rfl ⟨by decide, by decide⟩ (Nat.le_of_ble_eq_true rfl) (c_X3_add d g τ33 h34 sp35.1 v_58 k62 1 v75) 0 0 (Nat.le_of_ble_eq_true rfl) (Nat.le_of_ble_eq_true rfl)) (fun h77 q76 => ?_) (fun E h1 q => q.elim)
          have q76s := q76
          have sp79 := sp35.tr q76s
          refine tw_aload_n 2 dX5_wearVaults_51 rfl rfl ?_
          obtain ⟨e81, f82, td_83, ca_84, ha_85, da_86, c1_87, c2_88, c3_89, c4_90, rfl, k91, k92, k93, k94, k95, k96, k97, k98, k99, k100, k101⟩ := sp79.1 x 11 (sp35.2.1.k kx (by decide)) (by decide)
          refine tw_get (v := .ref c3_89) rfl in_9 10 dX5_wearVaults_52 w_150 rfl (by decide) f82 rfl ?_
          refine tw_iconst (v := 1) dX5_wearVaults_55 (by decide) ?_
          refine tw_iload 0 dX5_wearVaults_56 rfl ?_
          obtain ⟨e102, f103, a_104, b_105, rfl⟩ := sp79.1 c3_89 1 k96 (by decide)
          refine tw_bv (tw_callVN (M := mX5_wearVaults) (pc := 58) okX3_add dX5_wearVaults_58 w_534 rfl f103 [.int 1, .int v74] [] rfl rfl ⟨by decide, by decide⟩ (Nat.le_of_ble_eq_true rfl) (c_X3_add d g τ33 h77 sp79.1 c3_89 k96 1 v74) 0 0 (Nat.le_of_ble_eq_true rfl) (Nat.le_of_ble_eq_true rfl)) (fun h107 q106 => ?_) (fun E h1 q => q.elim)
          have q106s := q106
          have sp109 := sp79.tr q106s
          obtain ⟨v111, ev111⟩ : ∃ y : Int32, y = (nI k29) + 1 := ⟨_, rfl⟩
          refine tw_iinc [(3, .int v111), (5, .int v74), (4, .ref q48), (0, .ref x), (1, .ref ca_4), (2, .int (nI 4))] 5 dX5_wearVaults_61 rfl (by rw [ev111]; rfl) (by decide) rfl ?_
          refine tw_goto 10 dX5_wearVaults_64 (by decide) ?_
          have qv111 := tw_nI3 ev111
          rw [qv111]
          refine tw_lv [3, 4, 5, 0] rfl ?_
          exact ih31 (k29 + 1)  _ _ sp109 (by omega) (by omega)
  refine tw_lv [3, 2, 1, 0] rfl ?_
  exact L32 (4 + 1) 0  _ _ (tw_sp.rf sp0.1) (by omega) (by omega)

set_option maxHeartbeats 4000000 in
set_option maxRecDepth 100000 in
theorem c_X5_beginDay (d : tw_D) (g : tw_G) (τ : tw_K) (h : tw_H) (hw : tw_wt d g τ h) (x : Nat) (kx : τ x = 11) : tw_Ct d mX5_beginDay 0 0 [.ref x] h (tw_qv (fun h1 => ∃ τ1, tw_sp d τ h g τ1 h1) tw_nx) := by
  refine tw_of (by decide +kernel) (Nat.le_of_ble_eq_true rfl) ?_
  show tw_W d mX5_beginDay _ 0 [(0, .ref x)] [] h 0 0
  have sp0 := tw_sp.rf hw
  refine tw_aload_n 0 dX5_beginDay_0 rfl rfl ?_
  refine tw_dup dX5_beginDay_1 rfl ?_
  obtain ⟨e1, f2, td_3, ca_4, ha_5, da_6, c1_7, c2_8, c3_9, c4_10, rfl, k11, k12, k13, k14, k15, k16, k17, k18, k19, k20, k21⟩ := sp0.1 x 11 kx (by decide)
  refine tw_get (v := .int td_3) rfl in_9 0 dX5_beginDay_2 w_140 rfl (by decide) f2 rfl ?_
  refine tw_iconst (v := 1) dX5_beginDay_5 (by decide) ?_
  refine tw_iadd dX5_beginDay_6 ?_
  refine tw_nmi (fun v22 ev22 => ?_)
  refine tw_put rfl in_9 tyX5 tyX5_ok nmX5 0 dX5_beginDay_7 w_140 rfl (by decide) f2 rfl rfl rfl rfl (Nat.le_of_ble_eq_true rfl) [.int v22, .int (g.1 0), .ref ca_4, .int (nI (g.2 0)), .ref ha_5, .int (nI (g.2 1)), .ref da_6, .int (nI (g.2 2)), .ref c1_7, .ref c2_8, .ref c3_9, .ref c4_10] rfl ?_
  obtain ⟨h23, eh23⟩ : ∃ z : tw_H, z = tw_up h x (.inr (9, [.int v22, .int (g.1 0), .ref ca_4, .int (nI (g.2 0)), .ref ha_5, .int (nI (g.2 1)), .ref da_6, .int (nI (g.2 2)), .ref c1_7, .ref c2_8, .ref c3_9, .ref c4_10])) := ⟨_, rfl⟩
  rw [← eh23]
  have sp24 : tw_sp d τ h g τ h23 := by rw [eh23]; exact sp0.set kx (by decide) ⟨v22, ca_4, ha_5, da_6, c1_7, c2_8, c3_9, c4_10, rfl, k11, k12, k13, k14, k15, k16, k17, k18, k19, k20, k21⟩
  have f25 : h23 x = some (.inr (9, [.int v22, .int (g.1 0), .ref ca_4, .int (nI (g.2 0)), .ref ha_5, .int (nI (g.2 1)), .ref da_6, .int (nI (g.2 2)), .ref c1_7, .ref c2_8, .ref c3_9, .ref c4_10])) := by rw [eh23]; exact tw_up_s
  refine tw_aload_n 0 dX5_beginDay_10 rfl rfl ?_
  refine tw_get (v := .ref ha_5) rfl in_9 4 dX5_beginDay_11 w_144 rfl (by decide) f25 rfl ?_
  refine tw_astore_n [(1, .ref ha_5), (0, .ref x)] dX5_beginDay_14 rfl (by decide) rfl ?_
  refine tw_aload_n 0 dX5_beginDay_15 rfl rfl ?_
  obtain ⟨e26, f27, F28, rfl, k29, pn30, pb31, px32⟩ := sp24.1 ha_5 9 k12 (by decide)
  refine tw_alen (v := nI 6) 5 rfl dX5_beginDay_16 f27 rfl ?_
  refine tw_istore_n [(2, .int (nI 6)), (1, .ref ha_5), (0, .ref x)] dX5_beginDay_17 rfl (by decide) rfl ?_
  refine tw_iconst (v := 0) dX5_beginDay_18 (by decide) ?_
  refine tw_istore_n [(3, .int 0), (2, .int (nI 6)), (1, .ref ha_5), (0, .ref x)] dX5_beginDay_19 rfl (by decide) rfl ?_
  have L36 : ∀ (r34 k33 : Nat) (τ37 : tw_K) (h38 : tw_H) (sp39 : tw_sp d τ h23 g τ37 h38), 6 + 1 ≤ k33 + r34 → k33 ≤ 6 → tw_W d mX5_beginDay (tw_qv (fun h1 => ∃ τ1, tw_sp d τ h g τ1 h1) tw_nx) 20 [(0, .ref x), (1, .ref ha_5), (2, .int (nI 6)), (3, .int (nI k33))] [] h38 0 0 := by
    intro r34
    induction r34 with
    | zero => intro k33  τ37 h38 sp39 hk40 hk41; exact absurd hk40 (by omega)
    | succ r34 ih35 =>
      intro k33  τ37 h38 sp39 hk40 hk41
      refine tw_iload_n 3 dX5_beginDay_20 rfl rfl ?_
      refine tw_iload_n 2 dX5_beginDay_21 rfl rfl ?_
      refine tw_icmp_ge 50 dX5_beginDay_22 (by decide) (fun c42 => ?_) (fun c42 => ?_)
      · refine tw_aload_n 0 dX5_beginDay_50 rfl rfl ?_
        obtain ⟨e43, f44, td_45, ca_46, ha_47, da_48, c1_49, c2_50, c3_51, c4_52, rfl, k53, k54, k55, k56, k57, k58, k59, k60, k61, k62, k63⟩ := sp39.1 x 11 (sp39.2.1.k kx (by decide)) (by decide)
        refine tw_get (v := .int td_45) rfl in_9 0 dX5_beginDay_51 w_140 rfl (by decide) f44 rfl ?_
        refine tw_bi (tw_callS (M := mX5_beginDay) (pc := 54) okX5_isWearDay dX5_beginDay_54 w_325 [.int td_45] [] rfl rfl ⟨by decide, by decide⟩ (Nat.le_of_ble_eq_true rfl) (c_X5_isWearDay d g τ37 h38 sp39.1 td_45) 0 0 (Nat.le_of_ble_eq_true rfl) (Nat.le_of_ble_eq_true rfl)) (fun r66 h65 q64 => ?_) (fun E h1 q => q.elim)
        obtain ⟨q64e, p67⟩ := q64
        rw [q64e]
        refine tw_if_eq 64 dX5_beginDay_57 (by decide) (fun c68 => ?_) (fun c68 => ?_)
        · exact tw_vret dX5_beginDay_64 rfl (Or.inl ⟨rfl, ⟨_, (sp24.tr sp39)⟩⟩)
        · refine tw_aload_n 0 dX5_beginDay_60 rfl rfl ?_
          refine tw_bv (tw_callV (M := mX5_beginDay) (pc := 61) okX5_wearVaults dX5_beginDay_61 w_703 rfl f44 [] [] rfl rfl ⟨by decide, by decide⟩ (Nat.le_of_ble_eq_true rfl) (c_X5_wearVaults d g τ37 h38 sp39.1 x (sp39.2.1.k kx (by decide))) 0 0 (Nat.le_of_ble_eq_true rfl) (Nat.le_of_ble_eq_true rfl)) (fun h70 q69 => ?_) (fun E h1 q => q.elim)
          obtain ⟨τ74, q69s⟩ := q69
          have sp72 := sp39.tr q69s
          have k75 := q69s.2.1.k (sp39.2.1.k kx (by decide)) (by decide)
          have k76 := q69s.2.1.k (sp39.2.1.k k11 (by decide)) (by decide)
          have k77 := q69s.2.1.k (sp39.2.1.k k12 (by decide)) (by decide)
          have k78 := q69s.2.1.k (sp39.2.1.k k13 (by decide)) (by decide)
          have k79 := q69s.2.1.k (sp39.2.1.k k14 (by decide)) (by decide)
          have k80 := q69s.2.1.k (sp39.2.1.k k15 (by decide)) (by decide)
          have k81 := q69s.2.1.k (sp39.2.1.k k16 (by decide)) (by decide)
          have k82 := q69s.2.1.k (sp39.2.1.k k17 (by decide)) (by decide)
          have k83 := q69s.2.1.k k53 (by decide)
          have k84 := q69s.2.1.k k54 (by decide)
          have k85 := q69s.2.1.k k55 (by decide)
          have k86 := q69s.2.1.k k56 (by decide)
          have k87 := q69s.2.1.k k57 (by decide)
          have k88 := q69s.2.1.k k58 (by decide)
          have k89 := q69s.2.1.k k59 (by decide)
          exact tw_vret dX5_beginDay_64 rfl (Or.inl ⟨rfl, ⟨_, (sp24.tr sp72)⟩⟩)
      · have kl90 := tw_klt (N := 6) c42 hk41 (by decide)
        refine tw_aload_n 1 dX5_beginDay_25 rfl rfl ?_
        refine tw_iload_n 3 dX5_beginDay_26 rfl rfl ?_
        obtain ⟨e91, f92, F93, rfl, k94, pn95, pb96, px97⟩ := sp39.1 ha_5 9 (sp39.2.1.k k12 (by decide)) (by decide)
        cases k98 : F93 ((nI k33)).toNatClampNeg with
        | none =>
          refine tw_aald (v := .null) 5 rfl rfl dX5_beginDay_27 f92 (vp_in_nI (by omega) (by decide)) (by rw [k98]; rfl) ?_
          refine tw_astoreN [(4, .null), (0, .ref x), (1, .ref ha_5), (2, .int (nI 6)), (3, .int (nI k33))] dX5_beginDay_28 (by decide) rfl ?_
          refine tw_aloadN 0 dX5_beginDay_30 rfl ?_
          refine tw_ifnullN 44 dX5_beginDay_32 (by decide) ?_
          obtain ⟨v100, ev100⟩ : ∃ y : Int32, y = (nI k33) + 1 := ⟨_, rfl⟩
          refine tw_iinc [(3, .int v100), (4, .null), (0, .ref x), (1, .ref ha_5), (2, .int (nI 6))] 4 dX5_beginDay_44 rfl (by rw [ev100]; rfl) (by decide) rfl ?_
          refine tw_goto 20 dX5_beginDay_47 (by decide) ?_
          have qv100 := tw_nI3 ev100
          rw [qv100]
          refine tw_lv [2, 3, 4, 0] rfl ?_
          exact ih35 (k33 + 1)  _ _ sp39 (by omega) (by omega)
        | some q99 =>
          have k101 := k94 _ _ k98
          refine tw_aald (v := .ref q99) 5 rfl rfl dX5_beginDay_27 f92 (vp_in_nI (by omega) (by decide)) (by rw [k98]; rfl) ?_
          refine tw_astore [(4, .ref q99), (0, .ref x), (1, .ref ha_5), (2, .int (nI 6)), (3, .int (nI k33))] dX5_beginDay_28 (by decide) rfl ?_
          refine tw_aload 0 dX5_beginDay_30 rfl ?_
          refine tw_ifnull dX5_beginDay_32 ?_
          refine tw_aload 0 dX5_beginDay_35 rfl ?_
          refine tw_aload_n 1 dX5_beginDay_37 rfl rfl ?_
          obtain ⟨e102, f103, td_104, ca_105, ha_106, da_107, c1_108, c2_109, c3_110, c4_111, rfl, k112, k113, k114, k115, k116, k117, k118, k119, k120, k121, k122⟩ := sp39.1 x 11 (sp39.2.1.k kx (by decide)) (by decide)
          refine tw_get (v := .int td_104) rfl in_9 0 dX5_beginDay_38 w_140 rfl (by decide) f103 rfl ?_
          obtain ⟨e123, f124, n_125, ar_126, p_127, pl_128, go_129, rfl, k130, k131, k132⟩ := sp39.1 q99 3 k101 (by decide)
          refine tw_bv (tw_callVN (M := mX5_beginDay) (pc := 41) okX2_arriveBy dX5_beginDay_41 w_699 rfl f124 [.int td_104] [] rfl rfl ⟨by decide, by decide⟩ (Nat.le_of_ble_eq_true rfl) (c_X2_arriveBy d g τ37 h38 sp39.1 q99 k101 td_104) 0 0 (Nat.le_of_ble_eq_true rfl) (Nat.le_of_ble_eq_true rfl)) (fun h134 q133 => ?_) (fun E h1 q => q.elim)
          have q133s := q133
          have sp136 := sp39.tr q133s
          obtain ⟨v138, ev138⟩ : ∃ y : Int32, y = (nI k33) + 1 := ⟨_, rfl⟩
          refine tw_iinc [(3, .int v138), (4, .ref q99), (0, .ref x), (1, .ref ha_5), (2, .int (nI 6))] 4 dX5_beginDay_44 rfl (by rw [ev138]; rfl) (by decide) rfl ?_
          refine tw_goto 20 dX5_beginDay_47 (by decide) ?_
          have qv138 := tw_nI3 ev138
          rw [qv138]
          refine tw_lv [2, 3, 4, 0] rfl ?_
          exact ih35 (k33 + 1)  _ _ sp136 (by omega) (by omega)
  refine tw_lv [3, 2, 1, 0] rfl ?_
  exact L36 (6 + 1) 0  _ _ (tw_sp.rf sp24.1) (by omega) (by omega)

set_option maxHeartbeats 4000000 in
set_option maxRecDepth 100000 in
theorem c_X5_pass (d : tw_D) (g : tw_G) (τ : tw_K) (h : tw_H) (hw : tw_wt d g τ h) (x : Nat) (kx : τ x = 11) (dy : Int32) : tw_Ct d mX5_pass 20 120 [.ref x, .int dy] h (tw_qi (fun r h1 => ∃ τ1, tw_sp d τ h g τ1 h1) (fun E h1 => (E = tw_IAE ∨ E = tw_ISE) ∧ ∃ τ1, tw_sp d τ h g τ1 h1)) := by
  refine tw_of (by decide +kernel) (Nat.le_of_ble_eq_true rfl) ?_
  show tw_W d mX5_pass _ 0 [(0, .ref x), (1, .int dy)] [] h 20 120
  have sp0 := tw_sp.rf hw
  refine tw_iload_n 1 dX5_pass_0 rfl rfl ?_
  refine tw_iconst (v := 1) dX5_pass_1 (by decide) ?_
  refine tw_sipush (v := 400) dX5_pass_2 (by decide) ?_
  refine tw_bv (tw_callS (M := mX5_pass) (pc := 5) okX5_needRange dX5_pass_5 w_399 [.int dy, .int 1, .int 400] [] rfl rfl ⟨by decide, by decide⟩ (Nat.le_of_ble_eq_true rfl) (c_X5_needRange d g τ h sp0.1 dy 1 400) 19 114 (Nat.le_of_ble_eq_true rfl) (Nat.le_of_ble_eq_true rfl)) (fun h2 q1 => ?_) (fun E h1 q => Or.inr ⟨E, rfl, (Or.inl q.1), ⟨τ, by rw [q.2]; exact sp0⟩⟩)
  obtain ⟨q1e, p4⟩ := q1
  rw [q1e]
  refine tw_aload_n 0 dX5_pass_8 rfl rfl ?_
  obtain ⟨e5, f6, td_7, ca_8, ha_9, da_10, c1_11, c2_12, c3_13, c4_14, rfl, k15, k16, k17, k18, k19, k20, k21, k22, k23, k24, k25⟩ := sp0.1 x 11 kx (by decide)
  refine tw_get (v := .int td_7) rfl in_9 0 dX5_pass_9 w_140 rfl (by decide) f6 rfl ?_
  refine tw_sipush (v := 3000) dX5_pass_12 (by decide) ?_
  refine tw_iload_n 1 dX5_pass_15 rfl rfl ?_
  refine tw_isub dX5_pass_16 ?_
  refine tw_nmi (fun v26 ev26 => ?_)
  refine tw_icmp_le 30 dX5_pass_17 (by decide) (fun c27 => ?_) (fun c27 => ?_)
  · refine tw_iconst (v := 0) dX5_pass_30 (by decide) ?_
    refine tw_istore_n [(2, .int 0), (0, .ref x), (1, .int dy)] dX5_pass_31 rfl (by decide) rfl ?_
    have L31 : ∀ (r29 : Nat) (x28 : Int32) (τ32 : tw_K) (h33 : tw_H) (sp34 : tw_sp d τ h g τ32 h33), (dy.toInt - x28.toInt).toNat < r29 → tw_W d mX5_pass (tw_qi (fun r h1 => ∃ τ1, tw_sp d τ h g τ1 h1) (fun E h1 => (E = tw_IAE ∨ E = tw_ISE) ∧ ∃ τ1, tw_sp d τ h g τ1 h1)) 32 [(0, .ref x), (1, .int dy), (2, .int x28)] [] h33 19 114 := by
      intro r29
      induction r29 with
      | zero => intro x28 τ32 h33 sp34 hk35; exact absurd hk35 (Nat.not_lt_zero _)
      | succ r29 ih30 =>
        intro x28 τ32 h33 sp34 hk35
        refine tw_iload_n 2 dX5_pass_32 rfl rfl ?_
        refine tw_iload_n 1 dX5_pass_33 rfl rfl ?_
        refine tw_icmp_ge 47 dX5_pass_34 (by decide) (fun c37 => ?_) (fun c37 => ?_)
        · refine tw_aload_n 0 dX5_pass_47 rfl rfl ?_
          obtain ⟨e38, f39, td_40, ca_41, ha_42, da_43, c1_44, c2_45, c3_46, c4_47, rfl, k48, k49, k50, k51, k52, k53, k54, k55, k56, k57, k58⟩ := sp34.1 x 11 (sp34.2.1.k kx (by decide)) (by decide)
          refine tw_get (v := .int td_40) rfl in_9 0 dX5_pass_48 w_140 rfl (by decide) f39 rfl ?_
          exact tw_iret dX5_pass_51 rfl (Or.inl ⟨_, rfl, ⟨_, (sp0.tr sp34)⟩⟩)
        · refine tw_aload_n 0 dX5_pass_37 rfl rfl ?_
          obtain ⟨e59, f60, td_61, ca_62, ha_63, da_64, c1_65, c2_66, c3_67, c4_68, rfl, k69, k70, k71, k72, k73, k74, k75, k76, k77, k78, k79⟩ := sp34.1 x 11 (sp34.2.1.k kx (by decide)) (by decide)
          refine tw_bv (tw_callV (M := mX5_pass) (pc := 38) okX5_beginDay dX5_pass_38 w_695 rfl f60 [] [] rfl rfl ⟨by decide, by decide⟩ (Nat.le_of_ble_eq_true rfl) (c_X5_beginDay d g τ32 h33 sp34.1 x (sp34.2.1.k kx (by decide))) 19 114 (Nat.le_of_ble_eq_true rfl) (Nat.le_of_ble_eq_true rfl)) (fun h81 q80 => ?_) (fun E h1 q => q.elim)
          obtain ⟨τ85, q80s⟩ := q80
          have sp83 := sp34.tr q80s
          have k86 := q80s.2.1.k (sp34.2.1.k kx (by decide)) (by decide)
          have k87 := q80s.2.1.k (sp34.2.1.k k15 (by decide)) (by decide)
          have k88 := q80s.2.1.k (sp34.2.1.k k16 (by decide)) (by decide)
          have k89 := q80s.2.1.k (sp34.2.1.k k17 (by decide)) (by decide)
          have k90 := q80s.2.1.k (sp34.2.1.k k18 (by decide)) (by decide)
          have k91 := q80s.2.1.k (sp34.2.1.k k19 (by decide)) (by decide)
          have k92 := q80s.2.1.k (sp34.2.1.k k20 (by decide)) (by decide)
          have k93 := q80s.2.1.k (sp34.2.1.k k21 (by decide)) (by decide)
          have k94 := q80s.2.1.k k69 (by decide)
          have k95 := q80s.2.1.k k70 (by decide)
          have k96 := q80s.2.1.k k71 (by decide)
          have k97 := q80s.2.1.k k72 (by decide)
          have k98 := q80s.2.1.k k73 (by decide)
          have k99 := q80s.2.1.k k74 (by decide)
          have k100 := q80s.2.1.k k75 (by decide)
          obtain ⟨v101, ev101⟩ : ∃ y : Int32, y = x28 + 1 := ⟨_, rfl⟩
          refine tw_iinc [(2, .int v101), (0, .ref x), (1, .int dy)] 2 dX5_pass_41 rfl (by rw [ev101]; rfl) (by decide) rfl ?_
          refine tw_goto 32 dX5_pass_44 (by decide) ?_
          refine tw_lv [1, 2, 0] rfl ?_
          exact ih30 v101 _ _ sp83 (tw_mup ev101 c37 hk35)
    refine tw_lv [1, 2, 0] rfl ?_
    exact L31 _ 0 _ _ (tw_sp.rf sp0.1) (Nat.lt_succ_self _)
  · exact tw_throwS (i := 12) (by decide +kernel) w_471 w_88 rfl at_ISE dX5_pass_20 dX5_pass_23 dX5_pass_24 dX5_pass_26 dX5_pass_29 ⟨by decide, Nat.le_of_ble_eq_true rfl⟩ (Nat.le_of_ble_eq_true rfl) (Nat.le_of_ble_eq_true rfl) (Or.inr ⟨_, rfl, (Or.inr (rfl)), _, sp0⟩)

set_option maxHeartbeats 4000000 in
set_option maxRecDepth 100000 in
theorem c_X5_settle (d : tw_D) (g : tw_G) (τ : tw_K) (h : tw_H) (hw : tw_wt d g τ h) (x : Nat) (kx : τ x = 11) (a : Int32) (m : Int32) : tw_Ct d mX5_settle 20 120 [.ref x, .int a, .int m] h (tw_qi (fun r h1 => tw_sp d τ h g τ h1) (fun E h1 => (E = tw_IOE ∨ E = tw_IAE ∨ E = tw_ISE) ∧ ∃ τ1, tw_sp d τ h g τ1 h1)) := by
  refine tw_of (by decide +kernel) (Nat.le_of_ble_eq_true rfl) ?_
  show tw_W d mX5_settle _ 0 [(0, .ref x), (1, .int a), (2, .int m)] [] h 20 120
  have sp0 := tw_sp.rf hw
  refine tw_aload_n 0 dX5_settle_0 rfl rfl ?_
  refine tw_iload_n 1 dX5_settle_1 rfl rfl ?_
  obtain ⟨e1, f2, td_3, ca_4, ha_5, da_6, c1_7, c2_8, c3_9, c4_10, rfl, k11, k12, k13, k14, k15, k16, k17, k18, k19, k20, k21⟩ := sp0.1 x 11 kx (by decide)
  refine tw_br (tw_callV (M := mX5_settle) (pc := 2) okX5_debtAt dX5_settle_2 w_747 rfl f2 [.int a] [] rfl rfl ⟨by decide, by decide⟩ (Nat.le_of_ble_eq_true rfl) (c_X5_debtAt d g τ h sp0.1 x kx a) 19 114 (Nat.le_of_ble_eq_true rfl) (Nat.le_of_ble_eq_true rfl)) (fun r24 h23 q22 => ?_) (fun E h1 q => Or.inr ⟨E, rfl, (Or.inl q.1), ⟨τ, by rw [q.2]; exact sp0⟩⟩)
  obtain ⟨q22e, p25⟩ := q22
  rw [q22e]
  refine tw_astore_n [(3, .ref r24), (0, .ref x), (1, .int a), (2, .int m)] dX5_settle_5 rfl (by decide) rfl ?_
  refine tw_iload_n 3 dX5_settle_6 rfl rfl ?_
  refine tw_bv (tw_callS (M := mX5_settle) (pc := 7) okX5_needMetal dX5_settle_7 w_573 [.int m] [] rfl rfl ⟨by decide, by decide⟩ (Nat.le_of_ble_eq_true rfl) (c_X5_needMetal d g τ h sp0.1 m) 18 108 (Nat.le_of_ble_eq_true rfl) (Nat.le_of_ble_eq_true rfl)) (fun h27 q26 => ?_) (fun E h1 q => Or.inr ⟨E, rfl, (Or.inr (Or.inl q.1)), ⟨τ, by rw [q.2]; exact sp0⟩⟩)
  obtain ⟨q26e, p29⟩ := q26
  rw [q26e]
  refine tw_aload_n 0 dX5_settle_10 rfl rfl ?_
  obtain ⟨e30, f31, v_32, dy_33, pd_34, a_35, b_36, rfl, k37, k38, k39⟩ := sp0.1 r24 4 p25 (by decide)
  refine tw_getN (v := .ref a_35) rfl in_5 0 dX5_settle_11 w_720 rfl (by decide) f31 rfl ?_
  obtain ⟨e40, f41, n_42, ar_43, p_44, pl_45, go_46, rfl, k47, k48, k49⟩ := sp0.1 a_35 3 k37 (by decide)
  cases pl_45 with
  | none =>
    refine tw_getN (v := .null) rfl in_6 2 dX5_settle_14 w_641 rfl (by decide) f41 rfl ?_
    refine tw_astoreN [(4, .null), (3, .ref r24), (0, .ref x), (1, .int a), (2, .int m)] dX5_settle_17 (by decide) rfl ?_
    refine tw_aload_n 1 dX5_settle_19 rfl rfl ?_
    refine tw_getN (v := .int pd_34) rfl in_5 4 dX5_settle_20 w_728 rfl (by decide) f31 rfl ?_
    refine tw_if_ne 41 dX5_settle_23 (by decide) (fun c51 => ?_) (fun c51 => ?_)
    · exact tw_throwS (i := 15) (by decide +kernel) w_471 w_88 rfl at_ISE dX5_settle_41 dX5_settle_44 dX5_settle_45 dX5_settle_47 dX5_settle_50 ⟨by decide, Nat.le_of_ble_eq_true rfl⟩ (Nat.le_of_ble_eq_true rfl) (Nat.le_of_ble_eq_true rfl) (Or.inr ⟨_, rfl, (Or.inr (Or.inr (rfl))), _, sp0⟩)
    · refine tw_aloadN 0 dX5_settle_26 rfl ?_
      refine tw_ifnullN 41 dX5_settle_28 (by decide) ?_
      exact tw_throwS (i := 15) (by decide +kernel) w_471 w_88 rfl at_ISE dX5_settle_41 dX5_settle_44 dX5_settle_45 dX5_settle_47 dX5_settle_50 ⟨by decide, Nat.le_of_ble_eq_true rfl⟩ (Nat.le_of_ble_eq_true rfl) (Nat.le_of_ble_eq_true rfl) (Or.inr ⟨_, rfl, (Or.inr (Or.inr (rfl))), _, sp0⟩)
  | some q50 =>
    refine tw_getN (v := .ref q50) rfl in_6 2 dX5_settle_14 w_641 rfl (by decide) f41 rfl ?_
    refine tw_astore [(4, .ref q50), (3, .ref r24), (0, .ref x), (1, .int a), (2, .int m)] dX5_settle_17 (by decide) rfl ?_
    refine tw_aload_n 1 dX5_settle_19 rfl rfl ?_
    refine tw_getN (v := .int pd_34) rfl in_5 4 dX5_settle_20 w_728 rfl (by decide) f31 rfl ?_
    refine tw_if_ne 41 dX5_settle_23 (by decide) (fun c52 => ?_) (fun c52 => ?_)
    · exact tw_throwS (i := 15) (by decide +kernel) w_471 w_88 rfl at_ISE dX5_settle_41 dX5_settle_44 dX5_settle_45 dX5_settle_47 dX5_settle_50 ⟨by decide, Nat.le_of_ble_eq_true rfl⟩ (Nat.le_of_ble_eq_true rfl) (Nat.le_of_ble_eq_true rfl) (Or.inr ⟨_, rfl, (Or.inr (Or.inr (rfl))), _, sp0⟩)
    · refine tw_aload 0 dX5_settle_26 rfl ?_
      refine tw_ifnull dX5_settle_28 ?_
      refine tw_aload_n 1 dX5_settle_31 rfl rfl ?_
      refine tw_getN (v := .ref b_36) rfl in_5 1 dX5_settle_32 w_722 rfl (by decide) f31 rfl ?_
      obtain ⟨e53, f54, n_55, ar_56, p_57, pl_58, go_59, rfl, k60, k61, k62⟩ := sp0.1 b_36 3 k38 (by decide)
      cases pl_58 with
      | none =>
        refine tw_getN (v := .null) rfl in_6 2 dX5_settle_35 w_641 rfl (by decide) f54 rfl ?_
        refine tw_ifnonnullN dX5_settle_38 ?_
        exact tw_throwS (i := 15) (by decide +kernel) w_471 w_88 rfl at_ISE dX5_settle_41 dX5_settle_44 dX5_settle_45 dX5_settle_47 dX5_settle_50 ⟨by decide, Nat.le_of_ble_eq_true rfl⟩ (Nat.le_of_ble_eq_true rfl) (Nat.le_of_ble_eq_true rfl) (Or.inr ⟨_, rfl, (Or.inr (Or.inr (rfl))), _, sp0⟩)
      | some q63 =>
        refine tw_getN (v := .ref q63) rfl in_6 2 dX5_settle_35 w_641 rfl (by decide) f54 rfl ?_
        refine tw_ifnonnull 51 dX5_settle_38 (by decide) ?_
        refine tw_aload_n 1 dX5_settle_51 rfl rfl ?_
        refine tw_aload_n 2 dX5_settle_52 rfl rfl ?_
        refine tw_get (v := .int td_3) rfl in_9 0 dX5_settle_53 w_140 rfl (by decide) f2 rfl ?_
        refine tw_bi (tw_callVN (M := mX5_settle) (pc := 56) okX1_dueOn dX5_settle_56 w_355 rfl f31 [.int td_3] [] rfl rfl ⟨by decide, by decide⟩ (Nat.le_of_ble_eq_true rfl) (c_X1_dueOn d g τ h sp0.1 r24 p25 td_3) 18 108 (Nat.le_of_ble_eq_true rfl) (Nat.le_of_ble_eq_true rfl)) (fun r66 h65 q64 => ?_) (fun E h1 q => q.elim)
        rw [q64]
        refine tw_istore [(5, .int r66), (4, .ref q50), (3, .ref r24), (0, .ref x), (1, .int a), (2, .int m)] dX5_settle_59 (by decide) rfl ?_
        refine tw_iload_n 5 dX5_settle_61 rfl rfl ?_
        refine tw_if_ne 75 dX5_settle_62 (by decide) (fun c67 => ?_) (fun c67 => ?_)
        · refine tw_iload 0 dX5_settle_75 rfl ?_
          refine tw_istore [(6, .int r66), (5, .int r66), (4, .ref q50), (3, .ref r24), (0, .ref x), (1, .int a), (2, .int m)] dX5_settle_77 (by decide) rfl ?_
          refine tw_aload_n 3 dX5_settle_79 rfl rfl ?_
          refine tw_getN (v := .ref a_35) rfl in_5 0 dX5_settle_80 w_720 rfl (by decide) f31 rfl ?_
          refine tw_getN (v := .ref p_44) rfl in_6 1 dX5_settle_83 w_639 rfl (by decide) f41 rfl ?_
          refine tw_iload_n 6 dX5_settle_86 rfl rfl ?_
          obtain ⟨e68, f69, a_70, b_71, rfl⟩ := sp0.1 p_44 1 k47 (by decide)
          refine tw_bi (tw_callVN (M := mX5_settle) (pc := 87) okX3_of dX5_settle_87 w_189 rfl f69 [.int m] [] rfl rfl ⟨by decide, by decide⟩ (Nat.le_of_ble_eq_true rfl) (c_X3_of d g τ h sp0.1 p_44 k47 m) 18 108 (Nat.le_of_ble_eq_true rfl) (Nat.le_of_ble_eq_true rfl)) (fun r74 h73 q72 => ?_) (fun E h1 q => q.elim)
          rw [q72]
          refine tw_iload 0 dX5_settle_90 rfl ?_
          refine tw_icmp_ge 105 dX5_settle_92 (by decide) (fun c75 => ?_) (fun c75 => ?_)
          · refine tw_aload_n 3 dX5_settle_105 rfl rfl ?_
            refine tw_getN (v := .ref a_35) rfl in_5 0 dX5_settle_106 w_720 rfl (by decide) f31 rfl ?_
            refine tw_getN (v := .ref p_44) rfl in_6 1 dX5_settle_109 w_639 rfl (by decide) f41 rfl ?_
            refine tw_iload_n 6 dX5_settle_112 rfl rfl ?_
            refine tw_iload 0 dX5_settle_113 rfl ?_
            refine tw_ineg dX5_settle_115 ?_
            refine tw_nmi (fun v76 ev76 => ?_)
            refine tw_bv (tw_callVN (M := mX5_settle) (pc := 116) okX3_add dX5_settle_116 w_534 rfl f69 [.int m, .int v76] [] rfl rfl ⟨by decide, by decide⟩ (Nat.le_of_ble_eq_true rfl) (c_X3_add d g τ h sp0.1 p_44 k47 m v76) 18 108 (Nat.le_of_ble_eq_true rfl) (Nat.le_of_ble_eq_true rfl)) (fun h78 q77 => ?_) (fun E h1 q => q.elim)
            have q77s := q77
            have sp80 := sp0.tr q77s
            refine tw_aload_n 3 dX5_settle_119 rfl rfl ?_
            obtain ⟨e82, f83, v_84, dy_85, pd_86, a_87, b_88, rfl, k89, k90, k91⟩ := sp80.1 r24 4 p25 (by decide)
            refine tw_getN (v := .ref b_88) rfl in_5 1 dX5_settle_120 w_722 rfl (by decide) f83 rfl ?_
            obtain ⟨e92, f93, n_94, ar_95, p_96, pl_97, go_98, rfl, k99, k100, k101⟩ := sp80.1 b_88 3 k90 (by decide)
            refine tw_getN (v := .ref p_96) rfl in_6 1 dX5_settle_123 w_639 rfl (by decide) f93 rfl ?_
            refine tw_iload_n 6 dX5_settle_126 rfl rfl ?_
            refine tw_iload 0 dX5_settle_127 rfl ?_
            obtain ⟨e102, f103, a_104, b_105, rfl⟩ := sp80.1 p_96 1 k99 (by decide)
            refine tw_bv (tw_callVN (M := mX5_settle) (pc := 129) okX3_add dX5_settle_129 w_534 rfl f103 [.int m, .int r66] [] rfl rfl ⟨by decide, by decide⟩ (Nat.le_of_ble_eq_true rfl) (c_X3_add d g τ h78 sp80.1 p_96 k99 m r66) 18 108 (Nat.le_of_ble_eq_true rfl) (Nat.le_of_ble_eq_true rfl)) (fun h107 q106 => ?_) (fun E h1 q => q.elim)
            have q106s := q106
            have sp109 := sp80.tr q106s
            refine tw_aload_n 3 dX5_settle_132 rfl rfl ?_
            refine tw_iconst (v := 1) dX5_settle_133 (by decide) ?_
            obtain ⟨e111, f112, v_113, dy_114, pd_115, a_116, b_117, rfl, k118, k119, k120⟩ := sp109.1 r24 4 p25 (by decide)
            refine tw_putN rfl in_5 tyX1 tyX1_ok nmX1 4 dX5_settle_134 w_728 rfl (by decide) f112 rfl rfl rfl rfl (Nat.le_of_ble_eq_true rfl) [.ref a_116, .ref b_117, .int v_113, .int dy_114, .int 1] rfl ?_
            obtain ⟨h121, eh121⟩ : ∃ z : tw_H, z = tw_up h107 r24 (.inr (5, [.ref a_116, .ref b_117, .int v_113, .int dy_114, .int 1])) := ⟨_, rfl⟩
            rw [← eh121]
            have sp122 : tw_sp d τ h g τ h121 := by rw [eh121]; exact sp109.set p25 (by decide) ⟨v_113, dy_114, 1, a_116, b_117, rfl, k118, k119, (by unfold tw_01; decide)⟩
            have f123 : h121 r24 = some (.inr (5, [.ref a_116, .ref b_117, .int v_113, .int dy_114, .int 1])) := by rw [eh121]; exact tw_up_s
            refine tw_iload 0 dX5_settle_137 rfl ?_
            exact tw_iret dX5_settle_139 rfl (Or.inl ⟨_, rfl, sp122⟩)
          · exact tw_throwS (i := 16) (by decide +kernel) w_471 w_88 rfl at_ISE dX5_settle_95 dX5_settle_98 dX5_settle_99 dX5_settle_101 dX5_settle_104 ⟨by decide, Nat.le_of_ble_eq_true rfl⟩ (Nat.le_of_ble_eq_true rfl) (Nat.le_of_ble_eq_true rfl) (Or.inr ⟨_, rfl, (Or.inr (Or.inr (rfl))), _, sp0⟩)
        · refine tw_aload 1 dX5_settle_65 rfl ?_
          refine tw_iload 0 dX5_settle_67 rfl ?_
          obtain ⟨e124, f125, n_126, r_127, c_128, go_129, so_130, v_131, rd_132, rf_133, t_134, rfl, k135, k136, k137, k138, k139, k140, k141, k142⟩ := sp0.1 q50 2 (k48 _ rfl) (by decide)
          refine tw_bi (tw_callVN (M := mX5_settle) (pc := 69) okX0_goldFor dX5_settle_69 w_364 rfl f125 [.int r66] [] rfl rfl ⟨by decide, by decide⟩ (Nat.le_of_ble_eq_true rfl) (c_X0_goldFor d g τ h sp0.1 q50 (k48 _ rfl) r66) 18 108 (Nat.le_of_ble_eq_true rfl) (Nat.le_of_ble_eq_true rfl)) (fun r145 h144 q143 => ?_) (fun E h1 q => q.elim)
          rw [q143]
          refine tw_goto 77 dX5_settle_72 (by decide) ?_
          refine tw_istore [(6, .int r145), (5, .int r66), (4, .ref q50), (3, .ref r24), (0, .ref x), (1, .int a), (2, .int m)] dX5_settle_77 (by decide) rfl ?_
          refine tw_aload_n 3 dX5_settle_79 rfl rfl ?_
          refine tw_getN (v := .ref a_35) rfl in_5 0 dX5_settle_80 w_720 rfl (by decide) f31 rfl ?_
          refine tw_getN (v := .ref p_44) rfl in_6 1 dX5_settle_83 w_639 rfl (by decide) f41 rfl ?_
          refine tw_iload_n 6 dX5_settle_86 rfl rfl ?_
          obtain ⟨e146, f147, a_148, b_149, rfl⟩ := sp0.1 p_44 1 k47 (by decide)
          refine tw_bi (tw_callVN (M := mX5_settle) (pc := 87) okX3_of dX5_settle_87 w_189 rfl f147 [.int m] [] rfl rfl ⟨by decide, by decide⟩ (Nat.le_of_ble_eq_true rfl) (c_X3_of d g τ h sp0.1 p_44 k47 m) 18 108 (Nat.le_of_ble_eq_true rfl) (Nat.le_of_ble_eq_true rfl)) (fun r152 h151 q150 => ?_) (fun E h1 q => q.elim)
          rw [q150]
          refine tw_iload 0 dX5_settle_90 rfl ?_
          refine tw_icmp_ge 105 dX5_settle_92 (by decide) (fun c153 => ?_) (fun c153 => ?_)
          · refine tw_aload_n 3 dX5_settle_105 rfl rfl ?_
            refine tw_getN (v := .ref a_35) rfl in_5 0 dX5_settle_106 w_720 rfl (by decide) f31 rfl ?_
            refine tw_getN (v := .ref p_44) rfl in_6 1 dX5_settle_109 w_639 rfl (by decide) f41 rfl ?_
            refine tw_iload_n 6 dX5_settle_112 rfl rfl ?_
            refine tw_iload 0 dX5_settle_113 rfl ?_
            refine tw_ineg dX5_settle_115 ?_
            refine tw_nmi (fun v154 ev154 => ?_)
            refine tw_bv (tw_callVN (M := mX5_settle) (pc := 116) okX3_add dX5_settle_116 w_534 rfl f147 [.int m, .int v154] [] rfl rfl ⟨by decide, by decide⟩ (Nat.le_of_ble_eq_true rfl) (c_X3_add d g τ h sp0.1 p_44 k47 m v154) 18 108 (Nat.le_of_ble_eq_true rfl) (Nat.le_of_ble_eq_true rfl)) (fun h156 q155 => ?_) (fun E h1 q => q.elim)
            have q155s := q155
            have sp158 := sp0.tr q155s
            refine tw_aload_n 3 dX5_settle_119 rfl rfl ?_
            obtain ⟨e160, f161, v_162, dy_163, pd_164, a_165, b_166, rfl, k167, k168, k169⟩ := sp158.1 r24 4 p25 (by decide)
            refine tw_getN (v := .ref b_166) rfl in_5 1 dX5_settle_120 w_722 rfl (by decide) f161 rfl ?_
            obtain ⟨e170, f171, n_172, ar_173, p_174, pl_175, go_176, rfl, k177, k178, k179⟩ := sp158.1 b_166 3 k168 (by decide)
            refine tw_getN (v := .ref p_174) rfl in_6 1 dX5_settle_123 w_639 rfl (by decide) f171 rfl ?_
            refine tw_iload_n 6 dX5_settle_126 rfl rfl ?_
            refine tw_iload 0 dX5_settle_127 rfl ?_
            obtain ⟨e180, f181, a_182, b_183, rfl⟩ := sp158.1 p_174 1 k177 (by decide)
            refine tw_bv (tw_callVN (M := mX5_settle) (pc := 129) okX3_add dX5_settle_129 w_534 rfl f181 [.int m, .int r145] [] rfl rfl ⟨by decide, by decide⟩ (Nat.le_of_ble_eq_true rfl) (c_X3_add d g τ h156 sp158.1 p_174 k177 m r145) 18 108 (Nat.le_of_ble_eq_true rfl) (Nat.le_of_ble_eq_true rfl)) (fun h185 q184 => ?_) (fun E h1 q => q.elim)
            have q184s := q184
            have sp187 := sp158.tr q184s
            refine tw_aload_n 3 dX5_settle_132 rfl rfl ?_
            refine tw_iconst (v := 1) dX5_settle_133 (by decide) ?_
            obtain ⟨e189, f190, v_191, dy_192, pd_193, a_194, b_195, rfl, k196, k197, k198⟩ := sp187.1 r24 4 p25 (by decide)
            refine tw_putN rfl in_5 tyX1 tyX1_ok nmX1 4 dX5_settle_134 w_728 rfl (by decide) f190 rfl rfl rfl rfl (Nat.le_of_ble_eq_true rfl) [.ref a_194, .ref b_195, .int v_191, .int dy_192, .int 1] rfl ?_
            obtain ⟨h199, eh199⟩ : ∃ z : tw_H, z = tw_up h185 r24 (.inr (5, [.ref a_194, .ref b_195, .int v_191, .int dy_192, .int 1])) := ⟨_, rfl⟩
            rw [← eh199]
            have sp200 : tw_sp d τ h g τ h199 := by rw [eh199]; exact sp187.set p25 (by decide) ⟨v_191, dy_192, 1, a_194, b_195, rfl, k196, k197, (by unfold tw_01; decide)⟩
            have f201 : h199 r24 = some (.inr (5, [.ref a_194, .ref b_195, .int v_191, .int dy_192, .int 1])) := by rw [eh199]; exact tw_up_s
            refine tw_iload 0 dX5_settle_137 rfl ?_
            exact tw_iret dX5_settle_139 rfl (Or.inl ⟨_, rfl, sp200⟩)
          · exact tw_throwS (i := 16) (by decide +kernel) w_471 w_88 rfl at_ISE dX5_settle_95 dX5_settle_98 dX5_settle_99 dX5_settle_101 dX5_settle_104 ⟨by decide, Nat.le_of_ble_eq_true rfl⟩ (Nat.le_of_ble_eq_true rfl) (Nat.le_of_ble_eq_true rfl) (Or.inr ⟨_, rfl, (Or.inr (Or.inr (rfl))), _, sp0⟩)

set_option maxHeartbeats 4000000 in
set_option maxRecDepth 100000 in
theorem c_X0_init (d : tw_D) (g : tw_G) (τ : tw_K) (h : tw_H) (hw : tw_wt d g τ h) (x : Nat) (hz : τ x = 0) (hx : h x = some (.inr (4, [.int 0, .int 0, .int 0, .null, .int 0, .int 0, .null, .null, .null]))) (n : Int32) (r : Int32) (ct : Int32) (v : Nat) (kv : τ v = 1) (rlaw : 100 ≤ r ∧ r ≤ 200) : tw_Ct d mX0_init 6 30 [.ref x, .int n, .int r, .int ct, .ref v] h (tw_qv (fun h1 => ∃ τ1, tw_ini d g τ h x 2 τ1 h1) tw_nx) := by
  refine tw_of (by decide +kernel) (Nat.le_of_ble_eq_true rfl) ?_
  show tw_W d mX0_init _ 0 [(0, .ref x), (1, .int n), (2, .int r), (3, .int ct), (4, .ref v)] [] h 6 30
  have sp0 := tw_sp.rm hw x
  refine tw_aload_n 0 dX0_init_0 rfl rfl ?_
  refine tw_objInit dX0_init_1 w_490 w_117 w_118 ⟨by decide, Nat.le_of_ble_eq_true rfl⟩ ?_
  refine tw_aload_n 0 dX0_init_4 rfl rfl ?_
  refine tw_iload_n 1 dX0_init_5 rfl rfl ?_
  refine tw_putF rfl in_4 tyX0 tyX0_ok nmX0 0 dX0_init_6 w_501 rfl (by decide) hx rfl rfl rfl rfl rfl rfl (Nat.le_of_ble_eq_true rfl) [.int n, .int 0, .int 0, .null, .int 0, .int 0, .null, .null, .null] rfl ?_
  obtain ⟨h1, eh1⟩ : ∃ z : tw_H, z = tw_up h x (.inr (4, [.int n, .int 0, .int 0, .null, .int 0, .int 0, .null, .null, .null])) := ⟨_, rfl⟩
  rw [← eh1]
  have sp2 : tw_sp d τ (tw_rm h x) g τ h1 := by rw [eh1]; exact sp0.wl tw_rm_s hz
  have f3 : h1 x = some (.inr (4, [.int n, .int 0, .int 0, .null, .int 0, .int 0, .null, .null, .null])) := by rw [eh1]; exact tw_up_s
  refine tw_aload_n 0 dX0_init_9 rfl rfl ?_
  refine tw_iload_n 2 dX0_init_10 rfl rfl ?_
  refine tw_put rfl in_4 tyX0 tyX0_ok nmX0 1 dX0_init_11 w_503 rfl (by decide) f3 rfl rfl rfl rfl (Nat.le_of_ble_eq_true rfl) [.int n, .int r, .int 0, .null, .int 0, .int 0, .null, .null, .null] rfl ?_
  obtain ⟨h4, eh4⟩ : ∃ z : tw_H, z = tw_up h1 x (.inr (4, [.int n, .int r, .int 0, .null, .int 0, .int 0, .null, .null, .null])) := ⟨_, rfl⟩
  rw [← eh4]
  have sp5 : tw_sp d τ (tw_rm h x) g τ h4 := by rw [eh4]; exact sp2.wl tw_rm_s hz
  have f6 : h4 x = some (.inr (4, [.int n, .int r, .int 0, .null, .int 0, .int 0, .null, .null, .null])) := by rw [eh4]; exact tw_up_s
  refine tw_aload_n 0 dX0_init_14 rfl rfl ?_
  refine tw_iload_n 3 dX0_init_15 rfl rfl ?_
  refine tw_put rfl in_4 tyX0 tyX0_ok nmX0 2 dX0_init_16 w_505 rfl (by decide) f6 rfl rfl rfl rfl (Nat.le_of_ble_eq_true rfl) [.int n, .int r, .int ct, .null, .int 0, .int 0, .null, .null, .null] rfl ?_
  obtain ⟨h7, eh7⟩ : ∃ z : tw_H, z = tw_up h4 x (.inr (4, [.int n, .int r, .int ct, .null, .int 0, .int 0, .null, .null, .null])) := ⟨_, rfl⟩
  rw [← eh7]
  have sp8 : tw_sp d τ (tw_rm h x) g τ h7 := by rw [eh7]; exact sp5.wl tw_rm_s hz
  have f9 : h7 x = some (.inr (4, [.int n, .int r, .int ct, .null, .int 0, .int 0, .null, .null, .null])) := by rw [eh7]; exact tw_up_s
  refine tw_aload_n 0 dX0_init_19 rfl rfl ?_
  refine tw_aload 4 dX0_init_20 rfl ?_
  refine tw_putF rfl in_4 tyX0 tyX0_ok nmX0 3 dX0_init_22 w_507 rfl (by decide) f9 rfl rfl rfl rfl rfl rfl (Nat.le_of_ble_eq_true rfl) [.int n, .int r, .int ct, .ref v, .int 0, .int 0, .null, .null, .null] rfl ?_
  obtain ⟨h10, eh10⟩ : ∃ z : tw_H, z = tw_up h7 x (.inr (4, [.int n, .int r, .int ct, .ref v, .int 0, .int 0, .null, .null, .null])) := ⟨_, rfl⟩
  rw [← eh10]
  have sp11 : tw_sp d τ (tw_rm h x) g τ h10 := by rw [eh10]; exact sp8.wl tw_rm_s hz
  have f12 : h10 x = some (.inr (4, [.int n, .int r, .int ct, .ref v, .int 0, .int 0, .null, .null, .null])) := by rw [eh10]; exact tw_up_s
  refine tw_aload_n 0 dX0_init_25 rfl rfl ?_
  refine tw_iconst (v := 1) dX0_init_26 (by decide) ?_
  refine tw_put rfl in_4 tyX0 tyX0_ok nmX0 4 dX0_init_27 w_509 rfl (by decide) f12 rfl rfl rfl rfl (Nat.le_of_ble_eq_true rfl) [.int n, .int r, .int ct, .ref v, .int 1, .int 0, .null, .null, .null] rfl ?_
  obtain ⟨h13, eh13⟩ : ∃ z : tw_H, z = tw_up h10 x (.inr (4, [.int n, .int r, .int ct, .ref v, .int 1, .int 0, .null, .null, .null])) := ⟨_, rfl⟩
  rw [← eh13]
  have sp14 : tw_sp d τ (tw_rm h x) g τ h13 := by rw [eh13]; exact sp11.wl tw_rm_s hz
  have f15 : h13 x = some (.inr (4, [.int n, .int r, .int ct, .ref v, .int 1, .int 0, .null, .null, .null])) := by rw [eh13]; exact tw_up_s
  refine tw_aload_n 0 dX0_init_30 rfl rfl ?_
  refine tw_iconst (v := 1) dX0_init_31 (by decide) ?_
  refine tw_put rfl in_4 tyX0 tyX0_ok nmX0 5 dX0_init_32 w_510 rfl (by decide) f15 rfl rfl rfl rfl (Nat.le_of_ble_eq_true rfl) [.int n, .int r, .int ct, .ref v, .int 1, .int 1, .null, .null, .null] rfl ?_
  obtain ⟨h16, eh16⟩ : ∃ z : tw_H, z = tw_up h13 x (.inr (4, [.int n, .int r, .int ct, .ref v, .int 1, .int 1, .null, .null, .null])) := ⟨_, rfl⟩
  rw [← eh16]
  have sp17 : tw_sp d τ (tw_rm h x) g τ h16 := by rw [eh16]; exact sp14.wl tw_rm_s hz
  have f18 : h16 x = some (.inr (4, [.int n, .int r, .int ct, .ref v, .int 1, .int 1, .null, .null, .null])) := by rw [eh16]; exact tw_up_s
  refine tw_aload_n 0 dX0_init_35 rfl rfl ?_
  refine tw_iconst (v := 4) dX0_init_36 (by decide) ?_
  refine tw_newa (a0 := (4, .inl (fun _ => 0))) 0 rfl dX0_init_37 rfl w_500 (fun _ => rfl) (by decide) (by decide) (by decide) 5 26 (Nat.le_of_ble_eq_true rfl) (Nat.le_of_ble_eq_true rfl) (fun q19 hq20 hA21 => ?_)
  have n22 := sp17.nn hq20
  have z23 := sp17.1.none hq20
  have ne24 := tw_neF f18 hq20
  obtain ⟨h25, eh25⟩ : ∃ z : tw_H, z = tw_up h16 q19 (.inl (d.2 0, 4, .inl (fun _ => 0))) := ⟨_, rfl⟩
  rw [← eh25]
  have sp26 : tw_sp d τ (tw_rm h x) g τ h25 := by rw [eh25]; exact sp17.mk hq20
  have f27 : h25 x = some (.inr (4, [.int n, .int r, .int ct, .ref v, .int 1, .int 1, .null, .null, .null])) := by rw [eh25, tw_up_n ne24]; exact f18
  have f28 : h25 q19 = some (.inl (d.2 0, 4, .inl (fun _ => 0))) := by rw [eh25]; exact tw_up_s
  obtain ⟨τ29, eτ29⟩ : ∃ z : tw_K, z = tw_ku τ q19 6 := ⟨_, rfl⟩
  have le30 : tw_le τ τ29 := by rw [eτ29]; exact tw_ku_le z23
  have k31 : τ29 v = 1 := le30.k kv (by decide)
  have sp32 : tw_sp d τ (tw_rm h x) g τ29 h25 := by rw [eτ29]; exact sp26.ty n22 z23 f28 (by rw [← eτ29]; exact ⟨_, rfl⟩)
  have k33 : τ29 q19 = 6 := by rw [eτ29]; exact tw_ku_s
  have z34 : τ29 x = 0 := by rw [eτ29, tw_ku_n ne24]; exact hz
  refine tw_putF rfl in_4 tyX0 tyX0_ok nmX0 6 dX0_init_39 w_511 rfl (by decide) f27 rfl rfl rfl rfl rfl rfl (Nat.le_of_ble_eq_true rfl) [.int n, .int r, .int ct, .ref v, .int 1, .int 1, .ref q19, .null, .null] rfl ?_
  obtain ⟨h35, eh35⟩ : ∃ z : tw_H, z = tw_up h25 x (.inr (4, [.int n, .int r, .int ct, .ref v, .int 1, .int 1, .ref q19, .null, .null])) := ⟨_, rfl⟩
  rw [← eh35]
  have sp36 : tw_sp d τ (tw_rm h x) g τ29 h35 := by rw [eh35]; exact sp32.wl tw_rm_s z34
  have f37 : h35 x = some (.inr (4, [.int n, .int r, .int ct, .ref v, .int 1, .int 1, .ref q19, .null, .null])) := by rw [eh35]; exact tw_up_s
  refine tw_aload_n 0 dX0_init_42 rfl rfl ?_
  refine tw_iconst (v := 4) dX0_init_43 (by decide) ?_
  refine tw_newa (a0 := (4, .inl (fun _ => 0))) 0 rfl dX0_init_44 rfl w_500 (fun _ => rfl) (by decide) (by decide) (by decide) 4 22 (Nat.le_of_ble_eq_true rfl) (Nat.le_of_ble_eq_true rfl) (fun q38 hq39 hA40 => ?_)
  have n41 := sp36.nn hq39
  have z42 := sp36.1.none hq39
  have ne43 := tw_neF f37 hq39
  obtain ⟨h44, eh44⟩ : ∃ z : tw_H, z = tw_up h35 q38 (.inl (d.2 0, 4, .inl (fun _ => 0))) := ⟨_, rfl⟩
  rw [← eh44]
  have sp45 : tw_sp d τ (tw_rm h x) g τ29 h44 := by rw [eh44]; exact sp36.mk hq39
  have f46 : h44 x = some (.inr (4, [.int n, .int r, .int ct, .ref v, .int 1, .int 1, .ref q19, .null, .null])) := by rw [eh44, tw_up_n ne43]; exact f37
  have f47 : h44 q38 = some (.inl (d.2 0, 4, .inl (fun _ => 0))) := by rw [eh44]; exact tw_up_s
  obtain ⟨τ48, eτ48⟩ : ∃ z : tw_K, z = tw_ku τ29 q38 6 := ⟨_, rfl⟩
  have le49 : tw_le τ29 τ48 := by rw [eτ48]; exact tw_ku_le z42
  have k50 : τ48 v = 1 := le49.k k31 (by decide)
  have k51 : τ48 q19 = 6 := le49.k k33 (by decide)
  have sp52 : tw_sp d τ (tw_rm h x) g τ48 h44 := by rw [eτ48]; exact sp45.ty n41 z42 f47 (by rw [← eτ48]; exact ⟨_, rfl⟩)
  have k53 : τ48 q38 = 6 := by rw [eτ48]; exact tw_ku_s
  have z54 : τ48 x = 0 := by rw [eτ48, tw_ku_n ne43]; exact z34
  refine tw_putF rfl in_4 tyX0 tyX0_ok nmX0 7 dX0_init_46 w_512 rfl (by decide) f46 rfl rfl rfl rfl rfl rfl (Nat.le_of_ble_eq_true rfl) [.int n, .int r, .int ct, .ref v, .int 1, .int 1, .ref q19, .ref q38, .null] rfl ?_
  obtain ⟨h55, eh55⟩ : ∃ z : tw_H, z = tw_up h44 x (.inr (4, [.int n, .int r, .int ct, .ref v, .int 1, .int 1, .ref q19, .ref q38, .null])) := ⟨_, rfl⟩
  rw [← eh55]
  have sp56 : tw_sp d τ (tw_rm h x) g τ48 h55 := by rw [eh55]; exact sp52.wl tw_rm_s z54
  have f57 : h55 x = some (.inr (4, [.int n, .int r, .int ct, .ref v, .int 1, .int 1, .ref q19, .ref q38, .null])) := by rw [eh55]; exact tw_up_s
  refine tw_iconst (v := 0) dX0_init_49 (by decide) ?_
  refine tw_istore [(5, .int 0), (0, .ref x), (1, .int n), (2, .int r), (3, .int ct), (4, .ref v)] dX0_init_50 (by decide) rfl ?_
  refine tw_iload 0 dX0_init_52 rfl ?_
  refine tw_iconst (v := 4) dX0_init_54 (by decide) ?_
  refine tw_icmp_ge 81 dX0_init_55 (by decide) (fun c58 => absurd c58 (by decide)) (fun _ => ?_)
  refine tw_aload_n 1 dX0_init_58 rfl rfl ?_
  refine tw_get (v := .ref q19) rfl in_4 6 dX0_init_59 w_511 rfl (by decide) f57 rfl ?_
  refine tw_iload 0 dX0_init_62 rfl ?_
  refine tw_iconst (v := 3) dX0_init_64 (by decide) ?_
  obtain ⟨e59, f60, F61, rfl⟩ := sp56.1 q19 6 k51 (by decide)
  refine tw_iast dX0_init_65 f60 (vp_in_nI (n := 0) (by decide) (by decide)) ?_
  obtain ⟨h62, eh62⟩ : ∃ z : tw_H, z = tw_up h55 q19 (.inl (d.2 0, 4, .inl (upd F61 (0 : Int32).toNatClampNeg 3))) := ⟨_, rfl⟩
  rw [← eh62]
  have sp63 : tw_sp d τ (tw_rm h x) g τ48 h62 := by rw [eh62]; exact sp56.set k51 (by decide) ⟨_, rfl⟩
  have f64 : h62 x = some (.inr (4, [.int n, .int r, .int ct, .ref v, .int 1, .int 1, .ref q19, .ref q38, .null])) := by rw [eh62, tw_up_n ne24]; exact f57
  refine tw_aload_n 1 dX0_init_66 rfl rfl ?_
  refine tw_get (v := .ref q38) rfl in_4 7 dX0_init_67 w_512 rfl (by decide) f64 rfl ?_
  refine tw_iload 0 dX0_init_70 rfl ?_
  refine tw_bipush (v := 10) dX0_init_72 (by decide) ?_
  obtain ⟨e65, f66, F67, rfl⟩ := sp63.1 q38 6 k53 (by decide)
  refine tw_iast dX0_init_74 f66 (vp_in_nI (n := 0) (by decide) (by decide)) ?_
  obtain ⟨h68, eh68⟩ : ∃ z : tw_H, z = tw_up h62 q38 (.inl (d.2 0, 4, .inl (upd F67 (0 : Int32).toNatClampNeg 10))) := ⟨_, rfl⟩
  rw [← eh68]
  have sp69 : tw_sp d τ (tw_rm h x) g τ48 h68 := by rw [eh68]; exact sp63.set k53 (by decide) ⟨_, rfl⟩
  have f70 : h68 x = some (.inr (4, [.int n, .int r, .int ct, .ref v, .int 1, .int 1, .ref q19, .ref q38, .null])) := by rw [eh68, tw_up_n ne43]; exact f64
  refine tw_iinc [(5, .int 1), (0, .ref x), (1, .int n), (2, .int r), (3, .int ct), (4, .ref v)] 0 dX0_init_75 rfl (by decide) (by decide) rfl ?_
  refine tw_goto 52 dX0_init_78 (by decide) ?_
  refine tw_iload 0 dX0_init_52 rfl ?_
  refine tw_iconst (v := 4) dX0_init_54 (by decide) ?_
  refine tw_icmp_ge 81 dX0_init_55 (by decide) (fun c71 => absurd c71 (by decide)) (fun _ => ?_)
  refine tw_aload_n 1 dX0_init_58 rfl rfl ?_
  refine tw_get (v := .ref q19) rfl in_4 6 dX0_init_59 w_511 rfl (by decide) f70 rfl ?_
  refine tw_iload 0 dX0_init_62 rfl ?_
  refine tw_iconst (v := 3) dX0_init_64 (by decide) ?_
  obtain ⟨e72, f73, F74, rfl⟩ := sp69.1 q19 6 k51 (by decide)
  refine tw_iast dX0_init_65 f73 (vp_in_nI (n := 1) (by decide) (by decide)) ?_
  obtain ⟨h75, eh75⟩ : ∃ z : tw_H, z = tw_up h68 q19 (.inl (d.2 0, 4, .inl (upd F74 (1 : Int32).toNatClampNeg 3))) := ⟨_, rfl⟩
  rw [← eh75]
  have sp76 : tw_sp d τ (tw_rm h x) g τ48 h75 := by rw [eh75]; exact sp69.set k51 (by decide) ⟨_, rfl⟩
  have f77 : h75 x = some (.inr (4, [.int n, .int r, .int ct, .ref v, .int 1, .int 1, .ref q19, .ref q38, .null])) := by rw [eh75, tw_up_n ne24]; exact f70
  refine tw_aload_n 1 dX0_init_66 rfl rfl ?_
  refine tw_get (v := .ref q38) rfl in_4 7 dX0_init_67 w_512 rfl (by decide) f77 rfl ?_
  refine tw_iload 0 dX0_init_70 rfl ?_
  refine tw_bipush (v := 10) dX0_init_72 (by decide) ?_
  obtain ⟨e78, f79, F80, rfl⟩ := sp76.1 q38 6 k53 (by decide)
  refine tw_iast dX0_init_74 f79 (vp_in_nI (n := 1) (by decide) (by decide)) ?_
  obtain ⟨h81, eh81⟩ : ∃ z : tw_H, z = tw_up h75 q38 (.inl (d.2 0, 4, .inl (upd F80 (1 : Int32).toNatClampNeg 10))) := ⟨_, rfl⟩
  rw [← eh81]
  have sp82 : tw_sp d τ (tw_rm h x) g τ48 h81 := by rw [eh81]; exact sp76.set k53 (by decide) ⟨_, rfl⟩
  have f83 : h81 x = some (.inr (4, [.int n, .int r, .int ct, .ref v, .int 1, .int 1, .ref q19, .ref q38, .null])) := by rw [eh81, tw_up_n ne43]; exact f77
  refine tw_iinc [(5, .int 2), (0, .ref x), (1, .int n), (2, .int r), (3, .int ct), (4, .ref v)] 0 dX0_init_75 rfl (by decide) (by decide) rfl ?_
  refine tw_goto 52 dX0_init_78 (by decide) ?_
  refine tw_iload 0 dX0_init_52 rfl ?_
  refine tw_iconst (v := 4) dX0_init_54 (by decide) ?_
  refine tw_icmp_ge 81 dX0_init_55 (by decide) (fun c84 => absurd c84 (by decide)) (fun _ => ?_)
  refine tw_aload_n 1 dX0_init_58 rfl rfl ?_
  refine tw_get (v := .ref q19) rfl in_4 6 dX0_init_59 w_511 rfl (by decide) f83 rfl ?_
  refine tw_iload 0 dX0_init_62 rfl ?_
  refine tw_iconst (v := 3) dX0_init_64 (by decide) ?_
  obtain ⟨e85, f86, F87, rfl⟩ := sp82.1 q19 6 k51 (by decide)
  refine tw_iast dX0_init_65 f86 (vp_in_nI (n := 2) (by decide) (by decide)) ?_
  obtain ⟨h88, eh88⟩ : ∃ z : tw_H, z = tw_up h81 q19 (.inl (d.2 0, 4, .inl (upd F87 (2 : Int32).toNatClampNeg 3))) := ⟨_, rfl⟩
  rw [← eh88]
  have sp89 : tw_sp d τ (tw_rm h x) g τ48 h88 := by rw [eh88]; exact sp82.set k51 (by decide) ⟨_, rfl⟩
  have f90 : h88 x = some (.inr (4, [.int n, .int r, .int ct, .ref v, .int 1, .int 1, .ref q19, .ref q38, .null])) := by rw [eh88, tw_up_n ne24]; exact f83
  refine tw_aload_n 1 dX0_init_66 rfl rfl ?_
  refine tw_get (v := .ref q38) rfl in_4 7 dX0_init_67 w_512 rfl (by decide) f90 rfl ?_
  refine tw_iload 0 dX0_init_70 rfl ?_
  refine tw_bipush (v := 10) dX0_init_72 (by decide) ?_
  obtain ⟨e91, f92, F93, rfl⟩ := sp89.1 q38 6 k53 (by decide)
  refine tw_iast dX0_init_74 f92 (vp_in_nI (n := 2) (by decide) (by decide)) ?_
  obtain ⟨h94, eh94⟩ : ∃ z : tw_H, z = tw_up h88 q38 (.inl (d.2 0, 4, .inl (upd F93 (2 : Int32).toNatClampNeg 10))) := ⟨_, rfl⟩
  rw [← eh94]
  have sp95 : tw_sp d τ (tw_rm h x) g τ48 h94 := by rw [eh94]; exact sp89.set k53 (by decide) ⟨_, rfl⟩
  have f96 : h94 x = some (.inr (4, [.int n, .int r, .int ct, .ref v, .int 1, .int 1, .ref q19, .ref q38, .null])) := by rw [eh94, tw_up_n ne43]; exact f90
  refine tw_iinc [(5, .int 3), (0, .ref x), (1, .int n), (2, .int r), (3, .int ct), (4, .ref v)] 0 dX0_init_75 rfl (by decide) (by decide) rfl ?_
  refine tw_goto 52 dX0_init_78 (by decide) ?_
  refine tw_iload 0 dX0_init_52 rfl ?_
  refine tw_iconst (v := 4) dX0_init_54 (by decide) ?_
  refine tw_icmp_ge 81 dX0_init_55 (by decide) (fun c97 => absurd c97 (by decide)) (fun _ => ?_)
  refine tw_aload_n 1 dX0_init_58 rfl rfl ?_
  refine tw_get (v := .ref q19) rfl in_4 6 dX0_init_59 w_511 rfl (by decide) f96 rfl ?_
  refine tw_iload 0 dX0_init_62 rfl ?_
  refine tw_iconst (v := 3) dX0_init_64 (by decide) ?_
  obtain ⟨e98, f99, F100, rfl⟩ := sp95.1 q19 6 k51 (by decide)
  refine tw_iast dX0_init_65 f99 (vp_in_nI (n := 3) (by decide) (by decide)) ?_
  obtain ⟨h101, eh101⟩ : ∃ z : tw_H, z = tw_up h94 q19 (.inl (d.2 0, 4, .inl (upd F100 (3 : Int32).toNatClampNeg 3))) := ⟨_, rfl⟩
  rw [← eh101]
  have sp102 : tw_sp d τ (tw_rm h x) g τ48 h101 := by rw [eh101]; exact sp95.set k51 (by decide) ⟨_, rfl⟩
  have f103 : h101 x = some (.inr (4, [.int n, .int r, .int ct, .ref v, .int 1, .int 1, .ref q19, .ref q38, .null])) := by rw [eh101, tw_up_n ne24]; exact f96
  refine tw_aload_n 1 dX0_init_66 rfl rfl ?_
  refine tw_get (v := .ref q38) rfl in_4 7 dX0_init_67 w_512 rfl (by decide) f103 rfl ?_
  refine tw_iload 0 dX0_init_70 rfl ?_
  refine tw_bipush (v := 10) dX0_init_72 (by decide) ?_
  obtain ⟨e104, f105, F106, rfl⟩ := sp102.1 q38 6 k53 (by decide)
  refine tw_iast dX0_init_74 f105 (vp_in_nI (n := 3) (by decide) (by decide)) ?_
  obtain ⟨h107, eh107⟩ : ∃ z : tw_H, z = tw_up h101 q38 (.inl (d.2 0, 4, .inl (upd F106 (3 : Int32).toNatClampNeg 10))) := ⟨_, rfl⟩
  rw [← eh107]
  have sp108 : tw_sp d τ (tw_rm h x) g τ48 h107 := by rw [eh107]; exact sp102.set k53 (by decide) ⟨_, rfl⟩
  have f109 : h107 x = some (.inr (4, [.int n, .int r, .int ct, .ref v, .int 1, .int 1, .ref q19, .ref q38, .null])) := by rw [eh107, tw_up_n ne43]; exact f103
  refine tw_iinc [(5, .int 4), (0, .ref x), (1, .int n), (2, .int r), (3, .int ct), (4, .ref v)] 0 dX0_init_75 rfl (by decide) (by decide) rfl ?_
  refine tw_goto 52 dX0_init_78 (by decide) ?_
  refine tw_iload 0 dX0_init_52 rfl ?_
  refine tw_iconst (v := 4) dX0_init_54 (by decide) ?_
  refine tw_icmp_ge 81 dX0_init_55 (by decide) (fun _ => ?_) (fun c110 => absurd (by decide) c110)
  refine tw_aload_n 1 dX0_init_81 rfl rfl ?_
  refine tw_new (ci := 8) rfl in_8 tyX4 tyX4_ok dX0_init_82 w_491 w_208 w_90 (fs := [.null]) (fun j hj => by rcases (show j = 0 by omega) with rfl <;> rfl) 3 21 (Nat.le_of_ble_eq_true rfl) (Nat.le_of_ble_eq_true rfl) (fun q111 hq112 hA113 => ?_)
  have n114 := sp108.nn hq112
  have z115 := sp108.1.none hq112
  have ne116 := tw_neF f109 hq112
  obtain ⟨h117, eh117⟩ : ∃ z : tw_H, z = tw_up h107 q111 (.inr (8, [.null])) := ⟨_, rfl⟩
  rw [← eh117]
  have sp118 : tw_sp d τ (tw_rm h x) g τ48 h117 := by rw [eh117]; exact sp108.mk hq112
  have f119 : h117 x = some (.inr (4, [.int n, .int r, .int ct, .ref v, .int 1, .int 1, .ref q19, .ref q38, .null])) := by rw [eh117, tw_up_n ne116]; exact f109
  have f120 : h117 q111 = some (.inr (8, [.null])) := by rw [eh117]; exact tw_up_s
  refine tw_dup dX0_init_85 rfl ?_
  refine tw_bv (tw_callIN (M := mX0_init) (pc := 86) okX4_init dX0_init_86 w_492 rfl [] [.ref q111, .ref x] rfl rfl ⟨by decide, by decide⟩ (Nat.le_of_ble_eq_true rfl) (c_X4_init d g τ48 h117 sp118.1 q111 z115 f120) 2 16 (Nat.le_of_ble_eq_true rfl) (Nat.le_of_ble_eq_true rfl)) (fun h122 q121 => ?_) (fun E h1 q => q.elim)
  obtain ⟨τ123, qi124⟩ := q121
  have sp125 := sp118.ini n114 qi124
  have k126 : τ123 v = 1 := qi124.2.1.k k50 (by decide)
  have k127 : τ123 q19 = 6 := qi124.2.1.k k51 (by decide)
  have k128 : τ123 q38 = 6 := qi124.2.1.k k53 (by decide)
  have k129 : τ123 q111 = 5 := qi124.2.2.1
  have f130 := (qi124.2.2.2 _ _ ne116 f119 z54).1
  have z131 := (qi124.2.2.2 _ _ ne116 f119 z54).2
  refine tw_putF rfl in_4 tyX0 tyX0_ok nmX0 8 dX0_init_89 w_513 rfl (by decide) f130 rfl rfl rfl rfl rfl rfl (Nat.le_of_ble_eq_true rfl) [.int n, .int r, .int ct, .ref v, .int 1, .int 1, .ref q19, .ref q38, .ref q111] rfl ?_
  obtain ⟨h132, eh132⟩ : ∃ z : tw_H, z = tw_up h122 x (.inr (4, [.int n, .int r, .int ct, .ref v, .int 1, .int 1, .ref q19, .ref q38, .ref q111])) := ⟨_, rfl⟩
  rw [← eh132]
  have sp133 : tw_sp d τ (tw_rm h x) g τ123 h132 := by rw [eh132]; exact sp125.wl tw_rm_s z131
  have f134 : h132 x = some (.inr (4, [.int n, .int r, .int ct, .ref v, .int 1, .int 1, .ref q19, .ref q38, .ref q111])) := by rw [eh132]; exact tw_up_s
  obtain ⟨τ135, eτ135⟩ : ∃ z : tw_K, z = tw_ku τ123 x 2 := ⟨_, rfl⟩
  have le136 : tw_le τ123 τ135 := by rw [eτ135]; exact tw_ku_le z131
  have k137 : τ135 v = 1 := le136.k k126 (by decide)
  have k138 : τ135 q19 = 6 := le136.k k127 (by decide)
  have k139 : τ135 q38 = 6 := le136.k k128 (by decide)
  have k140 : τ135 q111 = 5 := le136.k k129 (by decide)
  have sp141 : tw_sp d τ (tw_rm h x) g τ135 h132 := by rw [eτ135]; exact sp133.ty tw_rm_s z131 f134 (by rw [← eτ135]; exact ⟨n, r, ct, 1, 1, v, q19, q38, q111, rfl, k137, k138, k139, k140, (by unfold tw_01; decide), (by unfold tw_01; decide), rlaw.1, rlaw.2⟩)
  have k142 : τ135 x = 2 := by rw [eτ135]; exact tw_ku_s
  exact tw_vret dX0_init_92 rfl (Or.inl ⟨rfl, _, sp141.toini k142⟩)

set_option maxHeartbeats 4000000 in
set_option maxRecDepth 100000 in
theorem c2_X5_needRange (d : tw_D) (g : tw_G) (τ : tw_K) (h : tw_H) (hw : tw_wt d g τ h) (v : Int32) (lo : Int32) (hi : Int32) : tw_Ct d mX5_needRange 1 6 [.int v, .int lo, .int hi] h (tw_qv (fun h1 => h1 = h ∧ lo ≤ v ∧ v ≤ hi) (fun E h1 => (E = tw_IAE) ∧ h1 = h ∧ ¬ (lo ≤ v ∧ v ≤ hi))) := by
  refine tw_of (by decide +kernel) (Nat.le_of_ble_eq_true rfl) ?_
  show tw_W d mX5_needRange _ 0 [(0, .int v), (1, .int lo), (2, .int hi)] [] h 1 6
  have sp0 := tw_sp.rf hw
  refine tw_iload_n 0 dX5_needRange_0 rfl rfl ?_
  refine tw_iload_n 1 dX5_needRange_1 rfl rfl ?_
  refine tw_icmp_lt 10 dX5_needRange_2 (by decide) (fun c1 => ?_) (fun c1 => ?_)
  · exact tw_throwSW (i := 0) (by decide +kernel) w_402 w_87 rfl at_IAE dX5_needRange_10 dX5_needRange_13 dX5_needRange_14 dX5_needRange_17 dX5_needRange_20 ⟨by decide, Nat.le_of_ble_eq_true rfl⟩ (Nat.le_of_ble_eq_true rfl) (Nat.le_of_ble_eq_true rfl) (Or.inr ⟨_, rfl, (rfl), rfl, (fun q => absurd c1 (Int32.not_lt.mpr q.1))⟩)
  · refine tw_iload_n 0 dX5_needRange_5 rfl rfl ?_
    refine tw_iload_n 2 dX5_needRange_6 rfl rfl ?_
    refine tw_icmp_le 21 dX5_needRange_7 (by decide) (fun c2 => ?_) (fun c2 => ?_)
    · exact tw_vret dX5_needRange_21 rfl (Or.inl ⟨rfl, ⟨rfl, (Int32.not_lt.mp c1), c2⟩⟩)
    · exact tw_throwSW (i := 0) (by decide +kernel) w_402 w_87 rfl at_IAE dX5_needRange_10 dX5_needRange_13 dX5_needRange_14 dX5_needRange_17 dX5_needRange_20 ⟨by decide, Nat.le_of_ble_eq_true rfl⟩ (Nat.le_of_ble_eq_true rfl) (Nat.le_of_ble_eq_true rfl) (Or.inr ⟨_, rfl, (rfl), rfl, (fun q => c2 q.2)⟩)

set_option maxHeartbeats 4000000 in
set_option maxRecDepth 100000 in
theorem c_X5_market (d : tw_D) (g : tw_G) (τ : tw_K) (h : tw_H) (hw : tw_wt d g τ h) (x : Nat) (kx : τ x = 11) (m : Int32) : tw_Ct d mX5_market 20 120 [.ref x, .int m] h (tw_qi (fun r h1 => r = g.1 0 ∧ (100 ≤ m ∧ m ≤ 200) ∧ tw_sp d τ h (tw_g1 g 0 m) τ h1) (fun E h1 => E = tw_IAE ∧ ¬ (100 ≤ m ∧ m ≤ 200) ∧ h1 = h)) := by
  refine tw_of (by decide +kernel) (Nat.le_of_ble_eq_true rfl) ?_
  show tw_W d mX5_market _ 0 [(0, .ref x), (1, .int m)] [] h 20 120
  have sp0 := tw_sp.rf hw
  refine tw_iload_n 1 dX5_market_0 rfl rfl ?_
  refine tw_bipush (v := 100) dX5_market_1 (by decide) ?_
  refine tw_sipush (v := 200) dX5_market_3 (by decide) ?_
  refine tw_bv (tw_callS (M := mX5_market) (pc := 6) okX5_needRange dX5_market_6 w_399 [.int m, .int 100, .int 200] [] rfl rfl ⟨by decide, by decide⟩ (Nat.le_of_ble_eq_true rfl) (c2_X5_needRange d g τ h sp0.1 m 100 200) 19 114 (Nat.le_of_ble_eq_true rfl) (Nat.le_of_ble_eq_true rfl)) (fun h2 q => ?_) (fun E h2 q => Or.inr ⟨E, rfl, q.1, q.2.2, q.2.1⟩)
  obtain ⟨qe, ql⟩ := q
  rw [qe]
  refine tw_aload_n 0 dX5_market_9 rfl rfl ?_
  obtain ⟨e1, f2, td_3, ca_4, ha_5, da_6, c1_7, c2_8, c3_9, c4_10, rfl, k11, k12, k13, k14, k15, k16, k17, k18, k19, k20, k21⟩ := sp0.1 x 11 kx (by decide)
  refine tw_get (v := .int (g.1 0)) rfl in_9 1 dX5_market_10 w_141 rfl (by decide) f2 rfl ?_
  refine tw_istore_n [(2, .int (g.1 0)), (0, .ref x), (1, .int m)] dX5_market_13 rfl (by decide) rfl ?_
  refine tw_aload_n 1 dX5_market_14 rfl rfl ?_
  refine tw_iload_n 2 dX5_market_15 rfl rfl ?_
  obtain ⟨g5, eg5⟩ : ∃ z : tw_G, z = tw_g1 g 0 m := ⟨_, rfl⟩
  have qm : m = g5.1 0 := by rw [eg5]; rfl
  refine tw_put rfl in_9 tyX5 tyX5_ok nmX5 1 dX5_market_16 w_141 rfl (by decide) f2 rfl rfl rfl rfl (Nat.le_of_ble_eq_true rfl) [.int td_3, .int m, .ref ca_4, .int (nI (g.2 0)), .ref ha_5, .int (nI (g.2 1)), .ref da_6, .int (nI (g.2 2)), .ref c1_7, .ref c2_8, .ref c3_9, .ref c4_10] rfl ?_
  obtain ⟨h22, eh22⟩ : ∃ z : tw_H, z = tw_up h x (.inr (9, [.int td_3, .int m, .ref ca_4, .int (nI (g.2 0)), .ref ha_5, .int (nI (g.2 1)), .ref da_6, .int (nI (g.2 2)), .ref c1_7, .ref c2_8, .ref c3_9, .ref c4_10])) := ⟨_, rfl⟩
  rw [← eh22]
  have sp23 : tw_sp d τ h g5 τ h22 := by rw [eh22]; exact sp0.g11 kx ⟨td_3, ca_4, ha_5, da_6, c1_7, c2_8, c3_9, c4_10, (by rw [eg5]; rfl), k11, k12, k13, k14, k15, k16, k17, (by rw [eg5]; exact k18), (by rw [eg5]; exact k19), (by rw [eg5]; exact k20), (by rw [eg5]; exact k21)⟩ (by rw [eg5]; intro i hi; exact if_neg hi) (by rw [eg5]; intro i hi; rfl)
  refine tw_iload_n 0 dX5_market_19 rfl rfl ?_
  exact tw_iret dX5_market_20 rfl (Or.inl ⟨_, rfl, rfl, ql, by rw [← eg5]; exact sp23⟩)

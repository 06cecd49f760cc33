/-! the class's methods over the typed heap. Laid by wip/p5/mkclass.py. -/
set_option maxHeartbeats 4000000 in
set_option maxRecDepth 100000 in
theorem c_X5_isKept (d : tw_D) (g : tw_G) (τ : tw_K) (h : tw_H) (hw : tw_wt d g τ h) (x : Nat) (kx : τ x = 11) (m : Int32) : tw_Ct d mX5_isKept 0 0 [.ref x, .int m] h (tw_qi (fun r h1 => h1 = h ∧ tw_01 r) tw_nx) := by
  refine tw_of (by decide +kernel) (Nat.le_of_ble_eq_true rfl) ?_
  show tw_W d mX5_isKept _ 0 [(0, .ref x), (1, .int m)] [] h 0 0
  have sp0 := tw_sp.rf hw
  refine tw_aload_n 0 dX5_isKept_0 rfl rfl ?_
  refine tw_iload_n 1 dX5_isKept_1 rfl rfl ?_
  obtain ⟨e1, f2, td_3, ca_4, ha_5, da_6, c1_7, c2_8, c3_9, c4_10, rfl, k11, k12, k13, k14, k15, k16, k17, k18, k19, k20, k21, k22, k23, k24, k25, k26, k27⟩ := sp0.1 x 11 kx (by decide)
  refine tw_bi (tw_callV (M := mX5_isKept) (pc := 2) okX5_inVaults dX5_isKept_2 w_185 rfl f2 [.int m] [] rfl rfl ⟨by decide, by decide⟩ (Nat.le_of_ble_eq_true rfl) (c_X5_inVaults d g τ h sp0.1 x kx m) 0 0 (Nat.le_of_ble_eq_true rfl) (Nat.le_of_ble_eq_true rfl)) (fun r30 h29 q28 => ?_) (fun E h1 q => q.elim)
  rw [q28]
  refine tw_aload_n 0 dX5_isKept_5 rfl rfl ?_
  refine tw_iload_n 1 dX5_isKept_6 rfl rfl ?_
  refine tw_bi (tw_callV (M := mX5_isKept) (pc := 7) okX5_inPurses dX5_isKept_7 w_193 rfl f2 [.int m] [.int r30] rfl rfl ⟨by decide, by decide⟩ (Nat.le_of_ble_eq_true rfl) (c_X5_inPurses d g τ h sp0.1 x kx m) 0 0 (Nat.le_of_ble_eq_true rfl) (Nat.le_of_ble_eq_true rfl)) (fun r33 h32 q31 => ?_) (fun E h1 q => q.elim)
  rw [q31]
  refine tw_iadd dX5_isKept_10 ?_
  refine tw_nmi (fun v34 ev34 => ?_)
  refine tw_aload_n 0 dX5_isKept_11 rfl rfl ?_
  refine tw_get (v := .ref c1_7) rfl in_9 8 dX5_isKept_12 w_148 rfl (by decide) f2 rfl ?_
  refine tw_iload_n 1 dX5_isKept_15 rfl rfl ?_
  obtain ⟨e35, f36, a_37, b_38, rfl, k39⟩ := sp0.1 c1_7 1 k14 (by decide)
  refine tw_bi (tw_callVN (M := mX5_isKept) (pc := 16) okX3_of dX5_isKept_16 w_189 rfl f36 [.int m] [.int v34] rfl rfl ⟨by decide, by decide⟩ (Nat.le_of_ble_eq_true rfl) (c_X3_of d g τ h sp0.1 c1_7 k14 m) 0 0 (Nat.le_of_ble_eq_true rfl) (Nat.le_of_ble_eq_true rfl)) (fun r42 h41 q40 => ?_) (fun E h1 q => q.elim)
  rw [q40]
  refine tw_iadd dX5_isKept_19 ?_
  refine tw_nmi (fun v43 ev43 => ?_)
  refine tw_aload_n 0 dX5_isKept_20 rfl rfl ?_
  refine tw_get (v := .ref c2_8) rfl in_9 9 dX5_isKept_21 w_149 rfl (by decide) f2 rfl ?_
  refine tw_iload_n 1 dX5_isKept_24 rfl rfl ?_
  obtain ⟨e44, f45, a_46, b_47, rfl, k48⟩ := sp0.1 c2_8 1 k15 (by decide)
  refine tw_bi (tw_callVN (M := mX5_isKept) (pc := 25) okX3_of dX5_isKept_25 w_189 rfl f45 [.int m] [.int v43] rfl rfl ⟨by decide, by decide⟩ (Nat.le_of_ble_eq_true rfl) (c_X3_of d g τ h sp0.1 c2_8 k15 m) 0 0 (Nat.le_of_ble_eq_true rfl) (Nat.le_of_ble_eq_true rfl)) (fun r51 h50 q49 => ?_) (fun E h1 q => q.elim)
  rw [q49]
  refine tw_iadd dX5_isKept_28 ?_
  refine tw_nmi (fun v52 ev52 => ?_)
  refine tw_aload_n 0 dX5_isKept_29 rfl rfl ?_
  refine tw_get (v := .ref c3_9) rfl in_9 10 dX5_isKept_30 w_150 rfl (by decide) f2 rfl ?_
  refine tw_iload_n 1 dX5_isKept_33 rfl rfl ?_
  obtain ⟨e53, f54, a_55, b_56, rfl, k57⟩ := sp0.1 c3_9 1 k16 (by decide)
  refine tw_bi (tw_callVN (M := mX5_isKept) (pc := 34) okX3_of dX5_isKept_34 w_189 rfl f54 [.int m] [.int v52] rfl rfl ⟨by decide, by decide⟩ (Nat.le_of_ble_eq_true rfl) (c_X3_of d g τ h sp0.1 c3_9 k16 m) 0 0 (Nat.le_of_ble_eq_true rfl) (Nat.le_of_ble_eq_true rfl)) (fun r60 h59 q58 => ?_) (fun E h1 q => q.elim)
  rw [q58]
  refine tw_iadd dX5_isKept_37 ?_
  refine tw_nmi (fun v61 ev61 => ?_)
  refine tw_istore_n [(2, .int v61), (0, .ref x), (1, .int m)] dX5_isKept_38 rfl (by decide) rfl ?_
  refine tw_iload_n 0 dX5_isKept_39 rfl rfl ?_
  refine tw_aload_n 1 dX5_isKept_40 rfl rfl ?_
  refine tw_get (v := .ref c4_10) rfl in_9 11 dX5_isKept_41 w_151 rfl (by decide) f2 rfl ?_
  refine tw_iload_n 2 dX5_isKept_44 rfl rfl ?_
  obtain ⟨e62, f63, a_64, b_65, rfl, k66⟩ := sp0.1 c4_10 1 k17 (by decide)
  refine tw_bi (tw_callVN (M := mX5_isKept) (pc := 45) okX3_of dX5_isKept_45 w_189 rfl f63 [.int m] [.int v61] rfl rfl ⟨by decide, by decide⟩ (Nat.le_of_ble_eq_true rfl) (c_X3_of d g τ h sp0.1 c4_10 k17 m) 0 0 (Nat.le_of_ble_eq_true rfl) (Nat.le_of_ble_eq_true rfl)) (fun r69 h68 q67 => ?_) (fun E h1 q => q.elim)
  rw [q67]
  refine tw_icmp_ne 55 dX5_isKept_48 (by decide) (fun c70 => ?_) (fun c70 => ?_)
  · refine tw_iconst (v := 0) dX5_isKept_55 (by decide) ?_
    exact tw_zret dX5_isKept_56 rfl rfl (Or.inl ⟨_, rfl, ⟨rfl, (by unfold tw_01; decide)⟩⟩)
  · refine tw_iconst (v := 1) dX5_isKept_51 (by decide) ?_
    refine tw_goto 56 dX5_isKept_52 (by decide) ?_
    exact tw_zret dX5_isKept_56 rfl rfl (Or.inl ⟨_, rfl, ⟨rfl, (by unfold tw_01; decide)⟩⟩)

set_option maxHeartbeats 4000000 in
set_option maxRecDepth 100000 in
theorem c_X5_areCountriesSound (d : tw_D) (g : tw_G) (τ : tw_K) (h : tw_H) (hw : tw_wt d g τ h) (x : Nat) (kx : τ x = 11) : tw_Ct d mX5_areCountriesSound 0 0 [.ref x] h (tw_qi (fun r h1 => h1 = h ∧ tw_01 r) tw_nx) := by
  refine tw_of (by decide +kernel) (Nat.le_of_ble_eq_true rfl) ?_
  show tw_W d mX5_areCountriesSound _ 0 [(0, .ref x)] [] h 0 0
  have sp0 := tw_sp.rf hw
  refine tw_aload_n 0 dX5_areCountriesSound_0 rfl rfl ?_
  obtain ⟨e1, f2, td_3, ca_4, ha_5, da_6, c1_7, c2_8, c3_9, c4_10, rfl, k11, k12, k13, k14, k15, k16, k17, k18, k19, k20, k21, k22, k23, k24, k25, k26, k27⟩ := sp0.1 x 11 kx (by decide)
  refine tw_get (v := .ref ca_4) rfl in_9 2 dX5_areCountriesSound_1 w_142 rfl (by decide) f2 rfl ?_
  refine tw_astore_n [(1, .ref ca_4), (0, .ref x)] dX5_areCountriesSound_4 rfl (by decide) rfl ?_
  refine tw_aload_n 0 dX5_areCountriesSound_5 rfl rfl ?_
  obtain ⟨e28, f29, F30, rfl, k31, pn32, pb33, px34, pf35⟩ := sp0.1 ca_4 8 k11 (by decide)
  refine tw_alen (v := nI 4) 4 rfl dX5_areCountriesSound_6 f29 rfl ?_
  refine tw_istore_n [(2, .int (nI 4)), (1, .ref ca_4), (0, .ref x)] dX5_areCountriesSound_7 rfl (by decide) rfl ?_
  refine tw_iconst (v := 0) dX5_areCountriesSound_8 (by decide) ?_
  refine tw_istore_n [(3, .int 0), (2, .int (nI 4)), (1, .ref ca_4), (0, .ref x)] dX5_areCountriesSound_9 rfl (by decide) rfl ?_
  have L39 : ∀ (r37 k36 : Nat), 4 + 1 ≤ k36 + r37 → k36 ≤ 4 → tw_W d mX5_areCountriesSound (tw_qi (fun r h1 => h1 = h ∧ tw_01 r) tw_nx) 10 [(0, .ref x), (1, .ref ca_4), (2, .int (nI 4)), (3, .int (nI k36))] [] h 0 0 := by
    intro r37
    induction r37 with
    | zero => intro k36  hk43 hk44; exact absurd hk43 (by omega)
    | succ r37 ih38 =>
      intro k36  hk43 hk44
      refine tw_iload_n 3 dX5_areCountriesSound_10 rfl rfl ?_
      refine tw_iload_n 2 dX5_areCountriesSound_11 rfl rfl ?_
      refine tw_icmp_ge 55 dX5_areCountriesSound_12 (by decide) (fun c45 => ?_) (fun c45 => ?_)
      · refine tw_iconst (v := 1) dX5_areCountriesSound_55 (by decide) ?_
        exact tw_zret dX5_areCountriesSound_56 rfl rfl (Or.inl ⟨_, rfl, ⟨rfl, (by unfold tw_01; decide)⟩⟩)
      · have kl46 := tw_klt (N := 4) c45 hk44 (by decide)
        refine tw_aload_n 1 dX5_areCountriesSound_15 rfl rfl ?_
        refine tw_iload_n 3 dX5_areCountriesSound_16 rfl rfl ?_
        cases k47 : F30 ((nI k36)).toNatClampNeg with
        | none =>
          refine tw_aald (v := .null) 4 rfl rfl dX5_areCountriesSound_17 f29 (vp_in_nI (by omega) (by decide)) (by rw [k47]; rfl) ?_
          refine tw_astoreN [(4, .null), (0, .ref x), (1, .ref ca_4), (2, .int (nI 4)), (3, .int (nI k36))] dX5_areCountriesSound_18 (by decide) rfl ?_
          refine tw_aloadN 0 dX5_areCountriesSound_20 rfl ?_
          refine tw_ifnullN 49 dX5_areCountriesSound_22 (by decide) ?_
          obtain ⟨v49, ev49⟩ : ∃ y : Int32, y = (nI k36) + 1 := ⟨_, rfl⟩
          refine tw_iinc [(3, .int v49), (4, .null), (0, .ref x), (1, .ref ca_4), (2, .int (nI 4))] 4 dX5_areCountriesSound_49 rfl (by rw [ev49]; rfl) (by decide) rfl ?_
          refine tw_goto 10 dX5_areCountriesSound_52 (by decide) ?_
          have qv49 := tw_nI3 ev49
          rw [qv49]
          refine tw_lv [2, 3, 4, 0] rfl ?_
          exact ih38 (k36 + 1)  (by omega) (by omega)
        | some q48 =>
          have k50 := k31 _ _ k47
          refine tw_aald (v := .ref q48) 4 rfl rfl dX5_areCountriesSound_17 f29 (vp_in_nI (by omega) (by decide)) (by rw [k47]; rfl) ?_
          refine tw_astore [(4, .ref q48), (0, .ref x), (1, .ref ca_4), (2, .int (nI 4)), (3, .int (nI k36))] dX5_areCountriesSound_18 (by decide) rfl ?_
          refine tw_aload 0 dX5_areCountriesSound_20 rfl ?_
          refine tw_ifnull dX5_areCountriesSound_22 ?_
          refine tw_aload 0 dX5_areCountriesSound_25 rfl ?_
          obtain ⟨e51, f52, n_53, r_54, c_55, go_56, so_57, v_58, rd_59, rf_60, t_61, rfl, k62, k63, k64, k65, k66, k67, k68, k69, k70⟩ := sp0.1 q48 2 k50 (by decide)
          refine tw_getN (v := .ref v_58) rfl in_4 3 dX5_areCountriesSound_27 w_508 rfl (by decide) f52 rfl ?_
          obtain ⟨e71, f72, a_73, b_74, rfl, k75⟩ := sp0.1 v_58 1 k62 (by decide)
          refine tw_bi (tw_callVN (M := mX5_areCountriesSound) (pc := 30) okX3_isBelowZero dX5_areCountriesSound_30 w_201 rfl f72 [] [] rfl rfl ⟨by decide, by decide⟩ (Nat.le_of_ble_eq_true rfl) (c_X3_isBelowZero d g τ h sp0.1 v_58 k62) 0 0 (Nat.le_of_ble_eq_true rfl) (Nat.le_of_ble_eq_true rfl)) (fun r78 h77 q76 => ?_) (fun E h1 q => q.elim)
          obtain ⟨q76e, p79⟩ := q76
          rw [q76e]
          refine tw_if_ne 47 dX5_areCountriesSound_33 (by decide) (fun c80 => ?_) (fun c80 => ?_)
          · refine tw_iconst (v := 0) dX5_areCountriesSound_47 (by decide) ?_
            exact tw_zret dX5_areCountriesSound_48 rfl rfl (Or.inl ⟨_, rfl, ⟨rfl, (by unfold tw_01; decide)⟩⟩)
          · refine tw_aload 0 dX5_areCountriesSound_36 rfl ?_
            refine tw_getN (v := .ref t_61) rfl in_4 8 dX5_areCountriesSound_38 w_514 rfl (by decide) f52 rfl ?_
            obtain ⟨e81, f82, m_83, rfl, k84, k85⟩ := sp0.1 t_61 5 k65 (by decide)
            refine tw_bi (tw_callVN (M := mX5_areCountriesSound) (pc := 41) okX4_isBelowZero dX5_areCountriesSound_41 w_205 rfl f82 [] [] rfl rfl ⟨by decide, by decide⟩ (Nat.le_of_ble_eq_true rfl) (c_X4_isBelowZero d g τ h sp0.1 t_61 k65) 0 0 (Nat.le_of_ble_eq_true rfl) (Nat.le_of_ble_eq_true rfl)) (fun r88 h87 q86 => ?_) (fun E h1 q => q.elim)
            obtain ⟨q86e, p89⟩ := q86
            rw [q86e]
            refine tw_if_eq 49 dX5_areCountriesSound_44 (by decide) (fun c90 => ?_) (fun c90 => ?_)
            · obtain ⟨v91, ev91⟩ : ∃ y : Int32, y = (nI k36) + 1 := ⟨_, rfl⟩
              refine tw_iinc [(3, .int v91), (4, .ref q48), (0, .ref x), (1, .ref ca_4), (2, .int (nI 4))] 4 dX5_areCountriesSound_49 rfl (by rw [ev91]; rfl) (by decide) rfl ?_
              refine tw_goto 10 dX5_areCountriesSound_52 (by decide) ?_
              have qv91 := tw_nI3 ev91
              rw [qv91]
              refine tw_lv [2, 3, 4, 0] rfl ?_
              exact ih38 (k36 + 1)  (by omega) (by omega)
            · refine tw_iconst (v := 0) dX5_areCountriesSound_47 (by decide) ?_
              exact tw_zret dX5_areCountriesSound_48 rfl rfl (Or.inl ⟨_, rfl, ⟨rfl, (by unfold tw_01; decide)⟩⟩)
  refine tw_lv [3, 2, 1, 0] rfl ?_
  exact L39 (4 + 1) 0  (by omega) (by omega)

set_option maxHeartbeats 4000000 in
set_option maxRecDepth 100000 in
theorem c_X5_areHousesSound (d : tw_D) (g : tw_G) (τ : tw_K) (h : tw_H) (hw : tw_wt d g τ h) (x : Nat) (kx : τ x = 11) : tw_Ct d mX5_areHousesSound 0 0 [.ref x] h (tw_qi (fun r h1 => h1 = h ∧ tw_01 r) tw_nx) := by
  refine tw_of (by decide +kernel) (Nat.le_of_ble_eq_true rfl) ?_
  show tw_W d mX5_areHousesSound _ 0 [(0, .ref x)] [] h 0 0
  have sp0 := tw_sp.rf hw
  refine tw_aload_n 0 dX5_areHousesSound_0 rfl rfl ?_
  obtain ⟨e1, f2, td_3, ca_4, ha_5, da_6, c1_7, c2_8, c3_9, c4_10, rfl, k11, k12, k13, k14, k15, k16, k17, k18, k19, k20, k21, k22, k23, k24, k25, k26, k27⟩ := sp0.1 x 11 kx (by decide)
  refine tw_get (v := .ref ha_5) rfl in_9 4 dX5_areHousesSound_1 w_144 rfl (by decide) f2 rfl ?_
  refine tw_astore_n [(1, .ref ha_5), (0, .ref x)] dX5_areHousesSound_4 rfl (by decide) rfl ?_
  refine tw_aload_n 0 dX5_areHousesSound_5 rfl rfl ?_
  obtain ⟨e28, f29, F30, rfl, k31, pn32, pb33, px34, pf35⟩ := sp0.1 ha_5 9 k12 (by decide)
  refine tw_alen (v := nI 6) 5 rfl dX5_areHousesSound_6 f29 rfl ?_
  refine tw_istore_n [(2, .int (nI 6)), (1, .ref ha_5), (0, .ref x)] dX5_areHousesSound_7 rfl (by decide) rfl ?_
  refine tw_iconst (v := 0) dX5_areHousesSound_8 (by decide) ?_
  refine tw_istore_n [(3, .int 0), (2, .int (nI 6)), (1, .ref ha_5), (0, .ref x)] dX5_areHousesSound_9 rfl (by decide) rfl ?_
  have L39 : ∀ (r37 k36 : Nat), 6 + 1 ≤ k36 + r37 → k36 ≤ 6 → tw_W d mX5_areHousesSound (tw_qi (fun r h1 => h1 = h ∧ tw_01 r) tw_nx) 10 [(0, .ref x), (1, .ref ha_5), (2, .int (nI 6)), (3, .int (nI k36))] [] h 0 0 := by
    intro r37
    induction r37 with
    | zero => intro k36  hk43 hk44; exact absurd hk43 (by omega)
    | succ r37 ih38 =>
      intro k36  hk43 hk44
      refine tw_iload_n 3 dX5_areHousesSound_10 rfl rfl ?_
      refine tw_iload_n 2 dX5_areHousesSound_11 rfl rfl ?_
      refine tw_icmp_ge 56 dX5_areHousesSound_12 (by decide) (fun c45 => ?_) (fun c45 => ?_)
      · refine tw_iconst (v := 1) dX5_areHousesSound_56 (by decide) ?_
        exact tw_zret dX5_areHousesSound_57 rfl rfl (Or.inl ⟨_, rfl, ⟨rfl, (by unfold tw_01; decide)⟩⟩)
      · have kl46 := tw_klt (N := 6) c45 hk44 (by decide)
        refine tw_aload_n 1 dX5_areHousesSound_15 rfl rfl ?_
        refine tw_iload_n 3 dX5_areHousesSound_16 rfl rfl ?_
        cases k47 : F30 ((nI k36)).toNatClampNeg with
        | none =>
          refine tw_aald (v := .null) 5 rfl rfl dX5_areHousesSound_17 f29 (vp_in_nI (by omega) (by decide)) (by rw [k47]; rfl) ?_
          refine tw_astoreN [(4, .null), (0, .ref x), (1, .ref ha_5), (2, .int (nI 6)), (3, .int (nI k36))] dX5_areHousesSound_18 (by decide) rfl ?_
          refine tw_aloadN 0 dX5_areHousesSound_20 rfl ?_
          refine tw_ifnullN 50 dX5_areHousesSound_22 (by decide) ?_
          obtain ⟨v49, ev49⟩ : ∃ y : Int32, y = (nI k36) + 1 := ⟨_, rfl⟩
          refine tw_iinc [(3, .int v49), (4, .null), (0, .ref x), (1, .ref ha_5), (2, .int (nI 6))] 4 dX5_areHousesSound_50 rfl (by rw [ev49]; rfl) (by decide) rfl ?_
          refine tw_goto 10 dX5_areHousesSound_53 (by decide) ?_
          have qv49 := tw_nI3 ev49
          rw [qv49]
          refine tw_lv [2, 3, 4, 0] rfl ?_
          exact ih38 (k36 + 1)  (by omega) (by omega)
        | some q48 =>
          have k50 := k31 _ _ k47
          refine tw_aald (v := .ref q48) 5 rfl rfl dX5_areHousesSound_17 f29 (vp_in_nI (by omega) (by decide)) (by rw [k47]; rfl) ?_
          refine tw_astore [(4, .ref q48), (0, .ref x), (1, .ref ha_5), (2, .int (nI 6)), (3, .int (nI k36))] dX5_areHousesSound_18 (by decide) rfl ?_
          refine tw_aload 0 dX5_areHousesSound_20 rfl ?_
          refine tw_ifnull dX5_areHousesSound_22 ?_
          refine tw_aload 0 dX5_areHousesSound_25 rfl ?_
          obtain ⟨e51, f52, n_53, ar_54, p_55, pl_56, go_57, rfl, k58, k59, k60, k61⟩ := sp0.1 q48 3 k50 (by decide)
          refine tw_getN (v := .ref p_55) rfl in_6 1 dX5_areHousesSound_27 w_639 rfl (by decide) f52 rfl ?_
          obtain ⟨e62, f63, a_64, b_65, rfl, k66⟩ := sp0.1 p_55 1 k58 (by decide)
          refine tw_bi (tw_callVN (M := mX5_areHousesSound) (pc := 30) okX3_isBelowZero dX5_areHousesSound_30 w_201 rfl f63 [] [] rfl rfl ⟨by decide, by decide⟩ (Nat.le_of_ble_eq_true rfl) (c_X3_isBelowZero d g τ h sp0.1 p_55 k58) 0 0 (Nat.le_of_ble_eq_true rfl) (Nat.le_of_ble_eq_true rfl)) (fun r69 h68 q67 => ?_) (fun E h1 q => q.elim)
          obtain ⟨q67e, p70⟩ := q67
          rw [q67e]
          refine tw_if_ne 48 dX5_areHousesSound_33 (by decide) (fun c71 => ?_) (fun c71 => ?_)
          · refine tw_iconst (v := 0) dX5_areHousesSound_48 (by decide) ?_
            exact tw_zret dX5_areHousesSound_49 rfl rfl (Or.inl ⟨_, rfl, ⟨rfl, (by unfold tw_01; decide)⟩⟩)
          · refine tw_aload 0 dX5_areHousesSound_36 rfl ?_
            refine tw_aload_n 1 dX5_areHousesSound_38 rfl rfl ?_
            refine tw_get (v := .int td_3) rfl in_9 0 dX5_areHousesSound_39 w_140 rfl (by decide) f2 rfl ?_
            refine tw_bi (tw_callVN (M := mX5_areHousesSound) (pc := 42) okX2_isLateOn dX5_areHousesSound_42 w_214 rfl f52 [.int td_3] [] rfl rfl ⟨by decide, by decide⟩ (Nat.le_of_ble_eq_true rfl) (c_X2_isLateOn d g τ h sp0.1 q48 k50 td_3) 0 0 (Nat.le_of_ble_eq_true rfl) (Nat.le_of_ble_eq_true rfl)) (fun r74 h73 q72 => ?_) (fun E h1 q => q.elim)
            obtain ⟨q72e, p75⟩ := q72
            rw [q72e]
            refine tw_if_eq 50 dX5_areHousesSound_45 (by decide) (fun c76 => ?_) (fun c76 => ?_)
            · obtain ⟨v77, ev77⟩ : ∃ y : Int32, y = (nI k36) + 1 := ⟨_, rfl⟩
              refine tw_iinc [(3, .int v77), (4, .ref q48), (0, .ref x), (1, .ref ha_5), (2, .int (nI 6))] 4 dX5_areHousesSound_50 rfl (by rw [ev77]; rfl) (by decide) rfl ?_
              refine tw_goto 10 dX5_areHousesSound_53 (by decide) ?_
              have qv77 := tw_nI3 ev77
              rw [qv77]
              refine tw_lv [2, 3, 4, 0] rfl ?_
              exact ih38 (k36 + 1)  (by omega) (by omega)
            · refine tw_iconst (v := 0) dX5_areHousesSound_48 (by decide) ?_
              exact tw_zret dX5_areHousesSound_49 rfl rfl (Or.inl ⟨_, rfl, ⟨rfl, (by unfold tw_01; decide)⟩⟩)
  refine tw_lv [3, 2, 1, 0] rfl ?_
  exact L39 (6 + 1) 0  (by omega) (by omega)

set_option maxHeartbeats 4000000 in
set_option maxRecDepth 100000 in
theorem c_X5_hasSameRoads (d : tw_D) (g : tw_G) (τ : tw_K) (h : tw_H) (hw : tw_wt d g τ h) (a : Nat) (ka : τ a = 2) (b : Nat) (kb : τ b = 2) : tw_Ct d mX5_hasSameRoads 0 0 [.ref a, .ref b] h (tw_qi (fun r h1 => h1 = h ∧ tw_01 r) tw_nx) := by
  refine tw_of (by decide +kernel) (Nat.le_of_ble_eq_true rfl) ?_
  show tw_W d mX5_hasSameRoads _ 0 [(0, .ref a), (1, .ref b)] [] h 0 0
  have sp0 := tw_sp.rf hw
  refine tw_aload_n 0 dX5_hasSameRoads_0 rfl rfl ?_
  refine tw_aload_n 1 dX5_hasSameRoads_1 rfl rfl ?_
  obtain ⟨e1, f2, n_3, r_4, c_5, go_6, so_7, v_8, rd_9, rf_10, t_11, rfl, k12, k13, k14, k15, k16, k17, k18, k19, k20⟩ := sp0.1 b 2 kb (by decide)
  refine tw_getN (v := .int n_3) rfl in_4 0 dX5_hasSameRoads_2 w_502 rfl (by decide) f2 rfl ?_
  obtain ⟨e21, f22, n_23, r_24, c_25, go_26, so_27, v_28, rd_29, rf_30, t_31, rfl, k32, k33, k34, k35, k36, k37, k38, k39, k40⟩ := sp0.1 a 2 ka (by decide)
  refine tw_bi (tw_callVN (M := mX5_hasSameRoads) (pc := 5) okX0_daysTo dX5_hasSameRoads_5 w_226 rfl f22 [.int n_3] [] rfl rfl ⟨by decide, by decide⟩ (Nat.le_of_ble_eq_true rfl) (c_X0_daysTo d g τ h sp0.1 a ka n_3) 0 0 (Nat.le_of_ble_eq_true rfl) (Nat.le_of_ble_eq_true rfl)) (fun r43 h42 q41 => ?_) (fun E h1 q => q.elim)
  rw [q41]
  refine tw_aload_n 1 dX5_hasSameRoads_8 rfl rfl ?_
  refine tw_aload_n 0 dX5_hasSameRoads_9 rfl rfl ?_
  refine tw_getN (v := .int n_23) rfl in_4 0 dX5_hasSameRoads_10 w_502 rfl (by decide) f22 rfl ?_
  refine tw_bi (tw_callVN (M := mX5_hasSameRoads) (pc := 13) okX0_daysTo dX5_hasSameRoads_13 w_226 rfl f2 [.int n_23] [.int r43] rfl rfl ⟨by decide, by decide⟩ (Nat.le_of_ble_eq_true rfl) (c_X0_daysTo d g τ h sp0.1 b kb n_23) 0 0 (Nat.le_of_ble_eq_true rfl) (Nat.le_of_ble_eq_true rfl)) (fun r46 h45 q44 => ?_) (fun E h1 q => q.elim)
  rw [q44]
  refine tw_icmp_ne 42 dX5_hasSameRoads_16 (by decide) (fun c47 => ?_) (fun c47 => ?_)
  · refine tw_iconst (v := 0) dX5_hasSameRoads_42 (by decide) ?_
    exact tw_zret dX5_hasSameRoads_43 rfl rfl (Or.inl ⟨_, rfl, ⟨rfl, (by unfold tw_01; decide)⟩⟩)
  · refine tw_aload_n 0 dX5_hasSameRoads_19 rfl rfl ?_
    refine tw_aload_n 1 dX5_hasSameRoads_20 rfl rfl ?_
    refine tw_getN (v := .int n_3) rfl in_4 0 dX5_hasSameRoads_21 w_502 rfl (by decide) f2 rfl ?_
    refine tw_bi (tw_callVN (M := mX5_hasSameRoads) (pc := 24) okX0_freightTo dX5_hasSameRoads_24 w_231 rfl f22 [.int n_3] [] rfl rfl ⟨by decide, by decide⟩ (Nat.le_of_ble_eq_true rfl) (c_X0_freightTo d g τ h sp0.1 a ka n_3) 0 0 (Nat.le_of_ble_eq_true rfl) (Nat.le_of_ble_eq_true rfl)) (fun r50 h49 q48 => ?_) (fun E h1 q => q.elim)
    rw [q48]
    refine tw_aload_n 1 dX5_hasSameRoads_27 rfl rfl ?_
    refine tw_aload_n 0 dX5_hasSameRoads_28 rfl rfl ?_
    refine tw_getN (v := .int n_23) rfl in_4 0 dX5_hasSameRoads_29 w_502 rfl (by decide) f22 rfl ?_
    refine tw_bi (tw_callVN (M := mX5_hasSameRoads) (pc := 32) okX0_freightTo dX5_hasSameRoads_32 w_231 rfl f2 [.int n_23] [.int r50] rfl rfl ⟨by decide, by decide⟩ (Nat.le_of_ble_eq_true rfl) (c_X0_freightTo d g τ h sp0.1 b kb n_23) 0 0 (Nat.le_of_ble_eq_true rfl) (Nat.le_of_ble_eq_true rfl)) (fun r53 h52 q51 => ?_) (fun E h1 q => q.elim)
    rw [q51]
    refine tw_icmp_ne 42 dX5_hasSameRoads_35 (by decide) (fun c54 => ?_) (fun c54 => ?_)
    · refine tw_iconst (v := 0) dX5_hasSameRoads_42 (by decide) ?_
      exact tw_zret dX5_hasSameRoads_43 rfl rfl (Or.inl ⟨_, rfl, ⟨rfl, (by unfold tw_01; decide)⟩⟩)
    · refine tw_iconst (v := 1) dX5_hasSameRoads_38 (by decide) ?_
      refine tw_goto 43 dX5_hasSameRoads_39 (by decide) ?_
      exact tw_zret dX5_hasSameRoads_43 rfl rfl (Or.inl ⟨_, rfl, ⟨rfl, (by unfold tw_01; decide)⟩⟩)

set_option maxHeartbeats 4000000 in
set_option maxRecDepth 100000 in
theorem c_X5_areRoadsTheSame (d : tw_D) (g : tw_G) (τ : tw_K) (h : tw_H) (hw : tw_wt d g τ h) (x : Nat) (kx : τ x = 11) : tw_Ct d mX5_areRoadsTheSame 0 0 [.ref x] h (tw_qi (fun r h1 => h1 = h ∧ tw_01 r) tw_nx) := by
  refine tw_of (by decide +kernel) (Nat.le_of_ble_eq_true rfl) ?_
  show tw_W d mX5_areRoadsTheSame _ 0 [(0, .ref x)] [] h 0 0
  have sp0 := tw_sp.rf hw
  refine tw_aload_n 0 dX5_areRoadsTheSame_0 rfl rfl ?_
  obtain ⟨e1, f2, td_3, ca_4, ha_5, da_6, c1_7, c2_8, c3_9, c4_10, rfl, k11, k12, k13, k14, k15, k16, k17, k18, k19, k20, k21, k22, k23, k24, k25, k26, k27⟩ := sp0.1 x 11 kx (by decide)
  refine tw_get (v := .ref ca_4) rfl in_9 2 dX5_areRoadsTheSame_1 w_142 rfl (by decide) f2 rfl ?_
  refine tw_astore_n [(1, .ref ca_4), (0, .ref x)] dX5_areRoadsTheSame_4 rfl (by decide) rfl ?_
  refine tw_aload_n 0 dX5_areRoadsTheSame_5 rfl rfl ?_
  obtain ⟨e28, f29, F30, rfl, k31, pn32, pb33, px34, pf35⟩ := sp0.1 ca_4 8 k11 (by decide)
  refine tw_alen (v := nI 4) 4 rfl dX5_areRoadsTheSame_6 f29 rfl ?_
  refine tw_istore_n [(2, .int (nI 4)), (1, .ref ca_4), (0, .ref x)] dX5_areRoadsTheSame_7 rfl (by decide) rfl ?_
  refine tw_iconst (v := 0) dX5_areRoadsTheSame_8 (by decide) ?_
  refine tw_istore_n [(3, .int 0), (2, .int (nI 4)), (1, .ref ca_4), (0, .ref x)] dX5_areRoadsTheSame_9 rfl (by decide) rfl ?_
  have L39 : ∀ (r37 k36 : Nat), 4 + 1 ≤ k36 + r37 → k36 ≤ 4 → tw_W d mX5_areRoadsTheSame (tw_qi (fun r h1 => h1 = h ∧ tw_01 r) tw_nx) 10 [(0, .ref x), (1, .ref ca_4), (2, .int (nI 4)), (3, .int (nI k36))] [] h 0 0 := by
    intro r37
    induction r37 with
    | zero => intro k36  hk43 hk44; exact absurd hk43 (by omega)
    | succ r37 ih38 =>
      intro k36  hk43 hk44
      refine tw_iload_n 3 dX5_areRoadsTheSame_10 rfl rfl ?_
      refine tw_iload_n 2 dX5_areRoadsTheSame_11 rfl rfl ?_
      refine tw_icmp_ge 82 dX5_areRoadsTheSame_12 (by decide) (fun c45 => ?_) (fun c45 => ?_)
      · refine tw_iconst (v := 1) dX5_areRoadsTheSame_82 (by decide) ?_
        exact tw_zret dX5_areRoadsTheSame_83 rfl rfl (Or.inl ⟨_, rfl, ⟨rfl, (by unfold tw_01; decide)⟩⟩)
      · have kl46 := tw_klt (N := 4) c45 hk44 (by decide)
        refine tw_aload_n 1 dX5_areRoadsTheSame_15 rfl rfl ?_
        refine tw_iload_n 3 dX5_areRoadsTheSame_16 rfl rfl ?_
        cases k47 : F30 ((nI k36)).toNatClampNeg with
        | none =>
          refine tw_aald (v := .null) 4 rfl rfl dX5_areRoadsTheSame_17 f29 (vp_in_nI (by omega) (by decide)) (by rw [k47]; rfl) ?_
          refine tw_astoreN [(4, .null), (0, .ref x), (1, .ref ca_4), (2, .int (nI 4)), (3, .int (nI k36))] dX5_areRoadsTheSame_18 (by decide) rfl ?_
          refine tw_aload_n 1 dX5_areRoadsTheSame_20 rfl rfl ?_
          refine tw_get (v := .ref ca_4) rfl in_9 2 dX5_areRoadsTheSame_21 w_142 rfl (by decide) f2 rfl ?_
          refine tw_astore [(5, .ref ca_4), (4, .null), (0, .ref x), (1, .ref ca_4), (2, .int (nI 4)), (3, .int (nI k36))] dX5_areRoadsTheSame_24 (by decide) rfl ?_
          refine tw_aload 0 dX5_areRoadsTheSame_26 rfl ?_
          refine tw_alen (v := nI 4) 4 rfl dX5_areRoadsTheSame_28 f29 rfl ?_
          refine tw_istore [(6, .int (nI 4)), (5, .ref ca_4), (4, .null), (0, .ref x), (1, .ref ca_4), (2, .int (nI 4)), (3, .int (nI k36))] dX5_areRoadsTheSame_29 (by decide) rfl ?_
          refine tw_iconst (v := 0) dX5_areRoadsTheSame_31 (by decide) ?_
          refine tw_istore [(7, .int 0), (6, .int (nI 4)), (5, .ref ca_4), (4, .null), (0, .ref x), (1, .ref ca_4), (2, .int (nI 4)), (3, .int (nI k36))] dX5_areRoadsTheSame_32 (by decide) rfl ?_
          have L52 : ∀ (r50 k49 : Nat), 4 + 1 ≤ k49 + r50 → k49 ≤ 4 → tw_W d mX5_areRoadsTheSame (tw_qi (fun r h1 => h1 = h ∧ tw_01 r) tw_nx) 34 [(0, .ref x), (1, .ref ca_4), (2, .int (nI 4)), (3, .int (nI k36)), (4, .null), (5, .ref ca_4), (6, .int (nI 4)), (7, .int (nI k49))] [] h 0 0 := by
            intro r50
            induction r50 with
            | zero => intro k49  hk56 hk57; exact absurd hk56 (by omega)
            | succ r50 ih51 =>
              intro k49  hk56 hk57
              refine tw_iload 7 dX5_areRoadsTheSame_34 rfl ?_
              refine tw_iload 6 dX5_areRoadsTheSame_36 rfl ?_
              refine tw_icmp_ge 76 dX5_areRoadsTheSame_38 (by decide) (fun c58 => ?_) (fun c58 => ?_)
              · obtain ⟨v59, ev59⟩ : ∃ y : Int32, y = (nI k36) + 1 := ⟨_, rfl⟩
                refine tw_iinc [(3, .int v59), (0, .ref x), (1, .ref ca_4), (2, .int (nI 4)), (4, .null), (5, .ref ca_4), (6, .int (nI 4)), (7, .int (nI k49))] 3 dX5_areRoadsTheSame_76 rfl (by rw [ev59]; rfl) (by decide) rfl ?_
                refine tw_goto 10 dX5_areRoadsTheSame_79 (by decide) ?_
                have qv59 := tw_nI3 ev59
                rw [qv59]
                refine tw_lv [1, 2, 3, 0] rfl ?_
                exact ih38 (k36 + 1)  (by omega) (by omega)
              · have kl60 := tw_klt (N := 4) c58 hk57 (by decide)
                refine tw_aload 5 dX5_areRoadsTheSame_41 rfl ?_
                refine tw_iload 7 dX5_areRoadsTheSame_43 rfl ?_
                cases k61 : F30 ((nI k49)).toNatClampNeg with
                | none =>
                  refine tw_aald (v := .null) 4 rfl rfl dX5_areRoadsTheSame_45 f29 (vp_in_nI (by omega) (by decide)) (by rw [k61]; rfl) ?_
                  refine tw_astoreN [(8, .null), (0, .ref x), (1, .ref ca_4), (2, .int (nI 4)), (3, .int (nI k36)), (4, .null), (5, .ref ca_4), (6, .int (nI 4)), (7, .int (nI k49))] dX5_areRoadsTheSame_46 (by decide) rfl ?_
                  refine tw_aloadN 5 dX5_areRoadsTheSame_48 rfl ?_
                  refine tw_ifnullN 70 dX5_areRoadsTheSame_50 (by decide) ?_
                  obtain ⟨v63, ev63⟩ : ∃ y : Int32, y = (nI k49) + 1 := ⟨_, rfl⟩
                  refine tw_iinc [(7, .int v63), (8, .null), (0, .ref x), (1, .ref ca_4), (2, .int (nI 4)), (3, .int (nI k36)), (4, .null), (5, .ref ca_4), (6, .int (nI 4))] 8 dX5_areRoadsTheSame_70 rfl (by rw [ev63]; rfl) (by decide) rfl ?_
                  refine tw_goto 34 dX5_areRoadsTheSame_73 (by decide) ?_
                  have qv63 := tw_nI3 ev63
                  rw [qv63]
                  refine tw_lv [2, 3, 4, 5, 6, 7, 8, 0] rfl ?_
                  exact ih51 (k49 + 1)  (by omega) (by omega)
                | some q62 =>
                  have k64 := k31 _ _ k61
                  refine tw_aald (v := .ref q62) 4 rfl rfl dX5_areRoadsTheSame_45 f29 (vp_in_nI (by omega) (by decide)) (by rw [k61]; rfl) ?_
                  refine tw_astore [(8, .ref q62), (0, .ref x), (1, .ref ca_4), (2, .int (nI 4)), (3, .int (nI k36)), (4, .null), (5, .ref ca_4), (6, .int (nI 4)), (7, .int (nI k49))] dX5_areRoadsTheSame_46 (by decide) rfl ?_
                  refine tw_aloadN 5 dX5_areRoadsTheSame_48 rfl ?_
                  refine tw_ifnullN 70 dX5_areRoadsTheSame_50 (by decide) ?_
                  obtain ⟨v65, ev65⟩ : ∃ y : Int32, y = (nI k49) + 1 := ⟨_, rfl⟩
                  refine tw_iinc [(7, .int v65), (8, .ref q62), (0, .ref x), (1, .ref ca_4), (2, .int (nI 4)), (3, .int (nI k36)), (4, .null), (5, .ref ca_4), (6, .int (nI 4))] 8 dX5_areRoadsTheSame_70 rfl (by rw [ev65]; rfl) (by decide) rfl ?_
                  refine tw_goto 34 dX5_areRoadsTheSame_73 (by decide) ?_
                  have qv65 := tw_nI3 ev65
                  rw [qv65]
                  refine tw_lv [2, 3, 4, 5, 6, 7, 8, 0] rfl ?_
                  exact ih51 (k49 + 1)  (by omega) (by omega)
          refine tw_lv [4, 5, 6, 7, 3, 2, 1, 0] rfl ?_
          exact L52 (4 + 1) 0  (by omega) (by omega)
        | some q48 =>
          have k66 := k31 _ _ k47
          refine tw_aald (v := .ref q48) 4 rfl rfl dX5_areRoadsTheSame_17 f29 (vp_in_nI (by omega) (by decide)) (by rw [k47]; rfl) ?_
          refine tw_astore [(4, .ref q48), (0, .ref x), (1, .ref ca_4), (2, .int (nI 4)), (3, .int (nI k36))] dX5_areRoadsTheSame_18 (by decide) rfl ?_
          refine tw_aload_n 1 dX5_areRoadsTheSame_20 rfl rfl ?_
          refine tw_get (v := .ref ca_4) rfl in_9 2 dX5_areRoadsTheSame_21 w_142 rfl (by decide) f2 rfl ?_
          refine tw_astore [(5, .ref ca_4), (4, .ref q48), (0, .ref x), (1, .ref ca_4), (2, .int (nI 4)), (3, .int (nI k36))] dX5_areRoadsTheSame_24 (by decide) rfl ?_
          refine tw_aload 0 dX5_areRoadsTheSame_26 rfl ?_
          refine tw_alen (v := nI 4) 4 rfl dX5_areRoadsTheSame_28 f29 rfl ?_
          refine tw_istore [(6, .int (nI 4)), (5, .ref ca_4), (4, .ref q48), (0, .ref x), (1, .ref ca_4), (2, .int (nI 4)), (3, .int (nI k36))] dX5_areRoadsTheSame_29 (by decide) rfl ?_
          refine tw_iconst (v := 0) dX5_areRoadsTheSame_31 (by decide) ?_
          refine tw_istore [(7, .int 0), (6, .int (nI 4)), (5, .ref ca_4), (4, .ref q48), (0, .ref x), (1, .ref ca_4), (2, .int (nI 4)), (3, .int (nI k36))] dX5_areRoadsTheSame_32 (by decide) rfl ?_
          have L70 : ∀ (r68 k67 : Nat), 4 + 1 ≤ k67 + r68 → k67 ≤ 4 → tw_W d mX5_areRoadsTheSame (tw_qi (fun r h1 => h1 = h ∧ tw_01 r) tw_nx) 34 [(0, .ref x), (1, .ref ca_4), (2, .int (nI 4)), (3, .int (nI k36)), (4, .ref q48), (5, .ref ca_4), (6, .int (nI 4)), (7, .int (nI k67))] [] h 0 0 := by
            intro r68
            induction r68 with
            | zero => intro k67  hk74 hk75; exact absurd hk74 (by omega)
            | succ r68 ih69 =>
              intro k67  hk74 hk75
              refine tw_iload 7 dX5_areRoadsTheSame_34 rfl ?_
              refine tw_iload 6 dX5_areRoadsTheSame_36 rfl ?_
              refine tw_icmp_ge 76 dX5_areRoadsTheSame_38 (by decide) (fun c76 => ?_) (fun c76 => ?_)
              · obtain ⟨v77, ev77⟩ : ∃ y : Int32, y = (nI k36) + 1 := ⟨_, rfl⟩
                refine tw_iinc [(3, .int v77), (0, .ref x), (1, .ref ca_4), (2, .int (nI 4)), (4, .ref q48), (5, .ref ca_4), (6, .int (nI 4)), (7, .int (nI k67))] 3 dX5_areRoadsTheSame_76 rfl (by rw [ev77]; rfl) (by decide) rfl ?_
                refine tw_goto 10 dX5_areRoadsTheSame_79 (by decide) ?_
                have qv77 := tw_nI3 ev77
                rw [qv77]
                refine tw_lv [1, 2, 3, 0] rfl ?_
                exact ih38 (k36 + 1)  (by omega) (by omega)
              · have kl78 := tw_klt (N := 4) c76 hk75 (by decide)
                refine tw_aload 5 dX5_areRoadsTheSame_41 rfl ?_
                refine tw_iload 7 dX5_areRoadsTheSame_43 rfl ?_
                cases k79 : F30 ((nI k67)).toNatClampNeg with
                | none =>
                  refine tw_aald (v := .null) 4 rfl rfl dX5_areRoadsTheSame_45 f29 (vp_in_nI (by omega) (by decide)) (by rw [k79]; rfl) ?_
                  refine tw_astoreN [(8, .null), (0, .ref x), (1, .ref ca_4), (2, .int (nI 4)), (3, .int (nI k36)), (4, .ref q48), (5, .ref ca_4), (6, .int (nI 4)), (7, .int (nI k67))] dX5_areRoadsTheSame_46 (by decide) rfl ?_
                  refine tw_aload 5 dX5_areRoadsTheSame_48 rfl ?_
                  refine tw_ifnull dX5_areRoadsTheSame_50 ?_
                  refine tw_aloadN 0 dX5_areRoadsTheSame_53 rfl ?_
                  refine tw_ifnullN 70 dX5_areRoadsTheSame_55 (by decide) ?_
                  obtain ⟨v81, ev81⟩ : ∃ y : Int32, y = (nI k67) + 1 := ⟨_, rfl⟩
                  refine tw_iinc [(7, .int v81), (8, .null), (0, .ref x), (1, .ref ca_4), (2, .int (nI 4)), (3, .int (nI k36)), (4, .ref q48), (5, .ref ca_4), (6, .int (nI 4))] 8 dX5_areRoadsTheSame_70 rfl (by rw [ev81]; rfl) (by decide) rfl ?_
                  refine tw_goto 34 dX5_areRoadsTheSame_73 (by decide) ?_
                  have qv81 := tw_nI3 ev81
                  rw [qv81]
                  refine tw_lv [2, 3, 4, 5, 6, 7, 8, 0] rfl ?_
                  exact ih69 (k67 + 1)  (by omega) (by omega)
                | some q80 =>
                  have k82 := k31 _ _ k79
                  refine tw_aald (v := .ref q80) 4 rfl rfl dX5_areRoadsTheSame_45 f29 (vp_in_nI (by omega) (by decide)) (by rw [k79]; rfl) ?_
                  refine tw_astore [(8, .ref q80), (0, .ref x), (1, .ref ca_4), (2, .int (nI 4)), (3, .int (nI k36)), (4, .ref q48), (5, .ref ca_4), (6, .int (nI 4)), (7, .int (nI k67))] dX5_areRoadsTheSame_46 (by decide) rfl ?_
                  refine tw_aload 5 dX5_areRoadsTheSame_48 rfl ?_
                  refine tw_ifnull dX5_areRoadsTheSame_50 ?_
                  refine tw_aload 0 dX5_areRoadsTheSame_53 rfl ?_
                  refine tw_ifnull dX5_areRoadsTheSame_55 ?_
                  refine tw_aload 5 dX5_areRoadsTheSame_58 rfl ?_
                  refine tw_aload 0 dX5_areRoadsTheSame_60 rfl ?_
                  refine tw_bi (tw_callS (M := mX5_areRoadsTheSame) (pc := 62) okX5_hasSameRoads dX5_areRoadsTheSame_62 w_223 [.ref q48, .ref q80] [] rfl rfl ⟨by decide, by decide⟩ (Nat.le_of_ble_eq_true rfl) (c_X5_hasSameRoads d g τ h sp0.1 q48 k66 q80 k82) 0 0 (Nat.le_of_ble_eq_true rfl) (Nat.le_of_ble_eq_true rfl)) (fun r85 h84 q83 => ?_) (fun E h1 q => q.elim)
                  obtain ⟨q83e, p86⟩ := q83
                  rw [q83e]
                  refine tw_if_ne 70 dX5_areRoadsTheSame_65 (by decide) (fun c87 => ?_) (fun c87 => ?_)
                  · obtain ⟨v88, ev88⟩ : ∃ y : Int32, y = (nI k67) + 1 := ⟨_, rfl⟩
                    refine tw_iinc [(7, .int v88), (8, .ref q80), (0, .ref x), (1, .ref ca_4), (2, .int (nI 4)), (3, .int (nI k36)), (4, .ref q48), (5, .ref ca_4), (6, .int (nI 4))] 8 dX5_areRoadsTheSame_70 rfl (by rw [ev88]; rfl) (by decide) rfl ?_
                    refine tw_goto 34 dX5_areRoadsTheSame_73 (by decide) ?_
                    have qv88 := tw_nI3 ev88
                    rw [qv88]
                    refine tw_lv [2, 3, 4, 5, 6, 7, 8, 0] rfl ?_
                    exact ih69 (k67 + 1)  (by omega) (by omega)
                  · refine tw_iconst (v := 0) dX5_areRoadsTheSame_68 (by decide) ?_
                    exact tw_zret dX5_areRoadsTheSame_69 rfl rfl (Or.inl ⟨_, rfl, ⟨rfl, (by unfold tw_01; decide)⟩⟩)
          refine tw_lv [4, 5, 6, 7, 3, 2, 1, 0] rfl ?_
          exact L70 (4 + 1) 0  (by omega) (by omega)
  refine tw_lv [3, 2, 1, 0] rfl ?_
  exact L39 (4 + 1) 0  (by omega) (by omega)

set_option maxHeartbeats 4000000 in
set_option maxRecDepth 100000 in
theorem c_X5_isSound (d : tw_D) (g : tw_G) (τ : tw_K) (h : tw_H) (hw : tw_wt d g τ h) (x : Nat) (kx : τ x = 11) : tw_Ct d mX5_isSound 0 0 [.ref x] h (tw_qi (fun r h1 => h1 = h ∧ tw_01 r) tw_nx) := by
  refine tw_of (by decide +kernel) (Nat.le_of_ble_eq_true rfl) ?_
  show tw_W d mX5_isSound _ 0 [(0, .ref x)] [] h 0 0
  have sp0 := tw_sp.rf hw
  refine tw_aload_n 0 dX5_isSound_0 rfl rfl ?_
  refine tw_iconst (v := 0) dX5_isSound_1 (by decide) ?_
  obtain ⟨e1, f2, td_3, ca_4, ha_5, da_6, c1_7, c2_8, c3_9, c4_10, rfl, k11, k12, k13, k14, k15, k16, k17, k18, k19, k20, k21, k22, k23, k24, k25, k26, k27⟩ := sp0.1 x 11 kx (by decide)
  refine tw_bi (tw_callV (M := mX5_isSound) (pc := 2) okX5_isKept dX5_isSound_2 w_181 rfl f2 [.int 0] [] rfl rfl ⟨by decide, by decide⟩ (Nat.le_of_ble_eq_true rfl) (c_X5_isKept d g τ h sp0.1 x kx 0) 0 0 (Nat.le_of_ble_eq_true rfl) (Nat.le_of_ble_eq_true rfl)) (fun r30 h29 q28 => ?_) (fun E h1 q => q.elim)
  obtain ⟨q28e, p31⟩ := q28
  rw [q28e]
  refine tw_if_eq 41 dX5_isSound_5 (by decide) (fun c32 => ?_) (fun c32 => ?_)
  · refine tw_iconst (v := 0) dX5_isSound_41 (by decide) ?_
    exact tw_zret dX5_isSound_42 rfl rfl (Or.inl ⟨_, rfl, ⟨rfl, (by unfold tw_01; decide)⟩⟩)
  · refine tw_aload_n 0 dX5_isSound_8 rfl rfl ?_
    refine tw_iconst (v := 1) dX5_isSound_9 (by decide) ?_
    refine tw_bi (tw_callV (M := mX5_isSound) (pc := 10) okX5_isKept dX5_isSound_10 w_181 rfl f2 [.int 1] [] rfl rfl ⟨by decide, by decide⟩ (Nat.le_of_ble_eq_true rfl) (c_X5_isKept d g τ h sp0.1 x kx 1) 0 0 (Nat.le_of_ble_eq_true rfl) (Nat.le_of_ble_eq_true rfl)) (fun r35 h34 q33 => ?_) (fun E h1 q => q.elim)
    obtain ⟨q33e, p36⟩ := q33
    rw [q33e]
    refine tw_if_eq 41 dX5_isSound_13 (by decide) (fun c37 => ?_) (fun c37 => ?_)
    · refine tw_iconst (v := 0) dX5_isSound_41 (by decide) ?_
      exact tw_zret dX5_isSound_42 rfl rfl (Or.inl ⟨_, rfl, ⟨rfl, (by unfold tw_01; decide)⟩⟩)
    · refine tw_aload_n 0 dX5_isSound_16 rfl rfl ?_
      refine tw_bi (tw_callV (M := mX5_isSound) (pc := 17) okX5_areCountriesSound dX5_isSound_17 w_197 rfl f2 [] [] rfl rfl ⟨by decide, by decide⟩ (Nat.le_of_ble_eq_true rfl) (c_X5_areCountriesSound d g τ h sp0.1 x kx) 0 0 (Nat.le_of_ble_eq_true rfl) (Nat.le_of_ble_eq_true rfl)) (fun r40 h39 q38 => ?_) (fun E h1 q => q.elim)
      obtain ⟨q38e, p41⟩ := q38
      rw [q38e]
      refine tw_if_eq 41 dX5_isSound_20 (by decide) (fun c42 => ?_) (fun c42 => ?_)
      · refine tw_iconst (v := 0) dX5_isSound_41 (by decide) ?_
        exact tw_zret dX5_isSound_42 rfl rfl (Or.inl ⟨_, rfl, ⟨rfl, (by unfold tw_01; decide)⟩⟩)
      · refine tw_aload_n 0 dX5_isSound_23 rfl rfl ?_
        refine tw_bi (tw_callV (M := mX5_isSound) (pc := 24) okX5_areHousesSound dX5_isSound_24 w_210 rfl f2 [] [] rfl rfl ⟨by decide, by decide⟩ (Nat.le_of_ble_eq_true rfl) (c_X5_areHousesSound d g τ h sp0.1 x kx) 0 0 (Nat.le_of_ble_eq_true rfl) (Nat.le_of_ble_eq_true rfl)) (fun r45 h44 q43 => ?_) (fun E h1 q => q.elim)
        obtain ⟨q43e, p46⟩ := q43
        rw [q43e]
        refine tw_if_eq 41 dX5_isSound_27 (by decide) (fun c47 => ?_) (fun c47 => ?_)
        · refine tw_iconst (v := 0) dX5_isSound_41 (by decide) ?_
          exact tw_zret dX5_isSound_42 rfl rfl (Or.inl ⟨_, rfl, ⟨rfl, (by unfold tw_01; decide)⟩⟩)
        · refine tw_aload_n 0 dX5_isSound_30 rfl rfl ?_
          refine tw_bi (tw_callV (M := mX5_isSound) (pc := 31) okX5_areRoadsTheSame dX5_isSound_31 w_219 rfl f2 [] [] rfl rfl ⟨by decide, by decide⟩ (Nat.le_of_ble_eq_true rfl) (c_X5_areRoadsTheSame d g τ h sp0.1 x kx) 0 0 (Nat.le_of_ble_eq_true rfl) (Nat.le_of_ble_eq_true rfl)) (fun r50 h49 q48 => ?_) (fun E h1 q => q.elim)
          obtain ⟨q48e, p51⟩ := q48
          rw [q48e]
          refine tw_if_eq 41 dX5_isSound_34 (by decide) (fun c52 => ?_) (fun c52 => ?_)
          · refine tw_iconst (v := 0) dX5_isSound_41 (by decide) ?_
            exact tw_zret dX5_isSound_42 rfl rfl (Or.inl ⟨_, rfl, ⟨rfl, (by unfold tw_01; decide)⟩⟩)
          · refine tw_iconst (v := 1) dX5_isSound_37 (by decide) ?_
            refine tw_goto 42 dX5_isSound_38 (by decide) ?_
            exact tw_zret dX5_isSound_42 rfl rfl (Or.inl ⟨_, rfl, ⟨rfl, (by unfold tw_01; decide)⟩⟩)

set_option maxHeartbeats 4000000 in
set_option maxRecDepth 100000 in
theorem c_X5_digestWorld (d : tw_D) (g : tw_G) (τ : tw_K) (h : tw_H) (hw : tw_wt d g τ h) (x : Nat) (kx : τ x = 11) (v : Int64) (m : Int32) : tw_Ct d mX5_digestWorld 0 0 [.ref x, .long v, .int m] h (tw_ql (fun r h1 => h1 = h) tw_nx) := by
  refine tw_of (by decide +kernel) (Nat.le_of_ble_eq_true rfl) ?_
  show tw_W d mX5_digestWorld _ 0 [(0, .ref x), (1, .long v), (3, .int m)] [] h 0 0
  have sp0 := tw_sp.rf hw
  refine tw_lload_n 1 dX5_digestWorld_0 rfl rfl ?_
  refine tw_lstore [(4, .long v), (0, .ref x), (1, .long v), (3, .int m)] dX5_digestWorld_1 (by decide) rfl ?_
  refine tw_iconst (v := 0) dX5_digestWorld_3 (by decide) ?_
  refine tw_istore [(6, .int 0), (4, .long v), (0, .ref x), (1, .long v), (3, .int m)] dX5_digestWorld_4 (by decide) rfl ?_
  have L5 : ∀ (r3 k2 : Nat) (x1 : Int64), 6 + 1 ≤ k2 + r3 → k2 ≤ 6 → tw_W d mX5_digestWorld (tw_ql (fun r h1 => h1 = h) tw_nx) 6 [(0, .ref x), (1, .long v), (3, .int m), (4, .long x1), (6, .int (nI k2))] [] h 0 0 := by
    intro r3
    induction r3 with
    | zero => intro k2 x1 hk9 hk10; exact absurd hk9 (by omega)
    | succ r3 ih4 =>
      intro k2 x1 hk9 hk10
      refine tw_iload 4 dX5_digestWorld_6 rfl ?_
      refine tw_bipush (v := 6) dX5_digestWorld_8 (by decide) ?_
      refine tw_icmp_ge 36 dX5_digestWorld_10 (by decide) (fun c11 => ?_) (fun c11 => ?_)
      · refine tw_lload 3 dX5_digestWorld_36 rfl ?_
        exact tw_lret dX5_digestWorld_38 rfl (Or.inl ⟨_, rfl, rfl⟩)
      · have kl12 := tw_klt (N := 6) c11 hk10 (by decide)
        refine tw_lload 3 dX5_digestWorld_13 rfl ?_
        refine tw_ldc2 (v := 31) dX5_digestWorld_15 w_240 ?_
        refine tw_lmul dX5_digestWorld_18 ?_
        refine tw_nml (fun v13 ev13 => ?_)
        refine tw_aload_n 0 dX5_digestWorld_19 rfl rfl ?_
        refine tw_iload_n 2 dX5_digestWorld_20 rfl rfl ?_
        refine tw_iload 4 dX5_digestWorld_21 rfl ?_
        obtain ⟨e14, f15, td_16, ca_17, ha_18, da_19, c1_20, c2_21, c3_22, c4_23, rfl, k24, k25, k26, k27, k28, k29, k30, k31, k32, k33, k34, k35, k36, k37, k38, k39, k40⟩ := sp0.1 x 11 kx (by decide)
        refine tw_bi (tw_callV (M := mX5_digestWorld) (pc := 23) okX5_worldFact dX5_digestWorld_23 w_245 rfl f15 [.int m, .int (nI k2)] [.long v13] rfl rfl ⟨by decide, by decide⟩ (Nat.le_of_ble_eq_true rfl) (c_X5_worldFact d g τ h sp0.1 x kx m (nI k2)) 0 0 (Nat.le_of_ble_eq_true rfl) (Nat.le_of_ble_eq_true rfl)) (fun r43 h42 q41 => ?_) (fun E h1 q => q.elim)
        rw [q41]
        refine tw_i2l dX5_digestWorld_26 ?_
        refine tw_nml (fun v44 ev44 => ?_)
        refine tw_ladd dX5_digestWorld_27 ?_
        refine tw_nml (fun v45 ev45 => ?_)
        refine tw_lstore [(4, .long v45), (0, .ref x), (1, .long v), (3, .int m), (6, .int (nI k2))] dX5_digestWorld_28 (by decide) rfl ?_
        obtain ⟨v46, ev46⟩ : ∃ y : Int32, y = (nI k2) + 1 := ⟨_, rfl⟩
        refine tw_iinc [(6, .int v46), (4, .long v45), (0, .ref x), (1, .long v), (3, .int m)] 4 dX5_digestWorld_30 rfl (by rw [ev46]; rfl) (by decide) rfl ?_
        refine tw_goto 6 dX5_digestWorld_33 (by decide) ?_
        have qv46 := tw_nI3 ev46
        rw [qv46]
        refine tw_lv [2, 3, 4, 1, 0] rfl ?_
        exact ih4 (k2 + 1) v45 (by omega) (by omega)
  refine tw_lv [2, 3, 4, 1, 0] rfl ?_
  exact L5 (6 + 1) 0 v (by omega) (by omega)

set_option maxHeartbeats 4000000 in
set_option maxRecDepth 100000 in
theorem c_X5_digestCountry (d : tw_D) (g : tw_G) (τ : tw_K) (h : tw_H) (hw : tw_wt d g τ h) (x : Nat) (kx : τ x = 11) (v : Int64) (c : Nat) (kc : τ c = 2) : tw_Ct d mX5_digestCountry 0 0 [.ref x, .long v, .ref c] h (tw_ql (fun r h1 => h1 = h) tw_nx) := by
  refine tw_of (by decide +kernel) (Nat.le_of_ble_eq_true rfl) ?_
  show tw_W d mX5_digestCountry _ 0 [(0, .ref x), (1, .long v), (3, .ref c)] [] h 0 0
  have sp0 := tw_sp.rf hw
  refine tw_lload_n 1 dX5_digestCountry_0 rfl rfl ?_
  refine tw_lstore [(4, .long v), (0, .ref x), (1, .long v), (3, .ref c)] dX5_digestCountry_1 (by decide) rfl ?_
  refine tw_iconst (v := 0) dX5_digestCountry_3 (by decide) ?_
  refine tw_istore [(6, .int 0), (4, .long v), (0, .ref x), (1, .long v), (3, .ref c)] dX5_digestCountry_4 (by decide) rfl ?_
  have L5 : ∀ (r3 k2 : Nat) (x1 : Int64), 9 + 1 ≤ k2 + r3 → k2 ≤ 9 → tw_W d mX5_digestCountry (tw_ql (fun r h1 => h1 = h) tw_nx) 6 [(0, .ref x), (1, .long v), (3, .ref c), (4, .long x1), (6, .int (nI k2))] [] h 0 0 := by
    intro r3
    induction r3 with
    | zero => intro k2 x1 hk9 hk10; exact absurd hk9 (by omega)
    | succ r3 ih4 =>
      intro k2 x1 hk9 hk10
      refine tw_iload 4 dX5_digestCountry_6 rfl ?_
      refine tw_bipush (v := 9) dX5_digestCountry_8 (by decide) ?_
      refine tw_icmp_ge 36 dX5_digestCountry_10 (by decide) (fun c11 => ?_) (fun c11 => ?_)
      · refine tw_lload 3 dX5_digestCountry_36 rfl ?_
        refine tw_ldc2 (v := 31) dX5_digestCountry_38 w_240 ?_
        refine tw_lmul dX5_digestCountry_41 ?_
        refine tw_nml (fun v12 ev12 => ?_)
        refine tw_aload_n 2 dX5_digestCountry_42 rfl rfl ?_
        obtain ⟨e13, f14, n_15, r_16, c_17, go_18, so_19, v_20, rd_21, rf_22, t_23, rfl, k24, k25, k26, k27, k28, k29, k30, k31, k32⟩ := sp0.1 c 2 kc (by decide)
        refine tw_getN (v := .ref t_23) rfl in_4 8 dX5_digestCountry_43 w_514 rfl (by decide) f14 rfl ?_
        refine tw_bipush (v := 37) dX5_digestCountry_46 (by decide) ?_
        obtain ⟨e33, f34, m_35, rfl, k36, k37⟩ := sp0.1 t_23 5 k27 (by decide)
        refine tw_bi (tw_callVN (M := mX5_digestCountry) (pc := 48) okX4_fewestFor dX5_digestCountry_48 w_285 rfl f34 [.int 37] [.long v12] rfl rfl ⟨by decide, by decide⟩ (Nat.le_of_ble_eq_true rfl) (c_X4_fewestFor d g τ h sp0.1 t_23 k27 37) 0 0 (Nat.le_of_ble_eq_true rfl) (Nat.le_of_ble_eq_true rfl)) (fun r40 h39 q38 => ?_) (fun E h1 q => q.elim)
        rw [q38]
        refine tw_i2l dX5_digestCountry_51 ?_
        refine tw_nml (fun v41 ev41 => ?_)
        refine tw_ladd dX5_digestCountry_52 ?_
        refine tw_nml (fun v42 ev42 => ?_)
        refine tw_lstore [(4, .long v42), (0, .ref x), (1, .long v), (3, .ref c), (6, .int (nI k2))] dX5_digestCountry_53 (by decide) rfl ?_
        refine tw_lload 0 dX5_digestCountry_55 rfl ?_
        refine tw_ldc2 (v := 31) dX5_digestCountry_57 w_240 ?_
        refine tw_lmul dX5_digestCountry_60 ?_
        refine tw_nml (fun v43 ev43 => ?_)
        refine tw_aload_n 1 dX5_digestCountry_61 rfl rfl ?_
        refine tw_aload_n 3 dX5_digestCountry_62 rfl rfl ?_
        refine tw_iconst (v := 0) dX5_digestCountry_63 (by decide) ?_
        refine tw_sipush (v := 1000) dX5_digestCountry_64 (by decide) ?_
        obtain ⟨e44, f45, td_46, ca_47, ha_48, da_49, c1_50, c2_51, c3_52, c4_53, rfl, k54, k55, k56, k57, k58, k59, k60, k61, k62, k63, k64, k65, k66, k67, k68, k69, k70⟩ := sp0.1 x 11 kx (by decide)
        refine tw_bi (tw_callV (M := mX5_digestCountry) (pc := 67) okX5_bestOver dX5_digestCountry_67 w_292 rfl f45 [.ref c, .int 0, .int 1000] [.long v43] rfl rfl ⟨by decide, by decide⟩ (Nat.le_of_ble_eq_true rfl) (c_X5_bestOver d g τ h sp0.1 x kx c kc 0 1000) 0 0 (Nat.le_of_ble_eq_true rfl) (Nat.le_of_ble_eq_true rfl)) (fun r73 h72 q71 => ?_) (fun E h1 q => q.elim)
        rw [q71]
        refine tw_i2l dX5_digestCountry_70 ?_
        refine tw_nml (fun v74 ev74 => ?_)
        refine tw_ladd dX5_digestCountry_71 ?_
        refine tw_nml (fun v75 ev75 => ?_)
        refine tw_lstore [(4, .long v75), (0, .ref x), (1, .long v), (3, .ref c), (6, .int (nI k2))] dX5_digestCountry_72 (by decide) rfl ?_
        refine tw_lload 0 dX5_digestCountry_74 rfl ?_
        refine tw_ldc2 (v := 31) dX5_digestCountry_76 w_240 ?_
        refine tw_lmul dX5_digestCountry_79 ?_
        refine tw_nml (fun v76 ev76 => ?_)
        refine tw_aload_n 1 dX5_digestCountry_80 rfl rfl ?_
        refine tw_aload_n 3 dX5_digestCountry_81 rfl rfl ?_
        refine tw_iconst (v := 1) dX5_digestCountry_82 (by decide) ?_
        refine tw_sipush (v := 1000) dX5_digestCountry_83 (by decide) ?_
        refine tw_bi (tw_callV (M := mX5_digestCountry) (pc := 86) okX5_bestOver dX5_digestCountry_86 w_292 rfl f45 [.ref c, .int 1, .int 1000] [.long v76] rfl rfl ⟨by decide, by decide⟩ (Nat.le_of_ble_eq_true rfl) (c_X5_bestOver d g τ h sp0.1 x kx c kc 1 1000) 0 0 (Nat.le_of_ble_eq_true rfl) (Nat.le_of_ble_eq_true rfl)) (fun r79 h78 q77 => ?_) (fun E h1 q => q.elim)
        rw [q77]
        refine tw_i2l dX5_digestCountry_89 ?_
        refine tw_nml (fun v80 ev80 => ?_)
        refine tw_ladd dX5_digestCountry_90 ?_
        refine tw_nml (fun v81 ev81 => ?_)
        refine tw_lstore [(4, .long v81), (0, .ref x), (1, .long v), (3, .ref c), (6, .int (nI k2))] dX5_digestCountry_91 (by decide) rfl ?_
        refine tw_lload 0 dX5_digestCountry_93 rfl ?_
        refine tw_ldc2 (v := 31) dX5_digestCountry_95 w_240 ?_
        refine tw_lmul dX5_digestCountry_98 ?_
        refine tw_nml (fun v82 ev82 => ?_)
        refine tw_aload_n 1 dX5_digestCountry_99 rfl rfl ?_
        refine tw_aload_n 3 dX5_digestCountry_100 rfl rfl ?_
        refine tw_getN (v := .ref v_20) rfl in_4 3 dX5_digestCountry_101 w_508 rfl (by decide) f14 rfl ?_
        refine tw_iconst (v := 0) dX5_digestCountry_104 (by decide) ?_
        refine tw_bipush (v := 10) dX5_digestCountry_105 (by decide) ?_
        refine tw_bi (tw_callV (M := mX5_digestCountry) (pc := 107) okX5_firstDayShort dX5_digestCountry_107 w_321 rfl f45 [.ref v_20, .int 0, .int 10] [.long v82] rfl rfl ⟨by decide, by decide⟩ (Nat.le_of_ble_eq_true rfl) (c_X5_firstDayShort d g τ h sp0.1 x kx v_20 k24 0 10) 0 0 (Nat.le_of_ble_eq_true rfl) (Nat.le_of_ble_eq_true rfl)) (fun r85 h84 q83 => ?_) (fun E h1 q => q.elim)
        rw [q83]
        refine tw_i2l dX5_digestCountry_110 ?_
        refine tw_nml (fun v86 ev86 => ?_)
        refine tw_ladd dX5_digestCountry_111 ?_
        refine tw_nml (fun v87 ev87 => ?_)
        refine tw_lstore [(4, .long v87), (0, .ref x), (1, .long v), (3, .ref c), (6, .int (nI k2))] dX5_digestCountry_112 (by decide) rfl ?_
        refine tw_lload 0 dX5_digestCountry_114 rfl ?_
        refine tw_ldc2 (v := 31) dX5_digestCountry_116 w_240 ?_
        refine tw_lmul dX5_digestCountry_119 ?_
        refine tw_nml (fun v88 ev88 => ?_)
        refine tw_aload_n 1 dX5_digestCountry_120 rfl rfl ?_
        refine tw_aload_n 3 dX5_digestCountry_121 rfl rfl ?_
        refine tw_getN (v := .ref v_20) rfl in_4 3 dX5_digestCountry_122 w_508 rfl (by decide) f14 rfl ?_
        refine tw_iconst (v := 1) dX5_digestCountry_125 (by decide) ?_
        refine tw_bipush (v := 10) dX5_digestCountry_126 (by decide) ?_
        refine tw_bi (tw_callV (M := mX5_digestCountry) (pc := 128) okX5_firstDayShort dX5_digestCountry_128 w_321 rfl f45 [.ref v_20, .int 1, .int 10] [.long v88] rfl rfl ⟨by decide, by decide⟩ (Nat.le_of_ble_eq_true rfl) (c_X5_firstDayShort d g τ h sp0.1 x kx v_20 k24 1 10) 0 0 (Nat.le_of_ble_eq_true rfl) (Nat.le_of_ble_eq_true rfl)) (fun r91 h90 q89 => ?_) (fun E h1 q => q.elim)
        rw [q89]
        refine tw_i2l dX5_digestCountry_131 ?_
        refine tw_nml (fun v92 ev92 => ?_)
        refine tw_ladd dX5_digestCountry_132 ?_
        refine tw_nml (fun v93 ev93 => ?_)
        refine tw_lstore [(4, .long v93), (0, .ref x), (1, .long v), (3, .ref c), (6, .int (nI k2))] dX5_digestCountry_133 (by decide) rfl ?_
        refine tw_lload 0 dX5_digestCountry_135 rfl ?_
        exact tw_lret dX5_digestCountry_137 rfl (Or.inl ⟨_, rfl, rfl⟩)
      · have kl94 := tw_klt (N := 9) c11 hk10 (by decide)
        refine tw_lload 3 dX5_digestCountry_13 rfl ?_
        refine tw_ldc2 (v := 31) dX5_digestCountry_15 w_240 ?_
        refine tw_lmul dX5_digestCountry_18 ?_
        refine tw_nml (fun v95 ev95 => ?_)
        refine tw_aload_n 0 dX5_digestCountry_19 rfl rfl ?_
        refine tw_aload_n 2 dX5_digestCountry_20 rfl rfl ?_
        refine tw_iload 4 dX5_digestCountry_21 rfl ?_
        obtain ⟨e96, f97, td_98, ca_99, ha_100, da_101, c1_102, c2_103, c3_104, c4_105, rfl, k106, k107, k108, k109, k110, k111, k112, k113, k114, k115, k116, k117, k118, k119, k120, k121, k122⟩ := sp0.1 x 11 kx (by decide)
        refine tw_bi (tw_callV (M := mX5_digestCountry) (pc := 23) okX5_countryFact dX5_digestCountry_23 w_253 rfl f97 [.ref c, .int (nI k2)] [.long v95] rfl rfl ⟨by decide, by decide⟩ (Nat.le_of_ble_eq_true rfl) (c_X5_countryFact d g τ h sp0.1 x kx c kc (nI k2)) 0 0 (Nat.le_of_ble_eq_true rfl) (Nat.le_of_ble_eq_true rfl)) (fun r125 h124 q123 => ?_) (fun E h1 q => q.elim)
        rw [q123]
        refine tw_i2l dX5_digestCountry_26 ?_
        refine tw_nml (fun v126 ev126 => ?_)
        refine tw_ladd dX5_digestCountry_27 ?_
        refine tw_nml (fun v127 ev127 => ?_)
        refine tw_lstore [(4, .long v127), (0, .ref x), (1, .long v), (3, .ref c), (6, .int (nI k2))] dX5_digestCountry_28 (by decide) rfl ?_
        obtain ⟨v128, ev128⟩ : ∃ y : Int32, y = (nI k2) + 1 := ⟨_, rfl⟩
        refine tw_iinc [(6, .int v128), (4, .long v127), (0, .ref x), (1, .long v), (3, .ref c)] 4 dX5_digestCountry_30 rfl (by rw [ev128]; rfl) (by decide) rfl ?_
        refine tw_goto 6 dX5_digestCountry_33 (by decide) ?_
        have qv128 := tw_nI3 ev128
        rw [qv128]
        refine tw_lv [2, 3, 4, 1, 0] rfl ?_
        exact ih4 (k2 + 1) v127 (by omega) (by omega)
  refine tw_lv [2, 3, 4, 1, 0] rfl ?_
  exact L5 (9 + 1) 0 v (by omega) (by omega)

set_option maxHeartbeats 4000000 in
set_option maxRecDepth 100000 in
theorem c_X5_digestHouse (d : tw_D) (g : tw_G) (τ : tw_K) (h : tw_H) (hw : tw_wt d g τ h) (x : Nat) (kx : τ x = 11) (v : Int64) (c : Nat) (kc : τ c = 3) : tw_Ct d mX5_digestHouse 0 0 [.ref x, .long v, .ref c] h (tw_ql (fun r h1 => h1 = h) tw_nx) := by
  refine tw_of (by decide +kernel) (Nat.le_of_ble_eq_true rfl) ?_
  show tw_W d mX5_digestHouse _ 0 [(0, .ref x), (1, .long v), (3, .ref c)] [] h 0 0
  have sp0 := tw_sp.rf hw
  refine tw_lload_n 1 dX5_digestHouse_0 rfl rfl ?_
  refine tw_lstore [(4, .long v), (0, .ref x), (1, .long v), (3, .ref c)] dX5_digestHouse_1 (by decide) rfl ?_
  refine tw_iconst (v := 0) dX5_digestHouse_3 (by decide) ?_
  refine tw_istore [(6, .int 0), (4, .long v), (0, .ref x), (1, .long v), (3, .ref c)] dX5_digestHouse_4 (by decide) rfl ?_
  have L5 : ∀ (r3 k2 : Nat) (x1 : Int64), 8 + 1 ≤ k2 + r3 → k2 ≤ 8 → tw_W d mX5_digestHouse (tw_ql (fun r h1 => h1 = h) tw_nx) 6 [(0, .ref x), (1, .long v), (3, .ref c), (4, .long x1), (6, .int (nI k2))] [] h 0 0 := by
    intro r3
    induction r3 with
    | zero => intro k2 x1 hk9 hk10; exact absurd hk9 (by omega)
    | succ r3 ih4 =>
      intro k2 x1 hk9 hk10
      refine tw_iload 4 dX5_digestHouse_6 rfl ?_
      refine tw_bipush (v := 8) dX5_digestHouse_8 (by decide) ?_
      refine tw_icmp_ge 36 dX5_digestHouse_10 (by decide) (fun c11 => ?_) (fun c11 => ?_)
      · refine tw_lload 3 dX5_digestHouse_36 rfl ?_
        exact tw_lret dX5_digestHouse_38 rfl (Or.inl ⟨_, rfl, rfl⟩)
      · have kl12 := tw_klt (N := 8) c11 hk10 (by decide)
        refine tw_lload 3 dX5_digestHouse_13 rfl ?_
        refine tw_ldc2 (v := 31) dX5_digestHouse_15 w_240 ?_
        refine tw_lmul dX5_digestHouse_18 ?_
        refine tw_nml (fun v13 ev13 => ?_)
        refine tw_aload_n 0 dX5_digestHouse_19 rfl rfl ?_
        refine tw_aload_n 2 dX5_digestHouse_20 rfl rfl ?_
        refine tw_iload 4 dX5_digestHouse_21 rfl ?_
        obtain ⟨e14, f15, td_16, ca_17, ha_18, da_19, c1_20, c2_21, c3_22, c4_23, rfl, k24, k25, k26, k27, k28, k29, k30, k31, k32, k33, k34, k35, k36, k37, k38, k39, k40⟩ := sp0.1 x 11 kx (by decide)
        refine tw_bi (tw_callV (M := mX5_digestHouse) (pc := 23) okX5_houseFact dX5_digestHouse_23 w_332 rfl f15 [.ref c, .int (nI k2)] [.long v13] rfl rfl ⟨by decide, by decide⟩ (Nat.le_of_ble_eq_true rfl) (c_X5_houseFact d g τ h sp0.1 x kx c kc (nI k2)) 0 0 (Nat.le_of_ble_eq_true rfl) (Nat.le_of_ble_eq_true rfl)) (fun r43 h42 q41 => ?_) (fun E h1 q => q.elim)
        rw [q41]
        refine tw_i2l dX5_digestHouse_26 ?_
        refine tw_nml (fun v44 ev44 => ?_)
        refine tw_ladd dX5_digestHouse_27 ?_
        refine tw_nml (fun v45 ev45 => ?_)
        refine tw_lstore [(4, .long v45), (0, .ref x), (1, .long v), (3, .ref c), (6, .int (nI k2))] dX5_digestHouse_28 (by decide) rfl ?_
        obtain ⟨v46, ev46⟩ : ∃ y : Int32, y = (nI k2) + 1 := ⟨_, rfl⟩
        refine tw_iinc [(6, .int v46), (4, .long v45), (0, .ref x), (1, .long v), (3, .ref c)] 4 dX5_digestHouse_30 rfl (by rw [ev46]; rfl) (by decide) rfl ?_
        refine tw_goto 6 dX5_digestHouse_33 (by decide) ?_
        have qv46 := tw_nI3 ev46
        rw [qv46]
        refine tw_lv [2, 3, 4, 1, 0] rfl ?_
        exact ih4 (k2 + 1) v45 (by omega) (by omega)
  refine tw_lv [2, 3, 4, 1, 0] rfl ?_
  exact L5 (8 + 1) 0 v (by omega) (by omega)

set_option maxHeartbeats 4000000 in
set_option maxRecDepth 100000 in
theorem c_X5_digestDebt (d : tw_D) (g : tw_G) (τ : tw_K) (h : tw_H) (hw : tw_wt d g τ h) (x : Nat) (kx : τ x = 11) (v : Int64) (c : Nat) (kc : τ c = 4) : tw_Ct d mX5_digestDebt 0 0 [.ref x, .long v, .ref c] h (tw_ql (fun r h1 => h1 = h) tw_nx) := by
  refine tw_of (by decide +kernel) (Nat.le_of_ble_eq_true rfl) ?_
  show tw_W d mX5_digestDebt _ 0 [(0, .ref x), (1, .long v), (3, .ref c)] [] h 0 0
  have sp0 := tw_sp.rf hw
  refine tw_lload_n 1 dX5_digestDebt_0 rfl rfl ?_
  refine tw_lstore [(4, .long v), (0, .ref x), (1, .long v), (3, .ref c)] dX5_digestDebt_1 (by decide) rfl ?_
  refine tw_iconst (v := 4) dX5_digestDebt_3 (by decide) ?_
  refine tw_istore [(6, .int 4), (4, .long v), (0, .ref x), (1, .long v), (3, .ref c)] dX5_digestDebt_4 (by decide) rfl ?_
  have L5 : ∀ (r3 : Nat) (x1 : Int64) (x2 : Int32), ((7 : Int32).toInt - x2.toInt).toNat < r3 → tw_W d mX5_digestDebt (tw_ql (fun r h1 => h1 = h) tw_nx) 6 [(0, .ref x), (1, .long v), (3, .ref c), (4, .long x1), (6, .int x2)] [] h 0 0 := by
    intro r3
    induction r3 with
    | zero => intro x1 x2 hk9; exact absurd hk9 (Nat.not_lt_zero _)
    | succ r3 ih4 =>
      intro x1 x2 hk9
      refine tw_iload 4 dX5_digestDebt_6 rfl ?_
      refine tw_bipush (v := 7) dX5_digestDebt_8 (by decide) ?_
      refine tw_icmp_ge 36 dX5_digestDebt_10 (by decide) (fun c11 => ?_) (fun c11 => ?_)
      · refine tw_lload 3 dX5_digestDebt_36 rfl ?_
        exact tw_lret dX5_digestDebt_38 rfl (Or.inl ⟨_, rfl, rfl⟩)
      · refine tw_lload 3 dX5_digestDebt_13 rfl ?_
        refine tw_ldc2 (v := 31) dX5_digestDebt_15 w_240 ?_
        refine tw_lmul dX5_digestDebt_18 ?_
        refine tw_nml (fun v12 ev12 => ?_)
        refine tw_aload_n 0 dX5_digestDebt_19 rfl rfl ?_
        refine tw_aload_n 2 dX5_digestDebt_20 rfl rfl ?_
        refine tw_iload 4 dX5_digestDebt_21 rfl ?_
        obtain ⟨e13, f14, td_15, ca_16, ha_17, da_18, c1_19, c2_20, c3_21, c4_22, rfl, k23, k24, k25, k26, k27, k28, k29, k30, k31, k32, k33, k34, k35, k36, k37, k38, k39⟩ := sp0.1 x 11 kx (by decide)
        refine tw_bi (tw_callV (M := mX5_digestDebt) (pc := 23) okX5_debtFact dX5_digestDebt_23 w_351 rfl f14 [.ref c, .int x2] [.long v12] rfl rfl ⟨by decide, by decide⟩ (Nat.le_of_ble_eq_true rfl) (c_X5_debtFact d g τ h sp0.1 x kx c kc x2) 0 0 (Nat.le_of_ble_eq_true rfl) (Nat.le_of_ble_eq_true rfl)) (fun r42 h41 q40 => ?_) (fun E h1 q => q.elim)
        rw [q40]
        refine tw_i2l dX5_digestDebt_26 ?_
        refine tw_nml (fun v43 ev43 => ?_)
        refine tw_ladd dX5_digestDebt_27 ?_
        refine tw_nml (fun v44 ev44 => ?_)
        refine tw_lstore [(4, .long v44), (0, .ref x), (1, .long v), (3, .ref c), (6, .int x2)] dX5_digestDebt_28 (by decide) rfl ?_
        obtain ⟨v45, ev45⟩ : ∃ y : Int32, y = x2 + 1 := ⟨_, rfl⟩
        refine tw_iinc [(6, .int v45), (4, .long v44), (0, .ref x), (1, .long v), (3, .ref c)] 4 dX5_digestDebt_30 rfl (by rw [ev45]; rfl) (by decide) rfl ?_
        refine tw_goto 6 dX5_digestDebt_33 (by decide) ?_
        refine tw_lv [2, 3, 4, 1, 0] rfl ?_
        exact ih4 v44 v45 (tw_mup ev45 c11 hk9)
  refine tw_lv [2, 3, 4, 1, 0] rfl ?_
  exact L5 _ v 4 (Nat.lt_succ_self _)

set_option maxHeartbeats 4000000 in
set_option maxRecDepth 100000 in
theorem c_X5_digest (d : tw_D) (g : tw_G) (τ : tw_K) (h : tw_H) (hw : tw_wt d g τ h) (x : Nat) (kx : τ x = 11) : tw_Ct d mX5_digest 0 0 [.ref x] h (tw_ql (fun r h1 => h1 = h) tw_nx) := by
  refine tw_of (by decide +kernel) (Nat.le_of_ble_eq_true rfl) ?_
  show tw_W d mX5_digest _ 0 [(0, .ref x)] [] h 0 0
  have sp0 := tw_sp.rf hw
  refine tw_ldc2 (v := 5573) dX5_digest_0 w_239 ?_
  refine tw_lstore_n [(1, .long 5573), (0, .ref x)] dX5_digest_3 rfl (by decide) rfl ?_
  refine tw_lload_n 0 dX5_digest_4 rfl rfl ?_
  refine tw_ldc2 (v := 31) dX5_digest_5 w_240 ?_
  refine tw_lmul dX5_digest_8 ?_
  refine tw_nml (fun v1 ev1 => ?_)
  refine tw_aload_n 1 dX5_digest_9 rfl rfl ?_
  obtain ⟨e2, f3, td_4, ca_5, ha_6, da_7, c1_8, c2_9, c3_10, c4_11, rfl, k12, k13, k14, k15, k16, k17, k18, k19, k20, k21, k22, k23, k24, k25, k26, k27, k28⟩ := sp0.1 x 11 kx (by decide)
  refine tw_get (v := .int td_4) rfl in_9 0 dX5_digest_10 w_140 rfl (by decide) f3 rfl ?_
  refine tw_i2l dX5_digest_13 ?_
  refine tw_nml (fun v29 ev29 => ?_)
  refine tw_ladd dX5_digest_14 ?_
  refine tw_nml (fun v30 ev30 => ?_)
  refine tw_lstore_n [(1, .long v30), (0, .ref x)] dX5_digest_15 rfl (by decide) rfl ?_
  refine tw_lload_n 0 dX5_digest_16 rfl rfl ?_
  refine tw_ldc2 (v := 31) dX5_digest_17 w_240 ?_
  refine tw_lmul dX5_digest_20 ?_
  refine tw_nml (fun v31 ev31 => ?_)
  refine tw_aload_n 1 dX5_digest_21 rfl rfl ?_
  refine tw_get (v := .int (g.1 0)) rfl in_9 1 dX5_digest_22 w_141 rfl (by decide) f3 rfl ?_
  refine tw_i2l dX5_digest_25 ?_
  refine tw_nml (fun v32 ev32 => ?_)
  refine tw_ladd dX5_digest_26 ?_
  refine tw_nml (fun v33 ev33 => ?_)
  refine tw_lstore_n [(1, .long v33), (0, .ref x)] dX5_digest_27 rfl (by decide) rfl ?_
  refine tw_aload_n 1 dX5_digest_28 rfl rfl ?_
  refine tw_lload_n 0 dX5_digest_29 rfl rfl ?_
  refine tw_iconst (v := 0) dX5_digest_30 (by decide) ?_
  refine tw_bl (tw_callV (M := mX5_digest) (pc := 31) okX5_digestWorld dX5_digest_31 w_241 rfl f3 [.long v33, .int 0] [] rfl rfl ⟨by decide, by decide⟩ (Nat.le_of_ble_eq_true rfl) (c_X5_digestWorld d g τ h sp0.1 x kx v33 0) 0 0 (Nat.le_of_ble_eq_true rfl) (Nat.le_of_ble_eq_true rfl)) (fun r36 h35 q34 => ?_) (fun E h1 q => q.elim)
  rw [q34]
  refine tw_lstore_n [(1, .long r36), (0, .ref x)] dX5_digest_34 rfl (by decide) rfl ?_
  refine tw_aload_n 1 dX5_digest_35 rfl rfl ?_
  refine tw_lload_n 0 dX5_digest_36 rfl rfl ?_
  refine tw_iconst (v := 1) dX5_digest_37 (by decide) ?_
  refine tw_bl (tw_callV (M := mX5_digest) (pc := 38) okX5_digestWorld dX5_digest_38 w_241 rfl f3 [.long r36, .int 1] [] rfl rfl ⟨by decide, by decide⟩ (Nat.le_of_ble_eq_true rfl) (c_X5_digestWorld d g τ h sp0.1 x kx r36 1) 0 0 (Nat.le_of_ble_eq_true rfl) (Nat.le_of_ble_eq_true rfl)) (fun r39 h38 q37 => ?_) (fun E h1 q => q.elim)
  rw [q37]
  refine tw_lstore_n [(1, .long r39), (0, .ref x)] dX5_digest_41 rfl (by decide) rfl ?_
  refine tw_aload_n 1 dX5_digest_42 rfl rfl ?_
  refine tw_get (v := .ref ca_5) rfl in_9 2 dX5_digest_43 w_142 rfl (by decide) f3 rfl ?_
  refine tw_astore_n [(3, .ref ca_5), (1, .long r39), (0, .ref x)] dX5_digest_46 rfl (by decide) rfl ?_
  refine tw_aload_n 0 dX5_digest_47 rfl rfl ?_
  obtain ⟨e40, f41, F42, rfl, k43, pn44, pb45, px46, pf47⟩ := sp0.1 ca_5 8 k12 (by decide)
  refine tw_alen (v := nI 4) 4 rfl dX5_digest_48 f41 rfl ?_
  refine tw_istore [(4, .int (nI 4)), (3, .ref ca_5), (1, .long r39), (0, .ref x)] dX5_digest_49 (by decide) rfl ?_
  refine tw_iconst (v := 0) dX5_digest_51 (by decide) ?_
  refine tw_istore [(5, .int 0), (4, .int (nI 4)), (3, .ref ca_5), (1, .long r39), (0, .ref x)] dX5_digest_52 (by decide) rfl ?_
  have L52 : ∀ (r50 k49 : Nat) (x48 : Int64), 4 + 1 ≤ k49 + r50 → k49 ≤ 4 → tw_W d mX5_digest (tw_ql (fun r h1 => h1 = h) tw_nx) 54 [(0, .ref x), (1, .long x48), (3, .ref ca_5), (4, .int (nI 4)), (5, .int (nI k49))] [] h 0 0 := by
    intro r50
    induction r50 with
    | zero => intro k49 x48 hk56 hk57; exact absurd hk56 (by omega)
    | succ r50 ih51 =>
      intro k49 x48 hk56 hk57
      refine tw_iload 4 dX5_digest_54 rfl ?_
      refine tw_iload 3 dX5_digest_56 rfl ?_
      refine tw_icmp_ge 86 dX5_digest_58 (by decide) (fun c58 => ?_) (fun c58 => ?_)
      · refine tw_aload_n 0 dX5_digest_86 rfl rfl ?_
        refine tw_get (v := .ref ha_6) rfl in_9 4 dX5_digest_87 w_144 rfl (by decide) f3 rfl ?_
        refine tw_astore_n [(3, .ref ha_6), (0, .ref x), (1, .long x48), (4, .int (nI 4)), (5, .int (nI k49))] dX5_digest_90 rfl (by decide) rfl ?_
        refine tw_aload_n 0 dX5_digest_91 rfl rfl ?_
        obtain ⟨e59, f60, F61, rfl, k62, pn63, pb64, px65, pf66⟩ := sp0.1 ha_6 9 k13 (by decide)
        refine tw_alen (v := nI 6) 5 rfl dX5_digest_92 f60 rfl ?_
        refine tw_istore [(4, .int (nI 6)), (3, .ref ha_6), (0, .ref x), (1, .long x48), (5, .int (nI k49))] dX5_digest_93 (by decide) rfl ?_
        refine tw_iconst (v := 0) dX5_digest_95 (by decide) ?_
        refine tw_istore [(5, .int 0), (4, .int (nI 6)), (3, .ref ha_6), (0, .ref x), (1, .long x48)] dX5_digest_96 (by decide) rfl ?_
        have L71 : ∀ (r69 k68 : Nat) (x67 : Int64), 6 + 1 ≤ k68 + r69 → k68 ≤ 6 → tw_W d mX5_digest (tw_ql (fun r h1 => h1 = h) tw_nx) 98 [(0, .ref x), (1, .long x67), (3, .ref ha_6), (4, .int (nI 6)), (5, .int (nI k68))] [] h 0 0 := by
          intro r69
          induction r69 with
          | zero => intro k68 x67 hk75 hk76; exact absurd hk75 (by omega)
          | succ r69 ih70 =>
            intro k68 x67 hk75 hk76
            refine tw_iload 4 dX5_digest_98 rfl ?_
            refine tw_iload 3 dX5_digest_100 rfl ?_
            refine tw_icmp_ge 130 dX5_digest_102 (by decide) (fun c77 => ?_) (fun c77 => ?_)
            · refine tw_aload_n 0 dX5_digest_130 rfl rfl ?_
              refine tw_get (v := .ref da_7) rfl in_9 6 dX5_digest_131 w_146 rfl (by decide) f3 rfl ?_
              refine tw_astore_n [(3, .ref da_7), (0, .ref x), (1, .long x67), (4, .int (nI 6)), (5, .int (nI k68))] dX5_digest_134 rfl (by decide) rfl ?_
              refine tw_aload_n 0 dX5_digest_135 rfl rfl ?_
              obtain ⟨e78, f79, F80, rfl, k81, pn82, pb83, px84, pf85⟩ := sp0.1 da_7 10 k14 (by decide)
              refine tw_alen (v := nI 10) 6 rfl dX5_digest_136 f79 rfl ?_
              refine tw_istore [(4, .int (nI 10)), (3, .ref da_7), (0, .ref x), (1, .long x67), (5, .int (nI k68))] dX5_digest_137 (by decide) rfl ?_
              refine tw_iconst (v := 0) dX5_digest_139 (by decide) ?_
              refine tw_istore [(5, .int 0), (4, .int (nI 10)), (3, .ref da_7), (0, .ref x), (1, .long x67)] dX5_digest_140 (by decide) rfl ?_
              have L90 : ∀ (r88 k87 : Nat) (x86 : Int64), 10 + 1 ≤ k87 + r88 → k87 ≤ 10 → tw_W d mX5_digest (tw_ql (fun r h1 => h1 = h) tw_nx) 142 [(0, .ref x), (1, .long x86), (3, .ref da_7), (4, .int (nI 10)), (5, .int (nI k87))] [] h 0 0 := by
                intro r88
                induction r88 with
                | zero => intro k87 x86 hk94 hk95; exact absurd hk94 (by omega)
                | succ r88 ih89 =>
                  intro k87 x86 hk94 hk95
                  refine tw_iload 4 dX5_digest_142 rfl ?_
                  refine tw_iload 3 dX5_digest_144 rfl ?_
                  refine tw_icmp_ge 174 dX5_digest_146 (by decide) (fun c96 => ?_) (fun c96 => ?_)
                  · refine tw_lload_n 1 dX5_digest_174 rfl rfl ?_
                    refine tw_ldc2 (v := 31) dX5_digest_175 w_240 ?_
                    refine tw_lmul dX5_digest_178 ?_
                    refine tw_nml (fun v97 ev97 => ?_)
                    refine tw_aload_n 0 dX5_digest_179 rfl rfl ?_
                    refine tw_sipush (v := 1000) dX5_digest_180 (by decide) ?_
                    refine tw_bi (tw_callV (M := mX5_digest) (pc := 183) okX5_isRest dX5_digest_183 w_369 rfl f3 [.int 1000] [.long v97] rfl rfl ⟨by decide, by decide⟩ (Nat.le_of_ble_eq_true rfl) (c_X5_isRest d g τ h sp0.1 x kx 1000) 0 0 (Nat.le_of_ble_eq_true rfl) (Nat.le_of_ble_eq_true rfl)) (fun r100 h99 q98 => ?_) (fun E h1 q => q.elim)
                    obtain ⟨q98e, p101⟩ := q98
                    rw [q98e]
                    refine tw_if_eq 193 dX5_digest_186 (by decide) (fun c102 => ?_) (fun c102 => ?_)
                    · refine tw_iconst (v := 0) dX5_digest_193 (by decide) ?_
                      refine tw_i2l dX5_digest_194 ?_
                      refine tw_nml (fun v103 ev103 => ?_)
                      refine tw_ladd dX5_digest_195 ?_
                      refine tw_nml (fun v104 ev104 => ?_)
                      refine tw_lstore_n [(1, .long v104), (0, .ref x), (3, .ref da_7), (4, .int (nI 10)), (5, .int (nI k87))] dX5_digest_196 rfl (by decide) rfl ?_
                      refine tw_lload_n 0 dX5_digest_197 rfl rfl ?_
                      refine tw_ldc2 (v := 31) dX5_digest_198 w_240 ?_
                      refine tw_lmul dX5_digest_201 ?_
                      refine tw_nml (fun v105 ev105 => ?_)
                      refine tw_aload_n 1 dX5_digest_202 rfl rfl ?_
                      refine tw_bi (tw_callV (M := mX5_digest) (pc := 203) okX5_isSound dX5_digest_203 w_373 rfl f3 [] [.long v105] rfl rfl ⟨by decide, by decide⟩ (Nat.le_of_ble_eq_true rfl) (c_X5_isSound d g τ h sp0.1 x kx) 0 0 (Nat.le_of_ble_eq_true rfl) (Nat.le_of_ble_eq_true rfl)) (fun r108 h107 q106 => ?_) (fun E h1 q => q.elim)
                      obtain ⟨q106e, p109⟩ := q106
                      rw [q106e]
                      refine tw_if_eq 213 dX5_digest_206 (by decide) (fun c110 => ?_) (fun c110 => ?_)
                      · refine tw_iconst (v := 0) dX5_digest_213 (by decide) ?_
                        refine tw_i2l dX5_digest_214 ?_
                        refine tw_nml (fun v111 ev111 => ?_)
                        refine tw_ladd dX5_digest_215 ?_
                        refine tw_nml (fun v112 ev112 => ?_)
                        refine tw_lstore_n [(1, .long v112), (0, .ref x), (3, .ref da_7), (4, .int (nI 10)), (5, .int (nI k87))] dX5_digest_216 rfl (by decide) rfl ?_
                        refine tw_lload_n 0 dX5_digest_217 rfl rfl ?_
                        exact tw_lret dX5_digest_218 rfl (Or.inl ⟨_, rfl, rfl⟩)
                      · refine tw_iconst (v := 1) dX5_digest_209 (by decide) ?_
                        refine tw_goto 214 dX5_digest_210 (by decide) ?_
                        refine tw_i2l dX5_digest_214 ?_
                        refine tw_nml (fun v113 ev113 => ?_)
                        refine tw_ladd dX5_digest_215 ?_
                        refine tw_nml (fun v114 ev114 => ?_)
                        refine tw_lstore_n [(1, .long v114), (0, .ref x), (3, .ref da_7), (4, .int (nI 10)), (5, .int (nI k87))] dX5_digest_216 rfl (by decide) rfl ?_
                        refine tw_lload_n 0 dX5_digest_217 rfl rfl ?_
                        exact tw_lret dX5_digest_218 rfl (Or.inl ⟨_, rfl, rfl⟩)
                    · refine tw_iconst (v := 1) dX5_digest_189 (by decide) ?_
                      refine tw_goto 194 dX5_digest_190 (by decide) ?_
                      refine tw_i2l dX5_digest_194 ?_
                      refine tw_nml (fun v115 ev115 => ?_)
                      refine tw_ladd dX5_digest_195 ?_
                      refine tw_nml (fun v116 ev116 => ?_)
                      refine tw_lstore_n [(1, .long v116), (0, .ref x), (3, .ref da_7), (4, .int (nI 10)), (5, .int (nI k87))] dX5_digest_196 rfl (by decide) rfl ?_
                      refine tw_lload_n 0 dX5_digest_197 rfl rfl ?_
                      refine tw_ldc2 (v := 31) dX5_digest_198 w_240 ?_
                      refine tw_lmul dX5_digest_201 ?_
                      refine tw_nml (fun v117 ev117 => ?_)
                      refine tw_aload_n 1 dX5_digest_202 rfl rfl ?_
                      refine tw_bi (tw_callV (M := mX5_digest) (pc := 203) okX5_isSound dX5_digest_203 w_373 rfl f3 [] [.long v117] rfl rfl ⟨by decide, by decide⟩ (Nat.le_of_ble_eq_true rfl) (c_X5_isSound d g τ h sp0.1 x kx) 0 0 (Nat.le_of_ble_eq_true rfl) (Nat.le_of_ble_eq_true rfl)) (fun r120 h119 q118 => ?_) (fun E h1 q => q.elim)
                      obtain ⟨q118e, p121⟩ := q118
                      rw [q118e]
                      refine tw_if_eq 213 dX5_digest_206 (by decide) (fun c122 => ?_) (fun c122 => ?_)
                      · refine tw_iconst (v := 0) dX5_digest_213 (by decide) ?_
                        refine tw_i2l dX5_digest_214 ?_
                        refine tw_nml (fun v123 ev123 => ?_)
                        refine tw_ladd dX5_digest_215 ?_
                        refine tw_nml (fun v124 ev124 => ?_)
                        refine tw_lstore_n [(1, .long v124), (0, .ref x), (3, .ref da_7), (4, .int (nI 10)), (5, .int (nI k87))] dX5_digest_216 rfl (by decide) rfl ?_
                        refine tw_lload_n 0 dX5_digest_217 rfl rfl ?_
                        exact tw_lret dX5_digest_218 rfl (Or.inl ⟨_, rfl, rfl⟩)
                      · refine tw_iconst (v := 1) dX5_digest_209 (by decide) ?_
                        refine tw_goto 214 dX5_digest_210 (by decide) ?_
                        refine tw_i2l dX5_digest_214 ?_
                        refine tw_nml (fun v125 ev125 => ?_)
                        refine tw_ladd dX5_digest_215 ?_
                        refine tw_nml (fun v126 ev126 => ?_)
                        refine tw_lstore_n [(1, .long v126), (0, .ref x), (3, .ref da_7), (4, .int (nI 10)), (5, .int (nI k87))] dX5_digest_216 rfl (by decide) rfl ?_
                        refine tw_lload_n 0 dX5_digest_217 rfl rfl ?_
                        exact tw_lret dX5_digest_218 rfl (Or.inl ⟨_, rfl, rfl⟩)
                  · have kl127 := tw_klt (N := 10) c96 hk95 (by decide)
                    refine tw_aload_n 2 dX5_digest_149 rfl rfl ?_
                    refine tw_iload 4 dX5_digest_150 rfl ?_
                    cases k128 : F80 ((nI k87)).toNatClampNeg with
                    | none =>
                      refine tw_aald (v := .null) 6 rfl rfl dX5_digest_152 f79 (vp_in_nI (by omega) (by decide)) (by rw [k128]; rfl) ?_
                      refine tw_astoreN [(6, .null), (0, .ref x), (1, .long x86), (3, .ref da_7), (4, .int (nI 10)), (5, .int (nI k87))] dX5_digest_153 (by decide) rfl ?_
                      refine tw_aloadN 0 dX5_digest_155 rfl ?_
                      refine tw_ifnullN 168 dX5_digest_157 (by decide) ?_
                      obtain ⟨v130, ev130⟩ : ∃ y : Int32, y = (nI k87) + 1 := ⟨_, rfl⟩
                      refine tw_iinc [(5, .int v130), (6, .null), (0, .ref x), (1, .long x86), (3, .ref da_7), (4, .int (nI 10))] 5 dX5_digest_168 rfl (by rw [ev130]; rfl) (by decide) rfl ?_
                      refine tw_goto 142 dX5_digest_171 (by decide) ?_
                      have qv130 := tw_nI3 ev130
                      rw [qv130]
                      refine tw_lv [2, 3, 4, 5, 0] rfl ?_
                      exact ih89 (k87 + 1) x86 (by omega) (by omega)
                    | some q129 =>
                      have k131 := k81 _ _ k128
                      refine tw_aald (v := .ref q129) 6 rfl rfl dX5_digest_152 f79 (vp_in_nI (by omega) (by decide)) (by rw [k128]; rfl) ?_
                      refine tw_astore [(6, .ref q129), (0, .ref x), (1, .long x86), (3, .ref da_7), (4, .int (nI 10)), (5, .int (nI k87))] dX5_digest_153 (by decide) rfl ?_
                      refine tw_aload 0 dX5_digest_155 rfl ?_
                      refine tw_ifnull dX5_digest_157 ?_
                      refine tw_aload_n 1 dX5_digest_160 rfl rfl ?_
                      refine tw_lload_n 2 dX5_digest_161 rfl rfl ?_
                      refine tw_aload 0 dX5_digest_162 rfl ?_
                      refine tw_bl (tw_callV (M := mX5_digest) (pc := 164) okX5_digestDebt dX5_digest_164 w_347 rfl f3 [.long x86, .ref q129] [] rfl rfl ⟨by decide, by decide⟩ (Nat.le_of_ble_eq_true rfl) (c_X5_digestDebt d g τ h sp0.1 x kx x86 q129 k131) 0 0 (Nat.le_of_ble_eq_true rfl) (Nat.le_of_ble_eq_true rfl)) (fun r134 h133 q132 => ?_) (fun E h1 q => q.elim)
                      rw [q132]
                      refine tw_lstore_n [(1, .long r134), (6, .ref q129), (0, .ref x), (3, .ref da_7), (4, .int (nI 10)), (5, .int (nI k87))] dX5_digest_167 rfl (by decide) rfl ?_
                      obtain ⟨v135, ev135⟩ : ∃ y : Int32, y = (nI k87) + 1 := ⟨_, rfl⟩
                      refine tw_iinc [(5, .int v135), (1, .long r134), (6, .ref q129), (0, .ref x), (3, .ref da_7), (4, .int (nI 10))] 5 dX5_digest_168 rfl (by rw [ev135]; rfl) (by decide) rfl ?_
                      refine tw_goto 142 dX5_digest_171 (by decide) ?_
                      have qv135 := tw_nI3 ev135
                      rw [qv135]
                      refine tw_lv [3, 1, 4, 5, 0] rfl ?_
                      exact ih89 (k87 + 1) r134 (by omega) (by omega)
              refine tw_lv [3, 4, 2, 1, 0] rfl ?_
              exact L90 (10 + 1) 0 x67 (by omega) (by omega)
            · have kl136 := tw_klt (N := 6) c77 hk76 (by decide)
              refine tw_aload_n 2 dX5_digest_105 rfl rfl ?_
              refine tw_iload 4 dX5_digest_106 rfl ?_
              cases k137 : F61 ((nI k68)).toNatClampNeg with
              | none =>
                refine tw_aald (v := .null) 5 rfl rfl dX5_digest_108 f60 (vp_in_nI (by omega) (by decide)) (by rw [k137]; rfl) ?_
                refine tw_astoreN [(6, .null), (0, .ref x), (1, .long x67), (3, .ref ha_6), (4, .int (nI 6)), (5, .int (nI k68))] dX5_digest_109 (by decide) rfl ?_
                refine tw_aloadN 0 dX5_digest_111 rfl ?_
                refine tw_ifnullN 124 dX5_digest_113 (by decide) ?_
                obtain ⟨v139, ev139⟩ : ∃ y : Int32, y = (nI k68) + 1 := ⟨_, rfl⟩
                refine tw_iinc [(5, .int v139), (6, .null), (0, .ref x), (1, .long x67), (3, .ref ha_6), (4, .int (nI 6))] 5 dX5_digest_124 rfl (by rw [ev139]; rfl) (by decide) rfl ?_
                refine tw_goto 98 dX5_digest_127 (by decide) ?_
                have qv139 := tw_nI3 ev139
                rw [qv139]
                refine tw_lv [2, 3, 4, 5, 0] rfl ?_
                exact ih70 (k68 + 1) x67 (by omega) (by omega)
              | some q138 =>
                have k140 := k62 _ _ k137
                refine tw_aald (v := .ref q138) 5 rfl rfl dX5_digest_108 f60 (vp_in_nI (by omega) (by decide)) (by rw [k137]; rfl) ?_
                refine tw_astore [(6, .ref q138), (0, .ref x), (1, .long x67), (3, .ref ha_6), (4, .int (nI 6)), (5, .int (nI k68))] dX5_digest_109 (by decide) rfl ?_
                refine tw_aload 0 dX5_digest_111 rfl ?_
                refine tw_ifnull dX5_digest_113 ?_
                refine tw_aload_n 1 dX5_digest_116 rfl rfl ?_
                refine tw_lload_n 2 dX5_digest_117 rfl rfl ?_
                refine tw_aload 0 dX5_digest_118 rfl ?_
                refine tw_bl (tw_callV (M := mX5_digest) (pc := 120) okX5_digestHouse dX5_digest_120 w_328 rfl f3 [.long x67, .ref q138] [] rfl rfl ⟨by decide, by decide⟩ (Nat.le_of_ble_eq_true rfl) (c_X5_digestHouse d g τ h sp0.1 x kx x67 q138 k140) 0 0 (Nat.le_of_ble_eq_true rfl) (Nat.le_of_ble_eq_true rfl)) (fun r143 h142 q141 => ?_) (fun E h1 q => q.elim)
                rw [q141]
                refine tw_lstore_n [(1, .long r143), (6, .ref q138), (0, .ref x), (3, .ref ha_6), (4, .int (nI 6)), (5, .int (nI k68))] dX5_digest_123 rfl (by decide) rfl ?_
                obtain ⟨v144, ev144⟩ : ∃ y : Int32, y = (nI k68) + 1 := ⟨_, rfl⟩
                refine tw_iinc [(5, .int v144), (1, .long r143), (6, .ref q138), (0, .ref x), (3, .ref ha_6), (4, .int (nI 6))] 5 dX5_digest_124 rfl (by rw [ev144]; rfl) (by decide) rfl ?_
                refine tw_goto 98 dX5_digest_127 (by decide) ?_
                have qv144 := tw_nI3 ev144
                rw [qv144]
                refine tw_lv [3, 1, 4, 5, 0] rfl ?_
                exact ih70 (k68 + 1) r143 (by omega) (by omega)
        refine tw_lv [3, 4, 2, 1, 0] rfl ?_
        exact L71 (6 + 1) 0 x48 (by omega) (by omega)
      · have kl145 := tw_klt (N := 4) c58 hk57 (by decide)
        refine tw_aload_n 2 dX5_digest_61 rfl rfl ?_
        refine tw_iload 4 dX5_digest_62 rfl ?_
        cases k146 : F42 ((nI k49)).toNatClampNeg with
        | none =>
          refine tw_aald (v := .null) 4 rfl rfl dX5_digest_64 f41 (vp_in_nI (by omega) (by decide)) (by rw [k146]; rfl) ?_
          refine tw_astoreN [(6, .null), (0, .ref x), (1, .long x48), (3, .ref ca_5), (4, .int (nI 4)), (5, .int (nI k49))] dX5_digest_65 (by decide) rfl ?_
          refine tw_aloadN 0 dX5_digest_67 rfl ?_
          refine tw_ifnullN 80 dX5_digest_69 (by decide) ?_
          obtain ⟨v148, ev148⟩ : ∃ y : Int32, y = (nI k49) + 1 := ⟨_, rfl⟩
          refine tw_iinc [(5, .int v148), (6, .null), (0, .ref x), (1, .long x48), (3, .ref ca_5), (4, .int (nI 4))] 5 dX5_digest_80 rfl (by rw [ev148]; rfl) (by decide) rfl ?_
          refine tw_goto 54 dX5_digest_83 (by decide) ?_
          have qv148 := tw_nI3 ev148
          rw [qv148]
          refine tw_lv [2, 3, 4, 5, 0] rfl ?_
          exact ih51 (k49 + 1) x48 (by omega) (by omega)
        | some q147 =>
          have k149 := k43 _ _ k146
          refine tw_aald (v := .ref q147) 4 rfl rfl dX5_digest_64 f41 (vp_in_nI (by omega) (by decide)) (by rw [k146]; rfl) ?_
          refine tw_astore [(6, .ref q147), (0, .ref x), (1, .long x48), (3, .ref ca_5), (4, .int (nI 4)), (5, .int (nI k49))] dX5_digest_65 (by decide) rfl ?_
          refine tw_aload 0 dX5_digest_67 rfl ?_
          refine tw_ifnull dX5_digest_69 ?_
          refine tw_aload_n 1 dX5_digest_72 rfl rfl ?_
          refine tw_lload_n 2 dX5_digest_73 rfl rfl ?_
          refine tw_aload 0 dX5_digest_74 rfl ?_
          refine tw_bl (tw_callV (M := mX5_digest) (pc := 76) okX5_digestCountry dX5_digest_76 w_249 rfl f3 [.long x48, .ref q147] [] rfl rfl ⟨by decide, by decide⟩ (Nat.le_of_ble_eq_true rfl) (c_X5_digestCountry d g τ h sp0.1 x kx x48 q147 k149) 0 0 (Nat.le_of_ble_eq_true rfl) (Nat.le_of_ble_eq_true rfl)) (fun r152 h151 q150 => ?_) (fun E h1 q => q.elim)
          rw [q150]
          refine tw_lstore_n [(1, .long r152), (6, .ref q147), (0, .ref x), (3, .ref ca_5), (4, .int (nI 4)), (5, .int (nI k49))] dX5_digest_79 rfl (by decide) rfl ?_
          obtain ⟨v153, ev153⟩ : ∃ y : Int32, y = (nI k49) + 1 := ⟨_, rfl⟩
          refine tw_iinc [(5, .int v153), (1, .long r152), (6, .ref q147), (0, .ref x), (3, .ref ca_5), (4, .int (nI 4))] 5 dX5_digest_80 rfl (by rw [ev153]; rfl) (by decide) rfl ?_
          refine tw_goto 54 dX5_digest_83 (by decide) ?_
          have qv153 := tw_nI3 ev153
          rw [qv153]
          refine tw_lv [3, 1, 4, 5, 0] rfl ?_
          exact ih51 (k49 + 1) r152 (by omega) (by omega)
  refine tw_lv [4, 3, 2, 1, 0] rfl ?_
  exact L52 (4 + 1) 0 r39 (by omega) (by omega)

set_option maxHeartbeats 4000000 in
set_option maxRecDepth 100000 in
theorem c_X5_coins (d : tw_D) (g : tw_G) (τ : tw_K) (h : tw_H) (hw : tw_wt d g τ h) (x : Nat) (kx : τ x = 11) (n : Int32) (am : Int32) : tw_Ct d mX5_coins 20 120 [.ref x, .int n, .int am] h (tw_qi (fun r h1 => h1 = h) (fun E h1 => (E = tw_IOE ∨ E = tw_IAE) ∧ h1 = h)) := by
  refine tw_of (by decide +kernel) (Nat.le_of_ble_eq_true rfl) ?_
  show tw_W d mX5_coins _ 0 [(0, .ref x), (1, .int n), (2, .int am)] [] h 20 120
  have sp0 := tw_sp.rf hw
  refine tw_aload_n 0 dX5_coins_0 rfl rfl ?_
  refine tw_iload_n 1 dX5_coins_1 rfl rfl ?_
  obtain ⟨e1, f2, td_3, ca_4, ha_5, da_6, c1_7, c2_8, c3_9, c4_10, rfl, k11, k12, k13, k14, k15, k16, k17, k18, k19, k20, k21, k22, k23, k24, k25, k26, k27⟩ := sp0.1 x 11 kx (by decide)
  refine tw_br (tw_callV (M := mX5_coins) (pc := 2) okX5_countryAt dX5_coins_2 w_546 rfl f2 [.int n] [] rfl rfl ⟨by decide, by decide⟩ (Nat.le_of_ble_eq_true rfl) (c_X5_countryAt d g τ h sp0.1 x kx n) 19 114 (Nat.le_of_ble_eq_true rfl) (Nat.le_of_ble_eq_true rfl)) (fun r30 h29 q28 => ?_) (fun E h1 q => Or.inr ⟨E, rfl, (Or.inl q.1), q.2⟩)
  obtain ⟨q28e, p31⟩ := q28
  rw [q28e]
  obtain ⟨e32, f33, n_34, r_35, c_36, go_37, so_38, v_39, rd_40, rf_41, t_42, rfl, k43, k44, k45, k46, k47, k48, k49, k50, k51⟩ := sp0.1 r30 2 p31 (by decide)
  refine tw_getN (v := .ref t_42) rfl in_4 8 dX5_coins_5 w_514 rfl (by decide) f33 rfl ?_
  refine tw_astore_n [(3, .ref t_42), (0, .ref x), (1, .int n), (2, .int am)] dX5_coins_8 rfl (by decide) rfl ?_
  refine tw_iload_n 3 dX5_coins_9 rfl rfl ?_
  refine tw_iconst (v := 1) dX5_coins_10 (by decide) ?_
  refine tw_sipush (v := 400) dX5_coins_11 (by decide) ?_
  refine tw_bv (tw_callS (M := mX5_coins) (pc := 14) okX5_needRange dX5_coins_14 w_399 [.int am, .int 1, .int 400] [] rfl rfl ⟨by decide, by decide⟩ (Nat.le_of_ble_eq_true rfl) (c_X5_needRange d g τ h sp0.1 am 1 400) 18 108 (Nat.le_of_ble_eq_true rfl) (Nat.le_of_ble_eq_true rfl)) (fun h53 q52 => ?_) (fun E h1 q => Or.inr ⟨E, rfl, (Or.inr (q.1)), q.2⟩)
  obtain ⟨q52e, p55⟩ := q52
  rw [q52e]
  refine tw_aload_n 0 dX5_coins_17 rfl rfl ?_
  refine tw_iload_n 3 dX5_coins_18 rfl rfl ?_
  obtain ⟨e56, f57, m_58, rfl, k59, k60⟩ := sp0.1 t_42 5 k46 (by decide)
  refine tw_bi (tw_callVN (M := mX5_coins) (pc := 19) okX4_fewestFor dX5_coins_19 w_285 rfl f57 [.int am] [] rfl rfl ⟨by decide, by decide⟩ (Nat.le_of_ble_eq_true rfl) (c_X4_fewestFor d g τ h sp0.1 t_42 k46 am) 18 108 (Nat.le_of_ble_eq_true rfl) (Nat.le_of_ble_eq_true rfl)) (fun r63 h62 q61 => ?_) (fun E h1 q => q.elim)
  rw [q61]
  exact tw_iret dX5_coins_22 rfl (Or.inl ⟨_, rfl, rfl⟩)

set_option maxHeartbeats 4000000 in
set_option maxRecDepth 100000 in
theorem c2_X5_needRange (d : tw_D) (g : tw_G) (τ : tw_K) (h : tw_H) (hw : tw_wt d g τ h) (v : Int32) (lo : Int32) (hi : Int32) : tw_Ct d mX5_needRange 1 6 [.int v, .int lo, .int hi] h (tw_qv (fun h1 => h1 = h ∧ lo ≤ v ∧ v ≤ hi) (fun E h1 => (E = tw_IAE) ∧ h1 = h ∧ ¬ (lo ≤ v ∧ v ≤ hi))) := by
  refine tw_of (by decide +kernel) (Nat.le_of_ble_eq_true rfl) ?_
  show tw_W d mX5_needRange _ 0 [(0, .int v), (1, .int lo), (2, .int hi)] [] h 1 6
  have sp0 := tw_sp.rf hw
  refine tw_iload_n 0 dX5_needRange_0 rfl rfl ?_
  refine tw_iload_n 1 dX5_needRange_1 rfl rfl ?_
  refine tw_icmp_lt 10 dX5_needRange_2 (by decide) (fun c1 => ?_) (fun c1 => ?_)
  · exact tw_throwSW (i := 0) (by decide +kernel) w_402 w_87 rfl at_IAE dX5_needRange_10 dX5_needRange_13 dX5_needRange_14 dX5_needRange_17 dX5_needRange_20 ⟨by decide, Nat.le_of_ble_eq_true rfl⟩ (Nat.le_of_ble_eq_true rfl) (Nat.le_of_ble_eq_true rfl) (Or.inr ⟨_, rfl, (rfl), rfl, (fun q => absurd c1 (Int32.not_lt.mpr q.1))⟩)
  · refine tw_iload_n 0 dX5_needRange_5 rfl rfl ?_
    refine tw_iload_n 2 dX5_needRange_6 rfl rfl ?_
    refine tw_icmp_le 21 dX5_needRange_7 (by decide) (fun c2 => ?_) (fun c2 => ?_)
    · exact tw_vret dX5_needRange_21 rfl (Or.inl ⟨rfl, ⟨rfl, (Int32.not_lt.mp c1), c2⟩⟩)
    · exact tw_throwSW (i := 0) (by decide +kernel) w_402 w_87 rfl at_IAE dX5_needRange_10 dX5_needRange_13 dX5_needRange_14 dX5_needRange_17 dX5_needRange_20 ⟨by decide, Nat.le_of_ble_eq_true rfl⟩ (Nat.le_of_ble_eq_true rfl) (Nat.le_of_ble_eq_true rfl) (Or.inr ⟨_, rfl, (rfl), rfl, (fun q => c2 q.2)⟩)

set_option maxHeartbeats 4000000 in
set_option maxRecDepth 100000 in
theorem c_X5_market (d : tw_D) (g : tw_G) (τ : tw_K) (h : tw_H) (hw : tw_wt d g τ h) (x : Nat) (kx : τ x = 11) (m : Int32) : tw_Ct d mX5_market 20 120 [.ref x, .int m] h (tw_qi (fun r h1 => r = g.1 0 ∧ (100 ≤ m ∧ m ≤ 200) ∧ tw_sp d τ h (tw_g1 g 0 m) τ h1) (fun E h1 => E = tw_IAE ∧ ¬ (100 ≤ m ∧ m ≤ 200) ∧ h1 = h)) := by
  refine tw_of (by decide +kernel) (Nat.le_of_ble_eq_true rfl) ?_
  show tw_W d mX5_market _ 0 [(0, .ref x), (1, .int m)] [] h 20 120
  have sp0 := tw_sp.rf hw
  refine tw_iload_n 1 dX5_market_0 rfl rfl ?_
  refine tw_bipush (v := 100) dX5_market_1 (by decide) ?_
  refine tw_sipush (v := 200) dX5_market_3 (by decide) ?_
  refine tw_bv (tw_callS (M := mX5_market) (pc := 6) okX5_needRange dX5_market_6 w_399 [.int m, .int 100, .int 200] [] rfl rfl ⟨by decide, by decide⟩ (Nat.le_of_ble_eq_true rfl) (c2_X5_needRange d g τ h sp0.1 m 100 200) 19 114 (Nat.le_of_ble_eq_true rfl) (Nat.le_of_ble_eq_true rfl)) (fun h2 q => ?_) (fun E h2 q => Or.inr ⟨E, rfl, q.1, q.2.2, q.2.1⟩)
  obtain ⟨qe, ql⟩ := q
  rw [qe]
  refine tw_aload_n 0 dX5_market_9 rfl rfl ?_
  obtain ⟨e1, f2, td_3, ca_4, ha_5, da_6, c1_7, c2_8, c3_9, c4_10, rfl, k11, k12, k13, k14, k15, k16, k17, k18, k19, k20, k21, k22, k23, k24, k25, k26, k27⟩ := sp0.1 x 11 kx (by decide)
  refine tw_get (v := .int (g.1 0)) rfl in_9 1 dX5_market_10 w_141 rfl (by decide) f2 rfl ?_
  refine tw_istore_n [(2, .int (g.1 0)), (0, .ref x), (1, .int m)] dX5_market_13 rfl (by decide) rfl ?_
  refine tw_aload_n 1 dX5_market_14 rfl rfl ?_
  refine tw_iload_n 2 dX5_market_15 rfl rfl ?_
  obtain ⟨g5, eg5⟩ : ∃ z : tw_G, z = tw_g1 g 0 m := ⟨_, rfl⟩
  have qm : m = g5.1 0 := by rw [eg5]; rfl
  refine tw_put rfl in_9 tyX5 tyX5_ok nmX5 1 dX5_market_16 w_141 rfl (by decide) f2 rfl rfl rfl rfl (Nat.le_of_ble_eq_true rfl) [.int td_3, .int m, .ref ca_4, .int (nI (g.2 0)), .ref ha_5, .int (nI (g.2 1)), .ref da_6, .int (nI (g.2 2)), .ref c1_7, .ref c2_8, .ref c3_9, .ref c4_10] rfl ?_
  obtain ⟨h28, eh28⟩ : ∃ z : tw_H, z = tw_up h x (.inr (9, [.int td_3, .int m, .ref ca_4, .int (nI (g.2 0)), .ref ha_5, .int (nI (g.2 1)), .ref da_6, .int (nI (g.2 2)), .ref c1_7, .ref c2_8, .ref c3_9, .ref c4_10])) := ⟨_, rfl⟩
  rw [← eh28]
  have sp29 : tw_sp d τ h g5 τ h28 := by rw [eh28]; exact sp0.g11 kx ⟨td_3, ca_4, ha_5, da_6, c1_7, c2_8, c3_9, c4_10, (by rw [eg5]; rfl), k11, k12, k13, k14, k15, k16, k17, (by rw [eg5]; exact k18), (by rw [eg5]; exact k19), (by rw [eg5]; exact k20), (by rw [eg5]; exact k21), (by rw [eg5]; exact k22), (by rw [eg5]; exact k23), (by rw [eg5]; exact k24), (by rw [eg5]; exact k25), (by rw [eg5]; exact k26), (by rw [eg5]; exact k27)⟩ (by rw [eg5]; intro i hi; exact if_neg hi) (by rw [eg5]; intro i hi hj; rfl)
  refine tw_iload_n 0 dX5_market_19 rfl rfl ?_
  exact tw_iret dX5_market_20 rfl (Or.inl ⟨_, rfl, rfl, ql, by rw [← eg5]; exact sp29⟩)

/-! the class's methods over the typed heap. Laid by wip/p5/mkclass.py. -/
set_option maxHeartbeats 4000000 in
set_option maxRecDepth 100000 in
theorem c_X5_countryAt (d : tw_D) (g : tw_G) (τ : tw_K) (h : tw_H) (hw : tw_wt d g τ h) (x : Nat) (kx : τ x = 11) (n : Int32) : tw_Ct d mX5_countryAt 1 6 [.ref x, .int n] h (tw_qr (fun r h1 => h1 = h ∧ τ r = 2) (fun E h1 => (E = tw_IOE) ∧ h1 = h)) := by
  refine tw_of (by decide +kernel) (Nat.le_of_ble_eq_true rfl) ?_
  show tw_W d mX5_countryAt _ 0 [(0, .ref x), (1, .int n)] [] h 1 6
  have sp0 := tw_sp.rf hw
  refine tw_iload_n 1 dX5_countryAt_0 rfl rfl ?_
  refine tw_if_lt 22 dX5_countryAt_1 (by decide) (fun c1 => ?_) (fun c1 => ?_)
  · exact tw_throwSW (i := 2) (by decide +kernel) w_550 w_96 rfl at_IOE dX5_countryAt_22 dX5_countryAt_25 dX5_countryAt_26 dX5_countryAt_29 dX5_countryAt_32 ⟨by decide, Nat.le_of_ble_eq_true rfl⟩ (Nat.le_of_ble_eq_true rfl) (Nat.le_of_ble_eq_true rfl) (Or.inr ⟨_, rfl, (rfl), rfl⟩)
  · refine tw_iload_n 1 dX5_countryAt_4 rfl rfl ?_
    refine tw_aload_n 0 dX5_countryAt_5 rfl rfl ?_
    obtain ⟨e2, f3, td_4, ca_5, ha_6, da_7, c1_8, c2_9, c3_10, c4_11, rfl, k12, k13, k14, k15, k16, k17, k18, k19, k20, k21, k22, k23, k24, k25, k26, k27, k28⟩ := sp0.1 x 11 kx (by decide)
    refine tw_get (v := .ref ca_5) rfl in_9 2 dX5_countryAt_6 w_142 rfl (by decide) f3 rfl ?_
    obtain ⟨e29, f30, F31, rfl, k32, pn33, pb34, px35, pf36⟩ := sp0.1 ca_5 8 k12 (by decide)
    refine tw_alen (v := nI 4) 4 rfl dX5_countryAt_9 f30 rfl ?_
    refine tw_icmp_ge 22 dX5_countryAt_10 (by decide) (fun c37 => ?_) (fun c37 => ?_)
    · exact tw_throwSW (i := 2) (by decide +kernel) w_550 w_96 rfl at_IOE dX5_countryAt_22 dX5_countryAt_25 dX5_countryAt_26 dX5_countryAt_29 dX5_countryAt_32 ⟨by decide, Nat.le_of_ble_eq_true rfl⟩ (Nat.le_of_ble_eq_true rfl) (Nat.le_of_ble_eq_true rfl) (Or.inr ⟨_, rfl, (rfl), rfl⟩)
    · refine tw_aload_n 0 dX5_countryAt_13 rfl rfl ?_
      refine tw_get (v := .ref ca_5) rfl in_9 2 dX5_countryAt_14 w_142 rfl (by decide) f3 rfl ?_
      refine tw_iload_n 1 dX5_countryAt_17 rfl rfl ?_
      cases k38 : F31 (n).toNatClampNeg with
      | none =>
        refine tw_aald (v := .null) 4 rfl rfl dX5_countryAt_18 f30 (tw_ib2 c1 c37 (by decide)) (by rw [k38]; rfl) ?_
        refine tw_ifnonnullN dX5_countryAt_19 ?_
        exact tw_throwSW (i := 2) (by decide +kernel) w_550 w_96 rfl at_IOE dX5_countryAt_22 dX5_countryAt_25 dX5_countryAt_26 dX5_countryAt_29 dX5_countryAt_32 ⟨by decide, Nat.le_of_ble_eq_true rfl⟩ (Nat.le_of_ble_eq_true rfl) (Nat.le_of_ble_eq_true rfl) (Or.inr ⟨_, rfl, (rfl), rfl⟩)
      | some q39 =>
        have k40 := k32 _ _ k38
        refine tw_aald (v := .ref q39) 4 rfl rfl dX5_countryAt_18 f30 (tw_ib2 c1 c37 (by decide)) (by rw [k38]; rfl) ?_
        refine tw_ifnonnull 33 dX5_countryAt_19 (by decide) ?_
        refine tw_aload_n 0 dX5_countryAt_33 rfl rfl ?_
        refine tw_get (v := .ref ca_5) rfl in_9 2 dX5_countryAt_34 w_142 rfl (by decide) f3 rfl ?_
        refine tw_iload_n 1 dX5_countryAt_37 rfl rfl ?_
        refine tw_aald (v := .ref q39) 4 rfl rfl dX5_countryAt_38 f30 (tw_ib2 c1 c37 (by decide)) (by rw [k38]; rfl) ?_
        exact tw_aret dX5_countryAt_39 rfl (Or.inl ⟨_, rfl⟩) (Or.inl ⟨_, rfl, ⟨rfl, k40⟩⟩)

set_option maxHeartbeats 4000000 in
set_option maxRecDepth 100000 in
theorem c_X5_houseAt (d : tw_D) (g : tw_G) (τ : tw_K) (h : tw_H) (hw : tw_wt d g τ h) (x : Nat) (kx : τ x = 11) (n : Int32) : tw_Ct d mX5_houseAt 1 6 [.ref x, .int n] h (tw_qr (fun r h1 => h1 = h ∧ τ r = 3) (fun E h1 => (E = tw_IOE) ∧ h1 = h)) := by
  refine tw_of (by decide +kernel) (Nat.le_of_ble_eq_true rfl) ?_
  show tw_W d mX5_houseAt _ 0 [(0, .ref x), (1, .int n)] [] h 1 6
  have sp0 := tw_sp.rf hw
  refine tw_iload_n 1 dX5_houseAt_0 rfl rfl ?_
  refine tw_if_lt 22 dX5_houseAt_1 (by decide) (fun c1 => ?_) (fun c1 => ?_)
  · exact tw_throwSW (i := 8) (by decide +kernel) w_550 w_96 rfl at_IOE dX5_houseAt_22 dX5_houseAt_25 dX5_houseAt_26 dX5_houseAt_29 dX5_houseAt_32 ⟨by decide, Nat.le_of_ble_eq_true rfl⟩ (Nat.le_of_ble_eq_true rfl) (Nat.le_of_ble_eq_true rfl) (Or.inr ⟨_, rfl, (rfl), rfl⟩)
  · refine tw_iload_n 1 dX5_houseAt_4 rfl rfl ?_
    refine tw_aload_n 0 dX5_houseAt_5 rfl rfl ?_
    obtain ⟨e2, f3, td_4, ca_5, ha_6, da_7, c1_8, c2_9, c3_10, c4_11, rfl, k12, k13, k14, k15, k16, k17, k18, k19, k20, k21, k22, k23, k24, k25, k26, k27, k28⟩ := sp0.1 x 11 kx (by decide)
    refine tw_get (v := .ref ha_6) rfl in_9 4 dX5_houseAt_6 w_144 rfl (by decide) f3 rfl ?_
    obtain ⟨e29, f30, F31, rfl, k32, pn33, pb34, px35, pf36⟩ := sp0.1 ha_6 9 k13 (by decide)
    refine tw_alen (v := nI 6) 5 rfl dX5_houseAt_9 f30 rfl ?_
    refine tw_icmp_ge 22 dX5_houseAt_10 (by decide) (fun c37 => ?_) (fun c37 => ?_)
    · exact tw_throwSW (i := 8) (by decide +kernel) w_550 w_96 rfl at_IOE dX5_houseAt_22 dX5_houseAt_25 dX5_houseAt_26 dX5_houseAt_29 dX5_houseAt_32 ⟨by decide, Nat.le_of_ble_eq_true rfl⟩ (Nat.le_of_ble_eq_true rfl) (Nat.le_of_ble_eq_true rfl) (Or.inr ⟨_, rfl, (rfl), rfl⟩)
    · refine tw_aload_n 0 dX5_houseAt_13 rfl rfl ?_
      refine tw_get (v := .ref ha_6) rfl in_9 4 dX5_houseAt_14 w_144 rfl (by decide) f3 rfl ?_
      refine tw_iload_n 1 dX5_houseAt_17 rfl rfl ?_
      cases k38 : F31 (n).toNatClampNeg with
      | none =>
        refine tw_aald (v := .null) 5 rfl rfl dX5_houseAt_18 f30 (tw_ib2 c1 c37 (by decide)) (by rw [k38]; rfl) ?_
        refine tw_ifnonnullN dX5_houseAt_19 ?_
        exact tw_throwSW (i := 8) (by decide +kernel) w_550 w_96 rfl at_IOE dX5_houseAt_22 dX5_houseAt_25 dX5_houseAt_26 dX5_houseAt_29 dX5_houseAt_32 ⟨by decide, Nat.le_of_ble_eq_true rfl⟩ (Nat.le_of_ble_eq_true rfl) (Nat.le_of_ble_eq_true rfl) (Or.inr ⟨_, rfl, (rfl), rfl⟩)
      | some q39 =>
        have k40 := k32 _ _ k38
        refine tw_aald (v := .ref q39) 5 rfl rfl dX5_houseAt_18 f30 (tw_ib2 c1 c37 (by decide)) (by rw [k38]; rfl) ?_
        refine tw_ifnonnull 33 dX5_houseAt_19 (by decide) ?_
        refine tw_aload_n 0 dX5_houseAt_33 rfl rfl ?_
        refine tw_get (v := .ref ha_6) rfl in_9 4 dX5_houseAt_34 w_144 rfl (by decide) f3 rfl ?_
        refine tw_iload_n 1 dX5_houseAt_37 rfl rfl ?_
        refine tw_aald (v := .ref q39) 5 rfl rfl dX5_houseAt_38 f30 (tw_ib2 c1 c37 (by decide)) (by rw [k38]; rfl) ?_
        exact tw_aret dX5_houseAt_39 rfl (Or.inl ⟨_, rfl⟩) (Or.inl ⟨_, rfl, ⟨rfl, k40⟩⟩)

set_option maxHeartbeats 4000000 in
set_option maxRecDepth 100000 in
theorem c_X5_debtAt (d : tw_D) (g : tw_G) (τ : tw_K) (h : tw_H) (hw : tw_wt d g τ h) (x : Nat) (kx : τ x = 11) (n : Int32) : tw_Ct d mX5_debtAt 1 6 [.ref x, .int n] h (tw_qr (fun r h1 => h1 = h ∧ τ r = 4) (fun E h1 => (E = tw_IOE) ∧ h1 = h)) := by
  refine tw_of (by decide +kernel) (Nat.le_of_ble_eq_true rfl) ?_
  show tw_W d mX5_debtAt _ 0 [(0, .ref x), (1, .int n)] [] h 1 6
  have sp0 := tw_sp.rf hw
  refine tw_iload_n 1 dX5_debtAt_0 rfl rfl ?_
  refine tw_if_lt 22 dX5_debtAt_1 (by decide) (fun c1 => ?_) (fun c1 => ?_)
  · exact tw_throwSW (i := 14) (by decide +kernel) w_550 w_96 rfl at_IOE dX5_debtAt_22 dX5_debtAt_25 dX5_debtAt_26 dX5_debtAt_29 dX5_debtAt_32 ⟨by decide, Nat.le_of_ble_eq_true rfl⟩ (Nat.le_of_ble_eq_true rfl) (Nat.le_of_ble_eq_true rfl) (Or.inr ⟨_, rfl, (rfl), rfl⟩)
  · refine tw_iload_n 1 dX5_debtAt_4 rfl rfl ?_
    refine tw_aload_n 0 dX5_debtAt_5 rfl rfl ?_
    obtain ⟨e2, f3, td_4, ca_5, ha_6, da_7, c1_8, c2_9, c3_10, c4_11, rfl, k12, k13, k14, k15, k16, k17, k18, k19, k20, k21, k22, k23, k24, k25, k26, k27, k28⟩ := sp0.1 x 11 kx (by decide)
    refine tw_get (v := .ref da_7) rfl in_9 6 dX5_debtAt_6 w_146 rfl (by decide) f3 rfl ?_
    obtain ⟨e29, f30, F31, rfl, k32, pn33, pb34, px35, pf36⟩ := sp0.1 da_7 10 k14 (by decide)
    refine tw_alen (v := nI 10) 6 rfl dX5_debtAt_9 f30 rfl ?_
    refine tw_icmp_ge 22 dX5_debtAt_10 (by decide) (fun c37 => ?_) (fun c37 => ?_)
    · exact tw_throwSW (i := 14) (by decide +kernel) w_550 w_96 rfl at_IOE dX5_debtAt_22 dX5_debtAt_25 dX5_debtAt_26 dX5_debtAt_29 dX5_debtAt_32 ⟨by decide, Nat.le_of_ble_eq_true rfl⟩ (Nat.le_of_ble_eq_true rfl) (Nat.le_of_ble_eq_true rfl) (Or.inr ⟨_, rfl, (rfl), rfl⟩)
    · refine tw_aload_n 0 dX5_debtAt_13 rfl rfl ?_
      refine tw_get (v := .ref da_7) rfl in_9 6 dX5_debtAt_14 w_146 rfl (by decide) f3 rfl ?_
      refine tw_iload_n 1 dX5_debtAt_17 rfl rfl ?_
      cases k38 : F31 (n).toNatClampNeg with
      | none =>
        refine tw_aald (v := .null) 6 rfl rfl dX5_debtAt_18 f30 (tw_ib2 c1 c37 (by decide)) (by rw [k38]; rfl) ?_
        refine tw_ifnonnullN dX5_debtAt_19 ?_
        exact tw_throwSW (i := 14) (by decide +kernel) w_550 w_96 rfl at_IOE dX5_debtAt_22 dX5_debtAt_25 dX5_debtAt_26 dX5_debtAt_29 dX5_debtAt_32 ⟨by decide, Nat.le_of_ble_eq_true rfl⟩ (Nat.le_of_ble_eq_true rfl) (Nat.le_of_ble_eq_true rfl) (Or.inr ⟨_, rfl, (rfl), rfl⟩)
      | some q39 =>
        have k40 := k32 _ _ k38
        refine tw_aald (v := .ref q39) 6 rfl rfl dX5_debtAt_18 f30 (tw_ib2 c1 c37 (by decide)) (by rw [k38]; rfl) ?_
        refine tw_ifnonnull 33 dX5_debtAt_19 (by decide) ?_
        refine tw_aload_n 0 dX5_debtAt_33 rfl rfl ?_
        refine tw_get (v := .ref da_7) rfl in_9 6 dX5_debtAt_34 w_146 rfl (by decide) f3 rfl ?_
        refine tw_iload_n 1 dX5_debtAt_37 rfl rfl ?_
        refine tw_aald (v := .ref q39) 6 rfl rfl dX5_debtAt_38 f30 (tw_ib2 c1 c37 (by decide)) (by rw [k38]; rfl) ?_
        exact tw_aret dX5_debtAt_39 rfl (Or.inl ⟨_, rfl⟩) (Or.inl ⟨_, rfl, ⟨rfl, k40⟩⟩)

set_option maxHeartbeats 4000000 in
set_option maxRecDepth 100000 in
theorem c_X4_fewestFor (d : tw_D) (g : tw_G) (τ : tw_K) (h : tw_H) (hw : tw_wt d g τ h) (x : Nat) (kx : τ x = 5) (am : Int32) : tw_Ct d mX4_fewestFor 0 0 [.ref x, .int am] h (tw_qi (fun r h1 => h1 = h) tw_nx) := by
  refine tw_of (by decide +kernel) (Nat.le_of_ble_eq_true rfl) ?_
  show tw_W d mX4_fewestFor _ 0 [(0, .ref x), (1, .int am)] [] h 0 0
  have sp0 := tw_sp.rf hw
  refine tw_iconst (v := -1) dX4_fewestFor_0 (by decide) ?_
  refine tw_istore_n [(2, .int (-1)), (0, .ref x), (1, .int am)] dX4_fewestFor_1 rfl (by decide) rfl ?_
  refine tw_bipush (v := 46) dX4_fewestFor_2 (by decide) ?_
  refine tw_istore_n [(3, .int 46), (2, .int (-1)), (0, .ref x), (1, .int am)] dX4_fewestFor_4 rfl (by decide) rfl ?_
  refine tw_aload_n 2 dX4_fewestFor_5 rfl rfl ?_
  refine tw_iconst (v := 0) dX4_fewestFor_6 (by decide) ?_
  obtain ⟨e1, f2, m_3, rfl, k4, k5⟩ := sp0.1 x 5 kx (by decide)
  refine tw_bi (tw_callV (M := mX4_fewestFor) (pc := 7) okX4_manyOf dX4_fewestFor_7 w_277 rfl f2 [.int 0] [] rfl rfl ⟨by decide, by decide⟩ (Nat.le_of_ble_eq_true rfl) (c_X4_manyOf d g τ h sp0.1 x kx 0) 0 0 (Nat.le_of_ble_eq_true rfl) (Nat.le_of_ble_eq_true rfl)) (fun r8 h7 q6 => ?_) (fun E h1 q => q.elim)
  rw [q6]
  refine tw_iload_n 3 dX4_fewestFor_10 rfl rfl ?_
  refine tw_bipush (v := 20) dX4_fewestFor_11 (by decide) ?_
  refine tw_idiv dX4_fewestFor_13 (by decide) ?_
  refine tw_nmi (fun v9 ev9 => ?_)
  refine tw_mmin dX4_fewestFor_14 w_289 w_290 w_93 w_291 ⟨by decide, Nat.le_of_ble_eq_true rfl⟩ ?_
  refine tw_nmi (fun v10 ev10 => ?_)
  refine tw_istore [(4, .int v10), (3, .int 46), (2, .int (-1)), (0, .ref x), (1, .int am)] dX4_fewestFor_17 (by decide) rfl ?_
  have L16 : ∀ (r14 : Nat) (x11 : Int32) (x12 : Int32) (x13 : Int32), (x13.toInt + 1).toNat < r14 → tw_W d mX4_fewestFor (tw_qi (fun r h1 => h1 = h) tw_nx) 19 [(0, .ref x), (1, .int am), (2, .int x11), (3, .int x12), (4, .int x13)] [] h 0 0 := by
    intro r14
    induction r14 with
    | zero => intro x11 x12 x13 hk20; exact absurd hk20 (Nat.not_lt_zero _)
    | succ r14 ih15 =>
      intro x11 x12 x13 hk20
      refine tw_iload 4 dX4_fewestFor_19 rfl ?_
      refine tw_if_lt 204 dX4_fewestFor_21 (by decide) (fun c22 => ?_) (fun c22 => ?_)
      · refine tw_iload_n 2 dX4_fewestFor_204 rfl rfl ?_
        exact tw_iret dX4_fewestFor_205 rfl (Or.inl ⟨_, rfl, rfl⟩)
      · refine tw_iload_n 1 dX4_fewestFor_24 rfl rfl ?_
        refine tw_bipush (v := 20) dX4_fewestFor_25 (by decide) ?_
        refine tw_iload 4 dX4_fewestFor_27 rfl ?_
        refine tw_imul dX4_fewestFor_29 ?_
        refine tw_nmi (fun v23 ev23 => ?_)
        refine tw_isub dX4_fewestFor_30 ?_
        refine tw_nmi (fun v24 ev24 => ?_)
        refine tw_istore [(5, .int v24), (0, .ref x), (1, .int am), (2, .int x11), (3, .int x12), (4, .int x13)] dX4_fewestFor_31 (by decide) rfl ?_
        refine tw_aload_n 1 dX4_fewestFor_33 rfl rfl ?_
        refine tw_iconst (v := 1) dX4_fewestFor_34 (by decide) ?_
        refine tw_bi (tw_callV (M := mX4_fewestFor) (pc := 35) okX4_manyOf dX4_fewestFor_35 w_277 rfl f2 [.int 1] [] rfl rfl ⟨by decide, by decide⟩ (Nat.le_of_ble_eq_true rfl) (c_X4_manyOf d g τ h sp0.1 x kx 1) 0 0 (Nat.le_of_ble_eq_true rfl) (Nat.le_of_ble_eq_true rfl)) (fun r27 h26 q25 => ?_) (fun E h1 q => q.elim)
        rw [q25]
        refine tw_iload 0 dX4_fewestFor_38 rfl ?_
        refine tw_bipush (v := 10) dX4_fewestFor_40 (by decide) ?_
        refine tw_idiv dX4_fewestFor_42 (by decide) ?_
        refine tw_nmi (fun v28 ev28 => ?_)
        refine tw_mmin dX4_fewestFor_43 w_289 w_290 w_93 w_291 ⟨by decide, Nat.le_of_ble_eq_true rfl⟩ ?_
        refine tw_nmi (fun v29 ev29 => ?_)
        refine tw_istore [(6, .int v29), (5, .int v24), (0, .ref x), (1, .int am), (2, .int x11), (3, .int x12), (4, .int x13)] dX4_fewestFor_46 (by decide) rfl ?_
        have L35 : ∀ (r33 : Nat) (x30 : Int32) (x31 : Int32) (x32 : Int32), (x32.toInt + 1).toNat < r33 → tw_W d mX4_fewestFor (tw_qi (fun r h1 => h1 = h) tw_nx) 48 [(0, .ref x), (1, .int am), (2, .int x30), (3, .int x31), (4, .int x13), (5, .int v24), (6, .int x32)] [] h 0 0 := by
          intro r33
          induction r33 with
          | zero => intro x30 x31 x32 hk39; exact absurd hk39 (Nat.not_lt_zero _)
          | succ r33 ih34 =>
            intro x30 x31 x32 hk39
            refine tw_iload 6 dX4_fewestFor_48 rfl ?_
            refine tw_if_lt 198 dX4_fewestFor_50 (by decide) (fun c41 => ?_) (fun c41 => ?_)
            · obtain ⟨v42, ev42⟩ : ∃ y : Int32, y = x13 + (-1) := ⟨_, rfl⟩
              refine tw_iinc [(4, .int v42), (0, .ref x), (1, .int am), (2, .int x30), (3, .int x31), (5, .int v24), (6, .int x32)] 4 dX4_fewestFor_198 rfl (by rw [ev42]; rfl) (by decide) rfl ?_
              refine tw_goto 19 dX4_fewestFor_201 (by decide) ?_
              refine tw_lv [1, 2, 3, 4, 0] rfl ?_
              exact ih15 x30 x31 v42 (tw_mdn ev42 c22 hk20)
            · refine tw_iload 5 dX4_fewestFor_53 rfl ?_
              refine tw_bipush (v := 10) dX4_fewestFor_55 (by decide) ?_
              refine tw_iload 6 dX4_fewestFor_57 rfl ?_
              refine tw_imul dX4_fewestFor_59 ?_
              refine tw_nmi (fun v43 ev43 => ?_)
              refine tw_isub dX4_fewestFor_60 ?_
              refine tw_nmi (fun v44 ev44 => ?_)
              refine tw_istore [(7, .int v44), (0, .ref x), (1, .int am), (2, .int x30), (3, .int x31), (4, .int x13), (5, .int v24), (6, .int x32)] dX4_fewestFor_61 (by decide) rfl ?_
              refine tw_aload_n 1 dX4_fewestFor_63 rfl rfl ?_
              refine tw_iconst (v := 2) dX4_fewestFor_64 (by decide) ?_
              refine tw_bi (tw_callV (M := mX4_fewestFor) (pc := 65) okX4_manyOf dX4_fewestFor_65 w_277 rfl f2 [.int 2] [] rfl rfl ⟨by decide, by decide⟩ (Nat.le_of_ble_eq_true rfl) (c_X4_manyOf d g τ h sp0.1 x kx 2) 0 0 (Nat.le_of_ble_eq_true rfl) (Nat.le_of_ble_eq_true rfl)) (fun r47 h46 q45 => ?_) (fun E h1 q => q.elim)
              rw [q45]
              refine tw_iload 0 dX4_fewestFor_68 rfl ?_
              refine tw_iconst (v := 5) dX4_fewestFor_70 (by decide) ?_
              refine tw_idiv dX4_fewestFor_71 (by decide) ?_
              refine tw_nmi (fun v48 ev48 => ?_)
              refine tw_mmin dX4_fewestFor_72 w_289 w_290 w_93 w_291 ⟨by decide, Nat.le_of_ble_eq_true rfl⟩ ?_
              refine tw_nmi (fun v49 ev49 => ?_)
              refine tw_istore [(8, .int v49), (7, .int v44), (0, .ref x), (1, .int am), (2, .int x30), (3, .int x31), (4, .int x13), (5, .int v24), (6, .int x32)] dX4_fewestFor_75 (by decide) rfl ?_
              have L55 : ∀ (r53 : Nat) (x50 : Int32) (x51 : Int32) (x52 : Int32), (x52.toInt + 1).toNat < r53 → tw_W d mX4_fewestFor (tw_qi (fun r h1 => h1 = h) tw_nx) 77 [(0, .ref x), (1, .int am), (2, .int x50), (3, .int x51), (4, .int x13), (5, .int v24), (6, .int x32), (7, .int v44), (8, .int x52)] [] h 0 0 := by
                intro r53
                induction r53 with
                | zero => intro x50 x51 x52 hk59; exact absurd hk59 (Nat.not_lt_zero _)
                | succ r53 ih54 =>
                  intro x50 x51 x52 hk59
                  refine tw_iload 8 dX4_fewestFor_77 rfl ?_
                  refine tw_if_lt 192 dX4_fewestFor_79 (by decide) (fun c61 => ?_) (fun c61 => ?_)
                  · obtain ⟨v62, ev62⟩ : ∃ y : Int32, y = x32 + (-1) := ⟨_, rfl⟩
                    refine tw_iinc [(6, .int v62), (0, .ref x), (1, .int am), (2, .int x50), (3, .int x51), (4, .int x13), (5, .int v24), (7, .int v44), (8, .int x52)] 6 dX4_fewestFor_192 rfl (by rw [ev62]; rfl) (by decide) rfl ?_
                    refine tw_goto 48 dX4_fewestFor_195 (by decide) ?_
                    refine tw_lv [1, 2, 3, 4, 5, 6, 0] rfl ?_
                    exact ih34 x50 x51 v62 (tw_mdn ev62 c41 hk39)
                  · refine tw_iload 7 dX4_fewestFor_82 rfl ?_
                    refine tw_iconst (v := 5) dX4_fewestFor_84 (by decide) ?_
                    refine tw_iload 8 dX4_fewestFor_85 rfl ?_
                    refine tw_imul dX4_fewestFor_87 ?_
                    refine tw_nmi (fun v63 ev63 => ?_)
                    refine tw_isub dX4_fewestFor_88 ?_
                    refine tw_nmi (fun v64 ev64 => ?_)
                    refine tw_istore [(9, .int v64), (0, .ref x), (1, .int am), (2, .int x50), (3, .int x51), (4, .int x13), (5, .int v24), (6, .int x32), (7, .int v44), (8, .int x52)] dX4_fewestFor_89 (by decide) rfl ?_
                    refine tw_aload_n 1 dX4_fewestFor_91 rfl rfl ?_
                    refine tw_iconst (v := 3) dX4_fewestFor_92 (by decide) ?_
                    refine tw_bi (tw_callV (M := mX4_fewestFor) (pc := 93) okX4_manyOf dX4_fewestFor_93 w_277 rfl f2 [.int 3] [] rfl rfl ⟨by decide, by decide⟩ (Nat.le_of_ble_eq_true rfl) (c_X4_manyOf d g τ h sp0.1 x kx 3) 0 0 (Nat.le_of_ble_eq_true rfl) (Nat.le_of_ble_eq_true rfl)) (fun r67 h66 q65 => ?_) (fun E h1 q => q.elim)
                    rw [q65]
                    refine tw_iload 0 dX4_fewestFor_96 rfl ?_
                    refine tw_iconst (v := 2) dX4_fewestFor_98 (by decide) ?_
                    refine tw_idiv dX4_fewestFor_99 (by decide) ?_
                    refine tw_nmi (fun v68 ev68 => ?_)
                    refine tw_mmin dX4_fewestFor_100 w_289 w_290 w_93 w_291 ⟨by decide, Nat.le_of_ble_eq_true rfl⟩ ?_
                    refine tw_nmi (fun v69 ev69 => ?_)
                    refine tw_istore [(10, .int v69), (9, .int v64), (0, .ref x), (1, .int am), (2, .int x50), (3, .int x51), (4, .int x13), (5, .int v24), (6, .int x32), (7, .int v44), (8, .int x52)] dX4_fewestFor_103 (by decide) rfl ?_
                    refine tw_iload 1 dX4_fewestFor_105 rfl ?_
                    refine tw_iconst (v := 2) dX4_fewestFor_107 (by decide) ?_
                    refine tw_iload 0 dX4_fewestFor_108 rfl ?_
                    refine tw_imul dX4_fewestFor_110 ?_
                    refine tw_nmi (fun v70 ev70 => ?_)
                    refine tw_isub dX4_fewestFor_111 ?_
                    refine tw_nmi (fun v71 ev71 => ?_)
                    refine tw_istore [(11, .int v71), (10, .int v69), (9, .int v64), (0, .ref x), (1, .int am), (2, .int x50), (3, .int x51), (4, .int x13), (5, .int v24), (6, .int x32), (7, .int v44), (8, .int x52)] dX4_fewestFor_112 (by decide) rfl ?_
                    refine tw_iload 0 dX4_fewestFor_114 rfl ?_
                    refine tw_aload_n 3 dX4_fewestFor_116 rfl rfl ?_
                    refine tw_iconst (v := 4) dX4_fewestFor_117 (by decide) ?_
                    refine tw_bi (tw_callV (M := mX4_fewestFor) (pc := 118) okX4_manyOf dX4_fewestFor_118 w_277 rfl f2 [.int 4] [.int v71] rfl rfl ⟨by decide, by decide⟩ (Nat.le_of_ble_eq_true rfl) (c_X4_manyOf d g τ h sp0.1 x kx 4) 0 0 (Nat.le_of_ble_eq_true rfl) (Nat.le_of_ble_eq_true rfl)) (fun r74 h73 q72 => ?_) (fun E h1 q => q.elim)
                    rw [q72]
                    refine tw_icmp_gt 186 dX4_fewestFor_121 (by decide) (fun c75 => ?_) (fun c75 => ?_)
                    · obtain ⟨v76, ev76⟩ : ∃ y : Int32, y = x52 + (-1) := ⟨_, rfl⟩
                      refine tw_iinc [(8, .int v76), (11, .int v71), (10, .int v69), (9, .int v64), (0, .ref x), (1, .int am), (2, .int x50), (3, .int x51), (4, .int x13), (5, .int v24), (6, .int x32), (7, .int v44)] 11 dX4_fewestFor_186 rfl (by rw [ev76]; rfl) (by decide) rfl ?_
                      refine tw_goto 77 dX4_fewestFor_189 (by decide) ?_
                      refine tw_lv [4, 5, 6, 7, 8, 9, 10, 11, 0] rfl ?_
                      exact ih54 x50 x51 v76 (tw_mdn ev76 c61 hk59)
                    · refine tw_iload 7 dX4_fewestFor_124 rfl ?_
                      refine tw_iload 9 dX4_fewestFor_126 rfl ?_
                      refine tw_iadd dX4_fewestFor_128 ?_
                      refine tw_nmi (fun v77 ev77 => ?_)
                      refine tw_iload 11 dX4_fewestFor_129 rfl ?_
                      refine tw_iadd dX4_fewestFor_131 ?_
                      refine tw_nmi (fun v78 ev78 => ?_)
                      refine tw_iload 1 dX4_fewestFor_132 rfl ?_
                      refine tw_iadd dX4_fewestFor_134 ?_
                      refine tw_nmi (fun v79 ev79 => ?_)
                      refine tw_iload 0 dX4_fewestFor_135 rfl ?_
                      refine tw_iadd dX4_fewestFor_137 ?_
                      refine tw_nmi (fun v80 ev80 => ?_)
                      refine tw_iload_n 6 dX4_fewestFor_138 rfl rfl ?_
                      refine tw_icmp_ge 186 dX4_fewestFor_139 (by decide) (fun c81 => ?_) (fun c81 => ?_)
                      · obtain ⟨v82, ev82⟩ : ∃ y : Int32, y = x52 + (-1) := ⟨_, rfl⟩
                        refine tw_iinc [(8, .int v82), (11, .int v71), (10, .int v69), (9, .int v64), (0, .ref x), (1, .int am), (2, .int x50), (3, .int x51), (4, .int x13), (5, .int v24), (6, .int x32), (7, .int v44)] 11 dX4_fewestFor_186 rfl (by rw [ev82]; rfl) (by decide) rfl ?_
                        refine tw_goto 77 dX4_fewestFor_189 (by decide) ?_
                        refine tw_lv [4, 5, 6, 7, 8, 9, 10, 11, 0] rfl ?_
                        exact ih54 x50 x51 v82 (tw_mdn ev82 c61 hk59)
                      · refine tw_iload 7 dX4_fewestFor_142 rfl ?_
                        refine tw_iload 9 dX4_fewestFor_144 rfl ?_
                        refine tw_iadd dX4_fewestFor_146 ?_
                        refine tw_nmi (fun v83 ev83 => ?_)
                        refine tw_iload 11 dX4_fewestFor_147 rfl ?_
                        refine tw_iadd dX4_fewestFor_149 ?_
                        refine tw_nmi (fun v84 ev84 => ?_)
                        refine tw_iload 1 dX4_fewestFor_150 rfl ?_
                        refine tw_iadd dX4_fewestFor_152 ?_
                        refine tw_nmi (fun v85 ev85 => ?_)
                        refine tw_iload 0 dX4_fewestFor_153 rfl ?_
                        refine tw_iadd dX4_fewestFor_155 ?_
                        refine tw_nmi (fun v86 ev86 => ?_)
                        refine tw_istore_n [(3, .int v86), (11, .int v71), (10, .int v69), (9, .int v64), (0, .ref x), (1, .int am), (2, .int x50), (4, .int x13), (5, .int v24), (6, .int x32), (7, .int v44), (8, .int x52)] dX4_fewestFor_156 rfl (by decide) rfl ?_
                        refine tw_iload 7 dX4_fewestFor_157 rfl ?_
                        refine tw_sipush (v := 10000) dX4_fewestFor_159 (by decide) ?_
                        refine tw_imul dX4_fewestFor_162 ?_
                        refine tw_nmi (fun v87 ev87 => ?_)
                        refine tw_iload 9 dX4_fewestFor_163 rfl ?_
                        refine tw_sipush (v := 1000) dX4_fewestFor_165 (by decide) ?_
                        refine tw_imul dX4_fewestFor_168 ?_
                        refine tw_nmi (fun v88 ev88 => ?_)
                        refine tw_iadd dX4_fewestFor_169 ?_
                        refine tw_nmi (fun v89 ev89 => ?_)
                        refine tw_iload 11 dX4_fewestFor_170 rfl ?_
                        refine tw_bipush (v := 100) dX4_fewestFor_172 (by decide) ?_
                        refine tw_imul dX4_fewestFor_174 ?_
                        refine tw_nmi (fun v90 ev90 => ?_)
                        refine tw_iadd dX4_fewestFor_175 ?_
                        refine tw_nmi (fun v91 ev91 => ?_)
                        refine tw_iload 2 dX4_fewestFor_176 rfl ?_
                        refine tw_bipush (v := 10) dX4_fewestFor_178 (by decide) ?_
                        refine tw_imul dX4_fewestFor_180 ?_
                        refine tw_nmi (fun v92 ev92 => ?_)
                        refine tw_iadd dX4_fewestFor_181 ?_
                        refine tw_nmi (fun v93 ev93 => ?_)
                        refine tw_iload 1 dX4_fewestFor_182 rfl ?_
                        refine tw_iadd dX4_fewestFor_184 ?_
                        refine tw_nmi (fun v94 ev94 => ?_)
                        refine tw_istore_n [(2, .int v94), (3, .int v86), (11, .int v71), (10, .int v69), (9, .int v64), (0, .ref x), (1, .int am), (4, .int x13), (5, .int v24), (6, .int x32), (7, .int v44), (8, .int x52)] dX4_fewestFor_185 rfl (by decide) rfl ?_
                        obtain ⟨v95, ev95⟩ : ∃ y : Int32, y = x52 + (-1) := ⟨_, rfl⟩
                        refine tw_iinc [(8, .int v95), (2, .int v94), (3, .int v86), (11, .int v71), (10, .int v69), (9, .int v64), (0, .ref x), (1, .int am), (4, .int x13), (5, .int v24), (6, .int x32), (7, .int v44)] 11 dX4_fewestFor_186 rfl (by rw [ev95]; rfl) (by decide) rfl ?_
                        refine tw_goto 77 dX4_fewestFor_189 (by decide) ?_
                        refine tw_lv [6, 7, 1, 2, 8, 9, 10, 11, 0] rfl ?_
                        exact ih54 v94 v86 v95 (tw_mdn ev95 c61 hk59)
              refine tw_lv [2, 3, 4, 5, 6, 7, 8, 1, 0] rfl ?_
              exact L55 _ x30 x31 v49 (Nat.lt_succ_self _)
        refine tw_lv [2, 3, 4, 5, 6, 1, 0] rfl ?_
        exact L35 _ x11 x12 v29 (Nat.lt_succ_self _)
  refine tw_lv [3, 4, 2, 1, 0] rfl ?_
  exact L16 _ (-1) 46 v10 (Nat.lt_succ_self _)

set_option maxHeartbeats 4000000 in
set_option maxRecDepth 100000 in
theorem c_X5_housesIn (d : tw_D) (g : tw_G) (τ : tw_K) (h : tw_H) (hw : tw_wt d g τ h) (x : Nat) (kx : τ x = 11) (c : Nat) (kc : τ c = 2) : tw_Ct d mX5_housesIn 0 0 [.ref x, .ref c] h (tw_qi (fun r h1 => h1 = h) tw_nx) := by
  refine tw_of (by decide +kernel) (Nat.le_of_ble_eq_true rfl) ?_
  show tw_W d mX5_housesIn _ 0 [(0, .ref x), (1, .ref c)] [] h 0 0
  have sp0 := tw_sp.rf hw
  refine tw_iconst (v := 0) dX5_housesIn_0 (by decide) ?_
  refine tw_istore_n [(2, .int 0), (0, .ref x), (1, .ref c)] dX5_housesIn_1 rfl (by decide) rfl ?_
  refine tw_aload_n 1 dX5_housesIn_2 rfl rfl ?_
  obtain ⟨e1, f2, td_3, ca_4, ha_5, da_6, c1_7, c2_8, c3_9, c4_10, rfl, k11, k12, k13, k14, k15, k16, k17, k18, k19, k20, k21, k22, k23, k24, k25, k26, k27⟩ := sp0.1 x 11 kx (by decide)
  refine tw_get (v := .ref ha_5) rfl in_9 4 dX5_housesIn_3 w_144 rfl (by decide) f2 rfl ?_
  refine tw_astore_n [(3, .ref ha_5), (2, .int 0), (0, .ref x), (1, .ref c)] dX5_housesIn_6 rfl (by decide) rfl ?_
  refine tw_aload_n 0 dX5_housesIn_7 rfl rfl ?_
  obtain ⟨e28, f29, F30, rfl, k31, pn32, pb33, px34, pf35⟩ := sp0.1 ha_5 9 k12 (by decide)
  refine tw_alen (v := nI 6) 5 rfl dX5_housesIn_8 f29 rfl ?_
  refine tw_istore [(4, .int (nI 6)), (3, .ref ha_5), (2, .int 0), (0, .ref x), (1, .ref c)] dX5_housesIn_9 (by decide) rfl ?_
  refine tw_iconst (v := 0) dX5_housesIn_11 (by decide) ?_
  refine tw_istore [(5, .int 0), (4, .int (nI 6)), (3, .ref ha_5), (2, .int 0), (0, .ref x), (1, .ref c)] dX5_housesIn_12 (by decide) rfl ?_
  have L40 : ∀ (r38 k37 : Nat) (x36 : Int32), 6 + 1 ≤ k37 + r38 → k37 ≤ 6 → tw_W d mX5_housesIn (tw_qi (fun r h1 => h1 = h) tw_nx) 14 [(0, .ref x), (1, .ref c), (2, .int x36), (3, .ref ha_5), (4, .int (nI 6)), (5, .int (nI k37))] [] h 0 0 := by
    intro r38
    induction r38 with
    | zero => intro k37 x36 hk44 hk45; exact absurd hk44 (by omega)
    | succ r38 ih39 =>
      intro k37 x36 hk44 hk45
      refine tw_iload 5 dX5_housesIn_14 rfl ?_
      refine tw_iload 4 dX5_housesIn_16 rfl ?_
      refine tw_icmp_ge 50 dX5_housesIn_18 (by decide) (fun c46 => ?_) (fun c46 => ?_)
      · refine tw_iload_n 2 dX5_housesIn_50 rfl rfl ?_
        exact tw_iret dX5_housesIn_51 rfl (Or.inl ⟨_, rfl, rfl⟩)
      · have kl47 := tw_klt (N := 6) c46 hk45 (by decide)
        refine tw_aload_n 3 dX5_housesIn_21 rfl rfl ?_
        refine tw_iload 5 dX5_housesIn_22 rfl ?_
        cases k48 : F30 ((nI k37)).toNatClampNeg with
        | none =>
          refine tw_aald (v := .null) 5 rfl rfl dX5_housesIn_24 f29 (vp_in_nI (by omega) (by decide)) (by rw [k48]; rfl) ?_
          refine tw_astoreN [(6, .null), (0, .ref x), (1, .ref c), (2, .int x36), (3, .ref ha_5), (4, .int (nI 6)), (5, .int (nI k37))] dX5_housesIn_25 (by decide) rfl ?_
          refine tw_aloadN 0 dX5_housesIn_27 rfl ?_
          refine tw_ifnullN 44 dX5_housesIn_29 (by decide) ?_
          obtain ⟨v50, ev50⟩ : ∃ y : Int32, y = (nI k37) + 1 := ⟨_, rfl⟩
          refine tw_iinc [(5, .int v50), (6, .null), (0, .ref x), (1, .ref c), (2, .int x36), (3, .ref ha_5), (4, .int (nI 6))] 6 dX5_housesIn_44 rfl (by rw [ev50]; rfl) (by decide) rfl ?_
          refine tw_goto 14 dX5_housesIn_47 (by decide) ?_
          have qv50 := tw_nI3 ev50
          rw [qv50]
          refine tw_lv [2, 3, 4, 5, 6, 0] rfl ?_
          exact ih39 (k37 + 1) x36 (by omega) (by omega)
        | some q49 =>
          have k51 := k31 _ _ k48
          refine tw_aald (v := .ref q49) 5 rfl rfl dX5_housesIn_24 f29 (vp_in_nI (by omega) (by decide)) (by rw [k48]; rfl) ?_
          refine tw_astore [(6, .ref q49), (0, .ref x), (1, .ref c), (2, .int x36), (3, .ref ha_5), (4, .int (nI 6)), (5, .int (nI k37))] dX5_housesIn_25 (by decide) rfl ?_
          refine tw_aload 0 dX5_housesIn_27 rfl ?_
          refine tw_ifnull dX5_housesIn_29 ?_
          refine tw_aload 0 dX5_housesIn_32 rfl ?_
          obtain ⟨e52, f53, n_54, ar_55, p_56, pl_57, go_58, rfl, k59, k60, k61, k62⟩ := sp0.1 q49 3 k51 (by decide)
          refine tw_getN (v := va_rf pl_57) rfl in_6 2 dX5_housesIn_34 w_641 rfl (by decide) f53 rfl ?_
          refine tw_aload_n 2 dX5_housesIn_37 rfl rfl ?_
          refine tw_acmp_ne (rx := (pl_57)) (ry := (some c)) 44 dX5_housesIn_38 (by decide) (fun c63 => ?_) (fun c63 => ?_)
          · obtain ⟨v64, ev64⟩ : ∃ y : Int32, y = (nI k37) + 1 := ⟨_, rfl⟩
            refine tw_iinc [(5, .int v64), (6, .ref q49), (0, .ref x), (1, .ref c), (2, .int x36), (3, .ref ha_5), (4, .int (nI 6))] 6 dX5_housesIn_44 rfl (by rw [ev64]; rfl) (by decide) rfl ?_
            refine tw_goto 14 dX5_housesIn_47 (by decide) ?_
            have qv64 := tw_nI3 ev64
            rw [qv64]
            refine tw_lv [2, 3, 4, 5, 6, 0] rfl ?_
            exact ih39 (k37 + 1) x36 (by omega) (by omega)
          · obtain ⟨v65, ev65⟩ : ∃ y : Int32, y = x36 + 1 := ⟨_, rfl⟩
            refine tw_iinc [(2, .int v65), (6, .ref q49), (0, .ref x), (1, .ref c), (3, .ref ha_5), (4, .int (nI 6)), (5, .int (nI k37))] 3 dX5_housesIn_41 rfl (by rw [ev65]; rfl) (by decide) rfl ?_
            obtain ⟨v66, ev66⟩ : ∃ y : Int32, y = (nI k37) + 1 := ⟨_, rfl⟩
            refine tw_iinc [(5, .int v66), (2, .int v65), (6, .ref q49), (0, .ref x), (1, .ref c), (3, .ref ha_5), (4, .int (nI 6))] 6 dX5_housesIn_44 rfl (by rw [ev66]; rfl) (by decide) rfl ?_
            refine tw_goto 14 dX5_housesIn_47 (by decide) ?_
            have qv66 := tw_nI3 ev66
            rw [qv66]
            refine tw_lv [3, 4, 1, 5, 6, 0] rfl ?_
            exact ih39 (k37 + 1) v65 (by omega) (by omega)
  refine tw_lv [4, 5, 3, 2, 1, 0] rfl ?_
  exact L40 (6 + 1) 0 0 (by omega) (by omega)

set_option maxHeartbeats 4000000 in
set_option maxRecDepth 100000 in
theorem c_X5_countriesWithRate (d : tw_D) (g : tw_G) (τ : tw_K) (h : tw_H) (hw : tw_wt d g τ h) (x : Nat) (kx : τ x = 11) (rt : Int32) : tw_Ct d mX5_countriesWithRate 0 0 [.ref x, .int rt] h (tw_qi (fun r h1 => h1 = h) tw_nx) := by
  refine tw_of (by decide +kernel) (Nat.le_of_ble_eq_true rfl) ?_
  show tw_W d mX5_countriesWithRate _ 0 [(0, .ref x), (1, .int rt)] [] h 0 0
  have sp0 := tw_sp.rf hw
  refine tw_iconst (v := 0) dX5_countriesWithRate_0 (by decide) ?_
  refine tw_istore_n [(2, .int 0), (0, .ref x), (1, .int rt)] dX5_countriesWithRate_1 rfl (by decide) rfl ?_
  refine tw_aload_n 1 dX5_countriesWithRate_2 rfl rfl ?_
  obtain ⟨e1, f2, td_3, ca_4, ha_5, da_6, c1_7, c2_8, c3_9, c4_10, rfl, k11, k12, k13, k14, k15, k16, k17, k18, k19, k20, k21, k22, k23, k24, k25, k26, k27⟩ := sp0.1 x 11 kx (by decide)
  refine tw_get (v := .ref ca_4) rfl in_9 2 dX5_countriesWithRate_3 w_142 rfl (by decide) f2 rfl ?_
  refine tw_astore_n [(3, .ref ca_4), (2, .int 0), (0, .ref x), (1, .int rt)] dX5_countriesWithRate_6 rfl (by decide) rfl ?_
  refine tw_aload_n 0 dX5_countriesWithRate_7 rfl rfl ?_
  obtain ⟨e28, f29, F30, rfl, k31, pn32, pb33, px34, pf35⟩ := sp0.1 ca_4 8 k11 (by decide)
  refine tw_alen (v := nI 4) 4 rfl dX5_countriesWithRate_8 f29 rfl ?_
  refine tw_istore [(4, .int (nI 4)), (3, .ref ca_4), (2, .int 0), (0, .ref x), (1, .int rt)] dX5_countriesWithRate_9 (by decide) rfl ?_
  refine tw_iconst (v := 0) dX5_countriesWithRate_11 (by decide) ?_
  refine tw_istore [(5, .int 0), (4, .int (nI 4)), (3, .ref ca_4), (2, .int 0), (0, .ref x), (1, .int rt)] dX5_countriesWithRate_12 (by decide) rfl ?_
  have L40 : ∀ (r38 k37 : Nat) (x36 : Int32), 4 + 1 ≤ k37 + r38 → k37 ≤ 4 → tw_W d mX5_countriesWithRate (tw_qi (fun r h1 => h1 = h) tw_nx) 14 [(0, .ref x), (1, .int rt), (2, .int x36), (3, .ref ca_4), (4, .int (nI 4)), (5, .int (nI k37))] [] h 0 0 := by
    intro r38
    induction r38 with
    | zero => intro k37 x36 hk44 hk45; exact absurd hk44 (by omega)
    | succ r38 ih39 =>
      intro k37 x36 hk44 hk45
      refine tw_iload 5 dX5_countriesWithRate_14 rfl ?_
      refine tw_iload 4 dX5_countriesWithRate_16 rfl ?_
      refine tw_icmp_ge 50 dX5_countriesWithRate_18 (by decide) (fun c46 => ?_) (fun c46 => ?_)
      · refine tw_iload_n 2 dX5_countriesWithRate_50 rfl rfl ?_
        exact tw_iret dX5_countriesWithRate_51 rfl (Or.inl ⟨_, rfl, rfl⟩)
      · have kl47 := tw_klt (N := 4) c46 hk45 (by decide)
        refine tw_aload_n 3 dX5_countriesWithRate_21 rfl rfl ?_
        refine tw_iload 5 dX5_countriesWithRate_22 rfl ?_
        cases k48 : F30 ((nI k37)).toNatClampNeg with
        | none =>
          refine tw_aald (v := .null) 4 rfl rfl dX5_countriesWithRate_24 f29 (vp_in_nI (by omega) (by decide)) (by rw [k48]; rfl) ?_
          refine tw_astoreN [(6, .null), (0, .ref x), (1, .int rt), (2, .int x36), (3, .ref ca_4), (4, .int (nI 4)), (5, .int (nI k37))] dX5_countriesWithRate_25 (by decide) rfl ?_
          refine tw_aloadN 0 dX5_countriesWithRate_27 rfl ?_
          refine tw_ifnullN 44 dX5_countriesWithRate_29 (by decide) ?_
          obtain ⟨v50, ev50⟩ : ∃ y : Int32, y = (nI k37) + 1 := ⟨_, rfl⟩
          refine tw_iinc [(5, .int v50), (6, .null), (0, .ref x), (1, .int rt), (2, .int x36), (3, .ref ca_4), (4, .int (nI 4))] 6 dX5_countriesWithRate_44 rfl (by rw [ev50]; rfl) (by decide) rfl ?_
          refine tw_goto 14 dX5_countriesWithRate_47 (by decide) ?_
          have qv50 := tw_nI3 ev50
          rw [qv50]
          refine tw_lv [2, 3, 4, 5, 6, 0] rfl ?_
          exact ih39 (k37 + 1) x36 (by omega) (by omega)
        | some q49 =>
          have k51 := k31 _ _ k48
          refine tw_aald (v := .ref q49) 4 rfl rfl dX5_countriesWithRate_24 f29 (vp_in_nI (by omega) (by decide)) (by rw [k48]; rfl) ?_
          refine tw_astore [(6, .ref q49), (0, .ref x), (1, .int rt), (2, .int x36), (3, .ref ca_4), (4, .int (nI 4)), (5, .int (nI k37))] dX5_countriesWithRate_25 (by decide) rfl ?_
          refine tw_aload 0 dX5_countriesWithRate_27 rfl ?_
          refine tw_ifnull dX5_countriesWithRate_29 ?_
          refine tw_aload 0 dX5_countriesWithRate_32 rfl ?_
          obtain ⟨e52, f53, n_54, r_55, c_56, go_57, so_58, v_59, rd_60, rf_61, t_62, rfl, k63, k64, k65, k66, k67, k68, k69, k70, k71⟩ := sp0.1 q49 2 k51 (by decide)
          refine tw_getN (v := .int r_55) rfl in_4 1 dX5_countriesWithRate_34 w_504 rfl (by decide) f53 rfl ?_
          refine tw_iload_n 2 dX5_countriesWithRate_37 rfl rfl ?_
          refine tw_icmp_ne 44 dX5_countriesWithRate_38 (by decide) (fun c72 => ?_) (fun c72 => ?_)
          · obtain ⟨v73, ev73⟩ : ∃ y : Int32, y = (nI k37) + 1 := ⟨_, rfl⟩
            refine tw_iinc [(5, .int v73), (6, .ref q49), (0, .ref x), (1, .int rt), (2, .int x36), (3, .ref ca_4), (4, .int (nI 4))] 6 dX5_countriesWithRate_44 rfl (by rw [ev73]; rfl) (by decide) rfl ?_
            refine tw_goto 14 dX5_countriesWithRate_47 (by decide) ?_
            have qv73 := tw_nI3 ev73
            rw [qv73]
            refine tw_lv [2, 3, 4, 5, 6, 0] rfl ?_
            exact ih39 (k37 + 1) x36 (by omega) (by omega)
          · obtain ⟨v74, ev74⟩ : ∃ y : Int32, y = x36 + 1 := ⟨_, rfl⟩
            refine tw_iinc [(2, .int v74), (6, .ref q49), (0, .ref x), (1, .int rt), (3, .ref ca_4), (4, .int (nI 4)), (5, .int (nI k37))] 3 dX5_countriesWithRate_41 rfl (by rw [ev74]; rfl) (by decide) rfl ?_
            obtain ⟨v75, ev75⟩ : ∃ y : Int32, y = (nI k37) + 1 := ⟨_, rfl⟩
            refine tw_iinc [(5, .int v75), (2, .int v74), (6, .ref q49), (0, .ref x), (1, .int rt), (3, .ref ca_4), (4, .int (nI 4))] 6 dX5_countriesWithRate_44 rfl (by rw [ev75]; rfl) (by decide) rfl ?_
            refine tw_goto 14 dX5_countriesWithRate_47 (by decide) ?_
            have qv75 := tw_nI3 ev75
            rw [qv75]
            refine tw_lv [3, 4, 1, 5, 6, 0] rfl ?_
            exact ih39 (k37 + 1) v74 (by omega) (by omega)
  refine tw_lv [4, 5, 3, 2, 1, 0] rfl ?_
  exact L40 (4 + 1) 0 0 (by omega) (by omega)

set_option maxHeartbeats 4000000 in
set_option maxRecDepth 100000 in
theorem c_X5_countryFact (d : tw_D) (g : tw_G) (τ : tw_K) (h : tw_H) (hw : tw_wt d g τ h) (x : Nat) (kx : τ x = 11) (c : Nat) (kc : τ c = 2) (w : Int32) : tw_Ct d mX5_countryFact 0 0 [.ref x, .ref c, .int w] h (tw_qi (fun r h1 => h1 = h) tw_nx) := by
  refine tw_of (by decide +kernel) (Nat.le_of_ble_eq_true rfl) ?_
  show tw_W d mX5_countryFact _ 0 [(0, .ref x), (1, .ref c), (2, .int w)] [] h 0 0
  have sp0 := tw_sp.rf hw
  refine tw_iload_n 2 dX5_countryFact_0 rfl rfl ?_
  by_cases cs0 : (w).toInt < 0 ∨ 7 < (w).toInt
  · refine tw_tabOut 105 dX5_countryFact_1 cs0 (by decide) ?_
    refine tw_aload_n 0 dX5_countryFact_105 rfl rfl ?_
    refine tw_aload_n 1 dX5_countryFact_106 rfl rfl ?_
    obtain ⟨e1, f2, n_3, r_4, c_5, go_6, so_7, v_8, rd_9, rf_10, t_11, rfl, k12, k13, k14, k15, k16, k17, k18, k19, k20⟩ := sp0.1 c 2 kc (by decide)
    refine tw_getN (v := .int r_4) rfl in_4 1 dX5_countryFact_107 w_504 rfl (by decide) f2 rfl ?_
    obtain ⟨e21, f22, td_23, ca_24, ha_25, da_26, c1_27, c2_28, c3_29, c4_30, rfl, k31, k32, k33, k34, k35, k36, k37, k38, k39, k40, k41, k42, k43, k44, k45, k46, k47⟩ := sp0.1 x 11 kx (by decide)
    refine tw_bi (tw_callV (M := mX5_countryFact) (pc := 110) okX5_countriesWithRate dX5_countryFact_110 w_281 rfl f22 [.int r_4] [] rfl rfl ⟨by decide, by decide⟩ (Nat.le_of_ble_eq_true rfl) (c_X5_countriesWithRate d g τ h sp0.1 x kx r_4) 0 0 (Nat.le_of_ble_eq_true rfl) (Nat.le_of_ble_eq_true rfl)) (fun r50 h49 q48 => ?_) (fun E h1 q => q.elim)
    rw [q48]
    exact tw_iret dX5_countryFact_113 rfl (Or.inl ⟨_, rfl, rfl⟩)
  · have csl : ¬ (w).toInt < 0 := fun q => cs0 (Or.inl q)
    have csh : ¬ 7 < (w).toInt := fun q => cs0 (Or.inr q)
    rcases (show (w).toInt = 0 ∨ (w).toInt = 1 ∨ (w).toInt = 2 ∨ (w).toInt = 3 ∨ (w).toInt = 4 ∨ (w).toInt = 5 ∨ (w).toInt = 6 ∨ (w).toInt = 7 by omega) with cs1 | cs1 | cs1 | cs1 | cs1 | cs1 | cs1 | cs1
    · refine tw_tabIn (off := 47) 48 dX5_countryFact_1 csl csh (by rw [cs1]; rfl) (by decide) ?_
      refine tw_aload_n 1 dX5_countryFact_48 rfl rfl ?_
      obtain ⟨e51, f52, n_53, r_54, c_55, go_56, so_57, v_58, rd_59, rf_60, t_61, rfl, k62, k63, k64, k65, k66, k67, k68, k69, k70⟩ := sp0.1 c 2 kc (by decide)
      refine tw_getN (v := .int r_54) rfl in_4 1 dX5_countryFact_49 w_504 rfl (by decide) f52 rfl ?_
      exact tw_iret dX5_countryFact_52 rfl (Or.inl ⟨_, rfl, rfl⟩)
    · refine tw_tabIn (off := 52) 53 dX5_countryFact_1 csl csh (by rw [cs1]; rfl) (by decide) ?_
      refine tw_aload_n 1 dX5_countryFact_53 rfl rfl ?_
      obtain ⟨e71, f72, n_73, r_74, c_75, go_76, so_77, v_78, rd_79, rf_80, t_81, rfl, k82, k83, k84, k85, k86, k87, k88, k89, k90⟩ := sp0.1 c 2 kc (by decide)
      refine tw_getN (v := .int c_75) rfl in_4 2 dX5_countryFact_54 w_506 rfl (by decide) f72 rfl ?_
      exact tw_iret dX5_countryFact_57 rfl (Or.inl ⟨_, rfl, rfl⟩)
    · refine tw_tabIn (off := 57) 58 dX5_countryFact_1 csl csh (by rw [cs1]; rfl) (by decide) ?_
      refine tw_aload_n 1 dX5_countryFact_58 rfl rfl ?_
      obtain ⟨e91, f92, n_93, r_94, c_95, go_96, so_97, v_98, rd_99, rf_100, t_101, rfl, k102, k103, k104, k105, k106, k107, k108, k109, k110⟩ := sp0.1 c 2 kc (by decide)
      refine tw_getN (v := .ref v_98) rfl in_4 3 dX5_countryFact_59 w_508 rfl (by decide) f92 rfl ?_
      obtain ⟨e111, f112, a_113, b_114, rfl, k115⟩ := sp0.1 v_98 1 k102 (by decide)
      refine tw_getN (v := .int a_113) rfl in_7 0 dX5_countryFact_62 w_132 rfl (by decide) f112 rfl ?_
      exact tw_iret dX5_countryFact_65 rfl (Or.inl ⟨_, rfl, rfl⟩)
    · refine tw_tabIn (off := 65) 66 dX5_countryFact_1 csl csh (by rw [cs1]; rfl) (by decide) ?_
      refine tw_aload_n 1 dX5_countryFact_66 rfl rfl ?_
      obtain ⟨e116, f117, n_118, r_119, c_120, go_121, so_122, v_123, rd_124, rf_125, t_126, rfl, k127, k128, k129, k130, k131, k132, k133, k134, k135⟩ := sp0.1 c 2 kc (by decide)
      refine tw_getN (v := .ref v_123) rfl in_4 3 dX5_countryFact_67 w_508 rfl (by decide) f117 rfl ?_
      obtain ⟨e136, f137, a_138, b_139, rfl, k140⟩ := sp0.1 v_123 1 k127 (by decide)
      refine tw_getN (v := .int b_139) rfl in_7 1 dX5_countryFact_70 w_134 rfl (by decide) f137 rfl ?_
      exact tw_iret dX5_countryFact_73 rfl (Or.inl ⟨_, rfl, rfl⟩)
    · refine tw_tabIn (off := 73) 74 dX5_countryFact_1 csl csh (by rw [cs1]; rfl) (by decide) ?_
      refine tw_aload_n 1 dX5_countryFact_74 rfl rfl ?_
      obtain ⟨e141, f142, n_143, r_144, c_145, go_146, so_147, v_148, rd_149, rf_150, t_151, rfl, k152, k153, k154, k155, k156, k157, k158, k159, k160⟩ := sp0.1 c 2 kc (by decide)
      refine tw_bi (tw_callVN (M := mX5_countryFact) (pc := 75) okX0_openSet dX5_countryFact_75 w_257 rfl f142 [] [] rfl rfl ⟨by decide, by decide⟩ (Nat.le_of_ble_eq_true rfl) (c_X0_openSet d g τ h sp0.1 c kc) 0 0 (Nat.le_of_ble_eq_true rfl) (Nat.le_of_ble_eq_true rfl)) (fun r163 h162 q161 => ?_) (fun E h1 q => q.elim)
      rw [q161]
      exact tw_iret dX5_countryFact_78 rfl (Or.inl ⟨_, rfl, rfl⟩)
    · refine tw_tabIn (off := 78) 79 dX5_countryFact_1 csl csh (by rw [cs1]; rfl) (by decide) ?_
      refine tw_aload_n 0 dX5_countryFact_79 rfl rfl ?_
      refine tw_aload_n 1 dX5_countryFact_80 rfl rfl ?_
      obtain ⟨e164, f165, td_166, ca_167, ha_168, da_169, c1_170, c2_171, c3_172, c4_173, rfl, k174, k175, k176, k177, k178, k179, k180, k181, k182, k183, k184, k185, k186, k187, k188, k189, k190⟩ := sp0.1 x 11 kx (by decide)
      refine tw_bi (tw_callV (M := mX5_countryFact) (pc := 81) okX5_housesIn dX5_countryFact_81 w_261 rfl f165 [.ref c] [] rfl rfl ⟨by decide, by decide⟩ (Nat.le_of_ble_eq_true rfl) (c_X5_housesIn d g τ h sp0.1 x kx c kc) 0 0 (Nat.le_of_ble_eq_true rfl) (Nat.le_of_ble_eq_true rfl)) (fun r193 h192 q191 => ?_) (fun E h1 q => q.elim)
      rw [q191]
      exact tw_iret dX5_countryFact_84 rfl (Or.inl ⟨_, rfl, rfl⟩)
    · refine tw_tabIn (off := 84) 85 dX5_countryFact_1 csl csh (by rw [cs1]; rfl) (by decide) ?_
      refine tw_aload_n 1 dX5_countryFact_85 rfl rfl ?_
      obtain ⟨e194, f195, n_196, r_197, c_198, go_199, so_200, v_201, rd_202, rf_203, t_204, rfl, k205, k206, k207, k208, k209, k210, k211, k212, k213⟩ := sp0.1 c 2 kc (by decide)
      refine tw_getN (v := .ref v_201) rfl in_4 3 dX5_countryFact_86 w_508 rfl (by decide) f195 rfl ?_
      refine tw_aload_n 0 dX5_countryFact_89 rfl rfl ?_
      obtain ⟨e214, f215, td_216, ca_217, ha_218, da_219, c1_220, c2_221, c3_222, c4_223, rfl, k224, k225, k226, k227, k228, k229, k230, k231, k232, k233, k234, k235, k236, k237, k238, k239, k240⟩ := sp0.1 x 11 kx (by decide)
      refine tw_get (v := .int (g.1 0)) rfl in_9 1 dX5_countryFact_90 w_141 rfl (by decide) f215 rfl ?_
      obtain ⟨e241, f242, a_243, b_244, rfl, k245⟩ := sp0.1 v_201 1 k205 (by decide)
      refine tw_bi (tw_callVN (M := mX5_countryFact) (pc := 93) okX3_worth dX5_countryFact_93 w_265 rfl f242 [.int (g.1 0)] [] rfl rfl ⟨by decide, by decide⟩ (Nat.le_of_ble_eq_true rfl) (c_X3_worth d g τ h sp0.1 v_201 k205 (g.1 0)) 0 0 (Nat.le_of_ble_eq_true rfl) (Nat.le_of_ble_eq_true rfl)) (fun r248 h247 q246 => ?_) (fun E h1 q => q.elim)
      rw [q246]
      exact tw_iret dX5_countryFact_96 rfl (Or.inl ⟨_, rfl, rfl⟩)
    · refine tw_tabIn (off := 96) 97 dX5_countryFact_1 csl csh (by rw [cs1]; rfl) (by decide) ?_
      refine tw_aload_n 1 dX5_countryFact_97 rfl rfl ?_
      obtain ⟨e249, f250, n_251, r_252, c_253, go_254, so_255, v_256, rd_257, rf_258, t_259, rfl, k260, k261, k262, k263, k264, k265, k266, k267, k268⟩ := sp0.1 c 2 kc (by decide)
      refine tw_getN (v := .ref t_259) rfl in_4 8 dX5_countryFact_98 w_514 rfl (by decide) f250 rfl ?_
      obtain ⟨e269, f270, m_271, rfl, k272, k273⟩ := sp0.1 t_259 5 k263 (by decide)
      refine tw_bi (tw_callVN (M := mX5_countryFact) (pc := 101) okX4_pounds dX5_countryFact_101 w_273 rfl f270 [] [] rfl rfl ⟨by decide, by decide⟩ (Nat.le_of_ble_eq_true rfl) (c_X4_pounds d g τ h sp0.1 t_259 k263) 0 0 (Nat.le_of_ble_eq_true rfl) (Nat.le_of_ble_eq_true rfl)) (fun r276 h275 q274 => ?_) (fun E h1 q => q.elim)
      rw [q274]
      exact tw_iret dX5_countryFact_104 rfl (Or.inl ⟨_, rfl, rfl⟩)

set_option maxHeartbeats 4000000 in
set_option maxRecDepth 100000 in
theorem c_X5_ofCountry (d : tw_D) (g : tw_G) (τ : tw_K) (h : tw_H) (hw : tw_wt d g τ h) (x : Nat) (kx : τ x = 11) (n : Int32) (w : Int32) : tw_Ct d mX5_ofCountry 20 120 [.ref x, .int n, .int w] h (tw_qi (fun r h1 => h1 = h) (fun E h1 => (E = tw_IOE ∨ E = tw_IAE) ∧ h1 = h)) := by
  refine tw_of (by decide +kernel) (Nat.le_of_ble_eq_true rfl) ?_
  show tw_W d mX5_ofCountry _ 0 [(0, .ref x), (1, .int n), (2, .int w)] [] h 20 120
  have sp0 := tw_sp.rf hw
  refine tw_aload_n 0 dX5_ofCountry_0 rfl rfl ?_
  refine tw_iload_n 1 dX5_ofCountry_1 rfl rfl ?_
  obtain ⟨e1, f2, td_3, ca_4, ha_5, da_6, c1_7, c2_8, c3_9, c4_10, rfl, k11, k12, k13, k14, k15, k16, k17, k18, k19, k20, k21, k22, k23, k24, k25, k26, k27⟩ := sp0.1 x 11 kx (by decide)
  refine tw_br (tw_callV (M := mX5_ofCountry) (pc := 2) okX5_countryAt dX5_ofCountry_2 w_546 rfl f2 [.int n] [] rfl rfl ⟨by decide, by decide⟩ (Nat.le_of_ble_eq_true rfl) (c_X5_countryAt d g τ h sp0.1 x kx n) 19 114 (Nat.le_of_ble_eq_true rfl) (Nat.le_of_ble_eq_true rfl)) (fun r30 h29 q28 => ?_) (fun E h1 q => Or.inr ⟨E, rfl, (Or.inl q.1), q.2⟩)
  obtain ⟨q28e, p31⟩ := q28
  rw [q28e]
  refine tw_astore_n [(3, .ref r30), (0, .ref x), (1, .int n), (2, .int w)] dX5_ofCountry_5 rfl (by decide) rfl ?_
  refine tw_iload_n 3 dX5_ofCountry_6 rfl rfl ?_
  refine tw_iconst (v := 0) dX5_ofCountry_7 (by decide) ?_
  refine tw_bipush (v := 8) dX5_ofCountry_8 (by decide) ?_
  refine tw_bv (tw_callS (M := mX5_ofCountry) (pc := 10) okX5_needRange dX5_ofCountry_10 w_399 [.int w, .int 0, .int 8] [] rfl rfl ⟨by decide, by decide⟩ (Nat.le_of_ble_eq_true rfl) (c_X5_needRange d g τ h sp0.1 w 0 8) 18 108 (Nat.le_of_ble_eq_true rfl) (Nat.le_of_ble_eq_true rfl)) (fun h33 q32 => ?_) (fun E h1 q => Or.inr ⟨E, rfl, (Or.inr (q.1)), q.2⟩)
  obtain ⟨q32e, p35⟩ := q32
  rw [q32e]
  refine tw_aload_n 1 dX5_ofCountry_13 rfl rfl ?_
  refine tw_aload_n 0 dX5_ofCountry_14 rfl rfl ?_
  refine tw_iload_n 3 dX5_ofCountry_15 rfl rfl ?_
  refine tw_bi (tw_callV (M := mX5_ofCountry) (pc := 16) okX5_countryFact dX5_ofCountry_16 w_253 rfl f2 [.ref r30, .int w] [] rfl rfl ⟨by decide, by decide⟩ (Nat.le_of_ble_eq_true rfl) (c_X5_countryFact d g τ h sp0.1 x kx r30 p31 w) 18 108 (Nat.le_of_ble_eq_true rfl) (Nat.le_of_ble_eq_true rfl)) (fun r38 h37 q36 => ?_) (fun E h1 q => q.elim)
  rw [q36]
  exact tw_iret dX5_ofCountry_19 rfl (Or.inl ⟨_, rfl, rfl⟩)

set_option maxHeartbeats 4000000 in
set_option maxRecDepth 100000 in
theorem c_X5_unpaidDebtsOf (d : tw_D) (g : tw_G) (τ : tw_K) (h : tw_H) (hw : tw_wt d g τ h) (x : Nat) (kx : τ x = 11) (c : Nat) (kc : τ c = 3) : tw_Ct d mX5_unpaidDebtsOf 0 0 [.ref x, .ref c] h (tw_qi (fun r h1 => h1 = h) tw_nx) := by
  refine tw_of (by decide +kernel) (Nat.le_of_ble_eq_true rfl) ?_
  show tw_W d mX5_unpaidDebtsOf _ 0 [(0, .ref x), (1, .ref c)] [] h 0 0
  have sp0 := tw_sp.rf hw
  refine tw_iconst (v := 0) dX5_unpaidDebtsOf_0 (by decide) ?_
  refine tw_istore_n [(2, .int 0), (0, .ref x), (1, .ref c)] dX5_unpaidDebtsOf_1 rfl (by decide) rfl ?_
  refine tw_aload_n 1 dX5_unpaidDebtsOf_2 rfl rfl ?_
  obtain ⟨e1, f2, td_3, ca_4, ha_5, da_6, c1_7, c2_8, c3_9, c4_10, rfl, k11, k12, k13, k14, k15, k16, k17, k18, k19, k20, k21, k22, k23, k24, k25, k26, k27⟩ := sp0.1 x 11 kx (by decide)
  refine tw_get (v := .ref da_6) rfl in_9 6 dX5_unpaidDebtsOf_3 w_146 rfl (by decide) f2 rfl ?_
  refine tw_astore_n [(3, .ref da_6), (2, .int 0), (0, .ref x), (1, .ref c)] dX5_unpaidDebtsOf_6 rfl (by decide) rfl ?_
  refine tw_aload_n 0 dX5_unpaidDebtsOf_7 rfl rfl ?_
  obtain ⟨e28, f29, F30, rfl, k31, pn32, pb33, px34, pf35⟩ := sp0.1 da_6 10 k13 (by decide)
  refine tw_alen (v := nI 10) 6 rfl dX5_unpaidDebtsOf_8 f29 rfl ?_
  refine tw_istore [(4, .int (nI 10)), (3, .ref da_6), (2, .int 0), (0, .ref x), (1, .ref c)] dX5_unpaidDebtsOf_9 (by decide) rfl ?_
  refine tw_iconst (v := 0) dX5_unpaidDebtsOf_11 (by decide) ?_
  refine tw_istore [(5, .int 0), (4, .int (nI 10)), (3, .ref da_6), (2, .int 0), (0, .ref x), (1, .ref c)] dX5_unpaidDebtsOf_12 (by decide) rfl ?_
  have L40 : ∀ (r38 k37 : Nat) (x36 : Int32), 10 + 1 ≤ k37 + r38 → k37 ≤ 10 → tw_W d mX5_unpaidDebtsOf (tw_qi (fun r h1 => h1 = h) tw_nx) 14 [(0, .ref x), (1, .ref c), (2, .int x36), (3, .ref da_6), (4, .int (nI 10)), (5, .int (nI k37))] [] h 0 0 := by
    intro r38
    induction r38 with
    | zero => intro k37 x36 hk44 hk45; exact absurd hk44 (by omega)
    | succ r38 ih39 =>
      intro k37 x36 hk44 hk45
      refine tw_iload 5 dX5_unpaidDebtsOf_14 rfl ?_
      refine tw_iload 4 dX5_unpaidDebtsOf_16 rfl ?_
      refine tw_icmp_ge 58 dX5_unpaidDebtsOf_18 (by decide) (fun c46 => ?_) (fun c46 => ?_)
      · refine tw_iload_n 2 dX5_unpaidDebtsOf_58 rfl rfl ?_
        exact tw_iret dX5_unpaidDebtsOf_59 rfl (Or.inl ⟨_, rfl, rfl⟩)
      · have kl47 := tw_klt (N := 10) c46 hk45 (by decide)
        refine tw_aload_n 3 dX5_unpaidDebtsOf_21 rfl rfl ?_
        refine tw_iload 5 dX5_unpaidDebtsOf_22 rfl ?_
        cases k48 : F30 ((nI k37)).toNatClampNeg with
        | none =>
          refine tw_aald (v := .null) 6 rfl rfl dX5_unpaidDebtsOf_24 f29 (vp_in_nI (by omega) (by decide)) (by rw [k48]; rfl) ?_
          refine tw_astoreN [(6, .null), (0, .ref x), (1, .ref c), (2, .int x36), (3, .ref da_6), (4, .int (nI 10)), (5, .int (nI k37))] dX5_unpaidDebtsOf_25 (by decide) rfl ?_
          refine tw_aloadN 0 dX5_unpaidDebtsOf_27 rfl ?_
          refine tw_ifnullN 52 dX5_unpaidDebtsOf_29 (by decide) ?_
          obtain ⟨v50, ev50⟩ : ∃ y : Int32, y = (nI k37) + 1 := ⟨_, rfl⟩
          refine tw_iinc [(5, .int v50), (6, .null), (0, .ref x), (1, .ref c), (2, .int x36), (3, .ref da_6), (4, .int (nI 10))] 6 dX5_unpaidDebtsOf_52 rfl (by rw [ev50]; rfl) (by decide) rfl ?_
          refine tw_goto 14 dX5_unpaidDebtsOf_55 (by decide) ?_
          have qv50 := tw_nI3 ev50
          rw [qv50]
          refine tw_lv [2, 3, 4, 5, 6, 0] rfl ?_
          exact ih39 (k37 + 1) x36 (by omega) (by omega)
        | some q49 =>
          have k51 := k31 _ _ k48
          refine tw_aald (v := .ref q49) 6 rfl rfl dX5_unpaidDebtsOf_24 f29 (vp_in_nI (by omega) (by decide)) (by rw [k48]; rfl) ?_
          refine tw_astore [(6, .ref q49), (0, .ref x), (1, .ref c), (2, .int x36), (3, .ref da_6), (4, .int (nI 10)), (5, .int (nI k37))] dX5_unpaidDebtsOf_25 (by decide) rfl ?_
          refine tw_aload 0 dX5_unpaidDebtsOf_27 rfl ?_
          refine tw_ifnull dX5_unpaidDebtsOf_29 ?_
          refine tw_aload 0 dX5_unpaidDebtsOf_32 rfl ?_
          obtain ⟨e52, f53, v_54, dy_55, pd_56, a_57, b_58, rfl, k59, k60, k61, k62⟩ := sp0.1 q49 4 k51 (by decide)
          refine tw_getN (v := .int pd_56) rfl in_5 4 dX5_unpaidDebtsOf_34 w_728 rfl (by decide) f53 rfl ?_
          refine tw_if_ne 52 dX5_unpaidDebtsOf_37 (by decide) (fun c63 => ?_) (fun c63 => ?_)
          · obtain ⟨v64, ev64⟩ : ∃ y : Int32, y = (nI k37) + 1 := ⟨_, rfl⟩
            refine tw_iinc [(5, .int v64), (6, .ref q49), (0, .ref x), (1, .ref c), (2, .int x36), (3, .ref da_6), (4, .int (nI 10))] 6 dX5_unpaidDebtsOf_52 rfl (by rw [ev64]; rfl) (by decide) rfl ?_
            refine tw_goto 14 dX5_unpaidDebtsOf_55 (by decide) ?_
            have qv64 := tw_nI3 ev64
            rw [qv64]
            refine tw_lv [2, 3, 4, 5, 6, 0] rfl ?_
            exact ih39 (k37 + 1) x36 (by omega) (by omega)
          · refine tw_aload 0 dX5_unpaidDebtsOf_40 rfl ?_
            refine tw_getN (v := .ref a_57) rfl in_5 0 dX5_unpaidDebtsOf_42 w_720 rfl (by decide) f53 rfl ?_
            refine tw_aload_n 2 dX5_unpaidDebtsOf_45 rfl rfl ?_
            refine tw_acmp_ne (rx := (some a_57)) (ry := (some c)) 52 dX5_unpaidDebtsOf_46 (by decide) (fun c65 => ?_) (fun c65 => ?_)
            · obtain ⟨v66, ev66⟩ : ∃ y : Int32, y = (nI k37) + 1 := ⟨_, rfl⟩
              refine tw_iinc [(5, .int v66), (6, .ref q49), (0, .ref x), (1, .ref c), (2, .int x36), (3, .ref da_6), (4, .int (nI 10))] 6 dX5_unpaidDebtsOf_52 rfl (by rw [ev66]; rfl) (by decide) rfl ?_
              refine tw_goto 14 dX5_unpaidDebtsOf_55 (by decide) ?_
              have qv66 := tw_nI3 ev66
              rw [qv66]
              refine tw_lv [2, 3, 4, 5, 6, 0] rfl ?_
              exact ih39 (k37 + 1) x36 (by omega) (by omega)
            · obtain ⟨v67, ev67⟩ : ∃ y : Int32, y = x36 + 1 := ⟨_, rfl⟩
              refine tw_iinc [(2, .int v67), (6, .ref q49), (0, .ref x), (1, .ref c), (3, .ref da_6), (4, .int (nI 10)), (5, .int (nI k37))] 3 dX5_unpaidDebtsOf_49 rfl (by rw [ev67]; rfl) (by decide) rfl ?_
              obtain ⟨v68, ev68⟩ : ∃ y : Int32, y = (nI k37) + 1 := ⟨_, rfl⟩
              refine tw_iinc [(5, .int v68), (2, .int v67), (6, .ref q49), (0, .ref x), (1, .ref c), (3, .ref da_6), (4, .int (nI 10))] 6 dX5_unpaidDebtsOf_52 rfl (by rw [ev68]; rfl) (by decide) rfl ?_
              refine tw_goto 14 dX5_unpaidDebtsOf_55 (by decide) ?_
              have qv68 := tw_nI3 ev68
              rw [qv68]
              refine tw_lv [3, 4, 1, 5, 6, 0] rfl ?_
              exact ih39 (k37 + 1) v67 (by omega) (by omega)
  refine tw_lv [4, 5, 3, 2, 1, 0] rfl ?_
  exact L40 (10 + 1) 0 0 (by omega) (by omega)

set_option maxHeartbeats 4000000 in
set_option maxRecDepth 100000 in
theorem c_X5_unpaidDebtsTo (d : tw_D) (g : tw_G) (τ : tw_K) (h : tw_H) (hw : tw_wt d g τ h) (x : Nat) (kx : τ x = 11) (c : Nat) (kc : τ c = 3) : tw_Ct d mX5_unpaidDebtsTo 0 0 [.ref x, .ref c] h (tw_qi (fun r h1 => h1 = h) tw_nx) := by
  refine tw_of (by decide +kernel) (Nat.le_of_ble_eq_true rfl) ?_
  show tw_W d mX5_unpaidDebtsTo _ 0 [(0, .ref x), (1, .ref c)] [] h 0 0
  have sp0 := tw_sp.rf hw
  refine tw_iconst (v := 0) dX5_unpaidDebtsTo_0 (by decide) ?_
  refine tw_istore_n [(2, .int 0), (0, .ref x), (1, .ref c)] dX5_unpaidDebtsTo_1 rfl (by decide) rfl ?_
  refine tw_aload_n 1 dX5_unpaidDebtsTo_2 rfl rfl ?_
  obtain ⟨e1, f2, td_3, ca_4, ha_5, da_6, c1_7, c2_8, c3_9, c4_10, rfl, k11, k12, k13, k14, k15, k16, k17, k18, k19, k20, k21, k22, k23, k24, k25, k26, k27⟩ := sp0.1 x 11 kx (by decide)
  refine tw_get (v := .ref da_6) rfl in_9 6 dX5_unpaidDebtsTo_3 w_146 rfl (by decide) f2 rfl ?_
  refine tw_astore_n [(3, .ref da_6), (2, .int 0), (0, .ref x), (1, .ref c)] dX5_unpaidDebtsTo_6 rfl (by decide) rfl ?_
  refine tw_aload_n 0 dX5_unpaidDebtsTo_7 rfl rfl ?_
  obtain ⟨e28, f29, F30, rfl, k31, pn32, pb33, px34, pf35⟩ := sp0.1 da_6 10 k13 (by decide)
  refine tw_alen (v := nI 10) 6 rfl dX5_unpaidDebtsTo_8 f29 rfl ?_
  refine tw_istore [(4, .int (nI 10)), (3, .ref da_6), (2, .int 0), (0, .ref x), (1, .ref c)] dX5_unpaidDebtsTo_9 (by decide) rfl ?_
  refine tw_iconst (v := 0) dX5_unpaidDebtsTo_11 (by decide) ?_
  refine tw_istore [(5, .int 0), (4, .int (nI 10)), (3, .ref da_6), (2, .int 0), (0, .ref x), (1, .ref c)] dX5_unpaidDebtsTo_12 (by decide) rfl ?_
  have L40 : ∀ (r38 k37 : Nat) (x36 : Int32), 10 + 1 ≤ k37 + r38 → k37 ≤ 10 → tw_W d mX5_unpaidDebtsTo (tw_qi (fun r h1 => h1 = h) tw_nx) 14 [(0, .ref x), (1, .ref c), (2, .int x36), (3, .ref da_6), (4, .int (nI 10)), (5, .int (nI k37))] [] h 0 0 := by
    intro r38
    induction r38 with
    | zero => intro k37 x36 hk44 hk45; exact absurd hk44 (by omega)
    | succ r38 ih39 =>
      intro k37 x36 hk44 hk45
      refine tw_iload 5 dX5_unpaidDebtsTo_14 rfl ?_
      refine tw_iload 4 dX5_unpaidDebtsTo_16 rfl ?_
      refine tw_icmp_ge 58 dX5_unpaidDebtsTo_18 (by decide) (fun c46 => ?_) (fun c46 => ?_)
      · refine tw_iload_n 2 dX5_unpaidDebtsTo_58 rfl rfl ?_
        exact tw_iret dX5_unpaidDebtsTo_59 rfl (Or.inl ⟨_, rfl, rfl⟩)
      · have kl47 := tw_klt (N := 10) c46 hk45 (by decide)
        refine tw_aload_n 3 dX5_unpaidDebtsTo_21 rfl rfl ?_
        refine tw_iload 5 dX5_unpaidDebtsTo_22 rfl ?_
        cases k48 : F30 ((nI k37)).toNatClampNeg with
        | none =>
          refine tw_aald (v := .null) 6 rfl rfl dX5_unpaidDebtsTo_24 f29 (vp_in_nI (by omega) (by decide)) (by rw [k48]; rfl) ?_
          refine tw_astoreN [(6, .null), (0, .ref x), (1, .ref c), (2, .int x36), (3, .ref da_6), (4, .int (nI 10)), (5, .int (nI k37))] dX5_unpaidDebtsTo_25 (by decide) rfl ?_
          refine tw_aloadN 0 dX5_unpaidDebtsTo_27 rfl ?_
          refine tw_ifnullN 52 dX5_unpaidDebtsTo_29 (by decide) ?_
          obtain ⟨v50, ev50⟩ : ∃ y : Int32, y = (nI k37) + 1 := ⟨_, rfl⟩
          refine tw_iinc [(5, .int v50), (6, .null), (0, .ref x), (1, .ref c), (2, .int x36), (3, .ref da_6), (4, .int (nI 10))] 6 dX5_unpaidDebtsTo_52 rfl (by rw [ev50]; rfl) (by decide) rfl ?_
          refine tw_goto 14 dX5_unpaidDebtsTo_55 (by decide) ?_
          have qv50 := tw_nI3 ev50
          rw [qv50]
          refine tw_lv [2, 3, 4, 5, 6, 0] rfl ?_
          exact ih39 (k37 + 1) x36 (by omega) (by omega)
        | some q49 =>
          have k51 := k31 _ _ k48
          refine tw_aald (v := .ref q49) 6 rfl rfl dX5_unpaidDebtsTo_24 f29 (vp_in_nI (by omega) (by decide)) (by rw [k48]; rfl) ?_
          refine tw_astore [(6, .ref q49), (0, .ref x), (1, .ref c), (2, .int x36), (3, .ref da_6), (4, .int (nI 10)), (5, .int (nI k37))] dX5_unpaidDebtsTo_25 (by decide) rfl ?_
          refine tw_aload 0 dX5_unpaidDebtsTo_27 rfl ?_
          refine tw_ifnull dX5_unpaidDebtsTo_29 ?_
          refine tw_aload 0 dX5_unpaidDebtsTo_32 rfl ?_
          obtain ⟨e52, f53, v_54, dy_55, pd_56, a_57, b_58, rfl, k59, k60, k61, k62⟩ := sp0.1 q49 4 k51 (by decide)
          refine tw_getN (v := .int pd_56) rfl in_5 4 dX5_unpaidDebtsTo_34 w_728 rfl (by decide) f53 rfl ?_
          refine tw_if_ne 52 dX5_unpaidDebtsTo_37 (by decide) (fun c63 => ?_) (fun c63 => ?_)
          · obtain ⟨v64, ev64⟩ : ∃ y : Int32, y = (nI k37) + 1 := ⟨_, rfl⟩
            refine tw_iinc [(5, .int v64), (6, .ref q49), (0, .ref x), (1, .ref c), (2, .int x36), (3, .ref da_6), (4, .int (nI 10))] 6 dX5_unpaidDebtsTo_52 rfl (by rw [ev64]; rfl) (by decide) rfl ?_
            refine tw_goto 14 dX5_unpaidDebtsTo_55 (by decide) ?_
            have qv64 := tw_nI3 ev64
            rw [qv64]
            refine tw_lv [2, 3, 4, 5, 6, 0] rfl ?_
            exact ih39 (k37 + 1) x36 (by omega) (by omega)
          · refine tw_aload 0 dX5_unpaidDebtsTo_40 rfl ?_
            refine tw_getN (v := .ref b_58) rfl in_5 1 dX5_unpaidDebtsTo_42 w_722 rfl (by decide) f53 rfl ?_
            refine tw_aload_n 2 dX5_unpaidDebtsTo_45 rfl rfl ?_
            refine tw_acmp_ne (rx := (some b_58)) (ry := (some c)) 52 dX5_unpaidDebtsTo_46 (by decide) (fun c65 => ?_) (fun c65 => ?_)
            · obtain ⟨v66, ev66⟩ : ∃ y : Int32, y = (nI k37) + 1 := ⟨_, rfl⟩
              refine tw_iinc [(5, .int v66), (6, .ref q49), (0, .ref x), (1, .ref c), (2, .int x36), (3, .ref da_6), (4, .int (nI 10))] 6 dX5_unpaidDebtsTo_52 rfl (by rw [ev66]; rfl) (by decide) rfl ?_
              refine tw_goto 14 dX5_unpaidDebtsTo_55 (by decide) ?_
              have qv66 := tw_nI3 ev66
              rw [qv66]
              refine tw_lv [2, 3, 4, 5, 6, 0] rfl ?_
              exact ih39 (k37 + 1) x36 (by omega) (by omega)
            · obtain ⟨v67, ev67⟩ : ∃ y : Int32, y = x36 + 1 := ⟨_, rfl⟩
              refine tw_iinc [(2, .int v67), (6, .ref q49), (0, .ref x), (1, .ref c), (3, .ref da_6), (4, .int (nI 10)), (5, .int (nI k37))] 3 dX5_unpaidDebtsTo_49 rfl (by rw [ev67]; rfl) (by decide) rfl ?_
              obtain ⟨v68, ev68⟩ : ∃ y : Int32, y = (nI k37) + 1 := ⟨_, rfl⟩
              refine tw_iinc [(5, .int v68), (2, .int v67), (6, .ref q49), (0, .ref x), (1, .ref c), (3, .ref da_6), (4, .int (nI 10))] 6 dX5_unpaidDebtsTo_52 rfl (by rw [ev68]; rfl) (by decide) rfl ?_
              refine tw_goto 14 dX5_unpaidDebtsTo_55 (by decide) ?_
              have qv68 := tw_nI3 ev68
              rw [qv68]
              refine tw_lv [3, 4, 1, 5, 6, 0] rfl ?_
              exact ih39 (k37 + 1) v67 (by omega) (by omega)
  refine tw_lv [4, 5, 3, 2, 1, 0] rfl ?_
  exact L40 (10 + 1) 0 0 (by omega) (by omega)

set_option maxHeartbeats 4000000 in
set_option maxRecDepth 100000 in
theorem c_X5_numberOf (d : tw_D) (g : tw_G) (τ : tw_K) (h : tw_H) (hw : tw_wt d g τ h) (p : Option Nat) (hp : ∀ q, p = some q → τ q = 2) : tw_Ct d mX5_numberOf 0 0 [va_rf p] h (tw_qi (fun r h1 => h1 = h) tw_nx) := by
  cases p with
  | none =>
    refine tw_of (by decide +kernel) (Nat.le_of_ble_eq_true rfl) ?_
    show tw_W d mX5_numberOf _ 0 [(0, .null)] [] h 0 0
    refine tw_aload_nN 0 dX5_numberOf_0 rfl rfl ?_
    refine tw_ifnonnullN dX5_numberOf_1 ?_
    refine tw_iconst (v := -1) dX5_numberOf_4 (by decide) ?_
    refine tw_goto 12 dX5_numberOf_5 (by decide) ?_
    exact tw_iret dX5_numberOf_12 rfl (Or.inl ⟨_, rfl, rfl⟩)
  | some c =>
    refine tw_of (by decide +kernel) (Nat.le_of_ble_eq_true rfl) ?_
    show tw_W d mX5_numberOf _ 0 [(0, .ref c)] [] h 0 0
    have sp0 := tw_sp.rf hw
    have kc := hp c rfl
    refine tw_aload_n 0 dX5_numberOf_0 rfl rfl ?_
    refine tw_ifnonnull 8 dX5_numberOf_1 (by decide) ?_
    refine tw_aload_n 0 dX5_numberOf_8 rfl rfl ?_
    obtain ⟨e1, f2, n_3, r_4, c_5, go_6, so_7, v_8, rd_9, rf_10, t_11, rfl, k12, k13, k14, k15, k16, k17, k18, k19, k20⟩ := sp0.1 c 2 kc (by decide)
    refine tw_getN (v := .int n_3) rfl in_4 0 dX5_numberOf_9 w_502 rfl (by decide) f2 rfl ?_
    exact tw_iret dX5_numberOf_12 rfl (Or.inl ⟨_, rfl, rfl⟩)

set_option maxHeartbeats 4000000 in
set_option maxRecDepth 100000 in
theorem c_X5_houseFact (d : tw_D) (g : tw_G) (τ : tw_K) (h : tw_H) (hw : tw_wt d g τ h) (x : Nat) (kx : τ x = 11) (c : Nat) (kc : τ c = 3) (w : Int32) : tw_Ct d mX5_houseFact 0 0 [.ref x, .ref c, .int w] h (tw_qi (fun r h1 => h1 = h) tw_nx) := by
  refine tw_of (by decide +kernel) (Nat.le_of_ble_eq_true rfl) ?_
  show tw_W d mX5_houseFact _ 0 [(0, .ref x), (1, .ref c), (2, .int w)] [] h 0 0
  have sp0 := tw_sp.rf hw
  refine tw_iload_n 2 dX5_houseFact_0 rfl rfl ?_
  by_cases cs0 : (w).toInt < 0 ∨ 6 < (w).toInt
  · refine tw_tabOut 99 dX5_houseFact_1 cs0 (by decide) ?_
    refine tw_aload_n 0 dX5_houseFact_99 rfl rfl ?_
    refine tw_aload_n 1 dX5_houseFact_100 rfl rfl ?_
    obtain ⟨e1, f2, td_3, ca_4, ha_5, da_6, c1_7, c2_8, c3_9, c4_10, rfl, k11, k12, k13, k14, k15, k16, k17, k18, k19, k20, k21, k22, k23, k24, k25, k26, k27⟩ := sp0.1 x 11 kx (by decide)
    refine tw_bi (tw_callV (M := mX5_houseFact) (pc := 101) okX5_unpaidDebtsTo dX5_houseFact_101 w_343 rfl f2 [.ref c] [] rfl rfl ⟨by decide, by decide⟩ (Nat.le_of_ble_eq_true rfl) (c_X5_unpaidDebtsTo d g τ h sp0.1 x kx c kc) 0 0 (Nat.le_of_ble_eq_true rfl) (Nat.le_of_ble_eq_true rfl)) (fun r30 h29 q28 => ?_) (fun E h1 q => q.elim)
    rw [q28]
    exact tw_iret dX5_houseFact_104 rfl (Or.inl ⟨_, rfl, rfl⟩)
  · have csl : ¬ (w).toInt < 0 := fun q => cs0 (Or.inl q)
    have csh : ¬ 6 < (w).toInt := fun q => cs0 (Or.inr q)
    rcases (show (w).toInt = 0 ∨ (w).toInt = 1 ∨ (w).toInt = 2 ∨ (w).toInt = 3 ∨ (w).toInt = 4 ∨ (w).toInt = 5 ∨ (w).toInt = 6 by omega) with cs1 | cs1 | cs1 | cs1 | cs1 | cs1 | cs1
    · refine tw_tabIn (off := 43) 44 dX5_houseFact_1 csl csh (by rw [cs1]; rfl) (by decide) ?_
      refine tw_aload_n 1 dX5_houseFact_44 rfl rfl ?_
      obtain ⟨e31, f32, n_33, ar_34, p_35, pl_36, go_37, rfl, k38, k39, k40, k41⟩ := sp0.1 c 3 kc (by decide)
      refine tw_getN (v := va_rf pl_36) rfl in_6 2 dX5_houseFact_45 w_641 rfl (by decide) f32 rfl ?_
      refine tw_bi (tw_callS (M := mX5_houseFact) (pc := 48) okX5_numberOf dX5_houseFact_48 w_336 [va_rf pl_36] [] rfl rfl ⟨by decide, by decide⟩ (Nat.le_of_ble_eq_true rfl) (c_X5_numberOf d g τ h sp0.1 pl_36 k39) 0 0 (Nat.le_of_ble_eq_true rfl) (Nat.le_of_ble_eq_true rfl)) (fun r44 h43 q42 => ?_) (fun E h1 q => q.elim)
      rw [q42]
      exact tw_iret dX5_houseFact_51 rfl (Or.inl ⟨_, rfl, rfl⟩)
    · refine tw_tabIn (off := 51) 52 dX5_houseFact_1 csl csh (by rw [cs1]; rfl) (by decide) ?_
      refine tw_aload_n 1 dX5_houseFact_52 rfl rfl ?_
      obtain ⟨e45, f46, n_47, ar_48, p_49, pl_50, go_51, rfl, k52, k53, k54, k55⟩ := sp0.1 c 3 kc (by decide)
      refine tw_getN (v := va_rf go_51) rfl in_6 3 dX5_houseFact_53 w_643 rfl (by decide) f46 rfl ?_
      refine tw_bi (tw_callS (M := mX5_houseFact) (pc := 56) okX5_numberOf dX5_houseFact_56 w_336 [va_rf go_51] [] rfl rfl ⟨by decide, by decide⟩ (Nat.le_of_ble_eq_true rfl) (c_X5_numberOf d g τ h sp0.1 go_51 k54) 0 0 (Nat.le_of_ble_eq_true rfl) (Nat.le_of_ble_eq_true rfl)) (fun r58 h57 q56 => ?_) (fun E h1 q => q.elim)
      rw [q56]
      exact tw_iret dX5_houseFact_59 rfl (Or.inl ⟨_, rfl, rfl⟩)
    · refine tw_tabIn (off := 59) 60 dX5_houseFact_1 csl csh (by rw [cs1]; rfl) (by decide) ?_
      refine tw_aload_n 1 dX5_houseFact_60 rfl rfl ?_
      obtain ⟨e59, f60, n_61, ar_62, p_63, pl_64, go_65, rfl, k66, k67, k68, k69⟩ := sp0.1 c 3 kc (by decide)
      refine tw_getN (v := .int ar_62) rfl in_6 4 dX5_houseFact_61 w_645 rfl (by decide) f60 rfl ?_
      exact tw_iret dX5_houseFact_64 rfl (Or.inl ⟨_, rfl, rfl⟩)
    · refine tw_tabIn (off := 64) 65 dX5_houseFact_1 csl csh (by rw [cs1]; rfl) (by decide) ?_
      refine tw_aload_n 1 dX5_houseFact_65 rfl rfl ?_
      obtain ⟨e70, f71, n_72, ar_73, p_74, pl_75, go_76, rfl, k77, k78, k79, k80⟩ := sp0.1 c 3 kc (by decide)
      refine tw_getN (v := .ref p_74) rfl in_6 1 dX5_houseFact_66 w_639 rfl (by decide) f71 rfl ?_
      obtain ⟨e81, f82, a_83, b_84, rfl, k85⟩ := sp0.1 p_74 1 k77 (by decide)
      refine tw_getN (v := .int a_83) rfl in_7 0 dX5_houseFact_69 w_132 rfl (by decide) f82 rfl ?_
      exact tw_iret dX5_houseFact_72 rfl (Or.inl ⟨_, rfl, rfl⟩)
    · refine tw_tabIn (off := 72) 73 dX5_houseFact_1 csl csh (by rw [cs1]; rfl) (by decide) ?_
      refine tw_aload_n 1 dX5_houseFact_73 rfl rfl ?_
      obtain ⟨e86, f87, n_88, ar_89, p_90, pl_91, go_92, rfl, k93, k94, k95, k96⟩ := sp0.1 c 3 kc (by decide)
      refine tw_getN (v := .ref p_90) rfl in_6 1 dX5_houseFact_74 w_639 rfl (by decide) f87 rfl ?_
      obtain ⟨e97, f98, a_99, b_100, rfl, k101⟩ := sp0.1 p_90 1 k93 (by decide)
      refine tw_getN (v := .int b_100) rfl in_7 1 dX5_houseFact_77 w_134 rfl (by decide) f98 rfl ?_
      exact tw_iret dX5_houseFact_80 rfl (Or.inl ⟨_, rfl, rfl⟩)
    · refine tw_tabIn (off := 80) 81 dX5_houseFact_1 csl csh (by rw [cs1]; rfl) (by decide) ?_
      refine tw_aload_n 1 dX5_houseFact_81 rfl rfl ?_
      obtain ⟨e102, f103, n_104, ar_105, p_106, pl_107, go_108, rfl, k109, k110, k111, k112⟩ := sp0.1 c 3 kc (by decide)
      refine tw_getN (v := .ref p_106) rfl in_6 1 dX5_houseFact_82 w_639 rfl (by decide) f103 rfl ?_
      refine tw_aload_n 0 dX5_houseFact_85 rfl rfl ?_
      obtain ⟨e113, f114, td_115, ca_116, ha_117, da_118, c1_119, c2_120, c3_121, c4_122, rfl, k123, k124, k125, k126, k127, k128, k129, k130, k131, k132, k133, k134, k135, k136, k137, k138, k139⟩ := sp0.1 x 11 kx (by decide)
      refine tw_get (v := .int (g.1 0)) rfl in_9 1 dX5_houseFact_86 w_141 rfl (by decide) f114 rfl ?_
      obtain ⟨e140, f141, a_142, b_143, rfl, k144⟩ := sp0.1 p_106 1 k109 (by decide)
      refine tw_bi (tw_callVN (M := mX5_houseFact) (pc := 89) okX3_worth dX5_houseFact_89 w_265 rfl f141 [.int (g.1 0)] [] rfl rfl ⟨by decide, by decide⟩ (Nat.le_of_ble_eq_true rfl) (c_X3_worth d g τ h sp0.1 p_106 k109 (g.1 0)) 0 0 (Nat.le_of_ble_eq_true rfl) (Nat.le_of_ble_eq_true rfl)) (fun r147 h146 q145 => ?_) (fun E h1 q => q.elim)
      rw [q145]
      exact tw_iret dX5_houseFact_92 rfl (Or.inl ⟨_, rfl, rfl⟩)
    · refine tw_tabIn (off := 92) 93 dX5_houseFact_1 csl csh (by rw [cs1]; rfl) (by decide) ?_
      refine tw_aload_n 0 dX5_houseFact_93 rfl rfl ?_
      refine tw_aload_n 1 dX5_houseFact_94 rfl rfl ?_
      obtain ⟨e148, f149, td_150, ca_151, ha_152, da_153, c1_154, c2_155, c3_156, c4_157, rfl, k158, k159, k160, k161, k162, k163, k164, k165, k166, k167, k168, k169, k170, k171, k172, k173, k174⟩ := sp0.1 x 11 kx (by decide)
      refine tw_bi (tw_callV (M := mX5_houseFact) (pc := 95) okX5_unpaidDebtsOf dX5_houseFact_95 w_339 rfl f149 [.ref c] [] rfl rfl ⟨by decide, by decide⟩ (Nat.le_of_ble_eq_true rfl) (c_X5_unpaidDebtsOf d g τ h sp0.1 x kx c kc) 0 0 (Nat.le_of_ble_eq_true rfl) (Nat.le_of_ble_eq_true rfl)) (fun r177 h176 q175 => ?_) (fun E h1 q => q.elim)
      rw [q175]
      exact tw_iret dX5_houseFact_98 rfl (Or.inl ⟨_, rfl, rfl⟩)

set_option maxHeartbeats 4000000 in
set_option maxRecDepth 100000 in
theorem c_X5_ofHouse (d : tw_D) (g : tw_G) (τ : tw_K) (h : tw_H) (hw : tw_wt d g τ h) (x : Nat) (kx : τ x = 11) (n : Int32) (w : Int32) : tw_Ct d mX5_ofHouse 20 120 [.ref x, .int n, .int w] h (tw_qi (fun r h1 => h1 = h) (fun E h1 => (E = tw_IOE ∨ E = tw_IAE) ∧ h1 = h)) := by
  refine tw_of (by decide +kernel) (Nat.le_of_ble_eq_true rfl) ?_
  show tw_W d mX5_ofHouse _ 0 [(0, .ref x), (1, .int n), (2, .int w)] [] h 20 120
  have sp0 := tw_sp.rf hw
  refine tw_aload_n 0 dX5_ofHouse_0 rfl rfl ?_
  refine tw_iload_n 1 dX5_ofHouse_1 rfl rfl ?_
  obtain ⟨e1, f2, td_3, ca_4, ha_5, da_6, c1_7, c2_8, c3_9, c4_10, rfl, k11, k12, k13, k14, k15, k16, k17, k18, k19, k20, k21, k22, k23, k24, k25, k26, k27⟩ := sp0.1 x 11 kx (by decide)
  refine tw_br (tw_callV (M := mX5_ofHouse) (pc := 2) okX5_houseAt dX5_ofHouse_2 w_664 rfl f2 [.int n] [] rfl rfl ⟨by decide, by decide⟩ (Nat.le_of_ble_eq_true rfl) (c_X5_houseAt d g τ h sp0.1 x kx n) 19 114 (Nat.le_of_ble_eq_true rfl) (Nat.le_of_ble_eq_true rfl)) (fun r30 h29 q28 => ?_) (fun E h1 q => Or.inr ⟨E, rfl, (Or.inl q.1), q.2⟩)
  obtain ⟨q28e, p31⟩ := q28
  rw [q28e]
  refine tw_astore_n [(3, .ref r30), (0, .ref x), (1, .int n), (2, .int w)] dX5_ofHouse_5 rfl (by decide) rfl ?_
  refine tw_iload_n 3 dX5_ofHouse_6 rfl rfl ?_
  refine tw_iconst (v := 0) dX5_ofHouse_7 (by decide) ?_
  refine tw_bipush (v := 7) dX5_ofHouse_8 (by decide) ?_
  refine tw_bv (tw_callS (M := mX5_ofHouse) (pc := 10) okX5_needRange dX5_ofHouse_10 w_399 [.int w, .int 0, .int 7] [] rfl rfl ⟨by decide, by decide⟩ (Nat.le_of_ble_eq_true rfl) (c_X5_needRange d g τ h sp0.1 w 0 7) 18 108 (Nat.le_of_ble_eq_true rfl) (Nat.le_of_ble_eq_true rfl)) (fun h33 q32 => ?_) (fun E h1 q => Or.inr ⟨E, rfl, (Or.inr (q.1)), q.2⟩)
  obtain ⟨q32e, p35⟩ := q32
  rw [q32e]
  refine tw_aload_n 1 dX5_ofHouse_13 rfl rfl ?_
  refine tw_aload_n 0 dX5_ofHouse_14 rfl rfl ?_
  refine tw_iload_n 3 dX5_ofHouse_15 rfl rfl ?_
  refine tw_bi (tw_callV (M := mX5_ofHouse) (pc := 16) okX5_houseFact dX5_ofHouse_16 w_332 rfl f2 [.ref r30, .int w] [] rfl rfl ⟨by decide, by decide⟩ (Nat.le_of_ble_eq_true rfl) (c_X5_houseFact d g τ h sp0.1 x kx r30 p31 w) 18 108 (Nat.le_of_ble_eq_true rfl) (Nat.le_of_ble_eq_true rfl)) (fun r38 h37 q36 => ?_) (fun E h1 q => q.elim)
  rw [q36]
  exact tw_iret dX5_ofHouse_19 rfl (Or.inl ⟨_, rfl, rfl⟩)

set_option maxHeartbeats 4000000 in
set_option maxRecDepth 100000 in
theorem c_X5_cheaperMetal (d : tw_D) (g : tw_G) (τ : tw_K) (h : tw_H) (hw : tw_wt d g τ h) (x : Nat) (kx : τ x = 11) (c : Nat) (kc : τ c = 4) : tw_Ct d mX5_cheaperMetal 0 0 [.ref x, .ref c] h (tw_qi (fun r h1 => h1 = h) tw_nx) := by
  refine tw_of (by decide +kernel) (Nat.le_of_ble_eq_true rfl) ?_
  show tw_W d mX5_cheaperMetal _ 0 [(0, .ref x), (1, .ref c)] [] h 0 0
  have sp0 := tw_sp.rf hw
  refine tw_aload_n 1 dX5_cheaperMetal_0 rfl rfl ?_
  obtain ⟨e1, f2, v_3, dy_4, pd_5, a_6, b_7, rfl, k8, k9, k10, k11⟩ := sp0.1 c 4 kc (by decide)
  refine tw_getN (v := .ref a_6) rfl in_5 0 dX5_cheaperMetal_1 w_720 rfl (by decide) f2 rfl ?_
  obtain ⟨e12, f13, n_14, ar_15, p_16, pl_17, go_18, rfl, k19, k20, k21, k22⟩ := sp0.1 a_6 3 k8 (by decide)
  cases pl_17 with
  | none =>
    refine tw_getN (v := .null) rfl in_6 2 dX5_cheaperMetal_4 w_641 rfl (by decide) f13 rfl ?_
    refine tw_astore_nN [(2, .null), (0, .ref x), (1, .ref c)] dX5_cheaperMetal_7 rfl (by decide) rfl ?_
    refine tw_aload_n 2 dX5_cheaperMetal_8 rfl rfl ?_
    refine tw_getN (v := .int pd_5) rfl in_5 4 dX5_cheaperMetal_9 w_728 rfl (by decide) f2 rfl ?_
    refine tw_if_ne 19 dX5_cheaperMetal_12 (by decide) (fun c24 => ?_) (fun c24 => ?_)
    · refine tw_iconst (v := -1) dX5_cheaperMetal_19 (by decide) ?_
      exact tw_iret dX5_cheaperMetal_20 rfl (Or.inl ⟨_, rfl, rfl⟩)
    · refine tw_aload_nN 0 dX5_cheaperMetal_15 rfl rfl ?_
      refine tw_ifnonnullN dX5_cheaperMetal_16 ?_
      refine tw_iconst (v := -1) dX5_cheaperMetal_19 (by decide) ?_
      exact tw_iret dX5_cheaperMetal_20 rfl (Or.inl ⟨_, rfl, rfl⟩)
  | some q23 =>
    refine tw_getN (v := .ref q23) rfl in_6 2 dX5_cheaperMetal_4 w_641 rfl (by decide) f13 rfl ?_
    refine tw_astore_n [(2, .ref q23), (0, .ref x), (1, .ref c)] dX5_cheaperMetal_7 rfl (by decide) rfl ?_
    refine tw_aload_n 2 dX5_cheaperMetal_8 rfl rfl ?_
    refine tw_getN (v := .int pd_5) rfl in_5 4 dX5_cheaperMetal_9 w_728 rfl (by decide) f2 rfl ?_
    refine tw_if_ne 19 dX5_cheaperMetal_12 (by decide) (fun c25 => ?_) (fun c25 => ?_)
    · refine tw_iconst (v := -1) dX5_cheaperMetal_19 (by decide) ?_
      exact tw_iret dX5_cheaperMetal_20 rfl (Or.inl ⟨_, rfl, rfl⟩)
    · refine tw_aload_n 0 dX5_cheaperMetal_15 rfl rfl ?_
      refine tw_ifnonnull 21 dX5_cheaperMetal_16 (by decide) ?_
      refine tw_aload_n 2 dX5_cheaperMetal_21 rfl rfl ?_
      refine tw_aload_n 1 dX5_cheaperMetal_22 rfl rfl ?_
      obtain ⟨e26, f27, td_28, ca_29, ha_30, da_31, c1_32, c2_33, c3_34, c4_35, rfl, k36, k37, k38, k39, k40, k41, k42, k43, k44, k45, k46, k47, k48, k49, k50, k51, k52⟩ := sp0.1 x 11 kx (by decide)
      refine tw_get (v := .int td_28) rfl in_9 0 dX5_cheaperMetal_23 w_140 rfl (by decide) f27 rfl ?_
      refine tw_bi (tw_callVN (M := mX5_cheaperMetal) (pc := 26) okX1_dueOn dX5_cheaperMetal_26 w_355 rfl f2 [.int td_28] [] rfl rfl ⟨by decide, by decide⟩ (Nat.le_of_ble_eq_true rfl) (c_X1_dueOn d g τ h sp0.1 c kc td_28) 0 0 (Nat.le_of_ble_eq_true rfl) (Nat.le_of_ble_eq_true rfl)) (fun r55 h54 q53 => ?_) (fun E h1 q => q.elim)
      rw [q53]
      refine tw_istore_n [(3, .int r55), (2, .ref q23), (0, .ref x), (1, .ref c)] dX5_cheaperMetal_29 rfl (by decide) rfl ?_
      refine tw_aload_n 1 dX5_cheaperMetal_30 rfl rfl ?_
      refine tw_iload_n 0 dX5_cheaperMetal_31 rfl rfl ?_
      obtain ⟨e56, f57, n_58, r_59, c_60, go_61, so_62, v_63, rd_64, rf_65, t_66, rfl, k67, k68, k69, k70, k71, k72, k73, k74, k75⟩ := sp0.1 q23 2 (k20 _ rfl) (by decide)
      refine tw_bi (tw_callVN (M := mX5_cheaperMetal) (pc := 32) okX0_goldFor dX5_cheaperMetal_32 w_364 rfl f57 [.int r55] [] rfl rfl ⟨by decide, by decide⟩ (Nat.le_of_ble_eq_true rfl) (c_X0_goldFor d g τ h sp0.1 q23 (k20 _ rfl) r55) 0 0 (Nat.le_of_ble_eq_true rfl) (Nat.le_of_ble_eq_true rfl)) (fun r78 h77 q76 => ?_) (fun E h1 q => q.elim)
      rw [q76]
      refine tw_iconst (v := 0) dX5_cheaperMetal_35 (by decide) ?_
      refine tw_aload_n 2 dX5_cheaperMetal_36 rfl rfl ?_
      refine tw_get (v := .int (g.1 0)) rfl in_9 1 dX5_cheaperMetal_37 w_141 rfl (by decide) f27 rfl ?_
      refine tw_bi (tw_callS (M := mX5_cheaperMetal) (pc := 40) okX5_worthOf dX5_cheaperMetal_40 w_368 [.int r78, .int 0, .int (g.1 0)] [] rfl rfl ⟨by decide, by decide⟩ (Nat.le_of_ble_eq_true rfl) (c_X5_worthOf d g τ h sp0.1 r78 0 (g.1 0)) 0 0 (Nat.le_of_ble_eq_true rfl) (Nat.le_of_ble_eq_true rfl)) (fun r81 h80 q79 => ?_) (fun E h1 q => q.elim)
      rw [q79]
      refine tw_iload_n 0 dX5_cheaperMetal_43 rfl rfl ?_
      refine tw_icmp_ge 51 dX5_cheaperMetal_44 (by decide) (fun c82 => ?_) (fun c82 => ?_)
      · refine tw_iconst (v := 1) dX5_cheaperMetal_51 (by decide) ?_
        exact tw_iret dX5_cheaperMetal_52 rfl (Or.inl ⟨_, rfl, rfl⟩)
      · refine tw_iconst (v := 0) dX5_cheaperMetal_47 (by decide) ?_
        refine tw_goto 52 dX5_cheaperMetal_48 (by decide) ?_
        exact tw_iret dX5_cheaperMetal_52 rfl (Or.inl ⟨_, rfl, rfl⟩)

set_option maxHeartbeats 4000000 in
set_option maxRecDepth 100000 in
theorem c_X5_debtFact (d : tw_D) (g : tw_G) (τ : tw_K) (h : tw_H) (hw : tw_wt d g τ h) (x : Nat) (kx : τ x = 11) (c : Nat) (kc : τ c = 4) (w : Int32) : tw_Ct d mX5_debtFact 0 0 [.ref x, .ref c, .int w] h (tw_qi (fun r h1 => h1 = h) tw_nx) := by
  refine tw_of (by decide +kernel) (Nat.le_of_ble_eq_true rfl) ?_
  show tw_W d mX5_debtFact _ 0 [(0, .ref x), (1, .ref c), (2, .int w)] [] h 0 0
  have sp0 := tw_sp.rf hw
  refine tw_iload_n 2 dX5_debtFact_0 rfl rfl ?_
  by_cases cs0 : (w).toInt < 0 ∨ 5 < (w).toInt
  · refine tw_tabOut 99 dX5_debtFact_1 cs0 (by decide) ?_
    refine tw_aload_n 0 dX5_debtFact_99 rfl rfl ?_
    refine tw_aload_n 1 dX5_debtFact_100 rfl rfl ?_
    obtain ⟨e1, f2, td_3, ca_4, ha_5, da_6, c1_7, c2_8, c3_9, c4_10, rfl, k11, k12, k13, k14, k15, k16, k17, k18, k19, k20, k21, k22, k23, k24, k25, k26, k27⟩ := sp0.1 x 11 kx (by decide)
    refine tw_bi (tw_callV (M := mX5_debtFact) (pc := 101) okX5_cheaperMetal dX5_debtFact_101 w_360 rfl f2 [.ref c] [] rfl rfl ⟨by decide, by decide⟩ (Nat.le_of_ble_eq_true rfl) (c_X5_cheaperMetal d g τ h sp0.1 x kx c kc) 0 0 (Nat.le_of_ble_eq_true rfl) (Nat.le_of_ble_eq_true rfl)) (fun r30 h29 q28 => ?_) (fun E h1 q => q.elim)
    rw [q28]
    exact tw_iret dX5_debtFact_104 rfl (Or.inl ⟨_, rfl, rfl⟩)
  · have csl : ¬ (w).toInt < 0 := fun q => cs0 (Or.inl q)
    have csh : ¬ 5 < (w).toInt := fun q => cs0 (Or.inr q)
    rcases (show (w).toInt = 0 ∨ (w).toInt = 1 ∨ (w).toInt = 2 ∨ (w).toInt = 3 ∨ (w).toInt = 4 ∨ (w).toInt = 5 by omega) with cs1 | cs1 | cs1 | cs1 | cs1 | cs1
    · refine tw_tabIn (off := 39) 40 dX5_debtFact_1 csl csh (by rw [cs1]; rfl) (by decide) ?_
      refine tw_aload_n 1 dX5_debtFact_40 rfl rfl ?_
      obtain ⟨e31, f32, v_33, dy_34, pd_35, a_36, b_37, rfl, k38, k39, k40, k41⟩ := sp0.1 c 4 kc (by decide)
      refine tw_getN (v := .ref a_36) rfl in_5 0 dX5_debtFact_41 w_720 rfl (by decide) f32 rfl ?_
      obtain ⟨e42, f43, n_44, ar_45, p_46, pl_47, go_48, rfl, k49, k50, k51, k52⟩ := sp0.1 a_36 3 k38 (by decide)
      refine tw_getN (v := .int n_44) rfl in_6 0 dX5_debtFact_44 w_637 rfl (by decide) f43 rfl ?_
      exact tw_iret dX5_debtFact_47 rfl (Or.inl ⟨_, rfl, rfl⟩)
    · refine tw_tabIn (off := 47) 48 dX5_debtFact_1 csl csh (by rw [cs1]; rfl) (by decide) ?_
      refine tw_aload_n 1 dX5_debtFact_48 rfl rfl ?_
      obtain ⟨e53, f54, v_55, dy_56, pd_57, a_58, b_59, rfl, k60, k61, k62, k63⟩ := sp0.1 c 4 kc (by decide)
      refine tw_getN (v := .ref b_59) rfl in_5 1 dX5_debtFact_49 w_722 rfl (by decide) f54 rfl ?_
      obtain ⟨e64, f65, n_66, ar_67, p_68, pl_69, go_70, rfl, k71, k72, k73, k74⟩ := sp0.1 b_59 3 k61 (by decide)
      refine tw_getN (v := .int n_66) rfl in_6 0 dX5_debtFact_52 w_637 rfl (by decide) f65 rfl ?_
      exact tw_iret dX5_debtFact_55 rfl (Or.inl ⟨_, rfl, rfl⟩)
    · refine tw_tabIn (off := 55) 56 dX5_debtFact_1 csl csh (by rw [cs1]; rfl) (by decide) ?_
      refine tw_aload_n 1 dX5_debtFact_56 rfl rfl ?_
      obtain ⟨e75, f76, v_77, dy_78, pd_79, a_80, b_81, rfl, k82, k83, k84, k85⟩ := sp0.1 c 4 kc (by decide)
      refine tw_getN (v := .int v_77) rfl in_5 2 dX5_debtFact_57 w_724 rfl (by decide) f76 rfl ?_
      exact tw_iret dX5_debtFact_60 rfl (Or.inl ⟨_, rfl, rfl⟩)
    · refine tw_tabIn (off := 60) 61 dX5_debtFact_1 csl csh (by rw [cs1]; rfl) (by decide) ?_
      refine tw_aload_n 1 dX5_debtFact_61 rfl rfl ?_
      obtain ⟨e86, f87, v_88, dy_89, pd_90, a_91, b_92, rfl, k93, k94, k95, k96⟩ := sp0.1 c 4 kc (by decide)
      refine tw_getN (v := .int dy_89) rfl in_5 3 dX5_debtFact_62 w_726 rfl (by decide) f87 rfl ?_
      exact tw_iret dX5_debtFact_65 rfl (Or.inl ⟨_, rfl, rfl⟩)
    · refine tw_tabIn (off := 65) 66 dX5_debtFact_1 csl csh (by rw [cs1]; rfl) (by decide) ?_
      refine tw_aload_n 1 dX5_debtFact_66 rfl rfl ?_
      obtain ⟨e97, f98, v_99, dy_100, pd_101, a_102, b_103, rfl, k104, k105, k106, k107⟩ := sp0.1 c 4 kc (by decide)
      refine tw_getN (v := .int pd_101) rfl in_5 4 dX5_debtFact_67 w_728 rfl (by decide) f98 rfl ?_
      refine tw_if_eq 77 dX5_debtFact_70 (by decide) (fun c108 => ?_) (fun c108 => ?_)
      · refine tw_aload_n 1 dX5_debtFact_77 rfl rfl ?_
        refine tw_aload_n 0 dX5_debtFact_78 rfl rfl ?_
        obtain ⟨e109, f110, td_111, ca_112, ha_113, da_114, c1_115, c2_116, c3_117, c4_118, rfl, k119, k120, k121, k122, k123, k124, k125, k126, k127, k128, k129, k130, k131, k132, k133, k134, k135⟩ := sp0.1 x 11 kx (by decide)
        refine tw_get (v := .int td_111) rfl in_9 0 dX5_debtFact_79 w_140 rfl (by decide) f110 rfl ?_
        refine tw_bi (tw_callVN (M := mX5_debtFact) (pc := 82) okX1_dueOn dX5_debtFact_82 w_355 rfl f98 [.int td_111] [] rfl rfl ⟨by decide, by decide⟩ (Nat.le_of_ble_eq_true rfl) (c_X1_dueOn d g τ h sp0.1 c kc td_111) 0 0 (Nat.le_of_ble_eq_true rfl) (Nat.le_of_ble_eq_true rfl)) (fun r138 h137 q136 => ?_) (fun E h1 q => q.elim)
        rw [q136]
        exact tw_iret dX5_debtFact_85 rfl (Or.inl ⟨_, rfl, rfl⟩)
      · refine tw_iconst (v := 0) dX5_debtFact_73 (by decide) ?_
        refine tw_goto 85 dX5_debtFact_74 (by decide) ?_
        exact tw_iret dX5_debtFact_85 rfl (Or.inl ⟨_, rfl, rfl⟩)
    · refine tw_tabIn (off := 85) 86 dX5_debtFact_1 csl csh (by rw [cs1]; rfl) (by decide) ?_
      refine tw_aload_n 1 dX5_debtFact_86 rfl rfl ?_
      obtain ⟨e139, f140, v_141, dy_142, pd_143, a_144, b_145, rfl, k146, k147, k148, k149⟩ := sp0.1 c 4 kc (by decide)
      refine tw_getN (v := .int pd_143) rfl in_5 4 dX5_debtFact_87 w_728 rfl (by decide) f140 rfl ?_
      refine tw_if_eq 97 dX5_debtFact_90 (by decide) (fun c150 => ?_) (fun c150 => ?_)
      · refine tw_iconst (v := 0) dX5_debtFact_97 (by decide) ?_
        exact tw_iret dX5_debtFact_98 rfl (Or.inl ⟨_, rfl, rfl⟩)
      · refine tw_iconst (v := 1) dX5_debtFact_93 (by decide) ?_
        refine tw_goto 98 dX5_debtFact_94 (by decide) ?_
        exact tw_iret dX5_debtFact_98 rfl (Or.inl ⟨_, rfl, rfl⟩)

set_option maxHeartbeats 4000000 in
set_option maxRecDepth 100000 in
theorem c_X5_ofDebt (d : tw_D) (g : tw_G) (τ : tw_K) (h : tw_H) (hw : tw_wt d g τ h) (x : Nat) (kx : τ x = 11) (n : Int32) (w : Int32) : tw_Ct d mX5_ofDebt 20 120 [.ref x, .int n, .int w] h (tw_qi (fun r h1 => h1 = h) (fun E h1 => (E = tw_IOE ∨ E = tw_IAE) ∧ h1 = h)) := by
  refine tw_of (by decide +kernel) (Nat.le_of_ble_eq_true rfl) ?_
  show tw_W d mX5_ofDebt _ 0 [(0, .ref x), (1, .int n), (2, .int w)] [] h 20 120
  have sp0 := tw_sp.rf hw
  refine tw_aload_n 0 dX5_ofDebt_0 rfl rfl ?_
  refine tw_iload_n 1 dX5_ofDebt_1 rfl rfl ?_
  obtain ⟨e1, f2, td_3, ca_4, ha_5, da_6, c1_7, c2_8, c3_9, c4_10, rfl, k11, k12, k13, k14, k15, k16, k17, k18, k19, k20, k21, k22, k23, k24, k25, k26, k27⟩ := sp0.1 x 11 kx (by decide)
  refine tw_br (tw_callV (M := mX5_ofDebt) (pc := 2) okX5_debtAt dX5_ofDebt_2 w_747 rfl f2 [.int n] [] rfl rfl ⟨by decide, by decide⟩ (Nat.le_of_ble_eq_true rfl) (c_X5_debtAt d g τ h sp0.1 x kx n) 19 114 (Nat.le_of_ble_eq_true rfl) (Nat.le_of_ble_eq_true rfl)) (fun r30 h29 q28 => ?_) (fun E h1 q => Or.inr ⟨E, rfl, (Or.inl q.1), q.2⟩)
  obtain ⟨q28e, p31⟩ := q28
  rw [q28e]
  refine tw_astore_n [(3, .ref r30), (0, .ref x), (1, .int n), (2, .int w)] dX5_ofDebt_5 rfl (by decide) rfl ?_
  refine tw_iload_n 3 dX5_ofDebt_6 rfl rfl ?_
  refine tw_iconst (v := 0) dX5_ofDebt_7 (by decide) ?_
  refine tw_bipush (v := 6) dX5_ofDebt_8 (by decide) ?_
  refine tw_bv (tw_callS (M := mX5_ofDebt) (pc := 10) okX5_needRange dX5_ofDebt_10 w_399 [.int w, .int 0, .int 6] [] rfl rfl ⟨by decide, by decide⟩ (Nat.le_of_ble_eq_true rfl) (c_X5_needRange d g τ h sp0.1 w 0 6) 18 108 (Nat.le_of_ble_eq_true rfl) (Nat.le_of_ble_eq_true rfl)) (fun h33 q32 => ?_) (fun E h1 q => Or.inr ⟨E, rfl, (Or.inr (q.1)), q.2⟩)
  obtain ⟨q32e, p35⟩ := q32
  rw [q32e]
  refine tw_aload_n 1 dX5_ofDebt_13 rfl rfl ?_
  refine tw_aload_n 0 dX5_ofDebt_14 rfl rfl ?_
  refine tw_iload_n 3 dX5_ofDebt_15 rfl rfl ?_
  refine tw_bi (tw_callV (M := mX5_ofDebt) (pc := 16) okX5_debtFact dX5_ofDebt_16 w_351 rfl f2 [.ref r30, .int w] [] rfl rfl ⟨by decide, by decide⟩ (Nat.le_of_ble_eq_true rfl) (c_X5_debtFact d g τ h sp0.1 x kx r30 p31 w) 18 108 (Nat.le_of_ble_eq_true rfl) (Nat.le_of_ble_eq_true rfl)) (fun r38 h37 q36 => ?_) (fun E h1 q => q.elim)
  rw [q36]
  exact tw_iret dX5_ofDebt_19 rfl (Or.inl ⟨_, rfl, rfl⟩)

set_option maxHeartbeats 4000000 in
set_option maxRecDepth 100000 in
theorem c_X5_inVaults (d : tw_D) (g : tw_G) (τ : tw_K) (h : tw_H) (hw : tw_wt d g τ h) (x : Nat) (kx : τ x = 11) (m : Int32) : tw_Ct d mX5_inVaults 0 0 [.ref x, .int m] h (tw_qi (fun r h1 => h1 = h) tw_nx) := by
  refine tw_of (by decide +kernel) (Nat.le_of_ble_eq_true rfl) ?_
  show tw_W d mX5_inVaults _ 0 [(0, .ref x), (1, .int m)] [] h 0 0
  have sp0 := tw_sp.rf hw
  refine tw_iconst (v := 0) dX5_inVaults_0 (by decide) ?_
  refine tw_istore_n [(2, .int 0), (0, .ref x), (1, .int m)] dX5_inVaults_1 rfl (by decide) rfl ?_
  refine tw_aload_n 1 dX5_inVaults_2 rfl rfl ?_
  obtain ⟨e1, f2, td_3, ca_4, ha_5, da_6, c1_7, c2_8, c3_9, c4_10, rfl, k11, k12, k13, k14, k15, k16, k17, k18, k19, k20, k21, k22, k23, k24, k25, k26, k27⟩ := sp0.1 x 11 kx (by decide)
  refine tw_get (v := .ref ca_4) rfl in_9 2 dX5_inVaults_3 w_142 rfl (by decide) f2 rfl ?_
  refine tw_astore_n [(3, .ref ca_4), (2, .int 0), (0, .ref x), (1, .int m)] dX5_inVaults_6 rfl (by decide) rfl ?_
  refine tw_aload_n 0 dX5_inVaults_7 rfl rfl ?_
  obtain ⟨e28, f29, F30, rfl, k31, pn32, pb33, px34, pf35⟩ := sp0.1 ca_4 8 k11 (by decide)
  refine tw_alen (v := nI 4) 4 rfl dX5_inVaults_8 f29 rfl ?_
  refine tw_istore [(4, .int (nI 4)), (3, .ref ca_4), (2, .int 0), (0, .ref x), (1, .int m)] dX5_inVaults_9 (by decide) rfl ?_
  refine tw_iconst (v := 0) dX5_inVaults_11 (by decide) ?_
  refine tw_istore [(5, .int 0), (4, .int (nI 4)), (3, .ref ca_4), (2, .int 0), (0, .ref x), (1, .int m)] dX5_inVaults_12 (by decide) rfl ?_
  have L40 : ∀ (r38 k37 : Nat) (x36 : Int32), 4 + 1 ≤ k37 + r38 → k37 ≤ 4 → tw_W d mX5_inVaults (tw_qi (fun r h1 => h1 = h) tw_nx) 14 [(0, .ref x), (1, .int m), (2, .int x36), (3, .ref ca_4), (4, .int (nI 4)), (5, .int (nI k37))] [] h 0 0 := by
    intro r38
    induction r38 with
    | zero => intro k37 x36 hk44 hk45; exact absurd hk44 (by omega)
    | succ r38 ih39 =>
      intro k37 x36 hk44 hk45
      refine tw_iload 5 dX5_inVaults_14 rfl ?_
      refine tw_iload 4 dX5_inVaults_16 rfl ?_
      refine tw_icmp_ge 50 dX5_inVaults_18 (by decide) (fun c46 => ?_) (fun c46 => ?_)
      · refine tw_iload_n 2 dX5_inVaults_50 rfl rfl ?_
        exact tw_iret dX5_inVaults_51 rfl (Or.inl ⟨_, rfl, rfl⟩)
      · have kl47 := tw_klt (N := 4) c46 hk45 (by decide)
        refine tw_aload_n 3 dX5_inVaults_21 rfl rfl ?_
        refine tw_iload 5 dX5_inVaults_22 rfl ?_
        cases k48 : F30 ((nI k37)).toNatClampNeg with
        | none =>
          refine tw_aald (v := .null) 4 rfl rfl dX5_inVaults_24 f29 (vp_in_nI (by omega) (by decide)) (by rw [k48]; rfl) ?_
          refine tw_astoreN [(6, .null), (0, .ref x), (1, .int m), (2, .int x36), (3, .ref ca_4), (4, .int (nI 4)), (5, .int (nI k37))] dX5_inVaults_25 (by decide) rfl ?_
          refine tw_aloadN 0 dX5_inVaults_27 rfl ?_
          refine tw_ifnullN 44 dX5_inVaults_29 (by decide) ?_
          obtain ⟨v50, ev50⟩ : ∃ y : Int32, y = (nI k37) + 1 := ⟨_, rfl⟩
          refine tw_iinc [(5, .int v50), (6, .null), (0, .ref x), (1, .int m), (2, .int x36), (3, .ref ca_4), (4, .int (nI 4))] 6 dX5_inVaults_44 rfl (by rw [ev50]; rfl) (by decide) rfl ?_
          refine tw_goto 14 dX5_inVaults_47 (by decide) ?_
          have qv50 := tw_nI3 ev50
          rw [qv50]
          refine tw_lv [2, 3, 4, 5, 6, 0] rfl ?_
          exact ih39 (k37 + 1) x36 (by omega) (by omega)
        | some q49 =>
          have k51 := k31 _ _ k48
          refine tw_aald (v := .ref q49) 4 rfl rfl dX5_inVaults_24 f29 (vp_in_nI (by omega) (by decide)) (by rw [k48]; rfl) ?_
          refine tw_astore [(6, .ref q49), (0, .ref x), (1, .int m), (2, .int x36), (3, .ref ca_4), (4, .int (nI 4)), (5, .int (nI k37))] dX5_inVaults_25 (by decide) rfl ?_
          refine tw_aload 0 dX5_inVaults_27 rfl ?_
          refine tw_ifnull dX5_inVaults_29 ?_
          refine tw_iload_n 3 dX5_inVaults_32 rfl rfl ?_
          refine tw_aload 0 dX5_inVaults_33 rfl ?_
          obtain ⟨e52, f53, n_54, r_55, c_56, go_57, so_58, v_59, rd_60, rf_61, t_62, rfl, k63, k64, k65, k66, k67, k68, k69, k70, k71⟩ := sp0.1 q49 2 k51 (by decide)
          refine tw_getN (v := .ref v_59) rfl in_4 3 dX5_inVaults_35 w_508 rfl (by decide) f53 rfl ?_
          refine tw_iload_n 2 dX5_inVaults_38 rfl rfl ?_
          obtain ⟨e72, f73, a_74, b_75, rfl, k76⟩ := sp0.1 v_59 1 k63 (by decide)
          refine tw_bi (tw_callVN (M := mX5_inVaults) (pc := 39) okX3_of dX5_inVaults_39 w_189 rfl f73 [.int m] [.int x36] rfl rfl ⟨by decide, by decide⟩ (Nat.le_of_ble_eq_true rfl) (c_X3_of d g τ h sp0.1 v_59 k63 m) 0 0 (Nat.le_of_ble_eq_true rfl) (Nat.le_of_ble_eq_true rfl)) (fun r79 h78 q77 => ?_) (fun E h1 q => q.elim)
          rw [q77]
          refine tw_iadd dX5_inVaults_42 ?_
          refine tw_nmi (fun v80 ev80 => ?_)
          refine tw_istore_n [(2, .int v80), (6, .ref q49), (0, .ref x), (1, .int m), (3, .ref ca_4), (4, .int (nI 4)), (5, .int (nI k37))] dX5_inVaults_43 rfl (by decide) rfl ?_
          obtain ⟨v81, ev81⟩ : ∃ y : Int32, y = (nI k37) + 1 := ⟨_, rfl⟩
          refine tw_iinc [(5, .int v81), (2, .int v80), (6, .ref q49), (0, .ref x), (1, .int m), (3, .ref ca_4), (4, .int (nI 4))] 6 dX5_inVaults_44 rfl (by rw [ev81]; rfl) (by decide) rfl ?_
          refine tw_goto 14 dX5_inVaults_47 (by decide) ?_
          have qv81 := tw_nI3 ev81
          rw [qv81]
          refine tw_lv [3, 4, 1, 5, 6, 0] rfl ?_
          exact ih39 (k37 + 1) v80 (by omega) (by omega)
  refine tw_lv [4, 5, 3, 2, 1, 0] rfl ?_
  exact L40 (4 + 1) 0 0 (by omega) (by omega)

set_option maxHeartbeats 4000000 in
set_option maxRecDepth 100000 in
theorem c_X5_inPurses (d : tw_D) (g : tw_G) (τ : tw_K) (h : tw_H) (hw : tw_wt d g τ h) (x : Nat) (kx : τ x = 11) (m : Int32) : tw_Ct d mX5_inPurses 0 0 [.ref x, .int m] h (tw_qi (fun r h1 => h1 = h) tw_nx) := by
  refine tw_of (by decide +kernel) (Nat.le_of_ble_eq_true rfl) ?_
  show tw_W d mX5_inPurses _ 0 [(0, .ref x), (1, .int m)] [] h 0 0
  have sp0 := tw_sp.rf hw
  refine tw_iconst (v := 0) dX5_inPurses_0 (by decide) ?_
  refine tw_istore_n [(2, .int 0), (0, .ref x), (1, .int m)] dX5_inPurses_1 rfl (by decide) rfl ?_
  refine tw_aload_n 1 dX5_inPurses_2 rfl rfl ?_
  obtain ⟨e1, f2, td_3, ca_4, ha_5, da_6, c1_7, c2_8, c3_9, c4_10, rfl, k11, k12, k13, k14, k15, k16, k17, k18, k19, k20, k21, k22, k23, k24, k25, k26, k27⟩ := sp0.1 x 11 kx (by decide)
  refine tw_get (v := .ref ha_5) rfl in_9 4 dX5_inPurses_3 w_144 rfl (by decide) f2 rfl ?_
  refine tw_astore_n [(3, .ref ha_5), (2, .int 0), (0, .ref x), (1, .int m)] dX5_inPurses_6 rfl (by decide) rfl ?_
  refine tw_aload_n 0 dX5_inPurses_7 rfl rfl ?_
  obtain ⟨e28, f29, F30, rfl, k31, pn32, pb33, px34, pf35⟩ := sp0.1 ha_5 9 k12 (by decide)
  refine tw_alen (v := nI 6) 5 rfl dX5_inPurses_8 f29 rfl ?_
  refine tw_istore [(4, .int (nI 6)), (3, .ref ha_5), (2, .int 0), (0, .ref x), (1, .int m)] dX5_inPurses_9 (by decide) rfl ?_
  refine tw_iconst (v := 0) dX5_inPurses_11 (by decide) ?_
  refine tw_istore [(5, .int 0), (4, .int (nI 6)), (3, .ref ha_5), (2, .int 0), (0, .ref x), (1, .int m)] dX5_inPurses_12 (by decide) rfl ?_
  have L40 : ∀ (r38 k37 : Nat) (x36 : Int32), 6 + 1 ≤ k37 + r38 → k37 ≤ 6 → tw_W d mX5_inPurses (tw_qi (fun r h1 => h1 = h) tw_nx) 14 [(0, .ref x), (1, .int m), (2, .int x36), (3, .ref ha_5), (4, .int (nI 6)), (5, .int (nI k37))] [] h 0 0 := by
    intro r38
    induction r38 with
    | zero => intro k37 x36 hk44 hk45; exact absurd hk44 (by omega)
    | succ r38 ih39 =>
      intro k37 x36 hk44 hk45
      refine tw_iload 5 dX5_inPurses_14 rfl ?_
      refine tw_iload 4 dX5_inPurses_16 rfl ?_
      refine tw_icmp_ge 50 dX5_inPurses_18 (by decide) (fun c46 => ?_) (fun c46 => ?_)
      · refine tw_iload_n 2 dX5_inPurses_50 rfl rfl ?_
        exact tw_iret dX5_inPurses_51 rfl (Or.inl ⟨_, rfl, rfl⟩)
      · have kl47 := tw_klt (N := 6) c46 hk45 (by decide)
        refine tw_aload_n 3 dX5_inPurses_21 rfl rfl ?_
        refine tw_iload 5 dX5_inPurses_22 rfl ?_
        cases k48 : F30 ((nI k37)).toNatClampNeg with
        | none =>
          refine tw_aald (v := .null) 5 rfl rfl dX5_inPurses_24 f29 (vp_in_nI (by omega) (by decide)) (by rw [k48]; rfl) ?_
          refine tw_astoreN [(6, .null), (0, .ref x), (1, .int m), (2, .int x36), (3, .ref ha_5), (4, .int (nI 6)), (5, .int (nI k37))] dX5_inPurses_25 (by decide) rfl ?_
          refine tw_aloadN 0 dX5_inPurses_27 rfl ?_
          refine tw_ifnullN 44 dX5_inPurses_29 (by decide) ?_
          obtain ⟨v50, ev50⟩ : ∃ y : Int32, y = (nI k37) + 1 := ⟨_, rfl⟩
          refine tw_iinc [(5, .int v50), (6, .null), (0, .ref x), (1, .int m), (2, .int x36), (3, .ref ha_5), (4, .int (nI 6))] 6 dX5_inPurses_44 rfl (by rw [ev50]; rfl) (by decide) rfl ?_
          refine tw_goto 14 dX5_inPurses_47 (by decide) ?_
          have qv50 := tw_nI3 ev50
          rw [qv50]
          refine tw_lv [2, 3, 4, 5, 6, 0] rfl ?_
          exact ih39 (k37 + 1) x36 (by omega) (by omega)
        | some q49 =>
          have k51 := k31 _ _ k48
          refine tw_aald (v := .ref q49) 5 rfl rfl dX5_inPurses_24 f29 (vp_in_nI (by omega) (by decide)) (by rw [k48]; rfl) ?_
          refine tw_astore [(6, .ref q49), (0, .ref x), (1, .int m), (2, .int x36), (3, .ref ha_5), (4, .int (nI 6)), (5, .int (nI k37))] dX5_inPurses_25 (by decide) rfl ?_
          refine tw_aload 0 dX5_inPurses_27 rfl ?_
          refine tw_ifnull dX5_inPurses_29 ?_
          refine tw_iload_n 3 dX5_inPurses_32 rfl rfl ?_
          refine tw_aload 0 dX5_inPurses_33 rfl ?_
          obtain ⟨e52, f53, n_54, ar_55, p_56, pl_57, go_58, rfl, k59, k60, k61, k62⟩ := sp0.1 q49 3 k51 (by decide)
          refine tw_getN (v := .ref p_56) rfl in_6 1 dX5_inPurses_35 w_639 rfl (by decide) f53 rfl ?_
          refine tw_iload_n 2 dX5_inPurses_38 rfl rfl ?_
          obtain ⟨e63, f64, a_65, b_66, rfl, k67⟩ := sp0.1 p_56 1 k59 (by decide)
          refine tw_bi (tw_callVN (M := mX5_inPurses) (pc := 39) okX3_of dX5_inPurses_39 w_189 rfl f64 [.int m] [.int x36] rfl rfl ⟨by decide, by decide⟩ (Nat.le_of_ble_eq_true rfl) (c_X3_of d g τ h sp0.1 p_56 k59 m) 0 0 (Nat.le_of_ble_eq_true rfl) (Nat.le_of_ble_eq_true rfl)) (fun r70 h69 q68 => ?_) (fun E h1 q => q.elim)
          rw [q68]
          refine tw_iadd dX5_inPurses_42 ?_
          refine tw_nmi (fun v71 ev71 => ?_)
          refine tw_istore_n [(2, .int v71), (6, .ref q49), (0, .ref x), (1, .int m), (3, .ref ha_5), (4, .int (nI 6)), (5, .int (nI k37))] dX5_inPurses_43 rfl (by decide) rfl ?_
          obtain ⟨v72, ev72⟩ : ∃ y : Int32, y = (nI k37) + 1 := ⟨_, rfl⟩
          refine tw_iinc [(5, .int v72), (2, .int v71), (6, .ref q49), (0, .ref x), (1, .int m), (3, .ref ha_5), (4, .int (nI 6))] 6 dX5_inPurses_44 rfl (by rw [ev72]; rfl) (by decide) rfl ?_
          refine tw_goto 14 dX5_inPurses_47 (by decide) ?_
          have qv72 := tw_nI3 ev72
          rw [qv72]
          refine tw_lv [3, 4, 1, 5, 6, 0] rfl ?_
          exact ih39 (k37 + 1) v71 (by omega) (by omega)
  refine tw_lv [4, 5, 3, 2, 1, 0] rfl ?_
  exact L40 (6 + 1) 0 0 (by omega) (by omega)

set_option maxHeartbeats 4000000 in
set_option maxRecDepth 100000 in
theorem c_X5_worldFact (d : tw_D) (g : tw_G) (τ : tw_K) (h : tw_H) (hw : tw_wt d g τ h) (x : Nat) (kx : τ x = 11) (m : Int32) (w : Int32) : tw_Ct d mX5_worldFact 0 0 [.ref x, .int m, .int w] h (tw_qi (fun r h1 => h1 = h) tw_nx) := by
  refine tw_of (by decide +kernel) (Nat.le_of_ble_eq_true rfl) ?_
  show tw_W d mX5_worldFact _ 0 [(0, .ref x), (1, .int m), (2, .int w)] [] h 0 0
  have sp0 := tw_sp.rf hw
  refine tw_iload_n 2 dX5_worldFact_0 rfl rfl ?_
  by_cases cs0 : (w).toInt < 0 ∨ 4 < (w).toInt
  · refine tw_tabOut 75 dX5_worldFact_1 cs0 (by decide) ?_
    refine tw_aload_n 0 dX5_worldFact_75 rfl rfl ?_
    obtain ⟨e1, f2, td_3, ca_4, ha_5, da_6, c1_7, c2_8, c3_9, c4_10, rfl, k11, k12, k13, k14, k15, k16, k17, k18, k19, k20, k21, k22, k23, k24, k25, k26, k27⟩ := sp0.1 x 11 kx (by decide)
    refine tw_get (v := .ref c4_10) rfl in_9 11 dX5_worldFact_76 w_151 rfl (by decide) f2 rfl ?_
    refine tw_iload_n 1 dX5_worldFact_79 rfl rfl ?_
    obtain ⟨e28, f29, a_30, b_31, rfl, k32⟩ := sp0.1 c4_10 1 k17 (by decide)
    refine tw_bi (tw_callVN (M := mX5_worldFact) (pc := 80) okX3_of dX5_worldFact_80 w_189 rfl f29 [.int m] [] rfl rfl ⟨by decide, by decide⟩ (Nat.le_of_ble_eq_true rfl) (c_X3_of d g τ h sp0.1 c4_10 k17 m) 0 0 (Nat.le_of_ble_eq_true rfl) (Nat.le_of_ble_eq_true rfl)) (fun r35 h34 q33 => ?_) (fun E h1 q => q.elim)
    rw [q33]
    exact tw_iret dX5_worldFact_83 rfl (Or.inl ⟨_, rfl, rfl⟩)
  · have csl : ¬ (w).toInt < 0 := fun q => cs0 (Or.inl q)
    have csh : ¬ 4 < (w).toInt := fun q => cs0 (Or.inr q)
    rcases (show (w).toInt = 0 ∨ (w).toInt = 1 ∨ (w).toInt = 2 ∨ (w).toInt = 3 ∨ (w).toInt = 4 by omega) with cs1 | cs1 | cs1 | cs1 | cs1
    · refine tw_tabIn (off := 35) 36 dX5_worldFact_1 csl csh (by rw [cs1]; rfl) (by decide) ?_
      refine tw_aload_n 0 dX5_worldFact_36 rfl rfl ?_
      refine tw_iload_n 1 dX5_worldFact_37 rfl rfl ?_
      obtain ⟨e36, f37, td_38, ca_39, ha_40, da_41, c1_42, c2_43, c3_44, c4_45, rfl, k46, k47, k48, k49, k50, k51, k52, k53, k54, k55, k56, k57, k58, k59, k60, k61, k62⟩ := sp0.1 x 11 kx (by decide)
      refine tw_bi (tw_callV (M := mX5_worldFact) (pc := 38) okX5_inVaults dX5_worldFact_38 w_185 rfl f37 [.int m] [] rfl rfl ⟨by decide, by decide⟩ (Nat.le_of_ble_eq_true rfl) (c_X5_inVaults d g τ h sp0.1 x kx m) 0 0 (Nat.le_of_ble_eq_true rfl) (Nat.le_of_ble_eq_true rfl)) (fun r65 h64 q63 => ?_) (fun E h1 q => q.elim)
      rw [q63]
      exact tw_iret dX5_worldFact_41 rfl (Or.inl ⟨_, rfl, rfl⟩)
    · refine tw_tabIn (off := 41) 42 dX5_worldFact_1 csl csh (by rw [cs1]; rfl) (by decide) ?_
      refine tw_aload_n 0 dX5_worldFact_42 rfl rfl ?_
      refine tw_iload_n 1 dX5_worldFact_43 rfl rfl ?_
      obtain ⟨e66, f67, td_68, ca_69, ha_70, da_71, c1_72, c2_73, c3_74, c4_75, rfl, k76, k77, k78, k79, k80, k81, k82, k83, k84, k85, k86, k87, k88, k89, k90, k91, k92⟩ := sp0.1 x 11 kx (by decide)
      refine tw_bi (tw_callV (M := mX5_worldFact) (pc := 44) okX5_inPurses dX5_worldFact_44 w_193 rfl f67 [.int m] [] rfl rfl ⟨by decide, by decide⟩ (Nat.le_of_ble_eq_true rfl) (c_X5_inPurses d g τ h sp0.1 x kx m) 0 0 (Nat.le_of_ble_eq_true rfl) (Nat.le_of_ble_eq_true rfl)) (fun r95 h94 q93 => ?_) (fun E h1 q => q.elim)
      rw [q93]
      exact tw_iret dX5_worldFact_47 rfl (Or.inl ⟨_, rfl, rfl⟩)
    · refine tw_tabIn (off := 47) 48 dX5_worldFact_1 csl csh (by rw [cs1]; rfl) (by decide) ?_
      refine tw_aload_n 0 dX5_worldFact_48 rfl rfl ?_
      obtain ⟨e96, f97, td_98, ca_99, ha_100, da_101, c1_102, c2_103, c3_104, c4_105, rfl, k106, k107, k108, k109, k110, k111, k112, k113, k114, k115, k116, k117, k118, k119, k120, k121, k122⟩ := sp0.1 x 11 kx (by decide)
      refine tw_get (v := .ref c1_102) rfl in_9 8 dX5_worldFact_49 w_148 rfl (by decide) f97 rfl ?_
      refine tw_iload_n 1 dX5_worldFact_52 rfl rfl ?_
      obtain ⟨e123, f124, a_125, b_126, rfl, k127⟩ := sp0.1 c1_102 1 k109 (by decide)
      refine tw_bi (tw_callVN (M := mX5_worldFact) (pc := 53) okX3_of dX5_worldFact_53 w_189 rfl f124 [.int m] [] rfl rfl ⟨by decide, by decide⟩ (Nat.le_of_ble_eq_true rfl) (c_X3_of d g τ h sp0.1 c1_102 k109 m) 0 0 (Nat.le_of_ble_eq_true rfl) (Nat.le_of_ble_eq_true rfl)) (fun r130 h129 q128 => ?_) (fun E h1 q => q.elim)
      rw [q128]
      exact tw_iret dX5_worldFact_56 rfl (Or.inl ⟨_, rfl, rfl⟩)
    · refine tw_tabIn (off := 56) 57 dX5_worldFact_1 csl csh (by rw [cs1]; rfl) (by decide) ?_
      refine tw_aload_n 0 dX5_worldFact_57 rfl rfl ?_
      obtain ⟨e131, f132, td_133, ca_134, ha_135, da_136, c1_137, c2_138, c3_139, c4_140, rfl, k141, k142, k143, k144, k145, k146, k147, k148, k149, k150, k151, k152, k153, k154, k155, k156, k157⟩ := sp0.1 x 11 kx (by decide)
      refine tw_get (v := .ref c2_138) rfl in_9 9 dX5_worldFact_58 w_149 rfl (by decide) f132 rfl ?_
      refine tw_iload_n 1 dX5_worldFact_61 rfl rfl ?_
      obtain ⟨e158, f159, a_160, b_161, rfl, k162⟩ := sp0.1 c2_138 1 k145 (by decide)
      refine tw_bi (tw_callVN (M := mX5_worldFact) (pc := 62) okX3_of dX5_worldFact_62 w_189 rfl f159 [.int m] [] rfl rfl ⟨by decide, by decide⟩ (Nat.le_of_ble_eq_true rfl) (c_X3_of d g τ h sp0.1 c2_138 k145 m) 0 0 (Nat.le_of_ble_eq_true rfl) (Nat.le_of_ble_eq_true rfl)) (fun r165 h164 q163 => ?_) (fun E h1 q => q.elim)
      rw [q163]
      exact tw_iret dX5_worldFact_65 rfl (Or.inl ⟨_, rfl, rfl⟩)
    · refine tw_tabIn (off := 65) 66 dX5_worldFact_1 csl csh (by rw [cs1]; rfl) (by decide) ?_
      refine tw_aload_n 0 dX5_worldFact_66 rfl rfl ?_
      obtain ⟨e166, f167, td_168, ca_169, ha_170, da_171, c1_172, c2_173, c3_174, c4_175, rfl, k176, k177, k178, k179, k180, k181, k182, k183, k184, k185, k186, k187, k188, k189, k190, k191, k192⟩ := sp0.1 x 11 kx (by decide)
      refine tw_get (v := .ref c3_174) rfl in_9 10 dX5_worldFact_67 w_150 rfl (by decide) f167 rfl ?_
      refine tw_iload_n 1 dX5_worldFact_70 rfl rfl ?_
      obtain ⟨e193, f194, a_195, b_196, rfl, k197⟩ := sp0.1 c3_174 1 k181 (by decide)
      refine tw_bi (tw_callVN (M := mX5_worldFact) (pc := 71) okX3_of dX5_worldFact_71 w_189 rfl f194 [.int m] [] rfl rfl ⟨by decide, by decide⟩ (Nat.le_of_ble_eq_true rfl) (c_X3_of d g τ h sp0.1 c3_174 k181 m) 0 0 (Nat.le_of_ble_eq_true rfl) (Nat.le_of_ble_eq_true rfl)) (fun r200 h199 q198 => ?_) (fun E h1 q => q.elim)
      rw [q198]
      exact tw_iret dX5_worldFact_74 rfl (Or.inl ⟨_, rfl, rfl⟩)

set_option maxHeartbeats 4000000 in
set_option maxRecDepth 100000 in
theorem c_X5_world (d : tw_D) (g : tw_G) (τ : tw_K) (h : tw_H) (hw : tw_wt d g τ h) (x : Nat) (kx : τ x = 11) (m : Int32) (w : Int32) : tw_Ct d mX5_world 20 120 [.ref x, .int m, .int w] h (tw_qi (fun r h1 => h1 = h) (fun E h1 => (E = tw_IAE) ∧ h1 = h)) := by
  refine tw_of (by decide +kernel) (Nat.le_of_ble_eq_true rfl) ?_
  show tw_W d mX5_world _ 0 [(0, .ref x), (1, .int m), (2, .int w)] [] h 20 120
  have sp0 := tw_sp.rf hw
  refine tw_iload_n 1 dX5_world_0 rfl rfl ?_
  refine tw_bv (tw_callS (M := mX5_world) (pc := 1) okX5_needMetal dX5_world_1 w_573 [.int m] [] rfl rfl ⟨by decide, by decide⟩ (Nat.le_of_ble_eq_true rfl) (c_X5_needMetal d g τ h sp0.1 m) 19 114 (Nat.le_of_ble_eq_true rfl) (Nat.le_of_ble_eq_true rfl)) (fun h2 q1 => ?_) (fun E h1 q => Or.inr ⟨E, rfl, (q.1), q.2⟩)
  obtain ⟨q1e, p4⟩ := q1
  rw [q1e]
  refine tw_iload_n 2 dX5_world_4 rfl rfl ?_
  refine tw_iconst (v := 0) dX5_world_5 (by decide) ?_
  refine tw_iconst (v := 5) dX5_world_6 (by decide) ?_
  refine tw_bv (tw_callS (M := mX5_world) (pc := 7) okX5_needRange dX5_world_7 w_399 [.int w, .int 0, .int 5] [] rfl rfl ⟨by decide, by decide⟩ (Nat.le_of_ble_eq_true rfl) (c_X5_needRange d g τ h sp0.1 w 0 5) 18 108 (Nat.le_of_ble_eq_true rfl) (Nat.le_of_ble_eq_true rfl)) (fun h6 q5 => ?_) (fun E h1 q => Or.inr ⟨E, rfl, (q.1), q.2⟩)
  obtain ⟨q5e, p8⟩ := q5
  rw [q5e]
  refine tw_aload_n 0 dX5_world_10 rfl rfl ?_
  refine tw_iload_n 1 dX5_world_11 rfl rfl ?_
  refine tw_iload_n 2 dX5_world_12 rfl rfl ?_
  obtain ⟨e9, f10, td_11, ca_12, ha_13, da_14, c1_15, c2_16, c3_17, c4_18, rfl, k19, k20, k21, k22, k23, k24, k25, k26, k27, k28, k29, k30, k31, k32, k33, k34, k35⟩ := sp0.1 x 11 kx (by decide)
  refine tw_bi (tw_callV (M := mX5_world) (pc := 13) okX5_worldFact dX5_world_13 w_245 rfl f10 [.int m, .int w] [] rfl rfl ⟨by decide, by decide⟩ (Nat.le_of_ble_eq_true rfl) (c_X5_worldFact d g τ h sp0.1 x kx m w) 18 108 (Nat.le_of_ble_eq_true rfl) (Nat.le_of_ble_eq_true rfl)) (fun r38 h37 q36 => ?_) (fun E h1 q => q.elim)
  rw [q36]
  exact tw_iret dX5_world_16 rfl (Or.inl ⟨_, rfl, rfl⟩)

set_option maxHeartbeats 4000000 in
set_option maxRecDepth 100000 in
theorem c_X5_comesOfTrip (d : tw_D) (g : tw_G) (τ : tw_K) (h : tw_H) (hw : tw_wt d g τ h) (a : Nat) (ka : τ a = 2) (b : Nat) (kb : τ b = 2) (m : Int32) (gr : Int32) : tw_Ct d mX5_comesOfTrip 0 0 [.ref a, .ref b, .int m, .int gr] h (tw_qi (fun r h1 => h1 = h) tw_nx) := by
  refine tw_of (by decide +kernel) (Nat.le_of_ble_eq_true rfl) ?_
  show tw_W d mX5_comesOfTrip _ 0 [(0, .ref a), (1, .ref b), (2, .int m), (3, .int gr)] [] h 0 0
  have sp0 := tw_sp.rf hw
  refine tw_aload_n 0 dX5_comesOfTrip_0 rfl rfl ?_
  refine tw_aload_n 1 dX5_comesOfTrip_1 rfl rfl ?_
  obtain ⟨e1, f2, n_3, r_4, c_5, go_6, so_7, v_8, rd_9, rf_10, t_11, rfl, k12, k13, k14, k15, k16, k17, k18, k19, k20⟩ := sp0.1 b 2 kb (by decide)
  refine tw_getN (v := .int n_3) rfl in_4 0 dX5_comesOfTrip_2 w_502 rfl (by decide) f2 rfl ?_
  obtain ⟨e21, f22, n_23, r_24, c_25, go_26, so_27, v_28, rd_29, rf_30, t_31, rfl, k32, k33, k34, k35, k36, k37, k38, k39, k40⟩ := sp0.1 a 2 ka (by decide)
  refine tw_bi (tw_callVN (M := mX5_comesOfTrip) (pc := 5) okX0_freightTo dX5_comesOfTrip_5 w_231 rfl f22 [.int n_3] [] rfl rfl ⟨by decide, by decide⟩ (Nat.le_of_ble_eq_true rfl) (c_X0_freightTo d g τ h sp0.1 a ka n_3) 0 0 (Nat.le_of_ble_eq_true rfl) (Nat.le_of_ble_eq_true rfl)) (fun r43 h42 q41 => ?_) (fun E h1 q => q.elim)
  rw [q41]
  refine tw_istore [(4, .int r43), (0, .ref a), (1, .ref b), (2, .int m), (3, .int gr)] dX5_comesOfTrip_8 (by decide) rfl ?_
  refine tw_aload_n 1 dX5_comesOfTrip_10 rfl rfl ?_
  refine tw_iload_n 3 dX5_comesOfTrip_11 rfl rfl ?_
  refine tw_iload_n 4 dX5_comesOfTrip_12 rfl rfl ?_
  refine tw_bi (tw_callVN (M := mX5_comesOfTrip) (pc := 13) okX0_minted dX5_comesOfTrip_13 w_299 rfl f22 [.int m, .int gr] [] rfl rfl ⟨by decide, by decide⟩ (Nat.le_of_ble_eq_true rfl) (c_X0_minted d g τ h sp0.1 a ka m gr) 0 0 (Nat.le_of_ble_eq_true rfl) (Nat.le_of_ble_eq_true rfl)) (fun r46 h45 q44 => ?_) (fun E h1 q => q.elim)
  rw [q44]
  refine tw_istore [(5, .int r46), (4, .int r43), (0, .ref a), (1, .ref b), (2, .int m), (3, .int gr)] dX5_comesOfTrip_16 (by decide) rfl ?_
  refine tw_iload 0 dX5_comesOfTrip_18 rfl ?_
  refine tw_iload 0 dX5_comesOfTrip_20 rfl ?_
  refine tw_iload 1 dX5_comesOfTrip_22 rfl ?_
  refine tw_bi (tw_callS (M := mX5_comesOfTrip) (pc := 24) okX5_thousandthsRoundedUp dX5_comesOfTrip_24 w_317 [.int r46, .int r43] [.int r46] rfl rfl ⟨by decide, by decide⟩ (Nat.le_of_ble_eq_true rfl) (c_X5_thousandthsRoundedUp d g τ h sp0.1 r46 r43) 0 0 (Nat.le_of_ble_eq_true rfl) (Nat.le_of_ble_eq_true rfl)) (fun r49 h48 q47 => ?_) (fun E h1 q => q.elim)
  rw [q47]
  refine tw_isub dX5_comesOfTrip_27 ?_
  refine tw_nmi (fun v50 ev50 => ?_)
  refine tw_istore [(6, .int v50), (5, .int r46), (4, .int r43), (0, .ref a), (1, .ref b), (2, .int m), (3, .int gr)] dX5_comesOfTrip_28 (by decide) rfl ?_
  refine tw_aload_n 4 dX5_comesOfTrip_30 rfl rfl ?_
  refine tw_iload_n 5 dX5_comesOfTrip_31 rfl rfl ?_
  refine tw_bi (tw_callS (M := mX5_comesOfTrip) (pc := 32) okX5_otherMetal dX5_comesOfTrip_32 w_318 [.int m] [.ref b] rfl rfl ⟨by decide, by decide⟩ (Nat.le_of_ble_eq_true rfl) (c_X5_otherMetal d g τ h sp0.1 m) 0 0 (Nat.le_of_ble_eq_true rfl) (Nat.le_of_ble_eq_true rfl)) (fun r53 h52 q51 => ?_) (fun E h1 q => q.elim)
  obtain ⟨q51e, p54⟩ := q51
  rw [q51e]
  refine tw_iload 0 dX5_comesOfTrip_35 rfl ?_
  refine tw_bi (tw_callVN (M := mX5_comesOfTrip) (pc := 37) okX0_minted dX5_comesOfTrip_37 w_299 rfl f2 [.int r53, .int v50] [] rfl rfl ⟨by decide, by decide⟩ (Nat.le_of_ble_eq_true rfl) (c_X0_minted d g τ h sp0.1 b kb r53 v50) 0 0 (Nat.le_of_ble_eq_true rfl) (Nat.le_of_ble_eq_true rfl)) (fun r57 h56 q55 => ?_) (fun E h1 q => q.elim)
  rw [q55]
  refine tw_istore [(7, .int r57), (6, .int v50), (5, .int r46), (4, .int r43), (0, .ref a), (1, .ref b), (2, .int m), (3, .int gr)] dX5_comesOfTrip_40 (by decide) rfl ?_
  refine tw_iload 0 dX5_comesOfTrip_42 rfl ?_
  refine tw_iload 0 dX5_comesOfTrip_44 rfl ?_
  refine tw_iload 3 dX5_comesOfTrip_46 rfl ?_
  refine tw_bi (tw_callS (M := mX5_comesOfTrip) (pc := 48) okX5_thousandthsRoundedUp dX5_comesOfTrip_48 w_317 [.int r57, .int r43] [.int r57] rfl rfl ⟨by decide, by decide⟩ (Nat.le_of_ble_eq_true rfl) (c_X5_thousandthsRoundedUp d g τ h sp0.1 r57 r43) 0 0 (Nat.le_of_ble_eq_true rfl) (Nat.le_of_ble_eq_true rfl)) (fun r60 h59 q58 => ?_) (fun E h1 q => q.elim)
  rw [q58]
  refine tw_isub dX5_comesOfTrip_51 ?_
  refine tw_nmi (fun v61 ev61 => ?_)
  exact tw_iret dX5_comesOfTrip_52 rfl (Or.inl ⟨_, rfl, rfl⟩)

set_option maxHeartbeats 4000000 in
set_option maxRecDepth 100000 in
theorem c_X5_trip (d : tw_D) (g : tw_G) (τ : tw_K) (h : tw_H) (hw : tw_wt d g τ h) (x : Nat) (kx : τ x = 11) (a : Int32) (b : Int32) (m : Int32) (gr : Int32) : tw_Ct d mX5_trip 20 120 [.ref x, .int a, .int b, .int m, .int gr] h (tw_qi (fun r h1 => h1 = h) (fun E h1 => (E = tw_IOE ∨ E = tw_IAE) ∧ h1 = h)) := by
  refine tw_of (by decide +kernel) (Nat.le_of_ble_eq_true rfl) ?_
  show tw_W d mX5_trip _ 0 [(0, .ref x), (1, .int a), (2, .int b), (3, .int m), (4, .int gr)] [] h 20 120
  have sp0 := tw_sp.rf hw
  refine tw_aload_n 0 dX5_trip_0 rfl rfl ?_
  refine tw_iload_n 1 dX5_trip_1 rfl rfl ?_
  obtain ⟨e1, f2, td_3, ca_4, ha_5, da_6, c1_7, c2_8, c3_9, c4_10, rfl, k11, k12, k13, k14, k15, k16, k17, k18, k19, k20, k21, k22, k23, k24, k25, k26, k27⟩ := sp0.1 x 11 kx (by decide)
  refine tw_br (tw_callV (M := mX5_trip) (pc := 2) okX5_countryAt dX5_trip_2 w_546 rfl f2 [.int a] [] rfl rfl ⟨by decide, by decide⟩ (Nat.le_of_ble_eq_true rfl) (c_X5_countryAt d g τ h sp0.1 x kx a) 19 114 (Nat.le_of_ble_eq_true rfl) (Nat.le_of_ble_eq_true rfl)) (fun r30 h29 q28 => ?_) (fun E h1 q => Or.inr ⟨E, rfl, (Or.inl q.1), q.2⟩)
  obtain ⟨q28e, p31⟩ := q28
  rw [q28e]
  refine tw_astore [(5, .ref r30), (0, .ref x), (1, .int a), (2, .int b), (3, .int m), (4, .int gr)] dX5_trip_5 (by decide) rfl ?_
  refine tw_aload_n 1 dX5_trip_7 rfl rfl ?_
  refine tw_iload_n 3 dX5_trip_8 rfl rfl ?_
  refine tw_br (tw_callV (M := mX5_trip) (pc := 9) okX5_countryAt dX5_trip_9 w_546 rfl f2 [.int b] [] rfl rfl ⟨by decide, by decide⟩ (Nat.le_of_ble_eq_true rfl) (c_X5_countryAt d g τ h sp0.1 x kx b) 18 108 (Nat.le_of_ble_eq_true rfl) (Nat.le_of_ble_eq_true rfl)) (fun r34 h33 q32 => ?_) (fun E h1 q => Or.inr ⟨E, rfl, (Or.inl q.1), q.2⟩)
  obtain ⟨q32e, p35⟩ := q32
  rw [q32e]
  refine tw_astore [(6, .ref r34), (5, .ref r30), (0, .ref x), (1, .int a), (2, .int b), (3, .int m), (4, .int gr)] dX5_trip_12 (by decide) rfl ?_
  refine tw_iload_n 3 dX5_trip_14 rfl rfl ?_
  refine tw_iload_n 4 dX5_trip_15 rfl rfl ?_
  refine tw_bv (tw_callS (M := mX5_trip) (pc := 16) okX5_needDifferent dX5_trip_16 w_599 [.int a, .int b] [] rfl rfl ⟨by decide, by decide⟩ (Nat.le_of_ble_eq_true rfl) (c_X5_needDifferent d g τ h sp0.1 a b) 17 102 (Nat.le_of_ble_eq_true rfl) (Nat.le_of_ble_eq_true rfl)) (fun h37 q36 => ?_) (fun E h1 q => Or.inr ⟨E, rfl, (Or.inr (q.1)), q.2⟩)
  rw [q36]
  refine tw_iload_n 5 dX5_trip_19 rfl rfl ?_
  refine tw_bv (tw_callS (M := mX5_trip) (pc := 20) okX5_needMetal dX5_trip_20 w_573 [.int m] [] rfl rfl ⟨by decide, by decide⟩ (Nat.le_of_ble_eq_true rfl) (c_X5_needMetal d g τ h sp0.1 m) 16 96 (Nat.le_of_ble_eq_true rfl) (Nat.le_of_ble_eq_true rfl)) (fun h40 q39 => ?_) (fun E h1 q => Or.inr ⟨E, rfl, (Or.inr (q.1)), q.2⟩)
  obtain ⟨q39e, p42⟩ := q39
  rw [q39e]
  refine tw_iload 6 dX5_trip_23 rfl ?_
  refine tw_iconst (v := 0) dX5_trip_25 (by decide) ?_
  refine tw_ldc (v := 99999) dX5_trip_26 w_470 ?_
  refine tw_bv (tw_callS (M := mX5_trip) (pc := 28) okX5_needRange dX5_trip_28 w_399 [.int gr, .int 0, .int 99999] [] rfl rfl ⟨by decide, by decide⟩ (Nat.le_of_ble_eq_true rfl) (c_X5_needRange d g τ h sp0.1 gr 0 99999) 15 90 (Nat.le_of_ble_eq_true rfl) (Nat.le_of_ble_eq_true rfl)) (fun h44 q43 => ?_) (fun E h1 q => Or.inr ⟨E, rfl, (Or.inr (q.1)), q.2⟩)
  obtain ⟨q43e, p46⟩ := q43
  rw [q43e]
  refine tw_aload 1 dX5_trip_31 rfl ?_
  refine tw_aload 0 dX5_trip_33 rfl ?_
  refine tw_iload_n 5 dX5_trip_35 rfl rfl ?_
  refine tw_iload 6 dX5_trip_36 rfl ?_
  refine tw_bi (tw_callS (M := mX5_trip) (pc := 38) okX5_comesOfTrip dX5_trip_38 w_296 [.ref r30, .ref r34, .int m, .int gr] [] rfl rfl ⟨by decide, by decide⟩ (Nat.le_of_ble_eq_true rfl) (c_X5_comesOfTrip d g τ h sp0.1 r30 p31 r34 p35 m gr) 15 90 (Nat.le_of_ble_eq_true rfl) (Nat.le_of_ble_eq_true rfl)) (fun r49 h48 q47 => ?_) (fun E h1 q => q.elim)
  rw [q47]
  exact tw_iret dX5_trip_41 rfl (Or.inl ⟨_, rfl, rfl⟩)

set_option maxHeartbeats 4000000 in
set_option maxRecDepth 100000 in
theorem c_X5_bestOver (d : tw_D) (g : tw_G) (τ : tw_K) (h : tw_H) (hw : tw_wt d g τ h) (x : Nat) (kx : τ x = 11) (a : Nat) (ka : τ a = 2) (m : Int32) (gr : Int32) : tw_Ct d mX5_bestOver 0 0 [.ref x, .ref a, .int m, .int gr] h (tw_qi (fun r h1 => h1 = h) tw_nx) := by
  refine tw_of (by decide +kernel) (Nat.le_of_ble_eq_true rfl) ?_
  show tw_W d mX5_bestOver _ 0 [(0, .ref x), (1, .ref a), (2, .int m), (3, .int gr)] [] h 0 0
  have sp0 := tw_sp.rf hw
  refine tw_iconst (v := -1) dX5_bestOver_0 (by decide) ?_
  refine tw_istore [(4, .int (-1)), (0, .ref x), (1, .ref a), (2, .int m), (3, .int gr)] dX5_bestOver_1 (by decide) rfl ?_
  refine tw_iload_n 4 dX5_bestOver_3 rfl rfl ?_
  refine tw_istore [(5, .int gr), (4, .int (-1)), (0, .ref x), (1, .ref a), (2, .int m), (3, .int gr)] dX5_bestOver_4 (by decide) rfl ?_
  refine tw_aload_n 2 dX5_bestOver_6 rfl rfl ?_
  obtain ⟨e1, f2, td_3, ca_4, ha_5, da_6, c1_7, c2_8, c3_9, c4_10, rfl, k11, k12, k13, k14, k15, k16, k17, k18, k19, k20, k21, k22, k23, k24, k25, k26, k27⟩ := sp0.1 x 11 kx (by decide)
  refine tw_get (v := .ref ca_4) rfl in_9 2 dX5_bestOver_7 w_142 rfl (by decide) f2 rfl ?_
  refine tw_astore [(6, .ref ca_4), (5, .int gr), (4, .int (-1)), (0, .ref x), (1, .ref a), (2, .int m), (3, .int gr)] dX5_bestOver_10 (by decide) rfl ?_
  refine tw_aload 0 dX5_bestOver_12 rfl ?_
  obtain ⟨e28, f29, F30, rfl, k31, pn32, pb33, px34, pf35⟩ := sp0.1 ca_4 8 k11 (by decide)
  refine tw_alen (v := nI 4) 4 rfl dX5_bestOver_14 f29 rfl ?_
  refine tw_istore [(7, .int (nI 4)), (6, .ref ca_4), (5, .int gr), (4, .int (-1)), (0, .ref x), (1, .ref a), (2, .int m), (3, .int gr)] dX5_bestOver_15 (by decide) rfl ?_
  refine tw_iconst (v := 0) dX5_bestOver_17 (by decide) ?_
  refine tw_istore [(8, .int 0), (7, .int (nI 4)), (6, .ref ca_4), (5, .int gr), (4, .int (-1)), (0, .ref x), (1, .ref a), (2, .int m), (3, .int gr)] dX5_bestOver_18 (by decide) rfl ?_
  have L41 : ∀ (r39 k38 : Nat) (x36 : Int32) (x37 : Int32), 4 + 1 ≤ k38 + r39 → k38 ≤ 4 → tw_W d mX5_bestOver (tw_qi (fun r h1 => h1 = h) tw_nx) 20 [(0, .ref x), (1, .ref a), (2, .int m), (3, .int gr), (4, .int x36), (5, .int x37), (6, .ref ca_4), (7, .int (nI 4)), (8, .int (nI k38))] [] h 0 0 := by
    intro r39
    induction r39 with
    | zero => intro k38 x36 x37 hk45 hk46; exact absurd hk45 (by omega)
    | succ r39 ih40 =>
      intro k38 x36 x37 hk45 hk46
      refine tw_iload 8 dX5_bestOver_20 rfl ?_
      refine tw_iload 7 dX5_bestOver_22 rfl ?_
      refine tw_icmp_ge 79 dX5_bestOver_24 (by decide) (fun c47 => ?_) (fun c47 => ?_)
      · refine tw_iload 4 dX5_bestOver_79 rfl ?_
        exact tw_iret dX5_bestOver_81 rfl (Or.inl ⟨_, rfl, rfl⟩)
      · have kl48 := tw_klt (N := 4) c47 hk46 (by decide)
        refine tw_aload 6 dX5_bestOver_27 rfl ?_
        refine tw_iload 8 dX5_bestOver_29 rfl ?_
        cases k49 : F30 ((nI k38)).toNatClampNeg with
        | none =>
          refine tw_aald (v := .null) 4 rfl rfl dX5_bestOver_31 f29 (vp_in_nI (by omega) (by decide)) (by rw [k49]; rfl) ?_
          refine tw_astoreN [(9, .null), (0, .ref x), (1, .ref a), (2, .int m), (3, .int gr), (4, .int x36), (5, .int x37), (6, .ref ca_4), (7, .int (nI 4)), (8, .int (nI k38))] dX5_bestOver_32 (by decide) rfl ?_
          refine tw_aloadN 0 dX5_bestOver_34 rfl ?_
          refine tw_ifnullN 73 dX5_bestOver_36 (by decide) ?_
          obtain ⟨v51, ev51⟩ : ∃ y : Int32, y = (nI k38) + 1 := ⟨_, rfl⟩
          refine tw_iinc [(8, .int v51), (9, .null), (0, .ref x), (1, .ref a), (2, .int m), (3, .int gr), (4, .int x36), (5, .int x37), (6, .ref ca_4), (7, .int (nI 4))] 9 dX5_bestOver_73 rfl (by rw [ev51]; rfl) (by decide) rfl ?_
          refine tw_goto 20 dX5_bestOver_76 (by decide) ?_
          have qv51 := tw_nI3 ev51
          rw [qv51]
          refine tw_lv [2, 3, 4, 5, 6, 7, 8, 9, 0] rfl ?_
          exact ih40 (k38 + 1) x36 x37 (by omega) (by omega)
        | some q50 =>
          have k52 := k31 _ _ k49
          refine tw_aald (v := .ref q50) 4 rfl rfl dX5_bestOver_31 f29 (vp_in_nI (by omega) (by decide)) (by rw [k49]; rfl) ?_
          refine tw_astore [(9, .ref q50), (0, .ref x), (1, .ref a), (2, .int m), (3, .int gr), (4, .int x36), (5, .int x37), (6, .ref ca_4), (7, .int (nI 4)), (8, .int (nI k38))] dX5_bestOver_32 (by decide) rfl ?_
          refine tw_aload 0 dX5_bestOver_34 rfl ?_
          refine tw_ifnull dX5_bestOver_36 ?_
          refine tw_aload 0 dX5_bestOver_39 rfl ?_
          refine tw_aload_n 2 dX5_bestOver_41 rfl rfl ?_
          refine tw_acmp_eq (rx := (some q50)) (ry := (some a)) 73 dX5_bestOver_42 (by decide) (fun c53 => ?_) (fun c53 => ?_)
          · obtain ⟨v54, ev54⟩ : ∃ y : Int32, y = (nI k38) + 1 := ⟨_, rfl⟩
            refine tw_iinc [(8, .int v54), (9, .ref q50), (0, .ref x), (1, .ref a), (2, .int m), (3, .int gr), (4, .int x36), (5, .int x37), (6, .ref ca_4), (7, .int (nI 4))] 9 dX5_bestOver_73 rfl (by rw [ev54]; rfl) (by decide) rfl ?_
            refine tw_goto 20 dX5_bestOver_76 (by decide) ?_
            have qv54 := tw_nI3 ev54
            rw [qv54]
            refine tw_lv [2, 3, 4, 5, 6, 7, 8, 9, 0] rfl ?_
            exact ih40 (k38 + 1) x36 x37 (by omega) (by omega)
          · refine tw_aload_n 2 dX5_bestOver_45 rfl rfl ?_
            refine tw_aload 0 dX5_bestOver_46 rfl ?_
            refine tw_iload_n 3 dX5_bestOver_48 rfl rfl ?_
            refine tw_iload_n 4 dX5_bestOver_49 rfl rfl ?_
            refine tw_bi (tw_callS (M := mX5_bestOver) (pc := 50) okX5_comesOfTrip dX5_bestOver_50 w_296 [.ref a, .ref q50, .int m, .int gr] [] rfl rfl ⟨by decide, by decide⟩ (Nat.le_of_ble_eq_true rfl) (c_X5_comesOfTrip d g τ h sp0.1 a ka q50 k52 m gr) 0 0 (Nat.le_of_ble_eq_true rfl) (Nat.le_of_ble_eq_true rfl)) (fun r57 h56 q55 => ?_) (fun E h1 q => q.elim)
            rw [q55]
            refine tw_istore [(10, .int r57), (9, .ref q50), (0, .ref x), (1, .ref a), (2, .int m), (3, .int gr), (4, .int x36), (5, .int x37), (6, .ref ca_4), (7, .int (nI 4)), (8, .int (nI k38))] dX5_bestOver_53 (by decide) rfl ?_
            refine tw_iload 0 dX5_bestOver_55 rfl ?_
            refine tw_iload 7 dX5_bestOver_57 rfl ?_
            refine tw_icmp_le 73 dX5_bestOver_59 (by decide) (fun c58 => ?_) (fun c58 => ?_)
            · obtain ⟨v59, ev59⟩ : ∃ y : Int32, y = (nI k38) + 1 := ⟨_, rfl⟩
              refine tw_iinc [(8, .int v59), (10, .int r57), (9, .ref q50), (0, .ref x), (1, .ref a), (2, .int m), (3, .int gr), (4, .int x36), (5, .int x37), (6, .ref ca_4), (7, .int (nI 4))] 10 dX5_bestOver_73 rfl (by rw [ev59]; rfl) (by decide) rfl ?_
              refine tw_goto 20 dX5_bestOver_76 (by decide) ?_
              have qv59 := tw_nI3 ev59
              rw [qv59]
              refine tw_lv [3, 4, 5, 6, 7, 8, 9, 10, 0] rfl ?_
              exact ih40 (k38 + 1) x36 x37 (by omega) (by omega)
            · refine tw_iload 0 dX5_bestOver_62 rfl ?_
              refine tw_istore [(5, .int r57), (10, .int r57), (9, .ref q50), (0, .ref x), (1, .ref a), (2, .int m), (3, .int gr), (4, .int x36), (6, .ref ca_4), (7, .int (nI 4)), (8, .int (nI k38))] dX5_bestOver_64 (by decide) rfl ?_
              refine tw_aload 2 dX5_bestOver_66 rfl ?_
              obtain ⟨e60, f61, n_62, r_63, c_64, go_65, so_66, v_67, rd_68, rf_69, t_70, rfl, k71, k72, k73, k74, k75, k76, k77, k78, k79⟩ := sp0.1 q50 2 k52 (by decide)
              refine tw_getN (v := .int n_62) rfl in_4 0 dX5_bestOver_68 w_502 rfl (by decide) f61 rfl ?_
              refine tw_istore [(4, .int n_62), (5, .int r57), (10, .int r57), (9, .ref q50), (0, .ref x), (1, .ref a), (2, .int m), (3, .int gr), (6, .ref ca_4), (7, .int (nI 4)), (8, .int (nI k38))] dX5_bestOver_71 (by decide) rfl ?_
              obtain ⟨v80, ev80⟩ : ∃ y : Int32, y = (nI k38) + 1 := ⟨_, rfl⟩
              refine tw_iinc [(8, .int v80), (4, .int n_62), (5, .int r57), (10, .int r57), (9, .ref q50), (0, .ref x), (1, .ref a), (2, .int m), (3, .int gr), (6, .ref ca_4), (7, .int (nI 4))] 10 dX5_bestOver_73 rfl (by rw [ev80]; rfl) (by decide) rfl ?_
              refine tw_goto 20 dX5_bestOver_76 (by decide) ?_
              have qv80 := tw_nI3 ev80
              rw [qv80]
              refine tw_lv [5, 6, 7, 8, 1, 2, 9, 10, 0] rfl ?_
              exact ih40 (k38 + 1) n_62 r57 (by omega) (by omega)
  refine tw_lv [5, 6, 7, 8, 4, 3, 2, 1, 0] rfl ?_
  exact L41 (4 + 1) 0 (-1) gr (by omega) (by omega)

set_option maxHeartbeats 4000000 in
set_option maxRecDepth 100000 in
theorem c_X5_bestTrip (d : tw_D) (g : tw_G) (τ : tw_K) (h : tw_H) (hw : tw_wt d g τ h) (x : Nat) (kx : τ x = 11) (a : Int32) (m : Int32) (gr : Int32) : tw_Ct d mX5_bestTrip 20 120 [.ref x, .int a, .int m, .int gr] h (tw_qi (fun r h1 => h1 = h) (fun E h1 => (E = tw_IOE ∨ E = tw_IAE) ∧ h1 = h)) := by
  refine tw_of (by decide +kernel) (Nat.le_of_ble_eq_true rfl) ?_
  show tw_W d mX5_bestTrip _ 0 [(0, .ref x), (1, .int a), (2, .int m), (3, .int gr)] [] h 20 120
  have sp0 := tw_sp.rf hw
  refine tw_aload_n 0 dX5_bestTrip_0 rfl rfl ?_
  refine tw_iload_n 1 dX5_bestTrip_1 rfl rfl ?_
  obtain ⟨e1, f2, td_3, ca_4, ha_5, da_6, c1_7, c2_8, c3_9, c4_10, rfl, k11, k12, k13, k14, k15, k16, k17, k18, k19, k20, k21, k22, k23, k24, k25, k26, k27⟩ := sp0.1 x 11 kx (by decide)
  refine tw_br (tw_callV (M := mX5_bestTrip) (pc := 2) okX5_countryAt dX5_bestTrip_2 w_546 rfl f2 [.int a] [] rfl rfl ⟨by decide, by decide⟩ (Nat.le_of_ble_eq_true rfl) (c_X5_countryAt d g τ h sp0.1 x kx a) 19 114 (Nat.le_of_ble_eq_true rfl) (Nat.le_of_ble_eq_true rfl)) (fun r30 h29 q28 => ?_) (fun E h1 q => Or.inr ⟨E, rfl, (Or.inl q.1), q.2⟩)
  obtain ⟨q28e, p31⟩ := q28
  rw [q28e]
  refine tw_astore [(4, .ref r30), (0, .ref x), (1, .int a), (2, .int m), (3, .int gr)] dX5_bestTrip_5 (by decide) rfl ?_
  refine tw_iload_n 3 dX5_bestTrip_7 rfl rfl ?_
  refine tw_bv (tw_callS (M := mX5_bestTrip) (pc := 8) okX5_needMetal dX5_bestTrip_8 w_573 [.int m] [] rfl rfl ⟨by decide, by decide⟩ (Nat.le_of_ble_eq_true rfl) (c_X5_needMetal d g τ h sp0.1 m) 18 108 (Nat.le_of_ble_eq_true rfl) (Nat.le_of_ble_eq_true rfl)) (fun h33 q32 => ?_) (fun E h1 q => Or.inr ⟨E, rfl, (Or.inr (q.1)), q.2⟩)
  obtain ⟨q32e, p35⟩ := q32
  rw [q32e]
  refine tw_iload_n 4 dX5_bestTrip_11 rfl rfl ?_
  refine tw_iconst (v := 0) dX5_bestTrip_12 (by decide) ?_
  refine tw_ldc (v := 99999) dX5_bestTrip_13 w_470 ?_
  refine tw_bv (tw_callS (M := mX5_bestTrip) (pc := 15) okX5_needRange dX5_bestTrip_15 w_399 [.int gr, .int 0, .int 99999] [] rfl rfl ⟨by decide, by decide⟩ (Nat.le_of_ble_eq_true rfl) (c_X5_needRange d g τ h sp0.1 gr 0 99999) 17 102 (Nat.le_of_ble_eq_true rfl) (Nat.le_of_ble_eq_true rfl)) (fun h37 q36 => ?_) (fun E h1 q => Or.inr ⟨E, rfl, (Or.inr (q.1)), q.2⟩)
  obtain ⟨q36e, p39⟩ := q36
  rw [q36e]
  refine tw_aload_n 1 dX5_bestTrip_18 rfl rfl ?_
  refine tw_aload 0 dX5_bestTrip_19 rfl ?_
  refine tw_iload_n 3 dX5_bestTrip_21 rfl rfl ?_
  refine tw_iload_n 4 dX5_bestTrip_22 rfl rfl ?_
  refine tw_bi (tw_callV (M := mX5_bestTrip) (pc := 23) okX5_bestOver dX5_bestTrip_23 w_292 rfl f2 [.ref r30, .int m, .int gr] [] rfl rfl ⟨by decide, by decide⟩ (Nat.le_of_ble_eq_true rfl) (c_X5_bestOver d g τ h sp0.1 x kx r30 p31 m gr) 17 102 (Nat.le_of_ble_eq_true rfl) (Nat.le_of_ble_eq_true rfl)) (fun r42 h41 q40 => ?_) (fun E h1 q => q.elim)
  rw [q40]
  exact tw_iret dX5_bestTrip_26 rfl (Or.inl ⟨_, rfl, rfl⟩)

set_option maxHeartbeats 4000000 in
set_option maxRecDepth 100000 in
theorem c_X5_isRest (d : tw_D) (g : tw_G) (τ : tw_K) (h : tw_H) (hw : tw_wt d g τ h) (x : Nat) (kx : τ x = 11) (gr : Int32) : tw_Ct d mX5_isRest 0 0 [.ref x, .int gr] h (tw_qi (fun r h1 => h1 = h ∧ tw_01 r) tw_nx) := by
  refine tw_of (by decide +kernel) (Nat.le_of_ble_eq_true rfl) ?_
  show tw_W d mX5_isRest _ 0 [(0, .ref x), (1, .int gr)] [] h 0 0
  have sp0 := tw_sp.rf hw
  refine tw_aload_n 0 dX5_isRest_0 rfl rfl ?_
  obtain ⟨e1, f2, td_3, ca_4, ha_5, da_6, c1_7, c2_8, c3_9, c4_10, rfl, k11, k12, k13, k14, k15, k16, k17, k18, k19, k20, k21, k22, k23, k24, k25, k26, k27⟩ := sp0.1 x 11 kx (by decide)
  refine tw_get (v := .ref ca_4) rfl in_9 2 dX5_isRest_1 w_142 rfl (by decide) f2 rfl ?_
  refine tw_astore_n [(2, .ref ca_4), (0, .ref x), (1, .int gr)] dX5_isRest_4 rfl (by decide) rfl ?_
  refine tw_aload_n 0 dX5_isRest_5 rfl rfl ?_
  obtain ⟨e28, f29, F30, rfl, k31, pn32, pb33, px34, pf35⟩ := sp0.1 ca_4 8 k11 (by decide)
  refine tw_alen (v := nI 4) 4 rfl dX5_isRest_6 f29 rfl ?_
  refine tw_istore_n [(3, .int (nI 4)), (2, .ref ca_4), (0, .ref x), (1, .int gr)] dX5_isRest_7 rfl (by decide) rfl ?_
  refine tw_iconst (v := 0) dX5_isRest_8 (by decide) ?_
  refine tw_istore [(4, .int 0), (3, .int (nI 4)), (2, .ref ca_4), (0, .ref x), (1, .int gr)] dX5_isRest_9 (by decide) rfl ?_
  have L39 : ∀ (r37 k36 : Nat), 4 + 1 ≤ k36 + r37 → k36 ≤ 4 → tw_W d mX5_isRest (tw_qi (fun r h1 => h1 = h ∧ tw_01 r) tw_nx) 11 [(0, .ref x), (1, .int gr), (2, .ref ca_4), (3, .int (nI 4)), (4, .int (nI k36))] [] h 0 0 := by
    intro r37
    induction r37 with
    | zero => intro k36  hk43 hk44; exact absurd hk43 (by omega)
    | succ r37 ih38 =>
      intro k36  hk43 hk44
      refine tw_iload 4 dX5_isRest_11 rfl ?_
      refine tw_iload_n 3 dX5_isRest_13 rfl rfl ?_
      refine tw_icmp_ge 60 dX5_isRest_14 (by decide) (fun c45 => ?_) (fun c45 => ?_)
      · refine tw_iconst (v := 1) dX5_isRest_60 (by decide) ?_
        exact tw_zret dX5_isRest_61 rfl rfl (Or.inl ⟨_, rfl, ⟨rfl, (by unfold tw_01; decide)⟩⟩)
      · have kl46 := tw_klt (N := 4) c45 hk44 (by decide)
        refine tw_aload_n 2 dX5_isRest_17 rfl rfl ?_
        refine tw_iload 4 dX5_isRest_18 rfl ?_
        cases k47 : F30 ((nI k36)).toNatClampNeg with
        | none =>
          refine tw_aald (v := .null) 4 rfl rfl dX5_isRest_20 f29 (vp_in_nI (by omega) (by decide)) (by rw [k47]; rfl) ?_
          refine tw_astoreN [(5, .null), (0, .ref x), (1, .int gr), (2, .ref ca_4), (3, .int (nI 4)), (4, .int (nI k36))] dX5_isRest_21 (by decide) rfl ?_
          refine tw_aloadN 0 dX5_isRest_23 rfl ?_
          refine tw_ifnullN 54 dX5_isRest_25 (by decide) ?_
          obtain ⟨v49, ev49⟩ : ∃ y : Int32, y = (nI k36) + 1 := ⟨_, rfl⟩
          refine tw_iinc [(4, .int v49), (5, .null), (0, .ref x), (1, .int gr), (2, .ref ca_4), (3, .int (nI 4))] 5 dX5_isRest_54 rfl (by rw [ev49]; rfl) (by decide) rfl ?_
          refine tw_goto 11 dX5_isRest_57 (by decide) ?_
          have qv49 := tw_nI3 ev49
          rw [qv49]
          refine tw_lv [2, 3, 4, 5, 0] rfl ?_
          exact ih38 (k36 + 1)  (by omega) (by omega)
        | some q48 =>
          have k50 := k31 _ _ k47
          refine tw_aald (v := .ref q48) 4 rfl rfl dX5_isRest_20 f29 (vp_in_nI (by omega) (by decide)) (by rw [k47]; rfl) ?_
          refine tw_astore [(5, .ref q48), (0, .ref x), (1, .int gr), (2, .ref ca_4), (3, .int (nI 4)), (4, .int (nI k36))] dX5_isRest_21 (by decide) rfl ?_
          refine tw_aload 0 dX5_isRest_23 rfl ?_
          refine tw_ifnull dX5_isRest_25 ?_
          refine tw_aload_n 1 dX5_isRest_28 rfl rfl ?_
          refine tw_aload 0 dX5_isRest_29 rfl ?_
          refine tw_iconst (v := 0) dX5_isRest_31 (by decide) ?_
          refine tw_iload_n 2 dX5_isRest_32 rfl rfl ?_
          refine tw_bi (tw_callV (M := mX5_isRest) (pc := 33) okX5_bestOver dX5_isRest_33 w_292 rfl f2 [.ref q48, .int 0, .int gr] [] rfl rfl ⟨by decide, by decide⟩ (Nat.le_of_ble_eq_true rfl) (c_X5_bestOver d g τ h sp0.1 x kx q48 k50 0 gr) 0 0 (Nat.le_of_ble_eq_true rfl) (Nat.le_of_ble_eq_true rfl)) (fun r53 h52 q51 => ?_) (fun E h1 q => q.elim)
          rw [q51]
          refine tw_iconst (v := -1) dX5_isRest_36 (by decide) ?_
          refine tw_icmp_ne 52 dX5_isRest_37 (by decide) (fun c54 => ?_) (fun c54 => ?_)
          · refine tw_iconst (v := 0) dX5_isRest_52 (by decide) ?_
            exact tw_zret dX5_isRest_53 rfl rfl (Or.inl ⟨_, rfl, ⟨rfl, (by unfold tw_01; decide)⟩⟩)
          · refine tw_aload_n 1 dX5_isRest_40 rfl rfl ?_
            refine tw_aload 0 dX5_isRest_41 rfl ?_
            refine tw_iconst (v := 1) dX5_isRest_43 (by decide) ?_
            refine tw_iload_n 2 dX5_isRest_44 rfl rfl ?_
            refine tw_bi (tw_callV (M := mX5_isRest) (pc := 45) okX5_bestOver dX5_isRest_45 w_292 rfl f2 [.ref q48, .int 1, .int gr] [] rfl rfl ⟨by decide, by decide⟩ (Nat.le_of_ble_eq_true rfl) (c_X5_bestOver d g τ h sp0.1 x kx q48 k50 1 gr) 0 0 (Nat.le_of_ble_eq_true rfl) (Nat.le_of_ble_eq_true rfl)) (fun r57 h56 q55 => ?_) (fun E h1 q => q.elim)
            rw [q55]
            refine tw_iconst (v := -1) dX5_isRest_48 (by decide) ?_
            refine tw_icmp_eq 54 dX5_isRest_49 (by decide) (fun c58 => ?_) (fun c58 => ?_)
            · obtain ⟨v59, ev59⟩ : ∃ y : Int32, y = (nI k36) + 1 := ⟨_, rfl⟩
              refine tw_iinc [(4, .int v59), (5, .ref q48), (0, .ref x), (1, .int gr), (2, .ref ca_4), (3, .int (nI 4))] 5 dX5_isRest_54 rfl (by rw [ev59]; rfl) (by decide) rfl ?_
              refine tw_goto 11 dX5_isRest_57 (by decide) ?_
              have qv59 := tw_nI3 ev59
              rw [qv59]
              refine tw_lv [2, 3, 4, 5, 0] rfl ?_
              exact ih38 (k36 + 1)  (by omega) (by omega)
            · refine tw_iconst (v := 0) dX5_isRest_52 (by decide) ?_
              exact tw_zret dX5_isRest_53 rfl rfl (Or.inl ⟨_, rfl, ⟨rfl, (by unfold tw_01; decide)⟩⟩)
  refine tw_lv [3, 4, 2, 1, 0] rfl ?_
  exact L39 (4 + 1) 0  (by omega) (by omega)

set_option maxHeartbeats 4000000 in
set_option maxRecDepth 100000 in
theorem c_X5_rest (d : tw_D) (g : tw_G) (τ : tw_K) (h : tw_H) (hw : tw_wt d g τ h) (x : Nat) (kx : τ x = 11) (gr : Int32) : tw_Ct d mX5_rest 20 120 [.ref x, .int gr] h (tw_qi (fun r h1 => h1 = h ∧ tw_01 r) (fun E h1 => (E = tw_IAE) ∧ h1 = h)) := by
  refine tw_of (by decide +kernel) (Nat.le_of_ble_eq_true rfl) ?_
  show tw_W d mX5_rest _ 0 [(0, .ref x), (1, .int gr)] [] h 20 120
  have sp0 := tw_sp.rf hw
  refine tw_iload_n 1 dX5_rest_0 rfl rfl ?_
  refine tw_iconst (v := 0) dX5_rest_1 (by decide) ?_
  refine tw_ldc (v := 99999) dX5_rest_2 w_470 ?_
  refine tw_bv (tw_callS (M := mX5_rest) (pc := 4) okX5_needRange dX5_rest_4 w_399 [.int gr, .int 0, .int 99999] [] rfl rfl ⟨by decide, by decide⟩ (Nat.le_of_ble_eq_true rfl) (c_X5_needRange d g τ h sp0.1 gr 0 99999) 19 114 (Nat.le_of_ble_eq_true rfl) (Nat.le_of_ble_eq_true rfl)) (fun h2 q1 => ?_) (fun E h1 q => Or.inr ⟨E, rfl, (q.1), q.2⟩)
  obtain ⟨q1e, p4⟩ := q1
  rw [q1e]
  refine tw_aload_n 0 dX5_rest_7 rfl rfl ?_
  refine tw_iload_n 1 dX5_rest_8 rfl rfl ?_
  obtain ⟨e5, f6, td_7, ca_8, ha_9, da_10, c1_11, c2_12, c3_13, c4_14, rfl, k15, k16, k17, k18, k19, k20, k21, k22, k23, k24, k25, k26, k27, k28, k29, k30, k31⟩ := sp0.1 x 11 kx (by decide)
  refine tw_bi (tw_callV (M := mX5_rest) (pc := 9) okX5_isRest dX5_rest_9 w_369 rfl f6 [.int gr] [] rfl rfl ⟨by decide, by decide⟩ (Nat.le_of_ble_eq_true rfl) (c_X5_isRest d g τ h sp0.1 x kx gr) 19 114 (Nat.le_of_ble_eq_true rfl) (Nat.le_of_ble_eq_true rfl)) (fun r34 h33 q32 => ?_) (fun E h1 q => q.elim)
  obtain ⟨q32e, p35⟩ := q32
  rw [q32e]
  exact tw_zret dX5_rest_12 rfl (tw_nar01 p35) (Or.inl ⟨_, rfl, ⟨rfl, p35⟩⟩)

set_option maxHeartbeats 4000000 in
set_option maxRecDepth 100000 in
theorem c_X5_firstDayShort (d : tw_D) (g : tw_G) (τ : tw_K) (h : tw_H) (hw : tw_wt d g τ h) (x : Nat) (kx : τ x = 11) (v : Nat) (kv : τ v = 1) (m : Int32) (gr : Int32) : tw_Ct d mX5_firstDayShort 0 0 [.ref x, .ref v, .int m, .int gr] h (tw_qi (fun r h1 => h1 = h) tw_nx) := by
  refine tw_of (by decide +kernel) (Nat.le_of_ble_eq_true rfl) ?_
  show tw_W d mX5_firstDayShort _ 0 [(0, .ref x), (1, .ref v), (2, .int m), (3, .int gr)] [] h 0 0
  have sp0 := tw_sp.rf hw
  refine tw_aload_n 1 dX5_firstDayShort_0 rfl rfl ?_
  refine tw_iload_n 2 dX5_firstDayShort_1 rfl rfl ?_
  obtain ⟨e1, f2, a_3, b_4, rfl, k5⟩ := sp0.1 v 1 kv (by decide)
  refine tw_bi (tw_callVN (M := mX5_firstDayShort) (pc := 2) okX3_of dX5_firstDayShort_2 w_189 rfl f2 [.int m] [] rfl rfl ⟨by decide, by decide⟩ (Nat.le_of_ble_eq_true rfl) (c_X3_of d g τ h sp0.1 v kv m) 0 0 (Nat.le_of_ble_eq_true rfl) (Nat.le_of_ble_eq_true rfl)) (fun r8 h7 q6 => ?_) (fun E h1 q => q.elim)
  rw [q6]
  refine tw_istore [(4, .int r8), (0, .ref x), (1, .ref v), (2, .int m), (3, .int gr)] dX5_firstDayShort_5 (by decide) rfl ?_
  refine tw_aload_n 1 dX5_firstDayShort_7 rfl rfl ?_
  obtain ⟨e9, f10, td_11, ca_12, ha_13, da_14, c1_15, c2_16, c3_17, c4_18, rfl, k19, k20, k21, k22, k23, k24, k25, k26, k27, k28, k29, k30, k31, k32, k33, k34, k35⟩ := sp0.1 x 11 kx (by decide)
  refine tw_get (v := .int td_11) rfl in_9 0 dX5_firstDayShort_8 w_140 rfl (by decide) f10 rfl ?_
  refine tw_istore [(5, .int td_11), (4, .int r8), (0, .ref x), (1, .ref v), (2, .int m), (3, .int gr)] dX5_firstDayShort_11 (by decide) rfl ?_
  have L40 : ∀ (r38 : Nat) (x36 : Int32) (x37 : Int32), (3001 - x37.toInt).toNat < r38 → tw_W d mX5_firstDayShort (tw_qi (fun r h1 => h1 = h) tw_nx) 13 [(0, .ref x), (1, .ref v), (2, .int m), (3, .int gr), (4, .int x36), (5, .int x37)] [] h 0 0 := by
    intro r38
    induction r38 with
    | zero => intro x36 x37 hk44; exact absurd hk44 (Nat.not_lt_zero _)
    | succ r38 ih39 =>
      intro x36 x37 hk44
      refine tw_iload 5 dX5_firstDayShort_13 rfl ?_
      refine tw_sipush (v := 3000) dX5_firstDayShort_15 (by decide) ?_
      refine tw_icmp_gt 75 dX5_firstDayShort_18 (by decide) (fun c46 => ?_) (fun c46 => ?_)
      · refine tw_iconst (v := -1) dX5_firstDayShort_75 (by decide) ?_
        exact tw_iret dX5_firstDayShort_76 rfl (Or.inl ⟨_, rfl, rfl⟩)
      · refine tw_iload_n 2 dX5_firstDayShort_21 rfl rfl ?_
        refine tw_iconst (v := 1) dX5_firstDayShort_22 (by decide) ?_
        refine tw_icmp_ne 54 dX5_firstDayShort_23 (by decide) (fun c47 => ?_) (fun c47 => ?_)
        · refine tw_iload 4 dX5_firstDayShort_54 rfl ?_
          refine tw_iload_n 3 dX5_firstDayShort_56 rfl rfl ?_
          refine tw_icmp_ge 63 dX5_firstDayShort_57 (by decide) (fun c48 => ?_) (fun c48 => ?_)
          · refine tw_iload 4 dX5_firstDayShort_63 rfl ?_
            refine tw_iload_n 3 dX5_firstDayShort_65 rfl rfl ?_
            refine tw_isub dX5_firstDayShort_66 ?_
            refine tw_nmi (fun v49 ev49 => ?_)
            refine tw_istore [(4, .int v49), (0, .ref x), (1, .ref v), (2, .int m), (3, .int gr), (5, .int x37)] dX5_firstDayShort_67 (by decide) rfl ?_
            obtain ⟨v50, ev50⟩ : ∃ y : Int32, y = x37 + 1 := ⟨_, rfl⟩
            refine tw_iinc [(5, .int v50), (4, .int v49), (0, .ref x), (1, .ref v), (2, .int m), (3, .int gr)] 5 dX5_firstDayShort_69 rfl (by rw [ev50]; rfl) (by decide) rfl ?_
            refine tw_goto 13 dX5_firstDayShort_72 (by decide) ?_
            refine tw_lv [2, 3, 4, 5, 1, 0] rfl ?_
            exact ih39 v49 v50 (tw_mle ev50 c46 hk44)
          · refine tw_iload 5 dX5_firstDayShort_60 rfl ?_
            exact tw_iret dX5_firstDayShort_62 rfl (Or.inl ⟨_, rfl, rfl⟩)
        · refine tw_iload 5 dX5_firstDayShort_26 rfl ?_
          refine tw_aload_n 0 dX5_firstDayShort_28 rfl rfl ?_
          refine tw_get (v := .int td_11) rfl in_9 0 dX5_firstDayShort_29 w_140 rfl (by decide) f10 rfl ?_
          refine tw_icmp_le 54 dX5_firstDayShort_32 (by decide) (fun c51 => ?_) (fun c51 => ?_)
          · refine tw_iload 4 dX5_firstDayShort_54 rfl ?_
            refine tw_iload_n 3 dX5_firstDayShort_56 rfl rfl ?_
            refine tw_icmp_ge 63 dX5_firstDayShort_57 (by decide) (fun c52 => ?_) (fun c52 => ?_)
            · refine tw_iload 4 dX5_firstDayShort_63 rfl ?_
              refine tw_iload_n 3 dX5_firstDayShort_65 rfl rfl ?_
              refine tw_isub dX5_firstDayShort_66 ?_
              refine tw_nmi (fun v53 ev53 => ?_)
              refine tw_istore [(4, .int v53), (0, .ref x), (1, .ref v), (2, .int m), (3, .int gr), (5, .int x37)] dX5_firstDayShort_67 (by decide) rfl ?_
              obtain ⟨v54, ev54⟩ : ∃ y : Int32, y = x37 + 1 := ⟨_, rfl⟩
              refine tw_iinc [(5, .int v54), (4, .int v53), (0, .ref x), (1, .ref v), (2, .int m), (3, .int gr)] 5 dX5_firstDayShort_69 rfl (by rw [ev54]; rfl) (by decide) rfl ?_
              refine tw_goto 13 dX5_firstDayShort_72 (by decide) ?_
              refine tw_lv [2, 3, 4, 5, 1, 0] rfl ?_
              exact ih39 v53 v54 (tw_mle ev54 c46 hk44)
            · refine tw_iload 5 dX5_firstDayShort_60 rfl ?_
              exact tw_iret dX5_firstDayShort_62 rfl (Or.inl ⟨_, rfl, rfl⟩)
          · refine tw_iload 5 dX5_firstDayShort_35 rfl ?_
            refine tw_bi (tw_callS (M := mX5_firstDayShort) (pc := 37) okX5_isWearDay dX5_firstDayShort_37 w_325 [.int x37] [] rfl rfl ⟨by decide, by decide⟩ (Nat.le_of_ble_eq_true rfl) (c_X5_isWearDay d g τ h sp0.1 x37) 0 0 (Nat.le_of_ble_eq_true rfl) (Nat.le_of_ble_eq_true rfl)) (fun r57 h56 q55 => ?_) (fun E h1 q => q.elim)
            obtain ⟨q55e, p58⟩ := q55
            rw [q55e]
            refine tw_if_eq 54 dX5_firstDayShort_40 (by decide) (fun c59 => ?_) (fun c59 => ?_)
            · refine tw_iload 4 dX5_firstDayShort_54 rfl ?_
              refine tw_iload_n 3 dX5_firstDayShort_56 rfl rfl ?_
              refine tw_icmp_ge 63 dX5_firstDayShort_57 (by decide) (fun c60 => ?_) (fun c60 => ?_)
              · refine tw_iload 4 dX5_firstDayShort_63 rfl ?_
                refine tw_iload_n 3 dX5_firstDayShort_65 rfl rfl ?_
                refine tw_isub dX5_firstDayShort_66 ?_
                refine tw_nmi (fun v61 ev61 => ?_)
                refine tw_istore [(4, .int v61), (0, .ref x), (1, .ref v), (2, .int m), (3, .int gr), (5, .int x37)] dX5_firstDayShort_67 (by decide) rfl ?_
                obtain ⟨v62, ev62⟩ : ∃ y : Int32, y = x37 + 1 := ⟨_, rfl⟩
                refine tw_iinc [(5, .int v62), (4, .int v61), (0, .ref x), (1, .ref v), (2, .int m), (3, .int gr)] 5 dX5_firstDayShort_69 rfl (by rw [ev62]; rfl) (by decide) rfl ?_
                refine tw_goto 13 dX5_firstDayShort_72 (by decide) ?_
                refine tw_lv [2, 3, 4, 5, 1, 0] rfl ?_
                exact ih39 v61 v62 (tw_mle ev62 c46 hk44)
              · refine tw_iload 5 dX5_firstDayShort_60 rfl ?_
                exact tw_iret dX5_firstDayShort_62 rfl (Or.inl ⟨_, rfl, rfl⟩)
            · refine tw_iload 4 dX5_firstDayShort_43 rfl ?_
              refine tw_iload 4 dX5_firstDayShort_45 rfl ?_
              refine tw_sipush (v := 10000) dX5_firstDayShort_47 (by decide) ?_
              refine tw_idiv dX5_firstDayShort_50 (by decide) ?_
              refine tw_nmi (fun v63 ev63 => ?_)
              refine tw_isub dX5_firstDayShort_51 ?_
              refine tw_nmi (fun v64 ev64 => ?_)
              refine tw_istore [(4, .int v64), (0, .ref x), (1, .ref v), (2, .int m), (3, .int gr), (5, .int x37)] dX5_firstDayShort_52 (by decide) rfl ?_
              refine tw_iload 0 dX5_firstDayShort_54 rfl ?_
              refine tw_iload_n 4 dX5_firstDayShort_56 rfl rfl ?_
              refine tw_icmp_ge 63 dX5_firstDayShort_57 (by decide) (fun c65 => ?_) (fun c65 => ?_)
              · refine tw_iload 0 dX5_firstDayShort_63 rfl ?_
                refine tw_iload_n 4 dX5_firstDayShort_65 rfl rfl ?_
                refine tw_isub dX5_firstDayShort_66 ?_
                refine tw_nmi (fun v66 ev66 => ?_)
                refine tw_istore [(4, .int v66), (0, .ref x), (1, .ref v), (2, .int m), (3, .int gr), (5, .int x37)] dX5_firstDayShort_67 (by decide) rfl ?_
                obtain ⟨v67, ev67⟩ : ∃ y : Int32, y = x37 + 1 := ⟨_, rfl⟩
                refine tw_iinc [(5, .int v67), (4, .int v66), (0, .ref x), (1, .ref v), (2, .int m), (3, .int gr)] 5 dX5_firstDayShort_69 rfl (by rw [ev67]; rfl) (by decide) rfl ?_
                refine tw_goto 13 dX5_firstDayShort_72 (by decide) ?_
                refine tw_lv [2, 3, 4, 5, 1, 0] rfl ?_
                exact ih39 v66 v67 (tw_mle ev67 c46 hk44)
              · refine tw_iload 5 dX5_firstDayShort_60 rfl ?_
                exact tw_iret dX5_firstDayShort_62 rfl (Or.inl ⟨_, rfl, rfl⟩)
  refine tw_lv [2, 3, 4, 5, 1, 0] rfl ?_
  exact L40 _ r8 td_11 (Nat.lt_succ_self _)

set_option maxHeartbeats 4000000 in
set_option maxRecDepth 100000 in
theorem c_X5_last (d : tw_D) (g : tw_G) (τ : tw_K) (h : tw_H) (hw : tw_wt d g τ h) (x : Nat) (kx : τ x = 11) (a : Int32) (m : Int32) (gr : Int32) : tw_Ct d mX5_last 20 120 [.ref x, .int a, .int m, .int gr] h (tw_qi (fun r h1 => h1 = h) (fun E h1 => (E = tw_IOE ∨ E = tw_IAE) ∧ h1 = h)) := by
  refine tw_of (by decide +kernel) (Nat.le_of_ble_eq_true rfl) ?_
  show tw_W d mX5_last _ 0 [(0, .ref x), (1, .int a), (2, .int m), (3, .int gr)] [] h 20 120
  have sp0 := tw_sp.rf hw
  refine tw_aload_n 0 dX5_last_0 rfl rfl ?_
  refine tw_iload_n 1 dX5_last_1 rfl rfl ?_
  obtain ⟨e1, f2, td_3, ca_4, ha_5, da_6, c1_7, c2_8, c3_9, c4_10, rfl, k11, k12, k13, k14, k15, k16, k17, k18, k19, k20, k21, k22, k23, k24, k25, k26, k27⟩ := sp0.1 x 11 kx (by decide)
  refine tw_br (tw_callV (M := mX5_last) (pc := 2) okX5_countryAt dX5_last_2 w_546 rfl f2 [.int a] [] rfl rfl ⟨by decide, by decide⟩ (Nat.le_of_ble_eq_true rfl) (c_X5_countryAt d g τ h sp0.1 x kx a) 19 114 (Nat.le_of_ble_eq_true rfl) (Nat.le_of_ble_eq_true rfl)) (fun r30 h29 q28 => ?_) (fun E h1 q => Or.inr ⟨E, rfl, (Or.inl q.1), q.2⟩)
  obtain ⟨q28e, p31⟩ := q28
  rw [q28e]
  refine tw_astore [(4, .ref r30), (0, .ref x), (1, .int a), (2, .int m), (3, .int gr)] dX5_last_5 (by decide) rfl ?_
  refine tw_iload_n 3 dX5_last_7 rfl rfl ?_
  refine tw_bv (tw_callS (M := mX5_last) (pc := 8) okX5_needMetal dX5_last_8 w_573 [.int m] [] rfl rfl ⟨by decide, by decide⟩ (Nat.le_of_ble_eq_true rfl) (c_X5_needMetal d g τ h sp0.1 m) 18 108 (Nat.le_of_ble_eq_true rfl) (Nat.le_of_ble_eq_true rfl)) (fun h33 q32 => ?_) (fun E h1 q => Or.inr ⟨E, rfl, (Or.inr (q.1)), q.2⟩)
  obtain ⟨q32e, p35⟩ := q32
  rw [q32e]
  refine tw_iload_n 4 dX5_last_11 rfl rfl ?_
  refine tw_iconst (v := 1) dX5_last_12 (by decide) ?_
  refine tw_ldc (v := 99999) dX5_last_13 w_470 ?_
  refine tw_bv (tw_callS (M := mX5_last) (pc := 15) okX5_needRange dX5_last_15 w_399 [.int gr, .int 1, .int 99999] [] rfl rfl ⟨by decide, by decide⟩ (Nat.le_of_ble_eq_true rfl) (c_X5_needRange d g τ h sp0.1 gr 1 99999) 17 102 (Nat.le_of_ble_eq_true rfl) (Nat.le_of_ble_eq_true rfl)) (fun h37 q36 => ?_) (fun E h1 q => Or.inr ⟨E, rfl, (Or.inr (q.1)), q.2⟩)
  obtain ⟨q36e, p39⟩ := q36
  rw [q36e]
  refine tw_aload_n 1 dX5_last_18 rfl rfl ?_
  refine tw_aload 0 dX5_last_19 rfl ?_
  obtain ⟨e40, f41, n_42, r_43, c_44, go_45, so_46, v_47, rd_48, rf_49, t_50, rfl, k51, k52, k53, k54, k55, k56, k57, k58, k59⟩ := sp0.1 r30 2 p31 (by decide)
  refine tw_getN (v := .ref v_47) rfl in_4 3 dX5_last_21 w_508 rfl (by decide) f41 rfl ?_
  refine tw_iload_n 3 dX5_last_24 rfl rfl ?_
  refine tw_iload_n 4 dX5_last_25 rfl rfl ?_
  refine tw_bi (tw_callV (M := mX5_last) (pc := 26) okX5_firstDayShort dX5_last_26 w_321 rfl f2 [.ref v_47, .int m, .int gr] [] rfl rfl ⟨by decide, by decide⟩ (Nat.le_of_ble_eq_true rfl) (c_X5_firstDayShort d g τ h sp0.1 x kx v_47 k51 m gr) 17 102 (Nat.le_of_ble_eq_true rfl) (Nat.le_of_ble_eq_true rfl)) (fun r62 h61 q60 => ?_) (fun E h1 q => q.elim)
  rw [q60]
  exact tw_iret dX5_last_29 rfl (Or.inl ⟨_, rfl, rfl⟩)

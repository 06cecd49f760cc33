/-! the class's methods over the typed heap. Laid by wip/p5/mkclass.py. -/
set_option maxHeartbeats 4000000 in
set_option maxRecDepth 100000 in
theorem c_X5_countryAt (d : tw_D) (g : tw_G) (τ : tw_K) (h : tw_H) (hw : tw_wt d g τ h) (x : Nat) (kx : τ x = 11) (n : Int32) : tw_Ct d mX5_countryAt 1 6 [.ref x, .int n] h (tw_qr (fun r h1 => h1 = h ∧ τ r = 2) (fun E h1 => (E = tw_IOE) ∧ h1 = h)) := by
  refine tw_of (by decide +kernel) (Nat.le_of_ble_eq_true rfl) ?_
  show tw_W d mX5_countryAt _ 0 [(0, .ref x), (1, .int n)] [] h 1 6
  have sp0 := tw_sp.rf hw
  refine tw_iload_n 1 dX5_countryAt_0 rfl rfl ?_
  refine tw_if_lt 22 dX5_countryAt_1 (by decide) (fun c1 => ?_) (fun c1 => ?_)
  · exact tw_throwSW (i := 2) (by decide +kernel) w_550 w_96 rfl at_IOE dX5_countryAt_22 dX5_countryAt_25 dX5_countryAt_26 dX5_countryAt_29 dX5_countryAt_32 ⟨by decide, Nat.le_of_ble_eq_true rfl⟩ (Nat.le_of_ble_eq_true rfl) (Nat.le_of_ble_eq_true rfl) (Or.inr ⟨_, rfl, (rfl), rfl⟩)
  · refine tw_iload_n 1 dX5_countryAt_4 rfl rfl ?_
    refine tw_aload_n 0 dX5_countryAt_5 rfl rfl ?_
    obtain ⟨e2, f3, td_4, ca_5, ha_6, da_7, c1_8, c2_9, c3_10, c4_11, rfl, k12, k13, k14, k15, k16, k17, k18, k19, k20, k21, k22, k23, k24⟩ := sp0.1 x 11 kx (by decide)
    refine tw_get (v := .ref ca_5) rfl in_9 2 dX5_countryAt_6 w_142 rfl (by decide) f3 rfl ?_
    obtain ⟨e25, f26, F27, rfl, k28, pn29, pb30, px31, pf32⟩ := sp0.1 ca_5 8 k12 (by decide)
    refine tw_alen (v := nI 4) 4 rfl dX5_countryAt_9 f26 rfl ?_
    refine tw_icmp_ge 22 dX5_countryAt_10 (by decide) (fun c33 => ?_) (fun c33 => ?_)
    · exact tw_throwSW (i := 2) (by decide +kernel) w_550 w_96 rfl at_IOE dX5_countryAt_22 dX5_countryAt_25 dX5_countryAt_26 dX5_countryAt_29 dX5_countryAt_32 ⟨by decide, Nat.le_of_ble_eq_true rfl⟩ (Nat.le_of_ble_eq_true rfl) (Nat.le_of_ble_eq_true rfl) (Or.inr ⟨_, rfl, (rfl), rfl⟩)
    · refine tw_aload_n 0 dX5_countryAt_13 rfl rfl ?_
      refine tw_get (v := .ref ca_5) rfl in_9 2 dX5_countryAt_14 w_142 rfl (by decide) f3 rfl ?_
      refine tw_iload_n 1 dX5_countryAt_17 rfl rfl ?_
      cases k34 : F27 (n).toNatClampNeg with
      | none =>
        refine tw_aald (v := .null) 4 rfl rfl dX5_countryAt_18 f26 (tw_ib2 c1 c33 (by decide)) (by rw [k34]; rfl) ?_
        refine tw_ifnonnullN dX5_countryAt_19 ?_
        exact tw_throwSW (i := 2) (by decide +kernel) w_550 w_96 rfl at_IOE dX5_countryAt_22 dX5_countryAt_25 dX5_countryAt_26 dX5_countryAt_29 dX5_countryAt_32 ⟨by decide, Nat.le_of_ble_eq_true rfl⟩ (Nat.le_of_ble_eq_true rfl) (Nat.le_of_ble_eq_true rfl) (Or.inr ⟨_, rfl, (rfl), rfl⟩)
      | some q35 =>
        have k36 := k28 _ _ k34
        refine tw_aald (v := .ref q35) 4 rfl rfl dX5_countryAt_18 f26 (tw_ib2 c1 c33 (by decide)) (by rw [k34]; rfl) ?_
        refine tw_ifnonnull 33 dX5_countryAt_19 (by decide) ?_
        refine tw_aload_n 0 dX5_countryAt_33 rfl rfl ?_
        refine tw_get (v := .ref ca_5) rfl in_9 2 dX5_countryAt_34 w_142 rfl (by decide) f3 rfl ?_
        refine tw_iload_n 1 dX5_countryAt_37 rfl rfl ?_
        refine tw_aald (v := .ref q35) 4 rfl rfl dX5_countryAt_38 f26 (tw_ib2 c1 c33 (by decide)) (by rw [k34]; rfl) ?_
        exact tw_aret dX5_countryAt_39 rfl (Or.inl ⟨_, rfl⟩) (Or.inl ⟨_, rfl, ⟨rfl, k36⟩⟩)

set_option maxHeartbeats 4000000 in
set_option maxRecDepth 100000 in
theorem c_X5_houseAt (d : tw_D) (g : tw_G) (τ : tw_K) (h : tw_H) (hw : tw_wt d g τ h) (x : Nat) (kx : τ x = 11) (n : Int32) : tw_Ct d mX5_houseAt 1 6 [.ref x, .int n] h (tw_qr (fun r h1 => h1 = h ∧ τ r = 3) (fun E h1 => (E = tw_IOE) ∧ h1 = h)) := by
  refine tw_of (by decide +kernel) (Nat.le_of_ble_eq_true rfl) ?_
  show tw_W d mX5_houseAt _ 0 [(0, .ref x), (1, .int n)] [] h 1 6
  have sp0 := tw_sp.rf hw
  refine tw_iload_n 1 dX5_houseAt_0 rfl rfl ?_
  refine tw_if_lt 22 dX5_houseAt_1 (by decide) (fun c1 => ?_) (fun c1 => ?_)
  · exact tw_throwSW (i := 8) (by decide +kernel) w_550 w_96 rfl at_IOE dX5_houseAt_22 dX5_houseAt_25 dX5_houseAt_26 dX5_houseAt_29 dX5_houseAt_32 ⟨by decide, Nat.le_of_ble_eq_true rfl⟩ (Nat.le_of_ble_eq_true rfl) (Nat.le_of_ble_eq_true rfl) (Or.inr ⟨_, rfl, (rfl), rfl⟩)
  · refine tw_iload_n 1 dX5_houseAt_4 rfl rfl ?_
    refine tw_aload_n 0 dX5_houseAt_5 rfl rfl ?_
    obtain ⟨e2, f3, td_4, ca_5, ha_6, da_7, c1_8, c2_9, c3_10, c4_11, rfl, k12, k13, k14, k15, k16, k17, k18, k19, k20, k21, k22, k23, k24⟩ := sp0.1 x 11 kx (by decide)
    refine tw_get (v := .ref ha_6) rfl in_9 4 dX5_houseAt_6 w_144 rfl (by decide) f3 rfl ?_
    obtain ⟨e25, f26, F27, rfl, k28, pn29, pb30, px31⟩ := sp0.1 ha_6 9 k13 (by decide)
    refine tw_alen (v := nI 6) 5 rfl dX5_houseAt_9 f26 rfl ?_
    refine tw_icmp_ge 22 dX5_houseAt_10 (by decide) (fun c32 => ?_) (fun c32 => ?_)
    · exact tw_throwSW (i := 8) (by decide +kernel) w_550 w_96 rfl at_IOE dX5_houseAt_22 dX5_houseAt_25 dX5_houseAt_26 dX5_houseAt_29 dX5_houseAt_32 ⟨by decide, Nat.le_of_ble_eq_true rfl⟩ (Nat.le_of_ble_eq_true rfl) (Nat.le_of_ble_eq_true rfl) (Or.inr ⟨_, rfl, (rfl), rfl⟩)
    · refine tw_aload_n 0 dX5_houseAt_13 rfl rfl ?_
      refine tw_get (v := .ref ha_6) rfl in_9 4 dX5_houseAt_14 w_144 rfl (by decide) f3 rfl ?_
      refine tw_iload_n 1 dX5_houseAt_17 rfl rfl ?_
      cases k33 : F27 (n).toNatClampNeg with
      | none =>
        refine tw_aald (v := .null) 5 rfl rfl dX5_houseAt_18 f26 (tw_ib2 c1 c32 (by decide)) (by rw [k33]; rfl) ?_
        refine tw_ifnonnullN dX5_houseAt_19 ?_
        exact tw_throwSW (i := 8) (by decide +kernel) w_550 w_96 rfl at_IOE dX5_houseAt_22 dX5_houseAt_25 dX5_houseAt_26 dX5_houseAt_29 dX5_houseAt_32 ⟨by decide, Nat.le_of_ble_eq_true rfl⟩ (Nat.le_of_ble_eq_true rfl) (Nat.le_of_ble_eq_true rfl) (Or.inr ⟨_, rfl, (rfl), rfl⟩)
      | some q34 =>
        have k35 := k28 _ _ k33
        refine tw_aald (v := .ref q34) 5 rfl rfl dX5_houseAt_18 f26 (tw_ib2 c1 c32 (by decide)) (by rw [k33]; rfl) ?_
        refine tw_ifnonnull 33 dX5_houseAt_19 (by decide) ?_
        refine tw_aload_n 0 dX5_houseAt_33 rfl rfl ?_
        refine tw_get (v := .ref ha_6) rfl in_9 4 dX5_houseAt_34 w_144 rfl (by decide) f3 rfl ?_
        refine tw_iload_n 1 dX5_houseAt_37 rfl rfl ?_
        refine tw_aald (v := .ref q34) 5 rfl rfl dX5_houseAt_38 f26 (tw_ib2 c1 c32 (by decide)) (by rw [k33]; rfl) ?_
        exact tw_aret dX5_houseAt_39 rfl (Or.inl ⟨_, rfl⟩) (Or.inl ⟨_, rfl, ⟨rfl, k35⟩⟩)

set_option maxHeartbeats 4000000 in
set_option maxRecDepth 100000 in
theorem c_X5_debtAt (d : tw_D) (g : tw_G) (τ : tw_K) (h : tw_H) (hw : tw_wt d g τ h) (x : Nat) (kx : τ x = 11) (n : Int32) : tw_Ct d mX5_debtAt 1 6 [.ref x, .int n] h (tw_qr (fun r h1 => h1 = h ∧ τ r = 4) (fun E h1 => (E = tw_IOE) ∧ h1 = h)) := by
  refine tw_of (by decide +kernel) (Nat.le_of_ble_eq_true rfl) ?_
  show tw_W d mX5_debtAt _ 0 [(0, .ref x), (1, .int n)] [] h 1 6
  have sp0 := tw_sp.rf hw
  refine tw_iload_n 1 dX5_debtAt_0 rfl rfl ?_
  refine tw_if_lt 22 dX5_debtAt_1 (by decide) (fun c1 => ?_) (fun c1 => ?_)
  · exact tw_throwSW (i := 14) (by decide +kernel) w_550 w_96 rfl at_IOE dX5_debtAt_22 dX5_debtAt_25 dX5_debtAt_26 dX5_debtAt_29 dX5_debtAt_32 ⟨by decide, Nat.le_of_ble_eq_true rfl⟩ (Nat.le_of_ble_eq_true rfl) (Nat.le_of_ble_eq_true rfl) (Or.inr ⟨_, rfl, (rfl), rfl⟩)
  · refine tw_iload_n 1 dX5_debtAt_4 rfl rfl ?_
    refine tw_aload_n 0 dX5_debtAt_5 rfl rfl ?_
    obtain ⟨e2, f3, td_4, ca_5, ha_6, da_7, c1_8, c2_9, c3_10, c4_11, rfl, k12, k13, k14, k15, k16, k17, k18, k19, k20, k21, k22, k23, k24⟩ := sp0.1 x 11 kx (by decide)
    refine tw_get (v := .ref da_7) rfl in_9 6 dX5_debtAt_6 w_146 rfl (by decide) f3 rfl ?_
    obtain ⟨e25, f26, F27, rfl, k28, pn29, pb30, px31⟩ := sp0.1 da_7 10 k14 (by decide)
    refine tw_alen (v := nI 10) 6 rfl dX5_debtAt_9 f26 rfl ?_
    refine tw_icmp_ge 22 dX5_debtAt_10 (by decide) (fun c32 => ?_) (fun c32 => ?_)
    · exact tw_throwSW (i := 14) (by decide +kernel) w_550 w_96 rfl at_IOE dX5_debtAt_22 dX5_debtAt_25 dX5_debtAt_26 dX5_debtAt_29 dX5_debtAt_32 ⟨by decide, Nat.le_of_ble_eq_true rfl⟩ (Nat.le_of_ble_eq_true rfl) (Nat.le_of_ble_eq_true rfl) (Or.inr ⟨_, rfl, (rfl), rfl⟩)
    · refine tw_aload_n 0 dX5_debtAt_13 rfl rfl ?_
      refine tw_get (v := .ref da_7) rfl in_9 6 dX5_debtAt_14 w_146 rfl (by decide) f3 rfl ?_
      refine tw_iload_n 1 dX5_debtAt_17 rfl rfl ?_
      cases k33 : F27 (n).toNatClampNeg with
      | none =>
        refine tw_aald (v := .null) 6 rfl rfl dX5_debtAt_18 f26 (tw_ib2 c1 c32 (by decide)) (by rw [k33]; rfl) ?_
        refine tw_ifnonnullN dX5_debtAt_19 ?_
        exact tw_throwSW (i := 14) (by decide +kernel) w_550 w_96 rfl at_IOE dX5_debtAt_22 dX5_debtAt_25 dX5_debtAt_26 dX5_debtAt_29 dX5_debtAt_32 ⟨by decide, Nat.le_of_ble_eq_true rfl⟩ (Nat.le_of_ble_eq_true rfl) (Nat.le_of_ble_eq_true rfl) (Or.inr ⟨_, rfl, (rfl), rfl⟩)
      | some q34 =>
        have k35 := k28 _ _ k33
        refine tw_aald (v := .ref q34) 6 rfl rfl dX5_debtAt_18 f26 (tw_ib2 c1 c32 (by decide)) (by rw [k33]; rfl) ?_
        refine tw_ifnonnull 33 dX5_debtAt_19 (by decide) ?_
        refine tw_aload_n 0 dX5_debtAt_33 rfl rfl ?_
        refine tw_get (v := .ref da_7) rfl in_9 6 dX5_debtAt_34 w_146 rfl (by decide) f3 rfl ?_
        refine tw_iload_n 1 dX5_debtAt_37 rfl rfl ?_
        refine tw_aald (v := .ref q34) 6 rfl rfl dX5_debtAt_38 f26 (tw_ib2 c1 c32 (by decide)) (by rw [k33]; rfl) ?_
        exact tw_aret dX5_debtAt_39 rfl (Or.inl ⟨_, rfl⟩) (Or.inl ⟨_, rfl, ⟨rfl, k35⟩⟩)

set_option maxHeartbeats 4000000 in
set_option maxRecDepth 100000 in
theorem c_X4_fewestFor (d : tw_D) (g : tw_G) (τ : tw_K) (h : tw_H) (hw : tw_wt d g τ h) (x : Nat) (kx : τ x = 5) (am : Int32) : tw_Ct d mX4_fewestFor 0 0 [.ref x, .int am] h (tw_qi (fun r h1 => h1 = h) tw_nx) := by
  refine tw_of (by decide +kernel) (Nat.le_of_ble_eq_true rfl) ?_
  show tw_W d mX4_fewestFor _ 0 [(0, .ref x), (1, .int am)] [] h 0 0
  have sp0 := tw_sp.rf hw
  refine tw_iconst (v := -1) dX4_fewestFor_0 (by decide) ?_
  refine tw_istore_n [(2, .int (-1)), (0, .ref x), (1, .int am)] dX4_fewestFor_1 rfl (by decide) rfl ?_
  refine tw_bipush (v := 46) dX4_fewestFor_2 (by decide) ?_
  refine tw_istore_n [(3, .int 46), (2, .int (-1)), (0, .ref x), (1, .int am)] dX4_fewestFor_4 rfl (by decide) rfl ?_
  refine tw_aload_n 2 dX4_fewestFor_5 rfl rfl ?_
  refine tw_iconst (v := 0) dX4_fewestFor_6 (by decide) ?_
  obtain ⟨e1, f2, m_3, rfl, k4, k5⟩ := sp0.1 x 5 kx (by decide)
  refine tw_bi (tw_callV (M := mX4_fewestFor) (pc := 7) okX4_manyOf dX4_fewestFor_7 w_277 rfl f2 [.int 0] [] rfl rfl ⟨by decide, by decide⟩ (Nat.le_of_ble_eq_true rfl) (c_X4_manyOf d g τ h sp0.1 x kx 0) 0 0 (Nat.le_of_ble_eq_true rfl) (Nat.le_of_ble_eq_true rfl)) (fun r8 h7 q6 => ?_) (fun E h1 q => q.elim)
  rw [q6]
  refine tw_iload_n 3 dX4_fewestFor_10 rfl rfl ?_
  refine tw_bipush (v := 20) dX4_fewestFor_11 (by decide) ?_
  refine tw_idiv dX4_fewestFor_13 (by decide) ?_
  refine tw_nmi (fun v9 ev9 => ?_)
  refine tw_mmin dX4_fewestFor_14 w_289 w_290 w_93 w_291 ⟨by decide, Nat.le_of_ble_eq_true rfl⟩ ?_
  refine tw_nmi (fun v10 ev10 => ?_)
  refine tw_istore [(4, .int v10), (3, .int 46), (2, .int (-1)), (0, .ref x), (1, .int am)] dX4_fewestFor_17 (by decide) rfl ?_
  have L16 : ∀ (r14 : Nat) (x11 : Int32) (x12 : Int32) (x13 : Int32), (x13.toInt + 1).toNat < r14 → tw_W d mX4_fewestFor (tw_qi (fun r h1 => h1 = h) tw_nx) 19 [(0, .ref x), (1, .int am), (2, .int x11), (3, .int x12), (4, .int x13)] [] h 0 0 := by
    intro r14
    induction r14 with
    | zero => intro x11 x12 x13 hk20; exact absurd hk20 (Nat.not_lt_zero _)
    | succ r14 ih15 =>
      intro x11 x12 x13 hk20
      refine tw_iload 4 dX4_fewestFor_19 rfl ?_
      refine tw_if_lt 204 dX4_fewestFor_21 (by decide) (fun c22 => ?_) (fun c22 => ?_)
      · refine tw_iload_n 2 dX4_fewestFor_204 rfl rfl ?_
        exact tw_iret dX4_fewestFor_205 rfl (Or.inl ⟨_, rfl, rfl⟩)
      · refine tw_iload_n 1 dX4_fewestFor_24 rfl rfl ?_
        refine tw_bipush (v := 20) dX4_fewestFor_25 (by decide) ?_
        refine tw_iload 4 dX4_fewestFor_27 rfl ?_
        refine tw_imul dX4_fewestFor_29 ?_
        refine tw_nmi (fun v23 ev23 => ?_)
        refine tw_isub dX4_fewestFor_30 ?_
        refine tw_nmi (fun v24 ev24 => ?_)
        refine tw_istore [(5, .int v24), (0, .ref x), (1, .int am), (2, .int x11), (3, .int x12), (4, .int x13)] dX4_fewestFor_31 (by decide) rfl ?_
        refine tw_aload_n 1 dX4_fewestFor_33 rfl rfl ?_
        refine tw_iconst (v := 1) dX4_fewestFor_34 (by decide) ?_
        refine tw_bi (tw_callV (M := mX4_fewestFor) (pc := 35) okX4_manyOf dX4_fewestFor_35 w_277 rfl f2 [.int 1] [] rfl rfl ⟨by decide, by decide⟩ (Nat.le_of_ble_eq_true rfl) (c_X4_manyOf d g τ h sp0.1 x kx 1) 0 0 (Nat.le_of_ble_eq_true rfl) (Nat.le_of_ble_eq_true rfl)) (fun r27 h26 q25 => ?_) (fun E h1 q => q.elim)
        rw [q25]
        refine tw_iload 0 dX4_fewestFor_38 rfl ?_
        refine tw_bipush (v := 10) dX4_fewestFor_40 (by decide) ?_
        refine tw_idiv dX4_fewestFor_42 (by decide) ?_
        refine tw_nmi (fun v28 ev28 => ?_)
        refine tw_mmin dX4_fewestFor_43 w_289 w_290 w_93 w_291 ⟨by decide, Nat.le_of_ble_eq_true rfl⟩ ?_
        refine tw_nmi (fun v29 ev29 => ?_)
        refine tw_istore [(6, .int v29), (5, .int v24), (0, .ref x), (1, .int am), (2, .int x11), (3, .int x12), (4, .int x13)] dX4_fewestFor_46 (by decide) rfl ?_
        have L35 : ∀ (r33 : Nat) (x30 : Int32) (x31 : Int32) (x32 : Int32), (x32.toInt + 1).toNat < r33 → tw_W d mX4_fewestFor (tw_qi (fun r h1 => h1 = h) tw_nx) 48 [(0, .ref x), (1, .int am), (2, .int x30), (3, .int x31), (4, .int x13), (5, .int v24), (6, .int x32)] [] h 0 0 := by
          intro r33
          induction r33 with
          | zero => intro x30 x31 x32 hk39; exact absurd hk39 (Nat.not_lt_zero _)
          | succ r33 ih34 =>
            intro x30 x31 x32 hk39
            refine tw_iload 6 dX4_fewestFor_48 rfl ?_
            refine tw_if_lt 198 dX4_fewestFor_50 (by decide) (fun c41 => ?_) (fun c41 => ?_)
            · obtain ⟨v42, ev42⟩ : ∃ y : Int32, y = x13 + (-1) := ⟨_, rfl⟩
              refine tw_iinc [(4, .int v42), (0, .ref x), (1, .int am), (2, .int x30), (3, .int x31), (5, .int v24), (6, .int x32)] 4 dX4_fewestFor_198 rfl (by rw [ev42]; rfl) (by decide) rfl ?_
              refine tw_goto 19 dX4_fewestFor_201 (by decide) ?_
              refine tw_lv [1, 2, 3, 4, 0] rfl ?_
              exact ih15 x30 x31 v42 (tw_mdn ev42 c22 hk20)
            · refine tw_iload 5 dX4_fewestFor_53 rfl ?_
              refine tw_bipush (v := 10) dX4_fewestFor_55 (by decide) ?_
              refine tw_iload 6 dX4_fewestFor_57 rfl ?_
              refine tw_imul dX4_fewestFor_59 ?_
              refine tw_nmi (fun v43 ev43 => ?_)
              refine tw_isub dX4_fewestFor_60 ?_
              refine tw_nmi (fun v44 ev44 => ?_)
              refine tw_istore [(7, .int v44), (0, .ref x), (1, .int am), (2, .int x30), (3, .int x31), (4, .int x13), (5, .int v24), (6, .int x32)] dX4_fewestFor_61 (by decide) rfl ?_
              refine tw_aload_n 1 dX4_fewestFor_63 rfl rfl ?_
              refine tw_iconst (v := 2) dX4_fewestFor_64 (by decide) ?_
              refine tw_bi (tw_callV (M := mX4_fewestFor) (pc := 65) okX4_manyOf dX4_fewestFor_65 w_277 rfl f2 [.int 2] [] rfl rfl ⟨by decide, by decide⟩ (Nat.le_of_ble_eq_true rfl) (c_X4_manyOf d g τ h sp0.1 x kx 2) 0 0 (Nat.le_of_ble_eq_true rfl) (Nat.le_of_ble_eq_true rfl)) (fun r47 h46 q45 => ?_) (fun E h1 q => q.elim)
              rw [q45]
              refine tw_iload 0 dX4_fewestFor_68 rfl ?_
              refine tw_iconst (v := 5) dX4_fewestFor_70 (by decide) ?_
              refine tw_idiv dX4_fewestFor_71 (by decide) ?_
              refine tw_nmi (fun v48 ev48 => ?_)
              refine tw_mmin dX4_fewestFor_72 w_289 w_290 w_93 w_291 ⟨by decide, Nat.le_of_ble_eq_true rfl⟩ ?_
              refine tw_nmi (fun v49 ev49 => ?_)
              refine tw_istore [(8, .int v49), (7, .int v44), (0, .ref x), (1, .int am), (2, .int x30), (3, .int x31), (4, .int x13), (5, .int v24), (6, .int x32)] dX4_fewestFor_75 (by decide) rfl ?_
              have L55 : ∀ (r53 : Nat) (x50 : Int32) (x51 : Int32) (x52 : Int32), (x52.toInt + 1).toNat < r53 → tw_W d mX4_fewestFor (tw_qi (fun r h1 => h1 = h) tw_nx) 77 [(0, .ref x), (1, .int am), (2, .int x50), (3, .int x51), (4, .int x13), (5, .int v24), (6, .int x32), (7, .int v44), (8, .int x52)] [] h 0 0 := by
                intro r53
                induction r53 with
                | zero => intro x50 x51 x52 hk59; exact absurd hk59 (Nat.not_lt_zero _)
                | succ r53 ih54 =>
                  intro x50 x51 x52 hk59
                  refine tw_iload 8 dX4_fewestFor_77 rfl ?_
                  refine tw_if_lt 192 dX4_fewestFor_79 (by decide) (fun c61 => ?_) (fun c61 => ?_)
                  · obtain ⟨v62, ev62⟩ : ∃ y : Int32, y = x32 + (-1) := ⟨_, rfl⟩
                    refine tw_iinc [(6, .int v62), (0, .ref x), (1, .int am), (2, .int x50), (3, .int x51), (4, .int x13), (5, .int v24), (7, .int v44), (8, .int x52)] 6 dX4_fewestFor_192 rfl (by rw [ev62]; rfl) (by decide) rfl ?_
                    refine tw_goto 48 dX4_fewestFor_195 (by decide) ?_
                    refine tw_lv [1, 2, 3, 4, 5, 6, 0] rfl ?_
                    exact ih34 x50 x51 v62 (tw_mdn ev62 c41 hk39)
                  · refine tw_iload 7 dX4_fewestFor_82 rfl ?_
                    refine tw_iconst (v := 5) dX4_fewestFor_84 (by decide) ?_
                    refine tw_iload 8 dX4_fewestFor_85 rfl ?_
                    refine tw_imul dX4_fewestFor_87 ?_
                    refine tw_nmi (fun v63 ev63 => ?_)
                    refine tw_isub dX4_fewestFor_88 ?_
                    refine tw_nmi (fun v64 ev64 => ?_)
                    refine tw_istore [(9, .int v64), (0, .ref x), (1, .int am), (2, .int x50), (3, .int x51), (4, .int x13), (5, .int v24), (6, .int x32), (7, .int v44), (8, .int x52)] dX4_fewestFor_89 (by decide) rfl ?_
                    refine tw_aload_n 1 dX4_fewestFor_91 rfl rfl ?_
                    refine tw_iconst (v := 3) dX4_fewestFor_92 (by decide) ?_
                    refine tw_bi (tw_callV (M := mX4_fewestFor) (pc := 93) okX4_manyOf dX4_fewestFor_93 w_277 rfl f2 [.int 3] [] rfl rfl ⟨by decide, by decide⟩ (Nat.le_of_ble_eq_true rfl) (c_X4_manyOf d g τ h sp0.1 x kx 3) 0 0 (Nat.le_of_ble_eq_true rfl) (Nat.le_of_ble_eq_true rfl)) (fun r67 h66 q65 => ?_) (fun E h1 q => q.elim)
                    rw [q65]
                    refine tw_iload 0 dX4_fewestFor_96 rfl ?_
                    refine tw_iconst (v := 2) dX4_fewestFor_98 (by decide) ?_
                    refine tw_idiv dX4_fewestFor_99 (by decide) ?_
                    refine tw_nmi (fun v68 ev68 => ?_)
                    refine tw_mmin dX4_fewestFor_100 w_289 w_290 w_93 w_291 ⟨by decide, Nat.le_of_ble_eq_true rfl⟩ ?_
                    refine tw_nmi (fun v69 ev69 => ?_)
                    refine tw_istore [(10, .int v69), (9, .int v64), (0, .ref x), (1, .int am), (2, .int x50), (3, .int x51), (4, .int x13), (5, .int v24), (6, .int x32), (7, .int v44), (8, .int x52)] dX4_fewestFor_103 (by decide) rfl ?_
                    refine tw_iload 1 dX4_fewestFor_105 rfl ?_
                    refine tw_iconst (v := 2) dX4_fewestFor_107 (by decide) ?_
                    refine tw_iload 0 dX4_fewestFor_108 rfl ?_
                    refine tw_imul dX4_fewestFor_110 ?_
                    refine tw_nmi (fun v70 ev70 => ?_)
                    refine tw_isub dX4_fewestFor_111 ?_
                    refine tw_nmi (fun v71 ev71 => ?_)
                    refine tw_istore [(11, .int v71), (10, .int v69), (9, .int v64), (0, .ref x), (1, .int am), (2, .int x50), (3, .int x51), (4, .int x13), (5, .int v24), (6, .int x32), (7, .int v44), (8, .int x52)] dX4_fewestFor_112 (by decide) rfl ?_
                    refine tw_iload 0 dX4_fewestFor_114 rfl ?_
                    refine tw_aload_n 3 dX4_fewestFor_116 rfl rfl ?_
                    refine tw_iconst (v := 4) dX4_fewestFor_117 (by decide) ?_
                    refine tw_bi (tw_callV (M := mX4_fewestFor) (pc := 118) okX4_manyOf dX4_fewestFor_118 w_277 rfl f2 [.int 4] [.int v71] rfl rfl ⟨by decide, by decide⟩ (Nat.le_of_ble_eq_true rfl) (c_X4_manyOf d g τ h sp0.1 x kx 4) 0 0 (Nat.le_of_ble_eq_true rfl) (Nat.le_of_ble_eq_true rfl)) (fun r74 h73 q72 => ?_) (fun E h1 q => q.elim)
                    rw [q72]
                    refine tw_icmp_gt 186 dX4_fewestFor_121 (by decide) (fun c75 => ?_) (fun c75 => ?_)
                    · obtain ⟨v76, ev76⟩ : ∃ y : Int32, y = x52 + (-1) := ⟨_, rfl⟩
                      refine tw_iinc [(8, .int v76), (11, .int v71), (10, .int v69), (9, .int v64), (0, .ref x), (1, .int am), (2, .int x50), (3, .int x51), (4, .int x13), (5, .int v24), (6, .int x32), (7, .int v44)] 11 dX4_fewestFor_186 rfl (by rw [ev76]; rfl) (by decide) rfl ?_
                      refine tw_goto 77 dX4_fewestFor_189 (by decide) ?_
                      refine tw_lv [4, 5, 6, 7, 8, 9, 10, 11, 0] rfl ?_
                      exact ih54 x50 x51 v76 (tw_mdn ev76 c61 hk59)
                    · refine tw_iload 7 dX4_fewestFor_124 rfl ?_
                      refine tw_iload 9 dX4_fewestFor_126 rfl ?_
                      refine tw_iadd dX4_fewestFor_128 ?_
                      refine tw_nmi (fun v77 ev77 => ?_)
                      refine tw_iload 11 dX4_fewestFor_129 rfl ?_
                      refine tw_iadd dX4_fewestFor_131 ?_
                      refine tw_nmi (fun v78 ev78 => ?_)
                      refine tw_iload 1 dX4_fewestFor_132 rfl ?_
                      refine tw_iadd dX4_fewestFor_134 ?_
                      refine tw_nmi (fun v79 ev79 => ?_)
                      refine tw_iload 0 dX4_fewestFor_135 rfl ?_
                      refine tw_iadd dX4_fewestFor_137 ?_
                      refine tw_nmi (fun v80 ev80 => ?_)
                      refine tw_iload_n 6 dX4_fewestFor_138 rfl rfl ?_
                      refine tw_icmp_ge 186 dX4_fewestFor_139 (by decide) (fun c81 => ?_) (fun c81 => ?_)
                      · obtain ⟨v82, ev82⟩ : ∃ y : Int32, y = x52 + (-1) := ⟨_, rfl⟩
                        refine tw_iinc [(8, .int v82), (11, .int v71), (10, .int v69), (9, .int v64), (0, .ref x), (1, .int am), (2, .int x50), (3, .int x51), (4, .int x13), (5, .int v24), (6, .int x32), (7, .int v44)] 11 dX4_fewestFor_186 rfl (by rw [ev82]; rfl) (by decide) rfl ?_
                        refine tw_goto 77 dX4_fewestFor_189 (by decide) ?_
                        refine tw_lv [4, 5, 6, 7, 8, 9, 10, 11, 0] rfl ?_
                        exact ih54 x50 x51 v82 (tw_mdn ev82 c61 hk59)
                      · refine tw_iload 7 dX4_fewestFor_142 rfl ?_
                        refine tw_iload 9 dX4_fewestFor_144 rfl ?_
                        refine tw_iadd dX4_fewestFor_146 ?_
                        refine tw_nmi (fun v83 ev83 => ?_)
                        refine tw_iload 11 dX4_fewestFor_147 rfl ?_
                        refine tw_iadd dX4_fewestFor_149 ?_
                        refine tw_nmi (fun v84 ev84 => ?_)
                        refine tw_iload 1 dX4_fewestFor_150 rfl ?_
                        refine tw_iadd dX4_fewestFor_152 ?_
                        refine tw_nmi (fun v85 ev85 => ?_)
                        refine tw_iload 0 dX4_fewestFor_153 rfl ?_
                        refine tw_iadd dX4_fewestFor_155 ?_
                        refine tw_nmi (fun v86 ev86 => ?_)
                        refine tw_istore_n [(3, .int v86), (11, .int v71), (10, .int v69), (9, .int v64), (0, .ref x), (1, .int am), (2, .int x50), (4, .int x13), (5, .int v24), (6, .int x32), (7, .int v44), (8, .int x52)] dX4_fewestFor_156 rfl (by decide) rfl ?_
                        refine tw_iload 7 dX4_fewestFor_157 rfl ?_
                        refine tw_sipush (v := 10000) dX4_fewestFor_159 (by decide) ?_
                        refine tw_imul dX4_fewestFor_162 ?_
                        refine tw_nmi (fun v87 ev87 => ?_)
                        refine tw_iload 9 dX4_fewestFor_163 rfl ?_
                        refine tw_sipush (v := 1000) dX4_fewestFor_165 (by decide) ?_
                        refine tw_imul dX4_fewestFor_168 ?_
                        refine tw_nmi (fun v88 ev88 => ?_)
                        refine tw_iadd dX4_fewestFor_169 ?_
                        refine tw_nmi (fun v89 ev89 => ?_)
                        refine tw_iload 11 dX4_fewestFor_170 rfl ?_
                        refine tw_bipush (v := 100) dX4_fewestFor_172 (by decide) ?_
                        refine tw_imul dX4_fewestFor_174 ?_
                        refine tw_nmi (fun v90 ev90 => ?_)
                        refine tw_iadd dX4_fewestFor_175 ?_
                        refine tw_nmi (fun v91 ev91 => ?_)
                        refine tw_iload 2 dX4_fewestFor_176 rfl ?_
                        refine tw_bipush (v := 10) dX4_fewestFor_178 (by decide) ?_
                        refine tw_imul dX4_fewestFor_180 ?_
                        refine tw_nmi (fun v92 ev92 => ?_)
                        refine tw_iadd dX4_fewestFor_181 ?_
                        refine tw_nmi (fun v93 ev93 => ?_)
                        refine tw_iload 1 dX4_fewestFor_182 rfl ?_
                        refine tw_iadd dX4_fewestFor_184 ?_
                        refine tw_nmi (fun v94 ev94 => ?_)
                        refine tw_istore_n [(2, .int v94), (3, .int v86), (11, .int v71), (10, .int v69), (9, .int v64), (0, .ref x), (1, .int am), (4, .int x13), (5, .int v24), (6, .int x32), (7, .int v44), (8, .int x52)] dX4_fewestFor_185 rfl (by decide) rfl ?_
                        obtain ⟨v95, ev95⟩ : ∃ y : Int32, y = x52 + (-1) := ⟨_, rfl⟩
                        refine tw_iinc [(8, .int v95), (2, .int v94), (3, .int v86), (11, .int v71), (10, .int v69), (9, .int v64), (0, .ref x), (1, .int am), (4, .int x13), (5, .int v24), (6, .int x32), (7, .int v44)] 11 dX4_fewestFor_186 rfl (by rw [ev95]; rfl) (by decide) rfl ?_
                        refine tw_goto 77 dX4_fewestFor_189 (by decide) ?_
                        refine tw_lv [6, 7, 1, 2, 8, 9, 10, 11, 0] rfl ?_
                        exact ih54 v94 v86 v95 (tw_mdn ev95 c61 hk59)
              refine tw_lv [2, 3, 4, 5, 6, 7, 8, 1, 0] rfl ?_
              exact L55 _ x30 x31 v49 (Nat.lt_succ_self _)
        refine tw_lv [2, 3, 4, 5, 6, 1, 0] rfl ?_
        exact L35 _ x11 x12 v29 (Nat.lt_succ_self _)
  refine tw_lv [3, 4, 2, 1, 0] rfl ?_
  exact L16 _ (-1) 46 v10 (Nat.lt_succ_self _)

set_option maxHeartbeats 4000000 in
set_option maxRecDepth 100000 in
theorem c_X5_housesIn (d : tw_D) (g : tw_G) (τ : tw_K) (h : tw_H) (hw : tw_wt d g τ h) (x : Nat) (kx : τ x = 11) (c : Nat) (kc : τ c = 2) : tw_Ct d mX5_housesIn 0 0 [.ref x, .ref c] h (tw_qi (fun r h1 => h1 = h) tw_nx) := by
  refine tw_of (by decide +kernel) (Nat.le_of_ble_eq_true rfl) ?_
  show tw_W d mX5_housesIn _ 0 [(0, .ref x), (1, .ref c)] [] h 0 0
  have sp0 := tw_sp.rf hw
  refine tw_iconst (v := 0) dX5_housesIn_0 (by decide) ?_
  refine tw_istore_n [(2, .int 0), (0, .ref x), (1, .ref c)] dX5_housesIn_1 rfl (by decide) rfl ?_
  refine tw_aload_n 1 dX5_housesIn_2 rfl rfl ?_
  obtain ⟨e1, f2, td_3, ca_4, ha_5, da_6, c1_7, c2_8, c3_9, c4_10, rfl, k11, k12, k13, k14, k15, k16, k17, k18, k19, k20, k21, k22, k23⟩ := sp0.1 x 11 kx (by decide)
  refine tw_get (v := .ref ha_5) rfl in_9 4 dX5_housesIn_3 w_144 rfl (by decide) f2 rfl ?_
  refine tw_astore_n [(3, .ref ha_5), (2, .int 0), (0, .ref x), (1, .ref c)] dX5_housesIn_6 rfl (by decide) rfl ?_
  refine tw_aload_n 0 dX5_housesIn_7 rfl rfl ?_
  obtain ⟨e24, f25, F26, rfl, k27, pn28, pb29, px30⟩ := sp0.1 ha_5 9 k12 (by decide)
  refine tw_alen (v := nI 6) 5 rfl dX5_housesIn_8 f25 rfl ?_
  refine tw_istore [(4, .int (nI 6)), (3, .ref ha_5), (2, .int 0), (0, .ref x), (1, .ref c)] dX5_housesIn_9 (by decide) rfl ?_
  refine tw_iconst (v := 0) dX5_housesIn_11 (by decide) ?_
  refine tw_istore [(5, .int 0), (4, .int (nI 6)), (3, .ref ha_5), (2, .int 0), (0, .ref x), (1, .ref c)] dX5_housesIn_12 (by decide) rfl ?_
  have L35 : ∀ (r33 k32 : Nat) (x31 : Int32), 6 + 1 ≤ k32 + r33 → k32 ≤ 6 → tw_W d mX5_housesIn (tw_qi (fun r h1 => h1 = h) tw_nx) 14 [(0, .ref x), (1, .ref c), (2, .int x31), (3, .ref ha_5), (4, .int (nI 6)), (5, .int (nI k32))] [] h 0 0 := by
    intro r33
    induction r33 with
    | zero => intro k32 x31 hk39 hk40; exact absurd hk39 (by omega)
    | succ r33 ih34 =>
      intro k32 x31 hk39 hk40
      refine tw_iload 5 dX5_housesIn_14 rfl ?_
      refine tw_iload 4 dX5_housesIn_16 rfl ?_
      refine tw_icmp_ge 50 dX5_housesIn_18 (by decide) (fun c41 => ?_) (fun c41 => ?_)
      · refine tw_iload_n 2 dX5_housesIn_50 rfl rfl ?_
        exact tw_iret dX5_housesIn_51 rfl (Or.inl ⟨_, rfl, rfl⟩)
      · have kl42 := tw_klt (N := 6) c41 hk40 (by decide)
        refine tw_aload_n 3 dX5_housesIn_21 rfl rfl ?_
        refine tw_iload 5 dX5_housesIn_22 rfl ?_
        cases k43 : F26 ((nI k32)).toNatClampNeg with
        | none =>
          refine tw_aald (v := .null) 5 rfl rfl dX5_housesIn_24 f25 (vp_in_nI (by omega) (by decide)) (by rw [k43]; rfl) ?_
          refine tw_astoreN [(6, .null), (0, .ref x), (1, .ref c), (2, .int x31), (3, .ref ha_5), (4, .int (nI 6)), (5, .int (nI k32))] dX5_housesIn_25 (by decide) rfl ?_
          refine tw_aloadN 0 dX5_housesIn_27 rfl ?_
          refine tw_ifnullN 44 dX5_housesIn_29 (by decide) ?_
          obtain ⟨v45, ev45⟩ : ∃ y : Int32, y = (nI k32) + 1 := ⟨_, rfl⟩
          refine tw_iinc [(5, .int v45), (6, .null), (0, .ref x), (1, .ref c), (2, .int x31), (3, .ref ha_5), (4, .int (nI 6))] 6 dX5_housesIn_44 rfl (by rw [ev45]; rfl) (by decide) rfl ?_
          refine tw_goto 14 dX5_housesIn_47 (by decide) ?_
          have qv45 := tw_nI3 ev45
          rw [qv45]
          refine tw_lv [2, 3, 4, 5, 6, 0] rfl ?_
          exact ih34 (k32 + 1) x31 (by omega) (by omega)
        | some q44 =>
          have k46 := k27 _ _ k43
          refine tw_aald (v := .ref q44) 5 rfl rfl dX5_housesIn_24 f25 (vp_in_nI (by omega) (by decide)) (by rw [k43]; rfl) ?_
          refine tw_astore [(6, .ref q44), (0, .ref x), (1, .ref c), (2, .int x31), (3, .ref ha_5), (4, .int (nI 6)), (5, .int (nI k32))] dX5_housesIn_25 (by decide) rfl ?_
          refine tw_aload 0 dX5_housesIn_27 rfl ?_
          refine tw_ifnull dX5_housesIn_29 ?_
          refine tw_aload 0 dX5_housesIn_32 rfl ?_
          obtain ⟨e47, f48, n_49, ar_50, p_51, pl_52, go_53, rfl, k54, k55, k56⟩ := sp0.1 q44 3 k46 (by decide)
          refine tw_getN (v := va_rf pl_52) rfl in_6 2 dX5_housesIn_34 w_641 rfl (by decide) f48 rfl ?_
          refine tw_aload_n 2 dX5_housesIn_37 rfl rfl ?_
          refine tw_acmp_ne (rx := (pl_52)) (ry := (some c)) 44 dX5_housesIn_38 (by decide) (fun c57 => ?_) (fun c57 => ?_)
          · obtain ⟨v58, ev58⟩ : ∃ y : Int32, y = (nI k32) + 1 := ⟨_, rfl⟩
            refine tw_iinc [(5, .int v58), (6, .ref q44), (0, .ref x), (1, .ref c), (2, .int x31), (3, .ref ha_5), (4, .int (nI 6))] 6 dX5_housesIn_44 rfl (by rw [ev58]; rfl) (by decide) rfl ?_
            refine tw_goto 14 dX5_housesIn_47 (by decide) ?_
            have qv58 := tw_nI3 ev58
            rw [qv58]
            refine tw_lv [2, 3, 4, 5, 6, 0] rfl ?_
            exact ih34 (k32 + 1) x31 (by omega) (by omega)
          · obtain ⟨v59, ev59⟩ : ∃ y : Int32, y = x31 + 1 := ⟨_, rfl⟩
            refine tw_iinc [(2, .int v59), (6, .ref q44), (0, .ref x), (1, .ref c), (3, .ref ha_5), (4, .int (nI 6)), (5, .int (nI k32))] 3 dX5_housesIn_41 rfl (by rw [ev59]; rfl) (by decide) rfl ?_
            obtain ⟨v60, ev60⟩ : ∃ y : Int32, y = (nI k32) + 1 := ⟨_, rfl⟩
            refine tw_iinc [(5, .int v60), (2, .int v59), (6, .ref q44), (0, .ref x), (1, .ref c), (3, .ref ha_5), (4, .int (nI 6))] 6 dX5_housesIn_44 rfl (by rw [ev60]; rfl) (by decide) rfl ?_
            refine tw_goto 14 dX5_housesIn_47 (by decide) ?_
            have qv60 := tw_nI3 ev60
            rw [qv60]
            refine tw_lv [3, 4, 1, 5, 6, 0] rfl ?_
            exact ih34 (k32 + 1) v59 (by omega) (by omega)
  refine tw_lv [4, 5, 3, 2, 1, 0] rfl ?_
  exact L35 (6 + 1) 0 0 (by omega) (by omega)

set_option maxHeartbeats 4000000 in
set_option maxRecDepth 100000 in
theorem c_X5_countriesWithRate (d : tw_D) (g : tw_G) (τ : tw_K) (h : tw_H) (hw : tw_wt d g τ h) (x : Nat) (kx : τ x = 11) (rt : Int32) : tw_Ct d mX5_countriesWithRate 0 0 [.ref x, .int rt] h (tw_qi (fun r h1 => h1 = h) tw_nx) := by
  refine tw_of (by decide +kernel) (Nat.le_of_ble_eq_true rfl) ?_
  show tw_W d mX5_countriesWithRate _ 0 [(0, .ref x), (1, .int rt)] [] h 0 0
  have sp0 := tw_sp.rf hw
  refine tw_iconst (v := 0) dX5_countriesWithRate_0 (by decide) ?_
  refine tw_istore_n [(2, .int 0), (0, .ref x), (1, .int rt)] dX5_countriesWithRate_1 rfl (by decide) rfl ?_
  refine tw_aload_n 1 dX5_countriesWithRate_2 rfl rfl ?_
  obtain ⟨e1, f2, td_3, ca_4, ha_5, da_6, c1_7, c2_8, c3_9, c4_10, rfl, k11, k12, k13, k14, k15, k16, k17, k18, k19, k20, k21, k22, k23⟩ := sp0.1 x 11 kx (by decide)
  refine tw_get (v := .ref ca_4) rfl in_9 2 dX5_countriesWithRate_3 w_142 rfl (by decide) f2 rfl ?_
  refine tw_astore_n [(3, .ref ca_4), (2, .int 0), (0, .ref x), (1, .int rt)] dX5_countriesWithRate_6 rfl (by decide) rfl ?_
  refine tw_aload_n 0 dX5_countriesWithRate_7 rfl rfl ?_
  obtain ⟨e24, f25, F26, rfl, k27, pn28, pb29, px30, pf31⟩ := sp0.1 ca_4 8 k11 (by decide)
  refine tw_alen (v := nI 4) 4 rfl dX5_countriesWithRate_8 f25 rfl ?_
  refine tw_istore [(4, .int (nI 4)), (3, .ref ca_4), (2, .int 0), (0, .ref x), (1, .int rt)] dX5_countriesWithRate_9 (by decide) rfl ?_
  refine tw_iconst (v := 0) dX5_countriesWithRate_11 (by decide) ?_
  refine tw_istore [(5, .int 0), (4, .int (nI 4)), (3, .ref ca_4), (2, .int 0), (0, .ref x), (1, .int rt)] dX5_countriesWithRate_12 (by decide) rfl ?_
  have L36 : ∀ (r34 k33 : Nat) (x32 : Int32), 4 + 1 ≤ k33 + r34 → k33 ≤ 4 → tw_W d mX5_countriesWithRate (tw_qi (fun r h1 => h1 = h) tw_nx) 14 [(0, .ref x), (1, .int rt), (2, .int x32), (3, .ref ca_4), (4, .int (nI 4)), (5, .int (nI k33))] [] h 0 0 := by
    intro r34
    induction r34 with
    | zero => intro k33 x32 hk40 hk41; exact absurd hk40 (by omega)
    | succ r34 ih35 =>
      intro k33 x32 hk40 hk41
      refine tw_iload 5 dX5_countriesWithRate_14 rfl ?_
      refine tw_iload 4 dX5_countriesWithRate_16 rfl ?_
      refine tw_icmp_ge 50 dX5_countriesWithRate_18 (by decide) (fun c42 => ?_) (fun c42 => ?_)
      · refine tw_iload_n 2 dX5_countriesWithRate_50 rfl rfl ?_
        exact tw_iret dX5_countriesWithRate_51 rfl (Or.inl ⟨_, rfl, rfl⟩)
      · have kl43 := tw_klt (N := 4) c42 hk41 (by decide)
        refine tw_aload_n 3 dX5_countriesWithRate_21 rfl rfl ?_
        refine tw_iload 5 dX5_countriesWithRate_22 rfl ?_
        cases k44 : F26 ((nI k33)).toNatClampNeg with
        | none =>
          refine tw_aald (v := .null) 4 rfl rfl dX5_countriesWithRate_24 f25 (vp_in_nI (by omega) (by decide)) (by rw [k44]; rfl) ?_
          refine tw_astoreN [(6, .null), (0, .ref x), (1, .int rt), (2, .int x32), (3, .ref ca_4), (4, .int (nI 4)), (5, .int (nI k33))] dX5_countriesWithRate_25 (by decide) rfl ?_
          refine tw_aloadN 0 dX5_countriesWithRate_27 rfl ?_
          refine tw_ifnullN 44 dX5_countriesWithRate_29 (by decide) ?_
          obtain ⟨v46, ev46⟩ : ∃ y : Int32, y = (nI k33) + 1 := ⟨_, rfl⟩
          refine tw_iinc [(5, .int v46), (6, .null), (0, .ref x), (1, .int rt), (2, .int x32), (3, .ref ca_4), (4, .int (nI 4))] 6 dX5_countriesWithRate_44 rfl (by rw [ev46]; rfl) (by decide) rfl ?_
          refine tw_goto 14 dX5_countriesWithRate_47 (by decide) ?_
          have qv46 := tw_nI3 ev46
          rw [qv46]
          refine tw_lv [2, 3, 4, 5, 6, 0] rfl ?_
          exact ih35 (k33 + 1) x32 (by omega) (by omega)
        | some q45 =>
          have k47 := k27 _ _ k44
          refine tw_aald (v := .ref q45) 4 rfl rfl dX5_countriesWithRate_24 f25 (vp_in_nI (by omega) (by decide)) (by rw [k44]; rfl) ?_
          refine tw_astore [(6, .ref q45), (0, .ref x), (1, .int rt), (2, .int x32), (3, .ref ca_4), (4, .int (nI 4)), (5, .int (nI k33))] dX5_countriesWithRate_25 (by decide) rfl ?_
          refine tw_aload 0 dX5_countriesWithRate_27 rfl ?_
          refine tw_ifnull dX5_countriesWithRate_29 ?_
          refine tw_aload 0 dX5_countriesWithRate_32 rfl ?_
          obtain ⟨e48, f49, n_50, r_51, c_52, go_53, so_54, v_55, rd_56, rf_57, t_58, rfl, k59, k60, k61, k62, k63, k64, k65, k66, k67⟩ := sp0.1 q45 2 k47 (by decide)
          refine tw_getN (v := .int r_51) rfl in_4 1 dX5_countriesWithRate_34 w_504 rfl (by decide) f49 rfl ?_
          refine tw_iload_n 2 dX5_countriesWithRate_37 rfl rfl ?_
          refine tw_icmp_ne 44 dX5_countriesWithRate_38 (by decide) (fun c68 => ?_) (fun c68 => ?_)
          · obtain ⟨v69, ev69⟩ : ∃ y : Int32, y = (nI k33) + 1 := ⟨_, rfl⟩
            refine tw_iinc [(5, .int v69), (6, .ref q45), (0, .ref x), (1, .int rt), (2, .int x32), (3, .ref ca_4), (4, .int (nI 4))] 6 dX5_countriesWithRate_44 rfl (by rw [ev69]; rfl) (by decide) rfl ?_
            refine tw_goto 14 dX5_countriesWithRate_47 (by decide) ?_
            have qv69 := tw_nI3 ev69
            rw [qv69]
            refine tw_lv [2, 3, 4, 5, 6, 0] rfl ?_
            exact ih35 (k33 + 1) x32 (by omega) (by omega)
          · obtain ⟨v70, ev70⟩ : ∃ y : Int32, y = x32 + 1 := ⟨_, rfl⟩
            refine tw_iinc [(2, .int v70), (6, .ref q45), (0, .ref x), (1, .int rt), (3, .ref ca_4), (4, .int (nI 4)), (5, .int (nI k33))] 3 dX5_countriesWithRate_41 rfl (by rw [ev70]; rfl) (by decide) rfl ?_
            obtain ⟨v71, ev71⟩ : ∃ y : Int32, y = (nI k33) + 1 := ⟨_, rfl⟩
            refine tw_iinc [(5, .int v71), (2, .int v70), (6, .ref q45), (0, .ref x), (1, .int rt), (3, .ref ca_4), (4, .int (nI 4))] 6 dX5_countriesWithRate_44 rfl (by rw [ev71]; rfl) (by decide) rfl ?_
            refine tw_goto 14 dX5_countriesWithRate_47 (by decide) ?_
            have qv71 := tw_nI3 ev71
            rw [qv71]
            refine tw_lv [3, 4, 1, 5, 6, 0] rfl ?_
            exact ih35 (k33 + 1) v70 (by omega) (by omega)
  refine tw_lv [4, 5, 3, 2, 1, 0] rfl ?_
  exact L36 (4 + 1) 0 0 (by omega) (by omega)

set_option maxHeartbeats 4000000 in
set_option maxRecDepth 100000 in
theorem c_X5_countryFact (d : tw_D) (g : tw_G) (τ : tw_K) (h : tw_H) (hw : tw_wt d g τ h) (x : Nat) (kx : τ x = 11) (c : Nat) (kc : τ c = 2) (w : Int32) : tw_Ct d mX5_countryFact 0 0 [.ref x, .ref c, .int w] h (tw_qi (fun r h1 => h1 = h) tw_nx) := by
  refine tw_of (by decide +kernel) (Nat.le_of_ble_eq_true rfl) ?_
  show tw_W d mX5_countryFact _ 0 [(0, .ref x), (1, .ref c), (2, .int w)] [] h 0 0
  have sp0 := tw_sp.rf hw
  refine tw_iload_n 2 dX5_countryFact_0 rfl rfl ?_
  by_cases cs0 : (w).toInt < 0 ∨ 7 < (w).toInt
  · refine tw_tabOut 105 dX5_countryFact_1 cs0 (by decide) ?_
    refine tw_aload_n 0 dX5_countryFact_105 rfl rfl ?_
    refine tw_aload_n 1 dX5_countryFact_106 rfl rfl ?_
    obtain ⟨e1, f2, n_3, r_4, c_5, go_6, so_7, v_8, rd_9, rf_10, t_11, rfl, k12, k13, k14, k15, k16, k17, k18, k19, k20⟩ := sp0.1 c 2 kc (by decide)
    refine tw_getN (v := .int r_4) rfl in_4 1 dX5_countryFact_107 w_504 rfl (by decide) f2 rfl ?_
    obtain ⟨e21, f22, td_23, ca_24, ha_25, da_26, c1_27, c2_28, c3_29, c4_30, rfl, k31, k32, k33, k34, k35, k36, k37, k38, k39, k40, k41, k42, k43⟩ := sp0.1 x 11 kx (by decide)
    refine tw_bi (tw_callV (M := mX5_countryFact) (pc := 110) okX5_countriesWithRate dX5_countryFact_110 w_281 rfl f22 [.int r_4] [] rfl rfl ⟨by decide, by decide⟩ (Nat.le_of_ble_eq_true rfl) (c_X5_countriesWithRate d g τ h sp0.1 x kx r_4) 0 0 (Nat.le_of_ble_eq_true rfl) (Nat.le_of_ble_eq_true rfl)) (fun r46 h45 q44 => ?_) (fun E h1 q => q.elim)
    rw [q44]
    exact tw_iret dX5_countryFact_113 rfl (Or.inl ⟨_, rfl, rfl⟩)
  · have csl : ¬ (w).toInt < 0 := fun q => cs0 (Or.inl q)
    have csh : ¬ 7 < (w).toInt := fun q => cs0 (Or.inr q)
    rcases (show (w).toInt = 0 ∨ (w).toInt = 1 ∨ (w).toInt = 2 ∨ (w).toInt = 3 ∨ (w).toInt = 4 ∨ (w).toInt = 5 ∨ (w).toInt = 6 ∨ (w).toInt = 7 by omega) with cs1 | cs1 | cs1 | cs1 | cs1 | cs1 | cs1 | cs1
    · refine tw_tabIn (off := 47) 48 dX5_countryFact_1 csl csh (by rw [cs1]; rfl) (by decide) ?_
      refine tw_aload_n 1 dX5_countryFact_48 rfl rfl ?_
      obtain ⟨e47, f48, n_49, r_50, c_51, go_52, so_53, v_54, rd_55, rf_56, t_57, rfl, k58, k59, k60, k61, k62, k63, k64, k65, k66⟩ := sp0.1 c 2 kc (by decide)
      refine tw_getN (v := .int r_50) rfl in_4 1 dX5_countryFact_49 w_504 rfl (by decide) f48 rfl ?_
      exact tw_iret dX5_countryFact_52 rfl (Or.inl ⟨_, rfl, rfl⟩)
    · refine tw_tabIn (off := 52) 53 dX5_countryFact_1 csl csh (by rw [cs1]; rfl) (by decide) ?_
      refine tw_aload_n 1 dX5_countryFact_53 rfl rfl ?_
      obtain ⟨e67, f68, n_69, r_70, c_71, go_72, so_73, v_74, rd_75, rf_76, t_77, rfl, k78, k79, k80, k81, k82, k83, k84, k85, k86⟩ := sp0.1 c 2 kc (by decide)
      refine tw_getN (v := .int c_71) rfl in_4 2 dX5_countryFact_54 w_506 rfl (by decide) f68 rfl ?_
      exact tw_iret dX5_countryFact_57 rfl (Or.inl ⟨_, rfl, rfl⟩)
    · refine tw_tabIn (off := 57) 58 dX5_countryFact_1 csl csh (by rw [cs1]; rfl) (by decide) ?_
      refine tw_aload_n 1 dX5_countryFact_58 rfl rfl ?_
      obtain ⟨e87, f88, n_89, r_90, c_91, go_92, so_93, v_94, rd_95, rf_96, t_97, rfl, k98, k99, k100, k101, k102, k103, k104, k105, k106⟩ := sp0.1 c 2 kc (by decide)
      refine tw_getN (v := .ref v_94) rfl in_4 3 dX5_countryFact_59 w_508 rfl (by decide) f88 rfl ?_
      obtain ⟨e107, f108, a_109, b_110, rfl⟩ := sp0.1 v_94 1 k98 (by decide)
      refine tw_getN (v := .int a_109) rfl in_7 0 dX5_countryFact_62 w_132 rfl (by decide) f108 rfl ?_
      exact tw_iret dX5_countryFact_65 rfl (Or.inl ⟨_, rfl, rfl⟩)
    · refine tw_tabIn (off := 65) 66 dX5_countryFact_1 csl csh (by rw [cs1]; rfl) (by decide) ?_
      refine tw_aload_n 1 dX5_countryFact_66 rfl rfl ?_
      obtain ⟨e111, f112, n_113, r_114, c_115, go_116, so_117, v_118, rd_119, rf_120, t_121, rfl, k122, k123, k124, k125, k126, k127, k128, k129, k130⟩ := sp0.1 c 2 kc (by decide)
      refine tw_getN (v := .ref v_118) rfl in_4 3 dX5_countryFact_67 w_508 rfl (by decide) f112 rfl ?_
      obtain ⟨e131, f132, a_133, b_134, rfl⟩ := sp0.1 v_118 1 k122 (by decide)
      refine tw_getN (v := .int b_134) rfl in_7 1 dX5_countryFact_70 w_134 rfl (by decide) f132 rfl ?_
      exact tw_iret dX5_countryFact_73 rfl (Or.inl ⟨_, rfl, rfl⟩)
    · refine tw_tabIn (off := 73) 74 dX5_countryFact_1 csl csh (by rw [cs1]; rfl) (by decide) ?_
      refine tw_aload_n 1 dX5_countryFact_74 rfl rfl ?_
      obtain ⟨e135, f136, n_137, r_138, c_139, go_140, so_141, v_142, rd_143, rf_144, t_145, rfl, k146, k147, k148, k149, k150, k151, k152, k153, k154⟩ := sp0.1 c 2 kc (by decide)
      refine tw_bi (tw_callVN (M := mX5_countryFact) (pc := 75) okX0_openSet dX5_countryFact_75 w_257 rfl f136 [] [] rfl rfl ⟨by decide, by decide⟩ (Nat.le_of_ble_eq_true rfl) (c_X0_openSet d g τ h sp0.1 c kc) 0 0 (Nat.le_of_ble_eq_true rfl) (Nat.le_of_ble_eq_true rfl)) (fun r157 h156 q155 => ?_) (fun E h1 q => q.elim)
      rw [q155]
      exact tw_iret dX5_countryFact_78 rfl (Or.inl ⟨_, rfl, rfl⟩)
    · refine tw_tabIn (off := 78) 79 dX5_countryFact_1 csl csh (by rw [cs1]; rfl) (by decide) ?_
      refine tw_aload_n 0 dX5_countryFact_79 rfl rfl ?_
      refine tw_aload_n 1 dX5_countryFact_80 rfl rfl ?_
      obtain ⟨e158, f159, td_160, ca_161, ha_162, da_163, c1_164, c2_165, c3_166, c4_167, rfl, k168, k169, k170, k171, k172, k173, k174, k175, k176, k177, k178, k179, k180⟩ := sp0.1 x 11 kx (by decide)
      refine tw_bi (tw_callV (M := mX5_countryFact) (pc := 81) okX5_housesIn dX5_countryFact_81 w_261 rfl f159 [.ref c] [] rfl rfl ⟨by decide, by decide⟩ (Nat.le_of_ble_eq_true rfl) (c_X5_housesIn d g τ h sp0.1 x kx c kc) 0 0 (Nat.le_of_ble_eq_true rfl) (Nat.le_of_ble_eq_true rfl)) (fun r183 h182 q181 => ?_) (fun E h1 q => q.elim)
      rw [q181]
      exact tw_iret dX5_countryFact_84 rfl (Or.inl ⟨_, rfl, rfl⟩)
    · refine tw_tabIn (off := 84) 85 dX5_countryFact_1 csl csh (by rw [cs1]; rfl) (by decide) ?_
      refine tw_aload_n 1 dX5_countryFact_85 rfl rfl ?_
      obtain ⟨e184, f185, n_186, r_187, c_188, go_189, so_190, v_191, rd_192, rf_193, t_194, rfl, k195, k196, k197, k198, k199, k200, k201, k202, k203⟩ := sp0.1 c 2 kc (by decide)
      refine tw_getN (v := .ref v_191) rfl in_4 3 dX5_countryFact_86 w_508 rfl (by decide) f185 rfl ?_
      refine tw_aload_n 0 dX5_countryFact_89 rfl rfl ?_
      obtain ⟨e204, f205, td_206, ca_207, ha_208, da_209, c1_210, c2_211, c3_212, c4_213, rfl, k214, k215, k216, k217, k218, k219, k220, k221, k222, k223, k224, k225, k226⟩ := sp0.1 x 11 kx (by decide)
      refine tw_get (v := .int (g.1 0)) rfl in_9 1 dX5_countryFact_90 w_141 rfl (by decide) f205 rfl ?_
      obtain ⟨e227, f228, a_229, b_230, rfl⟩ := sp0.1 v_191 1 k195 (by decide)
      refine tw_bi (tw_callVN (M := mX5_countryFact) (pc := 93) okX3_worth dX5_countryFact_93 w_265 rfl f228 [.int (g.1 0)] [] rfl rfl ⟨by decide, by decide⟩ (Nat.le_of_ble_eq_true rfl) (c_X3_worth d g τ h sp0.1 v_191 k195 (g.1 0)) 0 0 (Nat.le_of_ble_eq_true rfl) (Nat.le_of_ble_eq_true rfl)) (fun r233 h232 q231 => ?_) (fun E h1 q => q.elim)
      rw [q231]
      exact tw_iret dX5_countryFact_96 rfl (Or.inl ⟨_, rfl, rfl⟩)
    · refine tw_tabIn (off := 96) 97 dX5_countryFact_1 csl csh (by rw [cs1]; rfl) (by decide) ?_
      refine tw_aload_n 1 dX5_countryFact_97 rfl rfl ?_
      obtain ⟨e234, f235, n_236, r_237, c_238, go_239, so_240, v_241, rd_242, rf_243, t_244, rfl, k245, k246, k247, k248, k249, k250, k251, k252, k253⟩ := sp0.1 c 2 kc (by decide)
      refine tw_getN (v := .ref t_244) rfl in_4 8 dX5_countryFact_98 w_514 rfl (by decide) f235 rfl ?_
      obtain ⟨e254, f255, m_256, rfl, k257, k258⟩ := sp0.1 t_244 5 k248 (by decide)
      refine tw_bi (tw_callVN (M := mX5_countryFact) (pc := 101) okX4_pounds dX5_countryFact_101 w_273 rfl f255 [] [] rfl rfl ⟨by decide, by decide⟩ (Nat.le_of_ble_eq_true rfl) (c_X4_pounds d g τ h sp0.1 t_244 k248) 0 0 (Nat.le_of_ble_eq_true rfl) (Nat.le_of_ble_eq_true rfl)) (fun r261 h260 q259 => ?_) (fun E h1 q => q.elim)
      rw [q259]
      exact tw_iret dX5_countryFact_104 rfl (Or.inl ⟨_, rfl, rfl⟩)

set_option maxHeartbeats 4000000 in
set_option maxRecDepth 100000 in
theorem c_X5_ofCountry (d : tw_D) (g : tw_G) (τ : tw_K) (h : tw_H) (hw : tw_wt d g τ h) (x : Nat) (kx : τ x = 11) (n : Int32) (w : Int32) : tw_Ct d mX5_ofCountry 20 120 [.ref x, .int n, .int w] h (tw_qi (fun r h1 => h1 = h) (fun E h1 => (E = tw_IOE ∨ E = tw_IAE) ∧ h1 = h)) := by
  refine tw_of (by decide +kernel) (Nat.le_of_ble_eq_true rfl) ?_
  show tw_W d mX5_ofCountry _ 0 [(0, .ref x), (1, .int n), (2, .int w)] [] h 20 120
  have sp0 := tw_sp.rf hw
  refine tw_aload_n 0 dX5_ofCountry_0 rfl rfl ?_
  refine tw_iload_n 1 dX5_ofCountry_1 rfl rfl ?_
  obtain ⟨e1, f2, td_3, ca_4, ha_5, da_6, c1_7, c2_8, c3_9, c4_10, rfl, k11, k12, k13, k14, k15, k16, k17, k18, k19, k20, k21, k22, k23⟩ := sp0.1 x 11 kx (by decide)
  refine tw_br (tw_callV (M := mX5_ofCountry) (pc := 2) okX5_countryAt dX5_ofCountry_2 w_546 rfl f2 [.int n] [] rfl rfl ⟨by decide, by decide⟩ (Nat.le_of_ble_eq_true rfl) (c_X5_countryAt d g τ h sp0.1 x kx n) 19 114 (Nat.le_of_ble_eq_true rfl) (Nat.le_of_ble_eq_true rfl)) (fun r26 h25 q24 => ?_) (fun E h1 q => Or.inr ⟨E, rfl, (Or.inl q.1), q.2⟩)
  obtain ⟨q24e, p27⟩ := q24
  rw [q24e]
  refine tw_astore_n [(3, .ref r26), (0, .ref x), (1, .int n), (2, .int w)] dX5_ofCountry_5 rfl (by decide) rfl ?_
  refine tw_iload_n 3 dX5_ofCountry_6 rfl rfl ?_
  refine tw_iconst (v := 0) dX5_ofCountry_7 (by decide) ?_
  refine tw_bipush (v := 8) dX5_ofCountry_8 (by decide) ?_
  refine tw_bv (tw_callS (M := mX5_ofCountry) (pc := 10) okX5_needRange dX5_ofCountry_10 w_399 [.int w, .int 0, .int 8] [] rfl rfl ⟨by decide, by decide⟩ (Nat.le_of_ble_eq_true rfl) (c_X5_needRange d g τ h sp0.1 w 0 8) 18 108 (Nat.le_of_ble_eq_true rfl) (Nat.le_of_ble_eq_true rfl)) (fun h29 q28 => ?_) (fun E h1 q => Or.inr ⟨E, rfl, (Or.inr (q.1)), q.2⟩)
  obtain ⟨q28e, p31⟩ := q28
  rw [q28e]
  refine tw_aload_n 1 dX5_ofCountry_13 rfl rfl ?_
  refine tw_aload_n 0 dX5_ofCountry_14 rfl rfl ?_
  refine tw_iload_n 3 dX5_ofCountry_15 rfl rfl ?_
  refine tw_bi (tw_callV (M := mX5_ofCountry) (pc := 16) okX5_countryFact dX5_ofCountry_16 w_253 rfl f2 [.ref r26, .int w] [] rfl rfl ⟨by decide, by decide⟩ (Nat.le_of_ble_eq_true rfl) (c_X5_countryFact d g τ h sp0.1 x kx r26 p27 w) 18 108 (Nat.le_of_ble_eq_true rfl) (Nat.le_of_ble_eq_true rfl)) (fun r34 h33 q32 => ?_) (fun E h1 q => q.elim)
  rw [q32]
  exact tw_iret dX5_ofCountry_19 rfl (Or.inl ⟨_, rfl, rfl⟩)

set_option maxHeartbeats 4000000 in
set_option maxRecDepth 100000 in
theorem c_X5_unpaidDebtsOf (d : tw_D) (g : tw_G) (τ : tw_K) (h : tw_H) (hw : tw_wt d g τ h) (x : Nat) (kx : τ x = 11) (c : Nat) (kc : τ c = 3) : tw_Ct d mX5_unpaidDebtsOf 0 0 [.ref x, .ref c] h (tw_qi (fun r h1 => h1 = h) tw_nx) := by
  refine tw_of (by decide +kernel) (Nat.le_of_ble_eq_true rfl) ?_
  show tw_W d mX5_unpaidDebtsOf _ 0 [(0, .ref x), (1, .ref c)] [] h 0 0
  have sp0 := tw_sp.rf hw
  refine tw_iconst (v := 0) dX5_unpaidDebtsOf_0 (by decide) ?_
  refine tw_istore_n [(2, .int 0), (0, .ref x), (1, .ref c)] dX5_unpaidDebtsOf_1 rfl (by decide) rfl ?_
  refine tw_aload_n 1 dX5_unpaidDebtsOf_2 rfl rfl ?_
  obtain ⟨e1, f2, td_3, ca_4, ha_5, da_6, c1_7, c2_8, c3_9, c4_10, rfl, k11, k12, k13, k14, k15, k16, k17, k18, k19, k20, k21, k22, k23⟩ := sp0.1 x 11 kx (by decide)
  refine tw_get (v := .ref da_6) rfl in_9 6 dX5_unpaidDebtsOf_3 w_146 rfl (by decide) f2 rfl ?_
  refine tw_astore_n [(3, .ref da_6), (2, .int 0), (0, .ref x), (1, .ref c)] dX5_unpaidDebtsOf_6 rfl (by decide) rfl ?_
  refine tw_aload_n 0 dX5_unpaidDebtsOf_7 rfl rfl ?_
  obtain ⟨e24, f25, F26, rfl, k27, pn28, pb29, px30⟩ := sp0.1 da_6 10 k13 (by decide)
  refine tw_alen (v := nI 10) 6 rfl dX5_unpaidDebtsOf_8 f25 rfl ?_
  refine tw_istore [(4, .int (nI 10)), (3, .ref da_6), (2, .int 0), (0, .ref x), (1, .ref c)] dX5_unpaidDebtsOf_9 (by decide) rfl ?_
  refine tw_iconst (v := 0) dX5_unpaidDebtsOf_11 (by decide) ?_
  refine tw_istore [(5, .int 0), (4, .int (nI 10)), (3, .ref da_6), (2, .int 0), (0, .ref x), (1, .ref c)] dX5_unpaidDebtsOf_12 (by decide) rfl ?_
  have L35 : ∀ (r33 k32 : Nat) (x31 : Int32), 10 + 1 ≤ k32 + r33 → k32 ≤ 10 → tw_W d mX5_unpaidDebtsOf (tw_qi (fun r h1 => h1 = h) tw_nx) 14 [(0, .ref x), (1, .ref c), (2, .int x31), (3, .ref da_6), (4, .int (nI 10)), (5, .int (nI k32))] [] h 0 0 := by
    intro r33
    induction r33 with
    | zero => intro k32 x31 hk39 hk40; exact absurd hk39 (by omega)
    | succ r33 ih34 =>
      intro k32 x31 hk39 hk40
      refine tw_iload 5 dX5_unpaidDebtsOf_14 rfl ?_
      refine tw_iload 4 dX5_unpaidDebtsOf_16 rfl ?_
      refine tw_icmp_ge 58 dX5_unpaidDebtsOf_18 (by decide) (fun c41 => ?_) (fun c41 => ?_)
      · refine tw_iload_n 2 dX5_unpaidDebtsOf_58 rfl rfl ?_
        exact tw_iret dX5_unpaidDebtsOf_59 rfl (Or.inl ⟨_, rfl, rfl⟩)
      · have kl42 := tw_klt (N := 10) c41 hk40 (by decide)
        refine tw_aload_n 3 dX5_unpaidDebtsOf_21 rfl rfl ?_
        refine tw_iload 5 dX5_unpaidDebtsOf_22 rfl ?_
        cases k43 : F26 ((nI k32)).toNatClampNeg with
        | none =>
          refine tw_aald (v := .null) 6 rfl rfl dX5_unpaidDebtsOf_24 f25 (vp_in_nI (by omega) (by decide)) (by rw [k43]; rfl) ?_
          refine tw_astoreN [(6, .null), (0, .ref x), (1, .ref c), (2, .int x31), (3, .ref da_6), (4, .int (nI 10)), (5, .int (nI k32))] dX5_unpaidDebtsOf_25 (by decide) rfl ?_
          refine tw_aloadN 0 dX5_unpaidDebtsOf_27 rfl ?_
          refine tw_ifnullN 52 dX5_unpaidDebtsOf_29 (by decide) ?_
          obtain ⟨v45, ev45⟩ : ∃ y : Int32, y = (nI k32) + 1 := ⟨_, rfl⟩
          refine tw_iinc [(5, .int v45), (6, .null), (0, .ref x), (1, .ref c), (2, .int x31), (3, .ref da_6), (4, .int (nI 10))] 6 dX5_unpaidDebtsOf_52 rfl (by rw [ev45]; rfl) (by decide) rfl ?_
          refine tw_goto 14 dX5_unpaidDebtsOf_55 (by decide) ?_
          have qv45 := tw_nI3 ev45
          rw [qv45]
          refine tw_lv [2, 3, 4, 5, 6, 0] rfl ?_
          exact ih34 (k32 + 1) x31 (by omega) (by omega)
        | some q44 =>
          have k46 := k27 _ _ k43
          refine tw_aald (v := .ref q44) 6 rfl rfl dX5_unpaidDebtsOf_24 f25 (vp_in_nI (by omega) (by decide)) (by rw [k43]; rfl) ?_
          refine tw_astore [(6, .ref q44), (0, .ref x), (1, .ref c), (2, .int x31), (3, .ref da_6), (4, .int (nI 10)), (5, .int (nI k32))] dX5_unpaidDebtsOf_25 (by decide) rfl ?_
          refine tw_aload 0 dX5_unpaidDebtsOf_27 rfl ?_
          refine tw_ifnull dX5_unpaidDebtsOf_29 ?_
          refine tw_aload 0 dX5_unpaidDebtsOf_32 rfl ?_
          obtain ⟨e47, f48, v_49, dy_50, pd_51, a_52, b_53, rfl, k54, k55, k56⟩ := sp0.1 q44 4 k46 (by decide)
          refine tw_getN (v := .int pd_51) rfl in_5 4 dX5_unpaidDebtsOf_34 w_728 rfl (by decide) f48 rfl ?_
          refine tw_if_ne 52 dX5_unpaidDebtsOf_37 (by decide) (fun c57 => ?_) (fun c57 => ?_)
          · obtain ⟨v58, ev58⟩ : ∃ y : Int32, y = (nI k32) + 1 := ⟨_, rfl⟩
            refine tw_iinc [(5, .int v58), (6, .ref q44), (0, .ref x), (1, .ref c), (2, .int x31), (3, .ref da_6), (4, .int (nI 10))] 6 dX5_unpaidDebtsOf_52 rfl (by rw [ev58]; rfl) (by decide) rfl ?_
            refine tw_goto 14 dX5_unpaidDebtsOf_55 (by decide) ?_
            have qv58 := tw_nI3 ev58
            rw [qv58]
            refine tw_lv [2, 3, 4, 5, 6, 0] rfl ?_
            exact ih34 (k32 + 1) x31 (by omega) (by omega)
          · refine tw_aload 0 dX5_unpaidDebtsOf_40 rfl ?_
            refine tw_getN (v := .ref a_52) rfl in_5 0 dX5_unpaidDebtsOf_42 w_720 rfl (by decide) f48 rfl ?_
            refine tw_aload_n 2 dX5_unpaidDebtsOf_45 rfl rfl ?_
            refine tw_acmp_ne (rx := (some a_52)) (ry := (some c)) 52 dX5_unpaidDebtsOf_46 (by decide) (fun c59 => ?_) (fun c59 => ?_)
            · obtain ⟨v60, ev60⟩ : ∃ y : Int32, y = (nI k32) + 1 := ⟨_, rfl⟩
              refine tw_iinc [(5, .int v60), (6, .ref q44), (0, .ref x), (1, .ref c), (2, .int x31), (3, .ref da_6), (4, .int (nI 10))] 6 dX5_unpaidDebtsOf_52 rfl (by rw [ev60]; rfl) (by decide) rfl ?_
              refine tw_goto 14 dX5_unpaidDebtsOf_55 (by decide) ?_
              have qv60 := tw_nI3 ev60
              rw [qv60]
              refine tw_lv [2, 3, 4, 5, 6, 0] rfl ?_
              exact ih34 (k32 + 1) x31 (by omega) (by omega)
            · obtain ⟨v61, ev61⟩ : ∃ y : Int32, y = x31 + 1 := ⟨_, rfl⟩
              refine tw_iinc [(2, .int v61), (6, .ref q44), (0, .ref x), (1, .ref c), (3, .ref da_6), (4, .int (nI 10)), (5, .int (nI k32))] 3 dX5_unpaidDebtsOf_49 rfl (by rw [ev61]; rfl) (by decide) rfl ?_
              obtain ⟨v62, ev62⟩ : ∃ y : Int32, y = (nI k32) + 1 := ⟨_, rfl⟩
              refine tw_iinc [(5, .int v62), (2, .int v61), (6, .ref q44), (0, .ref x), (1, .ref c), (3, .ref da_6), (4, .int (nI 10))] 6 dX5_unpaidDebtsOf_52 rfl (by rw [ev62]; rfl) (by decide) rfl ?_
              refine tw_goto 14 dX5_unpaidDebtsOf_55 (by decide) ?_
              have qv62 := tw_nI3 ev62
              rw [qv62]
              refine tw_lv [3, 4, 1, 5, 6, 0] rfl ?_
              exact ih34 (k32 + 1) v61 (by omega) (by omega)
  refine tw_lv [4, 5, 3, 2, 1, 0] rfl ?_
  exact L35 (10 + 1) 0 0 (by omega) (by omega)

set_option maxHeartbeats 4000000 in
set_option maxRecDepth 100000 in
theorem c_X5_unpaidDebtsTo (d : tw_D) (g : tw_G) (τ : tw_K) (h : tw_H) (hw : tw_wt d g τ h) (x : Nat) (kx : τ x = 11) (c : Nat) (kc : τ c = 3) : tw_Ct d mX5_unpaidDebtsTo 0 0 [.ref x, .ref c] h (tw_qi (fun r h1 => h1 = h) tw_nx) := by
  refine tw_of (by decide +kernel) (Nat.le_of_ble_eq_true rfl) ?_
  show tw_W d mX5_unpaidDebtsTo _ 0 [(0, .ref x), (1, .ref c)] [] h 0 0
  have sp0 := tw_sp.rf hw
  refine tw_iconst (v := 0) dX5_unpaidDebtsTo_0 (by decide) ?_
  refine tw_istore_n [(2, .int 0), (0, .ref x), (1, .ref c)] dX5_unpaidDebtsTo_1 rfl (by decide) rfl ?_
  refine tw_aload_n 1 dX5_unpaidDebtsTo_2 rfl rfl ?_
  obtain ⟨e1, f2, td_3, ca_4, ha_5, da_6, c1_7, c2_8, c3_9, c4_10, rfl, k11, k12, k13, k14, k15, k16, k17, k18, k19, k20, k21, k22, k23⟩ := sp0.1 x 11 kx (by decide)
  refine tw_get (v := .ref da_6) rfl in_9 6 dX5_unpaidDebtsTo_3 w_146 rfl (by decide) f2 rfl ?_
  refine tw_astore_n [(3, .ref da_6), (2, .int 0), (0, .ref x), (1, .ref c)] dX5_unpaidDebtsTo_6 rfl (by decide) rfl ?_
  refine tw_aload_n 0 dX5_unpaidDebtsTo_7 rfl rfl ?_
  obtain ⟨e24, f25, F26, rfl, k27, pn28, pb29, px30⟩ := sp0.1 da_6 10 k13 (by decide)
  refine tw_alen (v := nI 10) 6 rfl dX5_unpaidDebtsTo_8 f25 rfl ?_
  refine tw_istore [(4, .int (nI 10)), (3, .ref da_6), (2, .int 0), (0, .ref x), (1, .ref c)] dX5_unpaidDebtsTo_9 (by decide) rfl ?_
  refine tw_iconst (v := 0) dX5_unpaidDebtsTo_11 (by decide) ?_
  refine tw_istore [(5, .int 0), (4, .int (nI 10)), (3, .ref da_6), (2, .int 0), (0, .ref x), (1, .ref c)] dX5_unpaidDebtsTo_12 (by decide) rfl ?_
  have L35 : ∀ (r33 k32 : Nat) (x31 : Int32), 10 + 1 ≤ k32 + r33 → k32 ≤ 10 → tw_W d mX5_unpaidDebtsTo (tw_qi (fun r h1 => h1 = h) tw_nx) 14 [(0, .ref x), (1, .ref c), (2, .int x31), (3, .ref da_6), (4, .int (nI 10)), (5, .int (nI k32))] [] h 0 0 := by
    intro r33
    induction r33 with
    | zero => intro k32 x31 hk39 hk40; exact absurd hk39 (by omega)
    | succ r33 ih34 =>
      intro k32 x31 hk39 hk40
      refine tw_iload 5 dX5_unpaidDebtsTo_14 rfl ?_
      refine tw_iload 4 dX5_unpaidDebtsTo_16 rfl ?_
      refine tw_icmp_ge 58 dX5_unpaidDebtsTo_18 (by decide) (fun c41 => ?_) (fun c41 => ?_)
      · refine tw_iload_n 2 dX5_unpaidDebtsTo_58 rfl rfl ?_
        exact tw_iret dX5_unpaidDebtsTo_59 rfl (Or.inl ⟨_, rfl, rfl⟩)
      · have kl42 := tw_klt (N := 10) c41 hk40 (by decide)
        refine tw_aload_n 3 dX5_unpaidDebtsTo_21 rfl rfl ?_
        refine tw_iload 5 dX5_unpaidDebtsTo_22 rfl ?_
        cases k43 : F26 ((nI k32)).toNatClampNeg with
        | none =>
          refine tw_aald (v := .null) 6 rfl rfl dX5_unpaidDebtsTo_24 f25 (vp_in_nI (by omega) (by decide)) (by rw [k43]; rfl) ?_
          refine tw_astoreN [(6, .null), (0, .ref x), (1, .ref c), (2, .int x31), (3, .ref da_6), (4, .int (nI 10)), (5, .int (nI k32))] dX5_unpaidDebtsTo_25 (by decide) rfl ?_
          refine tw_aloadN 0 dX5_unpaidDebtsTo_27 rfl ?_
          refine tw_ifnullN 52 dX5_unpaidDebtsTo_29 (by decide) ?_
          obtain ⟨v45, ev45⟩ : ∃ y : Int32, y = (nI k32) + 1 := ⟨_, rfl⟩
          refine tw_iinc [(5, .int v45), (6, .null), (0, .ref x), (1, .ref c), (2, .int x31), (3, .ref da_6), (4, .int (nI 10))] 6 dX5_unpaidDebtsTo_52 rfl (by rw [ev45]; rfl) (by decide) rfl ?_
          refine tw_goto 14 dX5_unpaidDebtsTo_55 (by decide) ?_
          have qv45 := tw_nI3 ev45
          rw [qv45]
          refine tw_lv [2, 3, 4, 5, 6, 0] rfl ?_
          exact ih34 (k32 + 1) x31 (by omega) (by omega)
        | some q44 =>
          have k46 := k27 _ _ k43
          refine tw_aald (v := .ref q44) 6 rfl rfl dX5_unpaidDebtsTo_24 f25 (vp_in_nI (by omega) (by decide)) (by rw [k43]; rfl) ?_
          refine tw_astore [(6, .ref q44), (0, .ref x), (1, .ref c), (2, .int x31), (3, .ref da_6), (4, .int (nI 10)), (5, .int (nI k32))] dX5_unpaidDebtsTo_25 (by decide) rfl ?_
          refine tw_aload 0 dX5_unpaidDebtsTo_27 rfl ?_
          refine tw_ifnull dX5_unpaidDebtsTo_29 ?_
          refine tw_aload 0 dX5_unpaidDebtsTo_32 rfl ?_
          obtain ⟨e47, f48, v_49, dy_50, pd_51, a_52, b_53, rfl, k54, k55, k56⟩ := sp0.1 q44 4 k46 (by decide)
          refine tw_getN (v := .int pd_51) rfl in_5 4 dX5_unpaidDebtsTo_34 w_728 rfl (by decide) f48 rfl ?_
          refine tw_if_ne 52 dX5_unpaidDebtsTo_37 (by decide) (fun c57 => ?_) (fun c57 => ?_)
          · obtain ⟨v58, ev58⟩ : ∃ y : Int32, y = (nI k32) + 1 := ⟨_, rfl⟩
            refine tw_iinc [(5, .int v58), (6, .ref q44), (0, .ref x), (1, .ref c), (2, .int x31), (3, .ref da_6), (4, .int (nI 10))] 6 dX5_unpaidDebtsTo_52 rfl (by rw [ev58]; rfl) (by decide) rfl ?_
            refine tw_goto 14 dX5_unpaidDebtsTo_55 (by decide) ?_
            have qv58 := tw_nI3 ev58
            rw [qv58]
            refine tw_lv [2, 3, 4, 5, 6, 0] rfl ?_
            exact ih34 (k32 + 1) x31 (by omega) (by omega)
          · refine tw_aload 0 dX5_unpaidDebtsTo_40 rfl ?_
            refine tw_getN (v := .ref b_53) rfl in_5 1 dX5_unpaidDebtsTo_42 w_722 rfl (by decide) f48 rfl ?_
            refine tw_aload_n 2 dX5_unpaidDebtsTo_45 rfl rfl ?_
            refine tw_acmp_ne (rx := (some b_53)) (ry := (some c)) 52 dX5_unpaidDebtsTo_46 (by decide) (fun c59 => ?_) (fun c59 => ?_)
            · obtain ⟨v60, ev60⟩ : ∃ y : Int32, y = (nI k32) + 1 := ⟨_, rfl⟩
              refine tw_iinc [(5, .int v60), (6, .ref q44), (0, .ref x), (1, .ref c), (2, .int x31), (3, .ref da_6), (4, .int (nI 10))] 6 dX5_unpaidDebtsTo_52 rfl (by rw [ev60]; rfl) (by decide) rfl ?_
              refine tw_goto 14 dX5_unpaidDebtsTo_55 (by decide) ?_
              have qv60 := tw_nI3 ev60
              rw [qv60]
              refine tw_lv [2, 3, 4, 5, 6, 0] rfl ?_
              exact ih34 (k32 + 1) x31 (by omega) (by omega)
            · obtain ⟨v61, ev61⟩ : ∃ y : Int32, y = x31 + 1 := ⟨_, rfl⟩
              refine tw_iinc [(2, .int v61), (6, .ref q44), (0, .ref x), (1, .ref c), (3, .ref da_6), (4, .int (nI 10)), (5, .int (nI k32))] 3 dX5_unpaidDebtsTo_49 rfl (by rw [ev61]; rfl) (by decide) rfl ?_
              obtain ⟨v62, ev62⟩ : ∃ y : Int32, y = (nI k32) + 1 := ⟨_, rfl⟩
              refine tw_iinc [(5, .int v62), (2, .int v61), (6, .ref q44), (0, .ref x), (1, .ref c), (3, .ref da_6), (4, .int (nI 10))] 6 dX5_unpaidDebtsTo_52 rfl (by rw [ev62]; rfl) (by decide) rfl ?_
              refine tw_goto 14 dX5_unpaidDebtsTo_55 (by decide) ?_
              have qv62 := tw_nI3 ev62
              rw [qv62]
              refine tw_lv [3, 4, 1, 5, 6, 0] rfl ?_
              exact ih34 (k32 + 1) v61 (by omega) (by omega)
  refine tw_lv [4, 5, 3, 2, 1, 0] rfl ?_
  exact L35 (10 + 1) 0 0 (by omega) (by omega)

set_option maxHeartbeats 4000000 in
set_option maxRecDepth 100000 in
theorem c_X5_numberOf (d : tw_D) (g : tw_G) (τ : tw_K) (h : tw_H) (hw : tw_wt d g τ h) (p : Option Nat) (hp : ∀ q, p = some q → τ q = 2) : tw_Ct d mX5_numberOf 0 0 [va_rf p] h (tw_qi (fun r h1 => h1 = h) tw_nx) := by
  cases p with
  | none =>
    refine tw_of (by decide +kernel) (Nat.le_of_ble_eq_true rfl) ?_
    show tw_W d mX5_numberOf _ 0 [(0, .null)] [] h 0 0
    refine tw_aload_nN 0 dX5_numberOf_0 rfl rfl ?_
    refine tw_ifnonnullN dX5_numberOf_1 ?_
    refine tw_iconst (v := -1) dX5_numberOf_4 (by decide) ?_
    refine tw_goto 12 dX5_numberOf_5 (by decide) ?_
    exact tw_iret dX5_numberOf_12 rfl (Or.inl ⟨_, rfl, rfl⟩)
  | some c =>
    refine tw_of (by decide +kernel) (Nat.le_of_ble_eq_true rfl) ?_
    show tw_W d mX5_numberOf _ 0 [(0, .ref c)] [] h 0 0
    have sp0 := tw_sp.rf hw
    have kc := hp c rfl
    refine tw_aload_n 0 dX5_numberOf_0 rfl rfl ?_
    refine tw_ifnonnull 8 dX5_numberOf_1 (by decide) ?_
    refine tw_aload_n 0 dX5_numberOf_8 rfl rfl ?_
    obtain ⟨e1, f2, n_3, r_4, c_5, go_6, so_7, v_8, rd_9, rf_10, t_11, rfl, k12, k13, k14, k15, k16, k17, k18, k19, k20⟩ := sp0.1 c 2 kc (by decide)
    refine tw_getN (v := .int n_3) rfl in_4 0 dX5_numberOf_9 w_502 rfl (by decide) f2 rfl ?_
    exact tw_iret dX5_numberOf_12 rfl (Or.inl ⟨_, rfl, rfl⟩)

set_option maxHeartbeats 4000000 in
set_option maxRecDepth 100000 in
theorem c_X5_houseFact (d : tw_D) (g : tw_G) (τ : tw_K) (h : tw_H) (hw : tw_wt d g τ h) (x : Nat) (kx : τ x = 11) (c : Nat) (kc : τ c = 3) (w : Int32) : tw_Ct d mX5_houseFact 0 0 [.ref x, .ref c, .int w] h (tw_qi (fun r h1 => h1 = h) tw_nx) := by
  refine tw_of (by decide +kernel) (Nat.le_of_ble_eq_true rfl) ?_
  show tw_W d mX5_houseFact _ 0 [(0, .ref x), (1, .ref c), (2, .int w)] [] h 0 0
  have sp0 := tw_sp.rf hw
  refine tw_iload_n 2 dX5_houseFact_0 rfl rfl ?_
  by_cases cs0 : (w).toInt < 0 ∨ 6 < (w).toInt
  · refine tw_tabOut 99 dX5_houseFact_1 cs0 (by decide) ?_
    refine tw_aload_n 0 dX5_houseFact_99 rfl rfl ?_
    refine tw_aload_n 1 dX5_houseFact_100 rfl rfl ?_
    obtain ⟨e1, f2, td_3, ca_4, ha_5, da_6, c1_7, c2_8, c3_9, c4_10, rfl, k11, k12, k13, k14, k15, k16, k17, k18, k19, k20, k21, k22, k23⟩ := sp0.1 x 11 kx (by decide)
    refine tw_bi (tw_callV (M := mX5_houseFact) (pc := 101) okX5_unpaidDebtsTo dX5_houseFact_101 w_343 rfl f2 [.ref c] [] rfl rfl ⟨by decide, by decide⟩ (Nat.le_of_ble_eq_true rfl) (c_X5_unpaidDebtsTo d g τ h sp0.1 x kx c kc) 0 0 (Nat.le_of_ble_eq_true rfl) (Nat.le_of_ble_eq_true rfl)) (fun r26 h25 q24 => ?_) (fun E h1 q => q.elim)
    rw [q24]
    exact tw_iret dX5_houseFact_104 rfl (Or.inl ⟨_, rfl, rfl⟩)
  · have csl : ¬ (w).toInt < 0 := fun q => cs0 (Or.inl q)
    have csh : ¬ 6 < (w).toInt := fun q => cs0 (Or.inr q)
    rcases (show (w).toInt = 0 ∨ (w).toInt = 1 ∨ (w).toInt = 2 ∨ (w).toInt = 3 ∨ (w).toInt = 4 ∨ (w).toInt = 5 ∨ (w).toInt = 6 by omega) with cs1 | cs1 | cs1 | cs1 | cs1 | cs1 | cs1
    · refine tw_tabIn (off := 43) 44 dX5_houseFact_1 csl csh (by rw [cs1]; rfl) (by decide) ?_
      refine tw_aload_n 1 dX5_houseFact_44 rfl rfl ?_
      obtain ⟨e27, f28, n_29, ar_30, p_31, pl_32, go_33, rfl, k34, k35, k36⟩ := sp0.1 c 3 kc (by decide)
      refine tw_getN (v := va_rf pl_32) rfl in_6 2 dX5_houseFact_45 w_641 rfl (by decide) f28 rfl ?_
      refine tw_bi (tw_callS (M := mX5_houseFact) (pc := 48) okX5_numberOf dX5_houseFact_48 w_336 [va_rf pl_32] [] rfl rfl ⟨by decide, by decide⟩ (Nat.le_of_ble_eq_true rfl) (c_X5_numberOf d g τ h sp0.1 pl_32 k35) 0 0 (Nat.le_of_ble_eq_true rfl) (Nat.le_of_ble_eq_true rfl)) (fun r39 h38 q37 => ?_) (fun E h1 q => q.elim)
      rw [q37]
      exact tw_iret dX5_houseFact_51 rfl (Or.inl ⟨_, rfl, rfl⟩)
    · refine tw_tabIn (off := 51) 52 dX5_houseFact_1 csl csh (by rw [cs1]; rfl) (by decide) ?_
      refine tw_aload_n 1 dX5_houseFact_52 rfl rfl ?_
      obtain ⟨e40, f41, n_42, ar_43, p_44, pl_45, go_46, rfl, k47, k48, k49⟩ := sp0.1 c 3 kc (by decide)
      refine tw_getN (v := va_rf go_46) rfl in_6 3 dX5_houseFact_53 w_643 rfl (by decide) f41 rfl ?_
      refine tw_bi (tw_callS (M := mX5_houseFact) (pc := 56) okX5_numberOf dX5_houseFact_56 w_336 [va_rf go_46] [] rfl rfl ⟨by decide, by decide⟩ (Nat.le_of_ble_eq_true rfl) (c_X5_numberOf d g τ h sp0.1 go_46 k49) 0 0 (Nat.le_of_ble_eq_true rfl) (Nat.le_of_ble_eq_true rfl)) (fun r52 h51 q50 => ?_) (fun E h1 q => q.elim)
      rw [q50]
      exact tw_iret dX5_houseFact_59 rfl (Or.inl ⟨_, rfl, rfl⟩)
    · refine tw_tabIn (off := 59) 60 dX5_houseFact_1 csl csh (by rw [cs1]; rfl) (by decide) ?_
      refine tw_aload_n 1 dX5_houseFact_60 rfl rfl ?_
      obtain ⟨e53, f54, n_55, ar_56, p_57, pl_58, go_59, rfl, k60, k61, k62⟩ := sp0.1 c 3 kc (by decide)
      refine tw_getN (v := .int ar_56) rfl in_6 4 dX5_houseFact_61 w_645 rfl (by decide) f54 rfl ?_
      exact tw_iret dX5_houseFact_64 rfl (Or.inl ⟨_, rfl, rfl⟩)
    · refine tw_tabIn (off := 64) 65 dX5_houseFact_1 csl csh (by rw [cs1]; rfl) (by decide) ?_
      refine tw_aload_n 1 dX5_houseFact_65 rfl rfl ?_
      obtain ⟨e63, f64, n_65, ar_66, p_67, pl_68, go_69, rfl, k70, k71, k72⟩ := sp0.1 c 3 kc (by decide)
      refine tw_getN (v := .ref p_67) rfl in_6 1 dX5_houseFact_66 w_639 rfl (by decide) f64 rfl ?_
      obtain ⟨e73, f74, a_75, b_76, rfl⟩ := sp0.1 p_67 1 k70 (by decide)
      refine tw_getN (v := .int a_75) rfl in_7 0 dX5_houseFact_69 w_132 rfl (by decide) f74 rfl ?_
      exact tw_iret dX5_houseFact_72 rfl (Or.inl ⟨_, rfl, rfl⟩)
    · refine tw_tabIn (off := 72) 73 dX5_houseFact_1 csl csh (by rw [cs1]; rfl) (by decide) ?_
      refine tw_aload_n 1 dX5_houseFact_73 rfl rfl ?_
      obtain ⟨e77, f78, n_79, ar_80, p_81, pl_82, go_83, rfl, k84, k85, k86⟩ := sp0.1 c 3 kc (by decide)
      refine tw_getN (v := .ref p_81) rfl in_6 1 dX5_houseFact_74 w_639 rfl (by decide) f78 rfl ?_
      obtain ⟨e87, f88, a_89, b_90, rfl⟩ := sp0.1 p_81 1 k84 (by decide)
      refine tw_getN (v := .int b_90) rfl in_7 1 dX5_houseFact_77 w_134 rfl (by decide) f88 rfl ?_
      exact tw_iret dX5_houseFact_80 rfl (Or.inl ⟨_, rfl, rfl⟩)
    · refine tw_tabIn (off := 80) 81 dX5_houseFact_1 csl csh (by rw [cs1]; rfl) (by decide) ?_
      refine tw_aload_n 1 dX5_houseFact_81 rfl rfl ?_
      obtain ⟨e91, f92, n_93, ar_94, p_95, pl_96, go_97, rfl, k98, k99, k100⟩ := sp0.1 c 3 kc (by decide)
      refine tw_getN (v := .ref p_95) rfl in_6 1 dX5_houseFact_82 w_639 rfl (by decide) f92 rfl ?_
      refine tw_aload_n 0 dX5_houseFact_85 rfl rfl ?_
      obtain ⟨e101, f102, td_103, ca_104, ha_105, da_106, c1_107, c2_108, c3_109, c4_110, rfl, k111, k112, k113, k114, k115, k116, k117, k118, k119, k120, k121, k122, k123⟩ := sp0.1 x 11 kx (by decide)
      refine tw_get (v := .int (g.1 0)) rfl in_9 1 dX5_houseFact_86 w_141 rfl (by decide) f102 rfl ?_
      obtain ⟨e124, f125, a_126, b_127, rfl⟩ := sp0.1 p_95 1 k98 (by decide)
      refine tw_bi (tw_callVN (M := mX5_houseFact) (pc := 89) okX3_worth dX5_houseFact_89 w_265 rfl f125 [.int (g.1 0)] [] rfl rfl ⟨by decide, by decide⟩ (Nat.le_of_ble_eq_true rfl) (c_X3_worth d g τ h sp0.1 p_95 k98 (g.1 0)) 0 0 (Nat.le_of_ble_eq_true rfl) (Nat.le_of_ble_eq_true rfl)) (fun r130 h129 q128 => ?_) (fun E h1 q => q.elim)
      rw [q128]
      exact tw_iret dX5_houseFact_92 rfl (Or.inl ⟨_, rfl, rfl⟩)
    · refine tw_tabIn (off := 92) 93 dX5_houseFact_1 csl csh (by rw [cs1]; rfl) (by decide) ?_
      refine tw_aload_n 0 dX5_houseFact_93 rfl rfl ?_
      refine tw_aload_n 1 dX5_houseFact_94 rfl rfl ?_
      obtain ⟨e131, f132, td_133, ca_134, ha_135, da_136, c1_137, c2_138, c3_139, c4_140, rfl, k141, k142, k143, k144, k145, k146, k147, k148, k149, k150, k151, k152, k153⟩ := sp0.1 x 11 kx (by decide)
      refine tw_bi (tw_callV (M := mX5_houseFact) (pc := 95) okX5_unpaidDebtsOf dX5_houseFact_95 w_339 rfl f132 [.ref c] [] rfl rfl ⟨by decide, by decide⟩ (Nat.le_of_ble_eq_true rfl) (c_X5_unpaidDebtsOf d g τ h sp0.1 x kx c kc) 0 0 (Nat.le_of_ble_eq_true rfl) (Nat.le_of_ble_eq_true rfl)) (fun r156 h155 q154 => ?_) (fun E h1 q => q.elim)
      rw [q154]
      exact tw_iret dX5_houseFact_98 rfl (Or.inl ⟨_, rfl, rfl⟩)

set_option maxHeartbeats 4000000 in
set_option maxRecDepth 100000 in
theorem c_X5_ofHouse (d : tw_D) (g : tw_G) (τ : tw_K) (h : tw_H) (hw : tw_wt d g τ h) (x : Nat) (kx : τ x = 11) (n : Int32) (w : Int32) : tw_Ct d mX5_ofHouse 20 120 [.ref x, .int n, .int w] h (tw_qi (fun r h1 => h1 = h) (fun E h1 => (E = tw_IOE ∨ E = tw_IAE) ∧ h1 = h)) := by
  refine tw_of (by decide +kernel) (Nat.le_of_ble_eq_true rfl) ?_
  show tw_W d mX5_ofHouse _ 0 [(0, .ref x), (1, .int n), (2, .int w)] [] h 20 120
  have sp0 := tw_sp.rf hw
  refine tw_aload_n 0 dX5_ofHouse_0 rfl rfl ?_
  refine tw_iload_n 1 dX5_ofHouse_1 rfl rfl ?_
  obtain ⟨e1, f2, td_3, ca_4, ha_5, da_6, c1_7, c2_8, c3_9, c4_10, rfl, k11, k12, k13, k14, k15, k16, k17, k18, k19, k20, k21, k22, k23⟩ := sp0.1 x 11 kx (by decide)
  refine tw_br (tw_callV (M := mX5_ofHouse) (pc := 2) okX5_houseAt dX5_ofHouse_2 w_664 rfl f2 [.int n] [] rfl rfl ⟨by decide, by decide⟩ (Nat.le_of_ble_eq_true rfl) (c_X5_houseAt d g τ h sp0.1 x kx n) 19 114 (Nat.le_of_ble_eq_true rfl) (Nat.le_of_ble_eq_true rfl)) (fun r26 h25 q24 => ?_) (fun E h1 q => Or.inr ⟨E, rfl, (Or.inl q.1), q.2⟩)
  obtain ⟨q24e, p27⟩ := q24
  rw [q24e]
  refine tw_astore_n [(3, .ref r26), (0, .ref x), (1, .int n), (2, .int w)] dX5_ofHouse_5 rfl (by decide) rfl ?_
  refine tw_iload_n 3 dX5_ofHouse_6 rfl rfl ?_
  refine tw_iconst (v := 0) dX5_ofHouse_7 (by decide) ?_
  refine tw_bipush (v := 7) dX5_ofHouse_8 (by decide) ?_
  refine tw_bv (tw_callS (M := mX5_ofHouse) (pc := 10) okX5_needRange dX5_ofHouse_10 w_399 [.int w, .int 0, .int 7] [] rfl rfl ⟨by decide, by decide⟩ (Nat.le_of_ble_eq_true rfl) (c_X5_needRange d g τ h sp0.1 w 0 7) 18 108 (Nat.le_of_ble_eq_true rfl) (Nat.le_of_ble_eq_true rfl)) (fun h29 q28 => ?_) (fun E h1 q => Or.inr ⟨E, rfl, (Or.inr (q.1)), q.2⟩)
  obtain ⟨q28e, p31⟩ := q28
  rw [q28e]
  refine tw_aload_n 1 dX5_ofHouse_13 rfl rfl ?_
  refine tw_aload_n 0 dX5_ofHouse_14 rfl rfl ?_
  refine tw_iload_n 3 dX5_ofHouse_15 rfl rfl ?_
  refine tw_bi (tw_callV (M := mX5_ofHouse) (pc := 16) okX5_houseFact dX5_ofHouse_16 w_332 rfl f2 [.ref r26, .int w] [] rfl rfl ⟨by decide, by decide⟩ (Nat.le_of_ble_eq_true rfl) (c_X5_houseFact d g τ h sp0.1 x kx r26 p27 w) 18 108 (Nat.le_of_ble_eq_true rfl) (Nat.le_of_ble_eq_true rfl)) (fun r34 h33 q32 => ?_) (fun E h1 q => q.elim)
  rw [q32]
  exact tw_iret dX5_ofHouse_19 rfl (Or.inl ⟨_, rfl, rfl⟩)

set_option maxHeartbeats 4000000 in
set_option maxRecDepth 100000 in
theorem c_X5_cheaperMetal (d : tw_D) (g : tw_G) (τ : tw_K) (h : tw_H) (hw : tw_wt d g τ h) (x : Nat) (kx : τ x = 11) (c : Nat) (kc : τ c = 4) : tw_Ct d mX5_cheaperMetal 0 0 [.ref x, .ref c] h (tw_qi (fun r h1 => h1 = h) tw_nx) := by
  refine tw_of (by decide +kernel) (Nat.le_of_ble_eq_true rfl) ?_
  show tw_W d mX5_cheaperMetal _ 0 [(0, .ref x), (1, .ref c)] [] h 0 0
  have sp0 := tw_sp.rf hw
  refine tw_aload_n 1 dX5_cheaperMetal_0 rfl rfl ?_
  obtain ⟨e1, f2, v_3, dy_4, pd_5, a_6, b_7, rfl, k8, k9, k10⟩ := sp0.1 c 4 kc (by decide)
  refine tw_getN (v := .ref a_6) rfl in_5 0 dX5_cheaperMetal_1 w_720 rfl (by decide) f2 rfl ?_
  obtain ⟨e11, f12, n_13, ar_14, p_15, pl_16, go_17, rfl, k18, k19, k20⟩ := sp0.1 a_6 3 k8 (by decide)
  cases pl_16 with
  | none =>
    refine tw_getN (v := .null) rfl in_6 2 dX5_cheaperMetal_4 w_641 rfl (by decide) f12 rfl ?_
    refine tw_astore_nN [(2, .null), (0, .ref x), (1, .ref c)] dX5_cheaperMetal_7 rfl (by decide) rfl ?_
    refine tw_aload_n 2 dX5_cheaperMetal_8 rfl rfl ?_
    refine tw_getN (v := .int pd_5) rfl in_5 4 dX5_cheaperMetal_9 w_728 rfl (by decide) f2 rfl ?_
    refine tw_if_ne 19 dX5_cheaperMetal_12 (by decide) (fun c22 => ?_) (fun c22 => ?_)
    · refine tw_iconst (v := -1) dX5_cheaperMetal_19 (by decide) ?_
      exact tw_iret dX5_cheaperMetal_20 rfl (Or.inl ⟨_, rfl, rfl⟩)
    · refine tw_aload_nN 0 dX5_cheaperMetal_15 rfl rfl ?_
      refine tw_ifnonnullN dX5_cheaperMetal_16 ?_
      refine tw_iconst (v := -1) dX5_cheaperMetal_19 (by decide) ?_
      exact tw_iret dX5_cheaperMetal_20 rfl (Or.inl ⟨_, rfl, rfl⟩)
  | some q21 =>
    refine tw_getN (v := .ref q21) rfl in_6 2 dX5_cheaperMetal_4 w_641 rfl (by decide) f12 rfl ?_
    refine tw_astore_n [(2, .ref q21), (0, .ref x), (1, .ref c)] dX5_cheaperMetal_7 rfl (by decide) rfl ?_
    refine tw_aload_n 2 dX5_cheaperMetal_8 rfl rfl ?_
    refine tw_getN (v := .int pd_5) rfl in_5 4 dX5_cheaperMetal_9 w_728 rfl (by decide) f2 rfl ?_
    refine tw_if_ne 19 dX5_cheaperMetal_12 (by decide) (fun c23 => ?_) (fun c23 => ?_)
    · refine tw_iconst (v := -1) dX5_cheaperMetal_19 (by decide) ?_
      exact tw_iret dX5_cheaperMetal_20 rfl (Or.inl ⟨_, rfl, rfl⟩)
    · refine tw_aload_n 0 dX5_cheaperMetal_15 rfl rfl ?_
      refine tw_ifnonnull 21 dX5_cheaperMetal_16 (by decide) ?_
      refine tw_aload_n 2 dX5_cheaperMetal_21 rfl rfl ?_
      refine tw_aload_n 1 dX5_cheaperMetal_22 rfl rfl ?_
      obtain ⟨e24, f25, td_26, ca_27, ha_28, da_29, c1_30, c2_31, c3_32, c4_33, rfl, k34, k35, k36, k37, k38, k39, k40, k41, k42, k43, k44, k45, k46⟩ := sp0.1 x 11 kx (by decide)
      refine tw_get (v := .int td_26) rfl in_9 0 dX5_cheaperMetal_23 w_140 rfl (by decide) f25 rfl ?_
      refine tw_bi (tw_callVN (M := mX5_cheaperMetal) (pc := 26) okX1_dueOn dX5_cheaperMetal_26 w_355 rfl f2 [.int td_26] [] rfl rfl ⟨by decide, by decide⟩ (Nat.le_of_ble_eq_true rfl) (c_X1_dueOn d g τ h sp0.1 c kc td_26) 0 0 (Nat.le_of_ble_eq_true rfl) (Nat.le_of_ble_eq_true rfl)) (fun r49 h48 q47 => ?_) (fun E h1 q => q.elim)
      rw [q47]
      refine tw_istore_n [(3, .int r49), (2, .ref q21), (0, .ref x), (1, .ref c)] dX5_cheaperMetal_29 rfl (by decide) rfl ?_
      refine tw_aload_n 1 dX5_cheaperMetal_30 rfl rfl ?_
      refine tw_iload_n 0 dX5_cheaperMetal_31 rfl rfl ?_
      obtain ⟨e50, f51, n_52, r_53, c_54, go_55, so_56, v_57, rd_58, rf_59, t_60, rfl, k61, k62, k63, k64, k65, k66, k67, k68, k69⟩ := sp0.1 q21 2 (k19 _ rfl) (by decide)
      refine tw_bi (tw_callVN (M := mX5_cheaperMetal) (pc := 32) okX0_goldFor dX5_cheaperMetal_32 w_364 rfl f51 [.int r49] [] rfl rfl ⟨by decide, by decide⟩ (Nat.le_of_ble_eq_true rfl) (c_X0_goldFor d g τ h sp0.1 q21 (k19 _ rfl) r49) 0 0 (Nat.le_of_ble_eq_true rfl) (Nat.le_of_ble_eq_true rfl)) (fun r72 h71 q70 => ?_) (fun E h1 q => q.elim)
      rw [q70]
      refine tw_iconst (v := 0) dX5_cheaperMetal_35 (by decide) ?_
      refine tw_aload_n 2 dX5_cheaperMetal_36 rfl rfl ?_
      refine tw_get (v := .int (g.1 0)) rfl in_9 1 dX5_cheaperMetal_37 w_141 rfl (by decide) f25 rfl ?_
      refine tw_bi (tw_callS (M := mX5_cheaperMetal) (pc := 40) okX5_worthOf dX5_cheaperMetal_40 w_368 [.int r72, .int 0, .int (g.1 0)] [] rfl rfl ⟨by decide, by decide⟩ (Nat.le_of_ble_eq_true rfl) (c_X5_worthOf d g τ h sp0.1 r72 0 (g.1 0)) 0 0 (Nat.le_of_ble_eq_true rfl) (Nat.le_of_ble_eq_true rfl)) (fun r75 h74 q73 => ?_) (fun E h1 q => q.elim)
      rw [q73]
      refine tw_iload_n 0 dX5_cheaperMetal_43 rfl rfl ?_
      refine tw_icmp_ge 51 dX5_cheaperMetal_44 (by decide) (fun c76 => ?_) (fun c76 => ?_)
      · refine tw_iconst (v := 1) dX5_cheaperMetal_51 (by decide) ?_
        exact tw_iret dX5_cheaperMetal_52 rfl (Or.inl ⟨_, rfl, rfl⟩)
      · refine tw_iconst (v := 0) dX5_cheaperMetal_47 (by decide) ?_
        refine tw_goto 52 dX5_cheaperMetal_48 (by decide) ?_
        exact tw_iret dX5_cheaperMetal_52 rfl (Or.inl ⟨_, rfl, rfl⟩)

set_option maxHeartbeats 4000000 in
set_option maxRecDepth 100000 in
theorem c_X5_debtFact (d : tw_D) (g : tw_G) (τ : tw_K) (h : tw_H) (hw : tw_wt d g τ h) (x : Nat) (kx : τ x = 11) (c : Nat) (kc : τ c = 4) (w : Int32) : tw_Ct d mX5_debtFact 0 0 [.ref x, .ref c, .int w] h (tw_qi (fun r h1 => h1 = h) tw_nx) := by
  refine tw_of (by decide +kernel) (Nat.le_of_ble_eq_true rfl) ?_
  show tw_W d mX5_debtFact _ 0 [(0, .ref x), (1, .ref c), (2, .int w)] [] h 0 0
  have sp0 := tw_sp.rf hw
  refine tw_iload_n 2 dX5_debtFact_0 rfl rfl ?_
  by_cases cs0 : (w).toInt < 0 ∨ 5 < (w).toInt
  · refine tw_tabOut 99 dX5_debtFact_1 cs0 (by decide) ?_
    refine tw_aload_n 0 dX5_debtFact_99 rfl rfl ?_
    refine tw_aload_n 1 dX5_debtFact_100 rfl rfl ?_
    obtain ⟨e1, f2, td_3, ca_4, ha_5, da_6, c1_7, c2_8, c3_9, c4_10, rfl, k11, k12, k13, k14, k15, k16, k17, k18, k19, k20, k21, k22, k23⟩ := sp0.1 x 11 kx (by decide)
    refine tw_bi (tw_callV (M := mX5_debtFact) (pc := 101) okX5_cheaperMetal dX5_debtFact_101 w_360 rfl f2 [.ref c] [] rfl rfl ⟨by decide, by decide⟩ (Nat.le_of_ble_eq_true rfl) (c_X5_cheaperMetal d g τ h sp0.1 x kx c kc) 0 0 (Nat.le_of_ble_eq_true rfl) (Nat.le_of_ble_eq_true rfl)) (fun r26 h25 q24 => ?_) (fun E h1 q => q.elim)
    rw [q24]
    exact tw_iret dX5_debtFact_104 rfl (Or.inl ⟨_, rfl, rfl⟩)
  · have csl : ¬ (w).toInt < 0 := fun q => cs0 (Or.inl q)
    have csh : ¬ 5 < (w).toInt := fun q => cs0 (Or.inr q)
    rcases (show (w).toInt = 0 ∨ (w).toInt = 1 ∨ (w).toInt = 2 ∨ (w).toInt = 3 ∨ (w).toInt = 4 ∨ (w).toInt = 5 by omega) with cs1 | cs1 | cs1 | cs1 | cs1 | cs1
    · refine tw_tabIn (off := 39) 40 dX5_debtFact_1 csl csh (by rw [cs1]; rfl) (by decide) ?_
      refine tw_aload_n 1 dX5_debtFact_40 rfl rfl ?_
      obtain ⟨e27, f28, v_29, dy_30, pd_31, a_32, b_33, rfl, k34, k35, k36⟩ := sp0.1 c 4 kc (by decide)
      refine tw_getN (v := .ref a_32) rfl in_5 0 dX5_debtFact_41 w_720 rfl (by decide) f28 rfl ?_
      obtain ⟨e37, f38, n_39, ar_40, p_41, pl_42, go_43, rfl, k44, k45, k46⟩ := sp0.1 a_32 3 k34 (by decide)
      refine tw_getN (v := .int n_39) rfl in_6 0 dX5_debtFact_44 w_637 rfl (by decide) f38 rfl ?_
      exact tw_iret dX5_debtFact_47 rfl (Or.inl ⟨_, rfl, rfl⟩)
    · refine tw_tabIn (off := 47) 48 dX5_debtFact_1 csl csh (by rw [cs1]; rfl) (by decide) ?_
      refine tw_aload_n 1 dX5_debtFact_48 rfl rfl ?_
      obtain ⟨e47, f48, v_49, dy_50, pd_51, a_52, b_53, rfl, k54, k55, k56⟩ := sp0.1 c 4 kc (by decide)
      refine tw_getN (v := .ref b_53) rfl in_5 1 dX5_debtFact_49 w_722 rfl (by decide) f48 rfl ?_
      obtain ⟨e57, f58, n_59, ar_60, p_61, pl_62, go_63, rfl, k64, k65, k66⟩ := sp0.1 b_53 3 k55 (by decide)
      refine tw_getN (v := .int n_59) rfl in_6 0 dX5_debtFact_52 w_637 rfl (by decide) f58 rfl ?_
      exact tw_iret dX5_debtFact_55 rfl (Or.inl ⟨_, rfl, rfl⟩)
    · refine tw_tabIn (off := 55) 56 dX5_debtFact_1 csl csh (by rw [cs1]; rfl) (by decide) ?_
      refine tw_aload_n 1 dX5_debtFact_56 rfl rfl ?_
      obtain ⟨e67, f68, v_69, dy_70, pd_71, a_72, b_73, rfl, k74, k75, k76⟩ := sp0.1 c 4 kc (by decide)
      refine tw_getN (v := .int v_69) rfl in_5 2 dX5_debtFact_57 w_724 rfl (by decide) f68 rfl ?_
      exact tw_iret dX5_debtFact_60 rfl (Or.inl ⟨_, rfl, rfl⟩)
    · refine tw_tabIn (off := 60) 61 dX5_debtFact_1 csl csh (by rw [cs1]; rfl) (by decide) ?_
      refine tw_aload_n 1 dX5_debtFact_61 rfl rfl ?_
      obtain ⟨e77, f78, v_79, dy_80, pd_81, a_82, b_83, rfl, k84, k85, k86⟩ := sp0.1 c 4 kc (by decide)
      refine tw_getN (v := .int dy_80) rfl in_5 3 dX5_debtFact_62 w_726 rfl (by decide) f78 rfl ?_
      exact tw_iret dX5_debtFact_65 rfl (Or.inl ⟨_, rfl, rfl⟩)
    · refine tw_tabIn (off := 65) 66 dX5_debtFact_1 csl csh (by rw [cs1]; rfl) (by decide) ?_
      refine tw_aload_n 1 dX5_debtFact_66 rfl rfl ?_
      obtain ⟨e87, f88, v_89, dy_90, pd_91, a_92, b_93, rfl, k94, k95, k96⟩ := sp0.1 c 4 kc (by decide)
      refine tw_getN (v := .int pd_91) rfl in_5 4 dX5_debtFact_67 w_728 rfl (by decide) f88 rfl ?_
      refine tw_if_eq 77 dX5_debtFact_70 (by decide) (fun c97 => ?_) (fun c97 => ?_)
      · refine tw_aload_n 1 dX5_debtFact_77 rfl rfl ?_
        refine tw_aload_n 0 dX5_debtFact_78 rfl rfl ?_
        obtain ⟨e98, f99, td_100, ca_101, ha_102, da_103, c1_104, c2_105, c3_106, c4_107, rfl, k108, k109, k110, k111, k112, k113, k114, k115, k116, k117, k118, k119, k120⟩ := sp0.1 x 11 kx (by decide)
        refine tw_get (v := .int td_100) rfl in_9 0 dX5_debtFact_79 w_140 rfl (by decide) f99 rfl ?_
        refine tw_bi (tw_callVN (M := mX5_debtFact) (pc := 82) okX1_dueOn dX5_debtFact_82 w_355 rfl f88 [.int td_100] [] rfl rfl ⟨by decide, by decide⟩ (Nat.le_of_ble_eq_true rfl) (c_X1_dueOn d g τ h sp0.1 c kc td_100) 0 0 (Nat.le_of_ble_eq_true rfl) (Nat.le_of_ble_eq_true rfl)) (fun r123 h122 q121 => ?_) (fun E h1 q => q.elim)
        rw [q121]
        exact tw_iret dX5_debtFact_85 rfl (Or.inl ⟨_, rfl, rfl⟩)
      · refine tw_iconst (v := 0) dX5_debtFact_73 (by decide) ?_
        refine tw_goto 85 dX5_debtFact_74 (by decide) ?_
        exact tw_iret dX5_debtFact_85 rfl (Or.inl ⟨_, rfl, rfl⟩)
    · refine tw_tabIn (off := 85) 86 dX5_debtFact_1 csl csh (by rw [cs1]; rfl) (by decide) ?_
      refine tw_aload_n 1 dX5_debtFact_86 rfl rfl ?_
      obtain ⟨e124, f125, v_126, dy_127, pd_128, a_129, b_130, rfl, k131, k132, k133⟩ := sp0.1 c 4 kc (by decide)
      refine tw_getN (v := .int pd_128) rfl in_5 4 dX5_debtFact_87 w_728 rfl (by decide) f125 rfl ?_
      refine tw_if_eq 97 dX5_debtFact_90 (by decide) (fun c134 => ?_) (fun c134 => ?_)
      · refine tw_iconst (v := 0) dX5_debtFact_97 (by decide) ?_
        exact tw_iret dX5_debtFact_98 rfl (Or.inl ⟨_, rfl, rfl⟩)
      · refine tw_iconst (v := 1) dX5_debtFact_93 (by decide) ?_
        refine tw_goto 98 dX5_debtFact_94 (by decide) ?_
        exact tw_iret dX5_debtFact_98 rfl (Or.inl ⟨_, rfl, rfl⟩)

set_option maxHeartbeats 4000000 in
set_option maxRecDepth 100000 in
theorem c_X5_ofDebt (d : tw_D) (g : tw_G) (τ : tw_K) (h : tw_H) (hw : tw_wt d g τ h) (x : Nat) (kx : τ x = 11) (n : Int32) (w : Int32) : tw_Ct d mX5_ofDebt 20 120 [.ref x, .int n, .int w] h (tw_qi (fun r h1 => h1 = h) (fun E h1 => (E = tw_IOE ∨ E = tw_IAE) ∧ h1 = h)) := by
  refine tw_of (by decide +kernel) (Nat.le_of_ble_eq_true rfl) ?_
  show tw_W d mX5_ofDebt _ 0 [(0, .ref x), (1, .int n), (2, .int w)] [] h 20 120
  have sp0 := tw_sp.rf hw
  refine tw_aload_n 0 dX5_ofDebt_0 rfl rfl ?_
  refine tw_iload_n 1 dX5_ofDebt_1 rfl rfl ?_
  obtain ⟨e1, f2, td_3, ca_4, ha_5, da_6, c1_7, c2_8, c3_9, c4_10, rfl, k11, k12, k13, k14, k15, k16, k17, k18, k19, k20, k21, k22, k23⟩ := sp0.1 x 11 kx (by decide)
  refine tw_br (tw_callV (M := mX5_ofDebt) (pc := 2) okX5_debtAt dX5_ofDebt_2 w_747 rfl f2 [.int n] [] rfl rfl ⟨by decide, by decide⟩ (Nat.le_of_ble_eq_true rfl) (c_X5_debtAt d g τ h sp0.1 x kx n) 19 114 (Nat.le_of_ble_eq_true rfl) (Nat.le_of_ble_eq_true rfl)) (fun r26 h25 q24 => ?_) (fun E h1 q => Or.inr ⟨E, rfl, (Or.inl q.1), q.2⟩)
  obtain ⟨q24e, p27⟩ := q24
  rw [q24e]
  refine tw_astore_n [(3, .ref r26), (0, .ref x), (1, .int n), (2, .int w)] dX5_ofDebt_5 rfl (by decide) rfl ?_
  refine tw_iload_n 3 dX5_ofDebt_6 rfl rfl ?_
  refine tw_iconst (v := 0) dX5_ofDebt_7 (by decide) ?_
  refine tw_bipush (v := 6) dX5_ofDebt_8 (by decide) ?_
  refine tw_bv (tw_callS (M := mX5_ofDebt) (pc := 10) okX5_needRange dX5_ofDebt_10 w_399 [.int w, .int 0, .int 6] [] rfl rfl ⟨by decide, by decide⟩ (Nat.le_of_ble_eq_true rfl) (c_X5_needRange d g τ h sp0.1 w 0 6) 18 108 (Nat.le_of_ble_eq_true rfl) (Nat.le_of_ble_eq_true rfl)) (fun h29 q28 => ?_) (fun E h1 q => Or.inr ⟨E, rfl, (Or.inr (q.1)), q.2⟩)
  obtain ⟨q28e, p31⟩ := q28
  rw [q28e]
  refine tw_aload_n 1 dX5_ofDebt_13 rfl rfl ?_
  refine tw_aload_n 0 dX5_ofDebt_14 rfl rfl ?_
  refine tw_iload_n 3 dX5_ofDebt_15 rfl rfl ?_
  refine tw_bi (tw_callV (M := mX5_ofDebt) (pc := 16) okX5_debtFact dX5_ofDebt_16 w_351 rfl f2 [.ref r26, .int w] [] rfl rfl ⟨by decide, by decide⟩ (Nat.le_of_ble_eq_true rfl) (c_X5_debtFact d g τ h sp0.1 x kx r26 p27 w) 18 108 (Nat.le_of_ble_eq_true rfl) (Nat.le_of_ble_eq_true rfl)) (fun r34 h33 q32 => ?_) (fun E h1 q => q.elim)
  rw [q32]
  exact tw_iret dX5_ofDebt_19 rfl (Or.inl ⟨_, rfl, rfl⟩)

set_option maxHeartbeats 4000000 in
set_option maxRecDepth 100000 in
theorem c_X5_inVaults (d : tw_D) (g : tw_G) (τ : tw_K) (h : tw_H) (hw : tw_wt d g τ h) (x : Nat) (kx : τ x = 11) (m : Int32) : tw_Ct d mX5_inVaults 0 0 [.ref x, .int m] h (tw_qi (fun r h1 => h1 = h) tw_nx) := by
  refine tw_of (by decide +kernel) (Nat.le_of_ble_eq_true rfl) ?_
  show tw_W d mX5_inVaults _ 0 [(0, .ref x), (1, .int m)] [] h 0 0
  have sp0 := tw_sp.rf hw
  refine tw_iconst (v := 0) dX5_inVaults_0 (by decide) ?_
  refine tw_istore_n [(2, .int 0), (0, .ref x), (1, .int m)] dX5_inVaults_1 rfl (by decide) rfl ?_
  refine tw_aload_n 1 dX5_inVaults_2 rfl rfl ?_
  obtain ⟨e1, f2, td_3, ca_4, ha_5, da_6, c1_7, c2_8, c3_9, c4_10, rfl, k11, k12, k13, k14, k15, k16, k17, k18, k19, k20, k21, k22, k23⟩ := sp0.1 x 11 kx (by decide)
  refine tw_get (v := .ref ca_4) rfl in_9 2 dX5_inVaults_3 w_142 rfl (by decide) f2 rfl ?_
  refine tw_astore_n [(3, .ref ca_4), (2, .int 0), (0, .ref x), (1, .int m)] dX5_inVaults_6 rfl (by decide) rfl ?_
  refine tw_aload_n 0 dX5_inVaults_7 rfl rfl ?_
  obtain ⟨e24, f25, F26, rfl, k27, pn28, pb29, px30, pf31⟩ := sp0.1 ca_4 8 k11 (by decide)
  refine tw_alen (v := nI 4) 4 rfl dX5_inVaults_8 f25 rfl ?_
  refine tw_istore [(4, .int (nI 4)), (3, .ref ca_4), (2, .int 0), (0, .ref x), (1, .int m)] dX5_inVaults_9 (by decide) rfl ?_
  refine tw_iconst (v := 0) dX5_inVaults_11 (by decide) ?_
  refine tw_istore [(5, .int 0), (4, .int (nI 4)), (3, .ref ca_4), (2, .int 0), (0, .ref x), (1, .int m)] dX5_inVaults_12 (by decide) rfl ?_
  have L36 : ∀ (r34 k33 : Nat) (x32 : Int32), 4 + 1 ≤ k33 + r34 → k33 ≤ 4 → tw_W d mX5_inVaults (tw_qi (fun r h1 => h1 = h) tw_nx) 14 [(0, .ref x), (1, .int m), (2, .int x32), (3, .ref ca_4), (4, .int (nI 4)), (5, .int (nI k33))] [] h 0 0 := by
    intro r34
    induction r34 with
    | zero => intro k33 x32 hk40 hk41; exact absurd hk40 (by omega)
    | succ r34 ih35 =>
      intro k33 x32 hk40 hk41
      refine tw_iload 5 dX5_inVaults_14 rfl ?_
      refine tw_iload 4 dX5_inVaults_16 rfl ?_
      refine tw_icmp_ge 50 dX5_inVaults_18 (by decide) (fun c42 => ?_) (fun c42 => ?_)
      · refine tw_iload_n 2 dX5_inVaults_50 rfl rfl ?_
        exact tw_iret dX5_inVaults_51 rfl (Or.inl ⟨_, rfl, rfl⟩)
      · have kl43 := tw_klt (N := 4) c42 hk41 (by decide)
        refine tw_aload_n 3 dX5_inVaults_21 rfl rfl ?_
        refine tw_iload 5 dX5_inVaults_22 rfl ?_
        cases k44 : F26 ((nI k33)).toNatClampNeg with
        | none =>
          refine tw_aald (v := .null) 4 rfl rfl dX5_inVaults_24 f25 (vp_in_nI (by omega) (by decide)) (by rw [k44]; rfl) ?_
          refine tw_astoreN [(6, .null), (0, .ref x), (1, .int m), (2, .int x32), (3, .ref ca_4), (4, .int (nI 4)), (5, .int (nI k33))] dX5_inVaults_25 (by decide) rfl ?_
          refine tw_aloadN 0 dX5_inVaults_27 rfl ?_
          refine tw_ifnullN 44 dX5_inVaults_29 (by decide) ?_
          obtain ⟨v46, ev46⟩ : ∃ y : Int32, y = (nI k33) + 1 := ⟨_, rfl⟩
          refine tw_iinc [(5, .int v46), (6, .null), (0, .ref x), (1, .int m), (2, .int x32), (3, .ref ca_4), (4, .int (nI 4))] 6 dX5_inVaults_44 rfl (by rw [ev46]; rfl) (by decide) rfl ?_
          refine tw_goto 14 dX5_inVaults_47 (by decide) ?_
          have qv46 := tw_nI3 ev46
          rw [qv46]
          refine tw_lv [2, 3, 4, 5, 6, 0] rfl ?_
          exact ih35 (k33 + 1) x32 (by omega) (by omega)
        | some q45 =>
          have k47 := k27 _ _ k44
          refine tw_aald (v := .ref q45) 4 rfl rfl dX5_inVaults_24 f25 (vp_in_nI (by omega) (by decide)) (by rw [k44]; rfl) ?_
          refine tw_astore [(6, .ref q45), (0, .ref x), (1, .int m), (2, .int x32), (3, .ref ca_4), (4, .int (nI 4)), (5, .int (nI k33))] dX5_inVaults_25 (by decide) rfl ?_
          refine tw_aload 0 dX5_inVaults_27 rfl ?_
          refine tw_ifnull dX5_inVaults_29 ?_
          refine tw_iload_n 3 dX5_inVaults_32 rfl rfl ?_
          refine tw_aload 0 dX5_inVaults_33 rfl ?_
          obtain ⟨e48, f49, n_50, r_51, c_52, go_53, so_54, v_55, rd_56, rf_57, t_58, rfl, k59, k60, k61, k62, k63, k64, k65, k66, k67⟩ := sp0.1 q45 2 k47 (by decide)
          refine tw_getN (v := .ref v_55) rfl in_4 3 dX5_inVaults_35 w_508 rfl (by decide) f49 rfl ?_
          refine tw_iload_n 2 dX5_inVaults_38 rfl rfl ?_
          obtain ⟨e68, f69, a_70, b_71, rfl⟩ := sp0.1 v_55 1 k59 (by decide)
          refine tw_bi (tw_callVN (M := mX5_inVaults) (pc := 39) okX3_of dX5_inVaults_39 w_189 rfl f69 [.int m] [.int x32] rfl rfl ⟨by decide, by decide⟩ (Nat.le_of_ble_eq_true rfl) (c_X3_of d g τ h sp0.1 v_55 k59 m) 0 0 (Nat.le_of_ble_eq_true rfl) (Nat.le_of_ble_eq_true rfl)) (fun r74 h73 q72 => ?_) (fun E h1 q => q.elim)
          rw [q72]
          refine tw_iadd dX5_inVaults_42 ?_
          refine tw_nmi (fun v75 ev75 => ?_)
          refine tw_istore_n [(2, .int v75), (6, .ref q45), (0, .ref x), (1, .int m), (3, .ref ca_4), (4, .int (nI 4)), (5, .int (nI k33))] dX5_inVaults_43 rfl (by decide) rfl ?_
          obtain ⟨v76, ev76⟩ : ∃ y : Int32, y = (nI k33) + 1 := ⟨_, rfl⟩
          refine tw_iinc [(5, .int v76), (2, .int v75), (6, .ref q45), (0, .ref x), (1, .int m), (3, .ref ca_4), (4, .int (nI 4))] 6 dX5_inVaults_44 rfl (by rw [ev76]; rfl) (by decide) rfl ?_
          refine tw_goto 14 dX5_inVaults_47 (by decide) ?_
          have qv76 := tw_nI3 ev76
          rw [qv76]
          refine tw_lv [3, 4, 1, 5, 6, 0] rfl ?_
          exact ih35 (k33 + 1) v75 (by omega) (by omega)
  refine tw_lv [4, 5, 3, 2, 1, 0] rfl ?_
  exact L36 (4 + 1) 0 0 (by omega) (by omega)

set_option maxHeartbeats 4000000 in
set_option maxRecDepth 100000 in
theorem c_X5_inPurses (d : tw_D) (g : tw_G) (τ : tw_K) (h : tw_H) (hw : tw_wt d g τ h) (x : Nat) (kx : τ x = 11) (m : Int32) : tw_Ct d mX5_inPurses 0 0 [.ref x, .int m] h (tw_qi (fun r h1 => h1 = h) tw_nx) := by
  refine tw_of (by decide +kernel) (Nat.le_of_ble_eq_true rfl) ?_
  show tw_W d mX5_inPurses _ 0 [(0, .ref x), (1, .int m)] [] h 0 0
  have sp0 := tw_sp.rf hw
  refine tw_iconst (v := 0) dX5_inPurses_0 (by decide) ?_
  refine tw_istore_n [(2, .int 0), (0, .ref x), (1, .int m)] dX5_inPurses_1 rfl (by decide) rfl ?_
  refine tw_aload_n 1 dX5_inPurses_2 rfl rfl ?_
  obtain ⟨e1, f2, td_3, ca_4, ha_5, da_6, c1_7, c2_8, c3_9, c4_10, rfl, k11, k12, k13, k14, k15, k16, k17, k18, k19, k20, k21, k22, k23⟩ := sp0.1 x 11 kx (by decide)
  refine tw_get (v := .ref ha_5) rfl in_9 4 dX5_inPurses_3 w_144 rfl (by decide) f2 rfl ?_
  refine tw_astore_n [(3, .ref ha_5), (2, .int 0), (0, .ref x), (1, .int m)] dX5_inPurses_6 rfl (by decide) rfl ?_
  refine tw_aload_n 0 dX5_inPurses_7 rfl rfl ?_
  obtain ⟨e24, f25, F26, rfl, k27, pn28, pb29, px30⟩ := sp0.1 ha_5 9 k12 (by decide)
  refine tw_alen (v := nI 6) 5 rfl dX5_inPurses_8 f25 rfl ?_
  refine tw_istore [(4, .int (nI 6)), (3, .ref ha_5), (2, .int 0), (0, .ref x), (1, .int m)] dX5_inPurses_9 (by decide) rfl ?_
  refine tw_iconst (v := 0) dX5_inPurses_11 (by decide) ?_
  refine tw_istore [(5, .int 0), (4, .int (nI 6)), (3, .ref ha_5), (2, .int 0), (0, .ref x), (1, .int m)] dX5_inPurses_12 (by decide) rfl ?_
  have L35 : ∀ (r33 k32 : Nat) (x31 : Int32), 6 + 1 ≤ k32 + r33 → k32 ≤ 6 → tw_W d mX5_inPurses (tw_qi (fun r h1 => h1 = h) tw_nx) 14 [(0, .ref x), (1, .int m), (2, .int x31), (3, .ref ha_5), (4, .int (nI 6)), (5, .int (nI k32))] [] h 0 0 := by
    intro r33
    induction r33 with
    | zero => intro k32 x31 hk39 hk40; exact absurd hk39 (by omega)
    | succ r33 ih34 =>
      intro k32 x31 hk39 hk40
      refine tw_iload 5 dX5_inPurses_14 rfl ?_
      refine tw_iload 4 dX5_inPurses_16 rfl ?_
      refine tw_icmp_ge 50 dX5_inPurses_18 (by decide) (fun c41 => ?_) (fun c41 => ?_)
      · refine tw_iload_n 2 dX5_inPurses_50 rfl rfl ?_
        exact tw_iret dX5_inPurses_51 rfl (Or.inl ⟨_, rfl, rfl⟩)
      · have kl42 := tw_klt (N := 6) c41 hk40 (by decide)
        refine tw_aload_n 3 dX5_inPurses_21 rfl rfl ?_
        refine tw_iload 5 dX5_inPurses_22 rfl ?_
        cases k43 : F26 ((nI k32)).toNatClampNeg with
        | none =>
          refine tw_aald (v := .null) 5 rfl rfl dX5_inPurses_24 f25 (vp_in_nI (by omega) (by decide)) (by rw [k43]; rfl) ?_
          refine tw_astoreN [(6, .null), (0, .ref x), (1, .int m), (2, .int x31), (3, .ref ha_5), (4, .int (nI 6)), (5, .int (nI k32))] dX5_inPurses_25 (by decide) rfl ?_
          refine tw_aloadN 0 dX5_inPurses_27 rfl ?_
          refine tw_ifnullN 44 dX5_inPurses_29 (by decide) ?_
          obtain ⟨v45, ev45⟩ : ∃ y : Int32, y = (nI k32) + 1 := ⟨_, rfl⟩
          refine tw_iinc [(5, .int v45), (6, .null), (0, .ref x), (1, .int m), (2, .int x31), (3, .ref ha_5), (4, .int (nI 6))] 6 dX5_inPurses_44 rfl (by rw [ev45]; rfl) (by decide) rfl ?_
          refine tw_goto 14 dX5_inPurses_47 (by decide) ?_
          have qv45 := tw_nI3 ev45
          rw [qv45]
          refine tw_lv [2, 3, 4, 5, 6, 0] rfl ?_
          exact ih34 (k32 + 1) x31 (by omega) (by omega)
        | some q44 =>
          have k46 := k27 _ _ k43
          refine tw_aald (v := .ref q44) 5 rfl rfl dX5_inPurses_24 f25 (vp_in_nI (by omega) (by decide)) (by rw [k43]; rfl) ?_
          refine tw_astore [(6, .ref q44), (0, .ref x), (1, .int m), (2, .int x31), (3, .ref ha_5), (4, .int (nI 6)), (5, .int (nI k32))] dX5_inPurses_25 (by decide) rfl ?_
          refine tw_aload 0 dX5_inPurses_27 rfl ?_
          refine tw_ifnull dX5_inPurses_29 ?_
          refine tw_iload_n 3 dX5_inPurses_32 rfl rfl ?_
          refine tw_aload 0 dX5_inPurses_33 rfl ?_
          obtain ⟨e47, f48, n_49, ar_50, p_51, pl_52, go_53, rfl, k54, k55, k56⟩ := sp0.1 q44 3 k46 (by decide)
          refine tw_getN (v := .ref p_51) rfl in_6 1 dX5_inPurses_35 w_639 rfl (by decide) f48 rfl ?_
          refine tw_iload_n 2 dX5_inPurses_38 rfl rfl ?_
          obtain ⟨e57, f58, a_59, b_60, rfl⟩ := sp0.1 p_51 1 k54 (by decide)
          refine tw_bi (tw_callVN (M := mX5_inPurses) (pc := 39) okX3_of dX5_inPurses_39 w_189 rfl f58 [.int m] [.int x31] rfl rfl ⟨by decide, by decide⟩ (Nat.le_of_ble_eq_true rfl) (c_X3_of d g τ h sp0.1 p_51 k54 m) 0 0 (Nat.le_of_ble_eq_true rfl) (Nat.le_of_ble_eq_true rfl)) (fun r63 h62 q61 => ?_) (fun E h1 q => q.elim)
          rw [q61]
          refine tw_iadd dX5_inPurses_42 ?_
          refine tw_nmi (fun v64 ev64 => ?_)
          refine tw_istore_n [(2, .int v64), (6, .ref q44), (0, .ref x), (1, .int m), (3, .ref ha_5), (4, .int (nI 6)), (5, .int (nI k32))] dX5_inPurses_43 rfl (by decide) rfl ?_
          obtain ⟨v65, ev65⟩ : ∃ y : Int32, y = (nI k32) + 1 := ⟨_, rfl⟩
          refine tw_iinc [(5, .int v65), (2, .int v64), (6, .ref q44), (0, .ref x), (1, .int m), (3, .ref ha_5), (4, .int (nI 6))] 6 dX5_inPurses_44 rfl (by rw [ev65]; rfl) (by decide) rfl ?_
          refine tw_goto 14 dX5_inPurses_47 (by decide) ?_
          have qv65 := tw_nI3 ev65
          rw [qv65]
          refine tw_lv [3, 4, 1, 5, 6, 0] rfl ?_
          exact ih34 (k32 + 1) v64 (by omega) (by omega)
  refine tw_lv [4, 5, 3, 2, 1, 0] rfl ?_
  exact L35 (6 + 1) 0 0 (by omega) (by omega)

set_option maxHeartbeats 4000000 in
set_option maxRecDepth 100000 in
theorem c_X5_worldFact (d : tw_D) (g : tw_G) (τ : tw_K) (h : tw_H) (hw : tw_wt d g τ h) (x : Nat) (kx : τ x = 11) (m : Int32) (w : Int32) : tw_Ct d mX5_worldFact 0 0 [.ref x, .int m, .int w] h (tw_qi (fun r h1 => h1 = h) tw_nx) := by
  refine tw_of (by decide +kernel) (Nat.le_of_ble_eq_true rfl) ?_
  show tw_W d mX5_worldFact _ 0 [(0, .ref x), (1, .int m), (2, .int w)] [] h 0 0
  have sp0 := tw_sp.rf hw
  refine tw_iload_n 2 dX5_worldFact_0 rfl rfl ?_
  by_cases cs0 : (w).toInt < 0 ∨ 4 < (w).toInt
  · refine tw_tabOut 75 dX5_worldFact_1 cs0 (by decide) ?_
    refine tw_aload_n 0 dX5_worldFact_75 rfl rfl ?_
    obtain ⟨e1, f2, td_3, ca_4, ha_5, da_6, c1_7, c2_8, c3_9, c4_10, rfl, k11, k12, k13, k14, k15, k16, k17, k18, k19, k20, k21, k22, k23⟩ := sp0.1 x 11 kx (by decide)
    refine tw_get (v := .ref c4_10) rfl in_9 11 dX5_worldFact_76 w_151 rfl (by decide) f2 rfl ?_
    refine tw_iload_n 1 dX5_worldFact_79 rfl rfl ?_
    obtain ⟨e24, f25, a_26, b_27, rfl⟩ := sp0.1 c4_10 1 k17 (by decide)
    refine tw_bi (tw_callVN (M := mX5_worldFact) (pc := 80) okX3_of dX5_worldFact_80 w_189 rfl f25 [.int m] [] rfl rfl ⟨by decide, by decide⟩ (Nat.le_of_ble_eq_true rfl) (c_X3_of d g τ h sp0.1 c4_10 k17 m) 0 0 (Nat.le_of_ble_eq_true rfl) (Nat.le_of_ble_eq_true rfl)) (fun r30 h29 q28 => ?_) (fun E h1 q => q.elim)
    rw [q28]
    exact tw_iret dX5_worldFact_83 rfl (Or.inl ⟨_, rfl, rfl⟩)
  · have csl : ¬ (w).toInt < 0 := fun q => cs0 (Or.inl q)
    have csh : ¬ 4 < (w).toInt := fun q => cs0 (Or.inr q)
    rcases (show (w).toInt = 0 ∨ (w).toInt = 1 ∨ (w).toInt = 2 ∨ (w).toInt = 3 ∨ (w).toInt = 4 by omega) with cs1 | cs1 | cs1 | cs1 | cs1
    · refine tw_tabIn (off := 35) 36 dX5_worldFact_1 csl csh (by rw [cs1]; rfl) (by decide) ?_
      refine tw_aload_n 0 dX5_worldFact_36 rfl rfl ?_
      refine tw_iload_n 1 dX5_worldFact_37 rfl rfl ?_
      obtain ⟨e31, f32, td_33, ca_34, ha_35, da_36, c1_37, c2_38, c3_39, c4_40, rfl, k41, k42, k43, k44, k45, k46, k47, k48, k49, k50, k51, k52, k53⟩ := sp0.1 x 11 kx (by decide)
      refine tw_bi (tw_callV (M := mX5_worldFact) (pc := 38) okX5_inVaults dX5_worldFact_38 w_185 rfl f32 [.int m] [] rfl rfl ⟨by decide, by decide⟩ (Nat.le_of_ble_eq_true rfl) (c_X5_inVaults d g τ h sp0.1 x kx m) 0 0 (Nat.le_of_ble_eq_true rfl) (Nat.le_of_ble_eq_true rfl)) (fun r56 h55 q54 => ?_) (fun E h1 q => q.elim)
      rw [q54]
      exact tw_iret dX5_worldFact_41 rfl (Or.inl ⟨_, rfl, rfl⟩)
    · refine tw_tabIn (off := 41) 42 dX5_worldFact_1 csl csh (by rw [cs1]; rfl) (by decide) ?_
      refine tw_aload_n 0 dX5_worldFact_42 rfl rfl ?_
      refine tw_iload_n 1 dX5_worldFact_43 rfl rfl ?_
      obtain ⟨e57, f58, td_59, ca_60, ha_61, da_62, c1_63, c2_64, c3_65, c4_66, rfl, k67, k68, k69, k70, k71, k72, k73, k74, k75, k76, k77, k78, k79⟩ := sp0.1 x 11 kx (by decide)
      refine tw_bi (tw_callV (M := mX5_worldFact) (pc := 44) okX5_inPurses dX5_worldFact_44 w_193 rfl f58 [.int m] [] rfl rfl ⟨by decide, by decide⟩ (Nat.le_of_ble_eq_true rfl) (c_X5_inPurses d g τ h sp0.1 x kx m) 0 0 (Nat.le_of_ble_eq_true rfl) (Nat.le_of_ble_eq_true rfl)) (fun r82 h81 q80 => ?_) (fun E h1 q => q.elim)
      rw [q80]
      exact tw_iret dX5_worldFact_47 rfl (Or.inl ⟨_, rfl, rfl⟩)
    · refine tw_tabIn (off := 47) 48 dX5_worldFact_1 csl csh (by rw [cs1]; rfl) (by decide) ?_
      refine tw_aload_n 0 dX5_worldFact_48 rfl rfl ?_
      obtain ⟨e83, f84, td_85, ca_86, ha_87, da_88, c1_89, c2_90, c3_91, c4_92, rfl, k93, k94, k95, k96, k97, k98, k99, k100, k101, k102, k103, k104, k105⟩ := sp0.1 x 11 kx (by decide)
      refine tw_get (v := .ref c1_89) rfl in_9 8 dX5_worldFact_49 w_148 rfl (by decide) f84 rfl ?_
      refine tw_iload_n 1 dX5_worldFact_52 rfl rfl ?_
      obtain ⟨e106, f107, a_108, b_109, rfl⟩ := sp0.1 c1_89 1 k96 (by decide)
      refine tw_bi (tw_callVN (M := mX5_worldFact) (pc := 53) okX3_of dX5_worldFact_53 w_189 rfl f107 [.int m] [] rfl rfl ⟨by decide, by decide⟩ (Nat.le_of_ble_eq_true rfl) (c_X3_of d g τ h sp0.1 c1_89 k96 m) 0 0 (Nat.le_of_ble_eq_true rfl) (Nat.le_of_ble_eq_true rfl)) (fun r112 h111 q110 => ?_) (fun E h1 q => q.elim)
      rw [q110]
      exact tw_iret dX5_worldFact_56 rfl (Or.inl ⟨_, rfl, rfl⟩)
    · refine tw_tabIn (off := 56) 57 dX5_worldFact_1 csl csh (by rw [cs1]; rfl) (by decide) ?_
      refine tw_aload_n 0 dX5_worldFact_57 rfl rfl ?_
      obtain ⟨e113, f114, td_115, ca_116, ha_117, da_118, c1_119, c2_120, c3_121, c4_122, rfl, k123, k124, k125, k126, k127, k128, k129, k130, k131, k132, k133, k134, k135⟩ := sp0.1 x 11 kx (by decide)
      refine tw_get (v := .ref c2_120) rfl in_9 9 dX5_worldFact_58 w_149 rfl (by decide) f114 rfl ?_
      refine tw_iload_n 1 dX5_worldFact_61 rfl rfl ?_
      obtain ⟨e136, f137, a_138, b_139, rfl⟩ := sp0.1 c2_120 1 k127 (by decide)
      refine tw_bi (tw_callVN (M := mX5_worldFact) (pc := 62) okX3_of dX5_worldFact_62 w_189 rfl f137 [.int m] [] rfl rfl ⟨by decide, by decide⟩ (Nat.le_of_ble_eq_true rfl) (c_X3_of d g τ h sp0.1 c2_120 k127 m) 0 0 (Nat.le_of_ble_eq_true rfl) (Nat.le_of_ble_eq_true rfl)) (fun r142 h141 q140 => ?_) (fun E h1 q => q.elim)
      rw [q140]
      exact tw_iret dX5_worldFact_65 rfl (Or.inl ⟨_, rfl, rfl⟩)
    · refine tw_tabIn (off := 65) 66 dX5_worldFact_1 csl csh (by rw [cs1]; rfl) (by decide) ?_
      refine tw_aload_n 0 dX5_worldFact_66 rfl rfl ?_
      obtain ⟨e143, f144, td_145, ca_146, ha_147, da_148, c1_149, c2_150, c3_151, c4_152, rfl, k153, k154, k155, k156, k157, k158, k159, k160, k161, k162, k163, k164, k165⟩ := sp0.1 x 11 kx (by decide)
      refine tw_get (v := .ref c3_151) rfl in_9 10 dX5_worldFact_67 w_150 rfl (by decide) f144 rfl ?_
      refine tw_iload_n 1 dX5_worldFact_70 rfl rfl ?_
      obtain ⟨e166, f167, a_168, b_169, rfl⟩ := sp0.1 c3_151 1 k158 (by decide)
      refine tw_bi (tw_callVN (M := mX5_worldFact) (pc := 71) okX3_of dX5_worldFact_71 w_189 rfl f167 [.int m] [] rfl rfl ⟨by decide, by decide⟩ (Nat.le_of_ble_eq_true rfl) (c_X3_of d g τ h sp0.1 c3_151 k158 m) 0 0 (Nat.le_of_ble_eq_true rfl) (Nat.le_of_ble_eq_true rfl)) (fun r172 h171 q170 => ?_) (fun E h1 q => q.elim)
      rw [q170]
      exact tw_iret dX5_worldFact_74 rfl (Or.inl ⟨_, rfl, rfl⟩)

set_option maxHeartbeats 4000000 in
set_option maxRecDepth 100000 in
theorem c_X5_world (d : tw_D) (g : tw_G) (τ : tw_K) (h : tw_H) (hw : tw_wt d g τ h) (x : Nat) (kx : τ x = 11) (m : Int32) (w : Int32) : tw_Ct d mX5_world 20 120 [.ref x, .int m, .int w] h (tw_qi (fun r h1 => h1 = h) (fun E h1 => (E = tw_IAE) ∧ h1 = h)) := by
  refine tw_of (by decide +kernel) (Nat.le_of_ble_eq_true rfl) ?_
  show tw_W d mX5_world _ 0 [(0, .ref x), (1, .int m), (2, .int w)] [] h 20 120
  have sp0 := tw_sp.rf hw
  refine tw_iload_n 1 dX5_world_0 rfl rfl ?_
  refine tw_bv (tw_callS (M := mX5_world) (pc := 1) okX5_needMetal dX5_world_1 w_573 [.int m] [] rfl rfl ⟨by decide, by decide⟩ (Nat.le_of_ble_eq_true rfl) (c_X5_needMetal d g τ h sp0.1 m) 19 114 (Nat.le_of_ble_eq_true rfl) (Nat.le_of_ble_eq_true rfl)) (fun h2 q1 => ?_) (fun E h1 q => Or.inr ⟨E, rfl, (q.1), q.2⟩)
  obtain ⟨q1e, p4⟩ := q1
  rw [q1e]
  refine tw_iload_n 2 dX5_world_4 rfl rfl ?_
  refine tw_iconst (v := 0) dX5_world_5 (by decide) ?_
  refine tw_iconst (v := 5) dX5_world_6 (by decide) ?_
  refine tw_bv (tw_callS (M := mX5_world) (pc := 7) okX5_needRange dX5_world_7 w_399 [.int w, .int 0, .int 5] [] rfl rfl ⟨by decide, by decide⟩ (Nat.le_of_ble_eq_true rfl) (c_X5_needRange d g τ h sp0.1 w 0 5) 18 108 (Nat.le_of_ble_eq_true rfl) (Nat.le_of_ble_eq_true rfl)) (fun h6 q5 => ?_) (fun E h1 q => Or.inr ⟨E, rfl, (q.1), q.2⟩)
  obtain ⟨q5e, p8⟩ := q5
  rw [q5e]
  refine tw_aload_n 0 dX5_world_10 rfl rfl ?_
  refine tw_iload_n 1 dX5_world_11 rfl rfl ?_
  refine tw_iload_n 2 dX5_world_12 rfl rfl ?_
  obtain ⟨e9, f10, td_11, ca_12, ha_13, da_14, c1_15, c2_16, c3_17, c4_18, rfl, k19, k20, k21, k22, k23, k24, k25, k26, k27, k28, k29, k30, k31⟩ := sp0.1 x 11 kx (by decide)
  refine tw_bi (tw_callV (M := mX5_world) (pc := 13) okX5_worldFact dX5_world_13 w_245 rfl f10 [.int m, .int w] [] rfl rfl ⟨by decide, by decide⟩ (Nat.le_of_ble_eq_true rfl) (c_X5_worldFact d g τ h sp0.1 x kx m w) 18 108 (Nat.le_of_ble_eq_true rfl) (Nat.le_of_ble_eq_true rfl)) (fun r34 h33 q32 => ?_) (fun E h1 q => q.elim)
  rw [q32]
  exact tw_iret dX5_world_16 rfl (Or.inl ⟨_, rfl, rfl⟩)

set_option maxHeartbeats 4000000 in
set_option maxRecDepth 100000 in
theorem c_X5_comesOfTrip (d : tw_D) (g : tw_G) (τ : tw_K) (h : tw_H) (hw : tw_wt d g τ h) (a : Nat) (ka : τ a = 2) (b : Nat) (kb : τ b = 2) (m : Int32) (gr : Int32) : tw_Ct d mX5_comesOfTrip 0 0 [.ref a, .ref b, .int m, .int gr] h (tw_qi (fun r h1 => h1 = h) tw_nx) := by
  refine tw_of (by decide +kernel) (Nat.le_of_ble_eq_true rfl) ?_
  show tw_W d mX5_comesOfTrip _ 0 [(0, .ref a), (1, .ref b), (2, .int m), (3, .int gr)] [] h 0 0
  have sp0 := tw_sp.rf hw
  refine tw_aload_n 0 dX5_comesOfTrip_0 rfl rfl ?_
  refine tw_aload_n 1 dX5_comesOfTrip_1 rfl rfl ?_
  obtain ⟨e1, f2, n_3, r_4, c_5, go_6, so_7, v_8, rd_9, rf_10, t_11, rfl, k12, k13, k14, k15, k16, k17, k18, k19, k20⟩ := sp0.1 b 2 kb (by decide)
  refine tw_getN (v := .int n_3) rfl in_4 0 dX5_comesOfTrip_2 w_502 rfl (by decide) f2 rfl ?_
  obtain ⟨e21, f22, n_23, r_24, c_25, go_26, so_27, v_28, rd_29, rf_30, t_31, rfl, k32, k33, k34, k35, k36, k37, k38, k39, k40⟩ := sp0.1 a 2 ka (by decide)
  refine tw_bi (tw_callVN (M := mX5_comesOfTrip) (pc := 5) okX0_freightTo dX5_comesOfTrip_5 w_231 rfl f22 [.int n_3] [] rfl rfl ⟨by decide, by decide⟩ (Nat.le_of_ble_eq_true rfl) (c_X0_freightTo d g τ h sp0.1 a ka n_3) 0 0 (Nat.le_of_ble_eq_true rfl) (Nat.le_of_ble_eq_true rfl)) (fun r43 h42 q41 => ?_) (fun E h1 q => q.elim)
  rw [q41]
  refine tw_istore [(4, .int r43), (0, .ref a), (1, .ref b), (2, .int m), (3, .int gr)] dX5_comesOfTrip_8 (by decide) rfl ?_
  refine tw_aload_n 1 dX5_comesOfTrip_10 rfl rfl ?_
  refine tw_iload_n 3 dX5_comesOfTrip_11 rfl rfl ?_
  refine tw_iload_n 4 dX5_comesOfTrip_12 rfl rfl ?_
  refine tw_bi (tw_callVN (M := mX5_comesOfTrip) (pc := 13) okX0_minted dX5_comesOfTrip_13 w_299 rfl f22 [.int m, .int gr] [] rfl rfl ⟨by decide, by decide⟩ (Nat.le_of_ble_eq_true rfl) (c_X0_minted d g τ h sp0.1 a ka m gr) 0 0 (Nat.le_of_ble_eq_true rfl) (Nat.le_of_ble_eq_true rfl)) (fun r46 h45 q44 => ?_) (fun E h1 q => q.elim)
  rw [q44]
  refine tw_istore [(5, .int r46), (4, .int r43), (0, .ref a), (1, .ref b), (2, .int m), (3, .int gr)] dX5_comesOfTrip_16 (by decide) rfl ?_
  refine tw_iload 0 dX5_comesOfTrip_18 rfl ?_
  refine tw_iload 0 dX5_comesOfTrip_20 rfl ?_
  refine tw_iload 1 dX5_comesOfTrip_22 rfl ?_
  refine tw_bi (tw_callS (M := mX5_comesOfTrip) (pc := 24) okX5_thousandthsRoundedUp dX5_comesOfTrip_24 w_317 [.int r46, .int r43] [.int r46] rfl rfl ⟨by decide, by decide⟩ (Nat.le_of_ble_eq_true rfl) (c_X5_thousandthsRoundedUp d g τ h sp0.1 r46 r43) 0 0 (Nat.le_of_ble_eq_true rfl) (Nat.le_of_ble_eq_true rfl)) (fun r49 h48 q47 => ?_) (fun E h1 q => q.elim)
  rw [q47]
  refine tw_isub dX5_comesOfTrip_27 ?_
  refine tw_nmi (fun v50 ev50 => ?_)
  refine tw_istore [(6, .int v50), (5, .int r46), (4, .int r43), (0, .ref a), (1, .ref b), (2, .int m), (3, .int gr)] dX5_comesOfTrip_28 (by decide) rfl ?_
  refine tw_aload_n 4 dX5_comesOfTrip_30 rfl rfl ?_
  refine tw_iload_n 5 dX5_comesOfTrip_31 rfl rfl ?_
  refine tw_bi (tw_callS (M := mX5_comesOfTrip) (pc := 32) okX5_otherMetal dX5_comesOfTrip_32 w_318 [.int m] [.ref b] rfl rfl ⟨by decide, by decide⟩ (Nat.le_of_ble_eq_true rfl) (c_X5_otherMetal d g τ h sp0.1 m) 0 0 (Nat.le_of_ble_eq_true rfl) (Nat.le_of_ble_eq_true rfl)) (fun r53 h52 q51 => ?_) (fun E h1 q => q.elim)
  obtain ⟨q51e, p54⟩ := q51
  rw [q51e]
  refine tw_iload 0 dX5_comesOfTrip_35 rfl ?_
  refine tw_bi (tw_callVN (M := mX5_comesOfTrip) (pc := 37) okX0_minted dX5_comesOfTrip_37 w_299 rfl f2 [.int r53, .int v50] [] rfl rfl ⟨by decide, by decide⟩ (Nat.le_of_ble_eq_true rfl) (c_X0_minted d g τ h sp0.1 b kb r53 v50) 0 0 (Nat.le_of_ble_eq_true rfl) (Nat.le_of_ble_eq_true rfl)) (fun r57 h56 q55 => ?_) (fun E h1 q => q.elim)
  rw [q55]
  refine tw_istore [(7, .int r57), (6, .int v50), (5, .int r46), (4, .int r43), (0, .ref a), (1, .ref b), (2, .int m), (3, .int gr)] dX5_comesOfTrip_40 (by decide) rfl ?_
  refine tw_iload 0 dX5_comesOfTrip_42 rfl ?_
  refine tw_iload 0 dX5_comesOfTrip_44 rfl ?_
  refine tw_iload 3 dX5_comesOfTrip_46 rfl ?_
  refine tw_bi (tw_callS (M := mX5_comesOfTrip) (pc := 48) okX5_thousandthsRoundedUp dX5_comesOfTrip_48 w_317 [.int r57, .int r43] [.int r57] rfl rfl ⟨by decide, by decide⟩ (Nat.le_of_ble_eq_true rfl) (c_X5_thousandthsRoundedUp d g τ h sp0.1 r57 r43) 0 0 (Nat.le_of_ble_eq_true rfl) (Nat.le_of_ble_eq_true rfl)) (fun r60 h59 q58 => ?_) (fun E h1 q => q.elim)
  rw [q58]
  refine tw_isub dX5_comesOfTrip_51 ?_
  refine tw_nmi (fun v61 ev61 => ?_)
  exact tw_iret dX5_comesOfTrip_52 rfl (Or.inl ⟨_, rfl, rfl⟩)

set_option maxHeartbeats 4000000 in
set_option maxRecDepth 100000 in
theorem c_X5_trip (d : tw_D) (g : tw_G) (τ : tw_K) (h : tw_H) (hw : tw_wt d g τ h) (x : Nat) (kx : τ x = 11) (a : Int32) (b : Int32) (m : Int32) (gr : Int32) : tw_Ct d mX5_trip 20 120 [.ref x, .int a, .int b, .int m, .int gr] h (tw_qi (fun r h1 => h1 = h) (fun E h1 => (E = tw_IOE ∨ E = tw_IAE) ∧ h1 = h)) := by
  refine tw_of (by decide +kernel) (Nat.le_of_ble_eq_true rfl) ?_
  show tw_W d mX5_trip _ 0 [(0, .ref x), (1, .int a), (2, .int b), (3, .int m), (4, .int gr)] [] h 20 120
  have sp0 := tw_sp.rf hw
  refine tw_aload_n 0 dX5_trip_0 rfl rfl ?_
  refine tw_iload_n 1 dX5_trip_1 rfl rfl ?_
  obtain ⟨e1, f2, td_3, ca_4, ha_5, da_6, c1_7, c2_8, c3_9, c4_10, rfl, k11, k12, k13, k14, k15, k16, k17, k18, k19, k20, k21, k22, k23⟩ := sp0.1 x 11 kx (by decide)
  refine tw_br (tw_callV (M := mX5_trip) (pc := 2) okX5_countryAt dX5_trip_2 w_546 rfl f2 [.int a] [] rfl rfl ⟨by decide, by decide⟩ (Nat.le_of_ble_eq_true rfl) (c_X5_countryAt d g τ h sp0.1 x kx a) 19 114 (Nat.le_of_ble_eq_true rfl) (Nat.le_of_ble_eq_true rfl)) (fun r26 h25 q24 => ?_) (fun E h1 q => Or.inr ⟨E, rfl, (Or.inl q.1), q.2⟩)
  obtain ⟨q24e, p27⟩ := q24
  rw [q24e]
  refine tw_astore [(5, .ref r26), (0, .ref x), (1, .int a), (2, .int b), (3, .int m), (4, .int gr)] dX5_trip_5 (by decide) rfl ?_
  refine tw_aload_n 1 dX5_trip_7 rfl rfl ?_
  refine tw_iload_n 3 dX5_trip_8 rfl rfl ?_
  refine tw_br (tw_callV (M := mX5_trip) (pc := 9) okX5_countryAt dX5_trip_9 w_546 rfl f2 [.int b] [] rfl rfl ⟨by decide, by decide⟩ (Nat.le_of_ble_eq_true rfl) (c_X5_countryAt d g τ h sp0.1 x kx b) 18 108 (Nat.le_of_ble_eq_true rfl) (Nat.le_of_ble_eq_true rfl)) (fun r30 h29 q28 => ?_) (fun E h1 q => Or.inr ⟨E, rfl, (Or.inl q.1), q.2⟩)
  obtain ⟨q28e, p31⟩ := q28
  rw [q28e]
  refine tw_astore [(6, .ref r30), (5, .ref r26), (0, .ref x), (1, .int a), (2, .int b), (3, .int m), (4, .int gr)] dX5_trip_12 (by decide) rfl ?_
  refine tw_iload_n 3 dX5_trip_14 rfl rfl ?_
  refine tw_iload_n 4 dX5_trip_15 rfl rfl ?_
  refine tw_bv (tw_callS (M := mX5_trip) (pc := 16) okX5_needDifferent dX5_trip_16 w_599 [.int a, .int b] [] rfl rfl ⟨by decide, by decide⟩ (Nat.le_of_ble_eq_true rfl) (c_X5_needDifferent d g τ h sp0.1 a b) 17 102 (Nat.le_of_ble_eq_true rfl) (Nat.le_of_ble_eq_true rfl)) (fun h33 q32 => ?_) (fun E h1 q => Or.inr ⟨E, rfl, (Or.inr (q.1)), q.2⟩)
  rw [q32]
  refine tw_iload_n 5 dX5_trip_19 rfl rfl ?_
  refine tw_bv (tw_callS (M := mX5_trip) (pc := 20) okX5_needMetal dX5_trip_20 w_573 [.int m] [] rfl rfl ⟨by decide, by decide⟩ (Nat.le_of_ble_eq_true rfl) (c_X5_needMetal d g τ h sp0.1 m) 16 96 (Nat.le_of_ble_eq_true rfl) (Nat.le_of_ble_eq_true rfl)) (fun h36 q35 => ?_) (fun E h1 q => Or.inr ⟨E, rfl, (Or.inr (q.1)), q.2⟩)
  obtain ⟨q35e, p38⟩ := q35
  rw [q35e]
  refine tw_iload 6 dX5_trip_23 rfl ?_
  refine tw_iconst (v := 0) dX5_trip_25 (by decide) ?_
  refine tw_ldc (v := 99999) dX5_trip_26 w_470 ?_
  refine tw_bv (tw_callS (M := mX5_trip) (pc := 28) okX5_needRange dX5_trip_28 w_399 [.int gr, .int 0, .int 99999] [] rfl rfl ⟨by decide, by decide⟩ (Nat.le_of_ble_eq_true rfl) (c_X5_needRange d g τ h sp0.1 gr 0 99999) 15 90 (Nat.le_of_ble_eq_true rfl) (Nat.le_of_ble_eq_true rfl)) (fun h40 q39 => ?_) (fun E h1 q => Or.inr ⟨E, rfl, (Or.inr (q.1)), q.2⟩)
  obtain ⟨q39e, p42⟩ := q39
  rw [q39e]
  refine tw_aload 1 dX5_trip_31 rfl ?_
  refine tw_aload 0 dX5_trip_33 rfl ?_
  refine tw_iload_n 5 dX5_trip_35 rfl rfl ?_
  refine tw_iload 6 dX5_trip_36 rfl ?_
  refine tw_bi (tw_callS (M := mX5_trip) (pc := 38) okX5_comesOfTrip dX5_trip_38 w_296 [.ref r26, .ref r30, .int m, .int gr] [] rfl rfl ⟨by decide, by decide⟩ (Nat.le_of_ble_eq_true rfl) (c_X5_comesOfTrip d g τ h sp0.1 r26 p27 r30 p31 m gr) 15 90 (Nat.le_of_ble_eq_true rfl) (Nat.le_of_ble_eq_true rfl)) (fun r45 h44 q43 => ?_) (fun E h1 q => q.elim)
  rw [q43]
  exact tw_iret dX5_trip_41 rfl (Or.inl ⟨_, rfl, rfl⟩)

set_option maxHeartbeats 4000000 in
set_option maxRecDepth 100000 in
theorem c_X5_bestOver (d : tw_D) (g : tw_G) (τ : tw_K) (h : tw_H) (hw : tw_wt d g τ h) (x : Nat) (kx : τ x = 11) (a : Nat) (ka : τ a = 2) (m : Int32) (gr : Int32) : tw_Ct d mX5_bestOver 0 0 [.ref x, .ref a, .int m, .int gr] h (tw_qi (fun r h1 => h1 = h) tw_nx) := by
  refine tw_of (by decide +kernel) (Nat.le_of_ble_eq_true rfl) ?_
  show tw_W d mX5_bestOver _ 0 [(0, .ref x), (1, .ref a), (2, .int m), (3, .int gr)] [] h 0 0
  have sp0 := tw_sp.rf hw
  refine tw_iconst (v := -1) dX5_bestOver_0 (by decide) ?_
  refine tw_istore [(4, .int (-1)), (0, .ref x), (1, .ref a), (2, .int m), (3, .int gr)] dX5_bestOver_1 (by decide) rfl ?_
  refine tw_iload_n 4 dX5_bestOver_3 rfl rfl ?_
  refine tw_istore [(5, .int gr), (4, .int (-1)), (0, .ref x), (1, .ref a), (2, .int m), (3, .int gr)] dX5_bestOver_4 (by decide) rfl ?_
  refine tw_aload_n 2 dX5_bestOver_6 rfl rfl ?_
  obtain ⟨e1, f2, td_3, ca_4, ha_5, da_6, c1_7, c2_8, c3_9, c4_10, rfl, k11, k12, k13, k14, k15, k16, k17, k18, k19, k20, k21, k22, k23⟩ := sp0.1 x 11 kx (by decide)
  refine tw_get (v := .ref ca_4) rfl in_9 2 dX5_bestOver_7 w_142 rfl (by decide) f2 rfl ?_
  refine tw_astore [(6, .ref ca_4), (5, .int gr), (4, .int (-1)), (0, .ref x), (1, .ref a), (2, .int m), (3, .int gr)] dX5_bestOver_10 (by decide) rfl ?_
  refine tw_aload 0 dX5_bestOver_12 rfl ?_
  obtain ⟨e24, f25, F26, rfl, k27, pn28, pb29, px30, pf31⟩ := sp0.1 ca_4 8 k11 (by decide)
  refine tw_alen (v := nI 4) 4 rfl dX5_bestOver_14 f25 rfl ?_
  refine tw_istore [(7, .int (nI 4)), (6, .ref ca_4), (5, .int gr), (4, .int (-1)), (0, .ref x), (1, .ref a), (2, .int m), (3, .int gr)] dX5_bestOver_15 (by decide) rfl ?_
  refine tw_iconst (v := 0) dX5_bestOver_17 (by decide) ?_
  refine tw_istore [(8, .int 0), (7, .int (nI 4)), (6, .ref ca_4), (5, .int gr), (4, .int (-1)), (0, .ref x), (1, .ref a), (2, .int m), (3, .int gr)] dX5_bestOver_18 (by decide) rfl ?_
  have L37 : ∀ (r35 k34 : Nat) (x32 : Int32) (x33 : Int32), 4 + 1 ≤ k34 + r35 → k34 ≤ 4 → tw_W d mX5_bestOver (tw_qi (fun r h1 => h1 = h) tw_nx) 20 [(0, .ref x), (1, .ref a), (2, .int m), (3, .int gr), (4, .int x32), (5, .int x33), (6, .ref ca_4), (7, .int (nI 4)), (8, .int (nI k34))] [] h 0 0 := by
    intro r35
    induction r35 with
    | zero => intro k34 x32 x33 hk41 hk42; exact absurd hk41 (by omega)
    | succ r35 ih36 =>
      intro k34 x32 x33 hk41 hk42
      refine tw_iload 8 dX5_bestOver_20 rfl ?_
      refine tw_iload 7 dX5_bestOver_22 rfl ?_
      refine tw_icmp_ge 79 dX5_bestOver_24 (by decide) (fun c43 => ?_) (fun c43 => ?_)
      · refine tw_iload 4 dX5_bestOver_79 rfl ?_
        exact tw_iret dX5_bestOver_81 rfl (Or.inl ⟨_, rfl, rfl⟩)
      · have kl44 := tw_klt (N := 4) c43 hk42 (by decide)
        refine tw_aload 6 dX5_bestOver_27 rfl ?_
        refine tw_iload 8 dX5_bestOver_29 rfl ?_
        cases k45 : F26 ((nI k34)).toNatClampNeg with
        | none =>
          refine tw_aald (v := .null) 4 rfl rfl dX5_bestOver_31 f25 (vp_in_nI (by omega) (by decide)) (by rw [k45]; rfl) ?_
          refine tw_astoreN [(9, .null), (0, .ref x), (1, .ref a), (2, .int m), (3, .int gr), (4, .int x32), (5, .int x33), (6, .ref ca_4), (7, .int (nI 4)), (8, .int (nI k34))] dX5_bestOver_32 (by decide) rfl ?_
          refine tw_aloadN 0 dX5_bestOver_34 rfl ?_
          refine tw_ifnullN 73 dX5_bestOver_36 (by decide) ?_
          obtain ⟨v47, ev47⟩ : ∃ y : Int32, y = (nI k34) + 1 := ⟨_, rfl⟩
          refine tw_iinc [(8, .int v47), (9, .null), (0, .ref x), (1, .ref a), (2, .int m), (3, .int gr), (4, .int x32), (5, .int x33), (6, .ref ca_4), (7, .int (nI 4))] 9 dX5_bestOver_73 rfl (by rw [ev47]; rfl) (by decide) rfl ?_
          refine tw_goto 20 dX5_bestOver_76 (by decide) ?_
          have qv47 := tw_nI3 ev47
          rw [qv47]
          refine tw_lv [2, 3, 4, 5, 6, 7, 8, 9, 0] rfl ?_
          exact ih36 (k34 + 1) x32 x33 (by omega) (by omega)
        | some q46 =>
          have k48 := k27 _ _ k45
          refine tw_aald (v := .ref q46) 4 rfl rfl dX5_bestOver_31 f25 (vp_in_nI (by omega) (by decide)) (by rw [k45]; rfl) ?_
          refine tw_astore [(9, .ref q46), (0, .ref x), (1, .ref a), (2, .int m), (3, .int gr), (4, .int x32), (5, .int x33), (6, .ref ca_4), (7, .int (nI 4)), (8, .int (nI k34))] dX5_bestOver_32 (by decide) rfl ?_
          refine tw_aload 0 dX5_bestOver_34 rfl ?_
          refine tw_ifnull dX5_bestOver_36 ?_
          refine tw_aload 0 dX5_bestOver_39 rfl ?_
          refine tw_aload_n 2 dX5_bestOver_41 rfl rfl ?_
          refine tw_acmp_eq (rx := (some q46)) (ry := (some a)) 73 dX5_bestOver_42 (by decide) (fun c49 => ?_) (fun c49 => ?_)
          · obtain ⟨v50, ev50⟩ : ∃ y : Int32, y = (nI k34) + 1 := ⟨_, rfl⟩
            refine tw_iinc [(8, .int v50), (9, .ref q46), (0, .ref x), (1, .ref a), (2, .int m), (3, .int gr), (4, .int x32), (5, .int x33), (6, .ref ca_4), (7, .int (nI 4))] 9 dX5_bestOver_73 rfl (by rw [ev50]; rfl) (by decide) rfl ?_
            refine tw_goto 20 dX5_bestOver_76 (by decide) ?_
            have qv50 := tw_nI3 ev50
            rw [qv50]
            refine tw_lv [2, 3, 4, 5, 6, 7, 8, 9, 0] rfl ?_
            exact ih36 (k34 + 1) x32 x33 (by omega) (by omega)
          · refine tw_aload_n 2 dX5_bestOver_45 rfl rfl ?_
            refine tw_aload 0 dX5_bestOver_46 rfl ?_
            refine tw_iload_n 3 dX5_bestOver_48 rfl rfl ?_
            refine tw_iload_n 4 dX5_bestOver_49 rfl rfl ?_
            refine tw_bi (tw_callS (M := mX5_bestOver) (pc := 50) okX5_comesOfTrip dX5_bestOver_50 w_296 [.ref a, .ref q46, .int m, .int gr] [] rfl rfl ⟨by decide, by decide⟩ (Nat.le_of_ble_eq_true rfl) (c_X5_comesOfTrip d g τ h sp0.1 a ka q46 k48 m gr) 0 0 (Nat.le_of_ble_eq_true rfl) (Nat.le_of_ble_eq_true rfl)) (fun r53 h52 q51 => ?_) (fun E h1 q => q.elim)
            rw [q51]
            refine tw_istore [(10, .int r53), (9, .ref q46), (0, .ref x), (1, .ref a), (2, .int m), (3, .int gr), (4, .int x32), (5, .int x33), (6, .ref ca_4), (7, .int (nI 4)), (8, .int (nI k34))] dX5_bestOver_53 (by decide) rfl ?_
            refine tw_iload 0 dX5_bestOver_55 rfl ?_
            refine tw_iload 7 dX5_bestOver_57 rfl ?_
            refine tw_icmp_le 73 dX5_bestOver_59 (by decide) (fun c54 => ?_) (fun c54 => ?_)
            · obtain ⟨v55, ev55⟩ : ∃ y : Int32, y = (nI k34) + 1 := ⟨_, rfl⟩
              refine tw_iinc [(8, .int v55), (10, .int r53), (9, .ref q46), (0, .ref x), (1, .ref a), (2, .int m), (3, .int gr), (4, .int x32), (5, .int x33), (6, .ref ca_4), (7, .int (nI 4))] 10 dX5_bestOver_73 rfl (by rw [ev55]; rfl) (by decide) rfl ?_
              refine tw_goto 20 dX5_bestOver_76 (by decide) ?_
              have qv55 := tw_nI3 ev55
              rw [qv55]
              refine tw_lv [3, 4, 5, 6, 7, 8, 9, 10, 0] rfl ?_
              exact ih36 (k34 + 1) x32 x33 (by omega) (by omega)
            · refine tw_iload 0 dX5_bestOver_62 rfl ?_
              refine tw_istore [(5, .int r53), (10, .int r53), (9, .ref q46), (0, .ref x), (1, .ref a), (2, .int m), (3, .int gr), (4, .int x32), (6, .ref ca_4), (7, .int (nI 4)), (8, .int (nI k34))] dX5_bestOver_64 (by decide) rfl ?_
              refine tw_aload 2 dX5_bestOver_66 rfl ?_
              obtain ⟨e56, f57, n_58, r_59, c_60, go_61, so_62, v_63, rd_64, rf_65, t_66, rfl, k67, k68, k69, k70, k71, k72, k73, k74, k75⟩ := sp0.1 q46 2 k48 (by decide)
              refine tw_getN (v := .int n_58) rfl in_4 0 dX5_bestOver_68 w_502 rfl (by decide) f57 rfl ?_
              refine tw_istore [(4, .int n_58), (5, .int r53), (10, .int r53), (9, .ref q46), (0, .ref x), (1, .ref a), (2, .int m), (3, .int gr), (6, .ref ca_4), (7, .int (nI 4)), (8, .int (nI k34))] dX5_bestOver_71 (by decide) rfl ?_
              obtain ⟨v76, ev76⟩ : ∃ y : Int32, y = (nI k34) + 1 := ⟨_, rfl⟩
              refine tw_iinc [(8, .int v76), (4, .int n_58), (5, .int r53), (10, .int r53), (9, .ref q46), (0, .ref x), (1, .ref a), (2, .int m), (3, .int gr), (6, .ref ca_4), (7, .int (nI 4))] 10 dX5_bestOver_73 rfl (by rw [ev76]; rfl) (by decide) rfl ?_
              refine tw_goto 20 dX5_bestOver_76 (by decide) ?_
              have qv76 := tw_nI3 ev76
              rw [qv76]
              refine tw_lv [5, 6, 7, 8, 1, 2, 9, 10, 0] rfl ?_
              exact ih36 (k34 + 1) n_58 r53 (by omega) (by omega)
  refine tw_lv [5, 6, 7, 8, 4, 3, 2, 1, 0] rfl ?_
  exact L37 (4 + 1) 0 (-1) gr (by omega) (by omega)

set_option maxHeartbeats 4000000 in
set_option maxRecDepth 100000 in
theorem c_X5_bestTrip (d : tw_D) (g : tw_G) (τ : tw_K) (h : tw_H) (hw : tw_wt d g τ h) (x : Nat) (kx : τ x = 11) (a : Int32) (m : Int32) (gr : Int32) : tw_Ct d mX5_bestTrip 20 120 [.ref x, .int a, .int m, .int gr] h (tw_qi (fun r h1 => h1 = h) (fun E h1 => (E = tw_IOE ∨ E = tw_IAE) ∧ h1 = h)) := by
  refine tw_of (by decide +kernel) (Nat.le_of_ble_eq_true rfl) ?_
  show tw_W d mX5_bestTrip _ 0 [(0, .ref x), (1, .int a), (2, .int m), (3, .int gr)] [] h 20 120
  have sp0 := tw_sp.rf hw
  refine tw_aload_n 0 dX5_bestTrip_0 rfl rfl ?_
  refine tw_iload_n 1 dX5_bestTrip_1 rfl rfl ?_
  obtain ⟨e1, f2, td_3, ca_4, ha_5, da_6, c1_7, c2_8, c3_9, c4_10, rfl, k11, k12, k13, k14, k15, k16, k17, k18, k19, k20, k21, k22, k23⟩ := sp0.1 x 11 kx (by decide)
  refine tw_br (tw_callV (M := mX5_bestTrip) (pc := 2) okX5_countryAt dX5_bestTrip_2 w_546 rfl f2 [.int a] [] rfl rfl ⟨by decide, by decide⟩ (Nat.le_of_ble_eq_true rfl) (c_X5_countryAt d g τ h sp0.1 x kx a) 19 114 (Nat.le_of_ble_eq_true rfl) (Nat.le_of_ble_eq_true rfl)) (fun r26 h25 q24 => ?_) (fun E h1 q => Or.inr ⟨E, rfl, (Or.inl q.1), q.2⟩)
  obtain ⟨q24e, p27⟩ := q24
  rw [q24e]
  refine tw_astore [(4, .ref r26), (0, .ref x), (1, .int a), (2, .int m), (3, .int gr)] dX5_bestTrip_5 (by decide) rfl ?_
  refine tw_iload_n 3 dX5_bestTrip_7 rfl rfl ?_
  refine tw_bv (tw_callS (M := mX5_bestTrip) (pc := 8) okX5_needMetal dX5_bestTrip_8 w_573 [.int m] [] rfl rfl ⟨by decide, by decide⟩ (Nat.le_of_ble_eq_true rfl) (c_X5_needMetal d g τ h sp0.1 m) 18 108 (Nat.le_of_ble_eq_true rfl) (Nat.le_of_ble_eq_true rfl)) (fun h29 q28 => ?_) (fun E h1 q => Or.inr ⟨E, rfl, (Or.inr (q.1)), q.2⟩)
  obtain ⟨q28e, p31⟩ := q28
  rw [q28e]
  refine tw_iload_n 4 dX5_bestTrip_11 rfl rfl ?_
  refine tw_iconst (v := 0) dX5_bestTrip_12 (by decide) ?_
  refine tw_ldc (v := 99999) dX5_bestTrip_13 w_470 ?_
  refine tw_bv (tw_callS (M := mX5_bestTrip) (pc := 15) okX5_needRange dX5_bestTrip_15 w_399 [.int gr, .int 0, .int 99999] [] rfl rfl ⟨by decide, by decide⟩ (Nat.le_of_ble_eq_true rfl) (c_X5_needRange d g τ h sp0.1 gr 0 99999) 17 102 (Nat.le_of_ble_eq_true rfl) (Nat.le_of_ble_eq_true rfl)) (fun h33 q32 => ?_) (fun E h1 q => Or.inr ⟨E, rfl, (Or.inr (q.1)), q.2⟩)
  obtain ⟨q32e, p35⟩ := q32
  rw [q32e]
  refine tw_aload_n 1 dX5_bestTrip_18 rfl rfl ?_
  refine tw_aload 0 dX5_bestTrip_19 rfl ?_
  refine tw_iload_n 3 dX5_bestTrip_21 rfl rfl ?_
  refine tw_iload_n 4 dX5_bestTrip_22 rfl rfl ?_
  refine tw_bi (tw_callV (M := mX5_bestTrip) (pc := 23) okX5_bestOver dX5_bestTrip_23 w_292 rfl f2 [.ref r26, .int m, .int gr] [] rfl rfl ⟨by decide, by decide⟩ (Nat.le_of_ble_eq_true rfl) (c_X5_bestOver d g τ h sp0.1 x kx r26 p27 m gr) 17 102 (Nat.le_of_ble_eq_true rfl) (Nat.le_of_ble_eq_true rfl)) (fun r38 h37 q36 => ?_) (fun E h1 q => q.elim)
  rw [q36]
  exact tw_iret dX5_bestTrip_26 rfl (Or.inl ⟨_, rfl, rfl⟩)

set_option maxHeartbeats 4000000 in
set_option maxRecDepth 100000 in
theorem c_X5_isRest (d : tw_D) (g : tw_G) (τ : tw_K) (h : tw_H) (hw : tw_wt d g τ h) (x : Nat) (kx : τ x = 11) (gr : Int32) : tw_Ct d mX5_isRest 0 0 [.ref x, .int gr] h (tw_qi (fun r h1 => h1 = h ∧ tw_01 r) tw_nx) := by
  refine tw_of (by decide +kernel) (Nat.le_of_ble_eq_true rfl) ?_
  show tw_W d mX5_isRest _ 0 [(0, .ref x), (1, .int gr)] [] h 0 0
  have sp0 := tw_sp.rf hw
  refine tw_aload_n 0 dX5_isRest_0 rfl rfl ?_
  obtain ⟨e1, f2, td_3, ca_4, ha_5, da_6, c1_7, c2_8, c3_9, c4_10, rfl, k11, k12, k13, k14, k15, k16, k17, k18, k19, k20, k21, k22, k23⟩ := sp0.1 x 11 kx (by decide)
  refine tw_get (v := .ref ca_4) rfl in_9 2 dX5_isRest_1 w_142 rfl (by decide) f2 rfl ?_
  refine tw_astore_n [(2, .ref ca_4), (0, .ref x), (1, .int gr)] dX5_isRest_4 rfl (by decide) rfl ?_
  refine tw_aload_n 0 dX5_isRest_5 rfl rfl ?_
  obtain ⟨e24, f25, F26, rfl, k27, pn28, pb29, px30, pf31⟩ := sp0.1 ca_4 8 k11 (by decide)
  refine tw_alen (v := nI 4) 4 rfl dX5_isRest_6 f25 rfl ?_
  refine tw_istore_n [(3, .int (nI 4)), (2, .ref ca_4), (0, .ref x), (1, .int gr)] dX5_isRest_7 rfl (by decide) rfl ?_
  refine tw_iconst (v := 0) dX5_isRest_8 (by decide) ?_
  refine tw_istore [(4, .int 0), (3, .int (nI 4)), (2, .ref ca_4), (0, .ref x), (1, .int gr)] dX5_isRest_9 (by decide) rfl ?_
  have L35 : ∀ (r33 k32 : Nat), 4 + 1 ≤ k32 + r33 → k32 ≤ 4 → tw_W d mX5_isRest (tw_qi (fun r h1 => h1 = h ∧ tw_01 r) tw_nx) 11 [(0, .ref x), (1, .int gr), (2, .ref ca_4), (3, .int (nI 4)), (4, .int (nI k32))] [] h 0 0 := by
    intro r33
    induction r33 with
    | zero => intro k32  hk39 hk40; exact absurd hk39 (by omega)
    | succ r33 ih34 =>
      intro k32  hk39 hk40
      refine tw_iload 4 dX5_isRest_11 rfl ?_
      refine tw_iload_n 3 dX5_isRest_13 rfl rfl ?_
      refine tw_icmp_ge 60 dX5_isRest_14 (by decide) (fun c41 => ?_) (fun c41 => ?_)
      · refine tw_iconst (v := 1) dX5_isRest_60 (by decide) ?_
        exact tw_zret dX5_isRest_61 rfl rfl (Or.inl ⟨_, rfl, ⟨rfl, (by unfold tw_01; decide)⟩⟩)
      · have kl42 := tw_klt (N := 4) c41 hk40 (by decide)
        refine tw_aload_n 2 dX5_isRest_17 rfl rfl ?_
        refine tw_iload 4 dX5_isRest_18 rfl ?_
        cases k43 : F26 ((nI k32)).toNatClampNeg with
        | none =>
          refine tw_aald (v := .null) 4 rfl rfl dX5_isRest_20 f25 (vp_in_nI (by omega) (by decide)) (by rw [k43]; rfl) ?_
          refine tw_astoreN [(5, .null), (0, .ref x), (1, .int gr), (2, .ref ca_4), (3, .int (nI 4)), (4, .int (nI k32))] dX5_isRest_21 (by decide) rfl ?_
          refine tw_aloadN 0 dX5_isRest_23 rfl ?_
          refine tw_ifnullN 54 dX5_isRest_25 (by decide) ?_
          obtain ⟨v45, ev45⟩ : ∃ y : Int32, y = (nI k32) + 1 := ⟨_, rfl⟩
          refine tw_iinc [(4, .int v45), (5, .null), (0, .ref x), (1, .int gr), (2, .ref ca_4), (3, .int (nI 4))] 5 dX5_isRest_54 rfl (by rw [ev45]; rfl) (by decide) rfl ?_
          refine tw_goto 11 dX5_isRest_57 (by decide) ?_
          have qv45 := tw_nI3 ev45
          rw [qv45]
          refine tw_lv [2, 3, 4, 5, 0] rfl ?_
          exact ih34 (k32 + 1)  (by omega) (by omega)
        | some q44 =>
          have k46 := k27 _ _ k43
          refine tw_aald (v := .ref q44) 4 rfl rfl dX5_isRest_20 f25 (vp_in_nI (by omega) (by decide)) (by rw [k43]; rfl) ?_
          refine tw_astore [(5, .ref q44), (0, .ref x), (1, .int gr), (2, .ref ca_4), (3, .int (nI 4)), (4, .int (nI k32))] dX5_isRest_21 (by decide) rfl ?_
          refine tw_aload 0 dX5_isRest_23 rfl ?_
          refine tw_ifnull dX5_isRest_25 ?_
          refine tw_aload_n 1 dX5_isRest_28 rfl rfl ?_
          refine tw_aload 0 dX5_isRest_29 rfl ?_
          refine tw_iconst (v := 0) dX5_isRest_31 (by decide) ?_
          refine tw_iload_n 2 dX5_isRest_32 rfl rfl ?_
          refine tw_bi (tw_callV (M := mX5_isRest) (pc := 33) okX5_bestOver dX5_isRest_33 w_292 rfl f2 [.ref q44, .int 0, .int gr] [] rfl rfl ⟨by decide, by decide⟩ (Nat.le_of_ble_eq_true rfl) (c_X5_bestOver d g τ h sp0.1 x kx q44 k46 0 gr) 0 0 (Nat.le_of_ble_eq_true rfl) (Nat.le_of_ble_eq_true rfl)) (fun r49 h48 q47 => ?_) (fun E h1 q => q.elim)
          rw [q47]
          refine tw_iconst (v := -1) dX5_isRest_36 (by decide) ?_
          refine tw_icmp_ne 52 dX5_isRest_37 (by decide) (fun c50 => ?_) (fun c50 => ?_)
          · refine tw_iconst (v := 0) dX5_isRest_52 (by decide) ?_
            exact tw_zret dX5_isRest_53 rfl rfl (Or.inl ⟨_, rfl, ⟨rfl, (by unfold tw_01; decide)⟩⟩)
          · refine tw_aload_n 1 dX5_isRest_40 rfl rfl ?_
            refine tw_aload 0 dX5_isRest_41 rfl ?_
            refine tw_iconst (v := 1) dX5_isRest_43 (by decide) ?_
            refine tw_iload_n 2 dX5_isRest_44 rfl rfl ?_
            refine tw_bi (tw_callV (M := mX5_isRest) (pc := 45) okX5_bestOver dX5_isRest_45 w_292 rfl f2 [.ref q44, .int 1, .int gr] [] rfl rfl ⟨by decide, by decide⟩ (Nat.le_of_ble_eq_true rfl) (c_X5_bestOver d g τ h sp0.1 x kx q44 k46 1 gr) 0 0 (Nat.le_of_ble_eq_true rfl) (Nat.le_of_ble_eq_true rfl)) (fun r53 h52 q51 => ?_) (fun E h1 q => q.elim)
            rw [q51]
            refine tw_iconst (v := -1) dX5_isRest_48 (by decide) ?_
            refine tw_icmp_eq 54 dX5_isRest_49 (by decide) (fun c54 => ?_) (fun c54 => ?_)
            · obtain ⟨v55, ev55⟩ : ∃ y : Int32, y = (nI k32) + 1 := ⟨_, rfl⟩
              refine tw_iinc [(4, .int v55), (5, .ref q44), (0, .ref x), (1, .int gr), (2, .ref ca_4), (3, .int (nI 4))] 5 dX5_isRest_54 rfl (by rw [ev55]; rfl) (by decide) rfl ?_
              refine tw_goto 11 dX5_isRest_57 (by decide) ?_
              have qv55 := tw_nI3 ev55
              rw [qv55]
              refine tw_lv [2, 3, 4, 5, 0] rfl ?_
              exact ih34 (k32 + 1)  (by omega) (by omega)
            · refine tw_iconst (v := 0) dX5_isRest_52 (by decide) ?_
              exact tw_zret dX5_isRest_53 rfl rfl (Or.inl ⟨_, rfl, ⟨rfl, (by unfold tw_01; decide)⟩⟩)
  refine tw_lv [3, 4, 2, 1, 0] rfl ?_
  exact L35 (4 + 1) 0  (by omega) (by omega)

set_option maxHeartbeats 4000000 in
set_option maxRecDepth 100000 in
theorem c_X5_rest (d : tw_D) (g : tw_G) (τ : tw_K) (h : tw_H) (hw : tw_wt d g τ h) (x : Nat) (kx : τ x = 11) (gr : Int32) : tw_Ct d mX5_rest 20 120 [.ref x, .int gr] h (tw_qi (fun r h1 => h1 = h ∧ tw_01 r) (fun E h1 => (E = tw_IAE) ∧ h1 = h)) := by
  refine tw_of (by decide +kernel) (Nat.le_of_ble_eq_true rfl) ?_
  show tw_W d mX5_rest _ 0 [(0, .ref x), (1, .int gr)] [] h 20 120
  have sp0 := tw_sp.rf hw
  refine tw_iload_n 1 dX5_rest_0 rfl rfl ?_
  refine tw_iconst (v := 0) dX5_rest_1 (by decide) ?_
  refine tw_ldc (v := 99999) dX5_rest_2 w_470 ?_
  refine tw_bv (tw_callS (M := mX5_rest) (pc := 4) okX5_needRange dX5_rest_4 w_399 [.int gr, .int 0, .int 99999] [] rfl rfl ⟨by decide, by decide⟩ (Nat.le_of_ble_eq_true rfl) (c_X5_needRange d g τ h sp0.1 gr 0 99999) 19 114 (Nat.le_of_ble_eq_true rfl) (Nat.le_of_ble_eq_true rfl)) (fun h2 q1 => ?_) (fun E h1 q => Or.inr ⟨E, rfl, (q.1), q.2⟩)
  obtain ⟨q1e, p4⟩ := q1
  rw [q1e]
  refine tw_aload_n 0 dX5_rest_7 rfl rfl ?_
  refine tw_iload_n 1 dX5_rest_8 rfl rfl ?_
  obtain ⟨e5, f6, td_7, ca_8, ha_9, da_10, c1_11, c2_12, c3_13, c4_14, rfl, k15, k16, k17, k18, k19, k20, k21, k22, k23, k24, k25, k26, k27⟩ := sp0.1 x 11 kx (by decide)
  refine tw_bi (tw_callV (M := mX5_rest) (pc := 9) okX5_isRest dX5_rest_9 w_369 rfl f6 [.int gr] [] rfl rfl ⟨by decide, by decide⟩ (Nat.le_of_ble_eq_true rfl) (c_X5_isRest d g τ h sp0.1 x kx gr) 19 114 (Nat.le_of_ble_eq_true rfl) (Nat.le_of_ble_eq_true rfl)) (fun r30 h29 q28 => ?_) (fun E h1 q => q.elim)
  obtain ⟨q28e, p31⟩ := q28
  rw [q28e]
  exact tw_zret dX5_rest_12 rfl (tw_nar01 p31) (Or.inl ⟨_, rfl, ⟨rfl, p31⟩⟩)

set_option maxHeartbeats 4000000 in
set_option maxRecDepth 100000 in
theorem c_X5_firstDayShort (d : tw_D) (g : tw_G) (τ : tw_K) (h : tw_H) (hw : tw_wt d g τ h) (x : Nat) (kx : τ x = 11) (v : Nat) (kv : τ v = 1) (m : Int32) (gr : Int32) : tw_Ct d mX5_firstDayShort 0 0 [.ref x, .ref v, .int m, .int gr] h (tw_qi (fun r h1 => h1 = h) tw_nx) := by
  refine tw_of (by decide +kernel) (Nat.le_of_ble_eq_true rfl) ?_
  show tw_W d mX5_firstDayShort _ 0 [(0, .ref x), (1, .ref v), (2, .int m), (3, .int gr)] [] h 0 0
  have sp0 := tw_sp.rf hw
  refine tw_aload_n 1 dX5_firstDayShort_0 rfl rfl ?_
  refine tw_iload_n 2 dX5_firstDayShort_1 rfl rfl ?_
  obtain ⟨e1, f2, a_3, b_4, rfl⟩ := sp0.1 v 1 kv (by decide)
  refine tw_bi (tw_callVN (M := mX5_firstDayShort) (pc := 2) okX3_of dX5_firstDayShort_2 w_189 rfl f2 [.int m] [] rfl rfl ⟨by decide, by decide⟩ (Nat.le_of_ble_eq_true rfl) (c_X3_of d g τ h sp0.1 v kv m) 0 0 (Nat.le_of_ble_eq_true rfl) (Nat.le_of_ble_eq_true rfl)) (fun r7 h6 q5 => ?_) (fun E h1 q => q.elim)
  rw [q5]
  refine tw_istore [(4, .int r7), (0, .ref x), (1, .ref v), (2, .int m), (3, .int gr)] dX5_firstDayShort_5 (by decide) rfl ?_
  refine tw_aload_n 1 dX5_firstDayShort_7 rfl rfl ?_
  obtain ⟨e8, f9, td_10, ca_11, ha_12, da_13, c1_14, c2_15, c3_16, c4_17, rfl, k18, k19, k20, k21, k22, k23, k24, k25, k26, k27, k28, k29, k30⟩ := sp0.1 x 11 kx (by decide)
  refine tw_get (v := .int td_10) rfl in_9 0 dX5_firstDayShort_8 w_140 rfl (by decide) f9 rfl ?_
  refine tw_istore [(5, .int td_10), (4, .int r7), (0, .ref x), (1, .ref v), (2, .int m), (3, .int gr)] dX5_firstDayShort_11 (by decide) rfl ?_
  have L35 : ∀ (r33 : Nat) (x31 : Int32) (x32 : Int32), (3001 - x32.toInt).toNat < r33 → tw_W d mX5_firstDayShort (tw_qi (fun r h1 => h1 = h) tw_nx) 13 [(0, .ref x), (1, .ref v), (2, .int m), (3, .int gr), (4, .int x31), (5, .int x32)] [] h 0 0 := by
    intro r33
    induction r33 with
    | zero => intro x31 x32 hk39; exact absurd hk39 (Nat.not_lt_zero _)
    | succ r33 ih34 =>
      intro x31 x32 hk39
      refine tw_iload 5 dX5_firstDayShort_13 rfl ?_
      refine tw_sipush (v := 3000) dX5_firstDayShort_15 (by decide) ?_
      refine tw_icmp_gt 75 dX5_firstDayShort_18 (by decide) (fun c41 => ?_) (fun c41 => ?_)
      · refine tw_iconst (v := -1) dX5_firstDayShort_75 (by decide) ?_
        exact tw_iret dX5_firstDayShort_76 rfl (Or.inl ⟨_, rfl, rfl⟩)
      · refine tw_iload_n 2 dX5_firstDayShort_21 rfl rfl ?_
        refine tw_iconst (v := 1) dX5_firstDayShort_22 (by decide) ?_
        refine tw_icmp_ne 54 dX5_firstDayShort_23 (by decide) (fun c42 => ?_) (fun c42 => ?_)
        · refine tw_iload 4 dX5_firstDayShort_54 rfl ?_
          refine tw_iload_n 3 dX5_firstDayShort_56 rfl rfl ?_
          refine tw_icmp_ge 63 dX5_firstDayShort_57 (by decide) (fun c43 => ?_) (fun c43 => ?_)
          · refine tw_iload 4 dX5_firstDayShort_63 rfl ?_
            refine tw_iload_n 3 dX5_firstDayShort_65 rfl rfl ?_
            refine tw_isub dX5_firstDayShort_66 ?_
            refine tw_nmi (fun v44 ev44 => ?_)
            refine tw_istore [(4, .int v44), (0, .ref x), (1, .ref v), (2, .int m), (3, .int gr), (5, .int x32)] dX5_firstDayShort_67 (by decide) rfl ?_
            obtain ⟨v45, ev45⟩ : ∃ y : Int32, y = x32 + 1 := ⟨_, rfl⟩
            refine tw_iinc [(5, .int v45), (4, .int v44), (0, .ref x), (1, .ref v), (2, .int m), (3, .int gr)] 5 dX5_firstDayShort_69 rfl (by rw [ev45]; rfl) (by decide) rfl ?_
            refine tw_goto 13 dX5_firstDayShort_72 (by decide) ?_
            refine tw_lv [2, 3, 4, 5, 1, 0] rfl ?_
            exact ih34 v44 v45 (tw_mle ev45 c41 hk39)
          · refine tw_iload 5 dX5_firstDayShort_60 rfl ?_
            exact tw_iret dX5_firstDayShort_62 rfl (Or.inl ⟨_, rfl, rfl⟩)
        · refine tw_iload 5 dX5_firstDayShort_26 rfl ?_
          refine tw_aload_n 0 dX5_firstDayShort_28 rfl rfl ?_
          refine tw_get (v := .int td_10) rfl in_9 0 dX5_firstDayShort_29 w_140 rfl (by decide) f9 rfl ?_
          refine tw_icmp_le 54 dX5_firstDayShort_32 (by decide) (fun c46 => ?_) (fun c46 => ?_)
          · refine tw_iload 4 dX5_firstDayShort_54 rfl ?_
            refine tw_iload_n 3 dX5_firstDayShort_56 rfl rfl ?_
            refine tw_icmp_ge 63 dX5_firstDayShort_57 (by decide) (fun c47 => ?_) (fun c47 => ?_)
            · refine tw_iload 4 dX5_firstDayShort_63 rfl ?_
              refine tw_iload_n 3 dX5_firstDayShort_65 rfl rfl ?_
              refine tw_isub dX5_firstDayShort_66 ?_
              refine tw_nmi (fun v48 ev48 => ?_)
              refine tw_istore [(4, .int v48), (0, .ref x), (1, .ref v), (2, .int m), (3, .int gr), (5, .int x32)] dX5_firstDayShort_67 (by decide) rfl ?_
              obtain ⟨v49, ev49⟩ : ∃ y : Int32, y = x32 + 1 := ⟨_, rfl⟩
              refine tw_iinc [(5, .int v49), (4, .int v48), (0, .ref x), (1, .ref v), (2, .int m), (3, .int gr)] 5 dX5_firstDayShort_69 rfl (by rw [ev49]; rfl) (by decide) rfl ?_
              refine tw_goto 13 dX5_firstDayShort_72 (by decide) ?_
              refine tw_lv [2, 3, 4, 5, 1, 0] rfl ?_
              exact ih34 v48 v49 (tw_mle ev49 c41 hk39)
            · refine tw_iload 5 dX5_firstDayShort_60 rfl ?_
              exact tw_iret dX5_firstDayShort_62 rfl (Or.inl ⟨_, rfl, rfl⟩)
          · refine tw_iload 5 dX5_firstDayShort_35 rfl ?_
            refine tw_bi (tw_callS (M := mX5_firstDayShort) (pc := 37) okX5_isWearDay dX5_firstDayShort_37 w_325 [.int x32] [] rfl rfl ⟨by decide, by decide⟩ (Nat.le_of_ble_eq_true rfl) (c_X5_isWearDay d g τ h sp0.1 x32) 0 0 (Nat.le_of_ble_eq_true rfl) (Nat.le_of_ble_eq_true rfl)) (fun r52 h51 q50 => ?_) (fun E h1 q => q.elim)
            obtain ⟨q50e, p53⟩ := q50
            rw [q50e]
            refine tw_if_eq 54 dX5_firstDayShort_40 (by decide) (fun c54 => ?_) (fun c54 => ?_)
            · refine tw_iload 4 dX5_firstDayShort_54 rfl ?_
              refine tw_iload_n 3 dX5_firstDayShort_56 rfl rfl ?_
              refine tw_icmp_ge 63 dX5_firstDayShort_57 (by decide) (fun c55 => ?_) (fun c55 => ?_)
              · refine tw_iload 4 dX5_firstDayShort_63 rfl ?_
                refine tw_iload_n 3 dX5_firstDayShort_65 rfl rfl ?_
                refine tw_isub dX5_firstDayShort_66 ?_
                refine tw_nmi (fun v56 ev56 => ?_)
                refine tw_istore [(4, .int v56), (0, .ref x), (1, .ref v), (2, .int m), (3, .int gr), (5, .int x32)] dX5_firstDayShort_67 (by decide) rfl ?_
                obtain ⟨v57, ev57⟩ : ∃ y : Int32, y = x32 + 1 := ⟨_, rfl⟩
                refine tw_iinc [(5, .int v57), (4, .int v56), (0, .ref x), (1, .ref v), (2, .int m), (3, .int gr)] 5 dX5_firstDayShort_69 rfl (by rw [ev57]; rfl) (by decide) rfl ?_
                refine tw_goto 13 dX5_firstDayShort_72 (by decide) ?_
                refine tw_lv [2, 3, 4, 5, 1, 0] rfl ?_
                exact ih34 v56 v57 (tw_mle ev57 c41 hk39)
              · refine tw_iload 5 dX5_firstDayShort_60 rfl ?_
                exact tw_iret dX5_firstDayShort_62 rfl (Or.inl ⟨_, rfl, rfl⟩)
            · refine tw_iload 4 dX5_firstDayShort_43 rfl ?_
              refine tw_iload 4 dX5_firstDayShort_45 rfl ?_
              refine tw_sipush (v := 10000) dX5_firstDayShort_47 (by decide) ?_
              refine tw_idiv dX5_firstDayShort_50 (by decide) ?_
              refine tw_nmi (fun v58 ev58 => ?_)
              refine tw_isub dX5_firstDayShort_51 ?_
              refine tw_nmi (fun v59 ev59 => ?_)
              refine tw_istore [(4, .int v59), (0, .ref x), (1, .ref v), (2, .int m), (3, .int gr), (5, .int x32)] dX5_firstDayShort_52 (by decide) rfl ?_
              refine tw_iload 0 dX5_firstDayShort_54 rfl ?_
              refine tw_iload_n 4 dX5_firstDayShort_56 rfl rfl ?_
              refine tw_icmp_ge 63 dX5_firstDayShort_57 (by decide) (fun c60 => ?_) (fun c60 => ?_)
              · refine tw_iload 0 dX5_firstDayShort_63 rfl ?_
                refine tw_iload_n 4 dX5_firstDayShort_65 rfl rfl ?_
                refine tw_isub dX5_firstDayShort_66 ?_
                refine tw_nmi (fun v61 ev61 => ?_)
                refine tw_istore [(4, .int v61), (0, .ref x), (1, .ref v), (2, .int m), (3, .int gr), (5, .int x32)] dX5_firstDayShort_67 (by decide) rfl ?_
                obtain ⟨v62, ev62⟩ : ∃ y : Int32, y = x32 + 1 := ⟨_, rfl⟩
                refine tw_iinc [(5, .int v62), (4, .int v61), (0, .ref x), (1, .ref v), (2, .int m), (3, .int gr)] 5 dX5_firstDayShort_69 rfl (by rw [ev62]; rfl) (by decide) rfl ?_
                refine tw_goto 13 dX5_firstDayShort_72 (by decide) ?_
                refine tw_lv [2, 3, 4, 5, 1, 0] rfl ?_
                exact ih34 v61 v62 (tw_mle ev62 c41 hk39)
              · refine tw_iload 5 dX5_firstDayShort_60 rfl ?_
                exact tw_iret dX5_firstDayShort_62 rfl (Or.inl ⟨_, rfl, rfl⟩)
  refine tw_lv [2, 3, 4, 5, 1, 0] rfl ?_
  exact L35 _ r7 td_10 (Nat.lt_succ_self _)

set_option maxHeartbeats 4000000 in
set_option maxRecDepth 100000 in
theorem c_X5_last (d : tw_D) (g : tw_G) (τ : tw_K) (h : tw_H) (hw : tw_wt d g τ h) (x : Nat) (kx : τ x = 11) (a : Int32) (m : Int32) (gr : Int32) : tw_Ct d mX5_last 20 120 [.ref x, .int a, .int m, .int gr] h (tw_qi (fun r h1 => h1 = h) (fun E h1 => (E = tw_IOE ∨ E = tw_IAE) ∧ h1 = h)) := by
  refine tw_of (by decide +kernel) (Nat.le_of_ble_eq_true rfl) ?_
  show tw_W d mX5_last _ 0 [(0, .ref x), (1, .int a), (2, .int m), (3, .int gr)] [] h 20 120
  have sp0 := tw_sp.rf hw
  refine tw_aload_n 0 dX5_last_0 rfl rfl ?_
  refine tw_iload_n 1 dX5_last_1 rfl rfl ?_
  obtain ⟨e1, f2, td_3, ca_4, ha_5, da_6, c1_7, c2_8, c3_9, c4_10, rfl, k11, k12, k13, k14, k15, k16, k17, k18, k19, k20, k21, k22, k23⟩ := sp0.1 x 11 kx (by decide)
  refine tw_br (tw_callV (M := mX5_last) (pc := 2) okX5_countryAt dX5_last_2 w_546 rfl f2 [.int a] [] rfl rfl ⟨by decide, by decide⟩ (Nat.le_of_ble_eq_true rfl) (c_X5_countryAt d g τ h sp0.1 x kx a) 19 114 (Nat.le_of_ble_eq_true rfl) (Nat.le_of_ble_eq_true rfl)) (fun r26 h25 q24 => ?_) (fun E h1 q => Or.inr ⟨E, rfl, (Or.inl q.1), q.2⟩)
  obtain ⟨q24e, p27⟩ := q24
  rw [q24e]
  refine tw_astore [(4, .ref r26), (0, .ref x), (1, .int a), (2, .int m), (3, .int gr)] dX5_last_5 (by decide) rfl ?_
  refine tw_iload_n 3 dX5_last_7 rfl rfl ?_
  refine tw_bv (tw_callS (M := mX5_last) (pc := 8) okX5_needMetal dX5_last_8 w_573 [.int m] [] rfl rfl ⟨by decide, by decide⟩ (Nat.le_of_ble_eq_true rfl) (c_X5_needMetal d g τ h sp0.1 m) 18 108 (Nat.le_of_ble_eq_true rfl) (Nat.le_of_ble_eq_true rfl)) (fun h29 q28 => ?_) (fun E h1 q => Or.inr ⟨E, rfl, (Or.inr (q.1)), q.2⟩)
  obtain ⟨q28e, p31⟩ := q28
  rw [q28e]
  refine tw_iload_n 4 dX5_last_11 rfl rfl ?_
  refine tw_iconst (v := 1) dX5_last_12 (by decide) ?_
  refine tw_ldc (v := 99999) dX5_last_13 w_470 ?_
  refine tw_bv (tw_callS (M := mX5_last) (pc := 15) okX5_needRange dX5_last_15 w_399 [.int gr, .int 1, .int 99999] [] rfl rfl ⟨by decide, by decide⟩ (Nat.le_of_ble_eq_true rfl) (c_X5_needRange d g τ h sp0.1 gr 1 99999) 17 102 (Nat.le_of_ble_eq_true rfl) (Nat.le_of_ble_eq_true rfl)) (fun h33 q32 => ?_) (fun E h1 q => Or.inr ⟨E, rfl, (Or.inr (q.1)), q.2⟩)
  obtain ⟨q32e, p35⟩ := q32
  rw [q32e]
  refine tw_aload_n 1 dX5_last_18 rfl rfl ?_
  refine tw_aload 0 dX5_last_19 rfl ?_
  obtain ⟨e36, f37, n_38, r_39, c_40, go_41, so_42, v_43, rd_44, rf_45, t_46, rfl, k47, k48, k49, k50, k51, k52, k53, k54, k55⟩ := sp0.1 r26 2 p27 (by decide)
  refine tw_getN (v := .ref v_43) rfl in_4 3 dX5_last_21 w_508 rfl (by decide) f37 rfl ?_
  refine tw_iload_n 3 dX5_last_24 rfl rfl ?_
  refine tw_iload_n 4 dX5_last_25 rfl rfl ?_
  refine tw_bi (tw_callV (M := mX5_last) (pc := 26) okX5_firstDayShort dX5_last_26 w_321 rfl f2 [.ref v_43, .int m, .int gr] [] rfl rfl ⟨by decide, by decide⟩ (Nat.le_of_ble_eq_true rfl) (c_X5_firstDayShort d g τ h sp0.1 x kx v_43 k47 m gr) 17 102 (Nat.le_of_ble_eq_true rfl) (Nat.le_of_ble_eq_true rfl)) (fun r58 h57 q56 => ?_) (fun E h1 q => q.elim)
  rw [q56]
  exact tw_iret dX5_last_29 rfl (Or.inl ⟨_, rfl, rfl⟩)

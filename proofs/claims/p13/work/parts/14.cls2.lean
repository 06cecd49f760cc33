/-! the class's methods over the typed heap. Laid by wip/p5/mkclass.py. -/
set_option maxHeartbeats 4000000 in
set_option maxRecDepth 100000 in
theorem c_X5_countryAt (d : tw_D) (g : tw_G) (τ : tw_K) (h : tw_H) (hw : tw_wt d g τ h) (x : Nat) (kx : τ x = 11) (n : Int32) : tw_Ct d mX5_countryAt 1 6 [.ref x, .int n] h (tw_qr (fun r h1 => h1 = h ∧ τ r = 2) (fun E h1 => (E = tw_IOE) ∧ h1 = h)) := by
  refine tw_of (by decide +kernel) (Nat.le_of_ble_eq_true rfl) ?_
  show tw_W d mX5_countryAt _ 0 [(0, .ref x), (1, .int n)] [] h 1 6
  have sp0 := tw_sp.rf hw
  refine tw_iload_n 1 dX5_countryAt_0 rfl rfl ?_
  refine tw_if_lt 22 dX5_countryAt_1 (by decide) (fun c1 => ?_) (fun c1 => ?_)
  · exact tw_throwSW (i := 2) (by decide +kernel) w_550 w_96 rfl at_IOE dX5_countryAt_22 dX5_countryAt_25 dX5_countryAt_26 dX5_countryAt_29 dX5_countryAt_32 ⟨by decide, Nat.le_of_ble_eq_true rfl⟩ (Nat.le_of_ble_eq_true rfl) (Nat.le_of_ble_eq_true rfl) (Or.inr ⟨_, rfl, (rfl), rfl⟩)
  · refine tw_iload_n 1 dX5_countryAt_4 rfl rfl ?_
    refine tw_aload_n 0 dX5_countryAt_5 rfl rfl ?_
    obtain ⟨e2, f3, td_4, ca_5, ha_6, da_7, c1_8, c2_9, c3_10, c4_11, rfl, k12, k13, k14, k15, k16, k17, k18, k19, k20, k21, k22⟩ := sp0.1 x 11 kx (by decide)
    refine tw_get (v := .ref ca_5) rfl in_9 2 dX5_countryAt_6 w_142 rfl (by decide) f3 rfl ?_
    obtain ⟨e23, f24, F25, rfl, k26, pn27, pb28, px29⟩ := sp0.1 ca_5 8 k12 (by decide)
    refine tw_alen (v := nI 4) 4 rfl dX5_countryAt_9 f24 rfl ?_
    refine tw_icmp_ge 22 dX5_countryAt_10 (by decide) (fun c30 => ?_) (fun c30 => ?_)
    · exact tw_throwSW (i := 2) (by decide +kernel) w_550 w_96 rfl at_IOE dX5_countryAt_22 dX5_countryAt_25 dX5_countryAt_26 dX5_countryAt_29 dX5_countryAt_32 ⟨by decide, Nat.le_of_ble_eq_true rfl⟩ (Nat.le_of_ble_eq_true rfl) (Nat.le_of_ble_eq_true rfl) (Or.inr ⟨_, rfl, (rfl), rfl⟩)
    · refine tw_aload_n 0 dX5_countryAt_13 rfl rfl ?_
      refine tw_get (v := .ref ca_5) rfl in_9 2 dX5_countryAt_14 w_142 rfl (by decide) f3 rfl ?_
      refine tw_iload_n 1 dX5_countryAt_17 rfl rfl ?_
      cases k31 : F25 (n).toNatClampNeg with
      | none =>
        refine tw_aald (v := .null) 4 rfl rfl dX5_countryAt_18 f24 (tw_ib2 c1 c30 (by decide)) (by rw [k31]; rfl) ?_
        refine tw_ifnonnullN dX5_countryAt_19 ?_
        exact tw_throwSW (i := 2) (by decide +kernel) w_550 w_96 rfl at_IOE dX5_countryAt_22 dX5_countryAt_25 dX5_countryAt_26 dX5_countryAt_29 dX5_countryAt_32 ⟨by decide, Nat.le_of_ble_eq_true rfl⟩ (Nat.le_of_ble_eq_true rfl) (Nat.le_of_ble_eq_true rfl) (Or.inr ⟨_, rfl, (rfl), rfl⟩)
      | some q32 =>
        have k33 := k26 _ _ k31
        refine tw_aald (v := .ref q32) 4 rfl rfl dX5_countryAt_18 f24 (tw_ib2 c1 c30 (by decide)) (by rw [k31]; rfl) ?_
        refine tw_ifnonnull 33 dX5_countryAt_19 (by decide) ?_
        refine tw_aload_n 0 dX5_countryAt_33 rfl rfl ?_
        refine tw_get (v := .ref ca_5) rfl in_9 2 dX5_countryAt_34 w_142 rfl (by decide) f3 rfl ?_
        refine tw_iload_n 1 dX5_countryAt_37 rfl rfl ?_
        refine tw_aald (v := .ref q32) 4 rfl rfl dX5_countryAt_38 f24 (tw_ib2 c1 c30 (by decide)) (by rw [k31]; rfl) ?_
        exact tw_aret dX5_countryAt_39 rfl (Or.inl ⟨_, rfl⟩) (Or.inl ⟨_, rfl, ⟨rfl, k33⟩⟩)

set_option maxHeartbeats 4000000 in
set_option maxRecDepth 100000 in
theorem c_X5_houseAt (d : tw_D) (g : tw_G) (τ : tw_K) (h : tw_H) (hw : tw_wt d g τ h) (x : Nat) (kx : τ x = 11) (n : Int32) : tw_Ct d mX5_houseAt 1 6 [.ref x, .int n] h (tw_qr (fun r h1 => h1 = h ∧ τ r = 3) (fun E h1 => (E = tw_IOE) ∧ h1 = h)) := by
  refine tw_of (by decide +kernel) (Nat.le_of_ble_eq_true rfl) ?_
  show tw_W d mX5_houseAt _ 0 [(0, .ref x), (1, .int n)] [] h 1 6
  have sp0 := tw_sp.rf hw
  refine tw_iload_n 1 dX5_houseAt_0 rfl rfl ?_
  refine tw_if_lt 22 dX5_houseAt_1 (by decide) (fun c1 => ?_) (fun c1 => ?_)
  · exact tw_throwSW (i := 8) (by decide +kernel) w_550 w_96 rfl at_IOE dX5_houseAt_22 dX5_houseAt_25 dX5_houseAt_26 dX5_houseAt_29 dX5_houseAt_32 ⟨by decide, Nat.le_of_ble_eq_true rfl⟩ (Nat.le_of_ble_eq_true rfl) (Nat.le_of_ble_eq_true rfl) (Or.inr ⟨_, rfl, (rfl), rfl⟩)
  · refine tw_iload_n 1 dX5_houseAt_4 rfl rfl ?_
    refine tw_aload_n 0 dX5_houseAt_5 rfl rfl ?_
    obtain ⟨e2, f3, td_4, ca_5, ha_6, da_7, c1_8, c2_9, c3_10, c4_11, rfl, k12, k13, k14, k15, k16, k17, k18, k19, k20, k21, k22⟩ := sp0.1 x 11 kx (by decide)
    refine tw_get (v := .ref ha_6) rfl in_9 4 dX5_houseAt_6 w_144 rfl (by decide) f3 rfl ?_
    obtain ⟨e23, f24, F25, rfl, k26, pn27, pb28, px29⟩ := sp0.1 ha_6 9 k13 (by decide)
    refine tw_alen (v := nI 6) 5 rfl dX5_houseAt_9 f24 rfl ?_
    refine tw_icmp_ge 22 dX5_houseAt_10 (by decide) (fun c30 => ?_) (fun c30 => ?_)
    · exact tw_throwSW (i := 8) (by decide +kernel) w_550 w_96 rfl at_IOE dX5_houseAt_22 dX5_houseAt_25 dX5_houseAt_26 dX5_houseAt_29 dX5_houseAt_32 ⟨by decide, Nat.le_of_ble_eq_true rfl⟩ (Nat.le_of_ble_eq_true rfl) (Nat.le_of_ble_eq_true rfl) (Or.inr ⟨_, rfl, (rfl), rfl⟩)
    · refine tw_aload_n 0 dX5_houseAt_13 rfl rfl ?_
      refine tw_get (v := .ref ha_6) rfl in_9 4 dX5_houseAt_14 w_144 rfl (by decide) f3 rfl ?_
      refine tw_iload_n 1 dX5_houseAt_17 rfl rfl ?_
      cases k31 : F25 (n).toNatClampNeg with
      | none =>
        refine tw_aald (v := .null) 5 rfl rfl dX5_houseAt_18 f24 (tw_ib2 c1 c30 (by decide)) (by rw [k31]; rfl) ?_
        refine tw_ifnonnullN dX5_houseAt_19 ?_
        exact tw_throwSW (i := 8) (by decide +kernel) w_550 w_96 rfl at_IOE dX5_houseAt_22 dX5_houseAt_25 dX5_houseAt_26 dX5_houseAt_29 dX5_houseAt_32 ⟨by decide, Nat.le_of_ble_eq_true rfl⟩ (Nat.le_of_ble_eq_true rfl) (Nat.le_of_ble_eq_true rfl) (Or.inr ⟨_, rfl, (rfl), rfl⟩)
      | some q32 =>
        have k33 := k26 _ _ k31
        refine tw_aald (v := .ref q32) 5 rfl rfl dX5_houseAt_18 f24 (tw_ib2 c1 c30 (by decide)) (by rw [k31]; rfl) ?_
        refine tw_ifnonnull 33 dX5_houseAt_19 (by decide) ?_
        refine tw_aload_n 0 dX5_houseAt_33 rfl rfl ?_
        refine tw_get (v := .ref ha_6) rfl in_9 4 dX5_houseAt_34 w_144 rfl (by decide) f3 rfl ?_
        refine tw_iload_n 1 dX5_houseAt_37 rfl rfl ?_
        refine tw_aald (v := .ref q32) 5 rfl rfl dX5_houseAt_38 f24 (tw_ib2 c1 c30 (by decide)) (by rw [k31]; rfl) ?_
        exact tw_aret dX5_houseAt_39 rfl (Or.inl ⟨_, rfl⟩) (Or.inl ⟨_, rfl, ⟨rfl, k33⟩⟩)

set_option maxHeartbeats 4000000 in
set_option maxRecDepth 100000 in
theorem c_X5_debtAt (d : tw_D) (g : tw_G) (τ : tw_K) (h : tw_H) (hw : tw_wt d g τ h) (x : Nat) (kx : τ x = 11) (n : Int32) : tw_Ct d mX5_debtAt 1 6 [.ref x, .int n] h (tw_qr (fun r h1 => h1 = h ∧ τ r = 4) (fun E h1 => (E = tw_IOE) ∧ h1 = h)) := by
  refine tw_of (by decide +kernel) (Nat.le_of_ble_eq_true rfl) ?_
  show tw_W d mX5_debtAt _ 0 [(0, .ref x), (1, .int n)] [] h 1 6
  have sp0 := tw_sp.rf hw
  refine tw_iload_n 1 dX5_debtAt_0 rfl rfl ?_
  refine tw_if_lt 22 dX5_debtAt_1 (by decide) (fun c1 => ?_) (fun c1 => ?_)
  · exact tw_throwSW (i := 14) (by decide +kernel) w_550 w_96 rfl at_IOE dX5_debtAt_22 dX5_debtAt_25 dX5_debtAt_26 dX5_debtAt_29 dX5_debtAt_32 ⟨by decide, Nat.le_of_ble_eq_true rfl⟩ (Nat.le_of_ble_eq_true rfl) (Nat.le_of_ble_eq_true rfl) (Or.inr ⟨_, rfl, (rfl), rfl⟩)
  · refine tw_iload_n 1 dX5_debtAt_4 rfl rfl ?_
    refine tw_aload_n 0 dX5_debtAt_5 rfl rfl ?_
    obtain ⟨e2, f3, td_4, ca_5, ha_6, da_7, c1_8, c2_9, c3_10, c4_11, rfl, k12, k13, k14, k15, k16, k17, k18, k19, k20, k21, k22⟩ := sp0.1 x 11 kx (by decide)
    refine tw_get (v := .ref da_7) rfl in_9 6 dX5_debtAt_6 w_146 rfl (by decide) f3 rfl ?_
    obtain ⟨e23, f24, F25, rfl, k26, pn27, pb28, px29⟩ := sp0.1 da_7 10 k14 (by decide)
    refine tw_alen (v := nI 10) 6 rfl dX5_debtAt_9 f24 rfl ?_
    refine tw_icmp_ge 22 dX5_debtAt_10 (by decide) (fun c30 => ?_) (fun c30 => ?_)
    · exact tw_throwSW (i := 14) (by decide +kernel) w_550 w_96 rfl at_IOE dX5_debtAt_22 dX5_debtAt_25 dX5_debtAt_26 dX5_debtAt_29 dX5_debtAt_32 ⟨by decide, Nat.le_of_ble_eq_true rfl⟩ (Nat.le_of_ble_eq_true rfl) (Nat.le_of_ble_eq_true rfl) (Or.inr ⟨_, rfl, (rfl), rfl⟩)
    · refine tw_aload_n 0 dX5_debtAt_13 rfl rfl ?_
      refine tw_get (v := .ref da_7) rfl in_9 6 dX5_debtAt_14 w_146 rfl (by decide) f3 rfl ?_
      refine tw_iload_n 1 dX5_debtAt_17 rfl rfl ?_
      cases k31 : F25 (n).toNatClampNeg with
      | none =>
        refine tw_aald (v := .null) 6 rfl rfl dX5_debtAt_18 f24 (tw_ib2 c1 c30 (by decide)) (by rw [k31]; rfl) ?_
        refine tw_ifnonnullN dX5_debtAt_19 ?_
        exact tw_throwSW (i := 14) (by decide +kernel) w_550 w_96 rfl at_IOE dX5_debtAt_22 dX5_debtAt_25 dX5_debtAt_26 dX5_debtAt_29 dX5_debtAt_32 ⟨by decide, Nat.le_of_ble_eq_true rfl⟩ (Nat.le_of_ble_eq_true rfl) (Nat.le_of_ble_eq_true rfl) (Or.inr ⟨_, rfl, (rfl), rfl⟩)
      | some q32 =>
        have k33 := k26 _ _ k31
        refine tw_aald (v := .ref q32) 6 rfl rfl dX5_debtAt_18 f24 (tw_ib2 c1 c30 (by decide)) (by rw [k31]; rfl) ?_
        refine tw_ifnonnull 33 dX5_debtAt_19 (by decide) ?_
        refine tw_aload_n 0 dX5_debtAt_33 rfl rfl ?_
        refine tw_get (v := .ref da_7) rfl in_9 6 dX5_debtAt_34 w_146 rfl (by decide) f3 rfl ?_
        refine tw_iload_n 1 dX5_debtAt_37 rfl rfl ?_
        refine tw_aald (v := .ref q32) 6 rfl rfl dX5_debtAt_38 f24 (tw_ib2 c1 c30 (by decide)) (by rw [k31]; rfl) ?_
        exact tw_aret dX5_debtAt_39 rfl (Or.inl ⟨_, rfl⟩) (Or.inl ⟨_, rfl, ⟨rfl, k33⟩⟩)

set_option maxHeartbeats 4000000 in
set_option maxRecDepth 100000 in
theorem c_X4_fewestFor (d : tw_D) (g : tw_G) (τ : tw_K) (h : tw_H) (hw : tw_wt d g τ h) (x : Nat) (kx : τ x = 5) (am : Int32) : tw_Ct d mX4_fewestFor 0 0 [.ref x, .int am] h (tw_qi (fun r h1 => h1 = h) tw_nx) := by
  refine tw_of (by decide +kernel) (Nat.le_of_ble_eq_true rfl) ?_
  show tw_W d mX4_fewestFor _ 0 [(0, .ref x), (1, .int am)] [] h 0 0
  have sp0 := tw_sp.rf hw
  refine tw_iconst (v := -1) dX4_fewestFor_0 (by decide) ?_
  refine tw_istore_n [(2, .int (-1)), (0, .ref x), (1, .int am)] dX4_fewestFor_1 rfl (by decide) rfl ?_
  refine tw_bipush (v := 46) dX4_fewestFor_2 (by decide) ?_
  refine tw_istore_n [(3, .int 46), (2, .int (-1)), (0, .ref x), (1, .int am)] dX4_fewestFor_4 rfl (by decide) rfl ?_
  refine tw_aload_n 2 dX4_fewestFor_5 rfl rfl ?_
  refine tw_iconst (v := 0) dX4_fewestFor_6 (by decide) ?_
  obtain ⟨e1, f2, m_3, rfl, k4⟩ := sp0.1 x 5 kx (by decide)
  refine tw_bi (tw_callV (M := mX4_fewestFor) (pc := 7) okX4_manyOf dX4_fewestFor_7 w_277 rfl f2 [.int 0] [] rfl rfl ⟨by decide, by decide⟩ (Nat.le_of_ble_eq_true rfl) (c_X4_manyOf d g τ h sp0.1 x kx 0) 0 0 (Nat.le_of_ble_eq_true rfl) (Nat.le_of_ble_eq_true rfl)) (fun r7 h6 q5 => ?_) (fun E h1 q => q.elim)
  rw [q5]
  refine tw_iload_n 3 dX4_fewestFor_10 rfl rfl ?_
  refine tw_bipush (v := 20) dX4_fewestFor_11 (by decide) ?_
  refine tw_idiv dX4_fewestFor_13 (by decide) ?_
  refine tw_nmi (fun v8 ev8 => ?_)
  refine tw_mmin dX4_fewestFor_14 w_289 w_290 w_93 w_291 ⟨by decide, Nat.le_of_ble_eq_true rfl⟩ ?_
  refine tw_nmi (fun v9 ev9 => ?_)
  refine tw_istore [(4, .int v9), (3, .int 46), (2, .int (-1)), (0, .ref x), (1, .int am)] dX4_fewestFor_17 (by decide) rfl ?_
  have L15 : ∀ (r13 : Nat) (x10 : Int32) (x11 : Int32) (x12 : Int32), (x12.toInt + 1).toNat < r13 → tw_W d mX4_fewestFor (tw_qi (fun r h1 => h1 = h) tw_nx) 19 [(0, .ref x), (1, .int am), (2, .int x10), (3, .int x11), (4, .int x12)] [] h 0 0 := by
    intro r13
    induction r13 with
    | zero => intro x10 x11 x12 hk19; exact absurd hk19 (Nat.not_lt_zero _)
    | succ r13 ih14 =>
      intro x10 x11 x12 hk19
      refine tw_iload 4 dX4_fewestFor_19 rfl ?_
      refine tw_if_lt 204 dX4_fewestFor_21 (by decide) (fun c21 => ?_) (fun c21 => ?_)
      · refine tw_iload_n 2 dX4_fewestFor_204 rfl rfl ?_
        exact tw_iret dX4_fewestFor_205 rfl (Or.inl ⟨_, rfl, rfl⟩)
      · refine tw_iload_n 1 dX4_fewestFor_24 rfl rfl ?_
        refine tw_bipush (v := 20) dX4_fewestFor_25 (by decide) ?_
        refine tw_iload 4 dX4_fewestFor_27 rfl ?_
        refine tw_imul dX4_fewestFor_29 ?_
        refine tw_nmi (fun v22 ev22 => ?_)
        refine tw_isub dX4_fewestFor_30 ?_
        refine tw_nmi (fun v23 ev23 => ?_)
        refine tw_istore [(5, .int v23), (0, .ref x), (1, .int am), (2, .int x10), (3, .int x11), (4, .int x12)] dX4_fewestFor_31 (by decide) rfl ?_
        refine tw_aload_n 1 dX4_fewestFor_33 rfl rfl ?_
        refine tw_iconst (v := 1) dX4_fewestFor_34 (by decide) ?_
        refine tw_bi (tw_callV (M := mX4_fewestFor) (pc := 35) okX4_manyOf dX4_fewestFor_35 w_277 rfl f2 [.int 1] [] rfl rfl ⟨by decide, by decide⟩ (Nat.le_of_ble_eq_true rfl) (c_X4_manyOf d g τ h sp0.1 x kx 1) 0 0 (Nat.le_of_ble_eq_true rfl) (Nat.le_of_ble_eq_true rfl)) (fun r26 h25 q24 => ?_) (fun E h1 q => q.elim)
        rw [q24]
        refine tw_iload 0 dX4_fewestFor_38 rfl ?_
        refine tw_bipush (v := 10) dX4_fewestFor_40 (by decide) ?_
        refine tw_idiv dX4_fewestFor_42 (by decide) ?_
        refine tw_nmi (fun v27 ev27 => ?_)
        refine tw_mmin dX4_fewestFor_43 w_289 w_290 w_93 w_291 ⟨by decide, Nat.le_of_ble_eq_true rfl⟩ ?_
        refine tw_nmi (fun v28 ev28 => ?_)
        refine tw_istore [(6, .int v28), (5, .int v23), (0, .ref x), (1, .int am), (2, .int x10), (3, .int x11), (4, .int x12)] dX4_fewestFor_46 (by decide) rfl ?_
        have L34 : ∀ (r32 : Nat) (x29 : Int32) (x30 : Int32) (x31 : Int32), (x31.toInt + 1).toNat < r32 → tw_W d mX4_fewestFor (tw_qi (fun r h1 => h1 = h) tw_nx) 48 [(0, .ref x), (1, .int am), (2, .int x29), (3, .int x30), (4, .int x12), (5, .int v23), (6, .int x31)] [] h 0 0 := by
          intro r32
          induction r32 with
          | zero => intro x29 x30 x31 hk38; exact absurd hk38 (Nat.not_lt_zero _)
          | succ r32 ih33 =>
            intro x29 x30 x31 hk38
            refine tw_iload 6 dX4_fewestFor_48 rfl ?_
            refine tw_if_lt 198 dX4_fewestFor_50 (by decide) (fun c40 => ?_) (fun c40 => ?_)
            · obtain ⟨v41, ev41⟩ : ∃ y : Int32, y = x12 + (-1) := ⟨_, rfl⟩
              refine tw_iinc [(4, .int v41), (0, .ref x), (1, .int am), (2, .int x29), (3, .int x30), (5, .int v23), (6, .int x31)] 4 dX4_fewestFor_198 rfl (by rw [ev41]; rfl) (by decide) rfl ?_
              refine tw_goto 19 dX4_fewestFor_201 (by decide) ?_
              refine tw_lv [1, 2, 3, 4, 0] rfl ?_
              exact ih14 x29 x30 v41 (tw_mdn ev41 c21 hk19)
            · refine tw_iload 5 dX4_fewestFor_53 rfl ?_
              refine tw_bipush (v := 10) dX4_fewestFor_55 (by decide) ?_
              refine tw_iload 6 dX4_fewestFor_57 rfl ?_
              refine tw_imul dX4_fewestFor_59 ?_
              refine tw_nmi (fun v42 ev42 => ?_)
              refine tw_isub dX4_fewestFor_60 ?_
              refine tw_nmi (fun v43 ev43 => ?_)
              refine tw_istore [(7, .int v43), (0, .ref x), (1, .int am), (2, .int x29), (3, .int x30), (4, .int x12), (5, .int v23), (6, .int x31)] dX4_fewestFor_61 (by decide) rfl ?_
              refine tw_aload_n 1 dX4_fewestFor_63 rfl rfl ?_
              refine tw_iconst (v := 2) dX4_fewestFor_64 (by decide) ?_
              refine tw_bi (tw_callV (M := mX4_fewestFor) (pc := 65) okX4_manyOf dX4_fewestFor_65 w_277 rfl f2 [.int 2] [] rfl rfl ⟨by decide, by decide⟩ (Nat.le_of_ble_eq_true rfl) (c_X4_manyOf d g τ h sp0.1 x kx 2) 0 0 (Nat.le_of_ble_eq_true rfl) (Nat.le_of_ble_eq_true rfl)) (fun r46 h45 q44 => ?_) (fun E h1 q => q.elim)
              rw [q44]
              refine tw_iload 0 dX4_fewestFor_68 rfl ?_
              refine tw_iconst (v := 5) dX4_fewestFor_70 (by decide) ?_
              refine tw_idiv dX4_fewestFor_71 (by decide) ?_
              refine tw_nmi (fun v47 ev47 => ?_)
              refine tw_mmin dX4_fewestFor_72 w_289 w_290 w_93 w_291 ⟨by decide, Nat.le_of_ble_eq_true rfl⟩ ?_
              refine tw_nmi (fun v48 ev48 => ?_)
              refine tw_istore [(8, .int v48), (7, .int v43), (0, .ref x), (1, .int am), (2, .int x29), (3, .int x30), (4, .int x12), (5, .int v23), (6, .int x31)] dX4_fewestFor_75 (by decide) rfl ?_
              have L54 : ∀ (r52 : Nat) (x49 : Int32) (x50 : Int32) (x51 : Int32), (x51.toInt + 1).toNat < r52 → tw_W d mX4_fewestFor (tw_qi (fun r h1 => h1 = h) tw_nx) 77 [(0, .ref x), (1, .int am), (2, .int x49), (3, .int x50), (4, .int x12), (5, .int v23), (6, .int x31), (7, .int v43), (8, .int x51)] [] h 0 0 := by
                intro r52
                induction r52 with
                | zero => intro x49 x50 x51 hk58; exact absurd hk58 (Nat.not_lt_zero _)
                | succ r52 ih53 =>
                  intro x49 x50 x51 hk58
                  refine tw_iload 8 dX4_fewestFor_77 rfl ?_
                  refine tw_if_lt 192 dX4_fewestFor_79 (by decide) (fun c60 => ?_) (fun c60 => ?_)
                  · obtain ⟨v61, ev61⟩ : ∃ y : Int32, y = x31 + (-1) := ⟨_, rfl⟩
                    refine tw_iinc [(6, .int v61), (0, .ref x), (1, .int am), (2, .int x49), (3, .int x50), (4, .int x12), (5, .int v23), (7, .int v43), (8, .int x51)] 6 dX4_fewestFor_192 rfl (by rw [ev61]; rfl) (by decide) rfl ?_
                    refine tw_goto 48 dX4_fewestFor_195 (by decide) ?_
                    refine tw_lv [1, 2, 3, 4, 5, 6, 0] rfl ?_
                    exact ih33 x49 x50 v61 (tw_mdn ev61 c40 hk38)
                  · refine tw_iload 7 dX4_fewestFor_82 rfl ?_
                    refine tw_iconst (v := 5) dX4_fewestFor_84 (by decide) ?_
                    refine tw_iload 8 dX4_fewestFor_85 rfl ?_
                    refine tw_imul dX4_fewestFor_87 ?_
                    refine tw_nmi (fun v62 ev62 => ?_)
                    refine tw_isub dX4_fewestFor_88 ?_
                    refine tw_nmi (fun v63 ev63 => ?_)
                    refine tw_istore [(9, .int v63), (0, .ref x), (1, .int am), (2, .int x49), (3, .int x50), (4, .int x12), (5, .int v23), (6, .int x31), (7, .int v43), (8, .int x51)] dX4_fewestFor_89 (by decide) rfl ?_
                    refine tw_aload_n 1 dX4_fewestFor_91 rfl rfl ?_
                    refine tw_iconst (v := 3) dX4_fewestFor_92 (by decide) ?_
                    refine tw_bi (tw_callV (M := mX4_fewestFor) (pc := 93) okX4_manyOf dX4_fewestFor_93 w_277 rfl f2 [.int 3] [] rfl rfl ⟨by decide, by decide⟩ (Nat.le_of_ble_eq_true rfl) (c_X4_manyOf d g τ h sp0.1 x kx 3) 0 0 (Nat.le_of_ble_eq_true rfl) (Nat.le_of_ble_eq_true rfl)) (fun r66 h65 q64 => ?_) (fun E h1 q => q.elim)
                    rw [q64]
                    refine tw_iload 0 dX4_fewestFor_96 rfl ?_
                    refine tw_iconst (v := 2) dX4_fewestFor_98 (by decide) ?_
                    refine tw_idiv dX4_fewestFor_99 (by decide) ?_
                    refine tw_nmi (fun v67 ev67 => ?_)
                    refine tw_mmin dX4_fewestFor_100 w_289 w_290 w_93 w_291 ⟨by decide, Nat.le_of_ble_eq_true rfl⟩ ?_
                    refine tw_nmi (fun v68 ev68 => ?_)
                    refine tw_istore [(10, .int v68), (9, .int v63), (0, .ref x), (1, .int am), (2, .int x49), (3, .int x50), (4, .int x12), (5, .int v23), (6, .int x31), (7, .int v43), (8, .int x51)] dX4_fewestFor_103 (by decide) rfl ?_
                    refine tw_iload 1 dX4_fewestFor_105 rfl ?_
                    refine tw_iconst (v := 2) dX4_fewestFor_107 (by decide) ?_
                    refine tw_iload 0 dX4_fewestFor_108 rfl ?_
                    refine tw_imul dX4_fewestFor_110 ?_
                    refine tw_nmi (fun v69 ev69 => ?_)
                    refine tw_isub dX4_fewestFor_111 ?_
                    refine tw_nmi (fun v70 ev70 => ?_)
                    refine tw_istore [(11, .int v70), (10, .int v68), (9, .int v63), (0, .ref x), (1, .int am), (2, .int x49), (3, .int x50), (4, .int x12), (5, .int v23), (6, .int x31), (7, .int v43), (8, .int x51)] dX4_fewestFor_112 (by decide) rfl ?_
                    refine tw_iload 0 dX4_fewestFor_114 rfl ?_
                    refine tw_aload_n 3 dX4_fewestFor_116 rfl rfl ?_
                    refine tw_iconst (v := 4) dX4_fewestFor_117 (by decide) ?_
                    refine tw_bi (tw_callV (M := mX4_fewestFor) (pc := 118) okX4_manyOf dX4_fewestFor_118 w_277 rfl f2 [.int 4] [.int v70] rfl rfl ⟨by decide, by decide⟩ (Nat.le_of_ble_eq_true rfl) (c_X4_manyOf d g τ h sp0.1 x kx 4) 0 0 (Nat.le_of_ble_eq_true rfl) (Nat.le_of_ble_eq_true rfl)) (fun r73 h72 q71 => ?_) (fun E h1 q => q.elim)
                    rw [q71]
                    refine tw_icmp_gt 186 dX4_fewestFor_121 (by decide) (fun c74 => ?_) (fun c74 => ?_)
                    · obtain ⟨v75, ev75⟩ : ∃ y : Int32, y = x51 + (-1) := ⟨_, rfl⟩
                      refine tw_iinc [(8, .int v75), (11, .int v70), (10, .int v68), (9, .int v63), (0, .ref x), (1, .int am), (2, .int x49), (3, .int x50), (4, .int x12), (5, .int v23), (6, .int x31), (7, .int v43)] 11 dX4_fewestFor_186 rfl (by rw [ev75]; rfl) (by decide) rfl ?_
                      refine tw_goto 77 dX4_fewestFor_189 (by decide) ?_
                      refine tw_lv [4, 5, 6, 7, 8, 9, 10, 11, 0] rfl ?_
                      exact ih53 x49 x50 v75 (tw_mdn ev75 c60 hk58)
                    · refine tw_iload 7 dX4_fewestFor_124 rfl ?_
                      refine tw_iload 9 dX4_fewestFor_126 rfl ?_
                      refine tw_iadd dX4_fewestFor_128 ?_
                      refine tw_nmi (fun v76 ev76 => ?_)
                      refine tw_iload 11 dX4_fewestFor_129 rfl ?_
                      refine tw_iadd dX4_fewestFor_131 ?_
                      refine tw_nmi (fun v77 ev77 => ?_)
                      refine tw_iload 1 dX4_fewestFor_132 rfl ?_
                      refine tw_iadd dX4_fewestFor_134 ?_
                      refine tw_nmi (fun v78 ev78 => ?_)
                      refine tw_iload 0 dX4_fewestFor_135 rfl ?_
                      refine tw_iadd dX4_fewestFor_137 ?_
                      refine tw_nmi (fun v79 ev79 => ?_)
                      refine tw_iload_n 6 dX4_fewestFor_138 rfl rfl ?_
                      refine tw_icmp_ge 186 dX4_fewestFor_139 (by decide) (fun c80 => ?_) (fun c80 => ?_)
                      · obtain ⟨v81, ev81⟩ : ∃ y : Int32, y = x51 + (-1) := ⟨_, rfl⟩
                        refine tw_iinc [(8, .int v81), (11, .int v70), (10, .int v68), (9, .int v63), (0, .ref x), (1, .int am), (2, .int x49), (3, .int x50), (4, .int x12), (5, .int v23), (6, .int x31), (7, .int v43)] 11 dX4_fewestFor_186 rfl (by rw [ev81]; rfl) (by decide) rfl ?_
                        refine tw_goto 77 dX4_fewestFor_189 (by decide) ?_
                        refine tw_lv [4, 5, 6, 7, 8, 9, 10, 11, 0] rfl ?_
                        exact ih53 x49 x50 v81 (tw_mdn ev81 c60 hk58)
                      · refine tw_iload 7 dX4_fewestFor_142 rfl ?_
                        refine tw_iload 9 dX4_fewestFor_144 rfl ?_
                        refine tw_iadd dX4_fewestFor_146 ?_
                        refine tw_nmi (fun v82 ev82 => ?_)
                        refine tw_iload 11 dX4_fewestFor_147 rfl ?_
                        refine tw_iadd dX4_fewestFor_149 ?_
                        refine tw_nmi (fun v83 ev83 => ?_)
                        refine tw_iload 1 dX4_fewestFor_150 rfl ?_
                        refine tw_iadd dX4_fewestFor_152 ?_
                        refine tw_nmi (fun v84 ev84 => ?_)
                        refine tw_iload 0 dX4_fewestFor_153 rfl ?_
                        refine tw_iadd dX4_fewestFor_155 ?_
                        refine tw_nmi (fun v85 ev85 => ?_)
                        refine tw_istore_n [(3, .int v85), (11, .int v70), (10, .int v68), (9, .int v63), (0, .ref x), (1, .int am), (2, .int x49), (4, .int x12), (5, .int v23), (6, .int x31), (7, .int v43), (8, .int x51)] dX4_fewestFor_156 rfl (by decide) rfl ?_
                        refine tw_iload 7 dX4_fewestFor_157 rfl ?_
                        refine tw_sipush (v := 10000) dX4_fewestFor_159 (by decide) ?_
                        refine tw_imul dX4_fewestFor_162 ?_
                        refine tw_nmi (fun v86 ev86 => ?_)
                        refine tw_iload 9 dX4_fewestFor_163 rfl ?_
                        refine tw_sipush (v := 1000) dX4_fewestFor_165 (by decide) ?_
                        refine tw_imul dX4_fewestFor_168 ?_
                        refine tw_nmi (fun v87 ev87 => ?_)
                        refine tw_iadd dX4_fewestFor_169 ?_
                        refine tw_nmi (fun v88 ev88 => ?_)
                        refine tw_iload 11 dX4_fewestFor_170 rfl ?_
                        refine tw_bipush (v := 100) dX4_fewestFor_172 (by decide) ?_
                        refine tw_imul dX4_fewestFor_174 ?_
                        refine tw_nmi (fun v89 ev89 => ?_)
                        refine tw_iadd dX4_fewestFor_175 ?_
                        refine tw_nmi (fun v90 ev90 => ?_)
                        refine tw_iload 2 dX4_fewestFor_176 rfl ?_
                        refine tw_bipush (v := 10) dX4_fewestFor_178 (by decide) ?_
                        refine tw_imul dX4_fewestFor_180 ?_
                        refine tw_nmi (fun v91 ev91 => ?_)
                        refine tw_iadd dX4_fewestFor_181 ?_
                        refine tw_nmi (fun v92 ev92 => ?_)
                        refine tw_iload 1 dX4_fewestFor_182 rfl ?_
                        refine tw_iadd dX4_fewestFor_184 ?_
                        refine tw_nmi (fun v93 ev93 => ?_)
                        refine tw_istore_n [(2, .int v93), (3, .int v85), (11, .int v70), (10, .int v68), (9, .int v63), (0, .ref x), (1, .int am), (4, .int x12), (5, .int v23), (6, .int x31), (7, .int v43), (8, .int x51)] dX4_fewestFor_185 rfl (by decide) rfl ?_
                        obtain ⟨v94, ev94⟩ : ∃ y : Int32, y = x51 + (-1) := ⟨_, rfl⟩
                        refine tw_iinc [(8, .int v94), (2, .int v93), (3, .int v85), (11, .int v70), (10, .int v68), (9, .int v63), (0, .ref x), (1, .int am), (4, .int x12), (5, .int v23), (6, .int x31), (7, .int v43)] 11 dX4_fewestFor_186 rfl (by rw [ev94]; rfl) (by decide) rfl ?_
                        refine tw_goto 77 dX4_fewestFor_189 (by decide) ?_
                        refine tw_lv [6, 7, 1, 2, 8, 9, 10, 11, 0] rfl ?_
                        exact ih53 v93 v85 v94 (tw_mdn ev94 c60 hk58)
              refine tw_lv [2, 3, 4, 5, 6, 7, 8, 1, 0] rfl ?_
              exact L54 _ x29 x30 v48 (Nat.lt_succ_self _)
        refine tw_lv [2, 3, 4, 5, 6, 1, 0] rfl ?_
        exact L34 _ x10 x11 v28 (Nat.lt_succ_self _)
  refine tw_lv [3, 4, 2, 1, 0] rfl ?_
  exact L15 _ (-1) 46 v9 (Nat.lt_succ_self _)

set_option maxHeartbeats 4000000 in
set_option maxRecDepth 100000 in
theorem c_X5_housesIn (d : tw_D) (g : tw_G) (τ : tw_K) (h : tw_H) (hw : tw_wt d g τ h) (x : Nat) (kx : τ x = 11) (c : Nat) (kc : τ c = 2) : tw_Ct d mX5_housesIn 0 0 [.ref x, .ref c] h (tw_qi (fun r h1 => h1 = h) tw_nx) := by
  refine tw_of (by decide +kernel) (Nat.le_of_ble_eq_true rfl) ?_
  show tw_W d mX5_housesIn _ 0 [(0, .ref x), (1, .ref c)] [] h 0 0
  have sp0 := tw_sp.rf hw
  refine tw_iconst (v := 0) dX5_housesIn_0 (by decide) ?_
  refine tw_istore_n [(2, .int 0), (0, .ref x), (1, .ref c)] dX5_housesIn_1 rfl (by decide) rfl ?_
  refine tw_aload_n 1 dX5_housesIn_2 rfl rfl ?_
  obtain ⟨e1, f2, td_3, ca_4, ha_5, da_6, c1_7, c2_8, c3_9, c4_10, rfl, k11, k12, k13, k14, k15, k16, k17, k18, k19, k20, k21⟩ := sp0.1 x 11 kx (by decide)
  refine tw_get (v := .ref ha_5) rfl in_9 4 dX5_housesIn_3 w_144 rfl (by decide) f2 rfl ?_
  refine tw_astore_n [(3, .ref ha_5), (2, .int 0), (0, .ref x), (1, .ref c)] dX5_housesIn_6 rfl (by decide) rfl ?_
  refine tw_aload_n 0 dX5_housesIn_7 rfl rfl ?_
  obtain ⟨e22, f23, F24, rfl, k25, pn26, pb27, px28⟩ := sp0.1 ha_5 9 k12 (by decide)
  refine tw_alen (v := nI 6) 5 rfl dX5_housesIn_8 f23 rfl ?_
  refine tw_istore [(4, .int (nI 6)), (3, .ref ha_5), (2, .int 0), (0, .ref x), (1, .ref c)] dX5_housesIn_9 (by decide) rfl ?_
  refine tw_iconst (v := 0) dX5_housesIn_11 (by decide) ?_
  refine tw_istore [(5, .int 0), (4, .int (nI 6)), (3, .ref ha_5), (2, .int 0), (0, .ref x), (1, .ref c)] dX5_housesIn_12 (by decide) rfl ?_
  have L33 : ∀ (r31 k30 : Nat) (x29 : Int32), 6 + 1 ≤ k30 + r31 → k30 ≤ 6 → tw_W d mX5_housesIn (tw_qi (fun r h1 => h1 = h) tw_nx) 14 [(0, .ref x), (1, .ref c), (2, .int x29), (3, .ref ha_5), (4, .int (nI 6)), (5, .int (nI k30))] [] h 0 0 := by
    intro r31
    induction r31 with
    | zero => intro k30 x29 hk37 hk38; exact absurd hk37 (by omega)
    | succ r31 ih32 =>
      intro k30 x29 hk37 hk38
      refine tw_iload 5 dX5_housesIn_14 rfl ?_
      refine tw_iload 4 dX5_housesIn_16 rfl ?_
      refine tw_icmp_ge 50 dX5_housesIn_18 (by decide) (fun c39 => ?_) (fun c39 => ?_)
      · refine tw_iload_n 2 dX5_housesIn_50 rfl rfl ?_
        exact tw_iret dX5_housesIn_51 rfl (Or.inl ⟨_, rfl, rfl⟩)
      · have kl40 := tw_klt (N := 6) c39 hk38 (by decide)
        refine tw_aload_n 3 dX5_housesIn_21 rfl rfl ?_
        refine tw_iload 5 dX5_housesIn_22 rfl ?_
        cases k41 : F24 ((nI k30)).toNatClampNeg with
        | none =>
          refine tw_aald (v := .null) 5 rfl rfl dX5_housesIn_24 f23 (vp_in_nI (by omega) (by decide)) (by rw [k41]; rfl) ?_
          refine tw_astoreN [(6, .null), (0, .ref x), (1, .ref c), (2, .int x29), (3, .ref ha_5), (4, .int (nI 6)), (5, .int (nI k30))] dX5_housesIn_25 (by decide) rfl ?_
          refine tw_aloadN 0 dX5_housesIn_27 rfl ?_
          refine tw_ifnullN 44 dX5_housesIn_29 (by decide) ?_
          obtain ⟨v43, ev43⟩ : ∃ y : Int32, y = (nI k30) + 1 := ⟨_, rfl⟩
          refine tw_iinc [(5, .int v43), (6, .null), (0, .ref x), (1, .ref c), (2, .int x29), (3, .ref ha_5), (4, .int (nI 6))] 6 dX5_housesIn_44 rfl (by rw [ev43]; rfl) (by decide) rfl ?_
          refine tw_goto 14 dX5_housesIn_47 (by decide) ?_
          have qv43 := tw_nI3 ev43
          rw [qv43]
          refine tw_lv [2, 3, 4, 5, 6, 0] rfl ?_
          exact ih32 (k30 + 1) x29 (by omega) (by omega)
        | some q42 =>
          have k44 := k25 _ _ k41
          refine tw_aald (v := .ref q42) 5 rfl rfl dX5_housesIn_24 f23 (vp_in_nI (by omega) (by decide)) (by rw [k41]; rfl) ?_
          refine tw_astore [(6, .ref q42), (0, .ref x), (1, .ref c), (2, .int x29), (3, .ref ha_5), (4, .int (nI 6)), (5, .int (nI k30))] dX5_housesIn_25 (by decide) rfl ?_
          refine tw_aload 0 dX5_housesIn_27 rfl ?_
          refine tw_ifnull dX5_housesIn_29 ?_
          refine tw_aload 0 dX5_housesIn_32 rfl ?_
          obtain ⟨e45, f46, n_47, ar_48, p_49, pl_50, go_51, rfl, k52, k53, k54⟩ := sp0.1 q42 3 k44 (by decide)
          refine tw_getN (v := va_rf pl_50) rfl in_6 2 dX5_housesIn_34 w_641 rfl (by decide) f46 rfl ?_
          refine tw_aload_n 2 dX5_housesIn_37 rfl rfl ?_
          refine tw_acmp_ne (rx := (pl_50)) (ry := (some c)) 44 dX5_housesIn_38 (by decide) (fun c55 => ?_) (fun c55 => ?_)
          · obtain ⟨v56, ev56⟩ : ∃ y : Int32, y = (nI k30) + 1 := ⟨_, rfl⟩
            refine tw_iinc [(5, .int v56), (6, .ref q42), (0, .ref x), (1, .ref c), (2, .int x29), (3, .ref ha_5), (4, .int (nI 6))] 6 dX5_housesIn_44 rfl (by rw [ev56]; rfl) (by decide) rfl ?_
            refine tw_goto 14 dX5_housesIn_47 (by decide) ?_
            have qv56 := tw_nI3 ev56
            rw [qv56]
            refine tw_lv [2, 3, 4, 5, 6, 0] rfl ?_
            exact ih32 (k30 + 1) x29 (by omega) (by omega)
          · obtain ⟨v57, ev57⟩ : ∃ y : Int32, y = x29 + 1 := ⟨_, rfl⟩
            refine tw_iinc [(2, .int v57), (6, .ref q42), (0, .ref x), (1, .ref c), (3, .ref ha_5), (4, .int (nI 6)), (5, .int (nI k30))] 3 dX5_housesIn_41 rfl (by rw [ev57]; rfl) (by decide) rfl ?_
            obtain ⟨v58, ev58⟩ : ∃ y : Int32, y = (nI k30) + 1 := ⟨_, rfl⟩
            refine tw_iinc [(5, .int v58), (2, .int v57), (6, .ref q42), (0, .ref x), (1, .ref c), (3, .ref ha_5), (4, .int (nI 6))] 6 dX5_housesIn_44 rfl (by rw [ev58]; rfl) (by decide) rfl ?_
            refine tw_goto 14 dX5_housesIn_47 (by decide) ?_
            have qv58 := tw_nI3 ev58
            rw [qv58]
            refine tw_lv [3, 4, 1, 5, 6, 0] rfl ?_
            exact ih32 (k30 + 1) v57 (by omega) (by omega)
  refine tw_lv [4, 5, 3, 2, 1, 0] rfl ?_
  exact L33 (6 + 1) 0 0 (by omega) (by omega)

set_option maxHeartbeats 4000000 in
set_option maxRecDepth 100000 in
theorem c_X5_countriesWithRate (d : tw_D) (g : tw_G) (τ : tw_K) (h : tw_H) (hw : tw_wt d g τ h) (x : Nat) (kx : τ x = 11) (rt : Int32) : tw_Ct d mX5_countriesWithRate 0 0 [.ref x, .int rt] h (tw_qi (fun r h1 => h1 = h) tw_nx) := by
  refine tw_of (by decide +kernel) (Nat.le_of_ble_eq_true rfl) ?_
  show tw_W d mX5_countriesWithRate _ 0 [(0, .ref x), (1, .int rt)] [] h 0 0
  have sp0 := tw_sp.rf hw
  refine tw_iconst (v := 0) dX5_countriesWithRate_0 (by decide) ?_
  refine tw_istore_n [(2, .int 0), (0, .ref x), (1, .int rt)] dX5_countriesWithRate_1 rfl (by decide) rfl ?_
  refine tw_aload_n 1 dX5_countriesWithRate_2 rfl rfl ?_
  obtain ⟨e1, f2, td_3, ca_4, ha_5, da_6, c1_7, c2_8, c3_9, c4_10, rfl, k11, k12, k13, k14, k15, k16, k17, k18, k19, k20, k21⟩ := sp0.1 x 11 kx (by decide)
  refine tw_get (v := .ref ca_4) rfl in_9 2 dX5_countriesWithRate_3 w_142 rfl (by decide) f2 rfl ?_
  refine tw_astore_n [(3, .ref ca_4), (2, .int 0), (0, .ref x), (1, .int rt)] dX5_countriesWithRate_6 rfl (by decide) rfl ?_
  refine tw_aload_n 0 dX5_countriesWithRate_7 rfl rfl ?_
  obtain ⟨e22, f23, F24, rfl, k25, pn26, pb27, px28⟩ := sp0.1 ca_4 8 k11 (by decide)
  refine tw_alen (v := nI 4) 4 rfl dX5_countriesWithRate_8 f23 rfl ?_
  refine tw_istore [(4, .int (nI 4)), (3, .ref ca_4), (2, .int 0), (0, .ref x), (1, .int rt)] dX5_countriesWithRate_9 (by decide) rfl ?_
  refine tw_iconst (v := 0) dX5_countriesWithRate_11 (by decide) ?_
  refine tw_istore [(5, .int 0), (4, .int (nI 4)), (3, .ref ca_4), (2, .int 0), (0, .ref x), (1, .int rt)] dX5_countriesWithRate_12 (by decide) rfl ?_
  have L33 : ∀ (r31 k30 : Nat) (x29 : Int32), 4 + 1 ≤ k30 + r31 → k30 ≤ 4 → tw_W d mX5_countriesWithRate (tw_qi (fun r h1 => h1 = h) tw_nx) 14 [(0, .ref x), (1, .int rt), (2, .int x29), (3, .ref ca_4), (4, .int (nI 4)), (5, .int (nI k30))] [] h 0 0 := by
    intro r31
    induction r31 with
    | zero => intro k30 x29 hk37 hk38; exact absurd hk37 (by omega)
    | succ r31 ih32 =>
      intro k30 x29 hk37 hk38
      refine tw_iload 5 dX5_countriesWithRate_14 rfl ?_
      refine tw_iload 4 dX5_countriesWithRate_16 rfl ?_
      refine tw_icmp_ge 50 dX5_countriesWithRate_18 (by decide) (fun c39 => ?_) (fun c39 => ?_)
      · refine tw_iload_n 2 dX5_countriesWithRate_50 rfl rfl ?_
        exact tw_iret dX5_countriesWithRate_51 rfl (Or.inl ⟨_, rfl, rfl⟩)
      · have kl40 := tw_klt (N := 4) c39 hk38 (by decide)
        refine tw_aload_n 3 dX5_countriesWithRate_21 rfl rfl ?_
        refine tw_iload 5 dX5_countriesWithRate_22 rfl ?_
        cases k41 : F24 ((nI k30)).toNatClampNeg with
        | none =>
          refine tw_aald (v := .null) 4 rfl rfl dX5_countriesWithRate_24 f23 (vp_in_nI (by omega) (by decide)) (by rw [k41]; rfl) ?_
          refine tw_astoreN [(6, .null), (0, .ref x), (1, .int rt), (2, .int x29), (3, .ref ca_4), (4, .int (nI 4)), (5, .int (nI k30))] dX5_countriesWithRate_25 (by decide) rfl ?_
          refine tw_aloadN 0 dX5_countriesWithRate_27 rfl ?_
          refine tw_ifnullN 44 dX5_countriesWithRate_29 (by decide) ?_
          obtain ⟨v43, ev43⟩ : ∃ y : Int32, y = (nI k30) + 1 := ⟨_, rfl⟩
          refine tw_iinc [(5, .int v43), (6, .null), (0, .ref x), (1, .int rt), (2, .int x29), (3, .ref ca_4), (4, .int (nI 4))] 6 dX5_countriesWithRate_44 rfl (by rw [ev43]; rfl) (by decide) rfl ?_
          refine tw_goto 14 dX5_countriesWithRate_47 (by decide) ?_
          have qv43 := tw_nI3 ev43
          rw [qv43]
          refine tw_lv [2, 3, 4, 5, 6, 0] rfl ?_
          exact ih32 (k30 + 1) x29 (by omega) (by omega)
        | some q42 =>
          have k44 := k25 _ _ k41
          refine tw_aald (v := .ref q42) 4 rfl rfl dX5_countriesWithRate_24 f23 (vp_in_nI (by omega) (by decide)) (by rw [k41]; rfl) ?_
          refine tw_astore [(6, .ref q42), (0, .ref x), (1, .int rt), (2, .int x29), (3, .ref ca_4), (4, .int (nI 4)), (5, .int (nI k30))] dX5_countriesWithRate_25 (by decide) rfl ?_
          refine tw_aload 0 dX5_countriesWithRate_27 rfl ?_
          refine tw_ifnull dX5_countriesWithRate_29 ?_
          refine tw_aload 0 dX5_countriesWithRate_32 rfl ?_
          obtain ⟨e45, f46, n_47, r_48, c_49, go_50, so_51, v_52, rd_53, rf_54, t_55, rfl, k56, k57, k58, k59, k60, k61, k62, k63⟩ := sp0.1 q42 2 k44 (by decide)
          refine tw_getN (v := .int r_48) rfl in_4 1 dX5_countriesWithRate_34 w_504 rfl (by decide) f46 rfl ?_
          refine tw_iload_n 2 dX5_countriesWithRate_37 rfl rfl ?_
          refine tw_icmp_ne 44 dX5_countriesWithRate_38 (by decide) (fun c64 => ?_) (fun c64 => ?_)
          · obtain ⟨v65, ev65⟩ : ∃ y : Int32, y = (nI k30) + 1 := ⟨_, rfl⟩
            refine tw_iinc [(5, .int v65), (6, .ref q42), (0, .ref x), (1, .int rt), (2, .int x29), (3, .ref ca_4), (4, .int (nI 4))] 6 dX5_countriesWithRate_44 rfl (by rw [ev65]; rfl) (by decide) rfl ?_
            refine tw_goto 14 dX5_countriesWithRate_47 (by decide) ?_
            have qv65 := tw_nI3 ev65
            rw [qv65]
            refine tw_lv [2, 3, 4, 5, 6, 0] rfl ?_
            exact ih32 (k30 + 1) x29 (by omega) (by omega)
          · obtain ⟨v66, ev66⟩ : ∃ y : Int32, y = x29 + 1 := ⟨_, rfl⟩
            refine tw_iinc [(2, .int v66), (6, .ref q42), (0, .ref x), (1, .int rt), (3, .ref ca_4), (4, .int (nI 4)), (5, .int (nI k30))] 3 dX5_countriesWithRate_41 rfl (by rw [ev66]; rfl) (by decide) rfl ?_
            obtain ⟨v67, ev67⟩ : ∃ y : Int32, y = (nI k30) + 1 := ⟨_, rfl⟩
            refine tw_iinc [(5, .int v67), (2, .int v66), (6, .ref q42), (0, .ref x), (1, .int rt), (3, .ref ca_4), (4, .int (nI 4))] 6 dX5_countriesWithRate_44 rfl (by rw [ev67]; rfl) (by decide) rfl ?_
            refine tw_goto 14 dX5_countriesWithRate_47 (by decide) ?_
            have qv67 := tw_nI3 ev67
            rw [qv67]
            refine tw_lv [3, 4, 1, 5, 6, 0] rfl ?_
            exact ih32 (k30 + 1) v66 (by omega) (by omega)
  refine tw_lv [4, 5, 3, 2, 1, 0] rfl ?_
  exact L33 (4 + 1) 0 0 (by omega) (by omega)

set_option maxHeartbeats 4000000 in
set_option maxRecDepth 100000 in
theorem c_X5_countryFact (d : tw_D) (g : tw_G) (τ : tw_K) (h : tw_H) (hw : tw_wt d g τ h) (x : Nat) (kx : τ x = 11) (c : Nat) (kc : τ c = 2) (w : Int32) : tw_Ct d mX5_countryFact 0 0 [.ref x, .ref c, .int w] h (tw_qi (fun r h1 => h1 = h) tw_nx) := by
  refine tw_of (by decide +kernel) (Nat.le_of_ble_eq_true rfl) ?_
  show tw_W d mX5_countryFact _ 0 [(0, .ref x), (1, .ref c), (2, .int w)] [] h 0 0
  have sp0 := tw_sp.rf hw
  refine tw_iload_n 2 dX5_countryFact_0 rfl rfl ?_
  by_cases cs0 : (w).toInt < 0 ∨ 7 < (w).toInt
  · refine tw_tabOut 105 dX5_countryFact_1 cs0 (by decide) ?_
    refine tw_aload_n 0 dX5_countryFact_105 rfl rfl ?_
    refine tw_aload_n 1 dX5_countryFact_106 rfl rfl ?_
    obtain ⟨e1, f2, n_3, r_4, c_5, go_6, so_7, v_8, rd_9, rf_10, t_11, rfl, k12, k13, k14, k15, k16, k17, k18, k19⟩ := sp0.1 c 2 kc (by decide)
    refine tw_getN (v := .int r_4) rfl in_4 1 dX5_countryFact_107 w_504 rfl (by decide) f2 rfl ?_
    obtain ⟨e20, f21, td_22, ca_23, ha_24, da_25, c1_26, c2_27, c3_28, c4_29, rfl, k30, k31, k32, k33, k34, k35, k36, k37, k38, k39, k40⟩ := sp0.1 x 11 kx (by decide)
    refine tw_bi (tw_callV (M := mX5_countryFact) (pc := 110) okX5_countriesWithRate dX5_countryFact_110 w_281 rfl f21 [.int r_4] [] rfl rfl ⟨by decide, by decide⟩ (Nat.le_of_ble_eq_true rfl) (c_X5_countriesWithRate d g τ h sp0.1 x kx r_4) 0 0 (Nat.le_of_ble_eq_true rfl) (Nat.le_of_ble_eq_true rfl)) (fun r43 h42 q41 => ?_) (fun E h1 q => q.elim)
    rw [q41]
    exact tw_iret dX5_countryFact_113 rfl (Or.inl ⟨_, rfl, rfl⟩)
  · have csl : ¬ (w).toInt < 0 := fun q => cs0 (Or.inl q)
    have csh : ¬ 7 < (w).toInt := fun q => cs0 (Or.inr q)
    rcases (show (w).toInt = 0 ∨ (w).toInt = 1 ∨ (w).toInt = 2 ∨ (w).toInt = 3 ∨ (w).toInt = 4 ∨ (w).toInt = 5 ∨ (w).toInt = 6 ∨ (w).toInt = 7 by omega) with cs1 | cs1 | cs1 | cs1 | cs1 | cs1 | cs1 | cs1
    · refine tw_tabIn (off := 47) 48 dX5_countryFact_1 csl csh (by rw [cs1]; rfl) (by decide) ?_
      refine tw_aload_n 1 dX5_countryFact_48 rfl rfl ?_
      obtain ⟨e44, f45, n_46, r_47, c_48, go_49, so_50, v_51, rd_52, rf_53, t_54, rfl, k55, k56, k57, k58, k59, k60, k61, k62⟩ := sp0.1 c 2 kc (by decide)
      refine tw_getN (v := .int r_47) rfl in_4 1 dX5_countryFact_49 w_504 rfl (by decide) f45 rfl ?_
      exact tw_iret dX5_countryFact_52 rfl (Or.inl ⟨_, rfl, rfl⟩)
    · refine tw_tabIn (off := 52) 53 dX5_countryFact_1 csl csh (by rw [cs1]; rfl) (by decide) ?_
      refine tw_aload_n 1 dX5_countryFact_53 rfl rfl ?_
      obtain ⟨e63, f64, n_65, r_66, c_67, go_68, so_69, v_70, rd_71, rf_72, t_73, rfl, k74, k75, k76, k77, k78, k79, k80, k81⟩ := sp0.1 c 2 kc (by decide)
      refine tw_getN (v := .int c_67) rfl in_4 2 dX5_countryFact_54 w_506 rfl (by decide) f64 rfl ?_
      exact tw_iret dX5_countryFact_57 rfl (Or.inl ⟨_, rfl, rfl⟩)
    · refine tw_tabIn (off := 57) 58 dX5_countryFact_1 csl csh (by rw [cs1]; rfl) (by decide) ?_
      refine tw_aload_n 1 dX5_countryFact_58 rfl rfl ?_
      obtain ⟨e82, f83, n_84, r_85, c_86, go_87, so_88, v_89, rd_90, rf_91, t_92, rfl, k93, k94, k95, k96, k97, k98, k99, k100⟩ := sp0.1 c 2 kc (by decide)
      refine tw_getN (v := .ref v_89) rfl in_4 3 dX5_countryFact_59 w_508 rfl (by decide) f83 rfl ?_
      obtain ⟨e101, f102, a_103, b_104, rfl⟩ := sp0.1 v_89 1 k93 (by decide)
      refine tw_getN (v := .int a_103) rfl in_7 0 dX5_countryFact_62 w_132 rfl (by decide) f102 rfl ?_
      exact tw_iret dX5_countryFact_65 rfl (Or.inl ⟨_, rfl, rfl⟩)
    · refine tw_tabIn (off := 65) 66 dX5_countryFact_1 csl csh (by rw [cs1]; rfl) (by decide) ?_
      refine tw_aload_n 1 dX5_countryFact_66 rfl rfl ?_
      obtain ⟨e105, f106, n_107, r_108, c_109, go_110, so_111, v_112, rd_113, rf_114, t_115, rfl, k116, k117, k118, k119, k120, k121, k122, k123⟩ := sp0.1 c 2 kc (by decide)
      refine tw_getN (v := .ref v_112) rfl in_4 3 dX5_countryFact_67 w_508 rfl (by decide) f106 rfl ?_
      obtain ⟨e124, f125, a_126, b_127, rfl⟩ := sp0.1 v_112 1 k116 (by decide)
      refine tw_getN (v := .int b_127) rfl in_7 1 dX5_countryFact_70 w_134 rfl (by decide) f125 rfl ?_
      exact tw_iret dX5_countryFact_73 rfl (Or.inl ⟨_, rfl, rfl⟩)
    · refine tw_tabIn (off := 73) 74 dX5_countryFact_1 csl csh (by rw [cs1]; rfl) (by decide) ?_
      refine tw_aload_n 1 dX5_countryFact_74 rfl rfl ?_
      obtain ⟨e128, f129, n_130, r_131, c_132, go_133, so_134, v_135, rd_136, rf_137, t_138, rfl, k139, k140, k141, k142, k143, k144, k145, k146⟩ := sp0.1 c 2 kc (by decide)
      refine tw_bi (tw_callVN (M := mX5_countryFact) (pc := 75) okX0_openSet dX5_countryFact_75 w_257 rfl f129 [] [] rfl rfl ⟨by decide, by decide⟩ (Nat.le_of_ble_eq_true rfl) (c_X0_openSet d g τ h sp0.1 c kc) 0 0 (Nat.le_of_ble_eq_true rfl) (Nat.le_of_ble_eq_true rfl)) (fun r149 h148 q147 => ?_) (fun E h1 q => q.elim)
      rw [q147]
      exact tw_iret dX5_countryFact_78 rfl (Or.inl ⟨_, rfl, rfl⟩)
    · refine tw_tabIn (off := 78) 79 dX5_countryFact_1 csl csh (by rw [cs1]; rfl) (by decide) ?_
      refine tw_aload_n 0 dX5_countryFact_79 rfl rfl ?_
      refine tw_aload_n 1 dX5_countryFact_80 rfl rfl ?_
      obtain ⟨e150, f151, td_152, ca_153, ha_154, da_155, c1_156, c2_157, c3_158, c4_159, rfl, k160, k161, k162, k163, k164, k165, k166, k167, k168, k169, k170⟩ := sp0.1 x 11 kx (by decide)
      refine tw_bi (tw_callV (M := mX5_countryFact) (pc := 81) okX5_housesIn dX5_countryFact_81 w_261 rfl f151 [.ref c] [] rfl rfl ⟨by decide, by decide⟩ (Nat.le_of_ble_eq_true rfl) (c_X5_housesIn d g τ h sp0.1 x kx c kc) 0 0 (Nat.le_of_ble_eq_true rfl) (Nat.le_of_ble_eq_true rfl)) (fun r173 h172 q171 => ?_) (fun E h1 q => q.elim)
      rw [q171]
      exact tw_iret dX5_countryFact_84 rfl (Or.inl ⟨_, rfl, rfl⟩)
    · refine tw_tabIn (off := 84) 85 dX5_countryFact_1 csl csh (by rw [cs1]; rfl) (by decide) ?_
      refine tw_aload_n 1 dX5_countryFact_85 rfl rfl ?_
      obtain ⟨e174, f175, n_176, r_177, c_178, go_179, so_180, v_181, rd_182, rf_183, t_184, rfl, k185, k186, k187, k188, k189, k190, k191, k192⟩ := sp0.1 c 2 kc (by decide)
      refine tw_getN (v := .ref v_181) rfl in_4 3 dX5_countryFact_86 w_508 rfl (by decide) f175 rfl ?_
      refine tw_aload_n 0 dX5_countryFact_89 rfl rfl ?_
      obtain ⟨e193, f194, td_195, ca_196, ha_197, da_198, c1_199, c2_200, c3_201, c4_202, rfl, k203, k204, k205, k206, k207, k208, k209, k210, k211, k212, k213⟩ := sp0.1 x 11 kx (by decide)
      refine tw_get (v := .int (g.1 0)) rfl in_9 1 dX5_countryFact_90 w_141 rfl (by decide) f194 rfl ?_
      obtain ⟨e214, f215, a_216, b_217, rfl⟩ := sp0.1 v_181 1 k185 (by decide)
      refine tw_bi (tw_callVN (M := mX5_countryFact) (pc := 93) okX3_worth dX5_countryFact_93 w_265 rfl f215 [.int (g.1 0)] [] rfl rfl ⟨by decide, by decide⟩ (Nat.le_of_ble_eq_true rfl) (c_X3_worth d g τ h sp0.1 v_181 k185 (g.1 0)) 0 0 (Nat.le_of_ble_eq_true rfl) (Nat.le_of_ble_eq_true rfl)) (fun r220 h219 q218 => ?_) (fun E h1 q => q.elim)
      rw [q218]
      exact tw_iret dX5_countryFact_96 rfl (Or.inl ⟨_, rfl, rfl⟩)
    · refine tw_tabIn (off := 96) 97 dX5_countryFact_1 csl csh (by rw [cs1]; rfl) (by decide) ?_
      refine tw_aload_n 1 dX5_countryFact_97 rfl rfl ?_
      obtain ⟨e221, f222, n_223, r_224, c_225, go_226, so_227, v_228, rd_229, rf_230, t_231, rfl, k232, k233, k234, k235, k236, k237, k238, k239⟩ := sp0.1 c 2 kc (by decide)
      refine tw_getN (v := .ref t_231) rfl in_4 8 dX5_countryFact_98 w_514 rfl (by decide) f222 rfl ?_
      obtain ⟨e240, f241, m_242, rfl, k243⟩ := sp0.1 t_231 5 k235 (by decide)
      refine tw_bi (tw_callVN (M := mX5_countryFact) (pc := 101) okX4_pounds dX5_countryFact_101 w_273 rfl f241 [] [] rfl rfl ⟨by decide, by decide⟩ (Nat.le_of_ble_eq_true rfl) (c_X4_pounds d g τ h sp0.1 t_231 k235) 0 0 (Nat.le_of_ble_eq_true rfl) (Nat.le_of_ble_eq_true rfl)) (fun r246 h245 q244 => ?_) (fun E h1 q => q.elim)
      rw [q244]
      exact tw_iret dX5_countryFact_104 rfl (Or.inl ⟨_, rfl, rfl⟩)

set_option maxHeartbeats 4000000 in
set_option maxRecDepth 100000 in
theorem c_X5_ofCountry (d : tw_D) (g : tw_G) (τ : tw_K) (h : tw_H) (hw : tw_wt d g τ h) (x : Nat) (kx : τ x = 11) (n : Int32) (w : Int32) : tw_Ct d mX5_ofCountry 20 120 [.ref x, .int n, .int w] h (tw_qi (fun r h1 => h1 = h) (fun E h1 => (E = tw_IOE ∨ E = tw_IAE) ∧ h1 = h)) := by
  refine tw_of (by decide +kernel) (Nat.le_of_ble_eq_true rfl) ?_
  show tw_W d mX5_ofCountry _ 0 [(0, .ref x), (1, .int n), (2, .int w)] [] h 20 120
  have sp0 := tw_sp.rf hw
  refine tw_aload_n 0 dX5_ofCountry_0 rfl rfl ?_
  refine tw_iload_n 1 dX5_ofCountry_1 rfl rfl ?_
  obtain ⟨e1, f2, td_3, ca_4, ha_5, da_6, c1_7, c2_8, c3_9, c4_10, rfl, k11, k12, k13, k14, k15, k16, k17, k18, k19, k20, k21⟩ := sp0.1 x 11 kx (by decide)
  refine tw_br (tw_callV (M := mX5_ofCountry) (pc := 2) okX5_countryAt dX5_ofCountry_2 w_546 rfl f2 [.int n] [] rfl rfl ⟨by decide, by decide⟩ (Nat.le_of_ble_eq_true rfl) (c_X5_countryAt d g τ h sp0.1 x kx n) 19 114 (Nat.le_of_ble_eq_true rfl) (Nat.le_of_ble_eq_true rfl)) (fun r24 h23 q22 => ?_) (fun E h1 q => Or.inr ⟨E, rfl, (Or.inl q.1), q.2⟩)
  obtain ⟨q22e, p25⟩ := q22
  rw [q22e]
  refine tw_astore_n [(3, .ref r24), (0, .ref x), (1, .int n), (2, .int w)] dX5_ofCountry_5 rfl (by decide) rfl ?_
  refine tw_iload_n 3 dX5_ofCountry_6 rfl rfl ?_
  refine tw_iconst (v := 0) dX5_ofCountry_7 (by decide) ?_
  refine tw_bipush (v := 8) dX5_ofCountry_8 (by decide) ?_
  refine tw_bv (tw_callS (M := mX5_ofCountry) (pc := 10) okX5_needRange dX5_ofCountry_10 w_399 [.int w, .int 0, .int 8] [] rfl rfl ⟨by decide, by decide⟩ (Nat.le_of_ble_eq_true rfl) (c_X5_needRange d g τ h sp0.1 w 0 8) 18 108 (Nat.le_of_ble_eq_true rfl) (Nat.le_of_ble_eq_true rfl)) (fun h27 q26 => ?_) (fun E h1 q => Or.inr ⟨E, rfl, (Or.inr (q.1)), q.2⟩)
  obtain ⟨q26e, p29⟩ := q26
  rw [q26e]
  refine tw_aload_n 1 dX5_ofCountry_13 rfl rfl ?_
  refine tw_aload_n 0 dX5_ofCountry_14 rfl rfl ?_
  refine tw_iload_n 3 dX5_ofCountry_15 rfl rfl ?_
  refine tw_bi (tw_callV (M := mX5_ofCountry) (pc := 16) okX5_countryFact dX5_ofCountry_16 w_253 rfl f2 [.ref r24, .int w] [] rfl rfl ⟨by decide, by decide⟩ (Nat.le_of_ble_eq_true rfl) (c_X5_countryFact d g τ h sp0.1 x kx r24 p25 w) 18 108 (Nat.le_of_ble_eq_true rfl) (Nat.le_of_ble_eq_true rfl)) (fun r32 h31 q30 => ?_) (fun E h1 q => q.elim)
  rw [q30]
  exact tw_iret dX5_ofCountry_19 rfl (Or.inl ⟨_, rfl, rfl⟩)

set_option maxHeartbeats 4000000 in
set_option maxRecDepth 100000 in
theorem c_X5_unpaidDebtsOf (d : tw_D) (g : tw_G) (τ : tw_K) (h : tw_H) (hw : tw_wt d g τ h) (x : Nat) (kx : τ x = 11) (c : Nat) (kc : τ c = 3) : tw_Ct d mX5_unpaidDebtsOf 0 0 [.ref x, .ref c] h (tw_qi (fun r h1 => h1 = h) tw_nx) := by
  refine tw_of (by decide +kernel) (Nat.le_of_ble_eq_true rfl) ?_
  show tw_W d mX5_unpaidDebtsOf _ 0 [(0, .ref x), (1, .ref c)] [] h 0 0
  have sp0 := tw_sp.rf hw
  refine tw_iconst (v := 0) dX5_unpaidDebtsOf_0 (by decide) ?_
  refine tw_istore_n [(2, .int 0), (0, .ref x), (1, .ref c)] dX5_unpaidDebtsOf_1 rfl (by decide) rfl ?_
  refine tw_aload_n 1 dX5_unpaidDebtsOf_2 rfl rfl ?_
  obtain ⟨e1, f2, td_3, ca_4, ha_5, da_6, c1_7, c2_8, c3_9, c4_10, rfl, k11, k12, k13, k14, k15, k16, k17, k18, k19, k20, k21⟩ := sp0.1 x 11 kx (by decide)
  refine tw_get (v := .ref da_6) rfl in_9 6 dX5_unpaidDebtsOf_3 w_146 rfl (by decide) f2 rfl ?_
  refine tw_astore_n [(3, .ref da_6), (2, .int 0), (0, .ref x), (1, .ref c)] dX5_unpaidDebtsOf_6 rfl (by decide) rfl ?_
  refine tw_aload_n 0 dX5_unpaidDebtsOf_7 rfl rfl ?_
  obtain ⟨e22, f23, F24, rfl, k25, pn26, pb27, px28⟩ := sp0.1 da_6 10 k13 (by decide)
  refine tw_alen (v := nI 10) 6 rfl dX5_unpaidDebtsOf_8 f23 rfl ?_
  refine tw_istore [(4, .int (nI 10)), (3, .ref da_6), (2, .int 0), (0, .ref x), (1, .ref c)] dX5_unpaidDebtsOf_9 (by decide) rfl ?_
  refine tw_iconst (v := 0) dX5_unpaidDebtsOf_11 (by decide) ?_
  refine tw_istore [(5, .int 0), (4, .int (nI 10)), (3, .ref da_6), (2, .int 0), (0, .ref x), (1, .ref c)] dX5_unpaidDebtsOf_12 (by decide) rfl ?_
  have L33 : ∀ (r31 k30 : Nat) (x29 : Int32), 10 + 1 ≤ k30 + r31 → k30 ≤ 10 → tw_W d mX5_unpaidDebtsOf (tw_qi (fun r h1 => h1 = h) tw_nx) 14 [(0, .ref x), (1, .ref c), (2, .int x29), (3, .ref da_6), (4, .int (nI 10)), (5, .int (nI k30))] [] h 0 0 := by
    intro r31
    induction r31 with
    | zero => intro k30 x29 hk37 hk38; exact absurd hk37 (by omega)
    | succ r31 ih32 =>
      intro k30 x29 hk37 hk38
      refine tw_iload 5 dX5_unpaidDebtsOf_14 rfl ?_
      refine tw_iload 4 dX5_unpaidDebtsOf_16 rfl ?_
      refine tw_icmp_ge 58 dX5_unpaidDebtsOf_18 (by decide) (fun c39 => ?_) (fun c39 => ?_)
      · refine tw_iload_n 2 dX5_unpaidDebtsOf_58 rfl rfl ?_
        exact tw_iret dX5_unpaidDebtsOf_59 rfl (Or.inl ⟨_, rfl, rfl⟩)
      · have kl40 := tw_klt (N := 10) c39 hk38 (by decide)
        refine tw_aload_n 3 dX5_unpaidDebtsOf_21 rfl rfl ?_
        refine tw_iload 5 dX5_unpaidDebtsOf_22 rfl ?_
        cases k41 : F24 ((nI k30)).toNatClampNeg with
        | none =>
          refine tw_aald (v := .null) 6 rfl rfl dX5_unpaidDebtsOf_24 f23 (vp_in_nI (by omega) (by decide)) (by rw [k41]; rfl) ?_
          refine tw_astoreN [(6, .null), (0, .ref x), (1, .ref c), (2, .int x29), (3, .ref da_6), (4, .int (nI 10)), (5, .int (nI k30))] dX5_unpaidDebtsOf_25 (by decide) rfl ?_
          refine tw_aloadN 0 dX5_unpaidDebtsOf_27 rfl ?_
          refine tw_ifnullN 52 dX5_unpaidDebtsOf_29 (by decide) ?_
          obtain ⟨v43, ev43⟩ : ∃ y : Int32, y = (nI k30) + 1 := ⟨_, rfl⟩
          refine tw_iinc [(5, .int v43), (6, .null), (0, .ref x), (1, .ref c), (2, .int x29), (3, .ref da_6), (4, .int (nI 10))] 6 dX5_unpaidDebtsOf_52 rfl (by rw [ev43]; rfl) (by decide) rfl ?_
          refine tw_goto 14 dX5_unpaidDebtsOf_55 (by decide) ?_
          have qv43 := tw_nI3 ev43
          rw [qv43]
          refine tw_lv [2, 3, 4, 5, 6, 0] rfl ?_
          exact ih32 (k30 + 1) x29 (by omega) (by omega)
        | some q42 =>
          have k44 := k25 _ _ k41
          refine tw_aald (v := .ref q42) 6 rfl rfl dX5_unpaidDebtsOf_24 f23 (vp_in_nI (by omega) (by decide)) (by rw [k41]; rfl) ?_
          refine tw_astore [(6, .ref q42), (0, .ref x), (1, .ref c), (2, .int x29), (3, .ref da_6), (4, .int (nI 10)), (5, .int (nI k30))] dX5_unpaidDebtsOf_25 (by decide) rfl ?_
          refine tw_aload 0 dX5_unpaidDebtsOf_27 rfl ?_
          refine tw_ifnull dX5_unpaidDebtsOf_29 ?_
          refine tw_aload 0 dX5_unpaidDebtsOf_32 rfl ?_
          obtain ⟨e45, f46, v_47, dy_48, pd_49, a_50, b_51, rfl, k52, k53, k54⟩ := sp0.1 q42 4 k44 (by decide)
          refine tw_getN (v := .int pd_49) rfl in_5 4 dX5_unpaidDebtsOf_34 w_728 rfl (by decide) f46 rfl ?_
          refine tw_if_ne 52 dX5_unpaidDebtsOf_37 (by decide) (fun c55 => ?_) (fun c55 => ?_)
          · obtain ⟨v56, ev56⟩ : ∃ y : Int32, y = (nI k30) + 1 := ⟨_, rfl⟩
            refine tw_iinc [(5, .int v56), (6, .ref q42), (0, .ref x), (1, .ref c), (2, .int x29), (3, .ref da_6), (4, .int (nI 10))] 6 dX5_unpaidDebtsOf_52 rfl (by rw [ev56]; rfl) (by decide) rfl ?_
            refine tw_goto 14 dX5_unpaidDebtsOf_55 (by decide) ?_
            have qv56 := tw_nI3 ev56
            rw [qv56]
            refine tw_lv [2, 3, 4, 5, 6, 0] rfl ?_
            exact ih32 (k30 + 1) x29 (by omega) (by omega)
          · refine tw_aload 0 dX5_unpaidDebtsOf_40 rfl ?_
            refine tw_getN (v := .ref a_50) rfl in_5 0 dX5_unpaidDebtsOf_42 w_720 rfl (by decide) f46 rfl ?_
            refine tw_aload_n 2 dX5_unpaidDebtsOf_45 rfl rfl ?_
            refine tw_acmp_ne (rx := (some a_50)) (ry := (some c)) 52 dX5_unpaidDebtsOf_46 (by decide) (fun c57 => ?_) (fun c57 => ?_)
            · obtain ⟨v58, ev58⟩ : ∃ y : Int32, y = (nI k30) + 1 := ⟨_, rfl⟩
              refine tw_iinc [(5, .int v58), (6, .ref q42), (0, .ref x), (1, .ref c), (2, .int x29), (3, .ref da_6), (4, .int (nI 10))] 6 dX5_unpaidDebtsOf_52 rfl (by rw [ev58]; rfl) (by decide) rfl ?_
              refine tw_goto 14 dX5_unpaidDebtsOf_55 (by decide) ?_
              have qv58 := tw_nI3 ev58
              rw [qv58]
              refine tw_lv [2, 3, 4, 5, 6, 0] rfl ?_
              exact ih32 (k30 + 1) x29 (by omega) (by omega)
            · obtain ⟨v59, ev59⟩ : ∃ y : Int32, y = x29 + 1 := ⟨_, rfl⟩
              refine tw_iinc [(2, .int v59), (6, .ref q42), (0, .ref x), (1, .ref c), (3, .ref da_6), (4, .int (nI 10)), (5, .int (nI k30))] 3 dX5_unpaidDebtsOf_49 rfl (by rw [ev59]; rfl) (by decide) rfl ?_
              obtain ⟨v60, ev60⟩ : ∃ y : Int32, y = (nI k30) + 1 := ⟨_, rfl⟩
              refine tw_iinc [(5, .int v60), (2, .int v59), (6, .ref q42), (0, .ref x), (1, .ref c), (3, .ref da_6), (4, .int (nI 10))] 6 dX5_unpaidDebtsOf_52 rfl (by rw [ev60]; rfl) (by decide) rfl ?_
              refine tw_goto 14 dX5_unpaidDebtsOf_55 (by decide) ?_
              have qv60 := tw_nI3 ev60
              rw [qv60]
              refine tw_lv [3, 4, 1, 5, 6, 0] rfl ?_
              exact ih32 (k30 + 1) v59 (by omega) (by omega)
  refine tw_lv [4, 5, 3, 2, 1, 0] rfl ?_
  exact L33 (10 + 1) 0 0 (by omega) (by omega)

set_option maxHeartbeats 4000000 in
set_option maxRecDepth 100000 in
theorem c_X5_unpaidDebtsTo (d : tw_D) (g : tw_G) (τ : tw_K) (h : tw_H) (hw : tw_wt d g τ h) (x : Nat) (kx : τ x = 11) (c : Nat) (kc : τ c = 3) : tw_Ct d mX5_unpaidDebtsTo 0 0 [.ref x, .ref c] h (tw_qi (fun r h1 => h1 = h) tw_nx) := by
  refine tw_of (by decide +kernel) (Nat.le_of_ble_eq_true rfl) ?_
  show tw_W d mX5_unpaidDebtsTo _ 0 [(0, .ref x), (1, .ref c)] [] h 0 0
  have sp0 := tw_sp.rf hw
  refine tw_iconst (v := 0) dX5_unpaidDebtsTo_0 (by decide) ?_
  refine tw_istore_n [(2, .int 0), (0, .ref x), (1, .ref c)] dX5_unpaidDebtsTo_1 rfl (by decide) rfl ?_
  refine tw_aload_n 1 dX5_unpaidDebtsTo_2 rfl rfl ?_
  obtain ⟨e1, f2, td_3, ca_4, ha_5, da_6, c1_7, c2_8, c3_9, c4_10, rfl, k11, k12, k13, k14, k15, k16, k17, k18, k19, k20, k21⟩ := sp0.1 x 11 kx (by decide)
  refine tw_get (v := .ref da_6) rfl in_9 6 dX5_unpaidDebtsTo_3 w_146 rfl (by decide) f2 rfl ?_
  refine tw_astore_n [(3, .ref da_6), (2, .int 0), (0, .ref x), (1, .ref c)] dX5_unpaidDebtsTo_6 rfl (by decide) rfl ?_
  refine tw_aload_n 0 dX5_unpaidDebtsTo_7 rfl rfl ?_
  obtain ⟨e22, f23, F24, rfl, k25, pn26, pb27, px28⟩ := sp0.1 da_6 10 k13 (by decide)
  refine tw_alen (v := nI 10) 6 rfl dX5_unpaidDebtsTo_8 f23 rfl ?_
  refine tw_istore [(4, .int (nI 10)), (3, .ref da_6), (2, .int 0), (0, .ref x), (1, .ref c)] dX5_unpaidDebtsTo_9 (by decide) rfl ?_
  refine tw_iconst (v := 0) dX5_unpaidDebtsTo_11 (by decide) ?_
  refine tw_istore [(5, .int 0), (4, .int (nI 10)), (3, .ref da_6), (2, .int 0), (0, .ref x), (1, .ref c)] dX5_unpaidDebtsTo_12 (by decide) rfl ?_
  have L33 : ∀ (r31 k30 : Nat) (x29 : Int32), 10 + 1 ≤ k30 + r31 → k30 ≤ 10 → tw_W d mX5_unpaidDebtsTo (tw_qi (fun r h1 => h1 = h) tw_nx) 14 [(0, .ref x), (1, .ref c), (2, .int x29), (3, .ref da_6), (4, .int (nI 10)), (5, .int (nI k30))] [] h 0 0 := by
    intro r31
    induction r31 with
    | zero => intro k30 x29 hk37 hk38; exact absurd hk37 (by omega)
    | succ r31 ih32 =>
      intro k30 x29 hk37 hk38
      refine tw_iload 5 dX5_unpaidDebtsTo_14 rfl ?_
      refine tw_iload 4 dX5_unpaidDebtsTo_16 rfl ?_
      refine tw_icmp_ge 58 dX5_unpaidDebtsTo_18 (by decide) (fun c39 => ?_) (fun c39 => ?_)
      · refine tw_iload_n 2 dX5_unpaidDebtsTo_58 rfl rfl ?_
        exact tw_iret dX5_unpaidDebtsTo_59 rfl (Or.inl ⟨_, rfl, rfl⟩)
      · have kl40 := tw_klt (N := 10) c39 hk38 (by decide)
        refine tw_aload_n 3 dX5_unpaidDebtsTo_21 rfl rfl ?_
        refine tw_iload 5 dX5_unpaidDebtsTo_22 rfl ?_
        cases k41 : F24 ((nI k30)).toNatClampNeg with
        | none =>
          refine tw_aald (v := .null) 6 rfl rfl dX5_unpaidDebtsTo_24 f23 (vp_in_nI (by omega) (by decide)) (by rw [k41]; rfl) ?_
          refine tw_astoreN [(6, .null), (0, .ref x), (1, .ref c), (2, .int x29), (3, .ref da_6), (4, .int (nI 10)), (5, .int (nI k30))] dX5_unpaidDebtsTo_25 (by decide) rfl ?_
          refine tw_aloadN 0 dX5_unpaidDebtsTo_27 rfl ?_
          refine tw_ifnullN 52 dX5_unpaidDebtsTo_29 (by decide) ?_
          obtain ⟨v43, ev43⟩ : ∃ y : Int32, y = (nI k30) + 1 := ⟨_, rfl⟩
          refine tw_iinc [(5, .int v43), (6, .null), (0, .ref x), (1, .ref c), (2, .int x29), (3, .ref da_6), (4, .int (nI 10))] 6 dX5_unpaidDebtsTo_52 rfl (by rw [ev43]; rfl) (by decide) rfl ?_
          refine tw_goto 14 dX5_unpaidDebtsTo_55 (by decide) ?_
          have qv43 := tw_nI3 ev43
          rw [qv43]
          refine tw_lv [2, 3, 4, 5, 6, 0] rfl ?_
          exact ih32 (k30 + 1) x29 (by omega) (by omega)
        | some q42 =>
          have k44 := k25 _ _ k41
          refine tw_aald (v := .ref q42) 6 rfl rfl dX5_unpaidDebtsTo_24 f23 (vp_in_nI (by omega) (by decide)) (by rw [k41]; rfl) ?_
          refine tw_astore [(6, .ref q42), (0, .ref x), (1, .ref c), (2, .int x29), (3, .ref da_6), (4, .int (nI 10)), (5, .int (nI k30))] dX5_unpaidDebtsTo_25 (by decide) rfl ?_
          refine tw_aload 0 dX5_unpaidDebtsTo_27 rfl ?_
          refine tw_ifnull dX5_unpaidDebtsTo_29 ?_
          refine tw_aload 0 dX5_unpaidDebtsTo_32 rfl ?_
          obtain ⟨e45, f46, v_47, dy_48, pd_49, a_50, b_51, rfl, k52, k53, k54⟩ := sp0.1 q42 4 k44 (by decide)
          refine tw_getN (v := .int pd_49) rfl in_5 4 dX5_unpaidDebtsTo_34 w_728 rfl (by decide) f46 rfl ?_
          refine tw_if_ne 52 dX5_unpaidDebtsTo_37 (by decide) (fun c55 => ?_) (fun c55 => ?_)
          · obtain ⟨v56, ev56⟩ : ∃ y : Int32, y = (nI k30) + 1 := ⟨_, rfl⟩
            refine tw_iinc [(5, .int v56), (6, .ref q42), (0, .ref x), (1, .ref c), (2, .int x29), (3, .ref da_6), (4, .int (nI 10))] 6 dX5_unpaidDebtsTo_52 rfl (by rw [ev56]; rfl) (by decide) rfl ?_
            refine tw_goto 14 dX5_unpaidDebtsTo_55 (by decide) ?_
            have qv56 := tw_nI3 ev56
            rw [qv56]
            refine tw_lv [2, 3, 4, 5, 6, 0] rfl ?_
            exact ih32 (k30 + 1) x29 (by omega) (by omega)
          · refine tw_aload 0 dX5_unpaidDebtsTo_40 rfl ?_
            refine tw_getN (v := .ref b_51) rfl in_5 1 dX5_unpaidDebtsTo_42 w_722 rfl (by decide) f46 rfl ?_
            refine tw_aload_n 2 dX5_unpaidDebtsTo_45 rfl rfl ?_
            refine tw_acmp_ne (rx := (some b_51)) (ry := (some c)) 52 dX5_unpaidDebtsTo_46 (by decide) (fun c57 => ?_) (fun c57 => ?_)
            · obtain ⟨v58, ev58⟩ : ∃ y : Int32, y = (nI k30) + 1 := ⟨_, rfl⟩
              refine tw_iinc [(5, .int v58), (6, .ref q42), (0, .ref x), (1, .ref c), (2, .int x29), (3, .ref da_6), (4, .int (nI 10))] 6 dX5_unpaidDebtsTo_52 rfl (by rw [ev58]; rfl) (by decide) rfl ?_
              refine tw_goto 14 dX5_unpaidDebtsTo_55 (by decide) ?_
              have qv58 := tw_nI3 ev58
              rw [qv58]
              refine tw_lv [2, 3, 4, 5, 6, 0] rfl ?_
              exact ih32 (k30 + 1) x29 (by omega) (by omega)
            · obtain ⟨v59, ev59⟩ : ∃ y : Int32, y = x29 + 1 := ⟨_, rfl⟩
              refine tw_iinc [(2, .int v59), (6, .ref q42), (0, .ref x), (1, .ref c), (3, .ref da_6), (4, .int (nI 10)), (5, .int (nI k30))] 3 dX5_unpaidDebtsTo_49 rfl (by rw [ev59]; rfl) (by decide) rfl ?_
              obtain ⟨v60, ev60⟩ : ∃ y : Int32, y = (nI k30) + 1 := ⟨_, rfl⟩
              refine tw_iinc [(5, .int v60), (2, .int v59), (6, .ref q42), (0, .ref x), (1, .ref c), (3, .ref da_6), (4, .int (nI 10))] 6 dX5_unpaidDebtsTo_52 rfl (by rw [ev60]; rfl) (by decide) rfl ?_
              refine tw_goto 14 dX5_unpaidDebtsTo_55 (by decide) ?_
              have qv60 := tw_nI3 ev60
              rw [qv60]
              refine tw_lv [3, 4, 1, 5, 6, 0] rfl ?_
              exact ih32 (k30 + 1) v59 (by omega) (by omega)
  refine tw_lv [4, 5, 3, 2, 1, 0] rfl ?_
  exact L33 (10 + 1) 0 0 (by omega) (by omega)

set_option maxHeartbeats 4000000 in
set_option maxRecDepth 100000 in
theorem c_X5_numberOf (d : tw_D) (g : tw_G) (τ : tw_K) (h : tw_H) (hw : tw_wt d g τ h) (p : Option Nat) (hp : ∀ q, p = some q → τ q = 2) : tw_Ct d mX5_numberOf 0 0 [va_rf p] h (tw_qi (fun r h1 => h1 = h) tw_nx) := by
  cases p with
  | none =>
    refine tw_of (by decide +kernel) (Nat.le_of_ble_eq_true rfl) ?_
    show tw_W d mX5_numberOf _ 0 [(0, .null)] [] h 0 0
    refine tw_aload_nN 0 dX5_numberOf_0 rfl rfl ?_
    refine tw_ifnonnullN dX5_numberOf_1 ?_
    refine tw_iconst (v := -1) dX5_numberOf_4 (by decide) ?_
    refine tw_goto 12 dX5_numberOf_5 (by decide) ?_
    exact tw_iret dX5_numberOf_12 rfl (Or.inl ⟨_, rfl, rfl⟩)
  | some c =>
    refine tw_of (by decide +kernel) (Nat.le_of_ble_eq_true rfl) ?_
    show tw_W d mX5_numberOf _ 0 [(0, .ref c)] [] h 0 0
    have sp0 := tw_sp.rf hw
    have kc := hp c rfl
    refine tw_aload_n 0 dX5_numberOf_0 rfl rfl ?_
    refine tw_ifnonnull 8 dX5_numberOf_1 (by decide) ?_
    refine tw_aload_n 0 dX5_numberOf_8 rfl rfl ?_
    obtain ⟨e1, f2, n_3, r_4, c_5, go_6, so_7, v_8, rd_9, rf_10, t_11, rfl, k12, k13, k14, k15, k16, k17, k18, k19⟩ := sp0.1 c 2 kc (by decide)
    refine tw_getN (v := .int n_3) rfl in_4 0 dX5_numberOf_9 w_502 rfl (by decide) f2 rfl ?_
    exact tw_iret dX5_numberOf_12 rfl (Or.inl ⟨_, rfl, rfl⟩)

set_option maxHeartbeats 4000000 in
set_option maxRecDepth 100000 in
theorem c_X5_houseFact (d : tw_D) (g : tw_G) (τ : tw_K) (h : tw_H) (hw : tw_wt d g τ h) (x : Nat) (kx : τ x = 11) (c : Nat) (kc : τ c = 3) (w : Int32) : tw_Ct d mX5_houseFact 0 0 [.ref x, .ref c, .int w] h (tw_qi (fun r h1 => h1 = h) tw_nx) := by
  refine tw_of (by decide +kernel) (Nat.le_of_ble_eq_true rfl) ?_
  show tw_W d mX5_houseFact _ 0 [(0, .ref x), (1, .ref c), (2, .int w)] [] h 0 0
  have sp0 := tw_sp.rf hw
  refine tw_iload_n 2 dX5_houseFact_0 rfl rfl ?_
  by_cases cs0 : (w).toInt < 0 ∨ 6 < (w).toInt
  · refine tw_tabOut 99 dX5_houseFact_1 cs0 (by decide) ?_
    refine tw_aload_n 0 dX5_houseFact_99 rfl rfl ?_
    refine tw_aload_n 1 dX5_houseFact_100 rfl rfl ?_
    obtain ⟨e1, f2, td_3, ca_4, ha_5, da_6, c1_7, c2_8, c3_9, c4_10, rfl, k11, k12, k13, k14, k15, k16, k17, k18, k19, k20, k21⟩ := sp0.1 x 11 kx (by decide)
    refine tw_bi (tw_callV (M := mX5_houseFact) (pc := 101) okX5_unpaidDebtsTo dX5_houseFact_101 w_343 rfl f2 [.ref c] [] rfl rfl ⟨by decide, by decide⟩ (Nat.le_of_ble_eq_true rfl) (c_X5_unpaidDebtsTo d g τ h sp0.1 x kx c kc) 0 0 (Nat.le_of_ble_eq_true rfl) (Nat.le_of_ble_eq_true rfl)) (fun r24 h23 q22 => ?_) (fun E h1 q => q.elim)
    rw [q22]
    exact tw_iret dX5_houseFact_104 rfl (Or.inl ⟨_, rfl, rfl⟩)
  · have csl : ¬ (w).toInt < 0 := fun q => cs0 (Or.inl q)
    have csh : ¬ 6 < (w).toInt := fun q => cs0 (Or.inr q)
    rcases (show (w).toInt = 0 ∨ (w).toInt = 1 ∨ (w).toInt = 2 ∨ (w).toInt = 3 ∨ (w).toInt = 4 ∨ (w).toInt = 5 ∨ (w).toInt = 6 by omega) with cs1 | cs1 | cs1 | cs1 | cs1 | cs1 | cs1
    · refine tw_tabIn (off := 43) 44 dX5_houseFact_1 csl csh (by rw [cs1]; rfl) (by decide) ?_
      refine tw_aload_n 1 dX5_houseFact_44 rfl rfl ?_
      obtain ⟨e25, f26, n_27, ar_28, p_29, pl_30, go_31, rfl, k32, k33, k34⟩ := sp0.1 c 3 kc (by decide)
      refine tw_getN (v := va_rf pl_30) rfl in_6 2 dX5_houseFact_45 w_641 rfl (by decide) f26 rfl ?_
      refine tw_bi (tw_callS (M := mX5_houseFact) (pc := 48) okX5_numberOf dX5_houseFact_48 w_336 [va_rf pl_30] [] rfl rfl ⟨by decide, by decide⟩ (Nat.le_of_ble_eq_true rfl) (c_X5_numberOf d g τ h sp0.1 pl_30 k33) 0 0 (Nat.le_of_ble_eq_true rfl) (Nat.le_of_ble_eq_true rfl)) (fun r37 h36 q35 => ?_) (fun E h1 q => q.elim)
      rw [q35]
      exact tw_iret dX5_houseFact_51 rfl (Or.inl ⟨_, rfl, rfl⟩)
    · refine tw_tabIn (off := 51) 52 dX5_houseFact_1 csl csh (by rw [cs1]; rfl) (by decide) ?_
      refine tw_aload_n 1 dX5_houseFact_52 rfl rfl ?_
      obtain ⟨e38, f39, n_40, ar_41, p_42, pl_43, go_44, rfl, k45, k46, k47⟩ := sp0.1 c 3 kc (by decide)
      refine tw_getN (v := va_rf go_44) rfl in_6 3 dX5_houseFact_53 w_643 rfl (by decide) f39 rfl ?_
      refine tw_bi (tw_callS (M := mX5_houseFact) (pc := 56) okX5_numberOf dX5_houseFact_56 w_336 [va_rf go_44] [] rfl rfl ⟨by decide, by decide⟩ (Nat.le_of_ble_eq_true rfl) (c_X5_numberOf d g τ h sp0.1 go_44 k47) 0 0 (Nat.le_of_ble_eq_true rfl) (Nat.le_of_ble_eq_true rfl)) (fun r50 h49 q48 => ?_) (fun E h1 q => q.elim)
      rw [q48]
      exact tw_iret dX5_houseFact_59 rfl (Or.inl ⟨_, rfl, rfl⟩)
    · refine tw_tabIn (off := 59) 60 dX5_houseFact_1 csl csh (by rw [cs1]; rfl) (by decide) ?_
      refine tw_aload_n 1 dX5_houseFact_60 rfl rfl ?_
      obtain ⟨e51, f52, n_53, ar_54, p_55, pl_56, go_57, rfl, k58, k59, k60⟩ := sp0.1 c 3 kc (by decide)
      refine tw_getN (v := .int ar_54) rfl in_6 4 dX5_houseFact_61 w_645 rfl (by decide) f52 rfl ?_
      exact tw_iret dX5_houseFact_64 rfl (Or.inl ⟨_, rfl, rfl⟩)
    · refine tw_tabIn (off := 64) 65 dX5_houseFact_1 csl csh (by rw [cs1]; rfl) (by decide) ?_
      refine tw_aload_n 1 dX5_houseFact_65 rfl rfl ?_
      obtain ⟨e61, f62, n_63, ar_64, p_65, pl_66, go_67, rfl, k68, k69, k70⟩ := sp0.1 c 3 kc (by decide)
      refine tw_getN (v := .ref p_65) rfl in_6 1 dX5_houseFact_66 w_639 rfl (by decide) f62 rfl ?_
      obtain ⟨e71, f72, a_73, b_74, rfl⟩ := sp0.1 p_65 1 k68 (by decide)
      refine tw_getN (v := .int a_73) rfl in_7 0 dX5_houseFact_69 w_132 rfl (by decide) f72 rfl ?_
      exact tw_iret dX5_houseFact_72 rfl (Or.inl ⟨_, rfl, rfl⟩)
    · refine tw_tabIn (off := 72) 73 dX5_houseFact_1 csl csh (by rw [cs1]; rfl) (by decide) ?_
      refine tw_aload_n 1 dX5_houseFact_73 rfl rfl ?_
      obtain ⟨e75, f76, n_77, ar_78, p_79, pl_80, go_81, rfl, k82, k83, k84⟩ := sp0.1 c 3 kc (by decide)
      refine tw_getN (v := .ref p_79) rfl in_6 1 dX5_houseFact_74 w_639 rfl (by decide) f76 rfl ?_
      obtain ⟨e85, f86, a_87, b_88, rfl⟩ := sp0.1 p_79 1 k82 (by decide)
      refine tw_getN (v := .int b_88) rfl in_7 1 dX5_houseFact_77 w_134 rfl (by decide) f86 rfl ?_
      exact tw_iret dX5_houseFact_80 rfl (Or.inl ⟨_, rfl, rfl⟩)
    · refine tw_tabIn (off := 80) 81 dX5_houseFact_1 csl csh (by rw [cs1]; rfl) (by decide) ?_
      refine tw_aload_n 1 dX5_houseFact_81 rfl rfl ?_
      obtain ⟨e89, f90, n_91, ar_92, p_93, pl_94, go_95, rfl, k96, k97, k98⟩ := sp0.1 c 3 kc (by decide)
      refine tw_getN (v := .ref p_93) rfl in_6 1 dX5_houseFact_82 w_639 rfl (by decide) f90 rfl ?_
      refine tw_aload_n 0 dX5_houseFact_85 rfl rfl ?_
      obtain ⟨e99, f100, td_101, ca_102, ha_103, da_104, c1_105, c2_106, c3_107, c4_108, rfl, k109, k110, k111, k112, k113, k114, k115, k116, k117, k118, k119⟩ := sp0.1 x 11 kx (by decide)
      refine tw_get (v := .int (g.1 0)) rfl in_9 1 dX5_houseFact_86 w_141 rfl (by decide) f100 rfl ?_
      obtain ⟨e120, f121, a_122, b_123, rfl⟩ := sp0.1 p_93 1 k96 (by decide)
      refine tw_bi (tw_callVN (M := mX5_houseFact) (pc := 89) okX3_worth dX5_houseFact_89 w_265 rfl f121 [.int (g.1 0)] [] rfl rfl ⟨by decide, by decide⟩ (Nat.le_of_ble_eq_true rfl) (c_X3_worth d g τ h sp0.1 p_93 k96 (g.1 0)) 0 0 (Nat.le_of_ble_eq_true rfl) (Nat.le_of_ble_eq_true rfl)) (fun r126 h125 q124 => ?_) (fun E h1 q => q.elim)
      rw [q124]
      exact tw_iret dX5_houseFact_92 rfl (Or.inl ⟨_, rfl, rfl⟩)
    · refine tw_tabIn (off := 92) 93 dX5_houseFact_1 csl csh (by rw [cs1]; rfl) (by decide) ?_
      refine tw_aload_n 0 dX5_houseFact_93 rfl rfl ?_
      refine tw_aload_n 1 dX5_houseFact_94 rfl rfl ?_
      obtain ⟨e127, f128, td_129, ca_130, ha_131, da_132, c1_133, c2_134, c3_135, c4_136, rfl, k137, k138, k139, k140, k141, k142, k143, k144, k145, k146, k147⟩ := sp0.1 x 11 kx (by decide)
      refine tw_bi (tw_callV (M := mX5_houseFact) (pc := 95) okX5_unpaidDebtsOf dX5_houseFact_95 w_339 rfl f128 [.ref c] [] rfl rfl ⟨by decide, by decide⟩ (Nat.le_of_ble_eq_true rfl) (c_X5_unpaidDebtsOf d g τ h sp0.1 x kx c kc) 0 0 (Nat.le_of_ble_eq_true rfl) (Nat.le_of_ble_eq_true rfl)) (fun r150 h149 q148 => ?_) (fun E h1 q => q.elim)
      rw [q148]
      exact tw_iret dX5_houseFact_98 rfl (Or.inl ⟨_, rfl, rfl⟩)

set_option maxHeartbeats 4000000 in
set_option maxRecDepth 100000 in
theorem c_X5_ofHouse (d : tw_D) (g : tw_G) (τ : tw_K) (h : tw_H) (hw : tw_wt d g τ h) (x : Nat) (kx : τ x = 11) (n : Int32) (w : Int32) : tw_Ct d mX5_ofHouse 20 120 [.ref x, .int n, .int w] h (tw_qi (fun r h1 => h1 = h) (fun E h1 => (E = tw_IOE ∨ E = tw_IAE) ∧ h1 = h)) := by
  refine tw_of (by decide +kernel) (Nat.le_of_ble_eq_true rfl) ?_
  show tw_W d mX5_ofHouse _ 0 [(0, .ref x), (1, .int n), (2, .int w)] [] h 20 120
  have sp0 := tw_sp.rf hw
  refine tw_aload_n 0 dX5_ofHouse_0 rfl rfl ?_
  refine tw_iload_n 1 dX5_ofHouse_1 rfl rfl ?_
  obtain ⟨e1, f2, td_3, ca_4, ha_5, da_6, c1_7, c2_8, c3_9, c4_10, rfl, k11, k12, k13, k14, k15, k16, k17, k18, k19, k20, k21⟩ := sp0.1 x 11 kx (by decide)
  refine tw_br (tw_callV (M := mX5_ofHouse) (pc := 2) okX5_houseAt dX5_ofHouse_2 w_664 rfl f2 [.int n] [] rfl rfl ⟨by decide, by decide⟩ (Nat.le_of_ble_eq_true rfl) (c_X5_houseAt d g τ h sp0.1 x kx n) 19 114 (Nat.le_of_ble_eq_true rfl) (Nat.le_of_ble_eq_true rfl)) (fun r24 h23 q22 => ?_) (fun E h1 q => Or.inr ⟨E, rfl, (Or.inl q.1), q.2⟩)
  obtain ⟨q22e, p25⟩ := q22
  rw [q22e]
  refine tw_astore_n [(3, .ref r24), (0, .ref x), (1, .int n), (2, .int w)] dX5_ofHouse_5 rfl (by decide) rfl ?_
  refine tw_iload_n 3 dX5_ofHouse_6 rfl rfl ?_
  refine tw_iconst (v := 0) dX5_ofHouse_7 (by decide) ?_
  refine tw_bipush (v := 7) dX5_ofHouse_8 (by decide) ?_
  refine tw_bv (tw_callS (M := mX5_ofHouse) (pc := 10) okX5_needRange dX5_ofHouse_10 w_399 [.int w, .int 0, .int 7] [] rfl rfl ⟨by decide, by decide⟩ (Nat.le_of_ble_eq_true rfl) (c_X5_needRange d g τ h sp0.1 w 0 7) 18 108 (Nat.le_of_ble_eq_true rfl) (Nat.le_of_ble_eq_true rfl)) (fun h27 q26 => ?_) (fun E h1 q => Or.inr ⟨E, rfl, (Or.inr (q.1)), q.2⟩)
  obtain ⟨q26e, p29⟩ := q26
  rw [q26e]
  refine tw_aload_n 1 dX5_ofHouse_13 rfl rfl ?_
  refine tw_aload_n 0 dX5_ofHouse_14 rfl rfl ?_
  refine tw_iload_n 3 dX5_ofHouse_15 rfl rfl ?_
  refine tw_bi (tw_callV (M := mX5_ofHouse) (pc := 16) okX5_houseFact dX5_ofHouse_16 w_332 rfl f2 [.ref r24, .int w] [] rfl rfl ⟨by decide, by decide⟩ (Nat.le_of_ble_eq_true rfl) (c_X5_houseFact d g τ h sp0.1 x kx r24 p25 w) 18 108 (Nat.le_of_ble_eq_true rfl) (Nat.le_of_ble_eq_true rfl)) (fun r32 h31 q30 => ?_) (fun E h1 q => q.elim)
  rw [q30]
  exact tw_iret dX5_ofHouse_19 rfl (Or.inl ⟨_, rfl, rfl⟩)

set_option maxHeartbeats 4000000 in
set_option maxRecDepth 100000 in
theorem c_X5_cheaperMetal (d : tw_D) (g : tw_G) (τ : tw_K) (h : tw_H) (hw : tw_wt d g τ h) (x : Nat) (kx : τ x = 11) (c : Nat) (kc : τ c = 4) : tw_Ct d mX5_cheaperMetal 0 0 [.ref x, .ref c] h (tw_qi (fun r h1 => h1 = h) tw_nx) := by
  refine tw_of (by decide +kernel) (Nat.le_of_ble_eq_true rfl) ?_
  show tw_W d mX5_cheaperMetal _ 0 [(0, .ref x), (1, .ref c)] [] h 0 0
  have sp0 := tw_sp.rf hw
  refine tw_aload_n 1 dX5_cheaperMetal_0 rfl rfl ?_
  obtain ⟨e1, f2, v_3, dy_4, pd_5, a_6, b_7, rfl, k8, k9, k10⟩ := sp0.1 c 4 kc (by decide)
  refine tw_getN (v := .ref a_6) rfl in_5 0 dX5_cheaperMetal_1 w_720 rfl (by decide) f2 rfl ?_
  obtain ⟨e11, f12, n_13, ar_14, p_15, pl_16, go_17, rfl, k18, k19, k20⟩ := sp0.1 a_6 3 k8 (by decide)
  cases pl_16 with
  | none =>
    refine tw_getN (v := .null) rfl in_6 2 dX5_cheaperMetal_4 w_641 rfl (by decide) f12 rfl ?_
    refine tw_astore_nN [(2, .null), (0, .ref x), (1, .ref c)] dX5_cheaperMetal_7 rfl (by decide) rfl ?_
    refine tw_aload_n 2 dX5_cheaperMetal_8 rfl rfl ?_
    refine tw_getN (v := .int pd_5) rfl in_5 4 dX5_cheaperMetal_9 w_728 rfl (by decide) f2 rfl ?_
    refine tw_if_ne 19 dX5_cheaperMetal_12 (by decide) (fun c22 => ?_) (fun c22 => ?_)
    · refine tw_iconst (v := -1) dX5_cheaperMetal_19 (by decide) ?_
      exact tw_iret dX5_cheaperMetal_20 rfl (Or.inl ⟨_, rfl, rfl⟩)
    · refine tw_aload_nN 0 dX5_cheaperMetal_15 rfl rfl ?_
      refine tw_ifnonnullN dX5_cheaperMetal_16 ?_
      refine tw_iconst (v := -1) dX5_cheaperMetal_19 (by decide) ?_
      exact tw_iret dX5_cheaperMetal_20 rfl (Or.inl ⟨_, rfl, rfl⟩)
  | some q21 =>
    refine tw_getN (v := .ref q21) rfl in_6 2 dX5_cheaperMetal_4 w_641 rfl (by decide) f12 rfl ?_
    refine tw_astore_n [(2, .ref q21), (0, .ref x), (1, .ref c)] dX5_cheaperMetal_7 rfl (by decide) rfl ?_
    refine tw_aload_n 2 dX5_cheaperMetal_8 rfl rfl ?_
    refine tw_getN (v := .int pd_5) rfl in_5 4 dX5_cheaperMetal_9 w_728 rfl (by decide) f2 rfl ?_
    refine tw_if_ne 19 dX5_cheaperMetal_12 (by decide) (fun c23 => ?_) (fun c23 => ?_)
    · refine tw_iconst (v := -1) dX5_cheaperMetal_19 (by decide) ?_
      exact tw_iret dX5_cheaperMetal_20 rfl (Or.inl ⟨_, rfl, rfl⟩)
    · refine tw_aload_n 0 dX5_cheaperMetal_15 rfl rfl ?_
      refine tw_ifnonnull 21 dX5_cheaperMetal_16 (by decide) ?_
      refine tw_aload_n 2 dX5_cheaperMetal_21 rfl rfl ?_
      refine tw_aload_n 1 dX5_cheaperMetal_22 rfl rfl ?_
      obtain ⟨e24, f25, td_26, ca_27, ha_28, da_29, c1_30, c2_31, c3_32, c4_33, rfl, k34, k35, k36, k37, k38, k39, k40, k41, k42, k43, k44⟩ := sp0.1 x 11 kx (by decide)
      refine tw_get (v := .int td_26) rfl in_9 0 dX5_cheaperMetal_23 w_140 rfl (by decide) f25 rfl ?_
      refine tw_bi (tw_callVN (M := mX5_cheaperMetal) (pc := 26) okX1_dueOn dX5_cheaperMetal_26 w_355 rfl f2 [.int td_26] [] rfl rfl ⟨by decide, by decide⟩ (Nat.le_of_ble_eq_true rfl) (c_X1_dueOn d g τ h sp0.1 c kc td_26) 0 0 (Nat.le_of_ble_eq_true rfl) (Nat.le_of_ble_eq_true rfl)) (fun r47 h46 q45 => ?_) (fun E h1 q => q.elim)
      rw [q45]
      refine tw_istore_n [(3, .int r47), (2, .ref q21), (0, .ref x), (1, .ref c)] dX5_cheaperMetal_29 rfl (by decide) rfl ?_
      refine tw_aload_n 1 dX5_cheaperMetal_30 rfl rfl ?_
      refine tw_iload_n 0 dX5_cheaperMetal_31 rfl rfl ?_
      obtain ⟨e48, f49, n_50, r_51, c_52, go_53, so_54, v_55, rd_56, rf_57, t_58, rfl, k59, k60, k61, k62, k63, k64, k65, k66⟩ := sp0.1 q21 2 (k19 _ rfl) (by decide)
      refine tw_bi (tw_callVN (M := mX5_cheaperMetal) (pc := 32) okX0_goldFor dX5_cheaperMetal_32 w_364 rfl f49 [.int r47] [] rfl rfl ⟨by decide, by decide⟩ (Nat.le_of_ble_eq_true rfl) (c_X0_goldFor d g τ h sp0.1 q21 (k19 _ rfl) r47) 0 0 (Nat.le_of_ble_eq_true rfl) (Nat.le_of_ble_eq_true rfl)) (fun r69 h68 q67 => ?_) (fun E h1 q => q.elim)
      rw [q67]
      refine tw_iconst (v := 0) dX5_cheaperMetal_35 (by decide) ?_
      refine tw_aload_n 2 dX5_cheaperMetal_36 rfl rfl ?_
      refine tw_get (v := .int (g.1 0)) rfl in_9 1 dX5_cheaperMetal_37 w_141 rfl (by decide) f25 rfl ?_
      refine tw_bi (tw_callS (M := mX5_cheaperMetal) (pc := 40) okX5_worthOf dX5_cheaperMetal_40 w_368 [.int r69, .int 0, .int (g.1 0)] [] rfl rfl ⟨by decide, by decide⟩ (Nat.le_of_ble_eq_true rfl) (c_X5_worthOf d g τ h sp0.1 r69 0 (g.1 0)) 0 0 (Nat.le_of_ble_eq_true rfl) (Nat.le_of_ble_eq_true rfl)) (fun r72 h71 q70 => ?_) (fun E h1 q => q.elim)
      rw [q70]
      refine tw_iload_n 0 dX5_cheaperMetal_43 rfl rfl ?_
      refine tw_icmp_ge 51 dX5_cheaperMetal_44 (by decide) (fun c73 => ?_) (fun c73 => ?_)
      · refine tw_iconst (v := 1) dX5_cheaperMetal_51 (by decide) ?_
        exact tw_iret dX5_cheaperMetal_52 rfl (Or.inl ⟨_, rfl, rfl⟩)
      · refine tw_iconst (v := 0) dX5_cheaperMetal_47 (by decide) ?_
        refine tw_goto 52 dX5_cheaperMetal_48 (by decide) ?_
        exact tw_iret dX5_cheaperMetal_52 rfl (Or.inl ⟨_, rfl, rfl⟩)

set_option maxHeartbeats 4000000 in
set_option maxRecDepth 100000 in
theorem c_X5_debtFact (d : tw_D) (g : tw_G) (τ : tw_K) (h : tw_H) (hw : tw_wt d g τ h) (x : Nat) (kx : τ x = 11) (c : Nat) (kc : τ c = 4) (w : Int32) : tw_Ct d mX5_debtFact 0 0 [.ref x, .ref c, .int w] h (tw_qi (fun r h1 => h1 = h) tw_nx) := by
  refine tw_of (by decide +kernel) (Nat.le_of_ble_eq_true rfl) ?_
  show tw_W d mX5_debtFact _ 0 [(0, .ref x), (1, .ref c), (2, .int w)] [] h 0 0
  have sp0 := tw_sp.rf hw
  refine tw_iload_n 2 dX5_debtFact_0 rfl rfl ?_
  by_cases cs0 : (w).toInt < 0 ∨ 5 < (w).toInt
  · refine tw_tabOut 99 dX5_debtFact_1 cs0 (by decide) ?_
    refine tw_aload_n 0 dX5_debtFact_99 rfl rfl ?_
    refine tw_aload_n 1 dX5_debtFact_100 rfl rfl ?_
    obtain ⟨e1, f2, td_3, ca_4, ha_5, da_6, c1_7, c2_8, c3_9, c4_10, rfl, k11, k12, k13, k14, k15, k16, k17, k18, k19, k20, k21⟩ := sp0.1 x 11 kx (by decide)
    refine tw_bi (tw_callV (M := mX5_debtFact) (pc := 101) okX5_cheaperMetal dX5_debtFact_101 w_360 rfl f2 [.ref c] [] rfl rfl ⟨by decide, by decide⟩ (Nat.le_of_ble_eq_true rfl) (c_X5_cheaperMetal d g τ h sp0.1 x kx c kc) 0 0 (Nat.le_of_ble_eq_true rfl) (Nat.le_of_ble_eq_true rfl)) (fun r24 h23 q22 => ?_) (fun E h1 q => q.elim)
    rw [q22]
    exact tw_iret dX5_debtFact_104 rfl (Or.inl ⟨_, rfl, rfl⟩)
  · have csl : ¬ (w).toInt < 0 := fun q => cs0 (Or.inl q)
    have csh : ¬ 5 < (w).toInt := fun q => cs0 (Or.inr q)
    rcases (show (w).toInt = 0 ∨ (w).toInt = 1 ∨ (w).toInt = 2 ∨ (w).toInt = 3 ∨ (w).toInt = 4 ∨ (w).toInt = 5 by omega) with cs1 | cs1 | cs1 | cs1 | cs1 | cs1
    · refine tw_tabIn (off := 39) 40 dX5_debtFact_1 csl csh (by rw [cs1]; rfl) (by decide) ?_
      refine tw_aload_n 1 dX5_debtFact_40 rfl rfl ?_
      obtain ⟨e25, f26, v_27, dy_28, pd_29, a_30, b_31, rfl, k32, k33, k34⟩ := sp0.1 c 4 kc (by decide)
      refine tw_getN (v := .ref a_30) rfl in_5 0 dX5_debtFact_41 w_720 rfl (by decide) f26 rfl ?_
      obtain ⟨e35, f36, n_37, ar_38, p_39, pl_40, go_41, rfl, k42, k43, k44⟩ := sp0.1 a_30 3 k32 (by decide)
      refine tw_getN (v := .int n_37) rfl in_6 0 dX5_debtFact_44 w_637 rfl (by decide) f36 rfl ?_
      exact tw_iret dX5_debtFact_47 rfl (Or.inl ⟨_, rfl, rfl⟩)
    · refine tw_tabIn (off := 47) 48 dX5_debtFact_1 csl csh (by rw [cs1]; rfl) (by decide) ?_
      refine tw_aload_n 1 dX5_debtFact_48 rfl rfl ?_
      obtain ⟨e45, f46, v_47, dy_48, pd_49, a_50, b_51, rfl, k52, k53, k54⟩ := sp0.1 c 4 kc (by decide)
      refine tw_getN (v := .ref b_51) rfl in_5 1 dX5_debtFact_49 w_722 rfl (by decide) f46 rfl ?_
      obtain ⟨e55, f56, n_57, ar_58, p_59, pl_60, go_61, rfl, k62, k63, k64⟩ := sp0.1 b_51 3 k53 (by decide)
      refine tw_getN (v := .int n_57) rfl in_6 0 dX5_debtFact_52 w_637 rfl (by decide) f56 rfl ?_
      exact tw_iret dX5_debtFact_55 rfl (Or.inl ⟨_, rfl, rfl⟩)
    · refine tw_tabIn (off := 55) 56 dX5_debtFact_1 csl csh (by rw [cs1]; rfl) (by decide) ?_
      refine tw_aload_n 1 dX5_debtFact_56 rfl rfl ?_
      obtain ⟨e65, f66, v_67, dy_68, pd_69, a_70, b_71, rfl, k72, k73, k74⟩ := sp0.1 c 4 kc (by decide)
      refine tw_getN (v := .int v_67) rfl in_5 2 dX5_debtFact_57 w_724 rfl (by decide) f66 rfl ?_
      exact tw_iret dX5_debtFact_60 rfl (Or.inl ⟨_, rfl, rfl⟩)
    · refine tw_tabIn (off := 60) 61 dX5_debtFact_1 csl csh (by rw [cs1]; rfl) (by decide) ?_
      refine tw_aload_n 1 dX5_debtFact_61 rfl rfl ?_
      obtain ⟨e75, f76, v_77, dy_78, pd_79, a_80, b_81, rfl, k82, k83, k84⟩ := sp0.1 c 4 kc (by decide)
      refine tw_getN (v := .int dy_78) rfl in_5 3 dX5_debtFact_62 w_726 rfl (by decide) f76 rfl ?_
      exact tw_iret dX5_debtFact_65 rfl (Or.inl ⟨_, rfl, rfl⟩)
    · refine tw_tabIn (off := 65) 66 dX5_debtFact_1 csl csh (by rw [cs1]; rfl) (by decide) ?_
      refine tw_aload_n 1 dX5_debtFact_66 rfl rfl ?_
      obtain ⟨e85, f86, v_87, dy_88, pd_89, a_90, b_91, rfl, k92, k93, k94⟩ := sp0.1 c 4 kc (by decide)
      refine tw_getN (v := .int pd_89) rfl in_5 4 dX5_debtFact_67 w_728 rfl (by decide) f86 rfl ?_
      refine tw_if_eq 77 dX5_debtFact_70 (by decide) (fun c95 => ?_) (fun c95 => ?_)
      · refine tw_aload_n 1 dX5_debtFact_77 rfl rfl ?_
        refine tw_aload_n 0 dX5_debtFact_78 rfl rfl ?_
        obtain ⟨e96, f97, td_98, ca_99, ha_100, da_101, c1_102, c2_103, c3_104, c4_105, rfl, k106, k107, k108, k109, k110, k111, k112, k113, k114, k115, k116⟩ := sp0.1 x 11 kx (by decide)
        refine tw_get (v := .int td_98) rfl in_9 0 dX5_debtFact_79 w_140 rfl (by decide) f97 rfl ?_
        refine tw_bi (tw_callVN (M := mX5_debtFact) (pc := 82) okX1_dueOn dX5_debtFact_82 w_355 rfl f86 [.int td_98] [] rfl rfl ⟨by decide, by decide⟩ (Nat.le_of_ble_eq_true rfl) (c_X1_dueOn d g τ h sp0.1 c kc td_98) 0 0 (Nat.le_of_ble_eq_true rfl) (Nat.le_of_ble_eq_true rfl)) (fun r119 h118 q117 => ?_) (fun E h1 q => q.elim)
        rw [q117]
        exact tw_iret dX5_debtFact_85 rfl (Or.inl ⟨_, rfl, rfl⟩)
      · refine tw_iconst (v := 0) dX5_debtFact_73 (by decide) ?_
        refine tw_goto 85 dX5_debtFact_74 (by decide) ?_
        exact tw_iret dX5_debtFact_85 rfl (Or.inl ⟨_, rfl, rfl⟩)
    · refine tw_tabIn (off := 85) 86 dX5_debtFact_1 csl csh (by rw [cs1]; rfl) (by decide) ?_
      refine tw_aload_n 1 dX5_debtFact_86 rfl rfl ?_
      obtain ⟨e120, f121, v_122, dy_123, pd_124, a_125, b_126, rfl, k127, k128, k129⟩ := sp0.1 c 4 kc (by decide)
      refine tw_getN (v := .int pd_124) rfl in_5 4 dX5_debtFact_87 w_728 rfl (by decide) f121 rfl ?_
      refine tw_if_eq 97 dX5_debtFact_90 (by decide) (fun c130 => ?_) (fun c130 => ?_)
      · refine tw_iconst (v := 0) dX5_debtFact_97 (by decide) ?_
        exact tw_iret dX5_debtFact_98 rfl (Or.inl ⟨_, rfl, rfl⟩)
      · refine tw_iconst (v := 1) dX5_debtFact_93 (by decide) ?_
        refine tw_goto 98 dX5_debtFact_94 (by decide) ?_
        exact tw_iret dX5_debtFact_98 rfl (Or.inl ⟨_, rfl, rfl⟩)

set_option maxHeartbeats 4000000 in
set_option maxRecDepth 100000 in
theorem c_X5_ofDebt (d : tw_D) (g : tw_G) (τ : tw_K) (h : tw_H) (hw : tw_wt d g τ h) (x : Nat) (kx : τ x = 11) (n : Int32) (w : Int32) : tw_Ct d mX5_ofDebt 20 120 [.ref x, .int n, .int w] h (tw_qi (fun r h1 => h1 = h) (fun E h1 => (E = tw_IOE ∨ E = tw_IAE) ∧ h1 = h)) := by
  refine tw_of (by decide +kernel) (Nat.le_of_ble_eq_true rfl) ?_
  show tw_W d mX5_ofDebt _ 0 [(0, .ref x), (1, .int n), (2, .int w)] [] h 20 120
  have sp0 := tw_sp.rf hw
  refine tw_aload_n 0 dX5_ofDebt_0 rfl rfl ?_
  refine tw_iload_n 1 dX5_ofDebt_1 rfl rfl ?_
  obtain ⟨e1, f2, td_3, ca_4, ha_5, da_6, c1_7, c2_8, c3_9, c4_10, rfl, k11, k12, k13, k14, k15, k16, k17, k18, k19, k20, k21⟩ := sp0.1 x 11 kx (by decide)
  refine tw_br (tw_callV (M := mX5_ofDebt) (pc := 2) okX5_debtAt dX5_ofDebt_2 w_747 rfl f2 [.int n] [] rfl rfl ⟨by decide, by decide⟩ (Nat.le_of_ble_eq_true rfl) (c_X5_debtAt d g τ h sp0.1 x kx n) 19 114 (Nat.le_of_ble_eq_true rfl) (Nat.le_of_ble_eq_true rfl)) (fun r24 h23 q22 => ?_) (fun E h1 q => Or.inr ⟨E, rfl, (Or.inl q.1), q.2⟩)
  obtain ⟨q22e, p25⟩ := q22
  rw [q22e]
  refine tw_astore_n [(3, .ref r24), (0, .ref x), (1, .int n), (2, .int w)] dX5_ofDebt_5 rfl (by decide) rfl ?_
  refine tw_iload_n 3 dX5_ofDebt_6 rfl rfl ?_
  refine tw_iconst (v := 0) dX5_ofDebt_7 (by decide) ?_
  refine tw_bipush (v := 6) dX5_ofDebt_8 (by decide) ?_
  refine tw_bv (tw_callS (M := mX5_ofDebt) (pc := 10) okX5_needRange dX5_ofDebt_10 w_399 [.int w, .int 0, .int 6] [] rfl rfl ⟨by decide, by decide⟩ (Nat.le_of_ble_eq_true rfl) (c_X5_needRange d g τ h sp0.1 w 0 6) 18 108 (Nat.le_of_ble_eq_true rfl) (Nat.le_of_ble_eq_true rfl)) (fun h27 q26 => ?_) (fun E h1 q => Or.inr ⟨E, rfl, (Or.inr (q.1)), q.2⟩)
  obtain ⟨q26e, p29⟩ := q26
  rw [q26e]
  refine tw_aload_n 1 dX5_ofDebt_13 rfl rfl ?_
  refine tw_aload_n 0 dX5_ofDebt_14 rfl rfl ?_
  refine tw_iload_n 3 dX5_ofDebt_15 rfl rfl ?_
  refine tw_bi (tw_callV (M := mX5_ofDebt) (pc := 16) okX5_debtFact dX5_ofDebt_16 w_351 rfl f2 [.ref r24, .int w] [] rfl rfl ⟨by decide, by decide⟩ (Nat.le_of_ble_eq_true rfl) (c_X5_debtFact d g τ h sp0.1 x kx r24 p25 w) 18 108 (Nat.le_of_ble_eq_true rfl) (Nat.le_of_ble_eq_true rfl)) (fun r32 h31 q30 => ?_) (fun E h1 q => q.elim)
  rw [q30]
  exact tw_iret dX5_ofDebt_19 rfl (Or.inl ⟨_, rfl, rfl⟩)

set_option maxHeartbeats 4000000 in
set_option maxRecDepth 100000 in
theorem c_X5_inVaults (d : tw_D) (g : tw_G) (τ : tw_K) (h : tw_H) (hw : tw_wt d g τ h) (x : Nat) (kx : τ x = 11) (m : Int32) : tw_Ct d mX5_inVaults 0 0 [.ref x, .int m] h (tw_qi (fun r h1 => h1 = h) tw_nx) := by
  refine tw_of (by decide +kernel) (Nat.le_of_ble_eq_true rfl) ?_
  show tw_W d mX5_inVaults _ 0 [(0, .ref x), (1, .int m)] [] h 0 0
  have sp0 := tw_sp.rf hw
  refine tw_iconst (v := 0) dX5_inVaults_0 (by decide) ?_
  refine tw_istore_n [(2, .int 0), (0, .ref x), (1, .int m)] dX5_inVaults_1 rfl (by decide) rfl ?_
  refine tw_aload_n 1 dX5_inVaults_2 rfl rfl ?_
  obtain ⟨e1, f2, td_3, ca_4, ha_5, da_6, c1_7, c2_8, c3_9, c4_10, rfl, k11, k12, k13, k14, k15, k16, k17, k18, k19, k20, k21⟩ := sp0.1 x 11 kx (by decide)
  refine tw_get (v := .ref ca_4) rfl in_9 2 dX5_inVaults_3 w_142 rfl (by decide) f2 rfl ?_
  refine tw_astore_n [(3, .ref ca_4), (2, .int 0), (0, .ref x), (1, .int m)] dX5_inVaults_6 rfl (by decide) rfl ?_
  refine tw_aload_n 0 dX5_inVaults_7 rfl rfl ?_
  obtain ⟨e22, f23, F24, rfl, k25, pn26, pb27, px28⟩ := sp0.1 ca_4 8 k11 (by decide)
  refine tw_alen (v := nI 4) 4 rfl dX5_inVaults_8 f23 rfl ?_
  refine tw_istore [(4, .int (nI 4)), (3, .ref ca_4), (2, .int 0), (0, .ref x), (1, .int m)] dX5_inVaults_9 (by decide) rfl ?_
  refine tw_iconst (v := 0) dX5_inVaults_11 (by decide) ?_
  refine tw_istore [(5, .int 0), (4, .int (nI 4)), (3, .ref ca_4), (2, .int 0), (0, .ref x), (1, .int m)] dX5_inVaults_12 (by decide) rfl ?_
  have L33 : ∀ (r31 k30 : Nat) (x29 : Int32), 4 + 1 ≤ k30 + r31 → k30 ≤ 4 → tw_W d mX5_inVaults (tw_qi (fun r h1 => h1 = h) tw_nx) 14 [(0, .ref x), (1, .int m), (2, .int x29), (3, .ref ca_4), (4, .int (nI 4)), (5, .int (nI k30))] [] h 0 0 := by
    intro r31
    induction r31 with
    | zero => intro k30 x29 hk37 hk38; exact absurd hk37 (by omega)
    | succ r31 ih32 =>
      intro k30 x29 hk37 hk38
      refine tw_iload 5 dX5_inVaults_14 rfl ?_
      refine tw_iload 4 dX5_inVaults_16 rfl ?_
      refine tw_icmp_ge 50 dX5_inVaults_18 (by decide) (fun c39 => ?_) (fun c39 => ?_)
      · refine tw_iload_n 2 dX5_inVaults_50 rfl rfl ?_
        exact tw_iret dX5_inVaults_51 rfl (Or.inl ⟨_, rfl, rfl⟩)
      · have kl40 := tw_klt (N := 4) c39 hk38 (by decide)
        refine tw_aload_n 3 dX5_inVaults_21 rfl rfl ?_
        refine tw_iload 5 dX5_inVaults_22 rfl ?_
        cases k41 : F24 ((nI k30)).toNatClampNeg with
        | none =>
          refine tw_aald (v := .null) 4 rfl rfl dX5_inVaults_24 f23 (vp_in_nI (by omega) (by decide)) (by rw [k41]; rfl) ?_
          refine tw_astoreN [(6, .null), (0, .ref x), (1, .int m), (2, .int x29), (3, .ref ca_4), (4, .int (nI 4)), (5, .int (nI k30))] dX5_inVaults_25 (by decide) rfl ?_
          refine tw_aloadN 0 dX5_inVaults_27 rfl ?_
          refine tw_ifnullN 44 dX5_inVaults_29 (by decide) ?_
          obtain ⟨v43, ev43⟩ : ∃ y : Int32, y = (nI k30) + 1 := ⟨_, rfl⟩
          refine tw_iinc [(5, .int v43), (6, .null), (0, .ref x), (1, .int m), (2, .int x29), (3, .ref ca_4), (4, .int (nI 4))] 6 dX5_inVaults_44 rfl (by rw [ev43]; rfl) (by decide) rfl ?_
          refine tw_goto 14 dX5_inVaults_47 (by decide) ?_
          have qv43 := tw_nI3 ev43
          rw [qv43]
          refine tw_lv [2, 3, 4, 5, 6, 0] rfl ?_
          exact ih32 (k30 + 1) x29 (by omega) (by omega)
        | some q42 =>
          have k44 := k25 _ _ k41
          refine tw_aald (v := .ref q42) 4 rfl rfl dX5_inVaults_24 f23 (vp_in_nI (by omega) (by decide)) (by rw [k41]; rfl) ?_
          refine tw_astore [(6, .ref q42), (0, .ref x), (1, .int m), (2, .int x29), (3, .ref ca_4), (4, .int (nI 4)), (5, .int (nI k30))] dX5_inVaults_25 (by decide) rfl ?_
          refine tw_aload 0 dX5_inVaults_27 rfl ?_
          refine tw_ifnull dX5_inVaults_29 ?_
          refine tw_iload_n 3 dX5_inVaults_32 rfl rfl ?_
          refine tw_aload 0 dX5_inVaults_33 rfl ?_
          obtain ⟨e45, f46, n_47, r_48, c_49, go_50, so_51, v_52, rd_53, rf_54, t_55, rfl, k56, k57, k58, k59, k60, k61, k62, k63⟩ := sp0.1 q42 2 k44 (by decide)
          refine tw_getN (v := .ref v_52) rfl in_4 3 dX5_inVaults_35 w_508 rfl (by decide) f46 rfl ?_
          refine tw_iload_n 2 dX5_inVaults_38 rfl rfl ?_
          obtain ⟨e64, f65, a_66, b_67, rfl⟩ := sp0.1 v_52 1 k56 (by decide)
          refine tw_bi (tw_callVN (M := mX5_inVaults) (pc := 39) okX3_of dX5_inVaults_39 w_189 rfl f65 [.int m] [.int x29] rfl rfl ⟨by decide, by decide⟩ (Nat.le_of_ble_eq_true rfl) (c_X3_of d g τ h sp0.1 v_52 k56 m) 0 0 (Nat.le_of_ble_eq_true rfl) (Nat.le_of_ble_eq_true rfl)) (fun r70 h69 q68 => ?_) (fun E h1 q => q.elim)
          rw [q68]
          refine tw_iadd dX5_inVaults_42 ?_
          refine tw_nmi (fun v71 ev71 => ?_)
          refine tw_istore_n [(2, .int v71), (6, .ref q42), (0, .ref x), (1, .int m), (3, .ref ca_4), (4, .int (nI 4)), (5, .int (nI k30))] dX5_inVaults_43 rfl (by decide) rfl ?_
          obtain ⟨v72, ev72⟩ : ∃ y : Int32, y = (nI k30) + 1 := ⟨_, rfl⟩
          refine tw_iinc [(5, .int v72), (2, .int v71), (6, .ref q42), (0, .ref x), (1, .int m), (3, .ref ca_4), (4, .int (nI 4))] 6 dX5_inVaults_44 rfl (by rw [ev72]; rfl) (by decide) rfl ?_
          refine tw_goto 14 dX5_inVaults_47 (by decide) ?_
          have qv72 := tw_nI3 ev72
          rw [qv72]
          refine tw_lv [3, 4, 1, 5, 6, 0] rfl ?_
          exact ih32 (k30 + 1) v71 (by omega) (by omega)
  refine tw_lv [4, 5, 3, 2, 1, 0] rfl ?_
  exact L33 (4 + 1) 0 0 (by omega) (by omega)

set_option maxHeartbeats 4000000 in
set_option maxRecDepth 100000 in
theorem c_X5_inPurses (d : tw_D) (g : tw_G) (τ : tw_K) (h : tw_H) (hw : tw_wt d g τ h) (x : Nat) (kx : τ x = 11) (m : Int32) : tw_Ct d mX5_inPurses 0 0 [.ref x, .int m] h (tw_qi (fun r h1 => h1 = h) tw_nx) := by
  refine tw_of (by decide +kernel) (Nat.le_of_ble_eq_true rfl) ?_
  show tw_W d mX5_inPurses _ 0 [(0, .ref x), (1, .int m)] [] h 0 0
  have sp0 := tw_sp.rf hw
  refine tw_iconst (v := 0) dX5_inPurses_0 (by decide) ?_
  refine tw_istore_n [(2, .int 0), (0, .ref x), (1, .int m)] dX5_inPurses_1 rfl (by decide) rfl ?_
  refine tw_aload_n 1 dX5_inPurses_2 rfl rfl ?_
  obtain ⟨e1, f2, td_3, ca_4, ha_5, da_6, c1_7, c2_8, c3_9, c4_10, rfl, k11, k12, k13, k14, k15, k16, k17, k18, k19, k20, k21⟩ := sp0.1 x 11 kx (by decide)
  refine tw_get (v := .ref ha_5) rfl in_9 4 dX5_inPurses_3 w_144 rfl (by decide) f2 rfl ?_
  refine tw_astore_n [(3, .ref ha_5), (2, .int 0), (0, .ref x), (1, .int m)] dX5_inPurses_6 rfl (by decide) rfl ?_
  refine tw_aload_n 0 dX5_inPurses_7 rfl rfl ?_
  obtain ⟨e22, f23, F24, rfl, k25, pn26, pb27, px28⟩ := sp0.1 ha_5 9 k12 (by decide)
  refine tw_alen (v := nI 6) 5 rfl dX5_inPurses_8 f23 rfl ?_
  refine tw_istore [(4, .int (nI 6)), (3, .ref ha_5), (2, .int 0), (0, .ref x), (1, .int m)] dX5_inPurses_9 (by decide) rfl ?_
  refine tw_iconst (v := 0) dX5_inPurses_11 (by decide) ?_
  refine tw_istore [(5, .int 0), (4, .int (nI 6)), (3, .ref ha_5), (2, .int 0), (0, .ref x), (1, .int m)] dX5_inPurses_12 (by decide) rfl ?_
  have L33 : ∀ (r31 k30 : Nat) (x29 : Int32), 6 + 1 ≤ k30 + r31 → k30 ≤ 6 → tw_W d mX5_inPurses (tw_qi (fun r h1 => h1 = h) tw_nx) 14 [(0, .ref x), (1, .int m), (2, .int x29), (3, .ref ha_5), (4, .int (nI 6)), (5, .int (nI k30))] [] h 0 0 := by
    intro r31
    induction r31 with
    | zero => intro k30 x29 hk37 hk38; exact absurd hk37 (by omega)
    | succ r31 ih32 =>
      intro k30 x29 hk37 hk38
      refine tw_iload 5 dX5_inPurses_14 rfl ?_
      refine tw_iload 4 dX5_inPurses_16 rfl ?_
      refine tw_icmp_ge 50 dX5_inPurses_18 (by decide) (fun c39 => ?_) (fun c39 => ?_)
      · refine tw_iload_n 2 dX5_inPurses_50 rfl rfl ?_
        exact tw_iret dX5_inPurses_51 rfl (Or.inl ⟨_, rfl, rfl⟩)
      · have kl40 := tw_klt (N := 6) c39 hk38 (by decide)
        refine tw_aload_n 3 dX5_inPurses_21 rfl rfl ?_
        refine tw_iload 5 dX5_inPurses_22 rfl ?_
        cases k41 : F24 ((nI k30)).toNatClampNeg with
        | none =>
          refine tw_aald (v := .null) 5 rfl rfl dX5_inPurses_24 f23 (vp_in_nI (by omega) (by decide)) (by rw [k41]; rfl) ?_
          refine tw_astoreN [(6, .null), (0, .ref x), (1, .int m), (2, .int x29), (3, .ref ha_5), (4, .int (nI 6)), (5, .int (nI k30))] dX5_inPurses_25 (by decide) rfl ?_
          refine tw_aloadN 0 dX5_inPurses_27 rfl ?_
          refine tw_ifnullN 44 dX5_inPurses_29 (by decide) ?_
          obtain ⟨v43, ev43⟩ : ∃ y : Int32, y = (nI k30) + 1 := ⟨_, rfl⟩
          refine tw_iinc [(5, .int v43), (6, .null), (0, .ref x), (1, .int m), (2, .int x29), (3, .ref ha_5), (4, .int (nI 6))] 6 dX5_inPurses_44 rfl (by rw [ev43]; rfl) (by decide) rfl ?_
          refine tw_goto 14 dX5_inPurses_47 (by decide) ?_
          have qv43 := tw_nI3 ev43
          rw [qv43]
          refine tw_lv [2, 3, 4, 5, 6, 0] rfl ?_
          exact ih32 (k30 + 1) x29 (by omega) (by omega)
        | some q42 =>
          have k44 := k25 _ _ k41
          refine tw_aald (v := .ref q42) 5 rfl rfl dX5_inPurses_24 f23 (vp_in_nI (by omega) (by decide)) (by rw [k41]; rfl) ?_
          refine tw_astore [(6, .ref q42), (0, .ref x), (1, .int m), (2, .int x29), (3, .ref ha_5), (4, .int (nI 6)), (5, .int (nI k30))] dX5_inPurses_25 (by decide) rfl ?_
          refine tw_aload 0 dX5_inPurses_27 rfl ?_
          refine tw_ifnull dX5_inPurses_29 ?_
          refine tw_iload_n 3 dX5_inPurses_32 rfl rfl ?_
          refine tw_aload 0 dX5_inPurses_33 rfl ?_
          obtain ⟨e45, f46, n_47, ar_48, p_49, pl_50, go_51, rfl, k52, k53, k54⟩ := sp0.1 q42 3 k44 (by decide)
          refine tw_getN (v := .ref p_49) rfl in_6 1 dX5_inPurses_35 w_639 rfl (by decide) f46 rfl ?_
          refine tw_iload_n 2 dX5_inPurses_38 rfl rfl ?_
          obtain ⟨e55, f56, a_57, b_58, rfl⟩ := sp0.1 p_49 1 k52 (by decide)
          refine tw_bi (tw_callVN (M := mX5_inPurses) (pc := 39) okX3_of dX5_inPurses_39 w_189 rfl f56 [.int m] [.int x29] rfl rfl ⟨by decide, by decide⟩ (Nat.le_of_ble_eq_true rfl) (c_X3_of d g τ h sp0.1 p_49 k52 m) 0 0 (Nat.le_of_ble_eq_true rfl) (Nat.le_of_ble_eq_true rfl)) (fun r61 h60 q59 => ?_) (fun E h1 q => q.elim)
          rw [q59]
          refine tw_iadd dX5_inPurses_42 ?_
          refine tw_nmi (fun v62 ev62 => ?_)
          refine tw_istore_n [(2, .int v62), (6, .ref q42), (0, .ref x), (1, .int m), (3, .ref ha_5), (4, .int (nI 6)), (5, .int (nI k30))] dX5_inPurses_43 rfl (by decide) rfl ?_
          obtain ⟨v63, ev63⟩ : ∃ y : Int32, y = (nI k30) + 1 := ⟨_, rfl⟩
          refine tw_iinc [(5, .int v63), (2, .int v62), (6, .ref q42), (0, .ref x), (1, .int m), (3, .ref ha_5), (4, .int (nI 6))] 6 dX5_inPurses_44 rfl (by rw [ev63]; rfl) (by decide) rfl ?_
          refine tw_goto 14 dX5_inPurses_47 (by decide) ?_
          have qv63 := tw_nI3 ev63
          rw [qv63]
          refine tw_lv [3, 4, 1, 5, 6, 0] rfl ?_
          exact ih32 (k30 + 1) v62 (by omega) (by omega)
  refine tw_lv [4, 5, 3, 2, 1, 0] rfl ?_
  exact L33 (6 + 1) 0 0 (by omega) (by omega)

set_option maxHeartbeats 4000000 in
set_option maxRecDepth 100000 in
theorem c_X5_worldFact (d : tw_D) (g : tw_G) (τ : tw_K) (h : tw_H) (hw : tw_wt d g τ h) (x : Nat) (kx : τ x = 11) (m : Int32) (w : Int32) : tw_Ct d mX5_worldFact 0 0 [.ref x, .int m, .int w] h (tw_qi (fun r h1 => h1 = h) tw_nx) := by
  refine tw_of (by decide +kernel) (Nat.le_of_ble_eq_true rfl) ?_
  show tw_W d mX5_worldFact _ 0 [(0, .ref x), (1, .int m), (2, .int w)] [] h 0 0
  have sp0 := tw_sp.rf hw
  refine tw_iload_n 2 dX5_worldFact_0 rfl rfl ?_
  by_cases cs0 : (w).toInt < 0 ∨ 4 < (w).toInt
  · refine tw_tabOut 75 dX5_worldFact_1 cs0 (by decide) ?_
    refine tw_aload_n 0 dX5_worldFact_75 rfl rfl ?_
    obtain ⟨e1, f2, td_3, ca_4, ha_5, da_6, c1_7, c2_8, c3_9, c4_10, rfl, k11, k12, k13, k14, k15, k16, k17, k18, k19, k20, k21⟩ := sp0.1 x 11 kx (by decide)
    refine tw_get (v := .ref c4_10) rfl in_9 11 dX5_worldFact_76 w_151 rfl (by decide) f2 rfl ?_
    refine tw_iload_n 1 dX5_worldFact_79 rfl rfl ?_
    obtain ⟨e22, f23, a_24, b_25, rfl⟩ := sp0.1 c4_10 1 k17 (by decide)
    refine tw_bi (tw_callVN (M := mX5_worldFact) (pc := 80) okX3_of dX5_worldFact_80 w_189 rfl f23 [.int m] [] rfl rfl ⟨by decide, by decide⟩ (Nat.le_of_ble_eq_true rfl) (c_X3_of d g τ h sp0.1 c4_10 k17 m) 0 0 (Nat.le_of_ble_eq_true rfl) (Nat.le_of_ble_eq_true rfl)) (fun r28 h27 q26 => ?_) (fun E h1 q => q.elim)
    rw [q26]
    exact tw_iret dX5_worldFact_83 rfl (Or.inl ⟨_, rfl, rfl⟩)
  · have csl : ¬ (w).toInt < 0 := fun q => cs0 (Or.inl q)
    have csh : ¬ 4 < (w).toInt := fun q => cs0 (Or.inr q)
    rcases (show (w).toInt = 0 ∨ (w).toInt = 1 ∨ (w).toInt = 2 ∨ (w).toInt = 3 ∨ (w).toInt = 4 by omega) with cs1 | cs1 | cs1 | cs1 | cs1
    · refine tw_tabIn (off := 35) 36 dX5_worldFact_1 csl csh (by rw [cs1]; rfl) (by decide) ?_
      refine tw_aload_n 0 dX5_worldFact_36 rfl rfl ?_
      refine tw_iload_n 1 dX5_worldFact_37 rfl rfl ?_
      obtain ⟨e29, f30, td_31, ca_32, ha_33, da_34, c1_35, c2_36, c3_37, c4_38, rfl, k39, k40, k41, k42, k43, k44, k45, k46, k47, k48, k49⟩ := sp0.1 x 11 kx (by decide)
      refine tw_bi (tw_callV (M := mX5_worldFact) (pc := 38) okX5_inVaults dX5_worldFact_38 w_185 rfl f30 [.int m] [] rfl rfl ⟨by decide, by decide⟩ (Nat.le_of_ble_eq_true rfl) (c_X5_inVaults d g τ h sp0.1 x kx m) 0 0 (Nat.le_of_ble_eq_true rfl) (Nat.le_of_ble_eq_true rfl)) (fun r52 h51 q50 => ?_) (fun E h1 q => q.elim)
      rw [q50]
      exact tw_iret dX5_worldFact_41 rfl (Or.inl ⟨_, rfl, rfl⟩)
    · refine tw_tabIn (off := 41) 42 dX5_worldFact_1 csl csh (by rw [cs1]; rfl) (by decide) ?_
      refine tw_aload_n 0 dX5_worldFact_42 rfl rfl ?_
      refine tw_iload_n 1 dX5_worldFact_43 rfl rfl ?_
      obtain ⟨e53, f54, td_55, ca_56, ha_57, da_58, c1_59, c2_60, c3_61, c4_62, rfl, k63, k64, k65, k66, k67, k68, k69, k70, k71, k72, k73⟩ := sp0.1 x 11 kx (by decide)
      refine tw_bi (tw_callV (M := mX5_worldFact) (pc := 44) okX5_inPurses dX5_worldFact_44 w_193 rfl f54 [.int m] [] rfl rfl ⟨by decide, by decide⟩ (Nat.le_of_ble_eq_true rfl) (c_X5_inPurses d g τ h sp0.1 x kx m) 0 0 (Nat.le_of_ble_eq_true rfl) (Nat.le_of_ble_eq_true rfl)) (fun r76 h75 q74 => ?_) (fun E h1 q => q.elim)
      rw [q74]
      exact tw_iret dX5_worldFact_47 rfl (Or.inl ⟨_, rfl, rfl⟩)
    · refine tw_tabIn (off := 47) 48 dX5_worldFact_1 csl csh (by rw [cs1]; rfl) (by decide) ?_
      refine tw_aload_n 0 dX5_worldFact_48 rfl rfl ?_
      obtain ⟨e77, f78, td_79, ca_80, ha_81, da_82, c1_83, c2_84, c3_85, c4_86, rfl, k87, k88, k89, k90, k91, k92, k93, k94, k95, k96, k97⟩ := sp0.1 x 11 kx (by decide)
      refine tw_get (v := .ref c1_83) rfl in_9 8 dX5_worldFact_49 w_148 rfl (by decide) f78 rfl ?_
      refine tw_iload_n 1 dX5_worldFact_52 rfl rfl ?_
      obtain ⟨e98, f99, a_100, b_101, rfl⟩ := sp0.1 c1_83 1 k90 (by decide)
      refine tw_bi (tw_callVN (M := mX5_worldFact) (pc := 53) okX3_of dX5_worldFact_53 w_189 rfl f99 [.int m] [] rfl rfl ⟨by decide, by decide⟩ (Nat.le_of_ble_eq_true rfl) (c_X3_of d g τ h sp0.1 c1_83 k90 m) 0 0 (Nat.le_of_ble_eq_true rfl) (Nat.le_of_ble_eq_true rfl)) (fun r104 h103 q102 => ?_) (fun E h1 q => q.elim)
      rw [q102]
      exact tw_iret dX5_worldFact_56 rfl (Or.inl ⟨_, rfl, rfl⟩)
    · refine tw_tabIn (off := 56) 57 dX5_worldFact_1 csl csh (by rw [cs1]; rfl) (by decide) ?_
      refine tw_aload_n 0 dX5_worldFact_57 rfl rfl ?_
      obtain ⟨e105, f106, td_107, ca_108, ha_109, da_110, c1_111, c2_112, c3_113, c4_114, rfl, k115, k116, k117, k118, k119, k120, k121, k122, k123, k124, k125⟩ := sp0.1 x 11 kx (by decide)
      refine tw_get (v := .ref c2_112) rfl in_9 9 dX5_worldFact_58 w_149 rfl (by decide) f106 rfl ?_
      refine tw_iload_n 1 dX5_worldFact_61 rfl rfl ?_
      obtain ⟨e126, f127, a_128, b_129, rfl⟩ := sp0.1 c2_112 1 k119 (by decide)
      refine tw_bi (tw_callVN (M := mX5_worldFact) (pc := 62) okX3_of dX5_worldFact_62 w_189 rfl f127 [.int m] [] rfl rfl ⟨by decide, by decide⟩ (Nat.le_of_ble_eq_true rfl) (c_X3_of d g τ h sp0.1 c2_112 k119 m) 0 0 (Nat.le_of_ble_eq_true rfl) (Nat.le_of_ble_eq_true rfl)) (fun r132 h131 q130 => ?_) (fun E h1 q => q.elim)
      rw [q130]
      exact tw_iret dX5_worldFact_65 rfl (Or.inl ⟨_, rfl, rfl⟩)
    · refine tw_tabIn (off := 65) 66 dX5_worldFact_1 csl csh (by rw [cs1]; rfl) (by decide) ?_
      refine tw_aload_n 0 dX5_worldFact_66 rfl rfl ?_
      obtain ⟨e133, f134, td_135, ca_136, ha_137, da_138, c1_139, c2_140, c3_141, c4_142, rfl, k143, k144, k145, k146, k147, k148, k149, k150, k151, k152, k153⟩ := sp0.1 x 11 kx (by decide)
      refine tw_get (v := .ref c3_141) rfl in_9 10 dX5_worldFact_67 w_150 rfl (by decide) f134 rfl ?_
      refine tw_iload_n 1 dX5_worldFact_70 rfl rfl ?_
      obtain ⟨e154, f155, a_156, b_157, rfl⟩ := sp0.1 c3_141 1 k148 (by decide)
      refine tw_bi (tw_callVN (M := mX5_worldFact) (pc := 71) okX3_of dX5_worldFact_71 w_189 rfl f155 [.int m] [] rfl rfl ⟨by decide, by decide⟩ (Nat.le_of_ble_eq_true rfl) (c_X3_of d g τ h sp0.1 c3_141 k148 m) 0 0 (Nat.le_of_ble_eq_true rfl) (Nat.le_of_ble_eq_true rfl)) (fun r160 h159 q158 => ?_) (fun E h1 q => q.elim)
      rw [q158]
      exact tw_iret dX5_worldFact_74 rfl (Or.inl ⟨_, rfl, rfl⟩)

set_option maxHeartbeats 4000000 in
set_option maxRecDepth 100000 in
theorem c_X5_world (d : tw_D) (g : tw_G) (τ : tw_K) (h : tw_H) (hw : tw_wt d g τ h) (x : Nat) (kx : τ x = 11) (m : Int32) (w : Int32) : tw_Ct d mX5_world 20 120 [.ref x, .int m, .int w] h (tw_qi (fun r h1 => h1 = h) (fun E h1 => (E = tw_IAE) ∧ h1 = h)) := by
  refine tw_of (by decide +kernel) (Nat.le_of_ble_eq_true rfl) ?_
  show tw_W d mX5_world _ 0 [(0, .ref x), (1, .int m), (2, .int w)] [] h 20 120
  have sp0 := tw_sp.rf hw
  refine tw_iload_n 1 dX5_world_0 rfl rfl ?_
  refine tw_bv (tw_callS (M := mX5_world) (pc := 1) okX5_needMetal dX5_world_1 w_573 [.int m] [] rfl rfl ⟨by decide, by decide⟩ (Nat.le_of_ble_eq_true rfl) (c_X5_needMetal d g τ h sp0.1 m) 19 114 (Nat.le_of_ble_eq_true rfl) (Nat.le_of_ble_eq_true rfl)) (fun h2 q1 => ?_) (fun E h1 q => Or.inr ⟨E, rfl, (q.1), q.2⟩)
  obtain ⟨q1e, p4⟩ := q1
  rw [q1e]
  refine tw_iload_n 2 dX5_world_4 rfl rfl ?_
  refine tw_iconst (v := 0) dX5_world_5 (by decide) ?_
  refine tw_iconst (v := 5) dX5_world_6 (by decide) ?_
  refine tw_bv (tw_callS (M := mX5_world) (pc := 7) okX5_needRange dX5_world_7 w_399 [.int w, .int 0, .int 5] [] rfl rfl ⟨by decide, by decide⟩ (Nat.le_of_ble_eq_true rfl) (c_X5_needRange d g τ h sp0.1 w 0 5) 18 108 (Nat.le_of_ble_eq_true rfl) (Nat.le_of_ble_eq_true rfl)) (fun h6 q5 => ?_) (fun E h1 q => Or.inr ⟨E, rfl, (q.1), q.2⟩)
  obtain ⟨q5e, p8⟩ := q5
  rw [q5e]
  refine tw_aload_n 0 dX5_world_10 rfl rfl ?_
  refine tw_iload_n 1 dX5_world_11 rfl rfl ?_
  refine tw_iload_n 2 dX5_world_12 rfl rfl ?_
  obtain ⟨e9, f10, td_11, ca_12, ha_13, da_14, c1_15, c2_16, c3_17, c4_18, rfl, k19, k20, k21, k22, k23, k24, k25, k26, k27, k28, k29⟩ := sp0.1 x 11 kx (by decide)
  refine tw_bi (tw_callV (M := mX5_world) (pc := 13) okX5_worldFact dX5_world_13 w_245 rfl f10 [.int m, .int w] [] rfl rfl ⟨by decide, by decide⟩ (Nat.le_of_ble_eq_true rfl) (c_X5_worldFact d g τ h sp0.1 x kx m w) 18 108 (Nat.le_of_ble_eq_true rfl) (Nat.le_of_ble_eq_true rfl)) (fun r32 h31 q30 => ?_) (fun E h1 q => q.elim)
  rw [q30]
  exact tw_iret dX5_world_16 rfl (Or.inl ⟨_, rfl, rfl⟩)

set_option maxHeartbeats 4000000 in
set_option maxRecDepth 100000 in
theorem c_X5_comesOfTrip (d : tw_D) (g : tw_G) (τ : tw_K) (h : tw_H) (hw : tw_wt d g τ h) (a : Nat) (ka : τ a = 2) (b : Nat) (kb : τ b = 2) (m : Int32) (gr : Int32) : tw_Ct d mX5_comesOfTrip 0 0 [.ref a, .ref b, .int m, .int gr] h (tw_qi (fun r h1 => h1 = h) tw_nx) := by
  refine tw_of (by decide +kernel) (Nat.le_of_ble_eq_true rfl) ?_
  show tw_W d mX5_comesOfTrip _ 0 [(0, .ref a), (1, .ref b), (2, .int m), (3, .int gr)] [] h 0 0
  have sp0 := tw_sp.rf hw
  refine tw_aload_n 0 dX5_comesOfTrip_0 rfl rfl ?_
  refine tw_aload_n 1 dX5_comesOfTrip_1 rfl rfl ?_
  obtain ⟨e1, f2, n_3, r_4, c_5, go_6, so_7, v_8, rd_9, rf_10, t_11, rfl, k12, k13, k14, k15, k16, k17, k18, k19⟩ := sp0.1 b 2 kb (by decide)
  refine tw_getN (v := .int n_3) rfl in_4 0 dX5_comesOfTrip_2 w_502 rfl (by decide) f2 rfl ?_
  obtain ⟨e20, f21, n_22, r_23, c_24, go_25, so_26, v_27, rd_28, rf_29, t_30, rfl, k31, k32, k33, k34, k35, k36, k37, k38⟩ := sp0.1 a 2 ka (by decide)
  refine tw_bi (tw_callVN (M := mX5_comesOfTrip) (pc := 5) okX0_freightTo dX5_comesOfTrip_5 w_231 rfl f21 [.int n_3] [] rfl rfl ⟨by decide, by decide⟩ (Nat.le_of_ble_eq_true rfl) (c_X0_freightTo d g τ h sp0.1 a ka n_3) 0 0 (Nat.le_of_ble_eq_true rfl) (Nat.le_of_ble_eq_true rfl)) (fun r41 h40 q39 => ?_) (fun E h1 q => q.elim)
  rw [q39]
  refine tw_istore [(4, .int r41), (0, .ref a), (1, .ref b), (2, .int m), (3, .int gr)] dX5_comesOfTrip_8 (by decide) rfl ?_
  refine tw_aload_n 1 dX5_comesOfTrip_10 rfl rfl ?_
  refine tw_iload_n 3 dX5_comesOfTrip_11 rfl rfl ?_
  refine tw_iload_n 4 dX5_comesOfTrip_12 rfl rfl ?_
  refine tw_bi (tw_callVN (M := mX5_comesOfTrip) (pc := 13) okX0_minted dX5_comesOfTrip_13 w_299 rfl f21 [.int m, .int gr] [] rfl rfl ⟨by decide, by decide⟩ (Nat.le_of_ble_eq_true rfl) (c_X0_minted d g τ h sp0.1 a ka m gr) 0 0 (Nat.le_of_ble_eq_true rfl) (Nat.le_of_ble_eq_true rfl)) (fun r44 h43 q42 => ?_) (fun E h1 q => q.elim)
  rw [q42]
  refine tw_istore [(5, .int r44), (4, .int r41), (0, .ref a), (1, .ref b), (2, .int m), (3, .int gr)] dX5_comesOfTrip_16 (by decide) rfl ?_
  refine tw_iload 0 dX5_comesOfTrip_18 rfl ?_
  refine tw_iload 0 dX5_comesOfTrip_20 rfl ?_
  refine tw_iload 1 dX5_comesOfTrip_22 rfl ?_
  refine tw_bi (tw_callS (M := mX5_comesOfTrip) (pc := 24) okX5_thousandthsRoundedUp dX5_comesOfTrip_24 w_317 [.int r44, .int r41] [.int r44] rfl rfl ⟨by decide, by decide⟩ (Nat.le_of_ble_eq_true rfl) (c_X5_thousandthsRoundedUp d g τ h sp0.1 r44 r41) 0 0 (Nat.le_of_ble_eq_true rfl) (Nat.le_of_ble_eq_true rfl)) (fun r47 h46 q45 => ?_) (fun E h1 q => q.elim)
  rw [q45]
  refine tw_isub dX5_comesOfTrip_27 ?_
  refine tw_nmi (fun v48 ev48 => ?_)
  refine tw_istore [(6, .int v48), (5, .int r44), (4, .int r41), (0, .ref a), (1, .ref b), (2, .int m), (3, .int gr)] dX5_comesOfTrip_28 (by decide) rfl ?_
  refine tw_aload_n 4 dX5_comesOfTrip_30 rfl rfl ?_
  refine tw_iload_n 5 dX5_comesOfTrip_31 rfl rfl ?_
  refine tw_bi (tw_callS (M := mX5_comesOfTrip) (pc := 32) okX5_otherMetal dX5_comesOfTrip_32 w_318 [.int m] [.ref b] rfl rfl ⟨by decide, by decide⟩ (Nat.le_of_ble_eq_true rfl) (c_X5_otherMetal d g τ h sp0.1 m) 0 0 (Nat.le_of_ble_eq_true rfl) (Nat.le_of_ble_eq_true rfl)) (fun r51 h50 q49 => ?_) (fun E h1 q => q.elim)
  obtain ⟨q49e, p52⟩ := q49
  rw [q49e]
  refine tw_iload 0 dX5_comesOfTrip_35 rfl ?_
  refine tw_bi (tw_callVN (M := mX5_comesOfTrip) (pc := 37) okX0_minted dX5_comesOfTrip_37 w_299 rfl f2 [.int r51, .int v48] [] rfl rfl ⟨by decide, by decide⟩ (Nat.le_of_ble_eq_true rfl) (c_X0_minted d g τ h sp0.1 b kb r51 v48) 0 0 (Nat.le_of_ble_eq_true rfl) (Nat.le_of_ble_eq_true rfl)) (fun r55 h54 q53 => ?_) (fun E h1 q => q.elim)
  rw [q53]
  refine tw_istore [(7, .int r55), (6, .int v48), (5, .int r44), (4, .int r41), (0, .ref a), (1, .ref b), (2, .int m), (3, .int gr)] dX5_comesOfTrip_40 (by decide) rfl ?_
  refine tw_iload 0 dX5_comesOfTrip_42 rfl ?_
  refine tw_iload 0 dX5_comesOfTrip_44 rfl ?_
  refine tw_iload 3 dX5_comesOfTrip_46 rfl ?_
  refine tw_bi (tw_callS (M := mX5_comesOfTrip) (pc := 48) okX5_thousandthsRoundedUp dX5_comesOfTrip_48 w_317 [.int r55, .int r41] [.int r55] rfl rfl ⟨by decide, by decide⟩ (Nat.le_of_ble_eq_true rfl) (c_X5_thousandthsRoundedUp d g τ h sp0.1 r55 r41) 0 0 (Nat.le_of_ble_eq_true rfl) (Nat.le_of_ble_eq_true rfl)) (fun r58 h57 q56 => ?_) (fun E h1 q => q.elim)
  rw [q56]
  refine tw_isub dX5_comesOfTrip_51 ?_
  refine tw_nmi (fun v59 ev59 => ?_)
  exact tw_iret dX5_comesOfTrip_52 rfl (Or.inl ⟨_, rfl, rfl⟩)

set_option maxHeartbeats 4000000 in
set_option maxRecDepth 100000 in
theorem c_X5_trip (d : tw_D) (g : tw_G) (τ : tw_K) (h : tw_H) (hw : tw_wt d g τ h) (x : Nat) (kx : τ x = 11) (a : Int32) (b : Int32) (m : Int32) (gr : Int32) : tw_Ct d mX5_trip 20 120 [.ref x, .int a, .int b, .int m, .int gr] h (tw_qi (fun r h1 => h1 = h) (fun E h1 => (E = tw_IOE ∨ E = tw_IAE) ∧ h1 = h)) := by
  refine tw_of (by decide +kernel) (Nat.le_of_ble_eq_true rfl) ?_
  show tw_W d mX5_trip _ 0 [(0, .ref x), (1, .int a), (2, .int b), (3, .int m), (4, .int gr)] [] h 20 120
  have sp0 := tw_sp.rf hw
  refine tw_aload_n 0 dX5_trip_0 rfl rfl ?_
  refine tw_iload_n 1 dX5_trip_1 rfl rfl ?_
  obtain ⟨e1, f2, td_3, ca_4, ha_5, da_6, c1_7, c2_8, c3_9, c4_10, rfl, k11, k12, k13, k14, k15, k16, k17, k18, k19, k20, k21⟩ := sp0.1 x 11 kx (by decide)
  refine tw_br (tw_callV (M := mX5_trip) (pc := 2) okX5_countryAt dX5_trip_2 w_546 rfl f2 [.int a] [] rfl rfl ⟨by decide, by decide⟩ (Nat.le_of_ble_eq_true rfl) (c_X5_countryAt d g τ h sp0.1 x kx a) 19 114 (Nat.le_of_ble_eq_true rfl) (Nat.le_of_ble_eq_true rfl)) (fun r24 h23 q22 => ?_) (fun E h1 q => Or.inr ⟨E, rfl, (Or.inl q.1), q.2⟩)
  obtain ⟨q22e, p25⟩ := q22
  rw [q22e]
  refine tw_astore [(5, .ref r24), (0, .ref x), (1, .int a), (2, .int b), (3, .int m), (4, .int gr)] dX5_trip_5 (by decide) rfl ?_
  refine tw_aload_n 1 dX5_trip_7 rfl rfl ?_
  refine tw_iload_n 3 dX5_trip_8 rfl rfl ?_
  refine tw_br (tw_callV (M := mX5_trip) (pc := 9) okX5_countryAt dX5_trip_9 w_546 rfl f2 [.int b] [] rfl rfl ⟨by decide, by decide⟩ (Nat.le_of_ble_eq_true rfl) (c_X5_countryAt d g τ h sp0.1 x kx b) 18 108 (Nat.le_of_ble_eq_true rfl) (Nat.le_of_ble_eq_true rfl)) (fun r28 h27 q26 => ?_) (fun E h1 q => Or.inr ⟨E, rfl, (Or.inl q.1), q.2⟩)
  obtain ⟨q26e, p29⟩ := q26
  rw [q26e]
  refine tw_astore [(6, .ref r28), (5, .ref r24), (0, .ref x), (1, .int a), (2, .int b), (3, .int m), (4, .int gr)] dX5_trip_12 (by decide) rfl ?_
  refine tw_iload_n 3 dX5_trip_14 rfl rfl ?_
  refine tw_iload_n 4 dX5_trip_15 rfl rfl ?_
  refine tw_bv (tw_callS (M := mX5_trip) (pc := 16) okX5_needDifferent dX5_trip_16 w_599 [.int a, .int b] [] rfl rfl ⟨by decide, by decide⟩ (Nat.le_of_ble_eq_true rfl) (c_X5_needDifferent d g τ h sp0.1 a b) 17 102 (Nat.le_of_ble_eq_true rfl) (Nat.le_of_ble_eq_true rfl)) (fun h31 q30 => ?_) (fun E h1 q => Or.inr ⟨E, rfl, (Or.inr (q.1)), q.2⟩)
  rw [q30]
  refine tw_iload_n 5 dX5_trip_19 rfl rfl ?_
  refine tw_bv (tw_callS (M := mX5_trip) (pc := 20) okX5_needMetal dX5_trip_20 w_573 [.int m] [] rfl rfl ⟨by decide, by decide⟩ (Nat.le_of_ble_eq_true rfl) (c_X5_needMetal d g τ h sp0.1 m) 16 96 (Nat.le_of_ble_eq_true rfl) (Nat.le_of_ble_eq_true rfl)) (fun h34 q33 => ?_) (fun E h1 q => Or.inr ⟨E, rfl, (Or.inr (q.1)), q.2⟩)
  obtain ⟨q33e, p36⟩ := q33
  rw [q33e]
  refine tw_iload 6 dX5_trip_23 rfl ?_
  refine tw_iconst (v := 0) dX5_trip_25 (by decide) ?_
  refine tw_ldc (v := 99999) dX5_trip_26 w_470 ?_
  refine tw_bv (tw_callS (M := mX5_trip) (pc := 28) okX5_needRange dX5_trip_28 w_399 [.int gr, .int 0, .int 99999] [] rfl rfl ⟨by decide, by decide⟩ (Nat.le_of_ble_eq_true rfl) (c_X5_needRange d g τ h sp0.1 gr 0 99999) 15 90 (Nat.le_of_ble_eq_true rfl) (Nat.le_of_ble_eq_true rfl)) (fun h38 q37 => ?_) (fun E h1 q => Or.inr ⟨E, rfl, (Or.inr (q.1)), q.2⟩)
  obtain ⟨q37e, p40⟩ := q37
  rw [q37e]
  refine tw_aload 1 dX5_trip_31 rfl ?_
  refine tw_aload 0 dX5_trip_33 rfl ?_
  refine tw_iload_n 5 dX5_trip_35 rfl rfl ?_
  refine tw_iload 6 dX5_trip_36 rfl ?_
  refine tw_bi (tw_callS (M := mX5_trip) (pc := 38) okX5_comesOfTrip dX5_trip_38 w_296 [.ref r24, .ref r28, .int m, .int gr] [] rfl rfl ⟨by decide, by decide⟩ (Nat.le_of_ble_eq_true rfl) (c_X5_comesOfTrip d g τ h sp0.1 r24 p25 r28 p29 m gr) 15 90 (Nat.le_of_ble_eq_true rfl) (Nat.le_of_ble_eq_true rfl)) (fun r43 h42 q41 => ?_) (fun E h1 q => q.elim)
  rw [q41]
  exact tw_iret dX5_trip_41 rfl (Or.inl ⟨_, rfl, rfl⟩)

set_option maxHeartbeats 4000000 in
set_option maxRecDepth 100000 in
theorem c_X5_bestOver (d : tw_D) (g : tw_G) (τ : tw_K) (h : tw_H) (hw : tw_wt d g τ h) (x : Nat) (kx : τ x = 11) (a : Nat) (ka : τ a = 2) (m : Int32) (gr : Int32) : tw_Ct d mX5_bestOver 0 0 [.ref x, .ref a, .int m, .int gr] h (tw_qi (fun r h1 => h1 = h) tw_nx) := by
  refine tw_of (by decide +kernel) (Nat.le_of_ble_eq_true rfl) ?_
  show tw_W d mX5_bestOver _ 0 [(0, .ref x), (1, .ref a), (2, .int m), (3, .int gr)] [] h 0 0
  have sp0 := tw_sp.rf hw
  refine tw_iconst (v := -1) dX5_bestOver_0 (by decide) ?_
  refine tw_istore [(4, .int (-1)), (0, .ref x), (1, .ref a), (2, .int m), (3, .int gr)] dX5_bestOver_1 (by decide) rfl ?_
  refine tw_iload_n 4 dX5_bestOver_3 rfl rfl ?_
  refine tw_istore [(5, .int gr), (4, .int (-1)), (0, .ref x), (1, .ref a), (2, .int m), (3, .int gr)] dX5_bestOver_4 (by decide) rfl ?_
  refine tw_aload_n 2 dX5_bestOver_6 rfl rfl ?_
  obtain ⟨e1, f2, td_3, ca_4, ha_5, da_6, c1_7, c2_8, c3_9, c4_10, rfl, k11, k12, k13, k14, k15, k16, k17, k18, k19, k20, k21⟩ := sp0.1 x 11 kx (by decide)
  refine tw_get (v := .ref ca_4) rfl in_9 2 dX5_bestOver_7 w_142 rfl (by decide) f2 rfl ?_
  refine tw_astore [(6, .ref ca_4), (5, .int gr), (4, .int (-1)), (0, .ref x), (1, .ref a), (2, .int m), (3, .int gr)] dX5_bestOver_10 (by decide) rfl ?_
  refine tw_aload 0 dX5_bestOver_12 rfl ?_
  obtain ⟨e22, f23, F24, rfl, k25, pn26, pb27, px28⟩ := sp0.1 ca_4 8 k11 (by decide)
  refine tw_alen (v := nI 4) 4 rfl dX5_bestOver_14 f23 rfl ?_
  refine tw_istore [(7, .int (nI 4)), (6, .ref ca_4), (5, .int gr), (4, .int (-1)), (0, .ref x), (1, .ref a), (2, .int m), (3, .int gr)] dX5_bestOver_15 (by decide) rfl ?_
  refine tw_iconst (v := 0) dX5_bestOver_17 (by decide) ?_
  refine tw_istore [(8, .int 0), (7, .int (nI 4)), (6, .ref ca_4), (5, .int gr), (4, .int (-1)), (0, .ref x), (1, .ref a), (2, .int m), (3, .int gr)] dX5_bestOver_18 (by decide) rfl ?_
  have L34 : ∀ (r32 k31 : Nat) (x29 : Int32) (x30 : Int32), 4 + 1 ≤ k31 + r32 → k31 ≤ 4 → tw_W d mX5_bestOver (tw_qi (fun r h1 => h1 = h) tw_nx) 20 [(0, .ref x), (1, .ref a), (2, .int m), (3, .int gr), (4, .int x29), (5, .int x30), (6, .ref ca_4), (7, .int (nI 4)), (8, .int (nI k31))] [] h 0 0 := by
    intro r32
    induction r32 with
    | zero => intro k31 x29 x30 hk38 hk39; exact absurd hk38 (by omega)
    | succ r32 ih33 =>
      intro k31 x29 x30 hk38 hk39
      refine tw_iload 8 dX5_bestOver_20 rfl ?_
      refine tw_iload 7 dX5_bestOver_22 rfl ?_
      refine tw_icmp_ge 79 dX5_bestOver_24 (by decide) (fun c40 => ?_) (fun c40 => ?_)
      · refine tw_iload 4 dX5_bestOver_79 rfl ?_
        exact tw_iret dX5_bestOver_81 rfl (Or.inl ⟨_, rfl, rfl⟩)
      · have kl41 := tw_klt (N := 4) c40 hk39 (by decide)
        refine tw_aload 6 dX5_bestOver_27 rfl ?_
        refine tw_iload 8 dX5_bestOver_29 rfl ?_
        cases k42 : F24 ((nI k31)).toNatClampNeg with
        | none =>
          refine tw_aald (v := .null) 4 rfl rfl dX5_bestOver_31 f23 (vp_in_nI (by omega) (by decide)) (by rw [k42]; rfl) ?_
          refine tw_astoreN [(9, .null), (0, .ref x), (1, .ref a), (2, .int m), (3, .int gr), (4, .int x29), (5, .int x30), (6, .ref ca_4), (7, .int (nI 4)), (8, .int (nI k31))] dX5_bestOver_32 (by decide) rfl ?_
          refine tw_aloadN 0 dX5_bestOver_34 rfl ?_
          refine tw_ifnullN 73 dX5_bestOver_36 (by decide) ?_
          obtain ⟨v44, ev44⟩ : ∃ y : Int32, y = (nI k31) + 1 := ⟨_, rfl⟩
          refine tw_iinc [(8, .int v44), (9, .null), (0, .ref x), (1, .ref a), (2, .int m), (3, .int gr), (4, .int x29), (5, .int x30), (6, .ref ca_4), (7, .int (nI 4))] 9 dX5_bestOver_73 rfl (by rw [ev44]; rfl) (by decide) rfl ?_
          refine tw_goto 20 dX5_bestOver_76 (by decide) ?_
          have qv44 := tw_nI3 ev44
          rw [qv44]
          refine tw_lv [2, 3, 4, 5, 6, 7, 8, 9, 0] rfl ?_
          exact ih33 (k31 + 1) x29 x30 (by omega) (by omega)
        | some q43 =>
          have k45 := k25 _ _ k42
          refine tw_aald (v := .ref q43) 4 rfl rfl dX5_bestOver_31 f23 (vp_in_nI (by omega) (by decide)) (by rw [k42]; rfl) ?_
          refine tw_astore [(9, .ref q43), (0, .ref x), (1, .ref a), (2, .int m), (3, .int gr), (4, .int x29), (5, .int x30), (6, .ref ca_4), (7, .int (nI 4)), (8, .int (nI k31))] dX5_bestOver_32 (by decide) rfl ?_
          refine tw_aload 0 dX5_bestOver_34 rfl ?_
          refine tw_ifnull dX5_bestOver_36 ?_
          refine tw_aload 0 dX5_bestOver_39 rfl ?_
          refine tw_aload_n 2 dX5_bestOver_41 rfl rfl ?_
          refine tw_acmp_eq (rx := (some q43)) (ry := (some a)) 73 dX5_bestOver_42 (by decide) (fun c46 => ?_) (fun c46 => ?_)
          · obtain ⟨v47, ev47⟩ : ∃ y : Int32, y = (nI k31) + 1 := ⟨_, rfl⟩
            refine tw_iinc [(8, .int v47), (9, .ref q43), (0, .ref x), (1, .ref a), (2, .int m), (3, .int gr), (4, .int x29), (5, .int x30), (6, .ref ca_4), (7, .int (nI 4))] 9 dX5_bestOver_73 rfl (by rw [ev47]; rfl) (by decide) rfl ?_
            refine tw_goto 20 dX5_bestOver_76 (by decide) ?_
            have qv47 := tw_nI3 ev47
            rw [qv47]
            refine tw_lv [2, 3, 4, 5, 6, 7, 8, 9, 0] rfl ?_
            exact ih33 (k31 + 1) x29 x30 (by omega) (by omega)
          · refine tw_aload_n 2 dX5_bestOver_45 rfl rfl ?_
            refine tw_aload 0 dX5_bestOver_46 rfl ?_
            refine tw_iload_n 3 dX5_bestOver_48 rfl rfl ?_
            refine tw_iload_n 4 dX5_bestOver_49 rfl rfl ?_
            refine tw_bi (tw_callS (M := mX5_bestOver) (pc := 50) okX5_comesOfTrip dX5_bestOver_50 w_296 [.ref a, .ref q43, .int m, .int gr] [] rfl rfl ⟨by decide, by decide⟩ (Nat.le_of_ble_eq_true rfl) (c_X5_comesOfTrip d g τ h sp0.1 a ka q43 k45 m gr) 0 0 (Nat.le_of_ble_eq_true rfl) (Nat.le_of_ble_eq_true rfl)) (fun r50 h49 q48 => ?_) (fun E h1 q => q.elim)
            rw [q48]
            refine tw_istore [(10, .int r50), (9, .ref q43), (0, .ref x), (1, .ref a), (2, .int m), (3, .int gr), (4, .int x29), (5, .int x30), (6, .ref ca_4), (7, .int (nI 4)), (8, .int (nI k31))] dX5_bestOver_53 (by decide) rfl ?_
            refine tw_iload 0 dX5_bestOver_55 rfl ?_
            refine tw_iload 7 dX5_bestOver_57 rfl ?_
            refine tw_icmp_le 73 dX5_bestOver_59 (by decide) (fun c51 => ?_) (fun c51 => ?_)
            · obtain ⟨v52, ev52⟩ : ∃ y : Int32, y = (nI k31) + 1 := ⟨_, rfl⟩
              refine tw_iinc [(8, .int v52), (10, .int r50), (9, .ref q43), (0, .ref x), (1, .ref a), (2, .int m), (3, .int gr), (4, .int x29), (5, .int x30), (6, .ref ca_4), (7, .int (nI 4))] 10 dX5_bestOver_73 rfl (by rw [ev52]; rfl) (by decide) rfl ?_
              refine tw_goto 20 dX5_bestOver_76 (by decide) ?_
              have qv52 := tw_nI3 ev52
              rw [qv52]
              refine tw_lv [3, 4, 5, 6, 7, 8, 9, 10, 0] rfl ?_
              exact ih33 (k31 + 1) x29 x30 (by omega) (by omega)
            · refine tw_iload 0 dX5_bestOver_62 rfl ?_
              refine tw_istore [(5, .int r50), (10, .int r50), (9, .ref q43), (0, .ref x), (1, .ref a), (2, .int m), (3, .int gr), (4, .int x29), (6, .ref ca_4), (7, .int (nI 4)), (8, .int (nI k31))] dX5_bestOver_64 (by decide) rfl ?_
              refine tw_aload 2 dX5_bestOver_66 rfl ?_
              obtain ⟨e53, f54, n_55, r_56, c_57, go_58, so_59, v_60, rd_61, rf_62, t_63, rfl, k64, k65, k66, k67, k68, k69, k70, k71⟩ := sp0.1 q43 2 k45 (by decide)
              refine tw_getN (v := .int n_55) rfl in_4 0 dX5_bestOver_68 w_502 rfl (by decide) f54 rfl ?_
              refine tw_istore [(4, .int n_55), (5, .int r50), (10, .int r50), (9, .ref q43), (0, .ref x), (1, .ref a), (2, .int m), (3, .int gr), (6, .ref ca_4), (7, .int (nI 4)), (8, .int (nI k31))] dX5_bestOver_71 (by decide) rfl ?_
              obtain ⟨v72, ev72⟩ : ∃ y : Int32, y = (nI k31) + 1 := ⟨_, rfl⟩
              refine tw_iinc [(8, .int v72), (4, .int n_55), (5, .int r50), (10, .int r50), (9, .ref q43), (0, .ref x), (1, .ref a), (2, .int m), (3, .int gr), (6, .ref ca_4), (7, .int (nI 4))] 10 dX5_bestOver_73 rfl (by rw [ev72]; rfl) (by decide) rfl ?_
              refine tw_goto 20 dX5_bestOver_76 (by decide) ?_
              have qv72 := tw_nI3 ev72
              rw [qv72]
              refine tw_lv [5, 6, 7, 8, 1, 2, 9, 10, 0] rfl ?_
              exact ih33 (k31 + 1) n_55 r50 (by omega) (by omega)
  refine tw_lv [5, 6, 7, 8, 4, 3, 2, 1, 0] rfl ?_
  exact L34 (4 + 1) 0 (-1) gr (by omega) (by omega)

set_option maxHeartbeats 4000000 in
set_option maxRecDepth 100000 in
theorem c_X5_bestTrip (d : tw_D) (g : tw_G) (τ : tw_K) (h : tw_H) (hw : tw_wt d g τ h) (x : Nat) (kx : τ x = 11) (a : Int32) (m : Int32) (gr : Int32) : tw_Ct d mX5_bestTrip 20 120 [.ref x, .int a, .int m, .int gr] h (tw_qi (fun r h1 => h1 = h) (fun E h1 => (E = tw_IOE ∨ E = tw_IAE) ∧ h1 = h)) := by
  refine tw_of (by decide +kernel) (Nat.le_of_ble_eq_true rfl) ?_
  show tw_W d mX5_bestTrip _ 0 [(0, .ref x), (1, .int a), (2, .int m), (3, .int gr)] [] h 20 120
  have sp0 := tw_sp.rf hw
  refine tw_aload_n 0 dX5_bestTrip_0 rfl rfl ?_
  refine tw_iload_n 1 dX5_bestTrip_1 rfl rfl ?_
  obtain ⟨e1, f2, td_3, ca_4, ha_5, da_6, c1_7, c2_8, c3_9, c4_10, rfl, k11, k12, k13, k14, k15, k16, k17, k18, k19, k20, k21⟩ := sp0.1 x 11 kx (by decide)
  refine tw_br (tw_callV (M := mX5_bestTrip) (pc := 2) okX5_countryAt dX5_bestTrip_2 w_546 rfl f2 [.int a] [] rfl rfl ⟨by decide, by decide⟩ (Nat.le_of_ble_eq_true rfl) (c_X5_countryAt d g τ h sp0.1 x kx a) 19 114 (Nat.le_of_ble_eq_true rfl) (Nat.le_of_ble_eq_true rfl)) (fun r24 h23 q22 => ?_) (fun E h1 q => Or.inr ⟨E, rfl, (Or.inl q.1), q.2⟩)
  obtain ⟨q22e, p25⟩ := q22
  rw [q22e]
  refine tw_astore [(4, .ref r24), (0, .ref x), (1, .int a), (2, .int m), (3, .int gr)] dX5_bestTrip_5 (by decide) rfl ?_
  refine tw_iload_n 3 dX5_bestTrip_7 rfl rfl ?_
  refine tw_bv (tw_callS (M := mX5_bestTrip) (pc := 8) okX5_needMetal dX5_bestTrip_8 w_573 [.int m] [] rfl rfl ⟨by decide, by decide⟩ (Nat.le_of_ble_eq_true rfl) (c_X5_needMetal d g τ h sp0.1 m) 18 108 (Nat.le_of_ble_eq_true rfl) (Nat.le_of_ble_eq_true rfl)) (fun h27 q26 => ?_) (fun E h1 q => Or.inr ⟨E, rfl, (Or.inr (q.1)), q.2⟩)
  obtain ⟨q26e, p29⟩ := q26
  rw [q26e]
  refine tw_iload_n 4 dX5_bestTrip_11 rfl rfl ?_
  refine tw_iconst (v := 0) dX5_bestTrip_12 (by decide) ?_
  refine tw_ldc (v := 99999) dX5_bestTrip_13 w_470 ?_
  refine tw_bv (tw_callS (M := mX5_bestTrip) (pc := 15) okX5_needRange dX5_bestTrip_15 w_399 [.int gr, .int 0, .int 99999] [] rfl rfl ⟨by decide, by decide⟩ (Nat.le_of_ble_eq_true rfl) (c_X5_needRange d g τ h sp0.1 gr 0 99999) 17 102 (Nat.le_of_ble_eq_true rfl) (Nat.le_of_ble_eq_true rfl)) (fun h31 q30 => ?_) (fun E h1 q => Or.inr ⟨E, rfl, (Or.inr (q.1)), q.2⟩)
  obtain ⟨q30e, p33⟩ := q30
  rw [q30e]
  refine tw_aload_n 1 dX5_bestTrip_18 rfl rfl ?_
  refine tw_aload 0 dX5_bestTrip_19 rfl ?_
  refine tw_iload_n 3 dX5_bestTrip_21 rfl rfl ?_
  refine tw_iload_n 4 dX5_bestTrip_22 rfl rfl ?_
  refine tw_bi (tw_callV (M := mX5_bestTrip) (pc := 23) okX5_bestOver dX5_bestTrip_23 w_292 rfl f2 [.ref r24, .int m, .int gr] [] rfl rfl ⟨by decide, by decide⟩ (Nat.le_of_ble_eq_true rfl) (c_X5_bestOver d g τ h sp0.1 x kx r24 p25 m gr) 17 102 (Nat.le_of_ble_eq_true rfl) (Nat.le_of_ble_eq_true rfl)) (fun r36 h35 q34 => ?_) (fun E h1 q => q.elim)
  rw [q34]
  exact tw_iret dX5_bestTrip_26 rfl (Or.inl ⟨_, rfl, rfl⟩)

set_option maxHeartbeats 4000000 in
set_option maxRecDepth 100000 in
theorem c_X5_isRest (d : tw_D) (g : tw_G) (τ : tw_K) (h : tw_H) (hw : tw_wt d g τ h) (x : Nat) (kx : τ x = 11) (gr : Int32) : tw_Ct d mX5_isRest 0 0 [.ref x, .int gr] h (tw_qi (fun r h1 => h1 = h ∧ tw_01 r) tw_nx) := by
  refine tw_of (by decide +kernel) (Nat.le_of_ble_eq_true rfl) ?_
  show tw_W d mX5_isRest _ 0 [(0, .ref x), (1, .int gr)] [] h 0 0
  have sp0 := tw_sp.rf hw
  refine tw_aload_n 0 dX5_isRest_0 rfl rfl ?_
  obtain ⟨e1, f2, td_3, ca_4, ha_5, da_6, c1_7, c2_8, c3_9, c4_10, rfl, k11, k12, k13, k14, k15, k16, k17, k18, k19, k20, k21⟩ := sp0.1 x 11 kx (by decide)
  refine tw_get (v := .ref ca_4) rfl in_9 2 dX5_isRest_1 w_142 rfl (by decide) f2 rfl ?_
  refine tw_astore_n [(2, .ref ca_4), (0, .ref x), (1, .int gr)] dX5_isRest_4 rfl (by decide) rfl ?_
  refine tw_aload_n 0 dX5_isRest_5 rfl rfl ?_
  obtain ⟨e22, f23, F24, rfl, k25, pn26, pb27, px28⟩ := sp0.1 ca_4 8 k11 (by decide)
  refine tw_alen (v := nI 4) 4 rfl dX5_isRest_6 f23 rfl ?_
  refine tw_istore_n [(3, .int (nI 4)), (2, .ref ca_4), (0, .ref x), (1, .int gr)] dX5_isRest_7 rfl (by decide) rfl ?_
  refine tw_iconst (v := 0) dX5_isRest_8 (by decide) ?_
  refine tw_istore [(4, .int 0), (3, .int (nI 4)), (2, .ref ca_4), (0, .ref x), (1, .int gr)] dX5_isRest_9 (by decide) rfl ?_
  have L32 : ∀ (r30 k29 : Nat), 4 + 1 ≤ k29 + r30 → k29 ≤ 4 → tw_W d mX5_isRest (tw_qi (fun r h1 => h1 = h ∧ tw_01 r) tw_nx) 11 [(0, .ref x), (1, .int gr), (2, .ref ca_4), (3, .int (nI 4)), (4, .int (nI k29))] [] h 0 0 := by
    intro r30
    induction r30 with
    | zero => intro k29  hk36 hk37; exact absurd hk36 (by omega)
    | succ r30 ih31 =>
      intro k29  hk36 hk37
      refine tw_iload 4 dX5_isRest_11 rfl ?_
      refine tw_iload_n 3 dX5_isRest_13 rfl rfl ?_
      refine tw_icmp_ge 60 dX5_isRest_14 (by decide) (fun c38 => ?_) (fun c38 => ?_)
      · refine tw_iconst (v := 1) dX5_isRest_60 (by decide) ?_
        exact tw_zret dX5_isRest_61 rfl rfl (Or.inl ⟨_, rfl, ⟨rfl, (by unfold tw_01; decide)⟩⟩)
      · have kl39 := tw_klt (N := 4) c38 hk37 (by decide)
        refine tw_aload_n 2 dX5_isRest_17 rfl rfl ?_
        refine tw_iload 4 dX5_isRest_18 rfl ?_
        cases k40 : F24 ((nI k29)).toNatClampNeg with
        | none =>
          refine tw_aald (v := .null) 4 rfl rfl dX5_isRest_20 f23 (vp_in_nI (by omega) (by decide)) (by rw [k40]; rfl) ?_
          refine tw_astoreN [(5, .null), (0, .ref x), (1, .int gr), (2, .ref ca_4), (3, .int (nI 4)), (4, .int (nI k29))] dX5_isRest_21 (by decide) rfl ?_
          refine tw_aloadN 0 dX5_isRest_23 rfl ?_
          refine tw_ifnullN 54 dX5_isRest_25 (by decide) ?_
          obtain ⟨v42, ev42⟩ : ∃ y : Int32, y = (nI k29) + 1 := ⟨_, rfl⟩
          refine tw_iinc [(4, .int v42), (5, .null), (0, .ref x), (1, .int gr), (2, .ref ca_4), (3, .int (nI 4))] 5 dX5_isRest_54 rfl (by rw [ev42]; rfl) (by decide) rfl ?_
          refine tw_goto 11 dX5_isRest_57 (by decide) ?_
          have qv42 := tw_nI3 ev42
          rw [qv42]
          refine tw_lv [2, 3, 4, 5, 0] rfl ?_
          exact ih31 (k29 + 1)  (by omega) (by omega)
        | some q41 =>
          have k43 := k25 _ _ k40
          refine tw_aald (v := .ref q41) 4 rfl rfl dX5_isRest_20 f23 (vp_in_nI (by omega) (by decide)) (by rw [k40]; rfl) ?_
          refine tw_astore [(5, .ref q41), (0, .ref x), (1, .int gr), (2, .ref ca_4), (3, .int (nI 4)), (4, .int (nI k29))] dX5_isRest_21 (by decide) rfl ?_
          refine tw_aload 0 dX5_isRest_23 rfl ?_
          refine tw_ifnull dX5_isRest_25 ?_
          refine tw_aload_n 1 dX5_isRest_28 rfl rfl ?_
          refine tw_aload 0 dX5_isRest_29 rfl ?_
          refine tw_iconst (v := 0) dX5_isRest_31 (by decide) ?_
          refine tw_iload_n 2 dX5_isRest_32 rfl rfl ?_
          refine tw_bi (tw_callV (M := mX5_isRest) (pc := 33) okX5_bestOver dX5_isRest_33 w_292 rfl f2 [.ref q41, .int 0, .int gr] [] rfl rfl ⟨by decide, by decide⟩ (Nat.le_of_ble_eq_true rfl) (c_X5_bestOver d g τ h sp0.1 x kx q41 k43 0 gr) 0 0 (Nat.le_of_ble_eq_true rfl) (Nat.le_of_ble_eq_true rfl)) (fun r46 h45 q44 => ?_) (fun E h1 q => q.elim)
          rw [q44]
          refine tw_iconst (v := -1) dX5_isRest_36 (by decide) ?_
          refine tw_icmp_ne 52 dX5_isRest_37 (by decide) (fun c47 => ?_) (fun c47 => ?_)
          · refine tw_iconst (v := 0) dX5_isRest_52 (by decide) ?_
            exact tw_zret dX5_isRest_53 rfl rfl (Or.inl ⟨_, rfl, ⟨rfl, (by unfold tw_01; decide)⟩⟩)
          · refine tw_aload_n 1 dX5_isRest_40 rfl rfl ?_
            refine tw_aload 0 dX5_isRest_41 rfl ?_
            refine tw_iconst (v := 1) dX5_isRest_43 (by decide) ?_
            refine tw_iload_n 2 dX5_isRest_44 rfl rfl ?_
            refine tw_bi (tw_callV (M := mX5_isRest) (pc := 45) okX5_bestOver dX5_isRest_45 w_292 rfl f2 [.ref q41, .int 1, .int gr] [] rfl rfl ⟨by decide, by decide⟩ (Nat.le_of_ble_eq_true rfl) (c_X5_bestOver d g τ h sp0.1 x kx q41 k43 1 gr) 0 0 (Nat.le_of_ble_eq_true rfl) (Nat.le_of_ble_eq_true rfl)) (fun r50 h49 q48 => ?_) (fun E h1 q => q.elim)
            rw [q48]
            refine tw_iconst (v := -1) dX5_isRest_48 (by decide) ?_
            refine tw_icmp_eq 54 dX5_isRest_49 (by decide) (fun c51 => ?_) (fun c51 => ?_)
            · obtain ⟨v52, ev52⟩ : ∃ y : Int32, y = (nI k29) + 1 := ⟨_, rfl⟩
              refine tw_iinc [(4, .int v52), (5, .ref q41), (0, .ref x), (1, .int gr), (2, .ref ca_4), (3, .int (nI 4))] 5 dX5_isRest_54 rfl (by rw [ev52]; rfl) (by decide) rfl ?_
              refine tw_goto 11 dX5_isRest_57 (by decide) ?_
              have qv52 := tw_nI3 ev52
              rw [qv52]
              refine tw_lv [2, 3, 4, 5, 0] rfl ?_
              exact ih31 (k29 + 1)  (by omega) (by omega)
            · refine tw_iconst (v := 0) dX5_isRest_52 (by decide) ?_
              exact tw_zret dX5_isRest_53 rfl rfl (Or.inl ⟨_, rfl, ⟨rfl, (by unfold tw_01; decide)⟩⟩)
  refine tw_lv [3, 4, 2, 1, 0] rfl ?_
  exact L32 (4 + 1) 0  (by omega) (by omega)

set_option maxHeartbeats 4000000 in
set_option maxRecDepth 100000 in
theorem c_X5_rest (d : tw_D) (g : tw_G) (τ : tw_K) (h : tw_H) (hw : tw_wt d g τ h) (x : Nat) (kx : τ x = 11) (gr : Int32) : tw_Ct d mX5_rest 20 120 [.ref x, .int gr] h (tw_qi (fun r h1 => h1 = h ∧ tw_01 r) (fun E h1 => (E = tw_IAE) ∧ h1 = h)) := by
  refine tw_of (by decide +kernel) (Nat.le_of_ble_eq_true rfl) ?_
  show tw_W d mX5_rest _ 0 [(0, .ref x), (1, .int gr)] [] h 20 120
  have sp0 := tw_sp.rf hw
  refine tw_iload_n 1 dX5_rest_0 rfl rfl ?_
  refine tw_iconst (v := 0) dX5_rest_1 (by decide) ?_
  refine tw_ldc (v := 99999) dX5_rest_2 w_470 ?_
  refine tw_bv (tw_callS (M := mX5_rest) (pc := 4) okX5_needRange dX5_rest_4 w_399 [.int gr, .int 0, .int 99999] [] rfl rfl ⟨by decide, by decide⟩ (Nat.le_of_ble_eq_true rfl) (c_X5_needRange d g τ h sp0.1 gr 0 99999) 19 114 (Nat.le_of_ble_eq_true rfl) (Nat.le_of_ble_eq_true rfl)) (fun h2 q1 => ?_) (fun E h1 q => Or.inr ⟨E, rfl, (q.1), q.2⟩)
  obtain ⟨q1e, p4⟩ := q1
  rw [q1e]
  refine tw_aload_n 0 dX5_rest_7 rfl rfl ?_
  refine tw_iload_n 1 dX5_rest_8 rfl rfl ?_
  obtain ⟨e5, f6, td_7, ca_8, ha_9, da_10, c1_11, c2_12, c3_13, c4_14, rfl, k15, k16, k17, k18, k19, k20, k21, k22, k23, k24, k25⟩ := sp0.1 x 11 kx (by decide)
  refine tw_bi (tw_callV (M := mX5_rest) (pc := 9) okX5_isRest dX5_rest_9 w_369 rfl f6 [.int gr] [] rfl rfl ⟨by decide, by decide⟩ (Nat.le_of_ble_eq_true rfl) (c_X5_isRest d g τ h sp0.1 x kx gr) 19 114 (Nat.le_of_ble_eq_true rfl) (Nat.le_of_ble_eq_true rfl)) (fun r28 h27 q26 => ?_) (fun E h1 q => q.elim)
  obtain ⟨q26e, p29⟩ := q26
  rw [q26e]
  exact tw_zret dX5_rest_12 rfl (tw_nar01 p29) (Or.inl ⟨_, rfl, ⟨rfl, p29⟩⟩)

set_option maxHeartbeats 4000000 in
set_option maxRecDepth 100000 in
theorem c_X5_firstDayShort (d : tw_D) (g : tw_G) (τ : tw_K) (h : tw_H) (hw : tw_wt d g τ h) (x : Nat) (kx : τ x = 11) (v : Nat) (kv : τ v = 1) (m : Int32) (gr : Int32) : tw_Ct d mX5_firstDayShort 0 0 [.ref x, .ref v, .int m, .int gr] h (tw_qi (fun r h1 => h1 = h) tw_nx) := by
  refine tw_of (by decide +kernel) (Nat.le_of_ble_eq_true rfl) ?_
  show tw_W d mX5_firstDayShort _ 0 [(0, .ref x), (1, .ref v), (2, .int m), (3, .int gr)] [] h 0 0
  have sp0 := tw_sp.rf hw
  refine tw_aload_n 1 dX5_firstDayShort_0 rfl rfl ?_
  refine tw_iload_n 2 dX5_firstDayShort_1 rfl rfl ?_
  obtain ⟨e1, f2, a_3, b_4, rfl⟩ := sp0.1 v 1 kv (by decide)
  refine tw_bi (tw_callVN (M := mX5_firstDayShort) (pc := 2) okX3_of dX5_firstDayShort_2 w_189 rfl f2 [.int m] [] rfl rfl ⟨by decide, by decide⟩ (Nat.le_of_ble_eq_true rfl) (c_X3_of d g τ h sp0.1 v kv m) 0 0 (Nat.le_of_ble_eq_true rfl) (Nat.le_of_ble_eq_true rfl)) (fun r7 h6 q5 => ?_) (fun E h1 q => q.elim)
  rw [q5]
  refine tw_istore [(4, .int r7), (0, .ref x), (1, .ref v), (2, .int m), (3, .int gr)] dX5_firstDayShort_5 (by decide) rfl ?_
  refine tw_aload_n 1 dX5_firstDayShort_7 rfl rfl ?_
  obtain ⟨e8, f9, td_10, ca_11, ha_12, da_13, c1_14, c2_15, c3_16, c4_17, rfl, k18, k19, k20, k21, k22, k23, k24, k25, k26, k27, k28⟩ := sp0.1 x 11 kx (by decide)
  refine tw_get (v := .int td_10) rfl in_9 0 dX5_firstDayShort_8 w_140 rfl (by decide) f9 rfl ?_
  refine tw_istore [(5, .int td_10), (4, .int r7), (0, .ref x), (1, .ref v), (2, .int m), (3, .int gr)] dX5_firstDayShort_11 (by decide) rfl ?_
  have L33 : ∀ (r31 : Nat) (x29 : Int32) (x30 : Int32), (3001 - x30.toInt).toNat < r31 → tw_W d mX5_firstDayShort (tw_qi (fun r h1 => h1 = h) tw_nx) 13 [(0, .ref x), (1, .ref v), (2, .int m), (3, .int gr), (4, .int x29), (5, .int x30)] [] h 0 0 := by
    intro r31
    induction r31 with
    | zero => intro x29 x30 hk37; exact absurd hk37 (Nat.not_lt_zero _)
    | succ r31 ih32 =>
      intro x29 x30 hk37
      refine tw_iload 5 dX5_firstDayShort_13 rfl ?_
      refine tw_sipush (v := 3000) dX5_firstDayShort_15 (by decide) ?_
      refine tw_icmp_gt 75 dX5_firstDayShort_18 (by decide) (fun c39 => ?_) (fun c39 => ?_)
      · refine tw_iconst (v := -1) dX5_firstDayShort_75 (by decide) ?_
        exact tw_iret dX5_firstDayShort_76 rfl (Or.inl ⟨_, rfl, rfl⟩)
      · refine tw_iload_n 2 dX5_firstDayShort_21 rfl rfl ?_
        refine tw_iconst (v := 1) dX5_firstDayShort_22 (by decide) ?_
        refine tw_icmp_ne 54 dX5_firstDayShort_23 (by decide) (fun c40 => ?_) (fun c40 => ?_)
        · refine tw_iload 4 dX5_firstDayShort_54 rfl ?_
          refine tw_iload_n 3 dX5_firstDayShort_56 rfl rfl ?_
          refine tw_icmp_ge 63 dX5_firstDayShort_57 (by decide) (fun c41 => ?_) (fun c41 => ?_)
          · refine tw_iload 4 dX5_firstDayShort_63 rfl ?_
            refine tw_iload_n 3 dX5_firstDayShort_65 rfl rfl ?_
            refine tw_isub dX5_firstDayShort_66 ?_
            refine tw_nmi (fun v42 ev42 => ?_)
            refine tw_istore [(4, .int v42), (0, .ref x), (1, .ref v), (2, .int m), (3, .int gr), (5, .int x30)] dX5_firstDayShort_67 (by decide) rfl ?_
            obtain ⟨v43, ev43⟩ : ∃ y : Int32, y = x30 + 1 := ⟨_, rfl⟩
            refine tw_iinc [(5, .int v43), (4, .int v42), (0, .ref x), (1, .ref v), (2, .int m), (3, .int gr)] 5 dX5_firstDayShort_69 rfl (by rw [ev43]; rfl) (by decide) rfl ?_
            refine tw_goto 13 dX5_firstDayShort_72 (by decide) ?_
            refine tw_lv [2, 3, 4, 5, 1, 0] rfl ?_
            exact ih32 v42 v43 (tw_mle ev43 c39 hk37)
          · refine tw_iload 5 dX5_firstDayShort_60 rfl ?_
            exact tw_iret dX5_firstDayShort_62 rfl (Or.inl ⟨_, rfl, rfl⟩)
        · refine tw_iload 5 dX5_firstDayShort_26 rfl ?_
          refine tw_aload_n 0 dX5_firstDayShort_28 rfl rfl ?_
          refine tw_get (v := .int td_10) rfl in_9 0 dX5_firstDayShort_29 w_140 rfl (by decide) f9 rfl ?_
          refine tw_icmp_le 54 dX5_firstDayShort_32 (by decide) (fun c44 => ?_) (fun c44 => ?_)
          · refine tw_iload 4 dX5_firstDayShort_54 rfl ?_
            refine tw_iload_n 3 dX5_firstDayShort_56 rfl rfl ?_
            refine tw_icmp_ge 63 dX5_firstDayShort_57 (by decide) (fun c45 => ?_) (fun c45 => ?_)
            · refine tw_iload 4 dX5_firstDayShort_63 rfl ?_
              refine tw_iload_n 3 dX5_firstDayShort_65 rfl rfl ?_
              refine tw_isub dX5_firstDayShort_66 ?_
              refine tw_nmi (fun v46 ev46 => ?_)
              refine tw_istore [(4, .int v46), (0, .ref x), (1, .ref v), (2, .int m), (3, .int gr), (5, .int x30)] dX5_firstDayShort_67 (by decide) rfl ?_
              obtain ⟨v47, ev47⟩ : ∃ y : Int32, y = x30 + 1 := ⟨_, rfl⟩
              refine tw_iinc [(5, .int v47), (4, .int v46), (0, .ref x), (1, .ref v), (2, .int m), (3, .int gr)] 5 dX5_firstDayShort_69 rfl (by rw [ev47]; rfl) (by decide) rfl ?_
              refine tw_goto 13 dX5_firstDayShort_72 (by decide) ?_
              refine tw_lv [2, 3, 4, 5, 1, 0] rfl ?_
              exact ih32 v46 v47 (tw_mle ev47 c39 hk37)
            · refine tw_iload 5 dX5_firstDayShort_60 rfl ?_
              exact tw_iret dX5_firstDayShort_62 rfl (Or.inl ⟨_, rfl, rfl⟩)
          · refine tw_iload 5 dX5_firstDayShort_35 rfl ?_
            refine tw_bi (tw_callS (M := mX5_firstDayShort) (pc := 37) okX5_isWearDay dX5_firstDayShort_37 w_325 [.int x30] [] rfl rfl ⟨by decide, by decide⟩ (Nat.le_of_ble_eq_true rfl) (c_X5_isWearDay d g τ h sp0.1 x30) 0 0 (Nat.le_of_ble_eq_true rfl) (Nat.le_of_ble_eq_true rfl)) (fun r50 h49 q48 => ?_) (fun E h1 q => q.elim)
            obtain ⟨q48e, p51⟩ := q48
            rw [q48e]
            refine tw_if_eq 54 dX5_firstDayShort_40 (by decide) (fun c52 => ?_) (fun c52 => ?_)
            · refine tw_iload 4 dX5_firstDayShort_54 rfl ?_
              refine tw_iload_n 3 dX5_firstDayShort_56 rfl rfl ?_
              refine tw_icmp_ge 63 dX5_firstDayShort_57 (by decide) (fun c53 => ?_) (fun c53 => ?_)
              · refine tw_iload 4 dX5_firstDayShort_63 rfl ?_
                refine tw_iload_n 3 dX5_firstDayShort_65 rfl rfl ?_
                refine tw_isub dX5_firstDayShort_66 ?_
                refine tw_nmi (fun v54 ev54 => ?_)
                refine tw_istore [(4, .int v54), (0, .ref x), (1, .ref v), (2, .int m), (3, .int gr), (5, .int x30)] dX5_firstDayShort_67 (by decide) rfl ?_
                obtain ⟨v55, ev55⟩ : ∃ y : Int32, y = x30 + 1 := ⟨_, rfl⟩
                refine tw_iinc [(5, .int v55), (4, .int v54), (0, .ref x), (1, .ref v), (2, .int m), (3, .int gr)] 5 dX5_firstDayShort_69 rfl (by rw [ev55]; rfl) (by decide) rfl ?_
                refine tw_goto 13 dX5_firstDayShort_72 (by decide) ?_
                refine tw_lv [2, 3, 4, 5, 1, 0] rfl ?_
                exact ih32 v54 v55 (tw_mle ev55 c39 hk37)
              · refine tw_iload 5 dX5_firstDayShort_60 rfl ?_
                exact tw_iret dX5_firstDayShort_62 rfl (Or.inl ⟨_, rfl, rfl⟩)
            · refine tw_iload 4 dX5_firstDayShort_43 rfl ?_
              refine tw_iload 4 dX5_firstDayShort_45 rfl ?_
              refine tw_sipush (v := 10000) dX5_firstDayShort_47 (by decide) ?_
              refine tw_idiv dX5_firstDayShort_50 (by decide) ?_
              refine tw_nmi (fun v56 ev56 => ?_)
              refine tw_isub dX5_firstDayShort_51 ?_
              refine tw_nmi (fun v57 ev57 => ?_)
              refine tw_istore [(4, .int v57), (0, .ref x), (1, .ref v), (2, .int m), (3, .int gr), (5, .int x30)] dX5_firstDayShort_52 (by decide) rfl ?_
              refine tw_iload 0 dX5_firstDayShort_54 rfl ?_
              refine tw_iload_n 4 dX5_firstDayShort_56 rfl rfl ?_
              refine tw_icmp_ge 63 dX5_firstDayShort_57 (by decide) (fun c58 => ?_) (fun c58 => ?_)
              · refine tw_iload 0 dX5_firstDayShort_63 rfl ?_
                refine tw_iload_n 4 dX5_firstDayShort_65 rfl rfl ?_
                refine tw_isub dX5_firstDayShort_66 ?_
                refine tw_nmi (fun v59 ev59 => ?_)
                refine tw_istore [(4, .int v59), (0, .ref x), (1, .ref v), (2, .int m), (3, .int gr), (5, .int x30)] dX5_firstDayShort_67 (by decide) rfl ?_
                obtain ⟨v60, ev60⟩ : ∃ y : Int32, y = x30 + 1 := ⟨_, rfl⟩
                refine tw_iinc [(5, .int v60), (4, .int v59), (0, .ref x), (1, .ref v), (2, .int m), (3, .int gr)] 5 dX5_firstDayShort_69 rfl (by rw [ev60]; rfl) (by decide) rfl ?_
                refine tw_goto 13 dX5_firstDayShort_72 (by decide) ?_
                refine tw_lv [2, 3, 4, 5, 1, 0] rfl ?_
                exact ih32 v59 v60 (tw_mle ev60 c39 hk37)
              · refine tw_iload 5 dX5_firstDayShort_60 rfl ?_
                exact tw_iret dX5_firstDayShort_62 rfl (Or.inl ⟨_, rfl, rfl⟩)
  refine tw_lv [2, 3, 4, 5, 1, 0] rfl ?_
  exact L33 _ r7 td_10 (Nat.lt_succ_self _)

set_option maxHeartbeats 4000000 in
set_option maxRecDepth 100000 in
theorem c_X5_last (d : tw_D) (g : tw_G) (τ : tw_K) (h : tw_H) (hw : tw_wt d g τ h) (x : Nat) (kx : τ x = 11) (a : Int32) (m : Int32) (gr : Int32) : tw_Ct d mX5_last 20 120 [.ref x, .int a, .int m, .int gr] h (tw_qi (fun r h1 => h1 = h) (fun E h1 => (E = tw_IOE ∨ E = tw_IAE) ∧ h1 = h)) := by
  refine tw_of (by decide +kernel) (Nat.le_of_ble_eq_true rfl) ?_
  show tw_W d mX5_last _ 0 [(0, .ref x), (1, .int a), (2, .int m), (3, .int gr)] [] h 20 120
  have sp0 := tw_sp.rf hw
  refine tw_aload_n 0 dX5_last_0 rfl rfl ?_
  refine tw_iload_n 1 dX5_last_1 rfl rfl ?_
  obtain ⟨e1, f2, td_3, ca_4, ha_5, da_6, c1_7, c2_8, c3_9, c4_10, rfl, k11, k12, k13, k14, k15, k16, k17, k18, k19, k20, k21⟩ := sp0.1 x 11 kx (by decide)
  refine tw_br (tw_callV (M := mX5_last) (pc := 2) okX5_countryAt dX5_last_2 w_546 rfl f2 [.int a] [] rfl rfl ⟨by decide, by decide⟩ (Nat.le_of_ble_eq_true rfl) (c_X5_countryAt d g τ h sp0.1 x kx a) 19 114 (Nat.le_of_ble_eq_true rfl) (Nat.le_of_ble_eq_true rfl)) (fun r24 h23 q22 => ?_) (fun E h1 q => Or.inr ⟨E, rfl, (Or.inl q.1), q.2⟩)
  obtain ⟨q22e, p25⟩ := q22
  rw [q22e]
  refine tw_astore [(4, .ref r24), (0, .ref x), (1, .int a), (2, .int m), (3, .int gr)] dX5_last_5 (by decide) rfl ?_
  refine tw_iload_n 3 dX5_last_7 rfl rfl ?_
  refine tw_bv (tw_callS (M := mX5_last) (pc := 8) okX5_needMetal dX5_last_8 w_573 [.int m] [] rfl rfl ⟨by decide, by decide⟩ (Nat.le_of_ble_eq_true rfl) (c_X5_needMetal d g τ h sp0.1 m) 18 108 (Nat.le_of_ble_eq_true rfl) (Nat.le_of_ble_eq_true rfl)) (fun h27 q26 => ?_) (fun E h1 q => Or.inr ⟨E, rfl, (Or.inr (q.1)), q.2⟩)
  obtain ⟨q26e, p29⟩ := q26
  rw [q26e]
  refine tw_iload_n 4 dX5_last_11 rfl rfl ?_
  refine tw_iconst (v := 1) dX5_last_12 (by decide) ?_
  refine tw_ldc (v := 99999) dX5_last_13 w_470 ?_
  refine tw_bv (tw_callS (M := mX5_last) (pc := 15) okX5_needRange dX5_last_15 w_399 [.int gr, .int 1, .int 99999] [] rfl rfl ⟨by decide, by decide⟩ (Nat.le_of_ble_eq_true rfl) (c_X5_needRange d g τ h sp0.1 gr 1 99999) 17 102 (Nat.le_of_ble_eq_true rfl) (Nat.le_of_ble_eq_true rfl)) (fun h31 q30 => ?_) (fun E h1 q => Or.inr ⟨E, rfl, (Or.inr (q.1)), q.2⟩)
  obtain ⟨q30e, p33⟩ := q30
  rw [q30e]
  refine tw_aload_n 1 dX5_last_18 rfl rfl ?_
  refine tw_aload 0 dX5_last_19 rfl ?_
  obtain ⟨e34, f35, n_36, r_37, c_38, go_39, so_40, v_41, rd_42, rf_43, t_44, rfl, k45, k46, k47, k48, k49, k50, k51, k52⟩ := sp0.1 r24 2 p25 (by decide)
  refine tw_getN (v := .ref v_41) rfl in_4 3 dX5_last_21 w_508 rfl (by decide) f35 rfl ?_
  refine tw_iload_n 3 dX5_last_24 rfl rfl ?_
  refine tw_iload_n 4 dX5_last_25 rfl rfl ?_
  refine tw_bi (tw_callV (M := mX5_last) (pc := 26) okX5_firstDayShort dX5_last_26 w_321 rfl f2 [.ref v_41, .int m, .int gr] [] rfl rfl ⟨by decide, by decide⟩ (Nat.le_of_ble_eq_true rfl) (c_X5_firstDayShort d g τ h sp0.1 x kx v_41 k45 m gr) 17 102 (Nat.le_of_ble_eq_true rfl) (Nat.le_of_ble_eq_true rfl)) (fun r55 h54 q53 => ?_) (fun E h1 q => q.elim)
  rw [q53]
  exact tw_iret dX5_last_29 rfl (Or.inl ⟨_, rfl, rfl⟩)

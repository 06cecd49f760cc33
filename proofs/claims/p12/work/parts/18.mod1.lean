/-! the class's methods over the typed heap. Laid by wip/p5/mkclass.py. -/
set_option maxHeartbeats 4000000 in
set_option maxRecDepth 100000 in
theorem c_X10_thrown (d : tw_D) (g : tw_G) (τ : tw_K) (h : tw_H) (hw : tw_wt d g τ h) (x : Nat) (kx : τ x = 36) : tw_Ct d mX10_thrown 0 0 [.ref x] h (tw_qi (fun r h1 => h1 = h ∧ r = tw_th (h x)) tw_nx) := by
  refine tw_of (by decide +kernel) (Nat.le_of_ble_eq_true rfl) ?_
  show tw_W d mX10_thrown _ 0 [(0, .ref x)] [] h 0 0
  have sp0 := tw_sp.rf hw
  refine tw_aload_n 0 dX10_thrown_0 rfl rfl ?_
  obtain ⟨e1, f2, th_3, td_4, ds_5, fr_6, ca_7, us_8, wo_9, cm_10, lc_11, lh_12, ld_13, rfl, k14, k15, k16, k17, k18, k19, k20, k21, k22, k23, k24, k25, k26, k27, k28, k29⟩ := sp0.1 x 36 kx (by decide)
  refine tw_get (v := .int th_3) rfl in_14 0 dX10_thrown_1 w_1151 rfl (by decide) f2 rfl ?_
  exact tw_iret dX10_thrown_4 rfl (Or.inl ⟨_, rfl, ⟨rfl, (by rw [f2]; rfl)⟩⟩)

set_option maxHeartbeats 4000000 in
set_option maxRecDepth 100000 in
theorem c_X10_isIn (d : tw_D) (g : tw_G) (τ : tw_K) (h : tw_H) (hw : tw_wt d g τ h) (v : Int32) (lo : Int32) (hi : Int32) : tw_Ct d mX10_isIn 0 0 [.int v, .int lo, .int hi] h (tw_qi (fun r h1 => h1 = h ∧ (r = 0 ∧ ¬ (lo ≤ v ∧ v ≤ hi) ∨ r = 1 ∧ lo ≤ v ∧ v ≤ hi)) tw_nx) := by
  refine tw_of (by decide +kernel) (Nat.le_of_ble_eq_true rfl) ?_
  show tw_W d mX10_isIn _ 0 [(0, .int v), (1, .int lo), (2, .int hi)] [] h 0 0
  have sp0 := tw_sp.rf hw
  refine tw_iload_n 0 dX10_isIn_0 rfl rfl ?_
  refine tw_iload_n 1 dX10_isIn_1 rfl rfl ?_
  refine tw_icmp_lt 14 dX10_isIn_2 (by decide) (fun c1 => ?_) (fun c1 => ?_)
  · refine tw_iconst (v := 0) dX10_isIn_14 (by decide) ?_
    exact tw_zret dX10_isIn_15 rfl rfl (Or.inl ⟨_, rfl, ⟨rfl, Or.inl ⟨rfl, fun q => absurd q.1 (Int32.not_le.mpr c1)⟩⟩⟩)
  · refine tw_iload_n 0 dX10_isIn_5 rfl rfl ?_
    refine tw_iload_n 2 dX10_isIn_6 rfl rfl ?_
    refine tw_icmp_gt 14 dX10_isIn_7 (by decide) (fun c2 => ?_) (fun c2 => ?_)
    · refine tw_iconst (v := 0) dX10_isIn_14 (by decide) ?_
      exact tw_zret dX10_isIn_15 rfl rfl (Or.inl ⟨_, rfl, ⟨rfl, Or.inl ⟨rfl, fun q => absurd q.2 (Int32.not_le.mpr c2)⟩⟩⟩)
    · refine tw_iconst (v := 1) dX10_isIn_10 (by decide) ?_
      refine tw_goto 15 dX10_isIn_11 (by decide) ?_
      exact tw_zret dX10_isIn_15 rfl rfl (Or.inl ⟨_, rfl, ⟨rfl, Or.inr ⟨rfl, Int32.not_lt.mp c1, Int32.not_lt.mp c2⟩⟩⟩)

set_option maxHeartbeats 4000000 in
set_option maxRecDepth 100000 in
theorem c_X10_isNoMetal (d : tw_D) (g : tw_G) (τ : tw_K) (h : tw_H) (hw : tw_wt d g τ h) (m : Int32) : tw_Ct d mX10_isNoMetal 0 0 [.int m] h (tw_qi (fun r h1 => h1 = h ∧ (r = 1 ∨ r = 0 ∧ (m = 0 ∨ m = 1))) tw_nx) := by
  refine tw_of (by decide +kernel) (Nat.le_of_ble_eq_true rfl) ?_
  show tw_W d mX10_isNoMetal _ 0 [(0, .int m)] [] h 0 0
  have sp0 := tw_sp.rf hw
  refine tw_iload_n 0 dX10_isNoMetal_0 rfl rfl ?_
  refine tw_iconst (v := 0) dX10_isNoMetal_1 (by decide) ?_
  refine tw_iconst (v := 1) dX10_isNoMetal_2 (by decide) ?_
  refine tw_bi (tw_callS (M := mX10_isNoMetal) (pc := 3) okX10_isIn dX10_isNoMetal_3 w_1196 [.int m, .int 0, .int 1] [] rfl rfl ⟨by decide, by decide⟩ (Nat.le_of_ble_eq_true rfl) (c_X10_isIn d g τ h sp0.1 m 0 1) 0 0 (Nat.le_of_ble_eq_true rfl) (Nat.le_of_ble_eq_true rfl)) (fun r3 h2 q1 => ?_) (fun E h1 q => q.elim)
  obtain ⟨q1e, q1d⟩ := q1
  rw [q1e]
  rcases q1d with ⟨q1r, q1n⟩ | ⟨q1r, q1a, q1b⟩
  · rw [q1r]
    refine tw_if_ne 13 dX10_isNoMetal_6 (by decide) (fun c4 => absurd (by decide) c4) (fun _ => ?_)
    refine tw_iconst (v := 1) dX10_isNoMetal_9 (by decide) ?_
    refine tw_goto 14 dX10_isNoMetal_10 (by decide) ?_
    exact tw_zret dX10_isNoMetal_14 rfl rfl (Or.inl ⟨_, rfl, ⟨rfl, (Or.inl rfl)⟩⟩)
  · rw [q1r]
    refine tw_if_ne 13 dX10_isNoMetal_6 (by decide) (fun _ => ?_) (fun c5 => absurd c5 (by decide))
    refine tw_iconst (v := 0) dX10_isNoMetal_13 (by decide) ?_
    exact tw_zret dX10_isNoMetal_14 rfl rfl (Or.inl ⟨_, rfl, ⟨rfl, (Or.inr ⟨rfl, tw_m01 q1a q1b⟩)⟩⟩)

set_option maxHeartbeats 4000000 in
set_option maxRecDepth 100000 in
theorem c_X10_isNoCountry (d : tw_D) (g : tw_G) (τ : tw_K) (h : tw_H) (hw : tw_wt d g τ h) (x : Nat) (kx : τ x = 36) (k : Int32) : tw_Ct d mX10_isNoCountry 0 0 [.ref x, .int k] h (tw_qi (fun r h1 => h1 = h ∧ (r = 1 ∨ r = 0 ∧ ∃ j, j < g.2 3 ∧ k = nI j)) tw_nx) := by
  refine tw_of (by decide +kernel) (Nat.le_of_ble_eq_true rfl) ?_
  show tw_W d mX10_isNoCountry _ 0 [(0, .ref x), (1, .int k)] [] h 0 0
  have sp0 := tw_sp.rf hw
  refine tw_iload_n 1 dX10_isNoCountry_0 rfl rfl ?_
  refine tw_iconst (v := 0) dX10_isNoCountry_1 (by decide) ?_
  refine tw_aload_n 0 dX10_isNoCountry_2 rfl rfl ?_
  obtain ⟨e1, f2, th_3, td_4, ds_5, fr_6, ca_7, us_8, wo_9, cm_10, lc_11, lh_12, ld_13, rfl, k14, k15, k16, k17, k18, k19, k20, k21, k22, k23, k24, k25, k26, k27, k28, k29⟩ := sp0.1 x 36 kx (by decide)
  refine tw_get (v := .ref lc_11) rfl in_14 9 dX10_isNoCountry_3 w_1160 rfl (by decide) f2 rfl ?_
  obtain ⟨e30, f31, ⟨el32, rfl, k33⟩, k34⟩ := sp0.1 lc_11 24 k20 (by decide)
  refine tw_bi (tw_callV (M := mX10_isNoCountry) (pc := 6) okJx4a65c_size_8abf5 dX10_isNoCountry_6 w_1208 rfl f31 [] [.int 0, .int k] rfl rfl ⟨by decide, by decide⟩ (Nat.le_of_ble_eq_true rfl) (c24_size d g τ h sp0.1 lc_11 k20) 0 0 (Nat.le_of_ble_eq_true rfl) (Nat.le_of_ble_eq_true rfl)) (fun r37 h36 q35 => ?_) (fun E h1 q => q.elim)
  obtain ⟨q35e, q35r⟩ := q35
  rw [q35e, q35r]
  refine tw_iconst (v := 1) dX10_isNoCountry_9 (by decide) ?_
  refine tw_isub dX10_isNoCountry_10 ?_
  refine tw_nmi (fun v38 ev38 => ?_)
  refine tw_bi (tw_callS (M := mX10_isNoCountry) (pc := 11) okX10_isIn dX10_isNoCountry_11 w_1196 [.int k, .int 0, .int v38] [] rfl rfl ⟨by decide, by decide⟩ (Nat.le_of_ble_eq_true rfl) (c_X10_isIn d g τ h sp0.1 k 0 v38) 0 0 (Nat.le_of_ble_eq_true rfl) (Nat.le_of_ble_eq_true rfl)) (fun r41 h40 q39 => ?_) (fun E h1 q => q.elim)
  obtain ⟨q39e, q39d⟩ := q39
  rw [q39e]
  rcases q39d with ⟨q39r, q39n⟩ | ⟨q39r, q39a, q39b⟩
  · rw [q39r]
    refine tw_if_ne 21 dX10_isNoCountry_14 (by decide) (fun c42 => absurd (by decide) c42) (fun _ => ?_)
    refine tw_iconst (v := 1) dX10_isNoCountry_17 (by decide) ?_
    refine tw_goto 22 dX10_isNoCountry_18 (by decide) ?_
    exact tw_zret dX10_isNoCountry_22 rfl rfl (Or.inl ⟨_, rfl, ⟨rfl, (Or.inl rfl)⟩⟩)
  · rw [q39r]
    refine tw_if_ne 21 dX10_isNoCountry_14 (by decide) (fun _ => ?_) (fun c43 => absurd c43 (by decide))
    refine tw_iconst (v := 0) dX10_isNoCountry_21 (by decide) ?_
    exact tw_zret dX10_isNoCountry_22 rfl rfl (Or.inl ⟨_, rfl, ⟨rfl, (Or.inr ⟨rfl, tw_isc q39a q39b ev38 (by omega)⟩)⟩⟩)

set_option maxHeartbeats 4000000 in
set_option maxRecDepth 100000 in
theorem c_X10_isNoHouse (d : tw_D) (g : tw_G) (τ : tw_K) (h : tw_H) (hw : tw_wt d g τ h) (x : Nat) (kx : τ x = 36) (k : Int32) : tw_Ct d mX10_isNoHouse 0 0 [.ref x, .int k] h (tw_qi (fun r h1 => h1 = h ∧ (r = 1 ∨ r = 0 ∧ ∃ j, j < g.2 4 ∧ k = nI j)) tw_nx) := by
  refine tw_of (by decide +kernel) (Nat.le_of_ble_eq_true rfl) ?_
  show tw_W d mX10_isNoHouse _ 0 [(0, .ref x), (1, .int k)] [] h 0 0
  have sp0 := tw_sp.rf hw
  refine tw_iload_n 1 dX10_isNoHouse_0 rfl rfl ?_
  refine tw_iconst (v := 0) dX10_isNoHouse_1 (by decide) ?_
  refine tw_aload_n 0 dX10_isNoHouse_2 rfl rfl ?_
  obtain ⟨e1, f2, th_3, td_4, ds_5, fr_6, ca_7, us_8, wo_9, cm_10, lc_11, lh_12, ld_13, rfl, k14, k15, k16, k17, k18, k19, k20, k21, k22, k23, k24, k25, k26, k27, k28, k29⟩ := sp0.1 x 36 kx (by decide)
  refine tw_get (v := .ref lh_12) rfl in_14 10 dX10_isNoHouse_3 w_1161 rfl (by decide) f2 rfl ?_
  obtain ⟨e30, f31, ⟨el32, rfl, k33⟩, k34⟩ := sp0.1 lh_12 25 k21 (by decide)
  refine tw_bi (tw_callV (M := mX10_isNoHouse) (pc := 6) okJx4a65c_size_8abf5 dX10_isNoHouse_6 w_1208 rfl f31 [] [.int 0, .int k] rfl rfl ⟨by decide, by decide⟩ (Nat.le_of_ble_eq_true rfl) (c25_size d g τ h sp0.1 lh_12 k21) 0 0 (Nat.le_of_ble_eq_true rfl) (Nat.le_of_ble_eq_true rfl)) (fun r37 h36 q35 => ?_) (fun E h1 q => q.elim)
  obtain ⟨q35e, q35r⟩ := q35
  rw [q35e, q35r]
  refine tw_iconst (v := 1) dX10_isNoHouse_9 (by decide) ?_
  refine tw_isub dX10_isNoHouse_10 ?_
  refine tw_nmi (fun v38 ev38 => ?_)
  refine tw_bi (tw_callS (M := mX10_isNoHouse) (pc := 11) okX10_isIn dX10_isNoHouse_11 w_1196 [.int k, .int 0, .int v38] [] rfl rfl ⟨by decide, by decide⟩ (Nat.le_of_ble_eq_true rfl) (c_X10_isIn d g τ h sp0.1 k 0 v38) 0 0 (Nat.le_of_ble_eq_true rfl) (Nat.le_of_ble_eq_true rfl)) (fun r41 h40 q39 => ?_) (fun E h1 q => q.elim)
  obtain ⟨q39e, q39d⟩ := q39
  rw [q39e]
  rcases q39d with ⟨q39r, q39n⟩ | ⟨q39r, q39a, q39b⟩
  · rw [q39r]
    refine tw_if_ne 21 dX10_isNoHouse_14 (by decide) (fun c42 => absurd (by decide) c42) (fun _ => ?_)
    refine tw_iconst (v := 1) dX10_isNoHouse_17 (by decide) ?_
    refine tw_goto 22 dX10_isNoHouse_18 (by decide) ?_
    exact tw_zret dX10_isNoHouse_22 rfl rfl (Or.inl ⟨_, rfl, ⟨rfl, (Or.inl rfl)⟩⟩)
  · rw [q39r]
    refine tw_if_ne 21 dX10_isNoHouse_14 (by decide) (fun _ => ?_) (fun c43 => absurd c43 (by decide))
    refine tw_iconst (v := 0) dX10_isNoHouse_21 (by decide) ?_
    exact tw_zret dX10_isNoHouse_22 rfl rfl (Or.inl ⟨_, rfl, ⟨rfl, (Or.inr ⟨rfl, tw_isc q39a q39b ev38 (by omega)⟩)⟩⟩)

set_option maxHeartbeats 4000000 in
set_option maxRecDepth 100000 in
theorem c_X10_refuse (d : tw_D) (g : tw_G) (τ : tw_K) (h : tw_H) (hw : tw_wt d g τ h) (x : Nat) (kx : τ x = 36) (is w9 : Int32) (hw1 : 0 < w9) : tw_Ct d mX10_refuse 0 0 [.ref x, .int is, .int w9] h (tw_qi (fun r h1 => ∃ e, h1 = tw_up h x e ∧ tw_sh d g τ x 36 e ∧ (r = 1 ∨ r = 0 ∧ is = 0) ∧ (tw_th (h x) = 0 → (is = 0 → r = 0 ∧ tw_th (some e) = 0) ∧ (is = 1 → r = 1 ∧ tw_th (some e) = w9))) tw_nx) := by
  refine tw_of (by decide +kernel) (Nat.le_of_ble_eq_true rfl) ?_
  show tw_W d mX10_refuse _ 0 [(0, .ref x), (1, .int is), (2, .int w9)] [] h 0 0
  have sp0 := tw_sp.rf hw
  refine tw_iload_n 1 dX10_refuse_0 rfl rfl ?_
  refine tw_if_eq 16 dX10_refuse_1 (by decide) (fun c1 => ?_) (fun c1 => ?_)
  · refine tw_aload_n 0 dX10_refuse_16 rfl rfl ?_
    obtain ⟨e2, f3, th_4, td_5, ds_6, fr_7, ca_8, us_9, wo_10, cm_11, lc_12, lh_13, ld_14, rfl, k15, k16, k17, k18, k19, k20, k21, k22, k23, k24, k25, k26, k27, k28, k29, k30⟩ := sp0.1 x 36 kx (by decide)
    refine tw_get (v := .int th_4) rfl in_14 0 dX10_refuse_17 w_1151 rfl (by decide) f3 rfl ?_
    refine tw_if_le 27 dX10_refuse_20 (by decide) (fun c31 => ?_) (fun c31 => ?_)
    · refine tw_iconst (v := 0) dX10_refuse_27 (by decide) ?_
      exact tw_zret dX10_refuse_28 rfl rfl (Or.inl ⟨_, rfl, _, (tw_up_id f3).symm, ⟨th_4, td_5, ds_6, fr_7, ca_8, us_9, wo_10, cm_11, lc_12, lh_13, ld_14, rfl, k15, k16, k17, k18, k19, k20, k21, k22, k23, k24, k25, k26, k27, k28, k29, k30⟩, (Or.inr ⟨rfl, c1⟩), (by intro z; rw [f3] at z; have z : th_4 = 0 := z; exact ⟨fun _ => ⟨rfl, z⟩, fun q => absurd (q.symm.trans c1) (by decide)⟩)⟩)
    · refine tw_iconst (v := 1) dX10_refuse_23 (by decide) ?_
      refine tw_goto 28 dX10_refuse_24 (by decide) ?_
      exact tw_zret dX10_refuse_28 rfl rfl (Or.inl ⟨_, rfl, _, (tw_up_id f3).symm, ⟨th_4, td_5, ds_6, fr_7, ca_8, us_9, wo_10, cm_11, lc_12, lh_13, ld_14, rfl, k15, k16, k17, k18, k19, k20, k21, k22, k23, k24, k25, k26, k27, k28, k29, k30⟩, (Or.inl rfl), (by intro z; rw [f3] at z; have z : th_4 = 0 := z; exact absurd (by rw [z]; decide) c31)⟩)
  · refine tw_aload_n 0 dX10_refuse_4 rfl rfl ?_
    obtain ⟨e32, f33, th_34, td_35, ds_36, fr_37, ca_38, us_39, wo_40, cm_41, lc_42, lh_43, ld_44, rfl, k45, k46, k47, k48, k49, k50, k51, k52, k53, k54, k55, k56, k57, k58, k59, k60⟩ := sp0.1 x 36 kx (by decide)
    refine tw_get (v := .int th_34) rfl in_14 0 dX10_refuse_5 w_1151 rfl (by decide) f33 rfl ?_
    refine tw_if_ne 16 dX10_refuse_8 (by decide) (fun c61 => ?_) (fun c61 => ?_)
    · refine tw_aload_n 0 dX10_refuse_16 rfl rfl ?_
      refine tw_get (v := .int th_34) rfl in_14 0 dX10_refuse_17 w_1151 rfl (by decide) f33 rfl ?_
      refine tw_if_le 27 dX10_refuse_20 (by decide) (fun c62 => ?_) (fun c62 => ?_)
      · refine tw_iconst (v := 0) dX10_refuse_27 (by decide) ?_
        exact tw_zret dX10_refuse_28 rfl rfl (Or.inl ⟨_, rfl, _, (tw_up_id f33).symm, ⟨th_34, td_35, ds_36, fr_37, ca_38, us_39, wo_40, cm_41, lc_42, lh_43, ld_44, rfl, k45, k46, k47, k48, k49, k50, k51, k52, k53, k54, k55, k56, k57, k58, k59, k60⟩, (absurd (Int32.le_antisymm c62 k58) c61), (by intro z; rw [f33] at z; have z : th_34 = 0 := z; exact absurd z c61)⟩)
      · refine tw_iconst (v := 1) dX10_refuse_23 (by decide) ?_
        refine tw_goto 28 dX10_refuse_24 (by decide) ?_
        exact tw_zret dX10_refuse_28 rfl rfl (Or.inl ⟨_, rfl, _, (tw_up_id f33).symm, ⟨th_34, td_35, ds_36, fr_37, ca_38, us_39, wo_40, cm_41, lc_42, lh_43, ld_44, rfl, k45, k46, k47, k48, k49, k50, k51, k52, k53, k54, k55, k56, k57, k58, k59, k60⟩, (Or.inl rfl), (by intro z; rw [f33] at z; have z : th_34 = 0 := z; exact absurd z c61)⟩)
    · refine tw_aload_n 0 dX10_refuse_11 rfl rfl ?_
      refine tw_iload_n 2 dX10_refuse_12 rfl rfl ?_
      refine tw_put rfl in_14 tyX10 tyX10_ok nmX10 0 dX10_refuse_13 w_1151 rfl (by decide) f33 rfl rfl rfl rfl (Nat.le_of_ble_eq_true rfl) [.int w9, .int td_35, .int (g.1 1), .ref ds_36, .ref fr_37, .ref ca_38, .ref us_39, .ref wo_40, .ref cm_41, .ref lc_42, .ref lh_43, .ref ld_44] rfl ?_
      obtain ⟨h63, eh63⟩ : ∃ z : tw_H, z = tw_up h x (.inr (14, [.int w9, .int td_35, .int (g.1 1), .ref ds_36, .ref fr_37, .ref ca_38, .ref us_39, .ref wo_40, .ref cm_41, .ref lc_42, .ref lh_43, .ref ld_44])) := ⟨_, rfl⟩
      rw [← eh63]
      have f64 : h63 x = some (.inr (14, [.int w9, .int td_35, .int (g.1 1), .ref ds_36, .ref fr_37, .ref ca_38, .ref us_39, .ref wo_40, .ref cm_41, .ref lc_42, .ref lh_43, .ref ld_44])) := by rw [eh63]; exact tw_up_s
      refine tw_aload_n 0 dX10_refuse_16 rfl rfl ?_
      refine tw_get (v := .int w9) rfl in_14 0 dX10_refuse_17 w_1151 rfl (by decide) f64 rfl ?_
      refine tw_if_le 27 dX10_refuse_20 (by decide) (fun c65 => ?_) (fun c65 => ?_)
      · refine tw_iconst (v := 0) dX10_refuse_27 (by decide) ?_
        exact tw_zret dX10_refuse_28 rfl rfl (Or.inl ⟨_, rfl, _, eh63, ⟨w9, td_35, ds_36, fr_37, ca_38, us_39, wo_40, cm_41, lc_42, lh_43, ld_44, rfl, k45, k46, k47, k48, k49, k50, k51, k52, k53, k54, k55, k56, k57, (Int32.le_of_lt hw1), k59, k60⟩, (absurd hw1 (Int32.not_lt.mpr c65)), (by intro z; rw [f33] at z; have z : th_34 = 0 := z; exact absurd hw1 (Int32.not_lt.mpr c65))⟩)
      · refine tw_iconst (v := 1) dX10_refuse_23 (by decide) ?_
        refine tw_goto 28 dX10_refuse_24 (by decide) ?_
        exact tw_zret dX10_refuse_28 rfl rfl (Or.inl ⟨_, rfl, _, eh63, ⟨w9, td_35, ds_36, fr_37, ca_38, us_39, wo_40, cm_41, lc_42, lh_43, ld_44, rfl, k45, k46, k47, k48, k49, k50, k51, k52, k53, k54, k55, k56, k57, (Int32.le_of_lt hw1), k59, k60⟩, (Or.inl rfl), (by intro z; rw [f33] at z; have z : th_34 = 0 := z; exact ⟨fun q => absurd q c1, fun _ => ⟨rfl, rfl⟩⟩)⟩)

set_option maxHeartbeats 4000000 in
set_option maxRecDepth 100000 in
theorem c_X10_start (d : tw_D) (g : tw_G) (τ : tw_K) (h : tw_H) (hw : tw_wt d g τ h) (x : Nat) (kx : τ x = 36) (is w9 : Int32) (hw1 : 0 < w9) : tw_Ct d mX10_start 0 0 [.ref x, .int is, .int w9] h (tw_qi (fun r h1 => ∃ e, h1 = tw_up h x e ∧ tw_sh d g τ x 36 e ∧ (r = 1 ∨ r = 0 ∧ is = 0) ∧ (is = 0 → r = 0 ∧ tw_th (some e) = 0) ∧ (is = 1 → r = 1 ∧ tw_th (some e) = w9)) tw_nx) := by
  refine tw_of (by decide +kernel) (Nat.le_of_ble_eq_true rfl) ?_
  show tw_W d mX10_start _ 0 [(0, .ref x), (1, .int is), (2, .int w9)] [] h 0 0
  have sp0 := tw_sp.rf hw
  refine tw_aload_n 0 dX10_start_0 rfl rfl ?_
  refine tw_iconst (v := 0) dX10_start_1 (by decide) ?_
  obtain ⟨e1, f2, th_3, td_4, ds_5, fr_6, ca_7, us_8, wo_9, cm_10, lc_11, lh_12, ld_13, rfl, k14, k15, k16, k17, k18, k19, k20, k21, k22, k23, k24, k25, k26, k27, k28, k29⟩ := sp0.1 x 36 kx (by decide)
  refine tw_put rfl in_14 tyX10 tyX10_ok nmX10 0 dX10_start_2 w_1151 rfl (by decide) f2 rfl rfl rfl rfl (Nat.le_of_ble_eq_true rfl) [.int 0, .int td_4, .int (g.1 1), .ref ds_5, .ref fr_6, .ref ca_7, .ref us_8, .ref wo_9, .ref cm_10, .ref lc_11, .ref lh_12, .ref ld_13] rfl ?_
  obtain ⟨h30, eh30⟩ : ∃ z : tw_H, z = tw_up h x (.inr (14, [.int 0, .int td_4, .int (g.1 1), .ref ds_5, .ref fr_6, .ref ca_7, .ref us_8, .ref wo_9, .ref cm_10, .ref lc_11, .ref lh_12, .ref ld_13])) := ⟨_, rfl⟩
  rw [← eh30]
  have sp1 : tw_wt d g τ h30 := by rw [eh30]; exact hw.set kx ⟨0, td_4, ds_5, fr_6, ca_7, us_8, wo_9, cm_10, lc_11, lh_12, ld_13, rfl, k14, k15, k16, k17, k18, k19, k20, k21, k22, k23, k24, k25, k26, (by decide), k28, k29⟩
  have f31 : h30 x = some (.inr (14, [.int 0, .int td_4, .int (g.1 1), .ref ds_5, .ref fr_6, .ref ca_7, .ref us_8, .ref wo_9, .ref cm_10, .ref lc_11, .ref lh_12, .ref ld_13])) := by rw [eh30]; exact tw_up_s
  refine tw_aload_n 0 dX10_start_5 rfl rfl ?_
  refine tw_iload_n 1 dX10_start_6 rfl rfl ?_
  refine tw_iload_n 2 dX10_start_7 rfl rfl ?_
  refine tw_bi (tw_callV (M := mX10_start) (pc := 8) okX10_refuse dX10_start_8 w_1204 rfl f31 [.int is, .int w9] [] rfl rfl ⟨by decide, by decide⟩ (Nat.le_of_ble_eq_true rfl) (c_X10_refuse d g τ h30 sp1 x kx is w9 hw1) 0 0 (Nat.le_of_ble_eq_true rfl) (Nat.le_of_ble_eq_true rfl)) (fun r h3 q => ?_) (fun E h3 q => q.elim)
  obtain ⟨e, he, hs, hr, h4⟩ := q
  exact tw_zret dX10_start_11 rfl (by rcases hr with z | z <;> (first | rw [z] | rw [z.1]) <;> rfl) (Or.inl ⟨_, rfl, e, (by rw [he, eh30]; exact tw_up_up), hs, hr, h4 (by rw [f31]; rfl)⟩)

set_option maxHeartbeats 4000000 in
set_option maxRecDepth 100000 in
theorem c_X10_up (d : tw_D) (g : tw_G) (τ : tw_K) (h : tw_H) (hw : tw_wt d g τ h) (a : Int64) (b : Int64) (hu : ¬ b = 0) : tw_Ct d mX10_up 0 0 [.long a, .long b] h (tw_ql (fun r h1 => h1 = h) tw_nx) := by
  refine tw_of (by decide +kernel) (Nat.le_of_ble_eq_true rfl) ?_
  show tw_W d mX10_up _ 0 [(0, .long a), (2, .long b)] [] h 0 0
  have sp0 := tw_sp.rf hw
  refine tw_lload_n 0 dX10_up_0 rfl rfl ?_
  refine tw_lload_n 1 dX10_up_1 rfl rfl ?_
  refine tw_ladd dX10_up_2 ?_
  refine tw_nml (fun v1 ev1 => ?_)
  refine tw_lconst (v := 1) dX10_up_3 (by decide) ?_
  refine tw_lsub dX10_up_4 ?_
  refine tw_nml (fun v2 ev2 => ?_)
  refine tw_lload_n 1 dX10_up_5 rfl rfl ?_
  refine tw_ldiv dX10_up_6 hu ?_
  refine tw_nml (fun v3 ev3 => ?_)
  exact tw_lret dX10_up_7 rfl (Or.inl ⟨_, rfl, rfl⟩)

set_option maxHeartbeats 4000000 in
set_option maxRecDepth 100000 in
theorem c_X10_given (d : tw_D) (g : tw_G) (τ : tw_K) (h : tw_H) (hw : tw_wt d g τ h) (x : Nat) (kx : τ x = 21) (m : Int32) (gr : Int64) : tw_Ct d mX10_given 0 0 [.ref x, .int m, .long gr] h (tw_ql (fun r h1 => h1 = h) tw_nx) := by
  refine tw_of (by decide +kernel) (Nat.le_of_ble_eq_true rfl) ?_
  show tw_W d mX10_given _ 0 [(0, .ref x), (1, .int m), (2, .long gr)] [] h 0 0
  have sp0 := tw_sp.rf hw
  refine tw_iload_n 1 dX10_given_0 rfl rfl ?_
  refine tw_if_ne 18 dX10_given_1 (by decide) (fun c1 => ?_) (fun c1 => ?_)
  · refine tw_lload_n 2 dX10_given_18 rfl rfl ?_
    refine tw_ldc2 (v := 10) dX10_given_19 w_1373 ?_
    refine tw_lmul dX10_given_22 ?_
    refine tw_nml (fun v2 ev2 => ?_)
    refine tw_aload_n 0 dX10_given_23 rfl rfl ?_
    obtain ⟨e3, f4, r_5, c_6, v_7, o_8, t_9, rfl, k10, k11, k12, k13, k14⟩ := sp0.1 x 21 kx (by decide)
    refine tw_get (v := .int r_5) rfl in_11 0 dX10_given_24 w_1218 rfl (by decide) f4 rfl ?_
    refine tw_i2l dX10_given_27 ?_
    refine tw_nml (fun v15 ev15 => ?_)
    refine tw_ldiv dX10_given_28 (tw_nzl ev15 (tw_1le k13)) ?_
    refine tw_nml (fun v16 ev16 => ?_)
    refine tw_lstore [(4, .long v16), (0, .ref x), (1, .int m), (2, .long gr)] dX10_given_29 (by decide) rfl ?_
    refine tw_lload 0 dX10_given_31 rfl ?_
    refine tw_lload 0 dX10_given_33 rfl ?_
    refine tw_aload_n 1 dX10_given_35 rfl rfl ?_
    refine tw_get (v := .int c_6) rfl in_11 1 dX10_given_36 w_1219 rfl (by decide) f4 rfl ?_
    refine tw_i2l dX10_given_39 ?_
    refine tw_nml (fun v17 ev17 => ?_)
    refine tw_lmul dX10_given_40 ?_
    refine tw_nml (fun v18 ev18 => ?_)
    refine tw_ldc2 (v := 1000) dX10_given_41 w_1374 ?_
    refine tw_bl (tw_callS (M := mX10_given) (pc := 44) okX10_up dX10_given_44 w_1375 [.long v18, .long 1000] [.long v16] rfl rfl ⟨by decide, by decide⟩ (Nat.le_of_ble_eq_true rfl) (c_X10_up d g τ h sp0.1 v18 1000 (by decide)) 0 0 (Nat.le_of_ble_eq_true rfl) (Nat.le_of_ble_eq_true rfl)) (fun r21 h20 q19 => ?_) (fun E h1 q => q.elim)
    rw [q19]
    refine tw_lsub dX10_given_47 ?_
    refine tw_nml (fun v22 ev22 => ?_)
    exact tw_lret dX10_given_48 rfl (Or.inl ⟨_, rfl, rfl⟩)
  · refine tw_lload_n 2 dX10_given_4 rfl rfl ?_
    refine tw_aload_n 0 dX10_given_5 rfl rfl ?_
    obtain ⟨e23, f24, r_25, c_26, v_27, o_28, t_29, rfl, k30, k31, k32, k33, k34⟩ := sp0.1 x 21 kx (by decide)
    refine tw_get (v := .int r_25) rfl in_11 0 dX10_given_6 w_1218 rfl (by decide) f24 rfl ?_
    refine tw_i2l dX10_given_9 ?_
    refine tw_nml (fun v35 ev35 => ?_)
    refine tw_lmul dX10_given_10 ?_
    refine tw_nml (fun v36 ev36 => ?_)
    refine tw_ldc2 (v := 10) dX10_given_11 w_1373 ?_
    refine tw_ldiv dX10_given_14 (by decide) ?_
    refine tw_nml (fun v37 ev37 => ?_)
    refine tw_goto 29 dX10_given_15 (by decide) ?_
    refine tw_lstore [(4, .long v37), (0, .ref x), (1, .int m), (2, .long gr)] dX10_given_29 (by decide) rfl ?_
    refine tw_lload 0 dX10_given_31 rfl ?_
    refine tw_lload 0 dX10_given_33 rfl ?_
    refine tw_aload_n 1 dX10_given_35 rfl rfl ?_
    refine tw_get (v := .int c_26) rfl in_11 1 dX10_given_36 w_1219 rfl (by decide) f24 rfl ?_
    refine tw_i2l dX10_given_39 ?_
    refine tw_nml (fun v38 ev38 => ?_)
    refine tw_lmul dX10_given_40 ?_
    refine tw_nml (fun v39 ev39 => ?_)
    refine tw_ldc2 (v := 1000) dX10_given_41 w_1374 ?_
    refine tw_bl (tw_callS (M := mX10_given) (pc := 44) okX10_up dX10_given_44 w_1375 [.long v39, .long 1000] [.long v37] rfl rfl ⟨by decide, by decide⟩ (Nat.le_of_ble_eq_true rfl) (c_X10_up d g τ h sp0.1 v39 1000 (by decide)) 0 0 (Nat.le_of_ble_eq_true rfl) (Nat.le_of_ble_eq_true rfl)) (fun r42 h41 q40 => ?_) (fun E h1 q => q.elim)
    rw [q40]
    refine tw_lsub dX10_given_47 ?_
    refine tw_nml (fun v43 ev43 => ?_)
    exact tw_lret dX10_given_48 rfl (Or.inl ⟨_, rfl, rfl⟩)

set_option maxHeartbeats 4000000 in
set_option maxRecDepth 100000 in
theorem c_X10_worth (d : tw_D) (g : tw_G) (τ : tw_K) (h : tw_H) (hw : tw_wt d g τ h) (x : Nat) (kx : τ x = 36) (a : Nat) (ka : τ a = 31) : tw_Ct d mX10_worth 0 0 [.ref x, .ref a] h (tw_ql (fun r h1 => h1 = h) tw_nx) := by
  refine tw_of (by decide +kernel) (Nat.le_of_ble_eq_true rfl) ?_
  show tw_W d mX10_worth _ 0 [(0, .ref x), (1, .ref a)] [] h 0 0
  have sp0 := tw_sp.rf hw
  refine tw_aload_n 1 dX10_worth_0 rfl rfl ?_
  refine tw_iconst (v := 1) dX10_worth_1 (by decide) ?_
  obtain ⟨e1, f2, F3, rfl⟩ := sp0.1 a 31 ka (by decide)
  obtain ⟨v4, ev4⟩ : ∃ y : Int64, F3 (1 : Int32).toNatClampNeg = y := ⟨_, rfl⟩
  refine tw_lald (v := v4) dX10_worth_2 f2 (vp_in_nI (n := 1) (by decide) (by decide)) ev4 ?_
  refine tw_aload_n 1 dX10_worth_3 rfl rfl ?_
  refine tw_iconst (v := 0) dX10_worth_4 (by decide) ?_
  obtain ⟨v5, ev5⟩ : ∃ y : Int64, F3 (0 : Int32).toNatClampNeg = y := ⟨_, rfl⟩
  refine tw_lald (v := v5) dX10_worth_5 f2 (vp_in_nI (n := 0) (by decide) (by decide)) ev5 ?_
  refine tw_aload_n 0 dX10_worth_6 rfl rfl ?_
  obtain ⟨e6, f7, th_8, td_9, ds_10, fr_11, ca_12, us_13, wo_14, cm_15, lc_16, lh_17, ld_18, rfl, k19, k20, k21, k22, k23, k24, k25, k26, k27, k28, k29, k30, k31, k32, k33, k34⟩ := sp0.1 x 36 kx (by decide)
  refine tw_get (v := .int (g.1 1)) rfl in_14 2 dX10_worth_7 w_1153 rfl (by decide) f7 rfl ?_
  refine tw_i2l dX10_worth_10 ?_
  refine tw_nml (fun v35 ev35 => ?_)
  refine tw_lmul dX10_worth_11 ?_
  refine tw_nml (fun v36 ev36 => ?_)
  refine tw_ldc2 (v := 10) dX10_worth_12 w_1373 ?_
  refine tw_ldiv dX10_worth_15 (by decide) ?_
  refine tw_nml (fun v37 ev37 => ?_)
  refine tw_ladd dX10_worth_16 ?_
  refine tw_nml (fun v38 ev38 => ?_)
  exact tw_lret dX10_worth_17 rfl (Or.inl ⟨_, rfl, rfl⟩)

set_option maxHeartbeats 4000000 in
set_option maxRecDepth 100000 in
theorem c_X10_law (d : tw_D) (g : tw_G) (τ : tw_K) (h : tw_H) (hw : tw_wt d g τ h) (x : Nat) (kx : τ x = 36) (n : Int32) (rt : Int32) (ct : Int32) : tw_Ct d mX10_law 0 0 [.ref x, .int n, .int rt, .int ct] h (tw_qi (fun r h1 => tw_sp d τ h g τ h1) tw_nx) := by
  refine tw_of (by decide +kernel) (Nat.le_of_ble_eq_true rfl) ?_
  show tw_W d mX10_law _ 0 [(0, .ref x), (1, .int n), (2, .int rt), (3, .int ct)] [] h 0 0
  have sp0 := tw_sp.rf hw
  refine tw_aload_n 0 dX10_law_0 rfl rfl ?_
  refine tw_aload_n 0 dX10_law_1 rfl rfl ?_
  refine tw_iload_n 1 dX10_law_2 rfl rfl ?_
  obtain ⟨e1, f2, th_3, td_4, ds_5, fr_6, ca_7, us_8, wo_9, cm_10, lc_11, lh_12, ld_13, rfl, k14, k15, k16, k17, k18, k19, k20, k21, k22, k23, k24, k25, k26, k27, k28, k29⟩ := sp0.1 x 36 kx (by decide)
  refine tw_bi (tw_callV (M := mX10_law) (pc := 3) okX10_isNoCountry dX10_law_3 w_1292 rfl f2 [.int n] [.ref x] rfl rfl ⟨by decide, by decide⟩ (Nat.le_of_ble_eq_true rfl) (c_X10_isNoCountry d g τ h sp0.1 x kx n) 0 0 (Nat.le_of_ble_eq_true rfl) (Nat.le_of_ble_eq_true rfl)) (fun r32 h31 q30 => ?_) (fun E h1 q => q.elim)
  obtain ⟨q30e, q30d⟩ := q30
  rw [q30e]
  rcases q30d with q30r | ⟨q30r, j33, q30j, q30k⟩
  · rw [q30r]
    refine tw_iconst (v := 1) dX10_law_6 (by decide) ?_
    refine tw_bi (tw_callV (M := mX10_law) (pc := 7) okX10_start dX10_law_7 w_1200 rfl f2 [.int 1, .int 1] [] rfl rfl ⟨by decide, by decide⟩ (Nat.le_of_ble_eq_true rfl) (c_X10_start d g τ h sp0.1 x kx 1 1 (by decide)) 0 0 (Nat.le_of_ble_eq_true rfl) (Nat.le_of_ble_eq_true rfl)) (fun r36 h35 q34 => ?_) (fun E h1 q => q.elim)
    obtain ⟨e37, he38, hs39, hr40, h341⟩ := q34
    have sp42 : tw_sp d τ h g τ h35 := by rw [he38]; exact sp0.set kx (by decide) hs39
    rcases hr40 with ei43 | ⟨ei43, ei43b⟩
    · rw [ei43]
      refine tw_if_ne 48 dX10_law_10 (by decide) (fun _ => ?_) (fun c44 => absurd c44 (by decide))
      refine tw_iconst (v := 0) dX10_law_48 (by decide) ?_
      exact tw_iret dX10_law_49 rfl (Or.inl ⟨_, rfl, sp42⟩)
    · exact absurd ei43b (by decide)
  · rw [q30r]
    subst q30k
    refine tw_iconst (v := 1) dX10_law_6 (by decide) ?_
    refine tw_bi (tw_callV (M := mX10_law) (pc := 7) okX10_start dX10_law_7 w_1200 rfl f2 [.int 0, .int 1] [] rfl rfl ⟨by decide, by decide⟩ (Nat.le_of_ble_eq_true rfl) (c_X10_start d g τ h sp0.1 x kx 0 1 (by decide)) 0 0 (Nat.le_of_ble_eq_true rfl) (Nat.le_of_ble_eq_true rfl)) (fun r47 h46 q45 => ?_) (fun E h1 q => q.elim)
    obtain ⟨e48, he49, hs50, hr51, h352⟩ := q45
    have sp53 : tw_sp d τ h g τ h46 := by rw [he49]; exact sp0.set kx (by decide) hs50
    rcases hr51 with ei54 | ⟨ei54, ei54b⟩
    · rw [ei54]
      refine tw_if_ne 48 dX10_law_10 (by decide) (fun _ => ?_) (fun c55 => absurd c55 (by decide))
      refine tw_iconst (v := 0) dX10_law_48 (by decide) ?_
      exact tw_iret dX10_law_49 rfl (Or.inl ⟨_, rfl, sp53⟩)
    · rw [ei54]
      refine tw_if_ne 48 dX10_law_10 (by decide) (fun c56 => absurd (by decide) c56) (fun _ => ?_)
      refine tw_aload_n 0 dX10_law_13 rfl rfl ?_
      refine tw_iload_n 2 dX10_law_14 rfl rfl ?_
      refine tw_bipush (v := 100) dX10_law_15 (by decide) ?_
      refine tw_sipush (v := 200) dX10_law_17 (by decide) ?_
      refine tw_bi (tw_callS (M := mX10_law) (pc := 20) okX10_isIn dX10_law_20 w_1196 [.int rt, .int 100, .int 200] [.ref x] rfl rfl ⟨by decide, by decide⟩ (Nat.le_of_ble_eq_true rfl) (c_X10_isIn d g τ h46 sp53.1 rt 100 200) 0 0 (Nat.le_of_ble_eq_true rfl) (Nat.le_of_ble_eq_true rfl)) (fun r59 h58 q57 => ?_) (fun E h1 q => q.elim)
      obtain ⟨q57e, q57d⟩ := q57
      rw [q57e]
      rcases q57d with ⟨q57r, q57n⟩ | ⟨q57r, q57a, q57b⟩
      · rw [q57r]
        refine tw_if_eq 36 dX10_law_23 (by decide) (fun _ => ?_) (fun c60 => absurd (by decide) c60)
        refine tw_iconst (v := 1) dX10_law_36 (by decide) ?_
        refine tw_goto 41 dX10_law_37 (by decide) ?_
        refine tw_iconst (v := 2) dX10_law_41 (by decide) ?_
        obtain ⟨e61, f62, th_63, td_64, ds_65, fr_66, ca_67, us_68, wo_69, cm_70, lc_71, lh_72, ld_73, rfl, k74, k75, k76, k77, k78, k79, k80, k81, k82, k83, k84, k85, k86, k87, k88, k89⟩ := sp53.1 x 36 kx (by decide)
        refine tw_bi (tw_callV (M := mX10_law) (pc := 42) okX10_refuse dX10_law_42 w_1204 rfl f62 [.int 1, .int 2] [] rfl rfl ⟨by decide, by decide⟩ (Nat.le_of_ble_eq_true rfl) (c_X10_refuse d g τ h46 sp53.1 x kx 1 2 (by decide)) 0 0 (Nat.le_of_ble_eq_true rfl) (Nat.le_of_ble_eq_true rfl)) (fun r92 h91 q90 => ?_) (fun E h1 q => q.elim)
        obtain ⟨e93, he94, hs95, hr96, h397⟩ := q90
        have sp98 : tw_sp d τ h g τ h91 := by rw [he94]; exact sp53.set kx (by decide) hs95
        rcases hr96 with ei99 | ⟨ei99, ei99b⟩
        · rw [ei99]
          refine tw_if_eq 50 dX10_law_45 (by decide) (fun c100 => absurd c100 (by decide)) (fun _ => ?_)
          refine tw_iconst (v := 0) dX10_law_48 (by decide) ?_
          exact tw_iret dX10_law_49 rfl (Or.inl ⟨_, rfl, sp98⟩)
        · exact absurd ei99b (by decide)
      · rw [q57r]
        refine tw_if_eq 36 dX10_law_23 (by decide) (fun c101 => absurd c101 (by decide)) (fun _ => ?_)
        refine tw_iload_n 3 dX10_law_26 rfl rfl ?_
        refine tw_iconst (v := 0) dX10_law_27 (by decide) ?_
        refine tw_bipush (v := 50) dX10_law_28 (by decide) ?_
        refine tw_bi (tw_callS (M := mX10_law) (pc := 30) okX10_isIn dX10_law_30 w_1196 [.int ct, .int 0, .int 50] [.ref x] rfl rfl ⟨by decide, by decide⟩ (Nat.le_of_ble_eq_true rfl) (c_X10_isIn d g τ h46 sp53.1 ct 0 50) 0 0 (Nat.le_of_ble_eq_true rfl) (Nat.le_of_ble_eq_true rfl)) (fun r104 h103 q102 => ?_) (fun E h1 q => q.elim)
        obtain ⟨q102e, q102d⟩ := q102
        rw [q102e]
        rcases q102d with ⟨q102r, q102n⟩ | ⟨q102r, q102a, q102b⟩
        · rw [q102r]
          refine tw_if_ne 40 dX10_law_33 (by decide) (fun c105 => absurd (by decide) c105) (fun _ => ?_)
          refine tw_iconst (v := 1) dX10_law_36 (by decide) ?_
          refine tw_goto 41 dX10_law_37 (by decide) ?_
          refine tw_iconst (v := 2) dX10_law_41 (by decide) ?_
          obtain ⟨e106, f107, th_108, td_109, ds_110, fr_111, ca_112, us_113, wo_114, cm_115, lc_116, lh_117, ld_118, rfl, k119, k120, k121, k122, k123, k124, k125, k126, k127, k128, k129, k130, k131, k132, k133, k134⟩ := sp53.1 x 36 kx (by decide)
          refine tw_bi (tw_callV (M := mX10_law) (pc := 42) okX10_refuse dX10_law_42 w_1204 rfl f107 [.int 1, .int 2] [] rfl rfl ⟨by decide, by decide⟩ (Nat.le_of_ble_eq_true rfl) (c_X10_refuse d g τ h46 sp53.1 x kx 1 2 (by decide)) 0 0 (Nat.le_of_ble_eq_true rfl) (Nat.le_of_ble_eq_true rfl)) (fun r137 h136 q135 => ?_) (fun E h1 q => q.elim)
          obtain ⟨e138, he139, hs140, hr141, h3142⟩ := q135
          have sp143 : tw_sp d τ h g τ h136 := by rw [he139]; exact sp53.set kx (by decide) hs140
          rcases hr141 with ei144 | ⟨ei144, ei144b⟩
          · rw [ei144]
            refine tw_if_eq 50 dX10_law_45 (by decide) (fun c145 => absurd c145 (by decide)) (fun _ => ?_)
            refine tw_iconst (v := 0) dX10_law_48 (by decide) ?_
            exact tw_iret dX10_law_49 rfl (Or.inl ⟨_, rfl, sp143⟩)
          · exact absurd ei144b (by decide)
        · rw [q102r]
          refine tw_if_ne 40 dX10_law_33 (by decide) (fun _ => ?_) (fun c146 => absurd c146 (by decide))
          refine tw_iconst (v := 0) dX10_law_40 (by decide) ?_
          refine tw_iconst (v := 2) dX10_law_41 (by decide) ?_
          obtain ⟨e147, f148, th_149, td_150, ds_151, fr_152, ca_153, us_154, wo_155, cm_156, lc_157, lh_158, ld_159, rfl, k160, k161, k162, k163, k164, k165, k166, k167, k168, k169, k170, k171, k172, k173, k174, k175⟩ := sp53.1 x 36 kx (by decide)
          refine tw_bi (tw_callV (M := mX10_law) (pc := 42) okX10_refuse dX10_law_42 w_1204 rfl f148 [.int 0, .int 2] [] rfl rfl ⟨by decide, by decide⟩ (Nat.le_of_ble_eq_true rfl) (c_X10_refuse d g τ h46 sp53.1 x kx 0 2 (by decide)) 0 0 (Nat.le_of_ble_eq_true rfl) (Nat.le_of_ble_eq_true rfl)) (fun r178 h177 q176 => ?_) (fun E h1 q => q.elim)
          obtain ⟨e179, he180, hs181, hr182, h3183⟩ := q176
          have sp184 : tw_sp d τ h g τ h177 := by rw [he180]; exact sp53.set kx (by decide) hs181
          rcases hr182 with ei185 | ⟨ei185, ei185b⟩
          · rw [ei185]
            refine tw_if_eq 50 dX10_law_45 (by decide) (fun c186 => absurd c186 (by decide)) (fun _ => ?_)
            refine tw_iconst (v := 0) dX10_law_48 (by decide) ?_
            exact tw_iret dX10_law_49 rfl (Or.inl ⟨_, rfl, sp184⟩)
          · rw [ei185]
            refine tw_if_eq 50 dX10_law_45 (by decide) (fun _ => ?_) (fun c187 => absurd (by decide) c187)
            refine tw_aload_n 0 dX10_law_50 rfl rfl ?_
            obtain ⟨e188, f189, th_190, td_191, ds_192, fr_193, ca_194, us_195, wo_196, cm_197, lc_198, lh_199, ld_200, rfl, k201, k202, k203, k204, k205, k206, k207, k208, k209, k210, k211, k212, k213, k214, k215, k216⟩ := sp184.1 x 36 kx (by decide)
            refine tw_get (v := .ref lc_198) rfl in_14 9 dX10_law_51 w_1160 rfl (by decide) f189 rfl ?_
            refine tw_iload_n 1 dX10_law_54 rfl rfl ?_
            obtain ⟨e217, f218, ⟨el219, rfl, k220⟩, k221⟩ := sp184.1 lc_198 24 k207 (by decide)
            refine tw_br (tw_callV (M := mX10_law) (pc := 55) okJx4a65c_get_915e3 dX10_law_55 w_1296 rfl f218 [.int (nI j33)] [] rfl rfl ⟨by decide, by decide⟩ (Nat.le_of_ble_eq_true rfl) (c24_get d g τ h177 sp184.1 lc_198 k207 j33 (by omega) (by omega)) 0 0 (Nat.le_of_ble_eq_true rfl) (Nat.le_of_ble_eq_true rfl)) (fun r224 h223 q222 => ?_) (fun E h1 q => q.elim)
            obtain ⟨q222e, q222k⟩ := q222
            rw [q222e]
            have el225 : tw_el h177 (g.2 12) j33 = r224 := by rw [← k221]; exact q222k.2.symm
            have kl226 : τ (g.2 12) = 24 := by rw [← k221]; exact k207
            obtain ⟨e227, f228, r_229, c_230, v_231, o_232, t_233, rfl, k234, k235, k236, k237, k238⟩ := sp184.1 r224 21 q222k.1 (by decide)
            refine tw_castS (ci := 11) rfl dX10_law_58 w_1212 f228 ?_
            refine tw_astore [(4, .ref r224), (0, .ref x), (1, .int (nI j33)), (2, .int rt), (3, .int ct)] dX10_law_61 (by decide) rfl ?_
            refine tw_aload 0 dX10_law_63 rfl ?_
            refine tw_get (v := .int r_229) rfl in_11 0 dX10_law_65 w_1218 rfl (by decide) f228 rfl ?_
            refine tw_istore [(5, .int r_229), (4, .ref r224), (0, .ref x), (1, .int (nI j33)), (2, .int rt), (3, .int ct)] dX10_law_68 (by decide) rfl ?_
            refine tw_aload 1 dX10_law_70 rfl ?_
            refine tw_iload_n 4 dX10_law_72 rfl rfl ?_
            refine tw_put rfl in_11 tyX7 tyX7_ok nmX7 0 dX10_law_73 w_1218 rfl (by decide) f228 rfl rfl rfl rfl (Nat.le_of_ble_eq_true rfl) [.int rt, .int c_230, .ref v_231, .ref o_232, .ref t_233] rfl ?_
            obtain ⟨h239, eh239⟩ : ∃ z : tw_H, z = tw_up h177 r224 (.inr (11, [.int rt, .int c_230, .ref v_231, .ref o_232, .ref t_233])) := ⟨_, rfl⟩
            rw [← eh239]
            have sp240 : tw_sp d τ h g τ h239 := by rw [eh239]; exact sp184.set q222k.1 (by decide) ⟨rt, c_230, v_231, o_232, t_233, rfl, k234, k235, k236, q57a, q57b⟩
            have f241 : h239 r224 = some (.inr (11, [.int rt, .int c_230, .ref v_231, .ref o_232, .ref t_233])) := by rw [eh239]; exact tw_up_s
            refine tw_aload 1 dX10_law_76 rfl ?_
            refine tw_iload_n 5 dX10_law_78 rfl rfl ?_
            refine tw_put rfl in_11 tyX7 tyX7_ok nmX7 1 dX10_law_79 w_1219 rfl (by decide) f241 rfl rfl rfl rfl (Nat.le_of_ble_eq_true rfl) [.int rt, .int ct, .ref v_231, .ref o_232, .ref t_233] rfl ?_
            obtain ⟨h242, eh242⟩ : ∃ z : tw_H, z = tw_up h239 r224 (.inr (11, [.int rt, .int ct, .ref v_231, .ref o_232, .ref t_233])) := ⟨_, rfl⟩
            rw [← eh242]
            have sp243 : tw_sp d τ h g τ h242 := by rw [eh242]; exact sp240.set q222k.1 (by decide) ⟨rt, ct, v_231, o_232, t_233, rfl, k234, k235, k236, q57a, q57b⟩
            have f244 : h242 r224 = some (.inr (11, [.int rt, .int ct, .ref v_231, .ref o_232, .ref t_233])) := by rw [eh242]; exact tw_up_s
            refine tw_iload 0 dX10_law_82 rfl ?_
            exact tw_iret dX10_law_84 rfl (Or.inl ⟨_, rfl, sp243⟩)

set_option maxHeartbeats 4000000 in
set_option maxRecDepth 100000 in
theorem c_X10_gate (d : tw_D) (g : tw_G) (τ : tw_K) (h : tw_H) (hw : tw_wt d g τ h) (x : Nat) (kx : τ x = 36) (n : Int32) (m : Int32) (b : Int32) (kb : tw_01 b) : tw_Ct d mX10_gate 0 0 [.ref x, .int n, .int m, .int b] h (tw_qi (fun r h1 => tw_sp d τ h g τ h1 ∧ tw_01 r) tw_nx) := by
  refine tw_of (by decide +kernel) (Nat.le_of_ble_eq_true rfl) ?_
  show tw_W d mX10_gate _ 0 [(0, .ref x), (1, .int n), (2, .int m), (3, .int b)] [] h 0 0
  have sp0 := tw_sp.rf hw
  refine tw_aload_n 0 dX10_gate_0 rfl rfl ?_
  refine tw_aload_n 0 dX10_gate_1 rfl rfl ?_
  refine tw_iload_n 1 dX10_gate_2 rfl rfl ?_
  obtain ⟨e1, f2, th_3, td_4, ds_5, fr_6, ca_7, us_8, wo_9, cm_10, lc_11, lh_12, ld_13, rfl, k14, k15, k16, k17, k18, k19, k20, k21, k22, k23, k24, k25, k26, k27, k28, k29⟩ := sp0.1 x 36 kx (by decide)
  refine tw_bi (tw_callV (M := mX10_gate) (pc := 3) okX10_isNoCountry dX10_gate_3 w_1292 rfl f2 [.int n] [.ref x] rfl rfl ⟨by decide, by decide⟩ (Nat.le_of_ble_eq_true rfl) (c_X10_isNoCountry d g τ h sp0.1 x kx n) 0 0 (Nat.le_of_ble_eq_true rfl) (Nat.le_of_ble_eq_true rfl)) (fun r32 h31 q30 => ?_) (fun E h1 q => q.elim)
  obtain ⟨q30e, q30d⟩ := q30
  rw [q30e]
  rcases q30d with q30r | ⟨q30r, j33, q30j, q30k⟩
  · rw [q30r]
    refine tw_iconst (v := 1) dX10_gate_6 (by decide) ?_
    refine tw_bi (tw_callV (M := mX10_gate) (pc := 7) okX10_start dX10_gate_7 w_1200 rfl f2 [.int 1, .int 1] [] rfl rfl ⟨by decide, by decide⟩ (Nat.le_of_ble_eq_true rfl) (c_X10_start d g τ h sp0.1 x kx 1 1 (by decide)) 0 0 (Nat.le_of_ble_eq_true rfl) (Nat.le_of_ble_eq_true rfl)) (fun r36 h35 q34 => ?_) (fun E h1 q => q.elim)
    obtain ⟨e37, he38, hs39, hr40, h341⟩ := q34
    have sp42 : tw_sp d τ h g τ h35 := by rw [he38]; exact sp0.set kx (by decide) hs39
    rcases hr40 with ei43 | ⟨ei43, ei43b⟩
    · rw [ei43]
      refine tw_if_ne 25 dX10_gate_10 (by decide) (fun _ => ?_) (fun c44 => absurd c44 (by decide))
      refine tw_iconst (v := 0) dX10_gate_25 (by decide) ?_
      exact tw_zret dX10_gate_26 rfl rfl (Or.inl ⟨_, rfl, ⟨sp42, (by unfold tw_01; decide)⟩⟩)
    · exact absurd ei43b (by decide)
  · rw [q30r]
    subst q30k
    refine tw_iconst (v := 1) dX10_gate_6 (by decide) ?_
    refine tw_bi (tw_callV (M := mX10_gate) (pc := 7) okX10_start dX10_gate_7 w_1200 rfl f2 [.int 0, .int 1] [] rfl rfl ⟨by decide, by decide⟩ (Nat.le_of_ble_eq_true rfl) (c_X10_start d g τ h sp0.1 x kx 0 1 (by decide)) 0 0 (Nat.le_of_ble_eq_true rfl) (Nat.le_of_ble_eq_true rfl)) (fun r47 h46 q45 => ?_) (fun E h1 q => q.elim)
    obtain ⟨e48, he49, hs50, hr51, h352⟩ := q45
    have sp53 : tw_sp d τ h g τ h46 := by rw [he49]; exact sp0.set kx (by decide) hs50
    rcases hr51 with ei54 | ⟨ei54, ei54b⟩
    · rw [ei54]
      refine tw_if_ne 25 dX10_gate_10 (by decide) (fun _ => ?_) (fun c55 => absurd c55 (by decide))
      refine tw_iconst (v := 0) dX10_gate_25 (by decide) ?_
      exact tw_zret dX10_gate_26 rfl rfl (Or.inl ⟨_, rfl, ⟨sp53, (by unfold tw_01; decide)⟩⟩)
    · rw [ei54]
      refine tw_if_ne 25 dX10_gate_10 (by decide) (fun c56 => absurd (by decide) c56) (fun _ => ?_)
      refine tw_aload_n 0 dX10_gate_13 rfl rfl ?_
      refine tw_iload_n 2 dX10_gate_14 rfl rfl ?_
      refine tw_bi (tw_callS (M := mX10_gate) (pc := 15) okX10_isNoMetal dX10_gate_15 w_1312 [.int m] [.ref x] rfl rfl ⟨by decide, by decide⟩ (Nat.le_of_ble_eq_true rfl) (c_X10_isNoMetal d g τ h46 sp53.1 m) 0 0 (Nat.le_of_ble_eq_true rfl) (Nat.le_of_ble_eq_true rfl)) (fun r59 h58 q57 => ?_) (fun E h1 q => q.elim)
      obtain ⟨q57e, q57d⟩ := q57
      rw [q57e]
      rcases q57d with q57r | ⟨q57r, q57m⟩
      · rw [q57r]
        refine tw_iconst (v := 2) dX10_gate_18 (by decide) ?_
        obtain ⟨e60, f61, th_62, td_63, ds_64, fr_65, ca_66, us_67, wo_68, cm_69, lc_70, lh_71, ld_72, rfl, k73, k74, k75, k76, k77, k78, k79, k80, k81, k82, k83, k84, k85, k86, k87, k88⟩ := sp53.1 x 36 kx (by decide)
        refine tw_bi (tw_callV (M := mX10_gate) (pc := 19) okX10_refuse dX10_gate_19 w_1204 rfl f61 [.int 1, .int 2] [] rfl rfl ⟨by decide, by decide⟩ (Nat.le_of_ble_eq_true rfl) (c_X10_refuse d g τ h46 sp53.1 x kx 1 2 (by decide)) 0 0 (Nat.le_of_ble_eq_true rfl) (Nat.le_of_ble_eq_true rfl)) (fun r91 h90 q89 => ?_) (fun E h1 q => q.elim)
        obtain ⟨e92, he93, hs94, hr95, h396⟩ := q89
        have sp97 : tw_sp d τ h g τ h90 := by rw [he93]; exact sp53.set kx (by decide) hs94
        rcases hr95 with ei98 | ⟨ei98, ei98b⟩
        · rw [ei98]
          refine tw_if_eq 27 dX10_gate_22 (by decide) (fun c99 => absurd c99 (by decide)) (fun _ => ?_)
          refine tw_iconst (v := 0) dX10_gate_25 (by decide) ?_
          exact tw_zret dX10_gate_26 rfl rfl (Or.inl ⟨_, rfl, ⟨sp97, (by unfold tw_01; decide)⟩⟩)
        · exact absurd ei98b (by decide)
      · rw [q57r]
        refine tw_iconst (v := 2) dX10_gate_18 (by decide) ?_
        obtain ⟨e100, f101, th_102, td_103, ds_104, fr_105, ca_106, us_107, wo_108, cm_109, lc_110, lh_111, ld_112, rfl, k113, k114, k115, k116, k117, k118, k119, k120, k121, k122, k123, k124, k125, k126, k127, k128⟩ := sp53.1 x 36 kx (by decide)
        refine tw_bi (tw_callV (M := mX10_gate) (pc := 19) okX10_refuse dX10_gate_19 w_1204 rfl f101 [.int 0, .int 2] [] rfl rfl ⟨by decide, by decide⟩ (Nat.le_of_ble_eq_true rfl) (c_X10_refuse d g τ h46 sp53.1 x kx 0 2 (by decide)) 0 0 (Nat.le_of_ble_eq_true rfl) (Nat.le_of_ble_eq_true rfl)) (fun r131 h130 q129 => ?_) (fun E h1 q => q.elim)
        obtain ⟨e132, he133, hs134, hr135, h3136⟩ := q129
        have sp137 : tw_sp d τ h g τ h130 := by rw [he133]; exact sp53.set kx (by decide) hs134
        rcases hr135 with ei138 | ⟨ei138, ei138b⟩
        · rw [ei138]
          refine tw_if_eq 27 dX10_gate_22 (by decide) (fun c139 => absurd c139 (by decide)) (fun _ => ?_)
          refine tw_iconst (v := 0) dX10_gate_25 (by decide) ?_
          exact tw_zret dX10_gate_26 rfl rfl (Or.inl ⟨_, rfl, ⟨sp137, (by unfold tw_01; decide)⟩⟩)
        · rw [ei138]
          refine tw_if_eq 27 dX10_gate_22 (by decide) (fun _ => ?_) (fun c140 => absurd (by decide) c140)
          refine tw_aload_n 0 dX10_gate_27 rfl rfl ?_
          obtain ⟨e141, f142, th_143, td_144, ds_145, fr_146, ca_147, us_148, wo_149, cm_150, lc_151, lh_152, ld_153, rfl, k154, k155, k156, k157, k158, k159, k160, k161, k162, k163, k164, k165, k166, k167, k168, k169⟩ := sp137.1 x 36 kx (by decide)
          refine tw_get (v := .ref lc_151) rfl in_14 9 dX10_gate_28 w_1160 rfl (by decide) f142 rfl ?_
          refine tw_iload_n 1 dX10_gate_31 rfl rfl ?_
          obtain ⟨e170, f171, ⟨el172, rfl, k173⟩, k174⟩ := sp137.1 lc_151 24 k160 (by decide)
          refine tw_br (tw_callV (M := mX10_gate) (pc := 32) okJx4a65c_get_915e3 dX10_gate_32 w_1296 rfl f171 [.int (nI j33)] [] rfl rfl ⟨by decide, by decide⟩ (Nat.le_of_ble_eq_true rfl) (c24_get d g τ h130 sp137.1 lc_151 k160 j33 (by omega) (by omega)) 0 0 (Nat.le_of_ble_eq_true rfl) (Nat.le_of_ble_eq_true rfl)) (fun r177 h176 q175 => ?_) (fun E h1 q => q.elim)
          obtain ⟨q175e, q175k⟩ := q175
          rw [q175e]
          have el178 : tw_el h130 (g.2 12) j33 = r177 := by rw [← k174]; exact q175k.2.symm
          have kl179 : τ (g.2 12) = 24 := by rw [← k174]; exact k160
          obtain ⟨e180, f181, r_182, c_183, v_184, o_185, t_186, rfl, k187, k188, k189, k190, k191⟩ := sp137.1 r177 21 q175k.1 (by decide)
          refine tw_castS (ci := 11) rfl dX10_gate_35 w_1212 f181 ?_
          refine tw_get (v := .ref o_185) rfl in_11 3 dX10_gate_38 w_1223 rfl (by decide) f181 rfl ?_
          refine tw_iload_n 2 dX10_gate_41 rfl rfl ?_
          obtain ⟨e192, f193, F194, rfl, k195⟩ := sp137.1 o_185 32 k188 (by decide)
          obtain ⟨v196, ev196⟩ : ∃ y : Int32, F194 (m).toNatClampNeg = y := ⟨_, rfl⟩
          refine tw_zald (v := v196) dX10_gate_42 f193 (tw_in01 q57m (by decide)) ev196 ?_
          refine tw_istore [(4, .int v196), (0, .ref x), (1, .int (nI j33)), (2, .int m), (3, .int b)] dX10_gate_43 (by decide) rfl ?_
          refine tw_aload_n 1 dX10_gate_45 rfl rfl ?_
          refine tw_get (v := .ref lc_151) rfl in_14 9 dX10_gate_46 w_1160 rfl (by decide) f142 rfl ?_
          refine tw_iload_n 2 dX10_gate_49 rfl rfl ?_
          refine tw_br (tw_callV (M := mX10_gate) (pc := 50) okJx4a65c_get_915e3 dX10_gate_50 w_1296 rfl f171 [.int (nI j33)] [] rfl rfl ⟨by decide, by decide⟩ (Nat.le_of_ble_eq_true rfl) (c24_get d g τ h130 sp137.1 lc_151 k160 j33 (by omega) (by omega)) 0 0 (Nat.le_of_ble_eq_true rfl) (Nat.le_of_ble_eq_true rfl)) (fun r199 h198 q197 => ?_) (fun E h1 q => q.elim)
          obtain ⟨q197e, q197k⟩ := q197
          rw [q197e]
          have q197ky : r199 = r177 := q197k.2.trans (by rw [k174]; exact el178)
          rw [q197ky]
          refine tw_castS (ci := 11) rfl dX10_gate_53 w_1212 f181 ?_
          refine tw_get (v := .ref o_185) rfl in_11 3 dX10_gate_56 w_1223 rfl (by decide) f181 rfl ?_
          refine tw_iload_n 3 dX10_gate_59 rfl rfl ?_
          refine tw_iload_n 4 dX10_gate_60 rfl rfl ?_
          refine tw_zast dX10_gate_61 f193 (tw_in01 q57m (by decide)) ?_
          obtain ⟨h200, eh200⟩ : ∃ z : tw_H, z = tw_up h130 o_185 (.inl (d.2 2, 2, .inl (upd F194 (m).toNatClampNeg (vp_nar .boolean b)))) := ⟨_, rfl⟩
          rw [← eh200]
          have sp201 : tw_sp d τ h g τ h200 := by rw [eh200]; exact sp137.set k188 (by decide) ⟨_, rfl, tw_01up k195 (tw_vp01 kb)⟩
          refine tw_iload 0 dX10_gate_62 rfl ?_
          exact tw_zret dX10_gate_64 rfl (tw_nar01 (by rw [← ev196]; exact k195 _)) (Or.inl ⟨_, rfl, ⟨sp201, (by rw [← ev196]; exact k195 _)⟩⟩)

set_option maxHeartbeats 4000000 in
set_option maxRecDepth 100000 in
theorem c_X10_road (d : tw_D) (g : tw_G) (τ : tw_K) (h : tw_H) (hw : tw_wt d g τ h) (x : Nat) (kx : τ x = 36) (a : Int32) (b : Int32) (dy : Int32) (fr : Int32) : tw_Ct d mX10_road 0 0 [.ref x, .int a, .int b, .int dy, .int fr] h (tw_qi (fun r h1 => tw_sp d τ h g τ h1) tw_nx) := by
  refine tw_of (by decide +kernel) (Nat.le_of_ble_eq_true rfl) ?_
  show tw_W d mX10_road _ 0 [(0, .ref x), (1, .int a), (2, .int b), (3, .int dy), (4, .int fr)] [] h 0 0
  have sp0 := tw_sp.rf hw
  refine tw_aload_n 0 dX10_road_0 rfl rfl ?_
  refine tw_aload_n 0 dX10_road_1 rfl rfl ?_
  refine tw_iload_n 1 dX10_road_2 rfl rfl ?_
  obtain ⟨e1, f2, th_3, td_4, ds_5, fr_6, ca_7, us_8, wo_9, cm_10, lc_11, lh_12, ld_13, rfl, k14, k15, k16, k17, k18, k19, k20, k21, k22, k23, k24, k25, k26, k27, k28, k29⟩ := sp0.1 x 36 kx (by decide)
  refine tw_bi (tw_callV (M := mX10_road) (pc := 3) okX10_isNoCountry dX10_road_3 w_1292 rfl f2 [.int a] [.ref x] rfl rfl ⟨by decide, by decide⟩ (Nat.le_of_ble_eq_true rfl) (c_X10_isNoCountry d g τ h sp0.1 x kx a) 0 0 (Nat.le_of_ble_eq_true rfl) (Nat.le_of_ble_eq_true rfl)) (fun r32 h31 q30 => ?_) (fun E h1 q => q.elim)
  obtain ⟨q30e, q30d⟩ := q30
  rw [q30e]
  rcases q30d with q30r | ⟨q30r, j33, q30j, q30k⟩
  · rw [q30r]
    refine tw_if_ne 17 dX10_road_6 (by decide) (fun _ => ?_) (fun c34 => absurd c34 (by decide))
    refine tw_iconst (v := 1) dX10_road_17 (by decide) ?_
    refine tw_goto 22 dX10_road_18 (by decide) ?_
    refine tw_iconst (v := 1) dX10_road_22 (by decide) ?_
    refine tw_bi (tw_callV (M := mX10_road) (pc := 23) okX10_start dX10_road_23 w_1200 rfl f2 [.int 1, .int 1] [] rfl rfl ⟨by decide, by decide⟩ (Nat.le_of_ble_eq_true rfl) (c_X10_start d g τ h sp0.1 x kx 1 1 (by decide)) 0 0 (Nat.le_of_ble_eq_true rfl) (Nat.le_of_ble_eq_true rfl)) (fun r37 h36 q35 => ?_) (fun E h1 q => q.elim)
    obtain ⟨e38, he39, hs40, hr41, h342⟩ := q35
    have sp43 : tw_sp d τ h g τ h36 := by rw [he39]; exact sp0.set kx (by decide) hs40
    rcases hr41 with ei44 | ⟨ei44, ei44b⟩
    · rw [ei44]
      refine tw_if_ne 68 dX10_road_26 (by decide) (fun _ => ?_) (fun c45 => absurd c45 (by decide))
      refine tw_iconst (v := 0) dX10_road_68 (by decide) ?_
      exact tw_iret dX10_road_69 rfl (Or.inl ⟨_, rfl, sp43⟩)
    · exact absurd ei44b (by decide)
  · rw [q30r]
    subst q30k
    refine tw_if_ne 17 dX10_road_6 (by decide) (fun c46 => absurd (by decide) c46) (fun _ => ?_)
    refine tw_aload_n 0 dX10_road_9 rfl rfl ?_
    refine tw_iload_n 2 dX10_road_10 rfl rfl ?_
    refine tw_bi (tw_callV (M := mX10_road) (pc := 11) okX10_isNoCountry dX10_road_11 w_1292 rfl f2 [.int b] [.ref x] rfl rfl ⟨by decide, by decide⟩ (Nat.le_of_ble_eq_true rfl) (c_X10_isNoCountry d g τ h sp0.1 x kx b) 0 0 (Nat.le_of_ble_eq_true rfl) (Nat.le_of_ble_eq_true rfl)) (fun r49 h48 q47 => ?_) (fun E h1 q => q.elim)
    obtain ⟨q47e, q47d⟩ := q47
    rw [q47e]
    rcases q47d with q47r | ⟨q47r, j50, q47j, q47k⟩
    · rw [q47r]
      refine tw_if_eq 21 dX10_road_14 (by decide) (fun c51 => absurd c51 (by decide)) (fun _ => ?_)
      refine tw_iconst (v := 1) dX10_road_17 (by decide) ?_
      refine tw_goto 22 dX10_road_18 (by decide) ?_
      refine tw_iconst (v := 1) dX10_road_22 (by decide) ?_
      refine tw_bi (tw_callV (M := mX10_road) (pc := 23) okX10_start dX10_road_23 w_1200 rfl f2 [.int 1, .int 1] [] rfl rfl ⟨by decide, by decide⟩ (Nat.le_of_ble_eq_true rfl) (c_X10_start d g τ h sp0.1 x kx 1 1 (by decide)) 0 0 (Nat.le_of_ble_eq_true rfl) (Nat.le_of_ble_eq_true rfl)) (fun r54 h53 q52 => ?_) (fun E h1 q => q.elim)
      obtain ⟨e55, he56, hs57, hr58, h359⟩ := q52
      have sp60 : tw_sp d τ h g τ h53 := by rw [he56]; exact sp0.set kx (by decide) hs57
      rcases hr58 with ei61 | ⟨ei61, ei61b⟩
      · rw [ei61]
        refine tw_if_ne 68 dX10_road_26 (by decide) (fun _ => ?_) (fun c62 => absurd c62 (by decide))
        refine tw_iconst (v := 0) dX10_road_68 (by decide) ?_
        exact tw_iret dX10_road_69 rfl (Or.inl ⟨_, rfl, sp60⟩)
      · exact absurd ei61b (by decide)
    · rw [q47r]
      subst q47k
      refine tw_if_eq 21 dX10_road_14 (by decide) (fun _ => ?_) (fun c63 => absurd (by decide) c63)
      refine tw_iconst (v := 0) dX10_road_21 (by decide) ?_
      refine tw_iconst (v := 1) dX10_road_22 (by decide) ?_
      refine tw_bi (tw_callV (M := mX10_road) (pc := 23) okX10_start dX10_road_23 w_1200 rfl f2 [.int 0, .int 1] [] rfl rfl ⟨by decide, by decide⟩ (Nat.le_of_ble_eq_true rfl) (c_X10_start d g τ h sp0.1 x kx 0 1 (by decide)) 0 0 (Nat.le_of_ble_eq_true rfl) (Nat.le_of_ble_eq_true rfl)) (fun r66 h65 q64 => ?_) (fun E h1 q => q.elim)
      obtain ⟨e67, he68, hs69, hr70, h371⟩ := q64
      have sp72 : tw_sp d τ h g τ h65 := by rw [he68]; exact sp0.set kx (by decide) hs69
      rcases hr70 with ei73 | ⟨ei73, ei73b⟩
      · rw [ei73]
        refine tw_if_ne 68 dX10_road_26 (by decide) (fun _ => ?_) (fun c74 => absurd c74 (by decide))
        refine tw_iconst (v := 0) dX10_road_68 (by decide) ?_
        exact tw_iret dX10_road_69 rfl (Or.inl ⟨_, rfl, sp72⟩)
      · rw [ei73]
        refine tw_if_ne 68 dX10_road_26 (by decide) (fun c75 => absurd (by decide) c75) (fun _ => ?_)
        refine tw_aload_n 0 dX10_road_29 rfl rfl ?_
        refine tw_iload_n 1 dX10_road_30 rfl rfl ?_
        refine tw_iload_n 2 dX10_road_31 rfl rfl ?_
        refine tw_icmp_eq 56 dX10_road_32 (by decide) (fun c76 => ?_) (fun c76 => ?_)
        · refine tw_iconst (v := 1) dX10_road_56 (by decide) ?_
          refine tw_goto 61 dX10_road_57 (by decide) ?_
          refine tw_iconst (v := 2) dX10_road_61 (by decide) ?_
          obtain ⟨e77, f78, th_79, td_80, ds_81, fr_82, ca_83, us_84, wo_85, cm_86, lc_87, lh_88, ld_89, rfl, k90, k91, k92, k93, k94, k95, k96, k97, k98, k99, k100, k101, k102, k103, k104, k105⟩ := sp72.1 x 36 kx (by decide)
          refine tw_bi (tw_callV (M := mX10_road) (pc := 62) okX10_refuse dX10_road_62 w_1204 rfl f78 [.int 1, .int 2] [] rfl rfl ⟨by decide, by decide⟩ (Nat.le_of_ble_eq_true rfl) (c_X10_refuse d g τ h65 sp72.1 x kx 1 2 (by decide)) 0 0 (Nat.le_of_ble_eq_true rfl) (Nat.le_of_ble_eq_true rfl)) (fun r108 h107 q106 => ?_) (fun E h1 q => q.elim)
          obtain ⟨e109, he110, hs111, hr112, h3113⟩ := q106
          have sp114 : tw_sp d τ h g τ h107 := by rw [he110]; exact sp72.set kx (by decide) hs111
          rcases hr112 with ei115 | ⟨ei115, ei115b⟩
          · rw [ei115]
            refine tw_if_eq 70 dX10_road_65 (by decide) (fun c116 => absurd c116 (by decide)) (fun _ => ?_)
            refine tw_iconst (v := 0) dX10_road_68 (by decide) ?_
            exact tw_iret dX10_road_69 rfl (Or.inl ⟨_, rfl, sp114⟩)
          · exact absurd ei115b (by decide)
        · refine tw_iload_n 3 dX10_road_35 rfl rfl ?_
          refine tw_iconst (v := 1) dX10_road_36 (by decide) ?_
          refine tw_bipush (v := 30) dX10_road_37 (by decide) ?_
          refine tw_bi (tw_callS (M := mX10_road) (pc := 39) okX10_isIn dX10_road_39 w_1196 [.int dy, .int 1, .int 30] [.ref x] rfl rfl ⟨by decide, by decide⟩ (Nat.le_of_ble_eq_true rfl) (c_X10_isIn d g τ h65 sp72.1 dy 1 30) 0 0 (Nat.le_of_ble_eq_true rfl) (Nat.le_of_ble_eq_true rfl)) (fun r119 h118 q117 => ?_) (fun E h1 q => q.elim)
          obtain ⟨q117e, q117d⟩ := q117
          rw [q117e]
          rcases q117d with ⟨q117r, q117n⟩ | ⟨q117r, q117a, q117b⟩
          · rw [q117r]
            refine tw_if_eq 56 dX10_road_42 (by decide) (fun _ => ?_) (fun c120 => absurd (by decide) c120)
            refine tw_iconst (v := 1) dX10_road_56 (by decide) ?_
            refine tw_goto 61 dX10_road_57 (by decide) ?_
            refine tw_iconst (v := 2) dX10_road_61 (by decide) ?_
            obtain ⟨e121, f122, th_123, td_124, ds_125, fr_126, ca_127, us_128, wo_129, cm_130, lc_131, lh_132, ld_133, rfl, k134, k135, k136, k137, k138, k139, k140, k141, k142, k143, k144, k145, k146, k147, k148, k149⟩ := sp72.1 x 36 kx (by decide)
            refine tw_bi (tw_callV (M := mX10_road) (pc := 62) okX10_refuse dX10_road_62 w_1204 rfl f122 [.int 1, .int 2] [] rfl rfl ⟨by decide, by decide⟩ (Nat.le_of_ble_eq_true rfl) (c_X10_refuse d g τ h65 sp72.1 x kx 1 2 (by decide)) 0 0 (Nat.le_of_ble_eq_true rfl) (Nat.le_of_ble_eq_true rfl)) (fun r152 h151 q150 => ?_) (fun E h1 q => q.elim)
            obtain ⟨e153, he154, hs155, hr156, h3157⟩ := q150
            have sp158 : tw_sp d τ h g τ h151 := by rw [he154]; exact sp72.set kx (by decide) hs155
            rcases hr156 with ei159 | ⟨ei159, ei159b⟩
            · rw [ei159]
              refine tw_if_eq 70 dX10_road_65 (by decide) (fun c160 => absurd c160 (by decide)) (fun _ => ?_)
              refine tw_iconst (v := 0) dX10_road_68 (by decide) ?_
              exact tw_iret dX10_road_69 rfl (Or.inl ⟨_, rfl, sp158⟩)
            · exact absurd ei159b (by decide)
          · rw [q117r]
            refine tw_if_eq 56 dX10_road_42 (by decide) (fun c161 => absurd c161 (by decide)) (fun _ => ?_)
            refine tw_iload 4 dX10_road_45 rfl ?_
            refine tw_iconst (v := 0) dX10_road_47 (by decide) ?_
            refine tw_bipush (v := 100) dX10_road_48 (by decide) ?_
            refine tw_bi (tw_callS (M := mX10_road) (pc := 50) okX10_isIn dX10_road_50 w_1196 [.int fr, .int 0, .int 100] [.ref x] rfl rfl ⟨by decide, by decide⟩ (Nat.le_of_ble_eq_true rfl) (c_X10_isIn d g τ h65 sp72.1 fr 0 100) 0 0 (Nat.le_of_ble_eq_true rfl) (Nat.le_of_ble_eq_true rfl)) (fun r164 h163 q162 => ?_) (fun E h1 q => q.elim)
            obtain ⟨q162e, q162d⟩ := q162
            rw [q162e]
            rcases q162d with ⟨q162r, q162n⟩ | ⟨q162r, q162a, q162b⟩
            · rw [q162r]
              refine tw_if_ne 60 dX10_road_53 (by decide) (fun c165 => absurd (by decide) c165) (fun _ => ?_)
              refine tw_iconst (v := 1) dX10_road_56 (by decide) ?_
              refine tw_goto 61 dX10_road_57 (by decide) ?_
              refine tw_iconst (v := 2) dX10_road_61 (by decide) ?_
              obtain ⟨e166, f167, th_168, td_169, ds_170, fr_171, ca_172, us_173, wo_174, cm_175, lc_176, lh_177, ld_178, rfl, k179, k180, k181, k182, k183, k184, k185, k186, k187, k188, k189, k190, k191, k192, k193, k194⟩ := sp72.1 x 36 kx (by decide)
              refine tw_bi (tw_callV (M := mX10_road) (pc := 62) okX10_refuse dX10_road_62 w_1204 rfl f167 [.int 1, .int 2] [] rfl rfl ⟨by decide, by decide⟩ (Nat.le_of_ble_eq_true rfl) (c_X10_refuse d g τ h65 sp72.1 x kx 1 2 (by decide)) 0 0 (Nat.le_of_ble_eq_true rfl) (Nat.le_of_ble_eq_true rfl)) (fun r197 h196 q195 => ?_) (fun E h1 q => q.elim)
              obtain ⟨e198, he199, hs200, hr201, h3202⟩ := q195
              have sp203 : tw_sp d τ h g τ h196 := by rw [he199]; exact sp72.set kx (by decide) hs200
              rcases hr201 with ei204 | ⟨ei204, ei204b⟩
              · rw [ei204]
                refine tw_if_eq 70 dX10_road_65 (by decide) (fun c205 => absurd c205 (by decide)) (fun _ => ?_)
                refine tw_iconst (v := 0) dX10_road_68 (by decide) ?_
                exact tw_iret dX10_road_69 rfl (Or.inl ⟨_, rfl, sp203⟩)
              · exact absurd ei204b (by decide)
            · rw [q162r]
              refine tw_if_ne 60 dX10_road_53 (by decide) (fun _ => ?_) (fun c206 => absurd c206 (by decide))
              refine tw_iconst (v := 0) dX10_road_60 (by decide) ?_
              refine tw_iconst (v := 2) dX10_road_61 (by decide) ?_
              obtain ⟨e207, f208, th_209, td_210, ds_211, fr_212, ca_213, us_214, wo_215, cm_216, lc_217, lh_218, ld_219, rfl, k220, k221, k222, k223, k224, k225, k226, k227, k228, k229, k230, k231, k232, k233, k234, k235⟩ := sp72.1 x 36 kx (by decide)
              refine tw_bi (tw_callV (M := mX10_road) (pc := 62) okX10_refuse dX10_road_62 w_1204 rfl f208 [.int 0, .int 2] [] rfl rfl ⟨by decide, by decide⟩ (Nat.le_of_ble_eq_true rfl) (c_X10_refuse d g τ h65 sp72.1 x kx 0 2 (by decide)) 0 0 (Nat.le_of_ble_eq_true rfl) (Nat.le_of_ble_eq_true rfl)) (fun r238 h237 q236 => ?_) (fun E h1 q => q.elim)
              obtain ⟨e239, he240, hs241, hr242, h3243⟩ := q236
              have sp244 : tw_sp d τ h g τ h237 := by rw [he240]; exact sp72.set kx (by decide) hs241
              rcases hr242 with ei245 | ⟨ei245, ei245b⟩
              · rw [ei245]
                refine tw_if_eq 70 dX10_road_65 (by decide) (fun c246 => absurd c246 (by decide)) (fun _ => ?_)
                refine tw_iconst (v := 0) dX10_road_68 (by decide) ?_
                exact tw_iret dX10_road_69 rfl (Or.inl ⟨_, rfl, sp244⟩)
              · rw [ei245]
                refine tw_if_eq 70 dX10_road_65 (by decide) (fun _ => ?_) (fun c247 => absurd (by decide) c247)
                refine tw_aload_n 0 dX10_road_70 rfl rfl ?_
                obtain ⟨e248, f249, th_250, td_251, ds_252, fr_253, ca_254, us_255, wo_256, cm_257, lc_258, lh_259, ld_260, rfl, k261, k262, k263, k264, k265, k266, k267, k268, k269, k270, k271, k272, k273, k274, k275, k276⟩ := sp244.1 x 36 kx (by decide)
                refine tw_get (v := .ref ds_252) rfl in_14 3 dX10_road_71 w_1154 rfl (by decide) f249 rfl ?_
                refine tw_iload_n 1 dX10_road_74 rfl rfl ?_
                obtain ⟨e277, f278, F279, rfl, k280⟩ := sp244.1 ds_252 34 k261 (by decide)
                obtain ⟨q281, k282, k283⟩ := k280 ((nI j33)).toNatClampNeg (by rw [nI_clamp (by omega)]; omega)
                refine tw_aald (v := .ref q281) 8 rfl rfl dX10_road_75 f278 (vp_in_nI (by omega) (by decide)) (by rw [k282]; rfl) ?_
                refine tw_iload_n 2 dX10_road_76 rfl rfl ?_
                obtain ⟨e284, f285, F286, rfl⟩ := sp244.1 q281 6 k283 (by decide)
                obtain ⟨v287, ev287⟩ : ∃ y : Int32, F286 ((nI j50)).toNatClampNeg = y := ⟨_, rfl⟩
                refine tw_iald (v := v287) dX10_road_77 f285 (vp_in_nI (by omega) (by decide)) ev287 ?_
                refine tw_istore [(5, .int v287), (0, .ref x), (1, .int (nI j33)), (2, .int (nI j50)), (3, .int dy), (4, .int fr)] dX10_road_78 (by decide) rfl ?_
                refine tw_aload_n 1 dX10_road_80 rfl rfl ?_
                refine tw_get (v := .ref ds_252) rfl in_14 3 dX10_road_81 w_1154 rfl (by decide) f249 rfl ?_
                refine tw_iload_n 2 dX10_road_84 rfl rfl ?_
                obtain ⟨q288, k289, k290⟩ := k280 ((nI j33)).toNatClampNeg (by rw [nI_clamp (by omega)]; omega)
                refine tw_aald (v := .ref q288) 8 rfl rfl dX10_road_85 f278 (vp_in_nI (by omega) (by decide)) (by rw [k289]; rfl) ?_
                refine tw_iload_n 3 dX10_road_86 rfl rfl ?_
                refine tw_iload_n 4 dX10_road_87 rfl rfl ?_
                obtain ⟨e291, f292, F293, rfl⟩ := sp244.1 q288 6 k290 (by decide)
                refine tw_iast dX10_road_88 f292 (vp_in_nI (by omega) (by decide)) ?_
                obtain ⟨h294, eh294⟩ : ∃ z : tw_H, z = tw_up h237 q288 (.inl (d.2 0, 4, .inl (upd F293 ((nI j50)).toNatClampNeg dy))) := ⟨_, rfl⟩
                rw [← eh294]
                have sp295 : tw_sp d τ h g τ h294 := by rw [eh294]; exact sp244.set k290 (by decide) ⟨_, rfl⟩
                refine tw_aload_n 1 dX10_road_89 rfl rfl ?_
                obtain ⟨e296, f297, th_298, td_299, ds_300, fr_301, ca_302, us_303, wo_304, cm_305, lc_306, lh_307, ld_308, rfl, k309, k310, k311, k312, k313, k314, k315, k316, k317, k318, k319, k320, k321, k322, k323, k324⟩ := sp295.1 x 36 kx (by decide)
                refine tw_get (v := .ref ds_300) rfl in_14 3 dX10_road_90 w_1154 rfl (by decide) f297 rfl ?_
                refine tw_iload_n 3 dX10_road_93 rfl rfl ?_
                obtain ⟨e325, f326, F327, rfl, k328⟩ := sp295.1 ds_300 34 k309 (by decide)
                obtain ⟨q329, k330, k331⟩ := k328 ((nI j50)).toNatClampNeg (by rw [nI_clamp (by omega)]; omega)
                refine tw_aald (v := .ref q329) 8 rfl rfl dX10_road_94 f326 (vp_in_nI (by omega) (by decide)) (by rw [k330]; rfl) ?_
                refine tw_iload_n 2 dX10_road_95 rfl rfl ?_
                refine tw_iload_n 4 dX10_road_96 rfl rfl ?_
                obtain ⟨e332, f333, F334, rfl⟩ := sp295.1 q329 6 k331 (by decide)
                refine tw_iast dX10_road_97 f333 (vp_in_nI (by omega) (by decide)) ?_
                obtain ⟨h335, eh335⟩ : ∃ z : tw_H, z = tw_up h294 q329 (.inl (d.2 0, 4, .inl (upd F334 ((nI j33)).toNatClampNeg dy))) := ⟨_, rfl⟩
                rw [← eh335]
                have sp336 : tw_sp d τ h g τ h335 := by rw [eh335]; exact sp295.set k331 (by decide) ⟨_, rfl⟩
                refine tw_aload_n 1 dX10_road_98 rfl rfl ?_
                obtain ⟨e337, f338, th_339, td_340, ds_341, fr_342, ca_343, us_344, wo_345, cm_346, lc_347, lh_348, ld_349, rfl, k350, k351, k352, k353, k354, k355, k356, k357, k358, k359, k360, k361, k362, k363, k364, k365⟩ := sp336.1 x 36 kx (by decide)
                refine tw_get (v := .ref fr_342) rfl in_14 4 dX10_road_99 w_1155 rfl (by decide) f338 rfl ?_
                refine tw_iload_n 2 dX10_road_102 rfl rfl ?_
                obtain ⟨e366, f367, F368, rfl, k369⟩ := sp336.1 fr_342 34 k351 (by decide)
                obtain ⟨q370, k371, k372⟩ := k369 ((nI j33)).toNatClampNeg (by rw [nI_clamp (by omega)]; omega)
                refine tw_aald (v := .ref q370) 8 rfl rfl dX10_road_103 f367 (vp_in_nI (by omega) (by decide)) (by rw [k371]; rfl) ?_
                refine tw_iload_n 3 dX10_road_104 rfl rfl ?_
                refine tw_iload 5 dX10_road_105 rfl ?_
                obtain ⟨e373, f374, F375, rfl⟩ := sp336.1 q370 6 k372 (by decide)
                refine tw_iast dX10_road_107 f374 (vp_in_nI (by omega) (by decide)) ?_
                obtain ⟨h376, eh376⟩ : ∃ z : tw_H, z = tw_up h335 q370 (.inl (d.2 0, 4, .inl (upd F375 ((nI j50)).toNatClampNeg fr))) := ⟨_, rfl⟩
                rw [← eh376]
                have sp377 : tw_sp d τ h g τ h376 := by rw [eh376]; exact sp336.set k372 (by decide) ⟨_, rfl⟩
                refine tw_aload_n 1 dX10_road_108 rfl rfl ?_
                obtain ⟨e378, f379, th_380, td_381, ds_382, fr_383, ca_384, us_385, wo_386, cm_387, lc_388, lh_389, ld_390, rfl, k391, k392, k393, k394, k395, k396, k397, k398, k399, k400, k401, k402, k403, k404, k405, k406⟩ := sp377.1 x 36 kx (by decide)
                refine tw_get (v := .ref fr_383) rfl in_14 4 dX10_road_109 w_1155 rfl (by decide) f379 rfl ?_
                refine tw_iload_n 3 dX10_road_112 rfl rfl ?_
                obtain ⟨e407, f408, F409, rfl, k410⟩ := sp377.1 fr_383 34 k392 (by decide)
                obtain ⟨q411, k412, k413⟩ := k410 ((nI j50)).toNatClampNeg (by rw [nI_clamp (by omega)]; omega)
                refine tw_aald (v := .ref q411) 8 rfl rfl dX10_road_113 f408 (vp_in_nI (by omega) (by decide)) (by rw [k412]; rfl) ?_
                refine tw_iload_n 2 dX10_road_114 rfl rfl ?_
                refine tw_iload 5 dX10_road_115 rfl ?_
                obtain ⟨e414, f415, F416, rfl⟩ := sp377.1 q411 6 k413 (by decide)
                refine tw_iast dX10_road_117 f415 (vp_in_nI (by omega) (by decide)) ?_
                obtain ⟨h417, eh417⟩ : ∃ z : tw_H, z = tw_up h376 q411 (.inl (d.2 0, 4, .inl (upd F416 ((nI j33)).toNatClampNeg fr))) := ⟨_, rfl⟩
                rw [← eh417]
                have sp418 : tw_sp d τ h g τ h417 := by rw [eh417]; exact sp377.set k413 (by decide) ⟨_, rfl⟩
                refine tw_iload 0 dX10_road_118 rfl ?_
                exact tw_iret dX10_road_120 rfl (Or.inl ⟨_, rfl, sp418⟩)

set_option maxHeartbeats 4000000 in
set_option maxRecDepth 100000 in
theorem c_X10_mine (d : tw_D) (g : tw_G) (τ : tw_K) (h : tw_H) (hw : tw_wt d g τ h) (x : Nat) (kx : τ x = 36) (n : Int32) (m : Int32) (gr : Int32) : tw_Ct d mX10_mine 0 0 [.ref x, .int n, .int m, .int gr] h (tw_qi (fun r h1 => tw_sp d τ h g τ h1) tw_nx) := by
  refine tw_of (by decide +kernel) (Nat.le_of_ble_eq_true rfl) ?_
  show tw_W d mX10_mine _ 0 [(0, .ref x), (1, .int n), (2, .int m), (3, .int gr)] [] h 0 0
  have sp0 := tw_sp.rf hw
  refine tw_aload_n 0 dX10_mine_0 rfl rfl ?_
  refine tw_aload_n 0 dX10_mine_1 rfl rfl ?_
  refine tw_iload_n 1 dX10_mine_2 rfl rfl ?_
  obtain ⟨e1, f2, th_3, td_4, ds_5, fr_6, ca_7, us_8, wo_9, cm_10, lc_11, lh_12, ld_13, rfl, k14, k15, k16, k17, k18, k19, k20, k21, k22, k23, k24, k25, k26, k27, k28, k29⟩ := sp0.1 x 36 kx (by decide)
  refine tw_bi (tw_callV (M := mX10_mine) (pc := 3) okX10_isNoCountry dX10_mine_3 w_1292 rfl f2 [.int n] [.ref x] rfl rfl ⟨by decide, by decide⟩ (Nat.le_of_ble_eq_true rfl) (c_X10_isNoCountry d g τ h sp0.1 x kx n) 0 0 (Nat.le_of_ble_eq_true rfl) (Nat.le_of_ble_eq_true rfl)) (fun r32 h31 q30 => ?_) (fun E h1 q => q.elim)
  obtain ⟨q30e, q30d⟩ := q30
  rw [q30e]
  rcases q30d with q30r | ⟨q30r, j33, q30j, q30k⟩
  · rw [q30r]
    refine tw_iconst (v := 1) dX10_mine_6 (by decide) ?_
    refine tw_bi (tw_callV (M := mX10_mine) (pc := 7) okX10_start dX10_mine_7 w_1200 rfl f2 [.int 1, .int 1] [] rfl rfl ⟨by decide, by decide⟩ (Nat.le_of_ble_eq_true rfl) (c_X10_start d g τ h sp0.1 x kx 1 1 (by decide)) 0 0 (Nat.le_of_ble_eq_true rfl) (Nat.le_of_ble_eq_true rfl)) (fun r36 h35 q34 => ?_) (fun E h1 q => q.elim)
    obtain ⟨e37, he38, hs39, hr40, h341⟩ := q34
    have sp42 : tw_sp d τ h g τ h35 := by rw [he38]; exact sp0.set kx (by decide) hs39
    rcases hr40 with ei43 | ⟨ei43, ei43b⟩
    · rw [ei43]
      refine tw_if_ne 82 dX10_mine_10 (by decide) (fun _ => ?_) (fun c44 => absurd c44 (by decide))
      refine tw_iconst (v := 0) dX10_mine_82 (by decide) ?_
      exact tw_iret dX10_mine_83 rfl (Or.inl ⟨_, rfl, sp42⟩)
    · exact absurd ei43b (by decide)
  · rw [q30r]
    subst q30k
    refine tw_iconst (v := 1) dX10_mine_6 (by decide) ?_
    refine tw_bi (tw_callV (M := mX10_mine) (pc := 7) okX10_start dX10_mine_7 w_1200 rfl f2 [.int 0, .int 1] [] rfl rfl ⟨by decide, by decide⟩ (Nat.le_of_ble_eq_true rfl) (c_X10_start d g τ h sp0.1 x kx 0 1 (by decide)) 0 0 (Nat.le_of_ble_eq_true rfl) (Nat.le_of_ble_eq_true rfl)) (fun r47 h46 q45 => ?_) (fun E h1 q => q.elim)
    obtain ⟨e48, he49, hs50, hr51, h352⟩ := q45
    have sp53 : tw_sp d τ h g τ h46 := by rw [he49]; exact sp0.set kx (by decide) hs50
    rcases hr51 with ei54 | ⟨ei54, ei54b⟩
    · rw [ei54]
      refine tw_if_ne 82 dX10_mine_10 (by decide) (fun _ => ?_) (fun c55 => absurd c55 (by decide))
      refine tw_iconst (v := 0) dX10_mine_82 (by decide) ?_
      exact tw_iret dX10_mine_83 rfl (Or.inl ⟨_, rfl, sp53⟩)
    · rw [ei54]
      refine tw_if_ne 82 dX10_mine_10 (by decide) (fun c56 => absurd (by decide) c56) (fun _ => ?_)
      refine tw_aload_n 0 dX10_mine_13 rfl rfl ?_
      refine tw_iload_n 2 dX10_mine_14 rfl rfl ?_
      refine tw_bi (tw_callS (M := mX10_mine) (pc := 15) okX10_isNoMetal dX10_mine_15 w_1312 [.int m] [.ref x] rfl rfl ⟨by decide, by decide⟩ (Nat.le_of_ble_eq_true rfl) (c_X10_isNoMetal d g τ h46 sp53.1 m) 0 0 (Nat.le_of_ble_eq_true rfl) (Nat.le_of_ble_eq_true rfl)) (fun r59 h58 q57 => ?_) (fun E h1 q => q.elim)
      obtain ⟨q57e, q57d⟩ := q57
      rw [q57e]
      rcases q57d with q57r | ⟨q57r, q57m⟩
      · rw [q57r]
        refine tw_if_ne 31 dX10_mine_18 (by decide) (fun _ => ?_) (fun c60 => absurd c60 (by decide))
        refine tw_iconst (v := 1) dX10_mine_31 (by decide) ?_
        refine tw_goto 36 dX10_mine_32 (by decide) ?_
        refine tw_iconst (v := 2) dX10_mine_36 (by decide) ?_
        obtain ⟨e61, f62, th_63, td_64, ds_65, fr_66, ca_67, us_68, wo_69, cm_70, lc_71, lh_72, ld_73, rfl, k74, k75, k76, k77, k78, k79, k80, k81, k82, k83, k84, k85, k86, k87, k88, k89⟩ := sp53.1 x 36 kx (by decide)
        refine tw_bi (tw_callV (M := mX10_mine) (pc := 37) okX10_refuse dX10_mine_37 w_1204 rfl f62 [.int 1, .int 2] [] rfl rfl ⟨by decide, by decide⟩ (Nat.le_of_ble_eq_true rfl) (c_X10_refuse d g τ h46 sp53.1 x kx 1 2 (by decide)) 0 0 (Nat.le_of_ble_eq_true rfl) (Nat.le_of_ble_eq_true rfl)) (fun r92 h91 q90 => ?_) (fun E h1 q => q.elim)
        obtain ⟨e93, he94, hs95, hr96, h397⟩ := q90
        have sp98 : tw_sp d τ h g τ h91 := by rw [he94]; exact sp53.set kx (by decide) hs95
        rcases hr96 with ei99 | ⟨ei99, ei99b⟩
        · rw [ei99]
          refine tw_if_ne 82 dX10_mine_40 (by decide) (fun _ => ?_) (fun c100 => absurd c100 (by decide))
          refine tw_iconst (v := 0) dX10_mine_82 (by decide) ?_
          exact tw_iret dX10_mine_83 rfl (Or.inl ⟨_, rfl, sp98⟩)
        · exact absurd ei99b (by decide)
      · rw [q57r]
        refine tw_if_ne 31 dX10_mine_18 (by decide) (fun c101 => absurd (by decide) c101) (fun _ => ?_)
        refine tw_iload_n 3 dX10_mine_21 rfl rfl ?_
        refine tw_iconst (v := 1) dX10_mine_22 (by decide) ?_
        refine tw_ldc (v := 99999) dX10_mine_23 w_1199 ?_
        refine tw_bi (tw_callS (M := mX10_mine) (pc := 25) okX10_isIn dX10_mine_25 w_1196 [.int gr, .int 1, .int 99999] [.ref x] rfl rfl ⟨by decide, by decide⟩ (Nat.le_of_ble_eq_true rfl) (c_X10_isIn d g τ h46 sp53.1 gr 1 99999) 0 0 (Nat.le_of_ble_eq_true rfl) (Nat.le_of_ble_eq_true rfl)) (fun r104 h103 q102 => ?_) (fun E h1 q => q.elim)
        obtain ⟨q102e, q102d⟩ := q102
        rw [q102e]
        rcases q102d with ⟨q102r, q102n⟩ | ⟨q102r, q102a, q102b⟩
        · rw [q102r]
          refine tw_if_ne 35 dX10_mine_28 (by decide) (fun c105 => absurd (by decide) c105) (fun _ => ?_)
          refine tw_iconst (v := 1) dX10_mine_31 (by decide) ?_
          refine tw_goto 36 dX10_mine_32 (by decide) ?_
          refine tw_iconst (v := 2) dX10_mine_36 (by decide) ?_
          obtain ⟨e106, f107, th_108, td_109, ds_110, fr_111, ca_112, us_113, wo_114, cm_115, lc_116, lh_117, ld_118, rfl, k119, k120, k121, k122, k123, k124, k125, k126, k127, k128, k129, k130, k131, k132, k133, k134⟩ := sp53.1 x 36 kx (by decide)
          refine tw_bi (tw_callV (M := mX10_mine) (pc := 37) okX10_refuse dX10_mine_37 w_1204 rfl f107 [.int 1, .int 2] [] rfl rfl ⟨by decide, by decide⟩ (Nat.le_of_ble_eq_true rfl) (c_X10_refuse d g τ h46 sp53.1 x kx 1 2 (by decide)) 0 0 (Nat.le_of_ble_eq_true rfl) (Nat.le_of_ble_eq_true rfl)) (fun r137 h136 q135 => ?_) (fun E h1 q => q.elim)
          obtain ⟨e138, he139, hs140, hr141, h3142⟩ := q135
          have sp143 : tw_sp d τ h g τ h136 := by rw [he139]; exact sp53.set kx (by decide) hs140
          rcases hr141 with ei144 | ⟨ei144, ei144b⟩
          · rw [ei144]
            refine tw_if_ne 82 dX10_mine_40 (by decide) (fun _ => ?_) (fun c145 => absurd c145 (by decide))
            refine tw_iconst (v := 0) dX10_mine_82 (by decide) ?_
            exact tw_iret dX10_mine_83 rfl (Or.inl ⟨_, rfl, sp143⟩)
          · exact absurd ei144b (by decide)
        · rw [q102r]
          refine tw_if_ne 35 dX10_mine_28 (by decide) (fun _ => ?_) (fun c146 => absurd c146 (by decide))
          refine tw_iconst (v := 0) dX10_mine_35 (by decide) ?_
          refine tw_iconst (v := 2) dX10_mine_36 (by decide) ?_
          obtain ⟨e147, f148, th_149, td_150, ds_151, fr_152, ca_153, us_154, wo_155, cm_156, lc_157, lh_158, ld_159, rfl, k160, k161, k162, k163, k164, k165, k166, k167, k168, k169, k170, k171, k172, k173, k174, k175⟩ := sp53.1 x 36 kx (by decide)
          refine tw_bi (tw_callV (M := mX10_mine) (pc := 37) okX10_refuse dX10_mine_37 w_1204 rfl f148 [.int 0, .int 2] [] rfl rfl ⟨by decide, by decide⟩ (Nat.le_of_ble_eq_true rfl) (c_X10_refuse d g τ h46 sp53.1 x kx 0 2 (by decide)) 0 0 (Nat.le_of_ble_eq_true rfl) (Nat.le_of_ble_eq_true rfl)) (fun r178 h177 q176 => ?_) (fun E h1 q => q.elim)
          obtain ⟨e179, he180, hs181, hr182, h3183⟩ := q176
          have sp184 : tw_sp d τ h g τ h177 := by rw [he180]; exact sp53.set kx (by decide) hs181
          rcases hr182 with ei185 | ⟨ei185, ei185b⟩
          · rw [ei185]
            refine tw_if_ne 82 dX10_mine_40 (by decide) (fun _ => ?_) (fun c186 => absurd c186 (by decide))
            refine tw_iconst (v := 0) dX10_mine_82 (by decide) ?_
            exact tw_iret dX10_mine_83 rfl (Or.inl ⟨_, rfl, sp184⟩)
          · rw [ei185]
            refine tw_if_ne 82 dX10_mine_40 (by decide) (fun c187 => absurd (by decide) c187) (fun _ => ?_)
            refine tw_aload_n 0 dX10_mine_43 rfl rfl ?_
            refine tw_aload_n 0 dX10_mine_44 rfl rfl ?_
            obtain ⟨e188, f189, th_190, td_191, ds_192, fr_193, ca_194, us_195, wo_196, cm_197, lc_198, lh_199, ld_200, rfl, k201, k202, k203, k204, k205, k206, k207, k208, k209, k210, k211, k212, k213, k214, k215, k216⟩ := sp184.1 x 36 kx (by decide)
            refine tw_get (v := .ref lc_198) rfl in_14 9 dX10_mine_45 w_1160 rfl (by decide) f189 rfl ?_
            refine tw_iload_n 1 dX10_mine_48 rfl rfl ?_
            obtain ⟨e217, f218, ⟨el219, rfl, k220⟩, k221⟩ := sp184.1 lc_198 24 k207 (by decide)
            refine tw_br (tw_callV (M := mX10_mine) (pc := 49) okJx4a65c_get_915e3 dX10_mine_49 w_1296 rfl f218 [.int (nI j33)] [.ref x] rfl rfl ⟨by decide, by decide⟩ (Nat.le_of_ble_eq_true rfl) (c24_get d g τ h177 sp184.1 lc_198 k207 j33 (by omega) (by omega)) 0 0 (Nat.le_of_ble_eq_true rfl) (Nat.le_of_ble_eq_true rfl)) (fun r224 h223 q222 => ?_) (fun E h1 q => q.elim)
            obtain ⟨q222e, q222k⟩ := q222
            rw [q222e]
            have el225 : tw_el h177 (g.2 12) j33 = r224 := by rw [← k221]; exact q222k.2.symm
            have kl226 : τ (g.2 12) = 24 := by rw [← k221]; exact k207
            obtain ⟨e227, f228, r_229, c_230, v_231, o_232, t_233, rfl, k234, k235, k236, k237, k238⟩ := sp184.1 r224 21 q222k.1 (by decide)
            refine tw_castS (ci := 11) rfl dX10_mine_52 w_1212 f228 ?_
            refine tw_get (v := .ref v_231) rfl in_11 2 dX10_mine_55 w_1221 rfl (by decide) f228 rfl ?_
            refine tw_iload_n 2 dX10_mine_58 rfl rfl ?_
            obtain ⟨e239, f240, F241, rfl⟩ := sp184.1 v_231 31 k234 (by decide)
            obtain ⟨v242, ev242⟩ : ∃ y : Int64, F241 (m).toNatClampNeg = y := ⟨_, rfl⟩
            refine tw_lald (v := v242) dX10_mine_59 f240 (tw_in01 q57m (by decide)) ev242 ?_
            refine tw_iload_n 3 dX10_mine_60 rfl rfl ?_
            refine tw_i2l dX10_mine_61 ?_
            refine tw_nml (fun v243 ev243 => ?_)
            refine tw_ladd dX10_mine_62 ?_
            refine tw_nml (fun v244 ev244 => ?_)
            refine tw_ldc2 (v := 999999) dX10_mine_63 w_1327 ?_
            refine tw_lcmp dX10_mine_66 ?_
            refine tw_nmi (fun v245 ev245 => ?_)
            refine tw_if_le 74 dX10_mine_67 (by decide) (fun c246 => ?_) (fun c246 => ?_)
            · refine tw_iconst (v := 0) dX10_mine_74 (by decide) ?_
              refine tw_iconst (v := 3) dX10_mine_75 (by decide) ?_
              refine tw_bi (tw_callV (M := mX10_mine) (pc := 76) okX10_refuse dX10_mine_76 w_1204 rfl f189 [.int 0, .int 3] [] rfl rfl ⟨by decide, by decide⟩ (Nat.le_of_ble_eq_true rfl) (c_X10_refuse d g τ h177 sp184.1 x kx 0 3 (by decide)) 0 0 (Nat.le_of_ble_eq_true rfl) (Nat.le_of_ble_eq_true rfl)) (fun r249 h248 q247 => ?_) (fun E h1 q => q.elim)
              obtain ⟨e250, he251, hs252, hr253, h3254⟩ := q247
              have sp255 : tw_sp d τ h g τ h248 := by rw [he251]; exact sp184.set kx (by decide) hs252
              have f256 : h248 lc_198 = some (.inr (3, [.int (g.1 3), .ref el219, .int (nI (g.2 3))])) := by rw [he251, tw_up_n (fun q => absurd (k207) (by rw [q, kx]; decide))]; exact f218
              have f257 : h248 r224 = some (.inr (11, [.int r_229, .int c_230, .ref v_231, .ref o_232, .ref t_233])) := by rw [he251, tw_up_n (fun q => absurd (q222k.1) (by rw [q, kx]; decide))]; exact f228
              have f258 : h248 v_231 = some (.inl (d.2 1, 2, .inr (.inl F241))) := by rw [he251, tw_up_n (fun q => absurd (k234) (by rw [q, kx]; decide))]; exact f240
              have el259 : tw_el h248 (g.2 12) j33 = r224 := by rw [he251]; exact (tw_el24_up sp184.1 kl226 (by omega) (by rw [kx]; decide) (by rw [kx]; decide)).trans el225
              rcases hr253 with ei260 | ⟨ei260, ei260b⟩
              · rw [ei260]
                refine tw_if_eq 84 dX10_mine_79 (by decide) (fun c261 => absurd c261 (by decide)) (fun _ => ?_)
                refine tw_iconst (v := 0) dX10_mine_82 (by decide) ?_
                exact tw_iret dX10_mine_83 rfl (Or.inl ⟨_, rfl, sp255⟩)
              · rw [ei260]
                refine tw_if_eq 84 dX10_mine_79 (by decide) (fun _ => ?_) (fun c262 => absurd (by decide) c262)
                refine tw_aload_n 0 dX10_mine_84 rfl rfl ?_
                obtain ⟨e263, f264, th_265, td_266, ds_267, fr_268, ca_269, us_270, wo_271, cm_272, lc_273, lh_274, ld_275, rfl, k276, k277, k278, k279, k280, k281, k282, k283, k284, k285, k286, k287, k288, k289, k290, k291⟩ := sp255.1 x 36 kx (by decide)
                refine tw_get (v := .ref cm_272) rfl in_14 8 dX10_mine_85 w_1159 rfl (by decide) f264 rfl ?_
                refine tw_iload_n 2 dX10_mine_88 rfl rfl ?_
                refine tw_dup2 dX10_mine_89 rfl rfl ?_
                obtain ⟨e292, f293, F294, rfl⟩ := sp255.1 cm_272 31 k281 (by decide)
                obtain ⟨v295, ev295⟩ : ∃ y : Int64, F294 (m).toNatClampNeg = y := ⟨_, rfl⟩
                refine tw_lald (v := v295) dX10_mine_90 f293 (tw_in01 q57m (by decide)) ev295 ?_
                refine tw_iload_n 3 dX10_mine_91 rfl rfl ?_
                refine tw_i2l dX10_mine_92 ?_
                refine tw_nml (fun v296 ev296 => ?_)
                refine tw_ladd dX10_mine_93 ?_
                refine tw_nml (fun v297 ev297 => ?_)
                refine tw_last dX10_mine_94 f293 (tw_in01 q57m (by decide)) ?_
                obtain ⟨h298, eh298⟩ : ∃ z : tw_H, z = tw_up h248 cm_272 (.inl (d.2 1, 2, .inr (.inl (vp_updL F294 (m).toNatClampNeg v297)))) := ⟨_, rfl⟩
                rw [← eh298]
                have sp299 : tw_sp d τ h g τ h298 := by rw [eh298]; exact sp255.set k281 (by decide) ⟨_, rfl⟩
                refine tw_aload_n 0 dX10_mine_95 rfl rfl ?_
                obtain ⟨e300, f301, th_302, td_303, ds_304, fr_305, ca_306, us_307, wo_308, cm_309, lc_310, lh_311, ld_312, rfl, k313, k314, k315, k316, k317, k318, k319, k320, k321, k322, k323, k324, k325, k326, k327, k328⟩ := sp299.1 x 36 kx (by decide)
                refine tw_get (v := .ref lc_310) rfl in_14 9 dX10_mine_96 w_1160 rfl (by decide) f301 rfl ?_
                refine tw_iload_n 1 dX10_mine_99 rfl rfl ?_
                obtain ⟨e329, f330, ⟨el331, rfl, k332⟩, k333⟩ := sp299.1 lc_310 24 k319 (by decide)
                refine tw_br (tw_callV (M := mX10_mine) (pc := 100) okJx4a65c_get_915e3 dX10_mine_100 w_1296 rfl f330 [.int (nI j33)] [] rfl rfl ⟨by decide, by decide⟩ (Nat.le_of_ble_eq_true rfl) (c24_get d g τ h298 sp299.1 lc_310 k319 j33 (by omega) (by omega)) 0 0 (Nat.le_of_ble_eq_true rfl) (Nat.le_of_ble_eq_true rfl)) (fun r336 h335 q334 => ?_) (fun E h1 q => q.elim)
                obtain ⟨q334e, q334k⟩ := q334
                rw [q334e]
                have el337 : tw_el h298 (g.2 12) j33 = r336 := by rw [← k333]; exact q334k.2.symm
                have kl338 : τ (g.2 12) = 24 := by rw [← k333]; exact k319
                obtain ⟨e339, f340, r_341, c_342, v_343, o_344, t_345, rfl, k346, k347, k348, k349, k350⟩ := sp299.1 r336 21 q334k.1 (by decide)
                refine tw_castS (ci := 11) rfl dX10_mine_103 w_1212 f340 ?_
                refine tw_get (v := .ref v_343) rfl in_11 2 dX10_mine_106 w_1221 rfl (by decide) f340 rfl ?_
                refine tw_iload_n 2 dX10_mine_109 rfl rfl ?_
                refine tw_dup2 dX10_mine_110 rfl rfl ?_
                obtain ⟨e351, f352, F353, rfl⟩ := sp299.1 v_343 31 k346 (by decide)
                obtain ⟨v354, ev354⟩ : ∃ y : Int64, F353 (m).toNatClampNeg = y := ⟨_, rfl⟩
                refine tw_lald (v := v354) dX10_mine_111 f352 (tw_in01 q57m (by decide)) ev354 ?_
                refine tw_iload_n 3 dX10_mine_112 rfl rfl ?_
                refine tw_i2l dX10_mine_113 ?_
                refine tw_nml (fun v355 ev355 => ?_)
                refine tw_ladd dX10_mine_114 ?_
                refine tw_nml (fun v356 ev356 => ?_)
                refine tw_last dX10_mine_115 f352 (tw_in01 q57m (by decide)) ?_
                obtain ⟨h357, eh357⟩ : ∃ z : tw_H, z = tw_up h298 v_343 (.inl (d.2 1, 2, .inr (.inl (vp_updL F353 (m).toNatClampNeg v356)))) := ⟨_, rfl⟩
                rw [← eh357]
                have sp358 : tw_sp d τ h g τ h357 := by rw [eh357]; exact sp299.set k346 (by decide) ⟨_, rfl⟩
                refine tw_aload_n 0 dX10_mine_116 rfl rfl ?_
                obtain ⟨e359, f360, th_361, td_362, ds_363, fr_364, ca_365, us_366, wo_367, cm_368, lc_369, lh_370, ld_371, rfl, k372, k373, k374, k375, k376, k377, k378, k379, k380, k381, k382, k383, k384, k385, k386, k387⟩ := sp358.1 x 36 kx (by decide)
                refine tw_get (v := .ref lc_369) rfl in_14 9 dX10_mine_117 w_1160 rfl (by decide) f360 rfl ?_
                refine tw_iload_n 1 dX10_mine_120 rfl rfl ?_
                obtain ⟨e388, f389, ⟨el390, rfl, k391⟩, k392⟩ := sp358.1 lc_369 24 k378 (by decide)
                refine tw_br (tw_callV (M := mX10_mine) (pc := 121) okJx4a65c_get_915e3 dX10_mine_121 w_1296 rfl f389 [.int (nI j33)] [] rfl rfl ⟨by decide, by decide⟩ (Nat.le_of_ble_eq_true rfl) (c24_get d g τ h357 sp358.1 lc_369 k378 j33 (by omega) (by omega)) 0 0 (Nat.le_of_ble_eq_true rfl) (Nat.le_of_ble_eq_true rfl)) (fun r395 h394 q393 => ?_) (fun E h1 q => q.elim)
                obtain ⟨q393e, q393k⟩ := q393
                rw [q393e]
                have el396 : tw_el h357 (g.2 12) j33 = r395 := by rw [← k392]; exact q393k.2.symm
                have kl397 : τ (g.2 12) = 24 := by rw [← k392]; exact k378
                obtain ⟨e398, f399, r_400, c_401, v_402, o_403, t_404, rfl, k405, k406, k407, k408, k409⟩ := sp358.1 r395 21 q393k.1 (by decide)
                refine tw_castS (ci := 11) rfl dX10_mine_124 w_1212 f399 ?_
                refine tw_get (v := .ref v_402) rfl in_11 2 dX10_mine_127 w_1221 rfl (by decide) f399 rfl ?_
                refine tw_iload_n 2 dX10_mine_130 rfl rfl ?_
                obtain ⟨e410, f411, F412, rfl⟩ := sp358.1 v_402 31 k405 (by decide)
                obtain ⟨v413, ev413⟩ : ∃ y : Int64, F412 (m).toNatClampNeg = y := ⟨_, rfl⟩
                refine tw_lald (v := v413) dX10_mine_131 f411 (tw_in01 q57m (by decide)) ev413 ?_
                refine tw_l2i dX10_mine_132 ?_
                refine tw_nmi (fun v414 ev414 => ?_)
                exact tw_iret dX10_mine_133 rfl (Or.inl ⟨_, rfl, sp358⟩)
            · refine tw_iconst (v := 1) dX10_mine_70 (by decide) ?_
              refine tw_goto 75 dX10_mine_71 (by decide) ?_
              refine tw_iconst (v := 3) dX10_mine_75 (by decide) ?_
              refine tw_bi (tw_callV (M := mX10_mine) (pc := 76) okX10_refuse dX10_mine_76 w_1204 rfl f189 [.int 1, .int 3] [] rfl rfl ⟨by decide, by decide⟩ (Nat.le_of_ble_eq_true rfl) (c_X10_refuse d g τ h177 sp184.1 x kx 1 3 (by decide)) 0 0 (Nat.le_of_ble_eq_true rfl) (Nat.le_of_ble_eq_true rfl)) (fun r417 h416 q415 => ?_) (fun E h1 q => q.elim)
              obtain ⟨e418, he419, hs420, hr421, h3422⟩ := q415
              have sp423 : tw_sp d τ h g τ h416 := by rw [he419]; exact sp184.set kx (by decide) hs420
              have f424 : h416 lc_198 = some (.inr (3, [.int (g.1 3), .ref el219, .int (nI (g.2 3))])) := by rw [he419, tw_up_n (fun q => absurd (k207) (by rw [q, kx]; decide))]; exact f218
              have f425 : h416 r224 = some (.inr (11, [.int r_229, .int c_230, .ref v_231, .ref o_232, .ref t_233])) := by rw [he419, tw_up_n (fun q => absurd (q222k.1) (by rw [q, kx]; decide))]; exact f228
              have f426 : h416 v_231 = some (.inl (d.2 1, 2, .inr (.inl F241))) := by rw [he419, tw_up_n (fun q => absurd (k234) (by rw [q, kx]; decide))]; exact f240
              have el427 : tw_el h416 (g.2 12) j33 = r224 := by rw [he419]; exact (tw_el24_up sp184.1 kl226 (by omega) (by rw [kx]; decide) (by rw [kx]; decide)).trans el225
              rcases hr421 with ei428 | ⟨ei428, ei428b⟩
              · rw [ei428]
                refine tw_if_eq 84 dX10_mine_79 (by decide) (fun c429 => absurd c429 (by decide)) (fun _ => ?_)
                refine tw_iconst (v := 0) dX10_mine_82 (by decide) ?_
                exact tw_iret dX10_mine_83 rfl (Or.inl ⟨_, rfl, sp423⟩)
              · exact absurd ei428b (by decide)

set_option maxHeartbeats 4000000 in
set_option maxRecDepth 100000 in
theorem c_X10_use (d : tw_D) (g : tw_G) (τ : tw_K) (h : tw_H) (hw : tw_wt d g τ h) (x : Nat) (kx : τ x = 36) (n : Int32) (m : Int32) (gr : Int32) : tw_Ct d mX10_use 0 0 [.ref x, .int n, .int m, .int gr] h (tw_qi (fun r h1 => tw_sp d τ h g τ h1) tw_nx) := by
  refine tw_of (by decide +kernel) (Nat.le_of_ble_eq_true rfl) ?_
  show tw_W d mX10_use _ 0 [(0, .ref x), (1, .int n), (2, .int m), (3, .int gr)] [] h 0 0
  have sp0 := tw_sp.rf hw
  refine tw_aload_n 0 dX10_use_0 rfl rfl ?_
  refine tw_aload_n 0 dX10_use_1 rfl rfl ?_
  refine tw_iload_n 1 dX10_use_2 rfl rfl ?_
  obtain ⟨e1, f2, th_3, td_4, ds_5, fr_6, ca_7, us_8, wo_9, cm_10, lc_11, lh_12, ld_13, rfl, k14, k15, k16, k17, k18, k19, k20, k21, k22, k23, k24, k25, k26, k27, k28, k29⟩ := sp0.1 x 36 kx (by decide)
  refine tw_bi (tw_callV (M := mX10_use) (pc := 3) okX10_isNoCountry dX10_use_3 w_1292 rfl f2 [.int n] [.ref x] rfl rfl ⟨by decide, by decide⟩ (Nat.le_of_ble_eq_true rfl) (c_X10_isNoCountry d g τ h sp0.1 x kx n) 0 0 (Nat.le_of_ble_eq_true rfl) (Nat.le_of_ble_eq_true rfl)) (fun r32 h31 q30 => ?_) (fun E h1 q => q.elim)
  obtain ⟨q30e, q30d⟩ := q30
  rw [q30e]
  rcases q30d with q30r | ⟨q30r, j33, q30j, q30k⟩
  · rw [q30r]
    refine tw_iconst (v := 1) dX10_use_6 (by decide) ?_
    refine tw_bi (tw_callV (M := mX10_use) (pc := 7) okX10_start dX10_use_7 w_1200 rfl f2 [.int 1, .int 1] [] rfl rfl ⟨by decide, by decide⟩ (Nat.le_of_ble_eq_true rfl) (c_X10_start d g τ h sp0.1 x kx 1 1 (by decide)) 0 0 (Nat.le_of_ble_eq_true rfl) (Nat.le_of_ble_eq_true rfl)) (fun r36 h35 q34 => ?_) (fun E h1 q => q.elim)
    obtain ⟨e37, he38, hs39, hr40, h341⟩ := q34
    have sp42 : tw_sp d τ h g τ h35 := by rw [he38]; exact sp0.set kx (by decide) hs39
    rcases hr40 with ei43 | ⟨ei43, ei43b⟩
    · rw [ei43]
      refine tw_if_ne 78 dX10_use_10 (by decide) (fun _ => ?_) (fun c44 => absurd c44 (by decide))
      refine tw_iconst (v := 0) dX10_use_78 (by decide) ?_
      exact tw_iret dX10_use_79 rfl (Or.inl ⟨_, rfl, sp42⟩)
    · exact absurd ei43b (by decide)
  · rw [q30r]
    subst q30k
    refine tw_iconst (v := 1) dX10_use_6 (by decide) ?_
    refine tw_bi (tw_callV (M := mX10_use) (pc := 7) okX10_start dX10_use_7 w_1200 rfl f2 [.int 0, .int 1] [] rfl rfl ⟨by decide, by decide⟩ (Nat.le_of_ble_eq_true rfl) (c_X10_start d g τ h sp0.1 x kx 0 1 (by decide)) 0 0 (Nat.le_of_ble_eq_true rfl) (Nat.le_of_ble_eq_true rfl)) (fun r47 h46 q45 => ?_) (fun E h1 q => q.elim)
    obtain ⟨e48, he49, hs50, hr51, h352⟩ := q45
    have sp53 : tw_sp d τ h g τ h46 := by rw [he49]; exact sp0.set kx (by decide) hs50
    rcases hr51 with ei54 | ⟨ei54, ei54b⟩
    · rw [ei54]
      refine tw_if_ne 78 dX10_use_10 (by decide) (fun _ => ?_) (fun c55 => absurd c55 (by decide))
      refine tw_iconst (v := 0) dX10_use_78 (by decide) ?_
      exact tw_iret dX10_use_79 rfl (Or.inl ⟨_, rfl, sp53⟩)
    · rw [ei54]
      refine tw_if_ne 78 dX10_use_10 (by decide) (fun c56 => absurd (by decide) c56) (fun _ => ?_)
      refine tw_aload_n 0 dX10_use_13 rfl rfl ?_
      refine tw_iload_n 2 dX10_use_14 rfl rfl ?_
      refine tw_bi (tw_callS (M := mX10_use) (pc := 15) okX10_isNoMetal dX10_use_15 w_1312 [.int m] [.ref x] rfl rfl ⟨by decide, by decide⟩ (Nat.le_of_ble_eq_true rfl) (c_X10_isNoMetal d g τ h46 sp53.1 m) 0 0 (Nat.le_of_ble_eq_true rfl) (Nat.le_of_ble_eq_true rfl)) (fun r59 h58 q57 => ?_) (fun E h1 q => q.elim)
      obtain ⟨q57e, q57d⟩ := q57
      rw [q57e]
      rcases q57d with q57r | ⟨q57r, q57m⟩
      · rw [q57r]
        refine tw_if_ne 31 dX10_use_18 (by decide) (fun _ => ?_) (fun c60 => absurd c60 (by decide))
        refine tw_iconst (v := 1) dX10_use_31 (by decide) ?_
        refine tw_goto 36 dX10_use_32 (by decide) ?_
        refine tw_iconst (v := 2) dX10_use_36 (by decide) ?_
        obtain ⟨e61, f62, th_63, td_64, ds_65, fr_66, ca_67, us_68, wo_69, cm_70, lc_71, lh_72, ld_73, rfl, k74, k75, k76, k77, k78, k79, k80, k81, k82, k83, k84, k85, k86, k87, k88, k89⟩ := sp53.1 x 36 kx (by decide)
        refine tw_bi (tw_callV (M := mX10_use) (pc := 37) okX10_refuse dX10_use_37 w_1204 rfl f62 [.int 1, .int 2] [] rfl rfl ⟨by decide, by decide⟩ (Nat.le_of_ble_eq_true rfl) (c_X10_refuse d g τ h46 sp53.1 x kx 1 2 (by decide)) 0 0 (Nat.le_of_ble_eq_true rfl) (Nat.le_of_ble_eq_true rfl)) (fun r92 h91 q90 => ?_) (fun E h1 q => q.elim)
        obtain ⟨e93, he94, hs95, hr96, h397⟩ := q90
        have sp98 : tw_sp d τ h g τ h91 := by rw [he94]; exact sp53.set kx (by decide) hs95
        rcases hr96 with ei99 | ⟨ei99, ei99b⟩
        · rw [ei99]
          refine tw_if_ne 78 dX10_use_40 (by decide) (fun _ => ?_) (fun c100 => absurd c100 (by decide))
          refine tw_iconst (v := 0) dX10_use_78 (by decide) ?_
          exact tw_iret dX10_use_79 rfl (Or.inl ⟨_, rfl, sp98⟩)
        · exact absurd ei99b (by decide)
      · rw [q57r]
        refine tw_if_ne 31 dX10_use_18 (by decide) (fun c101 => absurd (by decide) c101) (fun _ => ?_)
        refine tw_iload_n 3 dX10_use_21 rfl rfl ?_
        refine tw_iconst (v := 1) dX10_use_22 (by decide) ?_
        refine tw_ldc (v := 99999) dX10_use_23 w_1199 ?_
        refine tw_bi (tw_callS (M := mX10_use) (pc := 25) okX10_isIn dX10_use_25 w_1196 [.int gr, .int 1, .int 99999] [.ref x] rfl rfl ⟨by decide, by decide⟩ (Nat.le_of_ble_eq_true rfl) (c_X10_isIn d g τ h46 sp53.1 gr 1 99999) 0 0 (Nat.le_of_ble_eq_true rfl) (Nat.le_of_ble_eq_true rfl)) (fun r104 h103 q102 => ?_) (fun E h1 q => q.elim)
        obtain ⟨q102e, q102d⟩ := q102
        rw [q102e]
        rcases q102d with ⟨q102r, q102n⟩ | ⟨q102r, q102a, q102b⟩
        · rw [q102r]
          refine tw_if_ne 35 dX10_use_28 (by decide) (fun c105 => absurd (by decide) c105) (fun _ => ?_)
          refine tw_iconst (v := 1) dX10_use_31 (by decide) ?_
          refine tw_goto 36 dX10_use_32 (by decide) ?_
          refine tw_iconst (v := 2) dX10_use_36 (by decide) ?_
          obtain ⟨e106, f107, th_108, td_109, ds_110, fr_111, ca_112, us_113, wo_114, cm_115, lc_116, lh_117, ld_118, rfl, k119, k120, k121, k122, k123, k124, k125, k126, k127, k128, k129, k130, k131, k132, k133, k134⟩ := sp53.1 x 36 kx (by decide)
          refine tw_bi (tw_callV (M := mX10_use) (pc := 37) okX10_refuse dX10_use_37 w_1204 rfl f107 [.int 1, .int 2] [] rfl rfl ⟨by decide, by decide⟩ (Nat.le_of_ble_eq_true rfl) (c_X10_refuse d g τ h46 sp53.1 x kx 1 2 (by decide)) 0 0 (Nat.le_of_ble_eq_true rfl) (Nat.le_of_ble_eq_true rfl)) (fun r137 h136 q135 => ?_) (fun E h1 q => q.elim)
          obtain ⟨e138, he139, hs140, hr141, h3142⟩ := q135
          have sp143 : tw_sp d τ h g τ h136 := by rw [he139]; exact sp53.set kx (by decide) hs140
          rcases hr141 with ei144 | ⟨ei144, ei144b⟩
          · rw [ei144]
            refine tw_if_ne 78 dX10_use_40 (by decide) (fun _ => ?_) (fun c145 => absurd c145 (by decide))
            refine tw_iconst (v := 0) dX10_use_78 (by decide) ?_
            exact tw_iret dX10_use_79 rfl (Or.inl ⟨_, rfl, sp143⟩)
          · exact absurd ei144b (by decide)
        · rw [q102r]
          refine tw_if_ne 35 dX10_use_28 (by decide) (fun _ => ?_) (fun c146 => absurd c146 (by decide))
          refine tw_iconst (v := 0) dX10_use_35 (by decide) ?_
          refine tw_iconst (v := 2) dX10_use_36 (by decide) ?_
          obtain ⟨e147, f148, th_149, td_150, ds_151, fr_152, ca_153, us_154, wo_155, cm_156, lc_157, lh_158, ld_159, rfl, k160, k161, k162, k163, k164, k165, k166, k167, k168, k169, k170, k171, k172, k173, k174, k175⟩ := sp53.1 x 36 kx (by decide)
          refine tw_bi (tw_callV (M := mX10_use) (pc := 37) okX10_refuse dX10_use_37 w_1204 rfl f148 [.int 0, .int 2] [] rfl rfl ⟨by decide, by decide⟩ (Nat.le_of_ble_eq_true rfl) (c_X10_refuse d g τ h46 sp53.1 x kx 0 2 (by decide)) 0 0 (Nat.le_of_ble_eq_true rfl) (Nat.le_of_ble_eq_true rfl)) (fun r178 h177 q176 => ?_) (fun E h1 q => q.elim)
          obtain ⟨e179, he180, hs181, hr182, h3183⟩ := q176
          have sp184 : tw_sp d τ h g τ h177 := by rw [he180]; exact sp53.set kx (by decide) hs181
          rcases hr182 with ei185 | ⟨ei185, ei185b⟩
          · rw [ei185]
            refine tw_if_ne 78 dX10_use_40 (by decide) (fun _ => ?_) (fun c186 => absurd c186 (by decide))
            refine tw_iconst (v := 0) dX10_use_78 (by decide) ?_
            exact tw_iret dX10_use_79 rfl (Or.inl ⟨_, rfl, sp184⟩)
          · rw [ei185]
            refine tw_if_ne 78 dX10_use_40 (by decide) (fun c187 => absurd (by decide) c187) (fun _ => ?_)
            refine tw_aload_n 0 dX10_use_43 rfl rfl ?_
            refine tw_aload_n 0 dX10_use_44 rfl rfl ?_
            obtain ⟨e188, f189, th_190, td_191, ds_192, fr_193, ca_194, us_195, wo_196, cm_197, lc_198, lh_199, ld_200, rfl, k201, k202, k203, k204, k205, k206, k207, k208, k209, k210, k211, k212, k213, k214, k215, k216⟩ := sp184.1 x 36 kx (by decide)
            refine tw_get (v := .ref lc_198) rfl in_14 9 dX10_use_45 w_1160 rfl (by decide) f189 rfl ?_
            refine tw_iload_n 1 dX10_use_48 rfl rfl ?_
            obtain ⟨e217, f218, ⟨el219, rfl, k220⟩, k221⟩ := sp184.1 lc_198 24 k207 (by decide)
            refine tw_br (tw_callV (M := mX10_use) (pc := 49) okJx4a65c_get_915e3 dX10_use_49 w_1296 rfl f218 [.int (nI j33)] [.ref x] rfl rfl ⟨by decide, by decide⟩ (Nat.le_of_ble_eq_true rfl) (c24_get d g τ h177 sp184.1 lc_198 k207 j33 (by omega) (by omega)) 0 0 (Nat.le_of_ble_eq_true rfl) (Nat.le_of_ble_eq_true rfl)) (fun r224 h223 q222 => ?_) (fun E h1 q => q.elim)
            obtain ⟨q222e, q222k⟩ := q222
            rw [q222e]
            have el225 : tw_el h177 (g.2 12) j33 = r224 := by rw [← k221]; exact q222k.2.symm
            have kl226 : τ (g.2 12) = 24 := by rw [← k221]; exact k207
            obtain ⟨e227, f228, r_229, c_230, v_231, o_232, t_233, rfl, k234, k235, k236, k237, k238⟩ := sp184.1 r224 21 q222k.1 (by decide)
            refine tw_castS (ci := 11) rfl dX10_use_52 w_1212 f228 ?_
            refine tw_get (v := .ref v_231) rfl in_11 2 dX10_use_55 w_1221 rfl (by decide) f228 rfl ?_
            refine tw_iload_n 2 dX10_use_58 rfl rfl ?_
            obtain ⟨e239, f240, F241, rfl⟩ := sp184.1 v_231 31 k234 (by decide)
            obtain ⟨v242, ev242⟩ : ∃ y : Int64, F241 (m).toNatClampNeg = y := ⟨_, rfl⟩
            refine tw_lald (v := v242) dX10_use_59 f240 (tw_in01 q57m (by decide)) ev242 ?_
            refine tw_iload_n 3 dX10_use_60 rfl rfl ?_
            refine tw_i2l dX10_use_61 ?_
            refine tw_nml (fun v243 ev243 => ?_)
            refine tw_lcmp dX10_use_62 ?_
            refine tw_nmi (fun v244 ev244 => ?_)
            refine tw_if_ge 70 dX10_use_63 (by decide) (fun c245 => ?_) (fun c245 => ?_)
            · refine tw_iconst (v := 0) dX10_use_70 (by decide) ?_
              refine tw_iconst (v := 3) dX10_use_71 (by decide) ?_
              refine tw_bi (tw_callV (M := mX10_use) (pc := 72) okX10_refuse dX10_use_72 w_1204 rfl f189 [.int 0, .int 3] [] rfl rfl ⟨by decide, by decide⟩ (Nat.le_of_ble_eq_true rfl) (c_X10_refuse d g τ h177 sp184.1 x kx 0 3 (by decide)) 0 0 (Nat.le_of_ble_eq_true rfl) (Nat.le_of_ble_eq_true rfl)) (fun r248 h247 q246 => ?_) (fun E h1 q => q.elim)
              obtain ⟨e249, he250, hs251, hr252, h3253⟩ := q246
              have sp254 : tw_sp d τ h g τ h247 := by rw [he250]; exact sp184.set kx (by decide) hs251
              have f255 : h247 lc_198 = some (.inr (3, [.int (g.1 3), .ref el219, .int (nI (g.2 3))])) := by rw [he250, tw_up_n (fun q => absurd (k207) (by rw [q, kx]; decide))]; exact f218
              have f256 : h247 r224 = some (.inr (11, [.int r_229, .int c_230, .ref v_231, .ref o_232, .ref t_233])) := by rw [he250, tw_up_n (fun q => absurd (q222k.1) (by rw [q, kx]; decide))]; exact f228
              have f257 : h247 v_231 = some (.inl (d.2 1, 2, .inr (.inl F241))) := by rw [he250, tw_up_n (fun q => absurd (k234) (by rw [q, kx]; decide))]; exact f240
              have el258 : tw_el h247 (g.2 12) j33 = r224 := by rw [he250]; exact (tw_el24_up sp184.1 kl226 (by omega) (by rw [kx]; decide) (by rw [kx]; decide)).trans el225
              rcases hr252 with ei259 | ⟨ei259, ei259b⟩
              · rw [ei259]
                refine tw_if_eq 80 dX10_use_75 (by decide) (fun c260 => absurd c260 (by decide)) (fun _ => ?_)
                refine tw_iconst (v := 0) dX10_use_78 (by decide) ?_
                exact tw_iret dX10_use_79 rfl (Or.inl ⟨_, rfl, sp254⟩)
              · rw [ei259]
                refine tw_if_eq 80 dX10_use_75 (by decide) (fun _ => ?_) (fun c261 => absurd (by decide) c261)
                refine tw_aload_n 0 dX10_use_80 rfl rfl ?_
                obtain ⟨e262, f263, th_264, td_265, ds_266, fr_267, ca_268, us_269, wo_270, cm_271, lc_272, lh_273, ld_274, rfl, k275, k276, k277, k278, k279, k280, k281, k282, k283, k284, k285, k286, k287, k288, k289, k290⟩ := sp254.1 x 36 kx (by decide)
                refine tw_get (v := .ref us_269) rfl in_14 6 dX10_use_81 w_1157 rfl (by decide) f263 rfl ?_
                refine tw_iload_n 2 dX10_use_84 rfl rfl ?_
                refine tw_dup2 dX10_use_85 rfl rfl ?_
                obtain ⟨e291, f292, F293, rfl⟩ := sp254.1 us_269 31 k278 (by decide)
                obtain ⟨v294, ev294⟩ : ∃ y : Int64, F293 (m).toNatClampNeg = y := ⟨_, rfl⟩
                refine tw_lald (v := v294) dX10_use_86 f292 (tw_in01 q57m (by decide)) ev294 ?_
                refine tw_iload_n 3 dX10_use_87 rfl rfl ?_
                refine tw_i2l dX10_use_88 ?_
                refine tw_nml (fun v295 ev295 => ?_)
                refine tw_ladd dX10_use_89 ?_
                refine tw_nml (fun v296 ev296 => ?_)
                refine tw_last dX10_use_90 f292 (tw_in01 q57m (by decide)) ?_
                obtain ⟨h297, eh297⟩ : ∃ z : tw_H, z = tw_up h247 us_269 (.inl (d.2 1, 2, .inr (.inl (vp_updL F293 (m).toNatClampNeg v296)))) := ⟨_, rfl⟩
                rw [← eh297]
                have sp298 : tw_sp d τ h g τ h297 := by rw [eh297]; exact sp254.set k278 (by decide) ⟨_, rfl⟩
                refine tw_aload_n 0 dX10_use_91 rfl rfl ?_
                obtain ⟨e299, f300, th_301, td_302, ds_303, fr_304, ca_305, us_306, wo_307, cm_308, lc_309, lh_310, ld_311, rfl, k312, k313, k314, k315, k316, k317, k318, k319, k320, k321, k322, k323, k324, k325, k326, k327⟩ := sp298.1 x 36 kx (by decide)
                refine tw_get (v := .ref lc_309) rfl in_14 9 dX10_use_92 w_1160 rfl (by decide) f300 rfl ?_
                refine tw_iload_n 1 dX10_use_95 rfl rfl ?_
                obtain ⟨e328, f329, ⟨el330, rfl, k331⟩, k332⟩ := sp298.1 lc_309 24 k318 (by decide)
                refine tw_br (tw_callV (M := mX10_use) (pc := 96) okJx4a65c_get_915e3 dX10_use_96 w_1296 rfl f329 [.int (nI j33)] [] rfl rfl ⟨by decide, by decide⟩ (Nat.le_of_ble_eq_true rfl) (c24_get d g τ h297 sp298.1 lc_309 k318 j33 (by omega) (by omega)) 0 0 (Nat.le_of_ble_eq_true rfl) (Nat.le_of_ble_eq_true rfl)) (fun r335 h334 q333 => ?_) (fun E h1 q => q.elim)
                obtain ⟨q333e, q333k⟩ := q333
                rw [q333e]
                have el336 : tw_el h297 (g.2 12) j33 = r335 := by rw [← k332]; exact q333k.2.symm
                have kl337 : τ (g.2 12) = 24 := by rw [← k332]; exact k318
                obtain ⟨e338, f339, r_340, c_341, v_342, o_343, t_344, rfl, k345, k346, k347, k348, k349⟩ := sp298.1 r335 21 q333k.1 (by decide)
                refine tw_castS (ci := 11) rfl dX10_use_99 w_1212 f339 ?_
                refine tw_get (v := .ref v_342) rfl in_11 2 dX10_use_102 w_1221 rfl (by decide) f339 rfl ?_
                refine tw_iload_n 2 dX10_use_105 rfl rfl ?_
                refine tw_dup2 dX10_use_106 rfl rfl ?_
                obtain ⟨e350, f351, F352, rfl⟩ := sp298.1 v_342 31 k345 (by decide)
                obtain ⟨v353, ev353⟩ : ∃ y : Int64, F352 (m).toNatClampNeg = y := ⟨_, rfl⟩
                refine tw_lald (v := v353) dX10_use_107 f351 (tw_in01 q57m (by decide)) ev353 ?_
                refine tw_iload_n 3 dX10_use_108 rfl rfl ?_
                refine tw_i2l dX10_use_109 ?_
                refine tw_nml (fun v354 ev354 => ?_)
                refine tw_lsub dX10_use_110 ?_
                refine tw_nml (fun v355 ev355 => ?_)
                refine tw_last dX10_use_111 f351 (tw_in01 q57m (by decide)) ?_
                obtain ⟨h356, eh356⟩ : ∃ z : tw_H, z = tw_up h297 v_342 (.inl (d.2 1, 2, .inr (.inl (vp_updL F352 (m).toNatClampNeg v355)))) := ⟨_, rfl⟩
                rw [← eh356]
                have sp357 : tw_sp d τ h g τ h356 := by rw [eh356]; exact sp298.set k345 (by decide) ⟨_, rfl⟩
                refine tw_aload_n 0 dX10_use_112 rfl rfl ?_
                obtain ⟨e358, f359, th_360, td_361, ds_362, fr_363, ca_364, us_365, wo_366, cm_367, lc_368, lh_369, ld_370, rfl, k371, k372, k373, k374, k375, k376, k377, k378, k379, k380, k381, k382, k383, k384, k385, k386⟩ := sp357.1 x 36 kx (by decide)
                refine tw_get (v := .ref lc_368) rfl in_14 9 dX10_use_113 w_1160 rfl (by decide) f359 rfl ?_
                refine tw_iload_n 1 dX10_use_116 rfl rfl ?_
                obtain ⟨e387, f388, ⟨el389, rfl, k390⟩, k391⟩ := sp357.1 lc_368 24 k377 (by decide)
                refine tw_br (tw_callV (M := mX10_use) (pc := 117) okJx4a65c_get_915e3 dX10_use_117 w_1296 rfl f388 [.int (nI j33)] [] rfl rfl ⟨by decide, by decide⟩ (Nat.le_of_ble_eq_true rfl) (c24_get d g τ h356 sp357.1 lc_368 k377 j33 (by omega) (by omega)) 0 0 (Nat.le_of_ble_eq_true rfl) (Nat.le_of_ble_eq_true rfl)) (fun r394 h393 q392 => ?_) (fun E h1 q => q.elim)
                obtain ⟨q392e, q392k⟩ := q392
                rw [q392e]
                have el395 : tw_el h356 (g.2 12) j33 = r394 := by rw [← k391]; exact q392k.2.symm
                have kl396 : τ (g.2 12) = 24 := by rw [← k391]; exact k377
                obtain ⟨e397, f398, r_399, c_400, v_401, o_402, t_403, rfl, k404, k405, k406, k407, k408⟩ := sp357.1 r394 21 q392k.1 (by decide)
                refine tw_castS (ci := 11) rfl dX10_use_120 w_1212 f398 ?_
                refine tw_get (v := .ref v_401) rfl in_11 2 dX10_use_123 w_1221 rfl (by decide) f398 rfl ?_
                refine tw_iload_n 2 dX10_use_126 rfl rfl ?_
                obtain ⟨e409, f410, F411, rfl⟩ := sp357.1 v_401 31 k404 (by decide)
                obtain ⟨v412, ev412⟩ : ∃ y : Int64, F411 (m).toNatClampNeg = y := ⟨_, rfl⟩
                refine tw_lald (v := v412) dX10_use_127 f410 (tw_in01 q57m (by decide)) ev412 ?_
                refine tw_l2i dX10_use_128 ?_
                refine tw_nmi (fun v413 ev413 => ?_)
                exact tw_iret dX10_use_129 rfl (Or.inl ⟨_, rfl, sp357⟩)
            · refine tw_iconst (v := 1) dX10_use_66 (by decide) ?_
              refine tw_goto 71 dX10_use_67 (by decide) ?_
              refine tw_iconst (v := 3) dX10_use_71 (by decide) ?_
              refine tw_bi (tw_callV (M := mX10_use) (pc := 72) okX10_refuse dX10_use_72 w_1204 rfl f189 [.int 1, .int 3] [] rfl rfl ⟨by decide, by decide⟩ (Nat.le_of_ble_eq_true rfl) (c_X10_refuse d g τ h177 sp184.1 x kx 1 3 (by decide)) 0 0 (Nat.le_of_ble_eq_true rfl) (Nat.le_of_ble_eq_true rfl)) (fun r416 h415 q414 => ?_) (fun E h1 q => q.elim)
              obtain ⟨e417, he418, hs419, hr420, h3421⟩ := q414
              have sp422 : tw_sp d τ h g τ h415 := by rw [he418]; exact sp184.set kx (by decide) hs419
              have f423 : h415 lc_198 = some (.inr (3, [.int (g.1 3), .ref el219, .int (nI (g.2 3))])) := by rw [he418, tw_up_n (fun q => absurd (k207) (by rw [q, kx]; decide))]; exact f218
              have f424 : h415 r224 = some (.inr (11, [.int r_229, .int c_230, .ref v_231, .ref o_232, .ref t_233])) := by rw [he418, tw_up_n (fun q => absurd (q222k.1) (by rw [q, kx]; decide))]; exact f228
              have f425 : h415 v_231 = some (.inl (d.2 1, 2, .inr (.inl F241))) := by rw [he418, tw_up_n (fun q => absurd (k234) (by rw [q, kx]; decide))]; exact f240
              have el426 : tw_el h415 (g.2 12) j33 = r224 := by rw [he418]; exact (tw_el24_up sp184.1 kl226 (by omega) (by rw [kx]; decide) (by rw [kx]; decide)).trans el225
              rcases hr420 with ei427 | ⟨ei427, ei427b⟩
              · rw [ei427]
                refine tw_if_eq 80 dX10_use_75 (by decide) (fun c428 => absurd c428 (by decide)) (fun _ => ?_)
                refine tw_iconst (v := 0) dX10_use_78 (by decide) ?_
                exact tw_iret dX10_use_79 rfl (Or.inl ⟨_, rfl, sp422⟩)
              · exact absurd ei427b (by decide)

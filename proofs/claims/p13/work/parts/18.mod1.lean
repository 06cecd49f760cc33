/-! the class's methods over the typed heap. Laid by wip/p5/mkclass.py. -/
set_option maxHeartbeats 4000000 in
set_option maxRecDepth 100000 in
theorem c_X10_thrown (d : tw_D) (g : tw_G) (τ : tw_K) (h : tw_H) (hw : tw_wt d g τ h) (x : Nat) (kx : τ x = 36) : tw_Ct d mX10_thrown 0 0 [.ref x] h (tw_qi (fun r h1 => h1 = h ∧ r = tw_th (h x)) tw_nx) := by
  refine tw_of (by decide +kernel) (Nat.le_of_ble_eq_true rfl) ?_
  show tw_W d mX10_thrown _ 0 [(0, .ref x)] [] h 0 0
  have sp0 := tw_sp.rf hw
  refine tw_aload_n 0 dX10_thrown_0 rfl rfl ?_
  obtain ⟨e1, f2, th_3, td_4, ds_5, fr_6, ca_7, us_8, wo_9, cm_10, lc_11, lh_12, ld_13, rfl, k14, k15, k16, k17, k18, k19, k20, k21, k22, k23, k24, k25, k26, k27⟩ := sp0.1 x 36 kx (by decide)
  refine tw_get (v := .int th_3) rfl in_14 0 dX10_thrown_1 w_1151 rfl (by decide) f2 rfl ?_
  exact tw_iret dX10_thrown_4 rfl (Or.inl ⟨_, rfl, ⟨rfl, (by rw [f2]; rfl)⟩⟩)

set_option maxHeartbeats 4000000 in
set_option maxRecDepth 100000 in
theorem c_X10_isIn (d : tw_D) (g : tw_G) (τ : tw_K) (h : tw_H) (hw : tw_wt d g τ h) (v : Int32) (lo : Int32) (hi : Int32) : tw_Ct d mX10_isIn 0 0 [.int v, .int lo, .int hi] h (tw_qi (fun r h1 => h1 = h ∧ (r = 0 ∧ ¬ (lo ≤ v ∧ v ≤ hi) ∨ r = 1 ∧ lo ≤ v ∧ v ≤ hi)) tw_nx) := by
  refine tw_of (by decide +kernel) (Nat.le_of_ble_eq_true rfl) ?_
  show tw_W d mX10_isIn _ 0 [(0, .int v), (1, .int lo), (2, .int hi)] [] h 0 0
  have sp0 := tw_sp.rf hw
  refine tw_iload_n 0 dX10_isIn_0 rfl rfl ?_
  refine tw_iload_n 1 dX10_isIn_1 rfl rfl ?_
  refine tw_icmp_lt 14 dX10_isIn_2 (by decide) (fun c1 => ?_) (fun c1 => ?_)
  · refine tw_iconst (v := 0) dX10_isIn_14 (by decide) ?_
    exact tw_zret dX10_isIn_15 rfl rfl (Or.inl ⟨_, rfl, ⟨rfl, Or.inl ⟨rfl, fun q => absurd q.1 (Int32.not_le.mpr c1)⟩⟩⟩)
  · refine tw_iload_n 0 dX10_isIn_5 rfl rfl ?_
    refine tw_iload_n 2 dX10_isIn_6 rfl rfl ?_
    refine tw_icmp_gt 14 dX10_isIn_7 (by decide) (fun c2 => ?_) (fun c2 => ?_)
    · refine tw_iconst (v := 0) dX10_isIn_14 (by decide) ?_
      exact tw_zret dX10_isIn_15 rfl rfl (Or.inl ⟨_, rfl, ⟨rfl, Or.inl ⟨rfl, fun q => absurd q.2 (Int32.not_le.mpr c2)⟩⟩⟩)
    · refine tw_iconst (v := 1) dX10_isIn_10 (by decide) ?_
      refine tw_goto 15 dX10_isIn_11 (by decide) ?_
      exact tw_zret dX10_isIn_15 rfl rfl (Or.inl ⟨_, rfl, ⟨rfl, Or.inr ⟨rfl, Int32.not_lt.mp c1, Int32.not_lt.mp c2⟩⟩⟩)

set_option maxHeartbeats 4000000 in
set_option maxRecDepth 100000 in
theorem c_X10_isNoMetal (d : tw_D) (g : tw_G) (τ : tw_K) (h : tw_H) (hw : tw_wt d g τ h) (m : Int32) : tw_Ct d mX10_isNoMetal 0 0 [.int m] h (tw_qi (fun r h1 => h1 = h ∧ (r = 1 ∨ r = 0 ∧ (m = 0 ∨ m = 1))) tw_nx) := by
  refine tw_of (by decide +kernel) (Nat.le_of_ble_eq_true rfl) ?_
  show tw_W d mX10_isNoMetal _ 0 [(0, .int m)] [] h 0 0
  have sp0 := tw_sp.rf hw
  refine tw_iload_n 0 dX10_isNoMetal_0 rfl rfl ?_
  refine tw_iconst (v := 0) dX10_isNoMetal_1 (by decide) ?_
  refine tw_iconst (v := 1) dX10_isNoMetal_2 (by decide) ?_
  refine tw_bi (tw_callS (M := mX10_isNoMetal) (pc := 3) okX10_isIn dX10_isNoMetal_3 w_1196 [.int m, .int 0, .int 1] [] rfl rfl ⟨by decide, by decide⟩ (Nat.le_of_ble_eq_true rfl) (c_X10_isIn d g τ h sp0.1 m 0 1) 0 0 (Nat.le_of_ble_eq_true rfl) (Nat.le_of_ble_eq_true rfl)) (fun r3 h2 q1 => ?_) (fun E h1 q => q.elim)
  obtain ⟨q1e, q1d⟩ := q1
  rw [q1e]
  rcases q1d with ⟨q1r, q1n⟩ | ⟨q1r, q1a, q1b⟩
  · rw [q1r]
    refine tw_if_ne 13 dX10_isNoMetal_6 (by decide) (fun c4 => absurd (by decide) c4) (fun _ => ?_)
    refine tw_iconst (v := 1) dX10_isNoMetal_9 (by decide) ?_
    refine tw_goto 14 dX10_isNoMetal_10 (by decide) ?_
    exact tw_zret dX10_isNoMetal_14 rfl rfl (Or.inl ⟨_, rfl, ⟨rfl, (Or.inl rfl)⟩⟩)
  · rw [q1r]
    refine tw_if_ne 13 dX10_isNoMetal_6 (by decide) (fun _ => ?_) (fun c5 => absurd c5 (by decide))
    refine tw_iconst (v := 0) dX10_isNoMetal_13 (by decide) ?_
    exact tw_zret dX10_isNoMetal_14 rfl rfl (Or.inl ⟨_, rfl, ⟨rfl, (Or.inr ⟨rfl, tw_m01 q1a q1b⟩)⟩⟩)

set_option maxHeartbeats 4000000 in
set_option maxRecDepth 100000 in
theorem c_X10_isNoCountry (d : tw_D) (g : tw_G) (τ : tw_K) (h : tw_H) (hw : tw_wt d g τ h) (x : Nat) (kx : τ x = 36) (k : Int32) : tw_Ct d mX10_isNoCountry 0 0 [.ref x, .int k] h (tw_qi (fun r h1 => h1 = h ∧ (r = 1 ∨ r = 0 ∧ ∃ j, j < g.2 3 ∧ k = nI j)) tw_nx) := by
  refine tw_of (by decide +kernel) (Nat.le_of_ble_eq_true rfl) ?_
  show tw_W d mX10_isNoCountry _ 0 [(0, .ref x), (1, .int k)] [] h 0 0
  have sp0 := tw_sp.rf hw
  refine tw_iload_n 1 dX10_isNoCountry_0 rfl rfl ?_
  refine tw_iconst (v := 0) dX10_isNoCountry_1 (by decide) ?_
  refine tw_aload_n 0 dX10_isNoCountry_2 rfl rfl ?_
  obtain ⟨e1, f2, th_3, td_4, ds_5, fr_6, ca_7, us_8, wo_9, cm_10, lc_11, lh_12, ld_13, rfl, k14, k15, k16, k17, k18, k19, k20, k21, k22, k23, k24, k25, k26, k27⟩ := sp0.1 x 36 kx (by decide)
  refine tw_get (v := .ref lc_11) rfl in_14 9 dX10_isNoCountry_3 w_1160 rfl (by decide) f2 rfl ?_
  obtain ⟨e28, f29, ⟨el30, rfl, k31⟩, k32⟩ := sp0.1 lc_11 24 k20 (by decide)
  refine tw_bi (tw_callV (M := mX10_isNoCountry) (pc := 6) okJx4a65c_size_8abf5 dX10_isNoCountry_6 w_1208 rfl f29 [] [.int 0, .int k] rfl rfl ⟨by decide, by decide⟩ (Nat.le_of_ble_eq_true rfl) (c24_size d g τ h sp0.1 lc_11 k20) 0 0 (Nat.le_of_ble_eq_true rfl) (Nat.le_of_ble_eq_true rfl)) (fun r35 h34 q33 => ?_) (fun E h1 q => q.elim)
  obtain ⟨q33e, q33r⟩ := q33
  rw [q33e, q33r]
  refine tw_iconst (v := 1) dX10_isNoCountry_9 (by decide) ?_
  refine tw_isub dX10_isNoCountry_10 ?_
  refine tw_nmi (fun v36 ev36 => ?_)
  refine tw_bi (tw_callS (M := mX10_isNoCountry) (pc := 11) okX10_isIn dX10_isNoCountry_11 w_1196 [.int k, .int 0, .int v36] [] rfl rfl ⟨by decide, by decide⟩ (Nat.le_of_ble_eq_true rfl) (c_X10_isIn d g τ h sp0.1 k 0 v36) 0 0 (Nat.le_of_ble_eq_true rfl) (Nat.le_of_ble_eq_true rfl)) (fun r39 h38 q37 => ?_) (fun E h1 q => q.elim)
  obtain ⟨q37e, q37d⟩ := q37
  rw [q37e]
  rcases q37d with ⟨q37r, q37n⟩ | ⟨q37r, q37a, q37b⟩
  · rw [q37r]
    refine tw_if_ne 21 dX10_isNoCountry_14 (by decide) (fun c40 => absurd (by decide) c40) (fun _ => ?_)
    refine tw_iconst (v := 1) dX10_isNoCountry_17 (by decide) ?_
    refine tw_goto 22 dX10_isNoCountry_18 (by decide) ?_
    exact tw_zret dX10_isNoCountry_22 rfl rfl (Or.inl ⟨_, rfl, ⟨rfl, (Or.inl rfl)⟩⟩)
  · rw [q37r]
    refine tw_if_ne 21 dX10_isNoCountry_14 (by decide) (fun _ => ?_) (fun c41 => absurd c41 (by decide))
    refine tw_iconst (v := 0) dX10_isNoCountry_21 (by decide) ?_
    exact tw_zret dX10_isNoCountry_22 rfl rfl (Or.inl ⟨_, rfl, ⟨rfl, (Or.inr ⟨rfl, tw_isc q37a q37b ev36 (by omega)⟩)⟩⟩)

set_option maxHeartbeats 4000000 in
set_option maxRecDepth 100000 in
theorem c_X10_isNoHouse (d : tw_D) (g : tw_G) (τ : tw_K) (h : tw_H) (hw : tw_wt d g τ h) (x : Nat) (kx : τ x = 36) (k : Int32) : tw_Ct d mX10_isNoHouse 0 0 [.ref x, .int k] h (tw_qi (fun r h1 => h1 = h ∧ (r = 1 ∨ r = 0 ∧ ∃ j, j < g.2 4 ∧ k = nI j)) tw_nx) := by
  refine tw_of (by decide +kernel) (Nat.le_of_ble_eq_true rfl) ?_
  show tw_W d mX10_isNoHouse _ 0 [(0, .ref x), (1, .int k)] [] h 0 0
  have sp0 := tw_sp.rf hw
  refine tw_iload_n 1 dX10_isNoHouse_0 rfl rfl ?_
  refine tw_iconst (v := 0) dX10_isNoHouse_1 (by decide) ?_
  refine tw_aload_n 0 dX10_isNoHouse_2 rfl rfl ?_
  obtain ⟨e1, f2, th_3, td_4, ds_5, fr_6, ca_7, us_8, wo_9, cm_10, lc_11, lh_12, ld_13, rfl, k14, k15, k16, k17, k18, k19, k20, k21, k22, k23, k24, k25, k26, k27⟩ := sp0.1 x 36 kx (by decide)
  refine tw_get (v := .ref lh_12) rfl in_14 10 dX10_isNoHouse_3 w_1161 rfl (by decide) f2 rfl ?_
  obtain ⟨e28, f29, ⟨el30, rfl, k31⟩, k32⟩ := sp0.1 lh_12 25 k21 (by decide)
  refine tw_bi (tw_callV (M := mX10_isNoHouse) (pc := 6) okJx4a65c_size_8abf5 dX10_isNoHouse_6 w_1208 rfl f29 [] [.int 0, .int k] rfl rfl ⟨by decide, by decide⟩ (Nat.le_of_ble_eq_true rfl) (c25_size d g τ h sp0.1 lh_12 k21) 0 0 (Nat.le_of_ble_eq_true rfl) (Nat.le_of_ble_eq_true rfl)) (fun r35 h34 q33 => ?_) (fun E h1 q => q.elim)
  obtain ⟨q33e, q33r⟩ := q33
  rw [q33e, q33r]
  refine tw_iconst (v := 1) dX10_isNoHouse_9 (by decide) ?_
  refine tw_isub dX10_isNoHouse_10 ?_
  refine tw_nmi (fun v36 ev36 => ?_)
  refine tw_bi (tw_callS (M := mX10_isNoHouse) (pc := 11) okX10_isIn dX10_isNoHouse_11 w_1196 [.int k, .int 0, .int v36] [] rfl rfl ⟨by decide, by decide⟩ (Nat.le_of_ble_eq_true rfl) (c_X10_isIn d g τ h sp0.1 k 0 v36) 0 0 (Nat.le_of_ble_eq_true rfl) (Nat.le_of_ble_eq_true rfl)) (fun r39 h38 q37 => ?_) (fun E h1 q => q.elim)
  obtain ⟨q37e, q37d⟩ := q37
  rw [q37e]
  rcases q37d with ⟨q37r, q37n⟩ | ⟨q37r, q37a, q37b⟩
  · rw [q37r]
    refine tw_if_ne 21 dX10_isNoHouse_14 (by decide) (fun c40 => absurd (by decide) c40) (fun _ => ?_)
    refine tw_iconst (v := 1) dX10_isNoHouse_17 (by decide) ?_
    refine tw_goto 22 dX10_isNoHouse_18 (by decide) ?_
    exact tw_zret dX10_isNoHouse_22 rfl rfl (Or.inl ⟨_, rfl, ⟨rfl, (Or.inl rfl)⟩⟩)
  · rw [q37r]
    refine tw_if_ne 21 dX10_isNoHouse_14 (by decide) (fun _ => ?_) (fun c41 => absurd c41 (by decide))
    refine tw_iconst (v := 0) dX10_isNoHouse_21 (by decide) ?_
    exact tw_zret dX10_isNoHouse_22 rfl rfl (Or.inl ⟨_, rfl, ⟨rfl, (Or.inr ⟨rfl, tw_isc q37a q37b ev36 (by omega)⟩)⟩⟩)

set_option maxHeartbeats 4000000 in
set_option maxRecDepth 100000 in
theorem c_X10_refuse (d : tw_D) (g : tw_G) (τ : tw_K) (h : tw_H) (hw : tw_wt d g τ h) (x : Nat) (kx : τ x = 36) (is w9 : Int32) (hw1 : 0 < w9) : tw_Ct d mX10_refuse 0 0 [.ref x, .int is, .int w9] h (tw_qi (fun r h1 => ∃ e, h1 = tw_up h x e ∧ tw_sh d g τ x 36 e ∧ (r = 1 ∨ r = 0 ∧ is = 0) ∧ (tw_th (h x) = 0 → (is = 0 → r = 0 ∧ tw_th (some e) = 0) ∧ (is = 1 → r = 1 ∧ tw_th (some e) = w9))) tw_nx) := by
  refine tw_of (by decide +kernel) (Nat.le_of_ble_eq_true rfl) ?_
  show tw_W d mX10_refuse _ 0 [(0, .ref x), (1, .int is), (2, .int w9)] [] h 0 0
  have sp0 := tw_sp.rf hw
  refine tw_iload_n 1 dX10_refuse_0 rfl rfl ?_
  refine tw_if_eq 16 dX10_refuse_1 (by decide) (fun c1 => ?_) (fun c1 => ?_)
  · refine tw_aload_n 0 dX10_refuse_16 rfl rfl ?_
    obtain ⟨e2, f3, th_4, td_5, ds_6, fr_7, ca_8, us_9, wo_10, cm_11, lc_12, lh_13, ld_14, rfl, k15, k16, k17, k18, k19, k20, k21, k22, k23, k24, k25, k26, k27, k28⟩ := sp0.1 x 36 kx (by decide)
    refine tw_get (v := .int th_4) rfl in_14 0 dX10_refuse_17 w_1151 rfl (by decide) f3 rfl ?_
    refine tw_if_le 27 dX10_refuse_20 (by decide) (fun c29 => ?_) (fun c29 => ?_)
    · refine tw_iconst (v := 0) dX10_refuse_27 (by decide) ?_
      exact tw_zret dX10_refuse_28 rfl rfl (Or.inl ⟨_, rfl, _, (tw_up_id f3).symm, ⟨th_4, td_5, ds_6, fr_7, ca_8, us_9, wo_10, cm_11, lc_12, lh_13, ld_14, rfl, k15, k16, k17, k18, k19, k20, k21, k22, k23, k24, k25, k26, k27, k28⟩, (Or.inr ⟨rfl, c1⟩), (by intro z; rw [f3] at z; have z : th_4 = 0 := z; exact ⟨fun _ => ⟨rfl, z⟩, fun q => absurd (q.symm.trans c1) (by decide)⟩)⟩)
    · refine tw_iconst (v := 1) dX10_refuse_23 (by decide) ?_
      refine tw_goto 28 dX10_refuse_24 (by decide) ?_
      exact tw_zret dX10_refuse_28 rfl rfl (Or.inl ⟨_, rfl, _, (tw_up_id f3).symm, ⟨th_4, td_5, ds_6, fr_7, ca_8, us_9, wo_10, cm_11, lc_12, lh_13, ld_14, rfl, k15, k16, k17, k18, k19, k20, k21, k22, k23, k24, k25, k26, k27, k28⟩, (Or.inl rfl), (by intro z; rw [f3] at z; have z : th_4 = 0 := z; exact absurd (by rw [z]; decide) c29)⟩)
  · refine tw_aload_n 0 dX10_refuse_4 rfl rfl ?_
    obtain ⟨e30, f31, th_32, td_33, ds_34, fr_35, ca_36, us_37, wo_38, cm_39, lc_40, lh_41, ld_42, rfl, k43, k44, k45, k46, k47, k48, k49, k50, k51, k52, k53, k54, k55, k56⟩ := sp0.1 x 36 kx (by decide)
    refine tw_get (v := .int th_32) rfl in_14 0 dX10_refuse_5 w_1151 rfl (by decide) f31 rfl ?_
    refine tw_if_ne 16 dX10_refuse_8 (by decide) (fun c57 => ?_) (fun c57 => ?_)
    · refine tw_aload_n 0 dX10_refuse_16 rfl rfl ?_
      refine tw_get (v := .int th_32) rfl in_14 0 dX10_refuse_17 w_1151 rfl (by decide) f31 rfl ?_
      refine tw_if_le 27 dX10_refuse_20 (by decide) (fun c58 => ?_) (fun c58 => ?_)
      · refine tw_iconst (v := 0) dX10_refuse_27 (by decide) ?_
        exact tw_zret dX10_refuse_28 rfl rfl (Or.inl ⟨_, rfl, _, (tw_up_id f31).symm, ⟨th_32, td_33, ds_34, fr_35, ca_36, us_37, wo_38, cm_39, lc_40, lh_41, ld_42, rfl, k43, k44, k45, k46, k47, k48, k49, k50, k51, k52, k53, k54, k55, k56⟩, (absurd (Int32.le_antisymm c58 k56) c57), (by intro z; rw [f31] at z; have z : th_32 = 0 := z; exact absurd z c57)⟩)
      · refine tw_iconst (v := 1) dX10_refuse_23 (by decide) ?_
        refine tw_goto 28 dX10_refuse_24 (by decide) ?_
        exact tw_zret dX10_refuse_28 rfl rfl (Or.inl ⟨_, rfl, _, (tw_up_id f31).symm, ⟨th_32, td_33, ds_34, fr_35, ca_36, us_37, wo_38, cm_39, lc_40, lh_41, ld_42, rfl, k43, k44, k45, k46, k47, k48, k49, k50, k51, k52, k53, k54, k55, k56⟩, (Or.inl rfl), (by intro z; rw [f31] at z; have z : th_32 = 0 := z; exact absurd z c57)⟩)
    · refine tw_aload_n 0 dX10_refuse_11 rfl rfl ?_
      refine tw_iload_n 2 dX10_refuse_12 rfl rfl ?_
      refine tw_put rfl in_14 tyX10 tyX10_ok nmX10 0 dX10_refuse_13 w_1151 rfl (by decide) f31 rfl rfl rfl rfl (Nat.le_of_ble_eq_true rfl) [.int w9, .int td_33, .int (g.1 1), .ref ds_34, .ref fr_35, .ref ca_36, .ref us_37, .ref wo_38, .ref cm_39, .ref lc_40, .ref lh_41, .ref ld_42] rfl ?_
      obtain ⟨h59, eh59⟩ : ∃ z : tw_H, z = tw_up h x (.inr (14, [.int w9, .int td_33, .int (g.1 1), .ref ds_34, .ref fr_35, .ref ca_36, .ref us_37, .ref wo_38, .ref cm_39, .ref lc_40, .ref lh_41, .ref ld_42])) := ⟨_, rfl⟩
      rw [← eh59]
      have f60 : h59 x = some (.inr (14, [.int w9, .int td_33, .int (g.1 1), .ref ds_34, .ref fr_35, .ref ca_36, .ref us_37, .ref wo_38, .ref cm_39, .ref lc_40, .ref lh_41, .ref ld_42])) := by rw [eh59]; exact tw_up_s
      refine tw_aload_n 0 dX10_refuse_16 rfl rfl ?_
      refine tw_get (v := .int w9) rfl in_14 0 dX10_refuse_17 w_1151 rfl (by decide) f60 rfl ?_
      refine tw_if_le 27 dX10_refuse_20 (by decide) (fun c61 => ?_) (fun c61 => ?_)
      · refine tw_iconst (v := 0) dX10_refuse_27 (by decide) ?_
        exact tw_zret dX10_refuse_28 rfl rfl (Or.inl ⟨_, rfl, _, eh59, ⟨w9, td_33, ds_34, fr_35, ca_36, us_37, wo_38, cm_39, lc_40, lh_41, ld_42, rfl, k43, k44, k45, k46, k47, k48, k49, k50, k51, k52, k53, k54, k55, (Int32.le_of_lt hw1)⟩, (absurd hw1 (Int32.not_lt.mpr c61)), (by intro z; rw [f31] at z; have z : th_32 = 0 := z; exact absurd hw1 (Int32.not_lt.mpr c61))⟩)
      · refine tw_iconst (v := 1) dX10_refuse_23 (by decide) ?_
        refine tw_goto 28 dX10_refuse_24 (by decide) ?_
        exact tw_zret dX10_refuse_28 rfl rfl (Or.inl ⟨_, rfl, _, eh59, ⟨w9, td_33, ds_34, fr_35, ca_36, us_37, wo_38, cm_39, lc_40, lh_41, ld_42, rfl, k43, k44, k45, k46, k47, k48, k49, k50, k51, k52, k53, k54, k55, (Int32.le_of_lt hw1)⟩, (Or.inl rfl), (by intro z; rw [f31] at z; have z : th_32 = 0 := z; exact ⟨fun q => absurd q c1, fun _ => ⟨rfl, rfl⟩⟩)⟩)

set_option maxHeartbeats 4000000 in
set_option maxRecDepth 100000 in
theorem c_X10_start (d : tw_D) (g : tw_G) (τ : tw_K) (h : tw_H) (hw : tw_wt d g τ h) (x : Nat) (kx : τ x = 36) (is w9 : Int32) (hw1 : 0 < w9) : tw_Ct d mX10_start 0 0 [.ref x, .int is, .int w9] h (tw_qi (fun r h1 => ∃ e, h1 = tw_up h x e ∧ tw_sh d g τ x 36 e ∧ (r = 1 ∨ r = 0 ∧ is = 0) ∧ (is = 0 → r = 0 ∧ tw_th (some e) = 0) ∧ (is = 1 → r = 1 ∧ tw_th (some e) = w9)) tw_nx) := by
  refine tw_of (by decide +kernel) (Nat.le_of_ble_eq_true rfl) ?_
  show tw_W d mX10_start _ 0 [(0, .ref x), (1, .int is), (2, .int w9)] [] h 0 0
  have sp0 := tw_sp.rf hw
  refine tw_aload_n 0 dX10_start_0 rfl rfl ?_
  refine tw_iconst (v := 0) dX10_start_1 (by decide) ?_
  obtain ⟨e1, f2, th_3, td_4, ds_5, fr_6, ca_7, us_8, wo_9, cm_10, lc_11, lh_12, ld_13, rfl, k14, k15, k16, k17, k18, k19, k20, k21, k22, k23, k24, k25, k26, k27⟩ := sp0.1 x 36 kx (by decide)
  refine tw_put rfl in_14 tyX10 tyX10_ok nmX10 0 dX10_start_2 w_1151 rfl (by decide) f2 rfl rfl rfl rfl (Nat.le_of_ble_eq_true rfl) [.int 0, .int td_4, .int (g.1 1), .ref ds_5, .ref fr_6, .ref ca_7, .ref us_8, .ref wo_9, .ref cm_10, .ref lc_11, .ref lh_12, .ref ld_13] rfl ?_
  obtain ⟨h28, eh28⟩ : ∃ z : tw_H, z = tw_up h x (.inr (14, [.int 0, .int td_4, .int (g.1 1), .ref ds_5, .ref fr_6, .ref ca_7, .ref us_8, .ref wo_9, .ref cm_10, .ref lc_11, .ref lh_12, .ref ld_13])) := ⟨_, rfl⟩
  rw [← eh28]
  have sp1 : tw_wt d g τ h28 := by rw [eh28]; exact hw.set kx ⟨0, td_4, ds_5, fr_6, ca_7, us_8, wo_9, cm_10, lc_11, lh_12, ld_13, rfl, k14, k15, k16, k17, k18, k19, k20, k21, k22, k23, k24, k25, k26, (by decide)⟩
  have f29 : h28 x = some (.inr (14, [.int 0, .int td_4, .int (g.1 1), .ref ds_5, .ref fr_6, .ref ca_7, .ref us_8, .ref wo_9, .ref cm_10, .ref lc_11, .ref lh_12, .ref ld_13])) := by rw [eh28]; exact tw_up_s
  refine tw_aload_n 0 dX10_start_5 rfl rfl ?_
  refine tw_iload_n 1 dX10_start_6 rfl rfl ?_
  refine tw_iload_n 2 dX10_start_7 rfl rfl ?_
  refine tw_bi (tw_callV (M := mX10_start) (pc := 8) okX10_refuse dX10_start_8 w_1204 rfl f29 [.int is, .int w9] [] rfl rfl ⟨by decide, by decide⟩ (Nat.le_of_ble_eq_true rfl) (c_X10_refuse d g τ h28 sp1 x kx is w9 hw1) 0 0 (Nat.le_of_ble_eq_true rfl) (Nat.le_of_ble_eq_true rfl)) (fun r h3 q => ?_) (fun E h3 q => q.elim)
  obtain ⟨e, he, hs, hr, h4⟩ := q
  exact tw_zret dX10_start_11 rfl (by rcases hr with z | z <;> (first | rw [z] | rw [z.1]) <;> rfl) (Or.inl ⟨_, rfl, e, (by rw [he, eh28]; exact tw_up_up), hs, hr, h4 (by rw [f29]; rfl)⟩)

set_option maxHeartbeats 4000000 in
set_option maxRecDepth 100000 in
theorem c_X10_up (d : tw_D) (g : tw_G) (τ : tw_K) (h : tw_H) (hw : tw_wt d g τ h) (a : Int64) (b : Int64) (hu : ¬ b = 0) : tw_Ct d mX10_up 0 0 [.long a, .long b] h (tw_ql (fun r h1 => h1 = h) tw_nx) := by
  refine tw_of (by decide +kernel) (Nat.le_of_ble_eq_true rfl) ?_
  show tw_W d mX10_up _ 0 [(0, .long a), (2, .long b)] [] h 0 0
  have sp0 := tw_sp.rf hw
  refine tw_lload_n 0 dX10_up_0 rfl rfl ?_
  refine tw_lload_n 1 dX10_up_1 rfl rfl ?_
  refine tw_ladd dX10_up_2 ?_
  refine tw_nml (fun v1 ev1 => ?_)
  refine tw_lconst (v := 1) dX10_up_3 (by decide) ?_
  refine tw_lsub dX10_up_4 ?_
  refine tw_nml (fun v2 ev2 => ?_)
  refine tw_lload_n 1 dX10_up_5 rfl rfl ?_
  refine tw_ldiv dX10_up_6 hu ?_
  refine tw_nml (fun v3 ev3 => ?_)
  exact tw_lret dX10_up_7 rfl (Or.inl ⟨_, rfl, rfl⟩)

set_option maxHeartbeats 4000000 in
set_option maxRecDepth 100000 in
theorem c_X10_given (d : tw_D) (g : tw_G) (τ : tw_K) (h : tw_H) (hw : tw_wt d g τ h) (x : Nat) (kx : τ x = 21) (m : Int32) (gr : Int64) : tw_Ct d mX10_given 0 0 [.ref x, .int m, .long gr] h (tw_ql (fun r h1 => h1 = h) tw_nx) := by
  refine tw_of (by decide +kernel) (Nat.le_of_ble_eq_true rfl) ?_
  show tw_W d mX10_given _ 0 [(0, .ref x), (1, .int m), (2, .long gr)] [] h 0 0
  have sp0 := tw_sp.rf hw
  refine tw_iload_n 1 dX10_given_0 rfl rfl ?_
  refine tw_if_ne 18 dX10_given_1 (by decide) (fun c1 => ?_) (fun c1 => ?_)
  · refine tw_lload_n 2 dX10_given_18 rfl rfl ?_
    refine tw_ldc2 (v := 10) dX10_given_19 w_1373 ?_
    refine tw_lmul dX10_given_22 ?_
    refine tw_nml (fun v2 ev2 => ?_)
    refine tw_aload_n 0 dX10_given_23 rfl rfl ?_
    obtain ⟨e3, f4, r_5, c_6, v_7, o_8, t_9, rfl, k10, k11, k12, k13, k14⟩ := sp0.1 x 21 kx (by decide)
    refine tw_get (v := .int r_5) rfl in_11 0 dX10_given_24 w_1218 rfl (by decide) f4 rfl ?_
    refine tw_i2l dX10_given_27 ?_
    refine tw_nml (fun v15 ev15 => ?_)
    refine tw_ldiv dX10_given_28 (tw_nzl ev15 (tw_1le k13)) ?_
    refine tw_nml (fun v16 ev16 => ?_)
    refine tw_lstore [(4, .long v16), (0, .ref x), (1, .int m), (2, .long gr)] dX10_given_29 (by decide) rfl ?_
    refine tw_lload 0 dX10_given_31 rfl ?_
    refine tw_lload 0 dX10_given_33 rfl ?_
    refine tw_aload_n 1 dX10_given_35 rfl rfl ?_
    refine tw_get (v := .int c_6) rfl in_11 1 dX10_given_36 w_1219 rfl (by decide) f4 rfl ?_
    refine tw_i2l dX10_given_39 ?_
    refine tw_nml (fun v17 ev17 => ?_)
    refine tw_lmul dX10_given_40 ?_
    refine tw_nml (fun v18 ev18 => ?_)
    refine tw_ldc2 (v := 1000) dX10_given_41 w_1374 ?_
    refine tw_bl (tw_callS (M := mX10_given) (pc := 44) okX10_up dX10_given_44 w_1375 [.long v18, .long 1000] [.long v16] rfl rfl ⟨by decide, by decide⟩ (Nat.le_of_ble_eq_true rfl) (c_X10_up d g τ h sp0.1 v18 1000 (by decide)) 0 0 (Nat.le_of_ble_eq_true rfl) (Nat.le_of_ble_eq_true rfl)) (fun r21 h20 q19 => ?_) (fun E h1 q => q.elim)
    rw [q19]
    refine tw_lsub dX10_given_47 ?_
    refine tw_nml (fun v22 ev22 => ?_)
    exact tw_lret dX10_given_48 rfl (Or.inl ⟨_, rfl, rfl⟩)
  · refine tw_lload_n 2 dX10_given_4 rfl rfl ?_
    refine tw_aload_n 0 dX10_given_5 rfl rfl ?_
    obtain ⟨e23, f24, r_25, c_26, v_27, o_28, t_29, rfl, k30, k31, k32, k33, k34⟩ := sp0.1 x 21 kx (by decide)
    refine tw_get (v := .int r_25) rfl in_11 0 dX10_given_6 w_1218 rfl (by decide) f24 rfl ?_
    refine tw_i2l dX10_given_9 ?_
    refine tw_nml (fun v35 ev35 => ?_)
    refine tw_lmul dX10_given_10 ?_
    refine tw_nml (fun v36 ev36 => ?_)
    refine tw_ldc2 (v := 10) dX10_given_11 w_1373 ?_
    refine tw_ldiv dX10_given_14 (by decide) ?_
    refine tw_nml (fun v37 ev37 => ?_)
    refine tw_goto 29 dX10_given_15 (by decide) ?_
    refine tw_lstore [(4, .long v37), (0, .ref x), (1, .int m), (2, .long gr)] dX10_given_29 (by decide) rfl ?_
    refine tw_lload 0 dX10_given_31 rfl ?_
    refine tw_lload 0 dX10_given_33 rfl ?_
    refine tw_aload_n 1 dX10_given_35 rfl rfl ?_
    refine tw_get (v := .int c_26) rfl in_11 1 dX10_given_36 w_1219 rfl (by decide) f24 rfl ?_
    refine tw_i2l dX10_given_39 ?_
    refine tw_nml (fun v38 ev38 => ?_)
    refine tw_lmul dX10_given_40 ?_
    refine tw_nml (fun v39 ev39 => ?_)
    refine tw_ldc2 (v := 1000) dX10_given_41 w_1374 ?_
    refine tw_bl (tw_callS (M := mX10_given) (pc := 44) okX10_up dX10_given_44 w_1375 [.long v39, .long 1000] [.long v37] rfl rfl ⟨by decide, by decide⟩ (Nat.le_of_ble_eq_true rfl) (c_X10_up d g τ h sp0.1 v39 1000 (by decide)) 0 0 (Nat.le_of_ble_eq_true rfl) (Nat.le_of_ble_eq_true rfl)) (fun r42 h41 q40 => ?_) (fun E h1 q => q.elim)
    rw [q40]
    refine tw_lsub dX10_given_47 ?_
    refine tw_nml (fun v43 ev43 => ?_)
    exact tw_lret dX10_given_48 rfl (Or.inl ⟨_, rfl, rfl⟩)

set_option maxHeartbeats 4000000 in
set_option maxRecDepth 100000 in
theorem c_X10_worth (d : tw_D) (g : tw_G) (τ : tw_K) (h : tw_H) (hw : tw_wt d g τ h) (x : Nat) (kx : τ x = 36) (a : Nat) (ka : τ a = 31) : tw_Ct d mX10_worth 0 0 [.ref x, .ref a] h (tw_ql (fun r h1 => h1 = h) tw_nx) := by
  refine tw_of (by decide +kernel) (Nat.le_of_ble_eq_true rfl) ?_
  show tw_W d mX10_worth _ 0 [(0, .ref x), (1, .ref a)] [] h 0 0
  have sp0 := tw_sp.rf hw
  refine tw_aload_n 1 dX10_worth_0 rfl rfl ?_
  refine tw_iconst (v := 1) dX10_worth_1 (by decide) ?_
  obtain ⟨e1, f2, F3, rfl⟩ := sp0.1 a 31 ka (by decide)
  obtain ⟨v4, ev4⟩ : ∃ y : Int64, F3 (1 : Int32).toNatClampNeg = y := ⟨_, rfl⟩
  refine tw_lald (v := v4) dX10_worth_2 f2 (vp_in_nI (n := 1) (by decide) (by decide)) ev4 ?_
  refine tw_aload_n 1 dX10_worth_3 rfl rfl ?_
  refine tw_iconst (v := 0) dX10_worth_4 (by decide) ?_
  obtain ⟨v5, ev5⟩ : ∃ y : Int64, F3 (0 : Int32).toNatClampNeg = y := ⟨_, rfl⟩
  refine tw_lald (v := v5) dX10_worth_5 f2 (vp_in_nI (n := 0) (by decide) (by decide)) ev5 ?_
  refine tw_aload_n 0 dX10_worth_6 rfl rfl ?_
  obtain ⟨e6, f7, th_8, td_9, ds_10, fr_11, ca_12, us_13, wo_14, cm_15, lc_16, lh_17, ld_18, rfl, k19, k20, k21, k22, k23, k24, k25, k26, k27, k28, k29, k30, k31, k32⟩ := sp0.1 x 36 kx (by decide)
  refine tw_get (v := .int (g.1 1)) rfl in_14 2 dX10_worth_7 w_1153 rfl (by decide) f7 rfl ?_
  refine tw_i2l dX10_worth_10 ?_
  refine tw_nml (fun v33 ev33 => ?_)
  refine tw_lmul dX10_worth_11 ?_
  refine tw_nml (fun v34 ev34 => ?_)
  refine tw_ldc2 (v := 10) dX10_worth_12 w_1373 ?_
  refine tw_ldiv dX10_worth_15 (by decide) ?_
  refine tw_nml (fun v35 ev35 => ?_)
  refine tw_ladd dX10_worth_16 ?_
  refine tw_nml (fun v36 ev36 => ?_)
  exact tw_lret dX10_worth_17 rfl (Or.inl ⟨_, rfl, rfl⟩)

set_option maxHeartbeats 4000000 in
set_option maxRecDepth 100000 in
theorem c_X10_law (d : tw_D) (g : tw_G) (τ : tw_K) (h : tw_H) (hw : tw_wt d g τ h) (x : Nat) (kx : τ x = 36) (n : Int32) (rt : Int32) (ct : Int32) : tw_Ct d mX10_law 0 0 [.ref x, .int n, .int rt, .int ct] h (tw_qi (fun r h1 => tw_sp d τ h g τ h1) tw_nx) := by
  refine tw_of (by decide +kernel) (Nat.le_of_ble_eq_true rfl) ?_
  show tw_W d mX10_law _ 0 [(0, .ref x), (1, .int n), (2, .int rt), (3, .int ct)] [] h 0 0
  have sp0 := tw_sp.rf hw
  refine tw_aload_n 0 dX10_law_0 rfl rfl ?_
  refine tw_aload_n 0 dX10_law_1 rfl rfl ?_
  refine tw_iload_n 1 dX10_law_2 rfl rfl ?_
  obtain ⟨e1, f2, th_3, td_4, ds_5, fr_6, ca_7, us_8, wo_9, cm_10, lc_11, lh_12, ld_13, rfl, k14, k15, k16, k17, k18, k19, k20, k21, k22, k23, k24, k25, k26, k27⟩ := sp0.1 x 36 kx (by decide)
  refine tw_bi (tw_callV (M := mX10_law) (pc := 3) okX10_isNoCountry dX10_law_3 w_1292 rfl f2 [.int n] [.ref x] rfl rfl ⟨by decide, by decide⟩ (Nat.le_of_ble_eq_true rfl) (c_X10_isNoCountry d g τ h sp0.1 x kx n) 0 0 (Nat.le_of_ble_eq_true rfl) (Nat.le_of_ble_eq_true rfl)) (fun r30 h29 q28 => ?_) (fun E h1 q => q.elim)
  obtain ⟨q28e, q28d⟩ := q28
  rw [q28e]
  rcases q28d with q28r | ⟨q28r, j31, q28j, q28k⟩
  · rw [q28r]
    refine tw_iconst (v := 1) dX10_law_6 (by decide) ?_
    refine tw_bi (tw_callV (M := mX10_law) (pc := 7) okX10_start dX10_law_7 w_1200 rfl f2 [.int 1, .int 1] [] rfl rfl ⟨by decide, by decide⟩ (Nat.le_of_ble_eq_true rfl) (c_X10_start d g τ h sp0.1 x kx 1 1 (by decide)) 0 0 (Nat.le_of_ble_eq_true rfl) (Nat.le_of_ble_eq_true rfl)) (fun r34 h33 q32 => ?_) (fun E h1 q => q.elim)
    obtain ⟨e35, he36, hs37, hr38, h339⟩ := q32
    have sp40 : tw_sp d τ h g τ h33 := by rw [he36]; exact sp0.set kx (by decide) hs37
    rcases hr38 with ei41 | ⟨ei41, ei41b⟩
    · rw [ei41]
      refine tw_if_ne 48 dX10_law_10 (by decide) (fun _ => ?_) (fun c42 => absurd c42 (by decide))
      refine tw_iconst (v := 0) dX10_law_48 (by decide) ?_
      exact tw_iret dX10_law_49 rfl (Or.inl ⟨_, rfl, sp40⟩)
    · exact absurd ei41b (by decide)
  · rw [q28r]
    subst q28k
    refine tw_iconst (v := 1) dX10_law_6 (by decide) ?_
    refine tw_bi (tw_callV (M := mX10_law) (pc := 7) okX10_start dX10_law_7 w_1200 rfl f2 [.int 0, .int 1] [] rfl rfl ⟨by decide, by decide⟩ (Nat.le_of_ble_eq_true rfl) (c_X10_start d g τ h sp0.1 x kx 0 1 (by decide)) 0 0 (Nat.le_of_ble_eq_true rfl) (Nat.le_of_ble_eq_true rfl)) (fun r45 h44 q43 => ?_) (fun E h1 q => q.elim)
    obtain ⟨e46, he47, hs48, hr49, h350⟩ := q43
    have sp51 : tw_sp d τ h g τ h44 := by rw [he47]; exact sp0.set kx (by decide) hs48
    rcases hr49 with ei52 | ⟨ei52, ei52b⟩
    · rw [ei52]
      refine tw_if_ne 48 dX10_law_10 (by decide) (fun _ => ?_) (fun c53 => absurd c53 (by decide))
      refine tw_iconst (v := 0) dX10_law_48 (by decide) ?_
      exact tw_iret dX10_law_49 rfl (Or.inl ⟨_, rfl, sp51⟩)
    · rw [ei52]
      refine tw_if_ne 48 dX10_law_10 (by decide) (fun c54 => absurd (by decide) c54) (fun _ => ?_)
      refine tw_aload_n 0 dX10_law_13 rfl rfl ?_
      refine tw_iload_n 2 dX10_law_14 rfl rfl ?_
      refine tw_bipush (v := 100) dX10_law_15 (by decide) ?_
      refine tw_sipush (v := 200) dX10_law_17 (by decide) ?_
      refine tw_bi (tw_callS (M := mX10_law) (pc := 20) okX10_isIn dX10_law_20 w_1196 [.int rt, .int 100, .int 200] [.ref x] rfl rfl ⟨by decide, by decide⟩ (Nat.le_of_ble_eq_true rfl) (c_X10_isIn d g τ h44 sp51.1 rt 100 200) 0 0 (Nat.le_of_ble_eq_true rfl) (Nat.le_of_ble_eq_true rfl)) (fun r57 h56 q55 => ?_) (fun E h1 q => q.elim)
      obtain ⟨q55e, q55d⟩ := q55
      rw [q55e]
      rcases q55d with ⟨q55r, q55n⟩ | ⟨q55r, q55a, q55b⟩
      · rw [q55r]
        refine tw_if_eq 36 dX10_law_23 (by decide) (fun _ => ?_) (fun c58 => absurd (by decide) c58)
        refine tw_iconst (v := 1) dX10_law_36 (by decide) ?_
        refine tw_goto 41 dX10_law_37 (by decide) ?_
        refine tw_iconst (v := 2) dX10_law_41 (by decide) ?_
        obtain ⟨e59, f60, th_61, td_62, ds_63, fr_64, ca_65, us_66, wo_67, cm_68, lc_69, lh_70, ld_71, rfl, k72, k73, k74, k75, k76, k77, k78, k79, k80, k81, k82, k83, k84, k85⟩ := sp51.1 x 36 kx (by decide)
        refine tw_bi (tw_callV (M := mX10_law) (pc := 42) okX10_refuse dX10_law_42 w_1204 rfl f60 [.int 1, .int 2] [] rfl rfl ⟨by decide, by decide⟩ (Nat.le_of_ble_eq_true rfl) (c_X10_refuse d g τ h44 sp51.1 x kx 1 2 (by decide)) 0 0 (Nat.le_of_ble_eq_true rfl) (Nat.le_of_ble_eq_true rfl)) (fun r88 h87 q86 => ?_) (fun E h1 q => q.elim)
        obtain ⟨e89, he90, hs91, hr92, h393⟩ := q86
        have sp94 : tw_sp d τ h g τ h87 := by rw [he90]; exact sp51.set kx (by decide) hs91
        rcases hr92 with ei95 | ⟨ei95, ei95b⟩
        · rw [ei95]
          refine tw_if_eq 50 dX10_law_45 (by decide) (fun c96 => absurd c96 (by decide)) (fun _ => ?_)
          refine tw_iconst (v := 0) dX10_law_48 (by decide) ?_
          exact tw_iret dX10_law_49 rfl (Or.inl ⟨_, rfl, sp94⟩)
        · exact absurd ei95b (by decide)
      · rw [q55r]
        refine tw_if_eq 36 dX10_law_23 (by decide) (fun c97 => absurd c97 (by decide)) (fun _ => ?_)
        refine tw_iload_n 3 dX10_law_26 rfl rfl ?_
        refine tw_iconst (v := 0) dX10_law_27 (by decide) ?_
        refine tw_bipush (v := 50) dX10_law_28 (by decide) ?_
        refine tw_bi (tw_callS (M := mX10_law) (pc := 30) okX10_isIn dX10_law_30 w_1196 [.int ct, .int 0, .int 50] [.ref x] rfl rfl ⟨by decide, by decide⟩ (Nat.le_of_ble_eq_true rfl) (c_X10_isIn d g τ h44 sp51.1 ct 0 50) 0 0 (Nat.le_of_ble_eq_true rfl) (Nat.le_of_ble_eq_true rfl)) (fun r100 h99 q98 => ?_) (fun E h1 q => q.elim)
        obtain ⟨q98e, q98d⟩ := q98
        rw [q98e]
        rcases q98d with ⟨q98r, q98n⟩ | ⟨q98r, q98a, q98b⟩
        · rw [q98r]
          refine tw_if_ne 40 dX10_law_33 (by decide) (fun c101 => absurd (by decide) c101) (fun _ => ?_)
          refine tw_iconst (v := 1) dX10_law_36 (by decide) ?_
          refine tw_goto 41 dX10_law_37 (by decide) ?_
          refine tw_iconst (v := 2) dX10_law_41 (by decide) ?_
          obtain ⟨e102, f103, th_104, td_105, ds_106, fr_107, ca_108, us_109, wo_110, cm_111, lc_112, lh_113, ld_114, rfl, k115, k116, k117, k118, k119, k120, k121, k122, k123, k124, k125, k126, k127, k128⟩ := sp51.1 x 36 kx (by decide)
          refine tw_bi (tw_callV (M := mX10_law) (pc := 42) okX10_refuse dX10_law_42 w_1204 rfl f103 [.int 1, .int 2] [] rfl rfl ⟨by decide, by decide⟩ (Nat.le_of_ble_eq_true rfl) (c_X10_refuse d g τ h44 sp51.1 x kx 1 2 (by decide)) 0 0 (Nat.le_of_ble_eq_true rfl) (Nat.le_of_ble_eq_true rfl)) (fun r131 h130 q129 => ?_) (fun E h1 q => q.elim)
          obtain ⟨e132, he133, hs134, hr135, h3136⟩ := q129
          have sp137 : tw_sp d τ h g τ h130 := by rw [he133]; exact sp51.set kx (by decide) hs134
          rcases hr135 with ei138 | ⟨ei138, ei138b⟩
          · rw [ei138]
            refine tw_if_eq 50 dX10_law_45 (by decide) (fun c139 => absurd c139 (by decide)) (fun _ => ?_)
            refine tw_iconst (v := 0) dX10_law_48 (by decide) ?_
            exact tw_iret dX10_law_49 rfl (Or.inl ⟨_, rfl, sp137⟩)
          · exact absurd ei138b (by decide)
        · rw [q98r]
          refine tw_if_ne 40 dX10_law_33 (by decide) (fun _ => ?_) (fun c140 => absurd c140 (by decide))
          refine tw_iconst (v := 0) dX10_law_40 (by decide) ?_
          refine tw_iconst (v := 2) dX10_law_41 (by decide) ?_
          obtain ⟨e141, f142, th_143, td_144, ds_145, fr_146, ca_147, us_148, wo_149, cm_150, lc_151, lh_152, ld_153, rfl, k154, k155, k156, k157, k158, k159, k160, k161, k162, k163, k164, k165, k166, k167⟩ := sp51.1 x 36 kx (by decide)
          refine tw_bi (tw_callV (M := mX10_law) (pc := 42) okX10_refuse dX10_law_42 w_1204 rfl f142 [.int 0, .int 2] [] rfl rfl ⟨by decide, by decide⟩ (Nat.le_of_ble_eq_true rfl) (c_X10_refuse d g τ h44 sp51.1 x kx 0 2 (by decide)) 0 0 (Nat.le_of_ble_eq_true rfl) (Nat.le_of_ble_eq_true rfl)) (fun r170 h169 q168 => ?_) (fun E h1 q => q.elim)
          obtain ⟨e171, he172, hs173, hr174, h3175⟩ := q168
          have sp176 : tw_sp d τ h g τ h169 := by rw [he172]; exact sp51.set kx (by decide) hs173
          rcases hr174 with ei177 | ⟨ei177, ei177b⟩
          · rw [ei177]
            refine tw_if_eq 50 dX10_law_45 (by decide) (fun c178 => absurd c178 (by decide)) (fun _ => ?_)
            refine tw_iconst (v := 0) dX10_law_48 (by decide) ?_
            exact tw_iret dX10_law_49 rfl (Or.inl ⟨_, rfl, sp176⟩)
          · rw [ei177]
            refine tw_if_eq 50 dX10_law_45 (by decide) (fun _ => ?_) (fun c179 => absurd (by decide) c179)
            refine tw_aload_n 0 dX10_law_50 rfl rfl ?_
            obtain ⟨e180, f181, th_182, td_183, ds_184, fr_185, ca_186, us_187, wo_188, cm_189, lc_190, lh_191, ld_192, rfl, k193, k194, k195, k196, k197, k198, k199, k200, k201, k202, k203, k204, k205, k206⟩ := sp176.1 x 36 kx (by decide)
            refine tw_get (v := .ref lc_190) rfl in_14 9 dX10_law_51 w_1160 rfl (by decide) f181 rfl ?_
            refine tw_iload_n 1 dX10_law_54 rfl rfl ?_
            obtain ⟨e207, f208, ⟨el209, rfl, k210⟩, k211⟩ := sp176.1 lc_190 24 k199 (by decide)
            refine tw_br (tw_callV (M := mX10_law) (pc := 55) okJx4a65c_get_915e3 dX10_law_55 w_1296 rfl f208 [.int (nI j31)] [] rfl rfl ⟨by decide, by decide⟩ (Nat.le_of_ble_eq_true rfl) (c24_get d g τ h169 sp176.1 lc_190 k199 j31 (by omega) (by omega)) 0 0 (Nat.le_of_ble_eq_true rfl) (Nat.le_of_ble_eq_true rfl)) (fun r214 h213 q212 => ?_) (fun E h1 q => q.elim)
            obtain ⟨q212e, q212k⟩ := q212
            rw [q212e]
            have el215 : tw_el h169 (g.2 12) j31 = r214 := by rw [← k211]; exact q212k.2.symm
            have kl216 : τ (g.2 12) = 24 := by rw [← k211]; exact k199
            obtain ⟨e217, f218, r_219, c_220, v_221, o_222, t_223, rfl, k224, k225, k226, k227, k228⟩ := sp176.1 r214 21 q212k.1 (by decide)
            refine tw_castS (ci := 11) rfl dX10_law_58 w_1212 f218 ?_
            refine tw_astore [(4, .ref r214), (0, .ref x), (1, .int (nI j31)), (2, .int rt), (3, .int ct)] dX10_law_61 (by decide) rfl ?_
            refine tw_aload 0 dX10_law_63 rfl ?_
            refine tw_get (v := .int r_219) rfl in_11 0 dX10_law_65 w_1218 rfl (by decide) f218 rfl ?_
            refine tw_istore [(5, .int r_219), (4, .ref r214), (0, .ref x), (1, .int (nI j31)), (2, .int rt), (3, .int ct)] dX10_law_68 (by decide) rfl ?_
            refine tw_aload 1 dX10_law_70 rfl ?_
            refine tw_iload_n 4 dX10_law_72 rfl rfl ?_
            refine tw_put rfl in_11 tyX7 tyX7_ok nmX7 0 dX10_law_73 w_1218 rfl (by decide) f218 rfl rfl rfl rfl (Nat.le_of_ble_eq_true rfl) [.int rt, .int c_220, .ref v_221, .ref o_222, .ref t_223] rfl ?_
            obtain ⟨h229, eh229⟩ : ∃ z : tw_H, z = tw_up h169 r214 (.inr (11, [.int rt, .int c_220, .ref v_221, .ref o_222, .ref t_223])) := ⟨_, rfl⟩
            rw [← eh229]
            have sp230 : tw_sp d τ h g τ h229 := by rw [eh229]; exact sp176.set q212k.1 (by decide) ⟨rt, c_220, v_221, o_222, t_223, rfl, k224, k225, k226, q55a, q55b⟩
            have f231 : h229 r214 = some (.inr (11, [.int rt, .int c_220, .ref v_221, .ref o_222, .ref t_223])) := by rw [eh229]; exact tw_up_s
            refine tw_aload 1 dX10_law_76 rfl ?_
            refine tw_iload_n 5 dX10_law_78 rfl rfl ?_
            refine tw_put rfl in_11 tyX7 tyX7_ok nmX7 1 dX10_law_79 w_1219 rfl (by decide) f231 rfl rfl rfl rfl (Nat.le_of_ble_eq_true rfl) [.int rt, .int ct, .ref v_221, .ref o_222, .ref t_223] rfl ?_
            obtain ⟨h232, eh232⟩ : ∃ z : tw_H, z = tw_up h229 r214 (.inr (11, [.int rt, .int ct, .ref v_221, .ref o_222, .ref t_223])) := ⟨_, rfl⟩
            rw [← eh232]
            have sp233 : tw_sp d τ h g τ h232 := by rw [eh232]; exact sp230.set q212k.1 (by decide) ⟨rt, ct, v_221, o_222, t_223, rfl, k224, k225, k226, q55a, q55b⟩
            have f234 : h232 r214 = some (.inr (11, [.int rt, .int ct, .ref v_221, .ref o_222, .ref t_223])) := by rw [eh232]; exact tw_up_s
            refine tw_iload 0 dX10_law_82 rfl ?_
            exact tw_iret dX10_law_84 rfl (Or.inl ⟨_, rfl, sp233⟩)

set_option maxHeartbeats 4000000 in
set_option maxRecDepth 100000 in
theorem c_X10_gate (d : tw_D) (g : tw_G) (τ : tw_K) (h : tw_H) (hw : tw_wt d g τ h) (x : Nat) (kx : τ x = 36) (n : Int32) (m : Int32) (b : Int32) (kb : tw_01 b) : tw_Ct d mX10_gate 0 0 [.ref x, .int n, .int m, .int b] h (tw_qi (fun r h1 => tw_sp d τ h g τ h1 ∧ tw_01 r) tw_nx) := by
  refine tw_of (by decide +kernel) (Nat.le_of_ble_eq_true rfl) ?_
  show tw_W d mX10_gate _ 0 [(0, .ref x), (1, .int n), (2, .int m), (3, .int b)] [] h 0 0
  have sp0 := tw_sp.rf hw
  refine tw_aload_n 0 dX10_gate_0 rfl rfl ?_
  refine tw_aload_n 0 dX10_gate_1 rfl rfl ?_
  refine tw_iload_n 1 dX10_gate_2 rfl rfl ?_
  obtain ⟨e1, f2, th_3, td_4, ds_5, fr_6, ca_7, us_8, wo_9, cm_10, lc_11, lh_12, ld_13, rfl, k14, k15, k16, k17, k18, k19, k20, k21, k22, k23, k24, k25, k26, k27⟩ := sp0.1 x 36 kx (by decide)
  refine tw_bi (tw_callV (M := mX10_gate) (pc := 3) okX10_isNoCountry dX10_gate_3 w_1292 rfl f2 [.int n] [.ref x] rfl rfl ⟨by decide, by decide⟩ (Nat.le_of_ble_eq_true rfl) (c_X10_isNoCountry d g τ h sp0.1 x kx n) 0 0 (Nat.le_of_ble_eq_true rfl) (Nat.le_of_ble_eq_true rfl)) (fun r30 h29 q28 => ?_) (fun E h1 q => q.elim)
  obtain ⟨q28e, q28d⟩ := q28
  rw [q28e]
  rcases q28d with q28r | ⟨q28r, j31, q28j, q28k⟩
  · rw [q28r]
    refine tw_iconst (v := 1) dX10_gate_6 (by decide) ?_
    refine tw_bi (tw_callV (M := mX10_gate) (pc := 7) okX10_start dX10_gate_7 w_1200 rfl f2 [.int 1, .int 1] [] rfl rfl ⟨by decide, by decide⟩ (Nat.le_of_ble_eq_true rfl) (c_X10_start d g τ h sp0.1 x kx 1 1 (by decide)) 0 0 (Nat.le_of_ble_eq_true rfl) (Nat.le_of_ble_eq_true rfl)) (fun r34 h33 q32 => ?_) (fun E h1 q => q.elim)
    obtain ⟨e35, he36, hs37, hr38, h339⟩ := q32
    have sp40 : tw_sp d τ h g τ h33 := by rw [he36]; exact sp0.set kx (by decide) hs37
    rcases hr38 with ei41 | ⟨ei41, ei41b⟩
    · rw [ei41]
      refine tw_if_ne 25 dX10_gate_10 (by decide) (fun _ => ?_) (fun c42 => absurd c42 (by decide))
      refine tw_iconst (v := 0) dX10_gate_25 (by decide) ?_
      exact tw_zret dX10_gate_26 rfl rfl (Or.inl ⟨_, rfl, ⟨sp40, (by unfold tw_01; decide)⟩⟩)
    · exact absurd ei41b (by decide)
  · rw [q28r]
    subst q28k
    refine tw_iconst (v := 1) dX10_gate_6 (by decide) ?_
    refine tw_bi (tw_callV (M := mX10_gate) (pc := 7) okX10_start dX10_gate_7 w_1200 rfl f2 [.int 0, .int 1] [] rfl rfl ⟨by decide, by decide⟩ (Nat.le_of_ble_eq_true rfl) (c_X10_start d g τ h sp0.1 x kx 0 1 (by decide)) 0 0 (Nat.le_of_ble_eq_true rfl) (Nat.le_of_ble_eq_true rfl)) (fun r45 h44 q43 => ?_) (fun E h1 q => q.elim)
    obtain ⟨e46, he47, hs48, hr49, h350⟩ := q43
    have sp51 : tw_sp d τ h g τ h44 := by rw [he47]; exact sp0.set kx (by decide) hs48
    rcases hr49 with ei52 | ⟨ei52, ei52b⟩
    · rw [ei52]
      refine tw_if_ne 25 dX10_gate_10 (by decide) (fun _ => ?_) (fun c53 => absurd c53 (by decide))
      refine tw_iconst (v := 0) dX10_gate_25 (by decide) ?_
      exact tw_zret dX10_gate_26 rfl rfl (Or.inl ⟨_, rfl, ⟨sp51, (by unfold tw_01; decide)⟩⟩)
    · rw [ei52]
      refine tw_if_ne 25 dX10_gate_10 (by decide) (fun c54 => absurd (by decide) c54) (fun _ => ?_)
      refine tw_aload_n 0 dX10_gate_13 rfl rfl ?_
      refine tw_iload_n 2 dX10_gate_14 rfl rfl ?_
      refine tw_bi (tw_callS (M := mX10_gate) (pc := 15) okX10_isNoMetal dX10_gate_15 w_1312 [.int m] [.ref x] rfl rfl ⟨by decide, by decide⟩ (Nat.le_of_ble_eq_true rfl) (c_X10_isNoMetal d g τ h44 sp51.1 m) 0 0 (Nat.le_of_ble_eq_true rfl) (Nat.le_of_ble_eq_true rfl)) (fun r57 h56 q55 => ?_) (fun E h1 q => q.elim)
      obtain ⟨q55e, q55d⟩ := q55
      rw [q55e]
      rcases q55d with q55r | ⟨q55r, q55m⟩
      · rw [q55r]
        refine tw_iconst (v := 2) dX10_gate_18 (by decide) ?_
        obtain ⟨e58, f59, th_60, td_61, ds_62, fr_63, ca_64, us_65, wo_66, cm_67, lc_68, lh_69, ld_70, rfl, k71, k72, k73, k74, k75, k76, k77, k78, k79, k80, k81, k82, k83, k84⟩ := sp51.1 x 36 kx (by decide)
        refine tw_bi (tw_callV (M := mX10_gate) (pc := 19) okX10_refuse dX10_gate_19 w_1204 rfl f59 [.int 1, .int 2] [] rfl rfl ⟨by decide, by decide⟩ (Nat.le_of_ble_eq_true rfl) (c_X10_refuse d g τ h44 sp51.1 x kx 1 2 (by decide)) 0 0 (Nat.le_of_ble_eq_true rfl) (Nat.le_of_ble_eq_true rfl)) (fun r87 h86 q85 => ?_) (fun E h1 q => q.elim)
        obtain ⟨e88, he89, hs90, hr91, h392⟩ := q85
        have sp93 : tw_sp d τ h g τ h86 := by rw [he89]; exact sp51.set kx (by decide) hs90
        rcases hr91 with ei94 | ⟨ei94, ei94b⟩
        · rw [ei94]
          refine tw_if_eq 27 dX10_gate_22 (by decide) (fun c95 => absurd c95 (by decide)) (fun _ => ?_)
          refine tw_iconst (v := 0) dX10_gate_25 (by decide) ?_
          exact tw_zret dX10_gate_26 rfl rfl (Or.inl ⟨_, rfl, ⟨sp93, (by unfold tw_01; decide)⟩⟩)
        · exact absurd ei94b (by decide)
      · rw [q55r]
        refine tw_iconst (v := 2) dX10_gate_18 (by decide) ?_
        obtain ⟨e96, f97, th_98, td_99, ds_100, fr_101, ca_102, us_103, wo_104, cm_105, lc_106, lh_107, ld_108, rfl, k109, k110, k111, k112, k113, k114, k115, k116, k117, k118, k119, k120, k121, k122⟩ := sp51.1 x 36 kx (by decide)
        refine tw_bi (tw_callV (M := mX10_gate) (pc := 19) okX10_refuse dX10_gate_19 w_1204 rfl f97 [.int 0, .int 2] [] rfl rfl ⟨by decide, by decide⟩ (Nat.le_of_ble_eq_true rfl) (c_X10_refuse d g τ h44 sp51.1 x kx 0 2 (by decide)) 0 0 (Nat.le_of_ble_eq_true rfl) (Nat.le_of_ble_eq_true rfl)) (fun r125 h124 q123 => ?_) (fun E h1 q => q.elim)
        obtain ⟨e126, he127, hs128, hr129, h3130⟩ := q123
        have sp131 : tw_sp d τ h g τ h124 := by rw [he127]; exact sp51.set kx (by decide) hs128
        rcases hr129 with ei132 | ⟨ei132, ei132b⟩
        · rw [ei132]
          refine tw_if_eq 27 dX10_gate_22 (by decide) (fun c133 => absurd c133 (by decide)) (fun _ => ?_)
          refine tw_iconst (v := 0) dX10_gate_25 (by decide) ?_
          exact tw_zret dX10_gate_26 rfl rfl (Or.inl ⟨_, rfl, ⟨sp131, (by unfold tw_01; decide)⟩⟩)
        · rw [ei132]
          refine tw_if_eq 27 dX10_gate_22 (by decide) (fun _ => ?_) (fun c134 => absurd (by decide) c134)
          refine tw_aload_n 0 dX10_gate_27 rfl rfl ?_
          obtain ⟨e135, f136, th_137, td_138, ds_139, fr_140, ca_141, us_142, wo_143, cm_144, lc_145, lh_146, ld_147, rfl, k148, k149, k150, k151, k152, k153, k154, k155, k156, k157, k158, k159, k160, k161⟩ := sp131.1 x 36 kx (by decide)
          refine tw_get (v := .ref lc_145) rfl in_14 9 dX10_gate_28 w_1160 rfl (by decide) f136 rfl ?_
          refine tw_iload_n 1 dX10_gate_31 rfl rfl ?_
          obtain ⟨e162, f163, ⟨el164, rfl, k165⟩, k166⟩ := sp131.1 lc_145 24 k154 (by decide)
          refine tw_br (tw_callV (M := mX10_gate) (pc := 32) okJx4a65c_get_915e3 dX10_gate_32 w_1296 rfl f163 [.int (nI j31)] [] rfl rfl ⟨by decide, by decide⟩ (Nat.le_of_ble_eq_true rfl) (c24_get d g τ h124 sp131.1 lc_145 k154 j31 (by omega) (by omega)) 0 0 (Nat.le_of_ble_eq_true rfl) (Nat.le_of_ble_eq_true rfl)) (fun r169 h168 q167 => ?_) (fun E h1 q => q.elim)
          obtain ⟨q167e, q167k⟩ := q167
          rw [q167e]
          have el170 : tw_el h124 (g.2 12) j31 = r169 := by rw [← k166]; exact q167k.2.symm
          have kl171 : τ (g.2 12) = 24 := by rw [← k166]; exact k154
          obtain ⟨e172, f173, r_174, c_175, v_176, o_177, t_178, rfl, k179, k180, k181, k182, k183⟩ := sp131.1 r169 21 q167k.1 (by decide)
          refine tw_castS (ci := 11) rfl dX10_gate_35 w_1212 f173 ?_
          refine tw_get (v := .ref o_177) rfl in_11 3 dX10_gate_38 w_1223 rfl (by decide) f173 rfl ?_
          refine tw_iload_n 2 dX10_gate_41 rfl rfl ?_
          obtain ⟨e184, f185, F186, rfl, k187⟩ := sp131.1 o_177 32 k180 (by decide)
          obtain ⟨v188, ev188⟩ : ∃ y : Int32, F186 (m).toNatClampNeg = y := ⟨_, rfl⟩
          refine tw_zald (v := v188) dX10_gate_42 f185 (tw_in01 q55m (by decide)) ev188 ?_
          refine tw_istore [(4, .int v188), (0, .ref x), (1, .int (nI j31)), (2, .int m), (3, .int b)] dX10_gate_43 (by decide) rfl ?_
          refine tw_aload_n 1 dX10_gate_45 rfl rfl ?_
          refine tw_get (v := .ref lc_145) rfl in_14 9 dX10_gate_46 w_1160 rfl (by decide) f136 rfl ?_
          refine tw_iload_n 2 dX10_gate_49 rfl rfl ?_
          refine tw_br (tw_callV (M := mX10_gate) (pc := 50) okJx4a65c_get_915e3 dX10_gate_50 w_1296 rfl f163 [.int (nI j31)] [] rfl rfl ⟨by decide, by decide⟩ (Nat.le_of_ble_eq_true rfl) (c24_get d g τ h124 sp131.1 lc_145 k154 j31 (by omega) (by omega)) 0 0 (Nat.le_of_ble_eq_true rfl) (Nat.le_of_ble_eq_true rfl)) (fun r191 h190 q189 => ?_) (fun E h1 q => q.elim)
          obtain ⟨q189e, q189k⟩ := q189
          rw [q189e]
          have q189ky : r191 = r169 := q189k.2.trans (by rw [k166]; exact el170)
          rw [q189ky]
          refine tw_castS (ci := 11) rfl dX10_gate_53 w_1212 f173 ?_
          refine tw_get (v := .ref o_177) rfl in_11 3 dX10_gate_56 w_1223 rfl (by decide) f173 rfl ?_
          refine tw_iload_n 3 dX10_gate_59 rfl rfl ?_
          refine tw_iload_n 4 dX10_gate_60 rfl rfl ?_
          refine tw_zast dX10_gate_61 f185 (tw_in01 q55m (by decide)) ?_
          obtain ⟨h192, eh192⟩ : ∃ z : tw_H, z = tw_up h124 o_177 (.inl (d.2 2, 2, .inl (upd F186 (m).toNatClampNeg (vp_nar .boolean b)))) := ⟨_, rfl⟩
          rw [← eh192]
          have sp193 : tw_sp d τ h g τ h192 := by rw [eh192]; exact sp131.set k180 (by decide) ⟨_, rfl, tw_01up k187 (tw_vp01 kb)⟩
          refine tw_iload 0 dX10_gate_62 rfl ?_
          exact tw_zret dX10_gate_64 rfl (tw_nar01 (by rw [← ev188]; exact k187 _)) (Or.inl ⟨_, rfl, ⟨sp193, (by rw [← ev188]; exact k187 _)⟩⟩)

set_option maxHeartbeats 4000000 in
set_option maxRecDepth 100000 in
theorem c_X10_road (d : tw_D) (g : tw_G) (τ : tw_K) (h : tw_H) (hw : tw_wt d g τ h) (x : Nat) (kx : τ x = 36) (a : Int32) (b : Int32) (dy : Int32) (fr : Int32) : tw_Ct d mX10_road 0 0 [.ref x, .int a, .int b, .int dy, .int fr] h (tw_qi (fun r h1 => tw_sp d τ h g τ h1) tw_nx) := by
  refine tw_of (by decide +kernel) (Nat.le_of_ble_eq_true rfl) ?_
  show tw_W d mX10_road _ 0 [(0, .ref x), (1, .int a), (2, .int b), (3, .int dy), (4, .int fr)] [] h 0 0
  have sp0 := tw_sp.rf hw
  refine tw_aload_n 0 dX10_road_0 rfl rfl ?_
  refine tw_aload_n 0 dX10_road_1 rfl rfl ?_
  refine tw_iload_n 1 dX10_road_2 rfl rfl ?_
  obtain ⟨e1, f2, th_3, td_4, ds_5, fr_6, ca_7, us_8, wo_9, cm_10, lc_11, lh_12, ld_13, rfl, k14, k15, k16, k17, k18, k19, k20, k21, k22, k23, k24, k25, k26, k27⟩ := sp0.1 x 36 kx (by decide)
  refine tw_bi (tw_callV (M := mX10_road) (pc := 3) okX10_isNoCountry dX10_road_3 w_1292 rfl f2 [.int a] [.ref x] rfl rfl ⟨by decide, by decide⟩ (Nat.le_of_ble_eq_true rfl) (c_X10_isNoCountry d g τ h sp0.1 x kx a) 0 0 (Nat.le_of_ble_eq_true rfl) (Nat.le_of_ble_eq_true rfl)) (fun r30 h29 q28 => ?_) (fun E h1 q => q.elim)
  obtain ⟨q28e, q28d⟩ := q28
  rw [q28e]
  rcases q28d with q28r | ⟨q28r, j31, q28j, q28k⟩
  · rw [q28r]
    refine tw_if_ne 17 dX10_road_6 (by decide) (fun _ => ?_) (fun c32 => absurd c32 (by decide))
    refine tw_iconst (v := 1) dX10_road_17 (by decide) ?_
    refine tw_goto 22 dX10_road_18 (by decide) ?_
    refine tw_iconst (v := 1) dX10_road_22 (by decide) ?_
    refine tw_bi (tw_callV (M := mX10_road) (pc := 23) okX10_start dX10_road_23 w_1200 rfl f2 [.int 1, .int 1] [] rfl rfl ⟨by decide, by decide⟩ (Nat.le_of_ble_eq_true rfl) (c_X10_start d g τ h sp0.1 x kx 1 1 (by decide)) 0 0 (Nat.le_of_ble_eq_true rfl) (Nat.le_of_ble_eq_true rfl)) (fun r35 h34 q33 => ?_) (fun E h1 q => q.elim)
    obtain ⟨e36, he37, hs38, hr39, h340⟩ := q33
    have sp41 : tw_sp d τ h g τ h34 := by rw [he37]; exact sp0.set kx (by decide) hs38
    rcases hr39 with ei42 | ⟨ei42, ei42b⟩
    · rw [ei42]
      refine tw_if_ne 68 dX10_road_26 (by decide) (fun _ => ?_) (fun c43 => absurd c43 (by decide))
      refine tw_iconst (v := 0) dX10_road_68 (by decide) ?_
      exact tw_iret dX10_road_69 rfl (Or.inl ⟨_, rfl, sp41⟩)
    · exact absurd ei42b (by decide)
  · rw [q28r]
    subst q28k
    refine tw_if_ne 17 dX10_road_6 (by decide) (fun c44 => absurd (by decide) c44) (fun _ => ?_)
    refine tw_aload_n 0 dX10_road_9 rfl rfl ?_
    refine tw_iload_n 2 dX10_road_10 rfl rfl ?_
    refine tw_bi (tw_callV (M := mX10_road) (pc := 11) okX10_isNoCountry dX10_road_11 w_1292 rfl f2 [.int b] [.ref x] rfl rfl ⟨by decide, by decide⟩ (Nat.le_of_ble_eq_true rfl) (c_X10_isNoCountry d g τ h sp0.1 x kx b) 0 0 (Nat.le_of_ble_eq_true rfl) (Nat.le_of_ble_eq_true rfl)) (fun r47 h46 q45 => ?_) (fun E h1 q => q.elim)
    obtain ⟨q45e, q45d⟩ := q45
    rw [q45e]
    rcases q45d with q45r | ⟨q45r, j48, q45j, q45k⟩
    · rw [q45r]
      refine tw_if_eq 21 dX10_road_14 (by decide) (fun c49 => absurd c49 (by decide)) (fun _ => ?_)
      refine tw_iconst (v := 1) dX10_road_17 (by decide) ?_
      refine tw_goto 22 dX10_road_18 (by decide) ?_
      refine tw_iconst (v := 1) dX10_road_22 (by decide) ?_
      refine tw_bi (tw_callV (M := mX10_road) (pc := 23) okX10_start dX10_road_23 w_1200 rfl f2 [.int 1, .int 1] [] rfl rfl ⟨by decide, by decide⟩ (Nat.le_of_ble_eq_true rfl) (c_X10_start d g τ h sp0.1 x kx 1 1 (by decide)) 0 0 (Nat.le_of_ble_eq_true rfl) (Nat.le_of_ble_eq_true rfl)) (fun r52 h51 q50 => ?_) (fun E h1 q => q.elim)
      obtain ⟨e53, he54, hs55, hr56, h357⟩ := q50
      have sp58 : tw_sp d τ h g τ h51 := by rw [he54]; exact sp0.set kx (by decide) hs55
      rcases hr56 with ei59 | ⟨ei59, ei59b⟩
      · rw [ei59]
        refine tw_if_ne 68 dX10_road_26 (by decide) (fun _ => ?_) (fun c60 => absurd c60 (by decide))
        refine tw_iconst (v := 0) dX10_road_68 (by decide) ?_
        exact tw_iret dX10_road_69 rfl (Or.inl ⟨_, rfl, sp58⟩)
      · exact absurd ei59b (by decide)
    · rw [q45r]
      subst q45k
      refine tw_if_eq 21 dX10_road_14 (by decide) (fun _ => ?_) (fun c61 => absurd (by decide) c61)
      refine tw_iconst (v := 0) dX10_road_21 (by decide) ?_
      refine tw_iconst (v := 1) dX10_road_22 (by decide) ?_
      refine tw_bi (tw_callV (M := mX10_road) (pc := 23) okX10_start dX10_road_23 w_1200 rfl f2 [.int 0, .int 1] [] rfl rfl ⟨by decide, by decide⟩ (Nat.le_of_ble_eq_true rfl) (c_X10_start d g τ h sp0.1 x kx 0 1 (by decide)) 0 0 (Nat.le_of_ble_eq_true rfl) (Nat.le_of_ble_eq_true rfl)) (fun r64 h63 q62 => ?_) (fun E h1 q => q.elim)
      obtain ⟨e65, he66, hs67, hr68, h369⟩ := q62
      have sp70 : tw_sp d τ h g τ h63 := by rw [he66]; exact sp0.set kx (by decide) hs67
      rcases hr68 with ei71 | ⟨ei71, ei71b⟩
      · rw [ei71]
        refine tw_if_ne 68 dX10_road_26 (by decide) (fun _ => ?_) (fun c72 => absurd c72 (by decide))
        refine tw_iconst (v := 0) dX10_road_68 (by decide) ?_
        exact tw_iret dX10_road_69 rfl (Or.inl ⟨_, rfl, sp70⟩)
      · rw [ei71]
        refine tw_if_ne 68 dX10_road_26 (by decide) (fun c73 => absurd (by decide) c73) (fun _ => ?_)
        refine tw_aload_n 0 dX10_road_29 rfl rfl ?_
        refine tw_iload_n 1 dX10_road_30 rfl rfl ?_
        refine tw_iload_n 2 dX10_road_31 rfl rfl ?_
        refine tw_icmp_eq 56 dX10_road_32 (by decide) (fun c74 => ?_) (fun c74 => ?_)
        · refine tw_iconst (v := 1) dX10_road_56 (by decide) ?_
          refine tw_goto 61 dX10_road_57 (by decide) ?_
          refine tw_iconst (v := 2) dX10_road_61 (by decide) ?_
          obtain ⟨e75, f76, th_77, td_78, ds_79, fr_80, ca_81, us_82, wo_83, cm_84, lc_85, lh_86, ld_87, rfl, k88, k89, k90, k91, k92, k93, k94, k95, k96, k97, k98, k99, k100, k101⟩ := sp70.1 x 36 kx (by decide)
          refine tw_bi (tw_callV (M := mX10_road) (pc := 62) okX10_refuse dX10_road_62 w_1204 rfl f76 [.int 1, .int 2] [] rfl rfl ⟨by decide, by decide⟩ (Nat.le_of_ble_eq_true rfl) (c_X10_refuse d g τ h63 sp70.1 x kx 1 2 (by decide)) 0 0 (Nat.le_of_ble_eq_true rfl) (Nat.le_of_ble_eq_true rfl)) (fun r104 h103 q102 => ?_) (fun E h1 q => q.elim)
          obtain ⟨e105, he106, hs107, hr108, h3109⟩ := q102
          have sp110 : tw_sp d τ h g τ h103 := by rw [he106]; exact sp70.set kx (by decide) hs107
          rcases hr108 with ei111 | ⟨ei111, ei111b⟩
          · rw [ei111]
            refine tw_if_eq 70 dX10_road_65 (by decide) (fun c112 => absurd c112 (by decide)) (fun _ => ?_)
            refine tw_iconst (v := 0) dX10_road_68 (by decide) ?_
            exact tw_iret dX10_road_69 rfl (Or.inl ⟨_, rfl, sp110⟩)
          · exact absurd ei111b (by decide)
        · refine tw_iload_n 3 dX10_road_35 rfl rfl ?_
          refine tw_iconst (v := 1) dX10_road_36 (by decide) ?_
          refine tw_bipush (v := 30) dX10_road_37 (by decide) ?_
          refine tw_bi (tw_callS (M := mX10_road) (pc := 39) okX10_isIn dX10_road_39 w_1196 [.int dy, .int 1, .int 30] [.ref x] rfl rfl ⟨by decide, by decide⟩ (Nat.le_of_ble_eq_true rfl) (c_X10_isIn d g τ h63 sp70.1 dy 1 30) 0 0 (Nat.le_of_ble_eq_true rfl) (Nat.le_of_ble_eq_true rfl)) (fun r115 h114 q113 => ?_) (fun E h1 q => q.elim)
          obtain ⟨q113e, q113d⟩ := q113
          rw [q113e]
          rcases q113d with ⟨q113r, q113n⟩ | ⟨q113r, q113a, q113b⟩
          · rw [q113r]
            refine tw_if_eq 56 dX10_road_42 (by decide) (fun _ => ?_) (fun c116 => absurd (by decide) c116)
            refine tw_iconst (v := 1) dX10_road_56 (by decide) ?_
            refine tw_goto 61 dX10_road_57 (by decide) ?_
            refine tw_iconst (v := 2) dX10_road_61 (by decide) ?_
            obtain ⟨e117, f118, th_119, td_120, ds_121, fr_122, ca_123, us_124, wo_125, cm_126, lc_127, lh_128, ld_129, rfl, k130, k131, k132, k133, k134, k135, k136, k137, k138, k139, k140, k141, k142, k143⟩ := sp70.1 x 36 kx (by decide)
            refine tw_bi (tw_callV (M := mX10_road) (pc := 62) okX10_refuse dX10_road_62 w_1204 rfl f118 [.int 1, .int 2] [] rfl rfl ⟨by decide, by decide⟩ (Nat.le_of_ble_eq_true rfl) (c_X10_refuse d g τ h63 sp70.1 x kx 1 2 (by decide)) 0 0 (Nat.le_of_ble_eq_true rfl) (Nat.le_of_ble_eq_true rfl)) (fun r146 h145 q144 => ?_) (fun E h1 q => q.elim)
            obtain ⟨e147, he148, hs149, hr150, h3151⟩ := q144
            have sp152 : tw_sp d τ h g τ h145 := by rw [he148]; exact sp70.set kx (by decide) hs149
            rcases hr150 with ei153 | ⟨ei153, ei153b⟩
            · rw [ei153]
              refine tw_if_eq 70 dX10_road_65 (by decide) (fun c154 => absurd c154 (by decide)) (fun _ => ?_)
              refine tw_iconst (v := 0) dX10_road_68 (by decide) ?_
              exact tw_iret dX10_road_69 rfl (Or.inl ⟨_, rfl, sp152⟩)
            · exact absurd ei153b (by decide)
          · rw [q113r]
            refine tw_if_eq 56 dX10_road_42 (by decide) (fun c155 => absurd c155 (by decide)) (fun _ => ?_)
            refine tw_iload 4 dX10_road_45 rfl ?_
            refine tw_iconst (v := 0) dX10_road_47 (by decide) ?_
            refine tw_bipush (v := 100) dX10_road_48 (by decide) ?_
            refine tw_bi (tw_callS (M := mX10_road) (pc := 50) okX10_isIn dX10_road_50 w_1196 [.int fr, .int 0, .int 100] [.ref x] rfl rfl ⟨by decide, by decide⟩ (Nat.le_of_ble_eq_true rfl) (c_X10_isIn d g τ h63 sp70.1 fr 0 100) 0 0 (Nat.le_of_ble_eq_true rfl) (Nat.le_of_ble_eq_true rfl)) (fun r158 h157 q156 => ?_) (fun E h1 q => q.elim)
            obtain ⟨q156e, q156d⟩ := q156
            rw [q156e]
            rcases q156d with ⟨q156r, q156n⟩ | ⟨q156r, q156a, q156b⟩
            · rw [q156r]
              refine tw_if_ne 60 dX10_road_53 (by decide) (fun c159 => absurd (by decide) c159) (fun _ => ?_)
              refine tw_iconst (v := 1) dX10_road_56 (by decide) ?_
              refine tw_goto 61 dX10_road_57 (by decide) ?_
              refine tw_iconst (v := 2) dX10_road_61 (by decide) ?_
              obtain ⟨e160, f161, th_162, td_163, ds_164, fr_165, ca_166, us_167, wo_168, cm_169, lc_170, lh_171, ld_172, rfl, k173, k174, k175, k176, k177, k178, k179, k180, k181, k182, k183, k184, k185, k186⟩ := sp70.1 x 36 kx (by decide)
              refine tw_bi (tw_callV (M := mX10_road) (pc := 62) okX10_refuse dX10_road_62 w_1204 rfl f161 [.int 1, .int 2] [] rfl rfl ⟨by decide, by decide⟩ (Nat.le_of_ble_eq_true rfl) (c_X10_refuse d g τ h63 sp70.1 x kx 1 2 (by decide)) 0 0 (Nat.le_of_ble_eq_true rfl) (Nat.le_of_ble_eq_true rfl)) (fun r189 h188 q187 => ?_) (fun E h1 q => q.elim)
              obtain ⟨e190, he191, hs192, hr193, h3194⟩ := q187
              have sp195 : tw_sp d τ h g τ h188 := by rw [he191]; exact sp70.set kx (by decide) hs192
              rcases hr193 with ei196 | ⟨ei196, ei196b⟩
              · rw [ei196]
                refine tw_if_eq 70 dX10_road_65 (by decide) (fun c197 => absurd c197 (by decide)) (fun _ => ?_)
                refine tw_iconst (v := 0) dX10_road_68 (by decide) ?_
                exact tw_iret dX10_road_69 rfl (Or.inl ⟨_, rfl, sp195⟩)
              · exact absurd ei196b (by decide)
            · rw [q156r]
              refine tw_if_ne 60 dX10_road_53 (by decide) (fun _ => ?_) (fun c198 => absurd c198 (by decide))
              refine tw_iconst (v := 0) dX10_road_60 (by decide) ?_
              refine tw_iconst (v := 2) dX10_road_61 (by decide) ?_
              obtain ⟨e199, f200, th_201, td_202, ds_203, fr_204, ca_205, us_206, wo_207, cm_208, lc_209, lh_210, ld_211, rfl, k212, k213, k214, k215, k216, k217, k218, k219, k220, k221, k222, k223, k224, k225⟩ := sp70.1 x 36 kx (by decide)
              refine tw_bi (tw_callV (M := mX10_road) (pc := 62) okX10_refuse dX10_road_62 w_1204 rfl f200 [.int 0, .int 2] [] rfl rfl ⟨by decide, by decide⟩ (Nat.le_of_ble_eq_true rfl) (c_X10_refuse d g τ h63 sp70.1 x kx 0 2 (by decide)) 0 0 (Nat.le_of_ble_eq_true rfl) (Nat.le_of_ble_eq_true rfl)) (fun r228 h227 q226 => ?_) (fun E h1 q => q.elim)
              obtain ⟨e229, he230, hs231, hr232, h3233⟩ := q226
              have sp234 : tw_sp d τ h g τ h227 := by rw [he230]; exact sp70.set kx (by decide) hs231
              rcases hr232 with ei235 | ⟨ei235, ei235b⟩
              · rw [ei235]
                refine tw_if_eq 70 dX10_road_65 (by decide) (fun c236 => absurd c236 (by decide)) (fun _ => ?_)
                refine tw_iconst (v := 0) dX10_road_68 (by decide) ?_
                exact tw_iret dX10_road_69 rfl (Or.inl ⟨_, rfl, sp234⟩)
              · rw [ei235]
                refine tw_if_eq 70 dX10_road_65 (by decide) (fun _ => ?_) (fun c237 => absurd (by decide) c237)
                refine tw_aload_n 0 dX10_road_70 rfl rfl ?_
                obtain ⟨e238, f239, th_240, td_241, ds_242, fr_243, ca_244, us_245, wo_246, cm_247, lc_248, lh_249, ld_250, rfl, k251, k252, k253, k254, k255, k256, k257, k258, k259, k260, k261, k262, k263, k264⟩ := sp234.1 x 36 kx (by decide)
                refine tw_get (v := .ref ds_242) rfl in_14 3 dX10_road_71 w_1154 rfl (by decide) f239 rfl ?_
                refine tw_iload_n 1 dX10_road_74 rfl rfl ?_
                obtain ⟨e265, f266, F267, rfl, k268⟩ := sp234.1 ds_242 34 k251 (by decide)
                obtain ⟨q269, k270, k271⟩ := k268 ((nI j31)).toNatClampNeg (by rw [nI_clamp (by omega)]; omega)
                refine tw_aald (v := .ref q269) 8 rfl rfl dX10_road_75 f266 (vp_in_nI (by omega) (by decide)) (by rw [k270]; rfl) ?_
                refine tw_iload_n 2 dX10_road_76 rfl rfl ?_
                obtain ⟨e272, f273, F274, rfl⟩ := sp234.1 q269 6 k271 (by decide)
                obtain ⟨v275, ev275⟩ : ∃ y : Int32, F274 ((nI j48)).toNatClampNeg = y := ⟨_, rfl⟩
                refine tw_iald (v := v275) dX10_road_77 f273 (vp_in_nI (by omega) (by decide)) ev275 ?_
                refine tw_istore [(5, .int v275), (0, .ref x), (1, .int (nI j31)), (2, .int (nI j48)), (3, .int dy), (4, .int fr)] dX10_road_78 (by decide) rfl ?_
                refine tw_aload_n 1 dX10_road_80 rfl rfl ?_
                refine tw_get (v := .ref ds_242) rfl in_14 3 dX10_road_81 w_1154 rfl (by decide) f239 rfl ?_
                refine tw_iload_n 2 dX10_road_84 rfl rfl ?_
                obtain ⟨q276, k277, k278⟩ := k268 ((nI j31)).toNatClampNeg (by rw [nI_clamp (by omega)]; omega)
                refine tw_aald (v := .ref q276) 8 rfl rfl dX10_road_85 f266 (vp_in_nI (by omega) (by decide)) (by rw [k277]; rfl) ?_
                refine tw_iload_n 3 dX10_road_86 rfl rfl ?_
                refine tw_iload_n 4 dX10_road_87 rfl rfl ?_
                obtain ⟨e279, f280, F281, rfl⟩ := sp234.1 q276 6 k278 (by decide)
                refine tw_iast dX10_road_88 f280 (vp_in_nI (by omega) (by decide)) ?_
                obtain ⟨h282, eh282⟩ : ∃ z : tw_H, z = tw_up h227 q276 (.inl (d.2 0, 4, .inl (upd F281 ((nI j48)).toNatClampNeg dy))) := ⟨_, rfl⟩
                rw [← eh282]
                have sp283 : tw_sp d τ h g τ h282 := by rw [eh282]; exact sp234.set k278 (by decide) ⟨_, rfl⟩
                refine tw_aload_n 1 dX10_road_89 rfl rfl ?_
                obtain ⟨e284, f285, th_286, td_287, ds_288, fr_289, ca_290, us_291, wo_292, cm_293, lc_294, lh_295, ld_296, rfl, k297, k298, k299, k300, k301, k302, k303, k304, k305, k306, k307, k308, k309, k310⟩ := sp283.1 x 36 kx (by decide)
                refine tw_get (v := .ref ds_288) rfl in_14 3 dX10_road_90 w_1154 rfl (by decide) f285 rfl ?_
                refine tw_iload_n 3 dX10_road_93 rfl rfl ?_
                obtain ⟨e311, f312, F313, rfl, k314⟩ := sp283.1 ds_288 34 k297 (by decide)
                obtain ⟨q315, k316, k317⟩ := k314 ((nI j48)).toNatClampNeg (by rw [nI_clamp (by omega)]; omega)
                refine tw_aald (v := .ref q315) 8 rfl rfl dX10_road_94 f312 (vp_in_nI (by omega) (by decide)) (by rw [k316]; rfl) ?_
                refine tw_iload_n 2 dX10_road_95 rfl rfl ?_
                refine tw_iload_n 4 dX10_road_96 rfl rfl ?_
                obtain ⟨e318, f319, F320, rfl⟩ := sp283.1 q315 6 k317 (by decide)
                refine tw_iast dX10_road_97 f319 (vp_in_nI (by omega) (by decide)) ?_
                obtain ⟨h321, eh321⟩ : ∃ z : tw_H, z = tw_up h282 q315 (.inl (d.2 0, 4, .inl (upd F320 ((nI j31)).toNatClampNeg dy))) := ⟨_, rfl⟩
                rw [← eh321]
                have sp322 : tw_sp d τ h g τ h321 := by rw [eh321]; exact sp283.set k317 (by decide) ⟨_, rfl⟩
                refine tw_aload_n 1 dX10_road_98 rfl rfl ?_
                obtain ⟨e323, f324, th_325, td_326, ds_327, fr_328, ca_329, us_330, wo_331, cm_332, lc_333, lh_334, ld_335, rfl, k336, k337, k338, k339, k340, k341, k342, k343, k344, k345, k346, k347, k348, k349⟩ := sp322.1 x 36 kx (by decide)
                refine tw_get (v := .ref fr_328) rfl in_14 4 dX10_road_99 w_1155 rfl (by decide) f324 rfl ?_
                refine tw_iload_n 2 dX10_road_102 rfl rfl ?_
                obtain ⟨e350, f351, F352, rfl, k353⟩ := sp322.1 fr_328 34 k337 (by decide)
                obtain ⟨q354, k355, k356⟩ := k353 ((nI j31)).toNatClampNeg (by rw [nI_clamp (by omega)]; omega)
                refine tw_aald (v := .ref q354) 8 rfl rfl dX10_road_103 f351 (vp_in_nI (by omega) (by decide)) (by rw [k355]; rfl) ?_
                refine tw_iload_n 3 dX10_road_104 rfl rfl ?_
                refine tw_iload 5 dX10_road_105 rfl ?_
                obtain ⟨e357, f358, F359, rfl⟩ := sp322.1 q354 6 k356 (by decide)
                refine tw_iast dX10_road_107 f358 (vp_in_nI (by omega) (by decide)) ?_
                obtain ⟨h360, eh360⟩ : ∃ z : tw_H, z = tw_up h321 q354 (.inl (d.2 0, 4, .inl (upd F359 ((nI j48)).toNatClampNeg fr))) := ⟨_, rfl⟩
                rw [← eh360]
                have sp361 : tw_sp d τ h g τ h360 := by rw [eh360]; exact sp322.set k356 (by decide) ⟨_, rfl⟩
                refine tw_aload_n 1 dX10_road_108 rfl rfl ?_
                obtain ⟨e362, f363, th_364, td_365, ds_366, fr_367, ca_368, us_369, wo_370, cm_371, lc_372, lh_373, ld_374, rfl, k375, k376, k377, k378, k379, k380, k381, k382, k383, k384, k385, k386, k387, k388⟩ := sp361.1 x 36 kx (by decide)
                refine tw_get (v := .ref fr_367) rfl in_14 4 dX10_road_109 w_1155 rfl (by decide) f363 rfl ?_
                refine tw_iload_n 3 dX10_road_112 rfl rfl ?_
                obtain ⟨e389, f390, F391, rfl, k392⟩ := sp361.1 fr_367 34 k376 (by decide)
                obtain ⟨q393, k394, k395⟩ := k392 ((nI j48)).toNatClampNeg (by rw [nI_clamp (by omega)]; omega)
                refine tw_aald (v := .ref q393) 8 rfl rfl dX10_road_113 f390 (vp_in_nI (by omega) (by decide)) (by rw [k394]; rfl) ?_
                refine tw_iload_n 2 dX10_road_114 rfl rfl ?_
                refine tw_iload 5 dX10_road_115 rfl ?_
                obtain ⟨e396, f397, F398, rfl⟩ := sp361.1 q393 6 k395 (by decide)
                refine tw_iast dX10_road_117 f397 (vp_in_nI (by omega) (by decide)) ?_
                obtain ⟨h399, eh399⟩ : ∃ z : tw_H, z = tw_up h360 q393 (.inl (d.2 0, 4, .inl (upd F398 ((nI j31)).toNatClampNeg fr))) := ⟨_, rfl⟩
                rw [← eh399]
                have sp400 : tw_sp d τ h g τ h399 := by rw [eh399]; exact sp361.set k395 (by decide) ⟨_, rfl⟩
                refine tw_iload 0 dX10_road_118 rfl ?_
                exact tw_iret dX10_road_120 rfl (Or.inl ⟨_, rfl, sp400⟩)

set_option maxHeartbeats 4000000 in
set_option maxRecDepth 100000 in
theorem c_X10_mine (d : tw_D) (g : tw_G) (τ : tw_K) (h : tw_H) (hw : tw_wt d g τ h) (x : Nat) (kx : τ x = 36) (n : Int32) (m : Int32) (gr : Int32) : tw_Ct d mX10_mine 0 0 [.ref x, .int n, .int m, .int gr] h (tw_qi (fun r h1 => tw_sp d τ h g τ h1) tw_nx) := by
  refine tw_of (by decide +kernel) (Nat.le_of_ble_eq_true rfl) ?_
  show tw_W d mX10_mine _ 0 [(0, .ref x), (1, .int n), (2, .int m), (3, .int gr)] [] h 0 0
  have sp0 := tw_sp.rf hw
  refine tw_aload_n 0 dX10_mine_0 rfl rfl ?_
  refine tw_aload_n 0 dX10_mine_1 rfl rfl ?_
  refine tw_iload_n 1 dX10_mine_2 rfl rfl ?_
  obtain ⟨e1, f2, th_3, td_4, ds_5, fr_6, ca_7, us_8, wo_9, cm_10, lc_11, lh_12, ld_13, rfl, k14, k15, k16, k17, k18, k19, k20, k21, k22, k23, k24, k25, k26, k27⟩ := sp0.1 x 36 kx (by decide)
  refine tw_bi (tw_callV (M := mX10_mine) (pc := 3) okX10_isNoCountry dX10_mine_3 w_1292 rfl f2 [.int n] [.ref x] rfl rfl ⟨by decide, by decide⟩ (Nat.le_of_ble_eq_true rfl) (c_X10_isNoCountry d g τ h sp0.1 x kx n) 0 0 (Nat.le_of_ble_eq_true rfl) (Nat.le_of_ble_eq_true rfl)) (fun r30 h29 q28 => ?_) (fun E h1 q => q.elim)
  obtain ⟨q28e, q28d⟩ := q28
  rw [q28e]
  rcases q28d with q28r | ⟨q28r, j31, q28j, q28k⟩
  · rw [q28r]
    refine tw_iconst (v := 1) dX10_mine_6 (by decide) ?_
    refine tw_bi (tw_callV (M := mX10_mine) (pc := 7) okX10_start dX10_mine_7 w_1200 rfl f2 [.int 1, .int 1] [] rfl rfl ⟨by decide, by decide⟩ (Nat.le_of_ble_eq_true rfl) (c_X10_start d g τ h sp0.1 x kx 1 1 (by decide)) 0 0 (Nat.le_of_ble_eq_true rfl) (Nat.le_of_ble_eq_true rfl)) (fun r34 h33 q32 => ?_) (fun E h1 q => q.elim)
    obtain ⟨e35, he36, hs37, hr38, h339⟩ := q32
    have sp40 : tw_sp d τ h g τ h33 := by rw [he36]; exact sp0.set kx (by decide) hs37
    rcases hr38 with ei41 | ⟨ei41, ei41b⟩
    · rw [ei41]
      refine tw_if_ne 82 dX10_mine_10 (by decide) (fun _ => ?_) (fun c42 => absurd c42 (by decide))
      refine tw_iconst (v := 0) dX10_mine_82 (by decide) ?_
      exact tw_iret dX10_mine_83 rfl (Or.inl ⟨_, rfl, sp40⟩)
    · exact absurd ei41b (by decide)
  · rw [q28r]
    subst q28k
    refine tw_iconst (v := 1) dX10_mine_6 (by decide) ?_
    refine tw_bi (tw_callV (M := mX10_mine) (pc := 7) okX10_start dX10_mine_7 w_1200 rfl f2 [.int 0, .int 1] [] rfl rfl ⟨by decide, by decide⟩ (Nat.le_of_ble_eq_true rfl) (c_X10_start d g τ h sp0.1 x kx 0 1 (by decide)) 0 0 (Nat.le_of_ble_eq_true rfl) (Nat.le_of_ble_eq_true rfl)) (fun r45 h44 q43 => ?_) (fun E h1 q => q.elim)
    obtain ⟨e46, he47, hs48, hr49, h350⟩ := q43
    have sp51 : tw_sp d τ h g τ h44 := by rw [he47]; exact sp0.set kx (by decide) hs48
    rcases hr49 with ei52 | ⟨ei52, ei52b⟩
    · rw [ei52]
      refine tw_if_ne 82 dX10_mine_10 (by decide) (fun _ => ?_) (fun c53 => absurd c53 (by decide))
      refine tw_iconst (v := 0) dX10_mine_82 (by decide) ?_
      exact tw_iret dX10_mine_83 rfl (Or.inl ⟨_, rfl, sp51⟩)
    · rw [ei52]
      refine tw_if_ne 82 dX10_mine_10 (by decide) (fun c54 => absurd (by decide) c54) (fun _ => ?_)
      refine tw_aload_n 0 dX10_mine_13 rfl rfl ?_
      refine tw_iload_n 2 dX10_mine_14 rfl rfl ?_
      refine tw_bi (tw_callS (M := mX10_mine) (pc := 15) okX10_isNoMetal dX10_mine_15 w_1312 [.int m] [.ref x] rfl rfl ⟨by decide, by decide⟩ (Nat.le_of_ble_eq_true rfl) (c_X10_isNoMetal d g τ h44 sp51.1 m) 0 0 (Nat.le_of_ble_eq_true rfl) (Nat.le_of_ble_eq_true rfl)) (fun r57 h56 q55 => ?_) (fun E h1 q => q.elim)
      obtain ⟨q55e, q55d⟩ := q55
      rw [q55e]
      rcases q55d with q55r | ⟨q55r, q55m⟩
      · rw [q55r]
        refine tw_if_ne 31 dX10_mine_18 (by decide) (fun _ => ?_) (fun c58 => absurd c58 (by decide))
        refine tw_iconst (v := 1) dX10_mine_31 (by decide) ?_
        refine tw_goto 36 dX10_mine_32 (by decide) ?_
        refine tw_iconst (v := 2) dX10_mine_36 (by decide) ?_
        obtain ⟨e59, f60, th_61, td_62, ds_63, fr_64, ca_65, us_66, wo_67, cm_68, lc_69, lh_70, ld_71, rfl, k72, k73, k74, k75, k76, k77, k78, k79, k80, k81, k82, k83, k84, k85⟩ := sp51.1 x 36 kx (by decide)
        refine tw_bi (tw_callV (M := mX10_mine) (pc := 37) okX10_refuse dX10_mine_37 w_1204 rfl f60 [.int 1, .int 2] [] rfl rfl ⟨by decide, by decide⟩ (Nat.le_of_ble_eq_true rfl) (c_X10_refuse d g τ h44 sp51.1 x kx 1 2 (by decide)) 0 0 (Nat.le_of_ble_eq_true rfl) (Nat.le_of_ble_eq_true rfl)) (fun r88 h87 q86 => ?_) (fun E h1 q => q.elim)
        obtain ⟨e89, he90, hs91, hr92, h393⟩ := q86
        have sp94 : tw_sp d τ h g τ h87 := by rw [he90]; exact sp51.set kx (by decide) hs91
        rcases hr92 with ei95 | ⟨ei95, ei95b⟩
        · rw [ei95]
          refine tw_if_ne 82 dX10_mine_40 (by decide) (fun _ => ?_) (fun c96 => absurd c96 (by decide))
          refine tw_iconst (v := 0) dX10_mine_82 (by decide) ?_
          exact tw_iret dX10_mine_83 rfl (Or.inl ⟨_, rfl, sp94⟩)
        · exact absurd ei95b (by decide)
      · rw [q55r]
        refine tw_if_ne 31 dX10_mine_18 (by decide) (fun c97 => absurd (by decide) c97) (fun _ => ?_)
        refine tw_iload_n 3 dX10_mine_21 rfl rfl ?_
        refine tw_iconst (v := 1) dX10_mine_22 (by decide) ?_
        refine tw_ldc (v := 99999) dX10_mine_23 w_1199 ?_
        refine tw_bi (tw_callS (M := mX10_mine) (pc := 25) okX10_isIn dX10_mine_25 w_1196 [.int gr, .int 1, .int 99999] [.ref x] rfl rfl ⟨by decide, by decide⟩ (Nat.le_of_ble_eq_true rfl) (c_X10_isIn d g τ h44 sp51.1 gr 1 99999) 0 0 (Nat.le_of_ble_eq_true rfl) (Nat.le_of_ble_eq_true rfl)) (fun r100 h99 q98 => ?_) (fun E h1 q => q.elim)
        obtain ⟨q98e, q98d⟩ := q98
        rw [q98e]
        rcases q98d with ⟨q98r, q98n⟩ | ⟨q98r, q98a, q98b⟩
        · rw [q98r]
          refine tw_if_ne 35 dX10_mine_28 (by decide) (fun c101 => absurd (by decide) c101) (fun _ => ?_)
          refine tw_iconst (v := 1) dX10_mine_31 (by decide) ?_
          refine tw_goto 36 dX10_mine_32 (by decide) ?_
          refine tw_iconst (v := 2) dX10_mine_36 (by decide) ?_
          obtain ⟨e102, f103, th_104, td_105, ds_106, fr_107, ca_108, us_109, wo_110, cm_111, lc_112, lh_113, ld_114, rfl, k115, k116, k117, k118, k119, k120, k121, k122, k123, k124, k125, k126, k127, k128⟩ := sp51.1 x 36 kx (by decide)
          refine tw_bi (tw_callV (M := mX10_mine) (pc := 37) okX10_refuse dX10_mine_37 w_1204 rfl f103 [.int 1, .int 2] [] rfl rfl ⟨by decide, by decide⟩ (Nat.le_of_ble_eq_true rfl) (c_X10_refuse d g τ h44 sp51.1 x kx 1 2 (by decide)) 0 0 (Nat.le_of_ble_eq_true rfl) (Nat.le_of_ble_eq_true rfl)) (fun r131 h130 q129 => ?_) (fun E h1 q => q.elim)
          obtain ⟨e132, he133, hs134, hr135, h3136⟩ := q129
          have sp137 : tw_sp d τ h g τ h130 := by rw [he133]; exact sp51.set kx (by decide) hs134
          rcases hr135 with ei138 | ⟨ei138, ei138b⟩
          · rw [ei138]
            refine tw_if_ne 82 dX10_mine_40 (by decide) (fun _ => ?_) (fun c139 => absurd c139 (by decide))
            refine tw_iconst (v := 0) dX10_mine_82 (by decide) ?_
            exact tw_iret dX10_mine_83 rfl (Or.inl ⟨_, rfl, sp137⟩)
          · exact absurd ei138b (by decide)
        · rw [q98r]
          refine tw_if_ne 35 dX10_mine_28 (by decide) (fun _ => ?_) (fun c140 => absurd c140 (by decide))
          refine tw_iconst (v := 0) dX10_mine_35 (by decide) ?_
          refine tw_iconst (v := 2) dX10_mine_36 (by decide) ?_
          obtain ⟨e141, f142, th_143, td_144, ds_145, fr_146, ca_147, us_148, wo_149, cm_150, lc_151, lh_152, ld_153, rfl, k154, k155, k156, k157, k158, k159, k160, k161, k162, k163, k164, k165, k166, k167⟩ := sp51.1 x 36 kx (by decide)
          refine tw_bi (tw_callV (M := mX10_mine) (pc := 37) okX10_refuse dX10_mine_37 w_1204 rfl f142 [.int 0, .int 2] [] rfl rfl ⟨by decide, by decide⟩ (Nat.le_of_ble_eq_true rfl) (c_X10_refuse d g τ h44 sp51.1 x kx 0 2 (by decide)) 0 0 (Nat.le_of_ble_eq_true rfl) (Nat.le_of_ble_eq_true rfl)) (fun r170 h169 q168 => ?_) (fun E h1 q => q.elim)
          obtain ⟨e171, he172, hs173, hr174, h3175⟩ := q168
          have sp176 : tw_sp d τ h g τ h169 := by rw [he172]; exact sp51.set kx (by decide) hs173
          rcases hr174 with ei177 | ⟨ei177, ei177b⟩
          · rw [ei177]
            refine tw_if_ne 82 dX10_mine_40 (by decide) (fun _ => ?_) (fun c178 => absurd c178 (by decide))
            refine tw_iconst (v := 0) dX10_mine_82 (by decide) ?_
            exact tw_iret dX10_mine_83 rfl (Or.inl ⟨_, rfl, sp176⟩)
          · rw [ei177]
            refine tw_if_ne 82 dX10_mine_40 (by decide) (fun c179 => absurd (by decide) c179) (fun _ => ?_)
            refine tw_aload_n 0 dX10_mine_43 rfl rfl ?_
            refine tw_aload_n 0 dX10_mine_44 rfl rfl ?_
            obtain ⟨e180, f181, th_182, td_183, ds_184, fr_185, ca_186, us_187, wo_188, cm_189, lc_190, lh_191, ld_192, rfl, k193, k194, k195, k196, k197, k198, k199, k200, k201, k202, k203, k204, k205, k206⟩ := sp176.1 x 36 kx (by decide)
            refine tw_get (v := .ref lc_190) rfl in_14 9 dX10_mine_45 w_1160 rfl (by decide) f181 rfl ?_
            refine tw_iload_n 1 dX10_mine_48 rfl rfl ?_
            obtain ⟨e207, f208, ⟨el209, rfl, k210⟩, k211⟩ := sp176.1 lc_190 24 k199 (by decide)
            refine tw_br (tw_callV (M := mX10_mine) (pc := 49) okJx4a65c_get_915e3 dX10_mine_49 w_1296 rfl f208 [.int (nI j31)] [.ref x] rfl rfl ⟨by decide, by decide⟩ (Nat.le_of_ble_eq_true rfl) (c24_get d g τ h169 sp176.1 lc_190 k199 j31 (by omega) (by omega)) 0 0 (Nat.le_of_ble_eq_true rfl) (Nat.le_of_ble_eq_true rfl)) (fun r214 h213 q212 => ?_) (fun E h1 q => q.elim)
            obtain ⟨q212e, q212k⟩ := q212
            rw [q212e]
            have el215 : tw_el h169 (g.2 12) j31 = r214 := by rw [← k211]; exact q212k.2.symm
            have kl216 : τ (g.2 12) = 24 := by rw [← k211]; exact k199
            obtain ⟨e217, f218, r_219, c_220, v_221, o_222, t_223, rfl, k224, k225, k226, k227, k228⟩ := sp176.1 r214 21 q212k.1 (by decide)
            refine tw_castS (ci := 11) rfl dX10_mine_52 w_1212 f218 ?_
            refine tw_get (v := .ref v_221) rfl in_11 2 dX10_mine_55 w_1221 rfl (by decide) f218 rfl ?_
            refine tw_iload_n 2 dX10_mine_58 rfl rfl ?_
            obtain ⟨e229, f230, F231, rfl⟩ := sp176.1 v_221 31 k224 (by decide)
            obtain ⟨v232, ev232⟩ : ∃ y : Int64, F231 (m).toNatClampNeg = y := ⟨_, rfl⟩
            refine tw_lald (v := v232) dX10_mine_59 f230 (tw_in01 q55m (by decide)) ev232 ?_
            refine tw_iload_n 3 dX10_mine_60 rfl rfl ?_
            refine tw_i2l dX10_mine_61 ?_
            refine tw_nml (fun v233 ev233 => ?_)
            refine tw_ladd dX10_mine_62 ?_
            refine tw_nml (fun v234 ev234 => ?_)
            refine tw_ldc2 (v := 999999) dX10_mine_63 w_1327 ?_
            refine tw_lcmp dX10_mine_66 ?_
            refine tw_nmi (fun v235 ev235 => ?_)
            refine tw_if_le 74 dX10_mine_67 (by decide) (fun c236 => ?_) (fun c236 => ?_)
            · refine tw_iconst (v := 0) dX10_mine_74 (by decide) ?_
              refine tw_iconst (v := 3) dX10_mine_75 (by decide) ?_
              refine tw_bi (tw_callV (M := mX10_mine) (pc := 76) okX10_refuse dX10_mine_76 w_1204 rfl f181 [.int 0, .int 3] [] rfl rfl ⟨by decide, by decide⟩ (Nat.le_of_ble_eq_true rfl) (c_X10_refuse d g τ h169 sp176.1 x kx 0 3 (by decide)) 0 0 (Nat.le_of_ble_eq_true rfl) (Nat.le_of_ble_eq_true rfl)) (fun r239 h238 q237 => ?_) (fun E h1 q => q.elim)
              obtain ⟨e240, he241, hs242, hr243, h3244⟩ := q237
              have sp245 : tw_sp d τ h g τ h238 := by rw [he241]; exact sp176.set kx (by decide) hs242
              have f246 : h238 lc_190 = some (.inr (3, [.int (g.1 3), .ref el209, .int (nI (g.2 3))])) := by rw [he241, tw_up_n (fun q => absurd (k199) (by rw [q, kx]; decide))]; exact f208
              have f247 : h238 r214 = some (.inr (11, [.int r_219, .int c_220, .ref v_221, .ref o_222, .ref t_223])) := by rw [he241, tw_up_n (fun q => absurd (q212k.1) (by rw [q, kx]; decide))]; exact f218
              have f248 : h238 v_221 = some (.inl (d.2 1, 2, .inr (.inl F231))) := by rw [he241, tw_up_n (fun q => absurd (k224) (by rw [q, kx]; decide))]; exact f230
              have el249 : tw_el h238 (g.2 12) j31 = r214 := by rw [he241]; exact (tw_el24_up sp176.1 kl216 (by omega) (by rw [kx]; decide) (by rw [kx]; decide)).trans el215
              rcases hr243 with ei250 | ⟨ei250, ei250b⟩
              · rw [ei250]
                refine tw_if_eq 84 dX10_mine_79 (by decide) (fun c251 => absurd c251 (by decide)) (fun _ => ?_)
                refine tw_iconst (v := 0) dX10_mine_82 (by decide) ?_
                exact tw_iret dX10_mine_83 rfl (Or.inl ⟨_, rfl, sp245⟩)
              · rw [ei250]
                refine tw_if_eq 84 dX10_mine_79 (by decide) (fun _ => ?_) (fun c252 => absurd (by decide) c252)
                refine tw_aload_n 0 dX10_mine_84 rfl rfl ?_
                obtain ⟨e253, f254, th_255, td_256, ds_257, fr_258, ca_259, us_260, wo_261, cm_262, lc_263, lh_264, ld_265, rfl, k266, k267, k268, k269, k270, k271, k272, k273, k274, k275, k276, k277, k278, k279⟩ := sp245.1 x 36 kx (by decide)
                refine tw_get (v := .ref cm_262) rfl in_14 8 dX10_mine_85 w_1159 rfl (by decide) f254 rfl ?_
                refine tw_iload_n 2 dX10_mine_88 rfl rfl ?_
                refine tw_dup2 dX10_mine_89 rfl rfl ?_
                obtain ⟨e280, f281, F282, rfl⟩ := sp245.1 cm_262 31 k271 (by decide)
                obtain ⟨v283, ev283⟩ : ∃ y : Int64, F282 (m).toNatClampNeg = y := ⟨_, rfl⟩
                refine tw_lald (v := v283) dX10_mine_90 f281 (tw_in01 q55m (by decide)) ev283 ?_
                refine tw_iload_n 3 dX10_mine_91 rfl rfl ?_
                refine tw_i2l dX10_mine_92 ?_
                refine tw_nml (fun v284 ev284 => ?_)
                refine tw_ladd dX10_mine_93 ?_
                refine tw_nml (fun v285 ev285 => ?_)
                refine tw_last dX10_mine_94 f281 (tw_in01 q55m (by decide)) ?_
                obtain ⟨h286, eh286⟩ : ∃ z : tw_H, z = tw_up h238 cm_262 (.inl (d.2 1, 2, .inr (.inl (vp_updL F282 (m).toNatClampNeg v285)))) := ⟨_, rfl⟩
                rw [← eh286]
                have sp287 : tw_sp d τ h g τ h286 := by rw [eh286]; exact sp245.set k271 (by decide) ⟨_, rfl⟩
                refine tw_aload_n 0 dX10_mine_95 rfl rfl ?_
                obtain ⟨e288, f289, th_290, td_291, ds_292, fr_293, ca_294, us_295, wo_296, cm_297, lc_298, lh_299, ld_300, rfl, k301, k302, k303, k304, k305, k306, k307, k308, k309, k310, k311, k312, k313, k314⟩ := sp287.1 x 36 kx (by decide)
                refine tw_get (v := .ref lc_298) rfl in_14 9 dX10_mine_96 w_1160 rfl (by decide) f289 rfl ?_
                refine tw_iload_n 1 dX10_mine_99 rfl rfl ?_
                obtain ⟨e315, f316, ⟨el317, rfl, k318⟩, k319⟩ := sp287.1 lc_298 24 k307 (by decide)
                refine tw_br (tw_callV (M := mX10_mine) (pc := 100) okJx4a65c_get_915e3 dX10_mine_100 w_1296 rfl f316 [.int (nI j31)] [] rfl rfl ⟨by decide, by decide⟩ (Nat.le_of_ble_eq_true rfl) (c24_get d g τ h286 sp287.1 lc_298 k307 j31 (by omega) (by omega)) 0 0 (Nat.le_of_ble_eq_true rfl) (Nat.le_of_ble_eq_true rfl)) (fun r322 h321 q320 => ?_) (fun E h1 q => q.elim)
                obtain ⟨q320e, q320k⟩ := q320
                rw [q320e]
                have el323 : tw_el h286 (g.2 12) j31 = r322 := by rw [← k319]; exact q320k.2.symm
                have kl324 : τ (g.2 12) = 24 := by rw [← k319]; exact k307
                obtain ⟨e325, f326, r_327, c_328, v_329, o_330, t_331, rfl, k332, k333, k334, k335, k336⟩ := sp287.1 r322 21 q320k.1 (by decide)
                refine tw_castS (ci := 11) rfl dX10_mine_103 w_1212 f326 ?_
                refine tw_get (v := .ref v_329) rfl in_11 2 dX10_mine_106 w_1221 rfl (by decide) f326 rfl ?_
                refine tw_iload_n 2 dX10_mine_109 rfl rfl ?_
                refine tw_dup2 dX10_mine_110 rfl rfl ?_
                obtain ⟨e337, f338, F339, rfl⟩ := sp287.1 v_329 31 k332 (by decide)
                obtain ⟨v340, ev340⟩ : ∃ y : Int64, F339 (m).toNatClampNeg = y := ⟨_, rfl⟩
                refine tw_lald (v := v340) dX10_mine_111 f338 (tw_in01 q55m (by decide)) ev340 ?_
                refine tw_iload_n 3 dX10_mine_112 rfl rfl ?_
                refine tw_i2l dX10_mine_113 ?_
                refine tw_nml (fun v341 ev341 => ?_)
                refine tw_ladd dX10_mine_114 ?_
                refine tw_nml (fun v342 ev342 => ?_)
                refine tw_last dX10_mine_115 f338 (tw_in01 q55m (by decide)) ?_
                obtain ⟨h343, eh343⟩ : ∃ z : tw_H, z = tw_up h286 v_329 (.inl (d.2 1, 2, .inr (.inl (vp_updL F339 (m).toNatClampNeg v342)))) := ⟨_, rfl⟩
                rw [← eh343]
                have sp344 : tw_sp d τ h g τ h343 := by rw [eh343]; exact sp287.set k332 (by decide) ⟨_, rfl⟩
                refine tw_aload_n 0 dX10_mine_116 rfl rfl ?_
                obtain ⟨e345, f346, th_347, td_348, ds_349, fr_350, ca_351, us_352, wo_353, cm_354, lc_355, lh_356, ld_357, rfl, k358, k359, k360, k361, k362, k363, k364, k365, k366, k367, k368, k369, k370, k371⟩ := sp344.1 x 36 kx (by decide)
                refine tw_get (v := .ref lc_355) rfl in_14 9 dX10_mine_117 w_1160 rfl (by decide) f346 rfl ?_
                refine tw_iload_n 1 dX10_mine_120 rfl rfl ?_
                obtain ⟨e372, f373, ⟨el374, rfl, k375⟩, k376⟩ := sp344.1 lc_355 24 k364 (by decide)
                refine tw_br (tw_callV (M := mX10_mine) (pc := 121) okJx4a65c_get_915e3 dX10_mine_121 w_1296 rfl f373 [.int (nI j31)] [] rfl rfl ⟨by decide, by decide⟩ (Nat.le_of_ble_eq_true rfl) (c24_get d g τ h343 sp344.1 lc_355 k364 j31 (by omega) (by omega)) 0 0 (Nat.le_of_ble_eq_true rfl) (Nat.le_of_ble_eq_true rfl)) (fun r379 h378 q377 => ?_) (fun E h1 q => q.elim)
                obtain ⟨q377e, q377k⟩ := q377
                rw [q377e]
                have el380 : tw_el h343 (g.2 12) j31 = r379 := by rw [← k376]; exact q377k.2.symm
                have kl381 : τ (g.2 12) = 24 := by rw [← k376]; exact k364
                obtain ⟨e382, f383, r_384, c_385, v_386, o_387, t_388, rfl, k389, k390, k391, k392, k393⟩ := sp344.1 r379 21 q377k.1 (by decide)
                refine tw_castS (ci := 11) rfl dX10_mine_124 w_1212 f383 ?_
                refine tw_get (v := .ref v_386) rfl in_11 2 dX10_mine_127 w_1221 rfl (by decide) f383 rfl ?_
                refine tw_iload_n 2 dX10_mine_130 rfl rfl ?_
                obtain ⟨e394, f395, F396, rfl⟩ := sp344.1 v_386 31 k389 (by decide)
                obtain ⟨v397, ev397⟩ : ∃ y : Int64, F396 (m).toNatClampNeg = y := ⟨_, rfl⟩
                refine tw_lald (v := v397) dX10_mine_131 f395 (tw_in01 q55m (by decide)) ev397 ?_
                refine tw_l2i dX10_mine_132 ?_
                refine tw_nmi (fun v398 ev398 => ?_)
                exact tw_iret dX10_mine_133 rfl (Or.inl ⟨_, rfl, sp344⟩)
            · refine tw_iconst (v := 1) dX10_mine_70 (by decide) ?_
              refine tw_goto 75 dX10_mine_71 (by decide) ?_
              refine tw_iconst (v := 3) dX10_mine_75 (by decide) ?_
              refine tw_bi (tw_callV (M := mX10_mine) (pc := 76) okX10_refuse dX10_mine_76 w_1204 rfl f181 [.int 1, .int 3] [] rfl rfl ⟨by decide, by decide⟩ (Nat.le_of_ble_eq_true rfl) (c_X10_refuse d g τ h169 sp176.1 x kx 1 3 (by decide)) 0 0 (Nat.le_of_ble_eq_true rfl) (Nat.le_of_ble_eq_true rfl)) (fun r401 h400 q399 => ?_) (fun E h1 q => q.elim)
              obtain ⟨e402, he403, hs404, hr405, h3406⟩ := q399
              have sp407 : tw_sp d τ h g τ h400 := by rw [he403]; exact sp176.set kx (by decide) hs404
              have f408 : h400 lc_190 = some (.inr (3, [.int (g.1 3), .ref el209, .int (nI (g.2 3))])) := by rw [he403, tw_up_n (fun q => absurd (k199) (by rw [q, kx]; decide))]; exact f208
              have f409 : h400 r214 = some (.inr (11, [.int r_219, .int c_220, .ref v_221, .ref o_222, .ref t_223])) := by rw [he403, tw_up_n (fun q => absurd (q212k.1) (by rw [q, kx]; decide))]; exact f218
              have f410 : h400 v_221 = some (.inl (d.2 1, 2, .inr (.inl F231))) := by rw [he403, tw_up_n (fun q => absurd (k224) (by rw [q, kx]; decide))]; exact f230
              have el411 : tw_el h400 (g.2 12) j31 = r214 := by rw [he403]; exact (tw_el24_up sp176.1 kl216 (by omega) (by rw [kx]; decide) (by rw [kx]; decide)).trans el215
              rcases hr405 with ei412 | ⟨ei412, ei412b⟩
              · rw [ei412]
                refine tw_if_eq 84 dX10_mine_79 (by decide) (fun c413 => absurd c413 (by decide)) (fun _ => ?_)
                refine tw_iconst (v := 0) dX10_mine_82 (by decide) ?_
                exact tw_iret dX10_mine_83 rfl (Or.inl ⟨_, rfl, sp407⟩)
              · exact absurd ei412b (by decide)

set_option maxHeartbeats 4000000 in
set_option maxRecDepth 100000 in
theorem c_X10_use (d : tw_D) (g : tw_G) (τ : tw_K) (h : tw_H) (hw : tw_wt d g τ h) (x : Nat) (kx : τ x = 36) (n : Int32) (m : Int32) (gr : Int32) : tw_Ct d mX10_use 0 0 [.ref x, .int n, .int m, .int gr] h (tw_qi (fun r h1 => tw_sp d τ h g τ h1) tw_nx) := by
  refine tw_of (by decide +kernel) (Nat.le_of_ble_eq_true rfl) ?_
  show tw_W d mX10_use _ 0 [(0, .ref x), (1, .int n), (2, .int m), (3, .int gr)] [] h 0 0
  have sp0 := tw_sp.rf hw
  refine tw_aload_n 0 dX10_use_0 rfl rfl ?_
  refine tw_aload_n 0 dX10_use_1 rfl rfl ?_
  refine tw_iload_n 1 dX10_use_2 rfl rfl ?_
  obtain ⟨e1, f2, th_3, td_4, ds_5, fr_6, ca_7, us_8, wo_9, cm_10, lc_11, lh_12, ld_13, rfl, k14, k15, k16, k17, k18, k19, k20, k21, k22, k23, k24, k25, k26, k27⟩ := sp0.1 x 36 kx (by decide)
  refine tw_bi (tw_callV (M := mX10_use) (pc := 3) okX10_isNoCountry dX10_use_3 w_1292 rfl f2 [.int n] [.ref x] rfl rfl ⟨by decide, by decide⟩ (Nat.le_of_ble_eq_true rfl) (c_X10_isNoCountry d g τ h sp0.1 x kx n) 0 0 (Nat.le_of_ble_eq_true rfl) (Nat.le_of_ble_eq_true rfl)) (fun r30 h29 q28 => ?_) (fun E h1 q => q.elim)
  obtain ⟨q28e, q28d⟩ := q28
  rw [q28e]
  rcases q28d with q28r | ⟨q28r, j31, q28j, q28k⟩
  · rw [q28r]
    refine tw_iconst (v := 1) dX10_use_6 (by decide) ?_
    refine tw_bi (tw_callV (M := mX10_use) (pc := 7) okX10_start dX10_use_7 w_1200 rfl f2 [.int 1, .int 1] [] rfl rfl ⟨by decide, by decide⟩ (Nat.le_of_ble_eq_true rfl) (c_X10_start d g τ h sp0.1 x kx 1 1 (by decide)) 0 0 (Nat.le_of_ble_eq_true rfl) (Nat.le_of_ble_eq_true rfl)) (fun r34 h33 q32 => ?_) (fun E h1 q => q.elim)
    obtain ⟨e35, he36, hs37, hr38, h339⟩ := q32
    have sp40 : tw_sp d τ h g τ h33 := by rw [he36]; exact sp0.set kx (by decide) hs37
    rcases hr38 with ei41 | ⟨ei41, ei41b⟩
    · rw [ei41]
      refine tw_if_ne 78 dX10_use_10 (by decide) (fun _ => ?_) (fun c42 => absurd c42 (by decide))
      refine tw_iconst (v := 0) dX10_use_78 (by decide) ?_
      exact tw_iret dX10_use_79 rfl (Or.inl ⟨_, rfl, sp40⟩)
    · exact absurd ei41b (by decide)
  · rw [q28r]
    subst q28k
    refine tw_iconst (v := 1) dX10_use_6 (by decide) ?_
    refine tw_bi (tw_callV (M := mX10_use) (pc := 7) okX10_start dX10_use_7 w_1200 rfl f2 [.int 0, .int 1] [] rfl rfl ⟨by decide, by decide⟩ (Nat.le_of_ble_eq_true rfl) (c_X10_start d g τ h sp0.1 x kx 0 1 (by decide)) 0 0 (Nat.le_of_ble_eq_true rfl) (Nat.le_of_ble_eq_true rfl)) (fun r45 h44 q43 => ?_) (fun E h1 q => q.elim)
    obtain ⟨e46, he47, hs48, hr49, h350⟩ := q43
    have sp51 : tw_sp d τ h g τ h44 := by rw [he47]; exact sp0.set kx (by decide) hs48
    rcases hr49 with ei52 | ⟨ei52, ei52b⟩
    · rw [ei52]
      refine tw_if_ne 78 dX10_use_10 (by decide) (fun _ => ?_) (fun c53 => absurd c53 (by decide))
      refine tw_iconst (v := 0) dX10_use_78 (by decide) ?_
      exact tw_iret dX10_use_79 rfl (Or.inl ⟨_, rfl, sp51⟩)
    · rw [ei52]
      refine tw_if_ne 78 dX10_use_10 (by decide) (fun c54 => absurd (by decide) c54) (fun _ => ?_)
      refine tw_aload_n 0 dX10_use_13 rfl rfl ?_
      refine tw_iload_n 2 dX10_use_14 rfl rfl ?_
      refine tw_bi (tw_callS (M := mX10_use) (pc := 15) okX10_isNoMetal dX10_use_15 w_1312 [.int m] [.ref x] rfl rfl ⟨by decide, by decide⟩ (Nat.le_of_ble_eq_true rfl) (c_X10_isNoMetal d g τ h44 sp51.1 m) 0 0 (Nat.le_of_ble_eq_true rfl) (Nat.le_of_ble_eq_true rfl)) (fun r57 h56 q55 => ?_) (fun E h1 q => q.elim)
      obtain ⟨q55e, q55d⟩ := q55
      rw [q55e]
      rcases q55d with q55r | ⟨q55r, q55m⟩
      · rw [q55r]
        refine tw_if_ne 31 dX10_use_18 (by decide) (fun _ => ?_) (fun c58 => absurd c58 (by decide))
        refine tw_iconst (v := 1) dX10_use_31 (by decide) ?_
        refine tw_goto 36 dX10_use_32 (by decide) ?_
        refine tw_iconst (v := 2) dX10_use_36 (by decide) ?_
        obtain ⟨e59, f60, th_61, td_62, ds_63, fr_64, ca_65, us_66, wo_67, cm_68, lc_69, lh_70, ld_71, rfl, k72, k73, k74, k75, k76, k77, k78, k79, k80, k81, k82, k83, k84, k85⟩ := sp51.1 x 36 kx (by decide)
        refine tw_bi (tw_callV (M := mX10_use) (pc := 37) okX10_refuse dX10_use_37 w_1204 rfl f60 [.int 1, .int 2] [] rfl rfl ⟨by decide, by decide⟩ (Nat.le_of_ble_eq_true rfl) (c_X10_refuse d g τ h44 sp51.1 x kx 1 2 (by decide)) 0 0 (Nat.le_of_ble_eq_true rfl) (Nat.le_of_ble_eq_true rfl)) (fun r88 h87 q86 => ?_) (fun E h1 q => q.elim)
        obtain ⟨e89, he90, hs91, hr92, h393⟩ := q86
        have sp94 : tw_sp d τ h g τ h87 := by rw [he90]; exact sp51.set kx (by decide) hs91
        rcases hr92 with ei95 | ⟨ei95, ei95b⟩
        · rw [ei95]
          refine tw_if_ne 78 dX10_use_40 (by decide) (fun _ => ?_) (fun c96 => absurd c96 (by decide))
          refine tw_iconst (v := 0) dX10_use_78 (by decide) ?_
          exact tw_iret dX10_use_79 rfl (Or.inl ⟨_, rfl, sp94⟩)
        · exact absurd ei95b (by decide)
      · rw [q55r]
        refine tw_if_ne 31 dX10_use_18 (by decide) (fun c97 => absurd (by decide) c97) (fun _ => ?_)
        refine tw_iload_n 3 dX10_use_21 rfl rfl ?_
        refine tw_iconst (v := 1) dX10_use_22 (by decide) ?_
        refine tw_ldc (v := 99999) dX10_use_23 w_1199 ?_
        refine tw_bi (tw_callS (M := mX10_use) (pc := 25) okX10_isIn dX10_use_25 w_1196 [.int gr, .int 1, .int 99999] [.ref x] rfl rfl ⟨by decide, by decide⟩ (Nat.le_of_ble_eq_true rfl) (c_X10_isIn d g τ h44 sp51.1 gr 1 99999) 0 0 (Nat.le_of_ble_eq_true rfl) (Nat.le_of_ble_eq_true rfl)) (fun r100 h99 q98 => ?_) (fun E h1 q => q.elim)
        obtain ⟨q98e, q98d⟩ := q98
        rw [q98e]
        rcases q98d with ⟨q98r, q98n⟩ | ⟨q98r, q98a, q98b⟩
        · rw [q98r]
          refine tw_if_ne 35 dX10_use_28 (by decide) (fun c101 => absurd (by decide) c101) (fun _ => ?_)
          refine tw_iconst (v := 1) dX10_use_31 (by decide) ?_
          refine tw_goto 36 dX10_use_32 (by decide) ?_
          refine tw_iconst (v := 2) dX10_use_36 (by decide) ?_
          obtain ⟨e102, f103, th_104, td_105, ds_106, fr_107, ca_108, us_109, wo_110, cm_111, lc_112, lh_113, ld_114, rfl, k115, k116, k117, k118, k119, k120, k121, k122, k123, k124, k125, k126, k127, k128⟩ := sp51.1 x 36 kx (by decide)
          refine tw_bi (tw_callV (M := mX10_use) (pc := 37) okX10_refuse dX10_use_37 w_1204 rfl f103 [.int 1, .int 2] [] rfl rfl ⟨by decide, by decide⟩ (Nat.le_of_ble_eq_true rfl) (c_X10_refuse d g τ h44 sp51.1 x kx 1 2 (by decide)) 0 0 (Nat.le_of_ble_eq_true rfl) (Nat.le_of_ble_eq_true rfl)) (fun r131 h130 q129 => ?_) (fun E h1 q => q.elim)
          obtain ⟨e132, he133, hs134, hr135, h3136⟩ := q129
          have sp137 : tw_sp d τ h g τ h130 := by rw [he133]; exact sp51.set kx (by decide) hs134
          rcases hr135 with ei138 | ⟨ei138, ei138b⟩
          · rw [ei138]
            refine tw_if_ne 78 dX10_use_40 (by decide) (fun _ => ?_) (fun c139 => absurd c139 (by decide))
            refine tw_iconst (v := 0) dX10_use_78 (by decide) ?_
            exact tw_iret dX10_use_79 rfl (Or.inl ⟨_, rfl, sp137⟩)
          · exact absurd ei138b (by decide)
        · rw [q98r]
          refine tw_if_ne 35 dX10_use_28 (by decide) (fun _ => ?_) (fun c140 => absurd c140 (by decide))
          refine tw_iconst (v := 0) dX10_use_35 (by decide) ?_
          refine tw_iconst (v := 2) dX10_use_36 (by decide) ?_
          obtain ⟨e141, f142, th_143, td_144, ds_145, fr_146, ca_147, us_148, wo_149, cm_150, lc_151, lh_152, ld_153, rfl, k154, k155, k156, k157, k158, k159, k160, k161, k162, k163, k164, k165, k166, k167⟩ := sp51.1 x 36 kx (by decide)
          refine tw_bi (tw_callV (M := mX10_use) (pc := 37) okX10_refuse dX10_use_37 w_1204 rfl f142 [.int 0, .int 2] [] rfl rfl ⟨by decide, by decide⟩ (Nat.le_of_ble_eq_true rfl) (c_X10_refuse d g τ h44 sp51.1 x kx 0 2 (by decide)) 0 0 (Nat.le_of_ble_eq_true rfl) (Nat.le_of_ble_eq_true rfl)) (fun r170 h169 q168 => ?_) (fun E h1 q => q.elim)
          obtain ⟨e171, he172, hs173, hr174, h3175⟩ := q168
          have sp176 : tw_sp d τ h g τ h169 := by rw [he172]; exact sp51.set kx (by decide) hs173
          rcases hr174 with ei177 | ⟨ei177, ei177b⟩
          · rw [ei177]
            refine tw_if_ne 78 dX10_use_40 (by decide) (fun _ => ?_) (fun c178 => absurd c178 (by decide))
            refine tw_iconst (v := 0) dX10_use_78 (by decide) ?_
            exact tw_iret dX10_use_79 rfl (Or.inl ⟨_, rfl, sp176⟩)
          · rw [ei177]
            refine tw_if_ne 78 dX10_use_40 (by decide) (fun c179 => absurd (by decide) c179) (fun _ => ?_)
            refine tw_aload_n 0 dX10_use_43 rfl rfl ?_
            refine tw_aload_n 0 dX10_use_44 rfl rfl ?_
            obtain ⟨e180, f181, th_182, td_183, ds_184, fr_185, ca_186, us_187, wo_188, cm_189, lc_190, lh_191, ld_192, rfl, k193, k194, k195, k196, k197, k198, k199, k200, k201, k202, k203, k204, k205, k206⟩ := sp176.1 x 36 kx (by decide)
            refine tw_get (v := .ref lc_190) rfl in_14 9 dX10_use_45 w_1160 rfl (by decide) f181 rfl ?_
            refine tw_iload_n 1 dX10_use_48 rfl rfl ?_
            obtain ⟨e207, f208, ⟨el209, rfl, k210⟩, k211⟩ := sp176.1 lc_190 24 k199 (by decide)
            refine tw_br (tw_callV (M := mX10_use) (pc := 49) okJx4a65c_get_915e3 dX10_use_49 w_1296 rfl f208 [.int (nI j31)] [.ref x] rfl rfl ⟨by decide, by decide⟩ (Nat.le_of_ble_eq_true rfl) (c24_get d g τ h169 sp176.1 lc_190 k199 j31 (by omega) (by omega)) 0 0 (Nat.le_of_ble_eq_true rfl) (Nat.le_of_ble_eq_true rfl)) (fun r214 h213 q212 => ?_) (fun E h1 q => q.elim)
            obtain ⟨q212e, q212k⟩ := q212
            rw [q212e]
            have el215 : tw_el h169 (g.2 12) j31 = r214 := by rw [← k211]; exact q212k.2.symm
            have kl216 : τ (g.2 12) = 24 := by rw [← k211]; exact k199
            obtain ⟨e217, f218, r_219, c_220, v_221, o_222, t_223, rfl, k224, k225, k226, k227, k228⟩ := sp176.1 r214 21 q212k.1 (by decide)
            refine tw_castS (ci := 11) rfl dX10_use_52 w_1212 f218 ?_
            refine tw_get (v := .ref v_221) rfl in_11 2 dX10_use_55 w_1221 rfl (by decide) f218 rfl ?_
            refine tw_iload_n 2 dX10_use_58 rfl rfl ?_
            obtain ⟨e229, f230, F231, rfl⟩ := sp176.1 v_221 31 k224 (by decide)
            obtain ⟨v232, ev232⟩ : ∃ y : Int64, F231 (m).toNatClampNeg = y := ⟨_, rfl⟩
            refine tw_lald (v := v232) dX10_use_59 f230 (tw_in01 q55m (by decide)) ev232 ?_
            refine tw_iload_n 3 dX10_use_60 rfl rfl ?_
            refine tw_i2l dX10_use_61 ?_
            refine tw_nml (fun v233 ev233 => ?_)
            refine tw_lcmp dX10_use_62 ?_
            refine tw_nmi (fun v234 ev234 => ?_)
            refine tw_if_ge 70 dX10_use_63 (by decide) (fun c235 => ?_) (fun c235 => ?_)
            · refine tw_iconst (v := 0) dX10_use_70 (by decide) ?_
              refine tw_iconst (v := 3) dX10_use_71 (by decide) ?_
              refine tw_bi (tw_callV (M := mX10_use) (pc := 72) okX10_refuse dX10_use_72 w_1204 rfl f181 [.int 0, .int 3] [] rfl rfl ⟨by decide, by decide⟩ (Nat.le_of_ble_eq_true rfl) (c_X10_refuse d g τ h169 sp176.1 x kx 0 3 (by decide)) 0 0 (Nat.le_of_ble_eq_true rfl) (Nat.le_of_ble_eq_true rfl)) (fun r238 h237 q236 => ?_) (fun E h1 q => q.elim)
              obtain ⟨e239, he240, hs241, hr242, h3243⟩ := q236
              have sp244 : tw_sp d τ h g τ h237 := by rw [he240]; exact sp176.set kx (by decide) hs241
              have f245 : h237 lc_190 = some (.inr (3, [.int (g.1 3), .ref el209, .int (nI (g.2 3))])) := by rw [he240, tw_up_n (fun q => absurd (k199) (by rw [q, kx]; decide))]; exact f208
              have f246 : h237 r214 = some (.inr (11, [.int r_219, .int c_220, .ref v_221, .ref o_222, .ref t_223])) := by rw [he240, tw_up_n (fun q => absurd (q212k.1) (by rw [q, kx]; decide))]; exact f218
              have f247 : h237 v_221 = some (.inl (d.2 1, 2, .inr (.inl F231))) := by rw [he240, tw_up_n (fun q => absurd (k224) (by rw [q, kx]; decide))]; exact f230
              have el248 : tw_el h237 (g.2 12) j31 = r214 := by rw [he240]; exact (tw_el24_up sp176.1 kl216 (by omega) (by rw [kx]; decide) (by rw [kx]; decide)).trans el215
              rcases hr242 with ei249 | ⟨ei249, ei249b⟩
              · rw [ei249]
                refine tw_if_eq 80 dX10_use_75 (by decide) (fun c250 => absurd c250 (by decide)) (fun _ => ?_)
                refine tw_iconst (v := 0) dX10_use_78 (by decide) ?_
                exact tw_iret dX10_use_79 rfl (Or.inl ⟨_, rfl, sp244⟩)
              · rw [ei249]
                refine tw_if_eq 80 dX10_use_75 (by decide) (fun _ => ?_) (fun c251 => absurd (by decide) c251)
                refine tw_aload_n 0 dX10_use_80 rfl rfl ?_
                obtain ⟨e252, f253, th_254, td_255, ds_256, fr_257, ca_258, us_259, wo_260, cm_261, lc_262, lh_263, ld_264, rfl, k265, k266, k267, k268, k269, k270, k271, k272, k273, k274, k275, k276, k277, k278⟩ := sp244.1 x 36 kx (by decide)
                refine tw_get (v := .ref us_259) rfl in_14 6 dX10_use_81 w_1157 rfl (by decide) f253 rfl ?_
                refine tw_iload_n 2 dX10_use_84 rfl rfl ?_
                refine tw_dup2 dX10_use_85 rfl rfl ?_
                obtain ⟨e279, f280, F281, rfl⟩ := sp244.1 us_259 31 k268 (by decide)
                obtain ⟨v282, ev282⟩ : ∃ y : Int64, F281 (m).toNatClampNeg = y := ⟨_, rfl⟩
                refine tw_lald (v := v282) dX10_use_86 f280 (tw_in01 q55m (by decide)) ev282 ?_
                refine tw_iload_n 3 dX10_use_87 rfl rfl ?_
                refine tw_i2l dX10_use_88 ?_
                refine tw_nml (fun v283 ev283 => ?_)
                refine tw_ladd dX10_use_89 ?_
                refine tw_nml (fun v284 ev284 => ?_)
                refine tw_last dX10_use_90 f280 (tw_in01 q55m (by decide)) ?_
                obtain ⟨h285, eh285⟩ : ∃ z : tw_H, z = tw_up h237 us_259 (.inl (d.2 1, 2, .inr (.inl (vp_updL F281 (m).toNatClampNeg v284)))) := ⟨_, rfl⟩
                rw [← eh285]
                have sp286 : tw_sp d τ h g τ h285 := by rw [eh285]; exact sp244.set k268 (by decide) ⟨_, rfl⟩
                refine tw_aload_n 0 dX10_use_91 rfl rfl ?_
                obtain ⟨e287, f288, th_289, td_290, ds_291, fr_292, ca_293, us_294, wo_295, cm_296, lc_297, lh_298, ld_299, rfl, k300, k301, k302, k303, k304, k305, k306, k307, k308, k309, k310, k311, k312, k313⟩ := sp286.1 x 36 kx (by decide)
                refine tw_get (v := .ref lc_297) rfl in_14 9 dX10_use_92 w_1160 rfl (by decide) f288 rfl ?_
                refine tw_iload_n 1 dX10_use_95 rfl rfl ?_
                obtain ⟨e314, f315, ⟨el316, rfl, k317⟩, k318⟩ := sp286.1 lc_297 24 k306 (by decide)
                refine tw_br (tw_callV (M := mX10_use) (pc := 96) okJx4a65c_get_915e3 dX10_use_96 w_1296 rfl f315 [.int (nI j31)] [] rfl rfl ⟨by decide, by decide⟩ (Nat.le_of_ble_eq_true rfl) (c24_get d g τ h285 sp286.1 lc_297 k306 j31 (by omega) (by omega)) 0 0 (Nat.le_of_ble_eq_true rfl) (Nat.le_of_ble_eq_true rfl)) (fun r321 h320 q319 => ?_) (fun E h1 q => q.elim)
                obtain ⟨q319e, q319k⟩ := q319
                rw [q319e]
                have el322 : tw_el h285 (g.2 12) j31 = r321 := by rw [← k318]; exact q319k.2.symm
                have kl323 : τ (g.2 12) = 24 := by rw [← k318]; exact k306
                obtain ⟨e324, f325, r_326, c_327, v_328, o_329, t_330, rfl, k331, k332, k333, k334, k335⟩ := sp286.1 r321 21 q319k.1 (by decide)
                refine tw_castS (ci := 11) rfl dX10_use_99 w_1212 f325 ?_
                refine tw_get (v := .ref v_328) rfl in_11 2 dX10_use_102 w_1221 rfl (by decide) f325 rfl ?_
                refine tw_iload_n 2 dX10_use_105 rfl rfl ?_
                refine tw_dup2 dX10_use_106 rfl rfl ?_
                obtain ⟨e336, f337, F338, rfl⟩ := sp286.1 v_328 31 k331 (by decide)
                obtain ⟨v339, ev339⟩ : ∃ y : Int64, F338 (m).toNatClampNeg = y := ⟨_, rfl⟩
                refine tw_lald (v := v339) dX10_use_107 f337 (tw_in01 q55m (by decide)) ev339 ?_
                refine tw_iload_n 3 dX10_use_108 rfl rfl ?_
                refine tw_i2l dX10_use_109 ?_
                refine tw_nml (fun v340 ev340 => ?_)
                refine tw_lsub dX10_use_110 ?_
                refine tw_nml (fun v341 ev341 => ?_)
                refine tw_last dX10_use_111 f337 (tw_in01 q55m (by decide)) ?_
                obtain ⟨h342, eh342⟩ : ∃ z : tw_H, z = tw_up h285 v_328 (.inl (d.2 1, 2, .inr (.inl (vp_updL F338 (m).toNatClampNeg v341)))) := ⟨_, rfl⟩
                rw [← eh342]
                have sp343 : tw_sp d τ h g τ h342 := by rw [eh342]; exact sp286.set k331 (by decide) ⟨_, rfl⟩
                refine tw_aload_n 0 dX10_use_112 rfl rfl ?_
                obtain ⟨e344, f345, th_346, td_347, ds_348, fr_349, ca_350, us_351, wo_352, cm_353, lc_354, lh_355, ld_356, rfl, k357, k358, k359, k360, k361, k362, k363, k364, k365, k366, k367, k368, k369, k370⟩ := sp343.1 x 36 kx (by decide)
                refine tw_get (v := .ref lc_354) rfl in_14 9 dX10_use_113 w_1160 rfl (by decide) f345 rfl ?_
                refine tw_iload_n 1 dX10_use_116 rfl rfl ?_
                obtain ⟨e371, f372, ⟨el373, rfl, k374⟩, k375⟩ := sp343.1 lc_354 24 k363 (by decide)
                refine tw_br (tw_callV (M := mX10_use) (pc := 117) okJx4a65c_get_915e3 dX10_use_117 w_1296 rfl f372 [.int (nI j31)] [] rfl rfl ⟨by decide, by decide⟩ (Nat.le_of_ble_eq_true rfl) (c24_get d g τ h342 sp343.1 lc_354 k363 j31 (by omega) (by omega)) 0 0 (Nat.le_of_ble_eq_true rfl) (Nat.le_of_ble_eq_true rfl)) (fun r378 h377 q376 => ?_) (fun E h1 q => q.elim)
                obtain ⟨q376e, q376k⟩ := q376
                rw [q376e]
                have el379 : tw_el h342 (g.2 12) j31 = r378 := by rw [← k375]; exact q376k.2.symm
                have kl380 : τ (g.2 12) = 24 := by rw [← k375]; exact k363
                obtain ⟨e381, f382, r_383, c_384, v_385, o_386, t_387, rfl, k388, k389, k390, k391, k392⟩ := sp343.1 r378 21 q376k.1 (by decide)
                refine tw_castS (ci := 11) rfl dX10_use_120 w_1212 f382 ?_
                refine tw_get (v := .ref v_385) rfl in_11 2 dX10_use_123 w_1221 rfl (by decide) f382 rfl ?_
                refine tw_iload_n 2 dX10_use_126 rfl rfl ?_
                obtain ⟨e393, f394, F395, rfl⟩ := sp343.1 v_385 31 k388 (by decide)
                obtain ⟨v396, ev396⟩ : ∃ y : Int64, F395 (m).toNatClampNeg = y := ⟨_, rfl⟩
                refine tw_lald (v := v396) dX10_use_127 f394 (tw_in01 q55m (by decide)) ev396 ?_
                refine tw_l2i dX10_use_128 ?_
                refine tw_nmi (fun v397 ev397 => ?_)
                exact tw_iret dX10_use_129 rfl (Or.inl ⟨_, rfl, sp343⟩)
            · refine tw_iconst (v := 1) dX10_use_66 (by decide) ?_
              refine tw_goto 71 dX10_use_67 (by decide) ?_
              refine tw_iconst (v := 3) dX10_use_71 (by decide) ?_
              refine tw_bi (tw_callV (M := mX10_use) (pc := 72) okX10_refuse dX10_use_72 w_1204 rfl f181 [.int 1, .int 3] [] rfl rfl ⟨by decide, by decide⟩ (Nat.le_of_ble_eq_true rfl) (c_X10_refuse d g τ h169 sp176.1 x kx 1 3 (by decide)) 0 0 (Nat.le_of_ble_eq_true rfl) (Nat.le_of_ble_eq_true rfl)) (fun r400 h399 q398 => ?_) (fun E h1 q => q.elim)
              obtain ⟨e401, he402, hs403, hr404, h3405⟩ := q398
              have sp406 : tw_sp d τ h g τ h399 := by rw [he402]; exact sp176.set kx (by decide) hs403
              have f407 : h399 lc_190 = some (.inr (3, [.int (g.1 3), .ref el209, .int (nI (g.2 3))])) := by rw [he402, tw_up_n (fun q => absurd (k199) (by rw [q, kx]; decide))]; exact f208
              have f408 : h399 r214 = some (.inr (11, [.int r_219, .int c_220, .ref v_221, .ref o_222, .ref t_223])) := by rw [he402, tw_up_n (fun q => absurd (q212k.1) (by rw [q, kx]; decide))]; exact f218
              have f409 : h399 v_221 = some (.inl (d.2 1, 2, .inr (.inl F231))) := by rw [he402, tw_up_n (fun q => absurd (k224) (by rw [q, kx]; decide))]; exact f230
              have el410 : tw_el h399 (g.2 12) j31 = r214 := by rw [he402]; exact (tw_el24_up sp176.1 kl216 (by omega) (by rw [kx]; decide) (by rw [kx]; decide)).trans el215
              rcases hr404 with ei411 | ⟨ei411, ei411b⟩
              · rw [ei411]
                refine tw_if_eq 80 dX10_use_75 (by decide) (fun c412 => absurd c412 (by decide)) (fun _ => ?_)
                refine tw_iconst (v := 0) dX10_use_78 (by decide) ?_
                exact tw_iret dX10_use_79 rfl (Or.inl ⟨_, rfl, sp406⟩)
              · exact absurd ei411b (by decide)

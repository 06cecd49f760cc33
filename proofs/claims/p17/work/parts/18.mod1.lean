/-! the class's methods over the typed heap. Laid by wip/p5/mkclass.py. -/
set_option maxHeartbeats 4000000 in
set_option maxRecDepth 100000 in
theorem c_X10_thrown (d : tw_D) (g : tw_G) (τ : tw_K) (h : tw_H) (hw : tw_wt d g τ h) (x : Nat) (kx : τ x = 36) : tw_Ct d mX10_thrown 0 0 [.ref x] h (tw_qi (fun r h1 => h1 = h ∧ r = tw_th (h x)) tw_nx) := by
  refine tw_of (by decide +kernel) (Nat.le_of_ble_eq_true rfl) ?_
  show tw_W d mX10_thrown _ 0 [(0, .ref x)] [] h 0 0
  have sp0 := tw_sp.rf hw
  refine tw_aload_n 0 dX10_thrown_0 rfl rfl ?_
  obtain ⟨e1, f2, th_3, td_4, ds_5, fr_6, ca_7, us_8, wo_9, cm_10, lc_11, lh_12, ld_13, rfl, k14, k15, k16, k17, k18, k19, k20, k21, k22, k23, k24, k25, k26, k27, k28, k29, k30, k31⟩ := sp0.1 x 36 kx (by decide)
  refine tw_get (v := .int th_3) rfl in_14 0 dX10_thrown_1 w_1151 rfl (by decide) f2 rfl ?_
  exact tw_iret dX10_thrown_4 rfl (Or.inl ⟨_, rfl, ⟨rfl, (by rw [f2]; rfl)⟩⟩)

set_option maxHeartbeats 4000000 in
set_option maxRecDepth 100000 in
theorem c_X10_isIn (d : tw_D) (g : tw_G) (τ : tw_K) (h : tw_H) (hw : tw_wt d g τ h) (v : Int32) (lo : Int32) (hi : Int32) : tw_Ct d mX10_isIn 0 0 [.int v, .int lo, .int hi] h (tw_qi (fun r h1 => h1 = h ∧ (r = 0 ∧ ¬ (lo ≤ v ∧ v ≤ hi) ∨ r = 1 ∧ lo ≤ v ∧ v ≤ hi)) tw_nx) := by
  refine tw_of (by decide +kernel) (Nat.le_of_ble_eq_true rfl) ?_
  show tw_W d mX10_isIn _ 0 [(0, .int v), (1, .int lo), (2, .int hi)] [] h 0 0
  have sp0 := tw_sp.rf hw
  refine tw_iload_n 0 dX10_isIn_0 rfl rfl ?_
  refine tw_iload_n 1 dX10_isIn_1 rfl rfl ?_
  refine tw_icmp_lt 14 dX10_isIn_2 (by decide) (fun c1 => ?_) (fun c1 => ?_)
  · refine tw_iconst (v := 0) dX10_isIn_14 (by decide) ?_
    exact tw_zret dX10_isIn_15 rfl rfl (Or.inl ⟨_, rfl, ⟨rfl, Or.inl ⟨rfl, fun q => absurd q.1 (Int32.not_le.mpr c1)⟩⟩⟩)
  · refine tw_iload_n 0 dX10_isIn_5 rfl rfl ?_
    refine tw_iload_n 2 dX10_isIn_6 rfl rfl ?_
    refine tw_icmp_gt 14 dX10_isIn_7 (by decide) (fun c2 => ?_) (fun c2 => ?_)
    · refine tw_iconst (v := 0) dX10_isIn_14 (by decide) ?_
      exact tw_zret dX10_isIn_15 rfl rfl (Or.inl ⟨_, rfl, ⟨rfl, Or.inl ⟨rfl, fun q => absurd q.2 (Int32.not_le.mpr c2)⟩⟩⟩)
    · refine tw_iconst (v := 1) dX10_isIn_10 (by decide) ?_
      refine tw_goto 15 dX10_isIn_11 (by decide) ?_
      exact tw_zret dX10_isIn_15 rfl rfl (Or.inl ⟨_, rfl, ⟨rfl, Or.inr ⟨rfl, Int32.not_lt.mp c1, Int32.not_lt.mp c2⟩⟩⟩)

set_option maxHeartbeats 4000000 in
set_option maxRecDepth 100000 in
theorem c_X10_isNoMetal (d : tw_D) (g : tw_G) (τ : tw_K) (h : tw_H) (hw : tw_wt d g τ h) (m : Int32) : tw_Ct d mX10_isNoMetal 0 0 [.int m] h (tw_qi (fun r h1 => h1 = h ∧ (r = 1 ∨ r = 0 ∧ (m = 0 ∨ m = 1))) tw_nx) := by
  refine tw_of (by decide +kernel) (Nat.le_of_ble_eq_true rfl) ?_
  show tw_W d mX10_isNoMetal _ 0 [(0, .int m)] [] h 0 0
  have sp0 := tw_sp.rf hw
  refine tw_iload_n 0 dX10_isNoMetal_0 rfl rfl ?_
  refine tw_iconst (v := 0) dX10_isNoMetal_1 (by decide) ?_
  refine tw_iconst (v := 1) dX10_isNoMetal_2 (by decide) ?_
  refine tw_bi (tw_callS (M := mX10_isNoMetal) (pc := 3) okX10_isIn dX10_isNoMetal_3 w_1196 [.int m, .int 0, .int 1] [] rfl rfl ⟨by decide, by decide⟩ (Nat.le_of_ble_eq_true rfl) (c_X10_isIn d g τ h sp0.1 m 0 1) 0 0 (Nat.le_of_ble_eq_true rfl) (Nat.le_of_ble_eq_true rfl)) (fun r3 h2 q1 => ?_) (fun E h1 q => q.elim)
  obtain ⟨q1e, q1d⟩ := q1
  rw [q1e]
  rcases q1d with ⟨q1r, q1n⟩ | ⟨q1r, q1a, q1b⟩
  · rw [q1r]
    refine tw_if_ne 13 dX10_isNoMetal_6 (by decide) (fun c4 => absurd (by decide) c4) (fun _ => ?_)
    refine tw_iconst (v := 1) dX10_isNoMetal_9 (by decide) ?_
    refine tw_goto 14 dX10_isNoMetal_10 (by decide) ?_
    exact tw_zret dX10_isNoMetal_14 rfl rfl (Or.inl ⟨_, rfl, ⟨rfl, (Or.inl rfl)⟩⟩)
  · rw [q1r]
    refine tw_if_ne 13 dX10_isNoMetal_6 (by decide) (fun _ => ?_) (fun c5 => absurd c5 (by decide))
    refine tw_iconst (v := 0) dX10_isNoMetal_13 (by decide) ?_
    exact tw_zret dX10_isNoMetal_14 rfl rfl (Or.inl ⟨_, rfl, ⟨rfl, (Or.inr ⟨rfl, tw_m01 q1a q1b⟩)⟩⟩)

set_option maxHeartbeats 4000000 in
set_option maxRecDepth 100000 in
theorem c_X10_isNoCountry (d : tw_D) (g : tw_G) (τ : tw_K) (h : tw_H) (hw : tw_wt d g τ h) (x : Nat) (kx : τ x = 36) (k : Int32) : tw_Ct d mX10_isNoCountry 0 0 [.ref x, .int k] h (tw_qi (fun r h1 => h1 = h ∧ (r = 1 ∨ r = 0 ∧ ∃ j, j < g.2 3 ∧ k = nI j)) tw_nx) := by
  refine tw_of (by decide +kernel) (Nat.le_of_ble_eq_true rfl) ?_
  show tw_W d mX10_isNoCountry _ 0 [(0, .ref x), (1, .int k)] [] h 0 0
  have sp0 := tw_sp.rf hw
  refine tw_iload_n 1 dX10_isNoCountry_0 rfl rfl ?_
  refine tw_iconst (v := 0) dX10_isNoCountry_1 (by decide) ?_
  refine tw_aload_n 0 dX10_isNoCountry_2 rfl rfl ?_
  obtain ⟨e1, f2, th_3, td_4, ds_5, fr_6, ca_7, us_8, wo_9, cm_10, lc_11, lh_12, ld_13, rfl, k14, k15, k16, k17, k18, k19, k20, k21, k22, k23, k24, k25, k26, k27, k28, k29, k30, k31⟩ := sp0.1 x 36 kx (by decide)
  refine tw_get (v := .ref lc_11) rfl in_14 9 dX10_isNoCountry_3 w_1160 rfl (by decide) f2 rfl ?_
  obtain ⟨e32, f33, ⟨el34, rfl, k35⟩, k36⟩ := sp0.1 lc_11 24 k20 (by decide)
  refine tw_bi (tw_callV (M := mX10_isNoCountry) (pc := 6) okJx4a65c_size_8abf5 dX10_isNoCountry_6 w_1208 rfl f33 [] [.int 0, .int k] rfl rfl ⟨by decide, by decide⟩ (Nat.le_of_ble_eq_true rfl) (c24_size d g τ h sp0.1 lc_11 k20) 0 0 (Nat.le_of_ble_eq_true rfl) (Nat.le_of_ble_eq_true rfl)) (fun r39 h38 q37 => ?_) (fun E h1 q => q.elim)
  obtain ⟨q37e, q37r⟩ := q37
  rw [q37e, q37r]
  refine tw_iconst (v := 1) dX10_isNoCountry_9 (by decide) ?_
  refine tw_isub dX10_isNoCountry_10 ?_
  refine tw_nmi (fun v40 ev40 => ?_)
  refine tw_bi (tw_callS (M := mX10_isNoCountry) (pc := 11) okX10_isIn dX10_isNoCountry_11 w_1196 [.int k, .int 0, .int v40] [] rfl rfl ⟨by decide, by decide⟩ (Nat.le_of_ble_eq_true rfl) (c_X10_isIn d g τ h sp0.1 k 0 v40) 0 0 (Nat.le_of_ble_eq_true rfl) (Nat.le_of_ble_eq_true rfl)) (fun r43 h42 q41 => ?_) (fun E h1 q => q.elim)
  obtain ⟨q41e, q41d⟩ := q41
  rw [q41e]
  rcases q41d with ⟨q41r, q41n⟩ | ⟨q41r, q41a, q41b⟩
  · rw [q41r]
    refine tw_if_ne 21 dX10_isNoCountry_14 (by decide) (fun c44 => absurd (by decide) c44) (fun _ => ?_)
    refine tw_iconst (v := 1) dX10_isNoCountry_17 (by decide) ?_
    refine tw_goto 22 dX10_isNoCountry_18 (by decide) ?_
    exact tw_zret dX10_isNoCountry_22 rfl rfl (Or.inl ⟨_, rfl, ⟨rfl, (Or.inl rfl)⟩⟩)
  · rw [q41r]
    refine tw_if_ne 21 dX10_isNoCountry_14 (by decide) (fun _ => ?_) (fun c45 => absurd c45 (by decide))
    refine tw_iconst (v := 0) dX10_isNoCountry_21 (by decide) ?_
    exact tw_zret dX10_isNoCountry_22 rfl rfl (Or.inl ⟨_, rfl, ⟨rfl, (Or.inr ⟨rfl, tw_isc q41a q41b ev40 (by omega)⟩)⟩⟩)

set_option maxHeartbeats 4000000 in
set_option maxRecDepth 100000 in
theorem c_X10_isNoHouse (d : tw_D) (g : tw_G) (τ : tw_K) (h : tw_H) (hw : tw_wt d g τ h) (x : Nat) (kx : τ x = 36) (k : Int32) : tw_Ct d mX10_isNoHouse 0 0 [.ref x, .int k] h (tw_qi (fun r h1 => h1 = h ∧ (r = 1 ∨ r = 0 ∧ ∃ j, j < g.2 4 ∧ k = nI j)) tw_nx) := by
  refine tw_of (by decide +kernel) (Nat.le_of_ble_eq_true rfl) ?_
  show tw_W d mX10_isNoHouse _ 0 [(0, .ref x), (1, .int k)] [] h 0 0
  have sp0 := tw_sp.rf hw
  refine tw_iload_n 1 dX10_isNoHouse_0 rfl rfl ?_
  refine tw_iconst (v := 0) dX10_isNoHouse_1 (by decide) ?_
  refine tw_aload_n 0 dX10_isNoHouse_2 rfl rfl ?_
  obtain ⟨e1, f2, th_3, td_4, ds_5, fr_6, ca_7, us_8, wo_9, cm_10, lc_11, lh_12, ld_13, rfl, k14, k15, k16, k17, k18, k19, k20, k21, k22, k23, k24, k25, k26, k27, k28, k29, k30, k31⟩ := sp0.1 x 36 kx (by decide)
  refine tw_get (v := .ref lh_12) rfl in_14 10 dX10_isNoHouse_3 w_1161 rfl (by decide) f2 rfl ?_
  obtain ⟨e32, f33, ⟨el34, rfl, k35⟩, k36⟩ := sp0.1 lh_12 25 k21 (by decide)
  refine tw_bi (tw_callV (M := mX10_isNoHouse) (pc := 6) okJx4a65c_size_8abf5 dX10_isNoHouse_6 w_1208 rfl f33 [] [.int 0, .int k] rfl rfl ⟨by decide, by decide⟩ (Nat.le_of_ble_eq_true rfl) (c25_size d g τ h sp0.1 lh_12 k21) 0 0 (Nat.le_of_ble_eq_true rfl) (Nat.le_of_ble_eq_true rfl)) (fun r39 h38 q37 => ?_) (fun E h1 q => q.elim)
  obtain ⟨q37e, q37r⟩ := q37
  rw [q37e, q37r]
  refine tw_iconst (v := 1) dX10_isNoHouse_9 (by decide) ?_
  refine tw_isub dX10_isNoHouse_10 ?_
  refine tw_nmi (fun v40 ev40 => ?_)
  refine tw_bi (tw_callS (M := mX10_isNoHouse) (pc := 11) okX10_isIn dX10_isNoHouse_11 w_1196 [.int k, .int 0, .int v40] [] rfl rfl ⟨by decide, by decide⟩ (Nat.le_of_ble_eq_true rfl) (c_X10_isIn d g τ h sp0.1 k 0 v40) 0 0 (Nat.le_of_ble_eq_true rfl) (Nat.le_of_ble_eq_true rfl)) (fun r43 h42 q41 => ?_) (fun E h1 q => q.elim)
  obtain ⟨q41e, q41d⟩ := q41
  rw [q41e]
  rcases q41d with ⟨q41r, q41n⟩ | ⟨q41r, q41a, q41b⟩
  · rw [q41r]
    refine tw_if_ne 21 dX10_isNoHouse_14 (by decide) (fun c44 => absurd (by decide) c44) (fun _ => ?_)
    refine tw_iconst (v := 1) dX10_isNoHouse_17 (by decide) ?_
    refine tw_goto 22 dX10_isNoHouse_18 (by decide) ?_
    exact tw_zret dX10_isNoHouse_22 rfl rfl (Or.inl ⟨_, rfl, ⟨rfl, (Or.inl rfl)⟩⟩)
  · rw [q41r]
    refine tw_if_ne 21 dX10_isNoHouse_14 (by decide) (fun _ => ?_) (fun c45 => absurd c45 (by decide))
    refine tw_iconst (v := 0) dX10_isNoHouse_21 (by decide) ?_
    exact tw_zret dX10_isNoHouse_22 rfl rfl (Or.inl ⟨_, rfl, ⟨rfl, (Or.inr ⟨rfl, tw_isc q41a q41b ev40 (by omega)⟩)⟩⟩)

set_option maxHeartbeats 4000000 in
set_option maxRecDepth 100000 in
theorem c_X10_refuse (d : tw_D) (g : tw_G) (τ : tw_K) (h : tw_H) (hw : tw_wt d g τ h) (x : Nat) (kx : τ x = 36) (is w9 : Int32) (hw1 : 0 < w9) : tw_Ct d mX10_refuse 0 0 [.ref x, .int is, .int w9] h (tw_qi (fun r h1 => ∃ e, h1 = tw_up h x e ∧ tw_sh d g τ x 36 e ∧ (r = 1 ∨ r = 0 ∧ is = 0) ∧ (tw_th (h x) = 0 → (is = 0 → r = 0 ∧ tw_th (some e) = 0) ∧ (is = 1 → r = 1 ∧ tw_th (some e) = w9))) tw_nx) := by
  refine tw_of (by decide +kernel) (Nat.le_of_ble_eq_true rfl) ?_
  show tw_W d mX10_refuse _ 0 [(0, .ref x), (1, .int is), (2, .int w9)] [] h 0 0
  have sp0 := tw_sp.rf hw
  refine tw_iload_n 1 dX10_refuse_0 rfl rfl ?_
  refine tw_if_eq 16 dX10_refuse_1 (by decide) (fun c1 => ?_) (fun c1 => ?_)
  · refine tw_aload_n 0 dX10_refuse_16 rfl rfl ?_
    obtain ⟨e2, f3, th_4, td_5, ds_6, fr_7, ca_8, us_9, wo_10, cm_11, lc_12, lh_13, ld_14, rfl, k15, k16, k17, k18, k19, k20, k21, k22, k23, k24, k25, k26, k27, k28, k29, k30, k31, k32⟩ := sp0.1 x 36 kx (by decide)
    refine tw_get (v := .int th_4) rfl in_14 0 dX10_refuse_17 w_1151 rfl (by decide) f3 rfl ?_
    refine tw_if_le 27 dX10_refuse_20 (by decide) (fun c33 => ?_) (fun c33 => ?_)
    · refine tw_iconst (v := 0) dX10_refuse_27 (by decide) ?_
      exact tw_zret dX10_refuse_28 rfl rfl (Or.inl ⟨_, rfl, _, (tw_up_id f3).symm, ⟨th_4, td_5, ds_6, fr_7, ca_8, us_9, wo_10, cm_11, lc_12, lh_13, ld_14, rfl, k15, k16, k17, k18, k19, k20, k21, k22, k23, k24, k25, k26, k27, k28, k29, k30, k31, k32⟩, (Or.inr ⟨rfl, c1⟩), (by intro z; rw [f3] at z; have z : th_4 = 0 := z; exact ⟨fun _ => ⟨rfl, z⟩, fun q => absurd (q.symm.trans c1) (by decide)⟩)⟩)
    · refine tw_iconst (v := 1) dX10_refuse_23 (by decide) ?_
      refine tw_goto 28 dX10_refuse_24 (by decide) ?_
      exact tw_zret dX10_refuse_28 rfl rfl (Or.inl ⟨_, rfl, _, (tw_up_id f3).symm, ⟨th_4, td_5, ds_6, fr_7, ca_8, us_9, wo_10, cm_11, lc_12, lh_13, ld_14, rfl, k15, k16, k17, k18, k19, k20, k21, k22, k23, k24, k25, k26, k27, k28, k29, k30, k31, k32⟩, (Or.inl rfl), (by intro z; rw [f3] at z; have z : th_4 = 0 := z; exact absurd (by rw [z]; decide) c33)⟩)
  · refine tw_aload_n 0 dX10_refuse_4 rfl rfl ?_
    obtain ⟨e34, f35, th_36, td_37, ds_38, fr_39, ca_40, us_41, wo_42, cm_43, lc_44, lh_45, ld_46, rfl, k47, k48, k49, k50, k51, k52, k53, k54, k55, k56, k57, k58, k59, k60, k61, k62, k63, k64⟩ := sp0.1 x 36 kx (by decide)
    refine tw_get (v := .int th_36) rfl in_14 0 dX10_refuse_5 w_1151 rfl (by decide) f35 rfl ?_
    refine tw_if_ne 16 dX10_refuse_8 (by decide) (fun c65 => ?_) (fun c65 => ?_)
    · refine tw_aload_n 0 dX10_refuse_16 rfl rfl ?_
      refine tw_get (v := .int th_36) rfl in_14 0 dX10_refuse_17 w_1151 rfl (by decide) f35 rfl ?_
      refine tw_if_le 27 dX10_refuse_20 (by decide) (fun c66 => ?_) (fun c66 => ?_)
      · refine tw_iconst (v := 0) dX10_refuse_27 (by decide) ?_
        exact tw_zret dX10_refuse_28 rfl rfl (Or.inl ⟨_, rfl, _, (tw_up_id f35).symm, ⟨th_36, td_37, ds_38, fr_39, ca_40, us_41, wo_42, cm_43, lc_44, lh_45, ld_46, rfl, k47, k48, k49, k50, k51, k52, k53, k54, k55, k56, k57, k58, k59, k60, k61, k62, k63, k64⟩, (absurd (Int32.le_antisymm c66 k60) c65), (by intro z; rw [f35] at z; have z : th_36 = 0 := z; exact absurd z c65)⟩)
      · refine tw_iconst (v := 1) dX10_refuse_23 (by decide) ?_
        refine tw_goto 28 dX10_refuse_24 (by decide) ?_
        exact tw_zret dX10_refuse_28 rfl rfl (Or.inl ⟨_, rfl, _, (tw_up_id f35).symm, ⟨th_36, td_37, ds_38, fr_39, ca_40, us_41, wo_42, cm_43, lc_44, lh_45, ld_46, rfl, k47, k48, k49, k50, k51, k52, k53, k54, k55, k56, k57, k58, k59, k60, k61, k62, k63, k64⟩, (Or.inl rfl), (by intro z; rw [f35] at z; have z : th_36 = 0 := z; exact absurd z c65)⟩)
    · refine tw_aload_n 0 dX10_refuse_11 rfl rfl ?_
      refine tw_iload_n 2 dX10_refuse_12 rfl rfl ?_
      refine tw_put rfl in_14 tyX10 tyX10_ok nmX10 0 dX10_refuse_13 w_1151 rfl (by decide) f35 rfl rfl rfl rfl (Nat.le_of_ble_eq_true rfl) [.int w9, .int td_37, .int (g.1 1), .ref ds_38, .ref fr_39, .ref ca_40, .ref us_41, .ref wo_42, .ref cm_43, .ref lc_44, .ref lh_45, .ref ld_46] rfl ?_
      obtain ⟨h67, eh67⟩ : ∃ z : tw_H, z = tw_up h x (.inr (14, [.int w9, .int td_37, .int (g.1 1), .ref ds_38, .ref fr_39, .ref ca_40, .ref us_41, .ref wo_42, .ref cm_43, .ref lc_44, .ref lh_45, .ref ld_46])) := ⟨_, rfl⟩
      rw [← eh67]
      have f68 : h67 x = some (.inr (14, [.int w9, .int td_37, .int (g.1 1), .ref ds_38, .ref fr_39, .ref ca_40, .ref us_41, .ref wo_42, .ref cm_43, .ref lc_44, .ref lh_45, .ref ld_46])) := by rw [eh67]; exact tw_up_s
      refine tw_aload_n 0 dX10_refuse_16 rfl rfl ?_
      refine tw_get (v := .int w9) rfl in_14 0 dX10_refuse_17 w_1151 rfl (by decide) f68 rfl ?_
      refine tw_if_le 27 dX10_refuse_20 (by decide) (fun c69 => ?_) (fun c69 => ?_)
      · refine tw_iconst (v := 0) dX10_refuse_27 (by decide) ?_
        exact tw_zret dX10_refuse_28 rfl rfl (Or.inl ⟨_, rfl, _, eh67, ⟨w9, td_37, ds_38, fr_39, ca_40, us_41, wo_42, cm_43, lc_44, lh_45, ld_46, rfl, k47, k48, k49, k50, k51, k52, k53, k54, k55, k56, k57, k58, k59, (Int32.le_of_lt hw1), k61, k62, k63, k64⟩, (absurd hw1 (Int32.not_lt.mpr c69)), (by intro z; rw [f35] at z; have z : th_36 = 0 := z; exact absurd hw1 (Int32.not_lt.mpr c69))⟩)
      · refine tw_iconst (v := 1) dX10_refuse_23 (by decide) ?_
        refine tw_goto 28 dX10_refuse_24 (by decide) ?_
        exact tw_zret dX10_refuse_28 rfl rfl (Or.inl ⟨_, rfl, _, eh67, ⟨w9, td_37, ds_38, fr_39, ca_40, us_41, wo_42, cm_43, lc_44, lh_45, ld_46, rfl, k47, k48, k49, k50, k51, k52, k53, k54, k55, k56, k57, k58, k59, (Int32.le_of_lt hw1), k61, k62, k63, k64⟩, (Or.inl rfl), (by intro z; rw [f35] at z; have z : th_36 = 0 := z; exact ⟨fun q => absurd q c1, fun _ => ⟨rfl, rfl⟩⟩)⟩)

set_option maxHeartbeats 4000000 in
set_option maxRecDepth 100000 in
theorem c_X10_start (d : tw_D) (g : tw_G) (τ : tw_K) (h : tw_H) (hw : tw_wt d g τ h) (x : Nat) (kx : τ x = 36) (is w9 : Int32) (hw1 : 0 < w9) : tw_Ct d mX10_start 0 0 [.ref x, .int is, .int w9] h (tw_qi (fun r h1 => ∃ e, h1 = tw_up h x e ∧ tw_sh d g τ x 36 e ∧ (r = 1 ∨ r = 0 ∧ is = 0) ∧ (is = 0 → r = 0 ∧ tw_th (some e) = 0) ∧ (is = 1 → r = 1 ∧ tw_th (some e) = w9)) tw_nx) := by
  refine tw_of (by decide +kernel) (Nat.le_of_ble_eq_true rfl) ?_
  show tw_W d mX10_start _ 0 [(0, .ref x), (1, .int is), (2, .int w9)] [] h 0 0
  have sp0 := tw_sp.rf hw
  refine tw_aload_n 0 dX10_start_0 rfl rfl ?_
  refine tw_iconst (v := 0) dX10_start_1 (by decide) ?_
  obtain ⟨e1, f2, th_3, td_4, ds_5, fr_6, ca_7, us_8, wo_9, cm_10, lc_11, lh_12, ld_13, rfl, k14, k15, k16, k17, k18, k19, k20, k21, k22, k23, k24, k25, k26, k27, k28, k29, k30, k31⟩ := sp0.1 x 36 kx (by decide)
  refine tw_put rfl in_14 tyX10 tyX10_ok nmX10 0 dX10_start_2 w_1151 rfl (by decide) f2 rfl rfl rfl rfl (Nat.le_of_ble_eq_true rfl) [.int 0, .int td_4, .int (g.1 1), .ref ds_5, .ref fr_6, .ref ca_7, .ref us_8, .ref wo_9, .ref cm_10, .ref lc_11, .ref lh_12, .ref ld_13] rfl ?_
  obtain ⟨h32, eh32⟩ : ∃ z : tw_H, z = tw_up h x (.inr (14, [.int 0, .int td_4, .int (g.1 1), .ref ds_5, .ref fr_6, .ref ca_7, .ref us_8, .ref wo_9, .ref cm_10, .ref lc_11, .ref lh_12, .ref ld_13])) := ⟨_, rfl⟩
  rw [← eh32]
  have sp1 : tw_wt d g τ h32 := by rw [eh32]; exact hw.set kx ⟨0, td_4, ds_5, fr_6, ca_7, us_8, wo_9, cm_10, lc_11, lh_12, ld_13, rfl, k14, k15, k16, k17, k18, k19, k20, k21, k22, k23, k24, k25, k26, (by decide), k28, k29, k30, k31⟩
  have f33 : h32 x = some (.inr (14, [.int 0, .int td_4, .int (g.1 1), .ref ds_5, .ref fr_6, .ref ca_7, .ref us_8, .ref wo_9, .ref cm_10, .ref lc_11, .ref lh_12, .ref ld_13])) := by rw [eh32]; exact tw_up_s
  refine tw_aload_n 0 dX10_start_5 rfl rfl ?_
  refine tw_iload_n 1 dX10_start_6 rfl rfl ?_
  refine tw_iload_n 2 dX10_start_7 rfl rfl ?_
  refine tw_bi (tw_callV (M := mX10_start) (pc := 8) okX10_refuse dX10_start_8 w_1204 rfl f33 [.int is, .int w9] [] rfl rfl ⟨by decide, by decide⟩ (Nat.le_of_ble_eq_true rfl) (c_X10_refuse d g τ h32 sp1 x kx is w9 hw1) 0 0 (Nat.le_of_ble_eq_true rfl) (Nat.le_of_ble_eq_true rfl)) (fun r h3 q => ?_) (fun E h3 q => q.elim)
  obtain ⟨e, he, hs, hr, h4⟩ := q
  exact tw_zret dX10_start_11 rfl (by rcases hr with z | z <;> (first | rw [z] | rw [z.1]) <;> rfl) (Or.inl ⟨_, rfl, e, (by rw [he, eh32]; exact tw_up_up), hs, hr, h4 (by rw [f33]; rfl)⟩)

set_option maxHeartbeats 4000000 in
set_option maxRecDepth 100000 in
theorem c_X10_up (d : tw_D) (g : tw_G) (τ : tw_K) (h : tw_H) (hw : tw_wt d g τ h) (a : Int64) (b : Int64) (hu : ¬ b = 0) : tw_Ct d mX10_up 0 0 [.long a, .long b] h (tw_ql (fun r h1 => h1 = h) tw_nx) := by
  refine tw_of (by decide +kernel) (Nat.le_of_ble_eq_true rfl) ?_
  show tw_W d mX10_up _ 0 [(0, .long a), (2, .long b)] [] h 0 0
  have sp0 := tw_sp.rf hw
  refine tw_lload_n 0 dX10_up_0 rfl rfl ?_
  refine tw_lload_n 1 dX10_up_1 rfl rfl ?_
  refine tw_ladd dX10_up_2 ?_
  refine tw_nml (fun v1 ev1 => ?_)
  refine tw_lconst (v := 1) dX10_up_3 (by decide) ?_
  refine tw_lsub dX10_up_4 ?_
  refine tw_nml (fun v2 ev2 => ?_)
  refine tw_lload_n 1 dX10_up_5 rfl rfl ?_
  refine tw_ldiv dX10_up_6 hu ?_
  refine tw_nml (fun v3 ev3 => ?_)
  exact tw_lret dX10_up_7 rfl (Or.inl ⟨_, rfl, rfl⟩)

set_option maxHeartbeats 4000000 in
set_option maxRecDepth 100000 in
theorem c_X10_given (d : tw_D) (g : tw_G) (τ : tw_K) (h : tw_H) (hw : tw_wt d g τ h) (x : Nat) (kx : τ x = 21) (m : Int32) (gr : Int64) : tw_Ct d mX10_given 0 0 [.ref x, .int m, .long gr] h (tw_ql (fun r h1 => h1 = h) tw_nx) := by
  refine tw_of (by decide +kernel) (Nat.le_of_ble_eq_true rfl) ?_
  show tw_W d mX10_given _ 0 [(0, .ref x), (1, .int m), (2, .long gr)] [] h 0 0
  have sp0 := tw_sp.rf hw
  refine tw_iload_n 1 dX10_given_0 rfl rfl ?_
  refine tw_if_ne 18 dX10_given_1 (by decide) (fun c1 => ?_) (fun c1 => ?_)
  · refine tw_lload_n 2 dX10_given_18 rfl rfl ?_
    refine tw_ldc2 (v := 10) dX10_given_19 w_1373 ?_
    refine tw_lmul dX10_given_22 ?_
    refine tw_nml (fun v2 ev2 => ?_)
    refine tw_aload_n 0 dX10_given_23 rfl rfl ?_
    obtain ⟨e3, f4, r_5, c_6, v_7, o_8, t_9, rfl, k10, k11, k12, k13, k14, k15⟩ := sp0.1 x 21 kx (by decide)
    refine tw_get (v := .int r_5) rfl in_11 0 dX10_given_24 w_1218 rfl (by decide) f4 rfl ?_
    refine tw_i2l dX10_given_27 ?_
    refine tw_nml (fun v16 ev16 => ?_)
    refine tw_ldiv dX10_given_28 (tw_nzl ev16 (tw_1le k13)) ?_
    refine tw_nml (fun v17 ev17 => ?_)
    refine tw_lstore [(4, .long v17), (0, .ref x), (1, .int m), (2, .long gr)] dX10_given_29 (by decide) rfl ?_
    refine tw_lload 0 dX10_given_31 rfl ?_
    refine tw_lload 0 dX10_given_33 rfl ?_
    refine tw_aload_n 1 dX10_given_35 rfl rfl ?_
    refine tw_get (v := .int c_6) rfl in_11 1 dX10_given_36 w_1219 rfl (by decide) f4 rfl ?_
    refine tw_i2l dX10_given_39 ?_
    refine tw_nml (fun v18 ev18 => ?_)
    refine tw_lmul dX10_given_40 ?_
    refine tw_nml (fun v19 ev19 => ?_)
    refine tw_ldc2 (v := 1000) dX10_given_41 w_1374 ?_
    refine tw_bl (tw_callS (M := mX10_given) (pc := 44) okX10_up dX10_given_44 w_1375 [.long v19, .long 1000] [.long v17] rfl rfl ⟨by decide, by decide⟩ (Nat.le_of_ble_eq_true rfl) (c_X10_up d g τ h sp0.1 v19 1000 (by decide)) 0 0 (Nat.le_of_ble_eq_true rfl) (Nat.le_of_ble_eq_true rfl)) (fun r22 h21 q20 => ?_) (fun E h1 q => q.elim)
    rw [q20]
    refine tw_lsub dX10_given_47 ?_
    refine tw_nml (fun v23 ev23 => ?_)
    exact tw_lret dX10_given_48 rfl (Or.inl ⟨_, rfl, rfl⟩)
  · refine tw_lload_n 2 dX10_given_4 rfl rfl ?_
    refine tw_aload_n 0 dX10_given_5 rfl rfl ?_
    obtain ⟨e24, f25, r_26, c_27, v_28, o_29, t_30, rfl, k31, k32, k33, k34, k35, k36⟩ := sp0.1 x 21 kx (by decide)
    refine tw_get (v := .int r_26) rfl in_11 0 dX10_given_6 w_1218 rfl (by decide) f25 rfl ?_
    refine tw_i2l dX10_given_9 ?_
    refine tw_nml (fun v37 ev37 => ?_)
    refine tw_lmul dX10_given_10 ?_
    refine tw_nml (fun v38 ev38 => ?_)
    refine tw_ldc2 (v := 10) dX10_given_11 w_1373 ?_
    refine tw_ldiv dX10_given_14 (by decide) ?_
    refine tw_nml (fun v39 ev39 => ?_)
    refine tw_goto 29 dX10_given_15 (by decide) ?_
    refine tw_lstore [(4, .long v39), (0, .ref x), (1, .int m), (2, .long gr)] dX10_given_29 (by decide) rfl ?_
    refine tw_lload 0 dX10_given_31 rfl ?_
    refine tw_lload 0 dX10_given_33 rfl ?_
    refine tw_aload_n 1 dX10_given_35 rfl rfl ?_
    refine tw_get (v := .int c_27) rfl in_11 1 dX10_given_36 w_1219 rfl (by decide) f25 rfl ?_
    refine tw_i2l dX10_given_39 ?_
    refine tw_nml (fun v40 ev40 => ?_)
    refine tw_lmul dX10_given_40 ?_
    refine tw_nml (fun v41 ev41 => ?_)
    refine tw_ldc2 (v := 1000) dX10_given_41 w_1374 ?_
    refine tw_bl (tw_callS (M := mX10_given) (pc := 44) okX10_up dX10_given_44 w_1375 [.long v41, .long 1000] [.long v39] rfl rfl ⟨by decide, by decide⟩ (Nat.le_of_ble_eq_true rfl) (c_X10_up d g τ h sp0.1 v41 1000 (by decide)) 0 0 (Nat.le_of_ble_eq_true rfl) (Nat.le_of_ble_eq_true rfl)) (fun r44 h43 q42 => ?_) (fun E h1 q => q.elim)
    rw [q42]
    refine tw_lsub dX10_given_47 ?_
    refine tw_nml (fun v45 ev45 => ?_)
    exact tw_lret dX10_given_48 rfl (Or.inl ⟨_, rfl, rfl⟩)

set_option maxHeartbeats 4000000 in
set_option maxRecDepth 100000 in
theorem c_X10_worth (d : tw_D) (g : tw_G) (τ : tw_K) (h : tw_H) (hw : tw_wt d g τ h) (x : Nat) (kx : τ x = 36) (a : Nat) (ka : τ a = 31) : tw_Ct d mX10_worth 0 0 [.ref x, .ref a] h (tw_ql (fun r h1 => h1 = h) tw_nx) := by
  refine tw_of (by decide +kernel) (Nat.le_of_ble_eq_true rfl) ?_
  show tw_W d mX10_worth _ 0 [(0, .ref x), (1, .ref a)] [] h 0 0
  have sp0 := tw_sp.rf hw
  refine tw_aload_n 1 dX10_worth_0 rfl rfl ?_
  refine tw_iconst (v := 1) dX10_worth_1 (by decide) ?_
  obtain ⟨e1, f2, F3, rfl⟩ := sp0.1 a 31 ka (by decide)
  obtain ⟨v4, ev4⟩ : ∃ y : Int64, F3 (1 : Int32).toNatClampNeg = y := ⟨_, rfl⟩
  refine tw_lald (v := v4) dX10_worth_2 f2 (vp_in_nI (n := 1) (by decide) (by decide)) ev4 ?_
  refine tw_aload_n 1 dX10_worth_3 rfl rfl ?_
  refine tw_iconst (v := 0) dX10_worth_4 (by decide) ?_
  obtain ⟨v5, ev5⟩ : ∃ y : Int64, F3 (0 : Int32).toNatClampNeg = y := ⟨_, rfl⟩
  refine tw_lald (v := v5) dX10_worth_5 f2 (vp_in_nI (n := 0) (by decide) (by decide)) ev5 ?_
  refine tw_aload_n 0 dX10_worth_6 rfl rfl ?_
  obtain ⟨e6, f7, th_8, td_9, ds_10, fr_11, ca_12, us_13, wo_14, cm_15, lc_16, lh_17, ld_18, rfl, k19, k20, k21, k22, k23, k24, k25, k26, k27, k28, k29, k30, k31, k32, k33, k34, k35, k36⟩ := sp0.1 x 36 kx (by decide)
  refine tw_get (v := .int (g.1 1)) rfl in_14 2 dX10_worth_7 w_1153 rfl (by decide) f7 rfl ?_
  refine tw_i2l dX10_worth_10 ?_
  refine tw_nml (fun v37 ev37 => ?_)
  refine tw_lmul dX10_worth_11 ?_
  refine tw_nml (fun v38 ev38 => ?_)
  refine tw_ldc2 (v := 10) dX10_worth_12 w_1373 ?_
  refine tw_ldiv dX10_worth_15 (by decide) ?_
  refine tw_nml (fun v39 ev39 => ?_)
  refine tw_ladd dX10_worth_16 ?_
  refine tw_nml (fun v40 ev40 => ?_)
  exact tw_lret dX10_worth_17 rfl (Or.inl ⟨_, rfl, rfl⟩)

set_option maxHeartbeats 4000000 in
set_option maxRecDepth 100000 in
theorem c_X10_mine (d : tw_D) (g : tw_G) (τ : tw_K) (h : tw_H) (hw : tw_wt d g τ h) (x : Nat) (kx : τ x = 36) (n : Int32) (m : Int32) (gr : Int32) : tw_Ct d mX10_mine 0 0 [.ref x, .int n, .int m, .int gr] h (tw_qi (fun r h1 => tw_sp d τ h g τ h1) tw_nx) := by
  refine tw_of (by decide +kernel) (Nat.le_of_ble_eq_true rfl) ?_
  show tw_W d mX10_mine _ 0 [(0, .ref x), (1, .int n), (2, .int m), (3, .int gr)] [] h 0 0
  have sp0 := tw_sp.rf hw
  refine tw_aload_n 0 dX10_mine_0 rfl rfl ?_
  refine tw_aload_n 0 dX10_mine_1 rfl rfl ?_
  refine tw_iload_n 1 dX10_mine_2 rfl rfl ?_
  obtain ⟨e1, f2, th_3, td_4, ds_5, fr_6, ca_7, us_8, wo_9, cm_10, lc_11, lh_12, ld_13, rfl, k14, k15, k16, k17, k18, k19, k20, k21, k22, k23, k24, k25, k26, k27, k28, k29, k30, k31⟩ := sp0.1 x 36 kx (by decide)
  refine tw_bi (tw_callV (M := mX10_mine) (pc := 3) okX10_isNoCountry dX10_mine_3 w_1292 rfl f2 [.int n] [.ref x] rfl rfl ⟨by decide, by decide⟩ (Nat.le_of_ble_eq_true rfl) (c_X10_isNoCountry d g τ h sp0.1 x kx n) 0 0 (Nat.le_of_ble_eq_true rfl) (Nat.le_of_ble_eq_true rfl)) (fun r34 h33 q32 => ?_) (fun E h1 q => q.elim)
  obtain ⟨q32e, q32d⟩ := q32
  rw [q32e]
  rcases q32d with q32r | ⟨q32r, j35, q32j, q32k⟩
  · rw [q32r]
    refine tw_iconst (v := 1) dX10_mine_6 (by decide) ?_
    refine tw_bi (tw_callV (M := mX10_mine) (pc := 7) okX10_start dX10_mine_7 w_1200 rfl f2 [.int 1, .int 1] [] rfl rfl ⟨by decide, by decide⟩ (Nat.le_of_ble_eq_true rfl) (c_X10_start d g τ h sp0.1 x kx 1 1 (by decide)) 0 0 (Nat.le_of_ble_eq_true rfl) (Nat.le_of_ble_eq_true rfl)) (fun r38 h37 q36 => ?_) (fun E h1 q => q.elim)
    obtain ⟨e39, he40, hs41, hr42, h343⟩ := q36
    have sp44 : tw_sp d τ h g τ h37 := by rw [he40]; exact sp0.set kx (by decide) hs41
    rcases hr42 with ei45 | ⟨ei45, ei45b⟩
    · rw [ei45]
      refine tw_if_ne 82 dX10_mine_10 (by decide) (fun _ => ?_) (fun c46 => absurd c46 (by decide))
      refine tw_iconst (v := 0) dX10_mine_82 (by decide) ?_
      exact tw_iret dX10_mine_83 rfl (Or.inl ⟨_, rfl, sp44⟩)
    · exact absurd ei45b (by decide)
  · rw [q32r]
    subst q32k
    refine tw_iconst (v := 1) dX10_mine_6 (by decide) ?_
    refine tw_bi (tw_callV (M := mX10_mine) (pc := 7) okX10_start dX10_mine_7 w_1200 rfl f2 [.int 0, .int 1] [] rfl rfl ⟨by decide, by decide⟩ (Nat.le_of_ble_eq_true rfl) (c_X10_start d g τ h sp0.1 x kx 0 1 (by decide)) 0 0 (Nat.le_of_ble_eq_true rfl) (Nat.le_of_ble_eq_true rfl)) (fun r49 h48 q47 => ?_) (fun E h1 q => q.elim)
    obtain ⟨e50, he51, hs52, hr53, h354⟩ := q47
    have sp55 : tw_sp d τ h g τ h48 := by rw [he51]; exact sp0.set kx (by decide) hs52
    rcases hr53 with ei56 | ⟨ei56, ei56b⟩
    · rw [ei56]
      refine tw_if_ne 82 dX10_mine_10 (by decide) (fun _ => ?_) (fun c57 => absurd c57 (by decide))
      refine tw_iconst (v := 0) dX10_mine_82 (by decide) ?_
      exact tw_iret dX10_mine_83 rfl (Or.inl ⟨_, rfl, sp55⟩)
    · rw [ei56]
      refine tw_if_ne 82 dX10_mine_10 (by decide) (fun c58 => absurd (by decide) c58) (fun _ => ?_)
      refine tw_aload_n 0 dX10_mine_13 rfl rfl ?_
      refine tw_iload_n 2 dX10_mine_14 rfl rfl ?_
      refine tw_bi (tw_callS (M := mX10_mine) (pc := 15) okX10_isNoMetal dX10_mine_15 w_1312 [.int m] [.ref x] rfl rfl ⟨by decide, by decide⟩ (Nat.le_of_ble_eq_true rfl) (c_X10_isNoMetal d g τ h48 sp55.1 m) 0 0 (Nat.le_of_ble_eq_true rfl) (Nat.le_of_ble_eq_true rfl)) (fun r61 h60 q59 => ?_) (fun E h1 q => q.elim)
      obtain ⟨q59e, q59d⟩ := q59
      rw [q59e]
      rcases q59d with q59r | ⟨q59r, q59m⟩
      · rw [q59r]
        refine tw_if_ne 31 dX10_mine_18 (by decide) (fun _ => ?_) (fun c62 => absurd c62 (by decide))
        refine tw_iconst (v := 1) dX10_mine_31 (by decide) ?_
        refine tw_goto 36 dX10_mine_32 (by decide) ?_
        refine tw_iconst (v := 2) dX10_mine_36 (by decide) ?_
        obtain ⟨e63, f64, th_65, td_66, ds_67, fr_68, ca_69, us_70, wo_71, cm_72, lc_73, lh_74, ld_75, rfl, k76, k77, k78, k79, k80, k81, k82, k83, k84, k85, k86, k87, k88, k89, k90, k91, k92, k93⟩ := sp55.1 x 36 kx (by decide)
        refine tw_bi (tw_callV (M := mX10_mine) (pc := 37) okX10_refuse dX10_mine_37 w_1204 rfl f64 [.int 1, .int 2] [] rfl rfl ⟨by decide, by decide⟩ (Nat.le_of_ble_eq_true rfl) (c_X10_refuse d g τ h48 sp55.1 x kx 1 2 (by decide)) 0 0 (Nat.le_of_ble_eq_true rfl) (Nat.le_of_ble_eq_true rfl)) (fun r96 h95 q94 => ?_) (fun E h1 q => q.elim)
        obtain ⟨e97, he98, hs99, hr100, h3101⟩ := q94
        have sp102 : tw_sp d τ h g τ h95 := by rw [he98]; exact sp55.set kx (by decide) hs99
        rcases hr100 with ei103 | ⟨ei103, ei103b⟩
        · rw [ei103]
          refine tw_if_ne 82 dX10_mine_40 (by decide) (fun _ => ?_) (fun c104 => absurd c104 (by decide))
          refine tw_iconst (v := 0) dX10_mine_82 (by decide) ?_
          exact tw_iret dX10_mine_83 rfl (Or.inl ⟨_, rfl, sp102⟩)
        · exact absurd ei103b (by decide)
      · rw [q59r]
        refine tw_if_ne 31 dX10_mine_18 (by decide) (fun c105 => absurd (by decide) c105) (fun _ => ?_)
        refine tw_iload_n 3 dX10_mine_21 rfl rfl ?_
        refine tw_iconst (v := 1) dX10_mine_22 (by decide) ?_
        refine tw_ldc (v := 99999) dX10_mine_23 w_1199 ?_
        refine tw_bi (tw_callS (M := mX10_mine) (pc := 25) okX10_isIn dX10_mine_25 w_1196 [.int gr, .int 1, .int 99999] [.ref x] rfl rfl ⟨by decide, by decide⟩ (Nat.le_of_ble_eq_true rfl) (c_X10_isIn d g τ h48 sp55.1 gr 1 99999) 0 0 (Nat.le_of_ble_eq_true rfl) (Nat.le_of_ble_eq_true rfl)) (fun r108 h107 q106 => ?_) (fun E h1 q => q.elim)
        obtain ⟨q106e, q106d⟩ := q106
        rw [q106e]
        rcases q106d with ⟨q106r, q106n⟩ | ⟨q106r, q106a, q106b⟩
        · rw [q106r]
          refine tw_if_ne 35 dX10_mine_28 (by decide) (fun c109 => absurd (by decide) c109) (fun _ => ?_)
          refine tw_iconst (v := 1) dX10_mine_31 (by decide) ?_
          refine tw_goto 36 dX10_mine_32 (by decide) ?_
          refine tw_iconst (v := 2) dX10_mine_36 (by decide) ?_
          obtain ⟨e110, f111, th_112, td_113, ds_114, fr_115, ca_116, us_117, wo_118, cm_119, lc_120, lh_121, ld_122, rfl, k123, k124, k125, k126, k127, k128, k129, k130, k131, k132, k133, k134, k135, k136, k137, k138, k139, k140⟩ := sp55.1 x 36 kx (by decide)
          refine tw_bi (tw_callV (M := mX10_mine) (pc := 37) okX10_refuse dX10_mine_37 w_1204 rfl f111 [.int 1, .int 2] [] rfl rfl ⟨by decide, by decide⟩ (Nat.le_of_ble_eq_true rfl) (c_X10_refuse d g τ h48 sp55.1 x kx 1 2 (by decide)) 0 0 (Nat.le_of_ble_eq_true rfl) (Nat.le_of_ble_eq_true rfl)) (fun r143 h142 q141 => ?_) (fun E h1 q => q.elim)
          obtain ⟨e144, he145, hs146, hr147, h3148⟩ := q141
          have sp149 : tw_sp d τ h g τ h142 := by rw [he145]; exact sp55.set kx (by decide) hs146
          rcases hr147 with ei150 | ⟨ei150, ei150b⟩
          · rw [ei150]
            refine tw_if_ne 82 dX10_mine_40 (by decide) (fun _ => ?_) (fun c151 => absurd c151 (by decide))
            refine tw_iconst (v := 0) dX10_mine_82 (by decide) ?_
            exact tw_iret dX10_mine_83 rfl (Or.inl ⟨_, rfl, sp149⟩)
          · exact absurd ei150b (by decide)
        · rw [q106r]
          refine tw_if_ne 35 dX10_mine_28 (by decide) (fun _ => ?_) (fun c152 => absurd c152 (by decide))
          refine tw_iconst (v := 0) dX10_mine_35 (by decide) ?_
          refine tw_iconst (v := 2) dX10_mine_36 (by decide) ?_
          obtain ⟨e153, f154, th_155, td_156, ds_157, fr_158, ca_159, us_160, wo_161, cm_162, lc_163, lh_164, ld_165, rfl, k166, k167, k168, k169, k170, k171, k172, k173, k174, k175, k176, k177, k178, k179, k180, k181, k182, k183⟩ := sp55.1 x 36 kx (by decide)
          refine tw_bi (tw_callV (M := mX10_mine) (pc := 37) okX10_refuse dX10_mine_37 w_1204 rfl f154 [.int 0, .int 2] [] rfl rfl ⟨by decide, by decide⟩ (Nat.le_of_ble_eq_true rfl) (c_X10_refuse d g τ h48 sp55.1 x kx 0 2 (by decide)) 0 0 (Nat.le_of_ble_eq_true rfl) (Nat.le_of_ble_eq_true rfl)) (fun r186 h185 q184 => ?_) (fun E h1 q => q.elim)
          obtain ⟨e187, he188, hs189, hr190, h3191⟩ := q184
          have sp192 : tw_sp d τ h g τ h185 := by rw [he188]; exact sp55.set kx (by decide) hs189
          rcases hr190 with ei193 | ⟨ei193, ei193b⟩
          · rw [ei193]
            refine tw_if_ne 82 dX10_mine_40 (by decide) (fun _ => ?_) (fun c194 => absurd c194 (by decide))
            refine tw_iconst (v := 0) dX10_mine_82 (by decide) ?_
            exact tw_iret dX10_mine_83 rfl (Or.inl ⟨_, rfl, sp192⟩)
          · rw [ei193]
            refine tw_if_ne 82 dX10_mine_40 (by decide) (fun c195 => absurd (by decide) c195) (fun _ => ?_)
            refine tw_aload_n 0 dX10_mine_43 rfl rfl ?_
            refine tw_aload_n 0 dX10_mine_44 rfl rfl ?_
            obtain ⟨e196, f197, th_198, td_199, ds_200, fr_201, ca_202, us_203, wo_204, cm_205, lc_206, lh_207, ld_208, rfl, k209, k210, k211, k212, k213, k214, k215, k216, k217, k218, k219, k220, k221, k222, k223, k224, k225, k226⟩ := sp192.1 x 36 kx (by decide)
            refine tw_get (v := .ref lc_206) rfl in_14 9 dX10_mine_45 w_1160 rfl (by decide) f197 rfl ?_
            refine tw_iload_n 1 dX10_mine_48 rfl rfl ?_
            obtain ⟨e227, f228, ⟨el229, rfl, k230⟩, k231⟩ := sp192.1 lc_206 24 k215 (by decide)
            refine tw_br (tw_callV (M := mX10_mine) (pc := 49) okJx4a65c_get_915e3 dX10_mine_49 w_1296 rfl f228 [.int (nI j35)] [.ref x] rfl rfl ⟨by decide, by decide⟩ (Nat.le_of_ble_eq_true rfl) (c24_get d g τ h185 sp192.1 lc_206 k215 j35 (by omega) (by omega)) 0 0 (Nat.le_of_ble_eq_true rfl) (Nat.le_of_ble_eq_true rfl)) (fun r234 h233 q232 => ?_) (fun E h1 q => q.elim)
            obtain ⟨q232e, q232k⟩ := q232
            rw [q232e]
            have el235 : tw_el h185 (g.2 12) j35 = r234 := by rw [← k231]; exact q232k.2.symm
            have kl236 : τ (g.2 12) = 24 := by rw [← k231]; exact k215
            obtain ⟨e237, f238, r_239, c_240, v_241, o_242, t_243, rfl, k244, k245, k246, k247, k248, k249⟩ := sp192.1 r234 21 q232k.1 (by decide)
            refine tw_castS (ci := 11) rfl dX10_mine_52 w_1212 f238 ?_
            refine tw_get (v := .ref v_241) rfl in_11 2 dX10_mine_55 w_1221 rfl (by decide) f238 rfl ?_
            refine tw_iload_n 2 dX10_mine_58 rfl rfl ?_
            obtain ⟨e250, f251, F252, rfl⟩ := sp192.1 v_241 31 k244 (by decide)
            obtain ⟨v253, ev253⟩ : ∃ y : Int64, F252 (m).toNatClampNeg = y := ⟨_, rfl⟩
            refine tw_lald (v := v253) dX10_mine_59 f251 (tw_in01 q59m (by decide)) ev253 ?_
            refine tw_iload_n 3 dX10_mine_60 rfl rfl ?_
            refine tw_i2l dX10_mine_61 ?_
            refine tw_nml (fun v254 ev254 => ?_)
            refine tw_ladd dX10_mine_62 ?_
            refine tw_nml (fun v255 ev255 => ?_)
            refine tw_ldc2 (v := 999999) dX10_mine_63 w_1327 ?_
            refine tw_lcmp dX10_mine_66 ?_
            refine tw_nmi (fun v256 ev256 => ?_)
            refine tw_if_le 74 dX10_mine_67 (by decide) (fun c257 => ?_) (fun c257 => ?_)
            · refine tw_iconst (v := 0) dX10_mine_74 (by decide) ?_
              refine tw_iconst (v := 3) dX10_mine_75 (by decide) ?_
              refine tw_bi (tw_callV (M := mX10_mine) (pc := 76) okX10_refuse dX10_mine_76 w_1204 rfl f197 [.int 0, .int 3] [] rfl rfl ⟨by decide, by decide⟩ (Nat.le_of_ble_eq_true rfl) (c_X10_refuse d g τ h185 sp192.1 x kx 0 3 (by decide)) 0 0 (Nat.le_of_ble_eq_true rfl) (Nat.le_of_ble_eq_true rfl)) (fun r260 h259 q258 => ?_) (fun E h1 q => q.elim)
              obtain ⟨e261, he262, hs263, hr264, h3265⟩ := q258
              have sp266 : tw_sp d τ h g τ h259 := by rw [he262]; exact sp192.set kx (by decide) hs263
              have f267 : h259 lc_206 = some (.inr (3, [.int (g.1 3), .ref el229, .int (nI (g.2 3))])) := by rw [he262, tw_up_n (fun q => absurd (k215) (by rw [q, kx]; decide))]; exact f228
              have f268 : h259 r234 = some (.inr (11, [.int r_239, .int c_240, .ref v_241, .ref o_242, .ref t_243])) := by rw [he262, tw_up_n (fun q => absurd (q232k.1) (by rw [q, kx]; decide))]; exact f238
              have f269 : h259 v_241 = some (.inl (d.2 1, 2, .inr (.inl F252))) := by rw [he262, tw_up_n (fun q => absurd (k244) (by rw [q, kx]; decide))]; exact f251
              have el270 : tw_el h259 (g.2 12) j35 = r234 := by rw [he262]; exact (tw_el24_up sp192.1 kl236 (by omega) (by rw [kx]; decide) (by rw [kx]; decide)).trans el235
              rcases hr264 with ei271 | ⟨ei271, ei271b⟩
              · rw [ei271]
                refine tw_if_eq 84 dX10_mine_79 (by decide) (fun c272 => absurd c272 (by decide)) (fun _ => ?_)
                refine tw_iconst (v := 0) dX10_mine_82 (by decide) ?_
                exact tw_iret dX10_mine_83 rfl (Or.inl ⟨_, rfl, sp266⟩)
              · rw [ei271]
                refine tw_if_eq 84 dX10_mine_79 (by decide) (fun _ => ?_) (fun c273 => absurd (by decide) c273)
                refine tw_aload_n 0 dX10_mine_84 rfl rfl ?_
                obtain ⟨e274, f275, th_276, td_277, ds_278, fr_279, ca_280, us_281, wo_282, cm_283, lc_284, lh_285, ld_286, rfl, k287, k288, k289, k290, k291, k292, k293, k294, k295, k296, k297, k298, k299, k300, k301, k302, k303, k304⟩ := sp266.1 x 36 kx (by decide)
                refine tw_get (v := .ref cm_283) rfl in_14 8 dX10_mine_85 w_1159 rfl (by decide) f275 rfl ?_
                refine tw_iload_n 2 dX10_mine_88 rfl rfl ?_
                refine tw_dup2 dX10_mine_89 rfl rfl ?_
                obtain ⟨e305, f306, F307, rfl⟩ := sp266.1 cm_283 31 k292 (by decide)
                obtain ⟨v308, ev308⟩ : ∃ y : Int64, F307 (m).toNatClampNeg = y := ⟨_, rfl⟩
                refine tw_lald (v := v308) dX10_mine_90 f306 (tw_in01 q59m (by decide)) ev308 ?_
                refine tw_iload_n 3 dX10_mine_91 rfl rfl ?_
                refine tw_i2l dX10_mine_92 ?_
                refine tw_nml (fun v309 ev309 => ?_)
                refine tw_ladd dX10_mine_93 ?_
                refine tw_nml (fun v310 ev310 => ?_)
                refine tw_last dX10_mine_94 f306 (tw_in01 q59m (by decide)) ?_
                obtain ⟨h311, eh311⟩ : ∃ z : tw_H, z = tw_up h259 cm_283 (.inl (d.2 1, 2, .inr (.inl (vp_updL F307 (m).toNatClampNeg v310)))) := ⟨_, rfl⟩
                rw [← eh311]
                have sp312 : tw_sp d τ h g τ h311 := by rw [eh311]; exact sp266.set k292 (by decide) ⟨_, rfl⟩
                refine tw_aload_n 0 dX10_mine_95 rfl rfl ?_
                obtain ⟨e313, f314, th_315, td_316, ds_317, fr_318, ca_319, us_320, wo_321, cm_322, lc_323, lh_324, ld_325, rfl, k326, k327, k328, k329, k330, k331, k332, k333, k334, k335, k336, k337, k338, k339, k340, k341, k342, k343⟩ := sp312.1 x 36 kx (by decide)
                refine tw_get (v := .ref lc_323) rfl in_14 9 dX10_mine_96 w_1160 rfl (by decide) f314 rfl ?_
                refine tw_iload_n 1 dX10_mine_99 rfl rfl ?_
                obtain ⟨e344, f345, ⟨el346, rfl, k347⟩, k348⟩ := sp312.1 lc_323 24 k332 (by decide)
                refine tw_br (tw_callV (M := mX10_mine) (pc := 100) okJx4a65c_get_915e3 dX10_mine_100 w_1296 rfl f345 [.int (nI j35)] [] rfl rfl ⟨by decide, by decide⟩ (Nat.le_of_ble_eq_true rfl) (c24_get d g τ h311 sp312.1 lc_323 k332 j35 (by omega) (by omega)) 0 0 (Nat.le_of_ble_eq_true rfl) (Nat.le_of_ble_eq_true rfl)) (fun r351 h350 q349 => ?_) (fun E h1 q => q.elim)
                obtain ⟨q349e, q349k⟩ := q349
                rw [q349e]
                have el352 : tw_el h311 (g.2 12) j35 = r351 := by rw [← k348]; exact q349k.2.symm
                have kl353 : τ (g.2 12) = 24 := by rw [← k348]; exact k332
                obtain ⟨e354, f355, r_356, c_357, v_358, o_359, t_360, rfl, k361, k362, k363, k364, k365, k366⟩ := sp312.1 r351 21 q349k.1 (by decide)
                refine tw_castS (ci := 11) rfl dX10_mine_103 w_1212 f355 ?_
                refine tw_get (v := .ref v_358) rfl in_11 2 dX10_mine_106 w_1221 rfl (by decide) f355 rfl ?_
                refine tw_iload_n 2 dX10_mine_109 rfl rfl ?_
                refine tw_dup2 dX10_mine_110 rfl rfl ?_
                obtain ⟨e367, f368, F369, rfl⟩ := sp312.1 v_358 31 k361 (by decide)
                obtain ⟨v370, ev370⟩ : ∃ y : Int64, F369 (m).toNatClampNeg = y := ⟨_, rfl⟩
                refine tw_lald (v := v370) dX10_mine_111 f368 (tw_in01 q59m (by decide)) ev370 ?_
                refine tw_iload_n 3 dX10_mine_112 rfl rfl ?_
                refine tw_i2l dX10_mine_113 ?_
                refine tw_nml (fun v371 ev371 => ?_)
                refine tw_ladd dX10_mine_114 ?_
                refine tw_nml (fun v372 ev372 => ?_)
                refine tw_last dX10_mine_115 f368 (tw_in01 q59m (by decide)) ?_
                obtain ⟨h373, eh373⟩ : ∃ z : tw_H, z = tw_up h311 v_358 (.inl (d.2 1, 2, .inr (.inl (vp_updL F369 (m).toNatClampNeg v372)))) := ⟨_, rfl⟩
                rw [← eh373]
                have sp374 : tw_sp d τ h g τ h373 := by rw [eh373]; exact sp312.set k361 (by decide) ⟨_, rfl⟩
                refine tw_aload_n 0 dX10_mine_116 rfl rfl ?_
                obtain ⟨e375, f376, th_377, td_378, ds_379, fr_380, ca_381, us_382, wo_383, cm_384, lc_385, lh_386, ld_387, rfl, k388, k389, k390, k391, k392, k393, k394, k395, k396, k397, k398, k399, k400, k401, k402, k403, k404, k405⟩ := sp374.1 x 36 kx (by decide)
                refine tw_get (v := .ref lc_385) rfl in_14 9 dX10_mine_117 w_1160 rfl (by decide) f376 rfl ?_
                refine tw_iload_n 1 dX10_mine_120 rfl rfl ?_
                obtain ⟨e406, f407, ⟨el408, rfl, k409⟩, k410⟩ := sp374.1 lc_385 24 k394 (by decide)
                refine tw_br (tw_callV (M := mX10_mine) (pc := 121) okJx4a65c_get_915e3 dX10_mine_121 w_1296 rfl f407 [.int (nI j35)] [] rfl rfl ⟨by decide, by decide⟩ (Nat.le_of_ble_eq_true rfl) (c24_get d g τ h373 sp374.1 lc_385 k394 j35 (by omega) (by omega)) 0 0 (Nat.le_of_ble_eq_true rfl) (Nat.le_of_ble_eq_true rfl)) (fun r413 h412 q411 => ?_) (fun E h1 q => q.elim)
                obtain ⟨q411e, q411k⟩ := q411
                rw [q411e]
                have el414 : tw_el h373 (g.2 12) j35 = r413 := by rw [← k410]; exact q411k.2.symm
                have kl415 : τ (g.2 12) = 24 := by rw [← k410]; exact k394
                obtain ⟨e416, f417, r_418, c_419, v_420, o_421, t_422, rfl, k423, k424, k425, k426, k427, k428⟩ := sp374.1 r413 21 q411k.1 (by decide)
                refine tw_castS (ci := 11) rfl dX10_mine_124 w_1212 f417 ?_
                refine tw_get (v := .ref v_420) rfl in_11 2 dX10_mine_127 w_1221 rfl (by decide) f417 rfl ?_
                refine tw_iload_n 2 dX10_mine_130 rfl rfl ?_
                obtain ⟨e429, f430, F431, rfl⟩ := sp374.1 v_420 31 k423 (by decide)
                obtain ⟨v432, ev432⟩ : ∃ y : Int64, F431 (m).toNatClampNeg = y := ⟨_, rfl⟩
                refine tw_lald (v := v432) dX10_mine_131 f430 (tw_in01 q59m (by decide)) ev432 ?_
                refine tw_l2i dX10_mine_132 ?_
                refine tw_nmi (fun v433 ev433 => ?_)
                exact tw_iret dX10_mine_133 rfl (Or.inl ⟨_, rfl, sp374⟩)
            · refine tw_iconst (v := 1) dX10_mine_70 (by decide) ?_
              refine tw_goto 75 dX10_mine_71 (by decide) ?_
              refine tw_iconst (v := 3) dX10_mine_75 (by decide) ?_
              refine tw_bi (tw_callV (M := mX10_mine) (pc := 76) okX10_refuse dX10_mine_76 w_1204 rfl f197 [.int 1, .int 3] [] rfl rfl ⟨by decide, by decide⟩ (Nat.le_of_ble_eq_true rfl) (c_X10_refuse d g τ h185 sp192.1 x kx 1 3 (by decide)) 0 0 (Nat.le_of_ble_eq_true rfl) (Nat.le_of_ble_eq_true rfl)) (fun r436 h435 q434 => ?_) (fun E h1 q => q.elim)
              obtain ⟨e437, he438, hs439, hr440, h3441⟩ := q434
              have sp442 : tw_sp d τ h g τ h435 := by rw [he438]; exact sp192.set kx (by decide) hs439
              have f443 : h435 lc_206 = some (.inr (3, [.int (g.1 3), .ref el229, .int (nI (g.2 3))])) := by rw [he438, tw_up_n (fun q => absurd (k215) (by rw [q, kx]; decide))]; exact f228
              have f444 : h435 r234 = some (.inr (11, [.int r_239, .int c_240, .ref v_241, .ref o_242, .ref t_243])) := by rw [he438, tw_up_n (fun q => absurd (q232k.1) (by rw [q, kx]; decide))]; exact f238
              have f445 : h435 v_241 = some (.inl (d.2 1, 2, .inr (.inl F252))) := by rw [he438, tw_up_n (fun q => absurd (k244) (by rw [q, kx]; decide))]; exact f251
              have el446 : tw_el h435 (g.2 12) j35 = r234 := by rw [he438]; exact (tw_el24_up sp192.1 kl236 (by omega) (by rw [kx]; decide) (by rw [kx]; decide)).trans el235
              rcases hr440 with ei447 | ⟨ei447, ei447b⟩
              · rw [ei447]
                refine tw_if_eq 84 dX10_mine_79 (by decide) (fun c448 => absurd c448 (by decide)) (fun _ => ?_)
                refine tw_iconst (v := 0) dX10_mine_82 (by decide) ?_
                exact tw_iret dX10_mine_83 rfl (Or.inl ⟨_, rfl, sp442⟩)
              · exact absurd ei447b (by decide)

set_option maxHeartbeats 4000000 in
set_option maxRecDepth 100000 in
theorem c_X10_use (d : tw_D) (g : tw_G) (τ : tw_K) (h : tw_H) (hw : tw_wt d g τ h) (x : Nat) (kx : τ x = 36) (n : Int32) (m : Int32) (gr : Int32) : tw_Ct d mX10_use 0 0 [.ref x, .int n, .int m, .int gr] h (tw_qi (fun r h1 => tw_sp d τ h g τ h1) tw_nx) := by
  refine tw_of (by decide +kernel) (Nat.le_of_ble_eq_true rfl) ?_
  show tw_W d mX10_use _ 0 [(0, .ref x), (1, .int n), (2, .int m), (3, .int gr)] [] h 0 0
  have sp0 := tw_sp.rf hw
  refine tw_aload_n 0 dX10_use_0 rfl rfl ?_
  refine tw_aload_n 0 dX10_use_1 rfl rfl ?_
  refine tw_iload_n 1 dX10_use_2 rfl rfl ?_
  obtain ⟨e1, f2, th_3, td_4, ds_5, fr_6, ca_7, us_8, wo_9, cm_10, lc_11, lh_12, ld_13, rfl, k14, k15, k16, k17, k18, k19, k20, k21, k22, k23, k24, k25, k26, k27, k28, k29, k30, k31⟩ := sp0.1 x 36 kx (by decide)
  refine tw_bi (tw_callV (M := mX10_use) (pc := 3) okX10_isNoCountry dX10_use_3 w_1292 rfl f2 [.int n] [.ref x] rfl rfl ⟨by decide, by decide⟩ (Nat.le_of_ble_eq_true rfl) (c_X10_isNoCountry d g τ h sp0.1 x kx n) 0 0 (Nat.le_of_ble_eq_true rfl) (Nat.le_of_ble_eq_true rfl)) (fun r34 h33 q32 => ?_) (fun E h1 q => q.elim)
  obtain ⟨q32e, q32d⟩ := q32
  rw [q32e]
  rcases q32d with q32r | ⟨q32r, j35, q32j, q32k⟩
  · rw [q32r]
    refine tw_iconst (v := 1) dX10_use_6 (by decide) ?_
    refine tw_bi (tw_callV (M := mX10_use) (pc := 7) okX10_start dX10_use_7 w_1200 rfl f2 [.int 1, .int 1] [] rfl rfl ⟨by decide, by decide⟩ (Nat.le_of_ble_eq_true rfl) (c_X10_start d g τ h sp0.1 x kx 1 1 (by decide)) 0 0 (Nat.le_of_ble_eq_true rfl) (Nat.le_of_ble_eq_true rfl)) (fun r38 h37 q36 => ?_) (fun E h1 q => q.elim)
    obtain ⟨e39, he40, hs41, hr42, h343⟩ := q36
    have sp44 : tw_sp d τ h g τ h37 := by rw [he40]; exact sp0.set kx (by decide) hs41
    rcases hr42 with ei45 | ⟨ei45, ei45b⟩
    · rw [ei45]
      refine tw_if_ne 78 dX10_use_10 (by decide) (fun _ => ?_) (fun c46 => absurd c46 (by decide))
      refine tw_iconst (v := 0) dX10_use_78 (by decide) ?_
      exact tw_iret dX10_use_79 rfl (Or.inl ⟨_, rfl, sp44⟩)
    · exact absurd ei45b (by decide)
  · rw [q32r]
    subst q32k
    refine tw_iconst (v := 1) dX10_use_6 (by decide) ?_
    refine tw_bi (tw_callV (M := mX10_use) (pc := 7) okX10_start dX10_use_7 w_1200 rfl f2 [.int 0, .int 1] [] rfl rfl ⟨by decide, by decide⟩ (Nat.le_of_ble_eq_true rfl) (c_X10_start d g τ h sp0.1 x kx 0 1 (by decide)) 0 0 (Nat.le_of_ble_eq_true rfl) (Nat.le_of_ble_eq_true rfl)) (fun r49 h48 q47 => ?_) (fun E h1 q => q.elim)
    obtain ⟨e50, he51, hs52, hr53, h354⟩ := q47
    have sp55 : tw_sp d τ h g τ h48 := by rw [he51]; exact sp0.set kx (by decide) hs52
    rcases hr53 with ei56 | ⟨ei56, ei56b⟩
    · rw [ei56]
      refine tw_if_ne 78 dX10_use_10 (by decide) (fun _ => ?_) (fun c57 => absurd c57 (by decide))
      refine tw_iconst (v := 0) dX10_use_78 (by decide) ?_
      exact tw_iret dX10_use_79 rfl (Or.inl ⟨_, rfl, sp55⟩)
    · rw [ei56]
      refine tw_if_ne 78 dX10_use_10 (by decide) (fun c58 => absurd (by decide) c58) (fun _ => ?_)
      refine tw_aload_n 0 dX10_use_13 rfl rfl ?_
      refine tw_iload_n 2 dX10_use_14 rfl rfl ?_
      refine tw_bi (tw_callS (M := mX10_use) (pc := 15) okX10_isNoMetal dX10_use_15 w_1312 [.int m] [.ref x] rfl rfl ⟨by decide, by decide⟩ (Nat.le_of_ble_eq_true rfl) (c_X10_isNoMetal d g τ h48 sp55.1 m) 0 0 (Nat.le_of_ble_eq_true rfl) (Nat.le_of_ble_eq_true rfl)) (fun r61 h60 q59 => ?_) (fun E h1 q => q.elim)
      obtain ⟨q59e, q59d⟩ := q59
      rw [q59e]
      rcases q59d with q59r | ⟨q59r, q59m⟩
      · rw [q59r]
        refine tw_if_ne 31 dX10_use_18 (by decide) (fun _ => ?_) (fun c62 => absurd c62 (by decide))
        refine tw_iconst (v := 1) dX10_use_31 (by decide) ?_
        refine tw_goto 36 dX10_use_32 (by decide) ?_
        refine tw_iconst (v := 2) dX10_use_36 (by decide) ?_
        obtain ⟨e63, f64, th_65, td_66, ds_67, fr_68, ca_69, us_70, wo_71, cm_72, lc_73, lh_74, ld_75, rfl, k76, k77, k78, k79, k80, k81, k82, k83, k84, k85, k86, k87, k88, k89, k90, k91, k92, k93⟩ := sp55.1 x 36 kx (by decide)
        refine tw_bi (tw_callV (M := mX10_use) (pc := 37) okX10_refuse dX10_use_37 w_1204 rfl f64 [.int 1, .int 2] [] rfl rfl ⟨by decide, by decide⟩ (Nat.le_of_ble_eq_true rfl) (c_X10_refuse d g τ h48 sp55.1 x kx 1 2 (by decide)) 0 0 (Nat.le_of_ble_eq_true rfl) (Nat.le_of_ble_eq_true rfl)) (fun r96 h95 q94 => ?_) (fun E h1 q => q.elim)
        obtain ⟨e97, he98, hs99, hr100, h3101⟩ := q94
        have sp102 : tw_sp d τ h g τ h95 := by rw [he98]; exact sp55.set kx (by decide) hs99
        rcases hr100 with ei103 | ⟨ei103, ei103b⟩
        · rw [ei103]
          refine tw_if_ne 78 dX10_use_40 (by decide) (fun _ => ?_) (fun c104 => absurd c104 (by decide))
          refine tw_iconst (v := 0) dX10_use_78 (by decide) ?_
          exact tw_iret dX10_use_79 rfl (Or.inl ⟨_, rfl, sp102⟩)
        · exact absurd ei103b (by decide)
      · rw [q59r]
        refine tw_if_ne 31 dX10_use_18 (by decide) (fun c105 => absurd (by decide) c105) (fun _ => ?_)
        refine tw_iload_n 3 dX10_use_21 rfl rfl ?_
        refine tw_iconst (v := 1) dX10_use_22 (by decide) ?_
        refine tw_ldc (v := 99999) dX10_use_23 w_1199 ?_
        refine tw_bi (tw_callS (M := mX10_use) (pc := 25) okX10_isIn dX10_use_25 w_1196 [.int gr, .int 1, .int 99999] [.ref x] rfl rfl ⟨by decide, by decide⟩ (Nat.le_of_ble_eq_true rfl) (c_X10_isIn d g τ h48 sp55.1 gr 1 99999) 0 0 (Nat.le_of_ble_eq_true rfl) (Nat.le_of_ble_eq_true rfl)) (fun r108 h107 q106 => ?_) (fun E h1 q => q.elim)
        obtain ⟨q106e, q106d⟩ := q106
        rw [q106e]
        rcases q106d with ⟨q106r, q106n⟩ | ⟨q106r, q106a, q106b⟩
        · rw [q106r]
          refine tw_if_ne 35 dX10_use_28 (by decide) (fun c109 => absurd (by decide) c109) (fun _ => ?_)
          refine tw_iconst (v := 1) dX10_use_31 (by decide) ?_
          refine tw_goto 36 dX10_use_32 (by decide) ?_
          refine tw_iconst (v := 2) dX10_use_36 (by decide) ?_
          obtain ⟨e110, f111, th_112, td_113, ds_114, fr_115, ca_116, us_117, wo_118, cm_119, lc_120, lh_121, ld_122, rfl, k123, k124, k125, k126, k127, k128, k129, k130, k131, k132, k133, k134, k135, k136, k137, k138, k139, k140⟩ := sp55.1 x 36 kx (by decide)
          refine tw_bi (tw_callV (M := mX10_use) (pc := 37) okX10_refuse dX10_use_37 w_1204 rfl f111 [.int 1, .int 2] [] rfl rfl ⟨by decide, by decide⟩ (Nat.le_of_ble_eq_true rfl) (c_X10_refuse d g τ h48 sp55.1 x kx 1 2 (by decide)) 0 0 (Nat.le_of_ble_eq_true rfl) (Nat.le_of_ble_eq_true rfl)) (fun r143 h142 q141 => ?_) (fun E h1 q => q.elim)
          obtain ⟨e144, he145, hs146, hr147, h3148⟩ := q141
          have sp149 : tw_sp d τ h g τ h142 := by rw [he145]; exact sp55.set kx (by decide) hs146
          rcases hr147 with ei150 | ⟨ei150, ei150b⟩
          · rw [ei150]
            refine tw_if_ne 78 dX10_use_40 (by decide) (fun _ => ?_) (fun c151 => absurd c151 (by decide))
            refine tw_iconst (v := 0) dX10_use_78 (by decide) ?_
            exact tw_iret dX10_use_79 rfl (Or.inl ⟨_, rfl, sp149⟩)
          · exact absurd ei150b (by decide)
        · rw [q106r]
          refine tw_if_ne 35 dX10_use_28 (by decide) (fun _ => ?_) (fun c152 => absurd c152 (by decide))
          refine tw_iconst (v := 0) dX10_use_35 (by decide) ?_
          refine tw_iconst (v := 2) dX10_use_36 (by decide) ?_
          obtain ⟨e153, f154, th_155, td_156, ds_157, fr_158, ca_159, us_160, wo_161, cm_162, lc_163, lh_164, ld_165, rfl, k166, k167, k168, k169, k170, k171, k172, k173, k174, k175, k176, k177, k178, k179, k180, k181, k182, k183⟩ := sp55.1 x 36 kx (by decide)
          refine tw_bi (tw_callV (M := mX10_use) (pc := 37) okX10_refuse dX10_use_37 w_1204 rfl f154 [.int 0, .int 2] [] rfl rfl ⟨by decide, by decide⟩ (Nat.le_of_ble_eq_true rfl) (c_X10_refuse d g τ h48 sp55.1 x kx 0 2 (by decide)) 0 0 (Nat.le_of_ble_eq_true rfl) (Nat.le_of_ble_eq_true rfl)) (fun r186 h185 q184 => ?_) (fun E h1 q => q.elim)
          obtain ⟨e187, he188, hs189, hr190, h3191⟩ := q184
          have sp192 : tw_sp d τ h g τ h185 := by rw [he188]; exact sp55.set kx (by decide) hs189
          rcases hr190 with ei193 | ⟨ei193, ei193b⟩
          · rw [ei193]
            refine tw_if_ne 78 dX10_use_40 (by decide) (fun _ => ?_) (fun c194 => absurd c194 (by decide))
            refine tw_iconst (v := 0) dX10_use_78 (by decide) ?_
            exact tw_iret dX10_use_79 rfl (Or.inl ⟨_, rfl, sp192⟩)
          · rw [ei193]
            refine tw_if_ne 78 dX10_use_40 (by decide) (fun c195 => absurd (by decide) c195) (fun _ => ?_)
            refine tw_aload_n 0 dX10_use_43 rfl rfl ?_
            refine tw_aload_n 0 dX10_use_44 rfl rfl ?_
            obtain ⟨e196, f197, th_198, td_199, ds_200, fr_201, ca_202, us_203, wo_204, cm_205, lc_206, lh_207, ld_208, rfl, k209, k210, k211, k212, k213, k214, k215, k216, k217, k218, k219, k220, k221, k222, k223, k224, k225, k226⟩ := sp192.1 x 36 kx (by decide)
            refine tw_get (v := .ref lc_206) rfl in_14 9 dX10_use_45 w_1160 rfl (by decide) f197 rfl ?_
            refine tw_iload_n 1 dX10_use_48 rfl rfl ?_
            obtain ⟨e227, f228, ⟨el229, rfl, k230⟩, k231⟩ := sp192.1 lc_206 24 k215 (by decide)
            refine tw_br (tw_callV (M := mX10_use) (pc := 49) okJx4a65c_get_915e3 dX10_use_49 w_1296 rfl f228 [.int (nI j35)] [.ref x] rfl rfl ⟨by decide, by decide⟩ (Nat.le_of_ble_eq_true rfl) (c24_get d g τ h185 sp192.1 lc_206 k215 j35 (by omega) (by omega)) 0 0 (Nat.le_of_ble_eq_true rfl) (Nat.le_of_ble_eq_true rfl)) (fun r234 h233 q232 => ?_) (fun E h1 q => q.elim)
            obtain ⟨q232e, q232k⟩ := q232
            rw [q232e]
            have el235 : tw_el h185 (g.2 12) j35 = r234 := by rw [← k231]; exact q232k.2.symm
            have kl236 : τ (g.2 12) = 24 := by rw [← k231]; exact k215
            obtain ⟨e237, f238, r_239, c_240, v_241, o_242, t_243, rfl, k244, k245, k246, k247, k248, k249⟩ := sp192.1 r234 21 q232k.1 (by decide)
            refine tw_castS (ci := 11) rfl dX10_use_52 w_1212 f238 ?_
            refine tw_get (v := .ref v_241) rfl in_11 2 dX10_use_55 w_1221 rfl (by decide) f238 rfl ?_
            refine tw_iload_n 2 dX10_use_58 rfl rfl ?_
            obtain ⟨e250, f251, F252, rfl⟩ := sp192.1 v_241 31 k244 (by decide)
            obtain ⟨v253, ev253⟩ : ∃ y : Int64, F252 (m).toNatClampNeg = y := ⟨_, rfl⟩
            refine tw_lald (v := v253) dX10_use_59 f251 (tw_in01 q59m (by decide)) ev253 ?_
            refine tw_iload_n 3 dX10_use_60 rfl rfl ?_
            refine tw_i2l dX10_use_61 ?_
            refine tw_nml (fun v254 ev254 => ?_)
            refine tw_lcmp dX10_use_62 ?_
            refine tw_nmi (fun v255 ev255 => ?_)
            refine tw_if_ge 70 dX10_use_63 (by decide) (fun c256 => ?_) (fun c256 => ?_)
            · refine tw_iconst (v := 0) dX10_use_70 (by decide) ?_
              refine tw_iconst (v := 3) dX10_use_71 (by decide) ?_
              refine tw_bi (tw_callV (M := mX10_use) (pc := 72) okX10_refuse dX10_use_72 w_1204 rfl f197 [.int 0, .int 3] [] rfl rfl ⟨by decide, by decide⟩ (Nat.le_of_ble_eq_true rfl) (c_X10_refuse d g τ h185 sp192.1 x kx 0 3 (by decide)) 0 0 (Nat.le_of_ble_eq_true rfl) (Nat.le_of_ble_eq_true rfl)) (fun r259 h258 q257 => ?_) (fun E h1 q => q.elim)
              obtain ⟨e260, he261, hs262, hr263, h3264⟩ := q257
              have sp265 : tw_sp d τ h g τ h258 := by rw [he261]; exact sp192.set kx (by decide) hs262
              have f266 : h258 lc_206 = some (.inr (3, [.int (g.1 3), .ref el229, .int (nI (g.2 3))])) := by rw [he261, tw_up_n (fun q => absurd (k215) (by rw [q, kx]; decide))]; exact f228
              have f267 : h258 r234 = some (.inr (11, [.int r_239, .int c_240, .ref v_241, .ref o_242, .ref t_243])) := by rw [he261, tw_up_n (fun q => absurd (q232k.1) (by rw [q, kx]; decide))]; exact f238
              have f268 : h258 v_241 = some (.inl (d.2 1, 2, .inr (.inl F252))) := by rw [he261, tw_up_n (fun q => absurd (k244) (by rw [q, kx]; decide))]; exact f251
              have el269 : tw_el h258 (g.2 12) j35 = r234 := by rw [he261]; exact (tw_el24_up sp192.1 kl236 (by omega) (by rw [kx]; decide) (by rw [kx]; decide)).trans el235
              rcases hr263 with ei270 | ⟨ei270, ei270b⟩
              · rw [ei270]
                refine tw_if_eq 80 dX10_use_75 (by decide) (fun c271 => absurd c271 (by decide)) (fun _ => ?_)
                refine tw_iconst (v := 0) dX10_use_78 (by decide) ?_
                exact tw_iret dX10_use_79 rfl (Or.inl ⟨_, rfl, sp265⟩)
              · rw [ei270]
                refine tw_if_eq 80 dX10_use_75 (by decide) (fun _ => ?_) (fun c272 => absurd (by decide) c272)
                refine tw_aload_n 0 dX10_use_80 rfl rfl ?_
                obtain ⟨e273, f274, th_275, td_276, ds_277, fr_278, ca_279, us_280, wo_281, cm_282, lc_283, lh_284, ld_285, rfl, k286, k287, k288, k289, k290, k291, k292, k293, k294, k295, k296, k297, k298, k299, k300, k301, k302, k303⟩ := sp265.1 x 36 kx (by decide)
                refine tw_get (v := .ref us_280) rfl in_14 6 dX10_use_81 w_1157 rfl (by decide) f274 rfl ?_
                refine tw_iload_n 2 dX10_use_84 rfl rfl ?_
                refine tw_dup2 dX10_use_85 rfl rfl ?_
                obtain ⟨e304, f305, F306, rfl⟩ := sp265.1 us_280 31 k289 (by decide)
                obtain ⟨v307, ev307⟩ : ∃ y : Int64, F306 (m).toNatClampNeg = y := ⟨_, rfl⟩
                refine tw_lald (v := v307) dX10_use_86 f305 (tw_in01 q59m (by decide)) ev307 ?_
                refine tw_iload_n 3 dX10_use_87 rfl rfl ?_
                refine tw_i2l dX10_use_88 ?_
                refine tw_nml (fun v308 ev308 => ?_)
                refine tw_ladd dX10_use_89 ?_
                refine tw_nml (fun v309 ev309 => ?_)
                refine tw_last dX10_use_90 f305 (tw_in01 q59m (by decide)) ?_
                obtain ⟨h310, eh310⟩ : ∃ z : tw_H, z = tw_up h258 us_280 (.inl (d.2 1, 2, .inr (.inl (vp_updL F306 (m).toNatClampNeg v309)))) := ⟨_, rfl⟩
                rw [← eh310]
                have sp311 : tw_sp d τ h g τ h310 := by rw [eh310]; exact sp265.set k289 (by decide) ⟨_, rfl⟩
                refine tw_aload_n 0 dX10_use_91 rfl rfl ?_
                obtain ⟨e312, f313, th_314, td_315, ds_316, fr_317, ca_318, us_319, wo_320, cm_321, lc_322, lh_323, ld_324, rfl, k325, k326, k327, k328, k329, k330, k331, k332, k333, k334, k335, k336, k337, k338, k339, k340, k341, k342⟩ := sp311.1 x 36 kx (by decide)
                refine tw_get (v := .ref lc_322) rfl in_14 9 dX10_use_92 w_1160 rfl (by decide) f313 rfl ?_
                refine tw_iload_n 1 dX10_use_95 rfl rfl ?_
                obtain ⟨e343, f344, ⟨el345, rfl, k346⟩, k347⟩ := sp311.1 lc_322 24 k331 (by decide)
                refine tw_br (tw_callV (M := mX10_use) (pc := 96) okJx4a65c_get_915e3 dX10_use_96 w_1296 rfl f344 [.int (nI j35)] [] rfl rfl ⟨by decide, by decide⟩ (Nat.le_of_ble_eq_true rfl) (c24_get d g τ h310 sp311.1 lc_322 k331 j35 (by omega) (by omega)) 0 0 (Nat.le_of_ble_eq_true rfl) (Nat.le_of_ble_eq_true rfl)) (fun r350 h349 q348 => ?_) (fun E h1 q => q.elim)
                obtain ⟨q348e, q348k⟩ := q348
                rw [q348e]
                have el351 : tw_el h310 (g.2 12) j35 = r350 := by rw [← k347]; exact q348k.2.symm
                have kl352 : τ (g.2 12) = 24 := by rw [← k347]; exact k331
                obtain ⟨e353, f354, r_355, c_356, v_357, o_358, t_359, rfl, k360, k361, k362, k363, k364, k365⟩ := sp311.1 r350 21 q348k.1 (by decide)
                refine tw_castS (ci := 11) rfl dX10_use_99 w_1212 f354 ?_
                refine tw_get (v := .ref v_357) rfl in_11 2 dX10_use_102 w_1221 rfl (by decide) f354 rfl ?_
                refine tw_iload_n 2 dX10_use_105 rfl rfl ?_
                refine tw_dup2 dX10_use_106 rfl rfl ?_
                obtain ⟨e366, f367, F368, rfl⟩ := sp311.1 v_357 31 k360 (by decide)
                obtain ⟨v369, ev369⟩ : ∃ y : Int64, F368 (m).toNatClampNeg = y := ⟨_, rfl⟩
                refine tw_lald (v := v369) dX10_use_107 f367 (tw_in01 q59m (by decide)) ev369 ?_
                refine tw_iload_n 3 dX10_use_108 rfl rfl ?_
                refine tw_i2l dX10_use_109 ?_
                refine tw_nml (fun v370 ev370 => ?_)
                refine tw_lsub dX10_use_110 ?_
                refine tw_nml (fun v371 ev371 => ?_)
                refine tw_last dX10_use_111 f367 (tw_in01 q59m (by decide)) ?_
                obtain ⟨h372, eh372⟩ : ∃ z : tw_H, z = tw_up h310 v_357 (.inl (d.2 1, 2, .inr (.inl (vp_updL F368 (m).toNatClampNeg v371)))) := ⟨_, rfl⟩
                rw [← eh372]
                have sp373 : tw_sp d τ h g τ h372 := by rw [eh372]; exact sp311.set k360 (by decide) ⟨_, rfl⟩
                refine tw_aload_n 0 dX10_use_112 rfl rfl ?_
                obtain ⟨e374, f375, th_376, td_377, ds_378, fr_379, ca_380, us_381, wo_382, cm_383, lc_384, lh_385, ld_386, rfl, k387, k388, k389, k390, k391, k392, k393, k394, k395, k396, k397, k398, k399, k400, k401, k402, k403, k404⟩ := sp373.1 x 36 kx (by decide)
                refine tw_get (v := .ref lc_384) rfl in_14 9 dX10_use_113 w_1160 rfl (by decide) f375 rfl ?_
                refine tw_iload_n 1 dX10_use_116 rfl rfl ?_
                obtain ⟨e405, f406, ⟨el407, rfl, k408⟩, k409⟩ := sp373.1 lc_384 24 k393 (by decide)
                refine tw_br (tw_callV (M := mX10_use) (pc := 117) okJx4a65c_get_915e3 dX10_use_117 w_1296 rfl f406 [.int (nI j35)] [] rfl rfl ⟨by decide, by decide⟩ (Nat.le_of_ble_eq_true rfl) (c24_get d g τ h372 sp373.1 lc_384 k393 j35 (by omega) (by omega)) 0 0 (Nat.le_of_ble_eq_true rfl) (Nat.le_of_ble_eq_true rfl)) (fun r412 h411 q410 => ?_) (fun E h1 q => q.elim)
                obtain ⟨q410e, q410k⟩ := q410
                rw [q410e]
                have el413 : tw_el h372 (g.2 12) j35 = r412 := by rw [← k409]; exact q410k.2.symm
                have kl414 : τ (g.2 12) = 24 := by rw [← k409]; exact k393
                obtain ⟨e415, f416, r_417, c_418, v_419, o_420, t_421, rfl, k422, k423, k424, k425, k426, k427⟩ := sp373.1 r412 21 q410k.1 (by decide)
                refine tw_castS (ci := 11) rfl dX10_use_120 w_1212 f416 ?_
                refine tw_get (v := .ref v_419) rfl in_11 2 dX10_use_123 w_1221 rfl (by decide) f416 rfl ?_
                refine tw_iload_n 2 dX10_use_126 rfl rfl ?_
                obtain ⟨e428, f429, F430, rfl⟩ := sp373.1 v_419 31 k422 (by decide)
                obtain ⟨v431, ev431⟩ : ∃ y : Int64, F430 (m).toNatClampNeg = y := ⟨_, rfl⟩
                refine tw_lald (v := v431) dX10_use_127 f429 (tw_in01 q59m (by decide)) ev431 ?_
                refine tw_l2i dX10_use_128 ?_
                refine tw_nmi (fun v432 ev432 => ?_)
                exact tw_iret dX10_use_129 rfl (Or.inl ⟨_, rfl, sp373⟩)
            · refine tw_iconst (v := 1) dX10_use_66 (by decide) ?_
              refine tw_goto 71 dX10_use_67 (by decide) ?_
              refine tw_iconst (v := 3) dX10_use_71 (by decide) ?_
              refine tw_bi (tw_callV (M := mX10_use) (pc := 72) okX10_refuse dX10_use_72 w_1204 rfl f197 [.int 1, .int 3] [] rfl rfl ⟨by decide, by decide⟩ (Nat.le_of_ble_eq_true rfl) (c_X10_refuse d g τ h185 sp192.1 x kx 1 3 (by decide)) 0 0 (Nat.le_of_ble_eq_true rfl) (Nat.le_of_ble_eq_true rfl)) (fun r435 h434 q433 => ?_) (fun E h1 q => q.elim)
              obtain ⟨e436, he437, hs438, hr439, h3440⟩ := q433
              have sp441 : tw_sp d τ h g τ h434 := by rw [he437]; exact sp192.set kx (by decide) hs438
              have f442 : h434 lc_206 = some (.inr (3, [.int (g.1 3), .ref el229, .int (nI (g.2 3))])) := by rw [he437, tw_up_n (fun q => absurd (k215) (by rw [q, kx]; decide))]; exact f228
              have f443 : h434 r234 = some (.inr (11, [.int r_239, .int c_240, .ref v_241, .ref o_242, .ref t_243])) := by rw [he437, tw_up_n (fun q => absurd (q232k.1) (by rw [q, kx]; decide))]; exact f238
              have f444 : h434 v_241 = some (.inl (d.2 1, 2, .inr (.inl F252))) := by rw [he437, tw_up_n (fun q => absurd (k244) (by rw [q, kx]; decide))]; exact f251
              have el445 : tw_el h434 (g.2 12) j35 = r234 := by rw [he437]; exact (tw_el24_up sp192.1 kl236 (by omega) (by rw [kx]; decide) (by rw [kx]; decide)).trans el235
              rcases hr439 with ei446 | ⟨ei446, ei446b⟩
              · rw [ei446]
                refine tw_if_eq 80 dX10_use_75 (by decide) (fun c447 => absurd c447 (by decide)) (fun _ => ?_)
                refine tw_iconst (v := 0) dX10_use_78 (by decide) ?_
                exact tw_iret dX10_use_79 rfl (Or.inl ⟨_, rfl, sp441⟩)
              · exact absurd ei446b (by decide)

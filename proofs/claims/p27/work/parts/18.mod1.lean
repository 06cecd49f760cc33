/-! the class's methods over the typed heap. Laid by wip/p5/mkclass.py. -/
set_option maxHeartbeats 4000000 in
set_option maxRecDepth 100000 in
theorem c_X10_isIn (d : tw_D) (g : tw_G) (τ : tw_K) (h : tw_H) (hw : tw_wt d g τ h) (v : Int32) (lo : Int32) (hi : Int32) : tw_Ct d mX10_isIn 0 0 [.int v, .int lo, .int hi] h (tw_qi (fun r h1 => h1 = h ∧ (r = 0 ∧ ¬ (lo ≤ v ∧ v ≤ hi) ∨ r = 1 ∧ lo ≤ v ∧ v ≤ hi)) tw_nx) := by
  refine tw_of (by decide +kernel) (Nat.le_of_ble_eq_true rfl) ?_
  show tw_W d mX10_isIn _ 0 [(0, .int v), (1, .int lo), (2, .int hi)] [] h 0 0
  have sp0 := tw_sp.rf hw
  refine tw_iload_n 0 dX10_isIn_0 rfl rfl ?_
  refine tw_iload_n 1 dX10_isIn_1 rfl rfl ?_
  refine tw_icmp_lt 14 dX10_isIn_2 (by decide) (fun c1 => ?_) (fun c1 => ?_)
  · refine tw_iconst (v := 0) dX10_isIn_14 (by decide) ?_
    exact tw_zret dX10_isIn_15 rfl rfl (Or.inl ⟨_, rfl, ⟨rfl, Or.inl ⟨rfl, fun q => absurd q.1 (Int32.not_le.mpr c1)⟩⟩⟩)
  · refine tw_iload_n 0 dX10_isIn_5 rfl rfl ?_
    refine tw_iload_n 2 dX10_isIn_6 rfl rfl ?_
    refine tw_icmp_gt 14 dX10_isIn_7 (by decide) (fun c2 => ?_) (fun c2 => ?_)
    · refine tw_iconst (v := 0) dX10_isIn_14 (by decide) ?_
      exact tw_zret dX10_isIn_15 rfl rfl (Or.inl ⟨_, rfl, ⟨rfl, Or.inl ⟨rfl, fun q => absurd q.2 (Int32.not_le.mpr c2)⟩⟩⟩)
    · refine tw_iconst (v := 1) dX10_isIn_10 (by decide) ?_
      refine tw_goto 15 dX10_isIn_11 (by decide) ?_
      exact tw_zret dX10_isIn_15 rfl rfl (Or.inl ⟨_, rfl, ⟨rfl, Or.inr ⟨rfl, Int32.not_lt.mp c1, Int32.not_lt.mp c2⟩⟩⟩)

set_option maxHeartbeats 4000000 in
set_option maxRecDepth 100000 in
theorem c_X10_isNoMetal (d : tw_D) (g : tw_G) (τ : tw_K) (h : tw_H) (hw : tw_wt d g τ h) (m : Int32) : tw_Ct d mX10_isNoMetal 0 0 [.int m] h (tw_qi (fun r h1 => h1 = h ∧ (r = 1 ∨ r = 0 ∧ (m = 0 ∨ m = 1))) tw_nx) := by
  refine tw_of (by decide +kernel) (Nat.le_of_ble_eq_true rfl) ?_
  show tw_W d mX10_isNoMetal _ 0 [(0, .int m)] [] h 0 0
  have sp0 := tw_sp.rf hw
  refine tw_iload_n 0 dX10_isNoMetal_0 rfl rfl ?_
  refine tw_iconst (v := 0) dX10_isNoMetal_1 (by decide) ?_
  refine tw_iconst (v := 1) dX10_isNoMetal_2 (by decide) ?_
  refine tw_bi (tw_callS (M := mX10_isNoMetal) (pc := 3) okX10_isIn dX10_isNoMetal_3 w_1192 [.int m, .int 0, .int 1] [] rfl rfl ⟨by decide, by decide⟩ (Nat.le_of_ble_eq_true rfl) (c_X10_isIn d g τ h sp0.1 m 0 1) 0 0 (Nat.le_of_ble_eq_true rfl) (Nat.le_of_ble_eq_true rfl)) (fun r3 h2 q1 => ?_) (fun E h1 q => q.elim)
  obtain ⟨q1e, q1d⟩ := q1
  rw [q1e]
  rcases q1d with ⟨q1r, q1n⟩ | ⟨q1r, q1a, q1b⟩
  · rw [q1r]
    refine tw_if_ne 13 dX10_isNoMetal_6 (by decide) (fun c4 => absurd (by decide) c4) (fun _ => ?_)
    refine tw_iconst (v := 1) dX10_isNoMetal_9 (by decide) ?_
    refine tw_goto 14 dX10_isNoMetal_10 (by decide) ?_
    exact tw_zret dX10_isNoMetal_14 rfl rfl (Or.inl ⟨_, rfl, ⟨rfl, (Or.inl rfl)⟩⟩)
  · rw [q1r]
    refine tw_if_ne 13 dX10_isNoMetal_6 (by decide) (fun _ => ?_) (fun c5 => absurd c5 (by decide))
    refine tw_iconst (v := 0) dX10_isNoMetal_13 (by decide) ?_
    exact tw_zret dX10_isNoMetal_14 rfl rfl (Or.inl ⟨_, rfl, ⟨rfl, (Or.inr ⟨rfl, tw_m01 q1a q1b⟩)⟩⟩)

set_option maxHeartbeats 4000000 in
set_option maxRecDepth 100000 in
theorem c_X10_isNoCountry (d : tw_D) (g : tw_G) (τ : tw_K) (h : tw_H) (hw : tw_wt d g τ h) (x : Nat) (kx : τ x = 36) (k : Int32) : tw_Ct d mX10_isNoCountry 0 0 [.ref x, .int k] h (tw_qi (fun r h1 => h1 = h ∧ (r = 1 ∨ r = 0 ∧ ∃ j, j < g.2 3 ∧ k = nI j)) tw_nx) := by
  refine tw_of (by decide +kernel) (Nat.le_of_ble_eq_true rfl) ?_
  show tw_W d mX10_isNoCountry _ 0 [(0, .ref x), (1, .int k)] [] h 0 0
  have sp0 := tw_sp.rf hw
  refine tw_iload_n 1 dX10_isNoCountry_0 rfl rfl ?_
  refine tw_iconst (v := 0) dX10_isNoCountry_1 (by decide) ?_
  refine tw_aload_n 0 dX10_isNoCountry_2 rfl rfl ?_
  obtain ⟨e1, f2, th_3, td_4, ds_5, fr_6, ca_7, us_8, wo_9, cm_10, lc_11, lh_12, ld_13, rfl, k14, k15, k16, k17, k18, k19, k20, k21, k22, k23, k24, k25, k26, k27, k28, k29, k30, k31, k32, k33, k34, k35⟩ := sp0.1 x 36 kx (by decide)
  refine tw_get (v := .ref lc_11) rfl in_14 9 dX10_isNoCountry_3 w_1160 rfl (by decide) f2 rfl ?_
  obtain ⟨e36, f37, ⟨el38, rfl, k39⟩, k40⟩ := sp0.1 lc_11 24 k20 (by decide)
  refine tw_bi (tw_callV (M := mX10_isNoCountry) (pc := 6) okJx4a65c_size_8abf5 dX10_isNoCountry_6 w_1204 rfl f37 [] [.int 0, .int k] rfl rfl ⟨by decide, by decide⟩ (Nat.le_of_ble_eq_true rfl) (c24_size d g τ h sp0.1 lc_11 k20) 0 0 (Nat.le_of_ble_eq_true rfl) (Nat.le_of_ble_eq_true rfl)) (fun r43 h42 q41 => ?_) (fun E h1 q => q.elim)
  obtain ⟨q41e, q41r⟩ := q41
  rw [q41e, q41r]
  refine tw_iconst (v := 1) dX10_isNoCountry_9 (by decide) ?_
  refine tw_isub dX10_isNoCountry_10 ?_
  refine tw_nmi (fun v44 ev44 => ?_)
  refine tw_bi (tw_callS (M := mX10_isNoCountry) (pc := 11) okX10_isIn dX10_isNoCountry_11 w_1192 [.int k, .int 0, .int v44] [] rfl rfl ⟨by decide, by decide⟩ (Nat.le_of_ble_eq_true rfl) (c_X10_isIn d g τ h sp0.1 k 0 v44) 0 0 (Nat.le_of_ble_eq_true rfl) (Nat.le_of_ble_eq_true rfl)) (fun r47 h46 q45 => ?_) (fun E h1 q => q.elim)
  obtain ⟨q45e, q45d⟩ := q45
  rw [q45e]
  rcases q45d with ⟨q45r, q45n⟩ | ⟨q45r, q45a, q45b⟩
  · rw [q45r]
    refine tw_if_ne 21 dX10_isNoCountry_14 (by decide) (fun c48 => absurd (by decide) c48) (fun _ => ?_)
    refine tw_iconst (v := 1) dX10_isNoCountry_17 (by decide) ?_
    refine tw_goto 22 dX10_isNoCountry_18 (by decide) ?_
    exact tw_zret dX10_isNoCountry_22 rfl rfl (Or.inl ⟨_, rfl, ⟨rfl, (Or.inl rfl)⟩⟩)
  · rw [q45r]
    refine tw_if_ne 21 dX10_isNoCountry_14 (by decide) (fun _ => ?_) (fun c49 => absurd c49 (by decide))
    refine tw_iconst (v := 0) dX10_isNoCountry_21 (by decide) ?_
    exact tw_zret dX10_isNoCountry_22 rfl rfl (Or.inl ⟨_, rfl, ⟨rfl, (Or.inr ⟨rfl, tw_isc q45a q45b ev44 (by omega)⟩)⟩⟩)

set_option maxHeartbeats 4000000 in
set_option maxRecDepth 100000 in
theorem c_X10_isNoHouse (d : tw_D) (g : tw_G) (τ : tw_K) (h : tw_H) (hw : tw_wt d g τ h) (x : Nat) (kx : τ x = 36) (k : Int32) : tw_Ct d mX10_isNoHouse 0 0 [.ref x, .int k] h (tw_qi (fun r h1 => h1 = h ∧ (r = 1 ∨ r = 0 ∧ ∃ j, j < g.2 4 ∧ k = nI j)) tw_nx) := by
  refine tw_of (by decide +kernel) (Nat.le_of_ble_eq_true rfl) ?_
  show tw_W d mX10_isNoHouse _ 0 [(0, .ref x), (1, .int k)] [] h 0 0
  have sp0 := tw_sp.rf hw
  refine tw_iload_n 1 dX10_isNoHouse_0 rfl rfl ?_
  refine tw_iconst (v := 0) dX10_isNoHouse_1 (by decide) ?_
  refine tw_aload_n 0 dX10_isNoHouse_2 rfl rfl ?_
  obtain ⟨e1, f2, th_3, td_4, ds_5, fr_6, ca_7, us_8, wo_9, cm_10, lc_11, lh_12, ld_13, rfl, k14, k15, k16, k17, k18, k19, k20, k21, k22, k23, k24, k25, k26, k27, k28, k29, k30, k31, k32, k33, k34, k35⟩ := sp0.1 x 36 kx (by decide)
  refine tw_get (v := .ref lh_12) rfl in_14 10 dX10_isNoHouse_3 w_1161 rfl (by decide) f2 rfl ?_
  obtain ⟨e36, f37, ⟨el38, rfl, k39⟩, k40⟩ := sp0.1 lh_12 25 k21 (by decide)
  refine tw_bi (tw_callV (M := mX10_isNoHouse) (pc := 6) okJx4a65c_size_8abf5 dX10_isNoHouse_6 w_1204 rfl f37 [] [.int 0, .int k] rfl rfl ⟨by decide, by decide⟩ (Nat.le_of_ble_eq_true rfl) (c25_size d g τ h sp0.1 lh_12 k21) 0 0 (Nat.le_of_ble_eq_true rfl) (Nat.le_of_ble_eq_true rfl)) (fun r43 h42 q41 => ?_) (fun E h1 q => q.elim)
  obtain ⟨q41e, q41r⟩ := q41
  rw [q41e, q41r]
  refine tw_iconst (v := 1) dX10_isNoHouse_9 (by decide) ?_
  refine tw_isub dX10_isNoHouse_10 ?_
  refine tw_nmi (fun v44 ev44 => ?_)
  refine tw_bi (tw_callS (M := mX10_isNoHouse) (pc := 11) okX10_isIn dX10_isNoHouse_11 w_1192 [.int k, .int 0, .int v44] [] rfl rfl ⟨by decide, by decide⟩ (Nat.le_of_ble_eq_true rfl) (c_X10_isIn d g τ h sp0.1 k 0 v44) 0 0 (Nat.le_of_ble_eq_true rfl) (Nat.le_of_ble_eq_true rfl)) (fun r47 h46 q45 => ?_) (fun E h1 q => q.elim)
  obtain ⟨q45e, q45d⟩ := q45
  rw [q45e]
  rcases q45d with ⟨q45r, q45n⟩ | ⟨q45r, q45a, q45b⟩
  · rw [q45r]
    refine tw_if_ne 21 dX10_isNoHouse_14 (by decide) (fun c48 => absurd (by decide) c48) (fun _ => ?_)
    refine tw_iconst (v := 1) dX10_isNoHouse_17 (by decide) ?_
    refine tw_goto 22 dX10_isNoHouse_18 (by decide) ?_
    exact tw_zret dX10_isNoHouse_22 rfl rfl (Or.inl ⟨_, rfl, ⟨rfl, (Or.inl rfl)⟩⟩)
  · rw [q45r]
    refine tw_if_ne 21 dX10_isNoHouse_14 (by decide) (fun _ => ?_) (fun c49 => absurd c49 (by decide))
    refine tw_iconst (v := 0) dX10_isNoHouse_21 (by decide) ?_
    exact tw_zret dX10_isNoHouse_22 rfl rfl (Or.inl ⟨_, rfl, ⟨rfl, (Or.inr ⟨rfl, tw_isc q45a q45b ev44 (by omega)⟩)⟩⟩)

set_option maxHeartbeats 4000000 in
set_option maxRecDepth 100000 in
theorem c_X10_refuse (d : tw_D) (g : tw_G) (τ : tw_K) (h : tw_H) (hw : tw_wt d g τ h) (x : Nat) (kx : τ x = 36) (is w9 : Int32) (hw1 : 0 < w9) : tw_Ct d mX10_refuse 0 0 [.ref x, .int is, .int w9] h (tw_qi (fun r h1 => ∃ e, h1 = tw_up h x e ∧ tw_sh d g τ x 36 e ∧ (r = 1 ∨ r = 0 ∧ is = 0) ∧ (tw_th (h x) = 0 → (is = 0 → r = 0 ∧ tw_th (some e) = 0) ∧ (is = 1 → r = 1 ∧ tw_th (some e) = w9))) tw_nx) := by
  refine tw_of (by decide +kernel) (Nat.le_of_ble_eq_true rfl) ?_
  show tw_W d mX10_refuse _ 0 [(0, .ref x), (1, .int is), (2, .int w9)] [] h 0 0
  have sp0 := tw_sp.rf hw
  refine tw_iload_n 1 dX10_refuse_0 rfl rfl ?_
  refine tw_if_eq 16 dX10_refuse_1 (by decide) (fun c1 => ?_) (fun c1 => ?_)
  · refine tw_aload_n 0 dX10_refuse_16 rfl rfl ?_
    obtain ⟨e2, f3, th_4, td_5, ds_6, fr_7, ca_8, us_9, wo_10, cm_11, lc_12, lh_13, ld_14, rfl, k15, k16, k17, k18, k19, k20, k21, k22, k23, k24, k25, k26, k27, k28, k29, k30, k31, k32, k33, k34, k35, k36⟩ := sp0.1 x 36 kx (by decide)
    refine tw_get (v := .int th_4) rfl in_14 0 dX10_refuse_17 w_1151 rfl (by decide) f3 rfl ?_
    refine tw_if_le 27 dX10_refuse_20 (by decide) (fun c37 => ?_) (fun c37 => ?_)
    · refine tw_iconst (v := 0) dX10_refuse_27 (by decide) ?_
      exact tw_zret dX10_refuse_28 rfl rfl (Or.inl ⟨_, rfl, _, (tw_up_id f3).symm, ⟨th_4, td_5, ds_6, fr_7, ca_8, us_9, wo_10, cm_11, lc_12, lh_13, ld_14, rfl, k15, k16, k17, k18, k19, k20, k21, k22, k23, k24, k25, k26, k27, k28, k29, k30, k31, k32, k33, k34, k35, k36⟩, (Or.inr ⟨rfl, c1⟩), (by intro z; rw [f3] at z; have z : th_4 = 0 := z; exact ⟨fun _ => ⟨rfl, z⟩, fun q => absurd (q.symm.trans c1) (by decide)⟩)⟩)
    · refine tw_iconst (v := 1) dX10_refuse_23 (by decide) ?_
      refine tw_goto 28 dX10_refuse_24 (by decide) ?_
      exact tw_zret dX10_refuse_28 rfl rfl (Or.inl ⟨_, rfl, _, (tw_up_id f3).symm, ⟨th_4, td_5, ds_6, fr_7, ca_8, us_9, wo_10, cm_11, lc_12, lh_13, ld_14, rfl, k15, k16, k17, k18, k19, k20, k21, k22, k23, k24, k25, k26, k27, k28, k29, k30, k31, k32, k33, k34, k35, k36⟩, (Or.inl rfl), (by intro z; rw [f3] at z; have z : th_4 = 0 := z; exact absurd (by rw [z]; decide) c37)⟩)
  · refine tw_aload_n 0 dX10_refuse_4 rfl rfl ?_
    obtain ⟨e38, f39, th_40, td_41, ds_42, fr_43, ca_44, us_45, wo_46, cm_47, lc_48, lh_49, ld_50, rfl, k51, k52, k53, k54, k55, k56, k57, k58, k59, k60, k61, k62, k63, k64, k65, k66, k67, k68, k69, k70, k71, k72⟩ := sp0.1 x 36 kx (by decide)
    refine tw_get (v := .int th_40) rfl in_14 0 dX10_refuse_5 w_1151 rfl (by decide) f39 rfl ?_
    refine tw_if_ne 16 dX10_refuse_8 (by decide) (fun c73 => ?_) (fun c73 => ?_)
    · refine tw_aload_n 0 dX10_refuse_16 rfl rfl ?_
      refine tw_get (v := .int th_40) rfl in_14 0 dX10_refuse_17 w_1151 rfl (by decide) f39 rfl ?_
      refine tw_if_le 27 dX10_refuse_20 (by decide) (fun c74 => ?_) (fun c74 => ?_)
      · refine tw_iconst (v := 0) dX10_refuse_27 (by decide) ?_
        exact tw_zret dX10_refuse_28 rfl rfl (Or.inl ⟨_, rfl, _, (tw_up_id f39).symm, ⟨th_40, td_41, ds_42, fr_43, ca_44, us_45, wo_46, cm_47, lc_48, lh_49, ld_50, rfl, k51, k52, k53, k54, k55, k56, k57, k58, k59, k60, k61, k62, k63, k64, k65, k66, k67, k68, k69, k70, k71, k72⟩, (absurd (Int32.le_antisymm c74 k64) c73), (by intro z; rw [f39] at z; have z : th_40 = 0 := z; exact absurd z c73)⟩)
      · refine tw_iconst (v := 1) dX10_refuse_23 (by decide) ?_
        refine tw_goto 28 dX10_refuse_24 (by decide) ?_
        exact tw_zret dX10_refuse_28 rfl rfl (Or.inl ⟨_, rfl, _, (tw_up_id f39).symm, ⟨th_40, td_41, ds_42, fr_43, ca_44, us_45, wo_46, cm_47, lc_48, lh_49, ld_50, rfl, k51, k52, k53, k54, k55, k56, k57, k58, k59, k60, k61, k62, k63, k64, k65, k66, k67, k68, k69, k70, k71, k72⟩, (Or.inl rfl), (by intro z; rw [f39] at z; have z : th_40 = 0 := z; exact absurd z c73)⟩)
    · refine tw_aload_n 0 dX10_refuse_11 rfl rfl ?_
      refine tw_iload_n 2 dX10_refuse_12 rfl rfl ?_
      refine tw_put rfl in_14 tyX10 tyX10_ok nmX10 0 dX10_refuse_13 w_1151 rfl (by decide) f39 rfl rfl rfl rfl (Nat.le_of_ble_eq_true rfl) [.int w9, .int td_41, .int (g.1 1), .ref ds_42, .ref fr_43, .ref ca_44, .ref us_45, .ref wo_46, .ref cm_47, .ref lc_48, .ref lh_49, .ref ld_50] rfl ?_
      obtain ⟨h75, eh75⟩ : ∃ z : tw_H, z = tw_up h x (.inr (14, [.int w9, .int td_41, .int (g.1 1), .ref ds_42, .ref fr_43, .ref ca_44, .ref us_45, .ref wo_46, .ref cm_47, .ref lc_48, .ref lh_49, .ref ld_50])) := ⟨_, rfl⟩
      rw [← eh75]
      have f76 : h75 x = some (.inr (14, [.int w9, .int td_41, .int (g.1 1), .ref ds_42, .ref fr_43, .ref ca_44, .ref us_45, .ref wo_46, .ref cm_47, .ref lc_48, .ref lh_49, .ref ld_50])) := by rw [eh75]; exact tw_up_s
      refine tw_aload_n 0 dX10_refuse_16 rfl rfl ?_
      refine tw_get (v := .int w9) rfl in_14 0 dX10_refuse_17 w_1151 rfl (by decide) f76 rfl ?_
      refine tw_if_le 27 dX10_refuse_20 (by decide) (fun c77 => ?_) (fun c77 => ?_)
      · refine tw_iconst (v := 0) dX10_refuse_27 (by decide) ?_
        exact tw_zret dX10_refuse_28 rfl rfl (Or.inl ⟨_, rfl, _, eh75, ⟨w9, td_41, ds_42, fr_43, ca_44, us_45, wo_46, cm_47, lc_48, lh_49, ld_50, rfl, k51, k52, k53, k54, k55, k56, k57, k58, k59, k60, k61, k62, k63, (Int32.le_of_lt hw1), k65, k66, k67, k68, k69, k70, k71, k72⟩, (absurd hw1 (Int32.not_lt.mpr c77)), (by intro z; rw [f39] at z; have z : th_40 = 0 := z; exact absurd hw1 (Int32.not_lt.mpr c77))⟩)
      · refine tw_iconst (v := 1) dX10_refuse_23 (by decide) ?_
        refine tw_goto 28 dX10_refuse_24 (by decide) ?_
        exact tw_zret dX10_refuse_28 rfl rfl (Or.inl ⟨_, rfl, _, eh75, ⟨w9, td_41, ds_42, fr_43, ca_44, us_45, wo_46, cm_47, lc_48, lh_49, ld_50, rfl, k51, k52, k53, k54, k55, k56, k57, k58, k59, k60, k61, k62, k63, (Int32.le_of_lt hw1), k65, k66, k67, k68, k69, k70, k71, k72⟩, (Or.inl rfl), (by intro z; rw [f39] at z; have z : th_40 = 0 := z; exact ⟨fun q => absurd q c1, fun _ => ⟨rfl, rfl⟩⟩)⟩)

set_option maxHeartbeats 4000000 in
set_option maxRecDepth 100000 in
theorem c_X10_start (d : tw_D) (g : tw_G) (τ : tw_K) (h : tw_H) (hw : tw_wt d g τ h) (x : Nat) (kx : τ x = 36) (is w9 : Int32) (hw1 : 0 < w9) : tw_Ct d mX10_start 0 0 [.ref x, .int is, .int w9] h (tw_qi (fun r h1 => ∃ e, h1 = tw_up h x e ∧ tw_sh d g τ x 36 e ∧ (r = 1 ∨ r = 0 ∧ is = 0) ∧ (is = 0 → r = 0 ∧ tw_th (some e) = 0) ∧ (is = 1 → r = 1 ∧ tw_th (some e) = w9)) tw_nx) := by
  refine tw_of (by decide +kernel) (Nat.le_of_ble_eq_true rfl) ?_
  show tw_W d mX10_start _ 0 [(0, .ref x), (1, .int is), (2, .int w9)] [] h 0 0
  have sp0 := tw_sp.rf hw
  refine tw_aload_n 0 dX10_start_0 rfl rfl ?_
  refine tw_iconst (v := 0) dX10_start_1 (by decide) ?_
  obtain ⟨e1, f2, th_3, td_4, ds_5, fr_6, ca_7, us_8, wo_9, cm_10, lc_11, lh_12, ld_13, rfl, k14, k15, k16, k17, k18, k19, k20, k21, k22, k23, k24, k25, k26, k27, k28, k29, k30, k31, k32, k33, k34, k35⟩ := sp0.1 x 36 kx (by decide)
  refine tw_put rfl in_14 tyX10 tyX10_ok nmX10 0 dX10_start_2 w_1151 rfl (by decide) f2 rfl rfl rfl rfl (Nat.le_of_ble_eq_true rfl) [.int 0, .int td_4, .int (g.1 1), .ref ds_5, .ref fr_6, .ref ca_7, .ref us_8, .ref wo_9, .ref cm_10, .ref lc_11, .ref lh_12, .ref ld_13] rfl ?_
  obtain ⟨h36, eh36⟩ : ∃ z : tw_H, z = tw_up h x (.inr (14, [.int 0, .int td_4, .int (g.1 1), .ref ds_5, .ref fr_6, .ref ca_7, .ref us_8, .ref wo_9, .ref cm_10, .ref lc_11, .ref lh_12, .ref ld_13])) := ⟨_, rfl⟩
  rw [← eh36]
  have sp1 : tw_wt d g τ h36 := by rw [eh36]; exact hw.set kx ⟨0, td_4, ds_5, fr_6, ca_7, us_8, wo_9, cm_10, lc_11, lh_12, ld_13, rfl, k14, k15, k16, k17, k18, k19, k20, k21, k22, k23, k24, k25, k26, (by decide), k28, k29, k30, k31, k32, k33, k34, k35⟩
  have f37 : h36 x = some (.inr (14, [.int 0, .int td_4, .int (g.1 1), .ref ds_5, .ref fr_6, .ref ca_7, .ref us_8, .ref wo_9, .ref cm_10, .ref lc_11, .ref lh_12, .ref ld_13])) := by rw [eh36]; exact tw_up_s
  refine tw_aload_n 0 dX10_start_5 rfl rfl ?_
  refine tw_iload_n 1 dX10_start_6 rfl rfl ?_
  refine tw_iload_n 2 dX10_start_7 rfl rfl ?_
  refine tw_bi (tw_callV (M := mX10_start) (pc := 8) okX10_refuse dX10_start_8 w_1200 rfl f37 [.int is, .int w9] [] rfl rfl ⟨by decide, by decide⟩ (Nat.le_of_ble_eq_true rfl) (c_X10_refuse d g τ h36 sp1 x kx is w9 hw1) 0 0 (Nat.le_of_ble_eq_true rfl) (Nat.le_of_ble_eq_true rfl)) (fun r h3 q => ?_) (fun E h3 q => q.elim)
  obtain ⟨e, he, hs, hr, h4⟩ := q
  exact tw_zret dX10_start_11 rfl (by rcases hr with z | z <;> (first | rw [z] | rw [z.1]) <;> rfl) (Or.inl ⟨_, rfl, e, (by rw [he, eh36]; exact tw_up_up), hs, hr, h4 (by rw [f37]; rfl)⟩)

set_option maxHeartbeats 4000000 in
set_option maxRecDepth 100000 in
theorem c_X10_up (d : tw_D) (g : tw_G) (τ : tw_K) (h : tw_H) (hw : tw_wt d g τ h) (a : Int64) (b : Int64) (hu : ¬ b = 0) : tw_Ct d mX10_up 0 0 [.long a, .long b] h (tw_ql (fun r h1 => h1 = h) tw_nx) := by
  refine tw_of (by decide +kernel) (Nat.le_of_ble_eq_true rfl) ?_
  show tw_W d mX10_up _ 0 [(0, .long a), (2, .long b)] [] h 0 0
  have sp0 := tw_sp.rf hw
  refine tw_lload_n 0 dX10_up_0 rfl rfl ?_
  refine tw_lload_n 1 dX10_up_1 rfl rfl ?_
  refine tw_ladd dX10_up_2 ?_
  refine tw_nml (fun v1 ev1 => ?_)
  refine tw_lconst (v := 1) dX10_up_3 (by decide) ?_
  refine tw_lsub dX10_up_4 ?_
  refine tw_nml (fun v2 ev2 => ?_)
  refine tw_lload_n 1 dX10_up_5 rfl rfl ?_
  refine tw_ldiv dX10_up_6 hu ?_
  refine tw_nml (fun v3 ev3 => ?_)
  exact tw_lret dX10_up_7 rfl (Or.inl ⟨_, rfl, rfl⟩)

set_option maxHeartbeats 4000000 in
set_option maxRecDepth 100000 in
theorem c_X10_given (d : tw_D) (g : tw_G) (τ : tw_K) (h : tw_H) (hw : tw_wt d g τ h) (x : Nat) (kx : τ x = 21) (m : Int32) (gr : Int64) : tw_Ct d mX10_given 0 0 [.ref x, .int m, .long gr] h (tw_ql (fun r h1 => h1 = h) tw_nx) := by
  refine tw_of (by decide +kernel) (Nat.le_of_ble_eq_true rfl) ?_
  show tw_W d mX10_given _ 0 [(0, .ref x), (1, .int m), (2, .long gr)] [] h 0 0
  have sp0 := tw_sp.rf hw
  refine tw_iload_n 1 dX10_given_0 rfl rfl ?_
  refine tw_if_ne 18 dX10_given_1 (by decide) (fun c1 => ?_) (fun c1 => ?_)
  · refine tw_lload_n 2 dX10_given_18 rfl rfl ?_
    refine tw_ldc2 (v := 10) dX10_given_19 w_1369 ?_
    refine tw_lmul dX10_given_22 ?_
    refine tw_nml (fun v2 ev2 => ?_)
    refine tw_aload_n 0 dX10_given_23 rfl rfl ?_
    obtain ⟨e3, f4, r_5, c_6, v_7, o_8, t_9, rfl, k10, k11, k12, k13, k14, k15⟩ := sp0.1 x 21 kx (by decide)
    refine tw_get (v := .int r_5) rfl in_11 0 dX10_given_24 w_1214 rfl (by decide) f4 rfl ?_
    refine tw_i2l dX10_given_27 ?_
    refine tw_nml (fun v16 ev16 => ?_)
    refine tw_ldiv dX10_given_28 (tw_nzl ev16 (tw_1le k13)) ?_
    refine tw_nml (fun v17 ev17 => ?_)
    refine tw_lstore [(4, .long v17), (0, .ref x), (1, .int m), (2, .long gr)] dX10_given_29 (by decide) rfl ?_
    refine tw_lload 0 dX10_given_31 rfl ?_
    refine tw_lload 0 dX10_given_33 rfl ?_
    refine tw_aload_n 1 dX10_given_35 rfl rfl ?_
    refine tw_get (v := .int c_6) rfl in_11 1 dX10_given_36 w_1215 rfl (by decide) f4 rfl ?_
    refine tw_i2l dX10_given_39 ?_
    refine tw_nml (fun v18 ev18 => ?_)
    refine tw_lmul dX10_given_40 ?_
    refine tw_nml (fun v19 ev19 => ?_)
    refine tw_ldc2 (v := 1000) dX10_given_41 w_1370 ?_
    refine tw_bl (tw_callS (M := mX10_given) (pc := 44) okX10_up dX10_given_44 w_1371 [.long v19, .long 1000] [.long v17] rfl rfl ⟨by decide, by decide⟩ (Nat.le_of_ble_eq_true rfl) (c_X10_up d g τ h sp0.1 v19 1000 (by decide)) 0 0 (Nat.le_of_ble_eq_true rfl) (Nat.le_of_ble_eq_true rfl)) (fun r22 h21 q20 => ?_) (fun E h1 q => q.elim)
    rw [q20]
    refine tw_lsub dX10_given_47 ?_
    refine tw_nml (fun v23 ev23 => ?_)
    exact tw_lret dX10_given_48 rfl (Or.inl ⟨_, rfl, rfl⟩)
  · refine tw_lload_n 2 dX10_given_4 rfl rfl ?_
    refine tw_aload_n 0 dX10_given_5 rfl rfl ?_
    obtain ⟨e24, f25, r_26, c_27, v_28, o_29, t_30, rfl, k31, k32, k33, k34, k35, k36⟩ := sp0.1 x 21 kx (by decide)
    refine tw_get (v := .int r_26) rfl in_11 0 dX10_given_6 w_1214 rfl (by decide) f25 rfl ?_
    refine tw_i2l dX10_given_9 ?_
    refine tw_nml (fun v37 ev37 => ?_)
    refine tw_lmul dX10_given_10 ?_
    refine tw_nml (fun v38 ev38 => ?_)
    refine tw_ldc2 (v := 10) dX10_given_11 w_1369 ?_
    refine tw_ldiv dX10_given_14 (by decide) ?_
    refine tw_nml (fun v39 ev39 => ?_)
    refine tw_goto 29 dX10_given_15 (by decide) ?_
    refine tw_lstore [(4, .long v39), (0, .ref x), (1, .int m), (2, .long gr)] dX10_given_29 (by decide) rfl ?_
    refine tw_lload 0 dX10_given_31 rfl ?_
    refine tw_lload 0 dX10_given_33 rfl ?_
    refine tw_aload_n 1 dX10_given_35 rfl rfl ?_
    refine tw_get (v := .int c_27) rfl in_11 1 dX10_given_36 w_1215 rfl (by decide) f25 rfl ?_
    refine tw_i2l dX10_given_39 ?_
    refine tw_nml (fun v40 ev40 => ?_)
    refine tw_lmul dX10_given_40 ?_
    refine tw_nml (fun v41 ev41 => ?_)
    refine tw_ldc2 (v := 1000) dX10_given_41 w_1370 ?_
    refine tw_bl (tw_callS (M := mX10_given) (pc := 44) okX10_up dX10_given_44 w_1371 [.long v41, .long 1000] [.long v39] rfl rfl ⟨by decide, by decide⟩ (Nat.le_of_ble_eq_true rfl) (c_X10_up d g τ h sp0.1 v41 1000 (by decide)) 0 0 (Nat.le_of_ble_eq_true rfl) (Nat.le_of_ble_eq_true rfl)) (fun r44 h43 q42 => ?_) (fun E h1 q => q.elim)
    rw [q42]
    refine tw_lsub dX10_given_47 ?_
    refine tw_nml (fun v45 ev45 => ?_)
    exact tw_lret dX10_given_48 rfl (Or.inl ⟨_, rfl, rfl⟩)

set_option maxHeartbeats 4000000 in
set_option maxRecDepth 100000 in
theorem c_X10_worth (d : tw_D) (g : tw_G) (τ : tw_K) (h : tw_H) (hw : tw_wt d g τ h) (x : Nat) (kx : τ x = 36) (a : Nat) (ka : τ a = 31) : tw_Ct d mX10_worth 0 0 [.ref x, .ref a] h (tw_ql (fun r h1 => h1 = h) tw_nx) := by
  refine tw_of (by decide +kernel) (Nat.le_of_ble_eq_true rfl) ?_
  show tw_W d mX10_worth _ 0 [(0, .ref x), (1, .ref a)] [] h 0 0
  have sp0 := tw_sp.rf hw
  refine tw_aload_n 1 dX10_worth_0 rfl rfl ?_
  refine tw_iconst (v := 1) dX10_worth_1 (by decide) ?_
  obtain ⟨e1, f2, F3, rfl, pf4⟩ := sp0.1 a 31 ka (by decide)
  obtain ⟨v5, ev5⟩ : ∃ y : Int64, F3 (1 : Int32).toNatClampNeg = y := ⟨_, rfl⟩
  refine tw_lald (v := v5) dX10_worth_2 f2 (vp_in_nI (n := 1) (by decide) (by decide)) ev5 ?_
  refine tw_aload_n 1 dX10_worth_3 rfl rfl ?_
  refine tw_iconst (v := 0) dX10_worth_4 (by decide) ?_
  obtain ⟨v6, ev6⟩ : ∃ y : Int64, F3 (0 : Int32).toNatClampNeg = y := ⟨_, rfl⟩
  refine tw_lald (v := v6) dX10_worth_5 f2 (vp_in_nI (n := 0) (by decide) (by decide)) ev6 ?_
  refine tw_aload_n 0 dX10_worth_6 rfl rfl ?_
  obtain ⟨e7, f8, th_9, td_10, ds_11, fr_12, ca_13, us_14, wo_15, cm_16, lc_17, lh_18, ld_19, rfl, k20, k21, k22, k23, k24, k25, k26, k27, k28, k29, k30, k31, k32, k33, k34, k35, k36, k37, k38, k39, k40, k41⟩ := sp0.1 x 36 kx (by decide)
  refine tw_get (v := .int (g.1 1)) rfl in_14 2 dX10_worth_7 w_1153 rfl (by decide) f8 rfl ?_
  refine tw_i2l dX10_worth_10 ?_
  refine tw_nml (fun v42 ev42 => ?_)
  refine tw_lmul dX10_worth_11 ?_
  refine tw_nml (fun v43 ev43 => ?_)
  refine tw_ldc2 (v := 10) dX10_worth_12 w_1369 ?_
  refine tw_ldiv dX10_worth_15 (by decide) ?_
  refine tw_nml (fun v44 ev44 => ?_)
  refine tw_ladd dX10_worth_16 ?_
  refine tw_nml (fun v45 ev45 => ?_)
  exact tw_lret dX10_worth_17 rfl (Or.inl ⟨_, rfl, rfl⟩)

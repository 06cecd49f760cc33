/-! the class's methods over the typed heap. Laid by wip/p5/mkclass.py. -/
set_option maxHeartbeats 4000000 in
set_option maxRecDepth 100000 in
theorem c2_X8_init (d : tw_D) (g : tw_G) (τ : tw_K) (h : tw_H) (hw : tw_wt d g τ h) (x : Nat) (hz : τ x = 0) (hx : h x = some (.inr (12, [.int 0, .int 0, .int 0, .int 0, .int 0]))) : tw_Ct d mX8_init 0 0 [.ref x] h (tw_qv (fun h1 => ∃ (τ1 : tw_K), tw_sp d τ (tw_rm h x) g τ1 h1 ∧ h1 x = some (.inr (12, [.int 0, .int 0, .int 0, .int 0, .int 0])) ∧ τ1 x = 0 ∧ ∀ b, b ≠ x → h b ≠ none → h1 b = h b) tw_nx) := by
  refine tw_of (by decide +kernel) (Nat.le_of_ble_eq_true rfl) ?_
  show tw_W d mX8_init _ 0 [(0, .ref x)] [] h 0 0
  have sp0 := tw_sp.rm hw x
  have fr0 : ∀ b, b ≠ x → h b ≠ none → h b = h b := fun _ _ _ => rfl
  refine tw_aload_n 0 dX8_init_0 rfl rfl ?_
  refine tw_objInit dX8_init_1 w_1438 w_117 w_118 ⟨by decide, Nat.le_of_ble_eq_true rfl⟩ ?_
  exact tw_vret dX8_init_4 rfl (Or.inl ⟨rfl, _, sp0, hx, hz, fr0⟩)

theorem tw_nsc {k v : Int32} {n : Nat} (z : ¬ (0 ≤ k ∧ k ≤ v)) (e : v = nI n - 1) (hn : n ≤ 10) : ¬ tw_ix n k := by
  rintro ⟨j, hj, rfl⟩
  obtain ⟨m, rfl⟩ : ∃ m, n = m + 1 := ⟨n - 1, by omega⟩
  rw [e, nI_pred] at z
  exact z ⟨nI_le (a := 0) (Nat.zero_le _) (by omega), nI_le (by omega) (by omega)⟩
set_option maxHeartbeats 4000000 in
set_option maxRecDepth 100000 in
theorem c2_X10_isNoCountry (d : tw_D) (g : tw_G) (τ : tw_K) (h : tw_H) (hw : tw_wt d g τ h) (x : Nat) (kx : τ x = 36) (k : Int32) : tw_Ct d mX10_isNoCountry 0 0 [.ref x, .int k] h (tw_qi (fun r h1 => h1 = h ∧ (r = 1 ∧ ¬ tw_ix (g.2 3) k ∨ r = 0 ∧ tw_ix (g.2 3) k)) tw_nx) := by
  refine tw_of (by decide +kernel) (Nat.le_of_ble_eq_true rfl) ?_
  show tw_W d mX10_isNoCountry _ 0 [(0, .ref x), (1, .int k)] [] h 0 0
  have sp0 := tw_sp.rf hw
  refine tw_iload_n 1 dX10_isNoCountry_0 rfl rfl ?_
  refine tw_iconst (v := 0) dX10_isNoCountry_1 (by decide) ?_
  refine tw_aload_n 0 dX10_isNoCountry_2 rfl rfl ?_
  obtain ⟨e1, f2, th_3, td_4, ds_5, fr_6, ca_7, us_8, wo_9, cm_10, lc_11, lh_12, ld_13, rfl, k14, k15, k16, k17, k18, k19, k20, k21, k22, k23, k24, k25, k26, k27, k28, k29, k30, k31, k32, k33, k34, k35⟩ := sp0.1 x 36 kx (by decide)
  refine tw_get (v := .ref lc_11) rfl in_14 9 dX10_isNoCountry_3 w_1160 rfl (by decide) f2 rfl ?_
  obtain ⟨e36, f37, ⟨el38, rfl, k39⟩, k40⟩ := sp0.1 lc_11 24 k20 (by decide)
  refine tw_bi (tw_callV (M := mX10_isNoCountry) (pc := 6) okJx4a65c_size_8abf5 dX10_isNoCountry_6 w_1204 rfl f37 [] [.int 0, .int k] rfl rfl ⟨by decide, by decide⟩ (Nat.le_of_ble_eq_true rfl) (c24_size d g τ h sp0.1 lc_11 k20) 0 0 (Nat.le_of_ble_eq_true rfl) (Nat.le_of_ble_eq_true rfl)) (fun r43 h42 q41 => ?_) (fun E h1 q => q.elim)
  obtain ⟨q41e, q41r⟩ := q41
  rw [q41e, q41r]
  refine tw_iconst (v := 1) dX10_isNoCountry_9 (by decide) ?_
  refine tw_isub dX10_isNoCountry_10 ?_
  refine tw_nmi (fun v44 ev44 => ?_)
  refine tw_bi (tw_callS (M := mX10_isNoCountry) (pc := 11) okX10_isIn dX10_isNoCountry_11 w_1192 [.int k, .int 0, .int v44] [] rfl rfl ⟨by decide, by decide⟩ (Nat.le_of_ble_eq_true rfl) (c_X10_isIn d g τ h sp0.1 k 0 v44) 0 0 (Nat.le_of_ble_eq_true rfl) (Nat.le_of_ble_eq_true rfl)) (fun r47 h46 q45 => ?_) (fun E h1 q => q.elim)
  obtain ⟨q45e, q45d⟩ := q45
  rw [q45e]
  rcases q45d with ⟨q45r, q45n⟩ | ⟨q45r, q45a, q45b⟩
  · rw [q45r]
    refine tw_if_ne 21 dX10_isNoCountry_14 (by decide) (fun c48 => absurd (by decide) c48) (fun _ => ?_)
    refine tw_iconst (v := 1) dX10_isNoCountry_17 (by decide) ?_
    refine tw_goto 22 dX10_isNoCountry_18 (by decide) ?_
    exact tw_zret dX10_isNoCountry_22 rfl rfl (Or.inl ⟨_, rfl, rfl, Or.inl ⟨rfl, tw_nsc q45n ev44 (by omega)⟩⟩)
  · rw [q45r]
    refine tw_if_ne 21 dX10_isNoCountry_14 (by decide) (fun _ => ?_) (fun c49 => absurd c49 (by decide))
    refine tw_iconst (v := 0) dX10_isNoCountry_21 (by decide) ?_
    exact tw_zret dX10_isNoCountry_22 rfl rfl (Or.inl ⟨_, rfl, rfl, Or.inr ⟨rfl, tw_isc q45a q45b ev44 (by omega)⟩⟩)

set_option maxHeartbeats 4000000 in
set_option maxRecDepth 100000 in
theorem c2_X10_isNoHouse (d : tw_D) (g : tw_G) (τ : tw_K) (h : tw_H) (hw : tw_wt d g τ h) (x : Nat) (kx : τ x = 36) (k : Int32) : tw_Ct d mX10_isNoHouse 0 0 [.ref x, .int k] h (tw_qi (fun r h1 => h1 = h ∧ (r = 1 ∧ ¬ tw_ix (g.2 4) k ∨ r = 0 ∧ tw_ix (g.2 4) k)) tw_nx) := by
  refine tw_of (by decide +kernel) (Nat.le_of_ble_eq_true rfl) ?_
  show tw_W d mX10_isNoHouse _ 0 [(0, .ref x), (1, .int k)] [] h 0 0
  have sp0 := tw_sp.rf hw
  refine tw_iload_n 1 dX10_isNoHouse_0 rfl rfl ?_
  refine tw_iconst (v := 0) dX10_isNoHouse_1 (by decide) ?_
  refine tw_aload_n 0 dX10_isNoHouse_2 rfl rfl ?_
  obtain ⟨e1, f2, th_3, td_4, ds_5, fr_6, ca_7, us_8, wo_9, cm_10, lc_11, lh_12, ld_13, rfl, k14, k15, k16, k17, k18, k19, k20, k21, k22, k23, k24, k25, k26, k27, k28, k29, k30, k31, k32, k33, k34, k35⟩ := sp0.1 x 36 kx (by decide)
  refine tw_get (v := .ref lh_12) rfl in_14 10 dX10_isNoHouse_3 w_1161 rfl (by decide) f2 rfl ?_
  obtain ⟨e36, f37, ⟨el38, rfl, k39⟩, k40⟩ := sp0.1 lh_12 25 k21 (by decide)
  refine tw_bi (tw_callV (M := mX10_isNoHouse) (pc := 6) okJx4a65c_size_8abf5 dX10_isNoHouse_6 w_1204 rfl f37 [] [.int 0, .int k] rfl rfl ⟨by decide, by decide⟩ (Nat.le_of_ble_eq_true rfl) (c25_size d g τ h sp0.1 lh_12 k21) 0 0 (Nat.le_of_ble_eq_true rfl) (Nat.le_of_ble_eq_true rfl)) (fun r43 h42 q41 => ?_) (fun E h1 q => q.elim)
  obtain ⟨q41e, q41r⟩ := q41
  rw [q41e, q41r]
  refine tw_iconst (v := 1) dX10_isNoHouse_9 (by decide) ?_
  refine tw_isub dX10_isNoHouse_10 ?_
  refine tw_nmi (fun v44 ev44 => ?_)
  refine tw_bi (tw_callS (M := mX10_isNoHouse) (pc := 11) okX10_isIn dX10_isNoHouse_11 w_1192 [.int k, .int 0, .int v44] [] rfl rfl ⟨by decide, by decide⟩ (Nat.le_of_ble_eq_true rfl) (c_X10_isIn d g τ h sp0.1 k 0 v44) 0 0 (Nat.le_of_ble_eq_true rfl) (Nat.le_of_ble_eq_true rfl)) (fun r47 h46 q45 => ?_) (fun E h1 q => q.elim)
  obtain ⟨q45e, q45d⟩ := q45
  rw [q45e]
  rcases q45d with ⟨q45r, q45n⟩ | ⟨q45r, q45a, q45b⟩
  · rw [q45r]
    refine tw_if_ne 21 dX10_isNoHouse_14 (by decide) (fun c48 => absurd (by decide) c48) (fun _ => ?_)
    refine tw_iconst (v := 1) dX10_isNoHouse_17 (by decide) ?_
    refine tw_goto 22 dX10_isNoHouse_18 (by decide) ?_
    exact tw_zret dX10_isNoHouse_22 rfl rfl (Or.inl ⟨_, rfl, rfl, Or.inl ⟨rfl, tw_nsc q45n ev44 (by omega)⟩⟩)
  · rw [q45r]
    refine tw_if_ne 21 dX10_isNoHouse_14 (by decide) (fun _ => ?_) (fun c49 => absurd c49 (by decide))
    refine tw_iconst (v := 0) dX10_isNoHouse_21 (by decide) ?_
    exact tw_zret dX10_isNoHouse_22 rfl rfl (Or.inl ⟨_, rfl, rfl, Or.inr ⟨rfl, tw_isc q45a q45b ev44 (by omega)⟩⟩)

set_option maxHeartbeats 4000000 in
set_option maxRecDepth 100000 in
theorem c2_X10_isNoMetal (d : tw_D) (g : tw_G) (τ : tw_K) (h : tw_H) (hw : tw_wt d g τ h) (m : Int32) : tw_Ct d mX10_isNoMetal 0 0 [.int m] h (tw_qi (fun r h1 => h1 = h ∧ (r = 1 ∧ ¬ tw_RM m ∨ r = 0 ∧ tw_RM m)) tw_nx) := by
  refine tw_of (by decide +kernel) (Nat.le_of_ble_eq_true rfl) ?_
  show tw_W d mX10_isNoMetal _ 0 [(0, .int m)] [] h 0 0
  have sp0 := tw_sp.rf hw
  refine tw_iload_n 0 dX10_isNoMetal_0 rfl rfl ?_
  refine tw_iconst (v := 0) dX10_isNoMetal_1 (by decide) ?_
  refine tw_iconst (v := 1) dX10_isNoMetal_2 (by decide) ?_
  refine tw_bi (tw_callS (M := mX10_isNoMetal) (pc := 3) okX10_isIn dX10_isNoMetal_3 w_1192 [.int m, .int 0, .int 1] [] rfl rfl ⟨by decide, by decide⟩ (Nat.le_of_ble_eq_true rfl) (c_X10_isIn d g τ h sp0.1 m 0 1) 0 0 (Nat.le_of_ble_eq_true rfl) (Nat.le_of_ble_eq_true rfl)) (fun r3 h2 q1 => ?_) (fun E h1 q => q.elim)
  obtain ⟨q1e, q1d⟩ := q1
  rw [q1e]
  rcases q1d with ⟨q1r, q1n⟩ | ⟨q1r, q1a, q1b⟩
  · rw [q1r]
    refine tw_if_ne 13 dX10_isNoMetal_6 (by decide) (fun c4 => absurd (by decide) c4) (fun _ => ?_)
    refine tw_iconst (v := 1) dX10_isNoMetal_9 (by decide) ?_
    refine tw_goto 14 dX10_isNoMetal_10 (by decide) ?_
    exact tw_zret dX10_isNoMetal_14 rfl rfl (Or.inl ⟨_, rfl, rfl, Or.inl ⟨rfl, fun z => q1n (z.elim (fun q => by rw [q]; decide) (fun q => by rw [q]; decide))⟩⟩)
  · rw [q1r]
    refine tw_if_ne 13 dX10_isNoMetal_6 (by decide) (fun _ => ?_) (fun c5 => absurd c5 (by decide))
    refine tw_iconst (v := 0) dX10_isNoMetal_13 (by decide) ?_
    exact tw_zret dX10_isNoMetal_14 rfl rfl (Or.inl ⟨_, rfl, rfl, Or.inr ⟨rfl, tw_m01 q1a q1b⟩⟩)

set_option maxHeartbeats 4000000 in
set_option maxRecDepth 100000 in
theorem c2_X10_law (d : tw_D) (g : tw_G) (τ : tw_K) (h : tw_H) (hw : tw_wt d g τ h) (x : Nat) (kx : τ x = 36) (n : Int32) (rt : Int32) (ct : Int32) (o : Nat) (ko : τ o = 12) : tw_Ct d mX10_law 0 0 [.ref x, .int n, .int rt, .int ct] h (tw_qi (fun r9 h1 => ∃ g1 τ1, tw_sp d τ h g1 τ1 h1 ∧ h1 o = h o ∧ ((¬ tw_ix (g.2 3) n ∧ tw_th (h1 x) = 1 ∧ g1 = g) ∨ (tw_ix (g.2 3) n ∧ ¬ tw_RL rt ct ∧ tw_th (h1 x) = 2 ∧ g1 = g) ∨ (tw_ix (g.2 3) n ∧ tw_RL rt ct ∧ r9 = g.1 (480 + 64 * tw_DN n) ∧ tw_th (h1 x) = 0 ∧ g1 = tw_g1 (tw_g1 g (480 + 64 * tw_DN n) rt) (480 + 64 * tw_DN n + 1) ct))) tw_nx) := by
  refine tw_of (by decide +kernel) (Nat.le_of_ble_eq_true rfl) ?_
  show tw_W d mX10_law _ 0 [(0, .ref x), (1, .int n), (2, .int rt), (3, .int ct)] [] h 0 0
  have sp0 := tw_sp.rf hw
  have oq0 : h o = h o := rfl
  refine tw_aload_n 0 dX10_law_0 rfl rfl ?_
  refine tw_aload_n 0 dX10_law_1 rfl rfl ?_
  refine tw_iload_n 1 dX10_law_2 rfl rfl ?_
  obtain ⟨e1, f2, th_3, td_4, ds_5, fr_6, ca_7, us_8, wo_9, cm_10, lc_11, lh_12, ld_13, rfl, k14, k15, k16, k17, k18, k19, k20, k21, k22, k23, k24, k25, k26, k27, k28, k29, k30, k31, k32, k33, k34, k35⟩ := sp0.1 x 36 kx (by decide)
  refine tw_bi (tw_callV (M := mX10_law) (pc := 3) okX10_isNoCountry dX10_law_3 w_1288 rfl f2 [.int n] [.ref x] rfl rfl ⟨by decide, by decide⟩ (Nat.le_of_ble_eq_true rfl) (c2_X10_isNoCountry d g τ h sp0.1 x kx n) 0 0 (Nat.le_of_ble_eq_true rfl) (Nat.le_of_ble_eq_true rfl)) (fun r38 h37 q36 => ?_) (fun E h1 q => q.elim)
  obtain ⟨q36e, q36d⟩ := q36
  rw [q36e]
  rcases q36d with ⟨q36r, q36n⟩ | ⟨q36r, q36i⟩
  · rw [q36r]
    refine tw_iconst (v := 1) dX10_law_6 (by decide) ?_
    refine tw_bi (tw_callV (M := mX10_law) (pc := 7) okX10_start dX10_law_7 w_1196 rfl f2 [.int 1, .int 1] [] rfl rfl ⟨by decide, by decide⟩ (Nat.le_of_ble_eq_true rfl) (c_X10_start d g τ h sp0.1 x kx 1 1 (by decide)) 0 0 (Nat.le_of_ble_eq_true rfl) (Nat.le_of_ble_eq_true rfl)) (fun r41 h40 q39 => ?_) (fun E h1 q => q.elim)
    obtain ⟨e42, he43, hs44, hr45, hc46⟩ := q39
    obtain ⟨rz47, tz48⟩ := hc46.2 rfl
    have th49 : tw_th (h40 x) = 1 := by rw [he43, tw_up_s]; exact tz48
    have sp50 : tw_sp d τ h g τ h40 := by rw [he43]; exact sp0.set kx (by decide) hs44
    rw [rz47]
    have oq51 : h40 o = h o := by rw [he43, tw_up_n (tw_nk ko kx (by decide))] <;> exact oq0
    refine tw_if_ne 48 dX10_law_10 (by decide) (fun _ => ?_) (fun c52 => absurd c52 (by decide))
    refine tw_iconst (v := 0) dX10_law_48 (by decide) ?_
    exact tw_iret dX10_law_49 rfl (Or.inl ⟨_, rfl, _, _, sp50, oq51, Or.inl ⟨q36n, th49, rfl⟩⟩)
  · rw [q36r]
    have q36x := q36i
    obtain ⟨jn, q36j, q36k⟩ := q36i
    subst q36k
    have cDn : tw_DN (nI jn) = jn := nI_clamp (by omega)
    have ix0 := q36x
    refine tw_iconst (v := 1) dX10_law_6 (by decide) ?_
    refine tw_bi (tw_callV (M := mX10_law) (pc := 7) okX10_start dX10_law_7 w_1196 rfl f2 [.int 0, .int 1] [] rfl rfl ⟨by decide, by decide⟩ (Nat.le_of_ble_eq_true rfl) (c_X10_start d g τ h sp0.1 x kx 0 1 (by decide)) 0 0 (Nat.le_of_ble_eq_true rfl) (Nat.le_of_ble_eq_true rfl)) (fun r55 h54 q53 => ?_) (fun E h1 q => q.elim)
    obtain ⟨e56, he57, hs58, hr59, hc60⟩ := q53
    obtain ⟨rz61, tz62⟩ := hc60.1 rfl
    have th63 : tw_th (h54 x) = 0 := by rw [he57, tw_up_s]; exact tz62
    have sp64 : tw_sp d τ h g τ h54 := by rw [he57]; exact sp0.set kx (by decide) hs58
    rw [rz61]
    have oq65 : h54 o = h o := by rw [he57, tw_up_n (tw_nk ko kx (by decide))] <;> exact oq0
    refine tw_if_ne 48 dX10_law_10 (by decide) (fun c66 => absurd (by decide) c66) (fun _ => ?_)
    refine tw_aload_n 0 dX10_law_13 rfl rfl ?_
    refine tw_iload_n 2 dX10_law_14 rfl rfl ?_
    refine tw_bipush (v := 100) dX10_law_15 (by decide) ?_
    refine tw_sipush (v := 200) dX10_law_17 (by decide) ?_
    refine tw_bi (tw_callS (M := mX10_law) (pc := 20) okX10_isIn dX10_law_20 w_1192 [.int rt, .int 100, .int 200] [.ref x] rfl rfl ⟨by decide, by decide⟩ (Nat.le_of_ble_eq_true rfl) (c_X10_isIn d g τ h54 sp64.1 rt 100 200) 0 0 (Nat.le_of_ble_eq_true rfl) (Nat.le_of_ble_eq_true rfl)) (fun r69 h68 q67 => ?_) (fun E h1 q => q.elim)
    obtain ⟨q67e, q67d⟩ := q67
    rw [q67e]
    rcases q67d with ⟨q67r, q67n⟩ | ⟨q67r, q67a, q67b⟩
    · rw [q67r]
      refine tw_if_eq 36 dX10_law_23 (by decide) (fun _ => ?_) (fun c70 => absurd (by decide) c70)
      refine tw_iconst (v := 1) dX10_law_36 (by decide) ?_
      refine tw_goto 41 dX10_law_37 (by decide) ?_
      refine tw_iconst (v := 2) dX10_law_41 (by decide) ?_
      obtain ⟨e71, f72, th_73, td_74, ds_75, fr_76, ca_77, us_78, wo_79, cm_80, lc_81, lh_82, ld_83, rfl, k84, k85, k86, k87, k88, k89, k90, k91, k92, k93, k94, k95, k96, k97, k98, k99, k100, k101, k102, k103, k104, k105⟩ := sp64.1 x 36 kx (by decide)
      refine tw_bi (tw_callV (M := mX10_law) (pc := 42) okX10_refuse dX10_law_42 w_1200 rfl f72 [.int 1, .int 2] [] rfl rfl ⟨by decide, by decide⟩ (Nat.le_of_ble_eq_true rfl) (c_X10_refuse d g τ h54 sp64.1 x kx 1 2 (by decide)) 0 0 (Nat.le_of_ble_eq_true rfl) (Nat.le_of_ble_eq_true rfl)) (fun r108 h107 q106 => ?_) (fun E h1 q => q.elim)
      obtain ⟨e109, he110, hs111, hr112, hc113⟩ := q106
      obtain ⟨rz114, tz115⟩ := (hc113 th63).2 rfl
      have th116 : tw_th (h107 x) = 2 := by rw [he110, tw_up_s]; exact tz115
      have sp117 : tw_sp d τ h g τ h107 := by rw [he110]; exact sp64.set kx (by decide) hs111
      rw [rz114]
      have oq118 : h107 o = h o := by rw [he110, tw_up_n (tw_nk ko kx (by decide))] <;> exact oq65
      refine tw_if_eq 50 dX10_law_45 (by decide) (fun c119 => absurd c119 (by decide)) (fun _ => ?_)
      refine tw_iconst (v := 0) dX10_law_48 (by decide) ?_
      exact tw_iret dX10_law_49 rfl (Or.inl ⟨_, rfl, _, _, sp117, oq118, Or.inr (Or.inl ⟨ix0, fun z => q67n z.1, th116, rfl⟩)⟩)
    · rw [q67r]
      refine tw_if_eq 36 dX10_law_23 (by decide) (fun c120 => absurd c120 (by decide)) (fun _ => ?_)
      refine tw_iload_n 3 dX10_law_26 rfl rfl ?_
      refine tw_iconst (v := 0) dX10_law_27 (by decide) ?_
      refine tw_bipush (v := 50) dX10_law_28 (by decide) ?_
      refine tw_bi (tw_callS (M := mX10_law) (pc := 30) okX10_isIn dX10_law_30 w_1192 [.int ct, .int 0, .int 50] [.ref x] rfl rfl ⟨by decide, by decide⟩ (Nat.le_of_ble_eq_true rfl) (c_X10_isIn d g τ h54 sp64.1 ct 0 50) 0 0 (Nat.le_of_ble_eq_true rfl) (Nat.le_of_ble_eq_true rfl)) (fun r123 h122 q121 => ?_) (fun E h1 q => q.elim)
      obtain ⟨q121e, q121d⟩ := q121
      rw [q121e]
      rcases q121d with ⟨q121r, q121n⟩ | ⟨q121r, q121a, q121b⟩
      · rw [q121r]
        refine tw_if_ne 40 dX10_law_33 (by decide) (fun c124 => absurd (by decide) c124) (fun _ => ?_)
        refine tw_iconst (v := 1) dX10_law_36 (by decide) ?_
        refine tw_goto 41 dX10_law_37 (by decide) ?_
        refine tw_iconst (v := 2) dX10_law_41 (by decide) ?_
        obtain ⟨e125, f126, th_127, td_128, ds_129, fr_130, ca_131, us_132, wo_133, cm_134, lc_135, lh_136, ld_137, rfl, k138, k139, k140, k141, k142, k143, k144, k145, k146, k147, k148, k149, k150, k151, k152, k153, k154, k155, k156, k157, k158, k159⟩ := sp64.1 x 36 kx (by decide)
        refine tw_bi (tw_callV (M := mX10_law) (pc := 42) okX10_refuse dX10_law_42 w_1200 rfl f126 [.int 1, .int 2] [] rfl rfl ⟨by decide, by decide⟩ (Nat.le_of_ble_eq_true rfl) (c_X10_refuse d g τ h54 sp64.1 x kx 1 2 (by decide)) 0 0 (Nat.le_of_ble_eq_true rfl) (Nat.le_of_ble_eq_true rfl)) (fun r162 h161 q160 => ?_) (fun E h1 q => q.elim)
        obtain ⟨e163, he164, hs165, hr166, hc167⟩ := q160
        obtain ⟨rz168, tz169⟩ := (hc167 th63).2 rfl
        have th170 : tw_th (h161 x) = 2 := by rw [he164, tw_up_s]; exact tz169
        have sp171 : tw_sp d τ h g τ h161 := by rw [he164]; exact sp64.set kx (by decide) hs165
        rw [rz168]
        have oq172 : h161 o = h o := by rw [he164, tw_up_n (tw_nk ko kx (by decide))] <;> exact oq65
        refine tw_if_eq 50 dX10_law_45 (by decide) (fun c173 => absurd c173 (by decide)) (fun _ => ?_)
        refine tw_iconst (v := 0) dX10_law_48 (by decide) ?_
        exact tw_iret dX10_law_49 rfl (Or.inl ⟨_, rfl, _, _, sp171, oq172, Or.inr (Or.inl ⟨ix0, fun z => q121n z.2, th170, rfl⟩)⟩)
      · rw [q121r]
        refine tw_if_ne 40 dX10_law_33 (by decide) (fun _ => ?_) (fun c174 => absurd c174 (by decide))
        refine tw_iconst (v := 0) dX10_law_40 (by decide) ?_
        refine tw_iconst (v := 2) dX10_law_41 (by decide) ?_
        obtain ⟨e175, f176, th_177, td_178, ds_179, fr_180, ca_181, us_182, wo_183, cm_184, lc_185, lh_186, ld_187, rfl, k188, k189, k190, k191, k192, k193, k194, k195, k196, k197, k198, k199, k200, k201, k202, k203, k204, k205, k206, k207, k208, k209⟩ := sp64.1 x 36 kx (by decide)
        refine tw_bi (tw_callV (M := mX10_law) (pc := 42) okX10_refuse dX10_law_42 w_1200 rfl f176 [.int 0, .int 2] [] rfl rfl ⟨by decide, by decide⟩ (Nat.le_of_ble_eq_true rfl) (c_X10_refuse d g τ h54 sp64.1 x kx 0 2 (by decide)) 0 0 (Nat.le_of_ble_eq_true rfl) (Nat.le_of_ble_eq_true rfl)) (fun r212 h211 q210 => ?_) (fun E h1 q => q.elim)
        obtain ⟨e213, he214, hs215, hr216, hc217⟩ := q210
        obtain ⟨rz218, tz219⟩ := (hc217 th63).1 rfl
        have th220 : tw_th (h211 x) = 0 := by rw [he214, tw_up_s]; exact tz219
        have sp221 : tw_sp d τ h g τ h211 := by rw [he214]; exact sp64.set kx (by decide) hs215
        rw [rz218]
        have oq222 : h211 o = h o := by rw [he214, tw_up_n (tw_nk ko kx (by decide))] <;> exact oq65
        refine tw_if_eq 50 dX10_law_45 (by decide) (fun _ => ?_) (fun c223 => absurd (by decide) c223)
        refine tw_aload_n 0 dX10_law_50 rfl rfl ?_
        obtain ⟨e224, f225, th_226, td_227, ds_228, fr_229, ca_230, us_231, wo_232, cm_233, lc_234, lh_235, ld_236, rfl, k237, k238, k239, k240, k241, k242, k243, k244, k245, k246, k247, k248, k249, k250, k251, k252, k253, k254, k255, k256, k257, k258⟩ := sp221.1 x 36 kx (by decide)
        refine tw_get (v := .ref lc_234) rfl in_14 9 dX10_law_51 w_1160 rfl (by decide) f225 rfl ?_
        refine tw_iload_n 1 dX10_law_54 rfl rfl ?_
        obtain ⟨e259, f260, ⟨el261, rfl, k262⟩, k263⟩ := sp221.1 lc_234 24 k243 (by decide)
        refine tw_br (tw_callV (M := mX10_law) (pc := 55) okJx4a65c_get_915e3 dX10_law_55 w_1292 rfl f260 [.int (nI jn)] [] rfl rfl ⟨by decide, by decide⟩ (Nat.le_of_ble_eq_true rfl) (c24_get d g τ h211 sp221.1 lc_234 k243 jn (by omega) (by omega)) 0 0 (Nat.le_of_ble_eq_true rfl) (Nat.le_of_ble_eq_true rfl)) (fun r266 h265 q264 => ?_) (fun E h1 q => q.elim)
        obtain ⟨q264e, q264k⟩ := q264
        rw [q264e]
        have el267 : tw_el h211 (g.2 12) jn = r266 := by rw [← k263]; exact q264k.2.symm
        have kl268 : τ (g.2 12) = 24 := by rw [← k263]; exact k243
        have id269 : g.2 (4096 + r266) = 480 + 64 * jn := by rw [← el267]; exact tw_eli24 sp221.1 kl268 (by omega)
        obtain ⟨e270, f271, r_272, c_273, v_274, o_275, t_276, rfl, k277, k278, k279, k280, k281, k282⟩ := sp221.1 r266 21 q264k.1 (by decide)
        obtain ⟨j283, ow284, fr9, fc9, q285, q286, q287⟩ := k282
        obtain rfl : jn = j283 := by have z := ow284.b id269; omega
        subst fr9 fc9
        refine tw_castS (ci := 11) rfl dX10_law_58 w_1208 f271 ?_
        refine tw_astore [(4, .ref r266), (0, .ref x), (1, .int (nI jn)), (2, .int rt), (3, .int ct)] dX10_law_61 (by decide) rfl ?_
        refine tw_aload 0 dX10_law_63 rfl ?_
        refine tw_get (v := .int (g.1 (480 + 64 * jn))) rfl in_11 0 dX10_law_65 w_1214 rfl (by decide) f271 rfl ?_
        refine tw_istore [(5, .int (g.1 (480 + 64 * jn))), (4, .ref r266), (0, .ref x), (1, .int (nI jn)), (2, .int rt), (3, .int ct)] dX10_law_68 (by decide) rfl ?_
        refine tw_aload 1 dX10_law_70 rfl ?_
        refine tw_iload_n 4 dX10_law_72 rfl rfl ?_
        refine tw_put rfl in_11 tyX7 tyX7_ok nmX7 0 dX10_law_73 w_1214 rfl (by decide) f271 rfl rfl rfl rfl (Nat.le_of_ble_eq_true rfl) [.int rt, .int (g.1 (480 + 64 * jn + 1)), .ref v_274, .ref o_275, .ref t_276] rfl ?_
        obtain ⟨h288, eh288⟩ : ∃ z : tw_H, z = tw_up h211 r266 (.inr (11, [.int rt, .int (g.1 (480 + 64 * jn + 1)), .ref v_274, .ref o_275, .ref t_276])) := ⟨_, rfl⟩
        rw [← eh288]
        have th289 : tw_th (h288 x) = 0 := by rw [eh288, tw_up_n (tw_nk kx q264k.1 (by decide))] <;> exact th220
        have oq290 : h288 o = h o := by rw [eh288, tw_up_n (tw_nk ko q264k.1 (by decide))] <;> exact oq222
        have sp291 : tw_sp d τ h (tw_g1 g (480 + 64 * jn) rt) τ h288 := by rw [eh288]; exact sp221.wb q264k.1 (by decide) ow284 ⟨rt, (g.1 (480 + 64 * jn + 1)), v_274, o_275, t_276, rfl, k277, k278, k279, q67a, q67b, ⟨jn, ow284, tw_g1_eq.symm, (tw_g1_ne (by omega)).symm, q285, q286, q287⟩⟩ (fun q9 hq9 => tw_g1_ne (by omega)) rfl
        refine tw_aload 1 dX10_law_76 rfl ?_
        refine tw_iload_n 5 dX10_law_78 rfl rfl ?_
        obtain ⟨e292, f293, r_294, c_295, v_296, o_297, t_298, rfl, k299, k300, k301, k302, k303, k304⟩ := sp291.1 r266 21 q264k.1 (by decide)
        obtain ⟨j305, ow306, fr9, fc9, q307, q308, q309⟩ := k304
        obtain rfl : jn = j305 := by have z := ow306.b id269; omega
        subst fr9 fc9
        refine tw_put rfl in_11 tyX7 tyX7_ok nmX7 1 dX10_law_79 w_1215 rfl (by decide) f293 rfl rfl rfl rfl (Nat.le_of_ble_eq_true rfl) [.int ((tw_g1 g (480 + 64 * jn) rt).1 (480 + 64 * jn)), .int ct, .ref v_296, .ref o_297, .ref t_298] rfl ?_
        obtain ⟨h310, eh310⟩ : ∃ z : tw_H, z = tw_up h288 r266 (.inr (11, [.int ((tw_g1 g (480 + 64 * jn) rt).1 (480 + 64 * jn)), .int ct, .ref v_296, .ref o_297, .ref t_298])) := ⟨_, rfl⟩
        rw [← eh310]
        have th311 : tw_th (h310 x) = 0 := by rw [eh310, tw_up_n (tw_nk kx q264k.1 (by decide))] <;> exact th289
        have oq312 : h310 o = h o := by rw [eh310, tw_up_n (tw_nk ko q264k.1 (by decide))] <;> exact oq290
        have sp313 : tw_sp d τ h (tw_g1 (tw_g1 g (480 + 64 * jn) rt) (480 + 64 * jn + 1) ct) τ h310 := by rw [eh310]; exact sp291.wb q264k.1 (by decide) ow306 ⟨((tw_g1 g (480 + 64 * jn) rt).1 (480 + 64 * jn)), ct, v_296, o_297, t_298, rfl, k299, k300, k301, k302, k303, ⟨jn, ow306, (tw_g1_ne (by omega)).symm, tw_g1_eq.symm, q307, q308, q309⟩⟩ (fun q9 hq9 => tw_g1_ne (by omega)) rfl
        refine tw_iload 0 dX10_law_82 rfl ?_
        exact tw_iret dX10_law_84 rfl (Or.inl ⟨_, rfl, _, _, sp313, oq312, Or.inr (Or.inr ⟨ix0, ⟨⟨q67a, q67b⟩, ⟨q121a, q121b⟩⟩, (by rw [cDn]), th311, (by rw [cDn])⟩)⟩)

set_option maxHeartbeats 4000000 in
set_option maxRecDepth 100000 in
theorem c2_X10_gate (d : tw_D) (g : tw_G) (τ : tw_K) (h : tw_H) (hw : tw_wt d g τ h) (x : Nat) (kx : τ x = 36) (n : Int32) (m : Int32) (b : Int32) (kb : tw_01 b) (o : Nat) (ko : τ o = 12) : tw_Ct d mX10_gate 0 0 [.ref x, .int n, .int m, .int b] h (tw_qi (fun r9 h1 => ∃ g1 τ1, tw_sp d τ h g1 τ1 h1 ∧ h1 o = h o ∧ ((¬ tw_ix (g.2 3) n ∧ tw_th (h1 x) = 1 ∧ g1 = g) ∨ (tw_ix (g.2 3) n ∧ ¬ tw_RM m ∧ tw_th (h1 x) = 2 ∧ g1 = g) ∨ (tw_ix (g.2 3) n ∧ tw_RM m ∧ r9 = g.1 (480 + 64 * tw_DN n + 8 + tw_DN m) ∧ tw_th (h1 x) = 0 ∧ g1 = tw_g1 g (480 + 64 * tw_DN n + 8 + tw_DN m) b)) ∧ tw_01 r9) tw_nx) := by
  refine tw_of (by decide +kernel) (Nat.le_of_ble_eq_true rfl) ?_
  show tw_W d mX10_gate _ 0 [(0, .ref x), (1, .int n), (2, .int m), (3, .int b)] [] h 0 0
  have sp0 := tw_sp.rf hw
  have oq0 : h o = h o := rfl
  refine tw_aload_n 0 dX10_gate_0 rfl rfl ?_
  refine tw_aload_n 0 dX10_gate_1 rfl rfl ?_
  refine tw_iload_n 1 dX10_gate_2 rfl rfl ?_
  obtain ⟨e1, f2, th_3, td_4, ds_5, fr_6, ca_7, us_8, wo_9, cm_10, lc_11, lh_12, ld_13, rfl, k14, k15, k16, k17, k18, k19, k20, k21, k22, k23, k24, k25, k26, k27, k28, k29, k30, k31, k32, k33, k34, k35⟩ := sp0.1 x 36 kx (by decide)
  refine tw_bi (tw_callV (M := mX10_gate) (pc := 3) okX10_isNoCountry dX10_gate_3 w_1288 rfl f2 [.int n] [.ref x] rfl rfl ⟨by decide, by decide⟩ (Nat.le_of_ble_eq_true rfl) (c2_X10_isNoCountry d g τ h sp0.1 x kx n) 0 0 (Nat.le_of_ble_eq_true rfl) (Nat.le_of_ble_eq_true rfl)) (fun r38 h37 q36 => ?_) (fun E h1 q => q.elim)
  obtain ⟨q36e, q36d⟩ := q36
  rw [q36e]
  rcases q36d with ⟨q36r, q36n⟩ | ⟨q36r, q36i⟩
  · rw [q36r]
    refine tw_iconst (v := 1) dX10_gate_6 (by decide) ?_
    refine tw_bi (tw_callV (M := mX10_gate) (pc := 7) okX10_start dX10_gate_7 w_1196 rfl f2 [.int 1, .int 1] [] rfl rfl ⟨by decide, by decide⟩ (Nat.le_of_ble_eq_true rfl) (c_X10_start d g τ h sp0.1 x kx 1 1 (by decide)) 0 0 (Nat.le_of_ble_eq_true rfl) (Nat.le_of_ble_eq_true rfl)) (fun r41 h40 q39 => ?_) (fun E h1 q => q.elim)
    obtain ⟨e42, he43, hs44, hr45, hc46⟩ := q39
    obtain ⟨rz47, tz48⟩ := hc46.2 rfl
    have th49 : tw_th (h40 x) = 1 := by rw [he43, tw_up_s]; exact tz48
    have sp50 : tw_sp d τ h g τ h40 := by rw [he43]; exact sp0.set kx (by decide) hs44
    rw [rz47]
    have oq51 : h40 o = h o := by rw [he43, tw_up_n (tw_nk ko kx (by decide))] <;> exact oq0
    refine tw_if_ne 25 dX10_gate_10 (by decide) (fun _ => ?_) (fun c52 => absurd c52 (by decide))
    refine tw_iconst (v := 0) dX10_gate_25 (by decide) ?_
    exact tw_zret dX10_gate_26 rfl rfl (Or.inl ⟨_, rfl, _, _, sp50, oq51, Or.inl ⟨q36n, th49, rfl⟩, by unfold tw_01; decide⟩)
  · rw [q36r]
    have q36x := q36i
    obtain ⟨jn, q36j, q36k⟩ := q36i
    subst q36k
    have cDn : tw_DN (nI jn) = jn := nI_clamp (by omega)
    have ix0 := q36x
    refine tw_iconst (v := 1) dX10_gate_6 (by decide) ?_
    refine tw_bi (tw_callV (M := mX10_gate) (pc := 7) okX10_start dX10_gate_7 w_1196 rfl f2 [.int 0, .int 1] [] rfl rfl ⟨by decide, by decide⟩ (Nat.le_of_ble_eq_true rfl) (c_X10_start d g τ h sp0.1 x kx 0 1 (by decide)) 0 0 (Nat.le_of_ble_eq_true rfl) (Nat.le_of_ble_eq_true rfl)) (fun r55 h54 q53 => ?_) (fun E h1 q => q.elim)
    obtain ⟨e56, he57, hs58, hr59, hc60⟩ := q53
    obtain ⟨rz61, tz62⟩ := hc60.1 rfl
    have th63 : tw_th (h54 x) = 0 := by rw [he57, tw_up_s]; exact tz62
    have sp64 : tw_sp d τ h g τ h54 := by rw [he57]; exact sp0.set kx (by decide) hs58
    rw [rz61]
    have oq65 : h54 o = h o := by rw [he57, tw_up_n (tw_nk ko kx (by decide))] <;> exact oq0
    refine tw_if_ne 25 dX10_gate_10 (by decide) (fun c66 => absurd (by decide) c66) (fun _ => ?_)
    refine tw_aload_n 0 dX10_gate_13 rfl rfl ?_
    refine tw_iload_n 2 dX10_gate_14 rfl rfl ?_
    refine tw_bi (tw_callS (M := mX10_gate) (pc := 15) okX10_isNoMetal dX10_gate_15 w_1308 [.int m] [.ref x] rfl rfl ⟨by decide, by decide⟩ (Nat.le_of_ble_eq_true rfl) (c2_X10_isNoMetal d g τ h54 sp64.1 m) 0 0 (Nat.le_of_ble_eq_true rfl) (Nat.le_of_ble_eq_true rfl)) (fun r69 h68 q67 => ?_) (fun E h1 q => q.elim)
    obtain ⟨q67e, q67d⟩ := q67
    rw [q67e]
    rcases q67d with ⟨q67r, q67n⟩ | ⟨q67r, q67i⟩
    · rw [q67r]
      refine tw_iconst (v := 2) dX10_gate_18 (by decide) ?_
      obtain ⟨e70, f71, th_72, td_73, ds_74, fr_75, ca_76, us_77, wo_78, cm_79, lc_80, lh_81, ld_82, rfl, k83, k84, k85, k86, k87, k88, k89, k90, k91, k92, k93, k94, k95, k96, k97, k98, k99, k100, k101, k102, k103, k104⟩ := sp64.1 x 36 kx (by decide)
      refine tw_bi (tw_callV (M := mX10_gate) (pc := 19) okX10_refuse dX10_gate_19 w_1200 rfl f71 [.int 1, .int 2] [] rfl rfl ⟨by decide, by decide⟩ (Nat.le_of_ble_eq_true rfl) (c_X10_refuse d g τ h54 sp64.1 x kx 1 2 (by decide)) 0 0 (Nat.le_of_ble_eq_true rfl) (Nat.le_of_ble_eq_true rfl)) (fun r107 h106 q105 => ?_) (fun E h1 q => q.elim)
      obtain ⟨e108, he109, hs110, hr111, hc112⟩ := q105
      obtain ⟨rz113, tz114⟩ := (hc112 th63).2 rfl
      have th115 : tw_th (h106 x) = 2 := by rw [he109, tw_up_s]; exact tz114
      have sp116 : tw_sp d τ h g τ h106 := by rw [he109]; exact sp64.set kx (by decide) hs110
      rw [rz113]
      have oq117 : h106 o = h o := by rw [he109, tw_up_n (tw_nk ko kx (by decide))] <;> exact oq65
      refine tw_if_eq 27 dX10_gate_22 (by decide) (fun c118 => absurd c118 (by decide)) (fun _ => ?_)
      refine tw_iconst (v := 0) dX10_gate_25 (by decide) ?_
      exact tw_zret dX10_gate_26 rfl rfl (Or.inl ⟨_, rfl, _, _, sp116, oq117, Or.inr (Or.inl ⟨ix0, q67n, th115, rfl⟩), by unfold tw_01; decide⟩)
    · rw [q67r]
      have rc := q67i
      obtain ⟨k, hk, km⟩ := q67i.k
      subst km
      have cDm : tw_DN (nI k) = k := nI_clamp (by omega)
      refine tw_iconst (v := 2) dX10_gate_18 (by decide) ?_
      obtain ⟨e119, f120, th_121, td_122, ds_123, fr_124, ca_125, us_126, wo_127, cm_128, lc_129, lh_130, ld_131, rfl, k132, k133, k134, k135, k136, k137, k138, k139, k140, k141, k142, k143, k144, k145, k146, k147, k148, k149, k150, k151, k152, k153⟩ := sp64.1 x 36 kx (by decide)
      refine tw_bi (tw_callV (M := mX10_gate) (pc := 19) okX10_refuse dX10_gate_19 w_1200 rfl f120 [.int 0, .int 2] [] rfl rfl ⟨by decide, by decide⟩ (Nat.le_of_ble_eq_true rfl) (c_X10_refuse d g τ h54 sp64.1 x kx 0 2 (by decide)) 0 0 (Nat.le_of_ble_eq_true rfl) (Nat.le_of_ble_eq_true rfl)) (fun r156 h155 q154 => ?_) (fun E h1 q => q.elim)
      obtain ⟨e157, he158, hs159, hr160, hc161⟩ := q154
      obtain ⟨rz162, tz163⟩ := (hc161 th63).1 rfl
      have th164 : tw_th (h155 x) = 0 := by rw [he158, tw_up_s]; exact tz163
      have sp165 : tw_sp d τ h g τ h155 := by rw [he158]; exact sp64.set kx (by decide) hs159
      rw [rz162]
      have oq166 : h155 o = h o := by rw [he158, tw_up_n (tw_nk ko kx (by decide))] <;> exact oq65
      refine tw_if_eq 27 dX10_gate_22 (by decide) (fun _ => ?_) (fun c167 => absurd (by decide) c167)
      refine tw_aload_n 0 dX10_gate_27 rfl rfl ?_
      obtain ⟨e168, f169, th_170, td_171, ds_172, fr_173, ca_174, us_175, wo_176, cm_177, lc_178, lh_179, ld_180, rfl, k181, k182, k183, k184, k185, k186, k187, k188, k189, k190, k191, k192, k193, k194, k195, k196, k197, k198, k199, k200, k201, k202⟩ := sp165.1 x 36 kx (by decide)
      refine tw_get (v := .ref lc_178) rfl in_14 9 dX10_gate_28 w_1160 rfl (by decide) f169 rfl ?_
      refine tw_iload_n 1 dX10_gate_31 rfl rfl ?_
      obtain ⟨e203, f204, ⟨el205, rfl, k206⟩, k207⟩ := sp165.1 lc_178 24 k187 (by decide)
      refine tw_br (tw_callV (M := mX10_gate) (pc := 32) okJx4a65c_get_915e3 dX10_gate_32 w_1292 rfl f204 [.int (nI jn)] [] rfl rfl ⟨by decide, by decide⟩ (Nat.le_of_ble_eq_true rfl) (c24_get d g τ h155 sp165.1 lc_178 k187 jn (by omega) (by omega)) 0 0 (Nat.le_of_ble_eq_true rfl) (Nat.le_of_ble_eq_true rfl)) (fun r210 h209 q208 => ?_) (fun E h1 q => q.elim)
      obtain ⟨q208e, q208k⟩ := q208
      rw [q208e]
      have el211 : tw_el h155 (g.2 12) jn = r210 := by rw [← k207]; exact q208k.2.symm
      have kl212 : τ (g.2 12) = 24 := by rw [← k207]; exact k187
      have id213 : g.2 (4096 + r210) = 480 + 64 * jn := by rw [← el211]; exact tw_eli24 sp165.1 kl212 (by omega)
      obtain ⟨e214, f215, r_216, c_217, v_218, o_219, t_220, rfl, k221, k222, k223, k224, k225, k226⟩ := sp165.1 r210 21 q208k.1 (by decide)
      obtain ⟨j227, ow228, fr9, fc9, q229, q230, q231⟩ := k226
      obtain rfl : jn = j227 := by have z := ow228.b id213; omega
      subst fr9 fc9
      refine tw_castS (ci := 11) rfl dX10_gate_35 w_1208 f215 ?_
      refine tw_get (v := .ref o_219) rfl in_11 3 dX10_gate_38 w_1219 rfl (by decide) f215 rfl ?_
      refine tw_iload_n 2 dX10_gate_41 rfl rfl ?_
      obtain ⟨e232, f233, F234, rfl, k236, ⟨b237, ow238, wv239⟩⟩ := sp165.1 o_219 32 k222 (by decide)
      obtain rfl : b237 = (480 + 64 * jn + 8) := ow238.b q229
      have ev240 : F234 ((nI k)).toNatClampNeg = (g.1 ((480 + 64 * jn + 8) + k)) := by rw [nI_clamp (by omega)]; exact wv239 k (by omega)
      refine tw_zald (v := (g.1 ((480 + 64 * jn + 8) + k))) dX10_gate_42 f233 (vp_in_nI (by omega) (by decide)) ev240 ?_
      refine tw_istore [(4, .int (g.1 ((480 + 64 * jn + 8) + k))), (0, .ref x), (1, .int (nI jn)), (2, .int (nI k)), (3, .int b)] dX10_gate_43 (by decide) rfl ?_
      refine tw_aload_n 1 dX10_gate_45 rfl rfl ?_
      refine tw_get (v := .ref lc_178) rfl in_14 9 dX10_gate_46 w_1160 rfl (by decide) f169 rfl ?_
      refine tw_iload_n 2 dX10_gate_49 rfl rfl ?_
      refine tw_br (tw_callV (M := mX10_gate) (pc := 50) okJx4a65c_get_915e3 dX10_gate_50 w_1292 rfl f204 [.int (nI jn)] [] rfl rfl ⟨by decide, by decide⟩ (Nat.le_of_ble_eq_true rfl) (c24_get d g τ h155 sp165.1 lc_178 k187 jn (by omega) (by omega)) 0 0 (Nat.le_of_ble_eq_true rfl) (Nat.le_of_ble_eq_true rfl)) (fun r243 h242 q241 => ?_) (fun E h1 q => q.elim)
      obtain ⟨q241e, q241k⟩ := q241
      rw [q241e]
      have q241ky : r243 = r210 := q241k.2.trans (by rw [k207]; exact el211)
      rw [q241ky]
      refine tw_castS (ci := 11) rfl dX10_gate_53 w_1208 f215 ?_
      refine tw_get (v := .ref o_219) rfl in_11 3 dX10_gate_56 w_1219 rfl (by decide) f215 rfl ?_
      refine tw_iload_n 3 dX10_gate_59 rfl rfl ?_
      refine tw_iload_n 4 dX10_gate_60 rfl rfl ?_
      refine tw_zast dX10_gate_61 f233 (vp_in_nI (by omega) (by decide)) ?_
      have nr244 : vp_nar .boolean b = b := tw_vpn kb
      rw [nr244]
      rw [nI_clamp (by omega)]
      obtain ⟨h245, eh245⟩ : ∃ z : tw_H, z = tw_up h155 o_219 (.inl (d.2 2, 2, .inl (upd F234 k b))) := ⟨_, rfl⟩
      rw [← eh245]
      have th246 : tw_th (h245 x) = 0 := by rw [eh245, tw_up_n (tw_nk kx k222 (by decide))] <;> exact th164
      have oq247 : h245 o = h o := by rw [eh245, tw_up_n (tw_nk ko k222 (by decide))] <;> exact oq166
      have sp248 : tw_sp d τ h (tw_g1 g ((480 + 64 * jn + 8) + k) b) τ h245 := by rw [eh245]; exact sp165.wb k222 (by decide) ow238 ⟨_, rfl, tw_01up k236 kb, tw_f6.up ow238 wv239⟩ (fun q9 hq9 => tw_g1_ne (by omega)) rfl
      refine tw_iload 0 dX10_gate_62 rfl ?_
      exact tw_zret dX10_gate_64 rfl (tw_nar01 (by rw [← ev240]; exact k236 _)) (Or.inl ⟨_, rfl, _, _, sp248, oq247, Or.inr (Or.inr ⟨ix0, rc, (by rw [cDn, cDm]), th246, (by rw [cDn, cDm])⟩), (by rw [← ev240]; exact k236 _)⟩)

set_option maxHeartbeats 4000000 in
set_option maxRecDepth 100000 in
theorem c2_X10_road (d : tw_D) (g : tw_G) (τ : tw_K) (h : tw_H) (hw : tw_wt d g τ h) (x : Nat) (kx : τ x = 36) (a : Int32) (b : Int32) (dy : Int32) (fr : Int32) (o : Nat) (ko : τ o = 12) : tw_Ct d mX10_road 0 0 [.ref x, .int a, .int b, .int dy, .int fr] h (tw_qi (fun r9 h1 => ∃ g1 τ1, tw_sp d τ h g1 τ1 h1 ∧ h1 o = h o ∧ ((¬ (tw_ix (g.2 3) a ∧ tw_ix (g.2 3) b) ∧ tw_th (h1 x) = 1 ∧ g1 = g) ∨ ((tw_ix (g.2 3) a ∧ tw_ix (g.2 3) b) ∧ ¬ tw_RD a b dy fr ∧ tw_th (h1 x) = 2 ∧ g1 = g) ∨ ((tw_ix (g.2 3) a ∧ tw_ix (g.2 3) b) ∧ tw_RD a b dy fr ∧ r9 = g.1 (416 + 8 * tw_DN a + tw_DN b) ∧ tw_th (h1 x) = 0 ∧ g1 = tw_g1 (tw_g1 (tw_g1 (tw_g1 g (416 + 8 * tw_DN a + tw_DN b) dy) (416 + 8 * tw_DN b + tw_DN a) dy) (448 + 8 * tw_DN a + tw_DN b) fr) (448 + 8 * tw_DN b + tw_DN a) fr))) tw_nx) := by
  refine tw_of (by decide +kernel) (Nat.le_of_ble_eq_true rfl) ?_
  show tw_W d mX10_road _ 0 [(0, .ref x), (1, .int a), (2, .int b), (3, .int dy), (4, .int fr)] [] h 0 0
  have sp0 := tw_sp.rf hw
  have oq0 : h o = h o := rfl
  refine tw_aload_n 0 dX10_road_0 rfl rfl ?_
  refine tw_aload_n 0 dX10_road_1 rfl rfl ?_
  refine tw_iload_n 1 dX10_road_2 rfl rfl ?_
  obtain ⟨e1, f2, th_3, td_4, ds_5, fr_6, ca_7, us_8, wo_9, cm_10, lc_11, lh_12, ld_13, rfl, k14, k15, k16, k17, k18, k19, k20, k21, k22, k23, k24, k25, k26, k27, k28, k29, k30, k31, k32, k33, k34, k35⟩ := sp0.1 x 36 kx (by decide)
  refine tw_bi (tw_callV (M := mX10_road) (pc := 3) okX10_isNoCountry dX10_road_3 w_1288 rfl f2 [.int a] [.ref x] rfl rfl ⟨by decide, by decide⟩ (Nat.le_of_ble_eq_true rfl) (c2_X10_isNoCountry d g τ h sp0.1 x kx a) 0 0 (Nat.le_of_ble_eq_true rfl) (Nat.le_of_ble_eq_true rfl)) (fun r38 h37 q36 => ?_) (fun E h1 q => q.elim)
  obtain ⟨q36e, q36d⟩ := q36
  rw [q36e]
  rcases q36d with ⟨q36r, q36n⟩ | ⟨q36r, q36i⟩
  · rw [q36r]
    refine tw_if_ne 17 dX10_road_6 (by decide) (fun _ => ?_) (fun c39 => absurd c39 (by decide))
    refine tw_iconst (v := 1) dX10_road_17 (by decide) ?_
    refine tw_goto 22 dX10_road_18 (by decide) ?_
    refine tw_iconst (v := 1) dX10_road_22 (by decide) ?_
    refine tw_bi (tw_callV (M := mX10_road) (pc := 23) okX10_start dX10_road_23 w_1196 rfl f2 [.int 1, .int 1] [] rfl rfl ⟨by decide, by decide⟩ (Nat.le_of_ble_eq_true rfl) (c_X10_start d g τ h sp0.1 x kx 1 1 (by decide)) 0 0 (Nat.le_of_ble_eq_true rfl) (Nat.le_of_ble_eq_true rfl)) (fun r42 h41 q40 => ?_) (fun E h1 q => q.elim)
    obtain ⟨e43, he44, hs45, hr46, hc47⟩ := q40
    obtain ⟨rz48, tz49⟩ := hc47.2 rfl
    have th50 : tw_th (h41 x) = 1 := by rw [he44, tw_up_s]; exact tz49
    have sp51 : tw_sp d τ h g τ h41 := by rw [he44]; exact sp0.set kx (by decide) hs45
    rw [rz48]
    have oq52 : h41 o = h o := by rw [he44, tw_up_n (tw_nk ko kx (by decide))] <;> exact oq0
    refine tw_if_ne 68 dX10_road_26 (by decide) (fun _ => ?_) (fun c53 => absurd c53 (by decide))
    refine tw_iconst (v := 0) dX10_road_68 (by decide) ?_
    exact tw_iret dX10_road_69 rfl (Or.inl ⟨_, rfl, _, _, sp51, oq52, Or.inl ⟨fun z => q36n z.1, th50, rfl⟩⟩)
  · rw [q36r]
    have q36x := q36i
    obtain ⟨ja, q36j, q36k⟩ := q36i
    subst q36k
    have cDa : tw_DN (nI ja) = ja := nI_clamp (by omega)
    refine tw_if_ne 17 dX10_road_6 (by decide) (fun c54 => absurd (by decide) c54) (fun _ => ?_)
    refine tw_aload_n 0 dX10_road_9 rfl rfl ?_
    refine tw_iload_n 2 dX10_road_10 rfl rfl ?_
    refine tw_bi (tw_callV (M := mX10_road) (pc := 11) okX10_isNoCountry dX10_road_11 w_1288 rfl f2 [.int b] [.ref x] rfl rfl ⟨by decide, by decide⟩ (Nat.le_of_ble_eq_true rfl) (c2_X10_isNoCountry d g τ h sp0.1 x kx b) 0 0 (Nat.le_of_ble_eq_true rfl) (Nat.le_of_ble_eq_true rfl)) (fun r57 h56 q55 => ?_) (fun E h1 q => q.elim)
    obtain ⟨q55e, q55d⟩ := q55
    rw [q55e]
    rcases q55d with ⟨q55r, q55n⟩ | ⟨q55r, q55i⟩
    · rw [q55r]
      refine tw_if_eq 21 dX10_road_14 (by decide) (fun c58 => absurd c58 (by decide)) (fun _ => ?_)
      refine tw_iconst (v := 1) dX10_road_17 (by decide) ?_
      refine tw_goto 22 dX10_road_18 (by decide) ?_
      refine tw_iconst (v := 1) dX10_road_22 (by decide) ?_
      refine tw_bi (tw_callV (M := mX10_road) (pc := 23) okX10_start dX10_road_23 w_1196 rfl f2 [.int 1, .int 1] [] rfl rfl ⟨by decide, by decide⟩ (Nat.le_of_ble_eq_true rfl) (c_X10_start d g τ h sp0.1 x kx 1 1 (by decide)) 0 0 (Nat.le_of_ble_eq_true rfl) (Nat.le_of_ble_eq_true rfl)) (fun r61 h60 q59 => ?_) (fun E h1 q => q.elim)
      obtain ⟨e62, he63, hs64, hr65, hc66⟩ := q59
      obtain ⟨rz67, tz68⟩ := hc66.2 rfl
      have th69 : tw_th (h60 x) = 1 := by rw [he63, tw_up_s]; exact tz68
      have sp70 : tw_sp d τ h g τ h60 := by rw [he63]; exact sp0.set kx (by decide) hs64
      rw [rz67]
      have oq71 : h60 o = h o := by rw [he63, tw_up_n (tw_nk ko kx (by decide))] <;> exact oq0
      refine tw_if_ne 68 dX10_road_26 (by decide) (fun _ => ?_) (fun c72 => absurd c72 (by decide))
      refine tw_iconst (v := 0) dX10_road_68 (by decide) ?_
      exact tw_iret dX10_road_69 rfl (Or.inl ⟨_, rfl, _, _, sp70, oq71, Or.inl ⟨fun z => q55n z.2, th69, rfl⟩⟩)
    · rw [q55r]
      have q55x := q55i
      obtain ⟨jb, q55j, q55k⟩ := q55i
      subst q55k
      have cDb : tw_DN (nI jb) = jb := nI_clamp (by omega)
      have ix0 := And.intro q36x q55x
      refine tw_if_eq 21 dX10_road_14 (by decide) (fun _ => ?_) (fun c73 => absurd (by decide) c73)
      refine tw_iconst (v := 0) dX10_road_21 (by decide) ?_
      refine tw_iconst (v := 1) dX10_road_22 (by decide) ?_
      refine tw_bi (tw_callV (M := mX10_road) (pc := 23) okX10_start dX10_road_23 w_1196 rfl f2 [.int 0, .int 1] [] rfl rfl ⟨by decide, by decide⟩ (Nat.le_of_ble_eq_true rfl) (c_X10_start d g τ h sp0.1 x kx 0 1 (by decide)) 0 0 (Nat.le_of_ble_eq_true rfl) (Nat.le_of_ble_eq_true rfl)) (fun r76 h75 q74 => ?_) (fun E h1 q => q.elim)
      obtain ⟨e77, he78, hs79, hr80, hc81⟩ := q74
      obtain ⟨rz82, tz83⟩ := hc81.1 rfl
      have th84 : tw_th (h75 x) = 0 := by rw [he78, tw_up_s]; exact tz83
      have sp85 : tw_sp d τ h g τ h75 := by rw [he78]; exact sp0.set kx (by decide) hs79
      rw [rz82]
      have oq86 : h75 o = h o := by rw [he78, tw_up_n (tw_nk ko kx (by decide))] <;> exact oq0
      refine tw_if_ne 68 dX10_road_26 (by decide) (fun c87 => absurd (by decide) c87) (fun _ => ?_)
      refine tw_aload_n 0 dX10_road_29 rfl rfl ?_
      refine tw_iload_n 1 dX10_road_30 rfl rfl ?_
      refine tw_iload_n 2 dX10_road_31 rfl rfl ?_
      refine tw_icmp_eq 56 dX10_road_32 (by decide) (fun c88 => ?_) (fun c88 => ?_)
      · refine tw_iconst (v := 1) dX10_road_56 (by decide) ?_
        refine tw_goto 61 dX10_road_57 (by decide) ?_
        refine tw_iconst (v := 2) dX10_road_61 (by decide) ?_
        obtain ⟨e89, f90, th_91, td_92, ds_93, fr_94, ca_95, us_96, wo_97, cm_98, lc_99, lh_100, ld_101, rfl, k102, k103, k104, k105, k106, k107, k108, k109, k110, k111, k112, k113, k114, k115, k116, k117, k118, k119, k120, k121, k122, k123⟩ := sp85.1 x 36 kx (by decide)
        refine tw_bi (tw_callV (M := mX10_road) (pc := 62) okX10_refuse dX10_road_62 w_1200 rfl f90 [.int 1, .int 2] [] rfl rfl ⟨by decide, by decide⟩ (Nat.le_of_ble_eq_true rfl) (c_X10_refuse d g τ h75 sp85.1 x kx 1 2 (by decide)) 0 0 (Nat.le_of_ble_eq_true rfl) (Nat.le_of_ble_eq_true rfl)) (fun r126 h125 q124 => ?_) (fun E h1 q => q.elim)
        obtain ⟨e127, he128, hs129, hr130, hc131⟩ := q124
        obtain ⟨rz132, tz133⟩ := (hc131 th84).2 rfl
        have th134 : tw_th (h125 x) = 2 := by rw [he128, tw_up_s]; exact tz133
        have sp135 : tw_sp d τ h g τ h125 := by rw [he128]; exact sp85.set kx (by decide) hs129
        rw [rz132]
        have oq136 : h125 o = h o := by rw [he128, tw_up_n (tw_nk ko kx (by decide))] <;> exact oq86
        refine tw_if_eq 70 dX10_road_65 (by decide) (fun c137 => absurd c137 (by decide)) (fun _ => ?_)
        refine tw_iconst (v := 0) dX10_road_68 (by decide) ?_
        exact tw_iret dX10_road_69 rfl (Or.inl ⟨_, rfl, _, _, sp135, oq136, Or.inr (Or.inl ⟨ix0, fun z => z.1 c88, th134, rfl⟩)⟩)
      · refine tw_iload_n 3 dX10_road_35 rfl rfl ?_
        refine tw_iconst (v := 1) dX10_road_36 (by decide) ?_
        refine tw_bipush (v := 30) dX10_road_37 (by decide) ?_
        refine tw_bi (tw_callS (M := mX10_road) (pc := 39) okX10_isIn dX10_road_39 w_1192 [.int dy, .int 1, .int 30] [.ref x] rfl rfl ⟨by decide, by decide⟩ (Nat.le_of_ble_eq_true rfl) (c_X10_isIn d g τ h75 sp85.1 dy 1 30) 0 0 (Nat.le_of_ble_eq_true rfl) (Nat.le_of_ble_eq_true rfl)) (fun r140 h139 q138 => ?_) (fun E h1 q => q.elim)
        obtain ⟨q138e, q138d⟩ := q138
        rw [q138e]
        rcases q138d with ⟨q138r, q138n⟩ | ⟨q138r, q138a, q138b⟩
        · rw [q138r]
          refine tw_if_eq 56 dX10_road_42 (by decide) (fun _ => ?_) (fun c141 => absurd (by decide) c141)
          refine tw_iconst (v := 1) dX10_road_56 (by decide) ?_
          refine tw_goto 61 dX10_road_57 (by decide) ?_
          refine tw_iconst (v := 2) dX10_road_61 (by decide) ?_
          obtain ⟨e142, f143, th_144, td_145, ds_146, fr_147, ca_148, us_149, wo_150, cm_151, lc_152, lh_153, ld_154, rfl, k155, k156, k157, k158, k159, k160, k161, k162, k163, k164, k165, k166, k167, k168, k169, k170, k171, k172, k173, k174, k175, k176⟩ := sp85.1 x 36 kx (by decide)
          refine tw_bi (tw_callV (M := mX10_road) (pc := 62) okX10_refuse dX10_road_62 w_1200 rfl f143 [.int 1, .int 2] [] rfl rfl ⟨by decide, by decide⟩ (Nat.le_of_ble_eq_true rfl) (c_X10_refuse d g τ h75 sp85.1 x kx 1 2 (by decide)) 0 0 (Nat.le_of_ble_eq_true rfl) (Nat.le_of_ble_eq_true rfl)) (fun r179 h178 q177 => ?_) (fun E h1 q => q.elim)
          obtain ⟨e180, he181, hs182, hr183, hc184⟩ := q177
          obtain ⟨rz185, tz186⟩ := (hc184 th84).2 rfl
          have th187 : tw_th (h178 x) = 2 := by rw [he181, tw_up_s]; exact tz186
          have sp188 : tw_sp d τ h g τ h178 := by rw [he181]; exact sp85.set kx (by decide) hs182
          rw [rz185]
          have oq189 : h178 o = h o := by rw [he181, tw_up_n (tw_nk ko kx (by decide))] <;> exact oq86
          refine tw_if_eq 70 dX10_road_65 (by decide) (fun c190 => absurd c190 (by decide)) (fun _ => ?_)
          refine tw_iconst (v := 0) dX10_road_68 (by decide) ?_
          exact tw_iret dX10_road_69 rfl (Or.inl ⟨_, rfl, _, _, sp188, oq189, Or.inr (Or.inl ⟨ix0, fun z => q138n z.2.1, th187, rfl⟩)⟩)
        · rw [q138r]
          refine tw_if_eq 56 dX10_road_42 (by decide) (fun c191 => absurd c191 (by decide)) (fun _ => ?_)
          refine tw_iload 4 dX10_road_45 rfl ?_
          refine tw_iconst (v := 0) dX10_road_47 (by decide) ?_
          refine tw_bipush (v := 100) dX10_road_48 (by decide) ?_
          refine tw_bi (tw_callS (M := mX10_road) (pc := 50) okX10_isIn dX10_road_50 w_1192 [.int fr, .int 0, .int 100] [.ref x] rfl rfl ⟨by decide, by decide⟩ (Nat.le_of_ble_eq_true rfl) (c_X10_isIn d g τ h75 sp85.1 fr 0 100) 0 0 (Nat.le_of_ble_eq_true rfl) (Nat.le_of_ble_eq_true rfl)) (fun r194 h193 q192 => ?_) (fun E h1 q => q.elim)
          obtain ⟨q192e, q192d⟩ := q192
          rw [q192e]
          rcases q192d with ⟨q192r, q192n⟩ | ⟨q192r, q192a, q192b⟩
          · rw [q192r]
            refine tw_if_ne 60 dX10_road_53 (by decide) (fun c195 => absurd (by decide) c195) (fun _ => ?_)
            refine tw_iconst (v := 1) dX10_road_56 (by decide) ?_
            refine tw_goto 61 dX10_road_57 (by decide) ?_
            refine tw_iconst (v := 2) dX10_road_61 (by decide) ?_
            obtain ⟨e196, f197, th_198, td_199, ds_200, fr_201, ca_202, us_203, wo_204, cm_205, lc_206, lh_207, ld_208, rfl, k209, k210, k211, k212, k213, k214, k215, k216, k217, k218, k219, k220, k221, k222, k223, k224, k225, k226, k227, k228, k229, k230⟩ := sp85.1 x 36 kx (by decide)
            refine tw_bi (tw_callV (M := mX10_road) (pc := 62) okX10_refuse dX10_road_62 w_1200 rfl f197 [.int 1, .int 2] [] rfl rfl ⟨by decide, by decide⟩ (Nat.le_of_ble_eq_true rfl) (c_X10_refuse d g τ h75 sp85.1 x kx 1 2 (by decide)) 0 0 (Nat.le_of_ble_eq_true rfl) (Nat.le_of_ble_eq_true rfl)) (fun r233 h232 q231 => ?_) (fun E h1 q => q.elim)
            obtain ⟨e234, he235, hs236, hr237, hc238⟩ := q231
            obtain ⟨rz239, tz240⟩ := (hc238 th84).2 rfl
            have th241 : tw_th (h232 x) = 2 := by rw [he235, tw_up_s]; exact tz240
            have sp242 : tw_sp d τ h g τ h232 := by rw [he235]; exact sp85.set kx (by decide) hs236
            rw [rz239]
            have oq243 : h232 o = h o := by rw [he235, tw_up_n (tw_nk ko kx (by decide))] <;> exact oq86
            refine tw_if_eq 70 dX10_road_65 (by decide) (fun c244 => absurd c244 (by decide)) (fun _ => ?_)
            refine tw_iconst (v := 0) dX10_road_68 (by decide) ?_
            exact tw_iret dX10_road_69 rfl (Or.inl ⟨_, rfl, _, _, sp242, oq243, Or.inr (Or.inl ⟨ix0, fun z => q192n z.2.2, th241, rfl⟩)⟩)
          · rw [q192r]
            refine tw_if_ne 60 dX10_road_53 (by decide) (fun _ => ?_) (fun c245 => absurd c245 (by decide))
            refine tw_iconst (v := 0) dX10_road_60 (by decide) ?_
            refine tw_iconst (v := 2) dX10_road_61 (by decide) ?_
            obtain ⟨e246, f247, th_248, td_249, ds_250, fr_251, ca_252, us_253, wo_254, cm_255, lc_256, lh_257, ld_258, rfl, k259, k260, k261, k262, k263, k264, k265, k266, k267, k268, k269, k270, k271, k272, k273, k274, k275, k276, k277, k278, k279, k280⟩ := sp85.1 x 36 kx (by decide)
            refine tw_bi (tw_callV (M := mX10_road) (pc := 62) okX10_refuse dX10_road_62 w_1200 rfl f247 [.int 0, .int 2] [] rfl rfl ⟨by decide, by decide⟩ (Nat.le_of_ble_eq_true rfl) (c_X10_refuse d g τ h75 sp85.1 x kx 0 2 (by decide)) 0 0 (Nat.le_of_ble_eq_true rfl) (Nat.le_of_ble_eq_true rfl)) (fun r283 h282 q281 => ?_) (fun E h1 q => q.elim)
            obtain ⟨e284, he285, hs286, hr287, hc288⟩ := q281
            obtain ⟨rz289, tz290⟩ := (hc288 th84).1 rfl
            have th291 : tw_th (h282 x) = 0 := by rw [he285, tw_up_s]; exact tz290
            have sp292 : tw_sp d τ h g τ h282 := by rw [he285]; exact sp85.set kx (by decide) hs286
            rw [rz289]
            have oq293 : h282 o = h o := by rw [he285, tw_up_n (tw_nk ko kx (by decide))] <;> exact oq86
            refine tw_if_eq 70 dX10_road_65 (by decide) (fun _ => ?_) (fun c294 => absurd (by decide) c294)
            refine tw_aload_n 0 dX10_road_70 rfl rfl ?_
            obtain ⟨e295, f296, th_297, td_298, ds_299, fr_300, ca_301, us_302, wo_303, cm_304, lc_305, lh_306, ld_307, rfl, k308, k309, k310, k311, k312, k313, k314, k315, k316, k317, k318, k319, k320, k321, k322, k323, k324, k325, k326, k327, k328, k329⟩ := sp292.1 x 36 kx (by decide)
            refine tw_get (v := .ref ds_299) rfl in_14 3 dX10_road_71 w_1154 rfl (by decide) f296 rfl ?_
            refine tw_iload_n 1 dX10_road_74 rfl rfl ?_
            obtain ⟨e332, f333, F330, rfl, k331⟩ := sp292.1 ds_299 34 k308 (by decide)
            obtain ⟨q334, k335, k336, iq337⟩ := k331 ((nI ja)).toNatClampNeg (by rw [nI_clamp (by omega)]; omega)
            refine tw_aald (v := .ref q334) 8 rfl rfl dX10_road_75 f333 (vp_in_nI (by omega) (by decide)) (by rw [k335]; rfl) ?_
            have id338 : g.2 (4096 + q334) = 416 + 8 * ja := by have z := iq337; rw [nI_clamp (by omega), k324] at z; exact z
            refine tw_iload_n 2 dX10_road_76 rfl rfl ?_
            obtain ⟨e339, f340, F341, rfl, ⟨b343, ow344, wv345⟩⟩ := sp292.1 q334 6 k336 (by decide)
            obtain rfl : b343 = (416 + 8 * ja) := ow344.b id338
            have ev346 : F341 ((nI jb)).toNatClampNeg = (g.1 ((416 + 8 * ja) + jb)) := by rw [nI_clamp (by omega)]; exact wv345 jb (by omega)
            refine tw_iald (v := (g.1 ((416 + 8 * ja) + jb))) dX10_road_77 f340 (vp_in_nI (by omega) (by decide)) ev346 ?_
            refine tw_istore [(5, .int (g.1 ((416 + 8 * ja) + jb))), (0, .ref x), (1, .int (nI ja)), (2, .int (nI jb)), (3, .int dy), (4, .int fr)] dX10_road_78 (by decide) rfl ?_
            refine tw_aload_n 1 dX10_road_80 rfl rfl ?_
            refine tw_get (v := .ref ds_299) rfl in_14 3 dX10_road_81 w_1154 rfl (by decide) f296 rfl ?_
            refine tw_iload_n 2 dX10_road_84 rfl rfl ?_
            obtain ⟨q347, k348, k349, iq350⟩ := k331 ((nI ja)).toNatClampNeg (by rw [nI_clamp (by omega)]; omega)
            refine tw_aald (v := .ref q347) 8 rfl rfl dX10_road_85 f333 (vp_in_nI (by omega) (by decide)) (by rw [k348]; rfl) ?_
            have id351 : g.2 (4096 + q347) = 416 + 8 * ja := by have z := iq350; rw [nI_clamp (by omega), k324] at z; exact z
            refine tw_iload_n 3 dX10_road_86 rfl rfl ?_
            refine tw_iload_n 4 dX10_road_87 rfl rfl ?_
            obtain ⟨e352, f353, F354, rfl, ⟨b356, ow357, wv358⟩⟩ := sp292.1 q347 6 k349 (by decide)
            obtain rfl : b356 = (416 + 8 * ja) := ow357.b id351
            refine tw_iast dX10_road_88 f353 (vp_in_nI (by omega) (by decide)) ?_
            rw [nI_clamp (by omega)]
            obtain ⟨h359, eh359⟩ : ∃ z : tw_H, z = tw_up h282 q347 (.inl (d.2 0, 4, .inl (upd F354 jb dy))) := ⟨_, rfl⟩
            rw [← eh359]
            have th360 : tw_th (h359 x) = 0 := by rw [eh359, tw_up_n (tw_nk kx k349 (by decide))] <;> exact th291
            have oq361 : h359 o = h o := by rw [eh359, tw_up_n (tw_nk ko k349 (by decide))] <;> exact oq293
            have sp362 : tw_sp d τ h (tw_g1 g ((416 + 8 * ja) + jb) dy) τ h359 := by rw [eh359]; exact sp292.wb k349 (by decide) ow357 ⟨_, rfl, tw_f6.up ow357 wv358⟩ (fun q9 hq9 => tw_g1_ne (by omega)) rfl
            refine tw_aload_n 1 dX10_road_89 rfl rfl ?_
            obtain ⟨e363, f364, th_365, td_366, ds_367, fr_368, ca_369, us_370, wo_371, cm_372, lc_373, lh_374, ld_375, rfl, k376, k377, k378, k379, k380, k381, k382, k383, k384, k385, k386, k387, k388, k389, k390, k391, k392, k393, k394, k395, k396, k397⟩ := sp362.1 x 36 kx (by decide)
            refine tw_get (v := .ref ds_367) rfl in_14 3 dX10_road_90 w_1154 rfl (by decide) f364 rfl ?_
            refine tw_iload_n 3 dX10_road_93 rfl rfl ?_
            obtain ⟨e400, f401, F398, rfl, k399⟩ := sp362.1 ds_367 34 k376 (by decide)
            obtain ⟨q402, k403, k404, iq405⟩ := k399 ((nI jb)).toNatClampNeg (by rw [nI_clamp (by omega)]; omega)
            refine tw_aald (v := .ref q402) 8 rfl rfl dX10_road_94 f401 (vp_in_nI (by omega) (by decide)) (by rw [k403]; rfl) ?_
            have id406 : (tw_g1 g ((416 + 8 * ja) + jb) dy).2 (4096 + q402) = 416 + 8 * jb := by have z := iq405; rw [nI_clamp (by omega), k392] at z; exact z
            refine tw_iload_n 2 dX10_road_95 rfl rfl ?_
            refine tw_iload_n 4 dX10_road_96 rfl rfl ?_
            obtain ⟨e407, f408, F409, rfl, ⟨b411, ow412, wv413⟩⟩ := sp362.1 q402 6 k404 (by decide)
            obtain rfl : b411 = (416 + 8 * jb) := ow412.b id406
            refine tw_iast dX10_road_97 f408 (vp_in_nI (by omega) (by decide)) ?_
            rw [nI_clamp (by omega)]
            obtain ⟨h414, eh414⟩ : ∃ z : tw_H, z = tw_up h359 q402 (.inl (d.2 0, 4, .inl (upd F409 ja dy))) := ⟨_, rfl⟩
            rw [← eh414]
            have th415 : tw_th (h414 x) = 0 := by rw [eh414, tw_up_n (tw_nk kx k404 (by decide))] <;> exact th360
            have oq416 : h414 o = h o := by rw [eh414, tw_up_n (tw_nk ko k404 (by decide))] <;> exact oq361
            have sp417 : tw_sp d τ h (tw_g1 (tw_g1 g ((416 + 8 * ja) + jb) dy) ((416 + 8 * jb) + ja) dy) τ h414 := by rw [eh414]; exact sp362.wb k404 (by decide) ow412 ⟨_, rfl, tw_f6.up ow412 wv413⟩ (fun q9 hq9 => tw_g1_ne (by omega)) rfl
            refine tw_aload_n 1 dX10_road_98 rfl rfl ?_
            obtain ⟨e418, f419, th_420, td_421, ds_422, fr_423, ca_424, us_425, wo_426, cm_427, lc_428, lh_429, ld_430, rfl, k431, k432, k433, k434, k435, k436, k437, k438, k439, k440, k441, k442, k443, k444, k445, k446, k447, k448, k449, k450, k451, k452⟩ := sp417.1 x 36 kx (by decide)
            refine tw_get (v := .ref fr_423) rfl in_14 4 dX10_road_99 w_1155 rfl (by decide) f419 rfl ?_
            refine tw_iload_n 2 dX10_road_102 rfl rfl ?_
            obtain ⟨e455, f456, F453, rfl, k454⟩ := sp417.1 fr_423 34 k432 (by decide)
            obtain ⟨q457, k458, k459, iq460⟩ := k454 ((nI ja)).toNatClampNeg (by rw [nI_clamp (by omega)]; omega)
            refine tw_aald (v := .ref q457) 8 rfl rfl dX10_road_103 f456 (vp_in_nI (by omega) (by decide)) (by rw [k458]; rfl) ?_
            have id461 : (tw_g1 (tw_g1 g ((416 + 8 * ja) + jb) dy) ((416 + 8 * jb) + ja) dy).2 (4096 + q457) = 448 + 8 * ja := by have z := iq460; rw [nI_clamp (by omega), k448] at z; exact z
            refine tw_iload_n 3 dX10_road_104 rfl rfl ?_
            refine tw_iload 5 dX10_road_105 rfl ?_
            obtain ⟨e462, f463, F464, rfl, ⟨b466, ow467, wv468⟩⟩ := sp417.1 q457 6 k459 (by decide)
            obtain rfl : b466 = (448 + 8 * ja) := ow467.b id461
            refine tw_iast dX10_road_107 f463 (vp_in_nI (by omega) (by decide)) ?_
            rw [nI_clamp (by omega)]
            obtain ⟨h469, eh469⟩ : ∃ z : tw_H, z = tw_up h414 q457 (.inl (d.2 0, 4, .inl (upd F464 jb fr))) := ⟨_, rfl⟩
            rw [← eh469]
            have th470 : tw_th (h469 x) = 0 := by rw [eh469, tw_up_n (tw_nk kx k459 (by decide))] <;> exact th415
            have oq471 : h469 o = h o := by rw [eh469, tw_up_n (tw_nk ko k459 (by decide))] <;> exact oq416
            have sp472 : tw_sp d τ h (tw_g1 (tw_g1 (tw_g1 g ((416 + 8 * ja) + jb) dy) ((416 + 8 * jb) + ja) dy) ((448 + 8 * ja) + jb) fr) τ h469 := by rw [eh469]; exact sp417.wb k459 (by decide) ow467 ⟨_, rfl, tw_f6.up ow467 wv468⟩ (fun q9 hq9 => tw_g1_ne (by omega)) rfl
            refine tw_aload_n 1 dX10_road_108 rfl rfl ?_
            obtain ⟨e473, f474, th_475, td_476, ds_477, fr_478, ca_479, us_480, wo_481, cm_482, lc_483, lh_484, ld_485, rfl, k486, k487, k488, k489, k490, k491, k492, k493, k494, k495, k496, k497, k498, k499, k500, k501, k502, k503, k504, k505, k506, k507⟩ := sp472.1 x 36 kx (by decide)
            refine tw_get (v := .ref fr_478) rfl in_14 4 dX10_road_109 w_1155 rfl (by decide) f474 rfl ?_
            refine tw_iload_n 3 dX10_road_112 rfl rfl ?_
            obtain ⟨e510, f511, F508, rfl, k509⟩ := sp472.1 fr_478 34 k487 (by decide)
            obtain ⟨q512, k513, k514, iq515⟩ := k509 ((nI jb)).toNatClampNeg (by rw [nI_clamp (by omega)]; omega)
            refine tw_aald (v := .ref q512) 8 rfl rfl dX10_road_113 f511 (vp_in_nI (by omega) (by decide)) (by rw [k513]; rfl) ?_
            have id516 : (tw_g1 (tw_g1 (tw_g1 g ((416 + 8 * ja) + jb) dy) ((416 + 8 * jb) + ja) dy) ((448 + 8 * ja) + jb) fr).2 (4096 + q512) = 448 + 8 * jb := by have z := iq515; rw [nI_clamp (by omega), k503] at z; exact z
            refine tw_iload_n 2 dX10_road_114 rfl rfl ?_
            refine tw_iload 5 dX10_road_115 rfl ?_
            obtain ⟨e517, f518, F519, rfl, ⟨b521, ow522, wv523⟩⟩ := sp472.1 q512 6 k514 (by decide)
            obtain rfl : b521 = (448 + 8 * jb) := ow522.b id516
            refine tw_iast dX10_road_117 f518 (vp_in_nI (by omega) (by decide)) ?_
            rw [nI_clamp (by omega)]
            obtain ⟨h524, eh524⟩ : ∃ z : tw_H, z = tw_up h469 q512 (.inl (d.2 0, 4, .inl (upd F519 ja fr))) := ⟨_, rfl⟩
            rw [← eh524]
            have th525 : tw_th (h524 x) = 0 := by rw [eh524, tw_up_n (tw_nk kx k514 (by decide))] <;> exact th470
            have oq526 : h524 o = h o := by rw [eh524, tw_up_n (tw_nk ko k514 (by decide))] <;> exact oq471
            have sp527 : tw_sp d τ h (tw_g1 (tw_g1 (tw_g1 (tw_g1 g ((416 + 8 * ja) + jb) dy) ((416 + 8 * jb) + ja) dy) ((448 + 8 * ja) + jb) fr) ((448 + 8 * jb) + ja) fr) τ h524 := by rw [eh524]; exact sp472.wb k514 (by decide) ow522 ⟨_, rfl, tw_f6.up ow522 wv523⟩ (fun q9 hq9 => tw_g1_ne (by omega)) rfl
            refine tw_iload 0 dX10_road_118 rfl ?_
            exact tw_iret dX10_road_120 rfl (Or.inl ⟨_, rfl, _, _, sp527, oq526, Or.inr (Or.inr ⟨ix0, ⟨c88, ⟨q138a, q138b⟩, ⟨q192a, q192b⟩⟩, (by rw [cDa, cDb]), th525, (by rw [cDa, cDb])⟩)⟩)

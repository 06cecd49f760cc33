/-! the class's methods over the typed heap. Laid by wip/p5/mkclass.py. -/
set_option maxHeartbeats 4000000 in
set_option maxRecDepth 100000 in
theorem c_acol (d : tw_D) (h : tw_H) (x : Nat) : tw_Ct d mJxa1e45_init_da8c8 0 0 [.ref x] h (tw_qv (fun h1 => h1 = h) tw_nx) := by
  refine tw_of (by decide +kernel) (Nat.le_of_ble_eq_true rfl) ?_
  show tw_W d mJxa1e45_init_da8c8 _ 0 [(0, .ref x)] [] h 0 0
  refine tw_aload_n 0 dJxa1e45_init_da8c8_0 rfl rfl ?_
  refine tw_objInit dJxa1e45_init_da8c8_1 w_1132 w_117 w_118 ⟨by decide, Nat.le_of_ble_eq_true rfl⟩ ?_
  exact tw_vret dJxa1e45_init_da8c8_4 rfl (Or.inl ⟨rfl, rfl⟩)

set_option maxHeartbeats 4000000 in
set_option maxRecDepth 100000 in
theorem c_alis (d : tw_D) (h : tw_H) (x : Nat) (hx : h x = some (.inr (3, [.int 0, .null, .int 0]))) : tw_Ct d mJxc12de_init_da8c8 0 0 [.ref x] h (tw_qv (fun h1 => h1 = tw_up h x (.inr (3, [.int 0, .null, .int 0]))) tw_nx) := by
  refine tw_of (by decide +kernel) (Nat.le_of_ble_eq_true rfl) ?_
  show tw_W d mJxc12de_init_da8c8 _ 0 [(0, .ref x)] [] h 0 0
  refine tw_aload_n 0 dJxc12de_init_da8c8_0 rfl rfl ?_
  refine tw_bv (tw_callI (M := mJxc12de_init_da8c8) (pc := 1) okJxa1e45_init_da8c8 dJxc12de_init_da8c8_1 w_1129 rfl [] [] rfl rfl ⟨by decide, by decide⟩ (Nat.le_of_ble_eq_true rfl) (c_acol d h x) 0 0 (Nat.le_of_ble_eq_true rfl) (Nat.le_of_ble_eq_true rfl)) (fun h2 q1 => ?_) (fun E h1 q => q.elim)
  rw [q1]
  refine tw_aload_n 0 dJxc12de_init_da8c8_4 rfl rfl ?_
  refine tw_iconst (v := 0) dJxc12de_init_da8c8_5 (by decide) ?_
  refine tw_put rfl in_3 tyJx4a65c tyJx4a65c_ok nmJx4a65c 0 dJxc12de_init_da8c8_6 w_1139 rfl (by decide) hx rfl rfl rfl rfl (Nat.le_of_ble_eq_true rfl) [.int 0, .null, .int 0] rfl ?_
  obtain ⟨h4, eh4⟩ : ∃ z : tw_H, z = tw_up h x (.inr (3, [.int 0, .null, .int 0])) := ⟨_, rfl⟩
  rw [← eh4]
  have f5 : h4 x = some (.inr (3, [.int 0, .null, .int 0])) := by rw [eh4]; exact tw_up_s
  exact tw_vret dJxc12de_init_da8c8_9 rfl (Or.inl ⟨rfl, rfl⟩)

set_option maxHeartbeats 4000000 in
set_option maxRecDepth 100000 in
theorem c_alist (d : tw_D) (h : tw_H) (x : Nat) (hx : h x = some (.inr (3, [.int 0, .null, .int 0]))) : tw_Ct d mJx4a65c_init_da8c8 0 0 [.ref x] h (tw_qv (fun h1 => h1 = tw_up h x (.inr (3, [.int 0, .ref (d.2 102), .int 0]))) tw_nx) := by
  refine tw_of (by decide +kernel) (Nat.le_of_ble_eq_true rfl) ?_
  show tw_W d mJx4a65c_init_da8c8 _ 0 [(0, .ref x)] [] h 0 0
  refine tw_aload_n 0 dJx4a65c_init_da8c8_0 rfl rfl ?_
  refine tw_bv (tw_callI (M := mJx4a65c_init_da8c8) (pc := 1) okJxc12de_init_da8c8 dJx4a65c_init_da8c8_1 w_1126 rfl [] [] rfl rfl ⟨by decide, by decide⟩ (Nat.le_of_ble_eq_true rfl) (c_alis d h x hx) 0 0 (Nat.le_of_ble_eq_true rfl) (Nat.le_of_ble_eq_true rfl)) (fun h2 q1 => ?_) (fun E h1 q => q.elim)
  have f4 : h2 x = some (.inr (3, [.int 0, .null, .int 0])) := by rw [q1]; exact tw_up_s
  refine tw_aload_n 0 dJx4a65c_init_da8c8_4 rfl rfl ?_
  refine tw_gets (fun _ _ z => z.2.2.2.2.2.1.1) rfl dJx4a65c_init_da8c8_5 w_1133 ?_
  refine tw_put rfl in_3 tyJx4a65c tyJx4a65c_ok nmJx4a65c 1 dJx4a65c_init_da8c8_8 w_1135 rfl (by decide) f4 rfl rfl rfl rfl (Nat.le_of_ble_eq_true rfl) [.int 0, .ref (d.2 102), .int 0] rfl ?_
  obtain ⟨h5, eh5⟩ : ∃ z : tw_H, z = tw_up h2 x (.inr (3, [.int 0, .ref (d.2 102), .int 0])) := ⟨_, rfl⟩
  rw [← eh5]
  have f6 : h5 x = some (.inr (3, [.int 0, .ref (d.2 102), .int 0])) := by rw [eh5]; exact tw_up_s
  exact tw_vret dJx4a65c_init_da8c8_11 rfl (Or.inl ⟨rfl, (by rw [eh5, q1] <;> simp only [tw_up_up])⟩)

set_option maxHeartbeats 4000000 in
set_option maxRecDepth 100000 in
theorem c_X10_init (d : tw_D) (g : tw_G) (τ : tw_K) (h : tw_H) (hw : tw_wt d g τ h) (hno : tw_no τ) (x : Nat) (hz : τ x = 0) (hx : h x = some (.inr (14, [.int 0, .int 0, .int 0, .null, .null, .null, .null, .null, .null, .null, .null, .null]))) : tw_Ct d mX10_init 17 60 [.ref x] h (tw_qv (fun h1 => ∃ (g1 : tw_G) (τ1 : tw_K), (g1.1 0 = g.1 0 ∧ g1.1 1 = 155) ∧ tw_ini d g1 τ h x 36 τ1 h1) tw_nx) := by
  refine tw_of (by decide +kernel) (Nat.le_of_ble_eq_true rfl) ?_
  show tw_W d mX10_init _ 0 [(0, .ref x)] [] h 17 60
  have sp0 := tw_sp.rm hw x
  refine tw_aload_n 0 dX10_init_0 rfl rfl ?_
  refine tw_objInit dX10_init_1 w_1118 w_117 w_118 ⟨by decide, Nat.le_of_ble_eq_true rfl⟩ ?_
  refine tw_aload_n 0 dX10_init_4 rfl rfl ?_
  refine tw_sipush (v := 155) dX10_init_5 (by decide) ?_
  refine tw_put rfl in_14 tyX10 tyX10_ok nmX10 2 dX10_init_8 w_1153 rfl (by decide) hx rfl rfl rfl rfl (Nat.le_of_ble_eq_true rfl) [.int 0, .int 0, .int 155, .null, .null, .null, .null, .null, .null, .null, .null, .null] rfl ?_
  obtain ⟨h1, eh1⟩ : ∃ z : tw_H, z = tw_up h x (.inr (14, [.int 0, .int 0, .int 155, .null, .null, .null, .null, .null, .null, .null, .null, .null])) := ⟨_, rfl⟩
  rw [← eh1]
  have sp2 : tw_sp d τ (tw_rm h x) g τ h1 := by rw [eh1]; exact sp0.wl tw_rm_s hz
  have f3 : h1 x = some (.inr (14, [.int 0, .int 0, .int 155, .null, .null, .null, .null, .null, .null, .null, .null, .null])) := by rw [eh1]; exact tw_up_s
  refine tw_aload_n 0 dX10_init_11 rfl rfl ?_
  refine tw_iconst (v := 4) dX10_init_12 (by decide) ?_
  refine tw_iconst (v := 4) dX10_init_13 (by decide) ?_
  refine tw_mna dX10_init_14 w_1119 w_500 12 40 (Nat.le_of_ble_eq_true rfl) (Nat.le_of_ble_eq_true rfl) (fun q4 r5 h6 hq7 hr8 hi9 hg10 ho11 hw12 => ?_)
  have sp13 := sp2.tr (tw_gw.sp hw12 sp2.1)
  have f14 := hw12 _ _ f3
  have ne15 := tw_neF f3 (hr8 0 (by decide)).1
  have ne16 := tw_neF f3 (hr8 1 (by decide)).1
  have ne17 := tw_neF f3 (hr8 2 (by decide)).1
  have ne18 := tw_neF f3 (hr8 3 (by decide)).1
  have ne19 := tw_neF f3 hq7
  have n20 := sp2.nn (hr8 0 (by decide)).1
  have z21 := sp2.1.none (hr8 0 (by decide)).1
  have f22 : h6 (r5 0) = some (.inl (d.2 0, 4, .inl (fun _ => 0))) := ho11 0 (by decide)
  have n23 := sp2.nn (hr8 1 (by decide)).1
  have z24 := sp2.1.none (hr8 1 (by decide)).1
  have f25 : h6 (r5 1) = some (.inl (d.2 0, 4, .inl (fun _ => 0))) := ho11 1 (by decide)
  have n26 := sp2.nn (hr8 2 (by decide)).1
  have z27 := sp2.1.none (hr8 2 (by decide)).1
  have f28 : h6 (r5 2) = some (.inl (d.2 0, 4, .inl (fun _ => 0))) := ho11 2 (by decide)
  have n29 := sp2.nn (hr8 3 (by decide)).1
  have z30 := sp2.1.none (hr8 3 (by decide)).1
  have f31 : h6 (r5 3) = some (.inl (d.2 0, 4, .inl (fun _ => 0))) := ho11 3 (by decide)
  have n32 := sp2.nn hq7
  have z33 := sp2.1.none hq7
  obtain ⟨τ34, eτ34⟩ : ∃ z : tw_K, z = tw_ku τ (r5 0) 6 := ⟨_, rfl⟩
  have le35 : tw_le τ τ34 := by rw [eτ34]; exact tw_ku_le z21
  have sp36 : tw_sp d τ (tw_rm h x) g τ34 h6 := by rw [eτ34]; exact sp13.ty n20 z21 f22 (by rw [← eτ34]; exact ⟨_, rfl⟩)
  have k37 : τ34 (r5 0) = 6 := by rw [eτ34]; exact tw_ku_s
  have z38 : τ34 x = 0 := by rw [eτ34, tw_ku_n ne15]; exact hz
  have z39 : τ34 (r5 1) = 0 := by rw [eτ34, tw_ku_n (fun z => absurd (hi9 1 0 (by decide) (by decide) z) (by decide))]; exact z24
  have z40 : τ34 (r5 2) = 0 := by rw [eτ34, tw_ku_n (fun z => absurd (hi9 2 0 (by decide) (by decide) z) (by decide))]; exact z27
  have z41 : τ34 (r5 3) = 0 := by rw [eτ34, tw_ku_n (fun z => absurd (hi9 3 0 (by decide) (by decide) z) (by decide))]; exact z30
  have z42 : τ34 q4 = 0 := by rw [eτ34, tw_ku_n (Ne.symm (hr8 0 (by decide)).2)]; exact z33
  have no43 : tw_no τ34 := by rw [eτ34]; exact hno.ku (by decide)
  obtain ⟨τ44, eτ44⟩ : ∃ z : tw_K, z = tw_ku τ34 (r5 1) 6 := ⟨_, rfl⟩
  have le45 : tw_le τ34 τ44 := by rw [eτ44]; exact tw_ku_le z39
  have k46 : τ44 (r5 0) = 6 := le45.k k37 (by decide)
  have sp47 : tw_sp d τ (tw_rm h x) g τ44 h6 := by rw [eτ44]; exact sp36.ty n23 z39 f25 (by rw [← eτ44]; exact ⟨_, rfl⟩)
  have k48 : τ44 (r5 1) = 6 := by rw [eτ44]; exact tw_ku_s
  have z49 : τ44 x = 0 := by rw [eτ44, tw_ku_n ne16]; exact z38
  have z50 : τ44 (r5 2) = 0 := by rw [eτ44, tw_ku_n (fun z => absurd (hi9 2 1 (by decide) (by decide) z) (by decide))]; exact z40
  have z51 : τ44 (r5 3) = 0 := by rw [eτ44, tw_ku_n (fun z => absurd (hi9 3 1 (by decide) (by decide) z) (by decide))]; exact z41
  have z52 : τ44 q4 = 0 := by rw [eτ44, tw_ku_n (Ne.symm (hr8 1 (by decide)).2)]; exact z42
  have no53 : tw_no τ44 := by rw [eτ44]; exact no43.ku (by decide)
  obtain ⟨τ54, eτ54⟩ : ∃ z : tw_K, z = tw_ku τ44 (r5 2) 6 := ⟨_, rfl⟩
  have le55 : tw_le τ44 τ54 := by rw [eτ54]; exact tw_ku_le z50
  have k56 : τ54 (r5 0) = 6 := le55.k k46 (by decide)
  have k57 : τ54 (r5 1) = 6 := le55.k k48 (by decide)
  have sp58 : tw_sp d τ (tw_rm h x) g τ54 h6 := by rw [eτ54]; exact sp47.ty n26 z50 f28 (by rw [← eτ54]; exact ⟨_, rfl⟩)
  have k59 : τ54 (r5 2) = 6 := by rw [eτ54]; exact tw_ku_s
  have z60 : τ54 x = 0 := by rw [eτ54, tw_ku_n ne17]; exact z49
  have z61 : τ54 (r5 3) = 0 := by rw [eτ54, tw_ku_n (fun z => absurd (hi9 3 2 (by decide) (by decide) z) (by decide))]; exact z51
  have z62 : τ54 q4 = 0 := by rw [eτ54, tw_ku_n (Ne.symm (hr8 2 (by decide)).2)]; exact z52
  have no63 : tw_no τ54 := by rw [eτ54]; exact no53.ku (by decide)
  obtain ⟨τ64, eτ64⟩ : ∃ z : tw_K, z = tw_ku τ54 (r5 3) 6 := ⟨_, rfl⟩
  have le65 : tw_le τ54 τ64 := by rw [eτ64]; exact tw_ku_le z61
  have k66 : τ64 (r5 0) = 6 := le65.k k56 (by decide)
  have k67 : τ64 (r5 1) = 6 := le65.k k57 (by decide)
  have k68 : τ64 (r5 2) = 6 := le65.k k59 (by decide)
  have sp69 : tw_sp d τ (tw_rm h x) g τ64 h6 := by rw [eτ64]; exact sp58.ty n29 z61 f31 (by rw [← eτ64]; exact ⟨_, rfl⟩)
  have k70 : τ64 (r5 3) = 6 := by rw [eτ64]; exact tw_ku_s
  have z71 : τ64 x = 0 := by rw [eτ64, tw_ku_n ne18]; exact z60
  have z72 : τ64 q4 = 0 := by rw [eτ64, tw_ku_n (Ne.symm (hr8 3 (by decide)).2)]; exact z62
  have no73 : tw_no τ64 := by rw [eτ64]; exact no63.ku (by decide)
  obtain ⟨τ74, eτ74⟩ : ∃ z : tw_K, z = tw_ku τ64 q4 34 := ⟨_, rfl⟩
  have le75 : tw_le τ64 τ74 := by rw [eτ74]; exact tw_ku_le z72
  have k76 : τ74 (r5 0) = 6 := le75.k k66 (by decide)
  have k77 : τ74 (r5 1) = 6 := le75.k k67 (by decide)
  have k78 : τ74 (r5 2) = 6 := le75.k k68 (by decide)
  have k79 : τ74 (r5 3) = 6 := le75.k k70 (by decide)
  have sp80 : tw_sp d τ (tw_rm h x) g τ74 h6 := by rw [eτ74]; exact sp69.ty n32 z72 hg10 (by rw [← eτ74]; exact ⟨_, rfl, fun j hj => ⟨r5 j, if_pos hj, by rcases (show j = 0 ∨ j = 1 ∨ j = 2 ∨ j = 3 by omega) with z | z | z | z <;> rw [z] <;> first | exact k76 | exact k77 | exact k78 | exact k79⟩⟩)
  have k81 : τ74 q4 = 34 := by rw [eτ74]; exact tw_ku_s
  have z82 : τ74 x = 0 := by rw [eτ74, tw_ku_n ne19]; exact z71
  have no83 : tw_no τ74 := by rw [eτ74]; exact no73.ku (by decide)
  refine tw_putF rfl in_14 tyX10 tyX10_ok nmX10 3 dX10_init_18 w_1154 rfl (by decide) f14 rfl rfl rfl rfl rfl rfl (Nat.le_of_ble_eq_true rfl) [.int 0, .int 0, .int 155, .ref q4, .null, .null, .null, .null, .null, .null, .null, .null] rfl ?_
  obtain ⟨h84, eh84⟩ : ∃ z : tw_H, z = tw_up h6 x (.inr (14, [.int 0, .int 0, .int 155, .ref q4, .null, .null, .null, .null, .null, .null, .null, .null])) := ⟨_, rfl⟩
  rw [← eh84]
  have sp85 : tw_sp d τ (tw_rm h x) g τ74 h84 := by rw [eh84]; exact sp80.wl tw_rm_s z82
  have f86 : h84 x = some (.inr (14, [.int 0, .int 0, .int 155, .ref q4, .null, .null, .null, .null, .null, .null, .null, .null])) := by rw [eh84]; exact tw_up_s
  refine tw_aload_n 0 dX10_init_21 rfl rfl ?_
  refine tw_iconst (v := 4) dX10_init_22 (by decide) ?_
  refine tw_iconst (v := 4) dX10_init_23 (by decide) ?_
  refine tw_mna dX10_init_24 w_1119 w_500 7 20 (Nat.le_of_ble_eq_true rfl) (Nat.le_of_ble_eq_true rfl) (fun q87 r88 h89 hq90 hr91 hi92 hg93 ho94 hw95 => ?_)
  have sp96 := sp85.tr (tw_gw.sp hw95 sp85.1)
  have f97 := hw95 _ _ f86
  have ne98 := tw_neF f86 (hr91 0 (by decide)).1
  have ne99 := tw_neF f86 (hr91 1 (by decide)).1
  have ne100 := tw_neF f86 (hr91 2 (by decide)).1
  have ne101 := tw_neF f86 (hr91 3 (by decide)).1
  have ne102 := tw_neF f86 hq90
  have n103 := sp85.nn (hr91 0 (by decide)).1
  have z104 := sp85.1.none (hr91 0 (by decide)).1
  have f105 : h89 (r88 0) = some (.inl (d.2 0, 4, .inl (fun _ => 0))) := ho94 0 (by decide)
  have n106 := sp85.nn (hr91 1 (by decide)).1
  have z107 := sp85.1.none (hr91 1 (by decide)).1
  have f108 : h89 (r88 1) = some (.inl (d.2 0, 4, .inl (fun _ => 0))) := ho94 1 (by decide)
  have n109 := sp85.nn (hr91 2 (by decide)).1
  have z110 := sp85.1.none (hr91 2 (by decide)).1
  have f111 : h89 (r88 2) = some (.inl (d.2 0, 4, .inl (fun _ => 0))) := ho94 2 (by decide)
  have n112 := sp85.nn (hr91 3 (by decide)).1
  have z113 := sp85.1.none (hr91 3 (by decide)).1
  have f114 : h89 (r88 3) = some (.inl (d.2 0, 4, .inl (fun _ => 0))) := ho94 3 (by decide)
  have n115 := sp85.nn hq90
  have z116 := sp85.1.none hq90
  obtain ⟨τ117, eτ117⟩ : ∃ z : tw_K, z = tw_ku τ74 (r88 0) 6 := ⟨_, rfl⟩
  have le118 : tw_le τ74 τ117 := by rw [eτ117]; exact tw_ku_le z104
  have k119 : τ117 (r5 0) = 6 := le118.k k76 (by decide)
  have k120 : τ117 (r5 1) = 6 := le118.k k77 (by decide)
  have k121 : τ117 (r5 2) = 6 := le118.k k78 (by decide)
  have k122 : τ117 (r5 3) = 6 := le118.k k79 (by decide)
  have k123 : τ117 q4 = 34 := le118.k k81 (by decide)
  have sp124 : tw_sp d τ (tw_rm h x) g τ117 h89 := by rw [eτ117]; exact sp96.ty n103 z104 f105 (by rw [← eτ117]; exact ⟨_, rfl⟩)
  have k125 : τ117 (r88 0) = 6 := by rw [eτ117]; exact tw_ku_s
  have z126 : τ117 x = 0 := by rw [eτ117, tw_ku_n ne98]; exact z82
  have z127 : τ117 (r88 1) = 0 := by rw [eτ117, tw_ku_n (fun z => absurd (hi92 1 0 (by decide) (by decide) z) (by decide))]; exact z107
  have z128 : τ117 (r88 2) = 0 := by rw [eτ117, tw_ku_n (fun z => absurd (hi92 2 0 (by decide) (by decide) z) (by decide))]; exact z110
  have z129 : τ117 (r88 3) = 0 := by rw [eτ117, tw_ku_n (fun z => absurd (hi92 3 0 (by decide) (by decide) z) (by decide))]; exact z113
  have z130 : τ117 q87 = 0 := by rw [eτ117, tw_ku_n (Ne.symm (hr91 0 (by decide)).2)]; exact z116
  have no131 : tw_no τ117 := by rw [eτ117]; exact no83.ku (by decide)
  obtain ⟨τ132, eτ132⟩ : ∃ z : tw_K, z = tw_ku τ117 (r88 1) 6 := ⟨_, rfl⟩
  have le133 : tw_le τ117 τ132 := by rw [eτ132]; exact tw_ku_le z127
  have k134 : τ132 (r5 0) = 6 := le133.k k119 (by decide)
  have k135 : τ132 (r5 1) = 6 := le133.k k120 (by decide)
  have k136 : τ132 (r5 2) = 6 := le133.k k121 (by decide)
  have k137 : τ132 (r5 3) = 6 := le133.k k122 (by decide)
  have k138 : τ132 q4 = 34 := le133.k k123 (by decide)
  have k139 : τ132 (r88 0) = 6 := le133.k k125 (by decide)
  have sp140 : tw_sp d τ (tw_rm h x) g τ132 h89 := by rw [eτ132]; exact sp124.ty n106 z127 f108 (by rw [← eτ132]; exact ⟨_, rfl⟩)
  have k141 : τ132 (r88 1) = 6 := by rw [eτ132]; exact tw_ku_s
  have z142 : τ132 x = 0 := by rw [eτ132, tw_ku_n ne99]; exact z126
  have z143 : τ132 (r88 2) = 0 := by rw [eτ132, tw_ku_n (fun z => absurd (hi92 2 1 (by decide) (by decide) z) (by decide))]; exact z128
  have z144 : τ132 (r88 3) = 0 := by rw [eτ132, tw_ku_n (fun z => absurd (hi92 3 1 (by decide) (by decide) z) (by decide))]; exact z129
  have z145 : τ132 q87 = 0 := by rw [eτ132, tw_ku_n (Ne.symm (hr91 1 (by decide)).2)]; exact z130
  have no146 : tw_no τ132 := by rw [eτ132]; exact no131.ku (by decide)
  obtain ⟨τ147, eτ147⟩ : ∃ z : tw_K, z = tw_ku τ132 (r88 2) 6 := ⟨_, rfl⟩
  have le148 : tw_le τ132 τ147 := by rw [eτ147]; exact tw_ku_le z143
  have k149 : τ147 (r5 0) = 6 := le148.k k134 (by decide)
  have k150 : τ147 (r5 1) = 6 := le148.k k135 (by decide)
  have k151 : τ147 (r5 2) = 6 := le148.k k136 (by decide)
  have k152 : τ147 (r5 3) = 6 := le148.k k137 (by decide)
  have k153 : τ147 q4 = 34 := le148.k k138 (by decide)
  have k154 : τ147 (r88 0) = 6 := le148.k k139 (by decide)
  have k155 : τ147 (r88 1) = 6 := le148.k k141 (by decide)
  have sp156 : tw_sp d τ (tw_rm h x) g τ147 h89 := by rw [eτ147]; exact sp140.ty n109 z143 f111 (by rw [← eτ147]; exact ⟨_, rfl⟩)
  have k157 : τ147 (r88 2) = 6 := by rw [eτ147]; exact tw_ku_s
  have z158 : τ147 x = 0 := by rw [eτ147, tw_ku_n ne100]; exact z142
  have z159 : τ147 (r88 3) = 0 := by rw [eτ147, tw_ku_n (fun z => absurd (hi92 3 2 (by decide) (by decide) z) (by decide))]; exact z144
  have z160 : τ147 q87 = 0 := by rw [eτ147, tw_ku_n (Ne.symm (hr91 2 (by decide)).2)]; exact z145
  have no161 : tw_no τ147 := by rw [eτ147]; exact no146.ku (by decide)
  obtain ⟨τ162, eτ162⟩ : ∃ z : tw_K, z = tw_ku τ147 (r88 3) 6 := ⟨_, rfl⟩
  have le163 : tw_le τ147 τ162 := by rw [eτ162]; exact tw_ku_le z159
  have k164 : τ162 (r5 0) = 6 := le163.k k149 (by decide)
  have k165 : τ162 (r5 1) = 6 := le163.k k150 (by decide)
  have k166 : τ162 (r5 2) = 6 := le163.k k151 (by decide)
  have k167 : τ162 (r5 3) = 6 := le163.k k152 (by decide)
  have k168 : τ162 q4 = 34 := le163.k k153 (by decide)
  have k169 : τ162 (r88 0) = 6 := le163.k k154 (by decide)
  have k170 : τ162 (r88 1) = 6 := le163.k k155 (by decide)
  have k171 : τ162 (r88 2) = 6 := le163.k k157 (by decide)
  have sp172 : tw_sp d τ (tw_rm h x) g τ162 h89 := by rw [eτ162]; exact sp156.ty n112 z159 f114 (by rw [← eτ162]; exact ⟨_, rfl⟩)
  have k173 : τ162 (r88 3) = 6 := by rw [eτ162]; exact tw_ku_s
  have z174 : τ162 x = 0 := by rw [eτ162, tw_ku_n ne101]; exact z158
  have z175 : τ162 q87 = 0 := by rw [eτ162, tw_ku_n (Ne.symm (hr91 3 (by decide)).2)]; exact z160
  have no176 : tw_no τ162 := by rw [eτ162]; exact no161.ku (by decide)
  obtain ⟨τ177, eτ177⟩ : ∃ z : tw_K, z = tw_ku τ162 q87 34 := ⟨_, rfl⟩
  have le178 : tw_le τ162 τ177 := by rw [eτ177]; exact tw_ku_le z175
  have k179 : τ177 (r5 0) = 6 := le178.k k164 (by decide)
  have k180 : τ177 (r5 1) = 6 := le178.k k165 (by decide)
  have k181 : τ177 (r5 2) = 6 := le178.k k166 (by decide)
  have k182 : τ177 (r5 3) = 6 := le178.k k167 (by decide)
  have k183 : τ177 q4 = 34 := le178.k k168 (by decide)
  have k184 : τ177 (r88 0) = 6 := le178.k k169 (by decide)
  have k185 : τ177 (r88 1) = 6 := le178.k k170 (by decide)
  have k186 : τ177 (r88 2) = 6 := le178.k k171 (by decide)
  have k187 : τ177 (r88 3) = 6 := le178.k k173 (by decide)
  have sp188 : tw_sp d τ (tw_rm h x) g τ177 h89 := by rw [eτ177]; exact sp172.ty n115 z175 hg93 (by rw [← eτ177]; exact ⟨_, rfl, fun j hj => ⟨r88 j, if_pos hj, by rcases (show j = 0 ∨ j = 1 ∨ j = 2 ∨ j = 3 by omega) with z | z | z | z <;> rw [z] <;> first | exact k184 | exact k185 | exact k186 | exact k187⟩⟩)
  have k189 : τ177 q87 = 34 := by rw [eτ177]; exact tw_ku_s
  have z190 : τ177 x = 0 := by rw [eτ177, tw_ku_n ne102]; exact z174
  have no191 : tw_no τ177 := by rw [eτ177]; exact no176.ku (by decide)
  refine tw_putF rfl in_14 tyX10 tyX10_ok nmX10 4 dX10_init_28 w_1155 rfl (by decide) f97 rfl rfl rfl rfl rfl rfl (Nat.le_of_ble_eq_true rfl) [.int 0, .int 0, .int 155, .ref q4, .ref q87, .null, .null, .null, .null, .null, .null, .null] rfl ?_
  obtain ⟨h192, eh192⟩ : ∃ z : tw_H, z = tw_up h89 x (.inr (14, [.int 0, .int 0, .int 155, .ref q4, .ref q87, .null, .null, .null, .null, .null, .null, .null])) := ⟨_, rfl⟩
  rw [← eh192]
  have sp193 : tw_sp d τ (tw_rm h x) g τ177 h192 := by rw [eh192]; exact sp188.wl tw_rm_s z190
  have f194 : h192 x = some (.inr (14, [.int 0, .int 0, .int 155, .ref q4, .ref q87, .null, .null, .null, .null, .null, .null, .null])) := by rw [eh192]; exact tw_up_s
  refine tw_aload_n 0 dX10_init_31 rfl rfl ?_
  refine tw_iconst (v := 2) dX10_init_32 (by decide) ?_
  refine tw_newa (a0 := (2, .inr (.inl (fun _ => 0)))) 1 rfl dX10_init_33 rfl w_1150 (fun _ => rfl) (by decide) (by decide) (by decide) 6 18 (Nat.le_of_ble_eq_true rfl) (Nat.le_of_ble_eq_true rfl) (fun q195 hq196 hA197 => ?_)
  have n198 := sp193.nn hq196
  have z199 := sp193.1.none hq196
  have ne200 := tw_neF f194 hq196
  obtain ⟨h201, eh201⟩ : ∃ z : tw_H, z = tw_up h192 q195 (.inl (d.2 1, 2, .inr (.inl (fun _ => 0)))) := ⟨_, rfl⟩
  rw [← eh201]
  have sp202 : tw_sp d τ (tw_rm h x) g τ177 h201 := by rw [eh201]; exact sp193.mk hq196
  have f203 : h201 x = some (.inr (14, [.int 0, .int 0, .int 155, .ref q4, .ref q87, .null, .null, .null, .null, .null, .null, .null])) := by rw [eh201, tw_up_n ne200]; exact f194
  have f204 : h201 q195 = some (.inl (d.2 1, 2, .inr (.inl (fun _ => 0)))) := by rw [eh201]; exact tw_up_s
  obtain ⟨τ205, eτ205⟩ : ∃ z : tw_K, z = tw_ku τ177 q195 31 := ⟨_, rfl⟩
  have le206 : tw_le τ177 τ205 := by rw [eτ205]; exact tw_ku_le z199
  have k207 : τ205 (r5 0) = 6 := le206.k k179 (by decide)
  have k208 : τ205 (r5 1) = 6 := le206.k k180 (by decide)
  have k209 : τ205 (r5 2) = 6 := le206.k k181 (by decide)
  have k210 : τ205 (r5 3) = 6 := le206.k k182 (by decide)
  have k211 : τ205 q4 = 34 := le206.k k183 (by decide)
  have k212 : τ205 (r88 0) = 6 := le206.k k184 (by decide)
  have k213 : τ205 (r88 1) = 6 := le206.k k185 (by decide)
  have k214 : τ205 (r88 2) = 6 := le206.k k186 (by decide)
  have k215 : τ205 (r88 3) = 6 := le206.k k187 (by decide)
  have k216 : τ205 q87 = 34 := le206.k k189 (by decide)
  have sp217 : tw_sp d τ (tw_rm h x) g τ205 h201 := by rw [eτ205]; exact sp202.ty n198 z199 f204 (by rw [← eτ205]; exact ⟨_, rfl⟩)
  have k218 : τ205 q195 = 31 := by rw [eτ205]; exact tw_ku_s
  have z219 : τ205 x = 0 := by rw [eτ205, tw_ku_n ne200]; exact z190
  have no220 : tw_no τ205 := by rw [eτ205]; exact no191.ku (by decide)
  refine tw_putF rfl in_14 tyX10 tyX10_ok nmX10 5 dX10_init_35 w_1156 rfl (by decide) f203 rfl rfl rfl rfl rfl rfl (Nat.le_of_ble_eq_true rfl) [.int 0, .int 0, .int 155, .ref q4, .ref q87, .ref q195, .null, .null, .null, .null, .null, .null] rfl ?_
  obtain ⟨h221, eh221⟩ : ∃ z : tw_H, z = tw_up h201 x (.inr (14, [.int 0, .int 0, .int 155, .ref q4, .ref q87, .ref q195, .null, .null, .null, .null, .null, .null])) := ⟨_, rfl⟩
  rw [← eh221]
  have sp222 : tw_sp d τ (tw_rm h x) g τ205 h221 := by rw [eh221]; exact sp217.wl tw_rm_s z219
  have f223 : h221 x = some (.inr (14, [.int 0, .int 0, .int 155, .ref q4, .ref q87, .ref q195, .null, .null, .null, .null, .null, .null])) := by rw [eh221]; exact tw_up_s
  refine tw_aload_n 0 dX10_init_38 rfl rfl ?_
  refine tw_iconst (v := 2) dX10_init_39 (by decide) ?_
  refine tw_newa (a0 := (2, .inr (.inl (fun _ => 0)))) 1 rfl dX10_init_40 rfl w_1150 (fun _ => rfl) (by decide) (by decide) (by decide) 5 16 (Nat.le_of_ble_eq_true rfl) (Nat.le_of_ble_eq_true rfl) (fun q224 hq225 hA226 => ?_)
  have n227 := sp222.nn hq225
  have z228 := sp222.1.none hq225
  have ne229 := tw_neF f223 hq225
  obtain ⟨h230, eh230⟩ : ∃ z : tw_H, z = tw_up h221 q224 (.inl (d.2 1, 2, .inr (.inl (fun _ => 0)))) := ⟨_, rfl⟩
  rw [← eh230]
  have sp231 : tw_sp d τ (tw_rm h x) g τ205 h230 := by rw [eh230]; exact sp222.mk hq225
  have f232 : h230 x = some (.inr (14, [.int 0, .int 0, .int 155, .ref q4, .ref q87, .ref q195, .null, .null, .null, .null, .null, .null])) := by rw [eh230, tw_up_n ne229]; exact f223
  have f233 : h230 q224 = some (.inl (d.2 1, 2, .inr (.inl (fun _ => 0)))) := by rw [eh230]; exact tw_up_s
  obtain ⟨τ234, eτ234⟩ : ∃ z : tw_K, z = tw_ku τ205 q224 31 := ⟨_, rfl⟩
  have le235 : tw_le τ205 τ234 := by rw [eτ234]; exact tw_ku_le z228
  have k236 : τ234 (r5 0) = 6 := le235.k k207 (by decide)
  have k237 : τ234 (r5 1) = 6 := le235.k k208 (by decide)
  have k238 : τ234 (r5 2) = 6 := le235.k k209 (by decide)
  have k239 : τ234 (r5 3) = 6 := le235.k k210 (by decide)
  have k240 : τ234 q4 = 34 := le235.k k211 (by decide)
  have k241 : τ234 (r88 0) = 6 := le235.k k212 (by decide)
  have k242 : τ234 (r88 1) = 6 := le235.k k213 (by decide)
  have k243 : τ234 (r88 2) = 6 := le235.k k214 (by decide)
  have k244 : τ234 (r88 3) = 6 := le235.k k215 (by decide)
  have k245 : τ234 q87 = 34 := le235.k k216 (by decide)
  have k246 : τ234 q195 = 31 := le235.k k218 (by decide)
  have sp247 : tw_sp d τ (tw_rm h x) g τ234 h230 := by rw [eτ234]; exact sp231.ty n227 z228 f233 (by rw [← eτ234]; exact ⟨_, rfl⟩)
  have k248 : τ234 q224 = 31 := by rw [eτ234]; exact tw_ku_s
  have z249 : τ234 x = 0 := by rw [eτ234, tw_ku_n ne229]; exact z219
  have no250 : tw_no τ234 := by rw [eτ234]; exact no220.ku (by decide)
  refine tw_putF rfl in_14 tyX10 tyX10_ok nmX10 6 dX10_init_42 w_1157 rfl (by decide) f232 rfl rfl rfl rfl rfl rfl (Nat.le_of_ble_eq_true rfl) [.int 0, .int 0, .int 155, .ref q4, .ref q87, .ref q195, .ref q224, .null, .null, .null, .null, .null] rfl ?_
  obtain ⟨h251, eh251⟩ : ∃ z : tw_H, z = tw_up h230 x (.inr (14, [.int 0, .int 0, .int 155, .ref q4, .ref q87, .ref q195, .ref q224, .null, .null, .null, .null, .null])) := ⟨_, rfl⟩
  rw [← eh251]
  have sp252 : tw_sp d τ (tw_rm h x) g τ234 h251 := by rw [eh251]; exact sp247.wl tw_rm_s z249
  have f253 : h251 x = some (.inr (14, [.int 0, .int 0, .int 155, .ref q4, .ref q87, .ref q195, .ref q224, .null, .null, .null, .null, .null])) := by rw [eh251]; exact tw_up_s
  refine tw_aload_n 0 dX10_init_45 rfl rfl ?_
  refine tw_iconst (v := 2) dX10_init_46 (by decide) ?_
  refine tw_newa (a0 := (2, .inr (.inl (fun _ => 0)))) 1 rfl dX10_init_47 rfl w_1150 (fun _ => rfl) (by decide) (by decide) (by decide) 4 14 (Nat.le_of_ble_eq_true rfl) (Nat.le_of_ble_eq_true rfl) (fun q254 hq255 hA256 => ?_)
  have n257 := sp252.nn hq255
  have z258 := sp252.1.none hq255
  have ne259 := tw_neF f253 hq255
  obtain ⟨h260, eh260⟩ : ∃ z : tw_H, z = tw_up h251 q254 (.inl (d.2 1, 2, .inr (.inl (fun _ => 0)))) := ⟨_, rfl⟩
  rw [← eh260]
  have sp261 : tw_sp d τ (tw_rm h x) g τ234 h260 := by rw [eh260]; exact sp252.mk hq255
  have f262 : h260 x = some (.inr (14, [.int 0, .int 0, .int 155, .ref q4, .ref q87, .ref q195, .ref q224, .null, .null, .null, .null, .null])) := by rw [eh260, tw_up_n ne259]; exact f253
  have f263 : h260 q254 = some (.inl (d.2 1, 2, .inr (.inl (fun _ => 0)))) := by rw [eh260]; exact tw_up_s
  obtain ⟨τ264, eτ264⟩ : ∃ z : tw_K, z = tw_ku τ234 q254 31 := ⟨_, rfl⟩
  have le265 : tw_le τ234 τ264 := by rw [eτ264]; exact tw_ku_le z258
  have k266 : τ264 (r5 0) = 6 := le265.k k236 (by decide)
  have k267 : τ264 (r5 1) = 6 := le265.k k237 (by decide)
  have k268 : τ264 (r5 2) = 6 := le265.k k238 (by decide)
  have k269 : τ264 (r5 3) = 6 := le265.k k239 (by decide)
  have k270 : τ264 q4 = 34 := le265.k k240 (by decide)
  have k271 : τ264 (r88 0) = 6 := le265.k k241 (by decide)
  have k272 : τ264 (r88 1) = 6 := le265.k k242 (by decide)
  have k273 : τ264 (r88 2) = 6 := le265.k k243 (by decide)
  have k274 : τ264 (r88 3) = 6 := le265.k k244 (by decide)
  have k275 : τ264 q87 = 34 := le265.k k245 (by decide)
  have k276 : τ264 q195 = 31 := le265.k k246 (by decide)
  have k277 : τ264 q224 = 31 := le265.k k248 (by decide)
  have sp278 : tw_sp d τ (tw_rm h x) g τ264 h260 := by rw [eτ264]; exact sp261.ty n257 z258 f263 (by rw [← eτ264]; exact ⟨_, rfl⟩)
  have k279 : τ264 q254 = 31 := by rw [eτ264]; exact tw_ku_s
  have z280 : τ264 x = 0 := by rw [eτ264, tw_ku_n ne259]; exact z249
  have no281 : tw_no τ264 := by rw [eτ264]; exact no250.ku (by decide)
  refine tw_putF rfl in_14 tyX10 tyX10_ok nmX10 7 dX10_init_49 w_1158 rfl (by decide) f262 rfl rfl rfl rfl rfl rfl (Nat.le_of_ble_eq_true rfl) [.int 0, .int 0, .int 155, .ref q4, .ref q87, .ref q195, .ref q224, .ref q254, .null, .null, .null, .null] rfl ?_
  obtain ⟨h282, eh282⟩ : ∃ z : tw_H, z = tw_up h260 x (.inr (14, [.int 0, .int 0, .int 155, .ref q4, .ref q87, .ref q195, .ref q224, .ref q254, .null, .null, .null, .null])) := ⟨_, rfl⟩
  rw [← eh282]
  have sp283 : tw_sp d τ (tw_rm h x) g τ264 h282 := by rw [eh282]; exact sp278.wl tw_rm_s z280
  have f284 : h282 x = some (.inr (14, [.int 0, .int 0, .int 155, .ref q4, .ref q87, .ref q195, .ref q224, .ref q254, .null, .null, .null, .null])) := by rw [eh282]; exact tw_up_s
  refine tw_aload_n 0 dX10_init_52 rfl rfl ?_
  refine tw_iconst (v := 2) dX10_init_53 (by decide) ?_
  refine tw_newa (a0 := (2, .inr (.inl (fun _ => 0)))) 1 rfl dX10_init_54 rfl w_1150 (fun _ => rfl) (by decide) (by decide) (by decide) 3 12 (Nat.le_of_ble_eq_true rfl) (Nat.le_of_ble_eq_true rfl) (fun q285 hq286 hA287 => ?_)
  have n288 := sp283.nn hq286
  have z289 := sp283.1.none hq286
  have ne290 := tw_neF f284 hq286
  obtain ⟨h291, eh291⟩ : ∃ z : tw_H, z = tw_up h282 q285 (.inl (d.2 1, 2, .inr (.inl (fun _ => 0)))) := ⟨_, rfl⟩
  rw [← eh291]
  have sp292 : tw_sp d τ (tw_rm h x) g τ264 h291 := by rw [eh291]; exact sp283.mk hq286
  have f293 : h291 x = some (.inr (14, [.int 0, .int 0, .int 155, .ref q4, .ref q87, .ref q195, .ref q224, .ref q254, .null, .null, .null, .null])) := by rw [eh291, tw_up_n ne290]; exact f284
  have f294 : h291 q285 = some (.inl (d.2 1, 2, .inr (.inl (fun _ => 0)))) := by rw [eh291]; exact tw_up_s
  obtain ⟨τ295, eτ295⟩ : ∃ z : tw_K, z = tw_ku τ264 q285 31 := ⟨_, rfl⟩
  have le296 : tw_le τ264 τ295 := by rw [eτ295]; exact tw_ku_le z289
  have k297 : τ295 (r5 0) = 6 := le296.k k266 (by decide)
  have k298 : τ295 (r5 1) = 6 := le296.k k267 (by decide)
  have k299 : τ295 (r5 2) = 6 := le296.k k268 (by decide)
  have k300 : τ295 (r5 3) = 6 := le296.k k269 (by decide)
  have k301 : τ295 q4 = 34 := le296.k k270 (by decide)
  have k302 : τ295 (r88 0) = 6 := le296.k k271 (by decide)
  have k303 : τ295 (r88 1) = 6 := le296.k k272 (by decide)
  have k304 : τ295 (r88 2) = 6 := le296.k k273 (by decide)
  have k305 : τ295 (r88 3) = 6 := le296.k k274 (by decide)
  have k306 : τ295 q87 = 34 := le296.k k275 (by decide)
  have k307 : τ295 q195 = 31 := le296.k k276 (by decide)
  have k308 : τ295 q224 = 31 := le296.k k277 (by decide)
  have k309 : τ295 q254 = 31 := le296.k k279 (by decide)
  have sp310 : tw_sp d τ (tw_rm h x) g τ295 h291 := by rw [eτ295]; exact sp292.ty n288 z289 f294 (by rw [← eτ295]; exact ⟨_, rfl⟩)
  have k311 : τ295 q285 = 31 := by rw [eτ295]; exact tw_ku_s
  have z312 : τ295 x = 0 := by rw [eτ295, tw_ku_n ne290]; exact z280
  have no313 : tw_no τ295 := by rw [eτ295]; exact no281.ku (by decide)
  refine tw_putF rfl in_14 tyX10 tyX10_ok nmX10 8 dX10_init_56 w_1159 rfl (by decide) f293 rfl rfl rfl rfl rfl rfl (Nat.le_of_ble_eq_true rfl) [.int 0, .int 0, .int 155, .ref q4, .ref q87, .ref q195, .ref q224, .ref q254, .ref q285, .null, .null, .null] rfl ?_
  obtain ⟨h314, eh314⟩ : ∃ z : tw_H, z = tw_up h291 x (.inr (14, [.int 0, .int 0, .int 155, .ref q4, .ref q87, .ref q195, .ref q224, .ref q254, .ref q285, .null, .null, .null])) := ⟨_, rfl⟩
  rw [← eh314]
  have sp315 : tw_sp d τ (tw_rm h x) g τ295 h314 := by rw [eh314]; exact sp310.wl tw_rm_s z312
  have f316 : h314 x = some (.inr (14, [.int 0, .int 0, .int 155, .ref q4, .ref q87, .ref q195, .ref q224, .ref q254, .ref q285, .null, .null, .null])) := by rw [eh314]; exact tw_up_s
  refine tw_aload_n 0 dX10_init_59 rfl rfl ?_
  refine tw_new (ci := 3) rfl in_3 tyJx4a65c tyJx4a65c_ok dX10_init_60 w_1121 w_1122 w_82 (fs := [.int 0, .null, .int 0]) (fun j hj => by rcases (show j = 0 ∨ j = 1 ∨ j = 2 by omega) with rfl | rfl | rfl <;> rfl) 2 9 (Nat.le_of_ble_eq_true rfl) (Nat.le_of_ble_eq_true rfl) (fun q317 hq318 hA319 => ?_)
  have n320 := sp315.nn hq318
  have z321 := sp315.1.none hq318
  have ne322 := tw_neF f316 hq318
  obtain ⟨h323, eh323⟩ : ∃ z : tw_H, z = tw_up h314 q317 (.inr (3, [.int 0, .null, .int 0])) := ⟨_, rfl⟩
  rw [← eh323]
  have sp324 : tw_sp d τ (tw_rm h x) g τ295 h323 := by rw [eh323]; exact sp315.mk hq318
  have f325 : h323 x = some (.inr (14, [.int 0, .int 0, .int 155, .ref q4, .ref q87, .ref q195, .ref q224, .ref q254, .ref q285, .null, .null, .null])) := by rw [eh323, tw_up_n ne322]; exact f316
  have f326 : h323 q317 = some (.inr (3, [.int 0, .null, .int 0])) := by rw [eh323]; exact tw_up_s
  refine tw_dup dX10_init_63 rfl ?_
  refine tw_bv (tw_callI (M := mX10_init) (pc := 64) okJx4a65c_init_da8c8 dX10_init_64 w_1123 rfl [] [.ref q317, .ref x] rfl rfl ⟨by decide, by decide⟩ (Nat.le_of_ble_eq_true rfl) (c_alist d h323 q317 f326) 2 9 (Nat.le_of_ble_eq_true rfl) (Nat.le_of_ble_eq_true rfl)) (fun h328 q327 => ?_) (fun E h1 q => q.elim)
  have sp329 : tw_sp d τ (tw_rm h x) g τ295 h328 := by rw [q327]; exact sp324.wl n320 z321
  have f330 : h328 x = some (.inr (14, [.int 0, .int 0, .int 155, .ref q4, .ref q87, .ref q195, .ref q224, .ref q254, .ref q285, .null, .null, .null])) := by rw [q327, tw_up_n ne322]; exact f325
  have f331 : h328 q317 = some (.inr (3, [.int 0, .ref (d.2 102), .int 0])) := by rw [q327]; exact tw_up_s
  refine tw_putF rfl in_14 tyX10 tyX10_ok nmX10 9 dX10_init_67 w_1160 rfl (by decide) f330 rfl rfl rfl rfl rfl rfl (Nat.le_of_ble_eq_true rfl) [.int 0, .int 0, .int 155, .ref q4, .ref q87, .ref q195, .ref q224, .ref q254, .ref q285, .ref q317, .null, .null] rfl ?_
  obtain ⟨h332, eh332⟩ : ∃ z : tw_H, z = tw_up h328 x (.inr (14, [.int 0, .int 0, .int 155, .ref q4, .ref q87, .ref q195, .ref q224, .ref q254, .ref q285, .ref q317, .null, .null])) := ⟨_, rfl⟩
  rw [← eh332]
  have sp333 : tw_sp d τ (tw_rm h x) g τ295 h332 := by rw [eh332]; exact sp329.wl tw_rm_s z312
  have f334 : h332 q317 = some (.inr (3, [.int 0, .ref (d.2 102), .int 0])) := by rw [eh332, tw_up_n (Ne.symm ne322)]; exact f331
  have f335 : h332 x = some (.inr (14, [.int 0, .int 0, .int 155, .ref q4, .ref q87, .ref q195, .ref q224, .ref q254, .ref q285, .ref q317, .null, .null])) := by rw [eh332]; exact tw_up_s
  refine tw_aload_n 0 dX10_init_70 rfl rfl ?_
  refine tw_new (ci := 3) rfl in_3 tyJx4a65c tyJx4a65c_ok dX10_init_71 w_1121 w_1122 w_82 (fs := [.int 0, .null, .int 0]) (fun j hj => by rcases (show j = 0 ∨ j = 1 ∨ j = 2 by omega) with rfl | rfl | rfl <;> rfl) 1 6 (Nat.le_of_ble_eq_true rfl) (Nat.le_of_ble_eq_true rfl) (fun q336 hq337 hA338 => ?_)
  have n339 := sp333.nn hq337
  have z340 := sp333.1.none hq337
  have ne341 := tw_neF f334 hq337
  have ne342 := tw_neF f335 hq337
  obtain ⟨h343, eh343⟩ : ∃ z : tw_H, z = tw_up h332 q336 (.inr (3, [.int 0, .null, .int 0])) := ⟨_, rfl⟩
  rw [← eh343]
  have sp344 : tw_sp d τ (tw_rm h x) g τ295 h343 := by rw [eh343]; exact sp333.mk hq337
  have f345 : h343 q317 = some (.inr (3, [.int 0, .ref (d.2 102), .int 0])) := by rw [eh343, tw_up_n ne341]; exact f334
  have f346 : h343 x = some (.inr (14, [.int 0, .int 0, .int 155, .ref q4, .ref q87, .ref q195, .ref q224, .ref q254, .ref q285, .ref q317, .null, .null])) := by rw [eh343, tw_up_n ne342]; exact f335
  have f347 : h343 q336 = some (.inr (3, [.int 0, .null, .int 0])) := by rw [eh343]; exact tw_up_s
  refine tw_dup dX10_init_74 rfl ?_
  refine tw_bv (tw_callI (M := mX10_init) (pc := 75) okJx4a65c_init_da8c8 dX10_init_75 w_1123 rfl [] [.ref q336, .ref x] rfl rfl ⟨by decide, by decide⟩ (Nat.le_of_ble_eq_true rfl) (c_alist d h343 q336 f347) 1 6 (Nat.le_of_ble_eq_true rfl) (Nat.le_of_ble_eq_true rfl)) (fun h349 q348 => ?_) (fun E h1 q => q.elim)
  have sp350 : tw_sp d τ (tw_rm h x) g τ295 h349 := by rw [q348]; exact sp344.wl n339 z340
  have f351 : h349 q317 = some (.inr (3, [.int 0, .ref (d.2 102), .int 0])) := by rw [q348, tw_up_n ne341]; exact f345
  have f352 : h349 x = some (.inr (14, [.int 0, .int 0, .int 155, .ref q4, .ref q87, .ref q195, .ref q224, .ref q254, .ref q285, .ref q317, .null, .null])) := by rw [q348, tw_up_n ne342]; exact f346
  have f353 : h349 q336 = some (.inr (3, [.int 0, .ref (d.2 102), .int 0])) := by rw [q348]; exact tw_up_s
  refine tw_putF rfl in_14 tyX10 tyX10_ok nmX10 10 dX10_init_78 w_1161 rfl (by decide) f352 rfl rfl rfl rfl rfl rfl (Nat.le_of_ble_eq_true rfl) [.int 0, .int 0, .int 155, .ref q4, .ref q87, .ref q195, .ref q224, .ref q254, .ref q285, .ref q317, .ref q336, .null] rfl ?_
  obtain ⟨h354, eh354⟩ : ∃ z : tw_H, z = tw_up h349 x (.inr (14, [.int 0, .int 0, .int 155, .ref q4, .ref q87, .ref q195, .ref q224, .ref q254, .ref q285, .ref q317, .ref q336, .null])) := ⟨_, rfl⟩
  rw [← eh354]
  have sp355 : tw_sp d τ (tw_rm h x) g τ295 h354 := by rw [eh354]; exact sp350.wl tw_rm_s z312
  have f356 : h354 q317 = some (.inr (3, [.int 0, .ref (d.2 102), .int 0])) := by rw [eh354, tw_up_n (Ne.symm ne322)]; exact f351
  have f357 : h354 q336 = some (.inr (3, [.int 0, .ref (d.2 102), .int 0])) := by rw [eh354, tw_up_n (Ne.symm ne342)]; exact f353
  have f358 : h354 x = some (.inr (14, [.int 0, .int 0, .int 155, .ref q4, .ref q87, .ref q195, .ref q224, .ref q254, .ref q285, .ref q317, .ref q336, .null])) := by rw [eh354]; exact tw_up_s
  refine tw_aload_n 0 dX10_init_81 rfl rfl ?_
  refine tw_new (ci := 3) rfl in_3 tyJx4a65c tyJx4a65c_ok dX10_init_82 w_1121 w_1122 w_82 (fs := [.int 0, .null, .int 0]) (fun j hj => by rcases (show j = 0 ∨ j = 1 ∨ j = 2 by omega) with rfl | rfl | rfl <;> rfl) 0 3 (Nat.le_of_ble_eq_true rfl) (Nat.le_of_ble_eq_true rfl) (fun q359 hq360 hA361 => ?_)
  have n362 := sp355.nn hq360
  have z363 := sp355.1.none hq360
  have ne364 := tw_neF f356 hq360
  have ne365 := tw_neF f357 hq360
  have ne366 := tw_neF f358 hq360
  obtain ⟨h367, eh367⟩ : ∃ z : tw_H, z = tw_up h354 q359 (.inr (3, [.int 0, .null, .int 0])) := ⟨_, rfl⟩
  rw [← eh367]
  have sp368 : tw_sp d τ (tw_rm h x) g τ295 h367 := by rw [eh367]; exact sp355.mk hq360
  have f369 : h367 q317 = some (.inr (3, [.int 0, .ref (d.2 102), .int 0])) := by rw [eh367, tw_up_n ne364]; exact f356
  have f370 : h367 q336 = some (.inr (3, [.int 0, .ref (d.2 102), .int 0])) := by rw [eh367, tw_up_n ne365]; exact f357
  have f371 : h367 x = some (.inr (14, [.int 0, .int 0, .int 155, .ref q4, .ref q87, .ref q195, .ref q224, .ref q254, .ref q285, .ref q317, .ref q336, .null])) := by rw [eh367, tw_up_n ne366]; exact f358
  have f372 : h367 q359 = some (.inr (3, [.int 0, .null, .int 0])) := by rw [eh367]; exact tw_up_s
  refine tw_dup dX10_init_85 rfl ?_
  refine tw_bv (tw_callI (M := mX10_init) (pc := 86) okJx4a65c_init_da8c8 dX10_init_86 w_1123 rfl [] [.ref q359, .ref x] rfl rfl ⟨by decide, by decide⟩ (Nat.le_of_ble_eq_true rfl) (c_alist d h367 q359 f372) 0 3 (Nat.le_of_ble_eq_true rfl) (Nat.le_of_ble_eq_true rfl)) (fun h374 q373 => ?_) (fun E h1 q => q.elim)
  have sp375 : tw_sp d τ (tw_rm h x) g τ295 h374 := by rw [q373]; exact sp368.wl n362 z363
  have f376 : h374 q317 = some (.inr (3, [.int 0, .ref (d.2 102), .int 0])) := by rw [q373, tw_up_n ne364]; exact f369
  have f377 : h374 q336 = some (.inr (3, [.int 0, .ref (d.2 102), .int 0])) := by rw [q373, tw_up_n ne365]; exact f370
  have f378 : h374 x = some (.inr (14, [.int 0, .int 0, .int 155, .ref q4, .ref q87, .ref q195, .ref q224, .ref q254, .ref q285, .ref q317, .ref q336, .null])) := by rw [q373, tw_up_n ne366]; exact f371
  have f379 : h374 q359 = some (.inr (3, [.int 0, .ref (d.2 102), .int 0])) := by rw [q373]; exact tw_up_s
  refine tw_putF rfl in_14 tyX10 tyX10_ok nmX10 11 dX10_init_89 w_1162 rfl (by decide) f378 rfl rfl rfl rfl rfl rfl (Nat.le_of_ble_eq_true rfl) [.int 0, .int 0, .int 155, .ref q4, .ref q87, .ref q195, .ref q224, .ref q254, .ref q285, .ref q317, .ref q336, .ref q359] rfl ?_
  obtain ⟨h380, eh380⟩ : ∃ z : tw_H, z = tw_up h374 x (.inr (14, [.int 0, .int 0, .int 155, .ref q4, .ref q87, .ref q195, .ref q224, .ref q254, .ref q285, .ref q317, .ref q336, .ref q359])) := ⟨_, rfl⟩
  rw [← eh380]
  have sp381 : tw_sp d τ (tw_rm h x) g τ295 h380 := by rw [eh380]; exact sp375.wl tw_rm_s z312
  have f382 : h380 q317 = some (.inr (3, [.int 0, .ref (d.2 102), .int 0])) := by rw [eh380, tw_up_n (Ne.symm ne322)]; exact f376
  have f383 : h380 q336 = some (.inr (3, [.int 0, .ref (d.2 102), .int 0])) := by rw [eh380, tw_up_n (Ne.symm ne342)]; exact f377
  have f384 : h380 q359 = some (.inr (3, [.int 0, .ref (d.2 102), .int 0])) := by rw [eh380, tw_up_n (Ne.symm ne366)]; exact f379
  have f385 : h380 x = some (.inr (14, [.int 0, .int 0, .int 155, .ref q4, .ref q87, .ref q195, .ref q224, .ref q254, .ref q285, .ref q317, .ref q336, .ref q359])) := by rw [eh380]; exact tw_up_s
  obtain ⟨g1, eg1⟩ : ∃ z : tw_G, z = (fun k => if k = 0 then g.1 0 else if k = 1 then 155 else 0, fun k => if k < 3 ∨ (6 ≤ k ∧ k < 9) ∨ (18 ≤ k ∧ k < 22) then g.2 k else if k = 10 then g.2 10 else if k = 11 then x else if k = 12 then q317 else if k = 13 then q336 else if k = 14 then q359 else 0) := ⟨_, rfl⟩
  have sp386 := sp381.gch (g1 := g1) no313 (by rw [eg1]; rfl) (by rw [eg1]; rfl) (by rw [eg1]; rfl) (by rw [eg1]; rfl) (by rw [eg1]; rfl) (by rw [eg1]; rfl) (fun i h1 h2 => by rw [eg1]; exact if_pos (Or.inr (Or.inl ⟨h1, h2⟩))) (fun i h1 h2 => by rw [eg1]; exact if_pos (Or.inr (Or.inr ⟨h1, by omega⟩)))
  obtain ⟨τ387, eτ387⟩ : ∃ z : tw_K, z = tw_ku τ295 q317 24 := ⟨_, rfl⟩
  have le388 : tw_le τ295 τ387 := by rw [eτ387]; exact tw_ku_le z321
  have k389 : τ387 (r5 0) = 6 := le388.k k297 (by decide)
  have k390 : τ387 (r5 1) = 6 := le388.k k298 (by decide)
  have k391 : τ387 (r5 2) = 6 := le388.k k299 (by decide)
  have k392 : τ387 (r5 3) = 6 := le388.k k300 (by decide)
  have k393 : τ387 q4 = 34 := le388.k k301 (by decide)
  have k394 : τ387 (r88 0) = 6 := le388.k k302 (by decide)
  have k395 : τ387 (r88 1) = 6 := le388.k k303 (by decide)
  have k396 : τ387 (r88 2) = 6 := le388.k k304 (by decide)
  have k397 : τ387 (r88 3) = 6 := le388.k k305 (by decide)
  have k398 : τ387 q87 = 34 := le388.k k306 (by decide)
  have k399 : τ387 q195 = 31 := le388.k k307 (by decide)
  have k400 : τ387 q224 = 31 := le388.k k308 (by decide)
  have k401 : τ387 q254 = 31 := le388.k k309 (by decide)
  have k402 : τ387 q285 = 31 := le388.k k311 (by decide)
  have sp403 : tw_sp d τ (tw_rm h x) g1 τ387 h380 := by rw [eτ387]; exact sp386.ty n320 z321 f382 (by rw [← eτ387]; exact ⟨⟨d.2 102, (by rw [eg1]; rfl), Or.inl ⟨rfl, (by rw [eg1]; rfl), (by rw [eg1]; rfl)⟩⟩, (by rw [eg1]; rfl)⟩)
  have k404 : τ387 q317 = 24 := by rw [eτ387]; exact tw_ku_s
  have z405 : τ387 x = 0 := by rw [eτ387, tw_ku_n ne322]; exact z312
  have z406 : τ387 q336 = 0 := by rw [eτ387, tw_ku_n (Ne.symm ne341)]; exact z340
  have z407 : τ387 q359 = 0 := by rw [eτ387, tw_ku_n (Ne.symm ne364)]; exact z363
  obtain ⟨τ408, eτ408⟩ : ∃ z : tw_K, z = tw_ku τ387 q336 25 := ⟨_, rfl⟩
  have le409 : tw_le τ387 τ408 := by rw [eτ408]; exact tw_ku_le z406
  have k410 : τ408 (r5 0) = 6 := le409.k k389 (by decide)
  have k411 : τ408 (r5 1) = 6 := le409.k k390 (by decide)
  have k412 : τ408 (r5 2) = 6 := le409.k k391 (by decide)
  have k413 : τ408 (r5 3) = 6 := le409.k k392 (by decide)
  have k414 : τ408 q4 = 34 := le409.k k393 (by decide)
  have k415 : τ408 (r88 0) = 6 := le409.k k394 (by decide)
  have k416 : τ408 (r88 1) = 6 := le409.k k395 (by decide)
  have k417 : τ408 (r88 2) = 6 := le409.k k396 (by decide)
  have k418 : τ408 (r88 3) = 6 := le409.k k397 (by decide)
  have k419 : τ408 q87 = 34 := le409.k k398 (by decide)
  have k420 : τ408 q195 = 31 := le409.k k399 (by decide)
  have k421 : τ408 q224 = 31 := le409.k k400 (by decide)
  have k422 : τ408 q254 = 31 := le409.k k401 (by decide)
  have k423 : τ408 q285 = 31 := le409.k k402 (by decide)
  have k424 : τ408 q317 = 24 := le409.k k404 (by decide)
  have sp425 : tw_sp d τ (tw_rm h x) g1 τ408 h380 := by rw [eτ408]; exact sp403.ty n339 z406 f383 (by rw [← eτ408]; exact ⟨⟨d.2 102, (by rw [eg1]; rfl), Or.inl ⟨rfl, (by rw [eg1]; rfl), (by rw [eg1]; rfl)⟩⟩, (by rw [eg1]; rfl)⟩)
  have k426 : τ408 q336 = 25 := by rw [eτ408]; exact tw_ku_s
  have z427 : τ408 x = 0 := by rw [eτ408, tw_ku_n ne342]; exact z405
  have z428 : τ408 q359 = 0 := by rw [eτ408, tw_ku_n (Ne.symm ne365)]; exact z407
  obtain ⟨τ429, eτ429⟩ : ∃ z : tw_K, z = tw_ku τ408 q359 26 := ⟨_, rfl⟩
  have le430 : tw_le τ408 τ429 := by rw [eτ429]; exact tw_ku_le z428
  have k431 : τ429 (r5 0) = 6 := le430.k k410 (by decide)
  have k432 : τ429 (r5 1) = 6 := le430.k k411 (by decide)
  have k433 : τ429 (r5 2) = 6 := le430.k k412 (by decide)
  have k434 : τ429 (r5 3) = 6 := le430.k k413 (by decide)
  have k435 : τ429 q4 = 34 := le430.k k414 (by decide)
  have k436 : τ429 (r88 0) = 6 := le430.k k415 (by decide)
  have k437 : τ429 (r88 1) = 6 := le430.k k416 (by decide)
  have k438 : τ429 (r88 2) = 6 := le430.k k417 (by decide)
  have k439 : τ429 (r88 3) = 6 := le430.k k418 (by decide)
  have k440 : τ429 q87 = 34 := le430.k k419 (by decide)
  have k441 : τ429 q195 = 31 := le430.k k420 (by decide)
  have k442 : τ429 q224 = 31 := le430.k k421 (by decide)
  have k443 : τ429 q254 = 31 := le430.k k422 (by decide)
  have k444 : τ429 q285 = 31 := le430.k k423 (by decide)
  have k445 : τ429 q317 = 24 := le430.k k424 (by decide)
  have k446 : τ429 q336 = 25 := le430.k k426 (by decide)
  have sp447 : tw_sp d τ (tw_rm h x) g1 τ429 h380 := by rw [eτ429]; exact sp425.ty n362 z428 f384 (by rw [← eτ429]; exact ⟨⟨d.2 102, (by rw [eg1]; rfl), Or.inl ⟨rfl, (by rw [eg1]; rfl), (by rw [eg1]; rfl)⟩⟩, (by rw [eg1]; rfl)⟩)
  have k448 : τ429 q359 = 26 := by rw [eτ429]; exact tw_ku_s
  have z449 : τ429 x = 0 := by rw [eτ429, tw_ku_n ne366]; exact z427
  refine tw_iconst (v := 0) dX10_init_92 (by decide) ?_
  refine tw_istore_n [(1, .int 0), (0, .ref x)] dX10_init_93 rfl (by decide) rfl ?_
  have L453 : ∀ (r451 k450 : Nat) (h454 : tw_H) (sp455 : tw_sp d τ429 h380 g1 τ429 h454), 4 + 1 ≤ k450 + r451 → k450 ≤ 4 → tw_W d mX10_init (tw_qv (fun h1 => ∃ (g1 : tw_G) (τ1 : tw_K), (g1.1 0 = g.1 0 ∧ g1.1 1 = 155) ∧ tw_ini d g1 τ h x 36 τ1 h1) tw_nx) 94 [(0, .ref x), (1, .int (nI k450))] [] h454 0 3 := by
    intro r451
    induction r451 with
    | zero => intro k450 h454 sp455 hk457 hk458; exact absurd hk457 (by omega)
    | succ r451 ih452 =>
      intro k450 h454 sp455 hk457 hk458
      have f459 := (sp455.2.2 _ _ f385 z449).1
      have z460 := (sp455.2.2 _ _ f385 z449).2
      refine tw_iload_n 1 dX10_init_94 rfl rfl ?_
      refine tw_iconst (v := 4) dX10_init_95 (by decide) ?_
      refine tw_icmp_ge 137 dX10_init_96 (by decide) (fun c461 => ?_) (fun c461 => ?_)
      · have sp462 := sp447.tr sp455
        obtain ⟨τ463, eτ463⟩ : ∃ z : tw_K, z = tw_ku τ429 x 36 := ⟨_, rfl⟩
        have le464 : tw_le τ429 τ463 := by rw [eτ463]; exact tw_ku_le z460
        have k465 : τ463 (r5 0) = 6 := le464.k k431 (by decide)
        have k466 : τ463 (r5 1) = 6 := le464.k k432 (by decide)
        have k467 : τ463 (r5 2) = 6 := le464.k k433 (by decide)
        have k468 : τ463 (r5 3) = 6 := le464.k k434 (by decide)
        have k469 : τ463 q4 = 34 := le464.k k435 (by decide)
        have k470 : τ463 (r88 0) = 6 := le464.k k436 (by decide)
        have k471 : τ463 (r88 1) = 6 := le464.k k437 (by decide)
        have k472 : τ463 (r88 2) = 6 := le464.k k438 (by decide)
        have k473 : τ463 (r88 3) = 6 := le464.k k439 (by decide)
        have k474 : τ463 q87 = 34 := le464.k k440 (by decide)
        have k475 : τ463 q195 = 31 := le464.k k441 (by decide)
        have k476 : τ463 q224 = 31 := le464.k k442 (by decide)
        have k477 : τ463 q254 = 31 := le464.k k443 (by decide)
        have k478 : τ463 q285 = 31 := le464.k k444 (by decide)
        have k479 : τ463 q317 = 24 := le464.k k445 (by decide)
        have k480 : τ463 q336 = 25 := le464.k k446 (by decide)
        have k481 : τ463 q359 = 26 := le464.k k448 (by decide)
        have sp482 : tw_sp d τ (tw_rm h x) g1 τ463 h454 := by rw [eτ463]; exact sp462.ty tw_rm_s z460 f459 (by rw [← eτ463]; exact ⟨0, 0, q4, q87, q195, q224, q254, q285, q317, q336, q359, (by rw [eg1]; rfl), k469, k474, k475, k476, k477, k478, k479, k480, k481, (by rw [eg1]; exact Nat.zero_le _), (by rw [eg1]; exact Nat.zero_le _), (by rw [eg1]; exact Nat.zero_le _), (by rw [eg1]; rfl), (by decide), (by rw [eg1]; rfl), (by rw [eg1]; exact Nat.zero_le _)⟩)
        have k483 : τ463 x = 36 := by rw [eτ463]; exact tw_ku_s
        exact tw_vret dX10_init_137 rfl (Or.inl ⟨rfl, g1, _, ⟨by rw [eg1]; rfl, by rw [eg1]; rfl⟩, sp482.toini k483⟩)
      · have kl484 := tw_klt (N := 4) c461 hk458 (by decide)
        refine tw_iconst (v := 0) dX10_init_99 (by decide) ?_
        refine tw_istore_n [(2, .int 0), (0, .ref x), (1, .int (nI k450))] dX10_init_100 rfl (by decide) rfl ?_
        have L488 : ∀ (r486 k485 : Nat) (h489 : tw_H) (sp490 : tw_sp d τ429 h454 g1 τ429 h489), 4 + 1 ≤ k485 + r486 → k485 ≤ 4 → tw_W d mX10_init (tw_qv (fun h1 => ∃ (g1 : tw_G) (τ1 : tw_K), (g1.1 0 = g.1 0 ∧ g1.1 1 = 155) ∧ tw_ini d g1 τ h x 36 τ1 h1) tw_nx) 101 [(0, .ref x), (1, .int (nI k450)), (2, .int (nI k485))] [] h489 0 3 := by
          intro r486
          induction r486 with
          | zero => intro k485 h489 sp490 hk492 hk493; exact absurd hk492 (by omega)
          | succ r486 ih487 =>
            intro k485 h489 sp490 hk492 hk493
            have f494 := (sp490.2.2 _ _ f459 z460).1
            have z495 := (sp490.2.2 _ _ f459 z460).2
            refine tw_iload_n 2 dX10_init_101 rfl rfl ?_
            refine tw_iconst (v := 4) dX10_init_102 (by decide) ?_
            refine tw_icmp_ge 131 dX10_init_103 (by decide) (fun c496 => ?_) (fun c496 => ?_)
            · obtain ⟨v497, ev497⟩ : ∃ y : Int32, y = (nI k450) + 1 := ⟨_, rfl⟩
              refine tw_iinc [(1, .int v497), (0, .ref x), (2, .int (nI k485))] 1 dX10_init_131 rfl (by rw [ev497]; rfl) (by decide) rfl ?_
              refine tw_goto 94 dX10_init_134 (by decide) ?_
              have qv497 := tw_nI3 ev497
              rw [qv497]
              refine tw_lv [1, 0] rfl ?_
              exact ih452 (k450 + 1)  _ (sp455.tr sp490) (by omega) (by omega)
            · have kl498 := tw_klt (N := 4) c496 hk493 (by decide)
              refine tw_aload_n 0 dX10_init_106 rfl rfl ?_
              refine tw_get (v := .ref q4) rfl in_14 3 dX10_init_107 w_1154 rfl (by decide) f494 rfl ?_
              refine tw_iload_n 1 dX10_init_110 rfl rfl ?_
              obtain ⟨e499, f500, F501, rfl, k502⟩ := sp490.1 q4 34 k435 (by decide)
              obtain ⟨q503, k504, k505⟩ := k502 ((nI k450)).toNatClampNeg (by rw [nI_clamp (by omega)]; omega)
              refine tw_aald (v := .ref q503) 8 rfl rfl dX10_init_111 f500 (vp_in_nI (by omega) (by decide)) (by rw [k504]; rfl) ?_
              refine tw_iload_n 2 dX10_init_112 rfl rfl ?_
              refine tw_iconst (v := 3) dX10_init_113 (by decide) ?_
              obtain ⟨e506, f507, F508, rfl⟩ := sp490.1 q503 6 k505 (by decide)
              refine tw_iast dX10_init_114 f507 (vp_in_nI (by omega) (by decide)) ?_
              obtain ⟨h509, eh509⟩ : ∃ z : tw_H, z = tw_up h489 q503 (.inl (d.2 0, 4, .inl (upd F508 ((nI k485)).toNatClampNeg 3))) := ⟨_, rfl⟩
              rw [← eh509]
              have sp510 : tw_sp d τ429 h454 g1 τ429 h509 := by rw [eh509]; exact sp490.set k505 (by decide) ⟨_, rfl⟩
              have f511 : h509 x = some (.inr (14, [.int 0, .int 0, .int 155, .ref q4, .ref q87, .ref q195, .ref q224, .ref q254, .ref q285, .ref q317, .ref q336, .ref q359])) := by rw [eh509, tw_up_n (fun q => absurd (z495) (by rw [q, k505]; decide))]; exact f494
              refine tw_aload_n 0 dX10_init_115 rfl rfl ?_
              refine tw_get (v := .ref q87) rfl in_14 4 dX10_init_116 w_1155 rfl (by decide) f511 rfl ?_
              refine tw_iload_n 1 dX10_init_119 rfl rfl ?_
              obtain ⟨e512, f513, F514, rfl, k515⟩ := sp510.1 q87 34 k440 (by decide)
              obtain ⟨q516, k517, k518⟩ := k515 ((nI k450)).toNatClampNeg (by rw [nI_clamp (by omega)]; omega)
              refine tw_aald (v := .ref q516) 8 rfl rfl dX10_init_120 f513 (vp_in_nI (by omega) (by decide)) (by rw [k517]; rfl) ?_
              refine tw_iload_n 2 dX10_init_121 rfl rfl ?_
              refine tw_bipush (v := 10) dX10_init_122 (by decide) ?_
              obtain ⟨e519, f520, F521, rfl⟩ := sp510.1 q516 6 k518 (by decide)
              refine tw_iast dX10_init_124 f520 (vp_in_nI (by omega) (by decide)) ?_
              obtain ⟨h522, eh522⟩ : ∃ z : tw_H, z = tw_up h509 q516 (.inl (d.2 0, 4, .inl (upd F521 ((nI k485)).toNatClampNeg 10))) := ⟨_, rfl⟩
              rw [← eh522]
              have sp523 : tw_sp d τ429 h454 g1 τ429 h522 := by rw [eh522]; exact sp510.set k518 (by decide) ⟨_, rfl⟩
              have f524 : h522 x = some (.inr (14, [.int 0, .int 0, .int 155, .ref q4, .ref q87, .ref q195, .ref q224, .ref q254, .ref q285, .ref q317, .ref q336, .ref q359])) := by rw [eh522, tw_up_n (fun q => absurd (z495) (by rw [q, k518]; decide))]; exact f511
              obtain ⟨v525, ev525⟩ : ∃ y : Int32, y = (nI k485) + 1 := ⟨_, rfl⟩
              refine tw_iinc [(2, .int v525), (0, .ref x), (1, .int (nI k450))] 2 dX10_init_125 rfl (by rw [ev525]; rfl) (by decide) rfl ?_
              refine tw_goto 101 dX10_init_128 (by decide) ?_
              have qv525 := tw_nI3 ev525
              rw [qv525]
              refine tw_lv [1, 2, 0] rfl ?_
              exact ih487 (k485 + 1)  _ sp523 (by omega) (by omega)
        refine tw_lv [1, 2, 0] rfl ?_
        exact L488 (4 + 1) 0  _ (tw_sp.rf sp455.1) (by omega) (by omega)
  refine tw_lv [1, 0] rfl ?_
  exact L453 (4 + 1) 0  _ (tw_sp.rf sp447.1) (by omega) (by omega)

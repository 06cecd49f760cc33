/-! the class's methods over the typed heap. Laid by wip/p5/mkclass.py. -/
set_option maxHeartbeats 4000000 in
set_option maxRecDepth 100000 in
theorem c2_X7_init (d : tw_D) (g : tw_G) (τ : tw_K) (h : tw_H) (hw : tw_wt d g τ h) (x : Nat) (hz : τ x = 0) (hx : h x = some (.inr (11, [.int 0, .int 0, .null, .null, .null]))) : tw_Ct d mX7_init 3 9 [.ref x] h (tw_qv (fun h1 => ∃ (τ1 : tw_K) (v o t : Nat), tw_sp d τ (tw_rm h x) g τ1 h1 ∧ h1 x = some (.inr (11, [.int 0, .int 0, .ref v, .ref o, .ref t])) ∧ τ1 x = 0 ∧ τ1 v = 31 ∧ τ1 o = 32 ∧ τ1 t = 33 ∧ ∀ b, b ≠ x → h b ≠ none → h1 b = h b) tw_nx) := by
  refine tw_of (by decide +kernel) (Nat.le_of_ble_eq_true rfl) ?_
  show tw_W d mX7_init _ 0 [(0, .ref x)] [] h 3 9
  have sp0 := tw_sp.rm hw x
  have fr0 : ∀ b, b ≠ x → h b ≠ none → h b = h b := fun _ _ _ => rfl
  refine tw_aload_n 0 dX7_init_0 rfl rfl ?_
  refine tw_objInit dX7_init_1 w_1217 w_117 w_118 ⟨by decide, Nat.le_of_ble_eq_true rfl⟩ ?_
  refine tw_aload_n 0 dX7_init_4 rfl rfl ?_
  refine tw_iconst (v := 2) dX7_init_5 (by decide) ?_
  refine tw_newa (a0 := (2, .inr (.inl (fun _ => 0)))) 1 rfl dX7_init_6 rfl w_1150 (fun _ => rfl) (by decide) (by decide) (by decide) 2 7 (Nat.le_of_ble_eq_true rfl) (Nat.le_of_ble_eq_true rfl) (fun q1 hq2 hA3 => ?_)
  have n4 := sp0.nn hq2
  have z5 := sp0.1.none hq2
  have ne6 := tw_neF hx hq2
  obtain ⟨h7, eh7⟩ : ∃ z : tw_H, z = tw_up h q1 (.inl (d.2 1, 2, .inr (.inl (fun _ => 0)))) := ⟨_, rfl⟩
  rw [← eh7]
  have fr8 : ∀ b, b ≠ x → h b ≠ none → h7 b = h b := fun b n1 n2 => by rw [eh7, tw_up_n (fun z => n2 (tw_rmN n4 z n1))] <;> exact fr0 b n1 n2
  have sp9 : tw_sp d τ (tw_rm h x) g τ h7 := by rw [eh7]; exact sp0.mk hq2
  have f10 : h7 x = some (.inr (11, [.int 0, .int 0, .null, .null, .null])) := by rw [eh7, tw_up_n ne6]; exact hx
  have f11 : h7 q1 = some (.inl (d.2 1, 2, .inr (.inl (fun _ => 0)))) := by rw [eh7]; exact tw_up_s
  obtain ⟨τ12, eτ12⟩ : ∃ z : tw_K, z = tw_ku τ q1 31 := ⟨_, rfl⟩
  have le13 : tw_le τ τ12 := by rw [eτ12]; exact tw_ku_le z5
  have sp14 : tw_sp d τ (tw_rm h x) g τ12 h7 := by rw [eτ12]; exact sp9.ty n4 z5 f11 (by rw [← eτ12]; exact ⟨_, rfl⟩)
  have k15 : τ12 q1 = 31 := by rw [eτ12]; exact tw_ku_s
  have z16 : τ12 x = 0 := by rw [eτ12, tw_ku_n ne6]; exact hz
  refine tw_put rfl in_11 tyX7 tyX7_ok nmX7 2 dX7_init_8 w_1220 rfl (by decide) f10 rfl rfl rfl rfl (Nat.le_of_ble_eq_true rfl) [.int 0, .int 0, .ref q1, .null, .null] rfl ?_
  obtain ⟨h17, eh17⟩ : ∃ z : tw_H, z = tw_up h7 x (.inr (11, [.int 0, .int 0, .ref q1, .null, .null])) := ⟨_, rfl⟩
  rw [← eh17]
  have fr18 : ∀ b, b ≠ x → h b ≠ none → h17 b = h b := fun b n1 n2 => by rw [eh17, tw_up_n n1] <;> exact fr8 b n1 n2
  have sp19 : tw_sp d τ (tw_rm h x) g τ12 h17 := by rw [eh17]; exact sp14.wl tw_rm_s z16
  have f20 : h17 x = some (.inr (11, [.int 0, .int 0, .ref q1, .null, .null])) := by rw [eh17]; exact tw_up_s
  refine tw_aload_n 0 dX7_init_11 rfl rfl ?_
  refine tw_iconst (v := 2) dX7_init_12 (by decide) ?_
  refine tw_newa (a0 := (2, .inl (fun _ => 0))) 2 rfl dX7_init_13 rfl w_1237 (fun _ => rfl) (by decide) (by decide) (by decide) 1 5 (Nat.le_of_ble_eq_true rfl) (Nat.le_of_ble_eq_true rfl) (fun q21 hq22 hA23 => ?_)
  have n24 := sp19.nn hq22
  have z25 := sp19.1.none hq22
  have ne26 := tw_neF f20 hq22
  obtain ⟨h27, eh27⟩ : ∃ z : tw_H, z = tw_up h17 q21 (.inl (d.2 2, 2, .inl (fun _ => 0))) := ⟨_, rfl⟩
  rw [← eh27]
  have fr28 : ∀ b, b ≠ x → h b ≠ none → h27 b = h b := fun b n1 n2 => by rw [eh27, tw_up_n (fun z => n2 (tw_rmN n24 z n1))] <;> exact fr18 b n1 n2
  have sp29 : tw_sp d τ (tw_rm h x) g τ12 h27 := by rw [eh27]; exact sp19.mk hq22
  have f30 : h27 x = some (.inr (11, [.int 0, .int 0, .ref q1, .null, .null])) := by rw [eh27, tw_up_n ne26]; exact f20
  have f31 : h27 q21 = some (.inl (d.2 2, 2, .inl (fun _ => 0))) := by rw [eh27]; exact tw_up_s
  obtain ⟨τ32, eτ32⟩ : ∃ z : tw_K, z = tw_ku τ12 q21 32 := ⟨_, rfl⟩
  have le33 : tw_le τ12 τ32 := by rw [eτ32]; exact tw_ku_le z25
  have k34 : τ32 q1 = 31 := le33.k k15 (by decide)
  have sp35 : tw_sp d τ (tw_rm h x) g τ32 h27 := by rw [eτ32]; exact sp29.ty n24 z25 f31 (by rw [← eτ32]; exact ⟨_, rfl, fun _ => Or.inl rfl⟩)
  have k36 : τ32 q21 = 32 := by rw [eτ32]; exact tw_ku_s
  have z37 : τ32 x = 0 := by rw [eτ32, tw_ku_n ne26]; exact z16
  refine tw_dup dX7_init_15 rfl ?_
  refine tw_iconst (v := 0) dX7_init_16 (by decide) ?_
  refine tw_iconst (v := 1) dX7_init_17 (by decide) ?_
  obtain ⟨e38, f39, F40, rfl, k41⟩ := sp35.1 q21 32 k36 (by decide)
  refine tw_zast dX7_init_18 f39 (vp_in_nI (n := 0) (by decide) (by decide)) ?_
  obtain ⟨h42, eh42⟩ : ∃ z : tw_H, z = tw_up h27 q21 (.inl (d.2 2, 2, .inl (upd F40 (0 : Int32).toNatClampNeg (vp_nar .boolean 1)))) := ⟨_, rfl⟩
  rw [← eh42]
  have fr43 : ∀ b, b ≠ x → h b ≠ none → h42 b = h b := fun b n1 n2 => by rw [eh42, tw_up_n (fun z => n2 (tw_rmN n24 z n1))] <;> exact fr28 b n1 n2
  have sp44 : tw_sp d τ (tw_rm h x) g τ32 h42 := by rw [eh42]; exact sp35.set k36 (by decide) ⟨_, rfl, tw_01up k41 (tw_vp01 (by unfold tw_01; decide))⟩
  have f45 : h42 x = some (.inr (11, [.int 0, .int 0, .ref q1, .null, .null])) := by rw [eh42, tw_up_n ne26]; exact f30
  refine tw_dup dX7_init_19 rfl ?_
  refine tw_iconst (v := 1) dX7_init_20 (by decide) ?_
  refine tw_iconst (v := 1) dX7_init_21 (by decide) ?_
  obtain ⟨e46, f47, F48, rfl, k49⟩ := sp44.1 q21 32 k36 (by decide)
  refine tw_zast dX7_init_22 f47 (vp_in_nI (n := 1) (by decide) (by decide)) ?_
  obtain ⟨h50, eh50⟩ : ∃ z : tw_H, z = tw_up h42 q21 (.inl (d.2 2, 2, .inl (upd F48 (1 : Int32).toNatClampNeg (vp_nar .boolean 1)))) := ⟨_, rfl⟩
  rw [← eh50]
  have fr51 : ∀ b, b ≠ x → h b ≠ none → h50 b = h b := fun b n1 n2 => by rw [eh50, tw_up_n (fun z => n2 (tw_rmN n24 z n1))] <;> exact fr43 b n1 n2
  have sp52 : tw_sp d τ (tw_rm h x) g τ32 h50 := by rw [eh50]; exact sp44.set k36 (by decide) ⟨_, rfl, tw_01up k49 (tw_vp01 (by unfold tw_01; decide))⟩
  have f53 : h50 x = some (.inr (11, [.int 0, .int 0, .ref q1, .null, .null])) := by rw [eh50, tw_up_n ne26]; exact f45
  refine tw_put rfl in_11 tyX7 tyX7_ok nmX7 3 dX7_init_23 w_1222 rfl (by decide) f53 rfl rfl rfl rfl (Nat.le_of_ble_eq_true rfl) [.int 0, .int 0, .ref q1, .ref q21, .null] rfl ?_
  obtain ⟨h54, eh54⟩ : ∃ z : tw_H, z = tw_up h50 x (.inr (11, [.int 0, .int 0, .ref q1, .ref q21, .null])) := ⟨_, rfl⟩
  rw [← eh54]
  have fr55 : ∀ b, b ≠ x → h b ≠ none → h54 b = h b := fun b n1 n2 => by rw [eh54, tw_up_n n1] <;> exact fr51 b n1 n2
  have sp56 : tw_sp d τ (tw_rm h x) g τ32 h54 := by rw [eh54]; exact sp52.wl tw_rm_s z37
  have f57 : h54 x = some (.inr (11, [.int 0, .int 0, .ref q1, .ref q21, .null])) := by rw [eh54]; exact tw_up_s
  refine tw_aload_n 0 dX7_init_26 rfl rfl ?_
  refine tw_iconst (v := 5) dX7_init_27 (by decide) ?_
  refine tw_newa (a0 := (5, .inl (fun _ => 0))) 0 rfl dX7_init_28 rfl w_500 (fun _ => rfl) (by decide) (by decide) (by decide) 0 0 (Nat.le_of_ble_eq_true rfl) (Nat.le_of_ble_eq_true rfl) (fun q58 hq59 hA60 => ?_)
  have n61 := sp56.nn hq59
  have z62 := sp56.1.none hq59
  have ne63 := tw_neF f57 hq59
  obtain ⟨h64, eh64⟩ : ∃ z : tw_H, z = tw_up h54 q58 (.inl (d.2 0, 5, .inl (fun _ => 0))) := ⟨_, rfl⟩
  rw [← eh64]
  have fr65 : ∀ b, b ≠ x → h b ≠ none → h64 b = h b := fun b n1 n2 => by rw [eh64, tw_up_n (fun z => n2 (tw_rmN n61 z n1))] <;> exact fr55 b n1 n2
  have sp66 : tw_sp d τ (tw_rm h x) g τ32 h64 := by rw [eh64]; exact sp56.mk hq59
  have f67 : h64 x = some (.inr (11, [.int 0, .int 0, .ref q1, .ref q21, .null])) := by rw [eh64, tw_up_n ne63]; exact f57
  have f68 : h64 q58 = some (.inl (d.2 0, 5, .inl (fun _ => 0))) := by rw [eh64]; exact tw_up_s
  obtain ⟨τ69, eτ69⟩ : ∃ z : tw_K, z = tw_ku τ32 q58 33 := ⟨_, rfl⟩
  have le70 : tw_le τ32 τ69 := by rw [eτ69]; exact tw_ku_le z62
  have k71 : τ69 q1 = 31 := le70.k k34 (by decide)
  have k72 : τ69 q21 = 32 := le70.k k36 (by decide)
  have sp73 : tw_sp d τ (tw_rm h x) g τ69 h64 := by rw [eτ69]; exact sp66.ty n61 z62 f68 (by rw [← eτ69]; exact ⟨_, rfl, fun _ => by decide⟩)
  have k74 : τ69 q58 = 33 := by rw [eτ69]; exact tw_ku_s
  have z75 : τ69 x = 0 := by rw [eτ69, tw_ku_n ne63]; exact z37
  refine tw_put rfl in_11 tyX7 tyX7_ok nmX7 4 dX7_init_30 w_1224 rfl (by decide) f67 rfl rfl rfl rfl (Nat.le_of_ble_eq_true rfl) [.int 0, .int 0, .ref q1, .ref q21, .ref q58] rfl ?_
  obtain ⟨h76, eh76⟩ : ∃ z : tw_H, z = tw_up h64 x (.inr (11, [.int 0, .int 0, .ref q1, .ref q21, .ref q58])) := ⟨_, rfl⟩
  rw [← eh76]
  have fr77 : ∀ b, b ≠ x → h b ≠ none → h76 b = h b := fun b n1 n2 => by rw [eh76, tw_up_n n1] <;> exact fr65 b n1 n2
  have sp78 : tw_sp d τ (tw_rm h x) g τ69 h76 := by rw [eh76]; exact sp73.wl tw_rm_s z75
  have f79 : h76 x = some (.inr (11, [.int 0, .int 0, .ref q1, .ref q21, .ref q58])) := by rw [eh76]; exact tw_up_s
  exact tw_vret dX7_init_33 rfl (Or.inl ⟨rfl, _, q1, q21, q58, sp78, f79, z75, k71, k72, k74, fr77⟩)

set_option maxHeartbeats 4000000 in
set_option maxRecDepth 100000 in
theorem c2_X9_init (d : tw_D) (g : tw_G) (τ : tw_K) (h : tw_H) (hw : tw_wt d g τ h) (x : Nat) (hz : τ x = 0) (hx : h x = some (.inr (13, [.int 0, .int 0, .int 0, .null]))) : tw_Ct d mX9_init 1 2 [.ref x] h (tw_qv (fun h1 => ∃ (τ1 : tw_K) (p : Nat), tw_sp d τ (tw_rm h x) g τ1 h1 ∧ h1 x = some (.inr (13, [.int 0, .int (-1), .int (-1), .ref p])) ∧ τ1 x = 0 ∧ τ1 p = 31 ∧ ∀ b, b ≠ x → h b ≠ none → h1 b = h b) tw_nx) := by
  refine tw_of (by decide +kernel) (Nat.le_of_ble_eq_true rfl) ?_
  show tw_W d mX9_init _ 0 [(0, .ref x)] [] h 1 2
  have sp0 := tw_sp.rm hw x
  have fr0 : ∀ b, b ≠ x → h b ≠ none → h b = h b := fun _ _ _ => rfl
  refine tw_aload_n 0 dX9_init_0 rfl rfl ?_
  refine tw_objInit dX9_init_1 w_1341 w_117 w_118 ⟨by decide, Nat.le_of_ble_eq_true rfl⟩ ?_
  refine tw_aload_n 0 dX9_init_4 rfl rfl ?_
  refine tw_iconst (v := -1) dX9_init_5 (by decide) ?_
  refine tw_put rfl in_13 tyX9 tyX9_ok nmX9 1 dX9_init_6 w_1343 rfl (by decide) hx rfl rfl rfl rfl (Nat.le_of_ble_eq_true rfl) [.int 0, .int (-1), .int 0, .null] rfl ?_
  obtain ⟨h1, eh1⟩ : ∃ z : tw_H, z = tw_up h x (.inr (13, [.int 0, .int (-1), .int 0, .null])) := ⟨_, rfl⟩
  rw [← eh1]
  have fr2 : ∀ b, b ≠ x → h b ≠ none → h1 b = h b := fun b n1 n2 => by rw [eh1, tw_up_n n1] <;> exact fr0 b n1 n2
  have sp3 : tw_sp d τ (tw_rm h x) g τ h1 := by rw [eh1]; exact sp0.wl tw_rm_s hz
  have f4 : h1 x = some (.inr (13, [.int 0, .int (-1), .int 0, .null])) := by rw [eh1]; exact tw_up_s
  refine tw_aload_n 0 dX9_init_9 rfl rfl ?_
  refine tw_iconst (v := -1) dX9_init_10 (by decide) ?_
  refine tw_put rfl in_13 tyX9 tyX9_ok nmX9 2 dX9_init_11 w_1345 rfl (by decide) f4 rfl rfl rfl rfl (Nat.le_of_ble_eq_true rfl) [.int 0, .int (-1), .int (-1), .null] rfl ?_
  obtain ⟨h5, eh5⟩ : ∃ z : tw_H, z = tw_up h1 x (.inr (13, [.int 0, .int (-1), .int (-1), .null])) := ⟨_, rfl⟩
  rw [← eh5]
  have fr6 : ∀ b, b ≠ x → h b ≠ none → h5 b = h b := fun b n1 n2 => by rw [eh5, tw_up_n n1] <;> exact fr2 b n1 n2
  have sp7 : tw_sp d τ (tw_rm h x) g τ h5 := by rw [eh5]; exact sp3.wl tw_rm_s hz
  have f8 : h5 x = some (.inr (13, [.int 0, .int (-1), .int (-1), .null])) := by rw [eh5]; exact tw_up_s
  refine tw_aload_n 0 dX9_init_14 rfl rfl ?_
  refine tw_iconst (v := 2) dX9_init_15 (by decide) ?_
  refine tw_newa (a0 := (2, .inr (.inl (fun _ => 0)))) 1 rfl dX9_init_16 rfl w_1150 (fun _ => rfl) (by decide) (by decide) (by decide) 0 0 (Nat.le_of_ble_eq_true rfl) (Nat.le_of_ble_eq_true rfl) (fun q9 hq10 hA11 => ?_)
  have n12 := sp7.nn hq10
  have z13 := sp7.1.none hq10
  have ne14 := tw_neF f8 hq10
  obtain ⟨h15, eh15⟩ : ∃ z : tw_H, z = tw_up h5 q9 (.inl (d.2 1, 2, .inr (.inl (fun _ => 0)))) := ⟨_, rfl⟩
  rw [← eh15]
  have fr16 : ∀ b, b ≠ x → h b ≠ none → h15 b = h b := fun b n1 n2 => by rw [eh15, tw_up_n (fun z => n2 (tw_rmN n12 z n1))] <;> exact fr6 b n1 n2
  have sp17 : tw_sp d τ (tw_rm h x) g τ h15 := by rw [eh15]; exact sp7.mk hq10
  have f18 : h15 x = some (.inr (13, [.int 0, .int (-1), .int (-1), .null])) := by rw [eh15, tw_up_n ne14]; exact f8
  have f19 : h15 q9 = some (.inl (d.2 1, 2, .inr (.inl (fun _ => 0)))) := by rw [eh15]; exact tw_up_s
  obtain ⟨τ20, eτ20⟩ : ∃ z : tw_K, z = tw_ku τ q9 31 := ⟨_, rfl⟩
  have le21 : tw_le τ τ20 := by rw [eτ20]; exact tw_ku_le z13
  have sp22 : tw_sp d τ (tw_rm h x) g τ20 h15 := by rw [eτ20]; exact sp17.ty n12 z13 f19 (by rw [← eτ20]; exact ⟨_, rfl⟩)
  have k23 : τ20 q9 = 31 := by rw [eτ20]; exact tw_ku_s
  have z24 : τ20 x = 0 := by rw [eτ20, tw_ku_n ne14]; exact hz
  refine tw_put rfl in_13 tyX9 tyX9_ok nmX9 3 dX9_init_18 w_1347 rfl (by decide) f18 rfl rfl rfl rfl (Nat.le_of_ble_eq_true rfl) [.int 0, .int (-1), .int (-1), .ref q9] rfl ?_
  obtain ⟨h25, eh25⟩ : ∃ z : tw_H, z = tw_up h15 x (.inr (13, [.int 0, .int (-1), .int (-1), .ref q9])) := ⟨_, rfl⟩
  rw [← eh25]
  have fr26 : ∀ b, b ≠ x → h b ≠ none → h25 b = h b := fun b n1 n2 => by rw [eh25, tw_up_n n1] <;> exact fr16 b n1 n2
  have sp27 : tw_sp d τ (tw_rm h x) g τ20 h25 := by rw [eh25]; exact sp22.wl tw_rm_s z24
  have f28 : h25 x = some (.inr (13, [.int 0, .int (-1), .int (-1), .ref q9])) := by rw [eh25]; exact tw_up_s
  exact tw_vret dX9_init_21 rfl (Or.inl ⟨rfl, _, q9, sp27, f28, z24, k23, fr26⟩)

set_option maxHeartbeats 4000000 in
set_option maxRecDepth 100000 in
theorem c2_X8_init (d : tw_D) (g : tw_G) (τ : tw_K) (h : tw_H) (hw : tw_wt d g τ h) (x : Nat) (hz : τ x = 0) (hx : h x = some (.inr (12, [.int 0, .int 0, .int 0, .int 0, .int 0]))) : tw_Ct d mX8_init 0 0 [.ref x] h (tw_qv (fun h1 => ∃ (τ1 : tw_K), tw_sp d τ (tw_rm h x) g τ1 h1 ∧ h1 x = some (.inr (12, [.int 0, .int 0, .int 0, .int 0, .int 0])) ∧ τ1 x = 0 ∧ ∀ b, b ≠ x → h b ≠ none → h1 b = h b) tw_nx) := by
  refine tw_of (by decide +kernel) (Nat.le_of_ble_eq_true rfl) ?_
  show tw_W d mX8_init _ 0 [(0, .ref x)] [] h 0 0
  have sp0 := tw_sp.rm hw x
  have fr0 : ∀ b, b ≠ x → h b ≠ none → h b = h b := fun _ _ _ => rfl
  refine tw_aload_n 0 dX8_init_0 rfl rfl ?_
  refine tw_objInit dX8_init_1 w_1442 w_117 w_118 ⟨by decide, Nat.le_of_ble_eq_true rfl⟩ ?_
  exact tw_vret dX8_init_4 rfl (Or.inl ⟨rfl, _, sp0, hx, hz, fr0⟩)

theorem tw_nsc {k v : Int32} {n : Nat} (z : ¬ (0 ≤ k ∧ k ≤ v)) (e : v = nI n - 1) (hn : n ≤ 10) : ¬ tw_ix n k := by
  rintro ⟨j, hj, rfl⟩
  obtain ⟨m, rfl⟩ : ∃ m, n = m + 1 := ⟨n - 1, by omega⟩
  rw [e, nI_pred] at z
  exact z ⟨nI_le (a := 0) (Nat.zero_le _) (by omega), nI_le (by omega) (by omega)⟩
set_option maxHeartbeats 4000000 in
set_option maxRecDepth 100000 in
theorem c2_X10_isNoCountry (d : tw_D) (g : tw_G) (τ : tw_K) (h : tw_H) (hw : tw_wt d g τ h) (x : Nat) (kx : τ x = 36) (k : Int32) : tw_Ct d mX10_isNoCountry 0 0 [.ref x, .int k] h (tw_qi (fun r h1 => h1 = h ∧ (r = 1 ∧ ¬ tw_ix (g.2 3) k ∨ r = 0 ∧ tw_ix (g.2 3) k)) tw_nx) := by
  refine tw_of (by decide +kernel) (Nat.le_of_ble_eq_true rfl) ?_
  show tw_W d mX10_isNoCountry _ 0 [(0, .ref x), (1, .int k)] [] h 0 0
  have sp0 := tw_sp.rf hw
  refine tw_iload_n 1 dX10_isNoCountry_0 rfl rfl ?_
  refine tw_iconst (v := 0) dX10_isNoCountry_1 (by decide) ?_
  refine tw_aload_n 0 dX10_isNoCountry_2 rfl rfl ?_
  obtain ⟨e1, f2, th_3, td_4, ds_5, fr_6, ca_7, us_8, wo_9, cm_10, lc_11, lh_12, ld_13, rfl, k14, k15, k16, k17, k18, k19, k20, k21, k22, k23, k24, k25, k26, k27, k28, k29⟩ := sp0.1 x 36 kx (by decide)
  refine tw_get (v := .ref lc_11) rfl in_14 9 dX10_isNoCountry_3 w_1160 rfl (by decide) f2 rfl ?_
  obtain ⟨e30, f31, ⟨el32, rfl, k33⟩, k34⟩ := sp0.1 lc_11 24 k20 (by decide)
  refine tw_bi (tw_callV (M := mX10_isNoCountry) (pc := 6) okJx4a65c_size_8abf5 dX10_isNoCountry_6 w_1208 rfl f31 [] [.int 0, .int k] rfl rfl ⟨by decide, by decide⟩ (Nat.le_of_ble_eq_true rfl) (c24_size d g τ h sp0.1 lc_11 k20) 0 0 (Nat.le_of_ble_eq_true rfl) (Nat.le_of_ble_eq_true rfl)) (fun r37 h36 q35 => ?_) (fun E h1 q => q.elim)
  obtain ⟨q35e, q35r⟩ := q35
  rw [q35e, q35r]
  refine tw_iconst (v := 1) dX10_isNoCountry_9 (by decide) ?_
  refine tw_isub dX10_isNoCountry_10 ?_
  refine tw_nmi (fun v38 ev38 => ?_)
  refine tw_bi (tw_callS (M := mX10_isNoCountry) (pc := 11) okX10_isIn dX10_isNoCountry_11 w_1196 [.int k, .int 0, .int v38] [] rfl rfl ⟨by decide, by decide⟩ (Nat.le_of_ble_eq_true rfl) (c_X10_isIn d g τ h sp0.1 k 0 v38) 0 0 (Nat.le_of_ble_eq_true rfl) (Nat.le_of_ble_eq_true rfl)) (fun r41 h40 q39 => ?_) (fun E h1 q => q.elim)
  obtain ⟨q39e, q39d⟩ := q39
  rw [q39e]
  rcases q39d with ⟨q39r, q39n⟩ | ⟨q39r, q39a, q39b⟩
  · rw [q39r]
    refine tw_if_ne 21 dX10_isNoCountry_14 (by decide) (fun c42 => absurd (by decide) c42) (fun _ => ?_)
    refine tw_iconst (v := 1) dX10_isNoCountry_17 (by decide) ?_
    refine tw_goto 22 dX10_isNoCountry_18 (by decide) ?_
    exact tw_zret dX10_isNoCountry_22 rfl rfl (Or.inl ⟨_, rfl, rfl, Or.inl ⟨rfl, tw_nsc q39n ev38 (by omega)⟩⟩)
  · rw [q39r]
    refine tw_if_ne 21 dX10_isNoCountry_14 (by decide) (fun _ => ?_) (fun c43 => absurd c43 (by decide))
    refine tw_iconst (v := 0) dX10_isNoCountry_21 (by decide) ?_
    exact tw_zret dX10_isNoCountry_22 rfl rfl (Or.inl ⟨_, rfl, rfl, Or.inr ⟨rfl, tw_isc q39a q39b ev38 (by omega)⟩⟩)

set_option maxHeartbeats 4000000 in
set_option maxRecDepth 100000 in
theorem c2_X10_isNoHouse (d : tw_D) (g : tw_G) (τ : tw_K) (h : tw_H) (hw : tw_wt d g τ h) (x : Nat) (kx : τ x = 36) (k : Int32) : tw_Ct d mX10_isNoHouse 0 0 [.ref x, .int k] h (tw_qi (fun r h1 => h1 = h ∧ (r = 1 ∧ ¬ tw_ix (g.2 4) k ∨ r = 0 ∧ tw_ix (g.2 4) k)) tw_nx) := by
  refine tw_of (by decide +kernel) (Nat.le_of_ble_eq_true rfl) ?_
  show tw_W d mX10_isNoHouse _ 0 [(0, .ref x), (1, .int k)] [] h 0 0
  have sp0 := tw_sp.rf hw
  refine tw_iload_n 1 dX10_isNoHouse_0 rfl rfl ?_
  refine tw_iconst (v := 0) dX10_isNoHouse_1 (by decide) ?_
  refine tw_aload_n 0 dX10_isNoHouse_2 rfl rfl ?_
  obtain ⟨e1, f2, th_3, td_4, ds_5, fr_6, ca_7, us_8, wo_9, cm_10, lc_11, lh_12, ld_13, rfl, k14, k15, k16, k17, k18, k19, k20, k21, k22, k23, k24, k25, k26, k27, k28, k29⟩ := sp0.1 x 36 kx (by decide)
  refine tw_get (v := .ref lh_12) rfl in_14 10 dX10_isNoHouse_3 w_1161 rfl (by decide) f2 rfl ?_
  obtain ⟨e30, f31, ⟨el32, rfl, k33⟩, k34⟩ := sp0.1 lh_12 25 k21 (by decide)
  refine tw_bi (tw_callV (M := mX10_isNoHouse) (pc := 6) okJx4a65c_size_8abf5 dX10_isNoHouse_6 w_1208 rfl f31 [] [.int 0, .int k] rfl rfl ⟨by decide, by decide⟩ (Nat.le_of_ble_eq_true rfl) (c25_size d g τ h sp0.1 lh_12 k21) 0 0 (Nat.le_of_ble_eq_true rfl) (Nat.le_of_ble_eq_true rfl)) (fun r37 h36 q35 => ?_) (fun E h1 q => q.elim)
  obtain ⟨q35e, q35r⟩ := q35
  rw [q35e, q35r]
  refine tw_iconst (v := 1) dX10_isNoHouse_9 (by decide) ?_
  refine tw_isub dX10_isNoHouse_10 ?_
  refine tw_nmi (fun v38 ev38 => ?_)
  refine tw_bi (tw_callS (M := mX10_isNoHouse) (pc := 11) okX10_isIn dX10_isNoHouse_11 w_1196 [.int k, .int 0, .int v38] [] rfl rfl ⟨by decide, by decide⟩ (Nat.le_of_ble_eq_true rfl) (c_X10_isIn d g τ h sp0.1 k 0 v38) 0 0 (Nat.le_of_ble_eq_true rfl) (Nat.le_of_ble_eq_true rfl)) (fun r41 h40 q39 => ?_) (fun E h1 q => q.elim)
  obtain ⟨q39e, q39d⟩ := q39
  rw [q39e]
  rcases q39d with ⟨q39r, q39n⟩ | ⟨q39r, q39a, q39b⟩
  · rw [q39r]
    refine tw_if_ne 21 dX10_isNoHouse_14 (by decide) (fun c42 => absurd (by decide) c42) (fun _ => ?_)
    refine tw_iconst (v := 1) dX10_isNoHouse_17 (by decide) ?_
    refine tw_goto 22 dX10_isNoHouse_18 (by decide) ?_
    exact tw_zret dX10_isNoHouse_22 rfl rfl (Or.inl ⟨_, rfl, rfl, Or.inl ⟨rfl, tw_nsc q39n ev38 (by omega)⟩⟩)
  · rw [q39r]
    refine tw_if_ne 21 dX10_isNoHouse_14 (by decide) (fun _ => ?_) (fun c43 => absurd c43 (by decide))
    refine tw_iconst (v := 0) dX10_isNoHouse_21 (by decide) ?_
    exact tw_zret dX10_isNoHouse_22 rfl rfl (Or.inl ⟨_, rfl, rfl, Or.inr ⟨rfl, tw_isc q39a q39b ev38 (by omega)⟩⟩)

set_option maxHeartbeats 4000000 in
set_option maxRecDepth 100000 in
theorem c2_X10_country (d : tw_D) (g : tw_G) (τ : tw_K) (h : tw_H) (hw : tw_wt d g τ h) (x : Nat) (kx : τ x = 36) (r : Int32) (ct : Int32) (go : Int32) (si : Int32) (o : Nat) (ko : τ o = 12) : tw_Ct d mX10_country 10 60 [.ref x, .int r, .int ct, .int go, .int si] h (tw_qi (fun r9 h1 => ∃ g1 τ1, tw_sp d τ h g1 τ1 h1 ∧ h1 o = h o ∧ ((¬ tw_RC r ct go si ∧ tw_th (h1 x) = 1 ∧ g1 = g) ∨ (tw_RC r ct go si ∧ ¬ g.2 3 < 4 ∧ tw_th (h1 x) = 2 ∧ g1 = g) ∨ (tw_RC r ct go si ∧ g.2 3 < 4 ∧ r9 = nI (g.2 3) ∧ tw_th (h1 x) = 0 ∧ tw_gk 3 g g1))) tw_nx) := by
  refine tw_of (by decide +kernel) (Nat.le_of_ble_eq_true rfl) ?_
  show tw_W d mX10_country _ 0 [(0, .ref x), (1, .int r), (2, .int ct), (3, .int go), (4, .int si)] [] h 10 60
  have sp0 := tw_sp.rf hw
  have oq0 : h o = h o := rfl
  refine tw_aload_n 0 dX10_country_0 rfl rfl ?_
  refine tw_iload_n 1 dX10_country_1 rfl rfl ?_
  refine tw_bipush (v := 100) dX10_country_2 (by decide) ?_
  refine tw_sipush (v := 200) dX10_country_4 (by decide) ?_
  refine tw_bi (tw_callS (M := mX10_country) (pc := 7) okX10_isIn dX10_country_7 w_1196 [.int r, .int 100, .int 200] [.ref x] rfl rfl ⟨by decide, by decide⟩ (Nat.le_of_ble_eq_true rfl) (c_X10_isIn d g τ h sp0.1 r 100 200) 10 60 (Nat.le_of_ble_eq_true rfl) (Nat.le_of_ble_eq_true rfl)) (fun r3 h2 q1 => ?_) (fun E h1 q => q.elim)
  obtain ⟨q1e, q1d⟩ := q1
  rw [q1e]
  rcases q1d with ⟨q1r, q1n⟩ | ⟨q1r, q1a, q1b⟩
  · rw [q1r]
    refine tw_if_eq 44 dX10_country_10 (by decide) (fun _ => ?_) (fun c4 => absurd (by decide) c4)
    refine tw_iconst (v := 1) dX10_country_44 (by decide) ?_
    refine tw_goto 49 dX10_country_45 (by decide) ?_
    refine tw_iconst (v := 1) dX10_country_49 (by decide) ?_
    obtain ⟨e5, f6, th_7, td_8, ds_9, fr_10, ca_11, us_12, wo_13, cm_14, lc_15, lh_16, ld_17, rfl, k18, k19, k20, k21, k22, k23, k24, k25, k26, k27, k28, k29, k30, k31, k32, k33⟩ := sp0.1 x 36 kx (by decide)
    refine tw_bi (tw_callV (M := mX10_country) (pc := 50) okX10_start dX10_country_50 w_1200 rfl f6 [.int 1, .int 1] [] rfl rfl ⟨by decide, by decide⟩ (Nat.le_of_ble_eq_true rfl) (c_X10_start d g τ h sp0.1 x kx 1 1 (by decide)) 10 60 (Nat.le_of_ble_eq_true rfl) (Nat.le_of_ble_eq_true rfl)) (fun r36 h35 q34 => ?_) (fun E h1 q => q.elim)
    obtain ⟨e37, he38, hs39, hr40, hc41⟩ := q34
    obtain ⟨rz42, tz43⟩ := hc41.2 rfl
    have th44 : tw_th (h35 x) = 1 := by rw [he38, tw_up_s]; exact tz43
    have sp45 : tw_sp d τ h g τ h35 := by rw [he38]; exact sp0.set kx (by decide) hs39
    rw [rz42]
    have oq46 : h35 o = h o := by rw [he38, tw_up_n (tw_nk ko kx (by decide))] <;> exact oq0
    refine tw_if_ne 80 dX10_country_53 (by decide) (fun _ => ?_) (fun c47 => absurd c47 (by decide))
    refine tw_iconst (v := 0) dX10_country_80 (by decide) ?_
    exact tw_iret dX10_country_81 rfl (Or.inl ⟨_, rfl, _, _, sp45, oq46, Or.inl ⟨fun z => q1n z.1, th44, rfl⟩⟩)
  · rw [q1r]
    refine tw_if_eq 44 dX10_country_10 (by decide) (fun c48 => absurd c48 (by decide)) (fun _ => ?_)
    refine tw_iload_n 2 dX10_country_13 rfl rfl ?_
    refine tw_iconst (v := 0) dX10_country_14 (by decide) ?_
    refine tw_bipush (v := 50) dX10_country_15 (by decide) ?_
    refine tw_bi (tw_callS (M := mX10_country) (pc := 17) okX10_isIn dX10_country_17 w_1196 [.int ct, .int 0, .int 50] [.ref x] rfl rfl ⟨by decide, by decide⟩ (Nat.le_of_ble_eq_true rfl) (c_X10_isIn d g τ h sp0.1 ct 0 50) 10 60 (Nat.le_of_ble_eq_true rfl) (Nat.le_of_ble_eq_true rfl)) (fun r51 h50 q49 => ?_) (fun E h1 q => q.elim)
    obtain ⟨q49e, q49d⟩ := q49
    rw [q49e]
    rcases q49d with ⟨q49r, q49n⟩ | ⟨q49r, q49a, q49b⟩
    · rw [q49r]
      refine tw_if_eq 44 dX10_country_20 (by decide) (fun _ => ?_) (fun c52 => absurd (by decide) c52)
      refine tw_iconst (v := 1) dX10_country_44 (by decide) ?_
      refine tw_goto 49 dX10_country_45 (by decide) ?_
      refine tw_iconst (v := 1) dX10_country_49 (by decide) ?_
      obtain ⟨e53, f54, th_55, td_56, ds_57, fr_58, ca_59, us_60, wo_61, cm_62, lc_63, lh_64, ld_65, rfl, k66, k67, k68, k69, k70, k71, k72, k73, k74, k75, k76, k77, k78, k79, k80, k81⟩ := sp0.1 x 36 kx (by decide)
      refine tw_bi (tw_callV (M := mX10_country) (pc := 50) okX10_start dX10_country_50 w_1200 rfl f54 [.int 1, .int 1] [] rfl rfl ⟨by decide, by decide⟩ (Nat.le_of_ble_eq_true rfl) (c_X10_start d g τ h sp0.1 x kx 1 1 (by decide)) 10 60 (Nat.le_of_ble_eq_true rfl) (Nat.le_of_ble_eq_true rfl)) (fun r84 h83 q82 => ?_) (fun E h1 q => q.elim)
      obtain ⟨e85, he86, hs87, hr88, hc89⟩ := q82
      obtain ⟨rz90, tz91⟩ := hc89.2 rfl
      have th92 : tw_th (h83 x) = 1 := by rw [he86, tw_up_s]; exact tz91
      have sp93 : tw_sp d τ h g τ h83 := by rw [he86]; exact sp0.set kx (by decide) hs87
      rw [rz90]
      have oq94 : h83 o = h o := by rw [he86, tw_up_n (tw_nk ko kx (by decide))] <;> exact oq0
      refine tw_if_ne 80 dX10_country_53 (by decide) (fun _ => ?_) (fun c95 => absurd c95 (by decide))
      refine tw_iconst (v := 0) dX10_country_80 (by decide) ?_
      exact tw_iret dX10_country_81 rfl (Or.inl ⟨_, rfl, _, _, sp93, oq94, Or.inl ⟨fun z => q49n z.2.1, th92, rfl⟩⟩)
    · rw [q49r]
      refine tw_if_eq 44 dX10_country_20 (by decide) (fun c96 => absurd c96 (by decide)) (fun _ => ?_)
      refine tw_iload_n 3 dX10_country_23 rfl rfl ?_
      refine tw_iconst (v := 0) dX10_country_24 (by decide) ?_
      refine tw_ldc (v := 99999) dX10_country_25 w_1199 ?_
      refine tw_bi (tw_callS (M := mX10_country) (pc := 27) okX10_isIn dX10_country_27 w_1196 [.int go, .int 0, .int 99999] [.ref x] rfl rfl ⟨by decide, by decide⟩ (Nat.le_of_ble_eq_true rfl) (c_X10_isIn d g τ h sp0.1 go 0 99999) 10 60 (Nat.le_of_ble_eq_true rfl) (Nat.le_of_ble_eq_true rfl)) (fun r99 h98 q97 => ?_) (fun E h1 q => q.elim)
      obtain ⟨q97e, q97d⟩ := q97
      rw [q97e]
      rcases q97d with ⟨q97r, q97n⟩ | ⟨q97r, q97a, q97b⟩
      · rw [q97r]
        refine tw_if_eq 44 dX10_country_30 (by decide) (fun _ => ?_) (fun c100 => absurd (by decide) c100)
        refine tw_iconst (v := 1) dX10_country_44 (by decide) ?_
        refine tw_goto 49 dX10_country_45 (by decide) ?_
        refine tw_iconst (v := 1) dX10_country_49 (by decide) ?_
        obtain ⟨e101, f102, th_103, td_104, ds_105, fr_106, ca_107, us_108, wo_109, cm_110, lc_111, lh_112, ld_113, rfl, k114, k115, k116, k117, k118, k119, k120, k121, k122, k123, k124, k125, k126, k127, k128, k129⟩ := sp0.1 x 36 kx (by decide)
        refine tw_bi (tw_callV (M := mX10_country) (pc := 50) okX10_start dX10_country_50 w_1200 rfl f102 [.int 1, .int 1] [] rfl rfl ⟨by decide, by decide⟩ (Nat.le_of_ble_eq_true rfl) (c_X10_start d g τ h sp0.1 x kx 1 1 (by decide)) 10 60 (Nat.le_of_ble_eq_true rfl) (Nat.le_of_ble_eq_true rfl)) (fun r132 h131 q130 => ?_) (fun E h1 q => q.elim)
        obtain ⟨e133, he134, hs135, hr136, hc137⟩ := q130
        obtain ⟨rz138, tz139⟩ := hc137.2 rfl
        have th140 : tw_th (h131 x) = 1 := by rw [he134, tw_up_s]; exact tz139
        have sp141 : tw_sp d τ h g τ h131 := by rw [he134]; exact sp0.set kx (by decide) hs135
        rw [rz138]
        have oq142 : h131 o = h o := by rw [he134, tw_up_n (tw_nk ko kx (by decide))] <;> exact oq0
        refine tw_if_ne 80 dX10_country_53 (by decide) (fun _ => ?_) (fun c143 => absurd c143 (by decide))
        refine tw_iconst (v := 0) dX10_country_80 (by decide) ?_
        exact tw_iret dX10_country_81 rfl (Or.inl ⟨_, rfl, _, _, sp141, oq142, Or.inl ⟨fun z => q97n z.2.2.1, th140, rfl⟩⟩)
      · rw [q97r]
        refine tw_if_eq 44 dX10_country_30 (by decide) (fun c144 => absurd c144 (by decide)) (fun _ => ?_)
        refine tw_iload 4 dX10_country_33 rfl ?_
        refine tw_iconst (v := 0) dX10_country_35 (by decide) ?_
        refine tw_ldc (v := 99999) dX10_country_36 w_1199 ?_
        refine tw_bi (tw_callS (M := mX10_country) (pc := 38) okX10_isIn dX10_country_38 w_1196 [.int si, .int 0, .int 99999] [.ref x] rfl rfl ⟨by decide, by decide⟩ (Nat.le_of_ble_eq_true rfl) (c_X10_isIn d g τ h sp0.1 si 0 99999) 10 60 (Nat.le_of_ble_eq_true rfl) (Nat.le_of_ble_eq_true rfl)) (fun r147 h146 q145 => ?_) (fun E h1 q => q.elim)
        obtain ⟨q145e, q145d⟩ := q145
        rw [q145e]
        rcases q145d with ⟨q145r, q145n⟩ | ⟨q145r, q145a, q145b⟩
        · rw [q145r]
          refine tw_if_ne 48 dX10_country_41 (by decide) (fun c148 => absurd (by decide) c148) (fun _ => ?_)
          refine tw_iconst (v := 1) dX10_country_44 (by decide) ?_
          refine tw_goto 49 dX10_country_45 (by decide) ?_
          refine tw_iconst (v := 1) dX10_country_49 (by decide) ?_
          obtain ⟨e149, f150, th_151, td_152, ds_153, fr_154, ca_155, us_156, wo_157, cm_158, lc_159, lh_160, ld_161, rfl, k162, k163, k164, k165, k166, k167, k168, k169, k170, k171, k172, k173, k174, k175, k176, k177⟩ := sp0.1 x 36 kx (by decide)
          refine tw_bi (tw_callV (M := mX10_country) (pc := 50) okX10_start dX10_country_50 w_1200 rfl f150 [.int 1, .int 1] [] rfl rfl ⟨by decide, by decide⟩ (Nat.le_of_ble_eq_true rfl) (c_X10_start d g τ h sp0.1 x kx 1 1 (by decide)) 10 60 (Nat.le_of_ble_eq_true rfl) (Nat.le_of_ble_eq_true rfl)) (fun r180 h179 q178 => ?_) (fun E h1 q => q.elim)
          obtain ⟨e181, he182, hs183, hr184, hc185⟩ := q178
          obtain ⟨rz186, tz187⟩ := hc185.2 rfl
          have th188 : tw_th (h179 x) = 1 := by rw [he182, tw_up_s]; exact tz187
          have sp189 : tw_sp d τ h g τ h179 := by rw [he182]; exact sp0.set kx (by decide) hs183
          rw [rz186]
          have oq190 : h179 o = h o := by rw [he182, tw_up_n (tw_nk ko kx (by decide))] <;> exact oq0
          refine tw_if_ne 80 dX10_country_53 (by decide) (fun _ => ?_) (fun c191 => absurd c191 (by decide))
          refine tw_iconst (v := 0) dX10_country_80 (by decide) ?_
          exact tw_iret dX10_country_81 rfl (Or.inl ⟨_, rfl, _, _, sp189, oq190, Or.inl ⟨fun z => q145n z.2.2.2, th188, rfl⟩⟩)
        · rw [q145r]
          refine tw_if_ne 48 dX10_country_41 (by decide) (fun _ => ?_) (fun c192 => absurd c192 (by decide))
          refine tw_iconst (v := 0) dX10_country_48 (by decide) ?_
          refine tw_iconst (v := 1) dX10_country_49 (by decide) ?_
          obtain ⟨e193, f194, th_195, td_196, ds_197, fr_198, ca_199, us_200, wo_201, cm_202, lc_203, lh_204, ld_205, rfl, k206, k207, k208, k209, k210, k211, k212, k213, k214, k215, k216, k217, k218, k219, k220, k221⟩ := sp0.1 x 36 kx (by decide)
          refine tw_bi (tw_callV (M := mX10_country) (pc := 50) okX10_start dX10_country_50 w_1200 rfl f194 [.int 0, .int 1] [] rfl rfl ⟨by decide, by decide⟩ (Nat.le_of_ble_eq_true rfl) (c_X10_start d g τ h sp0.1 x kx 0 1 (by decide)) 10 60 (Nat.le_of_ble_eq_true rfl) (Nat.le_of_ble_eq_true rfl)) (fun r224 h223 q222 => ?_) (fun E h1 q => q.elim)
          obtain ⟨e225, he226, hs227, hr228, hc229⟩ := q222
          obtain ⟨rz230, tz231⟩ := hc229.1 rfl
          have th232 : tw_th (h223 x) = 0 := by rw [he226, tw_up_s]; exact tz231
          have sp233 : tw_sp d τ h g τ h223 := by rw [he226]; exact sp0.set kx (by decide) hs227
          rw [rz230]
          have oq234 : h223 o = h o := by rw [he226, tw_up_n (tw_nk ko kx (by decide))] <;> exact oq0
          refine tw_if_ne 80 dX10_country_53 (by decide) (fun c235 => absurd (by decide) c235) (fun _ => ?_)
          refine tw_aload_n 0 dX10_country_56 rfl rfl ?_
          refine tw_aload_n 0 dX10_country_57 rfl rfl ?_
          obtain ⟨e236, f237, th_238, td_239, ds_240, fr_241, ca_242, us_243, wo_244, cm_245, lc_246, lh_247, ld_248, rfl, k249, k250, k251, k252, k253, k254, k255, k256, k257, k258, k259, k260, k261, k262, k263, k264⟩ := sp233.1 x 36 kx (by decide)
          refine tw_get (v := .ref lc_246) rfl in_14 9 dX10_country_58 w_1160 rfl (by decide) f237 rfl ?_
          obtain ⟨e265, f266, ⟨el267, rfl, k268⟩, k269⟩ := sp233.1 lc_246 24 k255 (by decide)
          refine tw_bi (tw_callV (M := mX10_country) (pc := 61) okJx4a65c_size_8abf5 dX10_country_61 w_1208 rfl f266 [] [.ref x] rfl rfl ⟨by decide, by decide⟩ (Nat.le_of_ble_eq_true rfl) (c24_size d g τ h223 sp233.1 lc_246 k255) 10 60 (Nat.le_of_ble_eq_true rfl) (Nat.le_of_ble_eq_true rfl)) (fun r272 h271 q270 => ?_) (fun E h1 q => q.elim)
          obtain ⟨q270e, q270r⟩ := q270
          rw [q270e, q270r]
          refine tw_iconst (v := 4) dX10_country_64 (by decide) ?_
          refine tw_icmp_ne 72 dX10_country_65 (by decide) (fun c273 => ?_) (fun c273 => ?_)
          · refine tw_iconst (v := 0) dX10_country_72 (by decide) ?_
            refine tw_iconst (v := 2) dX10_country_73 (by decide) ?_
            refine tw_bi (tw_callV (M := mX10_country) (pc := 74) okX10_refuse dX10_country_74 w_1204 rfl f237 [.int 0, .int 2] [] rfl rfl ⟨by decide, by decide⟩ (Nat.le_of_ble_eq_true rfl) (c_X10_refuse d g τ h223 sp233.1 x kx 0 2 (by decide)) 10 60 (Nat.le_of_ble_eq_true rfl) (Nat.le_of_ble_eq_true rfl)) (fun r276 h275 q274 => ?_) (fun E h1 q => q.elim)
            obtain ⟨e277, he278, hs279, hr280, hc281⟩ := q274
            obtain ⟨rz282, tz283⟩ := (hc281 th232).1 rfl
            have th284 : tw_th (h275 x) = 0 := by rw [he278, tw_up_s]; exact tz283
            have sp285 : tw_sp d τ h g τ h275 := by rw [he278]; exact sp233.set kx (by decide) hs279
            rw [rz282]
            have oq286 : h275 o = h o := by rw [he278, tw_up_n (tw_nk ko kx (by decide))] <;> exact oq234
            refine tw_if_eq 82 dX10_country_77 (by decide) (fun _ => ?_) (fun c287 => absurd (by decide) c287)
            refine tw_new (ci := 11) rfl in_11 tyX7 tyX7_ok dX10_country_82 w_1212 w_1213 w_91 (fs := [.int 0, .int 0, .null, .null, .null]) (fun j hj => by rcases (show j = 0 ∨ j = 1 ∨ j = 2 ∨ j = 3 ∨ j = 4 by omega) with rfl | rfl | rfl | rfl | rfl <;> rfl) 9 55 (Nat.le_of_ble_eq_true rfl) (Nat.le_of_ble_eq_true rfl) (fun q288 hq289 hA290 => ?_)
            have n291 := sp285.nn hq289
            have z292 := sp285.1.none hq289
            obtain ⟨h293, eh293⟩ : ∃ z : tw_H, z = tw_up h275 q288 (.inr (11, [.int 0, .int 0, .null, .null, .null])) := ⟨_, rfl⟩
            rw [← eh293]
            have th294 : tw_th (h293 x) = 0 := by rw [eh293, tw_up_n (tw_kF sp285.1 kx (by decide) hq289)] <;> exact th284
            have oq295 : h293 o = h o := by rw [eh293, tw_up_n (tw_kF sp285.1 ko (by decide) hq289)] <;> exact oq286
            have sp296 : tw_sp d τ h g τ h293 := by rw [eh293]; exact sp285.mk hq289
            have f297 : h293 q288 = some (.inr (11, [.int 0, .int 0, .null, .null, .null])) := by rw [eh293]; exact tw_up_s
            refine tw_dup dX10_country_85 rfl ?_
            refine tw_bv (tw_callIN (M := mX10_country) (pc := 86) okX7_init dX10_country_86 w_1214 rfl [] [.ref q288] rfl rfl ⟨by decide, by decide⟩ (Nat.le_of_ble_eq_true rfl) (c2_X7_init d g τ h293 sp296.1 q288 z292 f297) 6 46 (Nat.le_of_ble_eq_true rfl) (Nat.le_of_ble_eq_true rfl)) (fun h299 q298 => ?_) (fun E h1 q => q.elim)
            obtain ⟨τ300, v301, o302, t303, q298s, f304, z305, k306, k307, k308, fr310⟩ := q298
            have th311 : tw_th (h299 x) = 0 := by rw [fr310 x (tw_nz kx z292 (by decide)) (fun z => by obtain ⟨e, y, -⟩ := sp296.1 x 36 kx (by decide); rw [z] at y; cases y)]; exact th294
            have oq312 : h299 o = h o := by rw [fr310 o (tw_nk ko z292 (by decide)) (tw_some sp296.1 ko (by decide))] <;> exact oq295
            have sp309 := sp296.trm n291 q298s
            have k313 : τ300 x = 36 := q298s.2.1.k kx (by decide)
            have k314 : τ300 o = 12 := q298s.2.1.k ko (by decide)
            have k315 : τ300 ds_197 = 34 := q298s.2.1.k k206 (by decide)
            have k316 : τ300 fr_198 = 34 := q298s.2.1.k k207 (by decide)
            have k317 : τ300 ca_199 = 31 := q298s.2.1.k k208 (by decide)
            have k318 : τ300 us_200 = 31 := q298s.2.1.k k209 (by decide)
            have k319 : τ300 wo_201 = 31 := q298s.2.1.k k210 (by decide)
            have k320 : τ300 cm_202 = 31 := q298s.2.1.k k211 (by decide)
            have k321 : τ300 lc_203 = 24 := q298s.2.1.k k212 (by decide)
            have k322 : τ300 lh_204 = 25 := q298s.2.1.k k213 (by decide)
            have k323 : τ300 ld_205 = 26 := q298s.2.1.k k214 (by decide)
            have k324 : τ300 ds_240 = 34 := q298s.2.1.k k249 (by decide)
            have k325 : τ300 fr_241 = 34 := q298s.2.1.k k250 (by decide)
            have k326 : τ300 ca_242 = 31 := q298s.2.1.k k251 (by decide)
            have k327 : τ300 us_243 = 31 := q298s.2.1.k k252 (by decide)
            have k328 : τ300 wo_244 = 31 := q298s.2.1.k k253 (by decide)
            have k329 : τ300 cm_245 = 31 := q298s.2.1.k k254 (by decide)
            have k330 : τ300 lc_246 = 24 := q298s.2.1.k k255 (by decide)
            have k331 : τ300 lh_247 = 25 := q298s.2.1.k k256 (by decide)
            have k332 : τ300 ld_248 = 26 := q298s.2.1.k k257 (by decide)
            refine tw_astore [(5, .ref q288), (0, .ref x), (1, .int r), (2, .int ct), (3, .int go), (4, .int si)] dX10_country_89 (by decide) rfl ?_
            refine tw_aload 0 dX10_country_91 rfl ?_
            refine tw_iload_n 2 dX10_country_93 rfl rfl ?_
            refine tw_put rfl in_11 tyX7 tyX7_ok nmX7 0 dX10_country_94 w_1218 rfl (by decide) f304 rfl rfl rfl rfl (Nat.le_of_ble_eq_true rfl) [.int r, .int 0, .ref v301, .ref o302, .ref t303] rfl ?_
            obtain ⟨h333, eh333⟩ : ∃ z : tw_H, z = tw_up h299 q288 (.inr (11, [.int r, .int 0, .ref v301, .ref o302, .ref t303])) := ⟨_, rfl⟩
            rw [← eh333]
            have th334 : tw_th (h333 x) = 0 := by rw [eh333, tw_up_n (tw_nk k313 z305 (by decide))] <;> exact th311
            have oq335 : h333 o = h o := by rw [eh333, tw_up_n (tw_nk k314 z305 (by decide))] <;> exact oq312
            have sp336 : tw_sp d τ h g τ300 h333 := by rw [eh333]; exact sp309.wl n291 z305
            have f337 : h333 q288 = some (.inr (11, [.int r, .int 0, .ref v301, .ref o302, .ref t303])) := by rw [eh333]; exact tw_up_s
            refine tw_aload 0 dX10_country_97 rfl ?_
            refine tw_iload_n 3 dX10_country_99 rfl rfl ?_
            refine tw_put rfl in_11 tyX7 tyX7_ok nmX7 1 dX10_country_100 w_1219 rfl (by decide) f337 rfl rfl rfl rfl (Nat.le_of_ble_eq_true rfl) [.int r, .int ct, .ref v301, .ref o302, .ref t303] rfl ?_
            obtain ⟨h338, eh338⟩ : ∃ z : tw_H, z = tw_up h333 q288 (.inr (11, [.int r, .int ct, .ref v301, .ref o302, .ref t303])) := ⟨_, rfl⟩
            rw [← eh338]
            have th339 : tw_th (h338 x) = 0 := by rw [eh338, tw_up_n (tw_nk k313 z305 (by decide))] <;> exact th334
            have oq340 : h338 o = h o := by rw [eh338, tw_up_n (tw_nk k314 z305 (by decide))] <;> exact oq335
            have sp341 : tw_sp d τ h g τ300 h338 := by rw [eh338]; exact sp336.wl n291 z305
            have f342 : h338 q288 = some (.inr (11, [.int r, .int ct, .ref v301, .ref o302, .ref t303])) := by rw [eh338]; exact tw_up_s
            refine tw_aload 0 dX10_country_103 rfl ?_
            refine tw_get (v := .ref v301) rfl in_11 2 dX10_country_105 w_1221 rfl (by decide) f342 rfl ?_
            refine tw_iconst (v := 0) dX10_country_108 (by decide) ?_
            refine tw_iload_n 4 dX10_country_109 rfl rfl ?_
            refine tw_i2l dX10_country_110 ?_
            refine tw_nml (fun v343 ev343 => ?_)
            obtain ⟨e344, f345, F346, rfl⟩ := sp341.1 v301 31 k306 (by decide)
            refine tw_last dX10_country_111 f345 (vp_in_nI (n := 0) (by decide) (by decide)) ?_
            obtain ⟨h347, eh347⟩ : ∃ z : tw_H, z = tw_up h338 v301 (.inl (d.2 1, 2, .inr (.inl (vp_updL F346 (0 : Int32).toNatClampNeg v343)))) := ⟨_, rfl⟩
            rw [← eh347]
            have th348 : tw_th (h347 x) = 0 := by rw [eh347, tw_up_n (tw_nk k313 k306 (by decide))] <;> exact th339
            have oq349 : h347 o = h o := by rw [eh347, tw_up_n (tw_nk k314 k306 (by decide))] <;> exact oq340
            have sp350 : tw_sp d τ h g τ300 h347 := by rw [eh347]; exact sp341.set k306 (by decide) ⟨_, rfl⟩
            have f351 : h347 q288 = some (.inr (11, [.int r, .int ct, .ref v301, .ref o302, .ref t303])) := by rw [eh347, tw_up_n (fun q => absurd (z305) (by rw [q, k306]; decide))]; exact f342
            refine tw_aload 0 dX10_country_112 rfl ?_
            refine tw_get (v := .ref v301) rfl in_11 2 dX10_country_114 w_1221 rfl (by decide) f351 rfl ?_
            refine tw_iconst (v := 1) dX10_country_117 (by decide) ?_
            refine tw_iload 5 dX10_country_118 rfl ?_
            refine tw_i2l dX10_country_120 ?_
            refine tw_nml (fun v352 ev352 => ?_)
            obtain ⟨e353, f354, F355, rfl⟩ := sp350.1 v301 31 k306 (by decide)
            refine tw_last dX10_country_121 f354 (vp_in_nI (n := 1) (by decide) (by decide)) ?_
            obtain ⟨h356, eh356⟩ : ∃ z : tw_H, z = tw_up h347 v301 (.inl (d.2 1, 2, .inr (.inl (vp_updL F355 (1 : Int32).toNatClampNeg v352)))) := ⟨_, rfl⟩
            rw [← eh356]
            have th357 : tw_th (h356 x) = 0 := by rw [eh356, tw_up_n (tw_nk k313 k306 (by decide))] <;> exact th348
            have oq358 : h356 o = h o := by rw [eh356, tw_up_n (tw_nk k314 k306 (by decide))] <;> exact oq349
            have sp359 : tw_sp d τ h g τ300 h356 := by rw [eh356]; exact sp350.set k306 (by decide) ⟨_, rfl⟩
            have f360 : h356 q288 = some (.inr (11, [.int r, .int ct, .ref v301, .ref o302, .ref t303])) := by rw [eh356, tw_up_n (fun q => absurd (z305) (by rw [q, k306]; decide))]; exact f351
            refine tw_aload_n 1 dX10_country_122 rfl rfl ?_
            obtain ⟨e361, f362, th_363, td_364, ds_365, fr_366, ca_367, us_368, wo_369, cm_370, lc_371, lh_372, ld_373, rfl, k374, k375, k376, k377, k378, k379, k380, k381, k382, k383, k384, k385, k386, k387, k388, k389⟩ := sp359.1 x 36 k313 (by decide)
            refine tw_get (v := .ref cm_370) rfl in_14 8 dX10_country_123 w_1159 rfl (by decide) f362 rfl ?_
            refine tw_iconst (v := 0) dX10_country_126 (by decide) ?_
            refine tw_dup2 dX10_country_127 rfl rfl ?_
            obtain ⟨e390, f391, F392, rfl⟩ := sp359.1 cm_370 31 k379 (by decide)
            obtain ⟨v393, ev393⟩ : ∃ y : Int64, F392 (0 : Int32).toNatClampNeg = y := ⟨_, rfl⟩
            refine tw_lald (v := v393) dX10_country_128 f391 (vp_in_nI (n := 0) (by decide) (by decide)) ev393 ?_
            refine tw_iload_n 4 dX10_country_129 rfl rfl ?_
            refine tw_i2l dX10_country_130 ?_
            refine tw_nml (fun v394 ev394 => ?_)
            refine tw_ladd dX10_country_131 ?_
            refine tw_nml (fun v395 ev395 => ?_)
            refine tw_last dX10_country_132 f391 (vp_in_nI (n := 0) (by decide) (by decide)) ?_
            obtain ⟨h396, eh396⟩ : ∃ z : tw_H, z = tw_up h356 cm_370 (.inl (d.2 1, 2, .inr (.inl (vp_updL F392 (0 : Int32).toNatClampNeg v395)))) := ⟨_, rfl⟩
            rw [← eh396]
            have th397 : tw_th (h396 x) = 0 := by rw [eh396, tw_up_n (tw_nk k313 k379 (by decide))] <;> exact th357
            have oq398 : h396 o = h o := by rw [eh396, tw_up_n (tw_nk k314 k379 (by decide))] <;> exact oq358
            have sp399 : tw_sp d τ h g τ300 h396 := by rw [eh396]; exact sp359.set k379 (by decide) ⟨_, rfl⟩
            have f400 : h396 q288 = some (.inr (11, [.int r, .int ct, .ref v301, .ref o302, .ref t303])) := by rw [eh396, tw_up_n (fun q => absurd (z305) (by rw [q, k379]; decide))]; exact f360
            refine tw_aload_n 1 dX10_country_133 rfl rfl ?_
            obtain ⟨e401, f402, th_403, td_404, ds_405, fr_406, ca_407, us_408, wo_409, cm_410, lc_411, lh_412, ld_413, rfl, k414, k415, k416, k417, k418, k419, k420, k421, k422, k423, k424, k425, k426, k427, k428, k429⟩ := sp399.1 x 36 k313 (by decide)
            refine tw_get (v := .ref cm_410) rfl in_14 8 dX10_country_134 w_1159 rfl (by decide) f402 rfl ?_
            refine tw_iconst (v := 1) dX10_country_137 (by decide) ?_
            refine tw_dup2 dX10_country_138 rfl rfl ?_
            obtain ⟨e430, f431, F432, rfl⟩ := sp399.1 cm_410 31 k419 (by decide)
            obtain ⟨v433, ev433⟩ : ∃ y : Int64, F432 (1 : Int32).toNatClampNeg = y := ⟨_, rfl⟩
            refine tw_lald (v := v433) dX10_country_139 f431 (vp_in_nI (n := 1) (by decide) (by decide)) ev433 ?_
            refine tw_iload 5 dX10_country_140 rfl ?_
            refine tw_i2l dX10_country_142 ?_
            refine tw_nml (fun v434 ev434 => ?_)
            refine tw_ladd dX10_country_143 ?_
            refine tw_nml (fun v435 ev435 => ?_)
            refine tw_last dX10_country_144 f431 (vp_in_nI (n := 1) (by decide) (by decide)) ?_
            obtain ⟨h436, eh436⟩ : ∃ z : tw_H, z = tw_up h396 cm_410 (.inl (d.2 1, 2, .inr (.inl (vp_updL F432 (1 : Int32).toNatClampNeg v435)))) := ⟨_, rfl⟩
            rw [← eh436]
            have th437 : tw_th (h436 x) = 0 := by rw [eh436, tw_up_n (tw_nk k313 k419 (by decide))] <;> exact th397
            have oq438 : h436 o = h o := by rw [eh436, tw_up_n (tw_nk k314 k419 (by decide))] <;> exact oq398
            have sp439 : tw_sp d τ h g τ300 h436 := by rw [eh436]; exact sp399.set k419 (by decide) ⟨_, rfl⟩
            have f440 : h436 q288 = some (.inr (11, [.int r, .int ct, .ref v301, .ref o302, .ref t303])) := by rw [eh436, tw_up_n (fun q => absurd (z305) (by rw [q, k419]; decide))]; exact f400
            refine tw_aload_n 1 dX10_country_145 rfl rfl ?_
            obtain ⟨e441, f442, th_443, td_444, ds_445, fr_446, ca_447, us_448, wo_449, cm_450, lc_451, lh_452, ld_453, rfl, k454, k455, k456, k457, k458, k459, k460, k461, k462, k463, k464, k465, k466, k467, k468, k469⟩ := sp439.1 x 36 k313 (by decide)
            refine tw_get (v := .ref lc_451) rfl in_14 9 dX10_country_146 w_1160 rfl (by decide) f442 rfl ?_
            refine tw_aload 0 dX10_country_149 rfl ?_
            obtain ⟨τ470, eτ470⟩ : ∃ z : tw_K, z = tw_ku τ300 q288 21 := ⟨_, rfl⟩
            have le471 : tw_le τ300 τ470 := by rw [eτ470]; exact tw_ku_le z305
            have k472 : τ470 x = 36 := le471.k k313 (by decide)
            have k473 : τ470 o = 12 := le471.k k314 (by decide)
            have k474 : τ470 ds_197 = 34 := le471.k k315 (by decide)
            have k475 : τ470 fr_198 = 34 := le471.k k316 (by decide)
            have k476 : τ470 ca_199 = 31 := le471.k k317 (by decide)
            have k477 : τ470 us_200 = 31 := le471.k k318 (by decide)
            have k478 : τ470 wo_201 = 31 := le471.k k319 (by decide)
            have k479 : τ470 cm_202 = 31 := le471.k k320 (by decide)
            have k480 : τ470 lc_203 = 24 := le471.k k321 (by decide)
            have k481 : τ470 lh_204 = 25 := le471.k k322 (by decide)
            have k482 : τ470 ld_205 = 26 := le471.k k323 (by decide)
            have k483 : τ470 ds_240 = 34 := le471.k k324 (by decide)
            have k484 : τ470 fr_241 = 34 := le471.k k325 (by decide)
            have k485 : τ470 ca_242 = 31 := le471.k k326 (by decide)
            have k486 : τ470 us_243 = 31 := le471.k k327 (by decide)
            have k487 : τ470 wo_244 = 31 := le471.k k328 (by decide)
            have k488 : τ470 cm_245 = 31 := le471.k k329 (by decide)
            have k489 : τ470 lc_246 = 24 := le471.k k330 (by decide)
            have k490 : τ470 lh_247 = 25 := le471.k k331 (by decide)
            have k491 : τ470 ld_248 = 26 := le471.k k332 (by decide)
            have k492 : τ470 v301 = 31 := le471.k k306 (by decide)
            have k493 : τ470 o302 = 32 := le471.k k307 (by decide)
            have k494 : τ470 t303 = 33 := le471.k k308 (by decide)
            have k495 : τ470 ds_365 = 34 := le471.k k374 (by decide)
            have k496 : τ470 fr_366 = 34 := le471.k k375 (by decide)
            have k497 : τ470 ca_367 = 31 := le471.k k376 (by decide)
            have k498 : τ470 us_368 = 31 := le471.k k377 (by decide)
            have k499 : τ470 wo_369 = 31 := le471.k k378 (by decide)
            have k500 : τ470 cm_370 = 31 := le471.k k379 (by decide)
            have k501 : τ470 lc_371 = 24 := le471.k k380 (by decide)
            have k502 : τ470 lh_372 = 25 := le471.k k381 (by decide)
            have k503 : τ470 ld_373 = 26 := le471.k k382 (by decide)
            have k504 : τ470 ds_405 = 34 := le471.k k414 (by decide)
            have k505 : τ470 fr_406 = 34 := le471.k k415 (by decide)
            have k506 : τ470 ca_407 = 31 := le471.k k416 (by decide)
            have k507 : τ470 us_408 = 31 := le471.k k417 (by decide)
            have k508 : τ470 wo_409 = 31 := le471.k k418 (by decide)
            have k509 : τ470 cm_410 = 31 := le471.k k419 (by decide)
            have k510 : τ470 lc_411 = 24 := le471.k k420 (by decide)
            have k511 : τ470 lh_412 = 25 := le471.k k421 (by decide)
            have k512 : τ470 ld_413 = 26 := le471.k k422 (by decide)
            have k513 : τ470 ds_445 = 34 := le471.k k454 (by decide)
            have k514 : τ470 fr_446 = 34 := le471.k k455 (by decide)
            have k515 : τ470 ca_447 = 31 := le471.k k456 (by decide)
            have k516 : τ470 us_448 = 31 := le471.k k457 (by decide)
            have k517 : τ470 wo_449 = 31 := le471.k k458 (by decide)
            have k518 : τ470 cm_450 = 31 := le471.k k459 (by decide)
            have k519 : τ470 lc_451 = 24 := le471.k k460 (by decide)
            have k520 : τ470 lh_452 = 25 := le471.k k461 (by decide)
            have k521 : τ470 ld_453 = 26 := le471.k k462 (by decide)
            have sp522 : tw_sp d τ h g τ470 h436 := by rw [eτ470]; exact sp439.ty n291 z305 f440 (by rw [← eτ470]; exact ⟨r, ct, v301, o302, t303, rfl, k492, k493, k494, q1a, q1b⟩)
            have k523 : τ470 q288 = 21 := by rw [eτ470]; exact tw_ku_s
            obtain ⟨e524, f525, ⟨el526, rfl, k527⟩, k528⟩ := sp522.1 lc_451 24 k519 (by decide)
            have hb9 : g.2 3 + 1 ≤ 4 := (tw_n4 c273 k463 (by decide))
            rcases k527 with k527p | k527p
            · obtain ⟨pa, pn, pf⟩ := k527p
              subst pa
              have f9 : h436 lc_451 = some (.inr (3, [.int (g.1 3), .ref (d.2 102), .int (nI 0)])) := by have z := f525; rw [pn] at z; exact z
              refine tw_bi (tw_callV (M := mX10_country) (pc := 151) okJx4a65c_add_9ea2d dX10_country_151 w_1238 rfl f525 [.ref q288] [] rfl rfl ⟨by decide, by decide⟩ (Nat.le_of_ble_eq_true rfl) (c_add_new d h436 lc_451 (g.1 3) f9 q288 11 _ _ rfl (ng_11) f440 (by decide)) 5 36 (Nat.le_of_ble_eq_true rfl) (Nat.le_of_ble_eq_true rfl)) (fun r9 h529 q9 => ?_) (fun E h1 q => q.elim)
              obtain ⟨r8, hr8, q1, q2, q3⟩ := q9
              have th530 : tw_th (h529 x) = 0 := by rw [q3 x (tw_nz k472 k519 (by decide)) (tw_thF sp522.1 k472 hr8)]; exact th437
              have oq531 : h529 o = h o := by rw [q3 o (tw_nk k473 k519 (by decide)) (tw_kF sp522.1 k473 (by decide) hr8)] <;> exact oq438
              obtain ⟨g9, τ9, ⟨hga, hg1⟩, sp9⟩ := tw_gadd24 (F := fun _ => none) sp522.1 k519 k523 hb9 (fun j hj => by rw [pn] at hj; exact absurd hj (Nat.not_lt_zero _)) (Or.inr ⟨hr8, pf⟩) (by rw [pn]; exact q1) (by rw [pn]; exact q2) q3
              have sp532 := sp522.tr sp9
              have k533 : τ9 x = 36 := sp9.2.1.k k472 (by decide)
              have k534 : τ9 o = 12 := sp9.2.1.k k473 (by decide)
              have k535 : τ9 ds_197 = 34 := sp9.2.1.k k474 (by decide)
              have k536 : τ9 fr_198 = 34 := sp9.2.1.k k475 (by decide)
              have k537 : τ9 ca_199 = 31 := sp9.2.1.k k476 (by decide)
              have k538 : τ9 us_200 = 31 := sp9.2.1.k k477 (by decide)
              have k539 : τ9 wo_201 = 31 := sp9.2.1.k k478 (by decide)
              have k540 : τ9 cm_202 = 31 := sp9.2.1.k k479 (by decide)
              have k541 : τ9 lc_203 = 24 := sp9.2.1.k k480 (by decide)
              have k542 : τ9 lh_204 = 25 := sp9.2.1.k k481 (by decide)
              have k543 : τ9 ld_205 = 26 := sp9.2.1.k k482 (by decide)
              have k544 : τ9 ds_240 = 34 := sp9.2.1.k k483 (by decide)
              have k545 : τ9 fr_241 = 34 := sp9.2.1.k k484 (by decide)
              have k546 : τ9 ca_242 = 31 := sp9.2.1.k k485 (by decide)
              have k547 : τ9 us_243 = 31 := sp9.2.1.k k486 (by decide)
              have k548 : τ9 wo_244 = 31 := sp9.2.1.k k487 (by decide)
              have k549 : τ9 cm_245 = 31 := sp9.2.1.k k488 (by decide)
              have k550 : τ9 lc_246 = 24 := sp9.2.1.k k489 (by decide)
              have k551 : τ9 lh_247 = 25 := sp9.2.1.k k490 (by decide)
              have k552 : τ9 ld_248 = 26 := sp9.2.1.k k491 (by decide)
              have k553 : τ9 v301 = 31 := sp9.2.1.k k492 (by decide)
              have k554 : τ9 o302 = 32 := sp9.2.1.k k493 (by decide)
              have k555 : τ9 t303 = 33 := sp9.2.1.k k494 (by decide)
              have k556 : τ9 ds_365 = 34 := sp9.2.1.k k495 (by decide)
              have k557 : τ9 fr_366 = 34 := sp9.2.1.k k496 (by decide)
              have k558 : τ9 ca_367 = 31 := sp9.2.1.k k497 (by decide)
              have k559 : τ9 us_368 = 31 := sp9.2.1.k k498 (by decide)
              have k560 : τ9 wo_369 = 31 := sp9.2.1.k k499 (by decide)
              have k561 : τ9 cm_370 = 31 := sp9.2.1.k k500 (by decide)
              have k562 : τ9 lc_371 = 24 := sp9.2.1.k k501 (by decide)
              have k563 : τ9 lh_372 = 25 := sp9.2.1.k k502 (by decide)
              have k564 : τ9 ld_373 = 26 := sp9.2.1.k k503 (by decide)
              have k565 : τ9 ds_405 = 34 := sp9.2.1.k k504 (by decide)
              have k566 : τ9 fr_406 = 34 := sp9.2.1.k k505 (by decide)
              have k567 : τ9 ca_407 = 31 := sp9.2.1.k k506 (by decide)
              have k568 : τ9 us_408 = 31 := sp9.2.1.k k507 (by decide)
              have k569 : τ9 wo_409 = 31 := sp9.2.1.k k508 (by decide)
              have k570 : τ9 cm_410 = 31 := sp9.2.1.k k509 (by decide)
              have k571 : τ9 lc_411 = 24 := sp9.2.1.k k510 (by decide)
              have k572 : τ9 lh_412 = 25 := sp9.2.1.k k511 (by decide)
              have k573 : τ9 ld_413 = 26 := sp9.2.1.k k512 (by decide)
              have k574 : τ9 ds_445 = 34 := sp9.2.1.k k513 (by decide)
              have k575 : τ9 fr_446 = 34 := sp9.2.1.k k514 (by decide)
              have k576 : τ9 ca_447 = 31 := sp9.2.1.k k515 (by decide)
              have k577 : τ9 us_448 = 31 := sp9.2.1.k k516 (by decide)
              have k578 : τ9 wo_449 = 31 := sp9.2.1.k k517 (by decide)
              have k579 : τ9 cm_450 = 31 := sp9.2.1.k k518 (by decide)
              have k580 : τ9 lc_451 = 24 := sp9.2.1.k k519 (by decide)
              have k581 : τ9 lh_452 = 25 := sp9.2.1.k k520 (by decide)
              have k582 : τ9 ld_453 = 26 := sp9.2.1.k k521 (by decide)
              have k583 : τ9 q288 = 21 := sp9.2.1.k k523 (by decide)
              refine tw_pop dX10_country_154 rfl ?_
              refine tw_aload_n 1 dX10_country_155 rfl rfl ?_
              obtain ⟨e584, f585, th_586, td_587, ds_588, fr_589, ca_590, us_591, wo_592, cm_593, lc_594, lh_595, ld_596, rfl, k597, k598, k599, k600, k601, k602, k603, k604, k605, k606, k607, k608, k609, k610, k611, k612⟩ := sp532.1 x 36 k533 (by decide)
              refine tw_get (v := .ref lc_594) rfl in_14 9 dX10_country_156 w_1160 rfl (by decide) f585 rfl ?_
              obtain ⟨e613, f614, ⟨el615, rfl, k616⟩, k617⟩ := sp532.1 lc_594 24 k603 (by decide)
              refine tw_bi (tw_callV (M := mX10_country) (pc := 159) okJx4a65c_size_8abf5 dX10_country_159 w_1208 rfl f614 [] [] rfl rfl ⟨by decide, by decide⟩ (Nat.le_of_ble_eq_true rfl) (c24_size d g9 τ9 h529 sp532.1 lc_594 k603) 5 36 (Nat.le_of_ble_eq_true rfl) (Nat.le_of_ble_eq_true rfl)) (fun r620 h619 q618 => ?_) (fun E h1 q => q.elim)
              obtain ⟨q618e, q618r⟩ := q618
              rw [q618e, q618r]
              refine tw_iconst (v := 1) dX10_country_162 (by decide) ?_
              refine tw_isub dX10_country_163 ?_
              refine tw_nmi (fun v621 ev621 => ?_)
              exact tw_iret dX10_country_164 rfl (Or.inl ⟨_, rfl, _, _, sp532, oq531, Or.inr (Or.inr (⟨⟨⟨q1a, q1b⟩, ⟨q49a, q49b⟩, ⟨q97a, q97b⟩, ⟨q145a, q145b⟩⟩, by omega, by rw [ev621, hg1.1]; exact nI_pred _, th530, hga, hg1⟩))⟩)
            · obtain ⟨e9, fa9, ⟨F9, rfl, hc9, h49⟩, un9⟩ := sp522.1 el526 27 k527p (by decide)
              refine tw_bi (tw_callV (M := mX10_country) (pc := 151) okJx4a65c_add_9ea2d dX10_country_151 w_1238 rfl f525 [.ref q288] [] rfl rfl ⟨by decide, by decide⟩ (Nat.le_of_ble_eq_true rfl) (c_add_old d h436 lc_451 el526 (g.2 3) F9 (g.1 3) (by omega) f525 fa9 q288 11 _ _ rfl (ng_11) f440 (by decide)) 5 36 (Nat.le_of_ble_eq_true rfl) (Nat.le_of_ble_eq_true rfl)) (fun r9 h622 q9 => ?_) (fun E h1 q => q.elim)
              obtain ⟨q1, q2, q3⟩ := q9
              have th623 : tw_th (h622 x) = 0 := by rw [q3 x (tw_nz k472 k519 (by decide)) (tw_nz k472 k527p (by decide))]; exact th437
              have oq624 : h622 o = h o := by rw [q3 o (tw_nk k473 k519 (by decide)) (tw_nk k473 k527p (by decide))] <;> exact oq438
              obtain ⟨g9, τ9, ⟨hga, hg1⟩, sp9⟩ := tw_gadd24 sp522.1 k519 k523 hb9 h49 (Or.inl k527p) q1 q2 q3
              have sp625 := sp522.tr sp9
              have k626 : τ9 x = 36 := sp9.2.1.k k472 (by decide)
              have k627 : τ9 o = 12 := sp9.2.1.k k473 (by decide)
              have k628 : τ9 ds_197 = 34 := sp9.2.1.k k474 (by decide)
              have k629 : τ9 fr_198 = 34 := sp9.2.1.k k475 (by decide)
              have k630 : τ9 ca_199 = 31 := sp9.2.1.k k476 (by decide)
              have k631 : τ9 us_200 = 31 := sp9.2.1.k k477 (by decide)
              have k632 : τ9 wo_201 = 31 := sp9.2.1.k k478 (by decide)
              have k633 : τ9 cm_202 = 31 := sp9.2.1.k k479 (by decide)
              have k634 : τ9 lc_203 = 24 := sp9.2.1.k k480 (by decide)
              have k635 : τ9 lh_204 = 25 := sp9.2.1.k k481 (by decide)
              have k636 : τ9 ld_205 = 26 := sp9.2.1.k k482 (by decide)
              have k637 : τ9 ds_240 = 34 := sp9.2.1.k k483 (by decide)
              have k638 : τ9 fr_241 = 34 := sp9.2.1.k k484 (by decide)
              have k639 : τ9 ca_242 = 31 := sp9.2.1.k k485 (by decide)
              have k640 : τ9 us_243 = 31 := sp9.2.1.k k486 (by decide)
              have k641 : τ9 wo_244 = 31 := sp9.2.1.k k487 (by decide)
              have k642 : τ9 cm_245 = 31 := sp9.2.1.k k488 (by decide)
              have k643 : τ9 lc_246 = 24 := sp9.2.1.k k489 (by decide)
              have k644 : τ9 lh_247 = 25 := sp9.2.1.k k490 (by decide)
              have k645 : τ9 ld_248 = 26 := sp9.2.1.k k491 (by decide)
              have k646 : τ9 v301 = 31 := sp9.2.1.k k492 (by decide)
              have k647 : τ9 o302 = 32 := sp9.2.1.k k493 (by decide)
              have k648 : τ9 t303 = 33 := sp9.2.1.k k494 (by decide)
              have k649 : τ9 ds_365 = 34 := sp9.2.1.k k495 (by decide)
              have k650 : τ9 fr_366 = 34 := sp9.2.1.k k496 (by decide)
              have k651 : τ9 ca_367 = 31 := sp9.2.1.k k497 (by decide)
              have k652 : τ9 us_368 = 31 := sp9.2.1.k k498 (by decide)
              have k653 : τ9 wo_369 = 31 := sp9.2.1.k k499 (by decide)
              have k654 : τ9 cm_370 = 31 := sp9.2.1.k k500 (by decide)
              have k655 : τ9 lc_371 = 24 := sp9.2.1.k k501 (by decide)
              have k656 : τ9 lh_372 = 25 := sp9.2.1.k k502 (by decide)
              have k657 : τ9 ld_373 = 26 := sp9.2.1.k k503 (by decide)
              have k658 : τ9 ds_405 = 34 := sp9.2.1.k k504 (by decide)
              have k659 : τ9 fr_406 = 34 := sp9.2.1.k k505 (by decide)
              have k660 : τ9 ca_407 = 31 := sp9.2.1.k k506 (by decide)
              have k661 : τ9 us_408 = 31 := sp9.2.1.k k507 (by decide)
              have k662 : τ9 wo_409 = 31 := sp9.2.1.k k508 (by decide)
              have k663 : τ9 cm_410 = 31 := sp9.2.1.k k509 (by decide)
              have k664 : τ9 lc_411 = 24 := sp9.2.1.k k510 (by decide)
              have k665 : τ9 lh_412 = 25 := sp9.2.1.k k511 (by decide)
              have k666 : τ9 ld_413 = 26 := sp9.2.1.k k512 (by decide)
              have k667 : τ9 ds_445 = 34 := sp9.2.1.k k513 (by decide)
              have k668 : τ9 fr_446 = 34 := sp9.2.1.k k514 (by decide)
              have k669 : τ9 ca_447 = 31 := sp9.2.1.k k515 (by decide)
              have k670 : τ9 us_448 = 31 := sp9.2.1.k k516 (by decide)
              have k671 : τ9 wo_449 = 31 := sp9.2.1.k k517 (by decide)
              have k672 : τ9 cm_450 = 31 := sp9.2.1.k k518 (by decide)
              have k673 : τ9 lc_451 = 24 := sp9.2.1.k k519 (by decide)
              have k674 : τ9 lh_452 = 25 := sp9.2.1.k k520 (by decide)
              have k675 : τ9 ld_453 = 26 := sp9.2.1.k k521 (by decide)
              have k676 : τ9 q288 = 21 := sp9.2.1.k k523 (by decide)
              refine tw_pop dX10_country_154 rfl ?_
              refine tw_aload_n 1 dX10_country_155 rfl rfl ?_
              obtain ⟨e677, f678, th_679, td_680, ds_681, fr_682, ca_683, us_684, wo_685, cm_686, lc_687, lh_688, ld_689, rfl, k690, k691, k692, k693, k694, k695, k696, k697, k698, k699, k700, k701, k702, k703, k704, k705⟩ := sp625.1 x 36 k626 (by decide)
              refine tw_get (v := .ref lc_687) rfl in_14 9 dX10_country_156 w_1160 rfl (by decide) f678 rfl ?_
              obtain ⟨e706, f707, ⟨el708, rfl, k709⟩, k710⟩ := sp625.1 lc_687 24 k696 (by decide)
              refine tw_bi (tw_callV (M := mX10_country) (pc := 159) okJx4a65c_size_8abf5 dX10_country_159 w_1208 rfl f707 [] [] rfl rfl ⟨by decide, by decide⟩ (Nat.le_of_ble_eq_true rfl) (c24_size d g9 τ9 h622 sp625.1 lc_687 k696) 5 36 (Nat.le_of_ble_eq_true rfl) (Nat.le_of_ble_eq_true rfl)) (fun r713 h712 q711 => ?_) (fun E h1 q => q.elim)
              obtain ⟨q711e, q711r⟩ := q711
              rw [q711e, q711r]
              refine tw_iconst (v := 1) dX10_country_162 (by decide) ?_
              refine tw_isub dX10_country_163 ?_
              refine tw_nmi (fun v714 ev714 => ?_)
              exact tw_iret dX10_country_164 rfl (Or.inl ⟨_, rfl, _, _, sp625, oq624, Or.inr (Or.inr (⟨⟨⟨q1a, q1b⟩, ⟨q49a, q49b⟩, ⟨q97a, q97b⟩, ⟨q145a, q145b⟩⟩, by omega, by rw [ev714, hg1.1]; exact nI_pred _, th623, hga, hg1⟩))⟩)
          · refine tw_iconst (v := 1) dX10_country_68 (by decide) ?_
            refine tw_goto 73 dX10_country_69 (by decide) ?_
            refine tw_iconst (v := 2) dX10_country_73 (by decide) ?_
            refine tw_bi (tw_callV (M := mX10_country) (pc := 74) okX10_refuse dX10_country_74 w_1204 rfl f237 [.int 1, .int 2] [] rfl rfl ⟨by decide, by decide⟩ (Nat.le_of_ble_eq_true rfl) (c_X10_refuse d g τ h223 sp233.1 x kx 1 2 (by decide)) 10 60 (Nat.le_of_ble_eq_true rfl) (Nat.le_of_ble_eq_true rfl)) (fun r717 h716 q715 => ?_) (fun E h1 q => q.elim)
            obtain ⟨e718, he719, hs720, hr721, hc722⟩ := q715
            obtain ⟨rz723, tz724⟩ := (hc722 th232).2 rfl
            have th725 : tw_th (h716 x) = 2 := by rw [he719, tw_up_s]; exact tz724
            have sp726 : tw_sp d τ h g τ h716 := by rw [he719]; exact sp233.set kx (by decide) hs720
            rw [rz723]
            have oq727 : h716 o = h o := by rw [he719, tw_up_n (tw_nk ko kx (by decide))] <;> exact oq234
            refine tw_if_eq 82 dX10_country_77 (by decide) (fun c728 => absurd c728 (by decide)) (fun _ => ?_)
            refine tw_iconst (v := 0) dX10_country_80 (by decide) ?_
            exact tw_iret dX10_country_81 rfl (Or.inl ⟨_, rfl, _, _, sp726, oq727, Or.inr (Or.inl ⟨⟨⟨q1a, q1b⟩, ⟨q49a, q49b⟩, ⟨q97a, q97b⟩, ⟨q145a, q145b⟩⟩, fun z => absurd (tw_nIj (a := g.2 3) (b := 4) c273 (by omega) (by decide)) (by omega), th725, rfl⟩)⟩)

set_option maxHeartbeats 4000000 in
set_option maxRecDepth 100000 in
theorem c2_X10_house (d : tw_D) (g : tw_G) (τ : tw_K) (h : tw_H) (hw : tw_wt d g τ h) (x : Nat) (kx : τ x = 36) (a : Int32) (go : Int32) (si : Int32) (o : Nat) (ko : τ o = 12) : tw_Ct d mX10_house 10 60 [.ref x, .int a, .int go, .int si] h (tw_qi (fun r9 h1 => ∃ g1 τ1, tw_sp d τ h g1 τ1 h1 ∧ h1 o = h o ∧ ((¬ tw_ix (g.2 3) a ∧ tw_th (h1 x) = 1 ∧ g1 = g) ∨ (tw_ix (g.2 3) a ∧ ¬ tw_RH go si ∧ tw_th (h1 x) = 2 ∧ g1 = g) ∨ (tw_ix (g.2 3) a ∧ tw_RH go si ∧ ¬ g.2 4 < 6 ∧ tw_th (h1 x) = 3 ∧ g1 = g) ∨ (tw_ix (g.2 3) a ∧ tw_RH go si ∧ g.2 4 < 6 ∧ r9 = nI (g.2 4) ∧ tw_th (h1 x) = 0 ∧ tw_gk 4 g g1))) tw_nx) := by
  refine tw_of (by decide +kernel) (Nat.le_of_ble_eq_true rfl) ?_
  show tw_W d mX10_house _ 0 [(0, .ref x), (1, .int a), (2, .int go), (3, .int si)] [] h 10 60
  have sp0 := tw_sp.rf hw
  have oq0 : h o = h o := rfl
  refine tw_aload_n 0 dX10_house_0 rfl rfl ?_
  refine tw_aload_n 0 dX10_house_1 rfl rfl ?_
  refine tw_iload_n 1 dX10_house_2 rfl rfl ?_
  obtain ⟨e1, f2, th_3, td_4, ds_5, fr_6, ca_7, us_8, wo_9, cm_10, lc_11, lh_12, ld_13, rfl, k14, k15, k16, k17, k18, k19, k20, k21, k22, k23, k24, k25, k26, k27, k28, k29⟩ := sp0.1 x 36 kx (by decide)
  refine tw_bi (tw_callV (M := mX10_house) (pc := 3) okX10_isNoCountry dX10_house_3 w_1292 rfl f2 [.int a] [.ref x] rfl rfl ⟨by decide, by decide⟩ (Nat.le_of_ble_eq_true rfl) (c2_X10_isNoCountry d g τ h sp0.1 x kx a) 10 60 (Nat.le_of_ble_eq_true rfl) (Nat.le_of_ble_eq_true rfl)) (fun r32 h31 q30 => ?_) (fun E h1 q => q.elim)
  obtain ⟨q30e, q30d⟩ := q30
  rw [q30e]
  rcases q30d with ⟨q30r, q30n⟩ | ⟨q30r, q30i⟩
  · rw [q30r]
    refine tw_iconst (v := 1) dX10_house_6 (by decide) ?_
    refine tw_bi (tw_callV (M := mX10_house) (pc := 7) okX10_start dX10_house_7 w_1200 rfl f2 [.int 1, .int 1] [] rfl rfl ⟨by decide, by decide⟩ (Nat.le_of_ble_eq_true rfl) (c_X10_start d g τ h sp0.1 x kx 1 1 (by decide)) 10 60 (Nat.le_of_ble_eq_true rfl) (Nat.le_of_ble_eq_true rfl)) (fun r36 h35 q34 => ?_) (fun E h1 q => q.elim)
    obtain ⟨e37, he38, hs39, hr40, hc41⟩ := q34
    obtain ⟨rz42, tz43⟩ := hc41.2 rfl
    have th44 : tw_th (h35 x) = 1 := by rw [he38, tw_up_s]; exact tz43
    have sp45 : tw_sp d τ h g τ h35 := by rw [he38]; exact sp0.set kx (by decide) hs39
    rw [rz42]
    have oq46 : h35 o = h o := by rw [he38, tw_up_n (tw_nk ko kx (by decide))] <;> exact oq0
    refine tw_if_ne 71 dX10_house_10 (by decide) (fun _ => ?_) (fun c47 => absurd c47 (by decide))
    refine tw_iconst (v := 0) dX10_house_71 (by decide) ?_
    exact tw_iret dX10_house_72 rfl (Or.inl ⟨_, rfl, _, _, sp45, oq46, Or.inl ⟨q30n, th44, rfl⟩⟩)
  · rw [q30r]
    have q30x := q30i
    obtain ⟨j33, q30j, q30k⟩ := q30i
    subst q30k
    have ix0 := q30x
    refine tw_iconst (v := 1) dX10_house_6 (by decide) ?_
    refine tw_bi (tw_callV (M := mX10_house) (pc := 7) okX10_start dX10_house_7 w_1200 rfl f2 [.int 0, .int 1] [] rfl rfl ⟨by decide, by decide⟩ (Nat.le_of_ble_eq_true rfl) (c_X10_start d g τ h sp0.1 x kx 0 1 (by decide)) 10 60 (Nat.le_of_ble_eq_true rfl) (Nat.le_of_ble_eq_true rfl)) (fun r50 h49 q48 => ?_) (fun E h1 q => q.elim)
    obtain ⟨e51, he52, hs53, hr54, hc55⟩ := q48
    obtain ⟨rz56, tz57⟩ := hc55.1 rfl
    have th58 : tw_th (h49 x) = 0 := by rw [he52, tw_up_s]; exact tz57
    have sp59 : tw_sp d τ h g τ h49 := by rw [he52]; exact sp0.set kx (by decide) hs53
    rw [rz56]
    have oq60 : h49 o = h o := by rw [he52, tw_up_n (tw_nk ko kx (by decide))] <;> exact oq0
    refine tw_if_ne 71 dX10_house_10 (by decide) (fun c61 => absurd (by decide) c61) (fun _ => ?_)
    refine tw_aload_n 0 dX10_house_13 rfl rfl ?_
    refine tw_iload_n 2 dX10_house_14 rfl rfl ?_
    refine tw_iconst (v := 0) dX10_house_15 (by decide) ?_
    refine tw_ldc (v := 99999) dX10_house_16 w_1199 ?_
    refine tw_bi (tw_callS (M := mX10_house) (pc := 18) okX10_isIn dX10_house_18 w_1196 [.int go, .int 0, .int 99999] [.ref x] rfl rfl ⟨by decide, by decide⟩ (Nat.le_of_ble_eq_true rfl) (c_X10_isIn d g τ h49 sp59.1 go 0 99999) 10 60 (Nat.le_of_ble_eq_true rfl) (Nat.le_of_ble_eq_true rfl)) (fun r64 h63 q62 => ?_) (fun E h1 q => q.elim)
    obtain ⟨q62e, q62d⟩ := q62
    rw [q62e]
    rcases q62d with ⟨q62r, q62n⟩ | ⟨q62r, q62a, q62b⟩
    · rw [q62r]
      refine tw_if_eq 34 dX10_house_21 (by decide) (fun _ => ?_) (fun c65 => absurd (by decide) c65)
      refine tw_iconst (v := 1) dX10_house_34 (by decide) ?_
      refine tw_goto 39 dX10_house_35 (by decide) ?_
      refine tw_iconst (v := 2) dX10_house_39 (by decide) ?_
      obtain ⟨e66, f67, th_68, td_69, ds_70, fr_71, ca_72, us_73, wo_74, cm_75, lc_76, lh_77, ld_78, rfl, k79, k80, k81, k82, k83, k84, k85, k86, k87, k88, k89, k90, k91, k92, k93, k94⟩ := sp59.1 x 36 kx (by decide)
      refine tw_bi (tw_callV (M := mX10_house) (pc := 40) okX10_refuse dX10_house_40 w_1204 rfl f67 [.int 1, .int 2] [] rfl rfl ⟨by decide, by decide⟩ (Nat.le_of_ble_eq_true rfl) (c_X10_refuse d g τ h49 sp59.1 x kx 1 2 (by decide)) 10 60 (Nat.le_of_ble_eq_true rfl) (Nat.le_of_ble_eq_true rfl)) (fun r97 h96 q95 => ?_) (fun E h1 q => q.elim)
      obtain ⟨e98, he99, hs100, hr101, hc102⟩ := q95
      obtain ⟨rz103, tz104⟩ := (hc102 th58).2 rfl
      have th105 : tw_th (h96 x) = 2 := by rw [he99, tw_up_s]; exact tz104
      have sp106 : tw_sp d τ h g τ h96 := by rw [he99]; exact sp59.set kx (by decide) hs100
      rw [rz103]
      have oq107 : h96 o = h o := by rw [he99, tw_up_n (tw_nk ko kx (by decide))] <;> exact oq60
      refine tw_if_ne 71 dX10_house_43 (by decide) (fun _ => ?_) (fun c108 => absurd c108 (by decide))
      refine tw_iconst (v := 0) dX10_house_71 (by decide) ?_
      exact tw_iret dX10_house_72 rfl (Or.inl ⟨_, rfl, _, _, sp106, oq107, Or.inr (Or.inl ⟨ix0, fun z => q62n z.1, th105, rfl⟩)⟩)
    · rw [q62r]
      refine tw_if_eq 34 dX10_house_21 (by decide) (fun c109 => absurd c109 (by decide)) (fun _ => ?_)
      refine tw_iload_n 3 dX10_house_24 rfl rfl ?_
      refine tw_iconst (v := 0) dX10_house_25 (by decide) ?_
      refine tw_ldc (v := 99999) dX10_house_26 w_1199 ?_
      refine tw_bi (tw_callS (M := mX10_house) (pc := 28) okX10_isIn dX10_house_28 w_1196 [.int si, .int 0, .int 99999] [.ref x] rfl rfl ⟨by decide, by decide⟩ (Nat.le_of_ble_eq_true rfl) (c_X10_isIn d g τ h49 sp59.1 si 0 99999) 10 60 (Nat.le_of_ble_eq_true rfl) (Nat.le_of_ble_eq_true rfl)) (fun r112 h111 q110 => ?_) (fun E h1 q => q.elim)
      obtain ⟨q110e, q110d⟩ := q110
      rw [q110e]
      rcases q110d with ⟨q110r, q110n⟩ | ⟨q110r, q110a, q110b⟩
      · rw [q110r]
        refine tw_if_ne 38 dX10_house_31 (by decide) (fun c113 => absurd (by decide) c113) (fun _ => ?_)
        refine tw_iconst (v := 1) dX10_house_34 (by decide) ?_
        refine tw_goto 39 dX10_house_35 (by decide) ?_
        refine tw_iconst (v := 2) dX10_house_39 (by decide) ?_
        obtain ⟨e114, f115, th_116, td_117, ds_118, fr_119, ca_120, us_121, wo_122, cm_123, lc_124, lh_125, ld_126, rfl, k127, k128, k129, k130, k131, k132, k133, k134, k135, k136, k137, k138, k139, k140, k141, k142⟩ := sp59.1 x 36 kx (by decide)
        refine tw_bi (tw_callV (M := mX10_house) (pc := 40) okX10_refuse dX10_house_40 w_1204 rfl f115 [.int 1, .int 2] [] rfl rfl ⟨by decide, by decide⟩ (Nat.le_of_ble_eq_true rfl) (c_X10_refuse d g τ h49 sp59.1 x kx 1 2 (by decide)) 10 60 (Nat.le_of_ble_eq_true rfl) (Nat.le_of_ble_eq_true rfl)) (fun r145 h144 q143 => ?_) (fun E h1 q => q.elim)
        obtain ⟨e146, he147, hs148, hr149, hc150⟩ := q143
        obtain ⟨rz151, tz152⟩ := (hc150 th58).2 rfl
        have th153 : tw_th (h144 x) = 2 := by rw [he147, tw_up_s]; exact tz152
        have sp154 : tw_sp d τ h g τ h144 := by rw [he147]; exact sp59.set kx (by decide) hs148
        rw [rz151]
        have oq155 : h144 o = h o := by rw [he147, tw_up_n (tw_nk ko kx (by decide))] <;> exact oq60
        refine tw_if_ne 71 dX10_house_43 (by decide) (fun _ => ?_) (fun c156 => absurd c156 (by decide))
        refine tw_iconst (v := 0) dX10_house_71 (by decide) ?_
        exact tw_iret dX10_house_72 rfl (Or.inl ⟨_, rfl, _, _, sp154, oq155, Or.inr (Or.inl ⟨ix0, fun z => q110n z.2, th153, rfl⟩)⟩)
      · rw [q110r]
        refine tw_if_ne 38 dX10_house_31 (by decide) (fun _ => ?_) (fun c157 => absurd c157 (by decide))
        refine tw_iconst (v := 0) dX10_house_38 (by decide) ?_
        refine tw_iconst (v := 2) dX10_house_39 (by decide) ?_
        obtain ⟨e158, f159, th_160, td_161, ds_162, fr_163, ca_164, us_165, wo_166, cm_167, lc_168, lh_169, ld_170, rfl, k171, k172, k173, k174, k175, k176, k177, k178, k179, k180, k181, k182, k183, k184, k185, k186⟩ := sp59.1 x 36 kx (by decide)
        refine tw_bi (tw_callV (M := mX10_house) (pc := 40) okX10_refuse dX10_house_40 w_1204 rfl f159 [.int 0, .int 2] [] rfl rfl ⟨by decide, by decide⟩ (Nat.le_of_ble_eq_true rfl) (c_X10_refuse d g τ h49 sp59.1 x kx 0 2 (by decide)) 10 60 (Nat.le_of_ble_eq_true rfl) (Nat.le_of_ble_eq_true rfl)) (fun r189 h188 q187 => ?_) (fun E h1 q => q.elim)
        obtain ⟨e190, he191, hs192, hr193, hc194⟩ := q187
        obtain ⟨rz195, tz196⟩ := (hc194 th58).1 rfl
        have th197 : tw_th (h188 x) = 0 := by rw [he191, tw_up_s]; exact tz196
        have sp198 : tw_sp d τ h g τ h188 := by rw [he191]; exact sp59.set kx (by decide) hs192
        rw [rz195]
        have oq199 : h188 o = h o := by rw [he191, tw_up_n (tw_nk ko kx (by decide))] <;> exact oq60
        refine tw_if_ne 71 dX10_house_43 (by decide) (fun c200 => absurd (by decide) c200) (fun _ => ?_)
        refine tw_aload_n 0 dX10_house_46 rfl rfl ?_
        refine tw_aload_n 0 dX10_house_47 rfl rfl ?_
        obtain ⟨e201, f202, th_203, td_204, ds_205, fr_206, ca_207, us_208, wo_209, cm_210, lc_211, lh_212, ld_213, rfl, k214, k215, k216, k217, k218, k219, k220, k221, k222, k223, k224, k225, k226, k227, k228, k229⟩ := sp198.1 x 36 kx (by decide)
        refine tw_get (v := .ref lh_212) rfl in_14 10 dX10_house_48 w_1161 rfl (by decide) f202 rfl ?_
        obtain ⟨e230, f231, ⟨el232, rfl, k233⟩, k234⟩ := sp198.1 lh_212 25 k221 (by decide)
        refine tw_bi (tw_callV (M := mX10_house) (pc := 51) okJx4a65c_size_8abf5 dX10_house_51 w_1208 rfl f231 [] [.ref x] rfl rfl ⟨by decide, by decide⟩ (Nat.le_of_ble_eq_true rfl) (c25_size d g τ h188 sp198.1 lh_212 k221) 10 60 (Nat.le_of_ble_eq_true rfl) (Nat.le_of_ble_eq_true rfl)) (fun r237 h236 q235 => ?_) (fun E h1 q => q.elim)
        obtain ⟨q235e, q235r⟩ := q235
        rw [q235e, q235r]
        refine tw_bipush (v := 6) dX10_house_54 (by decide) ?_
        refine tw_icmp_ne 63 dX10_house_56 (by decide) (fun c238 => ?_) (fun c238 => ?_)
        · refine tw_iconst (v := 0) dX10_house_63 (by decide) ?_
          refine tw_iconst (v := 3) dX10_house_64 (by decide) ?_
          refine tw_bi (tw_callV (M := mX10_house) (pc := 65) okX10_refuse dX10_house_65 w_1204 rfl f202 [.int 0, .int 3] [] rfl rfl ⟨by decide, by decide⟩ (Nat.le_of_ble_eq_true rfl) (c_X10_refuse d g τ h188 sp198.1 x kx 0 3 (by decide)) 10 60 (Nat.le_of_ble_eq_true rfl) (Nat.le_of_ble_eq_true rfl)) (fun r241 h240 q239 => ?_) (fun E h1 q => q.elim)
          obtain ⟨e242, he243, hs244, hr245, hc246⟩ := q239
          obtain ⟨rz247, tz248⟩ := (hc246 th197).1 rfl
          have th249 : tw_th (h240 x) = 0 := by rw [he243, tw_up_s]; exact tz248
          have sp250 : tw_sp d τ h g τ h240 := by rw [he243]; exact sp198.set kx (by decide) hs244
          rw [rz247]
          have oq251 : h240 o = h o := by rw [he243, tw_up_n (tw_nk ko kx (by decide))] <;> exact oq199
          refine tw_if_eq 73 dX10_house_68 (by decide) (fun _ => ?_) (fun c252 => absurd (by decide) c252)
          refine tw_new (ci := 13) rfl in_13 tyX9 tyX9_ok dX10_house_73 w_1336 w_1337 w_100 (fs := [.int 0, .int 0, .int 0, .null]) (fun j hj => by rcases (show j = 0 ∨ j = 1 ∨ j = 2 ∨ j = 3 by omega) with rfl | rfl | rfl | rfl <;> rfl) 9 56 (Nat.le_of_ble_eq_true rfl) (Nat.le_of_ble_eq_true rfl) (fun q253 hq254 hA255 => ?_)
          have n256 := sp250.nn hq254
          have z257 := sp250.1.none hq254
          obtain ⟨h258, eh258⟩ : ∃ z : tw_H, z = tw_up h240 q253 (.inr (13, [.int 0, .int 0, .int 0, .null])) := ⟨_, rfl⟩
          rw [← eh258]
          have th259 : tw_th (h258 x) = 0 := by rw [eh258, tw_up_n (tw_kF sp250.1 kx (by decide) hq254)] <;> exact th249
          have oq260 : h258 o = h o := by rw [eh258, tw_up_n (tw_kF sp250.1 ko (by decide) hq254)] <;> exact oq251
          have sp261 : tw_sp d τ h g τ h258 := by rw [eh258]; exact sp250.mk hq254
          have f262 : h258 q253 = some (.inr (13, [.int 0, .int 0, .int 0, .null])) := by rw [eh258]; exact tw_up_s
          refine tw_dup dX10_house_76 rfl ?_
          refine tw_bv (tw_callIN (M := mX10_house) (pc := 77) okX9_init dX10_house_77 w_1338 rfl [] [.ref q253] rfl rfl ⟨by decide, by decide⟩ (Nat.le_of_ble_eq_true rfl) (c2_X9_init d g τ h258 sp261.1 q253 z257 f262) 8 54 (Nat.le_of_ble_eq_true rfl) (Nat.le_of_ble_eq_true rfl)) (fun h264 q263 => ?_) (fun E h1 q => q.elim)
          obtain ⟨τ265, p266, q263s, f267, z268, k269, fr271⟩ := q263
          have th272 : tw_th (h264 x) = 0 := by rw [fr271 x (tw_nz kx z257 (by decide)) (fun z => by obtain ⟨e, y, -⟩ := sp261.1 x 36 kx (by decide); rw [z] at y; cases y)]; exact th259
          have oq273 : h264 o = h o := by rw [fr271 o (tw_nk ko z257 (by decide)) (tw_some sp261.1 ko (by decide))] <;> exact oq260
          have sp270 := sp261.trm n256 q263s
          have k274 : τ265 x = 36 := q263s.2.1.k kx (by decide)
          have k275 : τ265 o = 12 := q263s.2.1.k ko (by decide)
          have k276 : τ265 ds_5 = 34 := q263s.2.1.k k14 (by decide)
          have k277 : τ265 fr_6 = 34 := q263s.2.1.k k15 (by decide)
          have k278 : τ265 ca_7 = 31 := q263s.2.1.k k16 (by decide)
          have k279 : τ265 us_8 = 31 := q263s.2.1.k k17 (by decide)
          have k280 : τ265 wo_9 = 31 := q263s.2.1.k k18 (by decide)
          have k281 : τ265 cm_10 = 31 := q263s.2.1.k k19 (by decide)
          have k282 : τ265 lc_11 = 24 := q263s.2.1.k k20 (by decide)
          have k283 : τ265 lh_12 = 25 := q263s.2.1.k k21 (by decide)
          have k284 : τ265 ld_13 = 26 := q263s.2.1.k k22 (by decide)
          have k285 : τ265 ds_162 = 34 := q263s.2.1.k k171 (by decide)
          have k286 : τ265 fr_163 = 34 := q263s.2.1.k k172 (by decide)
          have k287 : τ265 ca_164 = 31 := q263s.2.1.k k173 (by decide)
          have k288 : τ265 us_165 = 31 := q263s.2.1.k k174 (by decide)
          have k289 : τ265 wo_166 = 31 := q263s.2.1.k k175 (by decide)
          have k290 : τ265 cm_167 = 31 := q263s.2.1.k k176 (by decide)
          have k291 : τ265 lc_168 = 24 := q263s.2.1.k k177 (by decide)
          have k292 : τ265 lh_169 = 25 := q263s.2.1.k k178 (by decide)
          have k293 : τ265 ld_170 = 26 := q263s.2.1.k k179 (by decide)
          have k294 : τ265 ds_205 = 34 := q263s.2.1.k k214 (by decide)
          have k295 : τ265 fr_206 = 34 := q263s.2.1.k k215 (by decide)
          have k296 : τ265 ca_207 = 31 := q263s.2.1.k k216 (by decide)
          have k297 : τ265 us_208 = 31 := q263s.2.1.k k217 (by decide)
          have k298 : τ265 wo_209 = 31 := q263s.2.1.k k218 (by decide)
          have k299 : τ265 cm_210 = 31 := q263s.2.1.k k219 (by decide)
          have k300 : τ265 lc_211 = 24 := q263s.2.1.k k220 (by decide)
          have k301 : τ265 lh_212 = 25 := q263s.2.1.k k221 (by decide)
          have k302 : τ265 ld_213 = 26 := q263s.2.1.k k222 (by decide)
          refine tw_astore [(4, .ref q253), (0, .ref x), (1, .int (nI j33)), (2, .int go), (3, .int si)] dX10_house_80 (by decide) rfl ?_
          refine tw_aload 0 dX10_house_82 rfl ?_
          refine tw_iload_n 2 dX10_house_84 rfl rfl ?_
          refine tw_put rfl in_13 tyX9 tyX9_ok nmX9 0 dX10_house_85 w_1342 rfl (by decide) f267 rfl rfl rfl rfl (Nat.le_of_ble_eq_true rfl) [.int (nI j33), .int (-1), .int (-1), .ref p266] rfl ?_
          obtain ⟨h303, eh303⟩ : ∃ z : tw_H, z = tw_up h264 q253 (.inr (13, [.int (nI j33), .int (-1), .int (-1), .ref p266])) := ⟨_, rfl⟩
          rw [← eh303]
          have th304 : tw_th (h303 x) = 0 := by rw [eh303, tw_up_n (tw_nk k274 z268 (by decide))] <;> exact th272
          have oq305 : h303 o = h o := by rw [eh303, tw_up_n (tw_nk k275 z268 (by decide))] <;> exact oq273
          have sp306 : tw_sp d τ h g τ265 h303 := by rw [eh303]; exact sp270.wl n256 z268
          have f307 : h303 q253 = some (.inr (13, [.int (nI j33), .int (-1), .int (-1), .ref p266])) := by rw [eh303]; exact tw_up_s
          refine tw_aload 0 dX10_house_88 rfl ?_
          refine tw_get (v := .ref p266) rfl in_13 3 dX10_house_90 w_1348 rfl (by decide) f307 rfl ?_
          refine tw_iconst (v := 0) dX10_house_93 (by decide) ?_
          refine tw_iload_n 3 dX10_house_94 rfl rfl ?_
          refine tw_i2l dX10_house_95 ?_
          refine tw_nml (fun v308 ev308 => ?_)
          obtain ⟨e309, f310, F311, rfl⟩ := sp306.1 p266 31 k269 (by decide)
          refine tw_last dX10_house_96 f310 (vp_in_nI (n := 0) (by decide) (by decide)) ?_
          obtain ⟨h312, eh312⟩ : ∃ z : tw_H, z = tw_up h303 p266 (.inl (d.2 1, 2, .inr (.inl (vp_updL F311 (0 : Int32).toNatClampNeg v308)))) := ⟨_, rfl⟩
          rw [← eh312]
          have th313 : tw_th (h312 x) = 0 := by rw [eh312, tw_up_n (tw_nk k274 k269 (by decide))] <;> exact th304
          have oq314 : h312 o = h o := by rw [eh312, tw_up_n (tw_nk k275 k269 (by decide))] <;> exact oq305
          have sp315 : tw_sp d τ h g τ265 h312 := by rw [eh312]; exact sp306.set k269 (by decide) ⟨_, rfl⟩
          have f316 : h312 q253 = some (.inr (13, [.int (nI j33), .int (-1), .int (-1), .ref p266])) := by rw [eh312, tw_up_n (fun q => absurd (z268) (by rw [q, k269]; decide))]; exact f307
          refine tw_aload 0 dX10_house_97 rfl ?_
          refine tw_get (v := .ref p266) rfl in_13 3 dX10_house_99 w_1348 rfl (by decide) f316 rfl ?_
          refine tw_iconst (v := 1) dX10_house_102 (by decide) ?_
          refine tw_iload_n 4 dX10_house_103 rfl rfl ?_
          refine tw_i2l dX10_house_104 ?_
          refine tw_nml (fun v317 ev317 => ?_)
          obtain ⟨e318, f319, F320, rfl⟩ := sp315.1 p266 31 k269 (by decide)
          refine tw_last dX10_house_105 f319 (vp_in_nI (n := 1) (by decide) (by decide)) ?_
          obtain ⟨h321, eh321⟩ : ∃ z : tw_H, z = tw_up h312 p266 (.inl (d.2 1, 2, .inr (.inl (vp_updL F320 (1 : Int32).toNatClampNeg v317)))) := ⟨_, rfl⟩
          rw [← eh321]
          have th322 : tw_th (h321 x) = 0 := by rw [eh321, tw_up_n (tw_nk k274 k269 (by decide))] <;> exact th313
          have oq323 : h321 o = h o := by rw [eh321, tw_up_n (tw_nk k275 k269 (by decide))] <;> exact oq314
          have sp324 : tw_sp d τ h g τ265 h321 := by rw [eh321]; exact sp315.set k269 (by decide) ⟨_, rfl⟩
          have f325 : h321 q253 = some (.inr (13, [.int (nI j33), .int (-1), .int (-1), .ref p266])) := by rw [eh321, tw_up_n (fun q => absurd (z268) (by rw [q, k269]; decide))]; exact f316
          refine tw_aload_n 1 dX10_house_106 rfl rfl ?_
          obtain ⟨e326, f327, th_328, td_329, ds_330, fr_331, ca_332, us_333, wo_334, cm_335, lc_336, lh_337, ld_338, rfl, k339, k340, k341, k342, k343, k344, k345, k346, k347, k348, k349, k350, k351, k352, k353, k354⟩ := sp324.1 x 36 k274 (by decide)
          refine tw_get (v := .ref cm_335) rfl in_14 8 dX10_house_107 w_1159 rfl (by decide) f327 rfl ?_
          refine tw_iconst (v := 0) dX10_house_110 (by decide) ?_
          refine tw_dup2 dX10_house_111 rfl rfl ?_
          obtain ⟨e355, f356, F357, rfl⟩ := sp324.1 cm_335 31 k344 (by decide)
          obtain ⟨v358, ev358⟩ : ∃ y : Int64, F357 (0 : Int32).toNatClampNeg = y := ⟨_, rfl⟩
          refine tw_lald (v := v358) dX10_house_112 f356 (vp_in_nI (n := 0) (by decide) (by decide)) ev358 ?_
          refine tw_iload_n 3 dX10_house_113 rfl rfl ?_
          refine tw_i2l dX10_house_114 ?_
          refine tw_nml (fun v359 ev359 => ?_)
          refine tw_ladd dX10_house_115 ?_
          refine tw_nml (fun v360 ev360 => ?_)
          refine tw_last dX10_house_116 f356 (vp_in_nI (n := 0) (by decide) (by decide)) ?_
          obtain ⟨h361, eh361⟩ : ∃ z : tw_H, z = tw_up h321 cm_335 (.inl (d.2 1, 2, .inr (.inl (vp_updL F357 (0 : Int32).toNatClampNeg v360)))) := ⟨_, rfl⟩
          rw [← eh361]
          have th362 : tw_th (h361 x) = 0 := by rw [eh361, tw_up_n (tw_nk k274 k344 (by decide))] <;> exact th322
          have oq363 : h361 o = h o := by rw [eh361, tw_up_n (tw_nk k275 k344 (by decide))] <;> exact oq323
          have sp364 : tw_sp d τ h g τ265 h361 := by rw [eh361]; exact sp324.set k344 (by decide) ⟨_, rfl⟩
          have f365 : h361 q253 = some (.inr (13, [.int (nI j33), .int (-1), .int (-1), .ref p266])) := by rw [eh361, tw_up_n (fun q => absurd (z268) (by rw [q, k344]; decide))]; exact f325
          refine tw_aload_n 1 dX10_house_117 rfl rfl ?_
          obtain ⟨e366, f367, th_368, td_369, ds_370, fr_371, ca_372, us_373, wo_374, cm_375, lc_376, lh_377, ld_378, rfl, k379, k380, k381, k382, k383, k384, k385, k386, k387, k388, k389, k390, k391, k392, k393, k394⟩ := sp364.1 x 36 k274 (by decide)
          refine tw_get (v := .ref cm_375) rfl in_14 8 dX10_house_118 w_1159 rfl (by decide) f367 rfl ?_
          refine tw_iconst (v := 1) dX10_house_121 (by decide) ?_
          refine tw_dup2 dX10_house_122 rfl rfl ?_
          obtain ⟨e395, f396, F397, rfl⟩ := sp364.1 cm_375 31 k384 (by decide)
          obtain ⟨v398, ev398⟩ : ∃ y : Int64, F397 (1 : Int32).toNatClampNeg = y := ⟨_, rfl⟩
          refine tw_lald (v := v398) dX10_house_123 f396 (vp_in_nI (n := 1) (by decide) (by decide)) ev398 ?_
          refine tw_iload_n 4 dX10_house_124 rfl rfl ?_
          refine tw_i2l dX10_house_125 ?_
          refine tw_nml (fun v399 ev399 => ?_)
          refine tw_ladd dX10_house_126 ?_
          refine tw_nml (fun v400 ev400 => ?_)
          refine tw_last dX10_house_127 f396 (vp_in_nI (n := 1) (by decide) (by decide)) ?_
          obtain ⟨h401, eh401⟩ : ∃ z : tw_H, z = tw_up h361 cm_375 (.inl (d.2 1, 2, .inr (.inl (vp_updL F397 (1 : Int32).toNatClampNeg v400)))) := ⟨_, rfl⟩
          rw [← eh401]
          have th402 : tw_th (h401 x) = 0 := by rw [eh401, tw_up_n (tw_nk k274 k384 (by decide))] <;> exact th362
          have oq403 : h401 o = h o := by rw [eh401, tw_up_n (tw_nk k275 k384 (by decide))] <;> exact oq363
          have sp404 : tw_sp d τ h g τ265 h401 := by rw [eh401]; exact sp364.set k384 (by decide) ⟨_, rfl⟩
          have f405 : h401 q253 = some (.inr (13, [.int (nI j33), .int (-1), .int (-1), .ref p266])) := by rw [eh401, tw_up_n (fun q => absurd (z268) (by rw [q, k384]; decide))]; exact f365
          refine tw_aload_n 1 dX10_house_128 rfl rfl ?_
          obtain ⟨e406, f407, th_408, td_409, ds_410, fr_411, ca_412, us_413, wo_414, cm_415, lc_416, lh_417, ld_418, rfl, k419, k420, k421, k422, k423, k424, k425, k426, k427, k428, k429, k430, k431, k432, k433, k434⟩ := sp404.1 x 36 k274 (by decide)
          refine tw_get (v := .ref lh_417) rfl in_14 10 dX10_house_129 w_1161 rfl (by decide) f407 rfl ?_
          refine tw_aload 0 dX10_house_132 rfl ?_
          obtain ⟨τ435, eτ435⟩ : ∃ z : tw_K, z = tw_ku τ265 q253 23 := ⟨_, rfl⟩
          have le436 : tw_le τ265 τ435 := by rw [eτ435]; exact tw_ku_le z268
          have k437 : τ435 x = 36 := le436.k k274 (by decide)
          have k438 : τ435 o = 12 := le436.k k275 (by decide)
          have k439 : τ435 ds_5 = 34 := le436.k k276 (by decide)
          have k440 : τ435 fr_6 = 34 := le436.k k277 (by decide)
          have k441 : τ435 ca_7 = 31 := le436.k k278 (by decide)
          have k442 : τ435 us_8 = 31 := le436.k k279 (by decide)
          have k443 : τ435 wo_9 = 31 := le436.k k280 (by decide)
          have k444 : τ435 cm_10 = 31 := le436.k k281 (by decide)
          have k445 : τ435 lc_11 = 24 := le436.k k282 (by decide)
          have k446 : τ435 lh_12 = 25 := le436.k k283 (by decide)
          have k447 : τ435 ld_13 = 26 := le436.k k284 (by decide)
          have k448 : τ435 ds_162 = 34 := le436.k k285 (by decide)
          have k449 : τ435 fr_163 = 34 := le436.k k286 (by decide)
          have k450 : τ435 ca_164 = 31 := le436.k k287 (by decide)
          have k451 : τ435 us_165 = 31 := le436.k k288 (by decide)
          have k452 : τ435 wo_166 = 31 := le436.k k289 (by decide)
          have k453 : τ435 cm_167 = 31 := le436.k k290 (by decide)
          have k454 : τ435 lc_168 = 24 := le436.k k291 (by decide)
          have k455 : τ435 lh_169 = 25 := le436.k k292 (by decide)
          have k456 : τ435 ld_170 = 26 := le436.k k293 (by decide)
          have k457 : τ435 ds_205 = 34 := le436.k k294 (by decide)
          have k458 : τ435 fr_206 = 34 := le436.k k295 (by decide)
          have k459 : τ435 ca_207 = 31 := le436.k k296 (by decide)
          have k460 : τ435 us_208 = 31 := le436.k k297 (by decide)
          have k461 : τ435 wo_209 = 31 := le436.k k298 (by decide)
          have k462 : τ435 cm_210 = 31 := le436.k k299 (by decide)
          have k463 : τ435 lc_211 = 24 := le436.k k300 (by decide)
          have k464 : τ435 lh_212 = 25 := le436.k k301 (by decide)
          have k465 : τ435 ld_213 = 26 := le436.k k302 (by decide)
          have k466 : τ435 p266 = 31 := le436.k k269 (by decide)
          have k467 : τ435 ds_330 = 34 := le436.k k339 (by decide)
          have k468 : τ435 fr_331 = 34 := le436.k k340 (by decide)
          have k469 : τ435 ca_332 = 31 := le436.k k341 (by decide)
          have k470 : τ435 us_333 = 31 := le436.k k342 (by decide)
          have k471 : τ435 wo_334 = 31 := le436.k k343 (by decide)
          have k472 : τ435 cm_335 = 31 := le436.k k344 (by decide)
          have k473 : τ435 lc_336 = 24 := le436.k k345 (by decide)
          have k474 : τ435 lh_337 = 25 := le436.k k346 (by decide)
          have k475 : τ435 ld_338 = 26 := le436.k k347 (by decide)
          have k476 : τ435 ds_370 = 34 := le436.k k379 (by decide)
          have k477 : τ435 fr_371 = 34 := le436.k k380 (by decide)
          have k478 : τ435 ca_372 = 31 := le436.k k381 (by decide)
          have k479 : τ435 us_373 = 31 := le436.k k382 (by decide)
          have k480 : τ435 wo_374 = 31 := le436.k k383 (by decide)
          have k481 : τ435 cm_375 = 31 := le436.k k384 (by decide)
          have k482 : τ435 lc_376 = 24 := le436.k k385 (by decide)
          have k483 : τ435 lh_377 = 25 := le436.k k386 (by decide)
          have k484 : τ435 ld_378 = 26 := le436.k k387 (by decide)
          have k485 : τ435 ds_410 = 34 := le436.k k419 (by decide)
          have k486 : τ435 fr_411 = 34 := le436.k k420 (by decide)
          have k487 : τ435 ca_412 = 31 := le436.k k421 (by decide)
          have k488 : τ435 us_413 = 31 := le436.k k422 (by decide)
          have k489 : τ435 wo_414 = 31 := le436.k k423 (by decide)
          have k490 : τ435 cm_415 = 31 := le436.k k424 (by decide)
          have k491 : τ435 lc_416 = 24 := le436.k k425 (by decide)
          have k492 : τ435 lh_417 = 25 := le436.k k426 (by decide)
          have k493 : τ435 ld_418 = 26 := le436.k k427 (by decide)
          have sp494 : tw_sp d τ h g τ435 h401 := by rw [eτ435]; exact sp404.ty n256 z268 f405 (by rw [← eτ435]; exact ⟨(nI j33), (-1), (-1), p266, rfl, k466, (Or.inr ⟨_, (by omega), rfl⟩), (Or.inl rfl)⟩)
          have k495 : τ435 q253 = 23 := by rw [eτ435]; exact tw_ku_s
          obtain ⟨e496, f497, ⟨el498, rfl, k499⟩, k500⟩ := sp494.1 lh_417 25 k492 (by decide)
          have hb9 : g.2 4 + 1 ≤ 6 := (tw_n4 c238 k429 (by decide))
          rcases k499 with k499p | k499p
          · obtain ⟨pa, pn, pf⟩ := k499p
            subst pa
            have f9 : h401 lh_417 = some (.inr (3, [.int (g.1 4), .ref (d.2 102), .int (nI 0)])) := by have z := f497; rw [pn] at z; exact z
            refine tw_bi (tw_callV (M := mX10_house) (pc := 134) okJx4a65c_add_9ea2d dX10_house_134 w_1238 rfl f497 [.ref q253] [] rfl rfl ⟨by decide, by decide⟩ (Nat.le_of_ble_eq_true rfl) (c_add_new d h401 lh_417 (g.1 4) f9 q253 13 _ _ rfl (ng_13) f405 (by decide)) 7 44 (Nat.le_of_ble_eq_true rfl) (Nat.le_of_ble_eq_true rfl)) (fun r9 h501 q9 => ?_) (fun E h1 q => q.elim)
            obtain ⟨r8, hr8, q1, q2, q3⟩ := q9
            have th502 : tw_th (h501 x) = 0 := by rw [q3 x (tw_nz k437 k492 (by decide)) (tw_thF sp494.1 k437 hr8)]; exact th402
            have oq503 : h501 o = h o := by rw [q3 o (tw_nk k438 k492 (by decide)) (tw_kF sp494.1 k438 (by decide) hr8)] <;> exact oq403
            obtain ⟨g9, τ9, ⟨hga, hg1⟩, sp9⟩ := tw_gadd25 (F := fun _ => none) sp494.1 k492 k495 hb9 (fun j hj => by rw [pn] at hj; exact absurd hj (Nat.not_lt_zero _)) (Or.inr ⟨hr8, pf⟩) (by rw [pn]; exact q1) (by rw [pn]; exact q2) q3
            have sp504 := sp494.tr sp9
            have k505 : τ9 x = 36 := sp9.2.1.k k437 (by decide)
            have k506 : τ9 o = 12 := sp9.2.1.k k438 (by decide)
            have k507 : τ9 ds_5 = 34 := sp9.2.1.k k439 (by decide)
            have k508 : τ9 fr_6 = 34 := sp9.2.1.k k440 (by decide)
            have k509 : τ9 ca_7 = 31 := sp9.2.1.k k441 (by decide)
            have k510 : τ9 us_8 = 31 := sp9.2.1.k k442 (by decide)
            have k511 : τ9 wo_9 = 31 := sp9.2.1.k k443 (by decide)
            have k512 : τ9 cm_10 = 31 := sp9.2.1.k k444 (by decide)
            have k513 : τ9 lc_11 = 24 := sp9.2.1.k k445 (by decide)
            have k514 : τ9 lh_12 = 25 := sp9.2.1.k k446 (by decide)
            have k515 : τ9 ld_13 = 26 := sp9.2.1.k k447 (by decide)
            have k516 : τ9 ds_162 = 34 := sp9.2.1.k k448 (by decide)
            have k517 : τ9 fr_163 = 34 := sp9.2.1.k k449 (by decide)
            have k518 : τ9 ca_164 = 31 := sp9.2.1.k k450 (by decide)
            have k519 : τ9 us_165 = 31 := sp9.2.1.k k451 (by decide)
            have k520 : τ9 wo_166 = 31 := sp9.2.1.k k452 (by decide)
            have k521 : τ9 cm_167 = 31 := sp9.2.1.k k453 (by decide)
            have k522 : τ9 lc_168 = 24 := sp9.2.1.k k454 (by decide)
            have k523 : τ9 lh_169 = 25 := sp9.2.1.k k455 (by decide)
            have k524 : τ9 ld_170 = 26 := sp9.2.1.k k456 (by decide)
            have k525 : τ9 ds_205 = 34 := sp9.2.1.k k457 (by decide)
            have k526 : τ9 fr_206 = 34 := sp9.2.1.k k458 (by decide)
            have k527 : τ9 ca_207 = 31 := sp9.2.1.k k459 (by decide)
            have k528 : τ9 us_208 = 31 := sp9.2.1.k k460 (by decide)
            have k529 : τ9 wo_209 = 31 := sp9.2.1.k k461 (by decide)
            have k530 : τ9 cm_210 = 31 := sp9.2.1.k k462 (by decide)
            have k531 : τ9 lc_211 = 24 := sp9.2.1.k k463 (by decide)
            have k532 : τ9 lh_212 = 25 := sp9.2.1.k k464 (by decide)
            have k533 : τ9 ld_213 = 26 := sp9.2.1.k k465 (by decide)
            have k534 : τ9 p266 = 31 := sp9.2.1.k k466 (by decide)
            have k535 : τ9 ds_330 = 34 := sp9.2.1.k k467 (by decide)
            have k536 : τ9 fr_331 = 34 := sp9.2.1.k k468 (by decide)
            have k537 : τ9 ca_332 = 31 := sp9.2.1.k k469 (by decide)
            have k538 : τ9 us_333 = 31 := sp9.2.1.k k470 (by decide)
            have k539 : τ9 wo_334 = 31 := sp9.2.1.k k471 (by decide)
            have k540 : τ9 cm_335 = 31 := sp9.2.1.k k472 (by decide)
            have k541 : τ9 lc_336 = 24 := sp9.2.1.k k473 (by decide)
            have k542 : τ9 lh_337 = 25 := sp9.2.1.k k474 (by decide)
            have k543 : τ9 ld_338 = 26 := sp9.2.1.k k475 (by decide)
            have k544 : τ9 ds_370 = 34 := sp9.2.1.k k476 (by decide)
            have k545 : τ9 fr_371 = 34 := sp9.2.1.k k477 (by decide)
            have k546 : τ9 ca_372 = 31 := sp9.2.1.k k478 (by decide)
            have k547 : τ9 us_373 = 31 := sp9.2.1.k k479 (by decide)
            have k548 : τ9 wo_374 = 31 := sp9.2.1.k k480 (by decide)
            have k549 : τ9 cm_375 = 31 := sp9.2.1.k k481 (by decide)
            have k550 : τ9 lc_376 = 24 := sp9.2.1.k k482 (by decide)
            have k551 : τ9 lh_377 = 25 := sp9.2.1.k k483 (by decide)
            have k552 : τ9 ld_378 = 26 := sp9.2.1.k k484 (by decide)
            have k553 : τ9 ds_410 = 34 := sp9.2.1.k k485 (by decide)
            have k554 : τ9 fr_411 = 34 := sp9.2.1.k k486 (by decide)
            have k555 : τ9 ca_412 = 31 := sp9.2.1.k k487 (by decide)
            have k556 : τ9 us_413 = 31 := sp9.2.1.k k488 (by decide)
            have k557 : τ9 wo_414 = 31 := sp9.2.1.k k489 (by decide)
            have k558 : τ9 cm_415 = 31 := sp9.2.1.k k490 (by decide)
            have k559 : τ9 lc_416 = 24 := sp9.2.1.k k491 (by decide)
            have k560 : τ9 lh_417 = 25 := sp9.2.1.k k492 (by decide)
            have k561 : τ9 ld_418 = 26 := sp9.2.1.k k493 (by decide)
            have k562 : τ9 q253 = 23 := sp9.2.1.k k495 (by decide)
            refine tw_pop dX10_house_137 rfl ?_
            refine tw_aload_n 1 dX10_house_138 rfl rfl ?_
            obtain ⟨e563, f564, th_565, td_566, ds_567, fr_568, ca_569, us_570, wo_571, cm_572, lc_573, lh_574, ld_575, rfl, k576, k577, k578, k579, k580, k581, k582, k583, k584, k585, k586, k587, k588, k589, k590, k591⟩ := sp504.1 x 36 k505 (by decide)
            refine tw_get (v := .ref lh_574) rfl in_14 10 dX10_house_139 w_1161 rfl (by decide) f564 rfl ?_
            obtain ⟨e592, f593, ⟨el594, rfl, k595⟩, k596⟩ := sp504.1 lh_574 25 k583 (by decide)
            refine tw_bi (tw_callV (M := mX10_house) (pc := 142) okJx4a65c_size_8abf5 dX10_house_142 w_1208 rfl f593 [] [] rfl rfl ⟨by decide, by decide⟩ (Nat.le_of_ble_eq_true rfl) (c25_size d g9 τ9 h501 sp504.1 lh_574 k583) 7 44 (Nat.le_of_ble_eq_true rfl) (Nat.le_of_ble_eq_true rfl)) (fun r599 h598 q597 => ?_) (fun E h1 q => q.elim)
            obtain ⟨q597e, q597r⟩ := q597
            rw [q597e, q597r]
            refine tw_iconst (v := 1) dX10_house_145 (by decide) ?_
            refine tw_isub dX10_house_146 ?_
            refine tw_nmi (fun v600 ev600 => ?_)
            exact tw_iret dX10_house_147 rfl (Or.inl ⟨_, rfl, _, _, sp504, oq503, Or.inr (Or.inr (Or.inr (⟨ix0, ⟨⟨q62a, q62b⟩, ⟨q110a, q110b⟩⟩, by omega, by rw [ev600, hg1.1]; exact nI_pred _, th502, hga, hg1⟩)))⟩)
          · obtain ⟨e9, fa9, ⟨F9, rfl, hc9, h49⟩, un9⟩ := sp494.1 el498 28 k499p (by decide)
            refine tw_bi (tw_callV (M := mX10_house) (pc := 134) okJx4a65c_add_9ea2d dX10_house_134 w_1238 rfl f497 [.ref q253] [] rfl rfl ⟨by decide, by decide⟩ (Nat.le_of_ble_eq_true rfl) (c_add_old d h401 lh_417 el498 (g.2 4) F9 (g.1 4) (by omega) f497 fa9 q253 13 _ _ rfl (ng_13) f405 (by decide)) 7 44 (Nat.le_of_ble_eq_true rfl) (Nat.le_of_ble_eq_true rfl)) (fun r9 h601 q9 => ?_) (fun E h1 q => q.elim)
            obtain ⟨q1, q2, q3⟩ := q9
            have th602 : tw_th (h601 x) = 0 := by rw [q3 x (tw_nz k437 k492 (by decide)) (tw_nz k437 k499p (by decide))]; exact th402
            have oq603 : h601 o = h o := by rw [q3 o (tw_nk k438 k492 (by decide)) (tw_nk k438 k499p (by decide))] <;> exact oq403
            obtain ⟨g9, τ9, ⟨hga, hg1⟩, sp9⟩ := tw_gadd25 sp494.1 k492 k495 hb9 h49 (Or.inl k499p) q1 q2 q3
            have sp604 := sp494.tr sp9
            have k605 : τ9 x = 36 := sp9.2.1.k k437 (by decide)
            have k606 : τ9 o = 12 := sp9.2.1.k k438 (by decide)
            have k607 : τ9 ds_5 = 34 := sp9.2.1.k k439 (by decide)
            have k608 : τ9 fr_6 = 34 := sp9.2.1.k k440 (by decide)
            have k609 : τ9 ca_7 = 31 := sp9.2.1.k k441 (by decide)
            have k610 : τ9 us_8 = 31 := sp9.2.1.k k442 (by decide)
            have k611 : τ9 wo_9 = 31 := sp9.2.1.k k443 (by decide)
            have k612 : τ9 cm_10 = 31 := sp9.2.1.k k444 (by decide)
            have k613 : τ9 lc_11 = 24 := sp9.2.1.k k445 (by decide)
            have k614 : τ9 lh_12 = 25 := sp9.2.1.k k446 (by decide)
            have k615 : τ9 ld_13 = 26 := sp9.2.1.k k447 (by decide)
            have k616 : τ9 ds_162 = 34 := sp9.2.1.k k448 (by decide)
            have k617 : τ9 fr_163 = 34 := sp9.2.1.k k449 (by decide)
            have k618 : τ9 ca_164 = 31 := sp9.2.1.k k450 (by decide)
            have k619 : τ9 us_165 = 31 := sp9.2.1.k k451 (by decide)
            have k620 : τ9 wo_166 = 31 := sp9.2.1.k k452 (by decide)
            have k621 : τ9 cm_167 = 31 := sp9.2.1.k k453 (by decide)
            have k622 : τ9 lc_168 = 24 := sp9.2.1.k k454 (by decide)
            have k623 : τ9 lh_169 = 25 := sp9.2.1.k k455 (by decide)
            have k624 : τ9 ld_170 = 26 := sp9.2.1.k k456 (by decide)
            have k625 : τ9 ds_205 = 34 := sp9.2.1.k k457 (by decide)
            have k626 : τ9 fr_206 = 34 := sp9.2.1.k k458 (by decide)
            have k627 : τ9 ca_207 = 31 := sp9.2.1.k k459 (by decide)
            have k628 : τ9 us_208 = 31 := sp9.2.1.k k460 (by decide)
            have k629 : τ9 wo_209 = 31 := sp9.2.1.k k461 (by decide)
            have k630 : τ9 cm_210 = 31 := sp9.2.1.k k462 (by decide)
            have k631 : τ9 lc_211 = 24 := sp9.2.1.k k463 (by decide)
            have k632 : τ9 lh_212 = 25 := sp9.2.1.k k464 (by decide)
            have k633 : τ9 ld_213 = 26 := sp9.2.1.k k465 (by decide)
            have k634 : τ9 p266 = 31 := sp9.2.1.k k466 (by decide)
            have k635 : τ9 ds_330 = 34 := sp9.2.1.k k467 (by decide)
            have k636 : τ9 fr_331 = 34 := sp9.2.1.k k468 (by decide)
            have k637 : τ9 ca_332 = 31 := sp9.2.1.k k469 (by decide)
            have k638 : τ9 us_333 = 31 := sp9.2.1.k k470 (by decide)
            have k639 : τ9 wo_334 = 31 := sp9.2.1.k k471 (by decide)
            have k640 : τ9 cm_335 = 31 := sp9.2.1.k k472 (by decide)
            have k641 : τ9 lc_336 = 24 := sp9.2.1.k k473 (by decide)
            have k642 : τ9 lh_337 = 25 := sp9.2.1.k k474 (by decide)
            have k643 : τ9 ld_338 = 26 := sp9.2.1.k k475 (by decide)
            have k644 : τ9 ds_370 = 34 := sp9.2.1.k k476 (by decide)
            have k645 : τ9 fr_371 = 34 := sp9.2.1.k k477 (by decide)
            have k646 : τ9 ca_372 = 31 := sp9.2.1.k k478 (by decide)
            have k647 : τ9 us_373 = 31 := sp9.2.1.k k479 (by decide)
            have k648 : τ9 wo_374 = 31 := sp9.2.1.k k480 (by decide)
            have k649 : τ9 cm_375 = 31 := sp9.2.1.k k481 (by decide)
            have k650 : τ9 lc_376 = 24 := sp9.2.1.k k482 (by decide)
            have k651 : τ9 lh_377 = 25 := sp9.2.1.k k483 (by decide)
            have k652 : τ9 ld_378 = 26 := sp9.2.1.k k484 (by decide)
            have k653 : τ9 ds_410 = 34 := sp9.2.1.k k485 (by decide)
            have k654 : τ9 fr_411 = 34 := sp9.2.1.k k486 (by decide)
            have k655 : τ9 ca_412 = 31 := sp9.2.1.k k487 (by decide)
            have k656 : τ9 us_413 = 31 := sp9.2.1.k k488 (by decide)
            have k657 : τ9 wo_414 = 31 := sp9.2.1.k k489 (by decide)
            have k658 : τ9 cm_415 = 31 := sp9.2.1.k k490 (by decide)
            have k659 : τ9 lc_416 = 24 := sp9.2.1.k k491 (by decide)
            have k660 : τ9 lh_417 = 25 := sp9.2.1.k k492 (by decide)
            have k661 : τ9 ld_418 = 26 := sp9.2.1.k k493 (by decide)
            have k662 : τ9 q253 = 23 := sp9.2.1.k k495 (by decide)
            refine tw_pop dX10_house_137 rfl ?_
            refine tw_aload_n 1 dX10_house_138 rfl rfl ?_
            obtain ⟨e663, f664, th_665, td_666, ds_667, fr_668, ca_669, us_670, wo_671, cm_672, lc_673, lh_674, ld_675, rfl, k676, k677, k678, k679, k680, k681, k682, k683, k684, k685, k686, k687, k688, k689, k690, k691⟩ := sp604.1 x 36 k605 (by decide)
            refine tw_get (v := .ref lh_674) rfl in_14 10 dX10_house_139 w_1161 rfl (by decide) f664 rfl ?_
            obtain ⟨e692, f693, ⟨el694, rfl, k695⟩, k696⟩ := sp604.1 lh_674 25 k683 (by decide)
            refine tw_bi (tw_callV (M := mX10_house) (pc := 142) okJx4a65c_size_8abf5 dX10_house_142 w_1208 rfl f693 [] [] rfl rfl ⟨by decide, by decide⟩ (Nat.le_of_ble_eq_true rfl) (c25_size d g9 τ9 h601 sp604.1 lh_674 k683) 7 44 (Nat.le_of_ble_eq_true rfl) (Nat.le_of_ble_eq_true rfl)) (fun r699 h698 q697 => ?_) (fun E h1 q => q.elim)
            obtain ⟨q697e, q697r⟩ := q697
            rw [q697e, q697r]
            refine tw_iconst (v := 1) dX10_house_145 (by decide) ?_
            refine tw_isub dX10_house_146 ?_
            refine tw_nmi (fun v700 ev700 => ?_)
            exact tw_iret dX10_house_147 rfl (Or.inl ⟨_, rfl, _, _, sp604, oq603, Or.inr (Or.inr (Or.inr (⟨ix0, ⟨⟨q62a, q62b⟩, ⟨q110a, q110b⟩⟩, by omega, by rw [ev700, hg1.1]; exact nI_pred _, th602, hga, hg1⟩)))⟩)
        · refine tw_iconst (v := 1) dX10_house_59 (by decide) ?_
          refine tw_goto 64 dX10_house_60 (by decide) ?_
          refine tw_iconst (v := 3) dX10_house_64 (by decide) ?_
          refine tw_bi (tw_callV (M := mX10_house) (pc := 65) okX10_refuse dX10_house_65 w_1204 rfl f202 [.int 1, .int 3] [] rfl rfl ⟨by decide, by decide⟩ (Nat.le_of_ble_eq_true rfl) (c_X10_refuse d g τ h188 sp198.1 x kx 1 3 (by decide)) 10 60 (Nat.le_of_ble_eq_true rfl) (Nat.le_of_ble_eq_true rfl)) (fun r703 h702 q701 => ?_) (fun E h1 q => q.elim)
          obtain ⟨e704, he705, hs706, hr707, hc708⟩ := q701
          obtain ⟨rz709, tz710⟩ := (hc708 th197).2 rfl
          have th711 : tw_th (h702 x) = 3 := by rw [he705, tw_up_s]; exact tz710
          have sp712 : tw_sp d τ h g τ h702 := by rw [he705]; exact sp198.set kx (by decide) hs706
          rw [rz709]
          have oq713 : h702 o = h o := by rw [he705, tw_up_n (tw_nk ko kx (by decide))] <;> exact oq199
          refine tw_if_eq 73 dX10_house_68 (by decide) (fun c714 => absurd c714 (by decide)) (fun _ => ?_)
          refine tw_iconst (v := 0) dX10_house_71 (by decide) ?_
          exact tw_iret dX10_house_72 rfl (Or.inl ⟨_, rfl, _, _, sp712, oq713, Or.inr (Or.inr (Or.inl ⟨ix0, ⟨⟨q62a, q62b⟩, ⟨q110a, q110b⟩⟩, fun z => absurd (tw_nIj (a := g.2 4) (b := 6) c238 (by omega) (by decide)) (by omega), th711, rfl⟩))⟩)

set_option maxHeartbeats 4000000 in
set_option maxRecDepth 100000 in
theorem c2_X10_owe (d : tw_D) (g : tw_G) (τ : tw_K) (h : tw_H) (hw : tw_wt d g τ h) (x : Nat) (kx : τ x = 36) (a : Int32) (b : Int32) (v : Int32) (dy : Int32) (o : Nat) (ko : τ o = 12) : tw_Ct d mX10_owe 10 60 [.ref x, .int a, .int b, .int v, .int dy] h (tw_qi (fun r9 h1 => ∃ g1 τ1, tw_sp d τ h g1 τ1 h1 ∧ h1 o = h o ∧ ((¬ (tw_ix (g.2 4) a ∧ tw_ix (g.2 4) b) ∧ tw_th (h1 x) = 1 ∧ g1 = g) ∨ ((tw_ix (g.2 4) a ∧ tw_ix (g.2 4) b) ∧ ¬ tw_RO a b v dy ∧ tw_th (h1 x) = 2 ∧ g1 = g) ∨ ((tw_ix (g.2 4) a ∧ tw_ix (g.2 4) b) ∧ tw_RO a b v dy ∧ ¬ g.2 5 < 10 ∧ tw_th (h1 x) = 3 ∧ g1 = g) ∨ ((tw_ix (g.2 4) a ∧ tw_ix (g.2 4) b) ∧ tw_RO a b v dy ∧ g.2 5 < 10 ∧ r9 = nI (g.2 5) ∧ tw_th (h1 x) = 0 ∧ tw_gk 5 g g1))) tw_nx) := by
  refine tw_of (by decide +kernel) (Nat.le_of_ble_eq_true rfl) ?_
  show tw_W d mX10_owe _ 0 [(0, .ref x), (1, .int a), (2, .int b), (3, .int v), (4, .int dy)] [] h 10 60
  have sp0 := tw_sp.rf hw
  have oq0 : h o = h o := rfl
  refine tw_aload_n 0 dX10_owe_0 rfl rfl ?_
  refine tw_aload_n 0 dX10_owe_1 rfl rfl ?_
  refine tw_iload_n 1 dX10_owe_2 rfl rfl ?_
  obtain ⟨e1, f2, th_3, td_4, ds_5, fr_6, ca_7, us_8, wo_9, cm_10, lc_11, lh_12, ld_13, rfl, k14, k15, k16, k17, k18, k19, k20, k21, k22, k23, k24, k25, k26, k27, k28, k29⟩ := sp0.1 x 36 kx (by decide)
  refine tw_bi (tw_callV (M := mX10_owe) (pc := 3) okX10_isNoHouse dX10_owe_3 w_1362 rfl f2 [.int a] [.ref x] rfl rfl ⟨by decide, by decide⟩ (Nat.le_of_ble_eq_true rfl) (c2_X10_isNoHouse d g τ h sp0.1 x kx a) 10 60 (Nat.le_of_ble_eq_true rfl) (Nat.le_of_ble_eq_true rfl)) (fun r32 h31 q30 => ?_) (fun E h1 q => q.elim)
  obtain ⟨q30e, q30d⟩ := q30
  rw [q30e]
  rcases q30d with ⟨q30r, q30n⟩ | ⟨q30r, q30i⟩
  · rw [q30r]
    refine tw_if_ne 17 dX10_owe_6 (by decide) (fun _ => ?_) (fun c34 => absurd c34 (by decide))
    refine tw_iconst (v := 1) dX10_owe_17 (by decide) ?_
    refine tw_goto 22 dX10_owe_18 (by decide) ?_
    refine tw_iconst (v := 1) dX10_owe_22 (by decide) ?_
    refine tw_bi (tw_callV (M := mX10_owe) (pc := 23) okX10_start dX10_owe_23 w_1200 rfl f2 [.int 1, .int 1] [] rfl rfl ⟨by decide, by decide⟩ (Nat.le_of_ble_eq_true rfl) (c_X10_start d g τ h sp0.1 x kx 1 1 (by decide)) 10 60 (Nat.le_of_ble_eq_true rfl) (Nat.le_of_ble_eq_true rfl)) (fun r37 h36 q35 => ?_) (fun E h1 q => q.elim)
    obtain ⟨e38, he39, hs40, hr41, hc42⟩ := q35
    obtain ⟨rz43, tz44⟩ := hc42.2 rfl
    have th45 : tw_th (h36 x) = 1 := by rw [he39, tw_up_s]; exact tz44
    have sp46 : tw_sp d τ h g τ h36 := by rw [he39]; exact sp0.set kx (by decide) hs40
    rw [rz43]
    have oq47 : h36 o = h o := by rw [he39, tw_up_n (tw_nk ko kx (by decide))] <;> exact oq0
    refine tw_if_ne 95 dX10_owe_26 (by decide) (fun _ => ?_) (fun c48 => absurd c48 (by decide))
    refine tw_iconst (v := 0) dX10_owe_95 (by decide) ?_
    exact tw_iret dX10_owe_96 rfl (Or.inl ⟨_, rfl, _, _, sp46, oq47, Or.inl ⟨fun z => q30n z.1, th45, rfl⟩⟩)
  · rw [q30r]
    have q30x := q30i
    obtain ⟨j33, q30j, q30k⟩ := q30i
    subst q30k
    refine tw_if_ne 17 dX10_owe_6 (by decide) (fun c49 => absurd (by decide) c49) (fun _ => ?_)
    refine tw_aload_n 0 dX10_owe_9 rfl rfl ?_
    refine tw_iload_n 2 dX10_owe_10 rfl rfl ?_
    refine tw_bi (tw_callV (M := mX10_owe) (pc := 11) okX10_isNoHouse dX10_owe_11 w_1362 rfl f2 [.int b] [.ref x] rfl rfl ⟨by decide, by decide⟩ (Nat.le_of_ble_eq_true rfl) (c2_X10_isNoHouse d g τ h sp0.1 x kx b) 10 60 (Nat.le_of_ble_eq_true rfl) (Nat.le_of_ble_eq_true rfl)) (fun r52 h51 q50 => ?_) (fun E h1 q => q.elim)
    obtain ⟨q50e, q50d⟩ := q50
    rw [q50e]
    rcases q50d with ⟨q50r, q50n⟩ | ⟨q50r, q50i⟩
    · rw [q50r]
      refine tw_if_eq 21 dX10_owe_14 (by decide) (fun c54 => absurd c54 (by decide)) (fun _ => ?_)
      refine tw_iconst (v := 1) dX10_owe_17 (by decide) ?_
      refine tw_goto 22 dX10_owe_18 (by decide) ?_
      refine tw_iconst (v := 1) dX10_owe_22 (by decide) ?_
      refine tw_bi (tw_callV (M := mX10_owe) (pc := 23) okX10_start dX10_owe_23 w_1200 rfl f2 [.int 1, .int 1] [] rfl rfl ⟨by decide, by decide⟩ (Nat.le_of_ble_eq_true rfl) (c_X10_start d g τ h sp0.1 x kx 1 1 (by decide)) 10 60 (Nat.le_of_ble_eq_true rfl) (Nat.le_of_ble_eq_true rfl)) (fun r57 h56 q55 => ?_) (fun E h1 q => q.elim)
      obtain ⟨e58, he59, hs60, hr61, hc62⟩ := q55
      obtain ⟨rz63, tz64⟩ := hc62.2 rfl
      have th65 : tw_th (h56 x) = 1 := by rw [he59, tw_up_s]; exact tz64
      have sp66 : tw_sp d τ h g τ h56 := by rw [he59]; exact sp0.set kx (by decide) hs60
      rw [rz63]
      have oq67 : h56 o = h o := by rw [he59, tw_up_n (tw_nk ko kx (by decide))] <;> exact oq0
      refine tw_if_ne 95 dX10_owe_26 (by decide) (fun _ => ?_) (fun c68 => absurd c68 (by decide))
      refine tw_iconst (v := 0) dX10_owe_95 (by decide) ?_
      exact tw_iret dX10_owe_96 rfl (Or.inl ⟨_, rfl, _, _, sp66, oq67, Or.inl ⟨fun z => q50n z.2, th65, rfl⟩⟩)
    · rw [q50r]
      have q50x := q50i
      obtain ⟨j53, q50j, q50k⟩ := q50i
      subst q50k
      have ix0 := And.intro q30x q50x
      refine tw_if_eq 21 dX10_owe_14 (by decide) (fun _ => ?_) (fun c69 => absurd (by decide) c69)
      refine tw_iconst (v := 0) dX10_owe_21 (by decide) ?_
      refine tw_iconst (v := 1) dX10_owe_22 (by decide) ?_
      refine tw_bi (tw_callV (M := mX10_owe) (pc := 23) okX10_start dX10_owe_23 w_1200 rfl f2 [.int 0, .int 1] [] rfl rfl ⟨by decide, by decide⟩ (Nat.le_of_ble_eq_true rfl) (c_X10_start d g τ h sp0.1 x kx 0 1 (by decide)) 10 60 (Nat.le_of_ble_eq_true rfl) (Nat.le_of_ble_eq_true rfl)) (fun r72 h71 q70 => ?_) (fun E h1 q => q.elim)
      obtain ⟨e73, he74, hs75, hr76, hc77⟩ := q70
      obtain ⟨rz78, tz79⟩ := hc77.1 rfl
      have th80 : tw_th (h71 x) = 0 := by rw [he74, tw_up_s]; exact tz79
      have sp81 : tw_sp d τ h g τ h71 := by rw [he74]; exact sp0.set kx (by decide) hs75
      rw [rz78]
      have oq82 : h71 o = h o := by rw [he74, tw_up_n (tw_nk ko kx (by decide))] <;> exact oq0
      refine tw_if_ne 95 dX10_owe_26 (by decide) (fun c83 => absurd (by decide) c83) (fun _ => ?_)
      refine tw_aload_n 0 dX10_owe_29 rfl rfl ?_
      refine tw_iload_n 1 dX10_owe_30 rfl rfl ?_
      refine tw_iload_n 2 dX10_owe_31 rfl rfl ?_
      refine tw_icmp_eq 58 dX10_owe_32 (by decide) (fun c84 => ?_) (fun c84 => ?_)
      · refine tw_iconst (v := 1) dX10_owe_58 (by decide) ?_
        refine tw_goto 63 dX10_owe_59 (by decide) ?_
        refine tw_iconst (v := 2) dX10_owe_63 (by decide) ?_
        obtain ⟨e85, f86, th_87, td_88, ds_89, fr_90, ca_91, us_92, wo_93, cm_94, lc_95, lh_96, ld_97, rfl, k98, k99, k100, k101, k102, k103, k104, k105, k106, k107, k108, k109, k110, k111, k112, k113⟩ := sp81.1 x 36 kx (by decide)
        refine tw_bi (tw_callV (M := mX10_owe) (pc := 64) okX10_refuse dX10_owe_64 w_1204 rfl f86 [.int 1, .int 2] [] rfl rfl ⟨by decide, by decide⟩ (Nat.le_of_ble_eq_true rfl) (c_X10_refuse d g τ h71 sp81.1 x kx 1 2 (by decide)) 10 60 (Nat.le_of_ble_eq_true rfl) (Nat.le_of_ble_eq_true rfl)) (fun r116 h115 q114 => ?_) (fun E h1 q => q.elim)
        obtain ⟨e117, he118, hs119, hr120, hc121⟩ := q114
        obtain ⟨rz122, tz123⟩ := (hc121 th80).2 rfl
        have th124 : tw_th (h115 x) = 2 := by rw [he118, tw_up_s]; exact tz123
        have sp125 : tw_sp d τ h g τ h115 := by rw [he118]; exact sp81.set kx (by decide) hs119
        rw [rz122]
        have oq126 : h115 o = h o := by rw [he118, tw_up_n (tw_nk ko kx (by decide))] <;> exact oq82
        refine tw_if_ne 95 dX10_owe_67 (by decide) (fun _ => ?_) (fun c127 => absurd c127 (by decide))
        refine tw_iconst (v := 0) dX10_owe_95 (by decide) ?_
        exact tw_iret dX10_owe_96 rfl (Or.inl ⟨_, rfl, _, _, sp125, oq126, Or.inr (Or.inl ⟨ix0, fun z => z.1 c84, th124, rfl⟩)⟩)
      · refine tw_iload_n 3 dX10_owe_35 rfl rfl ?_
        refine tw_iconst (v := 1) dX10_owe_36 (by decide) ?_
        refine tw_sipush (v := 9999) dX10_owe_37 (by decide) ?_
        refine tw_bi (tw_callS (M := mX10_owe) (pc := 40) okX10_isIn dX10_owe_40 w_1196 [.int v, .int 1, .int 9999] [.ref x] rfl rfl ⟨by decide, by decide⟩ (Nat.le_of_ble_eq_true rfl) (c_X10_isIn d g τ h71 sp81.1 v 1 9999) 10 60 (Nat.le_of_ble_eq_true rfl) (Nat.le_of_ble_eq_true rfl)) (fun r130 h129 q128 => ?_) (fun E h1 q => q.elim)
        obtain ⟨q128e, q128d⟩ := q128
        rw [q128e]
        rcases q128d with ⟨q128r, q128n⟩ | ⟨q128r, q128a, q128b⟩
        · rw [q128r]
          refine tw_if_eq 58 dX10_owe_43 (by decide) (fun _ => ?_) (fun c131 => absurd (by decide) c131)
          refine tw_iconst (v := 1) dX10_owe_58 (by decide) ?_
          refine tw_goto 63 dX10_owe_59 (by decide) ?_
          refine tw_iconst (v := 2) dX10_owe_63 (by decide) ?_
          obtain ⟨e132, f133, th_134, td_135, ds_136, fr_137, ca_138, us_139, wo_140, cm_141, lc_142, lh_143, ld_144, rfl, k145, k146, k147, k148, k149, k150, k151, k152, k153, k154, k155, k156, k157, k158, k159, k160⟩ := sp81.1 x 36 kx (by decide)
          refine tw_bi (tw_callV (M := mX10_owe) (pc := 64) okX10_refuse dX10_owe_64 w_1204 rfl f133 [.int 1, .int 2] [] rfl rfl ⟨by decide, by decide⟩ (Nat.le_of_ble_eq_true rfl) (c_X10_refuse d g τ h71 sp81.1 x kx 1 2 (by decide)) 10 60 (Nat.le_of_ble_eq_true rfl) (Nat.le_of_ble_eq_true rfl)) (fun r163 h162 q161 => ?_) (fun E h1 q => q.elim)
          obtain ⟨e164, he165, hs166, hr167, hc168⟩ := q161
          obtain ⟨rz169, tz170⟩ := (hc168 th80).2 rfl
          have th171 : tw_th (h162 x) = 2 := by rw [he165, tw_up_s]; exact tz170
          have sp172 : tw_sp d τ h g τ h162 := by rw [he165]; exact sp81.set kx (by decide) hs166
          rw [rz169]
          have oq173 : h162 o = h o := by rw [he165, tw_up_n (tw_nk ko kx (by decide))] <;> exact oq82
          refine tw_if_ne 95 dX10_owe_67 (by decide) (fun _ => ?_) (fun c174 => absurd c174 (by decide))
          refine tw_iconst (v := 0) dX10_owe_95 (by decide) ?_
          exact tw_iret dX10_owe_96 rfl (Or.inl ⟨_, rfl, _, _, sp172, oq173, Or.inr (Or.inl ⟨ix0, fun z => q128n z.2.1, th171, rfl⟩)⟩)
        · rw [q128r]
          refine tw_if_eq 58 dX10_owe_43 (by decide) (fun c175 => absurd c175 (by decide)) (fun _ => ?_)
          refine tw_iload 4 dX10_owe_46 rfl ?_
          refine tw_iconst (v := 0) dX10_owe_48 (by decide) ?_
          refine tw_sipush (v := 1000) dX10_owe_49 (by decide) ?_
          refine tw_bi (tw_callS (M := mX10_owe) (pc := 52) okX10_isIn dX10_owe_52 w_1196 [.int dy, .int 0, .int 1000] [.ref x] rfl rfl ⟨by decide, by decide⟩ (Nat.le_of_ble_eq_true rfl) (c_X10_isIn d g τ h71 sp81.1 dy 0 1000) 10 60 (Nat.le_of_ble_eq_true rfl) (Nat.le_of_ble_eq_true rfl)) (fun r178 h177 q176 => ?_) (fun E h1 q => q.elim)
          obtain ⟨q176e, q176d⟩ := q176
          rw [q176e]
          rcases q176d with ⟨q176r, q176n⟩ | ⟨q176r, q176a, q176b⟩
          · rw [q176r]
            refine tw_if_ne 62 dX10_owe_55 (by decide) (fun c179 => absurd (by decide) c179) (fun _ => ?_)
            refine tw_iconst (v := 1) dX10_owe_58 (by decide) ?_
            refine tw_goto 63 dX10_owe_59 (by decide) ?_
            refine tw_iconst (v := 2) dX10_owe_63 (by decide) ?_
            obtain ⟨e180, f181, th_182, td_183, ds_184, fr_185, ca_186, us_187, wo_188, cm_189, lc_190, lh_191, ld_192, rfl, k193, k194, k195, k196, k197, k198, k199, k200, k201, k202, k203, k204, k205, k206, k207, k208⟩ := sp81.1 x 36 kx (by decide)
            refine tw_bi (tw_callV (M := mX10_owe) (pc := 64) okX10_refuse dX10_owe_64 w_1204 rfl f181 [.int 1, .int 2] [] rfl rfl ⟨by decide, by decide⟩ (Nat.le_of_ble_eq_true rfl) (c_X10_refuse d g τ h71 sp81.1 x kx 1 2 (by decide)) 10 60 (Nat.le_of_ble_eq_true rfl) (Nat.le_of_ble_eq_true rfl)) (fun r211 h210 q209 => ?_) (fun E h1 q => q.elim)
            obtain ⟨e212, he213, hs214, hr215, hc216⟩ := q209
            obtain ⟨rz217, tz218⟩ := (hc216 th80).2 rfl
            have th219 : tw_th (h210 x) = 2 := by rw [he213, tw_up_s]; exact tz218
            have sp220 : tw_sp d τ h g τ h210 := by rw [he213]; exact sp81.set kx (by decide) hs214
            rw [rz217]
            have oq221 : h210 o = h o := by rw [he213, tw_up_n (tw_nk ko kx (by decide))] <;> exact oq82
            refine tw_if_ne 95 dX10_owe_67 (by decide) (fun _ => ?_) (fun c222 => absurd c222 (by decide))
            refine tw_iconst (v := 0) dX10_owe_95 (by decide) ?_
            exact tw_iret dX10_owe_96 rfl (Or.inl ⟨_, rfl, _, _, sp220, oq221, Or.inr (Or.inl ⟨ix0, fun z => q176n z.2.2, th219, rfl⟩)⟩)
          · rw [q176r]
            refine tw_if_ne 62 dX10_owe_55 (by decide) (fun _ => ?_) (fun c223 => absurd c223 (by decide))
            refine tw_iconst (v := 0) dX10_owe_62 (by decide) ?_
            refine tw_iconst (v := 2) dX10_owe_63 (by decide) ?_
            obtain ⟨e224, f225, th_226, td_227, ds_228, fr_229, ca_230, us_231, wo_232, cm_233, lc_234, lh_235, ld_236, rfl, k237, k238, k239, k240, k241, k242, k243, k244, k245, k246, k247, k248, k249, k250, k251, k252⟩ := sp81.1 x 36 kx (by decide)
            refine tw_bi (tw_callV (M := mX10_owe) (pc := 64) okX10_refuse dX10_owe_64 w_1204 rfl f225 [.int 0, .int 2] [] rfl rfl ⟨by decide, by decide⟩ (Nat.le_of_ble_eq_true rfl) (c_X10_refuse d g τ h71 sp81.1 x kx 0 2 (by decide)) 10 60 (Nat.le_of_ble_eq_true rfl) (Nat.le_of_ble_eq_true rfl)) (fun r255 h254 q253 => ?_) (fun E h1 q => q.elim)
            obtain ⟨e256, he257, hs258, hr259, hc260⟩ := q253
            obtain ⟨rz261, tz262⟩ := (hc260 th80).1 rfl
            have th263 : tw_th (h254 x) = 0 := by rw [he257, tw_up_s]; exact tz262
            have sp264 : tw_sp d τ h g τ h254 := by rw [he257]; exact sp81.set kx (by decide) hs258
            rw [rz261]
            have oq265 : h254 o = h o := by rw [he257, tw_up_n (tw_nk ko kx (by decide))] <;> exact oq82
            refine tw_if_ne 95 dX10_owe_67 (by decide) (fun c266 => absurd (by decide) c266) (fun _ => ?_)
            refine tw_aload_n 0 dX10_owe_70 rfl rfl ?_
            refine tw_aload_n 0 dX10_owe_71 rfl rfl ?_
            obtain ⟨e267, f268, th_269, td_270, ds_271, fr_272, ca_273, us_274, wo_275, cm_276, lc_277, lh_278, ld_279, rfl, k280, k281, k282, k283, k284, k285, k286, k287, k288, k289, k290, k291, k292, k293, k294, k295⟩ := sp264.1 x 36 kx (by decide)
            refine tw_get (v := .ref ld_279) rfl in_14 11 dX10_owe_72 w_1162 rfl (by decide) f268 rfl ?_
            obtain ⟨e296, f297, ⟨el298, rfl, k299⟩, k300⟩ := sp264.1 ld_279 26 k288 (by decide)
            refine tw_bi (tw_callV (M := mX10_owe) (pc := 75) okJx4a65c_size_8abf5 dX10_owe_75 w_1208 rfl f297 [] [.ref x] rfl rfl ⟨by decide, by decide⟩ (Nat.le_of_ble_eq_true rfl) (c26_size d g τ h254 sp264.1 ld_279 k288) 10 60 (Nat.le_of_ble_eq_true rfl) (Nat.le_of_ble_eq_true rfl)) (fun r303 h302 q301 => ?_) (fun E h1 q => q.elim)
            obtain ⟨q301e, q301r⟩ := q301
            rw [q301e, q301r]
            refine tw_bipush (v := 10) dX10_owe_78 (by decide) ?_
            refine tw_icmp_ne 87 dX10_owe_80 (by decide) (fun c304 => ?_) (fun c304 => ?_)
            · refine tw_iconst (v := 0) dX10_owe_87 (by decide) ?_
              refine tw_iconst (v := 3) dX10_owe_88 (by decide) ?_
              refine tw_bi (tw_callV (M := mX10_owe) (pc := 89) okX10_refuse dX10_owe_89 w_1204 rfl f268 [.int 0, .int 3] [] rfl rfl ⟨by decide, by decide⟩ (Nat.le_of_ble_eq_true rfl) (c_X10_refuse d g τ h254 sp264.1 x kx 0 3 (by decide)) 10 60 (Nat.le_of_ble_eq_true rfl) (Nat.le_of_ble_eq_true rfl)) (fun r307 h306 q305 => ?_) (fun E h1 q => q.elim)
              obtain ⟨e308, he309, hs310, hr311, hc312⟩ := q305
              obtain ⟨rz313, tz314⟩ := (hc312 th263).1 rfl
              have th315 : tw_th (h306 x) = 0 := by rw [he309, tw_up_s]; exact tz314
              have sp316 : tw_sp d τ h g τ h306 := by rw [he309]; exact sp264.set kx (by decide) hs310
              rw [rz313]
              have oq317 : h306 o = h o := by rw [he309, tw_up_n (tw_nk ko kx (by decide))] <;> exact oq265
              refine tw_if_eq 97 dX10_owe_92 (by decide) (fun _ => ?_) (fun c318 => absurd (by decide) c318)
              refine tw_new (ci := 12) rfl in_12 tyX8 tyX8_ok dX10_owe_97 w_1437 w_1438 w_103 (fs := [.int 0, .int 0, .int 0, .int 0, .int 0]) (fun j hj => by rcases (show j = 0 ∨ j = 1 ∨ j = 2 ∨ j = 3 ∨ j = 4 by omega) with rfl | rfl | rfl | rfl | rfl <;> rfl) 9 55 (Nat.le_of_ble_eq_true rfl) (Nat.le_of_ble_eq_true rfl) (fun q319 hq320 hA321 => ?_)
              have n322 := sp316.nn hq320
              have z323 := sp316.1.none hq320
              obtain ⟨h324, eh324⟩ : ∃ z : tw_H, z = tw_up h306 q319 (.inr (12, [.int 0, .int 0, .int 0, .int 0, .int 0])) := ⟨_, rfl⟩
              rw [← eh324]
              have th325 : tw_th (h324 x) = 0 := by rw [eh324, tw_up_n (tw_kF sp316.1 kx (by decide) hq320)] <;> exact th315
              have oq326 : h324 o = h o := by rw [eh324, tw_up_n (tw_kF sp316.1 ko (by decide) hq320)] <;> exact oq317
              have sp327 : tw_sp d τ h g τ h324 := by rw [eh324]; exact sp316.mk hq320
              have f328 : h324 q319 = some (.inr (12, [.int 0, .int 0, .int 0, .int 0, .int 0])) := by rw [eh324]; exact tw_up_s
              refine tw_dup dX10_owe_100 rfl ?_
              refine tw_bv (tw_callIN (M := mX10_owe) (pc := 101) okX8_init dX10_owe_101 w_1439 rfl [] [.ref q319] rfl rfl ⟨by decide, by decide⟩ (Nat.le_of_ble_eq_true rfl) (c2_X8_init d g τ h324 sp327.1 q319 z323 f328) 9 55 (Nat.le_of_ble_eq_true rfl) (Nat.le_of_ble_eq_true rfl)) (fun h330 q329 => ?_) (fun E h1 q => q.elim)
              obtain ⟨τ331, q329s, f332, z333, fr335⟩ := q329
              have th336 : tw_th (h330 x) = 0 := by rw [fr335 x (tw_nz kx z323 (by decide)) (fun z => by obtain ⟨e, y, -⟩ := sp327.1 x 36 kx (by decide); rw [z] at y; cases y)]; exact th325
              have oq337 : h330 o = h o := by rw [fr335 o (tw_nk ko z323 (by decide)) (tw_some sp327.1 ko (by decide))] <;> exact oq326
              have sp334 := sp327.trm n322 q329s
              have k338 : τ331 x = 36 := q329s.2.1.k kx (by decide)
              have k339 : τ331 o = 12 := q329s.2.1.k ko (by decide)
              have k340 : τ331 ds_5 = 34 := q329s.2.1.k k14 (by decide)
              have k341 : τ331 fr_6 = 34 := q329s.2.1.k k15 (by decide)
              have k342 : τ331 ca_7 = 31 := q329s.2.1.k k16 (by decide)
              have k343 : τ331 us_8 = 31 := q329s.2.1.k k17 (by decide)
              have k344 : τ331 wo_9 = 31 := q329s.2.1.k k18 (by decide)
              have k345 : τ331 cm_10 = 31 := q329s.2.1.k k19 (by decide)
              have k346 : τ331 lc_11 = 24 := q329s.2.1.k k20 (by decide)
              have k347 : τ331 lh_12 = 25 := q329s.2.1.k k21 (by decide)
              have k348 : τ331 ld_13 = 26 := q329s.2.1.k k22 (by decide)
              have k349 : τ331 ds_228 = 34 := q329s.2.1.k k237 (by decide)
              have k350 : τ331 fr_229 = 34 := q329s.2.1.k k238 (by decide)
              have k351 : τ331 ca_230 = 31 := q329s.2.1.k k239 (by decide)
              have k352 : τ331 us_231 = 31 := q329s.2.1.k k240 (by decide)
              have k353 : τ331 wo_232 = 31 := q329s.2.1.k k241 (by decide)
              have k354 : τ331 cm_233 = 31 := q329s.2.1.k k242 (by decide)
              have k355 : τ331 lc_234 = 24 := q329s.2.1.k k243 (by decide)
              have k356 : τ331 lh_235 = 25 := q329s.2.1.k k244 (by decide)
              have k357 : τ331 ld_236 = 26 := q329s.2.1.k k245 (by decide)
              have k358 : τ331 ds_271 = 34 := q329s.2.1.k k280 (by decide)
              have k359 : τ331 fr_272 = 34 := q329s.2.1.k k281 (by decide)
              have k360 : τ331 ca_273 = 31 := q329s.2.1.k k282 (by decide)
              have k361 : τ331 us_274 = 31 := q329s.2.1.k k283 (by decide)
              have k362 : τ331 wo_275 = 31 := q329s.2.1.k k284 (by decide)
              have k363 : τ331 cm_276 = 31 := q329s.2.1.k k285 (by decide)
              have k364 : τ331 lc_277 = 24 := q329s.2.1.k k286 (by decide)
              have k365 : τ331 lh_278 = 25 := q329s.2.1.k k287 (by decide)
              have k366 : τ331 ld_279 = 26 := q329s.2.1.k k288 (by decide)
              refine tw_astore [(5, .ref q319), (0, .ref x), (1, .int (nI j33)), (2, .int (nI j53)), (3, .int v), (4, .int dy)] dX10_owe_104 (by decide) rfl ?_
              refine tw_aload 0 dX10_owe_106 rfl ?_
              refine tw_iload_n 2 dX10_owe_108 rfl rfl ?_
              refine tw_put rfl in_12 tyX8 tyX8_ok nmX8 0 dX10_owe_109 w_1443 rfl (by decide) f332 rfl rfl rfl rfl (Nat.le_of_ble_eq_true rfl) [.int (nI j33), .int 0, .int 0, .int 0, .int 0] rfl ?_
              obtain ⟨h367, eh367⟩ : ∃ z : tw_H, z = tw_up h330 q319 (.inr (12, [.int (nI j33), .int 0, .int 0, .int 0, .int 0])) := ⟨_, rfl⟩
              rw [← eh367]
              have th368 : tw_th (h367 x) = 0 := by rw [eh367, tw_up_n (tw_nk k338 z333 (by decide))] <;> exact th336
              have oq369 : h367 o = h o := by rw [eh367, tw_up_n (tw_nk k339 z333 (by decide))] <;> exact oq337
              have sp370 : tw_sp d τ h g τ331 h367 := by rw [eh367]; exact sp334.wl n322 z333
              have f371 : h367 q319 = some (.inr (12, [.int (nI j33), .int 0, .int 0, .int 0, .int 0])) := by rw [eh367]; exact tw_up_s
              refine tw_aload 0 dX10_owe_112 rfl ?_
              refine tw_iload_n 3 dX10_owe_114 rfl rfl ?_
              refine tw_put rfl in_12 tyX8 tyX8_ok nmX8 1 dX10_owe_115 w_1444 rfl (by decide) f371 rfl rfl rfl rfl (Nat.le_of_ble_eq_true rfl) [.int (nI j33), .int (nI j53), .int 0, .int 0, .int 0] rfl ?_
              obtain ⟨h372, eh372⟩ : ∃ z : tw_H, z = tw_up h367 q319 (.inr (12, [.int (nI j33), .int (nI j53), .int 0, .int 0, .int 0])) := ⟨_, rfl⟩
              rw [← eh372]
              have th373 : tw_th (h372 x) = 0 := by rw [eh372, tw_up_n (tw_nk k338 z333 (by decide))] <;> exact th368
              have oq374 : h372 o = h o := by rw [eh372, tw_up_n (tw_nk k339 z333 (by decide))] <;> exact oq369
              have sp375 : tw_sp d τ h g τ331 h372 := by rw [eh372]; exact sp370.wl n322 z333
              have f376 : h372 q319 = some (.inr (12, [.int (nI j33), .int (nI j53), .int 0, .int 0, .int 0])) := by rw [eh372]; exact tw_up_s
              refine tw_aload 0 dX10_owe_118 rfl ?_
              refine tw_iload_n 4 dX10_owe_120 rfl rfl ?_
              refine tw_put rfl in_12 tyX8 tyX8_ok nmX8 2 dX10_owe_121 w_1445 rfl (by decide) f376 rfl rfl rfl rfl (Nat.le_of_ble_eq_true rfl) [.int (nI j33), .int (nI j53), .int v, .int 0, .int 0] rfl ?_
              obtain ⟨h377, eh377⟩ : ∃ z : tw_H, z = tw_up h372 q319 (.inr (12, [.int (nI j33), .int (nI j53), .int v, .int 0, .int 0])) := ⟨_, rfl⟩
              rw [← eh377]
              have th378 : tw_th (h377 x) = 0 := by rw [eh377, tw_up_n (tw_nk k338 z333 (by decide))] <;> exact th373
              have oq379 : h377 o = h o := by rw [eh377, tw_up_n (tw_nk k339 z333 (by decide))] <;> exact oq374
              have sp380 : tw_sp d τ h g τ331 h377 := by rw [eh377]; exact sp375.wl n322 z333
              have f381 : h377 q319 = some (.inr (12, [.int (nI j33), .int (nI j53), .int v, .int 0, .int 0])) := by rw [eh377]; exact tw_up_s
              refine tw_aload 0 dX10_owe_124 rfl ?_
              refine tw_aload_n 1 dX10_owe_126 rfl rfl ?_
              obtain ⟨e382, f383, th_384, td_385, ds_386, fr_387, ca_388, us_389, wo_390, cm_391, lc_392, lh_393, ld_394, rfl, k395, k396, k397, k398, k399, k400, k401, k402, k403, k404, k405, k406, k407, k408, k409, k410⟩ := sp380.1 x 36 k338 (by decide)
              refine tw_get (v := .int td_385) rfl in_14 1 dX10_owe_127 w_1152 rfl (by decide) f383 rfl ?_
              refine tw_iload 5 dX10_owe_130 rfl ?_
              refine tw_iadd dX10_owe_132 ?_
              refine tw_nmi (fun v411 ev411 => ?_)
              refine tw_put rfl in_12 tyX8 tyX8_ok nmX8 3 dX10_owe_133 w_1446 rfl (by decide) f381 rfl rfl rfl rfl (Nat.le_of_ble_eq_true rfl) [.int (nI j33), .int (nI j53), .int v, .int v411, .int 0] rfl ?_
              obtain ⟨h412, eh412⟩ : ∃ z : tw_H, z = tw_up h377 q319 (.inr (12, [.int (nI j33), .int (nI j53), .int v, .int v411, .int 0])) := ⟨_, rfl⟩
              rw [← eh412]
              have th413 : tw_th (h412 x) = 0 := by rw [eh412, tw_up_n (tw_nk k338 z333 (by decide))] <;> exact th378
              have oq414 : h412 o = h o := by rw [eh412, tw_up_n (tw_nk k339 z333 (by decide))] <;> exact oq379
              have sp415 : tw_sp d τ h g τ331 h412 := by rw [eh412]; exact sp380.wl n322 z333
              have f416 : h412 q319 = some (.inr (12, [.int (nI j33), .int (nI j53), .int v, .int v411, .int 0])) := by rw [eh412]; exact tw_up_s
              refine tw_aload_n 1 dX10_owe_136 rfl rfl ?_
              obtain ⟨e417, f418, th_419, td_420, ds_421, fr_422, ca_423, us_424, wo_425, cm_426, lc_427, lh_428, ld_429, rfl, k430, k431, k432, k433, k434, k435, k436, k437, k438, k439, k440, k441, k442, k443, k444, k445⟩ := sp415.1 x 36 k338 (by decide)
              refine tw_get (v := .ref ld_429) rfl in_14 11 dX10_owe_137 w_1162 rfl (by decide) f418 rfl ?_
              refine tw_aload 0 dX10_owe_140 rfl ?_
              obtain ⟨τ446, eτ446⟩ : ∃ z : tw_K, z = tw_ku τ331 q319 22 := ⟨_, rfl⟩
              have le447 : tw_le τ331 τ446 := by rw [eτ446]; exact tw_ku_le z333
              have k448 : τ446 x = 36 := le447.k k338 (by decide)
              have k449 : τ446 o = 12 := le447.k k339 (by decide)
              have k450 : τ446 ds_5 = 34 := le447.k k340 (by decide)
              have k451 : τ446 fr_6 = 34 := le447.k k341 (by decide)
              have k452 : τ446 ca_7 = 31 := le447.k k342 (by decide)
              have k453 : τ446 us_8 = 31 := le447.k k343 (by decide)
              have k454 : τ446 wo_9 = 31 := le447.k k344 (by decide)
              have k455 : τ446 cm_10 = 31 := le447.k k345 (by decide)
              have k456 : τ446 lc_11 = 24 := le447.k k346 (by decide)
              have k457 : τ446 lh_12 = 25 := le447.k k347 (by decide)
              have k458 : τ446 ld_13 = 26 := le447.k k348 (by decide)
              have k459 : τ446 ds_228 = 34 := le447.k k349 (by decide)
              have k460 : τ446 fr_229 = 34 := le447.k k350 (by decide)
              have k461 : τ446 ca_230 = 31 := le447.k k351 (by decide)
              have k462 : τ446 us_231 = 31 := le447.k k352 (by decide)
              have k463 : τ446 wo_232 = 31 := le447.k k353 (by decide)
              have k464 : τ446 cm_233 = 31 := le447.k k354 (by decide)
              have k465 : τ446 lc_234 = 24 := le447.k k355 (by decide)
              have k466 : τ446 lh_235 = 25 := le447.k k356 (by decide)
              have k467 : τ446 ld_236 = 26 := le447.k k357 (by decide)
              have k468 : τ446 ds_271 = 34 := le447.k k358 (by decide)
              have k469 : τ446 fr_272 = 34 := le447.k k359 (by decide)
              have k470 : τ446 ca_273 = 31 := le447.k k360 (by decide)
              have k471 : τ446 us_274 = 31 := le447.k k361 (by decide)
              have k472 : τ446 wo_275 = 31 := le447.k k362 (by decide)
              have k473 : τ446 cm_276 = 31 := le447.k k363 (by decide)
              have k474 : τ446 lc_277 = 24 := le447.k k364 (by decide)
              have k475 : τ446 lh_278 = 25 := le447.k k365 (by decide)
              have k476 : τ446 ld_279 = 26 := le447.k k366 (by decide)
              have k477 : τ446 ds_386 = 34 := le447.k k395 (by decide)
              have k478 : τ446 fr_387 = 34 := le447.k k396 (by decide)
              have k479 : τ446 ca_388 = 31 := le447.k k397 (by decide)
              have k480 : τ446 us_389 = 31 := le447.k k398 (by decide)
              have k481 : τ446 wo_390 = 31 := le447.k k399 (by decide)
              have k482 : τ446 cm_391 = 31 := le447.k k400 (by decide)
              have k483 : τ446 lc_392 = 24 := le447.k k401 (by decide)
              have k484 : τ446 lh_393 = 25 := le447.k k402 (by decide)
              have k485 : τ446 ld_394 = 26 := le447.k k403 (by decide)
              have k486 : τ446 ds_421 = 34 := le447.k k430 (by decide)
              have k487 : τ446 fr_422 = 34 := le447.k k431 (by decide)
              have k488 : τ446 ca_423 = 31 := le447.k k432 (by decide)
              have k489 : τ446 us_424 = 31 := le447.k k433 (by decide)
              have k490 : τ446 wo_425 = 31 := le447.k k434 (by decide)
              have k491 : τ446 cm_426 = 31 := le447.k k435 (by decide)
              have k492 : τ446 lc_427 = 24 := le447.k k436 (by decide)
              have k493 : τ446 lh_428 = 25 := le447.k k437 (by decide)
              have k494 : τ446 ld_429 = 26 := le447.k k438 (by decide)
              have sp495 : tw_sp d τ h g τ446 h412 := by rw [eτ446]; exact sp415.ty n322 z333 f416 (by rw [← eτ446]; exact ⟨v, v411, 0, j33, j53, rfl, (by omega), (by omega), (by unfold tw_01; decide)⟩)
              have k496 : τ446 q319 = 22 := by rw [eτ446]; exact tw_ku_s
              obtain ⟨e497, f498, ⟨el499, rfl, k500⟩, k501⟩ := sp495.1 ld_429 26 k494 (by decide)
              have hb9 : g.2 5 + 1 ≤ 10 := (tw_n4 c304 k441 (by decide))
              rcases k500 with k500p | k500p
              · obtain ⟨pa, pn, pf⟩ := k500p
                subst pa
                have f9 : h412 ld_429 = some (.inr (3, [.int (g.1 5), .ref (d.2 102), .int (nI 0)])) := by have z := f498; rw [pn] at z; exact z
                refine tw_bi (tw_callV (M := mX10_owe) (pc := 142) okJx4a65c_add_9ea2d dX10_owe_142 w_1238 rfl f498 [.ref q319] [] rfl rfl ⟨by decide, by decide⟩ (Nat.le_of_ble_eq_true rfl) (c_add_new d h412 ld_429 (g.1 5) f9 q319 12 _ _ rfl (ng_12) f416 (by decide)) 8 45 (Nat.le_of_ble_eq_true rfl) (Nat.le_of_ble_eq_true rfl)) (fun r9 h502 q9 => ?_) (fun E h1 q => q.elim)
                obtain ⟨r8, hr8, q1, q2, q3⟩ := q9
                have th503 : tw_th (h502 x) = 0 := by rw [q3 x (tw_nz k448 k494 (by decide)) (tw_thF sp495.1 k448 hr8)]; exact th413
                have oq504 : h502 o = h o := by rw [q3 o (tw_nk k449 k494 (by decide)) (tw_kF sp495.1 k449 (by decide) hr8)] <;> exact oq414
                obtain ⟨g9, τ9, ⟨hga, hg1⟩, sp9⟩ := tw_gadd26 (F := fun _ => none) sp495.1 k494 k496 hb9 (fun j hj => by rw [pn] at hj; exact absurd hj (Nat.not_lt_zero _)) (Or.inr ⟨hr8, pf⟩) (by rw [pn]; exact q1) (by rw [pn]; exact q2) q3
                have sp505 := sp495.tr sp9
                have k506 : τ9 x = 36 := sp9.2.1.k k448 (by decide)
                have k507 : τ9 o = 12 := sp9.2.1.k k449 (by decide)
                have k508 : τ9 ds_5 = 34 := sp9.2.1.k k450 (by decide)
                have k509 : τ9 fr_6 = 34 := sp9.2.1.k k451 (by decide)
                have k510 : τ9 ca_7 = 31 := sp9.2.1.k k452 (by decide)
                have k511 : τ9 us_8 = 31 := sp9.2.1.k k453 (by decide)
                have k512 : τ9 wo_9 = 31 := sp9.2.1.k k454 (by decide)
                have k513 : τ9 cm_10 = 31 := sp9.2.1.k k455 (by decide)
                have k514 : τ9 lc_11 = 24 := sp9.2.1.k k456 (by decide)
                have k515 : τ9 lh_12 = 25 := sp9.2.1.k k457 (by decide)
                have k516 : τ9 ld_13 = 26 := sp9.2.1.k k458 (by decide)
                have k517 : τ9 ds_228 = 34 := sp9.2.1.k k459 (by decide)
                have k518 : τ9 fr_229 = 34 := sp9.2.1.k k460 (by decide)
                have k519 : τ9 ca_230 = 31 := sp9.2.1.k k461 (by decide)
                have k520 : τ9 us_231 = 31 := sp9.2.1.k k462 (by decide)
                have k521 : τ9 wo_232 = 31 := sp9.2.1.k k463 (by decide)
                have k522 : τ9 cm_233 = 31 := sp9.2.1.k k464 (by decide)
                have k523 : τ9 lc_234 = 24 := sp9.2.1.k k465 (by decide)
                have k524 : τ9 lh_235 = 25 := sp9.2.1.k k466 (by decide)
                have k525 : τ9 ld_236 = 26 := sp9.2.1.k k467 (by decide)
                have k526 : τ9 ds_271 = 34 := sp9.2.1.k k468 (by decide)
                have k527 : τ9 fr_272 = 34 := sp9.2.1.k k469 (by decide)
                have k528 : τ9 ca_273 = 31 := sp9.2.1.k k470 (by decide)
                have k529 : τ9 us_274 = 31 := sp9.2.1.k k471 (by decide)
                have k530 : τ9 wo_275 = 31 := sp9.2.1.k k472 (by decide)
                have k531 : τ9 cm_276 = 31 := sp9.2.1.k k473 (by decide)
                have k532 : τ9 lc_277 = 24 := sp9.2.1.k k474 (by decide)
                have k533 : τ9 lh_278 = 25 := sp9.2.1.k k475 (by decide)
                have k534 : τ9 ld_279 = 26 := sp9.2.1.k k476 (by decide)
                have k535 : τ9 ds_386 = 34 := sp9.2.1.k k477 (by decide)
                have k536 : τ9 fr_387 = 34 := sp9.2.1.k k478 (by decide)
                have k537 : τ9 ca_388 = 31 := sp9.2.1.k k479 (by decide)
                have k538 : τ9 us_389 = 31 := sp9.2.1.k k480 (by decide)
                have k539 : τ9 wo_390 = 31 := sp9.2.1.k k481 (by decide)
                have k540 : τ9 cm_391 = 31 := sp9.2.1.k k482 (by decide)
                have k541 : τ9 lc_392 = 24 := sp9.2.1.k k483 (by decide)
                have k542 : τ9 lh_393 = 25 := sp9.2.1.k k484 (by decide)
                have k543 : τ9 ld_394 = 26 := sp9.2.1.k k485 (by decide)
                have k544 : τ9 ds_421 = 34 := sp9.2.1.k k486 (by decide)
                have k545 : τ9 fr_422 = 34 := sp9.2.1.k k487 (by decide)
                have k546 : τ9 ca_423 = 31 := sp9.2.1.k k488 (by decide)
                have k547 : τ9 us_424 = 31 := sp9.2.1.k k489 (by decide)
                have k548 : τ9 wo_425 = 31 := sp9.2.1.k k490 (by decide)
                have k549 : τ9 cm_426 = 31 := sp9.2.1.k k491 (by decide)
                have k550 : τ9 lc_427 = 24 := sp9.2.1.k k492 (by decide)
                have k551 : τ9 lh_428 = 25 := sp9.2.1.k k493 (by decide)
                have k552 : τ9 ld_429 = 26 := sp9.2.1.k k494 (by decide)
                have k553 : τ9 q319 = 22 := sp9.2.1.k k496 (by decide)
                refine tw_pop dX10_owe_145 rfl ?_
                refine tw_aload_n 1 dX10_owe_146 rfl rfl ?_
                obtain ⟨e554, f555, th_556, td_557, ds_558, fr_559, ca_560, us_561, wo_562, cm_563, lc_564, lh_565, ld_566, rfl, k567, k568, k569, k570, k571, k572, k573, k574, k575, k576, k577, k578, k579, k580, k581, k582⟩ := sp505.1 x 36 k506 (by decide)
                refine tw_get (v := .ref ld_566) rfl in_14 11 dX10_owe_147 w_1162 rfl (by decide) f555 rfl ?_
                obtain ⟨e583, f584, ⟨el585, rfl, k586⟩, k587⟩ := sp505.1 ld_566 26 k575 (by decide)
                refine tw_bi (tw_callV (M := mX10_owe) (pc := 150) okJx4a65c_size_8abf5 dX10_owe_150 w_1208 rfl f584 [] [] rfl rfl ⟨by decide, by decide⟩ (Nat.le_of_ble_eq_true rfl) (c26_size d g9 τ9 h502 sp505.1 ld_566 k575) 8 45 (Nat.le_of_ble_eq_true rfl) (Nat.le_of_ble_eq_true rfl)) (fun r590 h589 q588 => ?_) (fun E h1 q => q.elim)
                obtain ⟨q588e, q588r⟩ := q588
                rw [q588e, q588r]
                refine tw_iconst (v := 1) dX10_owe_153 (by decide) ?_
                refine tw_isub dX10_owe_154 ?_
                refine tw_nmi (fun v591 ev591 => ?_)
                exact tw_iret dX10_owe_155 rfl (Or.inl ⟨_, rfl, _, _, sp505, oq504, Or.inr (Or.inr (Or.inr (⟨ix0, ⟨c84, ⟨q128a, q128b⟩, ⟨q176a, q176b⟩⟩, by omega, by rw [ev591, hg1.1]; exact nI_pred _, th503, hga, hg1⟩)))⟩)
              · obtain ⟨e9, fa9, ⟨F9, rfl, hc9, h49⟩, un9⟩ := sp495.1 el499 29 k500p (by decide)
                refine tw_bi (tw_callV (M := mX10_owe) (pc := 142) okJx4a65c_add_9ea2d dX10_owe_142 w_1238 rfl f498 [.ref q319] [] rfl rfl ⟨by decide, by decide⟩ (Nat.le_of_ble_eq_true rfl) (c_add_old d h412 ld_429 el499 (g.2 5) F9 (g.1 5) (by omega) f498 fa9 q319 12 _ _ rfl (ng_12) f416 (by decide)) 8 45 (Nat.le_of_ble_eq_true rfl) (Nat.le_of_ble_eq_true rfl)) (fun r9 h592 q9 => ?_) (fun E h1 q => q.elim)
                obtain ⟨q1, q2, q3⟩ := q9
                have th593 : tw_th (h592 x) = 0 := by rw [q3 x (tw_nz k448 k494 (by decide)) (tw_nz k448 k500p (by decide))]; exact th413
                have oq594 : h592 o = h o := by rw [q3 o (tw_nk k449 k494 (by decide)) (tw_nk k449 k500p (by decide))] <;> exact oq414
                obtain ⟨g9, τ9, ⟨hga, hg1⟩, sp9⟩ := tw_gadd26 sp495.1 k494 k496 hb9 h49 (Or.inl k500p) q1 q2 q3
                have sp595 := sp495.tr sp9
                have k596 : τ9 x = 36 := sp9.2.1.k k448 (by decide)
                have k597 : τ9 o = 12 := sp9.2.1.k k449 (by decide)
                have k598 : τ9 ds_5 = 34 := sp9.2.1.k k450 (by decide)
                have k599 : τ9 fr_6 = 34 := sp9.2.1.k k451 (by decide)
                have k600 : τ9 ca_7 = 31 := sp9.2.1.k k452 (by decide)
                have k601 : τ9 us_8 = 31 := sp9.2.1.k k453 (by decide)
                have k602 : τ9 wo_9 = 31 := sp9.2.1.k k454 (by decide)
                have k603 : τ9 cm_10 = 31 := sp9.2.1.k k455 (by decide)
                have k604 : τ9 lc_11 = 24 := sp9.2.1.k k456 (by decide)
                have k605 : τ9 lh_12 = 25 := sp9.2.1.k k457 (by decide)
                have k606 : τ9 ld_13 = 26 := sp9.2.1.k k458 (by decide)
                have k607 : τ9 ds_228 = 34 := sp9.2.1.k k459 (by decide)
                have k608 : τ9 fr_229 = 34 := sp9.2.1.k k460 (by decide)
                have k609 : τ9 ca_230 = 31 := sp9.2.1.k k461 (by decide)
                have k610 : τ9 us_231 = 31 := sp9.2.1.k k462 (by decide)
                have k611 : τ9 wo_232 = 31 := sp9.2.1.k k463 (by decide)
                have k612 : τ9 cm_233 = 31 := sp9.2.1.k k464 (by decide)
                have k613 : τ9 lc_234 = 24 := sp9.2.1.k k465 (by decide)
                have k614 : τ9 lh_235 = 25 := sp9.2.1.k k466 (by decide)
                have k615 : τ9 ld_236 = 26 := sp9.2.1.k k467 (by decide)
                have k616 : τ9 ds_271 = 34 := sp9.2.1.k k468 (by decide)
                have k617 : τ9 fr_272 = 34 := sp9.2.1.k k469 (by decide)
                have k618 : τ9 ca_273 = 31 := sp9.2.1.k k470 (by decide)
                have k619 : τ9 us_274 = 31 := sp9.2.1.k k471 (by decide)
                have k620 : τ9 wo_275 = 31 := sp9.2.1.k k472 (by decide)
                have k621 : τ9 cm_276 = 31 := sp9.2.1.k k473 (by decide)
                have k622 : τ9 lc_277 = 24 := sp9.2.1.k k474 (by decide)
                have k623 : τ9 lh_278 = 25 := sp9.2.1.k k475 (by decide)
                have k624 : τ9 ld_279 = 26 := sp9.2.1.k k476 (by decide)
                have k625 : τ9 ds_386 = 34 := sp9.2.1.k k477 (by decide)
                have k626 : τ9 fr_387 = 34 := sp9.2.1.k k478 (by decide)
                have k627 : τ9 ca_388 = 31 := sp9.2.1.k k479 (by decide)
                have k628 : τ9 us_389 = 31 := sp9.2.1.k k480 (by decide)
                have k629 : τ9 wo_390 = 31 := sp9.2.1.k k481 (by decide)
                have k630 : τ9 cm_391 = 31 := sp9.2.1.k k482 (by decide)
                have k631 : τ9 lc_392 = 24 := sp9.2.1.k k483 (by decide)
                have k632 : τ9 lh_393 = 25 := sp9.2.1.k k484 (by decide)
                have k633 : τ9 ld_394 = 26 := sp9.2.1.k k485 (by decide)
                have k634 : τ9 ds_421 = 34 := sp9.2.1.k k486 (by decide)
                have k635 : τ9 fr_422 = 34 := sp9.2.1.k k487 (by decide)
                have k636 : τ9 ca_423 = 31 := sp9.2.1.k k488 (by decide)
                have k637 : τ9 us_424 = 31 := sp9.2.1.k k489 (by decide)
                have k638 : τ9 wo_425 = 31 := sp9.2.1.k k490 (by decide)
                have k639 : τ9 cm_426 = 31 := sp9.2.1.k k491 (by decide)
                have k640 : τ9 lc_427 = 24 := sp9.2.1.k k492 (by decide)
                have k641 : τ9 lh_428 = 25 := sp9.2.1.k k493 (by decide)
                have k642 : τ9 ld_429 = 26 := sp9.2.1.k k494 (by decide)
                have k643 : τ9 q319 = 22 := sp9.2.1.k k496 (by decide)
                refine tw_pop dX10_owe_145 rfl ?_
                refine tw_aload_n 1 dX10_owe_146 rfl rfl ?_
                obtain ⟨e644, f645, th_646, td_647, ds_648, fr_649, ca_650, us_651, wo_652, cm_653, lc_654, lh_655, ld_656, rfl, k657, k658, k659, k660, k661, k662, k663, k664, k665, k666, k667, k668, k669, k670, k671, k672⟩ := sp595.1 x 36 k596 (by decide)
                refine tw_get (v := .ref ld_656) rfl in_14 11 dX10_owe_147 w_1162 rfl (by decide) f645 rfl ?_
                obtain ⟨e673, f674, ⟨el675, rfl, k676⟩, k677⟩ := sp595.1 ld_656 26 k665 (by decide)
                refine tw_bi (tw_callV (M := mX10_owe) (pc := 150) okJx4a65c_size_8abf5 dX10_owe_150 w_1208 rfl f674 [] [] rfl rfl ⟨by decide, by decide⟩ (Nat.le_of_ble_eq_true rfl) (c26_size d g9 τ9 h592 sp595.1 ld_656 k665) 8 45 (Nat.le_of_ble_eq_true rfl) (Nat.le_of_ble_eq_true rfl)) (fun r680 h679 q678 => ?_) (fun E h1 q => q.elim)
                obtain ⟨q678e, q678r⟩ := q678
                rw [q678e, q678r]
                refine tw_iconst (v := 1) dX10_owe_153 (by decide) ?_
                refine tw_isub dX10_owe_154 ?_
                refine tw_nmi (fun v681 ev681 => ?_)
                exact tw_iret dX10_owe_155 rfl (Or.inl ⟨_, rfl, _, _, sp595, oq594, Or.inr (Or.inr (Or.inr (⟨ix0, ⟨c84, ⟨q128a, q128b⟩, ⟨q176a, q176b⟩⟩, by omega, by rw [ev681, hg1.1]; exact nI_pred _, th593, hga, hg1⟩)))⟩)
            · refine tw_iconst (v := 1) dX10_owe_83 (by decide) ?_
              refine tw_goto 88 dX10_owe_84 (by decide) ?_
              refine tw_iconst (v := 3) dX10_owe_88 (by decide) ?_
              refine tw_bi (tw_callV (M := mX10_owe) (pc := 89) okX10_refuse dX10_owe_89 w_1204 rfl f268 [.int 1, .int 3] [] rfl rfl ⟨by decide, by decide⟩ (Nat.le_of_ble_eq_true rfl) (c_X10_refuse d g τ h254 sp264.1 x kx 1 3 (by decide)) 10 60 (Nat.le_of_ble_eq_true rfl) (Nat.le_of_ble_eq_true rfl)) (fun r684 h683 q682 => ?_) (fun E h1 q => q.elim)
              obtain ⟨e685, he686, hs687, hr688, hc689⟩ := q682
              obtain ⟨rz690, tz691⟩ := (hc689 th263).2 rfl
              have th692 : tw_th (h683 x) = 3 := by rw [he686, tw_up_s]; exact tz691
              have sp693 : tw_sp d τ h g τ h683 := by rw [he686]; exact sp264.set kx (by decide) hs687
              rw [rz690]
              have oq694 : h683 o = h o := by rw [he686, tw_up_n (tw_nk ko kx (by decide))] <;> exact oq265
              refine tw_if_eq 97 dX10_owe_92 (by decide) (fun c695 => absurd c695 (by decide)) (fun _ => ?_)
              refine tw_iconst (v := 0) dX10_owe_95 (by decide) ?_
              exact tw_iret dX10_owe_96 rfl (Or.inl ⟨_, rfl, _, _, sp693, oq694, Or.inr (Or.inr (Or.inl ⟨ix0, ⟨c84, ⟨q128a, q128b⟩, ⟨q176a, q176b⟩⟩, fun z => absurd (tw_nIj (a := g.2 5) (b := 10) c304 (by omega) (by decide)) (by omega), th692, rfl⟩))⟩)

set_option maxHeartbeats 4000000 in
set_option maxRecDepth 100000 in
theorem c2_X10_pass (d : tw_D) (g : tw_G) (τ : tw_K) (h : tw_H) (hw : tw_wt d g τ h) (x : Nat) (kx : τ x = 36) (dy : Int32) (o : Nat) (ko : τ o = 12) : tw_Ct d mX10_pass 802 3208 [.ref x, .int dy] h (tw_qi (fun r9 h1 => ∃ g1 τ1, tw_sp d τ h g1 τ1 h1 ∧ h1 o = h o ∧ ((¬ tw_RP dy ∧ tw_th (h1 x) = 1 ∧ g1 = g) ∨ (tw_RP dy ∧ ¬ g.2 22 + tw_DN dy ≤ 3000 ∧ tw_th (h1 x) = 2 ∧ g1 = g) ∨ (tw_RP dy ∧ g.2 22 + tw_DN dy ≤ 3000 ∧ r9 = nI (g.2 22 + tw_DN dy) ∧ tw_th (h1 x) = 0 ∧ g1 = tw_g2 g 22 (g.2 22 + tw_DN dy)))) tw_nx) := by
  refine tw_of (by decide +kernel) (Nat.le_of_ble_eq_true rfl) ?_
  show tw_W d mX10_pass _ 0 [(0, .ref x), (1, .int dy)] [] h 802 3208
  have sp0 := tw_sp.rf hw
  have oq0 : h o = h o := rfl
  refine tw_aload_n 0 dX10_pass_0 rfl rfl ?_
  refine tw_iload_n 1 dX10_pass_1 rfl rfl ?_
  refine tw_iconst (v := 1) dX10_pass_2 (by decide) ?_
  refine tw_sipush (v := 400) dX10_pass_3 (by decide) ?_
  refine tw_bi (tw_callS (M := mX10_pass) (pc := 6) okX10_isIn dX10_pass_6 w_1196 [.int dy, .int 1, .int 400] [.ref x] rfl rfl ⟨by decide, by decide⟩ (Nat.le_of_ble_eq_true rfl) (c_X10_isIn d g τ h sp0.1 dy 1 400) 802 3208 (Nat.le_of_ble_eq_true rfl) (Nat.le_of_ble_eq_true rfl)) (fun r3 h2 q1 => ?_) (fun E h1 q => q.elim)
  obtain ⟨q1e, q1d⟩ := q1
  rw [q1e]
  rcases q1d with ⟨q1r, q1n⟩ | ⟨q1r, q1a, q1b⟩
  · rw [q1r]
    refine tw_if_ne 16 dX10_pass_9 (by decide) (fun c4 => absurd (by decide) c4) (fun _ => ?_)
    refine tw_iconst (v := 1) dX10_pass_12 (by decide) ?_
    refine tw_goto 17 dX10_pass_13 (by decide) ?_
    refine tw_iconst (v := 1) dX10_pass_17 (by decide) ?_
    obtain ⟨e5, f6, th_7, td_8, ds_9, fr_10, ca_11, us_12, wo_13, cm_14, lc_15, lh_16, ld_17, rfl, k18, k19, k20, k21, k22, k23, k24, k25, k26, k27, k28, k29, k30, k31, k32, k33⟩ := sp0.1 x 36 kx (by decide)
    refine tw_bi (tw_callV (M := mX10_pass) (pc := 18) okX10_start dX10_pass_18 w_1200 rfl f6 [.int 1, .int 1] [] rfl rfl ⟨by decide, by decide⟩ (Nat.le_of_ble_eq_true rfl) (c_X10_start d g τ h sp0.1 x kx 1 1 (by decide)) 802 3208 (Nat.le_of_ble_eq_true rfl) (Nat.le_of_ble_eq_true rfl)) (fun r36 h35 q34 => ?_) (fun E h1 q => q.elim)
    obtain ⟨e37, he38, hs39, hr40, hc41⟩ := q34
    obtain ⟨rz42, tz43⟩ := hc41.2 rfl
    have th44 : tw_th (h35 x) = 1 := by rw [he38, tw_up_s]; exact tz43
    have sp45 : tw_sp d τ h g τ h35 := by rw [he38]; exact sp0.set kx (by decide) hs39
    rw [rz42]
    have oq46 : h35 o = h o := by rw [he38, tw_up_n (tw_nk ko kx (by decide))] <;> exact oq0
    refine tw_if_ne 49 dX10_pass_21 (by decide) (fun _ => ?_) (fun c47 => absurd c47 (by decide))
    refine tw_iconst (v := 0) dX10_pass_49 (by decide) ?_
    exact tw_iret dX10_pass_50 rfl (Or.inl ⟨_, rfl, _, _, sp45, oq46, Or.inl ⟨q1n, th44, rfl⟩⟩)
  · rw [q1r]
    have rp : tw_RP dy := ⟨q1a, q1b⟩
    obtain ⟨D, hD1, hD4, eD⟩ := tw_pD rp
    subst eD
    have cD : tw_DN (nI D) = D := nI_clamp (by omega)
    refine tw_if_ne 16 dX10_pass_9 (by decide) (fun _ => ?_) (fun c48 => absurd c48 (by decide))
    refine tw_iconst (v := 0) dX10_pass_16 (by decide) ?_
    refine tw_iconst (v := 1) dX10_pass_17 (by decide) ?_
    obtain ⟨e49, f50, th_51, td_52, ds_53, fr_54, ca_55, us_56, wo_57, cm_58, lc_59, lh_60, ld_61, rfl, k62, k63, k64, k65, k66, k67, k68, k69, k70, k71, k72, k73, k74, k75, k76, k77⟩ := sp0.1 x 36 kx (by decide)
    refine tw_bi (tw_callV (M := mX10_pass) (pc := 18) okX10_start dX10_pass_18 w_1200 rfl f50 [.int 0, .int 1] [] rfl rfl ⟨by decide, by decide⟩ (Nat.le_of_ble_eq_true rfl) (c_X10_start d g τ h sp0.1 x kx 0 1 (by decide)) 802 3208 (Nat.le_of_ble_eq_true rfl) (Nat.le_of_ble_eq_true rfl)) (fun r80 h79 q78 => ?_) (fun E h1 q => q.elim)
    obtain ⟨e81, he82, hs83, hr84, hc85⟩ := q78
    obtain ⟨rz86, tz87⟩ := hc85.1 rfl
    have th88 : tw_th (h79 x) = 0 := by rw [he82, tw_up_s]; exact tz87
    have sp89 : tw_sp d τ h g τ h79 := by rw [he82]; exact sp0.set kx (by decide) hs83
    rw [rz86]
    have oq90 : h79 o = h o := by rw [he82, tw_up_n (tw_nk ko kx (by decide))] <;> exact oq0
    refine tw_if_ne 49 dX10_pass_21 (by decide) (fun c91 => absurd (by decide) c91) (fun _ => ?_)
    refine tw_aload_n 0 dX10_pass_24 rfl rfl ?_
    refine tw_aload_n 0 dX10_pass_25 rfl rfl ?_
    obtain ⟨e92, f93, th_94, td_95, ds_96, fr_97, ca_98, us_99, wo_100, cm_101, lc_102, lh_103, ld_104, rfl, k105, k106, k107, k108, k109, k110, k111, k112, k113, k114, k115, k116, k117, k118, k119, k120⟩ := sp89.1 x 36 kx (by decide)
    refine tw_get (v := .int td_95) rfl in_14 1 dX10_pass_26 w_1152 rfl (by decide) f93 rfl ?_
    refine tw_iload_n 1 dX10_pass_29 rfl rfl ?_
    refine tw_iadd dX10_pass_30 ?_
    refine tw_nmi (fun v121 ev121 => ?_)
    refine tw_sipush (v := 3000) dX10_pass_31 (by decide) ?_
    refine tw_icmp_le 41 dX10_pass_34 (by decide) (fun c122 => ?_) (fun c122 => ?_)
    · have le9 : g.2 22 + D ≤ 3000 := (tw_dle2 k119 ev121 k120 hD4).mp c122
      refine tw_iconst (v := 0) dX10_pass_41 (by decide) ?_
      refine tw_iconst (v := 2) dX10_pass_42 (by decide) ?_
      refine tw_bi (tw_callV (M := mX10_pass) (pc := 43) okX10_refuse dX10_pass_43 w_1204 rfl f93 [.int 0, .int 2] [] rfl rfl ⟨by decide, by decide⟩ (Nat.le_of_ble_eq_true rfl) (c_X10_refuse d g τ h79 sp89.1 x kx 0 2 (by decide)) 802 3208 (Nat.le_of_ble_eq_true rfl) (Nat.le_of_ble_eq_true rfl)) (fun r125 h124 q123 => ?_) (fun E h1 q => q.elim)
      obtain ⟨e126, he127, hs128, hr129, hc130⟩ := q123
      obtain ⟨rz131, tz132⟩ := (hc130 th88).1 rfl
      have th133 : tw_th (h124 x) = 0 := by rw [he127, tw_up_s]; exact tz132
      have sp134 : tw_sp d τ h g τ h124 := by rw [he127]; exact sp89.set kx (by decide) hs128
      rw [rz131]
      have oq135 : h124 o = h o := by rw [he127, tw_up_n (tw_nk ko kx (by decide))] <;> exact oq90
      refine tw_if_eq 51 dX10_pass_46 (by decide) (fun _ => ?_) (fun c136 => absurd (by decide) c136)
      refine tw_iconst (v := 0) dX10_pass_51 (by decide) ?_
      refine tw_istore_n [(2, .int 0), (0, .ref x), (1, .int (nI D))] dX10_pass_52 rfl (by decide) rfl ?_
      have L140 : ∀ (r138 k137 : Nat) (h143 : tw_H) (sp144 : tw_sp d τ h (tw_g2 g 22 (g.2 22 + k137)) τ h143) (th145 : tw_th (h143 x) = 0) (oq146 : h143 o = h o), D + 1 ≤ k137 + r138 → k137 ≤ D → tw_W d mX10_pass (tw_qi (fun r9 h1 => ∃ g1 τ1, tw_sp d τ h g1 τ1 h1 ∧ h1 o = h o ∧ ((¬ tw_RP (nI D) ∧ tw_th (h1 x) = 1 ∧ g1 = g) ∨ (tw_RP (nI D) ∧ ¬ g.2 22 + tw_DN (nI D) ≤ 3000 ∧ tw_th (h1 x) = 2 ∧ g1 = g) ∨ (tw_RP (nI D) ∧ g.2 22 + tw_DN (nI D) ≤ 3000 ∧ r9 = nI (g.2 22 + tw_DN (nI D)) ∧ tw_th (h1 x) = 0 ∧ g1 = tw_g2 g 22 (g.2 22 + tw_DN (nI D))))) tw_nx) 53 [(0, .ref x), (1, .int (nI D)), (2, .int (nI k137))] [] h143 (0 + 2 * r138) (0 + 8 * r138) := by
        intro r138
        induction r138 with
        | zero => intro k137 h143 sp144 th145 oq146 hk141 hk142; exact absurd hk141 (by omega)
        | succ r138 ih139 =>
          intro k137 h143 sp144 th145 oq146 hk141 hk142
          obtain ⟨g147, eg147⟩ : ∃ z : tw_G, z = tw_g2 g 22 (g.2 22 + k137) := ⟨_, rfl⟩
          rw [← eg147] at sp144
          have tg147 : g147.2 22 = g.2 22 + k137 := by rw [eg147]; rfl
          refine tw_iload_n 2 dX10_pass_53 rfl rfl ?_
          refine tw_iload_n 1 dX10_pass_54 rfl rfl ?_
          refine tw_icmp_ge 232 dX10_pass_55 (by decide) (fun c148 => ?_) (fun c148 => ?_)
          · refine tw_aload_n 0 dX10_pass_232 rfl rfl ?_
            obtain ⟨e149, f150, th_151, td_152, ds_153, fr_154, ca_155, us_156, wo_157, cm_158, lc_159, lh_160, ld_161, rfl, k162, k163, k164, k165, k166, k167, k168, k169, k170, k171, k172, k173, k174, k175, k176, k177⟩ := sp144.1 x 36 kx (by decide)
            refine tw_get (v := .int td_152) rfl in_14 1 dX10_pass_233 w_1152 rfl (by decide) f150 rfl ?_
            exact tw_iret dX10_pass_236 rfl (Or.inl ⟨_, rfl, _, _, sp144, oq146, Or.inr (Or.inr ⟨rp, by rw [cD]; exact le9, by rw [cD, k176, tg147, show k137 = D from Nat.le_antisymm hk142 (tw_kge c148 (by omega))], th145, by rw [eg147, cD, show k137 = D from Nat.le_antisymm hk142 (tw_kge c148 (by omega))]⟩)⟩)
          · refine tw_aload_n 0 dX10_pass_58 rfl rfl ?_
            refine tw_dup dX10_pass_59 rfl ?_
            obtain ⟨e178, f179, th_180, td_181, ds_182, fr_183, ca_184, us_185, wo_186, cm_187, lc_188, lh_189, ld_190, rfl, k191, k192, k193, k194, k195, k196, k197, k198, k199, k200, k201, k202, k203, k204, k205, k206⟩ := sp144.1 x 36 kx (by decide)
            refine tw_get (v := .int td_181) rfl in_14 1 dX10_pass_60 w_1152 rfl (by decide) f179 rfl ?_
            refine tw_iconst (v := 1) dX10_pass_63 (by decide) ?_
            refine tw_iadd dX10_pass_64 ?_
            refine tw_nmi (fun v207 ev207 => ?_)
            have kl9 : k137 < D := tw_klt (N := D) c148 hk142 (by omega)
            obtain ⟨g208, eg208⟩ : ∃ z : tw_G, z = tw_g2 g147 22 (g147.2 22 + 1) := ⟨_, rfl⟩
            have q209 : v207 = nI (g208.2 22) := by rw [ev207, k205, nI_1, eg208]; rfl
            subst q209
            refine tw_put rfl in_14 tyX10 tyX10_ok nmX10 1 dX10_pass_65 w_1152 rfl (by decide) f179 rfl rfl rfl rfl (Nat.le_of_ble_eq_true rfl) [.int th_180, .int (nI (g208.2 22)), .int (g147.1 1), .ref ds_182, .ref fr_183, .ref ca_184, .ref us_185, .ref wo_186, .ref cm_187, .ref lc_188, .ref lh_189, .ref ld_190] rfl ?_
            obtain ⟨h210, eh210⟩ : ∃ z : tw_H, z = tw_up h143 x (.inr (14, [.int th_180, .int (nI (g208.2 22)), .int (g147.1 1), .ref ds_182, .ref fr_183, .ref ca_184, .ref us_185, .ref wo_186, .ref cm_187, .ref lc_188, .ref lh_189, .ref ld_190])) := ⟨_, rfl⟩
            rw [← eh210]
            have th211 : tw_th (h210 x) = 0 := by rw [eh210, tw_up_s]; have z := th145; rw [f179] at z; exact z
            have oq212 : h210 o = h o := by rw [eh210, tw_up_n (tw_nk ko kx (by decide))] <;> exact oq146
            have sp213 : tw_sp d τ h g208 τ h210 := by rw [eh210, eg208]; exact sp144.m36d kx (by rw [← eg208]; exact ⟨th_180, (nI (g208.2 22)), ds_182, fr_183, ca_184, us_185, wo_186, cm_187, lc_188, lh_189, ld_190, (by rw [eg208]; rfl), k191, k192, k193, k194, k195, k196, k197, k198, k199, (by (try rw [eg208]); exact k200), (by (try rw [eg208]); exact k201), (by (try rw [eg208]); exact k202), (by (try rw [eg208]); exact k203), (by (try rw [eg208]); exact k204), rfl, (by rw [eg208]; exact (show g147.2 22 + 1 ≤ 3000 by omega))⟩)
            refine tw_aload_n 0 dX10_pass_68 rfl rfl ?_
            obtain ⟨e214, f215, th_216, td_217, ds_218, fr_219, ca_220, us_221, wo_222, cm_223, lc_224, lh_225, ld_226, rfl, k227, k228, k229, k230, k231, k232, k233, k234, k235, k236, k237, k238, k239, k240, k241, k242⟩ := sp213.1 x 36 kx (by decide)
            refine tw_get (v := .ref lh_225) rfl in_14 10 dX10_pass_69 w_1161 rfl (by decide) f215 rfl ?_
            obtain ⟨e243, f244, ⟨el245, rfl, k246⟩, k247⟩ := sp213.1 lh_225 25 k234 (by decide)
            refine tw_br (tw_callV (M := mX10_pass) (pc := 72) okJx4a65c_iterator_32c93 dX10_pass_72 w_1386 rfl f244 [] [] rfl rfl ⟨by decide, by decide⟩ (Nat.le_of_ble_eq_true rfl) (c_iterator d h210 lh_225 el245 (g208.1 4) (nI (g208.2 4)) f244) ((0 + 2 * (r138 + 1)) - 1) ((0 + 8 * (r138 + 1)) - 4) (by omega) (by omega)) (fun it248 h249 q250 => ?_) (fun E h1 q => q.elim)
            obtain ⟨q250n, q250e⟩ := q250
            rw [q250e]
            have n251 := sp213.nn q250n
            have z252 := sp213.1.none q250n
            obtain ⟨h253, eh253⟩ : ∃ z : tw_H, z = tw_up h210 it248 (.inr (2, [.int 0, .int (-1), .int (g208.1 4), .ref lh_225])) := ⟨_, rfl⟩
            rw [← eh253]
            have th254 : tw_th (h253 x) = 0 := by rw [eh253, tw_up_n (tw_kF sp213.1 kx (by decide) q250n)] <;> exact th211
            have oq255 : h253 o = h o := by rw [eh253, tw_up_n (tw_kF sp213.1 ko (by decide) q250n)] <;> exact oq212
            have sp256 : tw_sp d τ h g208 τ h253 := by rw [eh253]; exact sp213.mk q250n
            have f257 : h253 it248 = some (.inr (2, [.int 0, .int (-1), .int (g208.1 4), .ref lh_225])) := by rw [eh253]; exact tw_up_s
            refine tw_astore_n [(3, .ref it248), (0, .ref x), (1, .int (nI D)), (2, .int (nI k137))] dX10_pass_75 rfl (by decide) rfl ?_
            have L262 : ∀ (r258 j259 : Nat) (l260 : Int32) (h263 : tw_H) (sp264 : tw_sp d τ (tw_rm h253 it248) g208 τ h263) (ft265 : h263 it248 = some (.inr (2, [.int (nI j259), .int l260, .int (g208.1 4), .ref lh_225]))) (zt266 : τ it248 = 0) (th267 : tw_th (h263 x) = 0) (oq268 : h263 o = h o), g208.2 4 + 1 ≤ j259 + r258 → j259 ≤ g208.2 4 → tw_W d mX10_pass (tw_qi (fun r9 h1 => ∃ g1 τ1, tw_sp d τ h g1 τ1 h1 ∧ h1 o = h o ∧ ((¬ tw_RP (nI D) ∧ tw_th (h1 x) = 1 ∧ g1 = g) ∨ (tw_RP (nI D) ∧ ¬ g.2 22 + tw_DN (nI D) ≤ 3000 ∧ tw_th (h1 x) = 2 ∧ g1 = g) ∨ (tw_RP (nI D) ∧ g.2 22 + tw_DN (nI D) ≤ 3000 ∧ r9 = nI (g.2 22 + tw_DN (nI D)) ∧ tw_th (h1 x) = 0 ∧ g1 = tw_g2 g 22 (g.2 22 + tw_DN (nI D))))) tw_nx) 76 [(0, .ref x), (1, .int (nI D)), (2, .int (nI k137)), (3, .ref it248)] [] h263 ((0 + 2 * (r138 + 1)) - 1) ((0 + 8 * (r138 + 1)) - 4) := by
              intro r258
              induction r258 with
              | zero => intro j259 l260 h263 sp264 ft265 zt266 th267 oq268 hk269 hk270; exact absurd hk269 (by omega)
              | succ r258 ih261 =>
                intro j259 l260 h263 sp264 ft265 zt266 th267 oq268 hk269 hk270
                refine tw_aload_n 3 dX10_pass_76 rfl rfl ?_
                obtain ⟨e271, f272, ⟨el273, rfl, k274⟩, k275⟩ := sp264.1 lh_225 25 k234 (by decide)
                refine tw_bi (tw_callF (M := mX10_pass) (pc := 77) (n9 := 0) (ci := 2) tw_hasNext ok_itHas w_1416 w_1414 (fun s H z => z.2.2.2.2.2.2.2.2.1) (by decide +kernel) dX10_pass_77 w_1410 rfl ft265 [] [] rfl rfl ⟨by decide, by decide⟩ (Nat.le_of_ble_eq_true rfl) (c_hasNext d h263 it248 lh_225 el273 j259 (g208.2 4) l260 (g208.1 4) (g208.1 4) ft265 f272 (by omega) (tw_lim25 sp264.1 k234)) ((0 + 2 * (r138 + 1)) - 1) ((0 + 8 * (r138 + 1)) - 4) (by omega) (by omega)) (fun r278 h277 q276 => ?_) (fun E h1 q => q.elim)
                obtain ⟨q276e, q276q⟩ := q276
                rw [q276e]
                rcases q276q with ⟨q276r, q276j⟩ | ⟨q276r, q276j⟩
                · rw [q276r]
                  refine tw_if_eq 145 dX10_pass_82 (by decide) (fun _ => ?_) (fun c279 => absurd (by decide) c279)
                  refine tw_aload_n 0 dX10_pass_145 rfl rfl ?_
                  obtain ⟨e280, f281, th_282, td_283, ds_284, fr_285, ca_286, us_287, wo_288, cm_289, lc_290, lh_291, ld_292, rfl, k293, k294, k295, k296, k297, k298, k299, k300, k301, k302, k303, k304, k305, k306, k307, k308⟩ := sp264.1 x 36 kx (by decide)
                  refine tw_get (v := .ref lc_290) rfl in_14 9 dX10_pass_146 w_1160 rfl (by decide) f281 rfl ?_
                  obtain ⟨e309, f310, ⟨el311, rfl, k312⟩, k313⟩ := sp264.1 lc_290 24 k299 (by decide)
                  refine tw_br (tw_callV (M := mX10_pass) (pc := 149) okJx4a65c_iterator_32c93 dX10_pass_149 w_1386 rfl f310 [] [] rfl rfl ⟨by decide, by decide⟩ (Nat.le_of_ble_eq_true rfl) (c_iterator d h263 lc_290 el311 (g208.1 3) (nI (g208.2 3)) f310) (((0 + 2 * (r138 + 1)) - 1) - 1) (((0 + 8 * (r138 + 1)) - 4) - 4) (by omega) (by omega)) (fun it314 h315 q316 => ?_) (fun E h1 q => q.elim)
                  obtain ⟨q316n, q316e⟩ := q316
                  rw [q316e]
                  have n317 := sp264.nn q316n
                  have z318 := sp264.1.none q316n
                  have ne319 := tw_neF ft265 q316n
                  obtain ⟨h320, eh320⟩ : ∃ z : tw_H, z = tw_up h263 it314 (.inr (2, [.int 0, .int (-1), .int (g208.1 3), .ref lc_290])) := ⟨_, rfl⟩
                  rw [← eh320]
                  have th321 : tw_th (h320 x) = 0 := by rw [eh320, tw_up_n (tw_kF sp264.1 kx (by decide) q316n)] <;> exact th267
                  have oq322 : h320 o = h o := by rw [eh320, tw_up_n (tw_kF sp264.1 ko (by decide) q316n)] <;> exact oq268
                  have sp323 : tw_sp d τ (tw_rm h253 it248) g208 τ h320 := by rw [eh320]; exact sp264.mk q316n
                  have f324 : h320 it248 = some (.inr (2, [.int (nI j259), .int l260, .int (g208.1 4), .ref lh_225])) := by rw [eh320, tw_up_n ne319]; exact ft265
                  have f325 : h320 it314 = some (.inr (2, [.int 0, .int (-1), .int (g208.1 3), .ref lc_290])) := by rw [eh320]; exact tw_up_s
                  refine tw_astore_n [(3, .ref it314), (0, .ref x), (1, .int (nI D)), (2, .int (nI k137))] dX10_pass_152 rfl (by decide) rfl ?_
                  have L330 : ∀ (r326 j327 : Nat) (l328 : Int32) (h331 : tw_H) (sp332 : tw_sp d τ (tw_rm h320 it314) g208 τ h331) (ft333 : h331 it314 = some (.inr (2, [.int (nI j327), .int l328, .int (g208.1 3), .ref lc_290]))) (zt334 : τ it314 = 0) (th335 : tw_th (h331 x) = 0) (oq336 : h331 o = h o), g208.2 3 + 1 ≤ j327 + r326 → j327 ≤ g208.2 3 → tw_W d mX10_pass (tw_qi (fun r9 h1 => ∃ g1 τ1, tw_sp d τ h g1 τ1 h1 ∧ h1 o = h o ∧ ((¬ tw_RP (nI D) ∧ tw_th (h1 x) = 1 ∧ g1 = g) ∨ (tw_RP (nI D) ∧ ¬ g.2 22 + tw_DN (nI D) ≤ 3000 ∧ tw_th (h1 x) = 2 ∧ g1 = g) ∨ (tw_RP (nI D) ∧ g.2 22 + tw_DN (nI D) ≤ 3000 ∧ r9 = nI (g.2 22 + tw_DN (nI D)) ∧ tw_th (h1 x) = 0 ∧ g1 = tw_g2 g 22 (g.2 22 + tw_DN (nI D))))) tw_nx) 153 [(0, .ref x), (1, .int (nI D)), (2, .int (nI k137)), (3, .ref it314)] [] h331 (((0 + 2 * (r138 + 1)) - 1) - 1) (((0 + 8 * (r138 + 1)) - 4) - 4) := by
                    intro r326
                    induction r326 with
                    | zero => intro j327 l328 h331 sp332 ft333 zt334 th335 oq336 hk337 hk338; exact absurd hk337 (by omega)
                    | succ r326 ih329 =>
                      intro j327 l328 h331 sp332 ft333 zt334 th335 oq336 hk337 hk338
                      have f339 := (sp332.2.2 _ _ (by unfold tw_rm; rw [if_neg ne319]; exact f324) zt266).1
                      have z340 := (sp332.2.2 _ _ (by unfold tw_rm; rw [if_neg ne319]; exact f324) zt266).2
                      refine tw_aload_n 3 dX10_pass_153 rfl rfl ?_
                      obtain ⟨e341, f342, ⟨el343, rfl, k344⟩, k345⟩ := sp332.1 lc_290 24 k299 (by decide)
                      refine tw_bi (tw_callF (M := mX10_pass) (pc := 154) (n9 := 0) (ci := 2) tw_hasNext ok_itHas w_1416 w_1414 (fun s H z => z.2.2.2.2.2.2.2.2.1) (by decide +kernel) dX10_pass_154 w_1410 rfl ft333 [] [] rfl rfl ⟨by decide, by decide⟩ (Nat.le_of_ble_eq_true rfl) (c_hasNext d h331 it314 lc_290 el343 j327 (g208.2 3) l328 (g208.1 3) (g208.1 3) ft333 f342 (by omega) (tw_lim24 sp332.1 k299)) (((0 + 2 * (r138 + 1)) - 1) - 1) (((0 + 8 * (r138 + 1)) - 4) - 4) (by omega) (by omega)) (fun r348 h347 q346 => ?_) (fun E h1 q => q.elim)
                      obtain ⟨q346e, q346q⟩ := q346
                      rw [q346e]
                      rcases q346q with ⟨q346r, q346j⟩ | ⟨q346r, q346j⟩
                      · rw [q346r]
                        refine tw_if_eq 226 dX10_pass_159 (by decide) (fun _ => ?_) (fun c349 => absurd (by decide) c349)
                        obtain ⟨v350, ev350⟩ : ∃ y : Int32, y = (nI k137) + 1 := ⟨_, rfl⟩
                        refine tw_iinc [(2, .int v350), (0, .ref x), (1, .int (nI D)), (3, .ref it314)] 2 dX10_pass_226 rfl (by rw [ev350]; rfl) (by decide) rfl ?_
                        refine tw_goto 53 dX10_pass_229 (by decide) ?_
                        have qv350 := tw_nI3 ev350
                        rw [qv350]
                        refine tw_lv [1, 2, 0] rfl ?_
                        refine tw_less (c2 := 0 + 2 * r138) (n2 := 0 + 8 * r138) (by omega) (by omega) ?_
                        exact ih139 (k137 + 1) _ (by have z := (sp256.trm n251 (sp323.trm n317 sp332)); rw [eg208, eg147, tw_g2_1] at z; exact z) th335 oq336 (by omega) (by omega)
                      · rw [q346r]
                        refine tw_if_eq 226 dX10_pass_159 (by decide) (fun c351 => absurd c351 (by decide)) (fun _ => ?_)
                        refine tw_aload_n 3 dX10_pass_162 rfl rfl ?_
                        have k352 : τ el343 = 27 := k344.resolve_left (fun q => absurd q346j (by rw [q.2.1]; exact Nat.not_lt_zero _))
                        obtain ⟨e353, f354, ⟨F355, rfl, hc356, hc357⟩, un358⟩ := sp332.1 el343 27 k352 (by decide)
                        obtain ⟨y359, hy360, ky361⟩ := hc357 j327 q346j
                        refine tw_br (tw_callF (M := mX10_pass) (pc := 163) (n9 := 0) (ci := 2) tw_next ok_itNext w_1425 w_1423 (fun s H z => z.2.2.2.2.2.2.2.2.2) (by decide +kernel) dX10_pass_163 w_1420 rfl ft333 [] [] rfl rfl ⟨by decide, by decide⟩ (Nat.le_of_ble_eq_true rfl) (c_next d h331 it314 lc_290 el343 j327 (g208.2 3) y359 l328 (g208.1 3) F355 ft333 f342 f354 q346j hc356 hy360) (((0 + 2 * (r138 + 1)) - 1) - 1) (((0 + 8 * (r138 + 1)) - 4) - 4) (by omega) (by omega)) (fun r364 h363 q362 => ?_) (fun E h1 q => q.elim)
                        obtain ⟨q362r, q362e⟩ := q362
                        rw [q362r]
                        have sp365 : tw_sp d τ (tw_rm h320 it314) g208 τ h363 := by rw [q362e]; exact sp332.wl tw_rm_s zt334
                        have f366 : h363 it248 = some (.inr (2, [.int (nI j259), .int l260, .int (g208.1 4), .ref lh_225])) := by rw [q362e, tw_up_n ne319]; exact f339
                        have th367 : tw_th (h363 x) = 0 := by rw [q362e, tw_up_n (tw_nk kx zt334 (by decide))] <;> exact th335
                        have oq368 : h363 o = h o := by rw [q362e, tw_up_n (tw_nk ko zt334 (by decide))] <;> exact oq336
                        have f369 : h363 it314 = some (.inr (2, [.int (nI (j327 + 1)), .int (nI j327), .int (g208.1 3), .ref lc_290])) := by rw [q362e]; exact tw_up_s
                        obtain ⟨e370, f371, r_372, c_373, v_374, o_375, t_376, rfl, k377, k378, k379, k380, k381⟩ := sp365.1 y359 21 ky361 (by decide)
                        refine tw_castS (ci := 11) rfl dX10_pass_168 w_1212 f371 ?_
                        refine tw_astore [(4, .ref y359), (0, .ref x), (1, .int (nI D)), (2, .int (nI k137)), (3, .ref it314)] dX10_pass_171 (by decide) rfl ?_
                        refine tw_aload_n 1 dX10_pass_173 rfl rfl ?_
                        obtain ⟨e382, f383, th_384, td_385, ds_386, fr_387, ca_388, us_389, wo_390, cm_391, lc_392, lh_393, ld_394, rfl, k395, k396, k397, k398, k399, k400, k401, k402, k403, k404, k405, k406, k407, k408, k409, k410⟩ := sp365.1 x 36 kx (by decide)
                        refine tw_get (v := .int td_385) rfl in_14 1 dX10_pass_174 w_1152 rfl (by decide) f383 rfl ?_
                        refine tw_bipush (v := 30) dX10_pass_177 (by decide) ?_
                        refine tw_irem dX10_pass_179 (by decide) ?_
                        refine tw_nmi (fun v411 ev411 => ?_)
                        refine tw_if_ne 197 dX10_pass_180 (by decide) (fun c412 => ?_) (fun c412 => ?_)
                        · refine tw_lconst (v := 0) dX10_pass_197 (by decide) ?_
                          refine tw_lstore [(5, .long 0), (4, .ref y359), (0, .ref x), (1, .int (nI D)), (2, .int (nI k137)), (3, .ref it314)] dX10_pass_198 (by decide) rfl ?_
                          refine tw_aload 1 dX10_pass_200 rfl ?_
                          refine tw_get (v := .ref v_374) rfl in_11 2 dX10_pass_202 w_1221 rfl (by decide) f371 rfl ?_
                          refine tw_iconst (v := 1) dX10_pass_205 (by decide) ?_
                          refine tw_dup2 dX10_pass_206 rfl rfl ?_
                          obtain ⟨e413, f414, F415, rfl⟩ := sp365.1 v_374 31 k377 (by decide)
                          obtain ⟨v416, ev416⟩ : ∃ y : Int64, F415 (1 : Int32).toNatClampNeg = y := ⟨_, rfl⟩
                          refine tw_lald (v := v416) dX10_pass_207 f414 (vp_in_nI (n := 1) (by decide) (by decide)) ev416 ?_
                          refine tw_lload 0 dX10_pass_208 rfl ?_
                          refine tw_lsub dX10_pass_210 ?_
                          refine tw_nml (fun v417 ev417 => ?_)
                          refine tw_last dX10_pass_211 f414 (vp_in_nI (n := 1) (by decide) (by decide)) ?_
                          obtain ⟨h418, eh418⟩ : ∃ z : tw_H, z = tw_up h363 v_374 (.inl (d.2 1, 2, .inr (.inl (vp_updL F415 (1 : Int32).toNatClampNeg v417)))) := ⟨_, rfl⟩
                          rw [← eh418]
                          have th419 : tw_th (h418 x) = 0 := by rw [eh418, tw_up_n (tw_nk kx k377 (by decide))] <;> exact th367
                          have oq420 : h418 o = h o := by rw [eh418, tw_up_n (tw_nk ko k377 (by decide))] <;> exact oq368
                          have sp421 : tw_sp d τ (tw_rm h320 it314) g208 τ h418 := by rw [eh418]; exact sp365.set k377 (by decide) ⟨_, rfl⟩
                          have f422 : h418 it248 = some (.inr (2, [.int (nI j259), .int l260, .int (g208.1 4), .ref lh_225])) := by rw [eh418, tw_up_n (fun q => absurd (z340) (by rw [q, k377]; decide))]; exact f366
                          have f423 : h418 it314 = some (.inr (2, [.int (nI (j327 + 1)), .int (nI j327), .int (g208.1 3), .ref lc_290])) := by rw [eh418, tw_up_n (fun q => absurd (zt334) (by rw [q, k377]; decide))]; exact f369
                          refine tw_aload_n 2 dX10_pass_212 rfl rfl ?_
                          obtain ⟨e424, f425, th_426, td_427, ds_428, fr_429, ca_430, us_431, wo_432, cm_433, lc_434, lh_435, ld_436, rfl, k437, k438, k439, k440, k441, k442, k443, k444, k445, k446, k447, k448, k449, k450, k451, k452⟩ := sp421.1 x 36 kx (by decide)
                          refine tw_get (v := .ref wo_432) rfl in_14 7 dX10_pass_213 w_1158 rfl (by decide) f425 rfl ?_
                          refine tw_iconst (v := 1) dX10_pass_216 (by decide) ?_
                          refine tw_dup2 dX10_pass_217 rfl rfl ?_
                          obtain ⟨e453, f454, F455, rfl⟩ := sp421.1 wo_432 31 k441 (by decide)
                          obtain ⟨v456, ev456⟩ : ∃ y : Int64, F455 (1 : Int32).toNatClampNeg = y := ⟨_, rfl⟩
                          refine tw_lald (v := v456) dX10_pass_218 f454 (vp_in_nI (n := 1) (by decide) (by decide)) ev456 ?_
                          refine tw_lload 0 dX10_pass_219 rfl ?_
                          refine tw_ladd dX10_pass_221 ?_
                          refine tw_nml (fun v457 ev457 => ?_)
                          refine tw_last dX10_pass_222 f454 (vp_in_nI (n := 1) (by decide) (by decide)) ?_
                          obtain ⟨h458, eh458⟩ : ∃ z : tw_H, z = tw_up h418 wo_432 (.inl (d.2 1, 2, .inr (.inl (vp_updL F455 (1 : Int32).toNatClampNeg v457)))) := ⟨_, rfl⟩
                          rw [← eh458]
                          have th459 : tw_th (h458 x) = 0 := by rw [eh458, tw_up_n (tw_nk kx k441 (by decide))] <;> exact th419
                          have oq460 : h458 o = h o := by rw [eh458, tw_up_n (tw_nk ko k441 (by decide))] <;> exact oq420
                          have sp461 : tw_sp d τ (tw_rm h320 it314) g208 τ h458 := by rw [eh458]; exact sp421.set k441 (by decide) ⟨_, rfl⟩
                          have f462 : h458 it248 = some (.inr (2, [.int (nI j259), .int l260, .int (g208.1 4), .ref lh_225])) := by rw [eh458, tw_up_n (fun q => absurd (z340) (by rw [q, k441]; decide))]; exact f422
                          have f463 : h458 it314 = some (.inr (2, [.int (nI (j327 + 1)), .int (nI j327), .int (g208.1 3), .ref lc_290])) := by rw [eh458, tw_up_n (fun q => absurd (zt334) (by rw [q, k441]; decide))]; exact f423
                          refine tw_goto 153 dX10_pass_223 (by decide) ?_
                          refine tw_lv [2, 3, 4, 5] rfl ?_
                          exact ih329 ((j327 + 1)) (nI j327)  _ sp461 f463 zt334 th459 oq460 (by omega) (by omega)
                        · refine tw_aload 0 dX10_pass_183 rfl ?_
                          refine tw_get (v := .ref v_374) rfl in_11 2 dX10_pass_185 w_1221 rfl (by decide) f371 rfl ?_
                          refine tw_iconst (v := 1) dX10_pass_188 (by decide) ?_
                          obtain ⟨e464, f465, F466, rfl⟩ := sp365.1 v_374 31 k377 (by decide)
                          obtain ⟨v467, ev467⟩ : ∃ y : Int64, F466 (1 : Int32).toNatClampNeg = y := ⟨_, rfl⟩
                          refine tw_lald (v := v467) dX10_pass_189 f465 (vp_in_nI (n := 1) (by decide) (by decide)) ev467 ?_
                          refine tw_ldc2 (v := 10000) dX10_pass_190 w_1432 ?_
                          refine tw_ldiv dX10_pass_193 (by decide) ?_
                          refine tw_nml (fun v468 ev468 => ?_)
                          refine tw_goto 198 dX10_pass_194 (by decide) ?_
                          refine tw_lstore [(5, .long v468), (4, .ref y359), (0, .ref x), (1, .int (nI D)), (2, .int (nI k137)), (3, .ref it314)] dX10_pass_198 (by decide) rfl ?_
                          refine tw_aload 1 dX10_pass_200 rfl ?_
                          refine tw_get (v := .ref v_374) rfl in_11 2 dX10_pass_202 w_1221 rfl (by decide) f371 rfl ?_
                          refine tw_iconst (v := 1) dX10_pass_205 (by decide) ?_
                          refine tw_dup2 dX10_pass_206 rfl rfl ?_
                          obtain ⟨v469, ev469⟩ : ∃ y : Int64, F466 (1 : Int32).toNatClampNeg = y := ⟨_, rfl⟩
                          refine tw_lald (v := v469) dX10_pass_207 f465 (vp_in_nI (n := 1) (by decide) (by decide)) ev469 ?_
                          refine tw_lload 0 dX10_pass_208 rfl ?_
                          refine tw_lsub dX10_pass_210 ?_
                          refine tw_nml (fun v470 ev470 => ?_)
                          refine tw_last dX10_pass_211 f465 (vp_in_nI (n := 1) (by decide) (by decide)) ?_
                          obtain ⟨h471, eh471⟩ : ∃ z : tw_H, z = tw_up h363 v_374 (.inl (d.2 1, 2, .inr (.inl (vp_updL F466 (1 : Int32).toNatClampNeg v470)))) := ⟨_, rfl⟩
                          rw [← eh471]
                          have th472 : tw_th (h471 x) = 0 := by rw [eh471, tw_up_n (tw_nk kx k377 (by decide))] <;> exact th367
                          have oq473 : h471 o = h o := by rw [eh471, tw_up_n (tw_nk ko k377 (by decide))] <;> exact oq368
                          have sp474 : tw_sp d τ (tw_rm h320 it314) g208 τ h471 := by rw [eh471]; exact sp365.set k377 (by decide) ⟨_, rfl⟩
                          have f475 : h471 it248 = some (.inr (2, [.int (nI j259), .int l260, .int (g208.1 4), .ref lh_225])) := by rw [eh471, tw_up_n (fun q => absurd (z340) (by rw [q, k377]; decide))]; exact f366
                          have f476 : h471 it314 = some (.inr (2, [.int (nI (j327 + 1)), .int (nI j327), .int (g208.1 3), .ref lc_290])) := by rw [eh471, tw_up_n (fun q => absurd (zt334) (by rw [q, k377]; decide))]; exact f369
                          refine tw_aload_n 2 dX10_pass_212 rfl rfl ?_
                          obtain ⟨e477, f478, th_479, td_480, ds_481, fr_482, ca_483, us_484, wo_485, cm_486, lc_487, lh_488, ld_489, rfl, k490, k491, k492, k493, k494, k495, k496, k497, k498, k499, k500, k501, k502, k503, k504, k505⟩ := sp474.1 x 36 kx (by decide)
                          refine tw_get (v := .ref wo_485) rfl in_14 7 dX10_pass_213 w_1158 rfl (by decide) f478 rfl ?_
                          refine tw_iconst (v := 1) dX10_pass_216 (by decide) ?_
                          refine tw_dup2 dX10_pass_217 rfl rfl ?_
                          obtain ⟨e506, f507, F508, rfl⟩ := sp474.1 wo_485 31 k494 (by decide)
                          obtain ⟨v509, ev509⟩ : ∃ y : Int64, F508 (1 : Int32).toNatClampNeg = y := ⟨_, rfl⟩
                          refine tw_lald (v := v509) dX10_pass_218 f507 (vp_in_nI (n := 1) (by decide) (by decide)) ev509 ?_
                          refine tw_lload 0 dX10_pass_219 rfl ?_
                          refine tw_ladd dX10_pass_221 ?_
                          refine tw_nml (fun v510 ev510 => ?_)
                          refine tw_last dX10_pass_222 f507 (vp_in_nI (n := 1) (by decide) (by decide)) ?_
                          obtain ⟨h511, eh511⟩ : ∃ z : tw_H, z = tw_up h471 wo_485 (.inl (d.2 1, 2, .inr (.inl (vp_updL F508 (1 : Int32).toNatClampNeg v510)))) := ⟨_, rfl⟩
                          rw [← eh511]
                          have th512 : tw_th (h511 x) = 0 := by rw [eh511, tw_up_n (tw_nk kx k494 (by decide))] <;> exact th472
                          have oq513 : h511 o = h o := by rw [eh511, tw_up_n (tw_nk ko k494 (by decide))] <;> exact oq473
                          have sp514 : tw_sp d τ (tw_rm h320 it314) g208 τ h511 := by rw [eh511]; exact sp474.set k494 (by decide) ⟨_, rfl⟩
                          have f515 : h511 it248 = some (.inr (2, [.int (nI j259), .int l260, .int (g208.1 4), .ref lh_225])) := by rw [eh511, tw_up_n (fun q => absurd (z340) (by rw [q, k494]; decide))]; exact f475
                          have f516 : h511 it314 = some (.inr (2, [.int (nI (j327 + 1)), .int (nI j327), .int (g208.1 3), .ref lc_290])) := by rw [eh511, tw_up_n (fun q => absurd (zt334) (by rw [q, k494]; decide))]; exact f476
                          refine tw_goto 153 dX10_pass_223 (by decide) ?_
                          refine tw_lv [2, 3, 4, 5] rfl ?_
                          exact ih329 ((j327 + 1)) (nI j327)  _ sp514 f516 zt334 th512 oq513 (by omega) (by omega)
                  refine tw_lv [1, 2, 3, 0] rfl ?_
                  exact L330 (g208.2 3 + 1) 0 (-1)  _ (tw_sp.rm sp323.1 it314) f325 z318 th321 oq322 (by omega) (Nat.zero_le _)
                · rw [q276r]
                  refine tw_if_eq 145 dX10_pass_82 (by decide) (fun c517 => absurd c517 (by decide)) (fun _ => ?_)
                  refine tw_aload_n 3 dX10_pass_85 rfl rfl ?_
                  have k518 : τ el273 = 28 := k274.resolve_left (fun q => absurd q276j (by rw [q.2.1]; exact Nat.not_lt_zero _))
                  obtain ⟨e519, f520, ⟨F521, rfl, hc522, hc523⟩, un524⟩ := sp264.1 el273 28 k518 (by decide)
                  obtain ⟨y525, hy526, ky527⟩ := hc523 j259 q276j
                  refine tw_br (tw_callF (M := mX10_pass) (pc := 86) (n9 := 0) (ci := 2) tw_next ok_itNext w_1425 w_1423 (fun s H z => z.2.2.2.2.2.2.2.2.2) (by decide +kernel) dX10_pass_86 w_1420 rfl ft265 [] [] rfl rfl ⟨by decide, by decide⟩ (Nat.le_of_ble_eq_true rfl) (c_next d h263 it248 lh_225 el273 j259 (g208.2 4) y525 l260 (g208.1 4) F521 ft265 f272 f520 q276j hc522 hy526) ((0 + 2 * (r138 + 1)) - 1) ((0 + 8 * (r138 + 1)) - 4) (by omega) (by omega)) (fun r530 h529 q528 => ?_) (fun E h1 q => q.elim)
                  obtain ⟨q528r, q528e⟩ := q528
                  rw [q528r]
                  have sp531 : tw_sp d τ (tw_rm h253 it248) g208 τ h529 := by rw [q528e]; exact sp264.wl tw_rm_s zt266
                  have th532 : tw_th (h529 x) = 0 := by rw [q528e, tw_up_n (tw_nk kx zt266 (by decide))] <;> exact th267
                  have oq533 : h529 o = h o := by rw [q528e, tw_up_n (tw_nk ko zt266 (by decide))] <;> exact oq268
                  have f534 : h529 it248 = some (.inr (2, [.int (nI (j259 + 1)), .int (nI j259), .int (g208.1 4), .ref lh_225])) := by rw [q528e]; exact tw_up_s
                  obtain ⟨e535, f536, x_537, y_538, dy_539, p_540, rfl, k541, k542, k543⟩ := sp531.1 y525 23 ky527 (by decide)
                  refine tw_castS (ci := 13) rfl dX10_pass_91 w_1336 f536 ?_
                  refine tw_astore [(4, .ref y525), (0, .ref x), (1, .int (nI D)), (2, .int (nI k137)), (3, .ref it248)] dX10_pass_94 (by decide) rfl ?_
                  refine tw_aload 0 dX10_pass_96 rfl ?_
                  refine tw_get (v := .int x_537) rfl in_13 0 dX10_pass_98 w_1342 rfl (by decide) f536 rfl ?_
                  refine tw_iconst (v := -1) dX10_pass_101 (by decide) ?_
                  refine tw_icmp_ne 76 dX10_pass_102 (by decide) (fun c544 => ?_) (fun c544 => ?_)
                  · refine tw_lv [1, 2, 3, 4] rfl ?_
                    exact ih261 ((j259 + 1)) (nI j259)  _ sp531 f534 zt266 th532 oq533 (by omega) (by omega)
                  · refine tw_aload 0 dX10_pass_105 rfl ?_
                    refine tw_get (v := .int dy_539) rfl in_13 2 dX10_pass_107 w_1346 rfl (by decide) f536 rfl ?_
                    refine tw_aload_n 1 dX10_pass_110 rfl rfl ?_
                    obtain ⟨e545, f546, th_547, td_548, ds_549, fr_550, ca_551, us_552, wo_553, cm_554, lc_555, lh_556, ld_557, rfl, k558, k559, k560, k561, k562, k563, k564, k565, k566, k567, k568, k569, k570, k571, k572, k573⟩ := sp531.1 x 36 kx (by decide)
                    refine tw_get (v := .int td_548) rfl in_14 1 dX10_pass_111 w_1152 rfl (by decide) f546 rfl ?_
                    refine tw_icmp_eq 120 dX10_pass_114 (by decide) (fun c574 => ?_) (fun c574 => ?_)
                    · refine tw_aload 0 dX10_pass_120 rfl ?_
                      refine tw_aload 0 dX10_pass_122 rfl ?_
                      refine tw_get (v := .int y_538) rfl in_13 1 dX10_pass_124 w_1344 rfl (by decide) f536 rfl ?_
                      refine tw_put rfl in_13 tyX9 tyX9_ok nmX9 0 dX10_pass_127 w_1342 rfl (by decide) f536 rfl rfl rfl rfl (Nat.le_of_ble_eq_true rfl) [.int y_538, .int y_538, .int dy_539, .ref p_540] rfl ?_
                      obtain ⟨h575, eh575⟩ : ∃ z : tw_H, z = tw_up h529 y525 (.inr (13, [.int y_538, .int y_538, .int dy_539, .ref p_540])) := ⟨_, rfl⟩
                      rw [← eh575]
                      have th576 : tw_th (h575 x) = 0 := by rw [eh575, tw_up_n (tw_nk kx ky527 (by decide))] <;> exact th532
                      have oq577 : h575 o = h o := by rw [eh575, tw_up_n (tw_nk ko ky527 (by decide))] <;> exact oq533
                      have sp578 : tw_sp d τ (tw_rm h253 it248) g208 τ h575 := by rw [eh575]; exact sp531.set ky527 (by decide) ⟨y_538, y_538, dy_539, p_540, rfl, k541, k543, k543⟩
                      have f579 : h575 it248 = some (.inr (2, [.int (nI (j259 + 1)), .int (nI j259), .int (g208.1 4), .ref lh_225])) := by rw [eh575, tw_up_n (fun q => absurd (zt266) (by rw [q, ky527]; decide))]; exact f534
                      have f580 : h575 y525 = some (.inr (13, [.int y_538, .int y_538, .int dy_539, .ref p_540])) := by rw [eh575]; exact tw_up_s
                      refine tw_aload 0 dX10_pass_130 rfl ?_
                      refine tw_iconst (v := -1) dX10_pass_132 (by decide) ?_
                      refine tw_put rfl in_13 tyX9 tyX9_ok nmX9 1 dX10_pass_133 w_1344 rfl (by decide) f580 rfl rfl rfl rfl (Nat.le_of_ble_eq_true rfl) [.int y_538, .int (-1), .int dy_539, .ref p_540] rfl ?_
                      obtain ⟨h581, eh581⟩ : ∃ z : tw_H, z = tw_up h575 y525 (.inr (13, [.int y_538, .int (-1), .int dy_539, .ref p_540])) := ⟨_, rfl⟩
                      rw [← eh581]
                      have th582 : tw_th (h581 x) = 0 := by rw [eh581, tw_up_n (tw_nk kx ky527 (by decide))] <;> exact th576
                      have oq583 : h581 o = h o := by rw [eh581, tw_up_n (tw_nk ko ky527 (by decide))] <;> exact oq577
                      have sp584 : tw_sp d τ (tw_rm h253 it248) g208 τ h581 := by rw [eh581]; exact sp578.set ky527 (by decide) ⟨y_538, (-1), dy_539, p_540, rfl, k541, k543, (Or.inl rfl)⟩
                      have f585 : h581 it248 = some (.inr (2, [.int (nI (j259 + 1)), .int (nI j259), .int (g208.1 4), .ref lh_225])) := by rw [eh581, tw_up_n (fun q => absurd (zt266) (by rw [q, ky527]; decide))]; exact f579
                      have f586 : h581 y525 = some (.inr (13, [.int y_538, .int (-1), .int dy_539, .ref p_540])) := by rw [eh581]; exact tw_up_s
                      refine tw_aload 0 dX10_pass_136 rfl ?_
                      refine tw_iconst (v := -1) dX10_pass_138 (by decide) ?_
                      refine tw_put rfl in_13 tyX9 tyX9_ok nmX9 2 dX10_pass_139 w_1346 rfl (by decide) f586 rfl rfl rfl rfl (Nat.le_of_ble_eq_true rfl) [.int y_538, .int (-1), .int (-1), .ref p_540] rfl ?_
                      obtain ⟨h587, eh587⟩ : ∃ z : tw_H, z = tw_up h581 y525 (.inr (13, [.int y_538, .int (-1), .int (-1), .ref p_540])) := ⟨_, rfl⟩
                      rw [← eh587]
                      have th588 : tw_th (h587 x) = 0 := by rw [eh587, tw_up_n (tw_nk kx ky527 (by decide))] <;> exact th582
                      have oq589 : h587 o = h o := by rw [eh587, tw_up_n (tw_nk ko ky527 (by decide))] <;> exact oq583
                      have sp590 : tw_sp d τ (tw_rm h253 it248) g208 τ h587 := by rw [eh587]; exact sp584.set ky527 (by decide) ⟨y_538, (-1), (-1), p_540, rfl, k541, k543, (Or.inl rfl)⟩
                      have f591 : h587 it248 = some (.inr (2, [.int (nI (j259 + 1)), .int (nI j259), .int (g208.1 4), .ref lh_225])) := by rw [eh587, tw_up_n (fun q => absurd (zt266) (by rw [q, ky527]; decide))]; exact f585
                      have f592 : h587 y525 = some (.inr (13, [.int y_538, .int (-1), .int (-1), .ref p_540])) := by rw [eh587]; exact tw_up_s
                      refine tw_goto 76 dX10_pass_142 (by decide) ?_
                      refine tw_lv [1, 2, 3, 4] rfl ?_
                      exact ih261 ((j259 + 1)) (nI j259)  _ sp590 f591 zt266 th588 oq589 (by omega) (by omega)
                    · refine tw_goto 76 dX10_pass_117 (by decide) ?_
                      refine tw_lv [1, 2, 3, 4] rfl ?_
                      exact ih261 ((j259 + 1)) (nI j259)  _ sp531 f534 zt266 th532 oq533 (by omega) (by omega)
            refine tw_lv [1, 2, 3, 0] rfl ?_
            exact L262 (g208.2 4 + 1) 0 (-1)  _ (tw_sp.rm sp256.1 it248) f257 z252 th254 oq255 (by omega) (Nat.zero_le _)
      refine tw_lv [1, 2, 0] rfl ?_
      refine tw_less (c2 := 0 + 2 * 401) (n2 := 0 + 8 * 401) (by omega) (by omega) ?_
      exact L140 401 0 _ (by rw [tw_g2_id]; exact sp134) th133 oq135 (by omega) (by omega)
    · have le9 : ¬ g.2 22 + D ≤ 3000 := fun z => c122 ((tw_dle2 k119 ev121 k120 hD4).mpr z)
      refine tw_iconst (v := 1) dX10_pass_37 (by decide) ?_
      refine tw_goto 42 dX10_pass_38 (by decide) ?_
      refine tw_iconst (v := 2) dX10_pass_42 (by decide) ?_
      refine tw_bi (tw_callV (M := mX10_pass) (pc := 43) okX10_refuse dX10_pass_43 w_1204 rfl f93 [.int 1, .int 2] [] rfl rfl ⟨by decide, by decide⟩ (Nat.le_of_ble_eq_true rfl) (c_X10_refuse d g τ h79 sp89.1 x kx 1 2 (by decide)) 802 3208 (Nat.le_of_ble_eq_true rfl) (Nat.le_of_ble_eq_true rfl)) (fun r595 h594 q593 => ?_) (fun E h1 q => q.elim)
      obtain ⟨e596, he597, hs598, hr599, hc600⟩ := q593
      obtain ⟨rz601, tz602⟩ := (hc600 th88).2 rfl
      have th603 : tw_th (h594 x) = 2 := by rw [he597, tw_up_s]; exact tz602
      have sp604 : tw_sp d τ h g τ h594 := by rw [he597]; exact sp89.set kx (by decide) hs598
      rw [rz601]
      have oq605 : h594 o = h o := by rw [he597, tw_up_n (tw_nk ko kx (by decide))] <;> exact oq90
      refine tw_if_eq 51 dX10_pass_46 (by decide) (fun c606 => absurd c606 (by decide)) (fun _ => ?_)
      refine tw_iconst (v := 0) dX10_pass_49 (by decide) ?_
      exact tw_iret dX10_pass_50 rfl (Or.inl ⟨_, rfl, _, _, sp604, oq605, Or.inr (Or.inl ⟨rp, fun z => le9 (by rw [cD] at z; exact z), th603, rfl⟩)⟩)

set_option maxHeartbeats 4000000 in
set_option maxRecDepth 100000 in
theorem c2_X10_init (d : tw_D) (g : tw_G) (τ : tw_K) (h : tw_H) (hw : tw_wt d g τ h) (hno : tw_no τ) (x : Nat) (hz : τ x = 0) (hx : h x = some (.inr (14, [.int 0, .int 0, .int 0, .null, .null, .null, .null, .null, .null, .null, .null, .null]))) : tw_Ct d mX10_init 17 60 [.ref x] h (tw_qv (fun h1 => ∃ (g1 : tw_G) (τ1 : tw_K), (g1.1 0 = g.1 0 ∧ g1.1 1 = 155 ∧ (∀ i, i < 3 → g1.2 i = g.2 i) ∧ (∀ i, 6 ≤ i → i < 9 → g1.2 i = g.2 i) ∧ (∀ i, 3 ≤ i → i < 6 → g1.2 i = 0) ∧ g1.2 21 = g.2 21 ∧ g1.2 22 = 0) ∧ tw_ini d g1 τ h x 36 τ1 h1) tw_nx) := by
  refine tw_of (by decide +kernel) (Nat.le_of_ble_eq_true rfl) ?_
  show tw_W d mX10_init _ 0 [(0, .ref x)] [] h 17 60
  have sp0 := tw_sp.rm hw x
  refine tw_aload_n 0 dX10_init_0 rfl rfl ?_
  refine tw_objInit dX10_init_1 w_1118 w_117 w_118 ⟨by decide, Nat.le_of_ble_eq_true rfl⟩ ?_
  refine tw_aload_n 0 dX10_init_4 rfl rfl ?_
  refine tw_sipush (v := 155) dX10_init_5 (by decide) ?_
  refine tw_put rfl in_14 tyX10 tyX10_ok nmX10 2 dX10_init_8 w_1153 rfl (by decide) hx rfl rfl rfl rfl (Nat.le_of_ble_eq_true rfl) [.int 0, .int 0, .int 155, .null, .null, .null, .null, .null, .null, .null, .null, .null] rfl ?_
  obtain ⟨h1, eh1⟩ : ∃ z : tw_H, z = tw_up h x (.inr (14, [.int 0, .int 0, .int 155, .null, .null, .null, .null, .null, .null, .null, .null, .null])) := ⟨_, rfl⟩
  rw [← eh1]
  have sp2 : tw_sp d τ (tw_rm h x) g τ h1 := by rw [eh1]; exact sp0.wl tw_rm_s hz
  have f3 : h1 x = some (.inr (14, [.int 0, .int 0, .int 155, .null, .null, .null, .null, .null, .null, .null, .null, .null])) := by rw [eh1]; exact tw_up_s
  refine tw_aload_n 0 dX10_init_11 rfl rfl ?_
  refine tw_iconst (v := 4) dX10_init_12 (by decide) ?_
  refine tw_iconst (v := 4) dX10_init_13 (by decide) ?_
  refine tw_mna dX10_init_14 w_1119 w_500 12 40 (Nat.le_of_ble_eq_true rfl) (Nat.le_of_ble_eq_true rfl) (fun q4 r5 h6 hq7 hr8 hi9 hg10 ho11 hw12 => ?_)
  have sp13 := sp2.tr (tw_gw.sp hw12 sp2.1)
  have f14 := hw12 _ _ f3
  have ne15 := tw_neF f3 (hr8 0 (by decide)).1
  have ne16 := tw_neF f3 (hr8 1 (by decide)).1
  have ne17 := tw_neF f3 (hr8 2 (by decide)).1
  have ne18 := tw_neF f3 (hr8 3 (by decide)).1
  have ne19 := tw_neF f3 hq7
  have n20 := sp2.nn (hr8 0 (by decide)).1
  have z21 := sp2.1.none (hr8 0 (by decide)).1
  have f22 : h6 (r5 0) = some (.inl (d.2 0, 4, .inl (fun _ => 0))) := ho11 0 (by decide)
  have n23 := sp2.nn (hr8 1 (by decide)).1
  have z24 := sp2.1.none (hr8 1 (by decide)).1
  have f25 : h6 (r5 1) = some (.inl (d.2 0, 4, .inl (fun _ => 0))) := ho11 1 (by decide)
  have n26 := sp2.nn (hr8 2 (by decide)).1
  have z27 := sp2.1.none (hr8 2 (by decide)).1
  have f28 : h6 (r5 2) = some (.inl (d.2 0, 4, .inl (fun _ => 0))) := ho11 2 (by decide)
  have n29 := sp2.nn (hr8 3 (by decide)).1
  have z30 := sp2.1.none (hr8 3 (by decide)).1
  have f31 : h6 (r5 3) = some (.inl (d.2 0, 4, .inl (fun _ => 0))) := ho11 3 (by decide)
  have n32 := sp2.nn hq7
  have z33 := sp2.1.none hq7
  obtain ⟨τ34, eτ34⟩ : ∃ z : tw_K, z = tw_ku τ (r5 0) 6 := ⟨_, rfl⟩
  have le35 : tw_le τ τ34 := by rw [eτ34]; exact tw_ku_le z21
  have sp36 : tw_sp d τ (tw_rm h x) g τ34 h6 := by rw [eτ34]; exact sp13.ty n20 z21 f22 (by rw [← eτ34]; exact ⟨_, rfl⟩)
  have k37 : τ34 (r5 0) = 6 := by rw [eτ34]; exact tw_ku_s
  have z38 : τ34 x = 0 := by rw [eτ34, tw_ku_n ne15]; exact hz
  have z39 : τ34 (r5 1) = 0 := by rw [eτ34, tw_ku_n (fun z => absurd (hi9 1 0 (by decide) (by decide) z) (by decide))]; exact z24
  have z40 : τ34 (r5 2) = 0 := by rw [eτ34, tw_ku_n (fun z => absurd (hi9 2 0 (by decide) (by decide) z) (by decide))]; exact z27
  have z41 : τ34 (r5 3) = 0 := by rw [eτ34, tw_ku_n (fun z => absurd (hi9 3 0 (by decide) (by decide) z) (by decide))]; exact z30
  have z42 : τ34 q4 = 0 := by rw [eτ34, tw_ku_n (Ne.symm (hr8 0 (by decide)).2)]; exact z33
  have no43 : tw_no τ34 := by rw [eτ34]; exact hno.ku (by decide)
  obtain ⟨τ44, eτ44⟩ : ∃ z : tw_K, z = tw_ku τ34 (r5 1) 6 := ⟨_, rfl⟩
  have le45 : tw_le τ34 τ44 := by rw [eτ44]; exact tw_ku_le z39
  have k46 : τ44 (r5 0) = 6 := le45.k k37 (by decide)
  have sp47 : tw_sp d τ (tw_rm h x) g τ44 h6 := by rw [eτ44]; exact sp36.ty n23 z39 f25 (by rw [← eτ44]; exact ⟨_, rfl⟩)
  have k48 : τ44 (r5 1) = 6 := by rw [eτ44]; exact tw_ku_s
  have z49 : τ44 x = 0 := by rw [eτ44, tw_ku_n ne16]; exact z38
  have z50 : τ44 (r5 2) = 0 := by rw [eτ44, tw_ku_n (fun z => absurd (hi9 2 1 (by decide) (by decide) z) (by decide))]; exact z40
  have z51 : τ44 (r5 3) = 0 := by rw [eτ44, tw_ku_n (fun z => absurd (hi9 3 1 (by decide) (by decide) z) (by decide))]; exact z41
  have z52 : τ44 q4 = 0 := by rw [eτ44, tw_ku_n (Ne.symm (hr8 1 (by decide)).2)]; exact z42
  have no53 : tw_no τ44 := by rw [eτ44]; exact no43.ku (by decide)
  obtain ⟨τ54, eτ54⟩ : ∃ z : tw_K, z = tw_ku τ44 (r5 2) 6 := ⟨_, rfl⟩
  have le55 : tw_le τ44 τ54 := by rw [eτ54]; exact tw_ku_le z50
  have k56 : τ54 (r5 0) = 6 := le55.k k46 (by decide)
  have k57 : τ54 (r5 1) = 6 := le55.k k48 (by decide)
  have sp58 : tw_sp d τ (tw_rm h x) g τ54 h6 := by rw [eτ54]; exact sp47.ty n26 z50 f28 (by rw [← eτ54]; exact ⟨_, rfl⟩)
  have k59 : τ54 (r5 2) = 6 := by rw [eτ54]; exact tw_ku_s
  have z60 : τ54 x = 0 := by rw [eτ54, tw_ku_n ne17]; exact z49
  have z61 : τ54 (r5 3) = 0 := by rw [eτ54, tw_ku_n (fun z => absurd (hi9 3 2 (by decide) (by decide) z) (by decide))]; exact z51
  have z62 : τ54 q4 = 0 := by rw [eτ54, tw_ku_n (Ne.symm (hr8 2 (by decide)).2)]; exact z52
  have no63 : tw_no τ54 := by rw [eτ54]; exact no53.ku (by decide)
  obtain ⟨τ64, eτ64⟩ : ∃ z : tw_K, z = tw_ku τ54 (r5 3) 6 := ⟨_, rfl⟩
  have le65 : tw_le τ54 τ64 := by rw [eτ64]; exact tw_ku_le z61
  have k66 : τ64 (r5 0) = 6 := le65.k k56 (by decide)
  have k67 : τ64 (r5 1) = 6 := le65.k k57 (by decide)
  have k68 : τ64 (r5 2) = 6 := le65.k k59 (by decide)
  have sp69 : tw_sp d τ (tw_rm h x) g τ64 h6 := by rw [eτ64]; exact sp58.ty n29 z61 f31 (by rw [← eτ64]; exact ⟨_, rfl⟩)
  have k70 : τ64 (r5 3) = 6 := by rw [eτ64]; exact tw_ku_s
  have z71 : τ64 x = 0 := by rw [eτ64, tw_ku_n ne18]; exact z60
  have z72 : τ64 q4 = 0 := by rw [eτ64, tw_ku_n (Ne.symm (hr8 3 (by decide)).2)]; exact z62
  have no73 : tw_no τ64 := by rw [eτ64]; exact no63.ku (by decide)
  obtain ⟨τ74, eτ74⟩ : ∃ z : tw_K, z = tw_ku τ64 q4 34 := ⟨_, rfl⟩
  have le75 : tw_le τ64 τ74 := by rw [eτ74]; exact tw_ku_le z72
  have k76 : τ74 (r5 0) = 6 := le75.k k66 (by decide)
  have k77 : τ74 (r5 1) = 6 := le75.k k67 (by decide)
  have k78 : τ74 (r5 2) = 6 := le75.k k68 (by decide)
  have k79 : τ74 (r5 3) = 6 := le75.k k70 (by decide)
  have sp80 : tw_sp d τ (tw_rm h x) g τ74 h6 := by rw [eτ74]; exact sp69.ty n32 z72 hg10 (by rw [← eτ74]; exact ⟨_, rfl, fun j hj => ⟨r5 j, if_pos hj, by rcases (show j = 0 ∨ j = 1 ∨ j = 2 ∨ j = 3 by omega) with z | z | z | z <;> rw [z] <;> first | exact k76 | exact k77 | exact k78 | exact k79⟩⟩)
  have k81 : τ74 q4 = 34 := by rw [eτ74]; exact tw_ku_s
  have z82 : τ74 x = 0 := by rw [eτ74, tw_ku_n ne19]; exact z71
  have no83 : tw_no τ74 := by rw [eτ74]; exact no73.ku (by decide)
  refine tw_putF rfl in_14 tyX10 tyX10_ok nmX10 3 dX10_init_18 w_1154 rfl (by decide) f14 rfl rfl rfl rfl rfl rfl (Nat.le_of_ble_eq_true rfl) [.int 0, .int 0, .int 155, .ref q4, .null, .null, .null, .null, .null, .null, .null, .null] rfl ?_
  obtain ⟨h84, eh84⟩ : ∃ z : tw_H, z = tw_up h6 x (.inr (14, [.int 0, .int 0, .int 155, .ref q4, .null, .null, .null, .null, .null, .null, .null, .null])) := ⟨_, rfl⟩
  rw [← eh84]
  have sp85 : tw_sp d τ (tw_rm h x) g τ74 h84 := by rw [eh84]; exact sp80.wl tw_rm_s z82
  have f86 : h84 x = some (.inr (14, [.int 0, .int 0, .int 155, .ref q4, .null, .null, .null, .null, .null, .null, .null, .null])) := by rw [eh84]; exact tw_up_s
  refine tw_aload_n 0 dX10_init_21 rfl rfl ?_
  refine tw_iconst (v := 4) dX10_init_22 (by decide) ?_
  refine tw_iconst (v := 4) dX10_init_23 (by decide) ?_
  refine tw_mna dX10_init_24 w_1119 w_500 7 20 (Nat.le_of_ble_eq_true rfl) (Nat.le_of_ble_eq_true rfl) (fun q87 r88 h89 hq90 hr91 hi92 hg93 ho94 hw95 => ?_)
  have sp96 := sp85.tr (tw_gw.sp hw95 sp85.1)
  have f97 := hw95 _ _ f86
  have ne98 := tw_neF f86 (hr91 0 (by decide)).1
  have ne99 := tw_neF f86 (hr91 1 (by decide)).1
  have ne100 := tw_neF f86 (hr91 2 (by decide)).1
  have ne101 := tw_neF f86 (hr91 3 (by decide)).1
  have ne102 := tw_neF f86 hq90
  have n103 := sp85.nn (hr91 0 (by decide)).1
  have z104 := sp85.1.none (hr91 0 (by decide)).1
  have f105 : h89 (r88 0) = some (.inl (d.2 0, 4, .inl (fun _ => 0))) := ho94 0 (by decide)
  have n106 := sp85.nn (hr91 1 (by decide)).1
  have z107 := sp85.1.none (hr91 1 (by decide)).1
  have f108 : h89 (r88 1) = some (.inl (d.2 0, 4, .inl (fun _ => 0))) := ho94 1 (by decide)
  have n109 := sp85.nn (hr91 2 (by decide)).1
  have z110 := sp85.1.none (hr91 2 (by decide)).1
  have f111 : h89 (r88 2) = some (.inl (d.2 0, 4, .inl (fun _ => 0))) := ho94 2 (by decide)
  have n112 := sp85.nn (hr91 3 (by decide)).1
  have z113 := sp85.1.none (hr91 3 (by decide)).1
  have f114 : h89 (r88 3) = some (.inl (d.2 0, 4, .inl (fun _ => 0))) := ho94 3 (by decide)
  have n115 := sp85.nn hq90
  have z116 := sp85.1.none hq90
  obtain ⟨τ117, eτ117⟩ : ∃ z : tw_K, z = tw_ku τ74 (r88 0) 6 := ⟨_, rfl⟩
  have le118 : tw_le τ74 τ117 := by rw [eτ117]; exact tw_ku_le z104
  have k119 : τ117 (r5 0) = 6 := le118.k k76 (by decide)
  have k120 : τ117 (r5 1) = 6 := le118.k k77 (by decide)
  have k121 : τ117 (r5 2) = 6 := le118.k k78 (by decide)
  have k122 : τ117 (r5 3) = 6 := le118.k k79 (by decide)
  have k123 : τ117 q4 = 34 := le118.k k81 (by decide)
  have sp124 : tw_sp d τ (tw_rm h x) g τ117 h89 := by rw [eτ117]; exact sp96.ty n103 z104 f105 (by rw [← eτ117]; exact ⟨_, rfl⟩)
  have k125 : τ117 (r88 0) = 6 := by rw [eτ117]; exact tw_ku_s
  have z126 : τ117 x = 0 := by rw [eτ117, tw_ku_n ne98]; exact z82
  have z127 : τ117 (r88 1) = 0 := by rw [eτ117, tw_ku_n (fun z => absurd (hi92 1 0 (by decide) (by decide) z) (by decide))]; exact z107
  have z128 : τ117 (r88 2) = 0 := by rw [eτ117, tw_ku_n (fun z => absurd (hi92 2 0 (by decide) (by decide) z) (by decide))]; exact z110
  have z129 : τ117 (r88 3) = 0 := by rw [eτ117, tw_ku_n (fun z => absurd (hi92 3 0 (by decide) (by decide) z) (by decide))]; exact z113
  have z130 : τ117 q87 = 0 := by rw [eτ117, tw_ku_n (Ne.symm (hr91 0 (by decide)).2)]; exact z116
  have no131 : tw_no τ117 := by rw [eτ117]; exact no83.ku (by decide)
  obtain ⟨τ132, eτ132⟩ : ∃ z : tw_K, z = tw_ku τ117 (r88 1) 6 := ⟨_, rfl⟩
  have le133 : tw_le τ117 τ132 := by rw [eτ132]; exact tw_ku_le z127
  have k134 : τ132 (r5 0) = 6 := le133.k k119 (by decide)
  have k135 : τ132 (r5 1) = 6 := le133.k k120 (by decide)
  have k136 : τ132 (r5 2) = 6 := le133.k k121 (by decide)
  have k137 : τ132 (r5 3) = 6 := le133.k k122 (by decide)
  have k138 : τ132 q4 = 34 := le133.k k123 (by decide)
  have k139 : τ132 (r88 0) = 6 := le133.k k125 (by decide)
  have sp140 : tw_sp d τ (tw_rm h x) g τ132 h89 := by rw [eτ132]; exact sp124.ty n106 z127 f108 (by rw [← eτ132]; exact ⟨_, rfl⟩)
  have k141 : τ132 (r88 1) = 6 := by rw [eτ132]; exact tw_ku_s
  have z142 : τ132 x = 0 := by rw [eτ132, tw_ku_n ne99]; exact z126
  have z143 : τ132 (r88 2) = 0 := by rw [eτ132, tw_ku_n (fun z => absurd (hi92 2 1 (by decide) (by decide) z) (by decide))]; exact z128
  have z144 : τ132 (r88 3) = 0 := by rw [eτ132, tw_ku_n (fun z => absurd (hi92 3 1 (by decide) (by decide) z) (by decide))]; exact z129
  have z145 : τ132 q87 = 0 := by rw [eτ132, tw_ku_n (Ne.symm (hr91 1 (by decide)).2)]; exact z130
  have no146 : tw_no τ132 := by rw [eτ132]; exact no131.ku (by decide)
  obtain ⟨τ147, eτ147⟩ : ∃ z : tw_K, z = tw_ku τ132 (r88 2) 6 := ⟨_, rfl⟩
  have le148 : tw_le τ132 τ147 := by rw [eτ147]; exact tw_ku_le z143
  have k149 : τ147 (r5 0) = 6 := le148.k k134 (by decide)
  have k150 : τ147 (r5 1) = 6 := le148.k k135 (by decide)
  have k151 : τ147 (r5 2) = 6 := le148.k k136 (by decide)
  have k152 : τ147 (r5 3) = 6 := le148.k k137 (by decide)
  have k153 : τ147 q4 = 34 := le148.k k138 (by decide)
  have k154 : τ147 (r88 0) = 6 := le148.k k139 (by decide)
  have k155 : τ147 (r88 1) = 6 := le148.k k141 (by decide)
  have sp156 : tw_sp d τ (tw_rm h x) g τ147 h89 := by rw [eτ147]; exact sp140.ty n109 z143 f111 (by rw [← eτ147]; exact ⟨_, rfl⟩)
  have k157 : τ147 (r88 2) = 6 := by rw [eτ147]; exact tw_ku_s
  have z158 : τ147 x = 0 := by rw [eτ147, tw_ku_n ne100]; exact z142
  have z159 : τ147 (r88 3) = 0 := by rw [eτ147, tw_ku_n (fun z => absurd (hi92 3 2 (by decide) (by decide) z) (by decide))]; exact z144
  have z160 : τ147 q87 = 0 := by rw [eτ147, tw_ku_n (Ne.symm (hr91 2 (by decide)).2)]; exact z145
  have no161 : tw_no τ147 := by rw [eτ147]; exact no146.ku (by decide)
  obtain ⟨τ162, eτ162⟩ : ∃ z : tw_K, z = tw_ku τ147 (r88 3) 6 := ⟨_, rfl⟩
  have le163 : tw_le τ147 τ162 := by rw [eτ162]; exact tw_ku_le z159
  have k164 : τ162 (r5 0) = 6 := le163.k k149 (by decide)
  have k165 : τ162 (r5 1) = 6 := le163.k k150 (by decide)
  have k166 : τ162 (r5 2) = 6 := le163.k k151 (by decide)
  have k167 : τ162 (r5 3) = 6 := le163.k k152 (by decide)
  have k168 : τ162 q4 = 34 := le163.k k153 (by decide)
  have k169 : τ162 (r88 0) = 6 := le163.k k154 (by decide)
  have k170 : τ162 (r88 1) = 6 := le163.k k155 (by decide)
  have k171 : τ162 (r88 2) = 6 := le163.k k157 (by decide)
  have sp172 : tw_sp d τ (tw_rm h x) g τ162 h89 := by rw [eτ162]; exact sp156.ty n112 z159 f114 (by rw [← eτ162]; exact ⟨_, rfl⟩)
  have k173 : τ162 (r88 3) = 6 := by rw [eτ162]; exact tw_ku_s
  have z174 : τ162 x = 0 := by rw [eτ162, tw_ku_n ne101]; exact z158
  have z175 : τ162 q87 = 0 := by rw [eτ162, tw_ku_n (Ne.symm (hr91 3 (by decide)).2)]; exact z160
  have no176 : tw_no τ162 := by rw [eτ162]; exact no161.ku (by decide)
  obtain ⟨τ177, eτ177⟩ : ∃ z : tw_K, z = tw_ku τ162 q87 34 := ⟨_, rfl⟩
  have le178 : tw_le τ162 τ177 := by rw [eτ177]; exact tw_ku_le z175
  have k179 : τ177 (r5 0) = 6 := le178.k k164 (by decide)
  have k180 : τ177 (r5 1) = 6 := le178.k k165 (by decide)
  have k181 : τ177 (r5 2) = 6 := le178.k k166 (by decide)
  have k182 : τ177 (r5 3) = 6 := le178.k k167 (by decide)
  have k183 : τ177 q4 = 34 := le178.k k168 (by decide)
  have k184 : τ177 (r88 0) = 6 := le178.k k169 (by decide)
  have k185 : τ177 (r88 1) = 6 := le178.k k170 (by decide)
  have k186 : τ177 (r88 2) = 6 := le178.k k171 (by decide)
  have k187 : τ177 (r88 3) = 6 := le178.k k173 (by decide)
  have sp188 : tw_sp d τ (tw_rm h x) g τ177 h89 := by rw [eτ177]; exact sp172.ty n115 z175 hg93 (by rw [← eτ177]; exact ⟨_, rfl, fun j hj => ⟨r88 j, if_pos hj, by rcases (show j = 0 ∨ j = 1 ∨ j = 2 ∨ j = 3 by omega) with z | z | z | z <;> rw [z] <;> first | exact k184 | exact k185 | exact k186 | exact k187⟩⟩)
  have k189 : τ177 q87 = 34 := by rw [eτ177]; exact tw_ku_s
  have z190 : τ177 x = 0 := by rw [eτ177, tw_ku_n ne102]; exact z174
  have no191 : tw_no τ177 := by rw [eτ177]; exact no176.ku (by decide)
  refine tw_putF rfl in_14 tyX10 tyX10_ok nmX10 4 dX10_init_28 w_1155 rfl (by decide) f97 rfl rfl rfl rfl rfl rfl (Nat.le_of_ble_eq_true rfl) [.int 0, .int 0, .int 155, .ref q4, .ref q87, .null, .null, .null, .null, .null, .null, .null] rfl ?_
  obtain ⟨h192, eh192⟩ : ∃ z : tw_H, z = tw_up h89 x (.inr (14, [.int 0, .int 0, .int 155, .ref q4, .ref q87, .null, .null, .null, .null, .null, .null, .null])) := ⟨_, rfl⟩
  rw [← eh192]
  have sp193 : tw_sp d τ (tw_rm h x) g τ177 h192 := by rw [eh192]; exact sp188.wl tw_rm_s z190
  have f194 : h192 x = some (.inr (14, [.int 0, .int 0, .int 155, .ref q4, .ref q87, .null, .null, .null, .null, .null, .null, .null])) := by rw [eh192]; exact tw_up_s
  refine tw_aload_n 0 dX10_init_31 rfl rfl ?_
  refine tw_iconst (v := 2) dX10_init_32 (by decide) ?_
  refine tw_newa (a0 := (2, .inr (.inl (fun _ => 0)))) 1 rfl dX10_init_33 rfl w_1150 (fun _ => rfl) (by decide) (by decide) (by decide) 6 18 (Nat.le_of_ble_eq_true rfl) (Nat.le_of_ble_eq_true rfl) (fun q195 hq196 hA197 => ?_)
  have n198 := sp193.nn hq196
  have z199 := sp193.1.none hq196
  have ne200 := tw_neF f194 hq196
  obtain ⟨h201, eh201⟩ : ∃ z : tw_H, z = tw_up h192 q195 (.inl (d.2 1, 2, .inr (.inl (fun _ => 0)))) := ⟨_, rfl⟩
  rw [← eh201]
  have sp202 : tw_sp d τ (tw_rm h x) g τ177 h201 := by rw [eh201]; exact sp193.mk hq196
  have f203 : h201 x = some (.inr (14, [.int 0, .int 0, .int 155, .ref q4, .ref q87, .null, .null, .null, .null, .null, .null, .null])) := by rw [eh201, tw_up_n ne200]; exact f194
  have f204 : h201 q195 = some (.inl (d.2 1, 2, .inr (.inl (fun _ => 0)))) := by rw [eh201]; exact tw_up_s
  obtain ⟨τ205, eτ205⟩ : ∃ z : tw_K, z = tw_ku τ177 q195 31 := ⟨_, rfl⟩
  have le206 : tw_le τ177 τ205 := by rw [eτ205]; exact tw_ku_le z199
  have k207 : τ205 (r5 0) = 6 := le206.k k179 (by decide)
  have k208 : τ205 (r5 1) = 6 := le206.k k180 (by decide)
  have k209 : τ205 (r5 2) = 6 := le206.k k181 (by decide)
  have k210 : τ205 (r5 3) = 6 := le206.k k182 (by decide)
  have k211 : τ205 q4 = 34 := le206.k k183 (by decide)
  have k212 : τ205 (r88 0) = 6 := le206.k k184 (by decide)
  have k213 : τ205 (r88 1) = 6 := le206.k k185 (by decide)
  have k214 : τ205 (r88 2) = 6 := le206.k k186 (by decide)
  have k215 : τ205 (r88 3) = 6 := le206.k k187 (by decide)
  have k216 : τ205 q87 = 34 := le206.k k189 (by decide)
  have sp217 : tw_sp d τ (tw_rm h x) g τ205 h201 := by rw [eτ205]; exact sp202.ty n198 z199 f204 (by rw [← eτ205]; exact ⟨_, rfl⟩)
  have k218 : τ205 q195 = 31 := by rw [eτ205]; exact tw_ku_s
  have z219 : τ205 x = 0 := by rw [eτ205, tw_ku_n ne200]; exact z190
  have no220 : tw_no τ205 := by rw [eτ205]; exact no191.ku (by decide)
  refine tw_putF rfl in_14 tyX10 tyX10_ok nmX10 5 dX10_init_35 w_1156 rfl (by decide) f203 rfl rfl rfl rfl rfl rfl (Nat.le_of_ble_eq_true rfl) [.int 0, .int 0, .int 155, .ref q4, .ref q87, .ref q195, .null, .null, .null, .null, .null, .null] rfl ?_
  obtain ⟨h221, eh221⟩ : ∃ z : tw_H, z = tw_up h201 x (.inr (14, [.int 0, .int 0, .int 155, .ref q4, .ref q87, .ref q195, .null, .null, .null, .null, .null, .null])) := ⟨_, rfl⟩
  rw [← eh221]
  have sp222 : tw_sp d τ (tw_rm h x) g τ205 h221 := by rw [eh221]; exact sp217.wl tw_rm_s z219
  have f223 : h221 x = some (.inr (14, [.int 0, .int 0, .int 155, .ref q4, .ref q87, .ref q195, .null, .null, .null, .null, .null, .null])) := by rw [eh221]; exact tw_up_s
  refine tw_aload_n 0 dX10_init_38 rfl rfl ?_
  refine tw_iconst (v := 2) dX10_init_39 (by decide) ?_
  refine tw_newa (a0 := (2, .inr (.inl (fun _ => 0)))) 1 rfl dX10_init_40 rfl w_1150 (fun _ => rfl) (by decide) (by decide) (by decide) 5 16 (Nat.le_of_ble_eq_true rfl) (Nat.le_of_ble_eq_true rfl) (fun q224 hq225 hA226 => ?_)
  have n227 := sp222.nn hq225
  have z228 := sp222.1.none hq225
  have ne229 := tw_neF f223 hq225
  obtain ⟨h230, eh230⟩ : ∃ z : tw_H, z = tw_up h221 q224 (.inl (d.2 1, 2, .inr (.inl (fun _ => 0)))) := ⟨_, rfl⟩
  rw [← eh230]
  have sp231 : tw_sp d τ (tw_rm h x) g τ205 h230 := by rw [eh230]; exact sp222.mk hq225
  have f232 : h230 x = some (.inr (14, [.int 0, .int 0, .int 155, .ref q4, .ref q87, .ref q195, .null, .null, .null, .null, .null, .null])) := by rw [eh230, tw_up_n ne229]; exact f223
  have f233 : h230 q224 = some (.inl (d.2 1, 2, .inr (.inl (fun _ => 0)))) := by rw [eh230]; exact tw_up_s
  obtain ⟨τ234, eτ234⟩ : ∃ z : tw_K, z = tw_ku τ205 q224 31 := ⟨_, rfl⟩
  have le235 : tw_le τ205 τ234 := by rw [eτ234]; exact tw_ku_le z228
  have k236 : τ234 (r5 0) = 6 := le235.k k207 (by decide)
  have k237 : τ234 (r5 1) = 6 := le235.k k208 (by decide)
  have k238 : τ234 (r5 2) = 6 := le235.k k209 (by decide)
  have k239 : τ234 (r5 3) = 6 := le235.k k210 (by decide)
  have k240 : τ234 q4 = 34 := le235.k k211 (by decide)
  have k241 : τ234 (r88 0) = 6 := le235.k k212 (by decide)
  have k242 : τ234 (r88 1) = 6 := le235.k k213 (by decide)
  have k243 : τ234 (r88 2) = 6 := le235.k k214 (by decide)
  have k244 : τ234 (r88 3) = 6 := le235.k k215 (by decide)
  have k245 : τ234 q87 = 34 := le235.k k216 (by decide)
  have k246 : τ234 q195 = 31 := le235.k k218 (by decide)
  have sp247 : tw_sp d τ (tw_rm h x) g τ234 h230 := by rw [eτ234]; exact sp231.ty n227 z228 f233 (by rw [← eτ234]; exact ⟨_, rfl⟩)
  have k248 : τ234 q224 = 31 := by rw [eτ234]; exact tw_ku_s
  have z249 : τ234 x = 0 := by rw [eτ234, tw_ku_n ne229]; exact z219
  have no250 : tw_no τ234 := by rw [eτ234]; exact no220.ku (by decide)
  refine tw_putF rfl in_14 tyX10 tyX10_ok nmX10 6 dX10_init_42 w_1157 rfl (by decide) f232 rfl rfl rfl rfl rfl rfl (Nat.le_of_ble_eq_true rfl) [.int 0, .int 0, .int 155, .ref q4, .ref q87, .ref q195, .ref q224, .null, .null, .null, .null, .null] rfl ?_
  obtain ⟨h251, eh251⟩ : ∃ z : tw_H, z = tw_up h230 x (.inr (14, [.int 0, .int 0, .int 155, .ref q4, .ref q87, .ref q195, .ref q224, .null, .null, .null, .null, .null])) := ⟨_, rfl⟩
  rw [← eh251]
  have sp252 : tw_sp d τ (tw_rm h x) g τ234 h251 := by rw [eh251]; exact sp247.wl tw_rm_s z249
  have f253 : h251 x = some (.inr (14, [.int 0, .int 0, .int 155, .ref q4, .ref q87, .ref q195, .ref q224, .null, .null, .null, .null, .null])) := by rw [eh251]; exact tw_up_s
  refine tw_aload_n 0 dX10_init_45 rfl rfl ?_
  refine tw_iconst (v := 2) dX10_init_46 (by decide) ?_
  refine tw_newa (a0 := (2, .inr (.inl (fun _ => 0)))) 1 rfl dX10_init_47 rfl w_1150 (fun _ => rfl) (by decide) (by decide) (by decide) 4 14 (Nat.le_of_ble_eq_true rfl) (Nat.le_of_ble_eq_true rfl) (fun q254 hq255 hA256 => ?_)
  have n257 := sp252.nn hq255
  have z258 := sp252.1.none hq255
  have ne259 := tw_neF f253 hq255
  obtain ⟨h260, eh260⟩ : ∃ z : tw_H, z = tw_up h251 q254 (.inl (d.2 1, 2, .inr (.inl (fun _ => 0)))) := ⟨_, rfl⟩
  rw [← eh260]
  have sp261 : tw_sp d τ (tw_rm h x) g τ234 h260 := by rw [eh260]; exact sp252.mk hq255
  have f262 : h260 x = some (.inr (14, [.int 0, .int 0, .int 155, .ref q4, .ref q87, .ref q195, .ref q224, .null, .null, .null, .null, .null])) := by rw [eh260, tw_up_n ne259]; exact f253
  have f263 : h260 q254 = some (.inl (d.2 1, 2, .inr (.inl (fun _ => 0)))) := by rw [eh260]; exact tw_up_s
  obtain ⟨τ264, eτ264⟩ : ∃ z : tw_K, z = tw_ku τ234 q254 31 := ⟨_, rfl⟩
  have le265 : tw_le τ234 τ264 := by rw [eτ264]; exact tw_ku_le z258
  have k266 : τ264 (r5 0) = 6 := le265.k k236 (by decide)
  have k267 : τ264 (r5 1) = 6 := le265.k k237 (by decide)
  have k268 : τ264 (r5 2) = 6 := le265.k k238 (by decide)
  have k269 : τ264 (r5 3) = 6 := le265.k k239 (by decide)
  have k270 : τ264 q4 = 34 := le265.k k240 (by decide)
  have k271 : τ264 (r88 0) = 6 := le265.k k241 (by decide)
  have k272 : τ264 (r88 1) = 6 := le265.k k242 (by decide)
  have k273 : τ264 (r88 2) = 6 := le265.k k243 (by decide)
  have k274 : τ264 (r88 3) = 6 := le265.k k244 (by decide)
  have k275 : τ264 q87 = 34 := le265.k k245 (by decide)
  have k276 : τ264 q195 = 31 := le265.k k246 (by decide)
  have k277 : τ264 q224 = 31 := le265.k k248 (by decide)
  have sp278 : tw_sp d τ (tw_rm h x) g τ264 h260 := by rw [eτ264]; exact sp261.ty n257 z258 f263 (by rw [← eτ264]; exact ⟨_, rfl⟩)
  have k279 : τ264 q254 = 31 := by rw [eτ264]; exact tw_ku_s
  have z280 : τ264 x = 0 := by rw [eτ264, tw_ku_n ne259]; exact z249
  have no281 : tw_no τ264 := by rw [eτ264]; exact no250.ku (by decide)
  refine tw_putF rfl in_14 tyX10 tyX10_ok nmX10 7 dX10_init_49 w_1158 rfl (by decide) f262 rfl rfl rfl rfl rfl rfl (Nat.le_of_ble_eq_true rfl) [.int 0, .int 0, .int 155, .ref q4, .ref q87, .ref q195, .ref q224, .ref q254, .null, .null, .null, .null] rfl ?_
  obtain ⟨h282, eh282⟩ : ∃ z : tw_H, z = tw_up h260 x (.inr (14, [.int 0, .int 0, .int 155, .ref q4, .ref q87, .ref q195, .ref q224, .ref q254, .null, .null, .null, .null])) := ⟨_, rfl⟩
  rw [← eh282]
  have sp283 : tw_sp d τ (tw_rm h x) g τ264 h282 := by rw [eh282]; exact sp278.wl tw_rm_s z280
  have f284 : h282 x = some (.inr (14, [.int 0, .int 0, .int 155, .ref q4, .ref q87, .ref q195, .ref q224, .ref q254, .null, .null, .null, .null])) := by rw [eh282]; exact tw_up_s
  refine tw_aload_n 0 dX10_init_52 rfl rfl ?_
  refine tw_iconst (v := 2) dX10_init_53 (by decide) ?_
  refine tw_newa (a0 := (2, .inr (.inl (fun _ => 0)))) 1 rfl dX10_init_54 rfl w_1150 (fun _ => rfl) (by decide) (by decide) (by decide) 3 12 (Nat.le_of_ble_eq_true rfl) (Nat.le_of_ble_eq_true rfl) (fun q285 hq286 hA287 => ?_)
  have n288 := sp283.nn hq286
  have z289 := sp283.1.none hq286
  have ne290 := tw_neF f284 hq286
  obtain ⟨h291, eh291⟩ : ∃ z : tw_H, z = tw_up h282 q285 (.inl (d.2 1, 2, .inr (.inl (fun _ => 0)))) := ⟨_, rfl⟩
  rw [← eh291]
  have sp292 : tw_sp d τ (tw_rm h x) g τ264 h291 := by rw [eh291]; exact sp283.mk hq286
  have f293 : h291 x = some (.inr (14, [.int 0, .int 0, .int 155, .ref q4, .ref q87, .ref q195, .ref q224, .ref q254, .null, .null, .null, .null])) := by rw [eh291, tw_up_n ne290]; exact f284
  have f294 : h291 q285 = some (.inl (d.2 1, 2, .inr (.inl (fun _ => 0)))) := by rw [eh291]; exact tw_up_s
  obtain ⟨τ295, eτ295⟩ : ∃ z : tw_K, z = tw_ku τ264 q285 31 := ⟨_, rfl⟩
  have le296 : tw_le τ264 τ295 := by rw [eτ295]; exact tw_ku_le z289
  have k297 : τ295 (r5 0) = 6 := le296.k k266 (by decide)
  have k298 : τ295 (r5 1) = 6 := le296.k k267 (by decide)
  have k299 : τ295 (r5 2) = 6 := le296.k k268 (by decide)
  have k300 : τ295 (r5 3) = 6 := le296.k k269 (by decide)
  have k301 : τ295 q4 = 34 := le296.k k270 (by decide)
  have k302 : τ295 (r88 0) = 6 := le296.k k271 (by decide)
  have k303 : τ295 (r88 1) = 6 := le296.k k272 (by decide)
  have k304 : τ295 (r88 2) = 6 := le296.k k273 (by decide)
  have k305 : τ295 (r88 3) = 6 := le296.k k274 (by decide)
  have k306 : τ295 q87 = 34 := le296.k k275 (by decide)
  have k307 : τ295 q195 = 31 := le296.k k276 (by decide)
  have k308 : τ295 q224 = 31 := le296.k k277 (by decide)
  have k309 : τ295 q254 = 31 := le296.k k279 (by decide)
  have sp310 : tw_sp d τ (tw_rm h x) g τ295 h291 := by rw [eτ295]; exact sp292.ty n288 z289 f294 (by rw [← eτ295]; exact ⟨_, rfl⟩)
  have k311 : τ295 q285 = 31 := by rw [eτ295]; exact tw_ku_s
  have z312 : τ295 x = 0 := by rw [eτ295, tw_ku_n ne290]; exact z280
  have no313 : tw_no τ295 := by rw [eτ295]; exact no281.ku (by decide)
  refine tw_putF rfl in_14 tyX10 tyX10_ok nmX10 8 dX10_init_56 w_1159 rfl (by decide) f293 rfl rfl rfl rfl rfl rfl (Nat.le_of_ble_eq_true rfl) [.int 0, .int 0, .int 155, .ref q4, .ref q87, .ref q195, .ref q224, .ref q254, .ref q285, .null, .null, .null] rfl ?_
  obtain ⟨h314, eh314⟩ : ∃ z : tw_H, z = tw_up h291 x (.inr (14, [.int 0, .int 0, .int 155, .ref q4, .ref q87, .ref q195, .ref q224, .ref q254, .ref q285, .null, .null, .null])) := ⟨_, rfl⟩
  rw [← eh314]
  have sp315 : tw_sp d τ (tw_rm h x) g τ295 h314 := by rw [eh314]; exact sp310.wl tw_rm_s z312
  have f316 : h314 x = some (.inr (14, [.int 0, .int 0, .int 155, .ref q4, .ref q87, .ref q195, .ref q224, .ref q254, .ref q285, .null, .null, .null])) := by rw [eh314]; exact tw_up_s
  refine tw_aload_n 0 dX10_init_59 rfl rfl ?_
  refine tw_new (ci := 3) rfl in_3 tyJx4a65c tyJx4a65c_ok dX10_init_60 w_1121 w_1122 w_82 (fs := [.int 0, .null, .int 0]) (fun j hj => by rcases (show j = 0 ∨ j = 1 ∨ j = 2 by omega) with rfl | rfl | rfl <;> rfl) 2 9 (Nat.le_of_ble_eq_true rfl) (Nat.le_of_ble_eq_true rfl) (fun q317 hq318 hA319 => ?_)
  have n320 := sp315.nn hq318
  have z321 := sp315.1.none hq318
  have ne322 := tw_neF f316 hq318
  obtain ⟨h323, eh323⟩ : ∃ z : tw_H, z = tw_up h314 q317 (.inr (3, [.int 0, .null, .int 0])) := ⟨_, rfl⟩
  rw [← eh323]
  have sp324 : tw_sp d τ (tw_rm h x) g τ295 h323 := by rw [eh323]; exact sp315.mk hq318
  have f325 : h323 x = some (.inr (14, [.int 0, .int 0, .int 155, .ref q4, .ref q87, .ref q195, .ref q224, .ref q254, .ref q285, .null, .null, .null])) := by rw [eh323, tw_up_n ne322]; exact f316
  have f326 : h323 q317 = some (.inr (3, [.int 0, .null, .int 0])) := by rw [eh323]; exact tw_up_s
  refine tw_dup dX10_init_63 rfl ?_
  refine tw_bv (tw_callI (M := mX10_init) (pc := 64) okJx4a65c_init_da8c8 dX10_init_64 w_1123 rfl [] [.ref q317, .ref x] rfl rfl ⟨by decide, by decide⟩ (Nat.le_of_ble_eq_true rfl) (c_alist d h323 q317 f326) 2 9 (Nat.le_of_ble_eq_true rfl) (Nat.le_of_ble_eq_true rfl)) (fun h328 q327 => ?_) (fun E h1 q => q.elim)
  have sp329 : tw_sp d τ (tw_rm h x) g τ295 h328 := by rw [q327]; exact sp324.wl n320 z321
  have f330 : h328 x = some (.inr (14, [.int 0, .int 0, .int 155, .ref q4, .ref q87, .ref q195, .ref q224, .ref q254, .ref q285, .null, .null, .null])) := by rw [q327, tw_up_n ne322]; exact f325
  have f331 : h328 q317 = some (.inr (3, [.int 0, .ref (d.2 102), .int 0])) := by rw [q327]; exact tw_up_s
  refine tw_putF rfl in_14 tyX10 tyX10_ok nmX10 9 dX10_init_67 w_1160 rfl (by decide) f330 rfl rfl rfl rfl rfl rfl (Nat.le_of_ble_eq_true rfl) [.int 0, .int 0, .int 155, .ref q4, .ref q87, .ref q195, .ref q224, .ref q254, .ref q285, .ref q317, .null, .null] rfl ?_
  obtain ⟨h332, eh332⟩ : ∃ z : tw_H, z = tw_up h328 x (.inr (14, [.int 0, .int 0, .int 155, .ref q4, .ref q87, .ref q195, .ref q224, .ref q254, .ref q285, .ref q317, .null, .null])) := ⟨_, rfl⟩
  rw [← eh332]
  have sp333 : tw_sp d τ (tw_rm h x) g τ295 h332 := by rw [eh332]; exact sp329.wl tw_rm_s z312
  have f334 : h332 q317 = some (.inr (3, [.int 0, .ref (d.2 102), .int 0])) := by rw [eh332, tw_up_n (Ne.symm ne322)]; exact f331
  have f335 : h332 x = some (.inr (14, [.int 0, .int 0, .int 155, .ref q4, .ref q87, .ref q195, .ref q224, .ref q254, .ref q285, .ref q317, .null, .null])) := by rw [eh332]; exact tw_up_s
  refine tw_aload_n 0 dX10_init_70 rfl rfl ?_
  refine tw_new (ci := 3) rfl in_3 tyJx4a65c tyJx4a65c_ok dX10_init_71 w_1121 w_1122 w_82 (fs := [.int 0, .null, .int 0]) (fun j hj => by rcases (show j = 0 ∨ j = 1 ∨ j = 2 by omega) with rfl | rfl | rfl <;> rfl) 1 6 (Nat.le_of_ble_eq_true rfl) (Nat.le_of_ble_eq_true rfl) (fun q336 hq337 hA338 => ?_)
  have n339 := sp333.nn hq337
  have z340 := sp333.1.none hq337
  have ne341 := tw_neF f334 hq337
  have ne342 := tw_neF f335 hq337
  obtain ⟨h343, eh343⟩ : ∃ z : tw_H, z = tw_up h332 q336 (.inr (3, [.int 0, .null, .int 0])) := ⟨_, rfl⟩
  rw [← eh343]
  have sp344 : tw_sp d τ (tw_rm h x) g τ295 h343 := by rw [eh343]; exact sp333.mk hq337
  have f345 : h343 q317 = some (.inr (3, [.int 0, .ref (d.2 102), .int 0])) := by rw [eh343, tw_up_n ne341]; exact f334
  have f346 : h343 x = some (.inr (14, [.int 0, .int 0, .int 155, .ref q4, .ref q87, .ref q195, .ref q224, .ref q254, .ref q285, .ref q317, .null, .null])) := by rw [eh343, tw_up_n ne342]; exact f335
  have f347 : h343 q336 = some (.inr (3, [.int 0, .null, .int 0])) := by rw [eh343]; exact tw_up_s
  refine tw_dup dX10_init_74 rfl ?_
  refine tw_bv (tw_callI (M := mX10_init) (pc := 75) okJx4a65c_init_da8c8 dX10_init_75 w_1123 rfl [] [.ref q336, .ref x] rfl rfl ⟨by decide, by decide⟩ (Nat.le_of_ble_eq_true rfl) (c_alist d h343 q336 f347) 1 6 (Nat.le_of_ble_eq_true rfl) (Nat.le_of_ble_eq_true rfl)) (fun h349 q348 => ?_) (fun E h1 q => q.elim)
  have sp350 : tw_sp d τ (tw_rm h x) g τ295 h349 := by rw [q348]; exact sp344.wl n339 z340
  have f351 : h349 q317 = some (.inr (3, [.int 0, .ref (d.2 102), .int 0])) := by rw [q348, tw_up_n ne341]; exact f345
  have f352 : h349 x = some (.inr (14, [.int 0, .int 0, .int 155, .ref q4, .ref q87, .ref q195, .ref q224, .ref q254, .ref q285, .ref q317, .null, .null])) := by rw [q348, tw_up_n ne342]; exact f346
  have f353 : h349 q336 = some (.inr (3, [.int 0, .ref (d.2 102), .int 0])) := by rw [q348]; exact tw_up_s
  refine tw_putF rfl in_14 tyX10 tyX10_ok nmX10 10 dX10_init_78 w_1161 rfl (by decide) f352 rfl rfl rfl rfl rfl rfl (Nat.le_of_ble_eq_true rfl) [.int 0, .int 0, .int 155, .ref q4, .ref q87, .ref q195, .ref q224, .ref q254, .ref q285, .ref q317, .ref q336, .null] rfl ?_
  obtain ⟨h354, eh354⟩ : ∃ z : tw_H, z = tw_up h349 x (.inr (14, [.int 0, .int 0, .int 155, .ref q4, .ref q87, .ref q195, .ref q224, .ref q254, .ref q285, .ref q317, .ref q336, .null])) := ⟨_, rfl⟩
  rw [← eh354]
  have sp355 : tw_sp d τ (tw_rm h x) g τ295 h354 := by rw [eh354]; exact sp350.wl tw_rm_s z312
  have f356 : h354 q317 = some (.inr (3, [.int 0, .ref (d.2 102), .int 0])) := by rw [eh354, tw_up_n (Ne.symm ne322)]; exact f351
  have f357 : h354 q336 = some (.inr (3, [.int 0, .ref (d.2 102), .int 0])) := by rw [eh354, tw_up_n (Ne.symm ne342)]; exact f353
  have f358 : h354 x = some (.inr (14, [.int 0, .int 0, .int 155, .ref q4, .ref q87, .ref q195, .ref q224, .ref q254, .ref q285, .ref q317, .ref q336, .null])) := by rw [eh354]; exact tw_up_s
  refine tw_aload_n 0 dX10_init_81 rfl rfl ?_
  refine tw_new (ci := 3) rfl in_3 tyJx4a65c tyJx4a65c_ok dX10_init_82 w_1121 w_1122 w_82 (fs := [.int 0, .null, .int 0]) (fun j hj => by rcases (show j = 0 ∨ j = 1 ∨ j = 2 by omega) with rfl | rfl | rfl <;> rfl) 0 3 (Nat.le_of_ble_eq_true rfl) (Nat.le_of_ble_eq_true rfl) (fun q359 hq360 hA361 => ?_)
  have n362 := sp355.nn hq360
  have z363 := sp355.1.none hq360
  have ne364 := tw_neF f356 hq360
  have ne365 := tw_neF f357 hq360
  have ne366 := tw_neF f358 hq360
  obtain ⟨h367, eh367⟩ : ∃ z : tw_H, z = tw_up h354 q359 (.inr (3, [.int 0, .null, .int 0])) := ⟨_, rfl⟩
  rw [← eh367]
  have sp368 : tw_sp d τ (tw_rm h x) g τ295 h367 := by rw [eh367]; exact sp355.mk hq360
  have f369 : h367 q317 = some (.inr (3, [.int 0, .ref (d.2 102), .int 0])) := by rw [eh367, tw_up_n ne364]; exact f356
  have f370 : h367 q336 = some (.inr (3, [.int 0, .ref (d.2 102), .int 0])) := by rw [eh367, tw_up_n ne365]; exact f357
  have f371 : h367 x = some (.inr (14, [.int 0, .int 0, .int 155, .ref q4, .ref q87, .ref q195, .ref q224, .ref q254, .ref q285, .ref q317, .ref q336, .null])) := by rw [eh367, tw_up_n ne366]; exact f358
  have f372 : h367 q359 = some (.inr (3, [.int 0, .null, .int 0])) := by rw [eh367]; exact tw_up_s
  refine tw_dup dX10_init_85 rfl ?_
  refine tw_bv (tw_callI (M := mX10_init) (pc := 86) okJx4a65c_init_da8c8 dX10_init_86 w_1123 rfl [] [.ref q359, .ref x] rfl rfl ⟨by decide, by decide⟩ (Nat.le_of_ble_eq_true rfl) (c_alist d h367 q359 f372) 0 3 (Nat.le_of_ble_eq_true rfl) (Nat.le_of_ble_eq_true rfl)) (fun h374 q373 => ?_) (fun E h1 q => q.elim)
  have sp375 : tw_sp d τ (tw_rm h x) g τ295 h374 := by rw [q373]; exact sp368.wl n362 z363
  have f376 : h374 q317 = some (.inr (3, [.int 0, .ref (d.2 102), .int 0])) := by rw [q373, tw_up_n ne364]; exact f369
  have f377 : h374 q336 = some (.inr (3, [.int 0, .ref (d.2 102), .int 0])) := by rw [q373, tw_up_n ne365]; exact f370
  have f378 : h374 x = some (.inr (14, [.int 0, .int 0, .int 155, .ref q4, .ref q87, .ref q195, .ref q224, .ref q254, .ref q285, .ref q317, .ref q336, .null])) := by rw [q373, tw_up_n ne366]; exact f371
  have f379 : h374 q359 = some (.inr (3, [.int 0, .ref (d.2 102), .int 0])) := by rw [q373]; exact tw_up_s
  refine tw_putF rfl in_14 tyX10 tyX10_ok nmX10 11 dX10_init_89 w_1162 rfl (by decide) f378 rfl rfl rfl rfl rfl rfl (Nat.le_of_ble_eq_true rfl) [.int 0, .int 0, .int 155, .ref q4, .ref q87, .ref q195, .ref q224, .ref q254, .ref q285, .ref q317, .ref q336, .ref q359] rfl ?_
  obtain ⟨h380, eh380⟩ : ∃ z : tw_H, z = tw_up h374 x (.inr (14, [.int 0, .int 0, .int 155, .ref q4, .ref q87, .ref q195, .ref q224, .ref q254, .ref q285, .ref q317, .ref q336, .ref q359])) := ⟨_, rfl⟩
  rw [← eh380]
  have sp381 : tw_sp d τ (tw_rm h x) g τ295 h380 := by rw [eh380]; exact sp375.wl tw_rm_s z312
  have f382 : h380 q317 = some (.inr (3, [.int 0, .ref (d.2 102), .int 0])) := by rw [eh380, tw_up_n (Ne.symm ne322)]; exact f376
  have f383 : h380 q336 = some (.inr (3, [.int 0, .ref (d.2 102), .int 0])) := by rw [eh380, tw_up_n (Ne.symm ne342)]; exact f377
  have f384 : h380 q359 = some (.inr (3, [.int 0, .ref (d.2 102), .int 0])) := by rw [eh380, tw_up_n (Ne.symm ne366)]; exact f379
  have f385 : h380 x = some (.inr (14, [.int 0, .int 0, .int 155, .ref q4, .ref q87, .ref q195, .ref q224, .ref q254, .ref q285, .ref q317, .ref q336, .ref q359])) := by rw [eh380]; exact tw_up_s
  obtain ⟨g1, eg1⟩ : ∃ z : tw_G, z = (fun k => if k = 0 then g.1 0 else if k = 1 then 155 else 0, fun k => if k < 3 ∨ (6 ≤ k ∧ k < 9) ∨ (18 ≤ k ∧ k < 22) then g.2 k else if k = 10 then g.2 10 else if k = 11 then x else if k = 12 then q317 else if k = 13 then q336 else if k = 14 then q359 else 0) := ⟨_, rfl⟩
  have sp386 := sp381.gch (g1 := g1) no313 (by rw [eg1]; rfl) (by rw [eg1]; rfl) (by rw [eg1]; rfl) (by rw [eg1]; rfl) (by rw [eg1]; rfl) (by rw [eg1]; rfl) (fun i h1 h2 => by rw [eg1]; exact if_pos (Or.inr (Or.inl ⟨h1, h2⟩))) (fun i h1 h2 => by rw [eg1]; exact if_pos (Or.inr (Or.inr ⟨h1, by omega⟩)))
  obtain ⟨τ387, eτ387⟩ : ∃ z : tw_K, z = tw_ku τ295 q317 24 := ⟨_, rfl⟩
  have le388 : tw_le τ295 τ387 := by rw [eτ387]; exact tw_ku_le z321
  have k389 : τ387 (r5 0) = 6 := le388.k k297 (by decide)
  have k390 : τ387 (r5 1) = 6 := le388.k k298 (by decide)
  have k391 : τ387 (r5 2) = 6 := le388.k k299 (by decide)
  have k392 : τ387 (r5 3) = 6 := le388.k k300 (by decide)
  have k393 : τ387 q4 = 34 := le388.k k301 (by decide)
  have k394 : τ387 (r88 0) = 6 := le388.k k302 (by decide)
  have k395 : τ387 (r88 1) = 6 := le388.k k303 (by decide)
  have k396 : τ387 (r88 2) = 6 := le388.k k304 (by decide)
  have k397 : τ387 (r88 3) = 6 := le388.k k305 (by decide)
  have k398 : τ387 q87 = 34 := le388.k k306 (by decide)
  have k399 : τ387 q195 = 31 := le388.k k307 (by decide)
  have k400 : τ387 q224 = 31 := le388.k k308 (by decide)
  have k401 : τ387 q254 = 31 := le388.k k309 (by decide)
  have k402 : τ387 q285 = 31 := le388.k k311 (by decide)
  have sp403 : tw_sp d τ (tw_rm h x) g1 τ387 h380 := by rw [eτ387]; exact sp386.ty n320 z321 f382 (by rw [← eτ387]; exact ⟨⟨d.2 102, (by rw [eg1]; rfl), Or.inl ⟨rfl, (by rw [eg1]; rfl), (by rw [eg1]; rfl)⟩⟩, (by rw [eg1]; rfl)⟩)
  have k404 : τ387 q317 = 24 := by rw [eτ387]; exact tw_ku_s
  have z405 : τ387 x = 0 := by rw [eτ387, tw_ku_n ne322]; exact z312
  have z406 : τ387 q336 = 0 := by rw [eτ387, tw_ku_n (Ne.symm ne341)]; exact z340
  have z407 : τ387 q359 = 0 := by rw [eτ387, tw_ku_n (Ne.symm ne364)]; exact z363
  obtain ⟨τ408, eτ408⟩ : ∃ z : tw_K, z = tw_ku τ387 q336 25 := ⟨_, rfl⟩
  have le409 : tw_le τ387 τ408 := by rw [eτ408]; exact tw_ku_le z406
  have k410 : τ408 (r5 0) = 6 := le409.k k389 (by decide)
  have k411 : τ408 (r5 1) = 6 := le409.k k390 (by decide)
  have k412 : τ408 (r5 2) = 6 := le409.k k391 (by decide)
  have k413 : τ408 (r5 3) = 6 := le409.k k392 (by decide)
  have k414 : τ408 q4 = 34 := le409.k k393 (by decide)
  have k415 : τ408 (r88 0) = 6 := le409.k k394 (by decide)
  have k416 : τ408 (r88 1) = 6 := le409.k k395 (by decide)
  have k417 : τ408 (r88 2) = 6 := le409.k k396 (by decide)
  have k418 : τ408 (r88 3) = 6 := le409.k k397 (by decide)
  have k419 : τ408 q87 = 34 := le409.k k398 (by decide)
  have k420 : τ408 q195 = 31 := le409.k k399 (by decide)
  have k421 : τ408 q224 = 31 := le409.k k400 (by decide)
  have k422 : τ408 q254 = 31 := le409.k k401 (by decide)
  have k423 : τ408 q285 = 31 := le409.k k402 (by decide)
  have k424 : τ408 q317 = 24 := le409.k k404 (by decide)
  have sp425 : tw_sp d τ (tw_rm h x) g1 τ408 h380 := by rw [eτ408]; exact sp403.ty n339 z406 f383 (by rw [← eτ408]; exact ⟨⟨d.2 102, (by rw [eg1]; rfl), Or.inl ⟨rfl, (by rw [eg1]; rfl), (by rw [eg1]; rfl)⟩⟩, (by rw [eg1]; rfl)⟩)
  have k426 : τ408 q336 = 25 := by rw [eτ408]; exact tw_ku_s
  have z427 : τ408 x = 0 := by rw [eτ408, tw_ku_n ne342]; exact z405
  have z428 : τ408 q359 = 0 := by rw [eτ408, tw_ku_n (Ne.symm ne365)]; exact z407
  obtain ⟨τ429, eτ429⟩ : ∃ z : tw_K, z = tw_ku τ408 q359 26 := ⟨_, rfl⟩
  have le430 : tw_le τ408 τ429 := by rw [eτ429]; exact tw_ku_le z428
  have k431 : τ429 (r5 0) = 6 := le430.k k410 (by decide)
  have k432 : τ429 (r5 1) = 6 := le430.k k411 (by decide)
  have k433 : τ429 (r5 2) = 6 := le430.k k412 (by decide)
  have k434 : τ429 (r5 3) = 6 := le430.k k413 (by decide)
  have k435 : τ429 q4 = 34 := le430.k k414 (by decide)
  have k436 : τ429 (r88 0) = 6 := le430.k k415 (by decide)
  have k437 : τ429 (r88 1) = 6 := le430.k k416 (by decide)
  have k438 : τ429 (r88 2) = 6 := le430.k k417 (by decide)
  have k439 : τ429 (r88 3) = 6 := le430.k k418 (by decide)
  have k440 : τ429 q87 = 34 := le430.k k419 (by decide)
  have k441 : τ429 q195 = 31 := le430.k k420 (by decide)
  have k442 : τ429 q224 = 31 := le430.k k421 (by decide)
  have k443 : τ429 q254 = 31 := le430.k k422 (by decide)
  have k444 : τ429 q285 = 31 := le430.k k423 (by decide)
  have k445 : τ429 q317 = 24 := le430.k k424 (by decide)
  have k446 : τ429 q336 = 25 := le430.k k426 (by decide)
  have sp447 : tw_sp d τ (tw_rm h x) g1 τ429 h380 := by rw [eτ429]; exact sp425.ty n362 z428 f384 (by rw [← eτ429]; exact ⟨⟨d.2 102, (by rw [eg1]; rfl), Or.inl ⟨rfl, (by rw [eg1]; rfl), (by rw [eg1]; rfl)⟩⟩, (by rw [eg1]; rfl)⟩)
  have k448 : τ429 q359 = 26 := by rw [eτ429]; exact tw_ku_s
  have z449 : τ429 x = 0 := by rw [eτ429, tw_ku_n ne366]; exact z427
  refine tw_iconst (v := 0) dX10_init_92 (by decide) ?_
  refine tw_istore_n [(1, .int 0), (0, .ref x)] dX10_init_93 rfl (by decide) rfl ?_
  have L453 : ∀ (r451 k450 : Nat) (h454 : tw_H) (sp455 : tw_sp d τ429 h380 g1 τ429 h454), 4 + 1 ≤ k450 + r451 → k450 ≤ 4 → tw_W d mX10_init (tw_qv (fun h1 => ∃ (g1 : tw_G) (τ1 : tw_K), (g1.1 0 = g.1 0 ∧ g1.1 1 = 155 ∧ (∀ i, i < 3 → g1.2 i = g.2 i) ∧ (∀ i, 6 ≤ i → i < 9 → g1.2 i = g.2 i) ∧ (∀ i, 3 ≤ i → i < 6 → g1.2 i = 0) ∧ g1.2 21 = g.2 21 ∧ g1.2 22 = 0) ∧ tw_ini d g1 τ h x 36 τ1 h1) tw_nx) 94 [(0, .ref x), (1, .int (nI k450))] [] h454 0 3 := by
    intro r451
    induction r451 with
    | zero => intro k450 h454 sp455 hk457 hk458; exact absurd hk457 (by omega)
    | succ r451 ih452 =>
      intro k450 h454 sp455 hk457 hk458
      have f459 := (sp455.2.2 _ _ f385 z449).1
      have z460 := (sp455.2.2 _ _ f385 z449).2
      refine tw_iload_n 1 dX10_init_94 rfl rfl ?_
      refine tw_iconst (v := 4) dX10_init_95 (by decide) ?_
      refine tw_icmp_ge 137 dX10_init_96 (by decide) (fun c461 => ?_) (fun c461 => ?_)
      · have sp462 := sp447.tr sp455
        obtain ⟨τ463, eτ463⟩ : ∃ z : tw_K, z = tw_ku τ429 x 36 := ⟨_, rfl⟩
        have le464 : tw_le τ429 τ463 := by rw [eτ463]; exact tw_ku_le z460
        have k465 : τ463 (r5 0) = 6 := le464.k k431 (by decide)
        have k466 : τ463 (r5 1) = 6 := le464.k k432 (by decide)
        have k467 : τ463 (r5 2) = 6 := le464.k k433 (by decide)
        have k468 : τ463 (r5 3) = 6 := le464.k k434 (by decide)
        have k469 : τ463 q4 = 34 := le464.k k435 (by decide)
        have k470 : τ463 (r88 0) = 6 := le464.k k436 (by decide)
        have k471 : τ463 (r88 1) = 6 := le464.k k437 (by decide)
        have k472 : τ463 (r88 2) = 6 := le464.k k438 (by decide)
        have k473 : τ463 (r88 3) = 6 := le464.k k439 (by decide)
        have k474 : τ463 q87 = 34 := le464.k k440 (by decide)
        have k475 : τ463 q195 = 31 := le464.k k441 (by decide)
        have k476 : τ463 q224 = 31 := le464.k k442 (by decide)
        have k477 : τ463 q254 = 31 := le464.k k443 (by decide)
        have k478 : τ463 q285 = 31 := le464.k k444 (by decide)
        have k479 : τ463 q317 = 24 := le464.k k445 (by decide)
        have k480 : τ463 q336 = 25 := le464.k k446 (by decide)
        have k481 : τ463 q359 = 26 := le464.k k448 (by decide)
        have sp482 : tw_sp d τ (tw_rm h x) g1 τ463 h454 := by rw [eτ463]; exact sp462.ty tw_rm_s z460 f459 (by rw [← eτ463]; exact ⟨0, 0, q4, q87, q195, q224, q254, q285, q317, q336, q359, (by rw [eg1]; rfl), k469, k474, k475, k476, k477, k478, k479, k480, k481, (by rw [eg1]; exact Nat.zero_le _), (by rw [eg1]; exact Nat.zero_le _), (by rw [eg1]; exact Nat.zero_le _), (by rw [eg1]; rfl), (by decide), (by rw [eg1]; rfl), (by rw [eg1]; exact Nat.zero_le _)⟩)
        have k483 : τ463 x = 36 := by rw [eτ463]; exact tw_ku_s
        exact tw_vret dX10_init_137 rfl (Or.inl ⟨rfl, g1, _, ⟨by rw [eg1]; rfl, by rw [eg1]; rfl, fun i hi => by rw [eg1]; exact if_pos (Or.inl hi), fun i h1 h2 => by rw [eg1]; exact if_pos (Or.inr (Or.inl ⟨h1, h2⟩)), (fun i h3 h6 => by rw [eg1]; dsimp only; repeat rw [if_neg (by omega)]), by rw [eg1]; rfl, by rw [eg1]; rfl⟩, sp482.toini k483⟩)
      · have kl484 := tw_klt (N := 4) c461 hk458 (by decide)
        refine tw_iconst (v := 0) dX10_init_99 (by decide) ?_
        refine tw_istore_n [(2, .int 0), (0, .ref x), (1, .int (nI k450))] dX10_init_100 rfl (by decide) rfl ?_
        have L488 : ∀ (r486 k485 : Nat) (h489 : tw_H) (sp490 : tw_sp d τ429 h454 g1 τ429 h489), 4 + 1 ≤ k485 + r486 → k485 ≤ 4 → tw_W d mX10_init (tw_qv (fun h1 => ∃ (g1 : tw_G) (τ1 : tw_K), (g1.1 0 = g.1 0 ∧ g1.1 1 = 155 ∧ (∀ i, i < 3 → g1.2 i = g.2 i) ∧ (∀ i, 6 ≤ i → i < 9 → g1.2 i = g.2 i) ∧ (∀ i, 3 ≤ i → i < 6 → g1.2 i = 0) ∧ g1.2 21 = g.2 21 ∧ g1.2 22 = 0) ∧ tw_ini d g1 τ h x 36 τ1 h1) tw_nx) 101 [(0, .ref x), (1, .int (nI k450)), (2, .int (nI k485))] [] h489 0 3 := by
          intro r486
          induction r486 with
          | zero => intro k485 h489 sp490 hk492 hk493; exact absurd hk492 (by omega)
          | succ r486 ih487 =>
            intro k485 h489 sp490 hk492 hk493
            have f494 := (sp490.2.2 _ _ f459 z460).1
            have z495 := (sp490.2.2 _ _ f459 z460).2
            refine tw_iload_n 2 dX10_init_101 rfl rfl ?_
            refine tw_iconst (v := 4) dX10_init_102 (by decide) ?_
            refine tw_icmp_ge 131 dX10_init_103 (by decide) (fun c496 => ?_) (fun c496 => ?_)
            · obtain ⟨v497, ev497⟩ : ∃ y : Int32, y = (nI k450) + 1 := ⟨_, rfl⟩
              refine tw_iinc [(1, .int v497), (0, .ref x), (2, .int (nI k485))] 1 dX10_init_131 rfl (by rw [ev497]; rfl) (by decide) rfl ?_
              refine tw_goto 94 dX10_init_134 (by decide) ?_
              have qv497 := tw_nI3 ev497
              rw [qv497]
              refine tw_lv [1, 0] rfl ?_
              exact ih452 (k450 + 1)  _ (sp455.tr sp490) (by omega) (by omega)
            · have kl498 := tw_klt (N := 4) c496 hk493 (by decide)
              refine tw_aload_n 0 dX10_init_106 rfl rfl ?_
              refine tw_get (v := .ref q4) rfl in_14 3 dX10_init_107 w_1154 rfl (by decide) f494 rfl ?_
              refine tw_iload_n 1 dX10_init_110 rfl rfl ?_
              obtain ⟨e499, f500, F501, rfl, k502⟩ := sp490.1 q4 34 k435 (by decide)
              obtain ⟨q503, k504, k505⟩ := k502 ((nI k450)).toNatClampNeg (by rw [nI_clamp (by omega)]; omega)
              refine tw_aald (v := .ref q503) 8 rfl rfl dX10_init_111 f500 (vp_in_nI (by omega) (by decide)) (by rw [k504]; rfl) ?_
              refine tw_iload_n 2 dX10_init_112 rfl rfl ?_
              refine tw_iconst (v := 3) dX10_init_113 (by decide) ?_
              obtain ⟨e506, f507, F508, rfl⟩ := sp490.1 q503 6 k505 (by decide)
              refine tw_iast dX10_init_114 f507 (vp_in_nI (by omega) (by decide)) ?_
              obtain ⟨h509, eh509⟩ : ∃ z : tw_H, z = tw_up h489 q503 (.inl (d.2 0, 4, .inl (upd F508 ((nI k485)).toNatClampNeg 3))) := ⟨_, rfl⟩
              rw [← eh509]
              have sp510 : tw_sp d τ429 h454 g1 τ429 h509 := by rw [eh509]; exact sp490.set k505 (by decide) ⟨_, rfl⟩
              have f511 : h509 x = some (.inr (14, [.int 0, .int 0, .int 155, .ref q4, .ref q87, .ref q195, .ref q224, .ref q254, .ref q285, .ref q317, .ref q336, .ref q359])) := by rw [eh509, tw_up_n (fun q => absurd (z495) (by rw [q, k505]; decide))]; exact f494
              refine tw_aload_n 0 dX10_init_115 rfl rfl ?_
              refine tw_get (v := .ref q87) rfl in_14 4 dX10_init_116 w_1155 rfl (by decide) f511 rfl ?_
              refine tw_iload_n 1 dX10_init_119 rfl rfl ?_
              obtain ⟨e512, f513, F514, rfl, k515⟩ := sp510.1 q87 34 k440 (by decide)
              obtain ⟨q516, k517, k518⟩ := k515 ((nI k450)).toNatClampNeg (by rw [nI_clamp (by omega)]; omega)
              refine tw_aald (v := .ref q516) 8 rfl rfl dX10_init_120 f513 (vp_in_nI (by omega) (by decide)) (by rw [k517]; rfl) ?_
              refine tw_iload_n 2 dX10_init_121 rfl rfl ?_
              refine tw_bipush (v := 10) dX10_init_122 (by decide) ?_
              obtain ⟨e519, f520, F521, rfl⟩ := sp510.1 q516 6 k518 (by decide)
              refine tw_iast dX10_init_124 f520 (vp_in_nI (by omega) (by decide)) ?_
              obtain ⟨h522, eh522⟩ : ∃ z : tw_H, z = tw_up h509 q516 (.inl (d.2 0, 4, .inl (upd F521 ((nI k485)).toNatClampNeg 10))) := ⟨_, rfl⟩
              rw [← eh522]
              have sp523 : tw_sp d τ429 h454 g1 τ429 h522 := by rw [eh522]; exact sp510.set k518 (by decide) ⟨_, rfl⟩
              have f524 : h522 x = some (.inr (14, [.int 0, .int 0, .int 155, .ref q4, .ref q87, .ref q195, .ref q224, .ref q254, .ref q285, .ref q317, .ref q336, .ref q359])) := by rw [eh522, tw_up_n (fun q => absurd (z495) (by rw [q, k518]; decide))]; exact f511
              obtain ⟨v525, ev525⟩ : ∃ y : Int32, y = (nI k485) + 1 := ⟨_, rfl⟩
              refine tw_iinc [(2, .int v525), (0, .ref x), (1, .int (nI k450))] 2 dX10_init_125 rfl (by rw [ev525]; rfl) (by decide) rfl ?_
              refine tw_goto 101 dX10_init_128 (by decide) ?_
              have qv525 := tw_nI3 ev525
              rw [qv525]
              refine tw_lv [1, 2, 0] rfl ?_
              exact ih487 (k485 + 1)  _ sp523 (by omega) (by omega)
        refine tw_lv [1, 2, 0] rfl ?_
        exact L488 (4 + 1) 0  _ (tw_sp.rf sp455.1) (by omega) (by omega)
  refine tw_lv [1, 0] rfl ?_
  exact L453 (4 + 1) 0  _ (tw_sp.rf sp447.1) (by omega) (by omega)

/-! the class's methods over the typed heap. Laid by wip/p5/mkclass.py. -/
set_option maxHeartbeats 4000000 in
set_option maxRecDepth 100000 in
theorem c2_X7_init (d : tw_D) (g : tw_G) (τ : tw_K) (h : tw_H) (hw : tw_wt d g τ h) (x : Nat) (hz : τ x = 0) (hx : h x = some (.inr (11, [.int 0, .int 0, .null, .null, .null]))) : tw_Ct d mX7_init 3 9 [.ref x] h (tw_qv (fun h1 => ∃ (τ1 : tw_K) (v o t : Nat), tw_sp d τ (tw_rm h x) g τ1 h1 ∧ h1 x = some (.inr (11, [.int 0, .int 0, .ref v, .ref o, .ref t])) ∧ τ1 x = 0 ∧ τ1 v = 31 ∧ τ1 o = 32 ∧ τ1 t = 33 ∧ ∀ b, b ≠ x → h b ≠ none → h1 b = h b) tw_nx) := by
  refine tw_of (by decide +kernel) (Nat.le_of_ble_eq_true rfl) ?_
  show tw_W d mX7_init _ 0 [(0, .ref x)] [] h 3 9
  have sp0 := tw_sp.rm hw x
  have fr0 : ∀ b, b ≠ x → h b ≠ none → h b = h b := fun _ _ _ => rfl
  refine tw_aload_n 0 dX7_init_0 rfl rfl ?_
  refine tw_objInit dX7_init_1 w_1217 w_117 w_118 ⟨by decide, Nat.le_of_ble_eq_true rfl⟩ ?_
  refine tw_aload_n 0 dX7_init_4 rfl rfl ?_
  refine tw_iconst (v := 2) dX7_init_5 (by decide) ?_
  refine tw_newa (a0 := (2, .inr (.inl (fun _ => 0)))) 1 rfl dX7_init_6 rfl w_1150 (fun _ => rfl) (by decide) (by decide) (by decide) 2 7 (Nat.le_of_ble_eq_true rfl) (Nat.le_of_ble_eq_true rfl) (fun q1 hq2 hA3 => ?_)
  have n4 := sp0.nn hq2
  have z5 := sp0.1.none hq2
  have ne6 := tw_neF hx hq2
  obtain ⟨h7, eh7⟩ : ∃ z : tw_H, z = tw_up h q1 (.inl (d.2 1, 2, .inr (.inl (fun _ => 0)))) := ⟨_, rfl⟩
  rw [← eh7]
  have fr8 : ∀ b, b ≠ x → h b ≠ none → h7 b = h b := fun b n1 n2 => by rw [eh7, tw_up_n (fun z => n2 (tw_rmN n4 z n1))] <;> exact fr0 b n1 n2
  have sp9 : tw_sp d τ (tw_rm h x) g τ h7 := by rw [eh7]; exact sp0.mk hq2
  have f10 : h7 x = some (.inr (11, [.int 0, .int 0, .null, .null, .null])) := by rw [eh7, tw_up_n ne6]; exact hx
  have f11 : h7 q1 = some (.inl (d.2 1, 2, .inr (.inl (fun _ => 0)))) := by rw [eh7]; exact tw_up_s
  obtain ⟨τ12, eτ12⟩ : ∃ z : tw_K, z = tw_ku τ q1 31 := ⟨_, rfl⟩
  have le13 : tw_le τ τ12 := by rw [eτ12]; exact tw_ku_le z5
  have sp14 : tw_sp d τ (tw_rm h x) g τ12 h7 := by rw [eτ12]; exact sp9.ty n4 z5 f11 (by rw [← eτ12]; exact ⟨_, rfl⟩)
  have k15 : τ12 q1 = 31 := by rw [eτ12]; exact tw_ku_s
  have z16 : τ12 x = 0 := by rw [eτ12, tw_ku_n ne6]; exact hz
  refine tw_put rfl in_11 tyX7 tyX7_ok nmX7 2 dX7_init_8 w_1220 rfl (by decide) f10 rfl rfl rfl rfl (Nat.le_of_ble_eq_true rfl) [.int 0, .int 0, .ref q1, .null, .null] rfl ?_
  obtain ⟨h17, eh17⟩ : ∃ z : tw_H, z = tw_up h7 x (.inr (11, [.int 0, .int 0, .ref q1, .null, .null])) := ⟨_, rfl⟩
  rw [← eh17]
  have fr18 : ∀ b, b ≠ x → h b ≠ none → h17 b = h b := fun b n1 n2 => by rw [eh17, tw_up_n n1] <;> exact fr8 b n1 n2
  have sp19 : tw_sp d τ (tw_rm h x) g τ12 h17 := by rw [eh17]; exact sp14.wl tw_rm_s z16
  have f20 : h17 x = some (.inr (11, [.int 0, .int 0, .ref q1, .null, .null])) := by rw [eh17]; exact tw_up_s
  refine tw_aload_n 0 dX7_init_11 rfl rfl ?_
  refine tw_iconst (v := 2) dX7_init_12 (by decide) ?_
  refine tw_newa (a0 := (2, .inl (fun _ => 0))) 2 rfl dX7_init_13 rfl w_1237 (fun _ => rfl) (by decide) (by decide) (by decide) 1 5 (Nat.le_of_ble_eq_true rfl) (Nat.le_of_ble_eq_true rfl) (fun q21 hq22 hA23 => ?_)
  have n24 := sp19.nn hq22
  have z25 := sp19.1.none hq22
  have ne26 := tw_neF f20 hq22
  obtain ⟨h27, eh27⟩ : ∃ z : tw_H, z = tw_up h17 q21 (.inl (d.2 2, 2, .inl (fun _ => 0))) := ⟨_, rfl⟩
  rw [← eh27]
  have fr28 : ∀ b, b ≠ x → h b ≠ none → h27 b = h b := fun b n1 n2 => by rw [eh27, tw_up_n (fun z => n2 (tw_rmN n24 z n1))] <;> exact fr18 b n1 n2
  have sp29 : tw_sp d τ (tw_rm h x) g τ12 h27 := by rw [eh27]; exact sp19.mk hq22
  have f30 : h27 x = some (.inr (11, [.int 0, .int 0, .ref q1, .null, .null])) := by rw [eh27, tw_up_n ne26]; exact f20
  have f31 : h27 q21 = some (.inl (d.2 2, 2, .inl (fun _ => 0))) := by rw [eh27]; exact tw_up_s
  obtain ⟨τ32, eτ32⟩ : ∃ z : tw_K, z = tw_ku τ12 q21 32 := ⟨_, rfl⟩
  have le33 : tw_le τ12 τ32 := by rw [eτ32]; exact tw_ku_le z25
  have k34 : τ32 q1 = 31 := le33.k k15 (by decide)
  have sp35 : tw_sp d τ (tw_rm h x) g τ32 h27 := by rw [eτ32]; exact sp29.ty n24 z25 f31 (by rw [← eτ32]; exact ⟨_, rfl, fun _ => Or.inl rfl⟩)
  have k36 : τ32 q21 = 32 := by rw [eτ32]; exact tw_ku_s
  have z37 : τ32 x = 0 := by rw [eτ32, tw_ku_n ne26]; exact z16
  refine tw_dup dX7_init_15 rfl ?_
  refine tw_iconst (v := 0) dX7_init_16 (by decide) ?_
  refine tw_iconst (v := 1) dX7_init_17 (by decide) ?_
  obtain ⟨e38, f39, F40, rfl, k41⟩ := sp35.1 q21 32 k36 (by decide)
  refine tw_zast dX7_init_18 f39 (vp_in_nI (n := 0) (by decide) (by decide)) ?_
  obtain ⟨h42, eh42⟩ : ∃ z : tw_H, z = tw_up h27 q21 (.inl (d.2 2, 2, .inl (upd F40 (0 : Int32).toNatClampNeg (vp_nar .boolean 1)))) := ⟨_, rfl⟩
  rw [← eh42]
  have fr43 : ∀ b, b ≠ x → h b ≠ none → h42 b = h b := fun b n1 n2 => by rw [eh42, tw_up_n (fun z => n2 (tw_rmN n24 z n1))] <;> exact fr28 b n1 n2
  have sp44 : tw_sp d τ (tw_rm h x) g τ32 h42 := by rw [eh42]; exact sp35.set k36 (by decide) ⟨_, rfl, tw_01up k41 (tw_vp01 (by unfold tw_01; decide))⟩
  have f45 : h42 x = some (.inr (11, [.int 0, .int 0, .ref q1, .null, .null])) := by rw [eh42, tw_up_n ne26]; exact f30
  refine tw_dup dX7_init_19 rfl ?_
  refine tw_iconst (v := 1) dX7_init_20 (by decide) ?_
  refine tw_iconst (v := 1) dX7_init_21 (by decide) ?_
  obtain ⟨e46, f47, F48, rfl, k49⟩ := sp44.1 q21 32 k36 (by decide)
  refine tw_zast dX7_init_22 f47 (vp_in_nI (n := 1) (by decide) (by decide)) ?_
  obtain ⟨h50, eh50⟩ : ∃ z : tw_H, z = tw_up h42 q21 (.inl (d.2 2, 2, .inl (upd F48 (1 : Int32).toNatClampNeg (vp_nar .boolean 1)))) := ⟨_, rfl⟩
  rw [← eh50]
  have fr51 : ∀ b, b ≠ x → h b ≠ none → h50 b = h b := fun b n1 n2 => by rw [eh50, tw_up_n (fun z => n2 (tw_rmN n24 z n1))] <;> exact fr43 b n1 n2
  have sp52 : tw_sp d τ (tw_rm h x) g τ32 h50 := by rw [eh50]; exact sp44.set k36 (by decide) ⟨_, rfl, tw_01up k49 (tw_vp01 (by unfold tw_01; decide))⟩
  have f53 : h50 x = some (.inr (11, [.int 0, .int 0, .ref q1, .null, .null])) := by rw [eh50, tw_up_n ne26]; exact f45
  refine tw_put rfl in_11 tyX7 tyX7_ok nmX7 3 dX7_init_23 w_1222 rfl (by decide) f53 rfl rfl rfl rfl (Nat.le_of_ble_eq_true rfl) [.int 0, .int 0, .ref q1, .ref q21, .null] rfl ?_
  obtain ⟨h54, eh54⟩ : ∃ z : tw_H, z = tw_up h50 x (.inr (11, [.int 0, .int 0, .ref q1, .ref q21, .null])) := ⟨_, rfl⟩
  rw [← eh54]
  have fr55 : ∀ b, b ≠ x → h b ≠ none → h54 b = h b := fun b n1 n2 => by rw [eh54, tw_up_n n1] <;> exact fr51 b n1 n2
  have sp56 : tw_sp d τ (tw_rm h x) g τ32 h54 := by rw [eh54]; exact sp52.wl tw_rm_s z37
  have f57 : h54 x = some (.inr (11, [.int 0, .int 0, .ref q1, .ref q21, .null])) := by rw [eh54]; exact tw_up_s
  refine tw_aload_n 0 dX7_init_26 rfl rfl ?_
  refine tw_iconst (v := 5) dX7_init_27 (by decide) ?_
  refine tw_newa (a0 := (5, .inl (fun _ => 0))) 0 rfl dX7_init_28 rfl w_500 (fun _ => rfl) (by decide) (by decide) (by decide) 0 0 (Nat.le_of_ble_eq_true rfl) (Nat.le_of_ble_eq_true rfl) (fun q58 hq59 hA60 => ?_)
  have n61 := sp56.nn hq59
  have z62 := sp56.1.none hq59
  have ne63 := tw_neF f57 hq59
  obtain ⟨h64, eh64⟩ : ∃ z : tw_H, z = tw_up h54 q58 (.inl (d.2 0, 5, .inl (fun _ => 0))) := ⟨_, rfl⟩
  rw [← eh64]
  have fr65 : ∀ b, b ≠ x → h b ≠ none → h64 b = h b := fun b n1 n2 => by rw [eh64, tw_up_n (fun z => n2 (tw_rmN n61 z n1))] <;> exact fr55 b n1 n2
  have sp66 : tw_sp d τ (tw_rm h x) g τ32 h64 := by rw [eh64]; exact sp56.mk hq59
  have f67 : h64 x = some (.inr (11, [.int 0, .int 0, .ref q1, .ref q21, .null])) := by rw [eh64, tw_up_n ne63]; exact f57
  have f68 : h64 q58 = some (.inl (d.2 0, 5, .inl (fun _ => 0))) := by rw [eh64]; exact tw_up_s
  obtain ⟨τ69, eτ69⟩ : ∃ z : tw_K, z = tw_ku τ32 q58 33 := ⟨_, rfl⟩
  have le70 : tw_le τ32 τ69 := by rw [eτ69]; exact tw_ku_le z62
  have k71 : τ69 q1 = 31 := le70.k k34 (by decide)
  have k72 : τ69 q21 = 32 := le70.k k36 (by decide)
  have sp73 : tw_sp d τ (tw_rm h x) g τ69 h64 := by rw [eτ69]; exact sp66.ty n61 z62 f68 (by rw [← eτ69]; exact ⟨_, rfl, fun _ => by decide⟩)
  have k74 : τ69 q58 = 33 := by rw [eτ69]; exact tw_ku_s
  have z75 : τ69 x = 0 := by rw [eτ69, tw_ku_n ne63]; exact z37
  refine tw_put rfl in_11 tyX7 tyX7_ok nmX7 4 dX7_init_30 w_1224 rfl (by decide) f67 rfl rfl rfl rfl (Nat.le_of_ble_eq_true rfl) [.int 0, .int 0, .ref q1, .ref q21, .ref q58] rfl ?_
  obtain ⟨h76, eh76⟩ : ∃ z : tw_H, z = tw_up h64 x (.inr (11, [.int 0, .int 0, .ref q1, .ref q21, .ref q58])) := ⟨_, rfl⟩
  rw [← eh76]
  have fr77 : ∀ b, b ≠ x → h b ≠ none → h76 b = h b := fun b n1 n2 => by rw [eh76, tw_up_n n1] <;> exact fr65 b n1 n2
  have sp78 : tw_sp d τ (tw_rm h x) g τ69 h76 := by rw [eh76]; exact sp73.wl tw_rm_s z75
  have f79 : h76 x = some (.inr (11, [.int 0, .int 0, .ref q1, .ref q21, .ref q58])) := by rw [eh76]; exact tw_up_s
  exact tw_vret dX7_init_33 rfl (Or.inl ⟨rfl, _, q1, q21, q58, sp78, f79, z75, k71, k72, k74, fr77⟩)

set_option maxHeartbeats 4000000 in
set_option maxRecDepth 100000 in
theorem c2_X9_init (d : tw_D) (g : tw_G) (τ : tw_K) (h : tw_H) (hw : tw_wt d g τ h) (x : Nat) (hz : τ x = 0) (hx : h x = some (.inr (13, [.int 0, .int 0, .int 0, .null]))) : tw_Ct d mX9_init 1 2 [.ref x] h (tw_qv (fun h1 => ∃ (τ1 : tw_K) (p : Nat), tw_sp d τ (tw_rm h x) g τ1 h1 ∧ h1 x = some (.inr (13, [.int 0, .int (-1), .int (-1), .ref p])) ∧ τ1 x = 0 ∧ τ1 p = 31 ∧ ∀ b, b ≠ x → h b ≠ none → h1 b = h b) tw_nx) := by
  refine tw_of (by decide +kernel) (Nat.le_of_ble_eq_true rfl) ?_
  show tw_W d mX9_init _ 0 [(0, .ref x)] [] h 1 2
  have sp0 := tw_sp.rm hw x
  have fr0 : ∀ b, b ≠ x → h b ≠ none → h b = h b := fun _ _ _ => rfl
  refine tw_aload_n 0 dX9_init_0 rfl rfl ?_
  refine tw_objInit dX9_init_1 w_1341 w_117 w_118 ⟨by decide, Nat.le_of_ble_eq_true rfl⟩ ?_
  refine tw_aload_n 0 dX9_init_4 rfl rfl ?_
  refine tw_iconst (v := -1) dX9_init_5 (by decide) ?_
  refine tw_put rfl in_13 tyX9 tyX9_ok nmX9 1 dX9_init_6 w_1343 rfl (by decide) hx rfl rfl rfl rfl (Nat.le_of_ble_eq_true rfl) [.int 0, .int (-1), .int 0, .null] rfl ?_
  obtain ⟨h1, eh1⟩ : ∃ z : tw_H, z = tw_up h x (.inr (13, [.int 0, .int (-1), .int 0, .null])) := ⟨_, rfl⟩
  rw [← eh1]
  have fr2 : ∀ b, b ≠ x → h b ≠ none → h1 b = h b := fun b n1 n2 => by rw [eh1, tw_up_n n1] <;> exact fr0 b n1 n2
  have sp3 : tw_sp d τ (tw_rm h x) g τ h1 := by rw [eh1]; exact sp0.wl tw_rm_s hz
  have f4 : h1 x = some (.inr (13, [.int 0, .int (-1), .int 0, .null])) := by rw [eh1]; exact tw_up_s
  refine tw_aload_n 0 dX9_init_9 rfl rfl ?_
  refine tw_iconst (v := -1) dX9_init_10 (by decide) ?_
  refine tw_put rfl in_13 tyX9 tyX9_ok nmX9 2 dX9_init_11 w_1345 rfl (by decide) f4 rfl rfl rfl rfl (Nat.le_of_ble_eq_true rfl) [.int 0, .int (-1), .int (-1), .null] rfl ?_
  obtain ⟨h5, eh5⟩ : ∃ z : tw_H, z = tw_up h1 x (.inr (13, [.int 0, .int (-1), .int (-1), .null])) := ⟨_, rfl⟩
  rw [← eh5]
  have fr6 : ∀ b, b ≠ x → h b ≠ none → h5 b = h b := fun b n1 n2 => by rw [eh5, tw_up_n n1] <;> exact fr2 b n1 n2
  have sp7 : tw_sp d τ (tw_rm h x) g τ h5 := by rw [eh5]; exact sp3.wl tw_rm_s hz
  have f8 : h5 x = some (.inr (13, [.int 0, .int (-1), .int (-1), .null])) := by rw [eh5]; exact tw_up_s
  refine tw_aload_n 0 dX9_init_14 rfl rfl ?_
  refine tw_iconst (v := 2) dX9_init_15 (by decide) ?_
  refine tw_newa (a0 := (2, .inr (.inl (fun _ => 0)))) 1 rfl dX9_init_16 rfl w_1150 (fun _ => rfl) (by decide) (by decide) (by decide) 0 0 (Nat.le_of_ble_eq_true rfl) (Nat.le_of_ble_eq_true rfl) (fun q9 hq10 hA11 => ?_)
  have n12 := sp7.nn hq10
  have z13 := sp7.1.none hq10
  have ne14 := tw_neF f8 hq10
  obtain ⟨h15, eh15⟩ : ∃ z : tw_H, z = tw_up h5 q9 (.inl (d.2 1, 2, .inr (.inl (fun _ => 0)))) := ⟨_, rfl⟩
  rw [← eh15]
  have fr16 : ∀ b, b ≠ x → h b ≠ none → h15 b = h b := fun b n1 n2 => by rw [eh15, tw_up_n (fun z => n2 (tw_rmN n12 z n1))] <;> exact fr6 b n1 n2
  have sp17 : tw_sp d τ (tw_rm h x) g τ h15 := by rw [eh15]; exact sp7.mk hq10
  have f18 : h15 x = some (.inr (13, [.int 0, .int (-1), .int (-1), .null])) := by rw [eh15, tw_up_n ne14]; exact f8
  have f19 : h15 q9 = some (.inl (d.2 1, 2, .inr (.inl (fun _ => 0)))) := by rw [eh15]; exact tw_up_s
  obtain ⟨τ20, eτ20⟩ : ∃ z : tw_K, z = tw_ku τ q9 31 := ⟨_, rfl⟩
  have le21 : tw_le τ τ20 := by rw [eτ20]; exact tw_ku_le z13
  have sp22 : tw_sp d τ (tw_rm h x) g τ20 h15 := by rw [eτ20]; exact sp17.ty n12 z13 f19 (by rw [← eτ20]; exact ⟨_, rfl⟩)
  have k23 : τ20 q9 = 31 := by rw [eτ20]; exact tw_ku_s
  have z24 : τ20 x = 0 := by rw [eτ20, tw_ku_n ne14]; exact hz
  refine tw_put rfl in_13 tyX9 tyX9_ok nmX9 3 dX9_init_18 w_1347 rfl (by decide) f18 rfl rfl rfl rfl (Nat.le_of_ble_eq_true rfl) [.int 0, .int (-1), .int (-1), .ref q9] rfl ?_
  obtain ⟨h25, eh25⟩ : ∃ z : tw_H, z = tw_up h15 x (.inr (13, [.int 0, .int (-1), .int (-1), .ref q9])) := ⟨_, rfl⟩
  rw [← eh25]
  have fr26 : ∀ b, b ≠ x → h b ≠ none → h25 b = h b := fun b n1 n2 => by rw [eh25, tw_up_n n1] <;> exact fr16 b n1 n2
  have sp27 : tw_sp d τ (tw_rm h x) g τ20 h25 := by rw [eh25]; exact sp22.wl tw_rm_s z24
  have f28 : h25 x = some (.inr (13, [.int 0, .int (-1), .int (-1), .ref q9])) := by rw [eh25]; exact tw_up_s
  exact tw_vret dX9_init_21 rfl (Or.inl ⟨rfl, _, q9, sp27, f28, z24, k23, fr26⟩)

set_option maxHeartbeats 4000000 in
set_option maxRecDepth 100000 in
theorem c2_X8_init (d : tw_D) (g : tw_G) (τ : tw_K) (h : tw_H) (hw : tw_wt d g τ h) (x : Nat) (hz : τ x = 0) (hx : h x = some (.inr (12, [.int 0, .int 0, .int 0, .int 0, .int 0]))) : tw_Ct d mX8_init 0 0 [.ref x] h (tw_qv (fun h1 => ∃ (τ1 : tw_K), tw_sp d τ (tw_rm h x) g τ1 h1 ∧ h1 x = some (.inr (12, [.int 0, .int 0, .int 0, .int 0, .int 0])) ∧ τ1 x = 0 ∧ ∀ b, b ≠ x → h b ≠ none → h1 b = h b) tw_nx) := by
  refine tw_of (by decide +kernel) (Nat.le_of_ble_eq_true rfl) ?_
  show tw_W d mX8_init _ 0 [(0, .ref x)] [] h 0 0
  have sp0 := tw_sp.rm hw x
  have fr0 : ∀ b, b ≠ x → h b ≠ none → h b = h b := fun _ _ _ => rfl
  refine tw_aload_n 0 dX8_init_0 rfl rfl ?_
  refine tw_objInit dX8_init_1 w_1442 w_117 w_118 ⟨by decide, Nat.le_of_ble_eq_true rfl⟩ ?_
  exact tw_vret dX8_init_4 rfl (Or.inl ⟨rfl, _, sp0, hx, hz, fr0⟩)

theorem tw_nsc {k v : Int32} {n : Nat} (z : ¬ (0 ≤ k ∧ k ≤ v)) (e : v = nI n - 1) (hn : n ≤ 10) : ¬ tw_ix n k := by
  rintro ⟨j, hj, rfl⟩
  obtain ⟨m, rfl⟩ : ∃ m, n = m + 1 := ⟨n - 1, by omega⟩
  rw [e, nI_pred] at z
  exact z ⟨nI_le (a := 0) (Nat.zero_le _) (by omega), nI_le (by omega) (by omega)⟩
set_option maxHeartbeats 4000000 in
set_option maxRecDepth 100000 in
theorem c2_X10_isNoCountry (d : tw_D) (g : tw_G) (τ : tw_K) (h : tw_H) (hw : tw_wt d g τ h) (x : Nat) (kx : τ x = 36) (k : Int32) : tw_Ct d mX10_isNoCountry 0 0 [.ref x, .int k] h (tw_qi (fun r h1 => h1 = h ∧ (r = 1 ∧ ¬ tw_ix (g.2 3) k ∨ r = 0 ∧ tw_ix (g.2 3) k)) tw_nx) := by
  refine tw_of (by decide +kernel) (Nat.le_of_ble_eq_true rfl) ?_
  show tw_W d mX10_isNoCountry _ 0 [(0, .ref x), (1, .int k)] [] h 0 0
  have sp0 := tw_sp.rf hw
  refine tw_iload_n 1 dX10_isNoCountry_0 rfl rfl ?_
  refine tw_iconst (v := 0) dX10_isNoCountry_1 (by decide) ?_
  refine tw_aload_n 0 dX10_isNoCountry_2 rfl rfl ?_
  obtain ⟨e1, f2, th_3, td_4, ds_5, fr_6, ca_7, us_8, wo_9, cm_10, lc_11, lh_12, ld_13, rfl, k14, k15, k16, k17, k18, k19, k20, k21, k22, k23, k24, k25, k26, k27⟩ := sp0.1 x 36 kx (by decide)
  refine tw_get (v := .ref lc_11) rfl in_14 9 dX10_isNoCountry_3 w_1160 rfl (by decide) f2 rfl ?_
  obtain ⟨e28, f29, ⟨el30, rfl, k31⟩, k32⟩ := sp0.1 lc_11 24 k20 (by decide)
  refine tw_bi (tw_callV (M := mX10_isNoCountry) (pc := 6) okJx4a65c_size_8abf5 dX10_isNoCountry_6 w_1208 rfl f29 [] [.int 0, .int k] rfl rfl ⟨by decide, by decide⟩ (Nat.le_of_ble_eq_true rfl) (c24_size d g τ h sp0.1 lc_11 k20) 0 0 (Nat.le_of_ble_eq_true rfl) (Nat.le_of_ble_eq_true rfl)) (fun r35 h34 q33 => ?_) (fun E h1 q => q.elim)
  obtain ⟨q33e, q33r⟩ := q33
  rw [q33e, q33r]
  refine tw_iconst (v := 1) dX10_isNoCountry_9 (by decide) ?_
  refine tw_isub dX10_isNoCountry_10 ?_
  refine tw_nmi (fun v36 ev36 => ?_)
  refine tw_bi (tw_callS (M := mX10_isNoCountry) (pc := 11) okX10_isIn dX10_isNoCountry_11 w_1196 [.int k, .int 0, .int v36] [] rfl rfl ⟨by decide, by decide⟩ (Nat.le_of_ble_eq_true rfl) (c_X10_isIn d g τ h sp0.1 k 0 v36) 0 0 (Nat.le_of_ble_eq_true rfl) (Nat.le_of_ble_eq_true rfl)) (fun r39 h38 q37 => ?_) (fun E h1 q => q.elim)
  obtain ⟨q37e, q37d⟩ := q37
  rw [q37e]
  rcases q37d with ⟨q37r, q37n⟩ | ⟨q37r, q37a, q37b⟩
  · rw [q37r]
    refine tw_if_ne 21 dX10_isNoCountry_14 (by decide) (fun c40 => absurd (by decide) c40) (fun _ => ?_)
    refine tw_iconst (v := 1) dX10_isNoCountry_17 (by decide) ?_
    refine tw_goto 22 dX10_isNoCountry_18 (by decide) ?_
    exact tw_zret dX10_isNoCountry_22 rfl rfl (Or.inl ⟨_, rfl, rfl, Or.inl ⟨rfl, tw_nsc q37n ev36 (by omega)⟩⟩)
  · rw [q37r]
    refine tw_if_ne 21 dX10_isNoCountry_14 (by decide) (fun _ => ?_) (fun c41 => absurd c41 (by decide))
    refine tw_iconst (v := 0) dX10_isNoCountry_21 (by decide) ?_
    exact tw_zret dX10_isNoCountry_22 rfl rfl (Or.inl ⟨_, rfl, rfl, Or.inr ⟨rfl, tw_isc q37a q37b ev36 (by omega)⟩⟩)

set_option maxHeartbeats 4000000 in
set_option maxRecDepth 100000 in
theorem c2_X10_isNoHouse (d : tw_D) (g : tw_G) (τ : tw_K) (h : tw_H) (hw : tw_wt d g τ h) (x : Nat) (kx : τ x = 36) (k : Int32) : tw_Ct d mX10_isNoHouse 0 0 [.ref x, .int k] h (tw_qi (fun r h1 => h1 = h ∧ (r = 1 ∧ ¬ tw_ix (g.2 4) k ∨ r = 0 ∧ tw_ix (g.2 4) k)) tw_nx) := by
  refine tw_of (by decide +kernel) (Nat.le_of_ble_eq_true rfl) ?_
  show tw_W d mX10_isNoHouse _ 0 [(0, .ref x), (1, .int k)] [] h 0 0
  have sp0 := tw_sp.rf hw
  refine tw_iload_n 1 dX10_isNoHouse_0 rfl rfl ?_
  refine tw_iconst (v := 0) dX10_isNoHouse_1 (by decide) ?_
  refine tw_aload_n 0 dX10_isNoHouse_2 rfl rfl ?_
  obtain ⟨e1, f2, th_3, td_4, ds_5, fr_6, ca_7, us_8, wo_9, cm_10, lc_11, lh_12, ld_13, rfl, k14, k15, k16, k17, k18, k19, k20, k21, k22, k23, k24, k25, k26, k27⟩ := sp0.1 x 36 kx (by decide)
  refine tw_get (v := .ref lh_12) rfl in_14 10 dX10_isNoHouse_3 w_1161 rfl (by decide) f2 rfl ?_
  obtain ⟨e28, f29, ⟨el30, rfl, k31⟩, k32⟩ := sp0.1 lh_12 25 k21 (by decide)
  refine tw_bi (tw_callV (M := mX10_isNoHouse) (pc := 6) okJx4a65c_size_8abf5 dX10_isNoHouse_6 w_1208 rfl f29 [] [.int 0, .int k] rfl rfl ⟨by decide, by decide⟩ (Nat.le_of_ble_eq_true rfl) (c25_size d g τ h sp0.1 lh_12 k21) 0 0 (Nat.le_of_ble_eq_true rfl) (Nat.le_of_ble_eq_true rfl)) (fun r35 h34 q33 => ?_) (fun E h1 q => q.elim)
  obtain ⟨q33e, q33r⟩ := q33
  rw [q33e, q33r]
  refine tw_iconst (v := 1) dX10_isNoHouse_9 (by decide) ?_
  refine tw_isub dX10_isNoHouse_10 ?_
  refine tw_nmi (fun v36 ev36 => ?_)
  refine tw_bi (tw_callS (M := mX10_isNoHouse) (pc := 11) okX10_isIn dX10_isNoHouse_11 w_1196 [.int k, .int 0, .int v36] [] rfl rfl ⟨by decide, by decide⟩ (Nat.le_of_ble_eq_true rfl) (c_X10_isIn d g τ h sp0.1 k 0 v36) 0 0 (Nat.le_of_ble_eq_true rfl) (Nat.le_of_ble_eq_true rfl)) (fun r39 h38 q37 => ?_) (fun E h1 q => q.elim)
  obtain ⟨q37e, q37d⟩ := q37
  rw [q37e]
  rcases q37d with ⟨q37r, q37n⟩ | ⟨q37r, q37a, q37b⟩
  · rw [q37r]
    refine tw_if_ne 21 dX10_isNoHouse_14 (by decide) (fun c40 => absurd (by decide) c40) (fun _ => ?_)
    refine tw_iconst (v := 1) dX10_isNoHouse_17 (by decide) ?_
    refine tw_goto 22 dX10_isNoHouse_18 (by decide) ?_
    exact tw_zret dX10_isNoHouse_22 rfl rfl (Or.inl ⟨_, rfl, rfl, Or.inl ⟨rfl, tw_nsc q37n ev36 (by omega)⟩⟩)
  · rw [q37r]
    refine tw_if_ne 21 dX10_isNoHouse_14 (by decide) (fun _ => ?_) (fun c41 => absurd c41 (by decide))
    refine tw_iconst (v := 0) dX10_isNoHouse_21 (by decide) ?_
    exact tw_zret dX10_isNoHouse_22 rfl rfl (Or.inl ⟨_, rfl, rfl, Or.inr ⟨rfl, tw_isc q37a q37b ev36 (by omega)⟩⟩)

set_option maxHeartbeats 4000000 in
set_option maxRecDepth 100000 in
theorem c2_X10_country (d : tw_D) (g : tw_G) (τ : tw_K) (h : tw_H) (hw : tw_wt d g τ h) (x : Nat) (kx : τ x = 36) (r : Int32) (ct : Int32) (go : Int32) (si : Int32) (o : Nat) (ko : τ o = 12) : tw_Ct d mX10_country 10 60 [.ref x, .int r, .int ct, .int go, .int si] h (tw_qi (fun r9 h1 => ∃ g1 τ1, tw_sp d τ h g1 τ1 h1 ∧ h1 o = h o ∧ ((¬ tw_RC r ct go si ∧ tw_th (h1 x) = 1 ∧ g1 = g) ∨ (tw_RC r ct go si ∧ ¬ g.2 3 < 4 ∧ tw_th (h1 x) = 2 ∧ g1 = g) ∨ (tw_RC r ct go si ∧ g.2 3 < 4 ∧ r9 = nI (g.2 3) ∧ tw_th (h1 x) = 0 ∧ tw_gk 3 g g1))) tw_nx) := by
  refine tw_of (by decide +kernel) (Nat.le_of_ble_eq_true rfl) ?_
  show tw_W d mX10_country _ 0 [(0, .ref x), (1, .int r), (2, .int ct), (3, .int go), (4, .int si)] [] h 10 60
  have sp0 := tw_sp.rf hw
  have oq0 : h o = h o := rfl
  refine tw_aload_n 0 dX10_country_0 rfl rfl ?_
  refine tw_iload_n 1 dX10_country_1 rfl rfl ?_
  refine tw_bipush (v := 100) dX10_country_2 (by decide) ?_
  refine tw_sipush (v := 200) dX10_country_4 (by decide) ?_
  refine tw_bi (tw_callS (M := mX10_country) (pc := 7) okX10_isIn dX10_country_7 w_1196 [.int r, .int 100, .int 200] [.ref x] rfl rfl ⟨by decide, by decide⟩ (Nat.le_of_ble_eq_true rfl) (c_X10_isIn d g τ h sp0.1 r 100 200) 10 60 (Nat.le_of_ble_eq_true rfl) (Nat.le_of_ble_eq_true rfl)) (fun r3 h2 q1 => ?_) (fun E h1 q => q.elim)
  obtain ⟨q1e, q1d⟩ := q1
  rw [q1e]
  rcases q1d with ⟨q1r, q1n⟩ | ⟨q1r, q1a, q1b⟩
  · rw [q1r]
    refine tw_if_eq 44 dX10_country_10 (by decide) (fun _ => ?_) (fun c4 => absurd (by decide) c4)
    refine tw_iconst (v := 1) dX10_country_44 (by decide) ?_
    refine tw_goto 49 dX10_country_45 (by decide) ?_
    refine tw_iconst (v := 1) dX10_country_49 (by decide) ?_
    obtain ⟨e5, f6, th_7, td_8, ds_9, fr_10, ca_11, us_12, wo_13, cm_14, lc_15, lh_16, ld_17, rfl, k18, k19, k20, k21, k22, k23, k24, k25, k26, k27, k28, k29, k30, k31⟩ := sp0.1 x 36 kx (by decide)
    refine tw_bi (tw_callV (M := mX10_country) (pc := 50) okX10_start dX10_country_50 w_1200 rfl f6 [.int 1, .int 1] [] rfl rfl ⟨by decide, by decide⟩ (Nat.le_of_ble_eq_true rfl) (c_X10_start d g τ h sp0.1 x kx 1 1 (by decide)) 10 60 (Nat.le_of_ble_eq_true rfl) (Nat.le_of_ble_eq_true rfl)) (fun r34 h33 q32 => ?_) (fun E h1 q => q.elim)
    obtain ⟨e35, he36, hs37, hr38, hc39⟩ := q32
    obtain ⟨rz40, tz41⟩ := hc39.2 rfl
    have th42 : tw_th (h33 x) = 1 := by rw [he36, tw_up_s]; exact tz41
    have sp43 : tw_sp d τ h g τ h33 := by rw [he36]; exact sp0.set kx (by decide) hs37
    rw [rz40]
    have oq44 : h33 o = h o := by rw [he36, tw_up_n (tw_nk ko kx (by decide))] <;> exact oq0
    refine tw_if_ne 80 dX10_country_53 (by decide) (fun _ => ?_) (fun c45 => absurd c45 (by decide))
    refine tw_iconst (v := 0) dX10_country_80 (by decide) ?_
    exact tw_iret dX10_country_81 rfl (Or.inl ⟨_, rfl, _, _, sp43, oq44, Or.inl ⟨fun z => q1n z.1, th42, rfl⟩⟩)
  · rw [q1r]
    refine tw_if_eq 44 dX10_country_10 (by decide) (fun c46 => absurd c46 (by decide)) (fun _ => ?_)
    refine tw_iload_n 2 dX10_country_13 rfl rfl ?_
    refine tw_iconst (v := 0) dX10_country_14 (by decide) ?_
    refine tw_bipush (v := 50) dX10_country_15 (by decide) ?_
    refine tw_bi (tw_callS (M := mX10_country) (pc := 17) okX10_isIn dX10_country_17 w_1196 [.int ct, .int 0, .int 50] [.ref x] rfl rfl ⟨by decide, by decide⟩ (Nat.le_of_ble_eq_true rfl) (c_X10_isIn d g τ h sp0.1 ct 0 50) 10 60 (Nat.le_of_ble_eq_true rfl) (Nat.le_of_ble_eq_true rfl)) (fun r49 h48 q47 => ?_) (fun E h1 q => q.elim)
    obtain ⟨q47e, q47d⟩ := q47
    rw [q47e]
    rcases q47d with ⟨q47r, q47n⟩ | ⟨q47r, q47a, q47b⟩
    · rw [q47r]
      refine tw_if_eq 44 dX10_country_20 (by decide) (fun _ => ?_) (fun c50 => absurd (by decide) c50)
      refine tw_iconst (v := 1) dX10_country_44 (by decide) ?_
      refine tw_goto 49 dX10_country_45 (by decide) ?_
      refine tw_iconst (v := 1) dX10_country_49 (by decide) ?_
      obtain ⟨e51, f52, th_53, td_54, ds_55, fr_56, ca_57, us_58, wo_59, cm_60, lc_61, lh_62, ld_63, rfl, k64, k65, k66, k67, k68, k69, k70, k71, k72, k73, k74, k75, k76, k77⟩ := sp0.1 x 36 kx (by decide)
      refine tw_bi (tw_callV (M := mX10_country) (pc := 50) okX10_start dX10_country_50 w_1200 rfl f52 [.int 1, .int 1] [] rfl rfl ⟨by decide, by decide⟩ (Nat.le_of_ble_eq_true rfl) (c_X10_start d g τ h sp0.1 x kx 1 1 (by decide)) 10 60 (Nat.le_of_ble_eq_true rfl) (Nat.le_of_ble_eq_true rfl)) (fun r80 h79 q78 => ?_) (fun E h1 q => q.elim)
      obtain ⟨e81, he82, hs83, hr84, hc85⟩ := q78
      obtain ⟨rz86, tz87⟩ := hc85.2 rfl
      have th88 : tw_th (h79 x) = 1 := by rw [he82, tw_up_s]; exact tz87
      have sp89 : tw_sp d τ h g τ h79 := by rw [he82]; exact sp0.set kx (by decide) hs83
      rw [rz86]
      have oq90 : h79 o = h o := by rw [he82, tw_up_n (tw_nk ko kx (by decide))] <;> exact oq0
      refine tw_if_ne 80 dX10_country_53 (by decide) (fun _ => ?_) (fun c91 => absurd c91 (by decide))
      refine tw_iconst (v := 0) dX10_country_80 (by decide) ?_
      exact tw_iret dX10_country_81 rfl (Or.inl ⟨_, rfl, _, _, sp89, oq90, Or.inl ⟨fun z => q47n z.2.1, th88, rfl⟩⟩)
    · rw [q47r]
      refine tw_if_eq 44 dX10_country_20 (by decide) (fun c92 => absurd c92 (by decide)) (fun _ => ?_)
      refine tw_iload_n 3 dX10_country_23 rfl rfl ?_
      refine tw_iconst (v := 0) dX10_country_24 (by decide) ?_
      refine tw_ldc (v := 99999) dX10_country_25 w_1199 ?_
      refine tw_bi (tw_callS (M := mX10_country) (pc := 27) okX10_isIn dX10_country_27 w_1196 [.int go, .int 0, .int 99999] [.ref x] rfl rfl ⟨by decide, by decide⟩ (Nat.le_of_ble_eq_true rfl) (c_X10_isIn d g τ h sp0.1 go 0 99999) 10 60 (Nat.le_of_ble_eq_true rfl) (Nat.le_of_ble_eq_true rfl)) (fun r95 h94 q93 => ?_) (fun E h1 q => q.elim)
      obtain ⟨q93e, q93d⟩ := q93
      rw [q93e]
      rcases q93d with ⟨q93r, q93n⟩ | ⟨q93r, q93a, q93b⟩
      · rw [q93r]
        refine tw_if_eq 44 dX10_country_30 (by decide) (fun _ => ?_) (fun c96 => absurd (by decide) c96)
        refine tw_iconst (v := 1) dX10_country_44 (by decide) ?_
        refine tw_goto 49 dX10_country_45 (by decide) ?_
        refine tw_iconst (v := 1) dX10_country_49 (by decide) ?_
        obtain ⟨e97, f98, th_99, td_100, ds_101, fr_102, ca_103, us_104, wo_105, cm_106, lc_107, lh_108, ld_109, rfl, k110, k111, k112, k113, k114, k115, k116, k117, k118, k119, k120, k121, k122, k123⟩ := sp0.1 x 36 kx (by decide)
        refine tw_bi (tw_callV (M := mX10_country) (pc := 50) okX10_start dX10_country_50 w_1200 rfl f98 [.int 1, .int 1] [] rfl rfl ⟨by decide, by decide⟩ (Nat.le_of_ble_eq_true rfl) (c_X10_start d g τ h sp0.1 x kx 1 1 (by decide)) 10 60 (Nat.le_of_ble_eq_true rfl) (Nat.le_of_ble_eq_true rfl)) (fun r126 h125 q124 => ?_) (fun E h1 q => q.elim)
        obtain ⟨e127, he128, hs129, hr130, hc131⟩ := q124
        obtain ⟨rz132, tz133⟩ := hc131.2 rfl
        have th134 : tw_th (h125 x) = 1 := by rw [he128, tw_up_s]; exact tz133
        have sp135 : tw_sp d τ h g τ h125 := by rw [he128]; exact sp0.set kx (by decide) hs129
        rw [rz132]
        have oq136 : h125 o = h o := by rw [he128, tw_up_n (tw_nk ko kx (by decide))] <;> exact oq0
        refine tw_if_ne 80 dX10_country_53 (by decide) (fun _ => ?_) (fun c137 => absurd c137 (by decide))
        refine tw_iconst (v := 0) dX10_country_80 (by decide) ?_
        exact tw_iret dX10_country_81 rfl (Or.inl ⟨_, rfl, _, _, sp135, oq136, Or.inl ⟨fun z => q93n z.2.2.1, th134, rfl⟩⟩)
      · rw [q93r]
        refine tw_if_eq 44 dX10_country_30 (by decide) (fun c138 => absurd c138 (by decide)) (fun _ => ?_)
        refine tw_iload 4 dX10_country_33 rfl ?_
        refine tw_iconst (v := 0) dX10_country_35 (by decide) ?_
        refine tw_ldc (v := 99999) dX10_country_36 w_1199 ?_
        refine tw_bi (tw_callS (M := mX10_country) (pc := 38) okX10_isIn dX10_country_38 w_1196 [.int si, .int 0, .int 99999] [.ref x] rfl rfl ⟨by decide, by decide⟩ (Nat.le_of_ble_eq_true rfl) (c_X10_isIn d g τ h sp0.1 si 0 99999) 10 60 (Nat.le_of_ble_eq_true rfl) (Nat.le_of_ble_eq_true rfl)) (fun r141 h140 q139 => ?_) (fun E h1 q => q.elim)
        obtain ⟨q139e, q139d⟩ := q139
        rw [q139e]
        rcases q139d with ⟨q139r, q139n⟩ | ⟨q139r, q139a, q139b⟩
        · rw [q139r]
          refine tw_if_ne 48 dX10_country_41 (by decide) (fun c142 => absurd (by decide) c142) (fun _ => ?_)
          refine tw_iconst (v := 1) dX10_country_44 (by decide) ?_
          refine tw_goto 49 dX10_country_45 (by decide) ?_
          refine tw_iconst (v := 1) dX10_country_49 (by decide) ?_
          obtain ⟨e143, f144, th_145, td_146, ds_147, fr_148, ca_149, us_150, wo_151, cm_152, lc_153, lh_154, ld_155, rfl, k156, k157, k158, k159, k160, k161, k162, k163, k164, k165, k166, k167, k168, k169⟩ := sp0.1 x 36 kx (by decide)
          refine tw_bi (tw_callV (M := mX10_country) (pc := 50) okX10_start dX10_country_50 w_1200 rfl f144 [.int 1, .int 1] [] rfl rfl ⟨by decide, by decide⟩ (Nat.le_of_ble_eq_true rfl) (c_X10_start d g τ h sp0.1 x kx 1 1 (by decide)) 10 60 (Nat.le_of_ble_eq_true rfl) (Nat.le_of_ble_eq_true rfl)) (fun r172 h171 q170 => ?_) (fun E h1 q => q.elim)
          obtain ⟨e173, he174, hs175, hr176, hc177⟩ := q170
          obtain ⟨rz178, tz179⟩ := hc177.2 rfl
          have th180 : tw_th (h171 x) = 1 := by rw [he174, tw_up_s]; exact tz179
          have sp181 : tw_sp d τ h g τ h171 := by rw [he174]; exact sp0.set kx (by decide) hs175
          rw [rz178]
          have oq182 : h171 o = h o := by rw [he174, tw_up_n (tw_nk ko kx (by decide))] <;> exact oq0
          refine tw_if_ne 80 dX10_country_53 (by decide) (fun _ => ?_) (fun c183 => absurd c183 (by decide))
          refine tw_iconst (v := 0) dX10_country_80 (by decide) ?_
          exact tw_iret dX10_country_81 rfl (Or.inl ⟨_, rfl, _, _, sp181, oq182, Or.inl ⟨fun z => q139n z.2.2.2, th180, rfl⟩⟩)
        · rw [q139r]
          refine tw_if_ne 48 dX10_country_41 (by decide) (fun _ => ?_) (fun c184 => absurd c184 (by decide))
          refine tw_iconst (v := 0) dX10_country_48 (by decide) ?_
          refine tw_iconst (v := 1) dX10_country_49 (by decide) ?_
          obtain ⟨e185, f186, th_187, td_188, ds_189, fr_190, ca_191, us_192, wo_193, cm_194, lc_195, lh_196, ld_197, rfl, k198, k199, k200, k201, k202, k203, k204, k205, k206, k207, k208, k209, k210, k211⟩ := sp0.1 x 36 kx (by decide)
          refine tw_bi (tw_callV (M := mX10_country) (pc := 50) okX10_start dX10_country_50 w_1200 rfl f186 [.int 0, .int 1] [] rfl rfl ⟨by decide, by decide⟩ (Nat.le_of_ble_eq_true rfl) (c_X10_start d g τ h sp0.1 x kx 0 1 (by decide)) 10 60 (Nat.le_of_ble_eq_true rfl) (Nat.le_of_ble_eq_true rfl)) (fun r214 h213 q212 => ?_) (fun E h1 q => q.elim)
          obtain ⟨e215, he216, hs217, hr218, hc219⟩ := q212
          obtain ⟨rz220, tz221⟩ := hc219.1 rfl
          have th222 : tw_th (h213 x) = 0 := by rw [he216, tw_up_s]; exact tz221
          have sp223 : tw_sp d τ h g τ h213 := by rw [he216]; exact sp0.set kx (by decide) hs217
          rw [rz220]
          have oq224 : h213 o = h o := by rw [he216, tw_up_n (tw_nk ko kx (by decide))] <;> exact oq0
          refine tw_if_ne 80 dX10_country_53 (by decide) (fun c225 => absurd (by decide) c225) (fun _ => ?_)
          refine tw_aload_n 0 dX10_country_56 rfl rfl ?_
          refine tw_aload_n 0 dX10_country_57 rfl rfl ?_
          obtain ⟨e226, f227, th_228, td_229, ds_230, fr_231, ca_232, us_233, wo_234, cm_235, lc_236, lh_237, ld_238, rfl, k239, k240, k241, k242, k243, k244, k245, k246, k247, k248, k249, k250, k251, k252⟩ := sp223.1 x 36 kx (by decide)
          refine tw_get (v := .ref lc_236) rfl in_14 9 dX10_country_58 w_1160 rfl (by decide) f227 rfl ?_
          obtain ⟨e253, f254, ⟨el255, rfl, k256⟩, k257⟩ := sp223.1 lc_236 24 k245 (by decide)
          refine tw_bi (tw_callV (M := mX10_country) (pc := 61) okJx4a65c_size_8abf5 dX10_country_61 w_1208 rfl f254 [] [.ref x] rfl rfl ⟨by decide, by decide⟩ (Nat.le_of_ble_eq_true rfl) (c24_size d g τ h213 sp223.1 lc_236 k245) 10 60 (Nat.le_of_ble_eq_true rfl) (Nat.le_of_ble_eq_true rfl)) (fun r260 h259 q258 => ?_) (fun E h1 q => q.elim)
          obtain ⟨q258e, q258r⟩ := q258
          rw [q258e, q258r]
          refine tw_iconst (v := 4) dX10_country_64 (by decide) ?_
          refine tw_icmp_ne 72 dX10_country_65 (by decide) (fun c261 => ?_) (fun c261 => ?_)
          · refine tw_iconst (v := 0) dX10_country_72 (by decide) ?_
            refine tw_iconst (v := 2) dX10_country_73 (by decide) ?_
            refine tw_bi (tw_callV (M := mX10_country) (pc := 74) okX10_refuse dX10_country_74 w_1204 rfl f227 [.int 0, .int 2] [] rfl rfl ⟨by decide, by decide⟩ (Nat.le_of_ble_eq_true rfl) (c_X10_refuse d g τ h213 sp223.1 x kx 0 2 (by decide)) 10 60 (Nat.le_of_ble_eq_true rfl) (Nat.le_of_ble_eq_true rfl)) (fun r264 h263 q262 => ?_) (fun E h1 q => q.elim)
            obtain ⟨e265, he266, hs267, hr268, hc269⟩ := q262
            obtain ⟨rz270, tz271⟩ := (hc269 th222).1 rfl
            have th272 : tw_th (h263 x) = 0 := by rw [he266, tw_up_s]; exact tz271
            have sp273 : tw_sp d τ h g τ h263 := by rw [he266]; exact sp223.set kx (by decide) hs267
            rw [rz270]
            have oq274 : h263 o = h o := by rw [he266, tw_up_n (tw_nk ko kx (by decide))] <;> exact oq224
            refine tw_if_eq 82 dX10_country_77 (by decide) (fun _ => ?_) (fun c275 => absurd (by decide) c275)
            refine tw_new (ci := 11) rfl in_11 tyX7 tyX7_ok dX10_country_82 w_1212 w_1213 w_91 (fs := [.int 0, .int 0, .null, .null, .null]) (fun j hj => by rcases (show j = 0 ∨ j = 1 ∨ j = 2 ∨ j = 3 ∨ j = 4 by omega) with rfl | rfl | rfl | rfl | rfl <;> rfl) 9 55 (Nat.le_of_ble_eq_true rfl) (Nat.le_of_ble_eq_true rfl) (fun q276 hq277 hA278 => ?_)
            have n279 := sp273.nn hq277
            have z280 := sp273.1.none hq277
            obtain ⟨h281, eh281⟩ : ∃ z : tw_H, z = tw_up h263 q276 (.inr (11, [.int 0, .int 0, .null, .null, .null])) := ⟨_, rfl⟩
            rw [← eh281]
            have th282 : tw_th (h281 x) = 0 := by rw [eh281, tw_up_n (tw_thF sp273.1 kx hq277)]; exact th272
            have oq283 : h281 o = h o := by rw [eh281, tw_up_n (tw_kF sp273.1 ko (by decide) hq277)] <;> exact oq274
            have sp284 : tw_sp d τ h g τ h281 := by rw [eh281]; exact sp273.mk hq277
            have f285 : h281 q276 = some (.inr (11, [.int 0, .int 0, .null, .null, .null])) := by rw [eh281]; exact tw_up_s
            refine tw_dup dX10_country_85 rfl ?_
            refine tw_bv (tw_callIN (M := mX10_country) (pc := 86) okX7_init dX10_country_86 w_1214 rfl [] [.ref q276] rfl rfl ⟨by decide, by decide⟩ (Nat.le_of_ble_eq_true rfl) (c2_X7_init d g τ h281 sp284.1 q276 z280 f285) 6 46 (Nat.le_of_ble_eq_true rfl) (Nat.le_of_ble_eq_true rfl)) (fun h287 q286 => ?_) (fun E h1 q => q.elim)
            obtain ⟨τ288, v289, o290, t291, q286s, f292, z293, k294, k295, k296, fr298⟩ := q286
            have th299 : tw_th (h287 x) = 0 := by rw [fr298 x (tw_nz kx z280 (by decide)) (fun z => by obtain ⟨e, y, -⟩ := sp284.1 x 36 kx (by decide); rw [z] at y; cases y)]; exact th282
            have oq300 : h287 o = h o := by rw [fr298 o (tw_nk ko z280 (by decide)) (tw_some sp284.1 ko (by decide))] <;> exact oq283
            have sp297 := sp284.trm n279 q286s
            have k301 : τ288 x = 36 := q286s.2.1.k kx (by decide)
            have k302 : τ288 o = 12 := q286s.2.1.k ko (by decide)
            have k303 : τ288 ds_189 = 34 := q286s.2.1.k k198 (by decide)
            have k304 : τ288 fr_190 = 34 := q286s.2.1.k k199 (by decide)
            have k305 : τ288 ca_191 = 31 := q286s.2.1.k k200 (by decide)
            have k306 : τ288 us_192 = 31 := q286s.2.1.k k201 (by decide)
            have k307 : τ288 wo_193 = 31 := q286s.2.1.k k202 (by decide)
            have k308 : τ288 cm_194 = 31 := q286s.2.1.k k203 (by decide)
            have k309 : τ288 lc_195 = 24 := q286s.2.1.k k204 (by decide)
            have k310 : τ288 lh_196 = 25 := q286s.2.1.k k205 (by decide)
            have k311 : τ288 ld_197 = 26 := q286s.2.1.k k206 (by decide)
            have k312 : τ288 ds_230 = 34 := q286s.2.1.k k239 (by decide)
            have k313 : τ288 fr_231 = 34 := q286s.2.1.k k240 (by decide)
            have k314 : τ288 ca_232 = 31 := q286s.2.1.k k241 (by decide)
            have k315 : τ288 us_233 = 31 := q286s.2.1.k k242 (by decide)
            have k316 : τ288 wo_234 = 31 := q286s.2.1.k k243 (by decide)
            have k317 : τ288 cm_235 = 31 := q286s.2.1.k k244 (by decide)
            have k318 : τ288 lc_236 = 24 := q286s.2.1.k k245 (by decide)
            have k319 : τ288 lh_237 = 25 := q286s.2.1.k k246 (by decide)
            have k320 : τ288 ld_238 = 26 := q286s.2.1.k k247 (by decide)
            refine tw_astore [(5, .ref q276), (0, .ref x), (1, .int r), (2, .int ct), (3, .int go), (4, .int si)] dX10_country_89 (by decide) rfl ?_
            refine tw_aload 0 dX10_country_91 rfl ?_
            refine tw_iload_n 2 dX10_country_93 rfl rfl ?_
            refine tw_put rfl in_11 tyX7 tyX7_ok nmX7 0 dX10_country_94 w_1218 rfl (by decide) f292 rfl rfl rfl rfl (Nat.le_of_ble_eq_true rfl) [.int r, .int 0, .ref v289, .ref o290, .ref t291] rfl ?_
            obtain ⟨h321, eh321⟩ : ∃ z : tw_H, z = tw_up h287 q276 (.inr (11, [.int r, .int 0, .ref v289, .ref o290, .ref t291])) := ⟨_, rfl⟩
            rw [← eh321]
            have th322 : tw_th (h321 x) = 0 := by rw [eh321, tw_up_n (tw_nz k301 z293 (by decide))]; exact th299
            have oq323 : h321 o = h o := by rw [eh321, tw_up_n (tw_nk k302 z293 (by decide))] <;> exact oq300
            have sp324 : tw_sp d τ h g τ288 h321 := by rw [eh321]; exact sp297.wl n279 z293
            have f325 : h321 q276 = some (.inr (11, [.int r, .int 0, .ref v289, .ref o290, .ref t291])) := by rw [eh321]; exact tw_up_s
            refine tw_aload 0 dX10_country_97 rfl ?_
            refine tw_iload_n 3 dX10_country_99 rfl rfl ?_
            refine tw_put rfl in_11 tyX7 tyX7_ok nmX7 1 dX10_country_100 w_1219 rfl (by decide) f325 rfl rfl rfl rfl (Nat.le_of_ble_eq_true rfl) [.int r, .int ct, .ref v289, .ref o290, .ref t291] rfl ?_
            obtain ⟨h326, eh326⟩ : ∃ z : tw_H, z = tw_up h321 q276 (.inr (11, [.int r, .int ct, .ref v289, .ref o290, .ref t291])) := ⟨_, rfl⟩
            rw [← eh326]
            have th327 : tw_th (h326 x) = 0 := by rw [eh326, tw_up_n (tw_nz k301 z293 (by decide))]; exact th322
            have oq328 : h326 o = h o := by rw [eh326, tw_up_n (tw_nk k302 z293 (by decide))] <;> exact oq323
            have sp329 : tw_sp d τ h g τ288 h326 := by rw [eh326]; exact sp324.wl n279 z293
            have f330 : h326 q276 = some (.inr (11, [.int r, .int ct, .ref v289, .ref o290, .ref t291])) := by rw [eh326]; exact tw_up_s
            refine tw_aload 0 dX10_country_103 rfl ?_
            refine tw_get (v := .ref v289) rfl in_11 2 dX10_country_105 w_1221 rfl (by decide) f330 rfl ?_
            refine tw_iconst (v := 0) dX10_country_108 (by decide) ?_
            refine tw_iload_n 4 dX10_country_109 rfl rfl ?_
            refine tw_i2l dX10_country_110 ?_
            refine tw_nml (fun v331 ev331 => ?_)
            obtain ⟨e332, f333, F334, rfl⟩ := sp329.1 v289 31 k294 (by decide)
            refine tw_last dX10_country_111 f333 (vp_in_nI (n := 0) (by decide) (by decide)) ?_
            obtain ⟨h335, eh335⟩ : ∃ z : tw_H, z = tw_up h326 v289 (.inl (d.2 1, 2, .inr (.inl (vp_updL F334 (0 : Int32).toNatClampNeg v331)))) := ⟨_, rfl⟩
            rw [← eh335]
            have th336 : tw_th (h335 x) = 0 := by rw [eh335, tw_up_n (tw_nz k301 k294 (by decide))]; exact th327
            have oq337 : h335 o = h o := by rw [eh335, tw_up_n (tw_nk k302 k294 (by decide))] <;> exact oq328
            have sp338 : tw_sp d τ h g τ288 h335 := by rw [eh335]; exact sp329.set k294 (by decide) ⟨_, rfl⟩
            have f339 : h335 q276 = some (.inr (11, [.int r, .int ct, .ref v289, .ref o290, .ref t291])) := by rw [eh335, tw_up_n (fun q => absurd (z293) (by rw [q, k294]; decide))]; exact f330
            refine tw_aload 0 dX10_country_112 rfl ?_
            refine tw_get (v := .ref v289) rfl in_11 2 dX10_country_114 w_1221 rfl (by decide) f339 rfl ?_
            refine tw_iconst (v := 1) dX10_country_117 (by decide) ?_
            refine tw_iload 5 dX10_country_118 rfl ?_
            refine tw_i2l dX10_country_120 ?_
            refine tw_nml (fun v340 ev340 => ?_)
            obtain ⟨e341, f342, F343, rfl⟩ := sp338.1 v289 31 k294 (by decide)
            refine tw_last dX10_country_121 f342 (vp_in_nI (n := 1) (by decide) (by decide)) ?_
            obtain ⟨h344, eh344⟩ : ∃ z : tw_H, z = tw_up h335 v289 (.inl (d.2 1, 2, .inr (.inl (vp_updL F343 (1 : Int32).toNatClampNeg v340)))) := ⟨_, rfl⟩
            rw [← eh344]
            have th345 : tw_th (h344 x) = 0 := by rw [eh344, tw_up_n (tw_nz k301 k294 (by decide))]; exact th336
            have oq346 : h344 o = h o := by rw [eh344, tw_up_n (tw_nk k302 k294 (by decide))] <;> exact oq337
            have sp347 : tw_sp d τ h g τ288 h344 := by rw [eh344]; exact sp338.set k294 (by decide) ⟨_, rfl⟩
            have f348 : h344 q276 = some (.inr (11, [.int r, .int ct, .ref v289, .ref o290, .ref t291])) := by rw [eh344, tw_up_n (fun q => absurd (z293) (by rw [q, k294]; decide))]; exact f339
            refine tw_aload_n 1 dX10_country_122 rfl rfl ?_
            obtain ⟨e349, f350, th_351, td_352, ds_353, fr_354, ca_355, us_356, wo_357, cm_358, lc_359, lh_360, ld_361, rfl, k362, k363, k364, k365, k366, k367, k368, k369, k370, k371, k372, k373, k374, k375⟩ := sp347.1 x 36 k301 (by decide)
            refine tw_get (v := .ref cm_358) rfl in_14 8 dX10_country_123 w_1159 rfl (by decide) f350 rfl ?_
            refine tw_iconst (v := 0) dX10_country_126 (by decide) ?_
            refine tw_dup2 dX10_country_127 rfl rfl ?_
            obtain ⟨e376, f377, F378, rfl⟩ := sp347.1 cm_358 31 k367 (by decide)
            obtain ⟨v379, ev379⟩ : ∃ y : Int64, F378 (0 : Int32).toNatClampNeg = y := ⟨_, rfl⟩
            refine tw_lald (v := v379) dX10_country_128 f377 (vp_in_nI (n := 0) (by decide) (by decide)) ev379 ?_
            refine tw_iload_n 4 dX10_country_129 rfl rfl ?_
            refine tw_i2l dX10_country_130 ?_
            refine tw_nml (fun v380 ev380 => ?_)
            refine tw_ladd dX10_country_131 ?_
            refine tw_nml (fun v381 ev381 => ?_)
            refine tw_last dX10_country_132 f377 (vp_in_nI (n := 0) (by decide) (by decide)) ?_
            obtain ⟨h382, eh382⟩ : ∃ z : tw_H, z = tw_up h344 cm_358 (.inl (d.2 1, 2, .inr (.inl (vp_updL F378 (0 : Int32).toNatClampNeg v381)))) := ⟨_, rfl⟩
            rw [← eh382]
            have th383 : tw_th (h382 x) = 0 := by rw [eh382, tw_up_n (tw_nz k301 k367 (by decide))]; exact th345
            have oq384 : h382 o = h o := by rw [eh382, tw_up_n (tw_nk k302 k367 (by decide))] <;> exact oq346
            have sp385 : tw_sp d τ h g τ288 h382 := by rw [eh382]; exact sp347.set k367 (by decide) ⟨_, rfl⟩
            have f386 : h382 q276 = some (.inr (11, [.int r, .int ct, .ref v289, .ref o290, .ref t291])) := by rw [eh382, tw_up_n (fun q => absurd (z293) (by rw [q, k367]; decide))]; exact f348
            refine tw_aload_n 1 dX10_country_133 rfl rfl ?_
            obtain ⟨e387, f388, th_389, td_390, ds_391, fr_392, ca_393, us_394, wo_395, cm_396, lc_397, lh_398, ld_399, rfl, k400, k401, k402, k403, k404, k405, k406, k407, k408, k409, k410, k411, k412, k413⟩ := sp385.1 x 36 k301 (by decide)
            refine tw_get (v := .ref cm_396) rfl in_14 8 dX10_country_134 w_1159 rfl (by decide) f388 rfl ?_
            refine tw_iconst (v := 1) dX10_country_137 (by decide) ?_
            refine tw_dup2 dX10_country_138 rfl rfl ?_
            obtain ⟨e414, f415, F416, rfl⟩ := sp385.1 cm_396 31 k405 (by decide)
            obtain ⟨v417, ev417⟩ : ∃ y : Int64, F416 (1 : Int32).toNatClampNeg = y := ⟨_, rfl⟩
            refine tw_lald (v := v417) dX10_country_139 f415 (vp_in_nI (n := 1) (by decide) (by decide)) ev417 ?_
            refine tw_iload 5 dX10_country_140 rfl ?_
            refine tw_i2l dX10_country_142 ?_
            refine tw_nml (fun v418 ev418 => ?_)
            refine tw_ladd dX10_country_143 ?_
            refine tw_nml (fun v419 ev419 => ?_)
            refine tw_last dX10_country_144 f415 (vp_in_nI (n := 1) (by decide) (by decide)) ?_
            obtain ⟨h420, eh420⟩ : ∃ z : tw_H, z = tw_up h382 cm_396 (.inl (d.2 1, 2, .inr (.inl (vp_updL F416 (1 : Int32).toNatClampNeg v419)))) := ⟨_, rfl⟩
            rw [← eh420]
            have th421 : tw_th (h420 x) = 0 := by rw [eh420, tw_up_n (tw_nz k301 k405 (by decide))]; exact th383
            have oq422 : h420 o = h o := by rw [eh420, tw_up_n (tw_nk k302 k405 (by decide))] <;> exact oq384
            have sp423 : tw_sp d τ h g τ288 h420 := by rw [eh420]; exact sp385.set k405 (by decide) ⟨_, rfl⟩
            have f424 : h420 q276 = some (.inr (11, [.int r, .int ct, .ref v289, .ref o290, .ref t291])) := by rw [eh420, tw_up_n (fun q => absurd (z293) (by rw [q, k405]; decide))]; exact f386
            refine tw_aload_n 1 dX10_country_145 rfl rfl ?_
            obtain ⟨e425, f426, th_427, td_428, ds_429, fr_430, ca_431, us_432, wo_433, cm_434, lc_435, lh_436, ld_437, rfl, k438, k439, k440, k441, k442, k443, k444, k445, k446, k447, k448, k449, k450, k451⟩ := sp423.1 x 36 k301 (by decide)
            refine tw_get (v := .ref lc_435) rfl in_14 9 dX10_country_146 w_1160 rfl (by decide) f426 rfl ?_
            refine tw_aload 0 dX10_country_149 rfl ?_
            obtain ⟨τ452, eτ452⟩ : ∃ z : tw_K, z = tw_ku τ288 q276 21 := ⟨_, rfl⟩
            have le453 : tw_le τ288 τ452 := by rw [eτ452]; exact tw_ku_le z293
            have k454 : τ452 x = 36 := le453.k k301 (by decide)
            have k455 : τ452 o = 12 := le453.k k302 (by decide)
            have k456 : τ452 ds_189 = 34 := le453.k k303 (by decide)
            have k457 : τ452 fr_190 = 34 := le453.k k304 (by decide)
            have k458 : τ452 ca_191 = 31 := le453.k k305 (by decide)
            have k459 : τ452 us_192 = 31 := le453.k k306 (by decide)
            have k460 : τ452 wo_193 = 31 := le453.k k307 (by decide)
            have k461 : τ452 cm_194 = 31 := le453.k k308 (by decide)
            have k462 : τ452 lc_195 = 24 := le453.k k309 (by decide)
            have k463 : τ452 lh_196 = 25 := le453.k k310 (by decide)
            have k464 : τ452 ld_197 = 26 := le453.k k311 (by decide)
            have k465 : τ452 ds_230 = 34 := le453.k k312 (by decide)
            have k466 : τ452 fr_231 = 34 := le453.k k313 (by decide)
            have k467 : τ452 ca_232 = 31 := le453.k k314 (by decide)
            have k468 : τ452 us_233 = 31 := le453.k k315 (by decide)
            have k469 : τ452 wo_234 = 31 := le453.k k316 (by decide)
            have k470 : τ452 cm_235 = 31 := le453.k k317 (by decide)
            have k471 : τ452 lc_236 = 24 := le453.k k318 (by decide)
            have k472 : τ452 lh_237 = 25 := le453.k k319 (by decide)
            have k473 : τ452 ld_238 = 26 := le453.k k320 (by decide)
            have k474 : τ452 v289 = 31 := le453.k k294 (by decide)
            have k475 : τ452 o290 = 32 := le453.k k295 (by decide)
            have k476 : τ452 t291 = 33 := le453.k k296 (by decide)
            have k477 : τ452 ds_353 = 34 := le453.k k362 (by decide)
            have k478 : τ452 fr_354 = 34 := le453.k k363 (by decide)
            have k479 : τ452 ca_355 = 31 := le453.k k364 (by decide)
            have k480 : τ452 us_356 = 31 := le453.k k365 (by decide)
            have k481 : τ452 wo_357 = 31 := le453.k k366 (by decide)
            have k482 : τ452 cm_358 = 31 := le453.k k367 (by decide)
            have k483 : τ452 lc_359 = 24 := le453.k k368 (by decide)
            have k484 : τ452 lh_360 = 25 := le453.k k369 (by decide)
            have k485 : τ452 ld_361 = 26 := le453.k k370 (by decide)
            have k486 : τ452 ds_391 = 34 := le453.k k400 (by decide)
            have k487 : τ452 fr_392 = 34 := le453.k k401 (by decide)
            have k488 : τ452 ca_393 = 31 := le453.k k402 (by decide)
            have k489 : τ452 us_394 = 31 := le453.k k403 (by decide)
            have k490 : τ452 wo_395 = 31 := le453.k k404 (by decide)
            have k491 : τ452 cm_396 = 31 := le453.k k405 (by decide)
            have k492 : τ452 lc_397 = 24 := le453.k k406 (by decide)
            have k493 : τ452 lh_398 = 25 := le453.k k407 (by decide)
            have k494 : τ452 ld_399 = 26 := le453.k k408 (by decide)
            have k495 : τ452 ds_429 = 34 := le453.k k438 (by decide)
            have k496 : τ452 fr_430 = 34 := le453.k k439 (by decide)
            have k497 : τ452 ca_431 = 31 := le453.k k440 (by decide)
            have k498 : τ452 us_432 = 31 := le453.k k441 (by decide)
            have k499 : τ452 wo_433 = 31 := le453.k k442 (by decide)
            have k500 : τ452 cm_434 = 31 := le453.k k443 (by decide)
            have k501 : τ452 lc_435 = 24 := le453.k k444 (by decide)
            have k502 : τ452 lh_436 = 25 := le453.k k445 (by decide)
            have k503 : τ452 ld_437 = 26 := le453.k k446 (by decide)
            have sp504 : tw_sp d τ h g τ452 h420 := by rw [eτ452]; exact sp423.ty n279 z293 f424 (by rw [← eτ452]; exact ⟨r, ct, v289, o290, t291, rfl, k474, k475, k476, q1a, q1b⟩)
            have k505 : τ452 q276 = 21 := by rw [eτ452]; exact tw_ku_s
            obtain ⟨e506, f507, ⟨el508, rfl, k509⟩, k510⟩ := sp504.1 lc_435 24 k501 (by decide)
            have hb9 : g.2 3 + 1 ≤ 4 := (tw_n4 c261 k447 (by decide))
            rcases k509 with k509p | k509p
            · obtain ⟨pa, pn, pf⟩ := k509p
              subst pa
              have f9 : h420 lc_435 = some (.inr (3, [.int (g.1 3), .ref (d.2 102), .int (nI 0)])) := by have z := f507; rw [pn] at z; exact z
              refine tw_bi (tw_callV (M := mX10_country) (pc := 151) okJx4a65c_add_9ea2d dX10_country_151 w_1238 rfl f507 [.ref q276] [] rfl rfl ⟨by decide, by decide⟩ (Nat.le_of_ble_eq_true rfl) (c_add_new d h420 lc_435 (g.1 3) f9 q276 11 _ _ rfl (ng_11) f424 (by decide)) 5 36 (Nat.le_of_ble_eq_true rfl) (Nat.le_of_ble_eq_true rfl)) (fun r9 h511 q9 => ?_) (fun E h1 q => q.elim)
              obtain ⟨r8, hr8, q1, q2, q3⟩ := q9
              have th512 : tw_th (h511 x) = 0 := by rw [q3 x (tw_nz k454 k501 (by decide)) (tw_thF sp504.1 k454 hr8)]; exact th421
              have oq513 : h511 o = h o := by rw [q3 o (tw_nk k455 k501 (by decide)) (tw_kF sp504.1 k455 (by decide) hr8)] <;> exact oq422
              obtain ⟨g9, τ9, ⟨hga, hg1⟩, sp9⟩ := tw_gadd24 (F := fun _ => none) sp504.1 k501 k505 hb9 (fun j hj => by rw [pn] at hj; exact absurd hj (Nat.not_lt_zero _)) (Or.inr ⟨hr8, pf⟩) (by rw [pn]; exact q1) (by rw [pn]; exact q2) q3
              have sp514 := sp504.tr sp9
              have k515 : τ9 x = 36 := sp9.2.1.k k454 (by decide)
              have k516 : τ9 o = 12 := sp9.2.1.k k455 (by decide)
              have k517 : τ9 ds_189 = 34 := sp9.2.1.k k456 (by decide)
              have k518 : τ9 fr_190 = 34 := sp9.2.1.k k457 (by decide)
              have k519 : τ9 ca_191 = 31 := sp9.2.1.k k458 (by decide)
              have k520 : τ9 us_192 = 31 := sp9.2.1.k k459 (by decide)
              have k521 : τ9 wo_193 = 31 := sp9.2.1.k k460 (by decide)
              have k522 : τ9 cm_194 = 31 := sp9.2.1.k k461 (by decide)
              have k523 : τ9 lc_195 = 24 := sp9.2.1.k k462 (by decide)
              have k524 : τ9 lh_196 = 25 := sp9.2.1.k k463 (by decide)
              have k525 : τ9 ld_197 = 26 := sp9.2.1.k k464 (by decide)
              have k526 : τ9 ds_230 = 34 := sp9.2.1.k k465 (by decide)
              have k527 : τ9 fr_231 = 34 := sp9.2.1.k k466 (by decide)
              have k528 : τ9 ca_232 = 31 := sp9.2.1.k k467 (by decide)
              have k529 : τ9 us_233 = 31 := sp9.2.1.k k468 (by decide)
              have k530 : τ9 wo_234 = 31 := sp9.2.1.k k469 (by decide)
              have k531 : τ9 cm_235 = 31 := sp9.2.1.k k470 (by decide)
              have k532 : τ9 lc_236 = 24 := sp9.2.1.k k471 (by decide)
              have k533 : τ9 lh_237 = 25 := sp9.2.1.k k472 (by decide)
              have k534 : τ9 ld_238 = 26 := sp9.2.1.k k473 (by decide)
              have k535 : τ9 v289 = 31 := sp9.2.1.k k474 (by decide)
              have k536 : τ9 o290 = 32 := sp9.2.1.k k475 (by decide)
              have k537 : τ9 t291 = 33 := sp9.2.1.k k476 (by decide)
              have k538 : τ9 ds_353 = 34 := sp9.2.1.k k477 (by decide)
              have k539 : τ9 fr_354 = 34 := sp9.2.1.k k478 (by decide)
              have k540 : τ9 ca_355 = 31 := sp9.2.1.k k479 (by decide)
              have k541 : τ9 us_356 = 31 := sp9.2.1.k k480 (by decide)
              have k542 : τ9 wo_357 = 31 := sp9.2.1.k k481 (by decide)
              have k543 : τ9 cm_358 = 31 := sp9.2.1.k k482 (by decide)
              have k544 : τ9 lc_359 = 24 := sp9.2.1.k k483 (by decide)
              have k545 : τ9 lh_360 = 25 := sp9.2.1.k k484 (by decide)
              have k546 : τ9 ld_361 = 26 := sp9.2.1.k k485 (by decide)
              have k547 : τ9 ds_391 = 34 := sp9.2.1.k k486 (by decide)
              have k548 : τ9 fr_392 = 34 := sp9.2.1.k k487 (by decide)
              have k549 : τ9 ca_393 = 31 := sp9.2.1.k k488 (by decide)
              have k550 : τ9 us_394 = 31 := sp9.2.1.k k489 (by decide)
              have k551 : τ9 wo_395 = 31 := sp9.2.1.k k490 (by decide)
              have k552 : τ9 cm_396 = 31 := sp9.2.1.k k491 (by decide)
              have k553 : τ9 lc_397 = 24 := sp9.2.1.k k492 (by decide)
              have k554 : τ9 lh_398 = 25 := sp9.2.1.k k493 (by decide)
              have k555 : τ9 ld_399 = 26 := sp9.2.1.k k494 (by decide)
              have k556 : τ9 ds_429 = 34 := sp9.2.1.k k495 (by decide)
              have k557 : τ9 fr_430 = 34 := sp9.2.1.k k496 (by decide)
              have k558 : τ9 ca_431 = 31 := sp9.2.1.k k497 (by decide)
              have k559 : τ9 us_432 = 31 := sp9.2.1.k k498 (by decide)
              have k560 : τ9 wo_433 = 31 := sp9.2.1.k k499 (by decide)
              have k561 : τ9 cm_434 = 31 := sp9.2.1.k k500 (by decide)
              have k562 : τ9 lc_435 = 24 := sp9.2.1.k k501 (by decide)
              have k563 : τ9 lh_436 = 25 := sp9.2.1.k k502 (by decide)
              have k564 : τ9 ld_437 = 26 := sp9.2.1.k k503 (by decide)
              have k565 : τ9 q276 = 21 := sp9.2.1.k k505 (by decide)
              refine tw_pop dX10_country_154 rfl ?_
              refine tw_aload_n 1 dX10_country_155 rfl rfl ?_
              obtain ⟨e566, f567, th_568, td_569, ds_570, fr_571, ca_572, us_573, wo_574, cm_575, lc_576, lh_577, ld_578, rfl, k579, k580, k581, k582, k583, k584, k585, k586, k587, k588, k589, k590, k591, k592⟩ := sp514.1 x 36 k515 (by decide)
              refine tw_get (v := .ref lc_576) rfl in_14 9 dX10_country_156 w_1160 rfl (by decide) f567 rfl ?_
              obtain ⟨e593, f594, ⟨el595, rfl, k596⟩, k597⟩ := sp514.1 lc_576 24 k585 (by decide)
              refine tw_bi (tw_callV (M := mX10_country) (pc := 159) okJx4a65c_size_8abf5 dX10_country_159 w_1208 rfl f594 [] [] rfl rfl ⟨by decide, by decide⟩ (Nat.le_of_ble_eq_true rfl) (c24_size d g9 τ9 h511 sp514.1 lc_576 k585) 5 36 (Nat.le_of_ble_eq_true rfl) (Nat.le_of_ble_eq_true rfl)) (fun r600 h599 q598 => ?_) (fun E h1 q => q.elim)
              obtain ⟨q598e, q598r⟩ := q598
              rw [q598e, q598r]
              refine tw_iconst (v := 1) dX10_country_162 (by decide) ?_
              refine tw_isub dX10_country_163 ?_
              refine tw_nmi (fun v601 ev601 => ?_)
              exact tw_iret dX10_country_164 rfl (Or.inl ⟨_, rfl, _, _, sp514, oq513, Or.inr (Or.inr (⟨⟨⟨q1a, q1b⟩, ⟨q47a, q47b⟩, ⟨q93a, q93b⟩, ⟨q139a, q139b⟩⟩, by omega, by rw [ev601, hg1.1]; exact nI_pred _, th512, hga, hg1⟩))⟩)
            · obtain ⟨e9, fa9, ⟨F9, rfl, hc9, h49⟩, un9⟩ := sp504.1 el508 27 k509p (by decide)
              refine tw_bi (tw_callV (M := mX10_country) (pc := 151) okJx4a65c_add_9ea2d dX10_country_151 w_1238 rfl f507 [.ref q276] [] rfl rfl ⟨by decide, by decide⟩ (Nat.le_of_ble_eq_true rfl) (c_add_old d h420 lc_435 el508 (g.2 3) F9 (g.1 3) (by omega) f507 fa9 q276 11 _ _ rfl (ng_11) f424 (by decide)) 5 36 (Nat.le_of_ble_eq_true rfl) (Nat.le_of_ble_eq_true rfl)) (fun r9 h602 q9 => ?_) (fun E h1 q => q.elim)
              obtain ⟨q1, q2, q3⟩ := q9
              have th603 : tw_th (h602 x) = 0 := by rw [q3 x (tw_nz k454 k501 (by decide)) (tw_nz k454 k509p (by decide))]; exact th421
              have oq604 : h602 o = h o := by rw [q3 o (tw_nk k455 k501 (by decide)) (tw_nk k455 k509p (by decide))] <;> exact oq422
              obtain ⟨g9, τ9, ⟨hga, hg1⟩, sp9⟩ := tw_gadd24 sp504.1 k501 k505 hb9 h49 (Or.inl k509p) q1 q2 q3
              have sp605 := sp504.tr sp9
              have k606 : τ9 x = 36 := sp9.2.1.k k454 (by decide)
              have k607 : τ9 o = 12 := sp9.2.1.k k455 (by decide)
              have k608 : τ9 ds_189 = 34 := sp9.2.1.k k456 (by decide)
              have k609 : τ9 fr_190 = 34 := sp9.2.1.k k457 (by decide)
              have k610 : τ9 ca_191 = 31 := sp9.2.1.k k458 (by decide)
              have k611 : τ9 us_192 = 31 := sp9.2.1.k k459 (by decide)
              have k612 : τ9 wo_193 = 31 := sp9.2.1.k k460 (by decide)
              have k613 : τ9 cm_194 = 31 := sp9.2.1.k k461 (by decide)
              have k614 : τ9 lc_195 = 24 := sp9.2.1.k k462 (by decide)
              have k615 : τ9 lh_196 = 25 := sp9.2.1.k k463 (by decide)
              have k616 : τ9 ld_197 = 26 := sp9.2.1.k k464 (by decide)
              have k617 : τ9 ds_230 = 34 := sp9.2.1.k k465 (by decide)
              have k618 : τ9 fr_231 = 34 := sp9.2.1.k k466 (by decide)
              have k619 : τ9 ca_232 = 31 := sp9.2.1.k k467 (by decide)
              have k620 : τ9 us_233 = 31 := sp9.2.1.k k468 (by decide)
              have k621 : τ9 wo_234 = 31 := sp9.2.1.k k469 (by decide)
              have k622 : τ9 cm_235 = 31 := sp9.2.1.k k470 (by decide)
              have k623 : τ9 lc_236 = 24 := sp9.2.1.k k471 (by decide)
              have k624 : τ9 lh_237 = 25 := sp9.2.1.k k472 (by decide)
              have k625 : τ9 ld_238 = 26 := sp9.2.1.k k473 (by decide)
              have k626 : τ9 v289 = 31 := sp9.2.1.k k474 (by decide)
              have k627 : τ9 o290 = 32 := sp9.2.1.k k475 (by decide)
              have k628 : τ9 t291 = 33 := sp9.2.1.k k476 (by decide)
              have k629 : τ9 ds_353 = 34 := sp9.2.1.k k477 (by decide)
              have k630 : τ9 fr_354 = 34 := sp9.2.1.k k478 (by decide)
              have k631 : τ9 ca_355 = 31 := sp9.2.1.k k479 (by decide)
              have k632 : τ9 us_356 = 31 := sp9.2.1.k k480 (by decide)
              have k633 : τ9 wo_357 = 31 := sp9.2.1.k k481 (by decide)
              have k634 : τ9 cm_358 = 31 := sp9.2.1.k k482 (by decide)
              have k635 : τ9 lc_359 = 24 := sp9.2.1.k k483 (by decide)
              have k636 : τ9 lh_360 = 25 := sp9.2.1.k k484 (by decide)
              have k637 : τ9 ld_361 = 26 := sp9.2.1.k k485 (by decide)
              have k638 : τ9 ds_391 = 34 := sp9.2.1.k k486 (by decide)
              have k639 : τ9 fr_392 = 34 := sp9.2.1.k k487 (by decide)
              have k640 : τ9 ca_393 = 31 := sp9.2.1.k k488 (by decide)
              have k641 : τ9 us_394 = 31 := sp9.2.1.k k489 (by decide)
              have k642 : τ9 wo_395 = 31 := sp9.2.1.k k490 (by decide)
              have k643 : τ9 cm_396 = 31 := sp9.2.1.k k491 (by decide)
              have k644 : τ9 lc_397 = 24 := sp9.2.1.k k492 (by decide)
              have k645 : τ9 lh_398 = 25 := sp9.2.1.k k493 (by decide)
              have k646 : τ9 ld_399 = 26 := sp9.2.1.k k494 (by decide)
              have k647 : τ9 ds_429 = 34 := sp9.2.1.k k495 (by decide)
              have k648 : τ9 fr_430 = 34 := sp9.2.1.k k496 (by decide)
              have k649 : τ9 ca_431 = 31 := sp9.2.1.k k497 (by decide)
              have k650 : τ9 us_432 = 31 := sp9.2.1.k k498 (by decide)
              have k651 : τ9 wo_433 = 31 := sp9.2.1.k k499 (by decide)
              have k652 : τ9 cm_434 = 31 := sp9.2.1.k k500 (by decide)
              have k653 : τ9 lc_435 = 24 := sp9.2.1.k k501 (by decide)
              have k654 : τ9 lh_436 = 25 := sp9.2.1.k k502 (by decide)
              have k655 : τ9 ld_437 = 26 := sp9.2.1.k k503 (by decide)
              have k656 : τ9 q276 = 21 := sp9.2.1.k k505 (by decide)
              refine tw_pop dX10_country_154 rfl ?_
              refine tw_aload_n 1 dX10_country_155 rfl rfl ?_
              obtain ⟨e657, f658, th_659, td_660, ds_661, fr_662, ca_663, us_664, wo_665, cm_666, lc_667, lh_668, ld_669, rfl, k670, k671, k672, k673, k674, k675, k676, k677, k678, k679, k680, k681, k682, k683⟩ := sp605.1 x 36 k606 (by decide)
              refine tw_get (v := .ref lc_667) rfl in_14 9 dX10_country_156 w_1160 rfl (by decide) f658 rfl ?_
              obtain ⟨e684, f685, ⟨el686, rfl, k687⟩, k688⟩ := sp605.1 lc_667 24 k676 (by decide)
              refine tw_bi (tw_callV (M := mX10_country) (pc := 159) okJx4a65c_size_8abf5 dX10_country_159 w_1208 rfl f685 [] [] rfl rfl ⟨by decide, by decide⟩ (Nat.le_of_ble_eq_true rfl) (c24_size d g9 τ9 h602 sp605.1 lc_667 k676) 5 36 (Nat.le_of_ble_eq_true rfl) (Nat.le_of_ble_eq_true rfl)) (fun r691 h690 q689 => ?_) (fun E h1 q => q.elim)
              obtain ⟨q689e, q689r⟩ := q689
              rw [q689e, q689r]
              refine tw_iconst (v := 1) dX10_country_162 (by decide) ?_
              refine tw_isub dX10_country_163 ?_
              refine tw_nmi (fun v692 ev692 => ?_)
              exact tw_iret dX10_country_164 rfl (Or.inl ⟨_, rfl, _, _, sp605, oq604, Or.inr (Or.inr (⟨⟨⟨q1a, q1b⟩, ⟨q47a, q47b⟩, ⟨q93a, q93b⟩, ⟨q139a, q139b⟩⟩, by omega, by rw [ev692, hg1.1]; exact nI_pred _, th603, hga, hg1⟩))⟩)
          · refine tw_iconst (v := 1) dX10_country_68 (by decide) ?_
            refine tw_goto 73 dX10_country_69 (by decide) ?_
            refine tw_iconst (v := 2) dX10_country_73 (by decide) ?_
            refine tw_bi (tw_callV (M := mX10_country) (pc := 74) okX10_refuse dX10_country_74 w_1204 rfl f227 [.int 1, .int 2] [] rfl rfl ⟨by decide, by decide⟩ (Nat.le_of_ble_eq_true rfl) (c_X10_refuse d g τ h213 sp223.1 x kx 1 2 (by decide)) 10 60 (Nat.le_of_ble_eq_true rfl) (Nat.le_of_ble_eq_true rfl)) (fun r695 h694 q693 => ?_) (fun E h1 q => q.elim)
            obtain ⟨e696, he697, hs698, hr699, hc700⟩ := q693
            obtain ⟨rz701, tz702⟩ := (hc700 th222).2 rfl
            have th703 : tw_th (h694 x) = 2 := by rw [he697, tw_up_s]; exact tz702
            have sp704 : tw_sp d τ h g τ h694 := by rw [he697]; exact sp223.set kx (by decide) hs698
            rw [rz701]
            have oq705 : h694 o = h o := by rw [he697, tw_up_n (tw_nk ko kx (by decide))] <;> exact oq224
            refine tw_if_eq 82 dX10_country_77 (by decide) (fun c706 => absurd c706 (by decide)) (fun _ => ?_)
            refine tw_iconst (v := 0) dX10_country_80 (by decide) ?_
            exact tw_iret dX10_country_81 rfl (Or.inl ⟨_, rfl, _, _, sp704, oq705, Or.inr (Or.inl ⟨⟨⟨q1a, q1b⟩, ⟨q47a, q47b⟩, ⟨q93a, q93b⟩, ⟨q139a, q139b⟩⟩, fun z => absurd (tw_nIj (a := g.2 3) (b := 4) c261 (by omega) (by decide)) (by omega), th703, rfl⟩)⟩)

set_option maxHeartbeats 4000000 in
set_option maxRecDepth 100000 in
theorem c2_X10_house (d : tw_D) (g : tw_G) (τ : tw_K) (h : tw_H) (hw : tw_wt d g τ h) (x : Nat) (kx : τ x = 36) (a : Int32) (go : Int32) (si : Int32) (o : Nat) (ko : τ o = 12) : tw_Ct d mX10_house 10 60 [.ref x, .int a, .int go, .int si] h (tw_qi (fun r9 h1 => ∃ g1 τ1, tw_sp d τ h g1 τ1 h1 ∧ h1 o = h o ∧ ((¬ tw_ix (g.2 3) a ∧ tw_th (h1 x) = 1 ∧ g1 = g) ∨ (tw_ix (g.2 3) a ∧ ¬ tw_RH go si ∧ tw_th (h1 x) = 2 ∧ g1 = g) ∨ (tw_ix (g.2 3) a ∧ tw_RH go si ∧ ¬ g.2 4 < 6 ∧ tw_th (h1 x) = 3 ∧ g1 = g) ∨ (tw_ix (g.2 3) a ∧ tw_RH go si ∧ g.2 4 < 6 ∧ r9 = nI (g.2 4) ∧ tw_th (h1 x) = 0 ∧ tw_gk 4 g g1))) tw_nx) := by
  refine tw_of (by decide +kernel) (Nat.le_of_ble_eq_true rfl) ?_
  show tw_W d mX10_house _ 0 [(0, .ref x), (1, .int a), (2, .int go), (3, .int si)] [] h 10 60
  have sp0 := tw_sp.rf hw
  have oq0 : h o = h o := rfl
  refine tw_aload_n 0 dX10_house_0 rfl rfl ?_
  refine tw_aload_n 0 dX10_house_1 rfl rfl ?_
  refine tw_iload_n 1 dX10_house_2 rfl rfl ?_
  obtain ⟨e1, f2, th_3, td_4, ds_5, fr_6, ca_7, us_8, wo_9, cm_10, lc_11, lh_12, ld_13, rfl, k14, k15, k16, k17, k18, k19, k20, k21, k22, k23, k24, k25, k26, k27⟩ := sp0.1 x 36 kx (by decide)
  refine tw_bi (tw_callV (M := mX10_house) (pc := 3) okX10_isNoCountry dX10_house_3 w_1292 rfl f2 [.int a] [.ref x] rfl rfl ⟨by decide, by decide⟩ (Nat.le_of_ble_eq_true rfl) (c2_X10_isNoCountry d g τ h sp0.1 x kx a) 10 60 (Nat.le_of_ble_eq_true rfl) (Nat.le_of_ble_eq_true rfl)) (fun r30 h29 q28 => ?_) (fun E h1 q => q.elim)
  obtain ⟨q28e, q28d⟩ := q28
  rw [q28e]
  rcases q28d with ⟨q28r, q28n⟩ | ⟨q28r, q28i⟩
  · rw [q28r]
    refine tw_iconst (v := 1) dX10_house_6 (by decide) ?_
    refine tw_bi (tw_callV (M := mX10_house) (pc := 7) okX10_start dX10_house_7 w_1200 rfl f2 [.int 1, .int 1] [] rfl rfl ⟨by decide, by decide⟩ (Nat.le_of_ble_eq_true rfl) (c_X10_start d g τ h sp0.1 x kx 1 1 (by decide)) 10 60 (Nat.le_of_ble_eq_true rfl) (Nat.le_of_ble_eq_true rfl)) (fun r34 h33 q32 => ?_) (fun E h1 q => q.elim)
    obtain ⟨e35, he36, hs37, hr38, hc39⟩ := q32
    obtain ⟨rz40, tz41⟩ := hc39.2 rfl
    have th42 : tw_th (h33 x) = 1 := by rw [he36, tw_up_s]; exact tz41
    have sp43 : tw_sp d τ h g τ h33 := by rw [he36]; exact sp0.set kx (by decide) hs37
    rw [rz40]
    have oq44 : h33 o = h o := by rw [he36, tw_up_n (tw_nk ko kx (by decide))] <;> exact oq0
    refine tw_if_ne 71 dX10_house_10 (by decide) (fun _ => ?_) (fun c45 => absurd c45 (by decide))
    refine tw_iconst (v := 0) dX10_house_71 (by decide) ?_
    exact tw_iret dX10_house_72 rfl (Or.inl ⟨_, rfl, _, _, sp43, oq44, Or.inl ⟨q28n, th42, rfl⟩⟩)
  · rw [q28r]
    have q28x := q28i
    obtain ⟨j31, q28j, q28k⟩ := q28i
    subst q28k
    have ix0 := q28x
    refine tw_iconst (v := 1) dX10_house_6 (by decide) ?_
    refine tw_bi (tw_callV (M := mX10_house) (pc := 7) okX10_start dX10_house_7 w_1200 rfl f2 [.int 0, .int 1] [] rfl rfl ⟨by decide, by decide⟩ (Nat.le_of_ble_eq_true rfl) (c_X10_start d g τ h sp0.1 x kx 0 1 (by decide)) 10 60 (Nat.le_of_ble_eq_true rfl) (Nat.le_of_ble_eq_true rfl)) (fun r48 h47 q46 => ?_) (fun E h1 q => q.elim)
    obtain ⟨e49, he50, hs51, hr52, hc53⟩ := q46
    obtain ⟨rz54, tz55⟩ := hc53.1 rfl
    have th56 : tw_th (h47 x) = 0 := by rw [he50, tw_up_s]; exact tz55
    have sp57 : tw_sp d τ h g τ h47 := by rw [he50]; exact sp0.set kx (by decide) hs51
    rw [rz54]
    have oq58 : h47 o = h o := by rw [he50, tw_up_n (tw_nk ko kx (by decide))] <;> exact oq0
    refine tw_if_ne 71 dX10_house_10 (by decide) (fun c59 => absurd (by decide) c59) (fun _ => ?_)
    refine tw_aload_n 0 dX10_house_13 rfl rfl ?_
    refine tw_iload_n 2 dX10_house_14 rfl rfl ?_
    refine tw_iconst (v := 0) dX10_house_15 (by decide) ?_
    refine tw_ldc (v := 99999) dX10_house_16 w_1199 ?_
    refine tw_bi (tw_callS (M := mX10_house) (pc := 18) okX10_isIn dX10_house_18 w_1196 [.int go, .int 0, .int 99999] [.ref x] rfl rfl ⟨by decide, by decide⟩ (Nat.le_of_ble_eq_true rfl) (c_X10_isIn d g τ h47 sp57.1 go 0 99999) 10 60 (Nat.le_of_ble_eq_true rfl) (Nat.le_of_ble_eq_true rfl)) (fun r62 h61 q60 => ?_) (fun E h1 q => q.elim)
    obtain ⟨q60e, q60d⟩ := q60
    rw [q60e]
    rcases q60d with ⟨q60r, q60n⟩ | ⟨q60r, q60a, q60b⟩
    · rw [q60r]
      refine tw_if_eq 34 dX10_house_21 (by decide) (fun _ => ?_) (fun c63 => absurd (by decide) c63)
      refine tw_iconst (v := 1) dX10_house_34 (by decide) ?_
      refine tw_goto 39 dX10_house_35 (by decide) ?_
      refine tw_iconst (v := 2) dX10_house_39 (by decide) ?_
      obtain ⟨e64, f65, th_66, td_67, ds_68, fr_69, ca_70, us_71, wo_72, cm_73, lc_74, lh_75, ld_76, rfl, k77, k78, k79, k80, k81, k82, k83, k84, k85, k86, k87, k88, k89, k90⟩ := sp57.1 x 36 kx (by decide)
      refine tw_bi (tw_callV (M := mX10_house) (pc := 40) okX10_refuse dX10_house_40 w_1204 rfl f65 [.int 1, .int 2] [] rfl rfl ⟨by decide, by decide⟩ (Nat.le_of_ble_eq_true rfl) (c_X10_refuse d g τ h47 sp57.1 x kx 1 2 (by decide)) 10 60 (Nat.le_of_ble_eq_true rfl) (Nat.le_of_ble_eq_true rfl)) (fun r93 h92 q91 => ?_) (fun E h1 q => q.elim)
      obtain ⟨e94, he95, hs96, hr97, hc98⟩ := q91
      obtain ⟨rz99, tz100⟩ := (hc98 th56).2 rfl
      have th101 : tw_th (h92 x) = 2 := by rw [he95, tw_up_s]; exact tz100
      have sp102 : tw_sp d τ h g τ h92 := by rw [he95]; exact sp57.set kx (by decide) hs96
      rw [rz99]
      have oq103 : h92 o = h o := by rw [he95, tw_up_n (tw_nk ko kx (by decide))] <;> exact oq58
      refine tw_if_ne 71 dX10_house_43 (by decide) (fun _ => ?_) (fun c104 => absurd c104 (by decide))
      refine tw_iconst (v := 0) dX10_house_71 (by decide) ?_
      exact tw_iret dX10_house_72 rfl (Or.inl ⟨_, rfl, _, _, sp102, oq103, Or.inr (Or.inl ⟨ix0, fun z => q60n z.1, th101, rfl⟩)⟩)
    · rw [q60r]
      refine tw_if_eq 34 dX10_house_21 (by decide) (fun c105 => absurd c105 (by decide)) (fun _ => ?_)
      refine tw_iload_n 3 dX10_house_24 rfl rfl ?_
      refine tw_iconst (v := 0) dX10_house_25 (by decide) ?_
      refine tw_ldc (v := 99999) dX10_house_26 w_1199 ?_
      refine tw_bi (tw_callS (M := mX10_house) (pc := 28) okX10_isIn dX10_house_28 w_1196 [.int si, .int 0, .int 99999] [.ref x] rfl rfl ⟨by decide, by decide⟩ (Nat.le_of_ble_eq_true rfl) (c_X10_isIn d g τ h47 sp57.1 si 0 99999) 10 60 (Nat.le_of_ble_eq_true rfl) (Nat.le_of_ble_eq_true rfl)) (fun r108 h107 q106 => ?_) (fun E h1 q => q.elim)
      obtain ⟨q106e, q106d⟩ := q106
      rw [q106e]
      rcases q106d with ⟨q106r, q106n⟩ | ⟨q106r, q106a, q106b⟩
      · rw [q106r]
        refine tw_if_ne 38 dX10_house_31 (by decide) (fun c109 => absurd (by decide) c109) (fun _ => ?_)
        refine tw_iconst (v := 1) dX10_house_34 (by decide) ?_
        refine tw_goto 39 dX10_house_35 (by decide) ?_
        refine tw_iconst (v := 2) dX10_house_39 (by decide) ?_
        obtain ⟨e110, f111, th_112, td_113, ds_114, fr_115, ca_116, us_117, wo_118, cm_119, lc_120, lh_121, ld_122, rfl, k123, k124, k125, k126, k127, k128, k129, k130, k131, k132, k133, k134, k135, k136⟩ := sp57.1 x 36 kx (by decide)
        refine tw_bi (tw_callV (M := mX10_house) (pc := 40) okX10_refuse dX10_house_40 w_1204 rfl f111 [.int 1, .int 2] [] rfl rfl ⟨by decide, by decide⟩ (Nat.le_of_ble_eq_true rfl) (c_X10_refuse d g τ h47 sp57.1 x kx 1 2 (by decide)) 10 60 (Nat.le_of_ble_eq_true rfl) (Nat.le_of_ble_eq_true rfl)) (fun r139 h138 q137 => ?_) (fun E h1 q => q.elim)
        obtain ⟨e140, he141, hs142, hr143, hc144⟩ := q137
        obtain ⟨rz145, tz146⟩ := (hc144 th56).2 rfl
        have th147 : tw_th (h138 x) = 2 := by rw [he141, tw_up_s]; exact tz146
        have sp148 : tw_sp d τ h g τ h138 := by rw [he141]; exact sp57.set kx (by decide) hs142
        rw [rz145]
        have oq149 : h138 o = h o := by rw [he141, tw_up_n (tw_nk ko kx (by decide))] <;> exact oq58
        refine tw_if_ne 71 dX10_house_43 (by decide) (fun _ => ?_) (fun c150 => absurd c150 (by decide))
        refine tw_iconst (v := 0) dX10_house_71 (by decide) ?_
        exact tw_iret dX10_house_72 rfl (Or.inl ⟨_, rfl, _, _, sp148, oq149, Or.inr (Or.inl ⟨ix0, fun z => q106n z.2, th147, rfl⟩)⟩)
      · rw [q106r]
        refine tw_if_ne 38 dX10_house_31 (by decide) (fun _ => ?_) (fun c151 => absurd c151 (by decide))
        refine tw_iconst (v := 0) dX10_house_38 (by decide) ?_
        refine tw_iconst (v := 2) dX10_house_39 (by decide) ?_
        obtain ⟨e152, f153, th_154, td_155, ds_156, fr_157, ca_158, us_159, wo_160, cm_161, lc_162, lh_163, ld_164, rfl, k165, k166, k167, k168, k169, k170, k171, k172, k173, k174, k175, k176, k177, k178⟩ := sp57.1 x 36 kx (by decide)
        refine tw_bi (tw_callV (M := mX10_house) (pc := 40) okX10_refuse dX10_house_40 w_1204 rfl f153 [.int 0, .int 2] [] rfl rfl ⟨by decide, by decide⟩ (Nat.le_of_ble_eq_true rfl) (c_X10_refuse d g τ h47 sp57.1 x kx 0 2 (by decide)) 10 60 (Nat.le_of_ble_eq_true rfl) (Nat.le_of_ble_eq_true rfl)) (fun r181 h180 q179 => ?_) (fun E h1 q => q.elim)
        obtain ⟨e182, he183, hs184, hr185, hc186⟩ := q179
        obtain ⟨rz187, tz188⟩ := (hc186 th56).1 rfl
        have th189 : tw_th (h180 x) = 0 := by rw [he183, tw_up_s]; exact tz188
        have sp190 : tw_sp d τ h g τ h180 := by rw [he183]; exact sp57.set kx (by decide) hs184
        rw [rz187]
        have oq191 : h180 o = h o := by rw [he183, tw_up_n (tw_nk ko kx (by decide))] <;> exact oq58
        refine tw_if_ne 71 dX10_house_43 (by decide) (fun c192 => absurd (by decide) c192) (fun _ => ?_)
        refine tw_aload_n 0 dX10_house_46 rfl rfl ?_
        refine tw_aload_n 0 dX10_house_47 rfl rfl ?_
        obtain ⟨e193, f194, th_195, td_196, ds_197, fr_198, ca_199, us_200, wo_201, cm_202, lc_203, lh_204, ld_205, rfl, k206, k207, k208, k209, k210, k211, k212, k213, k214, k215, k216, k217, k218, k219⟩ := sp190.1 x 36 kx (by decide)
        refine tw_get (v := .ref lh_204) rfl in_14 10 dX10_house_48 w_1161 rfl (by decide) f194 rfl ?_
        obtain ⟨e220, f221, ⟨el222, rfl, k223⟩, k224⟩ := sp190.1 lh_204 25 k213 (by decide)
        refine tw_bi (tw_callV (M := mX10_house) (pc := 51) okJx4a65c_size_8abf5 dX10_house_51 w_1208 rfl f221 [] [.ref x] rfl rfl ⟨by decide, by decide⟩ (Nat.le_of_ble_eq_true rfl) (c25_size d g τ h180 sp190.1 lh_204 k213) 10 60 (Nat.le_of_ble_eq_true rfl) (Nat.le_of_ble_eq_true rfl)) (fun r227 h226 q225 => ?_) (fun E h1 q => q.elim)
        obtain ⟨q225e, q225r⟩ := q225
        rw [q225e, q225r]
        refine tw_bipush (v := 6) dX10_house_54 (by decide) ?_
        refine tw_icmp_ne 63 dX10_house_56 (by decide) (fun c228 => ?_) (fun c228 => ?_)
        · refine tw_iconst (v := 0) dX10_house_63 (by decide) ?_
          refine tw_iconst (v := 3) dX10_house_64 (by decide) ?_
          refine tw_bi (tw_callV (M := mX10_house) (pc := 65) okX10_refuse dX10_house_65 w_1204 rfl f194 [.int 0, .int 3] [] rfl rfl ⟨by decide, by decide⟩ (Nat.le_of_ble_eq_true rfl) (c_X10_refuse d g τ h180 sp190.1 x kx 0 3 (by decide)) 10 60 (Nat.le_of_ble_eq_true rfl) (Nat.le_of_ble_eq_true rfl)) (fun r231 h230 q229 => ?_) (fun E h1 q => q.elim)
          obtain ⟨e232, he233, hs234, hr235, hc236⟩ := q229
          obtain ⟨rz237, tz238⟩ := (hc236 th189).1 rfl
          have th239 : tw_th (h230 x) = 0 := by rw [he233, tw_up_s]; exact tz238
          have sp240 : tw_sp d τ h g τ h230 := by rw [he233]; exact sp190.set kx (by decide) hs234
          rw [rz237]
          have oq241 : h230 o = h o := by rw [he233, tw_up_n (tw_nk ko kx (by decide))] <;> exact oq191
          refine tw_if_eq 73 dX10_house_68 (by decide) (fun _ => ?_) (fun c242 => absurd (by decide) c242)
          refine tw_new (ci := 13) rfl in_13 tyX9 tyX9_ok dX10_house_73 w_1336 w_1337 w_100 (fs := [.int 0, .int 0, .int 0, .null]) (fun j hj => by rcases (show j = 0 ∨ j = 1 ∨ j = 2 ∨ j = 3 by omega) with rfl | rfl | rfl | rfl <;> rfl) 9 56 (Nat.le_of_ble_eq_true rfl) (Nat.le_of_ble_eq_true rfl) (fun q243 hq244 hA245 => ?_)
          have n246 := sp240.nn hq244
          have z247 := sp240.1.none hq244
          obtain ⟨h248, eh248⟩ : ∃ z : tw_H, z = tw_up h230 q243 (.inr (13, [.int 0, .int 0, .int 0, .null])) := ⟨_, rfl⟩
          rw [← eh248]
          have th249 : tw_th (h248 x) = 0 := by rw [eh248, tw_up_n (tw_thF sp240.1 kx hq244)]; exact th239
          have oq250 : h248 o = h o := by rw [eh248, tw_up_n (tw_kF sp240.1 ko (by decide) hq244)] <;> exact oq241
          have sp251 : tw_sp d τ h g τ h248 := by rw [eh248]; exact sp240.mk hq244
          have f252 : h248 q243 = some (.inr (13, [.int 0, .int 0, .int 0, .null])) := by rw [eh248]; exact tw_up_s
          refine tw_dup dX10_house_76 rfl ?_
          refine tw_bv (tw_callIN (M := mX10_house) (pc := 77) okX9_init dX10_house_77 w_1338 rfl [] [.ref q243] rfl rfl ⟨by decide, by decide⟩ (Nat.le_of_ble_eq_true rfl) (c2_X9_init d g τ h248 sp251.1 q243 z247 f252) 8 54 (Nat.le_of_ble_eq_true rfl) (Nat.le_of_ble_eq_true rfl)) (fun h254 q253 => ?_) (fun E h1 q => q.elim)
          obtain ⟨τ255, p256, q253s, f257, z258, k259, fr261⟩ := q253
          have th262 : tw_th (h254 x) = 0 := by rw [fr261 x (tw_nz kx z247 (by decide)) (fun z => by obtain ⟨e, y, -⟩ := sp251.1 x 36 kx (by decide); rw [z] at y; cases y)]; exact th249
          have oq263 : h254 o = h o := by rw [fr261 o (tw_nk ko z247 (by decide)) (tw_some sp251.1 ko (by decide))] <;> exact oq250
          have sp260 := sp251.trm n246 q253s
          have k264 : τ255 x = 36 := q253s.2.1.k kx (by decide)
          have k265 : τ255 o = 12 := q253s.2.1.k ko (by decide)
          have k266 : τ255 ds_5 = 34 := q253s.2.1.k k14 (by decide)
          have k267 : τ255 fr_6 = 34 := q253s.2.1.k k15 (by decide)
          have k268 : τ255 ca_7 = 31 := q253s.2.1.k k16 (by decide)
          have k269 : τ255 us_8 = 31 := q253s.2.1.k k17 (by decide)
          have k270 : τ255 wo_9 = 31 := q253s.2.1.k k18 (by decide)
          have k271 : τ255 cm_10 = 31 := q253s.2.1.k k19 (by decide)
          have k272 : τ255 lc_11 = 24 := q253s.2.1.k k20 (by decide)
          have k273 : τ255 lh_12 = 25 := q253s.2.1.k k21 (by decide)
          have k274 : τ255 ld_13 = 26 := q253s.2.1.k k22 (by decide)
          have k275 : τ255 ds_156 = 34 := q253s.2.1.k k165 (by decide)
          have k276 : τ255 fr_157 = 34 := q253s.2.1.k k166 (by decide)
          have k277 : τ255 ca_158 = 31 := q253s.2.1.k k167 (by decide)
          have k278 : τ255 us_159 = 31 := q253s.2.1.k k168 (by decide)
          have k279 : τ255 wo_160 = 31 := q253s.2.1.k k169 (by decide)
          have k280 : τ255 cm_161 = 31 := q253s.2.1.k k170 (by decide)
          have k281 : τ255 lc_162 = 24 := q253s.2.1.k k171 (by decide)
          have k282 : τ255 lh_163 = 25 := q253s.2.1.k k172 (by decide)
          have k283 : τ255 ld_164 = 26 := q253s.2.1.k k173 (by decide)
          have k284 : τ255 ds_197 = 34 := q253s.2.1.k k206 (by decide)
          have k285 : τ255 fr_198 = 34 := q253s.2.1.k k207 (by decide)
          have k286 : τ255 ca_199 = 31 := q253s.2.1.k k208 (by decide)
          have k287 : τ255 us_200 = 31 := q253s.2.1.k k209 (by decide)
          have k288 : τ255 wo_201 = 31 := q253s.2.1.k k210 (by decide)
          have k289 : τ255 cm_202 = 31 := q253s.2.1.k k211 (by decide)
          have k290 : τ255 lc_203 = 24 := q253s.2.1.k k212 (by decide)
          have k291 : τ255 lh_204 = 25 := q253s.2.1.k k213 (by decide)
          have k292 : τ255 ld_205 = 26 := q253s.2.1.k k214 (by decide)
          refine tw_astore [(4, .ref q243), (0, .ref x), (1, .int (nI j31)), (2, .int go), (3, .int si)] dX10_house_80 (by decide) rfl ?_
          refine tw_aload 0 dX10_house_82 rfl ?_
          refine tw_iload_n 2 dX10_house_84 rfl rfl ?_
          refine tw_put rfl in_13 tyX9 tyX9_ok nmX9 0 dX10_house_85 w_1342 rfl (by decide) f257 rfl rfl rfl rfl (Nat.le_of_ble_eq_true rfl) [.int (nI j31), .int (-1), .int (-1), .ref p256] rfl ?_
          obtain ⟨h293, eh293⟩ : ∃ z : tw_H, z = tw_up h254 q243 (.inr (13, [.int (nI j31), .int (-1), .int (-1), .ref p256])) := ⟨_, rfl⟩
          rw [← eh293]
          have th294 : tw_th (h293 x) = 0 := by rw [eh293, tw_up_n (tw_nz k264 z258 (by decide))]; exact th262
          have oq295 : h293 o = h o := by rw [eh293, tw_up_n (tw_nk k265 z258 (by decide))] <;> exact oq263
          have sp296 : tw_sp d τ h g τ255 h293 := by rw [eh293]; exact sp260.wl n246 z258
          have f297 : h293 q243 = some (.inr (13, [.int (nI j31), .int (-1), .int (-1), .ref p256])) := by rw [eh293]; exact tw_up_s
          refine tw_aload 0 dX10_house_88 rfl ?_
          refine tw_get (v := .ref p256) rfl in_13 3 dX10_house_90 w_1348 rfl (by decide) f297 rfl ?_
          refine tw_iconst (v := 0) dX10_house_93 (by decide) ?_
          refine tw_iload_n 3 dX10_house_94 rfl rfl ?_
          refine tw_i2l dX10_house_95 ?_
          refine tw_nml (fun v298 ev298 => ?_)
          obtain ⟨e299, f300, F301, rfl⟩ := sp296.1 p256 31 k259 (by decide)
          refine tw_last dX10_house_96 f300 (vp_in_nI (n := 0) (by decide) (by decide)) ?_
          obtain ⟨h302, eh302⟩ : ∃ z : tw_H, z = tw_up h293 p256 (.inl (d.2 1, 2, .inr (.inl (vp_updL F301 (0 : Int32).toNatClampNeg v298)))) := ⟨_, rfl⟩
          rw [← eh302]
          have th303 : tw_th (h302 x) = 0 := by rw [eh302, tw_up_n (tw_nz k264 k259 (by decide))]; exact th294
          have oq304 : h302 o = h o := by rw [eh302, tw_up_n (tw_nk k265 k259 (by decide))] <;> exact oq295
          have sp305 : tw_sp d τ h g τ255 h302 := by rw [eh302]; exact sp296.set k259 (by decide) ⟨_, rfl⟩
          have f306 : h302 q243 = some (.inr (13, [.int (nI j31), .int (-1), .int (-1), .ref p256])) := by rw [eh302, tw_up_n (fun q => absurd (z258) (by rw [q, k259]; decide))]; exact f297
          refine tw_aload 0 dX10_house_97 rfl ?_
          refine tw_get (v := .ref p256) rfl in_13 3 dX10_house_99 w_1348 rfl (by decide) f306 rfl ?_
          refine tw_iconst (v := 1) dX10_house_102 (by decide) ?_
          refine tw_iload_n 4 dX10_house_103 rfl rfl ?_
          refine tw_i2l dX10_house_104 ?_
          refine tw_nml (fun v307 ev307 => ?_)
          obtain ⟨e308, f309, F310, rfl⟩ := sp305.1 p256 31 k259 (by decide)
          refine tw_last dX10_house_105 f309 (vp_in_nI (n := 1) (by decide) (by decide)) ?_
          obtain ⟨h311, eh311⟩ : ∃ z : tw_H, z = tw_up h302 p256 (.inl (d.2 1, 2, .inr (.inl (vp_updL F310 (1 : Int32).toNatClampNeg v307)))) := ⟨_, rfl⟩
          rw [← eh311]
          have th312 : tw_th (h311 x) = 0 := by rw [eh311, tw_up_n (tw_nz k264 k259 (by decide))]; exact th303
          have oq313 : h311 o = h o := by rw [eh311, tw_up_n (tw_nk k265 k259 (by decide))] <;> exact oq304
          have sp314 : tw_sp d τ h g τ255 h311 := by rw [eh311]; exact sp305.set k259 (by decide) ⟨_, rfl⟩
          have f315 : h311 q243 = some (.inr (13, [.int (nI j31), .int (-1), .int (-1), .ref p256])) := by rw [eh311, tw_up_n (fun q => absurd (z258) (by rw [q, k259]; decide))]; exact f306
          refine tw_aload_n 1 dX10_house_106 rfl rfl ?_
          obtain ⟨e316, f317, th_318, td_319, ds_320, fr_321, ca_322, us_323, wo_324, cm_325, lc_326, lh_327, ld_328, rfl, k329, k330, k331, k332, k333, k334, k335, k336, k337, k338, k339, k340, k341, k342⟩ := sp314.1 x 36 k264 (by decide)
          refine tw_get (v := .ref cm_325) rfl in_14 8 dX10_house_107 w_1159 rfl (by decide) f317 rfl ?_
          refine tw_iconst (v := 0) dX10_house_110 (by decide) ?_
          refine tw_dup2 dX10_house_111 rfl rfl ?_
          obtain ⟨e343, f344, F345, rfl⟩ := sp314.1 cm_325 31 k334 (by decide)
          obtain ⟨v346, ev346⟩ : ∃ y : Int64, F345 (0 : Int32).toNatClampNeg = y := ⟨_, rfl⟩
          refine tw_lald (v := v346) dX10_house_112 f344 (vp_in_nI (n := 0) (by decide) (by decide)) ev346 ?_
          refine tw_iload_n 3 dX10_house_113 rfl rfl ?_
          refine tw_i2l dX10_house_114 ?_
          refine tw_nml (fun v347 ev347 => ?_)
          refine tw_ladd dX10_house_115 ?_
          refine tw_nml (fun v348 ev348 => ?_)
          refine tw_last dX10_house_116 f344 (vp_in_nI (n := 0) (by decide) (by decide)) ?_
          obtain ⟨h349, eh349⟩ : ∃ z : tw_H, z = tw_up h311 cm_325 (.inl (d.2 1, 2, .inr (.inl (vp_updL F345 (0 : Int32).toNatClampNeg v348)))) := ⟨_, rfl⟩
          rw [← eh349]
          have th350 : tw_th (h349 x) = 0 := by rw [eh349, tw_up_n (tw_nz k264 k334 (by decide))]; exact th312
          have oq351 : h349 o = h o := by rw [eh349, tw_up_n (tw_nk k265 k334 (by decide))] <;> exact oq313
          have sp352 : tw_sp d τ h g τ255 h349 := by rw [eh349]; exact sp314.set k334 (by decide) ⟨_, rfl⟩
          have f353 : h349 q243 = some (.inr (13, [.int (nI j31), .int (-1), .int (-1), .ref p256])) := by rw [eh349, tw_up_n (fun q => absurd (z258) (by rw [q, k334]; decide))]; exact f315
          refine tw_aload_n 1 dX10_house_117 rfl rfl ?_
          obtain ⟨e354, f355, th_356, td_357, ds_358, fr_359, ca_360, us_361, wo_362, cm_363, lc_364, lh_365, ld_366, rfl, k367, k368, k369, k370, k371, k372, k373, k374, k375, k376, k377, k378, k379, k380⟩ := sp352.1 x 36 k264 (by decide)
          refine tw_get (v := .ref cm_363) rfl in_14 8 dX10_house_118 w_1159 rfl (by decide) f355 rfl ?_
          refine tw_iconst (v := 1) dX10_house_121 (by decide) ?_
          refine tw_dup2 dX10_house_122 rfl rfl ?_
          obtain ⟨e381, f382, F383, rfl⟩ := sp352.1 cm_363 31 k372 (by decide)
          obtain ⟨v384, ev384⟩ : ∃ y : Int64, F383 (1 : Int32).toNatClampNeg = y := ⟨_, rfl⟩
          refine tw_lald (v := v384) dX10_house_123 f382 (vp_in_nI (n := 1) (by decide) (by decide)) ev384 ?_
          refine tw_iload_n 4 dX10_house_124 rfl rfl ?_
          refine tw_i2l dX10_house_125 ?_
          refine tw_nml (fun v385 ev385 => ?_)
          refine tw_ladd dX10_house_126 ?_
          refine tw_nml (fun v386 ev386 => ?_)
          refine tw_last dX10_house_127 f382 (vp_in_nI (n := 1) (by decide) (by decide)) ?_
          obtain ⟨h387, eh387⟩ : ∃ z : tw_H, z = tw_up h349 cm_363 (.inl (d.2 1, 2, .inr (.inl (vp_updL F383 (1 : Int32).toNatClampNeg v386)))) := ⟨_, rfl⟩
          rw [← eh387]
          have th388 : tw_th (h387 x) = 0 := by rw [eh387, tw_up_n (tw_nz k264 k372 (by decide))]; exact th350
          have oq389 : h387 o = h o := by rw [eh387, tw_up_n (tw_nk k265 k372 (by decide))] <;> exact oq351
          have sp390 : tw_sp d τ h g τ255 h387 := by rw [eh387]; exact sp352.set k372 (by decide) ⟨_, rfl⟩
          have f391 : h387 q243 = some (.inr (13, [.int (nI j31), .int (-1), .int (-1), .ref p256])) := by rw [eh387, tw_up_n (fun q => absurd (z258) (by rw [q, k372]; decide))]; exact f353
          refine tw_aload_n 1 dX10_house_128 rfl rfl ?_
          obtain ⟨e392, f393, th_394, td_395, ds_396, fr_397, ca_398, us_399, wo_400, cm_401, lc_402, lh_403, ld_404, rfl, k405, k406, k407, k408, k409, k410, k411, k412, k413, k414, k415, k416, k417, k418⟩ := sp390.1 x 36 k264 (by decide)
          refine tw_get (v := .ref lh_403) rfl in_14 10 dX10_house_129 w_1161 rfl (by decide) f393 rfl ?_
          refine tw_aload 0 dX10_house_132 rfl ?_
          obtain ⟨τ419, eτ419⟩ : ∃ z : tw_K, z = tw_ku τ255 q243 23 := ⟨_, rfl⟩
          have le420 : tw_le τ255 τ419 := by rw [eτ419]; exact tw_ku_le z258
          have k421 : τ419 x = 36 := le420.k k264 (by decide)
          have k422 : τ419 o = 12 := le420.k k265 (by decide)
          have k423 : τ419 ds_5 = 34 := le420.k k266 (by decide)
          have k424 : τ419 fr_6 = 34 := le420.k k267 (by decide)
          have k425 : τ419 ca_7 = 31 := le420.k k268 (by decide)
          have k426 : τ419 us_8 = 31 := le420.k k269 (by decide)
          have k427 : τ419 wo_9 = 31 := le420.k k270 (by decide)
          have k428 : τ419 cm_10 = 31 := le420.k k271 (by decide)
          have k429 : τ419 lc_11 = 24 := le420.k k272 (by decide)
          have k430 : τ419 lh_12 = 25 := le420.k k273 (by decide)
          have k431 : τ419 ld_13 = 26 := le420.k k274 (by decide)
          have k432 : τ419 ds_156 = 34 := le420.k k275 (by decide)
          have k433 : τ419 fr_157 = 34 := le420.k k276 (by decide)
          have k434 : τ419 ca_158 = 31 := le420.k k277 (by decide)
          have k435 : τ419 us_159 = 31 := le420.k k278 (by decide)
          have k436 : τ419 wo_160 = 31 := le420.k k279 (by decide)
          have k437 : τ419 cm_161 = 31 := le420.k k280 (by decide)
          have k438 : τ419 lc_162 = 24 := le420.k k281 (by decide)
          have k439 : τ419 lh_163 = 25 := le420.k k282 (by decide)
          have k440 : τ419 ld_164 = 26 := le420.k k283 (by decide)
          have k441 : τ419 ds_197 = 34 := le420.k k284 (by decide)
          have k442 : τ419 fr_198 = 34 := le420.k k285 (by decide)
          have k443 : τ419 ca_199 = 31 := le420.k k286 (by decide)
          have k444 : τ419 us_200 = 31 := le420.k k287 (by decide)
          have k445 : τ419 wo_201 = 31 := le420.k k288 (by decide)
          have k446 : τ419 cm_202 = 31 := le420.k k289 (by decide)
          have k447 : τ419 lc_203 = 24 := le420.k k290 (by decide)
          have k448 : τ419 lh_204 = 25 := le420.k k291 (by decide)
          have k449 : τ419 ld_205 = 26 := le420.k k292 (by decide)
          have k450 : τ419 p256 = 31 := le420.k k259 (by decide)
          have k451 : τ419 ds_320 = 34 := le420.k k329 (by decide)
          have k452 : τ419 fr_321 = 34 := le420.k k330 (by decide)
          have k453 : τ419 ca_322 = 31 := le420.k k331 (by decide)
          have k454 : τ419 us_323 = 31 := le420.k k332 (by decide)
          have k455 : τ419 wo_324 = 31 := le420.k k333 (by decide)
          have k456 : τ419 cm_325 = 31 := le420.k k334 (by decide)
          have k457 : τ419 lc_326 = 24 := le420.k k335 (by decide)
          have k458 : τ419 lh_327 = 25 := le420.k k336 (by decide)
          have k459 : τ419 ld_328 = 26 := le420.k k337 (by decide)
          have k460 : τ419 ds_358 = 34 := le420.k k367 (by decide)
          have k461 : τ419 fr_359 = 34 := le420.k k368 (by decide)
          have k462 : τ419 ca_360 = 31 := le420.k k369 (by decide)
          have k463 : τ419 us_361 = 31 := le420.k k370 (by decide)
          have k464 : τ419 wo_362 = 31 := le420.k k371 (by decide)
          have k465 : τ419 cm_363 = 31 := le420.k k372 (by decide)
          have k466 : τ419 lc_364 = 24 := le420.k k373 (by decide)
          have k467 : τ419 lh_365 = 25 := le420.k k374 (by decide)
          have k468 : τ419 ld_366 = 26 := le420.k k375 (by decide)
          have k469 : τ419 ds_396 = 34 := le420.k k405 (by decide)
          have k470 : τ419 fr_397 = 34 := le420.k k406 (by decide)
          have k471 : τ419 ca_398 = 31 := le420.k k407 (by decide)
          have k472 : τ419 us_399 = 31 := le420.k k408 (by decide)
          have k473 : τ419 wo_400 = 31 := le420.k k409 (by decide)
          have k474 : τ419 cm_401 = 31 := le420.k k410 (by decide)
          have k475 : τ419 lc_402 = 24 := le420.k k411 (by decide)
          have k476 : τ419 lh_403 = 25 := le420.k k412 (by decide)
          have k477 : τ419 ld_404 = 26 := le420.k k413 (by decide)
          have sp478 : tw_sp d τ h g τ419 h387 := by rw [eτ419]; exact sp390.ty n246 z258 f391 (by rw [← eτ419]; exact ⟨(nI j31), (-1), (-1), p256, rfl, k450, (Or.inr ⟨_, (by omega), rfl⟩), (Or.inl rfl)⟩)
          have k479 : τ419 q243 = 23 := by rw [eτ419]; exact tw_ku_s
          obtain ⟨e480, f481, ⟨el482, rfl, k483⟩, k484⟩ := sp478.1 lh_403 25 k476 (by decide)
          have hb9 : g.2 4 + 1 ≤ 6 := (tw_n4 c228 k415 (by decide))
          rcases k483 with k483p | k483p
          · obtain ⟨pa, pn, pf⟩ := k483p
            subst pa
            have f9 : h387 lh_403 = some (.inr (3, [.int (g.1 4), .ref (d.2 102), .int (nI 0)])) := by have z := f481; rw [pn] at z; exact z
            refine tw_bi (tw_callV (M := mX10_house) (pc := 134) okJx4a65c_add_9ea2d dX10_house_134 w_1238 rfl f481 [.ref q243] [] rfl rfl ⟨by decide, by decide⟩ (Nat.le_of_ble_eq_true rfl) (c_add_new d h387 lh_403 (g.1 4) f9 q243 13 _ _ rfl (ng_13) f391 (by decide)) 7 44 (Nat.le_of_ble_eq_true rfl) (Nat.le_of_ble_eq_true rfl)) (fun r9 h485 q9 => ?_) (fun E h1 q => q.elim)
            obtain ⟨r8, hr8, q1, q2, q3⟩ := q9
            have th486 : tw_th (h485 x) = 0 := by rw [q3 x (tw_nz k421 k476 (by decide)) (tw_thF sp478.1 k421 hr8)]; exact th388
            have oq487 : h485 o = h o := by rw [q3 o (tw_nk k422 k476 (by decide)) (tw_kF sp478.1 k422 (by decide) hr8)] <;> exact oq389
            obtain ⟨g9, τ9, ⟨hga, hg1⟩, sp9⟩ := tw_gadd25 (F := fun _ => none) sp478.1 k476 k479 hb9 (fun j hj => by rw [pn] at hj; exact absurd hj (Nat.not_lt_zero _)) (Or.inr ⟨hr8, pf⟩) (by rw [pn]; exact q1) (by rw [pn]; exact q2) q3
            have sp488 := sp478.tr sp9
            have k489 : τ9 x = 36 := sp9.2.1.k k421 (by decide)
            have k490 : τ9 o = 12 := sp9.2.1.k k422 (by decide)
            have k491 : τ9 ds_5 = 34 := sp9.2.1.k k423 (by decide)
            have k492 : τ9 fr_6 = 34 := sp9.2.1.k k424 (by decide)
            have k493 : τ9 ca_7 = 31 := sp9.2.1.k k425 (by decide)
            have k494 : τ9 us_8 = 31 := sp9.2.1.k k426 (by decide)
            have k495 : τ9 wo_9 = 31 := sp9.2.1.k k427 (by decide)
            have k496 : τ9 cm_10 = 31 := sp9.2.1.k k428 (by decide)
            have k497 : τ9 lc_11 = 24 := sp9.2.1.k k429 (by decide)
            have k498 : τ9 lh_12 = 25 := sp9.2.1.k k430 (by decide)
            have k499 : τ9 ld_13 = 26 := sp9.2.1.k k431 (by decide)
            have k500 : τ9 ds_156 = 34 := sp9.2.1.k k432 (by decide)
            have k501 : τ9 fr_157 = 34 := sp9.2.1.k k433 (by decide)
            have k502 : τ9 ca_158 = 31 := sp9.2.1.k k434 (by decide)
            have k503 : τ9 us_159 = 31 := sp9.2.1.k k435 (by decide)
            have k504 : τ9 wo_160 = 31 := sp9.2.1.k k436 (by decide)
            have k505 : τ9 cm_161 = 31 := sp9.2.1.k k437 (by decide)
            have k506 : τ9 lc_162 = 24 := sp9.2.1.k k438 (by decide)
            have k507 : τ9 lh_163 = 25 := sp9.2.1.k k439 (by decide)
            have k508 : τ9 ld_164 = 26 := sp9.2.1.k k440 (by decide)
            have k509 : τ9 ds_197 = 34 := sp9.2.1.k k441 (by decide)
            have k510 : τ9 fr_198 = 34 := sp9.2.1.k k442 (by decide)
            have k511 : τ9 ca_199 = 31 := sp9.2.1.k k443 (by decide)
            have k512 : τ9 us_200 = 31 := sp9.2.1.k k444 (by decide)
            have k513 : τ9 wo_201 = 31 := sp9.2.1.k k445 (by decide)
            have k514 : τ9 cm_202 = 31 := sp9.2.1.k k446 (by decide)
            have k515 : τ9 lc_203 = 24 := sp9.2.1.k k447 (by decide)
            have k516 : τ9 lh_204 = 25 := sp9.2.1.k k448 (by decide)
            have k517 : τ9 ld_205 = 26 := sp9.2.1.k k449 (by decide)
            have k518 : τ9 p256 = 31 := sp9.2.1.k k450 (by decide)
            have k519 : τ9 ds_320 = 34 := sp9.2.1.k k451 (by decide)
            have k520 : τ9 fr_321 = 34 := sp9.2.1.k k452 (by decide)
            have k521 : τ9 ca_322 = 31 := sp9.2.1.k k453 (by decide)
            have k522 : τ9 us_323 = 31 := sp9.2.1.k k454 (by decide)
            have k523 : τ9 wo_324 = 31 := sp9.2.1.k k455 (by decide)
            have k524 : τ9 cm_325 = 31 := sp9.2.1.k k456 (by decide)
            have k525 : τ9 lc_326 = 24 := sp9.2.1.k k457 (by decide)
            have k526 : τ9 lh_327 = 25 := sp9.2.1.k k458 (by decide)
            have k527 : τ9 ld_328 = 26 := sp9.2.1.k k459 (by decide)
            have k528 : τ9 ds_358 = 34 := sp9.2.1.k k460 (by decide)
            have k529 : τ9 fr_359 = 34 := sp9.2.1.k k461 (by decide)
            have k530 : τ9 ca_360 = 31 := sp9.2.1.k k462 (by decide)
            have k531 : τ9 us_361 = 31 := sp9.2.1.k k463 (by decide)
            have k532 : τ9 wo_362 = 31 := sp9.2.1.k k464 (by decide)
            have k533 : τ9 cm_363 = 31 := sp9.2.1.k k465 (by decide)
            have k534 : τ9 lc_364 = 24 := sp9.2.1.k k466 (by decide)
            have k535 : τ9 lh_365 = 25 := sp9.2.1.k k467 (by decide)
            have k536 : τ9 ld_366 = 26 := sp9.2.1.k k468 (by decide)
            have k537 : τ9 ds_396 = 34 := sp9.2.1.k k469 (by decide)
            have k538 : τ9 fr_397 = 34 := sp9.2.1.k k470 (by decide)
            have k539 : τ9 ca_398 = 31 := sp9.2.1.k k471 (by decide)
            have k540 : τ9 us_399 = 31 := sp9.2.1.k k472 (by decide)
            have k541 : τ9 wo_400 = 31 := sp9.2.1.k k473 (by decide)
            have k542 : τ9 cm_401 = 31 := sp9.2.1.k k474 (by decide)
            have k543 : τ9 lc_402 = 24 := sp9.2.1.k k475 (by decide)
            have k544 : τ9 lh_403 = 25 := sp9.2.1.k k476 (by decide)
            have k545 : τ9 ld_404 = 26 := sp9.2.1.k k477 (by decide)
            have k546 : τ9 q243 = 23 := sp9.2.1.k k479 (by decide)
            refine tw_pop dX10_house_137 rfl ?_
            refine tw_aload_n 1 dX10_house_138 rfl rfl ?_
            obtain ⟨e547, f548, th_549, td_550, ds_551, fr_552, ca_553, us_554, wo_555, cm_556, lc_557, lh_558, ld_559, rfl, k560, k561, k562, k563, k564, k565, k566, k567, k568, k569, k570, k571, k572, k573⟩ := sp488.1 x 36 k489 (by decide)
            refine tw_get (v := .ref lh_558) rfl in_14 10 dX10_house_139 w_1161 rfl (by decide) f548 rfl ?_
            obtain ⟨e574, f575, ⟨el576, rfl, k577⟩, k578⟩ := sp488.1 lh_558 25 k567 (by decide)
            refine tw_bi (tw_callV (M := mX10_house) (pc := 142) okJx4a65c_size_8abf5 dX10_house_142 w_1208 rfl f575 [] [] rfl rfl ⟨by decide, by decide⟩ (Nat.le_of_ble_eq_true rfl) (c25_size d g9 τ9 h485 sp488.1 lh_558 k567) 7 44 (Nat.le_of_ble_eq_true rfl) (Nat.le_of_ble_eq_true rfl)) (fun r581 h580 q579 => ?_) (fun E h1 q => q.elim)
            obtain ⟨q579e, q579r⟩ := q579
            rw [q579e, q579r]
            refine tw_iconst (v := 1) dX10_house_145 (by decide) ?_
            refine tw_isub dX10_house_146 ?_
            refine tw_nmi (fun v582 ev582 => ?_)
            exact tw_iret dX10_house_147 rfl (Or.inl ⟨_, rfl, _, _, sp488, oq487, Or.inr (Or.inr (Or.inr (⟨ix0, ⟨⟨q60a, q60b⟩, ⟨q106a, q106b⟩⟩, by omega, by rw [ev582, hg1.1]; exact nI_pred _, th486, hga, hg1⟩)))⟩)
          · obtain ⟨e9, fa9, ⟨F9, rfl, hc9, h49⟩, un9⟩ := sp478.1 el482 28 k483p (by decide)
            refine tw_bi (tw_callV (M := mX10_house) (pc := 134) okJx4a65c_add_9ea2d dX10_house_134 w_1238 rfl f481 [.ref q243] [] rfl rfl ⟨by decide, by decide⟩ (Nat.le_of_ble_eq_true rfl) (c_add_old d h387 lh_403 el482 (g.2 4) F9 (g.1 4) (by omega) f481 fa9 q243 13 _ _ rfl (ng_13) f391 (by decide)) 7 44 (Nat.le_of_ble_eq_true rfl) (Nat.le_of_ble_eq_true rfl)) (fun r9 h583 q9 => ?_) (fun E h1 q => q.elim)
            obtain ⟨q1, q2, q3⟩ := q9
            have th584 : tw_th (h583 x) = 0 := by rw [q3 x (tw_nz k421 k476 (by decide)) (tw_nz k421 k483p (by decide))]; exact th388
            have oq585 : h583 o = h o := by rw [q3 o (tw_nk k422 k476 (by decide)) (tw_nk k422 k483p (by decide))] <;> exact oq389
            obtain ⟨g9, τ9, ⟨hga, hg1⟩, sp9⟩ := tw_gadd25 sp478.1 k476 k479 hb9 h49 (Or.inl k483p) q1 q2 q3
            have sp586 := sp478.tr sp9
            have k587 : τ9 x = 36 := sp9.2.1.k k421 (by decide)
            have k588 : τ9 o = 12 := sp9.2.1.k k422 (by decide)
            have k589 : τ9 ds_5 = 34 := sp9.2.1.k k423 (by decide)
            have k590 : τ9 fr_6 = 34 := sp9.2.1.k k424 (by decide)
            have k591 : τ9 ca_7 = 31 := sp9.2.1.k k425 (by decide)
            have k592 : τ9 us_8 = 31 := sp9.2.1.k k426 (by decide)
            have k593 : τ9 wo_9 = 31 := sp9.2.1.k k427 (by decide)
            have k594 : τ9 cm_10 = 31 := sp9.2.1.k k428 (by decide)
            have k595 : τ9 lc_11 = 24 := sp9.2.1.k k429 (by decide)
            have k596 : τ9 lh_12 = 25 := sp9.2.1.k k430 (by decide)
            have k597 : τ9 ld_13 = 26 := sp9.2.1.k k431 (by decide)
            have k598 : τ9 ds_156 = 34 := sp9.2.1.k k432 (by decide)
            have k599 : τ9 fr_157 = 34 := sp9.2.1.k k433 (by decide)
            have k600 : τ9 ca_158 = 31 := sp9.2.1.k k434 (by decide)
            have k601 : τ9 us_159 = 31 := sp9.2.1.k k435 (by decide)
            have k602 : τ9 wo_160 = 31 := sp9.2.1.k k436 (by decide)
            have k603 : τ9 cm_161 = 31 := sp9.2.1.k k437 (by decide)
            have k604 : τ9 lc_162 = 24 := sp9.2.1.k k438 (by decide)
            have k605 : τ9 lh_163 = 25 := sp9.2.1.k k439 (by decide)
            have k606 : τ9 ld_164 = 26 := sp9.2.1.k k440 (by decide)
            have k607 : τ9 ds_197 = 34 := sp9.2.1.k k441 (by decide)
            have k608 : τ9 fr_198 = 34 := sp9.2.1.k k442 (by decide)
            have k609 : τ9 ca_199 = 31 := sp9.2.1.k k443 (by decide)
            have k610 : τ9 us_200 = 31 := sp9.2.1.k k444 (by decide)
            have k611 : τ9 wo_201 = 31 := sp9.2.1.k k445 (by decide)
            have k612 : τ9 cm_202 = 31 := sp9.2.1.k k446 (by decide)
            have k613 : τ9 lc_203 = 24 := sp9.2.1.k k447 (by decide)
            have k614 : τ9 lh_204 = 25 := sp9.2.1.k k448 (by decide)
            have k615 : τ9 ld_205 = 26 := sp9.2.1.k k449 (by decide)
            have k616 : τ9 p256 = 31 := sp9.2.1.k k450 (by decide)
            have k617 : τ9 ds_320 = 34 := sp9.2.1.k k451 (by decide)
            have k618 : τ9 fr_321 = 34 := sp9.2.1.k k452 (by decide)
            have k619 : τ9 ca_322 = 31 := sp9.2.1.k k453 (by decide)
            have k620 : τ9 us_323 = 31 := sp9.2.1.k k454 (by decide)
            have k621 : τ9 wo_324 = 31 := sp9.2.1.k k455 (by decide)
            have k622 : τ9 cm_325 = 31 := sp9.2.1.k k456 (by decide)
            have k623 : τ9 lc_326 = 24 := sp9.2.1.k k457 (by decide)
            have k624 : τ9 lh_327 = 25 := sp9.2.1.k k458 (by decide)
            have k625 : τ9 ld_328 = 26 := sp9.2.1.k k459 (by decide)
            have k626 : τ9 ds_358 = 34 := sp9.2.1.k k460 (by decide)
            have k627 : τ9 fr_359 = 34 := sp9.2.1.k k461 (by decide)
            have k628 : τ9 ca_360 = 31 := sp9.2.1.k k462 (by decide)
            have k629 : τ9 us_361 = 31 := sp9.2.1.k k463 (by decide)
            have k630 : τ9 wo_362 = 31 := sp9.2.1.k k464 (by decide)
            have k631 : τ9 cm_363 = 31 := sp9.2.1.k k465 (by decide)
            have k632 : τ9 lc_364 = 24 := sp9.2.1.k k466 (by decide)
            have k633 : τ9 lh_365 = 25 := sp9.2.1.k k467 (by decide)
            have k634 : τ9 ld_366 = 26 := sp9.2.1.k k468 (by decide)
            have k635 : τ9 ds_396 = 34 := sp9.2.1.k k469 (by decide)
            have k636 : τ9 fr_397 = 34 := sp9.2.1.k k470 (by decide)
            have k637 : τ9 ca_398 = 31 := sp9.2.1.k k471 (by decide)
            have k638 : τ9 us_399 = 31 := sp9.2.1.k k472 (by decide)
            have k639 : τ9 wo_400 = 31 := sp9.2.1.k k473 (by decide)
            have k640 : τ9 cm_401 = 31 := sp9.2.1.k k474 (by decide)
            have k641 : τ9 lc_402 = 24 := sp9.2.1.k k475 (by decide)
            have k642 : τ9 lh_403 = 25 := sp9.2.1.k k476 (by decide)
            have k643 : τ9 ld_404 = 26 := sp9.2.1.k k477 (by decide)
            have k644 : τ9 q243 = 23 := sp9.2.1.k k479 (by decide)
            refine tw_pop dX10_house_137 rfl ?_
            refine tw_aload_n 1 dX10_house_138 rfl rfl ?_
            obtain ⟨e645, f646, th_647, td_648, ds_649, fr_650, ca_651, us_652, wo_653, cm_654, lc_655, lh_656, ld_657, rfl, k658, k659, k660, k661, k662, k663, k664, k665, k666, k667, k668, k669, k670, k671⟩ := sp586.1 x 36 k587 (by decide)
            refine tw_get (v := .ref lh_656) rfl in_14 10 dX10_house_139 w_1161 rfl (by decide) f646 rfl ?_
            obtain ⟨e672, f673, ⟨el674, rfl, k675⟩, k676⟩ := sp586.1 lh_656 25 k665 (by decide)
            refine tw_bi (tw_callV (M := mX10_house) (pc := 142) okJx4a65c_size_8abf5 dX10_house_142 w_1208 rfl f673 [] [] rfl rfl ⟨by decide, by decide⟩ (Nat.le_of_ble_eq_true rfl) (c25_size d g9 τ9 h583 sp586.1 lh_656 k665) 7 44 (Nat.le_of_ble_eq_true rfl) (Nat.le_of_ble_eq_true rfl)) (fun r679 h678 q677 => ?_) (fun E h1 q => q.elim)
            obtain ⟨q677e, q677r⟩ := q677
            rw [q677e, q677r]
            refine tw_iconst (v := 1) dX10_house_145 (by decide) ?_
            refine tw_isub dX10_house_146 ?_
            refine tw_nmi (fun v680 ev680 => ?_)
            exact tw_iret dX10_house_147 rfl (Or.inl ⟨_, rfl, _, _, sp586, oq585, Or.inr (Or.inr (Or.inr (⟨ix0, ⟨⟨q60a, q60b⟩, ⟨q106a, q106b⟩⟩, by omega, by rw [ev680, hg1.1]; exact nI_pred _, th584, hga, hg1⟩)))⟩)
        · refine tw_iconst (v := 1) dX10_house_59 (by decide) ?_
          refine tw_goto 64 dX10_house_60 (by decide) ?_
          refine tw_iconst (v := 3) dX10_house_64 (by decide) ?_
          refine tw_bi (tw_callV (M := mX10_house) (pc := 65) okX10_refuse dX10_house_65 w_1204 rfl f194 [.int 1, .int 3] [] rfl rfl ⟨by decide, by decide⟩ (Nat.le_of_ble_eq_true rfl) (c_X10_refuse d g τ h180 sp190.1 x kx 1 3 (by decide)) 10 60 (Nat.le_of_ble_eq_true rfl) (Nat.le_of_ble_eq_true rfl)) (fun r683 h682 q681 => ?_) (fun E h1 q => q.elim)
          obtain ⟨e684, he685, hs686, hr687, hc688⟩ := q681
          obtain ⟨rz689, tz690⟩ := (hc688 th189).2 rfl
          have th691 : tw_th (h682 x) = 3 := by rw [he685, tw_up_s]; exact tz690
          have sp692 : tw_sp d τ h g τ h682 := by rw [he685]; exact sp190.set kx (by decide) hs686
          rw [rz689]
          have oq693 : h682 o = h o := by rw [he685, tw_up_n (tw_nk ko kx (by decide))] <;> exact oq191
          refine tw_if_eq 73 dX10_house_68 (by decide) (fun c694 => absurd c694 (by decide)) (fun _ => ?_)
          refine tw_iconst (v := 0) dX10_house_71 (by decide) ?_
          exact tw_iret dX10_house_72 rfl (Or.inl ⟨_, rfl, _, _, sp692, oq693, Or.inr (Or.inr (Or.inl ⟨ix0, ⟨⟨q60a, q60b⟩, ⟨q106a, q106b⟩⟩, fun z => absurd (tw_nIj (a := g.2 4) (b := 6) c228 (by omega) (by decide)) (by omega), th691, rfl⟩))⟩)

set_option maxHeartbeats 4000000 in
set_option maxRecDepth 100000 in
theorem c2_X10_owe (d : tw_D) (g : tw_G) (τ : tw_K) (h : tw_H) (hw : tw_wt d g τ h) (x : Nat) (kx : τ x = 36) (a : Int32) (b : Int32) (v : Int32) (dy : Int32) (o : Nat) (ko : τ o = 12) : tw_Ct d mX10_owe 10 60 [.ref x, .int a, .int b, .int v, .int dy] h (tw_qi (fun r9 h1 => ∃ g1 τ1, tw_sp d τ h g1 τ1 h1 ∧ h1 o = h o ∧ ((¬ (tw_ix (g.2 4) a ∧ tw_ix (g.2 4) b) ∧ tw_th (h1 x) = 1 ∧ g1 = g) ∨ ((tw_ix (g.2 4) a ∧ tw_ix (g.2 4) b) ∧ ¬ tw_RO a b v dy ∧ tw_th (h1 x) = 2 ∧ g1 = g) ∨ ((tw_ix (g.2 4) a ∧ tw_ix (g.2 4) b) ∧ tw_RO a b v dy ∧ ¬ g.2 5 < 10 ∧ tw_th (h1 x) = 3 ∧ g1 = g) ∨ ((tw_ix (g.2 4) a ∧ tw_ix (g.2 4) b) ∧ tw_RO a b v dy ∧ g.2 5 < 10 ∧ r9 = nI (g.2 5) ∧ tw_th (h1 x) = 0 ∧ tw_gk 5 g g1))) tw_nx) := by
  refine tw_of (by decide +kernel) (Nat.le_of_ble_eq_true rfl) ?_
  show tw_W d mX10_owe _ 0 [(0, .ref x), (1, .int a), (2, .int b), (3, .int v), (4, .int dy)] [] h 10 60
  have sp0 := tw_sp.rf hw
  have oq0 : h o = h o := rfl
  refine tw_aload_n 0 dX10_owe_0 rfl rfl ?_
  refine tw_aload_n 0 dX10_owe_1 rfl rfl ?_
  refine tw_iload_n 1 dX10_owe_2 rfl rfl ?_
  obtain ⟨e1, f2, th_3, td_4, ds_5, fr_6, ca_7, us_8, wo_9, cm_10, lc_11, lh_12, ld_13, rfl, k14, k15, k16, k17, k18, k19, k20, k21, k22, k23, k24, k25, k26, k27⟩ := sp0.1 x 36 kx (by decide)
  refine tw_bi (tw_callV (M := mX10_owe) (pc := 3) okX10_isNoHouse dX10_owe_3 w_1362 rfl f2 [.int a] [.ref x] rfl rfl ⟨by decide, by decide⟩ (Nat.le_of_ble_eq_true rfl) (c2_X10_isNoHouse d g τ h sp0.1 x kx a) 10 60 (Nat.le_of_ble_eq_true rfl) (Nat.le_of_ble_eq_true rfl)) (fun r30 h29 q28 => ?_) (fun E h1 q => q.elim)
  obtain ⟨q28e, q28d⟩ := q28
  rw [q28e]
  rcases q28d with ⟨q28r, q28n⟩ | ⟨q28r, q28i⟩
  · rw [q28r]
    refine tw_if_ne 17 dX10_owe_6 (by decide) (fun _ => ?_) (fun c32 => absurd c32 (by decide))
    refine tw_iconst (v := 1) dX10_owe_17 (by decide) ?_
    refine tw_goto 22 dX10_owe_18 (by decide) ?_
    refine tw_iconst (v := 1) dX10_owe_22 (by decide) ?_
    refine tw_bi (tw_callV (M := mX10_owe) (pc := 23) okX10_start dX10_owe_23 w_1200 rfl f2 [.int 1, .int 1] [] rfl rfl ⟨by decide, by decide⟩ (Nat.le_of_ble_eq_true rfl) (c_X10_start d g τ h sp0.1 x kx 1 1 (by decide)) 10 60 (Nat.le_of_ble_eq_true rfl) (Nat.le_of_ble_eq_true rfl)) (fun r35 h34 q33 => ?_) (fun E h1 q => q.elim)
    obtain ⟨e36, he37, hs38, hr39, hc40⟩ := q33
    obtain ⟨rz41, tz42⟩ := hc40.2 rfl
    have th43 : tw_th (h34 x) = 1 := by rw [he37, tw_up_s]; exact tz42
    have sp44 : tw_sp d τ h g τ h34 := by rw [he37]; exact sp0.set kx (by decide) hs38
    rw [rz41]
    have oq45 : h34 o = h o := by rw [he37, tw_up_n (tw_nk ko kx (by decide))] <;> exact oq0
    refine tw_if_ne 95 dX10_owe_26 (by decide) (fun _ => ?_) (fun c46 => absurd c46 (by decide))
    refine tw_iconst (v := 0) dX10_owe_95 (by decide) ?_
    exact tw_iret dX10_owe_96 rfl (Or.inl ⟨_, rfl, _, _, sp44, oq45, Or.inl ⟨fun z => q28n z.1, th43, rfl⟩⟩)
  · rw [q28r]
    have q28x := q28i
    obtain ⟨j31, q28j, q28k⟩ := q28i
    subst q28k
    refine tw_if_ne 17 dX10_owe_6 (by decide) (fun c47 => absurd (by decide) c47) (fun _ => ?_)
    refine tw_aload_n 0 dX10_owe_9 rfl rfl ?_
    refine tw_iload_n 2 dX10_owe_10 rfl rfl ?_
    refine tw_bi (tw_callV (M := mX10_owe) (pc := 11) okX10_isNoHouse dX10_owe_11 w_1362 rfl f2 [.int b] [.ref x] rfl rfl ⟨by decide, by decide⟩ (Nat.le_of_ble_eq_true rfl) (c2_X10_isNoHouse d g τ h sp0.1 x kx b) 10 60 (Nat.le_of_ble_eq_true rfl) (Nat.le_of_ble_eq_true rfl)) (fun r50 h49 q48 => ?_) (fun E h1 q => q.elim)
    obtain ⟨q48e, q48d⟩ := q48
    rw [q48e]
    rcases q48d with ⟨q48r, q48n⟩ | ⟨q48r, q48i⟩
    · rw [q48r]
      refine tw_if_eq 21 dX10_owe_14 (by decide) (fun c52 => absurd c52 (by decide)) (fun _ => ?_)
      refine tw_iconst (v := 1) dX10_owe_17 (by decide) ?_
      refine tw_goto 22 dX10_owe_18 (by decide) ?_
      refine tw_iconst (v := 1) dX10_owe_22 (by decide) ?_
      refine tw_bi (tw_callV (M := mX10_owe) (pc := 23) okX10_start dX10_owe_23 w_1200 rfl f2 [.int 1, .int 1] [] rfl rfl ⟨by decide, by decide⟩ (Nat.le_of_ble_eq_true rfl) (c_X10_start d g τ h sp0.1 x kx 1 1 (by decide)) 10 60 (Nat.le_of_ble_eq_true rfl) (Nat.le_of_ble_eq_true rfl)) (fun r55 h54 q53 => ?_) (fun E h1 q => q.elim)
      obtain ⟨e56, he57, hs58, hr59, hc60⟩ := q53
      obtain ⟨rz61, tz62⟩ := hc60.2 rfl
      have th63 : tw_th (h54 x) = 1 := by rw [he57, tw_up_s]; exact tz62
      have sp64 : tw_sp d τ h g τ h54 := by rw [he57]; exact sp0.set kx (by decide) hs58
      rw [rz61]
      have oq65 : h54 o = h o := by rw [he57, tw_up_n (tw_nk ko kx (by decide))] <;> exact oq0
      refine tw_if_ne 95 dX10_owe_26 (by decide) (fun _ => ?_) (fun c66 => absurd c66 (by decide))
      refine tw_iconst (v := 0) dX10_owe_95 (by decide) ?_
      exact tw_iret dX10_owe_96 rfl (Or.inl ⟨_, rfl, _, _, sp64, oq65, Or.inl ⟨fun z => q48n z.2, th63, rfl⟩⟩)
    · rw [q48r]
      have q48x := q48i
      obtain ⟨j51, q48j, q48k⟩ := q48i
      subst q48k
      have ix0 := And.intro q28x q48x
      refine tw_if_eq 21 dX10_owe_14 (by decide) (fun _ => ?_) (fun c67 => absurd (by decide) c67)
      refine tw_iconst (v := 0) dX10_owe_21 (by decide) ?_
      refine tw_iconst (v := 1) dX10_owe_22 (by decide) ?_
      refine tw_bi (tw_callV (M := mX10_owe) (pc := 23) okX10_start dX10_owe_23 w_1200 rfl f2 [.int 0, .int 1] [] rfl rfl ⟨by decide, by decide⟩ (Nat.le_of_ble_eq_true rfl) (c_X10_start d g τ h sp0.1 x kx 0 1 (by decide)) 10 60 (Nat.le_of_ble_eq_true rfl) (Nat.le_of_ble_eq_true rfl)) (fun r70 h69 q68 => ?_) (fun E h1 q => q.elim)
      obtain ⟨e71, he72, hs73, hr74, hc75⟩ := q68
      obtain ⟨rz76, tz77⟩ := hc75.1 rfl
      have th78 : tw_th (h69 x) = 0 := by rw [he72, tw_up_s]; exact tz77
      have sp79 : tw_sp d τ h g τ h69 := by rw [he72]; exact sp0.set kx (by decide) hs73
      rw [rz76]
      have oq80 : h69 o = h o := by rw [he72, tw_up_n (tw_nk ko kx (by decide))] <;> exact oq0
      refine tw_if_ne 95 dX10_owe_26 (by decide) (fun c81 => absurd (by decide) c81) (fun _ => ?_)
      refine tw_aload_n 0 dX10_owe_29 rfl rfl ?_
      refine tw_iload_n 1 dX10_owe_30 rfl rfl ?_
      refine tw_iload_n 2 dX10_owe_31 rfl rfl ?_
      refine tw_icmp_eq 58 dX10_owe_32 (by decide) (fun c82 => ?_) (fun c82 => ?_)
      · refine tw_iconst (v := 1) dX10_owe_58 (by decide) ?_
        refine tw_goto 63 dX10_owe_59 (by decide) ?_
        refine tw_iconst (v := 2) dX10_owe_63 (by decide) ?_
        obtain ⟨e83, f84, th_85, td_86, ds_87, fr_88, ca_89, us_90, wo_91, cm_92, lc_93, lh_94, ld_95, rfl, k96, k97, k98, k99, k100, k101, k102, k103, k104, k105, k106, k107, k108, k109⟩ := sp79.1 x 36 kx (by decide)
        refine tw_bi (tw_callV (M := mX10_owe) (pc := 64) okX10_refuse dX10_owe_64 w_1204 rfl f84 [.int 1, .int 2] [] rfl rfl ⟨by decide, by decide⟩ (Nat.le_of_ble_eq_true rfl) (c_X10_refuse d g τ h69 sp79.1 x kx 1 2 (by decide)) 10 60 (Nat.le_of_ble_eq_true rfl) (Nat.le_of_ble_eq_true rfl)) (fun r112 h111 q110 => ?_) (fun E h1 q => q.elim)
        obtain ⟨e113, he114, hs115, hr116, hc117⟩ := q110
        obtain ⟨rz118, tz119⟩ := (hc117 th78).2 rfl
        have th120 : tw_th (h111 x) = 2 := by rw [he114, tw_up_s]; exact tz119
        have sp121 : tw_sp d τ h g τ h111 := by rw [he114]; exact sp79.set kx (by decide) hs115
        rw [rz118]
        have oq122 : h111 o = h o := by rw [he114, tw_up_n (tw_nk ko kx (by decide))] <;> exact oq80
        refine tw_if_ne 95 dX10_owe_67 (by decide) (fun _ => ?_) (fun c123 => absurd c123 (by decide))
        refine tw_iconst (v := 0) dX10_owe_95 (by decide) ?_
        exact tw_iret dX10_owe_96 rfl (Or.inl ⟨_, rfl, _, _, sp121, oq122, Or.inr (Or.inl ⟨ix0, fun z => z.1 c82, th120, rfl⟩)⟩)
      · refine tw_iload_n 3 dX10_owe_35 rfl rfl ?_
        refine tw_iconst (v := 1) dX10_owe_36 (by decide) ?_
        refine tw_sipush (v := 9999) dX10_owe_37 (by decide) ?_
        refine tw_bi (tw_callS (M := mX10_owe) (pc := 40) okX10_isIn dX10_owe_40 w_1196 [.int v, .int 1, .int 9999] [.ref x] rfl rfl ⟨by decide, by decide⟩ (Nat.le_of_ble_eq_true rfl) (c_X10_isIn d g τ h69 sp79.1 v 1 9999) 10 60 (Nat.le_of_ble_eq_true rfl) (Nat.le_of_ble_eq_true rfl)) (fun r126 h125 q124 => ?_) (fun E h1 q => q.elim)
        obtain ⟨q124e, q124d⟩ := q124
        rw [q124e]
        rcases q124d with ⟨q124r, q124n⟩ | ⟨q124r, q124a, q124b⟩
        · rw [q124r]
          refine tw_if_eq 58 dX10_owe_43 (by decide) (fun _ => ?_) (fun c127 => absurd (by decide) c127)
          refine tw_iconst (v := 1) dX10_owe_58 (by decide) ?_
          refine tw_goto 63 dX10_owe_59 (by decide) ?_
          refine tw_iconst (v := 2) dX10_owe_63 (by decide) ?_
          obtain ⟨e128, f129, th_130, td_131, ds_132, fr_133, ca_134, us_135, wo_136, cm_137, lc_138, lh_139, ld_140, rfl, k141, k142, k143, k144, k145, k146, k147, k148, k149, k150, k151, k152, k153, k154⟩ := sp79.1 x 36 kx (by decide)
          refine tw_bi (tw_callV (M := mX10_owe) (pc := 64) okX10_refuse dX10_owe_64 w_1204 rfl f129 [.int 1, .int 2] [] rfl rfl ⟨by decide, by decide⟩ (Nat.le_of_ble_eq_true rfl) (c_X10_refuse d g τ h69 sp79.1 x kx 1 2 (by decide)) 10 60 (Nat.le_of_ble_eq_true rfl) (Nat.le_of_ble_eq_true rfl)) (fun r157 h156 q155 => ?_) (fun E h1 q => q.elim)
          obtain ⟨e158, he159, hs160, hr161, hc162⟩ := q155
          obtain ⟨rz163, tz164⟩ := (hc162 th78).2 rfl
          have th165 : tw_th (h156 x) = 2 := by rw [he159, tw_up_s]; exact tz164
          have sp166 : tw_sp d τ h g τ h156 := by rw [he159]; exact sp79.set kx (by decide) hs160
          rw [rz163]
          have oq167 : h156 o = h o := by rw [he159, tw_up_n (tw_nk ko kx (by decide))] <;> exact oq80
          refine tw_if_ne 95 dX10_owe_67 (by decide) (fun _ => ?_) (fun c168 => absurd c168 (by decide))
          refine tw_iconst (v := 0) dX10_owe_95 (by decide) ?_
          exact tw_iret dX10_owe_96 rfl (Or.inl ⟨_, rfl, _, _, sp166, oq167, Or.inr (Or.inl ⟨ix0, fun z => q124n z.2.1, th165, rfl⟩)⟩)
        · rw [q124r]
          refine tw_if_eq 58 dX10_owe_43 (by decide) (fun c169 => absurd c169 (by decide)) (fun _ => ?_)
          refine tw_iload 4 dX10_owe_46 rfl ?_
          refine tw_iconst (v := 0) dX10_owe_48 (by decide) ?_
          refine tw_sipush (v := 1000) dX10_owe_49 (by decide) ?_
          refine tw_bi (tw_callS (M := mX10_owe) (pc := 52) okX10_isIn dX10_owe_52 w_1196 [.int dy, .int 0, .int 1000] [.ref x] rfl rfl ⟨by decide, by decide⟩ (Nat.le_of_ble_eq_true rfl) (c_X10_isIn d g τ h69 sp79.1 dy 0 1000) 10 60 (Nat.le_of_ble_eq_true rfl) (Nat.le_of_ble_eq_true rfl)) (fun r172 h171 q170 => ?_) (fun E h1 q => q.elim)
          obtain ⟨q170e, q170d⟩ := q170
          rw [q170e]
          rcases q170d with ⟨q170r, q170n⟩ | ⟨q170r, q170a, q170b⟩
          · rw [q170r]
            refine tw_if_ne 62 dX10_owe_55 (by decide) (fun c173 => absurd (by decide) c173) (fun _ => ?_)
            refine tw_iconst (v := 1) dX10_owe_58 (by decide) ?_
            refine tw_goto 63 dX10_owe_59 (by decide) ?_
            refine tw_iconst (v := 2) dX10_owe_63 (by decide) ?_
            obtain ⟨e174, f175, th_176, td_177, ds_178, fr_179, ca_180, us_181, wo_182, cm_183, lc_184, lh_185, ld_186, rfl, k187, k188, k189, k190, k191, k192, k193, k194, k195, k196, k197, k198, k199, k200⟩ := sp79.1 x 36 kx (by decide)
            refine tw_bi (tw_callV (M := mX10_owe) (pc := 64) okX10_refuse dX10_owe_64 w_1204 rfl f175 [.int 1, .int 2] [] rfl rfl ⟨by decide, by decide⟩ (Nat.le_of_ble_eq_true rfl) (c_X10_refuse d g τ h69 sp79.1 x kx 1 2 (by decide)) 10 60 (Nat.le_of_ble_eq_true rfl) (Nat.le_of_ble_eq_true rfl)) (fun r203 h202 q201 => ?_) (fun E h1 q => q.elim)
            obtain ⟨e204, he205, hs206, hr207, hc208⟩ := q201
            obtain ⟨rz209, tz210⟩ := (hc208 th78).2 rfl
            have th211 : tw_th (h202 x) = 2 := by rw [he205, tw_up_s]; exact tz210
            have sp212 : tw_sp d τ h g τ h202 := by rw [he205]; exact sp79.set kx (by decide) hs206
            rw [rz209]
            have oq213 : h202 o = h o := by rw [he205, tw_up_n (tw_nk ko kx (by decide))] <;> exact oq80
            refine tw_if_ne 95 dX10_owe_67 (by decide) (fun _ => ?_) (fun c214 => absurd c214 (by decide))
            refine tw_iconst (v := 0) dX10_owe_95 (by decide) ?_
            exact tw_iret dX10_owe_96 rfl (Or.inl ⟨_, rfl, _, _, sp212, oq213, Or.inr (Or.inl ⟨ix0, fun z => q170n z.2.2, th211, rfl⟩)⟩)
          · rw [q170r]
            refine tw_if_ne 62 dX10_owe_55 (by decide) (fun _ => ?_) (fun c215 => absurd c215 (by decide))
            refine tw_iconst (v := 0) dX10_owe_62 (by decide) ?_
            refine tw_iconst (v := 2) dX10_owe_63 (by decide) ?_
            obtain ⟨e216, f217, th_218, td_219, ds_220, fr_221, ca_222, us_223, wo_224, cm_225, lc_226, lh_227, ld_228, rfl, k229, k230, k231, k232, k233, k234, k235, k236, k237, k238, k239, k240, k241, k242⟩ := sp79.1 x 36 kx (by decide)
            refine tw_bi (tw_callV (M := mX10_owe) (pc := 64) okX10_refuse dX10_owe_64 w_1204 rfl f217 [.int 0, .int 2] [] rfl rfl ⟨by decide, by decide⟩ (Nat.le_of_ble_eq_true rfl) (c_X10_refuse d g τ h69 sp79.1 x kx 0 2 (by decide)) 10 60 (Nat.le_of_ble_eq_true rfl) (Nat.le_of_ble_eq_true rfl)) (fun r245 h244 q243 => ?_) (fun E h1 q => q.elim)
            obtain ⟨e246, he247, hs248, hr249, hc250⟩ := q243
            obtain ⟨rz251, tz252⟩ := (hc250 th78).1 rfl
            have th253 : tw_th (h244 x) = 0 := by rw [he247, tw_up_s]; exact tz252
            have sp254 : tw_sp d τ h g τ h244 := by rw [he247]; exact sp79.set kx (by decide) hs248
            rw [rz251]
            have oq255 : h244 o = h o := by rw [he247, tw_up_n (tw_nk ko kx (by decide))] <;> exact oq80
            refine tw_if_ne 95 dX10_owe_67 (by decide) (fun c256 => absurd (by decide) c256) (fun _ => ?_)
            refine tw_aload_n 0 dX10_owe_70 rfl rfl ?_
            refine tw_aload_n 0 dX10_owe_71 rfl rfl ?_
            obtain ⟨e257, f258, th_259, td_260, ds_261, fr_262, ca_263, us_264, wo_265, cm_266, lc_267, lh_268, ld_269, rfl, k270, k271, k272, k273, k274, k275, k276, k277, k278, k279, k280, k281, k282, k283⟩ := sp254.1 x 36 kx (by decide)
            refine tw_get (v := .ref ld_269) rfl in_14 11 dX10_owe_72 w_1162 rfl (by decide) f258 rfl ?_
            obtain ⟨e284, f285, ⟨el286, rfl, k287⟩, k288⟩ := sp254.1 ld_269 26 k278 (by decide)
            refine tw_bi (tw_callV (M := mX10_owe) (pc := 75) okJx4a65c_size_8abf5 dX10_owe_75 w_1208 rfl f285 [] [.ref x] rfl rfl ⟨by decide, by decide⟩ (Nat.le_of_ble_eq_true rfl) (c26_size d g τ h244 sp254.1 ld_269 k278) 10 60 (Nat.le_of_ble_eq_true rfl) (Nat.le_of_ble_eq_true rfl)) (fun r291 h290 q289 => ?_) (fun E h1 q => q.elim)
            obtain ⟨q289e, q289r⟩ := q289
            rw [q289e, q289r]
            refine tw_bipush (v := 10) dX10_owe_78 (by decide) ?_
            refine tw_icmp_ne 87 dX10_owe_80 (by decide) (fun c292 => ?_) (fun c292 => ?_)
            · refine tw_iconst (v := 0) dX10_owe_87 (by decide) ?_
              refine tw_iconst (v := 3) dX10_owe_88 (by decide) ?_
              refine tw_bi (tw_callV (M := mX10_owe) (pc := 89) okX10_refuse dX10_owe_89 w_1204 rfl f258 [.int 0, .int 3] [] rfl rfl ⟨by decide, by decide⟩ (Nat.le_of_ble_eq_true rfl) (c_X10_refuse d g τ h244 sp254.1 x kx 0 3 (by decide)) 10 60 (Nat.le_of_ble_eq_true rfl) (Nat.le_of_ble_eq_true rfl)) (fun r295 h294 q293 => ?_) (fun E h1 q => q.elim)
              obtain ⟨e296, he297, hs298, hr299, hc300⟩ := q293
              obtain ⟨rz301, tz302⟩ := (hc300 th253).1 rfl
              have th303 : tw_th (h294 x) = 0 := by rw [he297, tw_up_s]; exact tz302
              have sp304 : tw_sp d τ h g τ h294 := by rw [he297]; exact sp254.set kx (by decide) hs298
              rw [rz301]
              have oq305 : h294 o = h o := by rw [he297, tw_up_n (tw_nk ko kx (by decide))] <;> exact oq255
              refine tw_if_eq 97 dX10_owe_92 (by decide) (fun _ => ?_) (fun c306 => absurd (by decide) c306)
              refine tw_new (ci := 12) rfl in_12 tyX8 tyX8_ok dX10_owe_97 w_1437 w_1438 w_103 (fs := [.int 0, .int 0, .int 0, .int 0, .int 0]) (fun j hj => by rcases (show j = 0 ∨ j = 1 ∨ j = 2 ∨ j = 3 ∨ j = 4 by omega) with rfl | rfl | rfl | rfl | rfl <;> rfl) 9 55 (Nat.le_of_ble_eq_true rfl) (Nat.le_of_ble_eq_true rfl) (fun q307 hq308 hA309 => ?_)
              have n310 := sp304.nn hq308
              have z311 := sp304.1.none hq308
              obtain ⟨h312, eh312⟩ : ∃ z : tw_H, z = tw_up h294 q307 (.inr (12, [.int 0, .int 0, .int 0, .int 0, .int 0])) := ⟨_, rfl⟩
              rw [← eh312]
              have th313 : tw_th (h312 x) = 0 := by rw [eh312, tw_up_n (tw_thF sp304.1 kx hq308)]; exact th303
              have oq314 : h312 o = h o := by rw [eh312, tw_up_n (tw_kF sp304.1 ko (by decide) hq308)] <;> exact oq305
              have sp315 : tw_sp d τ h g τ h312 := by rw [eh312]; exact sp304.mk hq308
              have f316 : h312 q307 = some (.inr (12, [.int 0, .int 0, .int 0, .int 0, .int 0])) := by rw [eh312]; exact tw_up_s
              refine tw_dup dX10_owe_100 rfl ?_
              refine tw_bv (tw_callIN (M := mX10_owe) (pc := 101) okX8_init dX10_owe_101 w_1439 rfl [] [.ref q307] rfl rfl ⟨by decide, by decide⟩ (Nat.le_of_ble_eq_true rfl) (c2_X8_init d g τ h312 sp315.1 q307 z311 f316) 9 55 (Nat.le_of_ble_eq_true rfl) (Nat.le_of_ble_eq_true rfl)) (fun h318 q317 => ?_) (fun E h1 q => q.elim)
              obtain ⟨τ319, q317s, f320, z321, fr323⟩ := q317
              have th324 : tw_th (h318 x) = 0 := by rw [fr323 x (tw_nz kx z311 (by decide)) (fun z => by obtain ⟨e, y, -⟩ := sp315.1 x 36 kx (by decide); rw [z] at y; cases y)]; exact th313
              have oq325 : h318 o = h o := by rw [fr323 o (tw_nk ko z311 (by decide)) (tw_some sp315.1 ko (by decide))] <;> exact oq314
              have sp322 := sp315.trm n310 q317s
              have k326 : τ319 x = 36 := q317s.2.1.k kx (by decide)
              have k327 : τ319 o = 12 := q317s.2.1.k ko (by decide)
              have k328 : τ319 ds_5 = 34 := q317s.2.1.k k14 (by decide)
              have k329 : τ319 fr_6 = 34 := q317s.2.1.k k15 (by decide)
              have k330 : τ319 ca_7 = 31 := q317s.2.1.k k16 (by decide)
              have k331 : τ319 us_8 = 31 := q317s.2.1.k k17 (by decide)
              have k332 : τ319 wo_9 = 31 := q317s.2.1.k k18 (by decide)
              have k333 : τ319 cm_10 = 31 := q317s.2.1.k k19 (by decide)
              have k334 : τ319 lc_11 = 24 := q317s.2.1.k k20 (by decide)
              have k335 : τ319 lh_12 = 25 := q317s.2.1.k k21 (by decide)
              have k336 : τ319 ld_13 = 26 := q317s.2.1.k k22 (by decide)
              have k337 : τ319 ds_220 = 34 := q317s.2.1.k k229 (by decide)
              have k338 : τ319 fr_221 = 34 := q317s.2.1.k k230 (by decide)
              have k339 : τ319 ca_222 = 31 := q317s.2.1.k k231 (by decide)
              have k340 : τ319 us_223 = 31 := q317s.2.1.k k232 (by decide)
              have k341 : τ319 wo_224 = 31 := q317s.2.1.k k233 (by decide)
              have k342 : τ319 cm_225 = 31 := q317s.2.1.k k234 (by decide)
              have k343 : τ319 lc_226 = 24 := q317s.2.1.k k235 (by decide)
              have k344 : τ319 lh_227 = 25 := q317s.2.1.k k236 (by decide)
              have k345 : τ319 ld_228 = 26 := q317s.2.1.k k237 (by decide)
              have k346 : τ319 ds_261 = 34 := q317s.2.1.k k270 (by decide)
              have k347 : τ319 fr_262 = 34 := q317s.2.1.k k271 (by decide)
              have k348 : τ319 ca_263 = 31 := q317s.2.1.k k272 (by decide)
              have k349 : τ319 us_264 = 31 := q317s.2.1.k k273 (by decide)
              have k350 : τ319 wo_265 = 31 := q317s.2.1.k k274 (by decide)
              have k351 : τ319 cm_266 = 31 := q317s.2.1.k k275 (by decide)
              have k352 : τ319 lc_267 = 24 := q317s.2.1.k k276 (by decide)
              have k353 : τ319 lh_268 = 25 := q317s.2.1.k k277 (by decide)
              have k354 : τ319 ld_269 = 26 := q317s.2.1.k k278 (by decide)
              refine tw_astore [(5, .ref q307), (0, .ref x), (1, .int (nI j31)), (2, .int (nI j51)), (3, .int v), (4, .int dy)] dX10_owe_104 (by decide) rfl ?_
              refine tw_aload 0 dX10_owe_106 rfl ?_
              refine tw_iload_n 2 dX10_owe_108 rfl rfl ?_
              refine tw_put rfl in_12 tyX8 tyX8_ok nmX8 0 dX10_owe_109 w_1443 rfl (by decide) f320 rfl rfl rfl rfl (Nat.le_of_ble_eq_true rfl) [.int (nI j31), .int 0, .int 0, .int 0, .int 0] rfl ?_
              obtain ⟨h355, eh355⟩ : ∃ z : tw_H, z = tw_up h318 q307 (.inr (12, [.int (nI j31), .int 0, .int 0, .int 0, .int 0])) := ⟨_, rfl⟩
              rw [← eh355]
              have th356 : tw_th (h355 x) = 0 := by rw [eh355, tw_up_n (tw_nz k326 z321 (by decide))]; exact th324
              have oq357 : h355 o = h o := by rw [eh355, tw_up_n (tw_nk k327 z321 (by decide))] <;> exact oq325
              have sp358 : tw_sp d τ h g τ319 h355 := by rw [eh355]; exact sp322.wl n310 z321
              have f359 : h355 q307 = some (.inr (12, [.int (nI j31), .int 0, .int 0, .int 0, .int 0])) := by rw [eh355]; exact tw_up_s
              refine tw_aload 0 dX10_owe_112 rfl ?_
              refine tw_iload_n 3 dX10_owe_114 rfl rfl ?_
              refine tw_put rfl in_12 tyX8 tyX8_ok nmX8 1 dX10_owe_115 w_1444 rfl (by decide) f359 rfl rfl rfl rfl (Nat.le_of_ble_eq_true rfl) [.int (nI j31), .int (nI j51), .int 0, .int 0, .int 0] rfl ?_
              obtain ⟨h360, eh360⟩ : ∃ z : tw_H, z = tw_up h355 q307 (.inr (12, [.int (nI j31), .int (nI j51), .int 0, .int 0, .int 0])) := ⟨_, rfl⟩
              rw [← eh360]
              have th361 : tw_th (h360 x) = 0 := by rw [eh360, tw_up_n (tw_nz k326 z321 (by decide))]; exact th356
              have oq362 : h360 o = h o := by rw [eh360, tw_up_n (tw_nk k327 z321 (by decide))] <;> exact oq357
              have sp363 : tw_sp d τ h g τ319 h360 := by rw [eh360]; exact sp358.wl n310 z321
              have f364 : h360 q307 = some (.inr (12, [.int (nI j31), .int (nI j51), .int 0, .int 0, .int 0])) := by rw [eh360]; exact tw_up_s
              refine tw_aload 0 dX10_owe_118 rfl ?_
              refine tw_iload_n 4 dX10_owe_120 rfl rfl ?_
              refine tw_put rfl in_12 tyX8 tyX8_ok nmX8 2 dX10_owe_121 w_1445 rfl (by decide) f364 rfl rfl rfl rfl (Nat.le_of_ble_eq_true rfl) [.int (nI j31), .int (nI j51), .int v, .int 0, .int 0] rfl ?_
              obtain ⟨h365, eh365⟩ : ∃ z : tw_H, z = tw_up h360 q307 (.inr (12, [.int (nI j31), .int (nI j51), .int v, .int 0, .int 0])) := ⟨_, rfl⟩
              rw [← eh365]
              have th366 : tw_th (h365 x) = 0 := by rw [eh365, tw_up_n (tw_nz k326 z321 (by decide))]; exact th361
              have oq367 : h365 o = h o := by rw [eh365, tw_up_n (tw_nk k327 z321 (by decide))] <;> exact oq362
              have sp368 : tw_sp d τ h g τ319 h365 := by rw [eh365]; exact sp363.wl n310 z321
              have f369 : h365 q307 = some (.inr (12, [.int (nI j31), .int (nI j51), .int v, .int 0, .int 0])) := by rw [eh365]; exact tw_up_s
              refine tw_aload 0 dX10_owe_124 rfl ?_
              refine tw_aload_n 1 dX10_owe_126 rfl rfl ?_
              obtain ⟨e370, f371, th_372, td_373, ds_374, fr_375, ca_376, us_377, wo_378, cm_379, lc_380, lh_381, ld_382, rfl, k383, k384, k385, k386, k387, k388, k389, k390, k391, k392, k393, k394, k395, k396⟩ := sp368.1 x 36 k326 (by decide)
              refine tw_get (v := .int td_373) rfl in_14 1 dX10_owe_127 w_1152 rfl (by decide) f371 rfl ?_
              refine tw_iload 5 dX10_owe_130 rfl ?_
              refine tw_iadd dX10_owe_132 ?_
              refine tw_nmi (fun v397 ev397 => ?_)
              refine tw_put rfl in_12 tyX8 tyX8_ok nmX8 3 dX10_owe_133 w_1446 rfl (by decide) f369 rfl rfl rfl rfl (Nat.le_of_ble_eq_true rfl) [.int (nI j31), .int (nI j51), .int v, .int v397, .int 0] rfl ?_
              obtain ⟨h398, eh398⟩ : ∃ z : tw_H, z = tw_up h365 q307 (.inr (12, [.int (nI j31), .int (nI j51), .int v, .int v397, .int 0])) := ⟨_, rfl⟩
              rw [← eh398]
              have th399 : tw_th (h398 x) = 0 := by rw [eh398, tw_up_n (tw_nz k326 z321 (by decide))]; exact th366
              have oq400 : h398 o = h o := by rw [eh398, tw_up_n (tw_nk k327 z321 (by decide))] <;> exact oq367
              have sp401 : tw_sp d τ h g τ319 h398 := by rw [eh398]; exact sp368.wl n310 z321
              have f402 : h398 q307 = some (.inr (12, [.int (nI j31), .int (nI j51), .int v, .int v397, .int 0])) := by rw [eh398]; exact tw_up_s
              refine tw_aload_n 1 dX10_owe_136 rfl rfl ?_
              obtain ⟨e403, f404, th_405, td_406, ds_407, fr_408, ca_409, us_410, wo_411, cm_412, lc_413, lh_414, ld_415, rfl, k416, k417, k418, k419, k420, k421, k422, k423, k424, k425, k426, k427, k428, k429⟩ := sp401.1 x 36 k326 (by decide)
              refine tw_get (v := .ref ld_415) rfl in_14 11 dX10_owe_137 w_1162 rfl (by decide) f404 rfl ?_
              refine tw_aload 0 dX10_owe_140 rfl ?_
              obtain ⟨τ430, eτ430⟩ : ∃ z : tw_K, z = tw_ku τ319 q307 22 := ⟨_, rfl⟩
              have le431 : tw_le τ319 τ430 := by rw [eτ430]; exact tw_ku_le z321
              have k432 : τ430 x = 36 := le431.k k326 (by decide)
              have k433 : τ430 o = 12 := le431.k k327 (by decide)
              have k434 : τ430 ds_5 = 34 := le431.k k328 (by decide)
              have k435 : τ430 fr_6 = 34 := le431.k k329 (by decide)
              have k436 : τ430 ca_7 = 31 := le431.k k330 (by decide)
              have k437 : τ430 us_8 = 31 := le431.k k331 (by decide)
              have k438 : τ430 wo_9 = 31 := le431.k k332 (by decide)
              have k439 : τ430 cm_10 = 31 := le431.k k333 (by decide)
              have k440 : τ430 lc_11 = 24 := le431.k k334 (by decide)
              have k441 : τ430 lh_12 = 25 := le431.k k335 (by decide)
              have k442 : τ430 ld_13 = 26 := le431.k k336 (by decide)
              have k443 : τ430 ds_220 = 34 := le431.k k337 (by decide)
              have k444 : τ430 fr_221 = 34 := le431.k k338 (by decide)
              have k445 : τ430 ca_222 = 31 := le431.k k339 (by decide)
              have k446 : τ430 us_223 = 31 := le431.k k340 (by decide)
              have k447 : τ430 wo_224 = 31 := le431.k k341 (by decide)
              have k448 : τ430 cm_225 = 31 := le431.k k342 (by decide)
              have k449 : τ430 lc_226 = 24 := le431.k k343 (by decide)
              have k450 : τ430 lh_227 = 25 := le431.k k344 (by decide)
              have k451 : τ430 ld_228 = 26 := le431.k k345 (by decide)
              have k452 : τ430 ds_261 = 34 := le431.k k346 (by decide)
              have k453 : τ430 fr_262 = 34 := le431.k k347 (by decide)
              have k454 : τ430 ca_263 = 31 := le431.k k348 (by decide)
              have k455 : τ430 us_264 = 31 := le431.k k349 (by decide)
              have k456 : τ430 wo_265 = 31 := le431.k k350 (by decide)
              have k457 : τ430 cm_266 = 31 := le431.k k351 (by decide)
              have k458 : τ430 lc_267 = 24 := le431.k k352 (by decide)
              have k459 : τ430 lh_268 = 25 := le431.k k353 (by decide)
              have k460 : τ430 ld_269 = 26 := le431.k k354 (by decide)
              have k461 : τ430 ds_374 = 34 := le431.k k383 (by decide)
              have k462 : τ430 fr_375 = 34 := le431.k k384 (by decide)
              have k463 : τ430 ca_376 = 31 := le431.k k385 (by decide)
              have k464 : τ430 us_377 = 31 := le431.k k386 (by decide)
              have k465 : τ430 wo_378 = 31 := le431.k k387 (by decide)
              have k466 : τ430 cm_379 = 31 := le431.k k388 (by decide)
              have k467 : τ430 lc_380 = 24 := le431.k k389 (by decide)
              have k468 : τ430 lh_381 = 25 := le431.k k390 (by decide)
              have k469 : τ430 ld_382 = 26 := le431.k k391 (by decide)
              have k470 : τ430 ds_407 = 34 := le431.k k416 (by decide)
              have k471 : τ430 fr_408 = 34 := le431.k k417 (by decide)
              have k472 : τ430 ca_409 = 31 := le431.k k418 (by decide)
              have k473 : τ430 us_410 = 31 := le431.k k419 (by decide)
              have k474 : τ430 wo_411 = 31 := le431.k k420 (by decide)
              have k475 : τ430 cm_412 = 31 := le431.k k421 (by decide)
              have k476 : τ430 lc_413 = 24 := le431.k k422 (by decide)
              have k477 : τ430 lh_414 = 25 := le431.k k423 (by decide)
              have k478 : τ430 ld_415 = 26 := le431.k k424 (by decide)
              have sp479 : tw_sp d τ h g τ430 h398 := by rw [eτ430]; exact sp401.ty n310 z321 f402 (by rw [← eτ430]; exact ⟨v, v397, 0, j31, j51, rfl, (by omega), (by omega), (by unfold tw_01; decide)⟩)
              have k480 : τ430 q307 = 22 := by rw [eτ430]; exact tw_ku_s
              obtain ⟨e481, f482, ⟨el483, rfl, k484⟩, k485⟩ := sp479.1 ld_415 26 k478 (by decide)
              have hb9 : g.2 5 + 1 ≤ 10 := (tw_n4 c292 k427 (by decide))
              rcases k484 with k484p | k484p
              · obtain ⟨pa, pn, pf⟩ := k484p
                subst pa
                have f9 : h398 ld_415 = some (.inr (3, [.int (g.1 5), .ref (d.2 102), .int (nI 0)])) := by have z := f482; rw [pn] at z; exact z
                refine tw_bi (tw_callV (M := mX10_owe) (pc := 142) okJx4a65c_add_9ea2d dX10_owe_142 w_1238 rfl f482 [.ref q307] [] rfl rfl ⟨by decide, by decide⟩ (Nat.le_of_ble_eq_true rfl) (c_add_new d h398 ld_415 (g.1 5) f9 q307 12 _ _ rfl (ng_12) f402 (by decide)) 8 45 (Nat.le_of_ble_eq_true rfl) (Nat.le_of_ble_eq_true rfl)) (fun r9 h486 q9 => ?_) (fun E h1 q => q.elim)
                obtain ⟨r8, hr8, q1, q2, q3⟩ := q9
                have th487 : tw_th (h486 x) = 0 := by rw [q3 x (tw_nz k432 k478 (by decide)) (tw_thF sp479.1 k432 hr8)]; exact th399
                have oq488 : h486 o = h o := by rw [q3 o (tw_nk k433 k478 (by decide)) (tw_kF sp479.1 k433 (by decide) hr8)] <;> exact oq400
                obtain ⟨g9, τ9, ⟨hga, hg1⟩, sp9⟩ := tw_gadd26 (F := fun _ => none) sp479.1 k478 k480 hb9 (fun j hj => by rw [pn] at hj; exact absurd hj (Nat.not_lt_zero _)) (Or.inr ⟨hr8, pf⟩) (by rw [pn]; exact q1) (by rw [pn]; exact q2) q3
                have sp489 := sp479.tr sp9
                have k490 : τ9 x = 36 := sp9.2.1.k k432 (by decide)
                have k491 : τ9 o = 12 := sp9.2.1.k k433 (by decide)
                have k492 : τ9 ds_5 = 34 := sp9.2.1.k k434 (by decide)
                have k493 : τ9 fr_6 = 34 := sp9.2.1.k k435 (by decide)
                have k494 : τ9 ca_7 = 31 := sp9.2.1.k k436 (by decide)
                have k495 : τ9 us_8 = 31 := sp9.2.1.k k437 (by decide)
                have k496 : τ9 wo_9 = 31 := sp9.2.1.k k438 (by decide)
                have k497 : τ9 cm_10 = 31 := sp9.2.1.k k439 (by decide)
                have k498 : τ9 lc_11 = 24 := sp9.2.1.k k440 (by decide)
                have k499 : τ9 lh_12 = 25 := sp9.2.1.k k441 (by decide)
                have k500 : τ9 ld_13 = 26 := sp9.2.1.k k442 (by decide)
                have k501 : τ9 ds_220 = 34 := sp9.2.1.k k443 (by decide)
                have k502 : τ9 fr_221 = 34 := sp9.2.1.k k444 (by decide)
                have k503 : τ9 ca_222 = 31 := sp9.2.1.k k445 (by decide)
                have k504 : τ9 us_223 = 31 := sp9.2.1.k k446 (by decide)
                have k505 : τ9 wo_224 = 31 := sp9.2.1.k k447 (by decide)
                have k506 : τ9 cm_225 = 31 := sp9.2.1.k k448 (by decide)
                have k507 : τ9 lc_226 = 24 := sp9.2.1.k k449 (by decide)
                have k508 : τ9 lh_227 = 25 := sp9.2.1.k k450 (by decide)
                have k509 : τ9 ld_228 = 26 := sp9.2.1.k k451 (by decide)
                have k510 : τ9 ds_261 = 34 := sp9.2.1.k k452 (by decide)
                have k511 : τ9 fr_262 = 34 := sp9.2.1.k k453 (by decide)
                have k512 : τ9 ca_263 = 31 := sp9.2.1.k k454 (by decide)
                have k513 : τ9 us_264 = 31 := sp9.2.1.k k455 (by decide)
                have k514 : τ9 wo_265 = 31 := sp9.2.1.k k456 (by decide)
                have k515 : τ9 cm_266 = 31 := sp9.2.1.k k457 (by decide)
                have k516 : τ9 lc_267 = 24 := sp9.2.1.k k458 (by decide)
                have k517 : τ9 lh_268 = 25 := sp9.2.1.k k459 (by decide)
                have k518 : τ9 ld_269 = 26 := sp9.2.1.k k460 (by decide)
                have k519 : τ9 ds_374 = 34 := sp9.2.1.k k461 (by decide)
                have k520 : τ9 fr_375 = 34 := sp9.2.1.k k462 (by decide)
                have k521 : τ9 ca_376 = 31 := sp9.2.1.k k463 (by decide)
                have k522 : τ9 us_377 = 31 := sp9.2.1.k k464 (by decide)
                have k523 : τ9 wo_378 = 31 := sp9.2.1.k k465 (by decide)
                have k524 : τ9 cm_379 = 31 := sp9.2.1.k k466 (by decide)
                have k525 : τ9 lc_380 = 24 := sp9.2.1.k k467 (by decide)
                have k526 : τ9 lh_381 = 25 := sp9.2.1.k k468 (by decide)
                have k527 : τ9 ld_382 = 26 := sp9.2.1.k k469 (by decide)
                have k528 : τ9 ds_407 = 34 := sp9.2.1.k k470 (by decide)
                have k529 : τ9 fr_408 = 34 := sp9.2.1.k k471 (by decide)
                have k530 : τ9 ca_409 = 31 := sp9.2.1.k k472 (by decide)
                have k531 : τ9 us_410 = 31 := sp9.2.1.k k473 (by decide)
                have k532 : τ9 wo_411 = 31 := sp9.2.1.k k474 (by decide)
                have k533 : τ9 cm_412 = 31 := sp9.2.1.k k475 (by decide)
                have k534 : τ9 lc_413 = 24 := sp9.2.1.k k476 (by decide)
                have k535 : τ9 lh_414 = 25 := sp9.2.1.k k477 (by decide)
                have k536 : τ9 ld_415 = 26 := sp9.2.1.k k478 (by decide)
                have k537 : τ9 q307 = 22 := sp9.2.1.k k480 (by decide)
                refine tw_pop dX10_owe_145 rfl ?_
                refine tw_aload_n 1 dX10_owe_146 rfl rfl ?_
                obtain ⟨e538, f539, th_540, td_541, ds_542, fr_543, ca_544, us_545, wo_546, cm_547, lc_548, lh_549, ld_550, rfl, k551, k552, k553, k554, k555, k556, k557, k558, k559, k560, k561, k562, k563, k564⟩ := sp489.1 x 36 k490 (by decide)
                refine tw_get (v := .ref ld_550) rfl in_14 11 dX10_owe_147 w_1162 rfl (by decide) f539 rfl ?_
                obtain ⟨e565, f566, ⟨el567, rfl, k568⟩, k569⟩ := sp489.1 ld_550 26 k559 (by decide)
                refine tw_bi (tw_callV (M := mX10_owe) (pc := 150) okJx4a65c_size_8abf5 dX10_owe_150 w_1208 rfl f566 [] [] rfl rfl ⟨by decide, by decide⟩ (Nat.le_of_ble_eq_true rfl) (c26_size d g9 τ9 h486 sp489.1 ld_550 k559) 8 45 (Nat.le_of_ble_eq_true rfl) (Nat.le_of_ble_eq_true rfl)) (fun r572 h571 q570 => ?_) (fun E h1 q => q.elim)
                obtain ⟨q570e, q570r⟩ := q570
                rw [q570e, q570r]
                refine tw_iconst (v := 1) dX10_owe_153 (by decide) ?_
                refine tw_isub dX10_owe_154 ?_
                refine tw_nmi (fun v573 ev573 => ?_)
                exact tw_iret dX10_owe_155 rfl (Or.inl ⟨_, rfl, _, _, sp489, oq488, Or.inr (Or.inr (Or.inr (⟨ix0, ⟨c82, ⟨q124a, q124b⟩, ⟨q170a, q170b⟩⟩, by omega, by rw [ev573, hg1.1]; exact nI_pred _, th487, hga, hg1⟩)))⟩)
              · obtain ⟨e9, fa9, ⟨F9, rfl, hc9, h49⟩, un9⟩ := sp479.1 el483 29 k484p (by decide)
                refine tw_bi (tw_callV (M := mX10_owe) (pc := 142) okJx4a65c_add_9ea2d dX10_owe_142 w_1238 rfl f482 [.ref q307] [] rfl rfl ⟨by decide, by decide⟩ (Nat.le_of_ble_eq_true rfl) (c_add_old d h398 ld_415 el483 (g.2 5) F9 (g.1 5) (by omega) f482 fa9 q307 12 _ _ rfl (ng_12) f402 (by decide)) 8 45 (Nat.le_of_ble_eq_true rfl) (Nat.le_of_ble_eq_true rfl)) (fun r9 h574 q9 => ?_) (fun E h1 q => q.elim)
                obtain ⟨q1, q2, q3⟩ := q9
                have th575 : tw_th (h574 x) = 0 := by rw [q3 x (tw_nz k432 k478 (by decide)) (tw_nz k432 k484p (by decide))]; exact th399
                have oq576 : h574 o = h o := by rw [q3 o (tw_nk k433 k478 (by decide)) (tw_nk k433 k484p (by decide))] <;> exact oq400
                obtain ⟨g9, τ9, ⟨hga, hg1⟩, sp9⟩ := tw_gadd26 sp479.1 k478 k480 hb9 h49 (Or.inl k484p) q1 q2 q3
                have sp577 := sp479.tr sp9
                have k578 : τ9 x = 36 := sp9.2.1.k k432 (by decide)
                have k579 : τ9 o = 12 := sp9.2.1.k k433 (by decide)
                have k580 : τ9 ds_5 = 34 := sp9.2.1.k k434 (by decide)
                have k581 : τ9 fr_6 = 34 := sp9.2.1.k k435 (by decide)
                have k582 : τ9 ca_7 = 31 := sp9.2.1.k k436 (by decide)
                have k583 : τ9 us_8 = 31 := sp9.2.1.k k437 (by decide)
                have k584 : τ9 wo_9 = 31 := sp9.2.1.k k438 (by decide)
                have k585 : τ9 cm_10 = 31 := sp9.2.1.k k439 (by decide)
                have k586 : τ9 lc_11 = 24 := sp9.2.1.k k440 (by decide)
                have k587 : τ9 lh_12 = 25 := sp9.2.1.k k441 (by decide)
                have k588 : τ9 ld_13 = 26 := sp9.2.1.k k442 (by decide)
                have k589 : τ9 ds_220 = 34 := sp9.2.1.k k443 (by decide)
                have k590 : τ9 fr_221 = 34 := sp9.2.1.k k444 (by decide)
                have k591 : τ9 ca_222 = 31 := sp9.2.1.k k445 (by decide)
                have k592 : τ9 us_223 = 31 := sp9.2.1.k k446 (by decide)
                have k593 : τ9 wo_224 = 31 := sp9.2.1.k k447 (by decide)
                have k594 : τ9 cm_225 = 31 := sp9.2.1.k k448 (by decide)
                have k595 : τ9 lc_226 = 24 := sp9.2.1.k k449 (by decide)
                have k596 : τ9 lh_227 = 25 := sp9.2.1.k k450 (by decide)
                have k597 : τ9 ld_228 = 26 := sp9.2.1.k k451 (by decide)
                have k598 : τ9 ds_261 = 34 := sp9.2.1.k k452 (by decide)
                have k599 : τ9 fr_262 = 34 := sp9.2.1.k k453 (by decide)
                have k600 : τ9 ca_263 = 31 := sp9.2.1.k k454 (by decide)
                have k601 : τ9 us_264 = 31 := sp9.2.1.k k455 (by decide)
                have k602 : τ9 wo_265 = 31 := sp9.2.1.k k456 (by decide)
                have k603 : τ9 cm_266 = 31 := sp9.2.1.k k457 (by decide)
                have k604 : τ9 lc_267 = 24 := sp9.2.1.k k458 (by decide)
                have k605 : τ9 lh_268 = 25 := sp9.2.1.k k459 (by decide)
                have k606 : τ9 ld_269 = 26 := sp9.2.1.k k460 (by decide)
                have k607 : τ9 ds_374 = 34 := sp9.2.1.k k461 (by decide)
                have k608 : τ9 fr_375 = 34 := sp9.2.1.k k462 (by decide)
                have k609 : τ9 ca_376 = 31 := sp9.2.1.k k463 (by decide)
                have k610 : τ9 us_377 = 31 := sp9.2.1.k k464 (by decide)
                have k611 : τ9 wo_378 = 31 := sp9.2.1.k k465 (by decide)
                have k612 : τ9 cm_379 = 31 := sp9.2.1.k k466 (by decide)
                have k613 : τ9 lc_380 = 24 := sp9.2.1.k k467 (by decide)
                have k614 : τ9 lh_381 = 25 := sp9.2.1.k k468 (by decide)
                have k615 : τ9 ld_382 = 26 := sp9.2.1.k k469 (by decide)
                have k616 : τ9 ds_407 = 34 := sp9.2.1.k k470 (by decide)
                have k617 : τ9 fr_408 = 34 := sp9.2.1.k k471 (by decide)
                have k618 : τ9 ca_409 = 31 := sp9.2.1.k k472 (by decide)
                have k619 : τ9 us_410 = 31 := sp9.2.1.k k473 (by decide)
                have k620 : τ9 wo_411 = 31 := sp9.2.1.k k474 (by decide)
                have k621 : τ9 cm_412 = 31 := sp9.2.1.k k475 (by decide)
                have k622 : τ9 lc_413 = 24 := sp9.2.1.k k476 (by decide)
                have k623 : τ9 lh_414 = 25 := sp9.2.1.k k477 (by decide)
                have k624 : τ9 ld_415 = 26 := sp9.2.1.k k478 (by decide)
                have k625 : τ9 q307 = 22 := sp9.2.1.k k480 (by decide)
                refine tw_pop dX10_owe_145 rfl ?_
                refine tw_aload_n 1 dX10_owe_146 rfl rfl ?_
                obtain ⟨e626, f627, th_628, td_629, ds_630, fr_631, ca_632, us_633, wo_634, cm_635, lc_636, lh_637, ld_638, rfl, k639, k640, k641, k642, k643, k644, k645, k646, k647, k648, k649, k650, k651, k652⟩ := sp577.1 x 36 k578 (by decide)
                refine tw_get (v := .ref ld_638) rfl in_14 11 dX10_owe_147 w_1162 rfl (by decide) f627 rfl ?_
                obtain ⟨e653, f654, ⟨el655, rfl, k656⟩, k657⟩ := sp577.1 ld_638 26 k647 (by decide)
                refine tw_bi (tw_callV (M := mX10_owe) (pc := 150) okJx4a65c_size_8abf5 dX10_owe_150 w_1208 rfl f654 [] [] rfl rfl ⟨by decide, by decide⟩ (Nat.le_of_ble_eq_true rfl) (c26_size d g9 τ9 h574 sp577.1 ld_638 k647) 8 45 (Nat.le_of_ble_eq_true rfl) (Nat.le_of_ble_eq_true rfl)) (fun r660 h659 q658 => ?_) (fun E h1 q => q.elim)
                obtain ⟨q658e, q658r⟩ := q658
                rw [q658e, q658r]
                refine tw_iconst (v := 1) dX10_owe_153 (by decide) ?_
                refine tw_isub dX10_owe_154 ?_
                refine tw_nmi (fun v661 ev661 => ?_)
                exact tw_iret dX10_owe_155 rfl (Or.inl ⟨_, rfl, _, _, sp577, oq576, Or.inr (Or.inr (Or.inr (⟨ix0, ⟨c82, ⟨q124a, q124b⟩, ⟨q170a, q170b⟩⟩, by omega, by rw [ev661, hg1.1]; exact nI_pred _, th575, hga, hg1⟩)))⟩)
            · refine tw_iconst (v := 1) dX10_owe_83 (by decide) ?_
              refine tw_goto 88 dX10_owe_84 (by decide) ?_
              refine tw_iconst (v := 3) dX10_owe_88 (by decide) ?_
              refine tw_bi (tw_callV (M := mX10_owe) (pc := 89) okX10_refuse dX10_owe_89 w_1204 rfl f258 [.int 1, .int 3] [] rfl rfl ⟨by decide, by decide⟩ (Nat.le_of_ble_eq_true rfl) (c_X10_refuse d g τ h244 sp254.1 x kx 1 3 (by decide)) 10 60 (Nat.le_of_ble_eq_true rfl) (Nat.le_of_ble_eq_true rfl)) (fun r664 h663 q662 => ?_) (fun E h1 q => q.elim)
              obtain ⟨e665, he666, hs667, hr668, hc669⟩ := q662
              obtain ⟨rz670, tz671⟩ := (hc669 th253).2 rfl
              have th672 : tw_th (h663 x) = 3 := by rw [he666, tw_up_s]; exact tz671
              have sp673 : tw_sp d τ h g τ h663 := by rw [he666]; exact sp254.set kx (by decide) hs667
              rw [rz670]
              have oq674 : h663 o = h o := by rw [he666, tw_up_n (tw_nk ko kx (by decide))] <;> exact oq255
              refine tw_if_eq 97 dX10_owe_92 (by decide) (fun c675 => absurd c675 (by decide)) (fun _ => ?_)
              refine tw_iconst (v := 0) dX10_owe_95 (by decide) ?_
              exact tw_iret dX10_owe_96 rfl (Or.inl ⟨_, rfl, _, _, sp673, oq674, Or.inr (Or.inr (Or.inl ⟨ix0, ⟨c82, ⟨q124a, q124b⟩, ⟨q170a, q170b⟩⟩, fun z => absurd (tw_nIj (a := g.2 5) (b := 10) c292 (by omega) (by decide)) (by omega), th672, rfl⟩))⟩)

set_option maxHeartbeats 4000000 in
set_option maxRecDepth 100000 in
theorem c2_X10_init (d : tw_D) (g : tw_G) (τ : tw_K) (h : tw_H) (hw : tw_wt d g τ h) (hno : tw_no τ) (x : Nat) (hz : τ x = 0) (hx : h x = some (.inr (14, [.int 0, .int 0, .int 0, .null, .null, .null, .null, .null, .null, .null, .null, .null]))) : tw_Ct d mX10_init 17 60 [.ref x] h (tw_qv (fun h1 => ∃ (g1 : tw_G) (τ1 : tw_K), (g1.1 0 = g.1 0 ∧ g1.1 1 = 155 ∧ (∀ i, i < 3 → g1.2 i = g.2 i) ∧ (∀ i, 6 ≤ i → i < 9 → g1.2 i = g.2 i) ∧ ∀ i, 3 ≤ i → i < 6 → g1.2 i = 0) ∧ tw_ini d g1 τ h x 36 τ1 h1) tw_nx) := by
  refine tw_of (by decide +kernel) (Nat.le_of_ble_eq_true rfl) ?_
  show tw_W d mX10_init _ 0 [(0, .ref x)] [] h 17 60
  have sp0 := tw_sp.rm hw x
  refine tw_aload_n 0 dX10_init_0 rfl rfl ?_
  refine tw_objInit dX10_init_1 w_1118 w_117 w_118 ⟨by decide, Nat.le_of_ble_eq_true rfl⟩ ?_
  refine tw_aload_n 0 dX10_init_4 rfl rfl ?_
  refine tw_sipush (v := 155) dX10_init_5 (by decide) ?_
  refine tw_put rfl in_14 tyX10 tyX10_ok nmX10 2 dX10_init_8 w_1153 rfl (by decide) hx rfl rfl rfl rfl (Nat.le_of_ble_eq_true rfl) [.int 0, .int 0, .int 155, .null, .null, .null, .null, .null, .null, .null, .null, .null] rfl ?_
  obtain ⟨h1, eh1⟩ : ∃ z : tw_H, z = tw_up h x (.inr (14, [.int 0, .int 0, .int 155, .null, .null, .null, .null, .null, .null, .null, .null, .null])) := ⟨_, rfl⟩
  rw [← eh1]
  have sp2 : tw_sp d τ (tw_rm h x) g τ h1 := by rw [eh1]; exact sp0.wl tw_rm_s hz
  have f3 : h1 x = some (.inr (14, [.int 0, .int 0, .int 155, .null, .null, .null, .null, .null, .null, .null, .null, .null])) := by rw [eh1]; exact tw_up_s
  refine tw_aload_n 0 dX10_init_11 rfl rfl ?_
  refine tw_iconst (v := 4) dX10_init_12 (by decide) ?_
  refine tw_iconst (v := 4) dX10_init_13 (by decide) ?_
  refine tw_mna dX10_init_14 w_1119 w_500 12 40 (Nat.le_of_ble_eq_true rfl) (Nat.le_of_ble_eq_true rfl) (fun q4 r5 h6 hq7 hr8 hi9 hg10 ho11 hw12 => ?_)
  have sp13 := sp2.tr (tw_gw.sp hw12 sp2.1)
  have f14 := hw12 _ _ f3
  have ne15 := tw_neF f3 (hr8 0 (by decide)).1
  have ne16 := tw_neF f3 (hr8 1 (by decide)).1
  have ne17 := tw_neF f3 (hr8 2 (by decide)).1
  have ne18 := tw_neF f3 (hr8 3 (by decide)).1
  have ne19 := tw_neF f3 hq7
  have n20 := sp2.nn (hr8 0 (by decide)).1
  have z21 := sp2.1.none (hr8 0 (by decide)).1
  have f22 : h6 (r5 0) = some (.inl (d.2 0, 4, .inl (fun _ => 0))) := ho11 0 (by decide)
  have n23 := sp2.nn (hr8 1 (by decide)).1
  have z24 := sp2.1.none (hr8 1 (by decide)).1
  have f25 : h6 (r5 1) = some (.inl (d.2 0, 4, .inl (fun _ => 0))) := ho11 1 (by decide)
  have n26 := sp2.nn (hr8 2 (by decide)).1
  have z27 := sp2.1.none (hr8 2 (by decide)).1
  have f28 : h6 (r5 2) = some (.inl (d.2 0, 4, .inl (fun _ => 0))) := ho11 2 (by decide)
  have n29 := sp2.nn (hr8 3 (by decide)).1
  have z30 := sp2.1.none (hr8 3 (by decide)).1
  have f31 : h6 (r5 3) = some (.inl (d.2 0, 4, .inl (fun _ => 0))) := ho11 3 (by decide)
  have n32 := sp2.nn hq7
  have z33 := sp2.1.none hq7
  obtain ⟨τ34, eτ34⟩ : ∃ z : tw_K, z = tw_ku τ (r5 0) 6 := ⟨_, rfl⟩
  have le35 : tw_le τ τ34 := by rw [eτ34]; exact tw_ku_le z21
  have sp36 : tw_sp d τ (tw_rm h x) g τ34 h6 := by rw [eτ34]; exact sp13.ty n20 z21 f22 (by rw [← eτ34]; exact ⟨_, rfl⟩)
  have k37 : τ34 (r5 0) = 6 := by rw [eτ34]; exact tw_ku_s
  have z38 : τ34 x = 0 := by rw [eτ34, tw_ku_n ne15]; exact hz
  have z39 : τ34 (r5 1) = 0 := by rw [eτ34, tw_ku_n (fun z => absurd (hi9 1 0 (by decide) (by decide) z) (by decide))]; exact z24
  have z40 : τ34 (r5 2) = 0 := by rw [eτ34, tw_ku_n (fun z => absurd (hi9 2 0 (by decide) (by decide) z) (by decide))]; exact z27
  have z41 : τ34 (r5 3) = 0 := by rw [eτ34, tw_ku_n (fun z => absurd (hi9 3 0 (by decide) (by decide) z) (by decide))]; exact z30
  have z42 : τ34 q4 = 0 := by rw [eτ34, tw_ku_n (Ne.symm (hr8 0 (by decide)).2)]; exact z33
  have no43 : tw_no τ34 := by rw [eτ34]; exact hno.ku (by decide)
  obtain ⟨τ44, eτ44⟩ : ∃ z : tw_K, z = tw_ku τ34 (r5 1) 6 := ⟨_, rfl⟩
  have le45 : tw_le τ34 τ44 := by rw [eτ44]; exact tw_ku_le z39
  have k46 : τ44 (r5 0) = 6 := le45.k k37 (by decide)
  have sp47 : tw_sp d τ (tw_rm h x) g τ44 h6 := by rw [eτ44]; exact sp36.ty n23 z39 f25 (by rw [← eτ44]; exact ⟨_, rfl⟩)
  have k48 : τ44 (r5 1) = 6 := by rw [eτ44]; exact tw_ku_s
  have z49 : τ44 x = 0 := by rw [eτ44, tw_ku_n ne16]; exact z38
  have z50 : τ44 (r5 2) = 0 := by rw [eτ44, tw_ku_n (fun z => absurd (hi9 2 1 (by decide) (by decide) z) (by decide))]; exact z40
  have z51 : τ44 (r5 3) = 0 := by rw [eτ44, tw_ku_n (fun z => absurd (hi9 3 1 (by decide) (by decide) z) (by decide))]; exact z41
  have z52 : τ44 q4 = 0 := by rw [eτ44, tw_ku_n (Ne.symm (hr8 1 (by decide)).2)]; exact z42
  have no53 : tw_no τ44 := by rw [eτ44]; exact no43.ku (by decide)
  obtain ⟨τ54, eτ54⟩ : ∃ z : tw_K, z = tw_ku τ44 (r5 2) 6 := ⟨_, rfl⟩
  have le55 : tw_le τ44 τ54 := by rw [eτ54]; exact tw_ku_le z50
  have k56 : τ54 (r5 0) = 6 := le55.k k46 (by decide)
  have k57 : τ54 (r5 1) = 6 := le55.k k48 (by decide)
  have sp58 : tw_sp d τ (tw_rm h x) g τ54 h6 := by rw [eτ54]; exact sp47.ty n26 z50 f28 (by rw [← eτ54]; exact ⟨_, rfl⟩)
  have k59 : τ54 (r5 2) = 6 := by rw [eτ54]; exact tw_ku_s
  have z60 : τ54 x = 0 := by rw [eτ54, tw_ku_n ne17]; exact z49
  have z61 : τ54 (r5 3) = 0 := by rw [eτ54, tw_ku_n (fun z => absurd (hi9 3 2 (by decide) (by decide) z) (by decide))]; exact z51
  have z62 : τ54 q4 = 0 := by rw [eτ54, tw_ku_n (Ne.symm (hr8 2 (by decide)).2)]; exact z52
  have no63 : tw_no τ54 := by rw [eτ54]; exact no53.ku (by decide)
  obtain ⟨τ64, eτ64⟩ : ∃ z : tw_K, z = tw_ku τ54 (r5 3) 6 := ⟨_, rfl⟩
  have le65 : tw_le τ54 τ64 := by rw [eτ64]; exact tw_ku_le z61
  have k66 : τ64 (r5 0) = 6 := le65.k k56 (by decide)
  have k67 : τ64 (r5 1) = 6 := le65.k k57 (by decide)
  have k68 : τ64 (r5 2) = 6 := le65.k k59 (by decide)
  have sp69 : tw_sp d τ (tw_rm h x) g τ64 h6 := by rw [eτ64]; exact sp58.ty n29 z61 f31 (by rw [← eτ64]; exact ⟨_, rfl⟩)
  have k70 : τ64 (r5 3) = 6 := by rw [eτ64]; exact tw_ku_s
  have z71 : τ64 x = 0 := by rw [eτ64, tw_ku_n ne18]; exact z60
  have z72 : τ64 q4 = 0 := by rw [eτ64, tw_ku_n (Ne.symm (hr8 3 (by decide)).2)]; exact z62
  have no73 : tw_no τ64 := by rw [eτ64]; exact no63.ku (by decide)
  obtain ⟨τ74, eτ74⟩ : ∃ z : tw_K, z = tw_ku τ64 q4 34 := ⟨_, rfl⟩
  have le75 : tw_le τ64 τ74 := by rw [eτ74]; exact tw_ku_le z72
  have k76 : τ74 (r5 0) = 6 := le75.k k66 (by decide)
  have k77 : τ74 (r5 1) = 6 := le75.k k67 (by decide)
  have k78 : τ74 (r5 2) = 6 := le75.k k68 (by decide)
  have k79 : τ74 (r5 3) = 6 := le75.k k70 (by decide)
  have sp80 : tw_sp d τ (tw_rm h x) g τ74 h6 := by rw [eτ74]; exact sp69.ty n32 z72 hg10 (by rw [← eτ74]; exact ⟨_, rfl, fun j hj => ⟨r5 j, if_pos hj, by rcases (show j = 0 ∨ j = 1 ∨ j = 2 ∨ j = 3 by omega) with z | z | z | z <;> rw [z] <;> first | exact k76 | exact k77 | exact k78 | exact k79⟩⟩)
  have k81 : τ74 q4 = 34 := by rw [eτ74]; exact tw_ku_s
  have z82 : τ74 x = 0 := by rw [eτ74, tw_ku_n ne19]; exact z71
  have no83 : tw_no τ74 := by rw [eτ74]; exact no73.ku (by decide)
  refine tw_putF rfl in_14 tyX10 tyX10_ok nmX10 3 dX10_init_18 w_1154 rfl (by decide) f14 rfl rfl rfl rfl rfl rfl (Nat.le_of_ble_eq_true rfl) [.int 0, .int 0, .int 155, .ref q4, .null, .null, .null, .null, .null, .null, .null, .null] rfl ?_
  obtain ⟨h84, eh84⟩ : ∃ z : tw_H, z = tw_up h6 x (.inr (14, [.int 0, .int 0, .int 155, .ref q4, .null, .null, .null, .null, .null, .null, .null, .null])) := ⟨_, rfl⟩
  rw [← eh84]
  have sp85 : tw_sp d τ (tw_rm h x) g τ74 h84 := by rw [eh84]; exact sp80.wl tw_rm_s z82
  have f86 : h84 x = some (.inr (14, [.int 0, .int 0, .int 155, .ref q4, .null, .null, .null, .null, .null, .null, .null, .null])) := by rw [eh84]; exact tw_up_s
  refine tw_aload_n 0 dX10_init_21 rfl rfl ?_
  refine tw_iconst (v := 4) dX10_init_22 (by decide) ?_
  refine tw_iconst (v := 4) dX10_init_23 (by decide) ?_
  refine tw_mna dX10_init_24 w_1119 w_500 7 20 (Nat.le_of_ble_eq_true rfl) (Nat.le_of_ble_eq_true rfl) (fun q87 r88 h89 hq90 hr91 hi92 hg93 ho94 hw95 => ?_)
  have sp96 := sp85.tr (tw_gw.sp hw95 sp85.1)
  have f97 := hw95 _ _ f86
  have ne98 := tw_neF f86 (hr91 0 (by decide)).1
  have ne99 := tw_neF f86 (hr91 1 (by decide)).1
  have ne100 := tw_neF f86 (hr91 2 (by decide)).1
  have ne101 := tw_neF f86 (hr91 3 (by decide)).1
  have ne102 := tw_neF f86 hq90
  have n103 := sp85.nn (hr91 0 (by decide)).1
  have z104 := sp85.1.none (hr91 0 (by decide)).1
  have f105 : h89 (r88 0) = some (.inl (d.2 0, 4, .inl (fun _ => 0))) := ho94 0 (by decide)
  have n106 := sp85.nn (hr91 1 (by decide)).1
  have z107 := sp85.1.none (hr91 1 (by decide)).1
  have f108 : h89 (r88 1) = some (.inl (d.2 0, 4, .inl (fun _ => 0))) := ho94 1 (by decide)
  have n109 := sp85.nn (hr91 2 (by decide)).1
  have z110 := sp85.1.none (hr91 2 (by decide)).1
  have f111 : h89 (r88 2) = some (.inl (d.2 0, 4, .inl (fun _ => 0))) := ho94 2 (by decide)
  have n112 := sp85.nn (hr91 3 (by decide)).1
  have z113 := sp85.1.none (hr91 3 (by decide)).1
  have f114 : h89 (r88 3) = some (.inl (d.2 0, 4, .inl (fun _ => 0))) := ho94 3 (by decide)
  have n115 := sp85.nn hq90
  have z116 := sp85.1.none hq90
  obtain ⟨τ117, eτ117⟩ : ∃ z : tw_K, z = tw_ku τ74 (r88 0) 6 := ⟨_, rfl⟩
  have le118 : tw_le τ74 τ117 := by rw [eτ117]; exact tw_ku_le z104
  have k119 : τ117 (r5 0) = 6 := le118.k k76 (by decide)
  have k120 : τ117 (r5 1) = 6 := le118.k k77 (by decide)
  have k121 : τ117 (r5 2) = 6 := le118.k k78 (by decide)
  have k122 : τ117 (r5 3) = 6 := le118.k k79 (by decide)
  have k123 : τ117 q4 = 34 := le118.k k81 (by decide)
  have sp124 : tw_sp d τ (tw_rm h x) g τ117 h89 := by rw [eτ117]; exact sp96.ty n103 z104 f105 (by rw [← eτ117]; exact ⟨_, rfl⟩)
  have k125 : τ117 (r88 0) = 6 := by rw [eτ117]; exact tw_ku_s
  have z126 : τ117 x = 0 := by rw [eτ117, tw_ku_n ne98]; exact z82
  have z127 : τ117 (r88 1) = 0 := by rw [eτ117, tw_ku_n (fun z => absurd (hi92 1 0 (by decide) (by decide) z) (by decide))]; exact z107
  have z128 : τ117 (r88 2) = 0 := by rw [eτ117, tw_ku_n (fun z => absurd (hi92 2 0 (by decide) (by decide) z) (by decide))]; exact z110
  have z129 : τ117 (r88 3) = 0 := by rw [eτ117, tw_ku_n (fun z => absurd (hi92 3 0 (by decide) (by decide) z) (by decide))]; exact z113
  have z130 : τ117 q87 = 0 := by rw [eτ117, tw_ku_n (Ne.symm (hr91 0 (by decide)).2)]; exact z116
  have no131 : tw_no τ117 := by rw [eτ117]; exact no83.ku (by decide)
  obtain ⟨τ132, eτ132⟩ : ∃ z : tw_K, z = tw_ku τ117 (r88 1) 6 := ⟨_, rfl⟩
  have le133 : tw_le τ117 τ132 := by rw [eτ132]; exact tw_ku_le z127
  have k134 : τ132 (r5 0) = 6 := le133.k k119 (by decide)
  have k135 : τ132 (r5 1) = 6 := le133.k k120 (by decide)
  have k136 : τ132 (r5 2) = 6 := le133.k k121 (by decide)
  have k137 : τ132 (r5 3) = 6 := le133.k k122 (by decide)
  have k138 : τ132 q4 = 34 := le133.k k123 (by decide)
  have k139 : τ132 (r88 0) = 6 := le133.k k125 (by decide)
  have sp140 : tw_sp d τ (tw_rm h x) g τ132 h89 := by rw [eτ132]; exact sp124.ty n106 z127 f108 (by rw [← eτ132]; exact ⟨_, rfl⟩)
  have k141 : τ132 (r88 1) = 6 := by rw [eτ132]; exact tw_ku_s
  have z142 : τ132 x = 0 := by rw [eτ132, tw_ku_n ne99]; exact z126
  have z143 : τ132 (r88 2) = 0 := by rw [eτ132, tw_ku_n (fun z => absurd (hi92 2 1 (by decide) (by decide) z) (by decide))]; exact z128
  have z144 : τ132 (r88 3) = 0 := by rw [eτ132, tw_ku_n (fun z => absurd (hi92 3 1 (by decide) (by decide) z) (by decide))]; exact z129
  have z145 : τ132 q87 = 0 := by rw [eτ132, tw_ku_n (Ne.symm (hr91 1 (by decide)).2)]; exact z130
  have no146 : tw_no τ132 := by rw [eτ132]; exact no131.ku (by decide)
  obtain ⟨τ147, eτ147⟩ : ∃ z : tw_K, z = tw_ku τ132 (r88 2) 6 := ⟨_, rfl⟩
  have le148 : tw_le τ132 τ147 := by rw [eτ147]; exact tw_ku_le z143
  have k149 : τ147 (r5 0) = 6 := le148.k k134 (by decide)
  have k150 : τ147 (r5 1) = 6 := le148.k k135 (by decide)
  have k151 : τ147 (r5 2) = 6 := le148.k k136 (by decide)
  have k152 : τ147 (r5 3) = 6 := le148.k k137 (by decide)
  have k153 : τ147 q4 = 34 := le148.k k138 (by decide)
  have k154 : τ147 (r88 0) = 6 := le148.k k139 (by decide)
  have k155 : τ147 (r88 1) = 6 := le148.k k141 (by decide)
  have sp156 : tw_sp d τ (tw_rm h x) g τ147 h89 := by rw [eτ147]; exact sp140.ty n109 z143 f111 (by rw [← eτ147]; exact ⟨_, rfl⟩)
  have k157 : τ147 (r88 2) = 6 := by rw [eτ147]; exact tw_ku_s
  have z158 : τ147 x = 0 := by rw [eτ147, tw_ku_n ne100]; exact z142
  have z159 : τ147 (r88 3) = 0 := by rw [eτ147, tw_ku_n (fun z => absurd (hi92 3 2 (by decide) (by decide) z) (by decide))]; exact z144
  have z160 : τ147 q87 = 0 := by rw [eτ147, tw_ku_n (Ne.symm (hr91 2 (by decide)).2)]; exact z145
  have no161 : tw_no τ147 := by rw [eτ147]; exact no146.ku (by decide)
  obtain ⟨τ162, eτ162⟩ : ∃ z : tw_K, z = tw_ku τ147 (r88 3) 6 := ⟨_, rfl⟩
  have le163 : tw_le τ147 τ162 := by rw [eτ162]; exact tw_ku_le z159
  have k164 : τ162 (r5 0) = 6 := le163.k k149 (by decide)
  have k165 : τ162 (r5 1) = 6 := le163.k k150 (by decide)
  have k166 : τ162 (r5 2) = 6 := le163.k k151 (by decide)
  have k167 : τ162 (r5 3) = 6 := le163.k k152 (by decide)
  have k168 : τ162 q4 = 34 := le163.k k153 (by decide)
  have k169 : τ162 (r88 0) = 6 := le163.k k154 (by decide)
  have k170 : τ162 (r88 1) = 6 := le163.k k155 (by decide)
  have k171 : τ162 (r88 2) = 6 := le163.k k157 (by decide)
  have sp172 : tw_sp d τ (tw_rm h x) g τ162 h89 := by rw [eτ162]; exact sp156.ty n112 z159 f114 (by rw [← eτ162]; exact ⟨_, rfl⟩)
  have k173 : τ162 (r88 3) = 6 := by rw [eτ162]; exact tw_ku_s
  have z174 : τ162 x = 0 := by rw [eτ162, tw_ku_n ne101]; exact z158
  have z175 : τ162 q87 = 0 := by rw [eτ162, tw_ku_n (Ne.symm (hr91 3 (by decide)).2)]; exact z160
  have no176 : tw_no τ162 := by rw [eτ162]; exact no161.ku (by decide)
  obtain ⟨τ177, eτ177⟩ : ∃ z : tw_K, z = tw_ku τ162 q87 34 := ⟨_, rfl⟩
  have le178 : tw_le τ162 τ177 := by rw [eτ177]; exact tw_ku_le z175
  have k179 : τ177 (r5 0) = 6 := le178.k k164 (by decide)
  have k180 : τ177 (r5 1) = 6 := le178.k k165 (by decide)
  have k181 : τ177 (r5 2) = 6 := le178.k k166 (by decide)
  have k182 : τ177 (r5 3) = 6 := le178.k k167 (by decide)
  have k183 : τ177 q4 = 34 := le178.k k168 (by decide)
  have k184 : τ177 (r88 0) = 6 := le178.k k169 (by decide)
  have k185 : τ177 (r88 1) = 6 := le178.k k170 (by decide)
  have k186 : τ177 (r88 2) = 6 := le178.k k171 (by decide)
  have k187 : τ177 (r88 3) = 6 := le178.k k173 (by decide)
  have sp188 : tw_sp d τ (tw_rm h x) g τ177 h89 := by rw [eτ177]; exact sp172.ty n115 z175 hg93 (by rw [← eτ177]; exact ⟨_, rfl, fun j hj => ⟨r88 j, if_pos hj, by rcases (show j = 0 ∨ j = 1 ∨ j = 2 ∨ j = 3 by omega) with z | z | z | z <;> rw [z] <;> first | exact k184 | exact k185 | exact k186 | exact k187⟩⟩)
  have k189 : τ177 q87 = 34 := by rw [eτ177]; exact tw_ku_s
  have z190 : τ177 x = 0 := by rw [eτ177, tw_ku_n ne102]; exact z174
  have no191 : tw_no τ177 := by rw [eτ177]; exact no176.ku (by decide)
  refine tw_putF rfl in_14 tyX10 tyX10_ok nmX10 4 dX10_init_28 w_1155 rfl (by decide) f97 rfl rfl rfl rfl rfl rfl (Nat.le_of_ble_eq_true rfl) [.int 0, .int 0, .int 155, .ref q4, .ref q87, .null, .null, .null, .null, .null, .null, .null] rfl ?_
  obtain ⟨h192, eh192⟩ : ∃ z : tw_H, z = tw_up h89 x (.inr (14, [.int 0, .int 0, .int 155, .ref q4, .ref q87, .null, .null, .null, .null, .null, .null, .null])) := ⟨_, rfl⟩
  rw [← eh192]
  have sp193 : tw_sp d τ (tw_rm h x) g τ177 h192 := by rw [eh192]; exact sp188.wl tw_rm_s z190
  have f194 : h192 x = some (.inr (14, [.int 0, .int 0, .int 155, .ref q4, .ref q87, .null, .null, .null, .null, .null, .null, .null])) := by rw [eh192]; exact tw_up_s
  refine tw_aload_n 0 dX10_init_31 rfl rfl ?_
  refine tw_iconst (v := 2) dX10_init_32 (by decide) ?_
  refine tw_newa (a0 := (2, .inr (.inl (fun _ => 0)))) 1 rfl dX10_init_33 rfl w_1150 (fun _ => rfl) (by decide) (by decide) (by decide) 6 18 (Nat.le_of_ble_eq_true rfl) (Nat.le_of_ble_eq_true rfl) (fun q195 hq196 hA197 => ?_)
  have n198 := sp193.nn hq196
  have z199 := sp193.1.none hq196
  have ne200 := tw_neF f194 hq196
  obtain ⟨h201, eh201⟩ : ∃ z : tw_H, z = tw_up h192 q195 (.inl (d.2 1, 2, .inr (.inl (fun _ => 0)))) := ⟨_, rfl⟩
  rw [← eh201]
  have sp202 : tw_sp d τ (tw_rm h x) g τ177 h201 := by rw [eh201]; exact sp193.mk hq196
  have f203 : h201 x = some (.inr (14, [.int 0, .int 0, .int 155, .ref q4, .ref q87, .null, .null, .null, .null, .null, .null, .null])) := by rw [eh201, tw_up_n ne200]; exact f194
  have f204 : h201 q195 = some (.inl (d.2 1, 2, .inr (.inl (fun _ => 0)))) := by rw [eh201]; exact tw_up_s
  obtain ⟨τ205, eτ205⟩ : ∃ z : tw_K, z = tw_ku τ177 q195 31 := ⟨_, rfl⟩
  have le206 : tw_le τ177 τ205 := by rw [eτ205]; exact tw_ku_le z199
  have k207 : τ205 (r5 0) = 6 := le206.k k179 (by decide)
  have k208 : τ205 (r5 1) = 6 := le206.k k180 (by decide)
  have k209 : τ205 (r5 2) = 6 := le206.k k181 (by decide)
  have k210 : τ205 (r5 3) = 6 := le206.k k182 (by decide)
  have k211 : τ205 q4 = 34 := le206.k k183 (by decide)
  have k212 : τ205 (r88 0) = 6 := le206.k k184 (by decide)
  have k213 : τ205 (r88 1) = 6 := le206.k k185 (by decide)
  have k214 : τ205 (r88 2) = 6 := le206.k k186 (by decide)
  have k215 : τ205 (r88 3) = 6 := le206.k k187 (by decide)
  have k216 : τ205 q87 = 34 := le206.k k189 (by decide)
  have sp217 : tw_sp d τ (tw_rm h x) g τ205 h201 := by rw [eτ205]; exact sp202.ty n198 z199 f204 (by rw [← eτ205]; exact ⟨_, rfl⟩)
  have k218 : τ205 q195 = 31 := by rw [eτ205]; exact tw_ku_s
  have z219 : τ205 x = 0 := by rw [eτ205, tw_ku_n ne200]; exact z190
  have no220 : tw_no τ205 := by rw [eτ205]; exact no191.ku (by decide)
  refine tw_putF rfl in_14 tyX10 tyX10_ok nmX10 5 dX10_init_35 w_1156 rfl (by decide) f203 rfl rfl rfl rfl rfl rfl (Nat.le_of_ble_eq_true rfl) [.int 0, .int 0, .int 155, .ref q4, .ref q87, .ref q195, .null, .null, .null, .null, .null, .null] rfl ?_
  obtain ⟨h221, eh221⟩ : ∃ z : tw_H, z = tw_up h201 x (.inr (14, [.int 0, .int 0, .int 155, .ref q4, .ref q87, .ref q195, .null, .null, .null, .null, .null, .null])) := ⟨_, rfl⟩
  rw [← eh221]
  have sp222 : tw_sp d τ (tw_rm h x) g τ205 h221 := by rw [eh221]; exact sp217.wl tw_rm_s z219
  have f223 : h221 x = some (.inr (14, [.int 0, .int 0, .int 155, .ref q4, .ref q87, .ref q195, .null, .null, .null, .null, .null, .null])) := by rw [eh221]; exact tw_up_s
  refine tw_aload_n 0 dX10_init_38 rfl rfl ?_
  refine tw_iconst (v := 2) dX10_init_39 (by decide) ?_
  refine tw_newa (a0 := (2, .inr (.inl (fun _ => 0)))) 1 rfl dX10_init_40 rfl w_1150 (fun _ => rfl) (by decide) (by decide) (by decide) 5 16 (Nat.le_of_ble_eq_true rfl) (Nat.le_of_ble_eq_true rfl) (fun q224 hq225 hA226 => ?_)
  have n227 := sp222.nn hq225
  have z228 := sp222.1.none hq225
  have ne229 := tw_neF f223 hq225
  obtain ⟨h230, eh230⟩ : ∃ z : tw_H, z = tw_up h221 q224 (.inl (d.2 1, 2, .inr (.inl (fun _ => 0)))) := ⟨_, rfl⟩
  rw [← eh230]
  have sp231 : tw_sp d τ (tw_rm h x) g τ205 h230 := by rw [eh230]; exact sp222.mk hq225
  have f232 : h230 x = some (.inr (14, [.int 0, .int 0, .int 155, .ref q4, .ref q87, .ref q195, .null, .null, .null, .null, .null, .null])) := by rw [eh230, tw_up_n ne229]; exact f223
  have f233 : h230 q224 = some (.inl (d.2 1, 2, .inr (.inl (fun _ => 0)))) := by rw [eh230]; exact tw_up_s
  obtain ⟨τ234, eτ234⟩ : ∃ z : tw_K, z = tw_ku τ205 q224 31 := ⟨_, rfl⟩
  have le235 : tw_le τ205 τ234 := by rw [eτ234]; exact tw_ku_le z228
  have k236 : τ234 (r5 0) = 6 := le235.k k207 (by decide)
  have k237 : τ234 (r5 1) = 6 := le235.k k208 (by decide)
  have k238 : τ234 (r5 2) = 6 := le235.k k209 (by decide)
  have k239 : τ234 (r5 3) = 6 := le235.k k210 (by decide)
  have k240 : τ234 q4 = 34 := le235.k k211 (by decide)
  have k241 : τ234 (r88 0) = 6 := le235.k k212 (by decide)
  have k242 : τ234 (r88 1) = 6 := le235.k k213 (by decide)
  have k243 : τ234 (r88 2) = 6 := le235.k k214 (by decide)
  have k244 : τ234 (r88 3) = 6 := le235.k k215 (by decide)
  have k245 : τ234 q87 = 34 := le235.k k216 (by decide)
  have k246 : τ234 q195 = 31 := le235.k k218 (by decide)
  have sp247 : tw_sp d τ (tw_rm h x) g τ234 h230 := by rw [eτ234]; exact sp231.ty n227 z228 f233 (by rw [← eτ234]; exact ⟨_, rfl⟩)
  have k248 : τ234 q224 = 31 := by rw [eτ234]; exact tw_ku_s
  have z249 : τ234 x = 0 := by rw [eτ234, tw_ku_n ne229]; exact z219
  have no250 : tw_no τ234 := by rw [eτ234]; exact no220.ku (by decide)
  refine tw_putF rfl in_14 tyX10 tyX10_ok nmX10 6 dX10_init_42 w_1157 rfl (by decide) f232 rfl rfl rfl rfl rfl rfl (Nat.le_of_ble_eq_true rfl) [.int 0, .int 0, .int 155, .ref q4, .ref q87, .ref q195, .ref q224, .null, .null, .null, .null, .null] rfl ?_
  obtain ⟨h251, eh251⟩ : ∃ z : tw_H, z = tw_up h230 x (.inr (14, [.int 0, .int 0, .int 155, .ref q4, .ref q87, .ref q195, .ref q224, .null, .null, .null, .null, .null])) := ⟨_, rfl⟩
  rw [← eh251]
  have sp252 : tw_sp d τ (tw_rm h x) g τ234 h251 := by rw [eh251]; exact sp247.wl tw_rm_s z249
  have f253 : h251 x = some (.inr (14, [.int 0, .int 0, .int 155, .ref q4, .ref q87, .ref q195, .ref q224, .null, .null, .null, .null, .null])) := by rw [eh251]; exact tw_up_s
  refine tw_aload_n 0 dX10_init_45 rfl rfl ?_
  refine tw_iconst (v := 2) dX10_init_46 (by decide) ?_
  refine tw_newa (a0 := (2, .inr (.inl (fun _ => 0)))) 1 rfl dX10_init_47 rfl w_1150 (fun _ => rfl) (by decide) (by decide) (by decide) 4 14 (Nat.le_of_ble_eq_true rfl) (Nat.le_of_ble_eq_true rfl) (fun q254 hq255 hA256 => ?_)
  have n257 := sp252.nn hq255
  have z258 := sp252.1.none hq255
  have ne259 := tw_neF f253 hq255
  obtain ⟨h260, eh260⟩ : ∃ z : tw_H, z = tw_up h251 q254 (.inl (d.2 1, 2, .inr (.inl (fun _ => 0)))) := ⟨_, rfl⟩
  rw [← eh260]
  have sp261 : tw_sp d τ (tw_rm h x) g τ234 h260 := by rw [eh260]; exact sp252.mk hq255
  have f262 : h260 x = some (.inr (14, [.int 0, .int 0, .int 155, .ref q4, .ref q87, .ref q195, .ref q224, .null, .null, .null, .null, .null])) := by rw [eh260, tw_up_n ne259]; exact f253
  have f263 : h260 q254 = some (.inl (d.2 1, 2, .inr (.inl (fun _ => 0)))) := by rw [eh260]; exact tw_up_s
  obtain ⟨τ264, eτ264⟩ : ∃ z : tw_K, z = tw_ku τ234 q254 31 := ⟨_, rfl⟩
  have le265 : tw_le τ234 τ264 := by rw [eτ264]; exact tw_ku_le z258
  have k266 : τ264 (r5 0) = 6 := le265.k k236 (by decide)
  have k267 : τ264 (r5 1) = 6 := le265.k k237 (by decide)
  have k268 : τ264 (r5 2) = 6 := le265.k k238 (by decide)
  have k269 : τ264 (r5 3) = 6 := le265.k k239 (by decide)
  have k270 : τ264 q4 = 34 := le265.k k240 (by decide)
  have k271 : τ264 (r88 0) = 6 := le265.k k241 (by decide)
  have k272 : τ264 (r88 1) = 6 := le265.k k242 (by decide)
  have k273 : τ264 (r88 2) = 6 := le265.k k243 (by decide)
  have k274 : τ264 (r88 3) = 6 := le265.k k244 (by decide)
  have k275 : τ264 q87 = 34 := le265.k k245 (by decide)
  have k276 : τ264 q195 = 31 := le265.k k246 (by decide)
  have k277 : τ264 q224 = 31 := le265.k k248 (by decide)
  have sp278 : tw_sp d τ (tw_rm h x) g τ264 h260 := by rw [eτ264]; exact sp261.ty n257 z258 f263 (by rw [← eτ264]; exact ⟨_, rfl⟩)
  have k279 : τ264 q254 = 31 := by rw [eτ264]; exact tw_ku_s
  have z280 : τ264 x = 0 := by rw [eτ264, tw_ku_n ne259]; exact z249
  have no281 : tw_no τ264 := by rw [eτ264]; exact no250.ku (by decide)
  refine tw_putF rfl in_14 tyX10 tyX10_ok nmX10 7 dX10_init_49 w_1158 rfl (by decide) f262 rfl rfl rfl rfl rfl rfl (Nat.le_of_ble_eq_true rfl) [.int 0, .int 0, .int 155, .ref q4, .ref q87, .ref q195, .ref q224, .ref q254, .null, .null, .null, .null] rfl ?_
  obtain ⟨h282, eh282⟩ : ∃ z : tw_H, z = tw_up h260 x (.inr (14, [.int 0, .int 0, .int 155, .ref q4, .ref q87, .ref q195, .ref q224, .ref q254, .null, .null, .null, .null])) := ⟨_, rfl⟩
  rw [← eh282]
  have sp283 : tw_sp d τ (tw_rm h x) g τ264 h282 := by rw [eh282]; exact sp278.wl tw_rm_s z280
  have f284 : h282 x = some (.inr (14, [.int 0, .int 0, .int 155, .ref q4, .ref q87, .ref q195, .ref q224, .ref q254, .null, .null, .null, .null])) := by rw [eh282]; exact tw_up_s
  refine tw_aload_n 0 dX10_init_52 rfl rfl ?_
  refine tw_iconst (v := 2) dX10_init_53 (by decide) ?_
  refine tw_newa (a0 := (2, .inr (.inl (fun _ => 0)))) 1 rfl dX10_init_54 rfl w_1150 (fun _ => rfl) (by decide) (by decide) (by decide) 3 12 (Nat.le_of_ble_eq_true rfl) (Nat.le_of_ble_eq_true rfl) (fun q285 hq286 hA287 => ?_)
  have n288 := sp283.nn hq286
  have z289 := sp283.1.none hq286
  have ne290 := tw_neF f284 hq286
  obtain ⟨h291, eh291⟩ : ∃ z : tw_H, z = tw_up h282 q285 (.inl (d.2 1, 2, .inr (.inl (fun _ => 0)))) := ⟨_, rfl⟩
  rw [← eh291]
  have sp292 : tw_sp d τ (tw_rm h x) g τ264 h291 := by rw [eh291]; exact sp283.mk hq286
  have f293 : h291 x = some (.inr (14, [.int 0, .int 0, .int 155, .ref q4, .ref q87, .ref q195, .ref q224, .ref q254, .null, .null, .null, .null])) := by rw [eh291, tw_up_n ne290]; exact f284
  have f294 : h291 q285 = some (.inl (d.2 1, 2, .inr (.inl (fun _ => 0)))) := by rw [eh291]; exact tw_up_s
  obtain ⟨τ295, eτ295⟩ : ∃ z : tw_K, z = tw_ku τ264 q285 31 := ⟨_, rfl⟩
  have le296 : tw_le τ264 τ295 := by rw [eτ295]; exact tw_ku_le z289
  have k297 : τ295 (r5 0) = 6 := le296.k k266 (by decide)
  have k298 : τ295 (r5 1) = 6 := le296.k k267 (by decide)
  have k299 : τ295 (r5 2) = 6 := le296.k k268 (by decide)
  have k300 : τ295 (r5 3) = 6 := le296.k k269 (by decide)
  have k301 : τ295 q4 = 34 := le296.k k270 (by decide)
  have k302 : τ295 (r88 0) = 6 := le296.k k271 (by decide)
  have k303 : τ295 (r88 1) = 6 := le296.k k272 (by decide)
  have k304 : τ295 (r88 2) = 6 := le296.k k273 (by decide)
  have k305 : τ295 (r88 3) = 6 := le296.k k274 (by decide)
  have k306 : τ295 q87 = 34 := le296.k k275 (by decide)
  have k307 : τ295 q195 = 31 := le296.k k276 (by decide)
  have k308 : τ295 q224 = 31 := le296.k k277 (by decide)
  have k309 : τ295 q254 = 31 := le296.k k279 (by decide)
  have sp310 : tw_sp d τ (tw_rm h x) g τ295 h291 := by rw [eτ295]; exact sp292.ty n288 z289 f294 (by rw [← eτ295]; exact ⟨_, rfl⟩)
  have k311 : τ295 q285 = 31 := by rw [eτ295]; exact tw_ku_s
  have z312 : τ295 x = 0 := by rw [eτ295, tw_ku_n ne290]; exact z280
  have no313 : tw_no τ295 := by rw [eτ295]; exact no281.ku (by decide)
  refine tw_putF rfl in_14 tyX10 tyX10_ok nmX10 8 dX10_init_56 w_1159 rfl (by decide) f293 rfl rfl rfl rfl rfl rfl (Nat.le_of_ble_eq_true rfl) [.int 0, .int 0, .int 155, .ref q4, .ref q87, .ref q195, .ref q224, .ref q254, .ref q285, .null, .null, .null] rfl ?_
  obtain ⟨h314, eh314⟩ : ∃ z : tw_H, z = tw_up h291 x (.inr (14, [.int 0, .int 0, .int 155, .ref q4, .ref q87, .ref q195, .ref q224, .ref q254, .ref q285, .null, .null, .null])) := ⟨_, rfl⟩
  rw [← eh314]
  have sp315 : tw_sp d τ (tw_rm h x) g τ295 h314 := by rw [eh314]; exact sp310.wl tw_rm_s z312
  have f316 : h314 x = some (.inr (14, [.int 0, .int 0, .int 155, .ref q4, .ref q87, .ref q195, .ref q224, .ref q254, .ref q285, .null, .null, .null])) := by rw [eh314]; exact tw_up_s
  refine tw_aload_n 0 dX10_init_59 rfl rfl ?_
  refine tw_new (ci := 3) rfl in_3 tyJx4a65c tyJx4a65c_ok dX10_init_60 w_1121 w_1122 w_82 (fs := [.int 0, .null, .int 0]) (fun j hj => by rcases (show j = 0 ∨ j = 1 ∨ j = 2 by omega) with rfl | rfl | rfl <;> rfl) 2 9 (Nat.le_of_ble_eq_true rfl) (Nat.le_of_ble_eq_true rfl) (fun q317 hq318 hA319 => ?_)
  have n320 := sp315.nn hq318
  have z321 := sp315.1.none hq318
  have ne322 := tw_neF f316 hq318
  obtain ⟨h323, eh323⟩ : ∃ z : tw_H, z = tw_up h314 q317 (.inr (3, [.int 0, .null, .int 0])) := ⟨_, rfl⟩
  rw [← eh323]
  have sp324 : tw_sp d τ (tw_rm h x) g τ295 h323 := by rw [eh323]; exact sp315.mk hq318
  have f325 : h323 x = some (.inr (14, [.int 0, .int 0, .int 155, .ref q4, .ref q87, .ref q195, .ref q224, .ref q254, .ref q285, .null, .null, .null])) := by rw [eh323, tw_up_n ne322]; exact f316
  have f326 : h323 q317 = some (.inr (3, [.int 0, .null, .int 0])) := by rw [eh323]; exact tw_up_s
  refine tw_dup dX10_init_63 rfl ?_
  refine tw_bv (tw_callI (M := mX10_init) (pc := 64) okJx4a65c_init_da8c8 dX10_init_64 w_1123 rfl [] [.ref q317, .ref x] rfl rfl ⟨by decide, by decide⟩ (Nat.le_of_ble_eq_true rfl) (c_alist d h323 q317 f326) 2 9 (Nat.le_of_ble_eq_true rfl) (Nat.le_of_ble_eq_true rfl)) (fun h328 q327 => ?_) (fun E h1 q => q.elim)
  have sp329 : tw_sp d τ (tw_rm h x) g τ295 h328 := by rw [q327]; exact sp324.wl n320 z321
  have f330 : h328 x = some (.inr (14, [.int 0, .int 0, .int 155, .ref q4, .ref q87, .ref q195, .ref q224, .ref q254, .ref q285, .null, .null, .null])) := by rw [q327, tw_up_n ne322]; exact f325
  have f331 : h328 q317 = some (.inr (3, [.int 0, .ref (d.2 102), .int 0])) := by rw [q327]; exact tw_up_s
  refine tw_putF rfl in_14 tyX10 tyX10_ok nmX10 9 dX10_init_67 w_1160 rfl (by decide) f330 rfl rfl rfl rfl rfl rfl (Nat.le_of_ble_eq_true rfl) [.int 0, .int 0, .int 155, .ref q4, .ref q87, .ref q195, .ref q224, .ref q254, .ref q285, .ref q317, .null, .null] rfl ?_
  obtain ⟨h332, eh332⟩ : ∃ z : tw_H, z = tw_up h328 x (.inr (14, [.int 0, .int 0, .int 155, .ref q4, .ref q87, .ref q195, .ref q224, .ref q254, .ref q285, .ref q317, .null, .null])) := ⟨_, rfl⟩
  rw [← eh332]
  have sp333 : tw_sp d τ (tw_rm h x) g τ295 h332 := by rw [eh332]; exact sp329.wl tw_rm_s z312
  have f334 : h332 q317 = some (.inr (3, [.int 0, .ref (d.2 102), .int 0])) := by rw [eh332, tw_up_n (Ne.symm ne322)]; exact f331
  have f335 : h332 x = some (.inr (14, [.int 0, .int 0, .int 155, .ref q4, .ref q87, .ref q195, .ref q224, .ref q254, .ref q285, .ref q317, .null, .null])) := by rw [eh332]; exact tw_up_s
  refine tw_aload_n 0 dX10_init_70 rfl rfl ?_
  refine tw_new (ci := 3) rfl in_3 tyJx4a65c tyJx4a65c_ok dX10_init_71 w_1121 w_1122 w_82 (fs := [.int 0, .null, .int 0]) (fun j hj => by rcases (show j = 0 ∨ j = 1 ∨ j = 2 by omega) with rfl | rfl | rfl <;> rfl) 1 6 (Nat.le_of_ble_eq_true rfl) (Nat.le_of_ble_eq_true rfl) (fun q336 hq337 hA338 => ?_)
  have n339 := sp333.nn hq337
  have z340 := sp333.1.none hq337
  have ne341 := tw_neF f334 hq337
  have ne342 := tw_neF f335 hq337
  obtain ⟨h343, eh343⟩ : ∃ z : tw_H, z = tw_up h332 q336 (.inr (3, [.int 0, .null, .int 0])) := ⟨_, rfl⟩
  rw [← eh343]
  have sp344 : tw_sp d τ (tw_rm h x) g τ295 h343 := by rw [eh343]; exact sp333.mk hq337
  have f345 : h343 q317 = some (.inr (3, [.int 0, .ref (d.2 102), .int 0])) := by rw [eh343, tw_up_n ne341]; exact f334
  have f346 : h343 x = some (.inr (14, [.int 0, .int 0, .int 155, .ref q4, .ref q87, .ref q195, .ref q224, .ref q254, .ref q285, .ref q317, .null, .null])) := by rw [eh343, tw_up_n ne342]; exact f335
  have f347 : h343 q336 = some (.inr (3, [.int 0, .null, .int 0])) := by rw [eh343]; exact tw_up_s
  refine tw_dup dX10_init_74 rfl ?_
  refine tw_bv (tw_callI (M := mX10_init) (pc := 75) okJx4a65c_init_da8c8 dX10_init_75 w_1123 rfl [] [.ref q336, .ref x] rfl rfl ⟨by decide, by decide⟩ (Nat.le_of_ble_eq_true rfl) (c_alist d h343 q336 f347) 1 6 (Nat.le_of_ble_eq_true rfl) (Nat.le_of_ble_eq_true rfl)) (fun h349 q348 => ?_) (fun E h1 q => q.elim)
  have sp350 : tw_sp d τ (tw_rm h x) g τ295 h349 := by rw [q348]; exact sp344.wl n339 z340
  have f351 : h349 q317 = some (.inr (3, [.int 0, .ref (d.2 102), .int 0])) := by rw [q348, tw_up_n ne341]; exact f345
  have f352 : h349 x = some (.inr (14, [.int 0, .int 0, .int 155, .ref q4, .ref q87, .ref q195, .ref q224, .ref q254, .ref q285, .ref q317, .null, .null])) := by rw [q348, tw_up_n ne342]; exact f346
  have f353 : h349 q336 = some (.inr (3, [.int 0, .ref (d.2 102), .int 0])) := by rw [q348]; exact tw_up_s
  refine tw_putF rfl in_14 tyX10 tyX10_ok nmX10 10 dX10_init_78 w_1161 rfl (by decide) f352 rfl rfl rfl rfl rfl rfl (Nat.le_of_ble_eq_true rfl) [.int 0, .int 0, .int 155, .ref q4, .ref q87, .ref q195, .ref q224, .ref q254, .ref q285, .ref q317, .ref q336, .null] rfl ?_
  obtain ⟨h354, eh354⟩ : ∃ z : tw_H, z = tw_up h349 x (.inr (14, [.int 0, .int 0, .int 155, .ref q4, .ref q87, .ref q195, .ref q224, .ref q254, .ref q285, .ref q317, .ref q336, .null])) := ⟨_, rfl⟩
  rw [← eh354]
  have sp355 : tw_sp d τ (tw_rm h x) g τ295 h354 := by rw [eh354]; exact sp350.wl tw_rm_s z312
  have f356 : h354 q317 = some (.inr (3, [.int 0, .ref (d.2 102), .int 0])) := by rw [eh354, tw_up_n (Ne.symm ne322)]; exact f351
  have f357 : h354 q336 = some (.inr (3, [.int 0, .ref (d.2 102), .int 0])) := by rw [eh354, tw_up_n (Ne.symm ne342)]; exact f353
  have f358 : h354 x = some (.inr (14, [.int 0, .int 0, .int 155, .ref q4, .ref q87, .ref q195, .ref q224, .ref q254, .ref q285, .ref q317, .ref q336, .null])) := by rw [eh354]; exact tw_up_s
  refine tw_aload_n 0 dX10_init_81 rfl rfl ?_
  refine tw_new (ci := 3) rfl in_3 tyJx4a65c tyJx4a65c_ok dX10_init_82 w_1121 w_1122 w_82 (fs := [.int 0, .null, .int 0]) (fun j hj => by rcases (show j = 0 ∨ j = 1 ∨ j = 2 by omega) with rfl | rfl | rfl <;> rfl) 0 3 (Nat.le_of_ble_eq_true rfl) (Nat.le_of_ble_eq_true rfl) (fun q359 hq360 hA361 => ?_)
  have n362 := sp355.nn hq360
  have z363 := sp355.1.none hq360
  have ne364 := tw_neF f356 hq360
  have ne365 := tw_neF f357 hq360
  have ne366 := tw_neF f358 hq360
  obtain ⟨h367, eh367⟩ : ∃ z : tw_H, z = tw_up h354 q359 (.inr (3, [.int 0, .null, .int 0])) := ⟨_, rfl⟩
  rw [← eh367]
  have sp368 : tw_sp d τ (tw_rm h x) g τ295 h367 := by rw [eh367]; exact sp355.mk hq360
  have f369 : h367 q317 = some (.inr (3, [.int 0, .ref (d.2 102), .int 0])) := by rw [eh367, tw_up_n ne364]; exact f356
  have f370 : h367 q336 = some (.inr (3, [.int 0, .ref (d.2 102), .int 0])) := by rw [eh367, tw_up_n ne365]; exact f357
  have f371 : h367 x = some (.inr (14, [.int 0, .int 0, .int 155, .ref q4, .ref q87, .ref q195, .ref q224, .ref q254, .ref q285, .ref q317, .ref q336, .null])) := by rw [eh367, tw_up_n ne366]; exact f358
  have f372 : h367 q359 = some (.inr (3, [.int 0, .null, .int 0])) := by rw [eh367]; exact tw_up_s
  refine tw_dup dX10_init_85 rfl ?_
  refine tw_bv (tw_callI (M := mX10_init) (pc := 86) okJx4a65c_init_da8c8 dX10_init_86 w_1123 rfl [] [.ref q359, .ref x] rfl rfl ⟨by decide, by decide⟩ (Nat.le_of_ble_eq_true rfl) (c_alist d h367 q359 f372) 0 3 (Nat.le_of_ble_eq_true rfl) (Nat.le_of_ble_eq_true rfl)) (fun h374 q373 => ?_) (fun E h1 q => q.elim)
  have sp375 : tw_sp d τ (tw_rm h x) g τ295 h374 := by rw [q373]; exact sp368.wl n362 z363
  have f376 : h374 q317 = some (.inr (3, [.int 0, .ref (d.2 102), .int 0])) := by rw [q373, tw_up_n ne364]; exact f369
  have f377 : h374 q336 = some (.inr (3, [.int 0, .ref (d.2 102), .int 0])) := by rw [q373, tw_up_n ne365]; exact f370
  have f378 : h374 x = some (.inr (14, [.int 0, .int 0, .int 155, .ref q4, .ref q87, .ref q195, .ref q224, .ref q254, .ref q285, .ref q317, .ref q336, .null])) := by rw [q373, tw_up_n ne366]; exact f371
  have f379 : h374 q359 = some (.inr (3, [.int 0, .ref (d.2 102), .int 0])) := by rw [q373]; exact tw_up_s
  refine tw_putF rfl in_14 tyX10 tyX10_ok nmX10 11 dX10_init_89 w_1162 rfl (by decide) f378 rfl rfl rfl rfl rfl rfl (Nat.le_of_ble_eq_true rfl) [.int 0, .int 0, .int 155, .ref q4, .ref q87, .ref q195, .ref q224, .ref q254, .ref q285, .ref q317, .ref q336, .ref q359] rfl ?_
  obtain ⟨h380, eh380⟩ : ∃ z : tw_H, z = tw_up h374 x (.inr (14, [.int 0, .int 0, .int 155, .ref q4, .ref q87, .ref q195, .ref q224, .ref q254, .ref q285, .ref q317, .ref q336, .ref q359])) := ⟨_, rfl⟩
  rw [← eh380]
  have sp381 : tw_sp d τ (tw_rm h x) g τ295 h380 := by rw [eh380]; exact sp375.wl tw_rm_s z312
  have f382 : h380 q317 = some (.inr (3, [.int 0, .ref (d.2 102), .int 0])) := by rw [eh380, tw_up_n (Ne.symm ne322)]; exact f376
  have f383 : h380 q336 = some (.inr (3, [.int 0, .ref (d.2 102), .int 0])) := by rw [eh380, tw_up_n (Ne.symm ne342)]; exact f377
  have f384 : h380 q359 = some (.inr (3, [.int 0, .ref (d.2 102), .int 0])) := by rw [eh380, tw_up_n (Ne.symm ne366)]; exact f379
  have f385 : h380 x = some (.inr (14, [.int 0, .int 0, .int 155, .ref q4, .ref q87, .ref q195, .ref q224, .ref q254, .ref q285, .ref q317, .ref q336, .ref q359])) := by rw [eh380]; exact tw_up_s
  obtain ⟨g1, eg1⟩ : ∃ z : tw_G, z = (fun k => if k = 0 then g.1 0 else if k = 1 then 155 else 0, fun k => if k < 3 ∨ (6 ≤ k ∧ k < 9) ∨ (18 ≤ k ∧ k < 21) then g.2 k else if k = 10 then g.2 10 else if k = 11 then x else if k = 12 then q317 else if k = 13 then q336 else if k = 14 then q359 else 0) := ⟨_, rfl⟩
  have sp386 := sp381.gch (g1 := g1) no313 (by rw [eg1]; rfl) (by rw [eg1]; rfl) (by rw [eg1]; rfl) (by rw [eg1]; rfl) (by rw [eg1]; rfl) (fun i h1 h2 => by rw [eg1]; exact if_pos (Or.inr (Or.inl ⟨h1, h2⟩))) (fun i h1 h2 => by rw [eg1]; exact if_pos (Or.inr (Or.inr ⟨h1, h2⟩)))
  obtain ⟨τ387, eτ387⟩ : ∃ z : tw_K, z = tw_ku τ295 q317 24 := ⟨_, rfl⟩
  have le388 : tw_le τ295 τ387 := by rw [eτ387]; exact tw_ku_le z321
  have k389 : τ387 (r5 0) = 6 := le388.k k297 (by decide)
  have k390 : τ387 (r5 1) = 6 := le388.k k298 (by decide)
  have k391 : τ387 (r5 2) = 6 := le388.k k299 (by decide)
  have k392 : τ387 (r5 3) = 6 := le388.k k300 (by decide)
  have k393 : τ387 q4 = 34 := le388.k k301 (by decide)
  have k394 : τ387 (r88 0) = 6 := le388.k k302 (by decide)
  have k395 : τ387 (r88 1) = 6 := le388.k k303 (by decide)
  have k396 : τ387 (r88 2) = 6 := le388.k k304 (by decide)
  have k397 : τ387 (r88 3) = 6 := le388.k k305 (by decide)
  have k398 : τ387 q87 = 34 := le388.k k306 (by decide)
  have k399 : τ387 q195 = 31 := le388.k k307 (by decide)
  have k400 : τ387 q224 = 31 := le388.k k308 (by decide)
  have k401 : τ387 q254 = 31 := le388.k k309 (by decide)
  have k402 : τ387 q285 = 31 := le388.k k311 (by decide)
  have sp403 : tw_sp d τ (tw_rm h x) g1 τ387 h380 := by rw [eτ387]; exact sp386.ty n320 z321 f382 (by rw [← eτ387]; exact ⟨⟨d.2 102, (by rw [eg1]; rfl), Or.inl ⟨rfl, (by rw [eg1]; rfl), (by rw [eg1]; rfl)⟩⟩, (by rw [eg1]; rfl)⟩)
  have k404 : τ387 q317 = 24 := by rw [eτ387]; exact tw_ku_s
  have z405 : τ387 x = 0 := by rw [eτ387, tw_ku_n ne322]; exact z312
  have z406 : τ387 q336 = 0 := by rw [eτ387, tw_ku_n (Ne.symm ne341)]; exact z340
  have z407 : τ387 q359 = 0 := by rw [eτ387, tw_ku_n (Ne.symm ne364)]; exact z363
  obtain ⟨τ408, eτ408⟩ : ∃ z : tw_K, z = tw_ku τ387 q336 25 := ⟨_, rfl⟩
  have le409 : tw_le τ387 τ408 := by rw [eτ408]; exact tw_ku_le z406
  have k410 : τ408 (r5 0) = 6 := le409.k k389 (by decide)
  have k411 : τ408 (r5 1) = 6 := le409.k k390 (by decide)
  have k412 : τ408 (r5 2) = 6 := le409.k k391 (by decide)
  have k413 : τ408 (r5 3) = 6 := le409.k k392 (by decide)
  have k414 : τ408 q4 = 34 := le409.k k393 (by decide)
  have k415 : τ408 (r88 0) = 6 := le409.k k394 (by decide)
  have k416 : τ408 (r88 1) = 6 := le409.k k395 (by decide)
  have k417 : τ408 (r88 2) = 6 := le409.k k396 (by decide)
  have k418 : τ408 (r88 3) = 6 := le409.k k397 (by decide)
  have k419 : τ408 q87 = 34 := le409.k k398 (by decide)
  have k420 : τ408 q195 = 31 := le409.k k399 (by decide)
  have k421 : τ408 q224 = 31 := le409.k k400 (by decide)
  have k422 : τ408 q254 = 31 := le409.k k401 (by decide)
  have k423 : τ408 q285 = 31 := le409.k k402 (by decide)
  have k424 : τ408 q317 = 24 := le409.k k404 (by decide)
  have sp425 : tw_sp d τ (tw_rm h x) g1 τ408 h380 := by rw [eτ408]; exact sp403.ty n339 z406 f383 (by rw [← eτ408]; exact ⟨⟨d.2 102, (by rw [eg1]; rfl), Or.inl ⟨rfl, (by rw [eg1]; rfl), (by rw [eg1]; rfl)⟩⟩, (by rw [eg1]; rfl)⟩)
  have k426 : τ408 q336 = 25 := by rw [eτ408]; exact tw_ku_s
  have z427 : τ408 x = 0 := by rw [eτ408, tw_ku_n ne342]; exact z405
  have z428 : τ408 q359 = 0 := by rw [eτ408, tw_ku_n (Ne.symm ne365)]; exact z407
  obtain ⟨τ429, eτ429⟩ : ∃ z : tw_K, z = tw_ku τ408 q359 26 := ⟨_, rfl⟩
  have le430 : tw_le τ408 τ429 := by rw [eτ429]; exact tw_ku_le z428
  have k431 : τ429 (r5 0) = 6 := le430.k k410 (by decide)
  have k432 : τ429 (r5 1) = 6 := le430.k k411 (by decide)
  have k433 : τ429 (r5 2) = 6 := le430.k k412 (by decide)
  have k434 : τ429 (r5 3) = 6 := le430.k k413 (by decide)
  have k435 : τ429 q4 = 34 := le430.k k414 (by decide)
  have k436 : τ429 (r88 0) = 6 := le430.k k415 (by decide)
  have k437 : τ429 (r88 1) = 6 := le430.k k416 (by decide)
  have k438 : τ429 (r88 2) = 6 := le430.k k417 (by decide)
  have k439 : τ429 (r88 3) = 6 := le430.k k418 (by decide)
  have k440 : τ429 q87 = 34 := le430.k k419 (by decide)
  have k441 : τ429 q195 = 31 := le430.k k420 (by decide)
  have k442 : τ429 q224 = 31 := le430.k k421 (by decide)
  have k443 : τ429 q254 = 31 := le430.k k422 (by decide)
  have k444 : τ429 q285 = 31 := le430.k k423 (by decide)
  have k445 : τ429 q317 = 24 := le430.k k424 (by decide)
  have k446 : τ429 q336 = 25 := le430.k k426 (by decide)
  have sp447 : tw_sp d τ (tw_rm h x) g1 τ429 h380 := by rw [eτ429]; exact sp425.ty n362 z428 f384 (by rw [← eτ429]; exact ⟨⟨d.2 102, (by rw [eg1]; rfl), Or.inl ⟨rfl, (by rw [eg1]; rfl), (by rw [eg1]; rfl)⟩⟩, (by rw [eg1]; rfl)⟩)
  have k448 : τ429 q359 = 26 := by rw [eτ429]; exact tw_ku_s
  have z449 : τ429 x = 0 := by rw [eτ429, tw_ku_n ne366]; exact z427
  refine tw_iconst (v := 0) dX10_init_92 (by decide) ?_
  refine tw_istore_n [(1, .int 0), (0, .ref x)] dX10_init_93 rfl (by decide) rfl ?_
  have L453 : ∀ (r451 k450 : Nat) (h454 : tw_H) (sp455 : tw_sp d τ429 h380 g1 τ429 h454), 4 + 1 ≤ k450 + r451 → k450 ≤ 4 → tw_W d mX10_init (tw_qv (fun h1 => ∃ (g1 : tw_G) (τ1 : tw_K), (g1.1 0 = g.1 0 ∧ g1.1 1 = 155 ∧ (∀ i, i < 3 → g1.2 i = g.2 i) ∧ (∀ i, 6 ≤ i → i < 9 → g1.2 i = g.2 i) ∧ ∀ i, 3 ≤ i → i < 6 → g1.2 i = 0) ∧ tw_ini d g1 τ h x 36 τ1 h1) tw_nx) 94 [(0, .ref x), (1, .int (nI k450))] [] h454 0 3 := by
    intro r451
    induction r451 with
    | zero => intro k450 h454 sp455 hk457 hk458; exact absurd hk457 (by omega)
    | succ r451 ih452 =>
      intro k450 h454 sp455 hk457 hk458
      have f459 := (sp455.2.2 _ _ f385 z449).1
      have z460 := (sp455.2.2 _ _ f385 z449).2
      refine tw_iload_n 1 dX10_init_94 rfl rfl ?_
      refine tw_iconst (v := 4) dX10_init_95 (by decide) ?_
      refine tw_icmp_ge 137 dX10_init_96 (by decide) (fun c461 => ?_) (fun c461 => ?_)
      · have sp462 := sp447.tr sp455
        obtain ⟨τ463, eτ463⟩ : ∃ z : tw_K, z = tw_ku τ429 x 36 := ⟨_, rfl⟩
        have le464 : tw_le τ429 τ463 := by rw [eτ463]; exact tw_ku_le z460
        have k465 : τ463 (r5 0) = 6 := le464.k k431 (by decide)
        have k466 : τ463 (r5 1) = 6 := le464.k k432 (by decide)
        have k467 : τ463 (r5 2) = 6 := le464.k k433 (by decide)
        have k468 : τ463 (r5 3) = 6 := le464.k k434 (by decide)
        have k469 : τ463 q4 = 34 := le464.k k435 (by decide)
        have k470 : τ463 (r88 0) = 6 := le464.k k436 (by decide)
        have k471 : τ463 (r88 1) = 6 := le464.k k437 (by decide)
        have k472 : τ463 (r88 2) = 6 := le464.k k438 (by decide)
        have k473 : τ463 (r88 3) = 6 := le464.k k439 (by decide)
        have k474 : τ463 q87 = 34 := le464.k k440 (by decide)
        have k475 : τ463 q195 = 31 := le464.k k441 (by decide)
        have k476 : τ463 q224 = 31 := le464.k k442 (by decide)
        have k477 : τ463 q254 = 31 := le464.k k443 (by decide)
        have k478 : τ463 q285 = 31 := le464.k k444 (by decide)
        have k479 : τ463 q317 = 24 := le464.k k445 (by decide)
        have k480 : τ463 q336 = 25 := le464.k k446 (by decide)
        have k481 : τ463 q359 = 26 := le464.k k448 (by decide)
        have sp482 : tw_sp d τ (tw_rm h x) g1 τ463 h454 := by rw [eτ463]; exact sp462.ty tw_rm_s z460 f459 (by rw [← eτ463]; exact ⟨0, 0, q4, q87, q195, q224, q254, q285, q317, q336, q359, (by rw [eg1]; rfl), k469, k474, k475, k476, k477, k478, k479, k480, k481, (by rw [eg1]; exact Nat.zero_le _), (by rw [eg1]; exact Nat.zero_le _), (by rw [eg1]; exact Nat.zero_le _), (by rw [eg1]; rfl), (by decide)⟩)
        have k483 : τ463 x = 36 := by rw [eτ463]; exact tw_ku_s
        exact tw_vret dX10_init_137 rfl (Or.inl ⟨rfl, g1, _, ⟨by rw [eg1]; rfl, by rw [eg1]; rfl, fun i hi => by rw [eg1]; exact if_pos (Or.inl hi), fun i h1 h2 => by rw [eg1]; exact if_pos (Or.inr (Or.inl ⟨h1, h2⟩)), fun i h3 h6 => by rw [eg1]; dsimp only; repeat rw [if_neg (by omega)]⟩, sp482.toini k483⟩)
      · have kl484 := tw_klt (N := 4) c461 hk458 (by decide)
        refine tw_iconst (v := 0) dX10_init_99 (by decide) ?_
        refine tw_istore_n [(2, .int 0), (0, .ref x), (1, .int (nI k450))] dX10_init_100 rfl (by decide) rfl ?_
        have L488 : ∀ (r486 k485 : Nat) (h489 : tw_H) (sp490 : tw_sp d τ429 h454 g1 τ429 h489), 4 + 1 ≤ k485 + r486 → k485 ≤ 4 → tw_W d mX10_init (tw_qv (fun h1 => ∃ (g1 : tw_G) (τ1 : tw_K), (g1.1 0 = g.1 0 ∧ g1.1 1 = 155 ∧ (∀ i, i < 3 → g1.2 i = g.2 i) ∧ (∀ i, 6 ≤ i → i < 9 → g1.2 i = g.2 i) ∧ ∀ i, 3 ≤ i → i < 6 → g1.2 i = 0) ∧ tw_ini d g1 τ h x 36 τ1 h1) tw_nx) 101 [(0, .ref x), (1, .int (nI k450)), (2, .int (nI k485))] [] h489 0 3 := by
          intro r486
          induction r486 with
          | zero => intro k485 h489 sp490 hk492 hk493; exact absurd hk492 (by omega)
          | succ r486 ih487 =>
            intro k485 h489 sp490 hk492 hk493
            have f494 := (sp490.2.2 _ _ f459 z460).1
            have z495 := (sp490.2.2 _ _ f459 z460).2
            refine tw_iload_n 2 dX10_init_101 rfl rfl ?_
            refine tw_iconst (v := 4) dX10_init_102 (by decide) ?_
            refine tw_icmp_ge 131 dX10_init_103 (by decide) (fun c496 => ?_) (fun c496 => ?_)
            · obtain ⟨v497, ev497⟩ : ∃ y : Int32, y = (nI k450) + 1 := ⟨_, rfl⟩
              refine tw_iinc [(1, .int v497), (0, .ref x), (2, .int (nI k485))] 1 dX10_init_131 rfl (by rw [ev497]; rfl) (by decide) rfl ?_
              refine tw_goto 94 dX10_init_134 (by decide) ?_
              have qv497 := tw_nI3 ev497
              rw [qv497]
              refine tw_lv [1, 0] rfl ?_
              exact ih452 (k450 + 1)  _ (sp455.tr sp490) (by omega) (by omega)
            · have kl498 := tw_klt (N := 4) c496 hk493 (by decide)
              refine tw_aload_n 0 dX10_init_106 rfl rfl ?_
              refine tw_get (v := .ref q4) rfl in_14 3 dX10_init_107 w_1154 rfl (by decide) f494 rfl ?_
              refine tw_iload_n 1 dX10_init_110 rfl rfl ?_
              obtain ⟨e499, f500, F501, rfl, k502⟩ := sp490.1 q4 34 k435 (by decide)
              obtain ⟨q503, k504, k505⟩ := k502 ((nI k450)).toNatClampNeg (by rw [nI_clamp (by omega)]; omega)
              refine tw_aald (v := .ref q503) 8 rfl rfl dX10_init_111 f500 (vp_in_nI (by omega) (by decide)) (by rw [k504]; rfl) ?_
              refine tw_iload_n 2 dX10_init_112 rfl rfl ?_
              refine tw_iconst (v := 3) dX10_init_113 (by decide) ?_
              obtain ⟨e506, f507, F508, rfl⟩ := sp490.1 q503 6 k505 (by decide)
              refine tw_iast dX10_init_114 f507 (vp_in_nI (by omega) (by decide)) ?_
              obtain ⟨h509, eh509⟩ : ∃ z : tw_H, z = tw_up h489 q503 (.inl (d.2 0, 4, .inl (upd F508 ((nI k485)).toNatClampNeg 3))) := ⟨_, rfl⟩
              rw [← eh509]
              have sp510 : tw_sp d τ429 h454 g1 τ429 h509 := by rw [eh509]; exact sp490.set k505 (by decide) ⟨_, rfl⟩
              have f511 : h509 x = some (.inr (14, [.int 0, .int 0, .int 155, .ref q4, .ref q87, .ref q195, .ref q224, .ref q254, .ref q285, .ref q317, .ref q336, .ref q359])) := by rw [eh509, tw_up_n (fun q => absurd (z495) (by rw [q, k505]; decide))]; exact f494
              refine tw_aload_n 0 dX10_init_115 rfl rfl ?_
              refine tw_get (v := .ref q87) rfl in_14 4 dX10_init_116 w_1155 rfl (by decide) f511 rfl ?_
              refine tw_iload_n 1 dX10_init_119 rfl rfl ?_
              obtain ⟨e512, f513, F514, rfl, k515⟩ := sp510.1 q87 34 k440 (by decide)
              obtain ⟨q516, k517, k518⟩ := k515 ((nI k450)).toNatClampNeg (by rw [nI_clamp (by omega)]; omega)
              refine tw_aald (v := .ref q516) 8 rfl rfl dX10_init_120 f513 (vp_in_nI (by omega) (by decide)) (by rw [k517]; rfl) ?_
              refine tw_iload_n 2 dX10_init_121 rfl rfl ?_
              refine tw_bipush (v := 10) dX10_init_122 (by decide) ?_
              obtain ⟨e519, f520, F521, rfl⟩ := sp510.1 q516 6 k518 (by decide)
              refine tw_iast dX10_init_124 f520 (vp_in_nI (by omega) (by decide)) ?_
              obtain ⟨h522, eh522⟩ : ∃ z : tw_H, z = tw_up h509 q516 (.inl (d.2 0, 4, .inl (upd F521 ((nI k485)).toNatClampNeg 10))) := ⟨_, rfl⟩
              rw [← eh522]
              have sp523 : tw_sp d τ429 h454 g1 τ429 h522 := by rw [eh522]; exact sp510.set k518 (by decide) ⟨_, rfl⟩
              have f524 : h522 x = some (.inr (14, [.int 0, .int 0, .int 155, .ref q4, .ref q87, .ref q195, .ref q224, .ref q254, .ref q285, .ref q317, .ref q336, .ref q359])) := by rw [eh522, tw_up_n (fun q => absurd (z495) (by rw [q, k518]; decide))]; exact f511
              obtain ⟨v525, ev525⟩ : ∃ y : Int32, y = (nI k485) + 1 := ⟨_, rfl⟩
              refine tw_iinc [(2, .int v525), (0, .ref x), (1, .int (nI k450))] 2 dX10_init_125 rfl (by rw [ev525]; rfl) (by decide) rfl ?_
              refine tw_goto 101 dX10_init_128 (by decide) ?_
              have qv525 := tw_nI3 ev525
              rw [qv525]
              refine tw_lv [1, 2, 0] rfl ?_
              exact ih487 (k485 + 1)  _ sp523 (by omega) (by omega)
        refine tw_lv [1, 2, 0] rfl ?_
        exact L488 (4 + 1) 0  _ (tw_sp.rf sp455.1) (by omega) (by omega)
  refine tw_lv [1, 0] rfl ?_
  exact L453 (4 + 1) 0  _ (tw_sp.rf sp447.1) (by omega) (by omega)

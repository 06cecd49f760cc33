/-! the class's methods over the typed heap. Laid by wip/p5/mkclass.py. -/
set_option maxHeartbeats 4000000 in
set_option maxRecDepth 100000 in
theorem c2_X7_init (d : tw_D) (g : tw_G) (τ : tw_K) (h : tw_H) (hw : tw_wt d g τ h) (x : Nat) (hz : τ x = 0) (hx : h x = some (.inr (11, [.int 0, .int 0, .null, .null, .null]))) : tw_Ct d mX7_init 3 9 [.ref x] h (tw_qv (fun h1 => ∃ (τ1 : tw_K) (v o t : Nat), tw_sp d τ (tw_rm h x) g τ1 h1 ∧ h1 x = some (.inr (11, [.int 0, .int 0, .ref v, .ref o, .ref t])) ∧ τ1 x = 0 ∧ τ1 v = 31 ∧ τ1 o = 32 ∧ τ1 t = 33 ∧ ∀ b, b ≠ x → h b ≠ none → h1 b = h b) tw_nx) := by
  refine tw_of (by decide +kernel) (Nat.le_of_ble_eq_true rfl) ?_
  show tw_W d mX7_init _ 0 [(0, .ref x)] [] h 3 9
  have sp0 := tw_sp.rm hw x
  have fr0 : ∀ b, b ≠ x → h b ≠ none → h b = h b := fun _ _ _ => rfl
  refine tw_aload_n 0 dX7_init_0 rfl rfl ?_
  refine tw_objInit dX7_init_1 w_1217 w_117 w_118 ⟨by decide, Nat.le_of_ble_eq_true rfl⟩ ?_
  refine tw_aload_n 0 dX7_init_4 rfl rfl ?_
  refine tw_iconst (v := 2) dX7_init_5 (by decide) ?_
  refine tw_newa (a0 := (2, .inr (.inl (fun _ => 0)))) 1 rfl dX7_init_6 rfl w_1150 (fun _ => rfl) (by decide) (by decide) (by decide) 2 7 (Nat.le_of_ble_eq_true rfl) (Nat.le_of_ble_eq_true rfl) (fun q1 hq2 hA3 => ?_)
  have n4 := sp0.nn hq2
  have z5 := sp0.1.none hq2
  have ne6 := tw_neF hx hq2
  obtain ⟨h7, eh7⟩ : ∃ z : tw_H, z = tw_up h q1 (.inl (d.2 1, 2, .inr (.inl (fun _ => 0)))) := ⟨_, rfl⟩
  rw [← eh7]
  have fr8 : ∀ b, b ≠ x → h b ≠ none → h7 b = h b := fun b n1 n2 => by rw [eh7, tw_up_n (fun z => n2 (tw_rmN n4 z n1))] <;> exact fr0 b n1 n2
  have sp9 : tw_sp d τ (tw_rm h x) g τ h7 := by rw [eh7]; exact sp0.mk hq2
  have f10 : h7 x = some (.inr (11, [.int 0, .int 0, .null, .null, .null])) := by rw [eh7, tw_up_n ne6]; exact hx
  have f11 : h7 q1 = some (.inl (d.2 1, 2, .inr (.inl (fun _ => 0)))) := by rw [eh7]; exact tw_up_s
  obtain ⟨τ12, eτ12⟩ : ∃ z : tw_K, z = tw_ku τ q1 31 := ⟨_, rfl⟩
  have le13 : tw_le τ τ12 := by rw [eτ12]; exact tw_ku_le z5
  have sp14 : tw_sp d τ (tw_rm h x) g τ12 h7 := by rw [eτ12]; exact sp9.ty n4 z5 f11 (by rw [← eτ12]; exact ⟨_, rfl⟩)
  have k15 : τ12 q1 = 31 := by rw [eτ12]; exact tw_ku_s
  have z16 : τ12 x = 0 := by rw [eτ12, tw_ku_n ne6]; exact hz
  refine tw_put rfl in_11 tyX7 tyX7_ok nmX7 2 dX7_init_8 w_1220 rfl (by decide) f10 rfl rfl rfl rfl (Nat.le_of_ble_eq_true rfl) [.int 0, .int 0, .ref q1, .null, .null] rfl ?_
  obtain ⟨h17, eh17⟩ : ∃ z : tw_H, z = tw_up h7 x (.inr (11, [.int 0, .int 0, .ref q1, .null, .null])) := ⟨_, rfl⟩
  rw [← eh17]
  have fr18 : ∀ b, b ≠ x → h b ≠ none → h17 b = h b := fun b n1 n2 => by rw [eh17, tw_up_n n1] <;> exact fr8 b n1 n2
  have sp19 : tw_sp d τ (tw_rm h x) g τ12 h17 := by rw [eh17]; exact sp14.wl tw_rm_s z16
  have f20 : h17 x = some (.inr (11, [.int 0, .int 0, .ref q1, .null, .null])) := by rw [eh17]; exact tw_up_s
  refine tw_aload_n 0 dX7_init_11 rfl rfl ?_
  refine tw_iconst (v := 2) dX7_init_12 (by decide) ?_
  refine tw_newa (a0 := (2, .inl (fun _ => 0))) 2 rfl dX7_init_13 rfl w_1237 (fun _ => rfl) (by decide) (by decide) (by decide) 1 5 (Nat.le_of_ble_eq_true rfl) (Nat.le_of_ble_eq_true rfl) (fun q21 hq22 hA23 => ?_)
  have n24 := sp19.nn hq22
  have z25 := sp19.1.none hq22
  have ne26 := tw_neF f20 hq22
  obtain ⟨h27, eh27⟩ : ∃ z : tw_H, z = tw_up h17 q21 (.inl (d.2 2, 2, .inl (fun _ => 0))) := ⟨_, rfl⟩
  rw [← eh27]
  have fr28 : ∀ b, b ≠ x → h b ≠ none → h27 b = h b := fun b n1 n2 => by rw [eh27, tw_up_n (fun z => n2 (tw_rmN n24 z n1))] <;> exact fr18 b n1 n2
  have sp29 : tw_sp d τ (tw_rm h x) g τ12 h27 := by rw [eh27]; exact sp19.mk hq22
  have f30 : h27 x = some (.inr (11, [.int 0, .int 0, .ref q1, .null, .null])) := by rw [eh27, tw_up_n ne26]; exact f20
  have f31 : h27 q21 = some (.inl (d.2 2, 2, .inl (fun _ => 0))) := by rw [eh27]; exact tw_up_s
  obtain ⟨τ32, eτ32⟩ : ∃ z : tw_K, z = tw_ku τ12 q21 32 := ⟨_, rfl⟩
  have le33 : tw_le τ12 τ32 := by rw [eτ32]; exact tw_ku_le z25
  have k34 : τ32 q1 = 31 := le33.k k15 (by decide)
  have sp35 : tw_sp d τ (tw_rm h x) g τ32 h27 := by rw [eτ32]; exact sp29.ty n24 z25 f31 (by rw [← eτ32]; exact ⟨_, rfl, fun _ => Or.inl rfl⟩)
  have k36 : τ32 q21 = 32 := by rw [eτ32]; exact tw_ku_s
  have z37 : τ32 x = 0 := by rw [eτ32, tw_ku_n ne26]; exact z16
  refine tw_dup dX7_init_15 rfl ?_
  refine tw_iconst (v := 0) dX7_init_16 (by decide) ?_
  refine tw_iconst (v := 1) dX7_init_17 (by decide) ?_
  obtain ⟨e38, f39, F40, rfl, k41⟩ := sp35.1 q21 32 k36 (by decide)
  refine tw_zast dX7_init_18 f39 (vp_in_nI (n := 0) (by decide) (by decide)) ?_
  obtain ⟨h42, eh42⟩ : ∃ z : tw_H, z = tw_up h27 q21 (.inl (d.2 2, 2, .inl (upd F40 (0 : Int32).toNatClampNeg (vp_nar .boolean 1)))) := ⟨_, rfl⟩
  rw [← eh42]
  have fr43 : ∀ b, b ≠ x → h b ≠ none → h42 b = h b := fun b n1 n2 => by rw [eh42, tw_up_n (fun z => n2 (tw_rmN n24 z n1))] <;> exact fr28 b n1 n2
  have sp44 : tw_sp d τ (tw_rm h x) g τ32 h42 := by rw [eh42]; exact sp35.set k36 (by decide) ⟨_, rfl, tw_01up k41 (tw_vp01 (by unfold tw_01; decide))⟩
  have f45 : h42 x = some (.inr (11, [.int 0, .int 0, .ref q1, .null, .null])) := by rw [eh42, tw_up_n ne26]; exact f30
  refine tw_dup dX7_init_19 rfl ?_
  refine tw_iconst (v := 1) dX7_init_20 (by decide) ?_
  refine tw_iconst (v := 1) dX7_init_21 (by decide) ?_
  obtain ⟨e46, f47, F48, rfl, k49⟩ := sp44.1 q21 32 k36 (by decide)
  refine tw_zast dX7_init_22 f47 (vp_in_nI (n := 1) (by decide) (by decide)) ?_
  obtain ⟨h50, eh50⟩ : ∃ z : tw_H, z = tw_up h42 q21 (.inl (d.2 2, 2, .inl (upd F48 (1 : Int32).toNatClampNeg (vp_nar .boolean 1)))) := ⟨_, rfl⟩
  rw [← eh50]
  have fr51 : ∀ b, b ≠ x → h b ≠ none → h50 b = h b := fun b n1 n2 => by rw [eh50, tw_up_n (fun z => n2 (tw_rmN n24 z n1))] <;> exact fr43 b n1 n2
  have sp52 : tw_sp d τ (tw_rm h x) g τ32 h50 := by rw [eh50]; exact sp44.set k36 (by decide) ⟨_, rfl, tw_01up k49 (tw_vp01 (by unfold tw_01; decide))⟩
  have f53 : h50 x = some (.inr (11, [.int 0, .int 0, .ref q1, .null, .null])) := by rw [eh50, tw_up_n ne26]; exact f45
  refine tw_put rfl in_11 tyX7 tyX7_ok nmX7 3 dX7_init_23 w_1222 rfl (by decide) f53 rfl rfl rfl rfl (Nat.le_of_ble_eq_true rfl) [.int 0, .int 0, .ref q1, .ref q21, .null] rfl ?_
  obtain ⟨h54, eh54⟩ : ∃ z : tw_H, z = tw_up h50 x (.inr (11, [.int 0, .int 0, .ref q1, .ref q21, .null])) := ⟨_, rfl⟩
  rw [← eh54]
  have fr55 : ∀ b, b ≠ x → h b ≠ none → h54 b = h b := fun b n1 n2 => by rw [eh54, tw_up_n n1] <;> exact fr51 b n1 n2
  have sp56 : tw_sp d τ (tw_rm h x) g τ32 h54 := by rw [eh54]; exact sp52.wl tw_rm_s z37
  have f57 : h54 x = some (.inr (11, [.int 0, .int 0, .ref q1, .ref q21, .null])) := by rw [eh54]; exact tw_up_s
  refine tw_aload_n 0 dX7_init_26 rfl rfl ?_
  refine tw_iconst (v := 5) dX7_init_27 (by decide) ?_
  refine tw_newa (a0 := (5, .inl (fun _ => 0))) 0 rfl dX7_init_28 rfl w_500 (fun _ => rfl) (by decide) (by decide) (by decide) 0 0 (Nat.le_of_ble_eq_true rfl) (Nat.le_of_ble_eq_true rfl) (fun q58 hq59 hA60 => ?_)
  have n61 := sp56.nn hq59
  have z62 := sp56.1.none hq59
  have ne63 := tw_neF f57 hq59
  obtain ⟨h64, eh64⟩ : ∃ z : tw_H, z = tw_up h54 q58 (.inl (d.2 0, 5, .inl (fun _ => 0))) := ⟨_, rfl⟩
  rw [← eh64]
  have fr65 : ∀ b, b ≠ x → h b ≠ none → h64 b = h b := fun b n1 n2 => by rw [eh64, tw_up_n (fun z => n2 (tw_rmN n61 z n1))] <;> exact fr55 b n1 n2
  have sp66 : tw_sp d τ (tw_rm h x) g τ32 h64 := by rw [eh64]; exact sp56.mk hq59
  have f67 : h64 x = some (.inr (11, [.int 0, .int 0, .ref q1, .ref q21, .null])) := by rw [eh64, tw_up_n ne63]; exact f57
  have f68 : h64 q58 = some (.inl (d.2 0, 5, .inl (fun _ => 0))) := by rw [eh64]; exact tw_up_s
  obtain ⟨τ69, eτ69⟩ : ∃ z : tw_K, z = tw_ku τ32 q58 33 := ⟨_, rfl⟩
  have le70 : tw_le τ32 τ69 := by rw [eτ69]; exact tw_ku_le z62
  have k71 : τ69 q1 = 31 := le70.k k34 (by decide)
  have k72 : τ69 q21 = 32 := le70.k k36 (by decide)
  have sp73 : tw_sp d τ (tw_rm h x) g τ69 h64 := by rw [eτ69]; exact sp66.ty n61 z62 f68 (by rw [← eτ69]; exact ⟨_, rfl, fun _ => by decide⟩)
  have k74 : τ69 q58 = 33 := by rw [eτ69]; exact tw_ku_s
  have z75 : τ69 x = 0 := by rw [eτ69, tw_ku_n ne63]; exact z37
  refine tw_put rfl in_11 tyX7 tyX7_ok nmX7 4 dX7_init_30 w_1224 rfl (by decide) f67 rfl rfl rfl rfl (Nat.le_of_ble_eq_true rfl) [.int 0, .int 0, .ref q1, .ref q21, .ref q58] rfl ?_
  obtain ⟨h76, eh76⟩ : ∃ z : tw_H, z = tw_up h64 x (.inr (11, [.int 0, .int 0, .ref q1, .ref q21, .ref q58])) := ⟨_, rfl⟩
  rw [← eh76]
  have fr77 : ∀ b, b ≠ x → h b ≠ none → h76 b = h b := fun b n1 n2 => by rw [eh76, tw_up_n n1] <;> exact fr65 b n1 n2
  have sp78 : tw_sp d τ (tw_rm h x) g τ69 h76 := by rw [eh76]; exact sp73.wl tw_rm_s z75
  have f79 : h76 x = some (.inr (11, [.int 0, .int 0, .ref q1, .ref q21, .ref q58])) := by rw [eh76]; exact tw_up_s
  exact tw_vret dX7_init_33 rfl (Or.inl ⟨rfl, _, q1, q21, q58, sp78, f79, z75, k71, k72, k74, fr77⟩)

set_option maxHeartbeats 4000000 in
set_option maxRecDepth 100000 in
theorem c2_X9_init (d : tw_D) (g : tw_G) (τ : tw_K) (h : tw_H) (hw : tw_wt d g τ h) (x : Nat) (hz : τ x = 0) (hx : h x = some (.inr (13, [.int 0, .int 0, .int 0, .null]))) : tw_Ct d mX9_init 1 2 [.ref x] h (tw_qv (fun h1 => ∃ (τ1 : tw_K) (p : Nat), tw_sp d τ (tw_rm h x) g τ1 h1 ∧ h1 x = some (.inr (13, [.int 0, .int (-1), .int (-1), .ref p])) ∧ τ1 x = 0 ∧ τ1 p = 31 ∧ ∀ b, b ≠ x → h b ≠ none → h1 b = h b) tw_nx) := by
  refine tw_of (by decide +kernel) (Nat.le_of_ble_eq_true rfl) ?_
  show tw_W d mX9_init _ 0 [(0, .ref x)] [] h 1 2
  have sp0 := tw_sp.rm hw x
  have fr0 : ∀ b, b ≠ x → h b ≠ none → h b = h b := fun _ _ _ => rfl
  refine tw_aload_n 0 dX9_init_0 rfl rfl ?_
  refine tw_objInit dX9_init_1 w_1341 w_117 w_118 ⟨by decide, Nat.le_of_ble_eq_true rfl⟩ ?_
  refine tw_aload_n 0 dX9_init_4 rfl rfl ?_
  refine tw_iconst (v := -1) dX9_init_5 (by decide) ?_
  refine tw_put rfl in_13 tyX9 tyX9_ok nmX9 1 dX9_init_6 w_1343 rfl (by decide) hx rfl rfl rfl rfl (Nat.le_of_ble_eq_true rfl) [.int 0, .int (-1), .int 0, .null] rfl ?_
  obtain ⟨h1, eh1⟩ : ∃ z : tw_H, z = tw_up h x (.inr (13, [.int 0, .int (-1), .int 0, .null])) := ⟨_, rfl⟩
  rw [← eh1]
  have fr2 : ∀ b, b ≠ x → h b ≠ none → h1 b = h b := fun b n1 n2 => by rw [eh1, tw_up_n n1] <;> exact fr0 b n1 n2
  have sp3 : tw_sp d τ (tw_rm h x) g τ h1 := by rw [eh1]; exact sp0.wl tw_rm_s hz
  have f4 : h1 x = some (.inr (13, [.int 0, .int (-1), .int 0, .null])) := by rw [eh1]; exact tw_up_s
  refine tw_aload_n 0 dX9_init_9 rfl rfl ?_
  refine tw_iconst (v := -1) dX9_init_10 (by decide) ?_
  refine tw_put rfl in_13 tyX9 tyX9_ok nmX9 2 dX9_init_11 w_1345 rfl (by decide) f4 rfl rfl rfl rfl (Nat.le_of_ble_eq_true rfl) [.int 0, .int (-1), .int (-1), .null] rfl ?_
  obtain ⟨h5, eh5⟩ : ∃ z : tw_H, z = tw_up h1 x (.inr (13, [.int 0, .int (-1), .int (-1), .null])) := ⟨_, rfl⟩
  rw [← eh5]
  have fr6 : ∀ b, b ≠ x → h b ≠ none → h5 b = h b := fun b n1 n2 => by rw [eh5, tw_up_n n1] <;> exact fr2 b n1 n2
  have sp7 : tw_sp d τ (tw_rm h x) g τ h5 := by rw [eh5]; exact sp3.wl tw_rm_s hz
  have f8 : h5 x = some (.inr (13, [.int 0, .int (-1), .int (-1), .null])) := by rw [eh5]; exact tw_up_s
  refine tw_aload_n 0 dX9_init_14 rfl rfl ?_
  refine tw_iconst (v := 2) dX9_init_15 (by decide) ?_
  refine tw_newa (a0 := (2, .inr (.inl (fun _ => 0)))) 1 rfl dX9_init_16 rfl w_1150 (fun _ => rfl) (by decide) (by decide) (by decide) 0 0 (Nat.le_of_ble_eq_true rfl) (Nat.le_of_ble_eq_true rfl) (fun q9 hq10 hA11 => ?_)
  have n12 := sp7.nn hq10
  have z13 := sp7.1.none hq10
  have ne14 := tw_neF f8 hq10
  obtain ⟨h15, eh15⟩ : ∃ z : tw_H, z = tw_up h5 q9 (.inl (d.2 1, 2, .inr (.inl (fun _ => 0)))) := ⟨_, rfl⟩
  rw [← eh15]
  have fr16 : ∀ b, b ≠ x → h b ≠ none → h15 b = h b := fun b n1 n2 => by rw [eh15, tw_up_n (fun z => n2 (tw_rmN n12 z n1))] <;> exact fr6 b n1 n2
  have sp17 : tw_sp d τ (tw_rm h x) g τ h15 := by rw [eh15]; exact sp7.mk hq10
  have f18 : h15 x = some (.inr (13, [.int 0, .int (-1), .int (-1), .null])) := by rw [eh15, tw_up_n ne14]; exact f8
  have f19 : h15 q9 = some (.inl (d.2 1, 2, .inr (.inl (fun _ => 0)))) := by rw [eh15]; exact tw_up_s
  obtain ⟨τ20, eτ20⟩ : ∃ z : tw_K, z = tw_ku τ q9 31 := ⟨_, rfl⟩
  have le21 : tw_le τ τ20 := by rw [eτ20]; exact tw_ku_le z13
  have sp22 : tw_sp d τ (tw_rm h x) g τ20 h15 := by rw [eτ20]; exact sp17.ty n12 z13 f19 (by rw [← eτ20]; exact ⟨_, rfl⟩)
  have k23 : τ20 q9 = 31 := by rw [eτ20]; exact tw_ku_s
  have z24 : τ20 x = 0 := by rw [eτ20, tw_ku_n ne14]; exact hz
  refine tw_put rfl in_13 tyX9 tyX9_ok nmX9 3 dX9_init_18 w_1347 rfl (by decide) f18 rfl rfl rfl rfl (Nat.le_of_ble_eq_true rfl) [.int 0, .int (-1), .int (-1), .ref q9] rfl ?_
  obtain ⟨h25, eh25⟩ : ∃ z : tw_H, z = tw_up h15 x (.inr (13, [.int 0, .int (-1), .int (-1), .ref q9])) := ⟨_, rfl⟩
  rw [← eh25]
  have fr26 : ∀ b, b ≠ x → h b ≠ none → h25 b = h b := fun b n1 n2 => by rw [eh25, tw_up_n n1] <;> exact fr16 b n1 n2
  have sp27 : tw_sp d τ (tw_rm h x) g τ20 h25 := by rw [eh25]; exact sp22.wl tw_rm_s z24
  have f28 : h25 x = some (.inr (13, [.int 0, .int (-1), .int (-1), .ref q9])) := by rw [eh25]; exact tw_up_s
  exact tw_vret dX9_init_21 rfl (Or.inl ⟨rfl, _, q9, sp27, f28, z24, k23, fr26⟩)

set_option maxHeartbeats 4000000 in
set_option maxRecDepth 100000 in
theorem c2_X8_init (d : tw_D) (g : tw_G) (τ : tw_K) (h : tw_H) (hw : tw_wt d g τ h) (x : Nat) (hz : τ x = 0) (hx : h x = some (.inr (12, [.int 0, .int 0, .int 0, .int 0, .int 0]))) : tw_Ct d mX8_init 0 0 [.ref x] h (tw_qv (fun h1 => ∃ (τ1 : tw_K), tw_sp d τ (tw_rm h x) g τ1 h1 ∧ h1 x = some (.inr (12, [.int 0, .int 0, .int 0, .int 0, .int 0])) ∧ τ1 x = 0 ∧ ∀ b, b ≠ x → h b ≠ none → h1 b = h b) tw_nx) := by
  refine tw_of (by decide +kernel) (Nat.le_of_ble_eq_true rfl) ?_
  show tw_W d mX8_init _ 0 [(0, .ref x)] [] h 0 0
  have sp0 := tw_sp.rm hw x
  have fr0 : ∀ b, b ≠ x → h b ≠ none → h b = h b := fun _ _ _ => rfl
  refine tw_aload_n 0 dX8_init_0 rfl rfl ?_
  refine tw_objInit dX8_init_1 w_1442 w_117 w_118 ⟨by decide, Nat.le_of_ble_eq_true rfl⟩ ?_
  exact tw_vret dX8_init_4 rfl (Or.inl ⟨rfl, _, sp0, hx, hz, fr0⟩)

set_option maxHeartbeats 4000000 in
set_option maxRecDepth 100000 in
theorem c2_X10_country (d : tw_D) (g : tw_G) (τ : tw_K) (h : tw_H) (hw : tw_wt d g τ h) (x : Nat) (kx : τ x = 36) (r : Int32) (ct : Int32) (go : Int32) (si : Int32) : tw_Ct d mX10_country 10 60 [.ref x, .int r, .int ct, .int go, .int si] h (tw_qi (fun r9 h1 => ∃ g1 τ1, tw_sp d τ h g1 τ1 h1 ∧ ((¬ tw_RC r ct go si ∧ tw_th (h1 x) = 1 ∧ g1 = g) ∨ (tw_RC r ct go si ∧ ¬ g.2 3 < 4 ∧ tw_th (h1 x) = 2 ∧ g1 = g) ∨ (tw_RC r ct go si ∧ g.2 3 < 4 ∧ r9 = nI (g.2 3) ∧ tw_th (h1 x) = 0 ∧ tw_gk 3 g g1))) tw_nx) := by
  refine tw_of (by decide +kernel) (Nat.le_of_ble_eq_true rfl) ?_
  show tw_W d mX10_country _ 0 [(0, .ref x), (1, .int r), (2, .int ct), (3, .int go), (4, .int si)] [] h 10 60
  have sp0 := tw_sp.rf hw
  refine tw_aload_n 0 dX10_country_0 rfl rfl ?_
  refine tw_iload_n 1 dX10_country_1 rfl rfl ?_
  refine tw_bipush (v := 100) dX10_country_2 (by decide) ?_
  refine tw_sipush (v := 200) dX10_country_4 (by decide) ?_
  refine tw_bi (tw_callS (M := mX10_country) (pc := 7) okX10_isIn dX10_country_7 w_1196 [.int r, .int 100, .int 200] [.ref x] rfl rfl ⟨by decide, by decide⟩ (Nat.le_of_ble_eq_true rfl) (c_X10_isIn d g τ h sp0.1 r 100 200) 10 60 (Nat.le_of_ble_eq_true rfl) (Nat.le_of_ble_eq_true rfl)) (fun r3 h2 q1 => ?_) (fun E h1 q => q.elim)
  obtain ⟨q1e, q1d⟩ := q1
  rw [q1e]
  rcases q1d with ⟨q1r, q1n⟩ | ⟨q1r, q1a, q1b⟩
  · rw [q1r]
    refine tw_if_eq 44 dX10_country_10 (by decide) (fun _ => ?_) (fun c4 => absurd (by decide) c4)
    refine tw_iconst (v := 1) dX10_country_44 (by decide) ?_
    refine tw_goto 49 dX10_country_45 (by decide) ?_
    refine tw_iconst (v := 1) dX10_country_49 (by decide) ?_
    obtain ⟨e5, f6, th_7, td_8, ds_9, fr_10, ca_11, us_12, wo_13, cm_14, lc_15, lh_16, ld_17, rfl, k18, k19, k20, k21, k22, k23, k24, k25, k26, k27, k28, k29, k30, k31⟩ := sp0.1 x 36 kx (by decide)
    refine tw_bi (tw_callV (M := mX10_country) (pc := 50) okX10_start dX10_country_50 w_1200 rfl f6 [.int 1, .int 1] [] rfl rfl ⟨by decide, by decide⟩ (Nat.le_of_ble_eq_true rfl) (c_X10_start d g τ h sp0.1 x kx 1 1 (by decide)) 10 60 (Nat.le_of_ble_eq_true rfl) (Nat.le_of_ble_eq_true rfl)) (fun r34 h33 q32 => ?_) (fun E h1 q => q.elim)
    obtain ⟨e35, he36, hs37, hr38, hc39⟩ := q32
    obtain ⟨rz40, tz41⟩ := hc39.2 rfl
    have th42 : tw_th (h33 x) = 1 := by rw [he36, tw_up_s]; exact tz41
    have sp43 : tw_sp d τ h g τ h33 := by rw [he36]; exact sp0.set kx (by decide) hs37
    rw [rz40]
    refine tw_if_ne 80 dX10_country_53 (by decide) (fun _ => ?_) (fun c44 => absurd c44 (by decide))
    refine tw_iconst (v := 0) dX10_country_80 (by decide) ?_
    exact tw_iret dX10_country_81 rfl (Or.inl ⟨_, rfl, _, _, sp43, Or.inl ⟨fun z => q1n z.1, th42, rfl⟩⟩)
  · rw [q1r]
    refine tw_if_eq 44 dX10_country_10 (by decide) (fun c45 => absurd c45 (by decide)) (fun _ => ?_)
    refine tw_iload_n 2 dX10_country_13 rfl rfl ?_
    refine tw_iconst (v := 0) dX10_country_14 (by decide) ?_
    refine tw_bipush (v := 50) dX10_country_15 (by decide) ?_
    refine tw_bi (tw_callS (M := mX10_country) (pc := 17) okX10_isIn dX10_country_17 w_1196 [.int ct, .int 0, .int 50] [.ref x] rfl rfl ⟨by decide, by decide⟩ (Nat.le_of_ble_eq_true rfl) (c_X10_isIn d g τ h sp0.1 ct 0 50) 10 60 (Nat.le_of_ble_eq_true rfl) (Nat.le_of_ble_eq_true rfl)) (fun r48 h47 q46 => ?_) (fun E h1 q => q.elim)
    obtain ⟨q46e, q46d⟩ := q46
    rw [q46e]
    rcases q46d with ⟨q46r, q46n⟩ | ⟨q46r, q46a, q46b⟩
    · rw [q46r]
      refine tw_if_eq 44 dX10_country_20 (by decide) (fun _ => ?_) (fun c49 => absurd (by decide) c49)
      refine tw_iconst (v := 1) dX10_country_44 (by decide) ?_
      refine tw_goto 49 dX10_country_45 (by decide) ?_
      refine tw_iconst (v := 1) dX10_country_49 (by decide) ?_
      obtain ⟨e50, f51, th_52, td_53, ds_54, fr_55, ca_56, us_57, wo_58, cm_59, lc_60, lh_61, ld_62, rfl, k63, k64, k65, k66, k67, k68, k69, k70, k71, k72, k73, k74, k75, k76⟩ := sp0.1 x 36 kx (by decide)
      refine tw_bi (tw_callV (M := mX10_country) (pc := 50) okX10_start dX10_country_50 w_1200 rfl f51 [.int 1, .int 1] [] rfl rfl ⟨by decide, by decide⟩ (Nat.le_of_ble_eq_true rfl) (c_X10_start d g τ h sp0.1 x kx 1 1 (by decide)) 10 60 (Nat.le_of_ble_eq_true rfl) (Nat.le_of_ble_eq_true rfl)) (fun r79 h78 q77 => ?_) (fun E h1 q => q.elim)
      obtain ⟨e80, he81, hs82, hr83, hc84⟩ := q77
      obtain ⟨rz85, tz86⟩ := hc84.2 rfl
      have th87 : tw_th (h78 x) = 1 := by rw [he81, tw_up_s]; exact tz86
      have sp88 : tw_sp d τ h g τ h78 := by rw [he81]; exact sp0.set kx (by decide) hs82
      rw [rz85]
      refine tw_if_ne 80 dX10_country_53 (by decide) (fun _ => ?_) (fun c89 => absurd c89 (by decide))
      refine tw_iconst (v := 0) dX10_country_80 (by decide) ?_
      exact tw_iret dX10_country_81 rfl (Or.inl ⟨_, rfl, _, _, sp88, Or.inl ⟨fun z => q46n z.2.1, th87, rfl⟩⟩)
    · rw [q46r]
      refine tw_if_eq 44 dX10_country_20 (by decide) (fun c90 => absurd c90 (by decide)) (fun _ => ?_)
      refine tw_iload_n 3 dX10_country_23 rfl rfl ?_
      refine tw_iconst (v := 0) dX10_country_24 (by decide) ?_
      refine tw_ldc (v := 99999) dX10_country_25 w_1199 ?_
      refine tw_bi (tw_callS (M := mX10_country) (pc := 27) okX10_isIn dX10_country_27 w_1196 [.int go, .int 0, .int 99999] [.ref x] rfl rfl ⟨by decide, by decide⟩ (Nat.le_of_ble_eq_true rfl) (c_X10_isIn d g τ h sp0.1 go 0 99999) 10 60 (Nat.le_of_ble_eq_true rfl) (Nat.le_of_ble_eq_true rfl)) (fun r93 h92 q91 => ?_) (fun E h1 q => q.elim)
      obtain ⟨q91e, q91d⟩ := q91
      rw [q91e]
      rcases q91d with ⟨q91r, q91n⟩ | ⟨q91r, q91a, q91b⟩
      · rw [q91r]
        refine tw_if_eq 44 dX10_country_30 (by decide) (fun _ => ?_) (fun c94 => absurd (by decide) c94)
        refine tw_iconst (v := 1) dX10_country_44 (by decide) ?_
        refine tw_goto 49 dX10_country_45 (by decide) ?_
        refine tw_iconst (v := 1) dX10_country_49 (by decide) ?_
        obtain ⟨e95, f96, th_97, td_98, ds_99, fr_100, ca_101, us_102, wo_103, cm_104, lc_105, lh_106, ld_107, rfl, k108, k109, k110, k111, k112, k113, k114, k115, k116, k117, k118, k119, k120, k121⟩ := sp0.1 x 36 kx (by decide)
        refine tw_bi (tw_callV (M := mX10_country) (pc := 50) okX10_start dX10_country_50 w_1200 rfl f96 [.int 1, .int 1] [] rfl rfl ⟨by decide, by decide⟩ (Nat.le_of_ble_eq_true rfl) (c_X10_start d g τ h sp0.1 x kx 1 1 (by decide)) 10 60 (Nat.le_of_ble_eq_true rfl) (Nat.le_of_ble_eq_true rfl)) (fun r124 h123 q122 => ?_) (fun E h1 q => q.elim)
        obtain ⟨e125, he126, hs127, hr128, hc129⟩ := q122
        obtain ⟨rz130, tz131⟩ := hc129.2 rfl
        have th132 : tw_th (h123 x) = 1 := by rw [he126, tw_up_s]; exact tz131
        have sp133 : tw_sp d τ h g τ h123 := by rw [he126]; exact sp0.set kx (by decide) hs127
        rw [rz130]
        refine tw_if_ne 80 dX10_country_53 (by decide) (fun _ => ?_) (fun c134 => absurd c134 (by decide))
        refine tw_iconst (v := 0) dX10_country_80 (by decide) ?_
        exact tw_iret dX10_country_81 rfl (Or.inl ⟨_, rfl, _, _, sp133, Or.inl ⟨fun z => q91n z.2.2.1, th132, rfl⟩⟩)
      · rw [q91r]
        refine tw_if_eq 44 dX10_country_30 (by decide) (fun c135 => absurd c135 (by decide)) (fun _ => ?_)
        refine tw_iload 4 dX10_country_33 rfl ?_
        refine tw_iconst (v := 0) dX10_country_35 (by decide) ?_
        refine tw_ldc (v := 99999) dX10_country_36 w_1199 ?_
        refine tw_bi (tw_callS (M := mX10_country) (pc := 38) okX10_isIn dX10_country_38 w_1196 [.int si, .int 0, .int 99999] [.ref x] rfl rfl ⟨by decide, by decide⟩ (Nat.le_of_ble_eq_true rfl) (c_X10_isIn d g τ h sp0.1 si 0 99999) 10 60 (Nat.le_of_ble_eq_true rfl) (Nat.le_of_ble_eq_true rfl)) (fun r138 h137 q136 => ?_) (fun E h1 q => q.elim)
        obtain ⟨q136e, q136d⟩ := q136
        rw [q136e]
        rcases q136d with ⟨q136r, q136n⟩ | ⟨q136r, q136a, q136b⟩
        · rw [q136r]
          refine tw_if_ne 48 dX10_country_41 (by decide) (fun c139 => absurd (by decide) c139) (fun _ => ?_)
          refine tw_iconst (v := 1) dX10_country_44 (by decide) ?_
          refine tw_goto 49 dX10_country_45 (by decide) ?_
          refine tw_iconst (v := 1) dX10_country_49 (by decide) ?_
          obtain ⟨e140, f141, th_142, td_143, ds_144, fr_145, ca_146, us_147, wo_148, cm_149, lc_150, lh_151, ld_152, rfl, k153, k154, k155, k156, k157, k158, k159, k160, k161, k162, k163, k164, k165, k166⟩ := sp0.1 x 36 kx (by decide)
          refine tw_bi (tw_callV (M := mX10_country) (pc := 50) okX10_start dX10_country_50 w_1200 rfl f141 [.int 1, .int 1] [] rfl rfl ⟨by decide, by decide⟩ (Nat.le_of_ble_eq_true rfl) (c_X10_start d g τ h sp0.1 x kx 1 1 (by decide)) 10 60 (Nat.le_of_ble_eq_true rfl) (Nat.le_of_ble_eq_true rfl)) (fun r169 h168 q167 => ?_) (fun E h1 q => q.elim)
          obtain ⟨e170, he171, hs172, hr173, hc174⟩ := q167
          obtain ⟨rz175, tz176⟩ := hc174.2 rfl
          have th177 : tw_th (h168 x) = 1 := by rw [he171, tw_up_s]; exact tz176
          have sp178 : tw_sp d τ h g τ h168 := by rw [he171]; exact sp0.set kx (by decide) hs172
          rw [rz175]
          refine tw_if_ne 80 dX10_country_53 (by decide) (fun _ => ?_) (fun c179 => absurd c179 (by decide))
          refine tw_iconst (v := 0) dX10_country_80 (by decide) ?_
          exact tw_iret dX10_country_81 rfl (Or.inl ⟨_, rfl, _, _, sp178, Or.inl ⟨fun z => q136n z.2.2.2, th177, rfl⟩⟩)
        · rw [q136r]
          refine tw_if_ne 48 dX10_country_41 (by decide) (fun _ => ?_) (fun c180 => absurd c180 (by decide))
          refine tw_iconst (v := 0) dX10_country_48 (by decide) ?_
          refine tw_iconst (v := 1) dX10_country_49 (by decide) ?_
          obtain ⟨e181, f182, th_183, td_184, ds_185, fr_186, ca_187, us_188, wo_189, cm_190, lc_191, lh_192, ld_193, rfl, k194, k195, k196, k197, k198, k199, k200, k201, k202, k203, k204, k205, k206, k207⟩ := sp0.1 x 36 kx (by decide)
          refine tw_bi (tw_callV (M := mX10_country) (pc := 50) okX10_start dX10_country_50 w_1200 rfl f182 [.int 0, .int 1] [] rfl rfl ⟨by decide, by decide⟩ (Nat.le_of_ble_eq_true rfl) (c_X10_start d g τ h sp0.1 x kx 0 1 (by decide)) 10 60 (Nat.le_of_ble_eq_true rfl) (Nat.le_of_ble_eq_true rfl)) (fun r210 h209 q208 => ?_) (fun E h1 q => q.elim)
          obtain ⟨e211, he212, hs213, hr214, hc215⟩ := q208
          obtain ⟨rz216, tz217⟩ := hc215.1 rfl
          have th218 : tw_th (h209 x) = 0 := by rw [he212, tw_up_s]; exact tz217
          have sp219 : tw_sp d τ h g τ h209 := by rw [he212]; exact sp0.set kx (by decide) hs213
          rw [rz216]
          refine tw_if_ne 80 dX10_country_53 (by decide) (fun c220 => absurd (by decide) c220) (fun _ => ?_)
          refine tw_aload_n 0 dX10_country_56 rfl rfl ?_
          refine tw_aload_n 0 dX10_country_57 rfl rfl ?_
          obtain ⟨e221, f222, th_223, td_224, ds_225, fr_226, ca_227, us_228, wo_229, cm_230, lc_231, lh_232, ld_233, rfl, k234, k235, k236, k237, k238, k239, k240, k241, k242, k243, k244, k245, k246, k247⟩ := sp219.1 x 36 kx (by decide)
          refine tw_get (v := .ref lc_231) rfl in_14 9 dX10_country_58 w_1160 rfl (by decide) f222 rfl ?_
          obtain ⟨e248, f249, ⟨el250, rfl, k251⟩, k252⟩ := sp219.1 lc_231 24 k240 (by decide)
          refine tw_bi (tw_callV (M := mX10_country) (pc := 61) okJx4a65c_size_8abf5 dX10_country_61 w_1208 rfl f249 [] [.ref x] rfl rfl ⟨by decide, by decide⟩ (Nat.le_of_ble_eq_true rfl) (c24_size d g τ h209 sp219.1 lc_231 k240) 10 60 (Nat.le_of_ble_eq_true rfl) (Nat.le_of_ble_eq_true rfl)) (fun r255 h254 q253 => ?_) (fun E h1 q => q.elim)
          obtain ⟨q253e, q253r⟩ := q253
          rw [q253e, q253r]
          refine tw_iconst (v := 4) dX10_country_64 (by decide) ?_
          refine tw_icmp_ne 72 dX10_country_65 (by decide) (fun c256 => ?_) (fun c256 => ?_)
          · refine tw_iconst (v := 0) dX10_country_72 (by decide) ?_
            refine tw_iconst (v := 2) dX10_country_73 (by decide) ?_
            refine tw_bi (tw_callV (M := mX10_country) (pc := 74) okX10_refuse dX10_country_74 w_1204 rfl f222 [.int 0, .int 2] [] rfl rfl ⟨by decide, by decide⟩ (Nat.le_of_ble_eq_true rfl) (c_X10_refuse d g τ h209 sp219.1 x kx 0 2 (by decide)) 10 60 (Nat.le_of_ble_eq_true rfl) (Nat.le_of_ble_eq_true rfl)) (fun r259 h258 q257 => ?_) (fun E h1 q => q.elim)
            obtain ⟨e260, he261, hs262, hr263, hc264⟩ := q257
            obtain ⟨rz265, tz266⟩ := (hc264 th218).1 rfl
            have th267 : tw_th (h258 x) = 0 := by rw [he261, tw_up_s]; exact tz266
            have sp268 : tw_sp d τ h g τ h258 := by rw [he261]; exact sp219.set kx (by decide) hs262
            rw [rz265]
            refine tw_if_eq 82 dX10_country_77 (by decide) (fun _ => ?_) (fun c269 => absurd (by decide) c269)
            refine tw_new (ci := 11) rfl in_11 tyX7 tyX7_ok dX10_country_82 w_1212 w_1213 w_91 (fs := [.int 0, .int 0, .null, .null, .null]) (fun j hj => by rcases (show j = 0 ∨ j = 1 ∨ j = 2 ∨ j = 3 ∨ j = 4 by omega) with rfl | rfl | rfl | rfl | rfl <;> rfl) 9 55 (Nat.le_of_ble_eq_true rfl) (Nat.le_of_ble_eq_true rfl) (fun q270 hq271 hA272 => ?_)
            have n273 := sp268.nn hq271
            have z274 := sp268.1.none hq271
            obtain ⟨h275, eh275⟩ : ∃ z : tw_H, z = tw_up h258 q270 (.inr (11, [.int 0, .int 0, .null, .null, .null])) := ⟨_, rfl⟩
            rw [← eh275]
            have th276 : tw_th (h275 x) = 0 := by rw [eh275, tw_up_n (tw_thF sp268.1 kx hq271)]; exact th267
            have sp277 : tw_sp d τ h g τ h275 := by rw [eh275]; exact sp268.mk hq271
            have f278 : h275 q270 = some (.inr (11, [.int 0, .int 0, .null, .null, .null])) := by rw [eh275]; exact tw_up_s
            refine tw_dup dX10_country_85 rfl ?_
            refine tw_bv (tw_callIN (M := mX10_country) (pc := 86) okX7_init dX10_country_86 w_1214 rfl [] [.ref q270] rfl rfl ⟨by decide, by decide⟩ (Nat.le_of_ble_eq_true rfl) (c2_X7_init d g τ h275 sp277.1 q270 z274 f278) 6 46 (Nat.le_of_ble_eq_true rfl) (Nat.le_of_ble_eq_true rfl)) (fun h280 q279 => ?_) (fun E h1 q => q.elim)
            obtain ⟨τ281, v282, o283, t284, q279s, f285, z286, k287, k288, k289, fr291⟩ := q279
            have th292 : tw_th (h280 x) = 0 := by rw [fr291 x (tw_nz kx z274 (by decide)) (fun z => by obtain ⟨e, y, -⟩ := sp277.1 x 36 kx (by decide); rw [z] at y; cases y)]; exact th276
            have sp290 := sp277.trm n273 q279s
            have k293 : τ281 x = 36 := q279s.2.1.k kx (by decide)
            have k294 : τ281 ds_185 = 34 := q279s.2.1.k k194 (by decide)
            have k295 : τ281 fr_186 = 34 := q279s.2.1.k k195 (by decide)
            have k296 : τ281 ca_187 = 31 := q279s.2.1.k k196 (by decide)
            have k297 : τ281 us_188 = 31 := q279s.2.1.k k197 (by decide)
            have k298 : τ281 wo_189 = 31 := q279s.2.1.k k198 (by decide)
            have k299 : τ281 cm_190 = 31 := q279s.2.1.k k199 (by decide)
            have k300 : τ281 lc_191 = 24 := q279s.2.1.k k200 (by decide)
            have k301 : τ281 lh_192 = 25 := q279s.2.1.k k201 (by decide)
            have k302 : τ281 ld_193 = 26 := q279s.2.1.k k202 (by decide)
            have k303 : τ281 ds_225 = 34 := q279s.2.1.k k234 (by decide)
            have k304 : τ281 fr_226 = 34 := q279s.2.1.k k235 (by decide)
            have k305 : τ281 ca_227 = 31 := q279s.2.1.k k236 (by decide)
            have k306 : τ281 us_228 = 31 := q279s.2.1.k k237 (by decide)
            have k307 : τ281 wo_229 = 31 := q279s.2.1.k k238 (by decide)
            have k308 : τ281 cm_230 = 31 := q279s.2.1.k k239 (by decide)
            have k309 : τ281 lc_231 = 24 := q279s.2.1.k k240 (by decide)
            have k310 : τ281 lh_232 = 25 := q279s.2.1.k k241 (by decide)
            have k311 : τ281 ld_233 = 26 := q279s.2.1.k k242 (by decide)
            refine tw_astore [(5, .ref q270), (0, .ref x), (1, .int r), (2, .int ct), (3, .int go), (4, .int si)] dX10_country_89 (by decide) rfl ?_
            refine tw_aload 0 dX10_country_91 rfl ?_
            refine tw_iload_n 2 dX10_country_93 rfl rfl ?_
            refine tw_put rfl in_11 tyX7 tyX7_ok nmX7 0 dX10_country_94 w_1218 rfl (by decide) f285 rfl rfl rfl rfl (Nat.le_of_ble_eq_true rfl) [.int r, .int 0, .ref v282, .ref o283, .ref t284] rfl ?_
            obtain ⟨h312, eh312⟩ : ∃ z : tw_H, z = tw_up h280 q270 (.inr (11, [.int r, .int 0, .ref v282, .ref o283, .ref t284])) := ⟨_, rfl⟩
            rw [← eh312]
            have th313 : tw_th (h312 x) = 0 := by rw [eh312, tw_up_n (tw_nz k293 z286 (by decide))]; exact th292
            have sp314 : tw_sp d τ h g τ281 h312 := by rw [eh312]; exact sp290.wl n273 z286
            have f315 : h312 q270 = some (.inr (11, [.int r, .int 0, .ref v282, .ref o283, .ref t284])) := by rw [eh312]; exact tw_up_s
            refine tw_aload 0 dX10_country_97 rfl ?_
            refine tw_iload_n 3 dX10_country_99 rfl rfl ?_
            refine tw_put rfl in_11 tyX7 tyX7_ok nmX7 1 dX10_country_100 w_1219 rfl (by decide) f315 rfl rfl rfl rfl (Nat.le_of_ble_eq_true rfl) [.int r, .int ct, .ref v282, .ref o283, .ref t284] rfl ?_
            obtain ⟨h316, eh316⟩ : ∃ z : tw_H, z = tw_up h312 q270 (.inr (11, [.int r, .int ct, .ref v282, .ref o283, .ref t284])) := ⟨_, rfl⟩
            rw [← eh316]
            have th317 : tw_th (h316 x) = 0 := by rw [eh316, tw_up_n (tw_nz k293 z286 (by decide))]; exact th313
            have sp318 : tw_sp d τ h g τ281 h316 := by rw [eh316]; exact sp314.wl n273 z286
            have f319 : h316 q270 = some (.inr (11, [.int r, .int ct, .ref v282, .ref o283, .ref t284])) := by rw [eh316]; exact tw_up_s
            refine tw_aload 0 dX10_country_103 rfl ?_
            refine tw_get (v := .ref v282) rfl in_11 2 dX10_country_105 w_1221 rfl (by decide) f319 rfl ?_
            refine tw_iconst (v := 0) dX10_country_108 (by decide) ?_
            refine tw_iload_n 4 dX10_country_109 rfl rfl ?_
            refine tw_i2l dX10_country_110 ?_
            refine tw_nml (fun v320 ev320 => ?_)
            obtain ⟨e321, f322, F323, rfl⟩ := sp318.1 v282 31 k287 (by decide)
            refine tw_last dX10_country_111 f322 (vp_in_nI (n := 0) (by decide) (by decide)) ?_
            obtain ⟨h324, eh324⟩ : ∃ z : tw_H, z = tw_up h316 v282 (.inl (d.2 1, 2, .inr (.inl (vp_updL F323 (0 : Int32).toNatClampNeg v320)))) := ⟨_, rfl⟩
            rw [← eh324]
            have th325 : tw_th (h324 x) = 0 := by rw [eh324, tw_up_n (tw_nz k293 k287 (by decide))]; exact th317
            have sp326 : tw_sp d τ h g τ281 h324 := by rw [eh324]; exact sp318.set k287 (by decide) ⟨_, rfl⟩
            have f327 : h324 q270 = some (.inr (11, [.int r, .int ct, .ref v282, .ref o283, .ref t284])) := by rw [eh324, tw_up_n (fun q => absurd (z286) (by rw [q, k287]; decide))]; exact f319
            refine tw_aload 0 dX10_country_112 rfl ?_
            refine tw_get (v := .ref v282) rfl in_11 2 dX10_country_114 w_1221 rfl (by decide) f327 rfl ?_
            refine tw_iconst (v := 1) dX10_country_117 (by decide) ?_
            refine tw_iload 5 dX10_country_118 rfl ?_
            refine tw_i2l dX10_country_120 ?_
            refine tw_nml (fun v328 ev328 => ?_)
            obtain ⟨e329, f330, F331, rfl⟩ := sp326.1 v282 31 k287 (by decide)
            refine tw_last dX10_country_121 f330 (vp_in_nI (n := 1) (by decide) (by decide)) ?_
            obtain ⟨h332, eh332⟩ : ∃ z : tw_H, z = tw_up h324 v282 (.inl (d.2 1, 2, .inr (.inl (vp_updL F331 (1 : Int32).toNatClampNeg v328)))) := ⟨_, rfl⟩
            rw [← eh332]
            have th333 : tw_th (h332 x) = 0 := by rw [eh332, tw_up_n (tw_nz k293 k287 (by decide))]; exact th325
            have sp334 : tw_sp d τ h g τ281 h332 := by rw [eh332]; exact sp326.set k287 (by decide) ⟨_, rfl⟩
            have f335 : h332 q270 = some (.inr (11, [.int r, .int ct, .ref v282, .ref o283, .ref t284])) := by rw [eh332, tw_up_n (fun q => absurd (z286) (by rw [q, k287]; decide))]; exact f327
            refine tw_aload_n 1 dX10_country_122 rfl rfl ?_
            obtain ⟨e336, f337, th_338, td_339, ds_340, fr_341, ca_342, us_343, wo_344, cm_345, lc_346, lh_347, ld_348, rfl, k349, k350, k351, k352, k353, k354, k355, k356, k357, k358, k359, k360, k361, k362⟩ := sp334.1 x 36 k293 (by decide)
            refine tw_get (v := .ref cm_345) rfl in_14 8 dX10_country_123 w_1159 rfl (by decide) f337 rfl ?_
            refine tw_iconst (v := 0) dX10_country_126 (by decide) ?_
            refine tw_dup2 dX10_country_127 rfl rfl ?_
            obtain ⟨e363, f364, F365, rfl⟩ := sp334.1 cm_345 31 k354 (by decide)
            obtain ⟨v366, ev366⟩ : ∃ y : Int64, F365 (0 : Int32).toNatClampNeg = y := ⟨_, rfl⟩
            refine tw_lald (v := v366) dX10_country_128 f364 (vp_in_nI (n := 0) (by decide) (by decide)) ev366 ?_
            refine tw_iload_n 4 dX10_country_129 rfl rfl ?_
            refine tw_i2l dX10_country_130 ?_
            refine tw_nml (fun v367 ev367 => ?_)
            refine tw_ladd dX10_country_131 ?_
            refine tw_nml (fun v368 ev368 => ?_)
            refine tw_last dX10_country_132 f364 (vp_in_nI (n := 0) (by decide) (by decide)) ?_
            obtain ⟨h369, eh369⟩ : ∃ z : tw_H, z = tw_up h332 cm_345 (.inl (d.2 1, 2, .inr (.inl (vp_updL F365 (0 : Int32).toNatClampNeg v368)))) := ⟨_, rfl⟩
            rw [← eh369]
            have th370 : tw_th (h369 x) = 0 := by rw [eh369, tw_up_n (tw_nz k293 k354 (by decide))]; exact th333
            have sp371 : tw_sp d τ h g τ281 h369 := by rw [eh369]; exact sp334.set k354 (by decide) ⟨_, rfl⟩
            have f372 : h369 q270 = some (.inr (11, [.int r, .int ct, .ref v282, .ref o283, .ref t284])) := by rw [eh369, tw_up_n (fun q => absurd (z286) (by rw [q, k354]; decide))]; exact f335
            refine tw_aload_n 1 dX10_country_133 rfl rfl ?_
            obtain ⟨e373, f374, th_375, td_376, ds_377, fr_378, ca_379, us_380, wo_381, cm_382, lc_383, lh_384, ld_385, rfl, k386, k387, k388, k389, k390, k391, k392, k393, k394, k395, k396, k397, k398, k399⟩ := sp371.1 x 36 k293 (by decide)
            refine tw_get (v := .ref cm_382) rfl in_14 8 dX10_country_134 w_1159 rfl (by decide) f374 rfl ?_
            refine tw_iconst (v := 1) dX10_country_137 (by decide) ?_
            refine tw_dup2 dX10_country_138 rfl rfl ?_
            obtain ⟨e400, f401, F402, rfl⟩ := sp371.1 cm_382 31 k391 (by decide)
            obtain ⟨v403, ev403⟩ : ∃ y : Int64, F402 (1 : Int32).toNatClampNeg = y := ⟨_, rfl⟩
            refine tw_lald (v := v403) dX10_country_139 f401 (vp_in_nI (n := 1) (by decide) (by decide)) ev403 ?_
            refine tw_iload 5 dX10_country_140 rfl ?_
            refine tw_i2l dX10_country_142 ?_
            refine tw_nml (fun v404 ev404 => ?_)
            refine tw_ladd dX10_country_143 ?_
            refine tw_nml (fun v405 ev405 => ?_)
            refine tw_last dX10_country_144 f401 (vp_in_nI (n := 1) (by decide) (by decide)) ?_
            obtain ⟨h406, eh406⟩ : ∃ z : tw_H, z = tw_up h369 cm_382 (.inl (d.2 1, 2, .inr (.inl (vp_updL F402 (1 : Int32).toNatClampNeg v405)))) := ⟨_, rfl⟩
            rw [← eh406]
            have th407 : tw_th (h406 x) = 0 := by rw [eh406, tw_up_n (tw_nz k293 k391 (by decide))]; exact th370
            have sp408 : tw_sp d τ h g τ281 h406 := by rw [eh406]; exact sp371.set k391 (by decide) ⟨_, rfl⟩
            have f409 : h406 q270 = some (.inr (11, [.int r, .int ct, .ref v282, .ref o283, .ref t284])) := by rw [eh406, tw_up_n (fun q => absurd (z286) (by rw [q, k391]; decide))]; exact f372
            refine tw_aload_n 1 dX10_country_145 rfl rfl ?_
            obtain ⟨e410, f411, th_412, td_413, ds_414, fr_415, ca_416, us_417, wo_418, cm_419, lc_420, lh_421, ld_422, rfl, k423, k424, k425, k426, k427, k428, k429, k430, k431, k432, k433, k434, k435, k436⟩ := sp408.1 x 36 k293 (by decide)
            refine tw_get (v := .ref lc_420) rfl in_14 9 dX10_country_146 w_1160 rfl (by decide) f411 rfl ?_
            refine tw_aload 0 dX10_country_149 rfl ?_
            obtain ⟨τ437, eτ437⟩ : ∃ z : tw_K, z = tw_ku τ281 q270 21 := ⟨_, rfl⟩
            have le438 : tw_le τ281 τ437 := by rw [eτ437]; exact tw_ku_le z286
            have k439 : τ437 x = 36 := le438.k k293 (by decide)
            have k440 : τ437 ds_185 = 34 := le438.k k294 (by decide)
            have k441 : τ437 fr_186 = 34 := le438.k k295 (by decide)
            have k442 : τ437 ca_187 = 31 := le438.k k296 (by decide)
            have k443 : τ437 us_188 = 31 := le438.k k297 (by decide)
            have k444 : τ437 wo_189 = 31 := le438.k k298 (by decide)
            have k445 : τ437 cm_190 = 31 := le438.k k299 (by decide)
            have k446 : τ437 lc_191 = 24 := le438.k k300 (by decide)
            have k447 : τ437 lh_192 = 25 := le438.k k301 (by decide)
            have k448 : τ437 ld_193 = 26 := le438.k k302 (by decide)
            have k449 : τ437 ds_225 = 34 := le438.k k303 (by decide)
            have k450 : τ437 fr_226 = 34 := le438.k k304 (by decide)
            have k451 : τ437 ca_227 = 31 := le438.k k305 (by decide)
            have k452 : τ437 us_228 = 31 := le438.k k306 (by decide)
            have k453 : τ437 wo_229 = 31 := le438.k k307 (by decide)
            have k454 : τ437 cm_230 = 31 := le438.k k308 (by decide)
            have k455 : τ437 lc_231 = 24 := le438.k k309 (by decide)
            have k456 : τ437 lh_232 = 25 := le438.k k310 (by decide)
            have k457 : τ437 ld_233 = 26 := le438.k k311 (by decide)
            have k458 : τ437 v282 = 31 := le438.k k287 (by decide)
            have k459 : τ437 o283 = 32 := le438.k k288 (by decide)
            have k460 : τ437 t284 = 33 := le438.k k289 (by decide)
            have k461 : τ437 ds_340 = 34 := le438.k k349 (by decide)
            have k462 : τ437 fr_341 = 34 := le438.k k350 (by decide)
            have k463 : τ437 ca_342 = 31 := le438.k k351 (by decide)
            have k464 : τ437 us_343 = 31 := le438.k k352 (by decide)
            have k465 : τ437 wo_344 = 31 := le438.k k353 (by decide)
            have k466 : τ437 cm_345 = 31 := le438.k k354 (by decide)
            have k467 : τ437 lc_346 = 24 := le438.k k355 (by decide)
            have k468 : τ437 lh_347 = 25 := le438.k k356 (by decide)
            have k469 : τ437 ld_348 = 26 := le438.k k357 (by decide)
            have k470 : τ437 ds_377 = 34 := le438.k k386 (by decide)
            have k471 : τ437 fr_378 = 34 := le438.k k387 (by decide)
            have k472 : τ437 ca_379 = 31 := le438.k k388 (by decide)
            have k473 : τ437 us_380 = 31 := le438.k k389 (by decide)
            have k474 : τ437 wo_381 = 31 := le438.k k390 (by decide)
            have k475 : τ437 cm_382 = 31 := le438.k k391 (by decide)
            have k476 : τ437 lc_383 = 24 := le438.k k392 (by decide)
            have k477 : τ437 lh_384 = 25 := le438.k k393 (by decide)
            have k478 : τ437 ld_385 = 26 := le438.k k394 (by decide)
            have k479 : τ437 ds_414 = 34 := le438.k k423 (by decide)
            have k480 : τ437 fr_415 = 34 := le438.k k424 (by decide)
            have k481 : τ437 ca_416 = 31 := le438.k k425 (by decide)
            have k482 : τ437 us_417 = 31 := le438.k k426 (by decide)
            have k483 : τ437 wo_418 = 31 := le438.k k427 (by decide)
            have k484 : τ437 cm_419 = 31 := le438.k k428 (by decide)
            have k485 : τ437 lc_420 = 24 := le438.k k429 (by decide)
            have k486 : τ437 lh_421 = 25 := le438.k k430 (by decide)
            have k487 : τ437 ld_422 = 26 := le438.k k431 (by decide)
            have sp488 : tw_sp d τ h g τ437 h406 := by rw [eτ437]; exact sp408.ty n273 z286 f409 (by rw [← eτ437]; exact ⟨r, ct, v282, o283, t284, rfl, k458, k459, k460, q1a, q1b⟩)
            have k489 : τ437 q270 = 21 := by rw [eτ437]; exact tw_ku_s
            obtain ⟨e490, f491, ⟨el492, rfl, k493⟩, k494⟩ := sp488.1 lc_420 24 k485 (by decide)
            have hb9 : g.2 3 + 1 ≤ 4 := (tw_n4 c256 k432 (by decide))
            rcases k493 with k493p | k493p
            · obtain ⟨pa, pn, pf⟩ := k493p
              subst pa
              have f9 : h406 lc_420 = some (.inr (3, [.int (g.1 3), .ref (d.2 102), .int (nI 0)])) := by have z := f491; rw [pn] at z; exact z
              refine tw_bi (tw_callV (M := mX10_country) (pc := 151) okJx4a65c_add_9ea2d dX10_country_151 w_1238 rfl f491 [.ref q270] [] rfl rfl ⟨by decide, by decide⟩ (Nat.le_of_ble_eq_true rfl) (c_add_new d h406 lc_420 (g.1 3) f9 q270 11 _ _ rfl (ng_11) f409 (by decide)) 5 36 (Nat.le_of_ble_eq_true rfl) (Nat.le_of_ble_eq_true rfl)) (fun r9 h495 q9 => ?_) (fun E h1 q => q.elim)
              obtain ⟨r8, hr8, q1, q2, q3⟩ := q9
              have th496 : tw_th (h495 x) = 0 := by rw [q3 x (tw_nz k439 k485 (by decide)) (tw_thF sp488.1 k439 hr8)]; exact th407
              obtain ⟨g9, τ9, ⟨hga, hg1⟩, sp9⟩ := tw_gadd24 (F := fun _ => none) sp488.1 k485 k489 hb9 (fun j hj => by rw [pn] at hj; exact absurd hj (Nat.not_lt_zero _)) (Or.inr ⟨hr8, pf⟩) (by rw [pn]; exact q1) (by rw [pn]; exact q2) q3
              have sp497 := sp488.tr sp9
              have k498 : τ9 x = 36 := sp9.2.1.k k439 (by decide)
              have k499 : τ9 ds_185 = 34 := sp9.2.1.k k440 (by decide)
              have k500 : τ9 fr_186 = 34 := sp9.2.1.k k441 (by decide)
              have k501 : τ9 ca_187 = 31 := sp9.2.1.k k442 (by decide)
              have k502 : τ9 us_188 = 31 := sp9.2.1.k k443 (by decide)
              have k503 : τ9 wo_189 = 31 := sp9.2.1.k k444 (by decide)
              have k504 : τ9 cm_190 = 31 := sp9.2.1.k k445 (by decide)
              have k505 : τ9 lc_191 = 24 := sp9.2.1.k k446 (by decide)
              have k506 : τ9 lh_192 = 25 := sp9.2.1.k k447 (by decide)
              have k507 : τ9 ld_193 = 26 := sp9.2.1.k k448 (by decide)
              have k508 : τ9 ds_225 = 34 := sp9.2.1.k k449 (by decide)
              have k509 : τ9 fr_226 = 34 := sp9.2.1.k k450 (by decide)
              have k510 : τ9 ca_227 = 31 := sp9.2.1.k k451 (by decide)
              have k511 : τ9 us_228 = 31 := sp9.2.1.k k452 (by decide)
              have k512 : τ9 wo_229 = 31 := sp9.2.1.k k453 (by decide)
              have k513 : τ9 cm_230 = 31 := sp9.2.1.k k454 (by decide)
              have k514 : τ9 lc_231 = 24 := sp9.2.1.k k455 (by decide)
              have k515 : τ9 lh_232 = 25 := sp9.2.1.k k456 (by decide)
              have k516 : τ9 ld_233 = 26 := sp9.2.1.k k457 (by decide)
              have k517 : τ9 v282 = 31 := sp9.2.1.k k458 (by decide)
              have k518 : τ9 o283 = 32 := sp9.2.1.k k459 (by decide)
              have k519 : τ9 t284 = 33 := sp9.2.1.k k460 (by decide)
              have k520 : τ9 ds_340 = 34 := sp9.2.1.k k461 (by decide)
              have k521 : τ9 fr_341 = 34 := sp9.2.1.k k462 (by decide)
              have k522 : τ9 ca_342 = 31 := sp9.2.1.k k463 (by decide)
              have k523 : τ9 us_343 = 31 := sp9.2.1.k k464 (by decide)
              have k524 : τ9 wo_344 = 31 := sp9.2.1.k k465 (by decide)
              have k525 : τ9 cm_345 = 31 := sp9.2.1.k k466 (by decide)
              have k526 : τ9 lc_346 = 24 := sp9.2.1.k k467 (by decide)
              have k527 : τ9 lh_347 = 25 := sp9.2.1.k k468 (by decide)
              have k528 : τ9 ld_348 = 26 := sp9.2.1.k k469 (by decide)
              have k529 : τ9 ds_377 = 34 := sp9.2.1.k k470 (by decide)
              have k530 : τ9 fr_378 = 34 := sp9.2.1.k k471 (by decide)
              have k531 : τ9 ca_379 = 31 := sp9.2.1.k k472 (by decide)
              have k532 : τ9 us_380 = 31 := sp9.2.1.k k473 (by decide)
              have k533 : τ9 wo_381 = 31 := sp9.2.1.k k474 (by decide)
              have k534 : τ9 cm_382 = 31 := sp9.2.1.k k475 (by decide)
              have k535 : τ9 lc_383 = 24 := sp9.2.1.k k476 (by decide)
              have k536 : τ9 lh_384 = 25 := sp9.2.1.k k477 (by decide)
              have k537 : τ9 ld_385 = 26 := sp9.2.1.k k478 (by decide)
              have k538 : τ9 ds_414 = 34 := sp9.2.1.k k479 (by decide)
              have k539 : τ9 fr_415 = 34 := sp9.2.1.k k480 (by decide)
              have k540 : τ9 ca_416 = 31 := sp9.2.1.k k481 (by decide)
              have k541 : τ9 us_417 = 31 := sp9.2.1.k k482 (by decide)
              have k542 : τ9 wo_418 = 31 := sp9.2.1.k k483 (by decide)
              have k543 : τ9 cm_419 = 31 := sp9.2.1.k k484 (by decide)
              have k544 : τ9 lc_420 = 24 := sp9.2.1.k k485 (by decide)
              have k545 : τ9 lh_421 = 25 := sp9.2.1.k k486 (by decide)
              have k546 : τ9 ld_422 = 26 := sp9.2.1.k k487 (by decide)
              have k547 : τ9 q270 = 21 := sp9.2.1.k k489 (by decide)
              refine tw_pop dX10_country_154 rfl ?_
              refine tw_aload_n 1 dX10_country_155 rfl rfl ?_
              obtain ⟨e548, f549, th_550, td_551, ds_552, fr_553, ca_554, us_555, wo_556, cm_557, lc_558, lh_559, ld_560, rfl, k561, k562, k563, k564, k565, k566, k567, k568, k569, k570, k571, k572, k573, k574⟩ := sp497.1 x 36 k498 (by decide)
              refine tw_get (v := .ref lc_558) rfl in_14 9 dX10_country_156 w_1160 rfl (by decide) f549 rfl ?_
              obtain ⟨e575, f576, ⟨el577, rfl, k578⟩, k579⟩ := sp497.1 lc_558 24 k567 (by decide)
              refine tw_bi (tw_callV (M := mX10_country) (pc := 159) okJx4a65c_size_8abf5 dX10_country_159 w_1208 rfl f576 [] [] rfl rfl ⟨by decide, by decide⟩ (Nat.le_of_ble_eq_true rfl) (c24_size d g9 τ9 h495 sp497.1 lc_558 k567) 5 36 (Nat.le_of_ble_eq_true rfl) (Nat.le_of_ble_eq_true rfl)) (fun r582 h581 q580 => ?_) (fun E h1 q => q.elim)
              obtain ⟨q580e, q580r⟩ := q580
              rw [q580e, q580r]
              refine tw_iconst (v := 1) dX10_country_162 (by decide) ?_
              refine tw_isub dX10_country_163 ?_
              refine tw_nmi (fun v583 ev583 => ?_)
              exact tw_iret dX10_country_164 rfl (Or.inl ⟨_, rfl, _, _, sp497, Or.inr (Or.inr ⟨⟨⟨q1a, q1b⟩, ⟨q46a, q46b⟩, ⟨q91a, q91b⟩, ⟨q136a, q136b⟩⟩, by omega, by rw [ev583, hg1.1]; exact nI_pred _, th496, hga, hg1⟩)⟩)
            · obtain ⟨e9, fa9, ⟨F9, rfl, hc9, h49⟩, un9⟩ := sp488.1 el492 27 k493p (by decide)
              refine tw_bi (tw_callV (M := mX10_country) (pc := 151) okJx4a65c_add_9ea2d dX10_country_151 w_1238 rfl f491 [.ref q270] [] rfl rfl ⟨by decide, by decide⟩ (Nat.le_of_ble_eq_true rfl) (c_add_old d h406 lc_420 el492 (g.2 3) F9 (g.1 3) (by omega) f491 fa9 q270 11 _ _ rfl (ng_11) f409 (by decide)) 5 36 (Nat.le_of_ble_eq_true rfl) (Nat.le_of_ble_eq_true rfl)) (fun r9 h584 q9 => ?_) (fun E h1 q => q.elim)
              obtain ⟨q1, q2, q3⟩ := q9
              have th585 : tw_th (h584 x) = 0 := by rw [q3 x (tw_nz k439 k485 (by decide)) (tw_nz k439 k493p (by decide))]; exact th407
              obtain ⟨g9, τ9, ⟨hga, hg1⟩, sp9⟩ := tw_gadd24 sp488.1 k485 k489 hb9 h49 (Or.inl k493p) q1 q2 q3
              have sp586 := sp488.tr sp9
              have k587 : τ9 x = 36 := sp9.2.1.k k439 (by decide)
              have k588 : τ9 ds_185 = 34 := sp9.2.1.k k440 (by decide)
              have k589 : τ9 fr_186 = 34 := sp9.2.1.k k441 (by decide)
              have k590 : τ9 ca_187 = 31 := sp9.2.1.k k442 (by decide)
              have k591 : τ9 us_188 = 31 := sp9.2.1.k k443 (by decide)
              have k592 : τ9 wo_189 = 31 := sp9.2.1.k k444 (by decide)
              have k593 : τ9 cm_190 = 31 := sp9.2.1.k k445 (by decide)
              have k594 : τ9 lc_191 = 24 := sp9.2.1.k k446 (by decide)
              have k595 : τ9 lh_192 = 25 := sp9.2.1.k k447 (by decide)
              have k596 : τ9 ld_193 = 26 := sp9.2.1.k k448 (by decide)
              have k597 : τ9 ds_225 = 34 := sp9.2.1.k k449 (by decide)
              have k598 : τ9 fr_226 = 34 := sp9.2.1.k k450 (by decide)
              have k599 : τ9 ca_227 = 31 := sp9.2.1.k k451 (by decide)
              have k600 : τ9 us_228 = 31 := sp9.2.1.k k452 (by decide)
              have k601 : τ9 wo_229 = 31 := sp9.2.1.k k453 (by decide)
              have k602 : τ9 cm_230 = 31 := sp9.2.1.k k454 (by decide)
              have k603 : τ9 lc_231 = 24 := sp9.2.1.k k455 (by decide)
              have k604 : τ9 lh_232 = 25 := sp9.2.1.k k456 (by decide)
              have k605 : τ9 ld_233 = 26 := sp9.2.1.k k457 (by decide)
              have k606 : τ9 v282 = 31 := sp9.2.1.k k458 (by decide)
              have k607 : τ9 o283 = 32 := sp9.2.1.k k459 (by decide)
              have k608 : τ9 t284 = 33 := sp9.2.1.k k460 (by decide)
              have k609 : τ9 ds_340 = 34 := sp9.2.1.k k461 (by decide)
              have k610 : τ9 fr_341 = 34 := sp9.2.1.k k462 (by decide)
              have k611 : τ9 ca_342 = 31 := sp9.2.1.k k463 (by decide)
              have k612 : τ9 us_343 = 31 := sp9.2.1.k k464 (by decide)
              have k613 : τ9 wo_344 = 31 := sp9.2.1.k k465 (by decide)
              have k614 : τ9 cm_345 = 31 := sp9.2.1.k k466 (by decide)
              have k615 : τ9 lc_346 = 24 := sp9.2.1.k k467 (by decide)
              have k616 : τ9 lh_347 = 25 := sp9.2.1.k k468 (by decide)
              have k617 : τ9 ld_348 = 26 := sp9.2.1.k k469 (by decide)
              have k618 : τ9 ds_377 = 34 := sp9.2.1.k k470 (by decide)
              have k619 : τ9 fr_378 = 34 := sp9.2.1.k k471 (by decide)
              have k620 : τ9 ca_379 = 31 := sp9.2.1.k k472 (by decide)
              have k621 : τ9 us_380 = 31 := sp9.2.1.k k473 (by decide)
              have k622 : τ9 wo_381 = 31 := sp9.2.1.k k474 (by decide)
              have k623 : τ9 cm_382 = 31 := sp9.2.1.k k475 (by decide)
              have k624 : τ9 lc_383 = 24 := sp9.2.1.k k476 (by decide)
              have k625 : τ9 lh_384 = 25 := sp9.2.1.k k477 (by decide)
              have k626 : τ9 ld_385 = 26 := sp9.2.1.k k478 (by decide)
              have k627 : τ9 ds_414 = 34 := sp9.2.1.k k479 (by decide)
              have k628 : τ9 fr_415 = 34 := sp9.2.1.k k480 (by decide)
              have k629 : τ9 ca_416 = 31 := sp9.2.1.k k481 (by decide)
              have k630 : τ9 us_417 = 31 := sp9.2.1.k k482 (by decide)
              have k631 : τ9 wo_418 = 31 := sp9.2.1.k k483 (by decide)
              have k632 : τ9 cm_419 = 31 := sp9.2.1.k k484 (by decide)
              have k633 : τ9 lc_420 = 24 := sp9.2.1.k k485 (by decide)
              have k634 : τ9 lh_421 = 25 := sp9.2.1.k k486 (by decide)
              have k635 : τ9 ld_422 = 26 := sp9.2.1.k k487 (by decide)
              have k636 : τ9 q270 = 21 := sp9.2.1.k k489 (by decide)
              refine tw_pop dX10_country_154 rfl ?_
              refine tw_aload_n 1 dX10_country_155 rfl rfl ?_
              obtain ⟨e637, f638, th_639, td_640, ds_641, fr_642, ca_643, us_644, wo_645, cm_646, lc_647, lh_648, ld_649, rfl, k650, k651, k652, k653, k654, k655, k656, k657, k658, k659, k660, k661, k662, k663⟩ := sp586.1 x 36 k587 (by decide)
              refine tw_get (v := .ref lc_647) rfl in_14 9 dX10_country_156 w_1160 rfl (by decide) f638 rfl ?_
              obtain ⟨e664, f665, ⟨el666, rfl, k667⟩, k668⟩ := sp586.1 lc_647 24 k656 (by decide)
              refine tw_bi (tw_callV (M := mX10_country) (pc := 159) okJx4a65c_size_8abf5 dX10_country_159 w_1208 rfl f665 [] [] rfl rfl ⟨by decide, by decide⟩ (Nat.le_of_ble_eq_true rfl) (c24_size d g9 τ9 h584 sp586.1 lc_647 k656) 5 36 (Nat.le_of_ble_eq_true rfl) (Nat.le_of_ble_eq_true rfl)) (fun r671 h670 q669 => ?_) (fun E h1 q => q.elim)
              obtain ⟨q669e, q669r⟩ := q669
              rw [q669e, q669r]
              refine tw_iconst (v := 1) dX10_country_162 (by decide) ?_
              refine tw_isub dX10_country_163 ?_
              refine tw_nmi (fun v672 ev672 => ?_)
              exact tw_iret dX10_country_164 rfl (Or.inl ⟨_, rfl, _, _, sp586, Or.inr (Or.inr ⟨⟨⟨q1a, q1b⟩, ⟨q46a, q46b⟩, ⟨q91a, q91b⟩, ⟨q136a, q136b⟩⟩, by omega, by rw [ev672, hg1.1]; exact nI_pred _, th585, hga, hg1⟩)⟩)
          · refine tw_iconst (v := 1) dX10_country_68 (by decide) ?_
            refine tw_goto 73 dX10_country_69 (by decide) ?_
            refine tw_iconst (v := 2) dX10_country_73 (by decide) ?_
            refine tw_bi (tw_callV (M := mX10_country) (pc := 74) okX10_refuse dX10_country_74 w_1204 rfl f222 [.int 1, .int 2] [] rfl rfl ⟨by decide, by decide⟩ (Nat.le_of_ble_eq_true rfl) (c_X10_refuse d g τ h209 sp219.1 x kx 1 2 (by decide)) 10 60 (Nat.le_of_ble_eq_true rfl) (Nat.le_of_ble_eq_true rfl)) (fun r675 h674 q673 => ?_) (fun E h1 q => q.elim)
            obtain ⟨e676, he677, hs678, hr679, hc680⟩ := q673
            obtain ⟨rz681, tz682⟩ := (hc680 th218).2 rfl
            have th683 : tw_th (h674 x) = 2 := by rw [he677, tw_up_s]; exact tz682
            have sp684 : tw_sp d τ h g τ h674 := by rw [he677]; exact sp219.set kx (by decide) hs678
            rw [rz681]
            refine tw_if_eq 82 dX10_country_77 (by decide) (fun c685 => absurd c685 (by decide)) (fun _ => ?_)
            refine tw_iconst (v := 0) dX10_country_80 (by decide) ?_
            exact tw_iret dX10_country_81 rfl (Or.inl ⟨_, rfl, _, _, sp684, Or.inr (Or.inl ⟨⟨⟨q1a, q1b⟩, ⟨q46a, q46b⟩, ⟨q91a, q91b⟩, ⟨q136a, q136b⟩⟩, fun z => absurd (tw_nIj (a := g.2 3) (b := 4) c256 (by omega) (by decide)) (by omega), th683, rfl⟩)⟩)

set_option maxHeartbeats 4000000 in
set_option maxRecDepth 100000 in
theorem c2_X10_house (d : tw_D) (g : tw_G) (τ : tw_K) (h : tw_H) (hw : tw_wt d g τ h) (x : Nat) (kx : τ x = 36) (a : Int32) (go : Int32) (si : Int32) : tw_Ct d mX10_house 10 60 [.ref x, .int a, .int go, .int si] h (tw_qi (fun r h1 => ∃ g1 τ1, (g1 = g ∨ tw_gk 4 g g1) ∧ tw_sp d τ h g1 τ1 h1) tw_nx) := by
  refine tw_of (by decide +kernel) (Nat.le_of_ble_eq_true rfl) ?_
  show tw_W d mX10_house _ 0 [(0, .ref x), (1, .int a), (2, .int go), (3, .int si)] [] h 10 60
  have sp0 := tw_sp.rf hw
  refine tw_aload_n 0 dX10_house_0 rfl rfl ?_
  refine tw_aload_n 0 dX10_house_1 rfl rfl ?_
  refine tw_iload_n 1 dX10_house_2 rfl rfl ?_
  obtain ⟨e1, f2, th_3, td_4, ds_5, fr_6, ca_7, us_8, wo_9, cm_10, lc_11, lh_12, ld_13, rfl, k14, k15, k16, k17, k18, k19, k20, k21, k22, k23, k24, k25, k26, k27⟩ := sp0.1 x 36 kx (by decide)
  refine tw_bi (tw_callV (M := mX10_house) (pc := 3) okX10_isNoCountry dX10_house_3 w_1292 rfl f2 [.int a] [.ref x] rfl rfl ⟨by decide, by decide⟩ (Nat.le_of_ble_eq_true rfl) (c_X10_isNoCountry d g τ h sp0.1 x kx a) 10 60 (Nat.le_of_ble_eq_true rfl) (Nat.le_of_ble_eq_true rfl)) (fun r30 h29 q28 => ?_) (fun E h1 q => q.elim)
  obtain ⟨q28e, q28d⟩ := q28
  rw [q28e]
  rcases q28d with q28r | ⟨q28r, j31, q28j, q28k⟩
  · rw [q28r]
    refine tw_iconst (v := 1) dX10_house_6 (by decide) ?_
    refine tw_bi (tw_callV (M := mX10_house) (pc := 7) okX10_start dX10_house_7 w_1200 rfl f2 [.int 1, .int 1] [] rfl rfl ⟨by decide, by decide⟩ (Nat.le_of_ble_eq_true rfl) (c_X10_start d g τ h sp0.1 x kx 1 1 (by decide)) 10 60 (Nat.le_of_ble_eq_true rfl) (Nat.le_of_ble_eq_true rfl)) (fun r34 h33 q32 => ?_) (fun E h1 q => q.elim)
    obtain ⟨e35, he36, hs37, hr38, h339⟩ := q32
    have sp40 : tw_sp d τ h g τ h33 := by rw [he36]; exact sp0.set kx (by decide) hs37
    rcases hr38 with ei41 | ⟨ei41, ei41b⟩
    · rw [ei41]
      refine tw_if_ne 71 dX10_house_10 (by decide) (fun _ => ?_) (fun c42 => absurd c42 (by decide))
      refine tw_iconst (v := 0) dX10_house_71 (by decide) ?_
      exact tw_iret dX10_house_72 rfl (Or.inl ⟨_, rfl, _, _, Or.inl rfl, sp40⟩)
    · exact absurd ei41b (by decide)
  · rw [q28r]
    subst q28k
    refine tw_iconst (v := 1) dX10_house_6 (by decide) ?_
    refine tw_bi (tw_callV (M := mX10_house) (pc := 7) okX10_start dX10_house_7 w_1200 rfl f2 [.int 0, .int 1] [] rfl rfl ⟨by decide, by decide⟩ (Nat.le_of_ble_eq_true rfl) (c_X10_start d g τ h sp0.1 x kx 0 1 (by decide)) 10 60 (Nat.le_of_ble_eq_true rfl) (Nat.le_of_ble_eq_true rfl)) (fun r45 h44 q43 => ?_) (fun E h1 q => q.elim)
    obtain ⟨e46, he47, hs48, hr49, h350⟩ := q43
    have sp51 : tw_sp d τ h g τ h44 := by rw [he47]; exact sp0.set kx (by decide) hs48
    rcases hr49 with ei52 | ⟨ei52, ei52b⟩
    · rw [ei52]
      refine tw_if_ne 71 dX10_house_10 (by decide) (fun _ => ?_) (fun c53 => absurd c53 (by decide))
      refine tw_iconst (v := 0) dX10_house_71 (by decide) ?_
      exact tw_iret dX10_house_72 rfl (Or.inl ⟨_, rfl, _, _, Or.inl rfl, sp51⟩)
    · rw [ei52]
      refine tw_if_ne 71 dX10_house_10 (by decide) (fun c54 => absurd (by decide) c54) (fun _ => ?_)
      refine tw_aload_n 0 dX10_house_13 rfl rfl ?_
      refine tw_iload_n 2 dX10_house_14 rfl rfl ?_
      refine tw_iconst (v := 0) dX10_house_15 (by decide) ?_
      refine tw_ldc (v := 99999) dX10_house_16 w_1199 ?_
      refine tw_bi (tw_callS (M := mX10_house) (pc := 18) okX10_isIn dX10_house_18 w_1196 [.int go, .int 0, .int 99999] [.ref x] rfl rfl ⟨by decide, by decide⟩ (Nat.le_of_ble_eq_true rfl) (c_X10_isIn d g τ h44 sp51.1 go 0 99999) 10 60 (Nat.le_of_ble_eq_true rfl) (Nat.le_of_ble_eq_true rfl)) (fun r57 h56 q55 => ?_) (fun E h1 q => q.elim)
      obtain ⟨q55e, q55d⟩ := q55
      rw [q55e]
      rcases q55d with ⟨q55r, q55n⟩ | ⟨q55r, q55a, q55b⟩
      · rw [q55r]
        refine tw_if_eq 34 dX10_house_21 (by decide) (fun _ => ?_) (fun c58 => absurd (by decide) c58)
        refine tw_iconst (v := 1) dX10_house_34 (by decide) ?_
        refine tw_goto 39 dX10_house_35 (by decide) ?_
        refine tw_iconst (v := 2) dX10_house_39 (by decide) ?_
        obtain ⟨e59, f60, th_61, td_62, ds_63, fr_64, ca_65, us_66, wo_67, cm_68, lc_69, lh_70, ld_71, rfl, k72, k73, k74, k75, k76, k77, k78, k79, k80, k81, k82, k83, k84, k85⟩ := sp51.1 x 36 kx (by decide)
        refine tw_bi (tw_callV (M := mX10_house) (pc := 40) okX10_refuse dX10_house_40 w_1204 rfl f60 [.int 1, .int 2] [] rfl rfl ⟨by decide, by decide⟩ (Nat.le_of_ble_eq_true rfl) (c_X10_refuse d g τ h44 sp51.1 x kx 1 2 (by decide)) 10 60 (Nat.le_of_ble_eq_true rfl) (Nat.le_of_ble_eq_true rfl)) (fun r88 h87 q86 => ?_) (fun E h1 q => q.elim)
        obtain ⟨e89, he90, hs91, hr92, h393⟩ := q86
        have sp94 : tw_sp d τ h g τ h87 := by rw [he90]; exact sp51.set kx (by decide) hs91
        rcases hr92 with ei95 | ⟨ei95, ei95b⟩
        · rw [ei95]
          refine tw_if_ne 71 dX10_house_43 (by decide) (fun _ => ?_) (fun c96 => absurd c96 (by decide))
          refine tw_iconst (v := 0) dX10_house_71 (by decide) ?_
          exact tw_iret dX10_house_72 rfl (Or.inl ⟨_, rfl, _, _, Or.inl rfl, sp94⟩)
        · exact absurd ei95b (by decide)
      · rw [q55r]
        refine tw_if_eq 34 dX10_house_21 (by decide) (fun c97 => absurd c97 (by decide)) (fun _ => ?_)
        refine tw_iload_n 3 dX10_house_24 rfl rfl ?_
        refine tw_iconst (v := 0) dX10_house_25 (by decide) ?_
        refine tw_ldc (v := 99999) dX10_house_26 w_1199 ?_
        refine tw_bi (tw_callS (M := mX10_house) (pc := 28) okX10_isIn dX10_house_28 w_1196 [.int si, .int 0, .int 99999] [.ref x] rfl rfl ⟨by decide, by decide⟩ (Nat.le_of_ble_eq_true rfl) (c_X10_isIn d g τ h44 sp51.1 si 0 99999) 10 60 (Nat.le_of_ble_eq_true rfl) (Nat.le_of_ble_eq_true rfl)) (fun r100 h99 q98 => ?_) (fun E h1 q => q.elim)
        obtain ⟨q98e, q98d⟩ := q98
        rw [q98e]
        rcases q98d with ⟨q98r, q98n⟩ | ⟨q98r, q98a, q98b⟩
        · rw [q98r]
          refine tw_if_ne 38 dX10_house_31 (by decide) (fun c101 => absurd (by decide) c101) (fun _ => ?_)
          refine tw_iconst (v := 1) dX10_house_34 (by decide) ?_
          refine tw_goto 39 dX10_house_35 (by decide) ?_
          refine tw_iconst (v := 2) dX10_house_39 (by decide) ?_
          obtain ⟨e102, f103, th_104, td_105, ds_106, fr_107, ca_108, us_109, wo_110, cm_111, lc_112, lh_113, ld_114, rfl, k115, k116, k117, k118, k119, k120, k121, k122, k123, k124, k125, k126, k127, k128⟩ := sp51.1 x 36 kx (by decide)
          refine tw_bi (tw_callV (M := mX10_house) (pc := 40) okX10_refuse dX10_house_40 w_1204 rfl f103 [.int 1, .int 2] [] rfl rfl ⟨by decide, by decide⟩ (Nat.le_of_ble_eq_true rfl) (c_X10_refuse d g τ h44 sp51.1 x kx 1 2 (by decide)) 10 60 (Nat.le_of_ble_eq_true rfl) (Nat.le_of_ble_eq_true rfl)) (fun r131 h130 q129 => ?_) (fun E h1 q => q.elim)
          obtain ⟨e132, he133, hs134, hr135, h3136⟩ := q129
          have sp137 : tw_sp d τ h g τ h130 := by rw [he133]; exact sp51.set kx (by decide) hs134
          rcases hr135 with ei138 | ⟨ei138, ei138b⟩
          · rw [ei138]
            refine tw_if_ne 71 dX10_house_43 (by decide) (fun _ => ?_) (fun c139 => absurd c139 (by decide))
            refine tw_iconst (v := 0) dX10_house_71 (by decide) ?_
            exact tw_iret dX10_house_72 rfl (Or.inl ⟨_, rfl, _, _, Or.inl rfl, sp137⟩)
          · exact absurd ei138b (by decide)
        · rw [q98r]
          refine tw_if_ne 38 dX10_house_31 (by decide) (fun _ => ?_) (fun c140 => absurd c140 (by decide))
          refine tw_iconst (v := 0) dX10_house_38 (by decide) ?_
          refine tw_iconst (v := 2) dX10_house_39 (by decide) ?_
          obtain ⟨e141, f142, th_143, td_144, ds_145, fr_146, ca_147, us_148, wo_149, cm_150, lc_151, lh_152, ld_153, rfl, k154, k155, k156, k157, k158, k159, k160, k161, k162, k163, k164, k165, k166, k167⟩ := sp51.1 x 36 kx (by decide)
          refine tw_bi (tw_callV (M := mX10_house) (pc := 40) okX10_refuse dX10_house_40 w_1204 rfl f142 [.int 0, .int 2] [] rfl rfl ⟨by decide, by decide⟩ (Nat.le_of_ble_eq_true rfl) (c_X10_refuse d g τ h44 sp51.1 x kx 0 2 (by decide)) 10 60 (Nat.le_of_ble_eq_true rfl) (Nat.le_of_ble_eq_true rfl)) (fun r170 h169 q168 => ?_) (fun E h1 q => q.elim)
          obtain ⟨e171, he172, hs173, hr174, h3175⟩ := q168
          have sp176 : tw_sp d τ h g τ h169 := by rw [he172]; exact sp51.set kx (by decide) hs173
          rcases hr174 with ei177 | ⟨ei177, ei177b⟩
          · rw [ei177]
            refine tw_if_ne 71 dX10_house_43 (by decide) (fun _ => ?_) (fun c178 => absurd c178 (by decide))
            refine tw_iconst (v := 0) dX10_house_71 (by decide) ?_
            exact tw_iret dX10_house_72 rfl (Or.inl ⟨_, rfl, _, _, Or.inl rfl, sp176⟩)
          · rw [ei177]
            refine tw_if_ne 71 dX10_house_43 (by decide) (fun c179 => absurd (by decide) c179) (fun _ => ?_)
            refine tw_aload_n 0 dX10_house_46 rfl rfl ?_
            refine tw_aload_n 0 dX10_house_47 rfl rfl ?_
            obtain ⟨e180, f181, th_182, td_183, ds_184, fr_185, ca_186, us_187, wo_188, cm_189, lc_190, lh_191, ld_192, rfl, k193, k194, k195, k196, k197, k198, k199, k200, k201, k202, k203, k204, k205, k206⟩ := sp176.1 x 36 kx (by decide)
            refine tw_get (v := .ref lh_191) rfl in_14 10 dX10_house_48 w_1161 rfl (by decide) f181 rfl ?_
            obtain ⟨e207, f208, ⟨el209, rfl, k210⟩, k211⟩ := sp176.1 lh_191 25 k200 (by decide)
            refine tw_bi (tw_callV (M := mX10_house) (pc := 51) okJx4a65c_size_8abf5 dX10_house_51 w_1208 rfl f208 [] [.ref x] rfl rfl ⟨by decide, by decide⟩ (Nat.le_of_ble_eq_true rfl) (c25_size d g τ h169 sp176.1 lh_191 k200) 10 60 (Nat.le_of_ble_eq_true rfl) (Nat.le_of_ble_eq_true rfl)) (fun r214 h213 q212 => ?_) (fun E h1 q => q.elim)
            obtain ⟨q212e, q212r⟩ := q212
            rw [q212e, q212r]
            refine tw_bipush (v := 6) dX10_house_54 (by decide) ?_
            refine tw_icmp_ne 63 dX10_house_56 (by decide) (fun c215 => ?_) (fun c215 => ?_)
            · refine tw_iconst (v := 0) dX10_house_63 (by decide) ?_
              refine tw_iconst (v := 3) dX10_house_64 (by decide) ?_
              refine tw_bi (tw_callV (M := mX10_house) (pc := 65) okX10_refuse dX10_house_65 w_1204 rfl f181 [.int 0, .int 3] [] rfl rfl ⟨by decide, by decide⟩ (Nat.le_of_ble_eq_true rfl) (c_X10_refuse d g τ h169 sp176.1 x kx 0 3 (by decide)) 10 60 (Nat.le_of_ble_eq_true rfl) (Nat.le_of_ble_eq_true rfl)) (fun r218 h217 q216 => ?_) (fun E h1 q => q.elim)
              obtain ⟨e219, he220, hs221, hr222, h3223⟩ := q216
              have sp224 : tw_sp d τ h g τ h217 := by rw [he220]; exact sp176.set kx (by decide) hs221
              have f225 : h217 lh_191 = some (.inr (3, [.int (g.1 4), .ref el209, .int (nI (g.2 4))])) := by rw [he220, tw_up_n (fun q => absurd (k200) (by rw [q, kx]; decide))]; exact f208
              rcases hr222 with ei226 | ⟨ei226, ei226b⟩
              · rw [ei226]
                refine tw_if_eq 73 dX10_house_68 (by decide) (fun c227 => absurd c227 (by decide)) (fun _ => ?_)
                refine tw_iconst (v := 0) dX10_house_71 (by decide) ?_
                exact tw_iret dX10_house_72 rfl (Or.inl ⟨_, rfl, _, _, Or.inl rfl, sp224⟩)
              · rw [ei226]
                refine tw_if_eq 73 dX10_house_68 (by decide) (fun _ => ?_) (fun c228 => absurd (by decide) c228)
                refine tw_new (ci := 13) rfl in_13 tyX9 tyX9_ok dX10_house_73 w_1336 w_1337 w_100 (fs := [.int 0, .int 0, .int 0, .null]) (fun j hj => by rcases (show j = 0 ∨ j = 1 ∨ j = 2 ∨ j = 3 by omega) with rfl | rfl | rfl | rfl <;> rfl) 9 56 (Nat.le_of_ble_eq_true rfl) (Nat.le_of_ble_eq_true rfl) (fun q229 hq230 hA231 => ?_)
                have n232 := sp224.nn hq230
                have z233 := sp224.1.none hq230
                obtain ⟨h234, eh234⟩ : ∃ z : tw_H, z = tw_up h217 q229 (.inr (13, [.int 0, .int 0, .int 0, .null])) := ⟨_, rfl⟩
                rw [← eh234]
                have sp235 : tw_sp d τ h g τ h234 := by rw [eh234]; exact sp224.mk hq230
                have f236 : h234 q229 = some (.inr (13, [.int 0, .int 0, .int 0, .null])) := by rw [eh234]; exact tw_up_s
                refine tw_dup dX10_house_76 rfl ?_
                refine tw_bv (tw_callIN (M := mX10_house) (pc := 77) okX9_init dX10_house_77 w_1338 rfl [] [.ref q229] rfl rfl ⟨by decide, by decide⟩ (Nat.le_of_ble_eq_true rfl) (c_X9_init d g τ h234 sp235.1 q229 z233 f236) 8 54 (Nat.le_of_ble_eq_true rfl) (Nat.le_of_ble_eq_true rfl)) (fun h238 q237 => ?_) (fun E h1 q => q.elim)
                obtain ⟨τ239, p240, q237s, f241, z242, k243⟩ := q237
                have sp244 := sp235.trm n232 q237s
                have k245 : τ239 x = 36 := q237s.2.1.k kx (by decide)
                have k246 : τ239 ds_5 = 34 := q237s.2.1.k k14 (by decide)
                have k247 : τ239 fr_6 = 34 := q237s.2.1.k k15 (by decide)
                have k248 : τ239 ca_7 = 31 := q237s.2.1.k k16 (by decide)
                have k249 : τ239 us_8 = 31 := q237s.2.1.k k17 (by decide)
                have k250 : τ239 wo_9 = 31 := q237s.2.1.k k18 (by decide)
                have k251 : τ239 cm_10 = 31 := q237s.2.1.k k19 (by decide)
                have k252 : τ239 lc_11 = 24 := q237s.2.1.k k20 (by decide)
                have k253 : τ239 lh_12 = 25 := q237s.2.1.k k21 (by decide)
                have k254 : τ239 ld_13 = 26 := q237s.2.1.k k22 (by decide)
                have k255 : τ239 ds_145 = 34 := q237s.2.1.k k154 (by decide)
                have k256 : τ239 fr_146 = 34 := q237s.2.1.k k155 (by decide)
                have k257 : τ239 ca_147 = 31 := q237s.2.1.k k156 (by decide)
                have k258 : τ239 us_148 = 31 := q237s.2.1.k k157 (by decide)
                have k259 : τ239 wo_149 = 31 := q237s.2.1.k k158 (by decide)
                have k260 : τ239 cm_150 = 31 := q237s.2.1.k k159 (by decide)
                have k261 : τ239 lc_151 = 24 := q237s.2.1.k k160 (by decide)
                have k262 : τ239 lh_152 = 25 := q237s.2.1.k k161 (by decide)
                have k263 : τ239 ld_153 = 26 := q237s.2.1.k k162 (by decide)
                have k264 : τ239 ds_184 = 34 := q237s.2.1.k k193 (by decide)
                have k265 : τ239 fr_185 = 34 := q237s.2.1.k k194 (by decide)
                have k266 : τ239 ca_186 = 31 := q237s.2.1.k k195 (by decide)
                have k267 : τ239 us_187 = 31 := q237s.2.1.k k196 (by decide)
                have k268 : τ239 wo_188 = 31 := q237s.2.1.k k197 (by decide)
                have k269 : τ239 cm_189 = 31 := q237s.2.1.k k198 (by decide)
                have k270 : τ239 lc_190 = 24 := q237s.2.1.k k199 (by decide)
                have k271 : τ239 lh_191 = 25 := q237s.2.1.k k200 (by decide)
                have k272 : τ239 ld_192 = 26 := q237s.2.1.k k201 (by decide)
                refine tw_astore [(4, .ref q229), (0, .ref x), (1, .int (nI j31)), (2, .int go), (3, .int si)] dX10_house_80 (by decide) rfl ?_
                refine tw_aload 0 dX10_house_82 rfl ?_
                refine tw_iload_n 2 dX10_house_84 rfl rfl ?_
                refine tw_put rfl in_13 tyX9 tyX9_ok nmX9 0 dX10_house_85 w_1342 rfl (by decide) f241 rfl rfl rfl rfl (Nat.le_of_ble_eq_true rfl) [.int (nI j31), .int (-1), .int (-1), .ref p240] rfl ?_
                obtain ⟨h273, eh273⟩ : ∃ z : tw_H, z = tw_up h238 q229 (.inr (13, [.int (nI j31), .int (-1), .int (-1), .ref p240])) := ⟨_, rfl⟩
                rw [← eh273]
                have sp274 : tw_sp d τ h g τ239 h273 := by rw [eh273]; exact sp244.wl n232 z242
                have f275 : h273 q229 = some (.inr (13, [.int (nI j31), .int (-1), .int (-1), .ref p240])) := by rw [eh273]; exact tw_up_s
                refine tw_aload 0 dX10_house_88 rfl ?_
                refine tw_get (v := .ref p240) rfl in_13 3 dX10_house_90 w_1348 rfl (by decide) f275 rfl ?_
                refine tw_iconst (v := 0) dX10_house_93 (by decide) ?_
                refine tw_iload_n 3 dX10_house_94 rfl rfl ?_
                refine tw_i2l dX10_house_95 ?_
                refine tw_nml (fun v276 ev276 => ?_)
                obtain ⟨e277, f278, F279, rfl⟩ := sp274.1 p240 31 k243 (by decide)
                refine tw_last dX10_house_96 f278 (vp_in_nI (n := 0) (by decide) (by decide)) ?_
                obtain ⟨h280, eh280⟩ : ∃ z : tw_H, z = tw_up h273 p240 (.inl (d.2 1, 2, .inr (.inl (vp_updL F279 (0 : Int32).toNatClampNeg v276)))) := ⟨_, rfl⟩
                rw [← eh280]
                have sp281 : tw_sp d τ h g τ239 h280 := by rw [eh280]; exact sp274.set k243 (by decide) ⟨_, rfl⟩
                have f282 : h280 q229 = some (.inr (13, [.int (nI j31), .int (-1), .int (-1), .ref p240])) := by rw [eh280, tw_up_n (fun q => absurd (z242) (by rw [q, k243]; decide))]; exact f275
                refine tw_aload 0 dX10_house_97 rfl ?_
                refine tw_get (v := .ref p240) rfl in_13 3 dX10_house_99 w_1348 rfl (by decide) f282 rfl ?_
                refine tw_iconst (v := 1) dX10_house_102 (by decide) ?_
                refine tw_iload_n 4 dX10_house_103 rfl rfl ?_
                refine tw_i2l dX10_house_104 ?_
                refine tw_nml (fun v283 ev283 => ?_)
                obtain ⟨e284, f285, F286, rfl⟩ := sp281.1 p240 31 k243 (by decide)
                refine tw_last dX10_house_105 f285 (vp_in_nI (n := 1) (by decide) (by decide)) ?_
                obtain ⟨h287, eh287⟩ : ∃ z : tw_H, z = tw_up h280 p240 (.inl (d.2 1, 2, .inr (.inl (vp_updL F286 (1 : Int32).toNatClampNeg v283)))) := ⟨_, rfl⟩
                rw [← eh287]
                have sp288 : tw_sp d τ h g τ239 h287 := by rw [eh287]; exact sp281.set k243 (by decide) ⟨_, rfl⟩
                have f289 : h287 q229 = some (.inr (13, [.int (nI j31), .int (-1), .int (-1), .ref p240])) := by rw [eh287, tw_up_n (fun q => absurd (z242) (by rw [q, k243]; decide))]; exact f282
                refine tw_aload_n 1 dX10_house_106 rfl rfl ?_
                obtain ⟨e290, f291, th_292, td_293, ds_294, fr_295, ca_296, us_297, wo_298, cm_299, lc_300, lh_301, ld_302, rfl, k303, k304, k305, k306, k307, k308, k309, k310, k311, k312, k313, k314, k315, k316⟩ := sp288.1 x 36 k245 (by decide)
                refine tw_get (v := .ref cm_299) rfl in_14 8 dX10_house_107 w_1159 rfl (by decide) f291 rfl ?_
                refine tw_iconst (v := 0) dX10_house_110 (by decide) ?_
                refine tw_dup2 dX10_house_111 rfl rfl ?_
                obtain ⟨e317, f318, F319, rfl⟩ := sp288.1 cm_299 31 k308 (by decide)
                obtain ⟨v320, ev320⟩ : ∃ y : Int64, F319 (0 : Int32).toNatClampNeg = y := ⟨_, rfl⟩
                refine tw_lald (v := v320) dX10_house_112 f318 (vp_in_nI (n := 0) (by decide) (by decide)) ev320 ?_
                refine tw_iload_n 3 dX10_house_113 rfl rfl ?_
                refine tw_i2l dX10_house_114 ?_
                refine tw_nml (fun v321 ev321 => ?_)
                refine tw_ladd dX10_house_115 ?_
                refine tw_nml (fun v322 ev322 => ?_)
                refine tw_last dX10_house_116 f318 (vp_in_nI (n := 0) (by decide) (by decide)) ?_
                obtain ⟨h323, eh323⟩ : ∃ z : tw_H, z = tw_up h287 cm_299 (.inl (d.2 1, 2, .inr (.inl (vp_updL F319 (0 : Int32).toNatClampNeg v322)))) := ⟨_, rfl⟩
                rw [← eh323]
                have sp324 : tw_sp d τ h g τ239 h323 := by rw [eh323]; exact sp288.set k308 (by decide) ⟨_, rfl⟩
                have f325 : h323 q229 = some (.inr (13, [.int (nI j31), .int (-1), .int (-1), .ref p240])) := by rw [eh323, tw_up_n (fun q => absurd (z242) (by rw [q, k308]; decide))]; exact f289
                refine tw_aload_n 1 dX10_house_117 rfl rfl ?_
                obtain ⟨e326, f327, th_328, td_329, ds_330, fr_331, ca_332, us_333, wo_334, cm_335, lc_336, lh_337, ld_338, rfl, k339, k340, k341, k342, k343, k344, k345, k346, k347, k348, k349, k350, k351, k352⟩ := sp324.1 x 36 k245 (by decide)
                refine tw_get (v := .ref cm_335) rfl in_14 8 dX10_house_118 w_1159 rfl (by decide) f327 rfl ?_
                refine tw_iconst (v := 1) dX10_house_121 (by decide) ?_
                refine tw_dup2 dX10_house_122 rfl rfl ?_
                obtain ⟨e353, f354, F355, rfl⟩ := sp324.1 cm_335 31 k344 (by decide)
                obtain ⟨v356, ev356⟩ : ∃ y : Int64, F355 (1 : Int32).toNatClampNeg = y := ⟨_, rfl⟩
                refine tw_lald (v := v356) dX10_house_123 f354 (vp_in_nI (n := 1) (by decide) (by decide)) ev356 ?_
                refine tw_iload_n 4 dX10_house_124 rfl rfl ?_
                refine tw_i2l dX10_house_125 ?_
                refine tw_nml (fun v357 ev357 => ?_)
                refine tw_ladd dX10_house_126 ?_
                refine tw_nml (fun v358 ev358 => ?_)
                refine tw_last dX10_house_127 f354 (vp_in_nI (n := 1) (by decide) (by decide)) ?_
                obtain ⟨h359, eh359⟩ : ∃ z : tw_H, z = tw_up h323 cm_335 (.inl (d.2 1, 2, .inr (.inl (vp_updL F355 (1 : Int32).toNatClampNeg v358)))) := ⟨_, rfl⟩
                rw [← eh359]
                have sp360 : tw_sp d τ h g τ239 h359 := by rw [eh359]; exact sp324.set k344 (by decide) ⟨_, rfl⟩
                have f361 : h359 q229 = some (.inr (13, [.int (nI j31), .int (-1), .int (-1), .ref p240])) := by rw [eh359, tw_up_n (fun q => absurd (z242) (by rw [q, k344]; decide))]; exact f325
                refine tw_aload_n 1 dX10_house_128 rfl rfl ?_
                obtain ⟨e362, f363, th_364, td_365, ds_366, fr_367, ca_368, us_369, wo_370, cm_371, lc_372, lh_373, ld_374, rfl, k375, k376, k377, k378, k379, k380, k381, k382, k383, k384, k385, k386, k387, k388⟩ := sp360.1 x 36 k245 (by decide)
                refine tw_get (v := .ref lh_373) rfl in_14 10 dX10_house_129 w_1161 rfl (by decide) f363 rfl ?_
                refine tw_aload 0 dX10_house_132 rfl ?_
                obtain ⟨τ389, eτ389⟩ : ∃ z : tw_K, z = tw_ku τ239 q229 23 := ⟨_, rfl⟩
                have le390 : tw_le τ239 τ389 := by rw [eτ389]; exact tw_ku_le z242
                have k391 : τ389 x = 36 := le390.k k245 (by decide)
                have k392 : τ389 ds_5 = 34 := le390.k k246 (by decide)
                have k393 : τ389 fr_6 = 34 := le390.k k247 (by decide)
                have k394 : τ389 ca_7 = 31 := le390.k k248 (by decide)
                have k395 : τ389 us_8 = 31 := le390.k k249 (by decide)
                have k396 : τ389 wo_9 = 31 := le390.k k250 (by decide)
                have k397 : τ389 cm_10 = 31 := le390.k k251 (by decide)
                have k398 : τ389 lc_11 = 24 := le390.k k252 (by decide)
                have k399 : τ389 lh_12 = 25 := le390.k k253 (by decide)
                have k400 : τ389 ld_13 = 26 := le390.k k254 (by decide)
                have k401 : τ389 ds_145 = 34 := le390.k k255 (by decide)
                have k402 : τ389 fr_146 = 34 := le390.k k256 (by decide)
                have k403 : τ389 ca_147 = 31 := le390.k k257 (by decide)
                have k404 : τ389 us_148 = 31 := le390.k k258 (by decide)
                have k405 : τ389 wo_149 = 31 := le390.k k259 (by decide)
                have k406 : τ389 cm_150 = 31 := le390.k k260 (by decide)
                have k407 : τ389 lc_151 = 24 := le390.k k261 (by decide)
                have k408 : τ389 lh_152 = 25 := le390.k k262 (by decide)
                have k409 : τ389 ld_153 = 26 := le390.k k263 (by decide)
                have k410 : τ389 ds_184 = 34 := le390.k k264 (by decide)
                have k411 : τ389 fr_185 = 34 := le390.k k265 (by decide)
                have k412 : τ389 ca_186 = 31 := le390.k k266 (by decide)
                have k413 : τ389 us_187 = 31 := le390.k k267 (by decide)
                have k414 : τ389 wo_188 = 31 := le390.k k268 (by decide)
                have k415 : τ389 cm_189 = 31 := le390.k k269 (by decide)
                have k416 : τ389 lc_190 = 24 := le390.k k270 (by decide)
                have k417 : τ389 lh_191 = 25 := le390.k k271 (by decide)
                have k418 : τ389 ld_192 = 26 := le390.k k272 (by decide)
                have k419 : τ389 p240 = 31 := le390.k k243 (by decide)
                have k420 : τ389 ds_294 = 34 := le390.k k303 (by decide)
                have k421 : τ389 fr_295 = 34 := le390.k k304 (by decide)
                have k422 : τ389 ca_296 = 31 := le390.k k305 (by decide)
                have k423 : τ389 us_297 = 31 := le390.k k306 (by decide)
                have k424 : τ389 wo_298 = 31 := le390.k k307 (by decide)
                have k425 : τ389 cm_299 = 31 := le390.k k308 (by decide)
                have k426 : τ389 lc_300 = 24 := le390.k k309 (by decide)
                have k427 : τ389 lh_301 = 25 := le390.k k310 (by decide)
                have k428 : τ389 ld_302 = 26 := le390.k k311 (by decide)
                have k429 : τ389 ds_330 = 34 := le390.k k339 (by decide)
                have k430 : τ389 fr_331 = 34 := le390.k k340 (by decide)
                have k431 : τ389 ca_332 = 31 := le390.k k341 (by decide)
                have k432 : τ389 us_333 = 31 := le390.k k342 (by decide)
                have k433 : τ389 wo_334 = 31 := le390.k k343 (by decide)
                have k434 : τ389 cm_335 = 31 := le390.k k344 (by decide)
                have k435 : τ389 lc_336 = 24 := le390.k k345 (by decide)
                have k436 : τ389 lh_337 = 25 := le390.k k346 (by decide)
                have k437 : τ389 ld_338 = 26 := le390.k k347 (by decide)
                have k438 : τ389 ds_366 = 34 := le390.k k375 (by decide)
                have k439 : τ389 fr_367 = 34 := le390.k k376 (by decide)
                have k440 : τ389 ca_368 = 31 := le390.k k377 (by decide)
                have k441 : τ389 us_369 = 31 := le390.k k378 (by decide)
                have k442 : τ389 wo_370 = 31 := le390.k k379 (by decide)
                have k443 : τ389 cm_371 = 31 := le390.k k380 (by decide)
                have k444 : τ389 lc_372 = 24 := le390.k k381 (by decide)
                have k445 : τ389 lh_373 = 25 := le390.k k382 (by decide)
                have k446 : τ389 ld_374 = 26 := le390.k k383 (by decide)
                have sp447 : tw_sp d τ h g τ389 h359 := by rw [eτ389]; exact sp360.ty n232 z242 f361 (by rw [← eτ389]; exact ⟨(nI j31), (-1), (-1), p240, rfl, k419, (Or.inr ⟨_, (by omega), rfl⟩), (Or.inl rfl)⟩)
                have k448 : τ389 q229 = 23 := by rw [eτ389]; exact tw_ku_s
                obtain ⟨e449, f450, ⟨el451, rfl, k452⟩, k453⟩ := sp447.1 lh_373 25 k445 (by decide)
                have hb9 : g.2 4 + 1 ≤ 6 := (tw_n4 c215 k385 (by decide))
                rcases k452 with k452p | k452p
                · obtain ⟨pa, pn, pf⟩ := k452p
                  subst pa
                  have f9 : h359 lh_373 = some (.inr (3, [.int (g.1 4), .ref (d.2 102), .int (nI 0)])) := by have z := f450; rw [pn] at z; exact z
                  refine tw_bi (tw_callV (M := mX10_house) (pc := 134) okJx4a65c_add_9ea2d dX10_house_134 w_1238 rfl f450 [.ref q229] [] rfl rfl ⟨by decide, by decide⟩ (Nat.le_of_ble_eq_true rfl) (c_add_new d h359 lh_373 (g.1 4) f9 q229 13 _ _ rfl (ng_13) f361 (by decide)) 7 44 (Nat.le_of_ble_eq_true rfl) (Nat.le_of_ble_eq_true rfl)) (fun r9 h454 q9 => ?_) (fun E h1 q => q.elim)
                  obtain ⟨r8, hr8, q1, q2, q3⟩ := q9
                  obtain ⟨g9, τ9, ⟨hga, hg1⟩, sp9⟩ := tw_gadd25 (F := fun _ => none) sp447.1 k445 k448 hb9 (fun j hj => by rw [pn] at hj; exact absurd hj (Nat.not_lt_zero _)) (Or.inr ⟨hr8, pf⟩) (by rw [pn]; exact q1) (by rw [pn]; exact q2) q3
                  have sp455 := sp447.tr sp9
                  have k456 : τ9 x = 36 := sp9.2.1.k k391 (by decide)
                  have k457 : τ9 ds_5 = 34 := sp9.2.1.k k392 (by decide)
                  have k458 : τ9 fr_6 = 34 := sp9.2.1.k k393 (by decide)
                  have k459 : τ9 ca_7 = 31 := sp9.2.1.k k394 (by decide)
                  have k460 : τ9 us_8 = 31 := sp9.2.1.k k395 (by decide)
                  have k461 : τ9 wo_9 = 31 := sp9.2.1.k k396 (by decide)
                  have k462 : τ9 cm_10 = 31 := sp9.2.1.k k397 (by decide)
                  have k463 : τ9 lc_11 = 24 := sp9.2.1.k k398 (by decide)
                  have k464 : τ9 lh_12 = 25 := sp9.2.1.k k399 (by decide)
                  have k465 : τ9 ld_13 = 26 := sp9.2.1.k k400 (by decide)
                  have k466 : τ9 ds_145 = 34 := sp9.2.1.k k401 (by decide)
                  have k467 : τ9 fr_146 = 34 := sp9.2.1.k k402 (by decide)
                  have k468 : τ9 ca_147 = 31 := sp9.2.1.k k403 (by decide)
                  have k469 : τ9 us_148 = 31 := sp9.2.1.k k404 (by decide)
                  have k470 : τ9 wo_149 = 31 := sp9.2.1.k k405 (by decide)
                  have k471 : τ9 cm_150 = 31 := sp9.2.1.k k406 (by decide)
                  have k472 : τ9 lc_151 = 24 := sp9.2.1.k k407 (by decide)
                  have k473 : τ9 lh_152 = 25 := sp9.2.1.k k408 (by decide)
                  have k474 : τ9 ld_153 = 26 := sp9.2.1.k k409 (by decide)
                  have k475 : τ9 ds_184 = 34 := sp9.2.1.k k410 (by decide)
                  have k476 : τ9 fr_185 = 34 := sp9.2.1.k k411 (by decide)
                  have k477 : τ9 ca_186 = 31 := sp9.2.1.k k412 (by decide)
                  have k478 : τ9 us_187 = 31 := sp9.2.1.k k413 (by decide)
                  have k479 : τ9 wo_188 = 31 := sp9.2.1.k k414 (by decide)
                  have k480 : τ9 cm_189 = 31 := sp9.2.1.k k415 (by decide)
                  have k481 : τ9 lc_190 = 24 := sp9.2.1.k k416 (by decide)
                  have k482 : τ9 lh_191 = 25 := sp9.2.1.k k417 (by decide)
                  have k483 : τ9 ld_192 = 26 := sp9.2.1.k k418 (by decide)
                  have k484 : τ9 p240 = 31 := sp9.2.1.k k419 (by decide)
                  have k485 : τ9 ds_294 = 34 := sp9.2.1.k k420 (by decide)
                  have k486 : τ9 fr_295 = 34 := sp9.2.1.k k421 (by decide)
                  have k487 : τ9 ca_296 = 31 := sp9.2.1.k k422 (by decide)
                  have k488 : τ9 us_297 = 31 := sp9.2.1.k k423 (by decide)
                  have k489 : τ9 wo_298 = 31 := sp9.2.1.k k424 (by decide)
                  have k490 : τ9 cm_299 = 31 := sp9.2.1.k k425 (by decide)
                  have k491 : τ9 lc_300 = 24 := sp9.2.1.k k426 (by decide)
                  have k492 : τ9 lh_301 = 25 := sp9.2.1.k k427 (by decide)
                  have k493 : τ9 ld_302 = 26 := sp9.2.1.k k428 (by decide)
                  have k494 : τ9 ds_330 = 34 := sp9.2.1.k k429 (by decide)
                  have k495 : τ9 fr_331 = 34 := sp9.2.1.k k430 (by decide)
                  have k496 : τ9 ca_332 = 31 := sp9.2.1.k k431 (by decide)
                  have k497 : τ9 us_333 = 31 := sp9.2.1.k k432 (by decide)
                  have k498 : τ9 wo_334 = 31 := sp9.2.1.k k433 (by decide)
                  have k499 : τ9 cm_335 = 31 := sp9.2.1.k k434 (by decide)
                  have k500 : τ9 lc_336 = 24 := sp9.2.1.k k435 (by decide)
                  have k501 : τ9 lh_337 = 25 := sp9.2.1.k k436 (by decide)
                  have k502 : τ9 ld_338 = 26 := sp9.2.1.k k437 (by decide)
                  have k503 : τ9 ds_366 = 34 := sp9.2.1.k k438 (by decide)
                  have k504 : τ9 fr_367 = 34 := sp9.2.1.k k439 (by decide)
                  have k505 : τ9 ca_368 = 31 := sp9.2.1.k k440 (by decide)
                  have k506 : τ9 us_369 = 31 := sp9.2.1.k k441 (by decide)
                  have k507 : τ9 wo_370 = 31 := sp9.2.1.k k442 (by decide)
                  have k508 : τ9 cm_371 = 31 := sp9.2.1.k k443 (by decide)
                  have k509 : τ9 lc_372 = 24 := sp9.2.1.k k444 (by decide)
                  have k510 : τ9 lh_373 = 25 := sp9.2.1.k k445 (by decide)
                  have k511 : τ9 ld_374 = 26 := sp9.2.1.k k446 (by decide)
                  have k512 : τ9 q229 = 23 := sp9.2.1.k k448 (by decide)
                  refine tw_pop dX10_house_137 rfl ?_
                  refine tw_aload_n 1 dX10_house_138 rfl rfl ?_
                  obtain ⟨e513, f514, th_515, td_516, ds_517, fr_518, ca_519, us_520, wo_521, cm_522, lc_523, lh_524, ld_525, rfl, k526, k527, k528, k529, k530, k531, k532, k533, k534, k535, k536, k537, k538, k539⟩ := sp455.1 x 36 k456 (by decide)
                  refine tw_get (v := .ref lh_524) rfl in_14 10 dX10_house_139 w_1161 rfl (by decide) f514 rfl ?_
                  obtain ⟨e540, f541, ⟨el542, rfl, k543⟩, k544⟩ := sp455.1 lh_524 25 k533 (by decide)
                  refine tw_bi (tw_callV (M := mX10_house) (pc := 142) okJx4a65c_size_8abf5 dX10_house_142 w_1208 rfl f541 [] [] rfl rfl ⟨by decide, by decide⟩ (Nat.le_of_ble_eq_true rfl) (c25_size d g9 τ9 h454 sp455.1 lh_524 k533) 7 44 (Nat.le_of_ble_eq_true rfl) (Nat.le_of_ble_eq_true rfl)) (fun r547 h546 q545 => ?_) (fun E h1 q => q.elim)
                  obtain ⟨q545e, q545r⟩ := q545
                  rw [q545e, q545r]
                  refine tw_iconst (v := 1) dX10_house_145 (by decide) ?_
                  refine tw_isub dX10_house_146 ?_
                  refine tw_nmi (fun v548 ev548 => ?_)
                  exact tw_iret dX10_house_147 rfl (Or.inl ⟨_, rfl, _, _, Or.inr ⟨hga, hg1⟩, sp455⟩)
                · obtain ⟨e9, fa9, ⟨F9, rfl, hc9, h49⟩, un9⟩ := sp447.1 el451 28 k452p (by decide)
                  refine tw_bi (tw_callV (M := mX10_house) (pc := 134) okJx4a65c_add_9ea2d dX10_house_134 w_1238 rfl f450 [.ref q229] [] rfl rfl ⟨by decide, by decide⟩ (Nat.le_of_ble_eq_true rfl) (c_add_old d h359 lh_373 el451 (g.2 4) F9 (g.1 4) (by omega) f450 fa9 q229 13 _ _ rfl (ng_13) f361 (by decide)) 7 44 (Nat.le_of_ble_eq_true rfl) (Nat.le_of_ble_eq_true rfl)) (fun r9 h549 q9 => ?_) (fun E h1 q => q.elim)
                  obtain ⟨q1, q2, q3⟩ := q9
                  obtain ⟨g9, τ9, ⟨hga, hg1⟩, sp9⟩ := tw_gadd25 sp447.1 k445 k448 hb9 h49 (Or.inl k452p) q1 q2 q3
                  have sp550 := sp447.tr sp9
                  have k551 : τ9 x = 36 := sp9.2.1.k k391 (by decide)
                  have k552 : τ9 ds_5 = 34 := sp9.2.1.k k392 (by decide)
                  have k553 : τ9 fr_6 = 34 := sp9.2.1.k k393 (by decide)
                  have k554 : τ9 ca_7 = 31 := sp9.2.1.k k394 (by decide)
                  have k555 : τ9 us_8 = 31 := sp9.2.1.k k395 (by decide)
                  have k556 : τ9 wo_9 = 31 := sp9.2.1.k k396 (by decide)
                  have k557 : τ9 cm_10 = 31 := sp9.2.1.k k397 (by decide)
                  have k558 : τ9 lc_11 = 24 := sp9.2.1.k k398 (by decide)
                  have k559 : τ9 lh_12 = 25 := sp9.2.1.k k399 (by decide)
                  have k560 : τ9 ld_13 = 26 := sp9.2.1.k k400 (by decide)
                  have k561 : τ9 ds_145 = 34 := sp9.2.1.k k401 (by decide)
                  have k562 : τ9 fr_146 = 34 := sp9.2.1.k k402 (by decide)
                  have k563 : τ9 ca_147 = 31 := sp9.2.1.k k403 (by decide)
                  have k564 : τ9 us_148 = 31 := sp9.2.1.k k404 (by decide)
                  have k565 : τ9 wo_149 = 31 := sp9.2.1.k k405 (by decide)
                  have k566 : τ9 cm_150 = 31 := sp9.2.1.k k406 (by decide)
                  have k567 : τ9 lc_151 = 24 := sp9.2.1.k k407 (by decide)
                  have k568 : τ9 lh_152 = 25 := sp9.2.1.k k408 (by decide)
                  have k569 : τ9 ld_153 = 26 := sp9.2.1.k k409 (by decide)
                  have k570 : τ9 ds_184 = 34 := sp9.2.1.k k410 (by decide)
                  have k571 : τ9 fr_185 = 34 := sp9.2.1.k k411 (by decide)
                  have k572 : τ9 ca_186 = 31 := sp9.2.1.k k412 (by decide)
                  have k573 : τ9 us_187 = 31 := sp9.2.1.k k413 (by decide)
                  have k574 : τ9 wo_188 = 31 := sp9.2.1.k k414 (by decide)
                  have k575 : τ9 cm_189 = 31 := sp9.2.1.k k415 (by decide)
                  have k576 : τ9 lc_190 = 24 := sp9.2.1.k k416 (by decide)
                  have k577 : τ9 lh_191 = 25 := sp9.2.1.k k417 (by decide)
                  have k578 : τ9 ld_192 = 26 := sp9.2.1.k k418 (by decide)
                  have k579 : τ9 p240 = 31 := sp9.2.1.k k419 (by decide)
                  have k580 : τ9 ds_294 = 34 := sp9.2.1.k k420 (by decide)
                  have k581 : τ9 fr_295 = 34 := sp9.2.1.k k421 (by decide)
                  have k582 : τ9 ca_296 = 31 := sp9.2.1.k k422 (by decide)
                  have k583 : τ9 us_297 = 31 := sp9.2.1.k k423 (by decide)
                  have k584 : τ9 wo_298 = 31 := sp9.2.1.k k424 (by decide)
                  have k585 : τ9 cm_299 = 31 := sp9.2.1.k k425 (by decide)
                  have k586 : τ9 lc_300 = 24 := sp9.2.1.k k426 (by decide)
                  have k587 : τ9 lh_301 = 25 := sp9.2.1.k k427 (by decide)
                  have k588 : τ9 ld_302 = 26 := sp9.2.1.k k428 (by decide)
                  have k589 : τ9 ds_330 = 34 := sp9.2.1.k k429 (by decide)
                  have k590 : τ9 fr_331 = 34 := sp9.2.1.k k430 (by decide)
                  have k591 : τ9 ca_332 = 31 := sp9.2.1.k k431 (by decide)
                  have k592 : τ9 us_333 = 31 := sp9.2.1.k k432 (by decide)
                  have k593 : τ9 wo_334 = 31 := sp9.2.1.k k433 (by decide)
                  have k594 : τ9 cm_335 = 31 := sp9.2.1.k k434 (by decide)
                  have k595 : τ9 lc_336 = 24 := sp9.2.1.k k435 (by decide)
                  have k596 : τ9 lh_337 = 25 := sp9.2.1.k k436 (by decide)
                  have k597 : τ9 ld_338 = 26 := sp9.2.1.k k437 (by decide)
                  have k598 : τ9 ds_366 = 34 := sp9.2.1.k k438 (by decide)
                  have k599 : τ9 fr_367 = 34 := sp9.2.1.k k439 (by decide)
                  have k600 : τ9 ca_368 = 31 := sp9.2.1.k k440 (by decide)
                  have k601 : τ9 us_369 = 31 := sp9.2.1.k k441 (by decide)
                  have k602 : τ9 wo_370 = 31 := sp9.2.1.k k442 (by decide)
                  have k603 : τ9 cm_371 = 31 := sp9.2.1.k k443 (by decide)
                  have k604 : τ9 lc_372 = 24 := sp9.2.1.k k444 (by decide)
                  have k605 : τ9 lh_373 = 25 := sp9.2.1.k k445 (by decide)
                  have k606 : τ9 ld_374 = 26 := sp9.2.1.k k446 (by decide)
                  have k607 : τ9 q229 = 23 := sp9.2.1.k k448 (by decide)
                  refine tw_pop dX10_house_137 rfl ?_
                  refine tw_aload_n 1 dX10_house_138 rfl rfl ?_
                  obtain ⟨e608, f609, th_610, td_611, ds_612, fr_613, ca_614, us_615, wo_616, cm_617, lc_618, lh_619, ld_620, rfl, k621, k622, k623, k624, k625, k626, k627, k628, k629, k630, k631, k632, k633, k634⟩ := sp550.1 x 36 k551 (by decide)
                  refine tw_get (v := .ref lh_619) rfl in_14 10 dX10_house_139 w_1161 rfl (by decide) f609 rfl ?_
                  obtain ⟨e635, f636, ⟨el637, rfl, k638⟩, k639⟩ := sp550.1 lh_619 25 k628 (by decide)
                  refine tw_bi (tw_callV (M := mX10_house) (pc := 142) okJx4a65c_size_8abf5 dX10_house_142 w_1208 rfl f636 [] [] rfl rfl ⟨by decide, by decide⟩ (Nat.le_of_ble_eq_true rfl) (c25_size d g9 τ9 h549 sp550.1 lh_619 k628) 7 44 (Nat.le_of_ble_eq_true rfl) (Nat.le_of_ble_eq_true rfl)) (fun r642 h641 q640 => ?_) (fun E h1 q => q.elim)
                  obtain ⟨q640e, q640r⟩ := q640
                  rw [q640e, q640r]
                  refine tw_iconst (v := 1) dX10_house_145 (by decide) ?_
                  refine tw_isub dX10_house_146 ?_
                  refine tw_nmi (fun v643 ev643 => ?_)
                  exact tw_iret dX10_house_147 rfl (Or.inl ⟨_, rfl, _, _, Or.inr ⟨hga, hg1⟩, sp550⟩)
            · refine tw_iconst (v := 1) dX10_house_59 (by decide) ?_
              refine tw_goto 64 dX10_house_60 (by decide) ?_
              refine tw_iconst (v := 3) dX10_house_64 (by decide) ?_
              refine tw_bi (tw_callV (M := mX10_house) (pc := 65) okX10_refuse dX10_house_65 w_1204 rfl f181 [.int 1, .int 3] [] rfl rfl ⟨by decide, by decide⟩ (Nat.le_of_ble_eq_true rfl) (c_X10_refuse d g τ h169 sp176.1 x kx 1 3 (by decide)) 10 60 (Nat.le_of_ble_eq_true rfl) (Nat.le_of_ble_eq_true rfl)) (fun r646 h645 q644 => ?_) (fun E h1 q => q.elim)
              obtain ⟨e647, he648, hs649, hr650, h3651⟩ := q644
              have sp652 : tw_sp d τ h g τ h645 := by rw [he648]; exact sp176.set kx (by decide) hs649
              have f653 : h645 lh_191 = some (.inr (3, [.int (g.1 4), .ref el209, .int (nI (g.2 4))])) := by rw [he648, tw_up_n (fun q => absurd (k200) (by rw [q, kx]; decide))]; exact f208
              rcases hr650 with ei654 | ⟨ei654, ei654b⟩
              · rw [ei654]
                refine tw_if_eq 73 dX10_house_68 (by decide) (fun c655 => absurd c655 (by decide)) (fun _ => ?_)
                refine tw_iconst (v := 0) dX10_house_71 (by decide) ?_
                exact tw_iret dX10_house_72 rfl (Or.inl ⟨_, rfl, _, _, Or.inl rfl, sp652⟩)
              · exact absurd ei654b (by decide)

set_option maxHeartbeats 4000000 in
set_option maxRecDepth 100000 in
theorem c2_X10_owe (d : tw_D) (g : tw_G) (τ : tw_K) (h : tw_H) (hw : tw_wt d g τ h) (x : Nat) (kx : τ x = 36) (a : Int32) (b : Int32) (v : Int32) (dy : Int32) : tw_Ct d mX10_owe 10 60 [.ref x, .int a, .int b, .int v, .int dy] h (tw_qi (fun r h1 => ∃ g1 τ1, (g1 = g ∨ tw_gk 5 g g1) ∧ tw_sp d τ h g1 τ1 h1) tw_nx) := by
  refine tw_of (by decide +kernel) (Nat.le_of_ble_eq_true rfl) ?_
  show tw_W d mX10_owe _ 0 [(0, .ref x), (1, .int a), (2, .int b), (3, .int v), (4, .int dy)] [] h 10 60
  have sp0 := tw_sp.rf hw
  refine tw_aload_n 0 dX10_owe_0 rfl rfl ?_
  refine tw_aload_n 0 dX10_owe_1 rfl rfl ?_
  refine tw_iload_n 1 dX10_owe_2 rfl rfl ?_
  obtain ⟨e1, f2, th_3, td_4, ds_5, fr_6, ca_7, us_8, wo_9, cm_10, lc_11, lh_12, ld_13, rfl, k14, k15, k16, k17, k18, k19, k20, k21, k22, k23, k24, k25, k26, k27⟩ := sp0.1 x 36 kx (by decide)
  refine tw_bi (tw_callV (M := mX10_owe) (pc := 3) okX10_isNoHouse dX10_owe_3 w_1362 rfl f2 [.int a] [.ref x] rfl rfl ⟨by decide, by decide⟩ (Nat.le_of_ble_eq_true rfl) (c_X10_isNoHouse d g τ h sp0.1 x kx a) 10 60 (Nat.le_of_ble_eq_true rfl) (Nat.le_of_ble_eq_true rfl)) (fun r30 h29 q28 => ?_) (fun E h1 q => q.elim)
  obtain ⟨q28e, q28d⟩ := q28
  rw [q28e]
  rcases q28d with q28r | ⟨q28r, j31, q28j, q28k⟩
  · rw [q28r]
    refine tw_if_ne 17 dX10_owe_6 (by decide) (fun _ => ?_) (fun c32 => absurd c32 (by decide))
    refine tw_iconst (v := 1) dX10_owe_17 (by decide) ?_
    refine tw_goto 22 dX10_owe_18 (by decide) ?_
    refine tw_iconst (v := 1) dX10_owe_22 (by decide) ?_
    refine tw_bi (tw_callV (M := mX10_owe) (pc := 23) okX10_start dX10_owe_23 w_1200 rfl f2 [.int 1, .int 1] [] rfl rfl ⟨by decide, by decide⟩ (Nat.le_of_ble_eq_true rfl) (c_X10_start d g τ h sp0.1 x kx 1 1 (by decide)) 10 60 (Nat.le_of_ble_eq_true rfl) (Nat.le_of_ble_eq_true rfl)) (fun r35 h34 q33 => ?_) (fun E h1 q => q.elim)
    obtain ⟨e36, he37, hs38, hr39, h340⟩ := q33
    have sp41 : tw_sp d τ h g τ h34 := by rw [he37]; exact sp0.set kx (by decide) hs38
    rcases hr39 with ei42 | ⟨ei42, ei42b⟩
    · rw [ei42]
      refine tw_if_ne 95 dX10_owe_26 (by decide) (fun _ => ?_) (fun c43 => absurd c43 (by decide))
      refine tw_iconst (v := 0) dX10_owe_95 (by decide) ?_
      exact tw_iret dX10_owe_96 rfl (Or.inl ⟨_, rfl, _, _, Or.inl rfl, sp41⟩)
    · exact absurd ei42b (by decide)
  · rw [q28r]
    subst q28k
    refine tw_if_ne 17 dX10_owe_6 (by decide) (fun c44 => absurd (by decide) c44) (fun _ => ?_)
    refine tw_aload_n 0 dX10_owe_9 rfl rfl ?_
    refine tw_iload_n 2 dX10_owe_10 rfl rfl ?_
    refine tw_bi (tw_callV (M := mX10_owe) (pc := 11) okX10_isNoHouse dX10_owe_11 w_1362 rfl f2 [.int b] [.ref x] rfl rfl ⟨by decide, by decide⟩ (Nat.le_of_ble_eq_true rfl) (c_X10_isNoHouse d g τ h sp0.1 x kx b) 10 60 (Nat.le_of_ble_eq_true rfl) (Nat.le_of_ble_eq_true rfl)) (fun r47 h46 q45 => ?_) (fun E h1 q => q.elim)
    obtain ⟨q45e, q45d⟩ := q45
    rw [q45e]
    rcases q45d with q45r | ⟨q45r, j48, q45j, q45k⟩
    · rw [q45r]
      refine tw_if_eq 21 dX10_owe_14 (by decide) (fun c49 => absurd c49 (by decide)) (fun _ => ?_)
      refine tw_iconst (v := 1) dX10_owe_17 (by decide) ?_
      refine tw_goto 22 dX10_owe_18 (by decide) ?_
      refine tw_iconst (v := 1) dX10_owe_22 (by decide) ?_
      refine tw_bi (tw_callV (M := mX10_owe) (pc := 23) okX10_start dX10_owe_23 w_1200 rfl f2 [.int 1, .int 1] [] rfl rfl ⟨by decide, by decide⟩ (Nat.le_of_ble_eq_true rfl) (c_X10_start d g τ h sp0.1 x kx 1 1 (by decide)) 10 60 (Nat.le_of_ble_eq_true rfl) (Nat.le_of_ble_eq_true rfl)) (fun r52 h51 q50 => ?_) (fun E h1 q => q.elim)
      obtain ⟨e53, he54, hs55, hr56, h357⟩ := q50
      have sp58 : tw_sp d τ h g τ h51 := by rw [he54]; exact sp0.set kx (by decide) hs55
      rcases hr56 with ei59 | ⟨ei59, ei59b⟩
      · rw [ei59]
        refine tw_if_ne 95 dX10_owe_26 (by decide) (fun _ => ?_) (fun c60 => absurd c60 (by decide))
        refine tw_iconst (v := 0) dX10_owe_95 (by decide) ?_
        exact tw_iret dX10_owe_96 rfl (Or.inl ⟨_, rfl, _, _, Or.inl rfl, sp58⟩)
      · exact absurd ei59b (by decide)
    · rw [q45r]
      subst q45k
      refine tw_if_eq 21 dX10_owe_14 (by decide) (fun _ => ?_) (fun c61 => absurd (by decide) c61)
      refine tw_iconst (v := 0) dX10_owe_21 (by decide) ?_
      refine tw_iconst (v := 1) dX10_owe_22 (by decide) ?_
      refine tw_bi (tw_callV (M := mX10_owe) (pc := 23) okX10_start dX10_owe_23 w_1200 rfl f2 [.int 0, .int 1] [] rfl rfl ⟨by decide, by decide⟩ (Nat.le_of_ble_eq_true rfl) (c_X10_start d g τ h sp0.1 x kx 0 1 (by decide)) 10 60 (Nat.le_of_ble_eq_true rfl) (Nat.le_of_ble_eq_true rfl)) (fun r64 h63 q62 => ?_) (fun E h1 q => q.elim)
      obtain ⟨e65, he66, hs67, hr68, h369⟩ := q62
      have sp70 : tw_sp d τ h g τ h63 := by rw [he66]; exact sp0.set kx (by decide) hs67
      rcases hr68 with ei71 | ⟨ei71, ei71b⟩
      · rw [ei71]
        refine tw_if_ne 95 dX10_owe_26 (by decide) (fun _ => ?_) (fun c72 => absurd c72 (by decide))
        refine tw_iconst (v := 0) dX10_owe_95 (by decide) ?_
        exact tw_iret dX10_owe_96 rfl (Or.inl ⟨_, rfl, _, _, Or.inl rfl, sp70⟩)
      · rw [ei71]
        refine tw_if_ne 95 dX10_owe_26 (by decide) (fun c73 => absurd (by decide) c73) (fun _ => ?_)
        refine tw_aload_n 0 dX10_owe_29 rfl rfl ?_
        refine tw_iload_n 1 dX10_owe_30 rfl rfl ?_
        refine tw_iload_n 2 dX10_owe_31 rfl rfl ?_
        refine tw_icmp_eq 58 dX10_owe_32 (by decide) (fun c74 => ?_) (fun c74 => ?_)
        · refine tw_iconst (v := 1) dX10_owe_58 (by decide) ?_
          refine tw_goto 63 dX10_owe_59 (by decide) ?_
          refine tw_iconst (v := 2) dX10_owe_63 (by decide) ?_
          obtain ⟨e75, f76, th_77, td_78, ds_79, fr_80, ca_81, us_82, wo_83, cm_84, lc_85, lh_86, ld_87, rfl, k88, k89, k90, k91, k92, k93, k94, k95, k96, k97, k98, k99, k100, k101⟩ := sp70.1 x 36 kx (by decide)
          refine tw_bi (tw_callV (M := mX10_owe) (pc := 64) okX10_refuse dX10_owe_64 w_1204 rfl f76 [.int 1, .int 2] [] rfl rfl ⟨by decide, by decide⟩ (Nat.le_of_ble_eq_true rfl) (c_X10_refuse d g τ h63 sp70.1 x kx 1 2 (by decide)) 10 60 (Nat.le_of_ble_eq_true rfl) (Nat.le_of_ble_eq_true rfl)) (fun r104 h103 q102 => ?_) (fun E h1 q => q.elim)
          obtain ⟨e105, he106, hs107, hr108, h3109⟩ := q102
          have sp110 : tw_sp d τ h g τ h103 := by rw [he106]; exact sp70.set kx (by decide) hs107
          rcases hr108 with ei111 | ⟨ei111, ei111b⟩
          · rw [ei111]
            refine tw_if_ne 95 dX10_owe_67 (by decide) (fun _ => ?_) (fun c112 => absurd c112 (by decide))
            refine tw_iconst (v := 0) dX10_owe_95 (by decide) ?_
            exact tw_iret dX10_owe_96 rfl (Or.inl ⟨_, rfl, _, _, Or.inl rfl, sp110⟩)
          · exact absurd ei111b (by decide)
        · refine tw_iload_n 3 dX10_owe_35 rfl rfl ?_
          refine tw_iconst (v := 1) dX10_owe_36 (by decide) ?_
          refine tw_sipush (v := 9999) dX10_owe_37 (by decide) ?_
          refine tw_bi (tw_callS (M := mX10_owe) (pc := 40) okX10_isIn dX10_owe_40 w_1196 [.int v, .int 1, .int 9999] [.ref x] rfl rfl ⟨by decide, by decide⟩ (Nat.le_of_ble_eq_true rfl) (c_X10_isIn d g τ h63 sp70.1 v 1 9999) 10 60 (Nat.le_of_ble_eq_true rfl) (Nat.le_of_ble_eq_true rfl)) (fun r115 h114 q113 => ?_) (fun E h1 q => q.elim)
          obtain ⟨q113e, q113d⟩ := q113
          rw [q113e]
          rcases q113d with ⟨q113r, q113n⟩ | ⟨q113r, q113a, q113b⟩
          · rw [q113r]
            refine tw_if_eq 58 dX10_owe_43 (by decide) (fun _ => ?_) (fun c116 => absurd (by decide) c116)
            refine tw_iconst (v := 1) dX10_owe_58 (by decide) ?_
            refine tw_goto 63 dX10_owe_59 (by decide) ?_
            refine tw_iconst (v := 2) dX10_owe_63 (by decide) ?_
            obtain ⟨e117, f118, th_119, td_120, ds_121, fr_122, ca_123, us_124, wo_125, cm_126, lc_127, lh_128, ld_129, rfl, k130, k131, k132, k133, k134, k135, k136, k137, k138, k139, k140, k141, k142, k143⟩ := sp70.1 x 36 kx (by decide)
            refine tw_bi (tw_callV (M := mX10_owe) (pc := 64) okX10_refuse dX10_owe_64 w_1204 rfl f118 [.int 1, .int 2] [] rfl rfl ⟨by decide, by decide⟩ (Nat.le_of_ble_eq_true rfl) (c_X10_refuse d g τ h63 sp70.1 x kx 1 2 (by decide)) 10 60 (Nat.le_of_ble_eq_true rfl) (Nat.le_of_ble_eq_true rfl)) (fun r146 h145 q144 => ?_) (fun E h1 q => q.elim)
            obtain ⟨e147, he148, hs149, hr150, h3151⟩ := q144
            have sp152 : tw_sp d τ h g τ h145 := by rw [he148]; exact sp70.set kx (by decide) hs149
            rcases hr150 with ei153 | ⟨ei153, ei153b⟩
            · rw [ei153]
              refine tw_if_ne 95 dX10_owe_67 (by decide) (fun _ => ?_) (fun c154 => absurd c154 (by decide))
              refine tw_iconst (v := 0) dX10_owe_95 (by decide) ?_
              exact tw_iret dX10_owe_96 rfl (Or.inl ⟨_, rfl, _, _, Or.inl rfl, sp152⟩)
            · exact absurd ei153b (by decide)
          · rw [q113r]
            refine tw_if_eq 58 dX10_owe_43 (by decide) (fun c155 => absurd c155 (by decide)) (fun _ => ?_)
            refine tw_iload 4 dX10_owe_46 rfl ?_
            refine tw_iconst (v := 0) dX10_owe_48 (by decide) ?_
            refine tw_sipush (v := 1000) dX10_owe_49 (by decide) ?_
            refine tw_bi (tw_callS (M := mX10_owe) (pc := 52) okX10_isIn dX10_owe_52 w_1196 [.int dy, .int 0, .int 1000] [.ref x] rfl rfl ⟨by decide, by decide⟩ (Nat.le_of_ble_eq_true rfl) (c_X10_isIn d g τ h63 sp70.1 dy 0 1000) 10 60 (Nat.le_of_ble_eq_true rfl) (Nat.le_of_ble_eq_true rfl)) (fun r158 h157 q156 => ?_) (fun E h1 q => q.elim)
            obtain ⟨q156e, q156d⟩ := q156
            rw [q156e]
            rcases q156d with ⟨q156r, q156n⟩ | ⟨q156r, q156a, q156b⟩
            · rw [q156r]
              refine tw_if_ne 62 dX10_owe_55 (by decide) (fun c159 => absurd (by decide) c159) (fun _ => ?_)
              refine tw_iconst (v := 1) dX10_owe_58 (by decide) ?_
              refine tw_goto 63 dX10_owe_59 (by decide) ?_
              refine tw_iconst (v := 2) dX10_owe_63 (by decide) ?_
              obtain ⟨e160, f161, th_162, td_163, ds_164, fr_165, ca_166, us_167, wo_168, cm_169, lc_170, lh_171, ld_172, rfl, k173, k174, k175, k176, k177, k178, k179, k180, k181, k182, k183, k184, k185, k186⟩ := sp70.1 x 36 kx (by decide)
              refine tw_bi (tw_callV (M := mX10_owe) (pc := 64) okX10_refuse dX10_owe_64 w_1204 rfl f161 [.int 1, .int 2] [] rfl rfl ⟨by decide, by decide⟩ (Nat.le_of_ble_eq_true rfl) (c_X10_refuse d g τ h63 sp70.1 x kx 1 2 (by decide)) 10 60 (Nat.le_of_ble_eq_true rfl) (Nat.le_of_ble_eq_true rfl)) (fun r189 h188 q187 => ?_) (fun E h1 q => q.elim)
              obtain ⟨e190, he191, hs192, hr193, h3194⟩ := q187
              have sp195 : tw_sp d τ h g τ h188 := by rw [he191]; exact sp70.set kx (by decide) hs192
              rcases hr193 with ei196 | ⟨ei196, ei196b⟩
              · rw [ei196]
                refine tw_if_ne 95 dX10_owe_67 (by decide) (fun _ => ?_) (fun c197 => absurd c197 (by decide))
                refine tw_iconst (v := 0) dX10_owe_95 (by decide) ?_
                exact tw_iret dX10_owe_96 rfl (Or.inl ⟨_, rfl, _, _, Or.inl rfl, sp195⟩)
              · exact absurd ei196b (by decide)
            · rw [q156r]
              refine tw_if_ne 62 dX10_owe_55 (by decide) (fun _ => ?_) (fun c198 => absurd c198 (by decide))
              refine tw_iconst (v := 0) dX10_owe_62 (by decide) ?_
              refine tw_iconst (v := 2) dX10_owe_63 (by decide) ?_
              obtain ⟨e199, f200, th_201, td_202, ds_203, fr_204, ca_205, us_206, wo_207, cm_208, lc_209, lh_210, ld_211, rfl, k212, k213, k214, k215, k216, k217, k218, k219, k220, k221, k222, k223, k224, k225⟩ := sp70.1 x 36 kx (by decide)
              refine tw_bi (tw_callV (M := mX10_owe) (pc := 64) okX10_refuse dX10_owe_64 w_1204 rfl f200 [.int 0, .int 2] [] rfl rfl ⟨by decide, by decide⟩ (Nat.le_of_ble_eq_true rfl) (c_X10_refuse d g τ h63 sp70.1 x kx 0 2 (by decide)) 10 60 (Nat.le_of_ble_eq_true rfl) (Nat.le_of_ble_eq_true rfl)) (fun r228 h227 q226 => ?_) (fun E h1 q => q.elim)
              obtain ⟨e229, he230, hs231, hr232, h3233⟩ := q226
              have sp234 : tw_sp d τ h g τ h227 := by rw [he230]; exact sp70.set kx (by decide) hs231
              rcases hr232 with ei235 | ⟨ei235, ei235b⟩
              · rw [ei235]
                refine tw_if_ne 95 dX10_owe_67 (by decide) (fun _ => ?_) (fun c236 => absurd c236 (by decide))
                refine tw_iconst (v := 0) dX10_owe_95 (by decide) ?_
                exact tw_iret dX10_owe_96 rfl (Or.inl ⟨_, rfl, _, _, Or.inl rfl, sp234⟩)
              · rw [ei235]
                refine tw_if_ne 95 dX10_owe_67 (by decide) (fun c237 => absurd (by decide) c237) (fun _ => ?_)
                refine tw_aload_n 0 dX10_owe_70 rfl rfl ?_
                refine tw_aload_n 0 dX10_owe_71 rfl rfl ?_
                obtain ⟨e238, f239, th_240, td_241, ds_242, fr_243, ca_244, us_245, wo_246, cm_247, lc_248, lh_249, ld_250, rfl, k251, k252, k253, k254, k255, k256, k257, k258, k259, k260, k261, k262, k263, k264⟩ := sp234.1 x 36 kx (by decide)
                refine tw_get (v := .ref ld_250) rfl in_14 11 dX10_owe_72 w_1162 rfl (by decide) f239 rfl ?_
                obtain ⟨e265, f266, ⟨el267, rfl, k268⟩, k269⟩ := sp234.1 ld_250 26 k259 (by decide)
                refine tw_bi (tw_callV (M := mX10_owe) (pc := 75) okJx4a65c_size_8abf5 dX10_owe_75 w_1208 rfl f266 [] [.ref x] rfl rfl ⟨by decide, by decide⟩ (Nat.le_of_ble_eq_true rfl) (c26_size d g τ h227 sp234.1 ld_250 k259) 10 60 (Nat.le_of_ble_eq_true rfl) (Nat.le_of_ble_eq_true rfl)) (fun r272 h271 q270 => ?_) (fun E h1 q => q.elim)
                obtain ⟨q270e, q270r⟩ := q270
                rw [q270e, q270r]
                refine tw_bipush (v := 10) dX10_owe_78 (by decide) ?_
                refine tw_icmp_ne 87 dX10_owe_80 (by decide) (fun c273 => ?_) (fun c273 => ?_)
                · refine tw_iconst (v := 0) dX10_owe_87 (by decide) ?_
                  refine tw_iconst (v := 3) dX10_owe_88 (by decide) ?_
                  refine tw_bi (tw_callV (M := mX10_owe) (pc := 89) okX10_refuse dX10_owe_89 w_1204 rfl f239 [.int 0, .int 3] [] rfl rfl ⟨by decide, by decide⟩ (Nat.le_of_ble_eq_true rfl) (c_X10_refuse d g τ h227 sp234.1 x kx 0 3 (by decide)) 10 60 (Nat.le_of_ble_eq_true rfl) (Nat.le_of_ble_eq_true rfl)) (fun r276 h275 q274 => ?_) (fun E h1 q => q.elim)
                  obtain ⟨e277, he278, hs279, hr280, h3281⟩ := q274
                  have sp282 : tw_sp d τ h g τ h275 := by rw [he278]; exact sp234.set kx (by decide) hs279
                  have f283 : h275 ld_250 = some (.inr (3, [.int (g.1 5), .ref el267, .int (nI (g.2 5))])) := by rw [he278, tw_up_n (fun q => absurd (k259) (by rw [q, kx]; decide))]; exact f266
                  rcases hr280 with ei284 | ⟨ei284, ei284b⟩
                  · rw [ei284]
                    refine tw_if_eq 97 dX10_owe_92 (by decide) (fun c285 => absurd c285 (by decide)) (fun _ => ?_)
                    refine tw_iconst (v := 0) dX10_owe_95 (by decide) ?_
                    exact tw_iret dX10_owe_96 rfl (Or.inl ⟨_, rfl, _, _, Or.inl rfl, sp282⟩)
                  · rw [ei284]
                    refine tw_if_eq 97 dX10_owe_92 (by decide) (fun _ => ?_) (fun c286 => absurd (by decide) c286)
                    refine tw_new (ci := 12) rfl in_12 tyX8 tyX8_ok dX10_owe_97 w_1437 w_1438 w_103 (fs := [.int 0, .int 0, .int 0, .int 0, .int 0]) (fun j hj => by rcases (show j = 0 ∨ j = 1 ∨ j = 2 ∨ j = 3 ∨ j = 4 by omega) with rfl | rfl | rfl | rfl | rfl <;> rfl) 9 55 (Nat.le_of_ble_eq_true rfl) (Nat.le_of_ble_eq_true rfl) (fun q287 hq288 hA289 => ?_)
                    have n290 := sp282.nn hq288
                    have z291 := sp282.1.none hq288
                    obtain ⟨h292, eh292⟩ : ∃ z : tw_H, z = tw_up h275 q287 (.inr (12, [.int 0, .int 0, .int 0, .int 0, .int 0])) := ⟨_, rfl⟩
                    rw [← eh292]
                    have sp293 : tw_sp d τ h g τ h292 := by rw [eh292]; exact sp282.mk hq288
                    have f294 : h292 q287 = some (.inr (12, [.int 0, .int 0, .int 0, .int 0, .int 0])) := by rw [eh292]; exact tw_up_s
                    refine tw_dup dX10_owe_100 rfl ?_
                    refine tw_bv (tw_callIN (M := mX10_owe) (pc := 101) okX8_init dX10_owe_101 w_1439 rfl [] [.ref q287] rfl rfl ⟨by decide, by decide⟩ (Nat.le_of_ble_eq_true rfl) (c_X8_init d g τ h292 sp293.1 q287 z291 f294) 9 55 (Nat.le_of_ble_eq_true rfl) (Nat.le_of_ble_eq_true rfl)) (fun h296 q295 => ?_) (fun E h1 q => q.elim)
                    obtain ⟨τ297, q295s, f298, z299⟩ := q295
                    have sp300 := sp293.trm n290 q295s
                    have k301 : τ297 x = 36 := q295s.2.1.k kx (by decide)
                    have k302 : τ297 ds_5 = 34 := q295s.2.1.k k14 (by decide)
                    have k303 : τ297 fr_6 = 34 := q295s.2.1.k k15 (by decide)
                    have k304 : τ297 ca_7 = 31 := q295s.2.1.k k16 (by decide)
                    have k305 : τ297 us_8 = 31 := q295s.2.1.k k17 (by decide)
                    have k306 : τ297 wo_9 = 31 := q295s.2.1.k k18 (by decide)
                    have k307 : τ297 cm_10 = 31 := q295s.2.1.k k19 (by decide)
                    have k308 : τ297 lc_11 = 24 := q295s.2.1.k k20 (by decide)
                    have k309 : τ297 lh_12 = 25 := q295s.2.1.k k21 (by decide)
                    have k310 : τ297 ld_13 = 26 := q295s.2.1.k k22 (by decide)
                    have k311 : τ297 ds_203 = 34 := q295s.2.1.k k212 (by decide)
                    have k312 : τ297 fr_204 = 34 := q295s.2.1.k k213 (by decide)
                    have k313 : τ297 ca_205 = 31 := q295s.2.1.k k214 (by decide)
                    have k314 : τ297 us_206 = 31 := q295s.2.1.k k215 (by decide)
                    have k315 : τ297 wo_207 = 31 := q295s.2.1.k k216 (by decide)
                    have k316 : τ297 cm_208 = 31 := q295s.2.1.k k217 (by decide)
                    have k317 : τ297 lc_209 = 24 := q295s.2.1.k k218 (by decide)
                    have k318 : τ297 lh_210 = 25 := q295s.2.1.k k219 (by decide)
                    have k319 : τ297 ld_211 = 26 := q295s.2.1.k k220 (by decide)
                    have k320 : τ297 ds_242 = 34 := q295s.2.1.k k251 (by decide)
                    have k321 : τ297 fr_243 = 34 := q295s.2.1.k k252 (by decide)
                    have k322 : τ297 ca_244 = 31 := q295s.2.1.k k253 (by decide)
                    have k323 : τ297 us_245 = 31 := q295s.2.1.k k254 (by decide)
                    have k324 : τ297 wo_246 = 31 := q295s.2.1.k k255 (by decide)
                    have k325 : τ297 cm_247 = 31 := q295s.2.1.k k256 (by decide)
                    have k326 : τ297 lc_248 = 24 := q295s.2.1.k k257 (by decide)
                    have k327 : τ297 lh_249 = 25 := q295s.2.1.k k258 (by decide)
                    have k328 : τ297 ld_250 = 26 := q295s.2.1.k k259 (by decide)
                    refine tw_astore [(5, .ref q287), (0, .ref x), (1, .int (nI j31)), (2, .int (nI j48)), (3, .int v), (4, .int dy)] dX10_owe_104 (by decide) rfl ?_
                    refine tw_aload 0 dX10_owe_106 rfl ?_
                    refine tw_iload_n 2 dX10_owe_108 rfl rfl ?_
                    refine tw_put rfl in_12 tyX8 tyX8_ok nmX8 0 dX10_owe_109 w_1443 rfl (by decide) f298 rfl rfl rfl rfl (Nat.le_of_ble_eq_true rfl) [.int (nI j31), .int 0, .int 0, .int 0, .int 0] rfl ?_
                    obtain ⟨h329, eh329⟩ : ∃ z : tw_H, z = tw_up h296 q287 (.inr (12, [.int (nI j31), .int 0, .int 0, .int 0, .int 0])) := ⟨_, rfl⟩
                    rw [← eh329]
                    have sp330 : tw_sp d τ h g τ297 h329 := by rw [eh329]; exact sp300.wl n290 z299
                    have f331 : h329 q287 = some (.inr (12, [.int (nI j31), .int 0, .int 0, .int 0, .int 0])) := by rw [eh329]; exact tw_up_s
                    refine tw_aload 0 dX10_owe_112 rfl ?_
                    refine tw_iload_n 3 dX10_owe_114 rfl rfl ?_
                    refine tw_put rfl in_12 tyX8 tyX8_ok nmX8 1 dX10_owe_115 w_1444 rfl (by decide) f331 rfl rfl rfl rfl (Nat.le_of_ble_eq_true rfl) [.int (nI j31), .int (nI j48), .int 0, .int 0, .int 0] rfl ?_
                    obtain ⟨h332, eh332⟩ : ∃ z : tw_H, z = tw_up h329 q287 (.inr (12, [.int (nI j31), .int (nI j48), .int 0, .int 0, .int 0])) := ⟨_, rfl⟩
                    rw [← eh332]
                    have sp333 : tw_sp d τ h g τ297 h332 := by rw [eh332]; exact sp330.wl n290 z299
                    have f334 : h332 q287 = some (.inr (12, [.int (nI j31), .int (nI j48), .int 0, .int 0, .int 0])) := by rw [eh332]; exact tw_up_s
                    refine tw_aload 0 dX10_owe_118 rfl ?_
                    refine tw_iload_n 4 dX10_owe_120 rfl rfl ?_
                    refine tw_put rfl in_12 tyX8 tyX8_ok nmX8 2 dX10_owe_121 w_1445 rfl (by decide) f334 rfl rfl rfl rfl (Nat.le_of_ble_eq_true rfl) [.int (nI j31), .int (nI j48), .int v, .int 0, .int 0] rfl ?_
                    obtain ⟨h335, eh335⟩ : ∃ z : tw_H, z = tw_up h332 q287 (.inr (12, [.int (nI j31), .int (nI j48), .int v, .int 0, .int 0])) := ⟨_, rfl⟩
                    rw [← eh335]
                    have sp336 : tw_sp d τ h g τ297 h335 := by rw [eh335]; exact sp333.wl n290 z299
                    have f337 : h335 q287 = some (.inr (12, [.int (nI j31), .int (nI j48), .int v, .int 0, .int 0])) := by rw [eh335]; exact tw_up_s
                    refine tw_aload 0 dX10_owe_124 rfl ?_
                    refine tw_aload_n 1 dX10_owe_126 rfl rfl ?_
                    obtain ⟨e338, f339, th_340, td_341, ds_342, fr_343, ca_344, us_345, wo_346, cm_347, lc_348, lh_349, ld_350, rfl, k351, k352, k353, k354, k355, k356, k357, k358, k359, k360, k361, k362, k363, k364⟩ := sp336.1 x 36 k301 (by decide)
                    refine tw_get (v := .int td_341) rfl in_14 1 dX10_owe_127 w_1152 rfl (by decide) f339 rfl ?_
                    refine tw_iload 5 dX10_owe_130 rfl ?_
                    refine tw_iadd dX10_owe_132 ?_
                    refine tw_nmi (fun v365 ev365 => ?_)
                    refine tw_put rfl in_12 tyX8 tyX8_ok nmX8 3 dX10_owe_133 w_1446 rfl (by decide) f337 rfl rfl rfl rfl (Nat.le_of_ble_eq_true rfl) [.int (nI j31), .int (nI j48), .int v, .int v365, .int 0] rfl ?_
                    obtain ⟨h366, eh366⟩ : ∃ z : tw_H, z = tw_up h335 q287 (.inr (12, [.int (nI j31), .int (nI j48), .int v, .int v365, .int 0])) := ⟨_, rfl⟩
                    rw [← eh366]
                    have sp367 : tw_sp d τ h g τ297 h366 := by rw [eh366]; exact sp336.wl n290 z299
                    have f368 : h366 q287 = some (.inr (12, [.int (nI j31), .int (nI j48), .int v, .int v365, .int 0])) := by rw [eh366]; exact tw_up_s
                    refine tw_aload_n 1 dX10_owe_136 rfl rfl ?_
                    obtain ⟨e369, f370, th_371, td_372, ds_373, fr_374, ca_375, us_376, wo_377, cm_378, lc_379, lh_380, ld_381, rfl, k382, k383, k384, k385, k386, k387, k388, k389, k390, k391, k392, k393, k394, k395⟩ := sp367.1 x 36 k301 (by decide)
                    refine tw_get (v := .ref ld_381) rfl in_14 11 dX10_owe_137 w_1162 rfl (by decide) f370 rfl ?_
                    refine tw_aload 0 dX10_owe_140 rfl ?_
                    obtain ⟨τ396, eτ396⟩ : ∃ z : tw_K, z = tw_ku τ297 q287 22 := ⟨_, rfl⟩
                    have le397 : tw_le τ297 τ396 := by rw [eτ396]; exact tw_ku_le z299
                    have k398 : τ396 x = 36 := le397.k k301 (by decide)
                    have k399 : τ396 ds_5 = 34 := le397.k k302 (by decide)
                    have k400 : τ396 fr_6 = 34 := le397.k k303 (by decide)
                    have k401 : τ396 ca_7 = 31 := le397.k k304 (by decide)
                    have k402 : τ396 us_8 = 31 := le397.k k305 (by decide)
                    have k403 : τ396 wo_9 = 31 := le397.k k306 (by decide)
                    have k404 : τ396 cm_10 = 31 := le397.k k307 (by decide)
                    have k405 : τ396 lc_11 = 24 := le397.k k308 (by decide)
                    have k406 : τ396 lh_12 = 25 := le397.k k309 (by decide)
                    have k407 : τ396 ld_13 = 26 := le397.k k310 (by decide)
                    have k408 : τ396 ds_203 = 34 := le397.k k311 (by decide)
                    have k409 : τ396 fr_204 = 34 := le397.k k312 (by decide)
                    have k410 : τ396 ca_205 = 31 := le397.k k313 (by decide)
                    have k411 : τ396 us_206 = 31 := le397.k k314 (by decide)
                    have k412 : τ396 wo_207 = 31 := le397.k k315 (by decide)
                    have k413 : τ396 cm_208 = 31 := le397.k k316 (by decide)
                    have k414 : τ396 lc_209 = 24 := le397.k k317 (by decide)
                    have k415 : τ396 lh_210 = 25 := le397.k k318 (by decide)
                    have k416 : τ396 ld_211 = 26 := le397.k k319 (by decide)
                    have k417 : τ396 ds_242 = 34 := le397.k k320 (by decide)
                    have k418 : τ396 fr_243 = 34 := le397.k k321 (by decide)
                    have k419 : τ396 ca_244 = 31 := le397.k k322 (by decide)
                    have k420 : τ396 us_245 = 31 := le397.k k323 (by decide)
                    have k421 : τ396 wo_246 = 31 := le397.k k324 (by decide)
                    have k422 : τ396 cm_247 = 31 := le397.k k325 (by decide)
                    have k423 : τ396 lc_248 = 24 := le397.k k326 (by decide)
                    have k424 : τ396 lh_249 = 25 := le397.k k327 (by decide)
                    have k425 : τ396 ld_250 = 26 := le397.k k328 (by decide)
                    have k426 : τ396 ds_342 = 34 := le397.k k351 (by decide)
                    have k427 : τ396 fr_343 = 34 := le397.k k352 (by decide)
                    have k428 : τ396 ca_344 = 31 := le397.k k353 (by decide)
                    have k429 : τ396 us_345 = 31 := le397.k k354 (by decide)
                    have k430 : τ396 wo_346 = 31 := le397.k k355 (by decide)
                    have k431 : τ396 cm_347 = 31 := le397.k k356 (by decide)
                    have k432 : τ396 lc_348 = 24 := le397.k k357 (by decide)
                    have k433 : τ396 lh_349 = 25 := le397.k k358 (by decide)
                    have k434 : τ396 ld_350 = 26 := le397.k k359 (by decide)
                    have k435 : τ396 ds_373 = 34 := le397.k k382 (by decide)
                    have k436 : τ396 fr_374 = 34 := le397.k k383 (by decide)
                    have k437 : τ396 ca_375 = 31 := le397.k k384 (by decide)
                    have k438 : τ396 us_376 = 31 := le397.k k385 (by decide)
                    have k439 : τ396 wo_377 = 31 := le397.k k386 (by decide)
                    have k440 : τ396 cm_378 = 31 := le397.k k387 (by decide)
                    have k441 : τ396 lc_379 = 24 := le397.k k388 (by decide)
                    have k442 : τ396 lh_380 = 25 := le397.k k389 (by decide)
                    have k443 : τ396 ld_381 = 26 := le397.k k390 (by decide)
                    have sp444 : tw_sp d τ h g τ396 h366 := by rw [eτ396]; exact sp367.ty n290 z299 f368 (by rw [← eτ396]; exact ⟨v, v365, 0, j31, j48, rfl, (by omega), (by omega), (by unfold tw_01; decide)⟩)
                    have k445 : τ396 q287 = 22 := by rw [eτ396]; exact tw_ku_s
                    obtain ⟨e446, f447, ⟨el448, rfl, k449⟩, k450⟩ := sp444.1 ld_381 26 k443 (by decide)
                    have hb9 : g.2 5 + 1 ≤ 10 := (tw_n4 c273 k393 (by decide))
                    rcases k449 with k449p | k449p
                    · obtain ⟨pa, pn, pf⟩ := k449p
                      subst pa
                      have f9 : h366 ld_381 = some (.inr (3, [.int (g.1 5), .ref (d.2 102), .int (nI 0)])) := by have z := f447; rw [pn] at z; exact z
                      refine tw_bi (tw_callV (M := mX10_owe) (pc := 142) okJx4a65c_add_9ea2d dX10_owe_142 w_1238 rfl f447 [.ref q287] [] rfl rfl ⟨by decide, by decide⟩ (Nat.le_of_ble_eq_true rfl) (c_add_new d h366 ld_381 (g.1 5) f9 q287 12 _ _ rfl (ng_12) f368 (by decide)) 8 45 (Nat.le_of_ble_eq_true rfl) (Nat.le_of_ble_eq_true rfl)) (fun r9 h451 q9 => ?_) (fun E h1 q => q.elim)
                      obtain ⟨r8, hr8, q1, q2, q3⟩ := q9
                      obtain ⟨g9, τ9, ⟨hga, hg1⟩, sp9⟩ := tw_gadd26 (F := fun _ => none) sp444.1 k443 k445 hb9 (fun j hj => by rw [pn] at hj; exact absurd hj (Nat.not_lt_zero _)) (Or.inr ⟨hr8, pf⟩) (by rw [pn]; exact q1) (by rw [pn]; exact q2) q3
                      have sp452 := sp444.tr sp9
                      have k453 : τ9 x = 36 := sp9.2.1.k k398 (by decide)
                      have k454 : τ9 ds_5 = 34 := sp9.2.1.k k399 (by decide)
                      have k455 : τ9 fr_6 = 34 := sp9.2.1.k k400 (by decide)
                      have k456 : τ9 ca_7 = 31 := sp9.2.1.k k401 (by decide)
                      have k457 : τ9 us_8 = 31 := sp9.2.1.k k402 (by decide)
                      have k458 : τ9 wo_9 = 31 := sp9.2.1.k k403 (by decide)
                      have k459 : τ9 cm_10 = 31 := sp9.2.1.k k404 (by decide)
                      have k460 : τ9 lc_11 = 24 := sp9.2.1.k k405 (by decide)
                      have k461 : τ9 lh_12 = 25 := sp9.2.1.k k406 (by decide)
                      have k462 : τ9 ld_13 = 26 := sp9.2.1.k k407 (by decide)
                      have k463 : τ9 ds_203 = 34 := sp9.2.1.k k408 (by decide)
                      have k464 : τ9 fr_204 = 34 := sp9.2.1.k k409 (by decide)
                      have k465 : τ9 ca_205 = 31 := sp9.2.1.k k410 (by decide)
                      have k466 : τ9 us_206 = 31 := sp9.2.1.k k411 (by decide)
                      have k467 : τ9 wo_207 = 31 := sp9.2.1.k k412 (by decide)
                      have k468 : τ9 cm_208 = 31 := sp9.2.1.k k413 (by decide)
                      have k469 : τ9 lc_209 = 24 := sp9.2.1.k k414 (by decide)
                      have k470 : τ9 lh_210 = 25 := sp9.2.1.k k415 (by decide)
                      have k471 : τ9 ld_211 = 26 := sp9.2.1.k k416 (by decide)
                      have k472 : τ9 ds_242 = 34 := sp9.2.1.k k417 (by decide)
                      have k473 : τ9 fr_243 = 34 := sp9.2.1.k k418 (by decide)
                      have k474 : τ9 ca_244 = 31 := sp9.2.1.k k419 (by decide)
                      have k475 : τ9 us_245 = 31 := sp9.2.1.k k420 (by decide)
                      have k476 : τ9 wo_246 = 31 := sp9.2.1.k k421 (by decide)
                      have k477 : τ9 cm_247 = 31 := sp9.2.1.k k422 (by decide)
                      have k478 : τ9 lc_248 = 24 := sp9.2.1.k k423 (by decide)
                      have k479 : τ9 lh_249 = 25 := sp9.2.1.k k424 (by decide)
                      have k480 : τ9 ld_250 = 26 := sp9.2.1.k k425 (by decide)
                      have k481 : τ9 ds_342 = 34 := sp9.2.1.k k426 (by decide)
                      have k482 : τ9 fr_343 = 34 := sp9.2.1.k k427 (by decide)
                      have k483 : τ9 ca_344 = 31 := sp9.2.1.k k428 (by decide)
                      have k484 : τ9 us_345 = 31 := sp9.2.1.k k429 (by decide)
                      have k485 : τ9 wo_346 = 31 := sp9.2.1.k k430 (by decide)
                      have k486 : τ9 cm_347 = 31 := sp9.2.1.k k431 (by decide)
                      have k487 : τ9 lc_348 = 24 := sp9.2.1.k k432 (by decide)
                      have k488 : τ9 lh_349 = 25 := sp9.2.1.k k433 (by decide)
                      have k489 : τ9 ld_350 = 26 := sp9.2.1.k k434 (by decide)
                      have k490 : τ9 ds_373 = 34 := sp9.2.1.k k435 (by decide)
                      have k491 : τ9 fr_374 = 34 := sp9.2.1.k k436 (by decide)
                      have k492 : τ9 ca_375 = 31 := sp9.2.1.k k437 (by decide)
                      have k493 : τ9 us_376 = 31 := sp9.2.1.k k438 (by decide)
                      have k494 : τ9 wo_377 = 31 := sp9.2.1.k k439 (by decide)
                      have k495 : τ9 cm_378 = 31 := sp9.2.1.k k440 (by decide)
                      have k496 : τ9 lc_379 = 24 := sp9.2.1.k k441 (by decide)
                      have k497 : τ9 lh_380 = 25 := sp9.2.1.k k442 (by decide)
                      have k498 : τ9 ld_381 = 26 := sp9.2.1.k k443 (by decide)
                      have k499 : τ9 q287 = 22 := sp9.2.1.k k445 (by decide)
                      refine tw_pop dX10_owe_145 rfl ?_
                      refine tw_aload_n 1 dX10_owe_146 rfl rfl ?_
                      obtain ⟨e500, f501, th_502, td_503, ds_504, fr_505, ca_506, us_507, wo_508, cm_509, lc_510, lh_511, ld_512, rfl, k513, k514, k515, k516, k517, k518, k519, k520, k521, k522, k523, k524, k525, k526⟩ := sp452.1 x 36 k453 (by decide)
                      refine tw_get (v := .ref ld_512) rfl in_14 11 dX10_owe_147 w_1162 rfl (by decide) f501 rfl ?_
                      obtain ⟨e527, f528, ⟨el529, rfl, k530⟩, k531⟩ := sp452.1 ld_512 26 k521 (by decide)
                      refine tw_bi (tw_callV (M := mX10_owe) (pc := 150) okJx4a65c_size_8abf5 dX10_owe_150 w_1208 rfl f528 [] [] rfl rfl ⟨by decide, by decide⟩ (Nat.le_of_ble_eq_true rfl) (c26_size d g9 τ9 h451 sp452.1 ld_512 k521) 8 45 (Nat.le_of_ble_eq_true rfl) (Nat.le_of_ble_eq_true rfl)) (fun r534 h533 q532 => ?_) (fun E h1 q => q.elim)
                      obtain ⟨q532e, q532r⟩ := q532
                      rw [q532e, q532r]
                      refine tw_iconst (v := 1) dX10_owe_153 (by decide) ?_
                      refine tw_isub dX10_owe_154 ?_
                      refine tw_nmi (fun v535 ev535 => ?_)
                      exact tw_iret dX10_owe_155 rfl (Or.inl ⟨_, rfl, _, _, Or.inr ⟨hga, hg1⟩, sp452⟩)
                    · obtain ⟨e9, fa9, ⟨F9, rfl, hc9, h49⟩, un9⟩ := sp444.1 el448 29 k449p (by decide)
                      refine tw_bi (tw_callV (M := mX10_owe) (pc := 142) okJx4a65c_add_9ea2d dX10_owe_142 w_1238 rfl f447 [.ref q287] [] rfl rfl ⟨by decide, by decide⟩ (Nat.le_of_ble_eq_true rfl) (c_add_old d h366 ld_381 el448 (g.2 5) F9 (g.1 5) (by omega) f447 fa9 q287 12 _ _ rfl (ng_12) f368 (by decide)) 8 45 (Nat.le_of_ble_eq_true rfl) (Nat.le_of_ble_eq_true rfl)) (fun r9 h536 q9 => ?_) (fun E h1 q => q.elim)
                      obtain ⟨q1, q2, q3⟩ := q9
                      obtain ⟨g9, τ9, ⟨hga, hg1⟩, sp9⟩ := tw_gadd26 sp444.1 k443 k445 hb9 h49 (Or.inl k449p) q1 q2 q3
                      have sp537 := sp444.tr sp9
                      have k538 : τ9 x = 36 := sp9.2.1.k k398 (by decide)
                      have k539 : τ9 ds_5 = 34 := sp9.2.1.k k399 (by decide)
                      have k540 : τ9 fr_6 = 34 := sp9.2.1.k k400 (by decide)
                      have k541 : τ9 ca_7 = 31 := sp9.2.1.k k401 (by decide)
                      have k542 : τ9 us_8 = 31 := sp9.2.1.k k402 (by decide)
                      have k543 : τ9 wo_9 = 31 := sp9.2.1.k k403 (by decide)
                      have k544 : τ9 cm_10 = 31 := sp9.2.1.k k404 (by decide)
                      have k545 : τ9 lc_11 = 24 := sp9.2.1.k k405 (by decide)
                      have k546 : τ9 lh_12 = 25 := sp9.2.1.k k406 (by decide)
                      have k547 : τ9 ld_13 = 26 := sp9.2.1.k k407 (by decide)
                      have k548 : τ9 ds_203 = 34 := sp9.2.1.k k408 (by decide)
                      have k549 : τ9 fr_204 = 34 := sp9.2.1.k k409 (by decide)
                      have k550 : τ9 ca_205 = 31 := sp9.2.1.k k410 (by decide)
                      have k551 : τ9 us_206 = 31 := sp9.2.1.k k411 (by decide)
                      have k552 : τ9 wo_207 = 31 := sp9.2.1.k k412 (by decide)
                      have k553 : τ9 cm_208 = 31 := sp9.2.1.k k413 (by decide)
                      have k554 : τ9 lc_209 = 24 := sp9.2.1.k k414 (by decide)
                      have k555 : τ9 lh_210 = 25 := sp9.2.1.k k415 (by decide)
                      have k556 : τ9 ld_211 = 26 := sp9.2.1.k k416 (by decide)
                      have k557 : τ9 ds_242 = 34 := sp9.2.1.k k417 (by decide)
                      have k558 : τ9 fr_243 = 34 := sp9.2.1.k k418 (by decide)
                      have k559 : τ9 ca_244 = 31 := sp9.2.1.k k419 (by decide)
                      have k560 : τ9 us_245 = 31 := sp9.2.1.k k420 (by decide)
                      have k561 : τ9 wo_246 = 31 := sp9.2.1.k k421 (by decide)
                      have k562 : τ9 cm_247 = 31 := sp9.2.1.k k422 (by decide)
                      have k563 : τ9 lc_248 = 24 := sp9.2.1.k k423 (by decide)
                      have k564 : τ9 lh_249 = 25 := sp9.2.1.k k424 (by decide)
                      have k565 : τ9 ld_250 = 26 := sp9.2.1.k k425 (by decide)
                      have k566 : τ9 ds_342 = 34 := sp9.2.1.k k426 (by decide)
                      have k567 : τ9 fr_343 = 34 := sp9.2.1.k k427 (by decide)
                      have k568 : τ9 ca_344 = 31 := sp9.2.1.k k428 (by decide)
                      have k569 : τ9 us_345 = 31 := sp9.2.1.k k429 (by decide)
                      have k570 : τ9 wo_346 = 31 := sp9.2.1.k k430 (by decide)
                      have k571 : τ9 cm_347 = 31 := sp9.2.1.k k431 (by decide)
                      have k572 : τ9 lc_348 = 24 := sp9.2.1.k k432 (by decide)
                      have k573 : τ9 lh_349 = 25 := sp9.2.1.k k433 (by decide)
                      have k574 : τ9 ld_350 = 26 := sp9.2.1.k k434 (by decide)
                      have k575 : τ9 ds_373 = 34 := sp9.2.1.k k435 (by decide)
                      have k576 : τ9 fr_374 = 34 := sp9.2.1.k k436 (by decide)
                      have k577 : τ9 ca_375 = 31 := sp9.2.1.k k437 (by decide)
                      have k578 : τ9 us_376 = 31 := sp9.2.1.k k438 (by decide)
                      have k579 : τ9 wo_377 = 31 := sp9.2.1.k k439 (by decide)
                      have k580 : τ9 cm_378 = 31 := sp9.2.1.k k440 (by decide)
                      have k581 : τ9 lc_379 = 24 := sp9.2.1.k k441 (by decide)
                      have k582 : τ9 lh_380 = 25 := sp9.2.1.k k442 (by decide)
                      have k583 : τ9 ld_381 = 26 := sp9.2.1.k k443 (by decide)
                      have k584 : τ9 q287 = 22 := sp9.2.1.k k445 (by decide)
                      refine tw_pop dX10_owe_145 rfl ?_
                      refine tw_aload_n 1 dX10_owe_146 rfl rfl ?_
                      obtain ⟨e585, f586, th_587, td_588, ds_589, fr_590, ca_591, us_592, wo_593, cm_594, lc_595, lh_596, ld_597, rfl, k598, k599, k600, k601, k602, k603, k604, k605, k606, k607, k608, k609, k610, k611⟩ := sp537.1 x 36 k538 (by decide)
                      refine tw_get (v := .ref ld_597) rfl in_14 11 dX10_owe_147 w_1162 rfl (by decide) f586 rfl ?_
                      obtain ⟨e612, f613, ⟨el614, rfl, k615⟩, k616⟩ := sp537.1 ld_597 26 k606 (by decide)
                      refine tw_bi (tw_callV (M := mX10_owe) (pc := 150) okJx4a65c_size_8abf5 dX10_owe_150 w_1208 rfl f613 [] [] rfl rfl ⟨by decide, by decide⟩ (Nat.le_of_ble_eq_true rfl) (c26_size d g9 τ9 h536 sp537.1 ld_597 k606) 8 45 (Nat.le_of_ble_eq_true rfl) (Nat.le_of_ble_eq_true rfl)) (fun r619 h618 q617 => ?_) (fun E h1 q => q.elim)
                      obtain ⟨q617e, q617r⟩ := q617
                      rw [q617e, q617r]
                      refine tw_iconst (v := 1) dX10_owe_153 (by decide) ?_
                      refine tw_isub dX10_owe_154 ?_
                      refine tw_nmi (fun v620 ev620 => ?_)
                      exact tw_iret dX10_owe_155 rfl (Or.inl ⟨_, rfl, _, _, Or.inr ⟨hga, hg1⟩, sp537⟩)
                · refine tw_iconst (v := 1) dX10_owe_83 (by decide) ?_
                  refine tw_goto 88 dX10_owe_84 (by decide) ?_
                  refine tw_iconst (v := 3) dX10_owe_88 (by decide) ?_
                  refine tw_bi (tw_callV (M := mX10_owe) (pc := 89) okX10_refuse dX10_owe_89 w_1204 rfl f239 [.int 1, .int 3] [] rfl rfl ⟨by decide, by decide⟩ (Nat.le_of_ble_eq_true rfl) (c_X10_refuse d g τ h227 sp234.1 x kx 1 3 (by decide)) 10 60 (Nat.le_of_ble_eq_true rfl) (Nat.le_of_ble_eq_true rfl)) (fun r623 h622 q621 => ?_) (fun E h1 q => q.elim)
                  obtain ⟨e624, he625, hs626, hr627, h3628⟩ := q621
                  have sp629 : tw_sp d τ h g τ h622 := by rw [he625]; exact sp234.set kx (by decide) hs626
                  have f630 : h622 ld_250 = some (.inr (3, [.int (g.1 5), .ref el267, .int (nI (g.2 5))])) := by rw [he625, tw_up_n (fun q => absurd (k259) (by rw [q, kx]; decide))]; exact f266
                  rcases hr627 with ei631 | ⟨ei631, ei631b⟩
                  · rw [ei631]
                    refine tw_if_eq 97 dX10_owe_92 (by decide) (fun c632 => absurd c632 (by decide)) (fun _ => ?_)
                    refine tw_iconst (v := 0) dX10_owe_95 (by decide) ?_
                    exact tw_iret dX10_owe_96 rfl (Or.inl ⟨_, rfl, _, _, Or.inl rfl, sp629⟩)
                  · exact absurd ei631b (by decide)

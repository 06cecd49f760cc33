/-! the class's methods over the typed heap. Laid by wip/p5/mkclass.py. -/
set_option maxHeartbeats 4000000 in
set_option maxRecDepth 100000 in
theorem c2_X7_init (d : tw_D) (g : tw_G) (τ : tw_K) (h : tw_H) (hw : tw_wt d g τ h) (x : Nat) (hz : τ x = 0) (hx : h x = some (.inr (11, [.int 0, .int 0, .null, .null, .null]))) : tw_Ct d mX7_init 3 9 [.ref x] h (tw_qv (fun h1 => ∃ (τ1 : tw_K) (v o t : Nat) (F : Nat → Int32), tw_sp d τ (tw_rm h x) g τ1 h1 ∧ h1 x = some (.inr (11, [.int 0, .int 0, .ref v, .ref o, .ref t])) ∧ h1 o = some (.inl (d.2 2, 2, .inl F)) ∧ (∀ k, k < 2 → F k = 1) ∧ (∀ k, tw_01 (F k)) ∧ x ≠ o ∧ tw_rm h x o = none ∧ τ1 o = 0 ∧ τ1 x = 0 ∧ τ1 v = 31 ∧ (h1 t = some (.inl (d.2 0, 5, .inl (fun _ => 0))) ∧ x ≠ t ∧ o ≠ t ∧ tw_rm h x t = none ∧ τ1 t = 0) ∧ ∀ b, b ≠ x → h b ≠ none → h1 b = h b) tw_nx) := by
  refine tw_of (by decide +kernel) (Nat.le_of_ble_eq_true rfl) ?_
  show tw_W d mX7_init _ 0 [(0, .ref x)] [] h 3 9
  have sp0 := tw_sp.rm hw x
  have fr0 : ∀ b, b ≠ x → h b ≠ none → h b = h b := fun _ _ _ => rfl
  refine tw_aload_n 0 dX7_init_0 rfl rfl ?_
  refine tw_objInit dX7_init_1 w_1217 w_117 w_118 ⟨by decide, Nat.le_of_ble_eq_true rfl⟩ ?_
  refine tw_aload_n 0 dX7_init_4 rfl rfl ?_
  refine tw_iconst (v := 2) dX7_init_5 (by decide) ?_
  refine tw_newa (a0 := (2, .inr (.inl (fun _ => 0)))) 1 rfl dX7_init_6 rfl w_1150 (fun _ => rfl) (by decide) (by decide) (by decide) 2 7 (Nat.le_of_ble_eq_true rfl) (Nat.le_of_ble_eq_true rfl) (fun q1 hq2 hA3 => ?_)
  have n4 := sp0.nn hq2
  have z5 := sp0.1.none hq2
  have ne6 := tw_neF hx hq2
  obtain ⟨h7, eh7⟩ : ∃ z : tw_H, z = tw_up h q1 (.inl (d.2 1, 2, .inr (.inl (fun _ => 0)))) := ⟨_, rfl⟩
  rw [← eh7]
  have fr8 : ∀ b, b ≠ x → h b ≠ none → h7 b = h b := fun b n1 n2 => by rw [eh7, tw_up_n (fun z => n2 (tw_rmN n4 z n1))] <;> exact fr0 b n1 n2
  have sp9 : tw_sp d τ (tw_rm h x) g τ h7 := by rw [eh7]; exact sp0.mk hq2
  have f10 : h7 x = some (.inr (11, [.int 0, .int 0, .null, .null, .null])) := by rw [eh7, tw_up_n ne6]; exact hx
  have f11 : h7 q1 = some (.inl (d.2 1, 2, .inr (.inl (fun _ => 0)))) := by rw [eh7]; exact tw_up_s
  obtain ⟨τ12, eτ12⟩ : ∃ z : tw_K, z = tw_ku τ q1 31 := ⟨_, rfl⟩
  have le13 : tw_le τ τ12 := by rw [eτ12]; exact tw_ku_le z5
  have sp14 : tw_sp d τ (tw_rm h x) g τ12 h7 := by rw [eτ12]; exact sp9.ty n4 z5 f11 (by rw [← eτ12]; exact ⟨_, rfl⟩)
  have k15 : τ12 q1 = 31 := by rw [eτ12]; exact tw_ku_s
  have z16 : τ12 x = 0 := by rw [eτ12, tw_ku_n ne6]; exact hz
  refine tw_put rfl in_11 tyX7 tyX7_ok nmX7 2 dX7_init_8 w_1220 rfl (by decide) f10 rfl rfl rfl rfl (Nat.le_of_ble_eq_true rfl) [.int 0, .int 0, .ref q1, .null, .null] rfl ?_
  obtain ⟨h17, eh17⟩ : ∃ z : tw_H, z = tw_up h7 x (.inr (11, [.int 0, .int 0, .ref q1, .null, .null])) := ⟨_, rfl⟩
  rw [← eh17]
  have fr18 : ∀ b, b ≠ x → h b ≠ none → h17 b = h b := fun b n1 n2 => by rw [eh17, tw_up_n n1] <;> exact fr8 b n1 n2
  have sp19 : tw_sp d τ (tw_rm h x) g τ12 h17 := by rw [eh17]; exact sp14.wl tw_rm_s z16
  have f20 : h17 x = some (.inr (11, [.int 0, .int 0, .ref q1, .null, .null])) := by rw [eh17]; exact tw_up_s
  refine tw_aload_n 0 dX7_init_11 rfl rfl ?_
  refine tw_iconst (v := 2) dX7_init_12 (by decide) ?_
  refine tw_newa (a0 := (2, .inl (fun _ => 0))) 2 rfl dX7_init_13 rfl w_1237 (fun _ => rfl) (by decide) (by decide) (by decide) 1 5 (Nat.le_of_ble_eq_true rfl) (Nat.le_of_ble_eq_true rfl) (fun q21 hq22 hA23 => ?_)
  have n24 := sp19.nn hq22
  have z25 := sp19.1.none hq22
  have ne26 := tw_neF f20 hq22
  obtain ⟨h27, eh27⟩ : ∃ z : tw_H, z = tw_up h17 q21 (.inl (d.2 2, 2, .inl (fun _ => 0))) := ⟨_, rfl⟩
  rw [← eh27]
  have fr28 : ∀ b, b ≠ x → h b ≠ none → h27 b = h b := fun b n1 n2 => by rw [eh27, tw_up_n (fun z => n2 (tw_rmN n24 z n1))] <;> exact fr18 b n1 n2
  have sp29 : tw_sp d τ (tw_rm h x) g τ12 h27 := by rw [eh27]; exact sp19.mk hq22
  have f30 : h27 x = some (.inr (11, [.int 0, .int 0, .ref q1, .null, .null])) := by rw [eh27, tw_up_n ne26]; exact f20
  have f31 : h27 q21 = some (.inl (d.2 2, 2, .inl (fun _ => 0))) := by rw [eh27]; exact tw_up_s
  refine tw_dup dX7_init_15 rfl ?_
  refine tw_iconst (v := 0) dX7_init_16 (by decide) ?_
  refine tw_iconst (v := 1) dX7_init_17 (by decide) ?_
  refine tw_zast dX7_init_18 f31 (vp_in_nI (n := 0) (by decide) (by decide)) ?_
  obtain ⟨F32, eF32⟩ : ∃ z : Nat → Int32, z = upd (fun _ => 0) (0 : Int32).toNatClampNeg (vp_nar .boolean 1) := ⟨_, rfl⟩
  rw [← eF32]
  obtain ⟨h33, eh33⟩ : ∃ z : tw_H, z = tw_up h27 q21 (.inl (d.2 2, 2, .inl F32)) := ⟨_, rfl⟩
  rw [← eh33]
  have fr34 : ∀ b, b ≠ x → h b ≠ none → h33 b = h b := fun b n1 n2 => by rw [eh33, tw_up_n (fun z => n2 (tw_rmN n24 z n1))] <;> exact fr28 b n1 n2
  have sp35 : tw_sp d τ (tw_rm h x) g τ12 h33 := by rw [eh33]; exact sp29.wl n24 z25
  have f36 : h33 x = some (.inr (11, [.int 0, .int 0, .ref q1, .null, .null])) := by rw [eh33, tw_up_n ne26]; exact f30
  have f37 : h33 q21 = some (.inl (d.2 2, 2, .inl F32)) := by rw [eh33]; exact tw_up_s
  refine tw_dup dX7_init_19 rfl ?_
  refine tw_iconst (v := 1) dX7_init_20 (by decide) ?_
  refine tw_iconst (v := 1) dX7_init_21 (by decide) ?_
  refine tw_zast dX7_init_22 f37 (vp_in_nI (n := 1) (by decide) (by decide)) ?_
  obtain ⟨F38, eF38⟩ : ∃ z : Nat → Int32, z = upd F32 (1 : Int32).toNatClampNeg (vp_nar .boolean 1) := ⟨_, rfl⟩
  rw [← eF38]
  obtain ⟨h39, eh39⟩ : ∃ z : tw_H, z = tw_up h33 q21 (.inl (d.2 2, 2, .inl F38)) := ⟨_, rfl⟩
  rw [← eh39]
  have fr40 : ∀ b, b ≠ x → h b ≠ none → h39 b = h b := fun b n1 n2 => by rw [eh39, tw_up_n (fun z => n2 (tw_rmN n24 z n1))] <;> exact fr34 b n1 n2
  have sp41 : tw_sp d τ (tw_rm h x) g τ12 h39 := by rw [eh39]; exact sp35.wl n24 z25
  have f42 : h39 x = some (.inr (11, [.int 0, .int 0, .ref q1, .null, .null])) := by rw [eh39, tw_up_n ne26]; exact f36
  have f43 : h39 q21 = some (.inl (d.2 2, 2, .inl F38)) := by rw [eh39]; exact tw_up_s
  refine tw_put rfl in_11 tyX7 tyX7_ok nmX7 3 dX7_init_23 w_1222 rfl (by decide) f42 rfl rfl rfl rfl (Nat.le_of_ble_eq_true rfl) [.int 0, .int 0, .ref q1, .ref q21, .null] rfl ?_
  obtain ⟨h44, eh44⟩ : ∃ z : tw_H, z = tw_up h39 x (.inr (11, [.int 0, .int 0, .ref q1, .ref q21, .null])) := ⟨_, rfl⟩
  rw [← eh44]
  have fr45 : ∀ b, b ≠ x → h b ≠ none → h44 b = h b := fun b n1 n2 => by rw [eh44, tw_up_n n1] <;> exact fr40 b n1 n2
  have sp46 : tw_sp d τ (tw_rm h x) g τ12 h44 := by rw [eh44]; exact sp41.wl tw_rm_s z16
  have f47 : h44 q21 = some (.inl (d.2 2, 2, .inl F38)) := by rw [eh44, tw_up_n (Ne.symm ne26)]; exact f43
  have f48 : h44 x = some (.inr (11, [.int 0, .int 0, .ref q1, .ref q21, .null])) := by rw [eh44]; exact tw_up_s
  refine tw_aload_n 0 dX7_init_26 rfl rfl ?_
  refine tw_iconst (v := 5) dX7_init_27 (by decide) ?_
  refine tw_newa (a0 := (5, .inl (fun _ => 0))) 0 rfl dX7_init_28 rfl w_500 (fun _ => rfl) (by decide) (by decide) (by decide) 0 0 (Nat.le_of_ble_eq_true rfl) (Nat.le_of_ble_eq_true rfl) (fun q49 hq50 hA51 => ?_)
  have n52 := sp46.nn hq50
  have z53 := sp46.1.none hq50
  have ne54 := tw_neF f47 hq50
  have ne55 := tw_neF f48 hq50
  obtain ⟨h56, eh56⟩ : ∃ z : tw_H, z = tw_up h44 q49 (.inl (d.2 0, 5, .inl (fun _ => 0))) := ⟨_, rfl⟩
  rw [← eh56]
  have fr57 : ∀ b, b ≠ x → h b ≠ none → h56 b = h b := fun b n1 n2 => by rw [eh56, tw_up_n (fun z => n2 (tw_rmN n52 z n1))] <;> exact fr45 b n1 n2
  have sp58 : tw_sp d τ (tw_rm h x) g τ12 h56 := by rw [eh56]; exact sp46.mk hq50
  have f59 : h56 q21 = some (.inl (d.2 2, 2, .inl F38)) := by rw [eh56, tw_up_n ne54]; exact f47
  have f60 : h56 x = some (.inr (11, [.int 0, .int 0, .ref q1, .ref q21, .null])) := by rw [eh56, tw_up_n ne55]; exact f48
  have f61 : h56 q49 = some (.inl (d.2 0, 5, .inl (fun _ => 0))) := by rw [eh56]; exact tw_up_s
  refine tw_put rfl in_11 tyX7 tyX7_ok nmX7 4 dX7_init_30 w_1224 rfl (by decide) f60 rfl rfl rfl rfl (Nat.le_of_ble_eq_true rfl) [.int 0, .int 0, .ref q1, .ref q21, .ref q49] rfl ?_
  obtain ⟨h62, eh62⟩ : ∃ z : tw_H, z = tw_up h56 x (.inr (11, [.int 0, .int 0, .ref q1, .ref q21, .ref q49])) := ⟨_, rfl⟩
  rw [← eh62]
  have fr63 : ∀ b, b ≠ x → h b ≠ none → h62 b = h b := fun b n1 n2 => by rw [eh62, tw_up_n n1] <;> exact fr57 b n1 n2
  have sp64 : tw_sp d τ (tw_rm h x) g τ12 h62 := by rw [eh62]; exact sp58.wl tw_rm_s z16
  have f65 : h62 q21 = some (.inl (d.2 2, 2, .inl F38)) := by rw [eh62, tw_up_n (Ne.symm ne26)]; exact f59
  have f66 : h62 q49 = some (.inl (d.2 0, 5, .inl (fun _ => 0))) := by rw [eh62, tw_up_n (Ne.symm ne55)]; exact f61
  have f67 : h62 x = some (.inr (11, [.int 0, .int 0, .ref q1, .ref q21, .ref q49])) := by rw [eh62]; exact tw_up_s
  exact tw_vret dX7_init_33 rfl (Or.inl ⟨rfl, _, q1, q21, q49, _, sp64, f67, f65, (fun k hk => by rw [eF38, eF32]; rcases (show k = 0 ∨ k = 1 by omega) with rfl | rfl <;> rfl), (fun k => by rw [eF38, eF32]; exact tw_01up (tw_01up (fun _ => Or.inl rfl) (by unfold tw_01; decide)) (by unfold tw_01; decide) k), ne26, n24, z25, z16, k15, ⟨f66, ne55, ne54, n52, z53⟩, fr63⟩)

set_option maxHeartbeats 4000000 in
set_option maxRecDepth 100000 in
theorem c2_X9_init (d : tw_D) (g : tw_G) (τ : tw_K) (h : tw_H) (hw : tw_wt d g τ h) (x : Nat) (hz : τ x = 0) (hx : h x = some (.inr (13, [.int 0, .int 0, .int 0, .null]))) : tw_Ct d mX9_init 1 2 [.ref x] h (tw_qv (fun h1 => ∃ (τ1 : tw_K) (p : Nat), tw_sp d τ (tw_rm h x) g τ1 h1 ∧ h1 x = some (.inr (13, [.int 0, .int (-1), .int (-1), .ref p])) ∧ τ1 x = 0 ∧ τ1 p = 31 ∧ ∀ b, b ≠ x → h b ≠ none → h1 b = h b) tw_nx) := by
  refine tw_of (by decide +kernel) (Nat.le_of_ble_eq_true rfl) ?_
  show tw_W d mX9_init _ 0 [(0, .ref x)] [] h 1 2
  have sp0 := tw_sp.rm hw x
  have fr0 : ∀ b, b ≠ x → h b ≠ none → h b = h b := fun _ _ _ => rfl
  refine tw_aload_n 0 dX9_init_0 rfl rfl ?_
  refine tw_objInit dX9_init_1 w_1341 w_117 w_118 ⟨by decide, Nat.le_of_ble_eq_true rfl⟩ ?_
  refine tw_aload_n 0 dX9_init_4 rfl rfl ?_
  refine tw_iconst (v := -1) dX9_init_5 (by decide) ?_
  refine tw_put rfl in_13 tyX9 tyX9_ok nmX9 1 dX9_init_6 w_1343 rfl (by decide) hx rfl rfl rfl rfl (Nat.le_of_ble_eq_true rfl) [.int 0, .int (-1), .int 0, .null] rfl ?_
  obtain ⟨h1, eh1⟩ : ∃ z : tw_H, z = tw_up h x (.inr (13, [.int 0, .int (-1), .int 0, .null])) := ⟨_, rfl⟩
  rw [← eh1]
  have fr2 : ∀ b, b ≠ x → h b ≠ none → h1 b = h b := fun b n1 n2 => by rw [eh1, tw_up_n n1] <;> exact fr0 b n1 n2
  have sp3 : tw_sp d τ (tw_rm h x) g τ h1 := by rw [eh1]; exact sp0.wl tw_rm_s hz
  have f4 : h1 x = some (.inr (13, [.int 0, .int (-1), .int 0, .null])) := by rw [eh1]; exact tw_up_s
  refine tw_aload_n 0 dX9_init_9 rfl rfl ?_
  refine tw_iconst (v := -1) dX9_init_10 (by decide) ?_
  refine tw_put rfl in_13 tyX9 tyX9_ok nmX9 2 dX9_init_11 w_1345 rfl (by decide) f4 rfl rfl rfl rfl (Nat.le_of_ble_eq_true rfl) [.int 0, .int (-1), .int (-1), .null] rfl ?_
  obtain ⟨h5, eh5⟩ : ∃ z : tw_H, z = tw_up h1 x (.inr (13, [.int 0, .int (-1), .int (-1), .null])) := ⟨_, rfl⟩
  rw [← eh5]
  have fr6 : ∀ b, b ≠ x → h b ≠ none → h5 b = h b := fun b n1 n2 => by rw [eh5, tw_up_n n1] <;> exact fr2 b n1 n2
  have sp7 : tw_sp d τ (tw_rm h x) g τ h5 := by rw [eh5]; exact sp3.wl tw_rm_s hz
  have f8 : h5 x = some (.inr (13, [.int 0, .int (-1), .int (-1), .null])) := by rw [eh5]; exact tw_up_s
  refine tw_aload_n 0 dX9_init_14 rfl rfl ?_
  refine tw_iconst (v := 2) dX9_init_15 (by decide) ?_
  refine tw_newa (a0 := (2, .inr (.inl (fun _ => 0)))) 1 rfl dX9_init_16 rfl w_1150 (fun _ => rfl) (by decide) (by decide) (by decide) 0 0 (Nat.le_of_ble_eq_true rfl) (Nat.le_of_ble_eq_true rfl) (fun q9 hq10 hA11 => ?_)
  have n12 := sp7.nn hq10
  have z13 := sp7.1.none hq10
  have ne14 := tw_neF f8 hq10
  obtain ⟨h15, eh15⟩ : ∃ z : tw_H, z = tw_up h5 q9 (.inl (d.2 1, 2, .inr (.inl (fun _ => 0)))) := ⟨_, rfl⟩
  rw [← eh15]
  have fr16 : ∀ b, b ≠ x → h b ≠ none → h15 b = h b := fun b n1 n2 => by rw [eh15, tw_up_n (fun z => n2 (tw_rmN n12 z n1))] <;> exact fr6 b n1 n2
  have sp17 : tw_sp d τ (tw_rm h x) g τ h15 := by rw [eh15]; exact sp7.mk hq10
  have f18 : h15 x = some (.inr (13, [.int 0, .int (-1), .int (-1), .null])) := by rw [eh15, tw_up_n ne14]; exact f8
  have f19 : h15 q9 = some (.inl (d.2 1, 2, .inr (.inl (fun _ => 0)))) := by rw [eh15]; exact tw_up_s
  obtain ⟨τ20, eτ20⟩ : ∃ z : tw_K, z = tw_ku τ q9 31 := ⟨_, rfl⟩
  have le21 : tw_le τ τ20 := by rw [eτ20]; exact tw_ku_le z13
  have sp22 : tw_sp d τ (tw_rm h x) g τ20 h15 := by rw [eτ20]; exact sp17.ty n12 z13 f19 (by rw [← eτ20]; exact ⟨_, rfl⟩)
  have k23 : τ20 q9 = 31 := by rw [eτ20]; exact tw_ku_s
  have z24 : τ20 x = 0 := by rw [eτ20, tw_ku_n ne14]; exact hz
  refine tw_put rfl in_13 tyX9 tyX9_ok nmX9 3 dX9_init_18 w_1347 rfl (by decide) f18 rfl rfl rfl rfl (Nat.le_of_ble_eq_true rfl) [.int 0, .int (-1), .int (-1), .ref q9] rfl ?_
  obtain ⟨h25, eh25⟩ : ∃ z : tw_H, z = tw_up h15 x (.inr (13, [.int 0, .int (-1), .int (-1), .ref q9])) := ⟨_, rfl⟩
  rw [← eh25]
  have fr26 : ∀ b, b ≠ x → h b ≠ none → h25 b = h b := fun b n1 n2 => by rw [eh25, tw_up_n n1] <;> exact fr16 b n1 n2
  have sp27 : tw_sp d τ (tw_rm h x) g τ20 h25 := by rw [eh25]; exact sp22.wl tw_rm_s z24
  have f28 : h25 x = some (.inr (13, [.int 0, .int (-1), .int (-1), .ref q9])) := by rw [eh25]; exact tw_up_s
  exact tw_vret dX9_init_21 rfl (Or.inl ⟨rfl, _, q9, sp27, f28, z24, k23, fr26⟩)

set_option maxHeartbeats 4000000 in
set_option maxRecDepth 100000 in
theorem c2_X8_init (d : tw_D) (g : tw_G) (τ : tw_K) (h : tw_H) (hw : tw_wt d g τ h) (x : Nat) (hz : τ x = 0) (hx : h x = some (.inr (12, [.int 0, .int 0, .int 0, .int 0, .int 0]))) : tw_Ct d mX8_init 0 0 [.ref x] h (tw_qv (fun h1 => ∃ (τ1 : tw_K), tw_sp d τ (tw_rm h x) g τ1 h1 ∧ h1 x = some (.inr (12, [.int 0, .int 0, .int 0, .int 0, .int 0])) ∧ τ1 x = 0 ∧ ∀ b, b ≠ x → h b ≠ none → h1 b = h b) tw_nx) := by
  refine tw_of (by decide +kernel) (Nat.le_of_ble_eq_true rfl) ?_
  show tw_W d mX8_init _ 0 [(0, .ref x)] [] h 0 0
  have sp0 := tw_sp.rm hw x
  have fr0 : ∀ b, b ≠ x → h b ≠ none → h b = h b := fun _ _ _ => rfl
  refine tw_aload_n 0 dX8_init_0 rfl rfl ?_
  refine tw_objInit dX8_init_1 w_1442 w_117 w_118 ⟨by decide, Nat.le_of_ble_eq_true rfl⟩ ?_
  exact tw_vret dX8_init_4 rfl (Or.inl ⟨rfl, _, sp0, hx, hz, fr0⟩)

theorem tw_nsc {k v : Int32} {n : Nat} (z : ¬ (0 ≤ k ∧ k ≤ v)) (e : v = nI n - 1) (hn : n ≤ 10) : ¬ tw_ix n k := by
  rintro ⟨j, hj, rfl⟩
  obtain ⟨m, rfl⟩ : ∃ m, n = m + 1 := ⟨n - 1, by omega⟩
  rw [e, nI_pred] at z
  exact z ⟨nI_le (a := 0) (Nat.zero_le _) (by omega), nI_le (by omega) (by omega)⟩
set_option maxHeartbeats 4000000 in
set_option maxRecDepth 100000 in
theorem c2_X10_isNoCountry (d : tw_D) (g : tw_G) (τ : tw_K) (h : tw_H) (hw : tw_wt d g τ h) (x : Nat) (kx : τ x = 36) (k : Int32) : tw_Ct d mX10_isNoCountry 0 0 [.ref x, .int k] h (tw_qi (fun r h1 => h1 = h ∧ (r = 1 ∧ ¬ tw_ix (g.2 3) k ∨ r = 0 ∧ tw_ix (g.2 3) k)) tw_nx) := by
  refine tw_of (by decide +kernel) (Nat.le_of_ble_eq_true rfl) ?_
  show tw_W d mX10_isNoCountry _ 0 [(0, .ref x), (1, .int k)] [] h 0 0
  have sp0 := tw_sp.rf hw
  refine tw_iload_n 1 dX10_isNoCountry_0 rfl rfl ?_
  refine tw_iconst (v := 0) dX10_isNoCountry_1 (by decide) ?_
  refine tw_aload_n 0 dX10_isNoCountry_2 rfl rfl ?_
  obtain ⟨e1, f2, th_3, td_4, ds_5, fr_6, ca_7, us_8, wo_9, cm_10, lc_11, lh_12, ld_13, rfl, k14, k15, k16, k17, k18, k19, k20, k21, k22, k23, k24, k25, k26, k27, k28, k29, k30, k31⟩ := sp0.1 x 36 kx (by decide)
  refine tw_get (v := .ref lc_11) rfl in_14 9 dX10_isNoCountry_3 w_1160 rfl (by decide) f2 rfl ?_
  obtain ⟨e32, f33, ⟨el34, rfl, k35⟩, k36⟩ := sp0.1 lc_11 24 k20 (by decide)
  refine tw_bi (tw_callV (M := mX10_isNoCountry) (pc := 6) okJx4a65c_size_8abf5 dX10_isNoCountry_6 w_1208 rfl f33 [] [.int 0, .int k] rfl rfl ⟨by decide, by decide⟩ (Nat.le_of_ble_eq_true rfl) (c24_size d g τ h sp0.1 lc_11 k20) 0 0 (Nat.le_of_ble_eq_true rfl) (Nat.le_of_ble_eq_true rfl)) (fun r39 h38 q37 => ?_) (fun E h1 q => q.elim)
  obtain ⟨q37e, q37r⟩ := q37
  rw [q37e, q37r]
  refine tw_iconst (v := 1) dX10_isNoCountry_9 (by decide) ?_
  refine tw_isub dX10_isNoCountry_10 ?_
  refine tw_nmi (fun v40 ev40 => ?_)
  refine tw_bi (tw_callS (M := mX10_isNoCountry) (pc := 11) okX10_isIn dX10_isNoCountry_11 w_1196 [.int k, .int 0, .int v40] [] rfl rfl ⟨by decide, by decide⟩ (Nat.le_of_ble_eq_true rfl) (c_X10_isIn d g τ h sp0.1 k 0 v40) 0 0 (Nat.le_of_ble_eq_true rfl) (Nat.le_of_ble_eq_true rfl)) (fun r43 h42 q41 => ?_) (fun E h1 q => q.elim)
  obtain ⟨q41e, q41d⟩ := q41
  rw [q41e]
  rcases q41d with ⟨q41r, q41n⟩ | ⟨q41r, q41a, q41b⟩
  · rw [q41r]
    refine tw_if_ne 21 dX10_isNoCountry_14 (by decide) (fun c44 => absurd (by decide) c44) (fun _ => ?_)
    refine tw_iconst (v := 1) dX10_isNoCountry_17 (by decide) ?_
    refine tw_goto 22 dX10_isNoCountry_18 (by decide) ?_
    exact tw_zret dX10_isNoCountry_22 rfl rfl (Or.inl ⟨_, rfl, rfl, Or.inl ⟨rfl, tw_nsc q41n ev40 (by omega)⟩⟩)
  · rw [q41r]
    refine tw_if_ne 21 dX10_isNoCountry_14 (by decide) (fun _ => ?_) (fun c45 => absurd c45 (by decide))
    refine tw_iconst (v := 0) dX10_isNoCountry_21 (by decide) ?_
    exact tw_zret dX10_isNoCountry_22 rfl rfl (Or.inl ⟨_, rfl, rfl, Or.inr ⟨rfl, tw_isc q41a q41b ev40 (by omega)⟩⟩)

set_option maxHeartbeats 4000000 in
set_option maxRecDepth 100000 in
theorem c2_X10_isNoHouse (d : tw_D) (g : tw_G) (τ : tw_K) (h : tw_H) (hw : tw_wt d g τ h) (x : Nat) (kx : τ x = 36) (k : Int32) : tw_Ct d mX10_isNoHouse 0 0 [.ref x, .int k] h (tw_qi (fun r h1 => h1 = h ∧ (r = 1 ∧ ¬ tw_ix (g.2 4) k ∨ r = 0 ∧ tw_ix (g.2 4) k)) tw_nx) := by
  refine tw_of (by decide +kernel) (Nat.le_of_ble_eq_true rfl) ?_
  show tw_W d mX10_isNoHouse _ 0 [(0, .ref x), (1, .int k)] [] h 0 0
  have sp0 := tw_sp.rf hw
  refine tw_iload_n 1 dX10_isNoHouse_0 rfl rfl ?_
  refine tw_iconst (v := 0) dX10_isNoHouse_1 (by decide) ?_
  refine tw_aload_n 0 dX10_isNoHouse_2 rfl rfl ?_
  obtain ⟨e1, f2, th_3, td_4, ds_5, fr_6, ca_7, us_8, wo_9, cm_10, lc_11, lh_12, ld_13, rfl, k14, k15, k16, k17, k18, k19, k20, k21, k22, k23, k24, k25, k26, k27, k28, k29, k30, k31⟩ := sp0.1 x 36 kx (by decide)
  refine tw_get (v := .ref lh_12) rfl in_14 10 dX10_isNoHouse_3 w_1161 rfl (by decide) f2 rfl ?_
  obtain ⟨e32, f33, ⟨el34, rfl, k35⟩, k36⟩ := sp0.1 lh_12 25 k21 (by decide)
  refine tw_bi (tw_callV (M := mX10_isNoHouse) (pc := 6) okJx4a65c_size_8abf5 dX10_isNoHouse_6 w_1208 rfl f33 [] [.int 0, .int k] rfl rfl ⟨by decide, by decide⟩ (Nat.le_of_ble_eq_true rfl) (c25_size d g τ h sp0.1 lh_12 k21) 0 0 (Nat.le_of_ble_eq_true rfl) (Nat.le_of_ble_eq_true rfl)) (fun r39 h38 q37 => ?_) (fun E h1 q => q.elim)
  obtain ⟨q37e, q37r⟩ := q37
  rw [q37e, q37r]
  refine tw_iconst (v := 1) dX10_isNoHouse_9 (by decide) ?_
  refine tw_isub dX10_isNoHouse_10 ?_
  refine tw_nmi (fun v40 ev40 => ?_)
  refine tw_bi (tw_callS (M := mX10_isNoHouse) (pc := 11) okX10_isIn dX10_isNoHouse_11 w_1196 [.int k, .int 0, .int v40] [] rfl rfl ⟨by decide, by decide⟩ (Nat.le_of_ble_eq_true rfl) (c_X10_isIn d g τ h sp0.1 k 0 v40) 0 0 (Nat.le_of_ble_eq_true rfl) (Nat.le_of_ble_eq_true rfl)) (fun r43 h42 q41 => ?_) (fun E h1 q => q.elim)
  obtain ⟨q41e, q41d⟩ := q41
  rw [q41e]
  rcases q41d with ⟨q41r, q41n⟩ | ⟨q41r, q41a, q41b⟩
  · rw [q41r]
    refine tw_if_ne 21 dX10_isNoHouse_14 (by decide) (fun c44 => absurd (by decide) c44) (fun _ => ?_)
    refine tw_iconst (v := 1) dX10_isNoHouse_17 (by decide) ?_
    refine tw_goto 22 dX10_isNoHouse_18 (by decide) ?_
    exact tw_zret dX10_isNoHouse_22 rfl rfl (Or.inl ⟨_, rfl, rfl, Or.inl ⟨rfl, tw_nsc q41n ev40 (by omega)⟩⟩)
  · rw [q41r]
    refine tw_if_ne 21 dX10_isNoHouse_14 (by decide) (fun _ => ?_) (fun c45 => absurd c45 (by decide))
    refine tw_iconst (v := 0) dX10_isNoHouse_21 (by decide) ?_
    exact tw_zret dX10_isNoHouse_22 rfl rfl (Or.inl ⟨_, rfl, rfl, Or.inr ⟨rfl, tw_isc q41a q41b ev40 (by omega)⟩⟩)

set_option maxHeartbeats 4000000 in
set_option maxRecDepth 100000 in
theorem c2_X10_country (d : tw_D) (g : tw_G) (τ : tw_K) (h : tw_H) (hw : tw_wt d g τ h) (x : Nat) (kx : τ x = 36) (r : Int32) (ct : Int32) (go : Int32) (si : Int32) (o : Nat) (ko : τ o = 12) (he9 : g.2 9 = 480 + 64 * g.2 3) : tw_Ct d mX10_country 10 60 [.ref x, .int r, .int ct, .int go, .int si] h (tw_qi (fun r9 h1 => ∃ g1 τ1, tw_sp d τ h g1 τ1 h1 ∧ h1 o = h o ∧ ((¬ tw_RC r ct go si ∧ tw_th (h1 x) = 1 ∧ g1 = g) ∨ (tw_RC r ct go si ∧ ¬ g.2 3 < 4 ∧ tw_th (h1 x) = 2 ∧ g1 = g) ∨ (tw_RC r ct go si ∧ g.2 3 < 4 ∧ r9 = nI (g.2 3) ∧ tw_th (h1 x) = 0 ∧ ∃ y9 o9 t9, tw_gk 3 (tw_gN g (480 + 64 * g.2 3) y9 o9 t9 r ct) g1))) tw_nx) := by
  refine tw_of (by decide +kernel) (Nat.le_of_ble_eq_true rfl) ?_
  show tw_W d mX10_country _ 0 [(0, .ref x), (1, .int r), (2, .int ct), (3, .int go), (4, .int si)] [] h 10 60
  have sp0 := tw_sp.rf hw
  have oq0 : h o = h o := rfl
  refine tw_aload_n 0 dX10_country_0 rfl rfl ?_
  refine tw_iload_n 1 dX10_country_1 rfl rfl ?_
  refine tw_bipush (v := 100) dX10_country_2 (by decide) ?_
  refine tw_sipush (v := 200) dX10_country_4 (by decide) ?_
  refine tw_bi (tw_callS (M := mX10_country) (pc := 7) okX10_isIn dX10_country_7 w_1196 [.int r, .int 100, .int 200] [.ref x] rfl rfl ⟨by decide, by decide⟩ (Nat.le_of_ble_eq_true rfl) (c_X10_isIn d g τ h sp0.1 r 100 200) 10 60 (Nat.le_of_ble_eq_true rfl) (Nat.le_of_ble_eq_true rfl)) (fun r3 h2 q1 => ?_) (fun E h1 q => q.elim)
  obtain ⟨q1e, q1d⟩ := q1
  rw [q1e]
  rcases q1d with ⟨q1r, q1n⟩ | ⟨q1r, q1a, q1b⟩
  · rw [q1r]
    refine tw_if_eq 44 dX10_country_10 (by decide) (fun _ => ?_) (fun c4 => absurd (by decide) c4)
    refine tw_iconst (v := 1) dX10_country_44 (by decide) ?_
    refine tw_goto 49 dX10_country_45 (by decide) ?_
    refine tw_iconst (v := 1) dX10_country_49 (by decide) ?_
    obtain ⟨e5, f6, th_7, td_8, ds_9, fr_10, ca_11, us_12, wo_13, cm_14, lc_15, lh_16, ld_17, rfl, k18, k19, k20, k21, k22, k23, k24, k25, k26, k27, k28, k29, k30, k31, k32, k33, k34, k35⟩ := sp0.1 x 36 kx (by decide)
    refine tw_bi (tw_callV (M := mX10_country) (pc := 50) okX10_start dX10_country_50 w_1200 rfl f6 [.int 1, .int 1] [] rfl rfl ⟨by decide, by decide⟩ (Nat.le_of_ble_eq_true rfl) (c_X10_start d g τ h sp0.1 x kx 1 1 (by decide)) 10 60 (Nat.le_of_ble_eq_true rfl) (Nat.le_of_ble_eq_true rfl)) (fun r38 h37 q36 => ?_) (fun E h1 q => q.elim)
    obtain ⟨e39, he40, hs41, hr42, hc43⟩ := q36
    obtain ⟨rz44, tz45⟩ := hc43.2 rfl
    have th46 : tw_th (h37 x) = 1 := by rw [he40, tw_up_s]; exact tz45
    have sp47 : tw_sp d τ h g τ h37 := by rw [he40]; exact sp0.set kx (by decide) hs41
    rw [rz44]
    have oq48 : h37 o = h o := by rw [he40, tw_up_n (tw_nk ko kx (by decide))] <;> exact oq0
    refine tw_if_ne 80 dX10_country_53 (by decide) (fun _ => ?_) (fun c49 => absurd c49 (by decide))
    refine tw_iconst (v := 0) dX10_country_80 (by decide) ?_
    exact tw_iret dX10_country_81 rfl (Or.inl ⟨_, rfl, _, _, sp47, oq48, Or.inl ⟨fun z => q1n z.1, th46, rfl⟩⟩)
  · rw [q1r]
    refine tw_if_eq 44 dX10_country_10 (by decide) (fun c50 => absurd c50 (by decide)) (fun _ => ?_)
    refine tw_iload_n 2 dX10_country_13 rfl rfl ?_
    refine tw_iconst (v := 0) dX10_country_14 (by decide) ?_
    refine tw_bipush (v := 50) dX10_country_15 (by decide) ?_
    refine tw_bi (tw_callS (M := mX10_country) (pc := 17) okX10_isIn dX10_country_17 w_1196 [.int ct, .int 0, .int 50] [.ref x] rfl rfl ⟨by decide, by decide⟩ (Nat.le_of_ble_eq_true rfl) (c_X10_isIn d g τ h sp0.1 ct 0 50) 10 60 (Nat.le_of_ble_eq_true rfl) (Nat.le_of_ble_eq_true rfl)) (fun r53 h52 q51 => ?_) (fun E h1 q => q.elim)
    obtain ⟨q51e, q51d⟩ := q51
    rw [q51e]
    rcases q51d with ⟨q51r, q51n⟩ | ⟨q51r, q51a, q51b⟩
    · rw [q51r]
      refine tw_if_eq 44 dX10_country_20 (by decide) (fun _ => ?_) (fun c54 => absurd (by decide) c54)
      refine tw_iconst (v := 1) dX10_country_44 (by decide) ?_
      refine tw_goto 49 dX10_country_45 (by decide) ?_
      refine tw_iconst (v := 1) dX10_country_49 (by decide) ?_
      obtain ⟨e55, f56, th_57, td_58, ds_59, fr_60, ca_61, us_62, wo_63, cm_64, lc_65, lh_66, ld_67, rfl, k68, k69, k70, k71, k72, k73, k74, k75, k76, k77, k78, k79, k80, k81, k82, k83, k84, k85⟩ := sp0.1 x 36 kx (by decide)
      refine tw_bi (tw_callV (M := mX10_country) (pc := 50) okX10_start dX10_country_50 w_1200 rfl f56 [.int 1, .int 1] [] rfl rfl ⟨by decide, by decide⟩ (Nat.le_of_ble_eq_true rfl) (c_X10_start d g τ h sp0.1 x kx 1 1 (by decide)) 10 60 (Nat.le_of_ble_eq_true rfl) (Nat.le_of_ble_eq_true rfl)) (fun r88 h87 q86 => ?_) (fun E h1 q => q.elim)
      obtain ⟨e89, he90, hs91, hr92, hc93⟩ := q86
      obtain ⟨rz94, tz95⟩ := hc93.2 rfl
      have th96 : tw_th (h87 x) = 1 := by rw [he90, tw_up_s]; exact tz95
      have sp97 : tw_sp d τ h g τ h87 := by rw [he90]; exact sp0.set kx (by decide) hs91
      rw [rz94]
      have oq98 : h87 o = h o := by rw [he90, tw_up_n (tw_nk ko kx (by decide))] <;> exact oq0
      refine tw_if_ne 80 dX10_country_53 (by decide) (fun _ => ?_) (fun c99 => absurd c99 (by decide))
      refine tw_iconst (v := 0) dX10_country_80 (by decide) ?_
      exact tw_iret dX10_country_81 rfl (Or.inl ⟨_, rfl, _, _, sp97, oq98, Or.inl ⟨fun z => q51n z.2.1, th96, rfl⟩⟩)
    · rw [q51r]
      refine tw_if_eq 44 dX10_country_20 (by decide) (fun c100 => absurd c100 (by decide)) (fun _ => ?_)
      refine tw_iload_n 3 dX10_country_23 rfl rfl ?_
      refine tw_iconst (v := 0) dX10_country_24 (by decide) ?_
      refine tw_ldc (v := 99999) dX10_country_25 w_1199 ?_
      refine tw_bi (tw_callS (M := mX10_country) (pc := 27) okX10_isIn dX10_country_27 w_1196 [.int go, .int 0, .int 99999] [.ref x] rfl rfl ⟨by decide, by decide⟩ (Nat.le_of_ble_eq_true rfl) (c_X10_isIn d g τ h sp0.1 go 0 99999) 10 60 (Nat.le_of_ble_eq_true rfl) (Nat.le_of_ble_eq_true rfl)) (fun r103 h102 q101 => ?_) (fun E h1 q => q.elim)
      obtain ⟨q101e, q101d⟩ := q101
      rw [q101e]
      rcases q101d with ⟨q101r, q101n⟩ | ⟨q101r, q101a, q101b⟩
      · rw [q101r]
        refine tw_if_eq 44 dX10_country_30 (by decide) (fun _ => ?_) (fun c104 => absurd (by decide) c104)
        refine tw_iconst (v := 1) dX10_country_44 (by decide) ?_
        refine tw_goto 49 dX10_country_45 (by decide) ?_
        refine tw_iconst (v := 1) dX10_country_49 (by decide) ?_
        obtain ⟨e105, f106, th_107, td_108, ds_109, fr_110, ca_111, us_112, wo_113, cm_114, lc_115, lh_116, ld_117, rfl, k118, k119, k120, k121, k122, k123, k124, k125, k126, k127, k128, k129, k130, k131, k132, k133, k134, k135⟩ := sp0.1 x 36 kx (by decide)
        refine tw_bi (tw_callV (M := mX10_country) (pc := 50) okX10_start dX10_country_50 w_1200 rfl f106 [.int 1, .int 1] [] rfl rfl ⟨by decide, by decide⟩ (Nat.le_of_ble_eq_true rfl) (c_X10_start d g τ h sp0.1 x kx 1 1 (by decide)) 10 60 (Nat.le_of_ble_eq_true rfl) (Nat.le_of_ble_eq_true rfl)) (fun r138 h137 q136 => ?_) (fun E h1 q => q.elim)
        obtain ⟨e139, he140, hs141, hr142, hc143⟩ := q136
        obtain ⟨rz144, tz145⟩ := hc143.2 rfl
        have th146 : tw_th (h137 x) = 1 := by rw [he140, tw_up_s]; exact tz145
        have sp147 : tw_sp d τ h g τ h137 := by rw [he140]; exact sp0.set kx (by decide) hs141
        rw [rz144]
        have oq148 : h137 o = h o := by rw [he140, tw_up_n (tw_nk ko kx (by decide))] <;> exact oq0
        refine tw_if_ne 80 dX10_country_53 (by decide) (fun _ => ?_) (fun c149 => absurd c149 (by decide))
        refine tw_iconst (v := 0) dX10_country_80 (by decide) ?_
        exact tw_iret dX10_country_81 rfl (Or.inl ⟨_, rfl, _, _, sp147, oq148, Or.inl ⟨fun z => q101n z.2.2.1, th146, rfl⟩⟩)
      · rw [q101r]
        refine tw_if_eq 44 dX10_country_30 (by decide) (fun c150 => absurd c150 (by decide)) (fun _ => ?_)
        refine tw_iload 4 dX10_country_33 rfl ?_
        refine tw_iconst (v := 0) dX10_country_35 (by decide) ?_
        refine tw_ldc (v := 99999) dX10_country_36 w_1199 ?_
        refine tw_bi (tw_callS (M := mX10_country) (pc := 38) okX10_isIn dX10_country_38 w_1196 [.int si, .int 0, .int 99999] [.ref x] rfl rfl ⟨by decide, by decide⟩ (Nat.le_of_ble_eq_true rfl) (c_X10_isIn d g τ h sp0.1 si 0 99999) 10 60 (Nat.le_of_ble_eq_true rfl) (Nat.le_of_ble_eq_true rfl)) (fun r153 h152 q151 => ?_) (fun E h1 q => q.elim)
        obtain ⟨q151e, q151d⟩ := q151
        rw [q151e]
        rcases q151d with ⟨q151r, q151n⟩ | ⟨q151r, q151a, q151b⟩
        · rw [q151r]
          refine tw_if_ne 48 dX10_country_41 (by decide) (fun c154 => absurd (by decide) c154) (fun _ => ?_)
          refine tw_iconst (v := 1) dX10_country_44 (by decide) ?_
          refine tw_goto 49 dX10_country_45 (by decide) ?_
          refine tw_iconst (v := 1) dX10_country_49 (by decide) ?_
          obtain ⟨e155, f156, th_157, td_158, ds_159, fr_160, ca_161, us_162, wo_163, cm_164, lc_165, lh_166, ld_167, rfl, k168, k169, k170, k171, k172, k173, k174, k175, k176, k177, k178, k179, k180, k181, k182, k183, k184, k185⟩ := sp0.1 x 36 kx (by decide)
          refine tw_bi (tw_callV (M := mX10_country) (pc := 50) okX10_start dX10_country_50 w_1200 rfl f156 [.int 1, .int 1] [] rfl rfl ⟨by decide, by decide⟩ (Nat.le_of_ble_eq_true rfl) (c_X10_start d g τ h sp0.1 x kx 1 1 (by decide)) 10 60 (Nat.le_of_ble_eq_true rfl) (Nat.le_of_ble_eq_true rfl)) (fun r188 h187 q186 => ?_) (fun E h1 q => q.elim)
          obtain ⟨e189, he190, hs191, hr192, hc193⟩ := q186
          obtain ⟨rz194, tz195⟩ := hc193.2 rfl
          have th196 : tw_th (h187 x) = 1 := by rw [he190, tw_up_s]; exact tz195
          have sp197 : tw_sp d τ h g τ h187 := by rw [he190]; exact sp0.set kx (by decide) hs191
          rw [rz194]
          have oq198 : h187 o = h o := by rw [he190, tw_up_n (tw_nk ko kx (by decide))] <;> exact oq0
          refine tw_if_ne 80 dX10_country_53 (by decide) (fun _ => ?_) (fun c199 => absurd c199 (by decide))
          refine tw_iconst (v := 0) dX10_country_80 (by decide) ?_
          exact tw_iret dX10_country_81 rfl (Or.inl ⟨_, rfl, _, _, sp197, oq198, Or.inl ⟨fun z => q151n z.2.2.2, th196, rfl⟩⟩)
        · rw [q151r]
          refine tw_if_ne 48 dX10_country_41 (by decide) (fun _ => ?_) (fun c200 => absurd c200 (by decide))
          refine tw_iconst (v := 0) dX10_country_48 (by decide) ?_
          refine tw_iconst (v := 1) dX10_country_49 (by decide) ?_
          obtain ⟨e201, f202, th_203, td_204, ds_205, fr_206, ca_207, us_208, wo_209, cm_210, lc_211, lh_212, ld_213, rfl, k214, k215, k216, k217, k218, k219, k220, k221, k222, k223, k224, k225, k226, k227, k228, k229, k230, k231⟩ := sp0.1 x 36 kx (by decide)
          refine tw_bi (tw_callV (M := mX10_country) (pc := 50) okX10_start dX10_country_50 w_1200 rfl f202 [.int 0, .int 1] [] rfl rfl ⟨by decide, by decide⟩ (Nat.le_of_ble_eq_true rfl) (c_X10_start d g τ h sp0.1 x kx 0 1 (by decide)) 10 60 (Nat.le_of_ble_eq_true rfl) (Nat.le_of_ble_eq_true rfl)) (fun r234 h233 q232 => ?_) (fun E h1 q => q.elim)
          obtain ⟨e235, he236, hs237, hr238, hc239⟩ := q232
          obtain ⟨rz240, tz241⟩ := hc239.1 rfl
          have th242 : tw_th (h233 x) = 0 := by rw [he236, tw_up_s]; exact tz241
          have sp243 : tw_sp d τ h g τ h233 := by rw [he236]; exact sp0.set kx (by decide) hs237
          rw [rz240]
          have oq244 : h233 o = h o := by rw [he236, tw_up_n (tw_nk ko kx (by decide))] <;> exact oq0
          refine tw_if_ne 80 dX10_country_53 (by decide) (fun c245 => absurd (by decide) c245) (fun _ => ?_)
          refine tw_aload_n 0 dX10_country_56 rfl rfl ?_
          refine tw_aload_n 0 dX10_country_57 rfl rfl ?_
          obtain ⟨e246, f247, th_248, td_249, ds_250, fr_251, ca_252, us_253, wo_254, cm_255, lc_256, lh_257, ld_258, rfl, k259, k260, k261, k262, k263, k264, k265, k266, k267, k268, k269, k270, k271, k272, k273, k274, k275, k276⟩ := sp243.1 x 36 kx (by decide)
          refine tw_get (v := .ref lc_256) rfl in_14 9 dX10_country_58 w_1160 rfl (by decide) f247 rfl ?_
          obtain ⟨e277, f278, ⟨el279, rfl, k280⟩, k281⟩ := sp243.1 lc_256 24 k265 (by decide)
          refine tw_bi (tw_callV (M := mX10_country) (pc := 61) okJx4a65c_size_8abf5 dX10_country_61 w_1208 rfl f278 [] [.ref x] rfl rfl ⟨by decide, by decide⟩ (Nat.le_of_ble_eq_true rfl) (c24_size d g τ h233 sp243.1 lc_256 k265) 10 60 (Nat.le_of_ble_eq_true rfl) (Nat.le_of_ble_eq_true rfl)) (fun r284 h283 q282 => ?_) (fun E h1 q => q.elim)
          obtain ⟨q282e, q282r⟩ := q282
          rw [q282e, q282r]
          refine tw_iconst (v := 4) dX10_country_64 (by decide) ?_
          refine tw_icmp_ne 72 dX10_country_65 (by decide) (fun c285 => ?_) (fun c285 => ?_)
          · refine tw_iconst (v := 0) dX10_country_72 (by decide) ?_
            refine tw_iconst (v := 2) dX10_country_73 (by decide) ?_
            refine tw_bi (tw_callV (M := mX10_country) (pc := 74) okX10_refuse dX10_country_74 w_1204 rfl f247 [.int 0, .int 2] [] rfl rfl ⟨by decide, by decide⟩ (Nat.le_of_ble_eq_true rfl) (c_X10_refuse d g τ h233 sp243.1 x kx 0 2 (by decide)) 10 60 (Nat.le_of_ble_eq_true rfl) (Nat.le_of_ble_eq_true rfl)) (fun r288 h287 q286 => ?_) (fun E h1 q => q.elim)
            obtain ⟨e289, he290, hs291, hr292, hc293⟩ := q286
            obtain ⟨rz294, tz295⟩ := (hc293 th242).1 rfl
            have th296 : tw_th (h287 x) = 0 := by rw [he290, tw_up_s]; exact tz295
            have sp297 : tw_sp d τ h g τ h287 := by rw [he290]; exact sp243.set kx (by decide) hs291
            rw [rz294]
            have oq298 : h287 o = h o := by rw [he290, tw_up_n (tw_nk ko kx (by decide))] <;> exact oq244
            refine tw_if_eq 82 dX10_country_77 (by decide) (fun _ => ?_) (fun c299 => absurd (by decide) c299)
            refine tw_new (ci := 11) rfl in_11 tyX7 tyX7_ok dX10_country_82 w_1212 w_1213 w_91 (fs := [.int 0, .int 0, .null, .null, .null]) (fun j hj => by rcases (show j = 0 ∨ j = 1 ∨ j = 2 ∨ j = 3 ∨ j = 4 by omega) with rfl | rfl | rfl | rfl | rfl <;> rfl) 9 55 (Nat.le_of_ble_eq_true rfl) (Nat.le_of_ble_eq_true rfl) (fun q300 hq301 hA302 => ?_)
            have n303 := sp297.nn hq301
            have z304 := sp297.1.none hq301
            obtain ⟨h305, eh305⟩ : ∃ z : tw_H, z = tw_up h287 q300 (.inr (11, [.int 0, .int 0, .null, .null, .null])) := ⟨_, rfl⟩
            rw [← eh305]
            have th306 : tw_th (h305 x) = 0 := by rw [eh305, tw_up_n (tw_kF sp297.1 kx (by decide) hq301)] <;> exact th296
            have oq307 : h305 o = h o := by rw [eh305, tw_up_n (tw_kF sp297.1 ko (by decide) hq301)] <;> exact oq298
            have sp308 : tw_sp d τ h g τ h305 := by rw [eh305]; exact sp297.mk hq301
            have f309 : h305 q300 = some (.inr (11, [.int 0, .int 0, .null, .null, .null])) := by rw [eh305]; exact tw_up_s
            refine tw_dup dX10_country_85 rfl ?_
            refine tw_bv (tw_callIN (M := mX10_country) (pc := 86) okX7_init dX10_country_86 w_1214 rfl [] [.ref q300] rfl rfl ⟨by decide, by decide⟩ (Nat.le_of_ble_eq_true rfl) (c2_X7_init d g τ h305 sp308.1 q300 z304 f309) 6 46 (Nat.le_of_ble_eq_true rfl) (Nat.le_of_ble_eq_true rfl)) (fun h311 q310 => ?_) (fun E h1 q => q.elim)
            obtain ⟨τ312, v313, o314, t315, F329, q310s, f316, f323, fF324, fz325, xo326, no327, z328, z317, k318, ⟨f330, xt331, ot332, no333, z334⟩, fr322⟩ := q310
            have th335 : tw_th (h311 x) = 0 := by rw [fr322 x (tw_nz kx z304 (by decide)) (fun z => by obtain ⟨e, y, -⟩ := sp308.1 x 36 kx (by decide); rw [z] at y; cases y)]; exact th306
            have oq336 : h311 o = h o := by rw [fr322 o (tw_nk ko z304 (by decide)) (tw_some sp308.1 ko (by decide))] <;> exact oq307
            have sp321 := sp308.trm n303 q310s
            have k337 : τ312 x = 36 := q310s.2.1.k kx (by decide)
            have k338 : τ312 o = 12 := q310s.2.1.k ko (by decide)
            have k339 : τ312 ds_205 = 34 := q310s.2.1.k k214 (by decide)
            have k340 : τ312 fr_206 = 34 := q310s.2.1.k k215 (by decide)
            have k341 : τ312 ca_207 = 31 := q310s.2.1.k k216 (by decide)
            have k342 : τ312 us_208 = 31 := q310s.2.1.k k217 (by decide)
            have k343 : τ312 wo_209 = 31 := q310s.2.1.k k218 (by decide)
            have k344 : τ312 cm_210 = 31 := q310s.2.1.k k219 (by decide)
            have k345 : τ312 lc_211 = 24 := q310s.2.1.k k220 (by decide)
            have k346 : τ312 lh_212 = 25 := q310s.2.1.k k221 (by decide)
            have k347 : τ312 ld_213 = 26 := q310s.2.1.k k222 (by decide)
            have k348 : τ312 ds_250 = 34 := q310s.2.1.k k259 (by decide)
            have k349 : τ312 fr_251 = 34 := q310s.2.1.k k260 (by decide)
            have k350 : τ312 ca_252 = 31 := q310s.2.1.k k261 (by decide)
            have k351 : τ312 us_253 = 31 := q310s.2.1.k k262 (by decide)
            have k352 : τ312 wo_254 = 31 := q310s.2.1.k k263 (by decide)
            have k353 : τ312 cm_255 = 31 := q310s.2.1.k k264 (by decide)
            have k354 : τ312 lc_256 = 24 := q310s.2.1.k k265 (by decide)
            have k355 : τ312 lh_257 = 25 := q310s.2.1.k k266 (by decide)
            have k356 : τ312 ld_258 = 26 := q310s.2.1.k k267 (by decide)
            have n357 := sp308.nn (a := o314) (by have z := no327; unfold tw_rm at z; rw [if_neg (Ne.symm xo326)] at z; exact z)
            have n358 := sp308.nn (a := t315) (by have z := no333; unfold tw_rm at z; rw [if_neg (Ne.symm xt331)] at z; exact z)
            refine tw_astore [(5, .ref q300), (0, .ref x), (1, .int r), (2, .int ct), (3, .int go), (4, .int si)] dX10_country_89 (by decide) rfl ?_
            refine tw_aload 0 dX10_country_91 rfl ?_
            refine tw_iload_n 2 dX10_country_93 rfl rfl ?_
            refine tw_put rfl in_11 tyX7 tyX7_ok nmX7 0 dX10_country_94 w_1218 rfl (by decide) f316 rfl rfl rfl rfl (Nat.le_of_ble_eq_true rfl) [.int r, .int 0, .ref v313, .ref o314, .ref t315] rfl ?_
            obtain ⟨h359, eh359⟩ : ∃ z : tw_H, z = tw_up h311 q300 (.inr (11, [.int r, .int 0, .ref v313, .ref o314, .ref t315])) := ⟨_, rfl⟩
            rw [← eh359]
            have th360 : tw_th (h359 x) = 0 := by rw [eh359, tw_up_n (tw_nk k337 z317 (by decide))] <;> exact th335
            have oq361 : h359 o = h o := by rw [eh359, tw_up_n (tw_nk k338 z317 (by decide))] <;> exact oq336
            have sp362 : tw_sp d τ h g τ312 h359 := by rw [eh359]; exact sp321.wl n303 z317
            have f363 : h359 o314 = some (.inl (d.2 2, 2, .inl F329)) := by rw [eh359, tw_up_n (Ne.symm xo326)]; exact f323
            have f364 : h359 t315 = some (.inl (d.2 0, 5, .inl (fun _ => 0))) := by rw [eh359, tw_up_n (Ne.symm xt331)]; exact f330
            have f365 : h359 q300 = some (.inr (11, [.int r, .int 0, .ref v313, .ref o314, .ref t315])) := by rw [eh359]; exact tw_up_s
            refine tw_aload 0 dX10_country_97 rfl ?_
            refine tw_iload_n 3 dX10_country_99 rfl rfl ?_
            refine tw_put rfl in_11 tyX7 tyX7_ok nmX7 1 dX10_country_100 w_1219 rfl (by decide) f365 rfl rfl rfl rfl (Nat.le_of_ble_eq_true rfl) [.int r, .int ct, .ref v313, .ref o314, .ref t315] rfl ?_
            obtain ⟨h366, eh366⟩ : ∃ z : tw_H, z = tw_up h359 q300 (.inr (11, [.int r, .int ct, .ref v313, .ref o314, .ref t315])) := ⟨_, rfl⟩
            rw [← eh366]
            have th367 : tw_th (h366 x) = 0 := by rw [eh366, tw_up_n (tw_nk k337 z317 (by decide))] <;> exact th360
            have oq368 : h366 o = h o := by rw [eh366, tw_up_n (tw_nk k338 z317 (by decide))] <;> exact oq361
            have sp369 : tw_sp d τ h g τ312 h366 := by rw [eh366]; exact sp362.wl n303 z317
            have f370 : h366 o314 = some (.inl (d.2 2, 2, .inl F329)) := by rw [eh366, tw_up_n (Ne.symm xo326)]; exact f363
            have f371 : h366 t315 = some (.inl (d.2 0, 5, .inl (fun _ => 0))) := by rw [eh366, tw_up_n (Ne.symm xt331)]; exact f364
            have f372 : h366 q300 = some (.inr (11, [.int r, .int ct, .ref v313, .ref o314, .ref t315])) := by rw [eh366]; exact tw_up_s
            refine tw_aload 0 dX10_country_103 rfl ?_
            refine tw_get (v := .ref v313) rfl in_11 2 dX10_country_105 w_1221 rfl (by decide) f372 rfl ?_
            refine tw_iconst (v := 0) dX10_country_108 (by decide) ?_
            refine tw_iload_n 4 dX10_country_109 rfl rfl ?_
            refine tw_i2l dX10_country_110 ?_
            refine tw_nml (fun v373 ev373 => ?_)
            obtain ⟨e374, f375, F376, rfl⟩ := sp369.1 v313 31 k318 (by decide)
            refine tw_last dX10_country_111 f375 (vp_in_nI (n := 0) (by decide) (by decide)) ?_
            obtain ⟨h377, eh377⟩ : ∃ z : tw_H, z = tw_up h366 v313 (.inl (d.2 1, 2, .inr (.inl (vp_updL F376 (0 : Int32).toNatClampNeg v373)))) := ⟨_, rfl⟩
            rw [← eh377]
            have th378 : tw_th (h377 x) = 0 := by rw [eh377, tw_up_n (tw_nk k337 k318 (by decide))] <;> exact th367
            have oq379 : h377 o = h o := by rw [eh377, tw_up_n (tw_nk k338 k318 (by decide))] <;> exact oq368
            have sp380 : tw_sp d τ h g τ312 h377 := by rw [eh377]; exact sp369.set k318 (by decide) ⟨_, rfl⟩
            have f381 : h377 o314 = some (.inl (d.2 2, 2, .inl F329)) := by rw [eh377, tw_up_n (fun q => absurd (z328) (by rw [q, k318]; decide))]; exact f370
            have f382 : h377 t315 = some (.inl (d.2 0, 5, .inl (fun _ => 0))) := by rw [eh377, tw_up_n (fun q => absurd (z334) (by rw [q, k318]; decide))]; exact f371
            have f383 : h377 q300 = some (.inr (11, [.int r, .int ct, .ref v313, .ref o314, .ref t315])) := by rw [eh377, tw_up_n (fun q => absurd (z317) (by rw [q, k318]; decide))]; exact f372
            refine tw_aload 0 dX10_country_112 rfl ?_
            refine tw_get (v := .ref v313) rfl in_11 2 dX10_country_114 w_1221 rfl (by decide) f383 rfl ?_
            refine tw_iconst (v := 1) dX10_country_117 (by decide) ?_
            refine tw_iload 5 dX10_country_118 rfl ?_
            refine tw_i2l dX10_country_120 ?_
            refine tw_nml (fun v384 ev384 => ?_)
            obtain ⟨e385, f386, F387, rfl⟩ := sp380.1 v313 31 k318 (by decide)
            refine tw_last dX10_country_121 f386 (vp_in_nI (n := 1) (by decide) (by decide)) ?_
            obtain ⟨h388, eh388⟩ : ∃ z : tw_H, z = tw_up h377 v313 (.inl (d.2 1, 2, .inr (.inl (vp_updL F387 (1 : Int32).toNatClampNeg v384)))) := ⟨_, rfl⟩
            rw [← eh388]
            have th389 : tw_th (h388 x) = 0 := by rw [eh388, tw_up_n (tw_nk k337 k318 (by decide))] <;> exact th378
            have oq390 : h388 o = h o := by rw [eh388, tw_up_n (tw_nk k338 k318 (by decide))] <;> exact oq379
            have sp391 : tw_sp d τ h g τ312 h388 := by rw [eh388]; exact sp380.set k318 (by decide) ⟨_, rfl⟩
            have f392 : h388 o314 = some (.inl (d.2 2, 2, .inl F329)) := by rw [eh388, tw_up_n (fun q => absurd (z328) (by rw [q, k318]; decide))]; exact f381
            have f393 : h388 t315 = some (.inl (d.2 0, 5, .inl (fun _ => 0))) := by rw [eh388, tw_up_n (fun q => absurd (z334) (by rw [q, k318]; decide))]; exact f382
            have f394 : h388 q300 = some (.inr (11, [.int r, .int ct, .ref v313, .ref o314, .ref t315])) := by rw [eh388, tw_up_n (fun q => absurd (z317) (by rw [q, k318]; decide))]; exact f383
            refine tw_aload_n 1 dX10_country_122 rfl rfl ?_
            obtain ⟨e395, f396, th_397, td_398, ds_399, fr_400, ca_401, us_402, wo_403, cm_404, lc_405, lh_406, ld_407, rfl, k408, k409, k410, k411, k412, k413, k414, k415, k416, k417, k418, k419, k420, k421, k422, k423, k424, k425⟩ := sp391.1 x 36 k337 (by decide)
            refine tw_get (v := .ref cm_404) rfl in_14 8 dX10_country_123 w_1159 rfl (by decide) f396 rfl ?_
            refine tw_iconst (v := 0) dX10_country_126 (by decide) ?_
            refine tw_dup2 dX10_country_127 rfl rfl ?_
            obtain ⟨e426, f427, F428, rfl⟩ := sp391.1 cm_404 31 k413 (by decide)
            obtain ⟨v429, ev429⟩ : ∃ y : Int64, F428 (0 : Int32).toNatClampNeg = y := ⟨_, rfl⟩
            refine tw_lald (v := v429) dX10_country_128 f427 (vp_in_nI (n := 0) (by decide) (by decide)) ev429 ?_
            refine tw_iload_n 4 dX10_country_129 rfl rfl ?_
            refine tw_i2l dX10_country_130 ?_
            refine tw_nml (fun v430 ev430 => ?_)
            refine tw_ladd dX10_country_131 ?_
            refine tw_nml (fun v431 ev431 => ?_)
            refine tw_last dX10_country_132 f427 (vp_in_nI (n := 0) (by decide) (by decide)) ?_
            obtain ⟨h432, eh432⟩ : ∃ z : tw_H, z = tw_up h388 cm_404 (.inl (d.2 1, 2, .inr (.inl (vp_updL F428 (0 : Int32).toNatClampNeg v431)))) := ⟨_, rfl⟩
            rw [← eh432]
            have th433 : tw_th (h432 x) = 0 := by rw [eh432, tw_up_n (tw_nk k337 k413 (by decide))] <;> exact th389
            have oq434 : h432 o = h o := by rw [eh432, tw_up_n (tw_nk k338 k413 (by decide))] <;> exact oq390
            have sp435 : tw_sp d τ h g τ312 h432 := by rw [eh432]; exact sp391.set k413 (by decide) ⟨_, rfl⟩
            have f436 : h432 o314 = some (.inl (d.2 2, 2, .inl F329)) := by rw [eh432, tw_up_n (fun q => absurd (z328) (by rw [q, k413]; decide))]; exact f392
            have f437 : h432 t315 = some (.inl (d.2 0, 5, .inl (fun _ => 0))) := by rw [eh432, tw_up_n (fun q => absurd (z334) (by rw [q, k413]; decide))]; exact f393
            have f438 : h432 q300 = some (.inr (11, [.int r, .int ct, .ref v313, .ref o314, .ref t315])) := by rw [eh432, tw_up_n (fun q => absurd (z317) (by rw [q, k413]; decide))]; exact f394
            refine tw_aload_n 1 dX10_country_133 rfl rfl ?_
            obtain ⟨e439, f440, th_441, td_442, ds_443, fr_444, ca_445, us_446, wo_447, cm_448, lc_449, lh_450, ld_451, rfl, k452, k453, k454, k455, k456, k457, k458, k459, k460, k461, k462, k463, k464, k465, k466, k467, k468, k469⟩ := sp435.1 x 36 k337 (by decide)
            refine tw_get (v := .ref cm_448) rfl in_14 8 dX10_country_134 w_1159 rfl (by decide) f440 rfl ?_
            refine tw_iconst (v := 1) dX10_country_137 (by decide) ?_
            refine tw_dup2 dX10_country_138 rfl rfl ?_
            obtain ⟨e470, f471, F472, rfl⟩ := sp435.1 cm_448 31 k457 (by decide)
            obtain ⟨v473, ev473⟩ : ∃ y : Int64, F472 (1 : Int32).toNatClampNeg = y := ⟨_, rfl⟩
            refine tw_lald (v := v473) dX10_country_139 f471 (vp_in_nI (n := 1) (by decide) (by decide)) ev473 ?_
            refine tw_iload 5 dX10_country_140 rfl ?_
            refine tw_i2l dX10_country_142 ?_
            refine tw_nml (fun v474 ev474 => ?_)
            refine tw_ladd dX10_country_143 ?_
            refine tw_nml (fun v475 ev475 => ?_)
            refine tw_last dX10_country_144 f471 (vp_in_nI (n := 1) (by decide) (by decide)) ?_
            obtain ⟨h476, eh476⟩ : ∃ z : tw_H, z = tw_up h432 cm_448 (.inl (d.2 1, 2, .inr (.inl (vp_updL F472 (1 : Int32).toNatClampNeg v475)))) := ⟨_, rfl⟩
            rw [← eh476]
            have th477 : tw_th (h476 x) = 0 := by rw [eh476, tw_up_n (tw_nk k337 k457 (by decide))] <;> exact th433
            have oq478 : h476 o = h o := by rw [eh476, tw_up_n (tw_nk k338 k457 (by decide))] <;> exact oq434
            have sp479 : tw_sp d τ h g τ312 h476 := by rw [eh476]; exact sp435.set k457 (by decide) ⟨_, rfl⟩
            have f480 : h476 o314 = some (.inl (d.2 2, 2, .inl F329)) := by rw [eh476, tw_up_n (fun q => absurd (z328) (by rw [q, k457]; decide))]; exact f436
            have f481 : h476 t315 = some (.inl (d.2 0, 5, .inl (fun _ => 0))) := by rw [eh476, tw_up_n (fun q => absurd (z334) (by rw [q, k457]; decide))]; exact f437
            have f482 : h476 q300 = some (.inr (11, [.int r, .int ct, .ref v313, .ref o314, .ref t315])) := by rw [eh476, tw_up_n (fun q => absurd (z317) (by rw [q, k457]; decide))]; exact f438
            refine tw_aload_n 1 dX10_country_145 rfl rfl ?_
            obtain ⟨e483, f484, th_485, td_486, ds_487, fr_488, ca_489, us_490, wo_491, cm_492, lc_493, lh_494, ld_495, rfl, k496, k497, k498, k499, k500, k501, k502, k503, k504, k505, k506, k507, k508, k509, k510, k511, k512, k513⟩ := sp479.1 x 36 k337 (by decide)
            refine tw_get (v := .ref lc_493) rfl in_14 9 dX10_country_146 w_1160 rfl (by decide) f484 rfl ?_
            refine tw_aload 0 dX10_country_149 rfl ?_
            have hb8 : g.2 3 + 1 ≤ 4 := (tw_n4 c285 k505 (by decide))
            have oo := tw_gN_o (g := g) (b := 480 + 64 * g.2 3) (x := q300) (o := o314) (t := t315) (r := r) (c := ct) rfl (by omega) xo326
            have vv := tw_gN_v (g := g) (b := 480 + 64 * g.2 3) (x := q300) (o := o314) (t := t315) (r := r) (c := ct)
            have ot := tw_gN_t (g := g) (b := 480 + 64 * g.2 3) (x := q300) (o := o314) (t := t315) (r := r) (c := ct) rfl (by omega) (Ne.symm xt331) (Ne.symm ot332)
            obtain ⟨gN, egN⟩ : ∃ z : tw_G, z = tw_gN g (480 + 64 * g.2 3) q300 o314 t315 r ct := ⟨_, rfl⟩
            rw [← egN] at oo vv ot
            have gn3 : gN.2 3 = g.2 3 := by rw [egN]; exact tw_gN_2 (by decide) (by omega) (by omega)
            have sp514 : tw_sp d τ h gN τ312 h476 := by rw [egN]; exact sp479.gw2 (tw_gN_w rfl (by omega) he9 z317 z328 z334)
            obtain ⟨τ515, eτ515⟩ : ∃ z : tw_K, z = tw_ku τ312 o314 32 := ⟨_, rfl⟩
            have le516 : tw_le τ312 τ515 := by rw [eτ515]; exact tw_ku_le z328
            have k517 : τ515 x = 36 := le516.k k337 (by decide)
            have k518 : τ515 o = 12 := le516.k k338 (by decide)
            have k519 : τ515 ds_205 = 34 := le516.k k339 (by decide)
            have k520 : τ515 fr_206 = 34 := le516.k k340 (by decide)
            have k521 : τ515 ca_207 = 31 := le516.k k341 (by decide)
            have k522 : τ515 us_208 = 31 := le516.k k342 (by decide)
            have k523 : τ515 wo_209 = 31 := le516.k k343 (by decide)
            have k524 : τ515 cm_210 = 31 := le516.k k344 (by decide)
            have k525 : τ515 lc_211 = 24 := le516.k k345 (by decide)
            have k526 : τ515 lh_212 = 25 := le516.k k346 (by decide)
            have k527 : τ515 ld_213 = 26 := le516.k k347 (by decide)
            have k528 : τ515 ds_250 = 34 := le516.k k348 (by decide)
            have k529 : τ515 fr_251 = 34 := le516.k k349 (by decide)
            have k530 : τ515 ca_252 = 31 := le516.k k350 (by decide)
            have k531 : τ515 us_253 = 31 := le516.k k351 (by decide)
            have k532 : τ515 wo_254 = 31 := le516.k k352 (by decide)
            have k533 : τ515 cm_255 = 31 := le516.k k353 (by decide)
            have k534 : τ515 lc_256 = 24 := le516.k k354 (by decide)
            have k535 : τ515 lh_257 = 25 := le516.k k355 (by decide)
            have k536 : τ515 ld_258 = 26 := le516.k k356 (by decide)
            have k537 : τ515 v313 = 31 := le516.k k318 (by decide)
            have k538 : τ515 ds_399 = 34 := le516.k k408 (by decide)
            have k539 : τ515 fr_400 = 34 := le516.k k409 (by decide)
            have k540 : τ515 ca_401 = 31 := le516.k k410 (by decide)
            have k541 : τ515 us_402 = 31 := le516.k k411 (by decide)
            have k542 : τ515 wo_403 = 31 := le516.k k412 (by decide)
            have k543 : τ515 cm_404 = 31 := le516.k k413 (by decide)
            have k544 : τ515 lc_405 = 24 := le516.k k414 (by decide)
            have k545 : τ515 lh_406 = 25 := le516.k k415 (by decide)
            have k546 : τ515 ld_407 = 26 := le516.k k416 (by decide)
            have k547 : τ515 ds_443 = 34 := le516.k k452 (by decide)
            have k548 : τ515 fr_444 = 34 := le516.k k453 (by decide)
            have k549 : τ515 ca_445 = 31 := le516.k k454 (by decide)
            have k550 : τ515 us_446 = 31 := le516.k k455 (by decide)
            have k551 : τ515 wo_447 = 31 := le516.k k456 (by decide)
            have k552 : τ515 cm_448 = 31 := le516.k k457 (by decide)
            have k553 : τ515 lc_449 = 24 := le516.k k458 (by decide)
            have k554 : τ515 lh_450 = 25 := le516.k k459 (by decide)
            have k555 : τ515 ld_451 = 26 := le516.k k460 (by decide)
            have k556 : τ515 ds_487 = 34 := le516.k k496 (by decide)
            have k557 : τ515 fr_488 = 34 := le516.k k497 (by decide)
            have k558 : τ515 ca_489 = 31 := le516.k k498 (by decide)
            have k559 : τ515 us_490 = 31 := le516.k k499 (by decide)
            have k560 : τ515 wo_491 = 31 := le516.k k500 (by decide)
            have k561 : τ515 cm_492 = 31 := le516.k k501 (by decide)
            have k562 : τ515 lc_493 = 24 := le516.k k502 (by decide)
            have k563 : τ515 lh_494 = 25 := le516.k k503 (by decide)
            have k564 : τ515 ld_495 = 26 := le516.k k504 (by decide)
            have sp565 : tw_sp d τ h gN τ515 h476 := by rw [eτ515]; exact sp514.ty n357 z328 f480 (by rw [← eτ515]; exact ⟨_, rfl, fz325, _, oo.2, fun k hk => (fF324 k hk).trans (vv.2.2 k hk).symm⟩)
            have k566 : τ515 o314 = 32 := by rw [eτ515]; exact tw_ku_s
            have z567 : τ515 q300 = 0 := by rw [eτ515, tw_ku_n xo326]; exact z317
            have z568 : τ515 t315 = 0 := by rw [eτ515, tw_ku_n (Ne.symm ot332)]; exact z334
            obtain ⟨τ569, eτ569⟩ : ∃ z : tw_K, z = tw_ku τ515 t315 33 := ⟨_, rfl⟩
            have le570 : tw_le τ515 τ569 := by rw [eτ569]; exact tw_ku_le z568
            have k571 : τ569 x = 36 := le570.k k517 (by decide)
            have k572 : τ569 o = 12 := le570.k k518 (by decide)
            have k573 : τ569 ds_205 = 34 := le570.k k519 (by decide)
            have k574 : τ569 fr_206 = 34 := le570.k k520 (by decide)
            have k575 : τ569 ca_207 = 31 := le570.k k521 (by decide)
            have k576 : τ569 us_208 = 31 := le570.k k522 (by decide)
            have k577 : τ569 wo_209 = 31 := le570.k k523 (by decide)
            have k578 : τ569 cm_210 = 31 := le570.k k524 (by decide)
            have k579 : τ569 lc_211 = 24 := le570.k k525 (by decide)
            have k580 : τ569 lh_212 = 25 := le570.k k526 (by decide)
            have k581 : τ569 ld_213 = 26 := le570.k k527 (by decide)
            have k582 : τ569 ds_250 = 34 := le570.k k528 (by decide)
            have k583 : τ569 fr_251 = 34 := le570.k k529 (by decide)
            have k584 : τ569 ca_252 = 31 := le570.k k530 (by decide)
            have k585 : τ569 us_253 = 31 := le570.k k531 (by decide)
            have k586 : τ569 wo_254 = 31 := le570.k k532 (by decide)
            have k587 : τ569 cm_255 = 31 := le570.k k533 (by decide)
            have k588 : τ569 lc_256 = 24 := le570.k k534 (by decide)
            have k589 : τ569 lh_257 = 25 := le570.k k535 (by decide)
            have k590 : τ569 ld_258 = 26 := le570.k k536 (by decide)
            have k591 : τ569 v313 = 31 := le570.k k537 (by decide)
            have k592 : τ569 ds_399 = 34 := le570.k k538 (by decide)
            have k593 : τ569 fr_400 = 34 := le570.k k539 (by decide)
            have k594 : τ569 ca_401 = 31 := le570.k k540 (by decide)
            have k595 : τ569 us_402 = 31 := le570.k k541 (by decide)
            have k596 : τ569 wo_403 = 31 := le570.k k542 (by decide)
            have k597 : τ569 cm_404 = 31 := le570.k k543 (by decide)
            have k598 : τ569 lc_405 = 24 := le570.k k544 (by decide)
            have k599 : τ569 lh_406 = 25 := le570.k k545 (by decide)
            have k600 : τ569 ld_407 = 26 := le570.k k546 (by decide)
            have k601 : τ569 ds_443 = 34 := le570.k k547 (by decide)
            have k602 : τ569 fr_444 = 34 := le570.k k548 (by decide)
            have k603 : τ569 ca_445 = 31 := le570.k k549 (by decide)
            have k604 : τ569 us_446 = 31 := le570.k k550 (by decide)
            have k605 : τ569 wo_447 = 31 := le570.k k551 (by decide)
            have k606 : τ569 cm_448 = 31 := le570.k k552 (by decide)
            have k607 : τ569 lc_449 = 24 := le570.k k553 (by decide)
            have k608 : τ569 lh_450 = 25 := le570.k k554 (by decide)
            have k609 : τ569 ld_451 = 26 := le570.k k555 (by decide)
            have k610 : τ569 ds_487 = 34 := le570.k k556 (by decide)
            have k611 : τ569 fr_488 = 34 := le570.k k557 (by decide)
            have k612 : τ569 ca_489 = 31 := le570.k k558 (by decide)
            have k613 : τ569 us_490 = 31 := le570.k k559 (by decide)
            have k614 : τ569 wo_491 = 31 := le570.k k560 (by decide)
            have k615 : τ569 cm_492 = 31 := le570.k k561 (by decide)
            have k616 : τ569 lc_493 = 24 := le570.k k562 (by decide)
            have k617 : τ569 lh_494 = 25 := le570.k k563 (by decide)
            have k618 : τ569 ld_495 = 26 := le570.k k564 (by decide)
            have k619 : τ569 o314 = 32 := le570.k k566 (by decide)
            have sp620 : tw_sp d τ h gN τ569 h476 := by rw [eτ569]; exact sp565.ty n358 z568 f481 (by rw [← eτ569]; exact ⟨_, rfl, fun _ => by decide, _, ot.1, fun k hk => (ot.2 k hk).symm⟩)
            have k621 : τ569 t315 = 33 := by rw [eτ569]; exact tw_ku_s
            have z622 : τ569 q300 = 0 := by rw [eτ569, tw_ku_n xt331]; exact z567
            obtain ⟨τ623, eτ623⟩ : ∃ z : tw_K, z = tw_ku τ569 q300 21 := ⟨_, rfl⟩
            have le624 : tw_le τ569 τ623 := by rw [eτ623]; exact tw_ku_le z622
            have k625 : τ623 x = 36 := le624.k k571 (by decide)
            have k626 : τ623 o = 12 := le624.k k572 (by decide)
            have k627 : τ623 ds_205 = 34 := le624.k k573 (by decide)
            have k628 : τ623 fr_206 = 34 := le624.k k574 (by decide)
            have k629 : τ623 ca_207 = 31 := le624.k k575 (by decide)
            have k630 : τ623 us_208 = 31 := le624.k k576 (by decide)
            have k631 : τ623 wo_209 = 31 := le624.k k577 (by decide)
            have k632 : τ623 cm_210 = 31 := le624.k k578 (by decide)
            have k633 : τ623 lc_211 = 24 := le624.k k579 (by decide)
            have k634 : τ623 lh_212 = 25 := le624.k k580 (by decide)
            have k635 : τ623 ld_213 = 26 := le624.k k581 (by decide)
            have k636 : τ623 ds_250 = 34 := le624.k k582 (by decide)
            have k637 : τ623 fr_251 = 34 := le624.k k583 (by decide)
            have k638 : τ623 ca_252 = 31 := le624.k k584 (by decide)
            have k639 : τ623 us_253 = 31 := le624.k k585 (by decide)
            have k640 : τ623 wo_254 = 31 := le624.k k586 (by decide)
            have k641 : τ623 cm_255 = 31 := le624.k k587 (by decide)
            have k642 : τ623 lc_256 = 24 := le624.k k588 (by decide)
            have k643 : τ623 lh_257 = 25 := le624.k k589 (by decide)
            have k644 : τ623 ld_258 = 26 := le624.k k590 (by decide)
            have k645 : τ623 v313 = 31 := le624.k k591 (by decide)
            have k646 : τ623 ds_399 = 34 := le624.k k592 (by decide)
            have k647 : τ623 fr_400 = 34 := le624.k k593 (by decide)
            have k648 : τ623 ca_401 = 31 := le624.k k594 (by decide)
            have k649 : τ623 us_402 = 31 := le624.k k595 (by decide)
            have k650 : τ623 wo_403 = 31 := le624.k k596 (by decide)
            have k651 : τ623 cm_404 = 31 := le624.k k597 (by decide)
            have k652 : τ623 lc_405 = 24 := le624.k k598 (by decide)
            have k653 : τ623 lh_406 = 25 := le624.k k599 (by decide)
            have k654 : τ623 ld_407 = 26 := le624.k k600 (by decide)
            have k655 : τ623 ds_443 = 34 := le624.k k601 (by decide)
            have k656 : τ623 fr_444 = 34 := le624.k k602 (by decide)
            have k657 : τ623 ca_445 = 31 := le624.k k603 (by decide)
            have k658 : τ623 us_446 = 31 := le624.k k604 (by decide)
            have k659 : τ623 wo_447 = 31 := le624.k k605 (by decide)
            have k660 : τ623 cm_448 = 31 := le624.k k606 (by decide)
            have k661 : τ623 lc_449 = 24 := le624.k k607 (by decide)
            have k662 : τ623 lh_450 = 25 := le624.k k608 (by decide)
            have k663 : τ623 ld_451 = 26 := le624.k k609 (by decide)
            have k664 : τ623 ds_487 = 34 := le624.k k610 (by decide)
            have k665 : τ623 fr_488 = 34 := le624.k k611 (by decide)
            have k666 : τ623 ca_489 = 31 := le624.k k612 (by decide)
            have k667 : τ623 us_490 = 31 := le624.k k613 (by decide)
            have k668 : τ623 wo_491 = 31 := le624.k k614 (by decide)
            have k669 : τ623 cm_492 = 31 := le624.k k615 (by decide)
            have k670 : τ623 lc_493 = 24 := le624.k k616 (by decide)
            have k671 : τ623 lh_494 = 25 := le624.k k617 (by decide)
            have k672 : τ623 ld_495 = 26 := le624.k k618 (by decide)
            have k673 : τ623 o314 = 32 := le624.k k619 (by decide)
            have k674 : τ623 t315 = 33 := le624.k k621 (by decide)
            have sp675 : tw_sp d τ h gN τ623 h476 := by rw [eτ623]; exact sp620.ty n303 z622 f482 (by rw [← eτ623]; exact ⟨r, ct, v313, o314, t315, rfl, k645, k673, k674, q1a, q1b, _, oo.1, vv.1.symm, vv.2.1.symm, oo.2.2.2.2.2, ot.1.2.2.2.2⟩)
            have k676 : τ623 q300 = 21 := by rw [eτ623]; exact tw_ku_s
            obtain ⟨e677, f678, ⟨el679, rfl, k680⟩, k681⟩ := sp675.1 lc_493 24 k670 (by decide)
            have hb9 : gN.2 3 + 1 ≤ 4 := by rw [gn3]; exact hb8
            rcases k680 with k680p | k680p
            · obtain ⟨pa, pn, pf⟩ := k680p
              subst pa
              have f9 : h476 lc_493 = some (.inr (3, [.int (gN.1 3), .ref (d.2 102), .int (nI 0)])) := by have z := f678; rw [pn] at z; exact z
              refine tw_bi (tw_callV (M := mX10_country) (pc := 151) okJx4a65c_add_9ea2d dX10_country_151 w_1238 rfl f678 [.ref q300] [] rfl rfl ⟨by decide, by decide⟩ (Nat.le_of_ble_eq_true rfl) (c_add_new d h476 lc_493 (gN.1 3) f9 q300 11 _ _ rfl (ng_11) f482 (by decide)) 5 36 (Nat.le_of_ble_eq_true rfl) (Nat.le_of_ble_eq_true rfl)) (fun r9 h682 q9 => ?_) (fun E h1 q => q.elim)
              obtain ⟨r8, hr8, q1, q2, q3⟩ := q9
              have th683 : tw_th (h682 x) = 0 := by rw [q3 x (tw_nz k625 k670 (by decide)) (tw_thF sp675.1 k625 hr8)]; exact th477
              have oq684 : h682 o = h o := by rw [q3 o (tw_nk k626 k670 (by decide)) (tw_kF sp675.1 k626 (by decide) hr8)] <;> exact oq478
              obtain ⟨g9, τ9, ⟨hga, hg1⟩, sp9⟩ := tw_gadd24 (F := fun _ => none) sp675.1 k670 k676 hb9 (by rw [gn3]; exact oo.1.2.2.2.2) (fun j hj => by rw [pn] at hj; exact absurd hj (Nat.not_lt_zero _)) (Or.inr ⟨hr8, pf⟩) (by rw [pn]; exact q1) (by rw [pn]; exact q2) q3
              have sp685 := sp675.tr sp9
              have k686 : τ9 x = 36 := sp9.2.1.k k625 (by decide)
              have k687 : τ9 o = 12 := sp9.2.1.k k626 (by decide)
              have k688 : τ9 ds_205 = 34 := sp9.2.1.k k627 (by decide)
              have k689 : τ9 fr_206 = 34 := sp9.2.1.k k628 (by decide)
              have k690 : τ9 ca_207 = 31 := sp9.2.1.k k629 (by decide)
              have k691 : τ9 us_208 = 31 := sp9.2.1.k k630 (by decide)
              have k692 : τ9 wo_209 = 31 := sp9.2.1.k k631 (by decide)
              have k693 : τ9 cm_210 = 31 := sp9.2.1.k k632 (by decide)
              have k694 : τ9 lc_211 = 24 := sp9.2.1.k k633 (by decide)
              have k695 : τ9 lh_212 = 25 := sp9.2.1.k k634 (by decide)
              have k696 : τ9 ld_213 = 26 := sp9.2.1.k k635 (by decide)
              have k697 : τ9 ds_250 = 34 := sp9.2.1.k k636 (by decide)
              have k698 : τ9 fr_251 = 34 := sp9.2.1.k k637 (by decide)
              have k699 : τ9 ca_252 = 31 := sp9.2.1.k k638 (by decide)
              have k700 : τ9 us_253 = 31 := sp9.2.1.k k639 (by decide)
              have k701 : τ9 wo_254 = 31 := sp9.2.1.k k640 (by decide)
              have k702 : τ9 cm_255 = 31 := sp9.2.1.k k641 (by decide)
              have k703 : τ9 lc_256 = 24 := sp9.2.1.k k642 (by decide)
              have k704 : τ9 lh_257 = 25 := sp9.2.1.k k643 (by decide)
              have k705 : τ9 ld_258 = 26 := sp9.2.1.k k644 (by decide)
              have k706 : τ9 v313 = 31 := sp9.2.1.k k645 (by decide)
              have k707 : τ9 ds_399 = 34 := sp9.2.1.k k646 (by decide)
              have k708 : τ9 fr_400 = 34 := sp9.2.1.k k647 (by decide)
              have k709 : τ9 ca_401 = 31 := sp9.2.1.k k648 (by decide)
              have k710 : τ9 us_402 = 31 := sp9.2.1.k k649 (by decide)
              have k711 : τ9 wo_403 = 31 := sp9.2.1.k k650 (by decide)
              have k712 : τ9 cm_404 = 31 := sp9.2.1.k k651 (by decide)
              have k713 : τ9 lc_405 = 24 := sp9.2.1.k k652 (by decide)
              have k714 : τ9 lh_406 = 25 := sp9.2.1.k k653 (by decide)
              have k715 : τ9 ld_407 = 26 := sp9.2.1.k k654 (by decide)
              have k716 : τ9 ds_443 = 34 := sp9.2.1.k k655 (by decide)
              have k717 : τ9 fr_444 = 34 := sp9.2.1.k k656 (by decide)
              have k718 : τ9 ca_445 = 31 := sp9.2.1.k k657 (by decide)
              have k719 : τ9 us_446 = 31 := sp9.2.1.k k658 (by decide)
              have k720 : τ9 wo_447 = 31 := sp9.2.1.k k659 (by decide)
              have k721 : τ9 cm_448 = 31 := sp9.2.1.k k660 (by decide)
              have k722 : τ9 lc_449 = 24 := sp9.2.1.k k661 (by decide)
              have k723 : τ9 lh_450 = 25 := sp9.2.1.k k662 (by decide)
              have k724 : τ9 ld_451 = 26 := sp9.2.1.k k663 (by decide)
              have k725 : τ9 ds_487 = 34 := sp9.2.1.k k664 (by decide)
              have k726 : τ9 fr_488 = 34 := sp9.2.1.k k665 (by decide)
              have k727 : τ9 ca_489 = 31 := sp9.2.1.k k666 (by decide)
              have k728 : τ9 us_490 = 31 := sp9.2.1.k k667 (by decide)
              have k729 : τ9 wo_491 = 31 := sp9.2.1.k k668 (by decide)
              have k730 : τ9 cm_492 = 31 := sp9.2.1.k k669 (by decide)
              have k731 : τ9 lc_493 = 24 := sp9.2.1.k k670 (by decide)
              have k732 : τ9 lh_494 = 25 := sp9.2.1.k k671 (by decide)
              have k733 : τ9 ld_495 = 26 := sp9.2.1.k k672 (by decide)
              have k734 : τ9 o314 = 32 := sp9.2.1.k k673 (by decide)
              have k735 : τ9 t315 = 33 := sp9.2.1.k k674 (by decide)
              have k736 : τ9 q300 = 21 := sp9.2.1.k k676 (by decide)
              refine tw_pop dX10_country_154 rfl ?_
              refine tw_aload_n 1 dX10_country_155 rfl rfl ?_
              obtain ⟨e737, f738, th_739, td_740, ds_741, fr_742, ca_743, us_744, wo_745, cm_746, lc_747, lh_748, ld_749, rfl, k750, k751, k752, k753, k754, k755, k756, k757, k758, k759, k760, k761, k762, k763, k764, k765, k766, k767⟩ := sp685.1 x 36 k686 (by decide)
              refine tw_get (v := .ref lc_747) rfl in_14 9 dX10_country_156 w_1160 rfl (by decide) f738 rfl ?_
              obtain ⟨e768, f769, ⟨el770, rfl, k771⟩, k772⟩ := sp685.1 lc_747 24 k756 (by decide)
              refine tw_bi (tw_callV (M := mX10_country) (pc := 159) okJx4a65c_size_8abf5 dX10_country_159 w_1208 rfl f769 [] [] rfl rfl ⟨by decide, by decide⟩ (Nat.le_of_ble_eq_true rfl) (c24_size d g9 τ9 h682 sp685.1 lc_747 k756) 5 36 (Nat.le_of_ble_eq_true rfl) (Nat.le_of_ble_eq_true rfl)) (fun r775 h774 q773 => ?_) (fun E h1 q => q.elim)
              obtain ⟨q773e, q773r⟩ := q773
              rw [q773e, q773r]
              refine tw_iconst (v := 1) dX10_country_162 (by decide) ?_
              refine tw_isub dX10_country_163 ?_
              refine tw_nmi (fun v776 ev776 => ?_)
              exact tw_iret dX10_country_164 rfl (Or.inl ⟨_, rfl, _, _, sp685, oq684, Or.inr (Or.inr (⟨⟨⟨q1a, q1b⟩, ⟨q51a, q51b⟩, ⟨q101a, q101b⟩, ⟨q151a, q151b⟩⟩, by omega, by rw [ev776, hg1.1, gn3]; exact nI_pred _, th683, _, _, _, by rw [← egN]; exact ⟨hga, hg1⟩⟩))⟩)
            · obtain ⟨e9, fa9, ⟨F9, rfl, hc9, h49⟩, un9⟩ := sp675.1 el679 27 k680p (by decide)
              refine tw_bi (tw_callV (M := mX10_country) (pc := 151) okJx4a65c_add_9ea2d dX10_country_151 w_1238 rfl f678 [.ref q300] [] rfl rfl ⟨by decide, by decide⟩ (Nat.le_of_ble_eq_true rfl) (c_add_old d h476 lc_493 el679 (gN.2 3) F9 (gN.1 3) (by omega) f678 fa9 q300 11 _ _ rfl (ng_11) f482 (by decide)) 5 36 (Nat.le_of_ble_eq_true rfl) (Nat.le_of_ble_eq_true rfl)) (fun r9 h777 q9 => ?_) (fun E h1 q => q.elim)
              obtain ⟨q1, q2, q3⟩ := q9
              have th778 : tw_th (h777 x) = 0 := by rw [q3 x (tw_nz k625 k670 (by decide)) (tw_nz k625 k680p (by decide))]; exact th477
              have oq779 : h777 o = h o := by rw [q3 o (tw_nk k626 k670 (by decide)) (tw_nk k626 k680p (by decide))] <;> exact oq478
              obtain ⟨g9, τ9, ⟨hga, hg1⟩, sp9⟩ := tw_gadd24 sp675.1 k670 k676 hb9 (by rw [gn3]; exact oo.1.2.2.2.2) (fun j hj => by obtain ⟨y9, a9, b9⟩ := h49 j hj; exact ⟨y9, a9, b9, un9.2.2 _ _ F9 rfl j y9 hj a9⟩) (Or.inl k680p) q1 q2 q3
              have sp780 := sp675.tr sp9
              have k781 : τ9 x = 36 := sp9.2.1.k k625 (by decide)
              have k782 : τ9 o = 12 := sp9.2.1.k k626 (by decide)
              have k783 : τ9 ds_205 = 34 := sp9.2.1.k k627 (by decide)
              have k784 : τ9 fr_206 = 34 := sp9.2.1.k k628 (by decide)
              have k785 : τ9 ca_207 = 31 := sp9.2.1.k k629 (by decide)
              have k786 : τ9 us_208 = 31 := sp9.2.1.k k630 (by decide)
              have k787 : τ9 wo_209 = 31 := sp9.2.1.k k631 (by decide)
              have k788 : τ9 cm_210 = 31 := sp9.2.1.k k632 (by decide)
              have k789 : τ9 lc_211 = 24 := sp9.2.1.k k633 (by decide)
              have k790 : τ9 lh_212 = 25 := sp9.2.1.k k634 (by decide)
              have k791 : τ9 ld_213 = 26 := sp9.2.1.k k635 (by decide)
              have k792 : τ9 ds_250 = 34 := sp9.2.1.k k636 (by decide)
              have k793 : τ9 fr_251 = 34 := sp9.2.1.k k637 (by decide)
              have k794 : τ9 ca_252 = 31 := sp9.2.1.k k638 (by decide)
              have k795 : τ9 us_253 = 31 := sp9.2.1.k k639 (by decide)
              have k796 : τ9 wo_254 = 31 := sp9.2.1.k k640 (by decide)
              have k797 : τ9 cm_255 = 31 := sp9.2.1.k k641 (by decide)
              have k798 : τ9 lc_256 = 24 := sp9.2.1.k k642 (by decide)
              have k799 : τ9 lh_257 = 25 := sp9.2.1.k k643 (by decide)
              have k800 : τ9 ld_258 = 26 := sp9.2.1.k k644 (by decide)
              have k801 : τ9 v313 = 31 := sp9.2.1.k k645 (by decide)
              have k802 : τ9 ds_399 = 34 := sp9.2.1.k k646 (by decide)
              have k803 : τ9 fr_400 = 34 := sp9.2.1.k k647 (by decide)
              have k804 : τ9 ca_401 = 31 := sp9.2.1.k k648 (by decide)
              have k805 : τ9 us_402 = 31 := sp9.2.1.k k649 (by decide)
              have k806 : τ9 wo_403 = 31 := sp9.2.1.k k650 (by decide)
              have k807 : τ9 cm_404 = 31 := sp9.2.1.k k651 (by decide)
              have k808 : τ9 lc_405 = 24 := sp9.2.1.k k652 (by decide)
              have k809 : τ9 lh_406 = 25 := sp9.2.1.k k653 (by decide)
              have k810 : τ9 ld_407 = 26 := sp9.2.1.k k654 (by decide)
              have k811 : τ9 ds_443 = 34 := sp9.2.1.k k655 (by decide)
              have k812 : τ9 fr_444 = 34 := sp9.2.1.k k656 (by decide)
              have k813 : τ9 ca_445 = 31 := sp9.2.1.k k657 (by decide)
              have k814 : τ9 us_446 = 31 := sp9.2.1.k k658 (by decide)
              have k815 : τ9 wo_447 = 31 := sp9.2.1.k k659 (by decide)
              have k816 : τ9 cm_448 = 31 := sp9.2.1.k k660 (by decide)
              have k817 : τ9 lc_449 = 24 := sp9.2.1.k k661 (by decide)
              have k818 : τ9 lh_450 = 25 := sp9.2.1.k k662 (by decide)
              have k819 : τ9 ld_451 = 26 := sp9.2.1.k k663 (by decide)
              have k820 : τ9 ds_487 = 34 := sp9.2.1.k k664 (by decide)
              have k821 : τ9 fr_488 = 34 := sp9.2.1.k k665 (by decide)
              have k822 : τ9 ca_489 = 31 := sp9.2.1.k k666 (by decide)
              have k823 : τ9 us_490 = 31 := sp9.2.1.k k667 (by decide)
              have k824 : τ9 wo_491 = 31 := sp9.2.1.k k668 (by decide)
              have k825 : τ9 cm_492 = 31 := sp9.2.1.k k669 (by decide)
              have k826 : τ9 lc_493 = 24 := sp9.2.1.k k670 (by decide)
              have k827 : τ9 lh_494 = 25 := sp9.2.1.k k671 (by decide)
              have k828 : τ9 ld_495 = 26 := sp9.2.1.k k672 (by decide)
              have k829 : τ9 o314 = 32 := sp9.2.1.k k673 (by decide)
              have k830 : τ9 t315 = 33 := sp9.2.1.k k674 (by decide)
              have k831 : τ9 q300 = 21 := sp9.2.1.k k676 (by decide)
              refine tw_pop dX10_country_154 rfl ?_
              refine tw_aload_n 1 dX10_country_155 rfl rfl ?_
              obtain ⟨e832, f833, th_834, td_835, ds_836, fr_837, ca_838, us_839, wo_840, cm_841, lc_842, lh_843, ld_844, rfl, k845, k846, k847, k848, k849, k850, k851, k852, k853, k854, k855, k856, k857, k858, k859, k860, k861, k862⟩ := sp780.1 x 36 k781 (by decide)
              refine tw_get (v := .ref lc_842) rfl in_14 9 dX10_country_156 w_1160 rfl (by decide) f833 rfl ?_
              obtain ⟨e863, f864, ⟨el865, rfl, k866⟩, k867⟩ := sp780.1 lc_842 24 k851 (by decide)
              refine tw_bi (tw_callV (M := mX10_country) (pc := 159) okJx4a65c_size_8abf5 dX10_country_159 w_1208 rfl f864 [] [] rfl rfl ⟨by decide, by decide⟩ (Nat.le_of_ble_eq_true rfl) (c24_size d g9 τ9 h777 sp780.1 lc_842 k851) 5 36 (Nat.le_of_ble_eq_true rfl) (Nat.le_of_ble_eq_true rfl)) (fun r870 h869 q868 => ?_) (fun E h1 q => q.elim)
              obtain ⟨q868e, q868r⟩ := q868
              rw [q868e, q868r]
              refine tw_iconst (v := 1) dX10_country_162 (by decide) ?_
              refine tw_isub dX10_country_163 ?_
              refine tw_nmi (fun v871 ev871 => ?_)
              exact tw_iret dX10_country_164 rfl (Or.inl ⟨_, rfl, _, _, sp780, oq779, Or.inr (Or.inr (⟨⟨⟨q1a, q1b⟩, ⟨q51a, q51b⟩, ⟨q101a, q101b⟩, ⟨q151a, q151b⟩⟩, by omega, by rw [ev871, hg1.1, gn3]; exact nI_pred _, th778, _, _, _, by rw [← egN]; exact ⟨hga, hg1⟩⟩))⟩)
          · refine tw_iconst (v := 1) dX10_country_68 (by decide) ?_
            refine tw_goto 73 dX10_country_69 (by decide) ?_
            refine tw_iconst (v := 2) dX10_country_73 (by decide) ?_
            refine tw_bi (tw_callV (M := mX10_country) (pc := 74) okX10_refuse dX10_country_74 w_1204 rfl f247 [.int 1, .int 2] [] rfl rfl ⟨by decide, by decide⟩ (Nat.le_of_ble_eq_true rfl) (c_X10_refuse d g τ h233 sp243.1 x kx 1 2 (by decide)) 10 60 (Nat.le_of_ble_eq_true rfl) (Nat.le_of_ble_eq_true rfl)) (fun r874 h873 q872 => ?_) (fun E h1 q => q.elim)
            obtain ⟨e875, he876, hs877, hr878, hc879⟩ := q872
            obtain ⟨rz880, tz881⟩ := (hc879 th242).2 rfl
            have th882 : tw_th (h873 x) = 2 := by rw [he876, tw_up_s]; exact tz881
            have sp883 : tw_sp d τ h g τ h873 := by rw [he876]; exact sp243.set kx (by decide) hs877
            rw [rz880]
            have oq884 : h873 o = h o := by rw [he876, tw_up_n (tw_nk ko kx (by decide))] <;> exact oq244
            refine tw_if_eq 82 dX10_country_77 (by decide) (fun c885 => absurd c885 (by decide)) (fun _ => ?_)
            refine tw_iconst (v := 0) dX10_country_80 (by decide) ?_
            exact tw_iret dX10_country_81 rfl (Or.inl ⟨_, rfl, _, _, sp883, oq884, Or.inr (Or.inl ⟨⟨⟨q1a, q1b⟩, ⟨q51a, q51b⟩, ⟨q101a, q101b⟩, ⟨q151a, q151b⟩⟩, fun z => absurd (tw_nIj (a := g.2 3) (b := 4) c285 (by omega) (by decide)) (by omega), th882, rfl⟩)⟩)

set_option maxHeartbeats 4000000 in
set_option maxRecDepth 100000 in
theorem c2_X10_house (d : tw_D) (g : tw_G) (τ : tw_K) (h : tw_H) (hw : tw_wt d g τ h) (x : Nat) (kx : τ x = 36) (a : Int32) (go : Int32) (si : Int32) (o : Nat) (ko : τ o = 12) : tw_Ct d mX10_house 10 60 [.ref x, .int a, .int go, .int si] h (tw_qi (fun r9 h1 => ∃ g1 τ1, tw_sp d τ h g1 τ1 h1 ∧ h1 o = h o ∧ ((¬ tw_ix (g.2 3) a ∧ tw_th (h1 x) = 1 ∧ g1 = g) ∨ (tw_ix (g.2 3) a ∧ ¬ tw_RH go si ∧ tw_th (h1 x) = 2 ∧ g1 = g) ∨ (tw_ix (g.2 3) a ∧ tw_RH go si ∧ ¬ g.2 4 < 6 ∧ tw_th (h1 x) = 3 ∧ g1 = g) ∨ (tw_ix (g.2 3) a ∧ tw_RH go si ∧ g.2 4 < 6 ∧ r9 = nI (g.2 4) ∧ tw_th (h1 x) = 0 ∧ tw_gk 4 g g1))) tw_nx) := by
  refine tw_of (by decide +kernel) (Nat.le_of_ble_eq_true rfl) ?_
  show tw_W d mX10_house _ 0 [(0, .ref x), (1, .int a), (2, .int go), (3, .int si)] [] h 10 60
  have sp0 := tw_sp.rf hw
  have oq0 : h o = h o := rfl
  refine tw_aload_n 0 dX10_house_0 rfl rfl ?_
  refine tw_aload_n 0 dX10_house_1 rfl rfl ?_
  refine tw_iload_n 1 dX10_house_2 rfl rfl ?_
  obtain ⟨e1, f2, th_3, td_4, ds_5, fr_6, ca_7, us_8, wo_9, cm_10, lc_11, lh_12, ld_13, rfl, k14, k15, k16, k17, k18, k19, k20, k21, k22, k23, k24, k25, k26, k27, k28, k29, k30, k31⟩ := sp0.1 x 36 kx (by decide)
  refine tw_bi (tw_callV (M := mX10_house) (pc := 3) okX10_isNoCountry dX10_house_3 w_1292 rfl f2 [.int a] [.ref x] rfl rfl ⟨by decide, by decide⟩ (Nat.le_of_ble_eq_true rfl) (c2_X10_isNoCountry d g τ h sp0.1 x kx a) 10 60 (Nat.le_of_ble_eq_true rfl) (Nat.le_of_ble_eq_true rfl)) (fun r34 h33 q32 => ?_) (fun E h1 q => q.elim)
  obtain ⟨q32e, q32d⟩ := q32
  rw [q32e]
  rcases q32d with ⟨q32r, q32n⟩ | ⟨q32r, q32i⟩
  · rw [q32r]
    refine tw_iconst (v := 1) dX10_house_6 (by decide) ?_
    refine tw_bi (tw_callV (M := mX10_house) (pc := 7) okX10_start dX10_house_7 w_1200 rfl f2 [.int 1, .int 1] [] rfl rfl ⟨by decide, by decide⟩ (Nat.le_of_ble_eq_true rfl) (c_X10_start d g τ h sp0.1 x kx 1 1 (by decide)) 10 60 (Nat.le_of_ble_eq_true rfl) (Nat.le_of_ble_eq_true rfl)) (fun r38 h37 q36 => ?_) (fun E h1 q => q.elim)
    obtain ⟨e39, he40, hs41, hr42, hc43⟩ := q36
    obtain ⟨rz44, tz45⟩ := hc43.2 rfl
    have th46 : tw_th (h37 x) = 1 := by rw [he40, tw_up_s]; exact tz45
    have sp47 : tw_sp d τ h g τ h37 := by rw [he40]; exact sp0.set kx (by decide) hs41
    rw [rz44]
    have oq48 : h37 o = h o := by rw [he40, tw_up_n (tw_nk ko kx (by decide))] <;> exact oq0
    refine tw_if_ne 71 dX10_house_10 (by decide) (fun _ => ?_) (fun c49 => absurd c49 (by decide))
    refine tw_iconst (v := 0) dX10_house_71 (by decide) ?_
    exact tw_iret dX10_house_72 rfl (Or.inl ⟨_, rfl, _, _, sp47, oq48, Or.inl ⟨q32n, th46, rfl⟩⟩)
  · rw [q32r]
    have q32x := q32i
    obtain ⟨j35, q32j, q32k⟩ := q32i
    subst q32k
    have ix0 := q32x
    refine tw_iconst (v := 1) dX10_house_6 (by decide) ?_
    refine tw_bi (tw_callV (M := mX10_house) (pc := 7) okX10_start dX10_house_7 w_1200 rfl f2 [.int 0, .int 1] [] rfl rfl ⟨by decide, by decide⟩ (Nat.le_of_ble_eq_true rfl) (c_X10_start d g τ h sp0.1 x kx 0 1 (by decide)) 10 60 (Nat.le_of_ble_eq_true rfl) (Nat.le_of_ble_eq_true rfl)) (fun r52 h51 q50 => ?_) (fun E h1 q => q.elim)
    obtain ⟨e53, he54, hs55, hr56, hc57⟩ := q50
    obtain ⟨rz58, tz59⟩ := hc57.1 rfl
    have th60 : tw_th (h51 x) = 0 := by rw [he54, tw_up_s]; exact tz59
    have sp61 : tw_sp d τ h g τ h51 := by rw [he54]; exact sp0.set kx (by decide) hs55
    rw [rz58]
    have oq62 : h51 o = h o := by rw [he54, tw_up_n (tw_nk ko kx (by decide))] <;> exact oq0
    refine tw_if_ne 71 dX10_house_10 (by decide) (fun c63 => absurd (by decide) c63) (fun _ => ?_)
    refine tw_aload_n 0 dX10_house_13 rfl rfl ?_
    refine tw_iload_n 2 dX10_house_14 rfl rfl ?_
    refine tw_iconst (v := 0) dX10_house_15 (by decide) ?_
    refine tw_ldc (v := 99999) dX10_house_16 w_1199 ?_
    refine tw_bi (tw_callS (M := mX10_house) (pc := 18) okX10_isIn dX10_house_18 w_1196 [.int go, .int 0, .int 99999] [.ref x] rfl rfl ⟨by decide, by decide⟩ (Nat.le_of_ble_eq_true rfl) (c_X10_isIn d g τ h51 sp61.1 go 0 99999) 10 60 (Nat.le_of_ble_eq_true rfl) (Nat.le_of_ble_eq_true rfl)) (fun r66 h65 q64 => ?_) (fun E h1 q => q.elim)
    obtain ⟨q64e, q64d⟩ := q64
    rw [q64e]
    rcases q64d with ⟨q64r, q64n⟩ | ⟨q64r, q64a, q64b⟩
    · rw [q64r]
      refine tw_if_eq 34 dX10_house_21 (by decide) (fun _ => ?_) (fun c67 => absurd (by decide) c67)
      refine tw_iconst (v := 1) dX10_house_34 (by decide) ?_
      refine tw_goto 39 dX10_house_35 (by decide) ?_
      refine tw_iconst (v := 2) dX10_house_39 (by decide) ?_
      obtain ⟨e68, f69, th_70, td_71, ds_72, fr_73, ca_74, us_75, wo_76, cm_77, lc_78, lh_79, ld_80, rfl, k81, k82, k83, k84, k85, k86, k87, k88, k89, k90, k91, k92, k93, k94, k95, k96, k97, k98⟩ := sp61.1 x 36 kx (by decide)
      refine tw_bi (tw_callV (M := mX10_house) (pc := 40) okX10_refuse dX10_house_40 w_1204 rfl f69 [.int 1, .int 2] [] rfl rfl ⟨by decide, by decide⟩ (Nat.le_of_ble_eq_true rfl) (c_X10_refuse d g τ h51 sp61.1 x kx 1 2 (by decide)) 10 60 (Nat.le_of_ble_eq_true rfl) (Nat.le_of_ble_eq_true rfl)) (fun r101 h100 q99 => ?_) (fun E h1 q => q.elim)
      obtain ⟨e102, he103, hs104, hr105, hc106⟩ := q99
      obtain ⟨rz107, tz108⟩ := (hc106 th60).2 rfl
      have th109 : tw_th (h100 x) = 2 := by rw [he103, tw_up_s]; exact tz108
      have sp110 : tw_sp d τ h g τ h100 := by rw [he103]; exact sp61.set kx (by decide) hs104
      rw [rz107]
      have oq111 : h100 o = h o := by rw [he103, tw_up_n (tw_nk ko kx (by decide))] <;> exact oq62
      refine tw_if_ne 71 dX10_house_43 (by decide) (fun _ => ?_) (fun c112 => absurd c112 (by decide))
      refine tw_iconst (v := 0) dX10_house_71 (by decide) ?_
      exact tw_iret dX10_house_72 rfl (Or.inl ⟨_, rfl, _, _, sp110, oq111, Or.inr (Or.inl ⟨ix0, fun z => q64n z.1, th109, rfl⟩)⟩)
    · rw [q64r]
      refine tw_if_eq 34 dX10_house_21 (by decide) (fun c113 => absurd c113 (by decide)) (fun _ => ?_)
      refine tw_iload_n 3 dX10_house_24 rfl rfl ?_
      refine tw_iconst (v := 0) dX10_house_25 (by decide) ?_
      refine tw_ldc (v := 99999) dX10_house_26 w_1199 ?_
      refine tw_bi (tw_callS (M := mX10_house) (pc := 28) okX10_isIn dX10_house_28 w_1196 [.int si, .int 0, .int 99999] [.ref x] rfl rfl ⟨by decide, by decide⟩ (Nat.le_of_ble_eq_true rfl) (c_X10_isIn d g τ h51 sp61.1 si 0 99999) 10 60 (Nat.le_of_ble_eq_true rfl) (Nat.le_of_ble_eq_true rfl)) (fun r116 h115 q114 => ?_) (fun E h1 q => q.elim)
      obtain ⟨q114e, q114d⟩ := q114
      rw [q114e]
      rcases q114d with ⟨q114r, q114n⟩ | ⟨q114r, q114a, q114b⟩
      · rw [q114r]
        refine tw_if_ne 38 dX10_house_31 (by decide) (fun c117 => absurd (by decide) c117) (fun _ => ?_)
        refine tw_iconst (v := 1) dX10_house_34 (by decide) ?_
        refine tw_goto 39 dX10_house_35 (by decide) ?_
        refine tw_iconst (v := 2) dX10_house_39 (by decide) ?_
        obtain ⟨e118, f119, th_120, td_121, ds_122, fr_123, ca_124, us_125, wo_126, cm_127, lc_128, lh_129, ld_130, rfl, k131, k132, k133, k134, k135, k136, k137, k138, k139, k140, k141, k142, k143, k144, k145, k146, k147, k148⟩ := sp61.1 x 36 kx (by decide)
        refine tw_bi (tw_callV (M := mX10_house) (pc := 40) okX10_refuse dX10_house_40 w_1204 rfl f119 [.int 1, .int 2] [] rfl rfl ⟨by decide, by decide⟩ (Nat.le_of_ble_eq_true rfl) (c_X10_refuse d g τ h51 sp61.1 x kx 1 2 (by decide)) 10 60 (Nat.le_of_ble_eq_true rfl) (Nat.le_of_ble_eq_true rfl)) (fun r151 h150 q149 => ?_) (fun E h1 q => q.elim)
        obtain ⟨e152, he153, hs154, hr155, hc156⟩ := q149
        obtain ⟨rz157, tz158⟩ := (hc156 th60).2 rfl
        have th159 : tw_th (h150 x) = 2 := by rw [he153, tw_up_s]; exact tz158
        have sp160 : tw_sp d τ h g τ h150 := by rw [he153]; exact sp61.set kx (by decide) hs154
        rw [rz157]
        have oq161 : h150 o = h o := by rw [he153, tw_up_n (tw_nk ko kx (by decide))] <;> exact oq62
        refine tw_if_ne 71 dX10_house_43 (by decide) (fun _ => ?_) (fun c162 => absurd c162 (by decide))
        refine tw_iconst (v := 0) dX10_house_71 (by decide) ?_
        exact tw_iret dX10_house_72 rfl (Or.inl ⟨_, rfl, _, _, sp160, oq161, Or.inr (Or.inl ⟨ix0, fun z => q114n z.2, th159, rfl⟩)⟩)
      · rw [q114r]
        refine tw_if_ne 38 dX10_house_31 (by decide) (fun _ => ?_) (fun c163 => absurd c163 (by decide))
        refine tw_iconst (v := 0) dX10_house_38 (by decide) ?_
        refine tw_iconst (v := 2) dX10_house_39 (by decide) ?_
        obtain ⟨e164, f165, th_166, td_167, ds_168, fr_169, ca_170, us_171, wo_172, cm_173, lc_174, lh_175, ld_176, rfl, k177, k178, k179, k180, k181, k182, k183, k184, k185, k186, k187, k188, k189, k190, k191, k192, k193, k194⟩ := sp61.1 x 36 kx (by decide)
        refine tw_bi (tw_callV (M := mX10_house) (pc := 40) okX10_refuse dX10_house_40 w_1204 rfl f165 [.int 0, .int 2] [] rfl rfl ⟨by decide, by decide⟩ (Nat.le_of_ble_eq_true rfl) (c_X10_refuse d g τ h51 sp61.1 x kx 0 2 (by decide)) 10 60 (Nat.le_of_ble_eq_true rfl) (Nat.le_of_ble_eq_true rfl)) (fun r197 h196 q195 => ?_) (fun E h1 q => q.elim)
        obtain ⟨e198, he199, hs200, hr201, hc202⟩ := q195
        obtain ⟨rz203, tz204⟩ := (hc202 th60).1 rfl
        have th205 : tw_th (h196 x) = 0 := by rw [he199, tw_up_s]; exact tz204
        have sp206 : tw_sp d τ h g τ h196 := by rw [he199]; exact sp61.set kx (by decide) hs200
        rw [rz203]
        have oq207 : h196 o = h o := by rw [he199, tw_up_n (tw_nk ko kx (by decide))] <;> exact oq62
        refine tw_if_ne 71 dX10_house_43 (by decide) (fun c208 => absurd (by decide) c208) (fun _ => ?_)
        refine tw_aload_n 0 dX10_house_46 rfl rfl ?_
        refine tw_aload_n 0 dX10_house_47 rfl rfl ?_
        obtain ⟨e209, f210, th_211, td_212, ds_213, fr_214, ca_215, us_216, wo_217, cm_218, lc_219, lh_220, ld_221, rfl, k222, k223, k224, k225, k226, k227, k228, k229, k230, k231, k232, k233, k234, k235, k236, k237, k238, k239⟩ := sp206.1 x 36 kx (by decide)
        refine tw_get (v := .ref lh_220) rfl in_14 10 dX10_house_48 w_1161 rfl (by decide) f210 rfl ?_
        obtain ⟨e240, f241, ⟨el242, rfl, k243⟩, k244⟩ := sp206.1 lh_220 25 k229 (by decide)
        refine tw_bi (tw_callV (M := mX10_house) (pc := 51) okJx4a65c_size_8abf5 dX10_house_51 w_1208 rfl f241 [] [.ref x] rfl rfl ⟨by decide, by decide⟩ (Nat.le_of_ble_eq_true rfl) (c25_size d g τ h196 sp206.1 lh_220 k229) 10 60 (Nat.le_of_ble_eq_true rfl) (Nat.le_of_ble_eq_true rfl)) (fun r247 h246 q245 => ?_) (fun E h1 q => q.elim)
        obtain ⟨q245e, q245r⟩ := q245
        rw [q245e, q245r]
        refine tw_bipush (v := 6) dX10_house_54 (by decide) ?_
        refine tw_icmp_ne 63 dX10_house_56 (by decide) (fun c248 => ?_) (fun c248 => ?_)
        · refine tw_iconst (v := 0) dX10_house_63 (by decide) ?_
          refine tw_iconst (v := 3) dX10_house_64 (by decide) ?_
          refine tw_bi (tw_callV (M := mX10_house) (pc := 65) okX10_refuse dX10_house_65 w_1204 rfl f210 [.int 0, .int 3] [] rfl rfl ⟨by decide, by decide⟩ (Nat.le_of_ble_eq_true rfl) (c_X10_refuse d g τ h196 sp206.1 x kx 0 3 (by decide)) 10 60 (Nat.le_of_ble_eq_true rfl) (Nat.le_of_ble_eq_true rfl)) (fun r251 h250 q249 => ?_) (fun E h1 q => q.elim)
          obtain ⟨e252, he253, hs254, hr255, hc256⟩ := q249
          obtain ⟨rz257, tz258⟩ := (hc256 th205).1 rfl
          have th259 : tw_th (h250 x) = 0 := by rw [he253, tw_up_s]; exact tz258
          have sp260 : tw_sp d τ h g τ h250 := by rw [he253]; exact sp206.set kx (by decide) hs254
          rw [rz257]
          have oq261 : h250 o = h o := by rw [he253, tw_up_n (tw_nk ko kx (by decide))] <;> exact oq207
          refine tw_if_eq 73 dX10_house_68 (by decide) (fun _ => ?_) (fun c262 => absurd (by decide) c262)
          refine tw_new (ci := 13) rfl in_13 tyX9 tyX9_ok dX10_house_73 w_1336 w_1337 w_100 (fs := [.int 0, .int 0, .int 0, .null]) (fun j hj => by rcases (show j = 0 ∨ j = 1 ∨ j = 2 ∨ j = 3 by omega) with rfl | rfl | rfl | rfl <;> rfl) 9 56 (Nat.le_of_ble_eq_true rfl) (Nat.le_of_ble_eq_true rfl) (fun q263 hq264 hA265 => ?_)
          have n266 := sp260.nn hq264
          have z267 := sp260.1.none hq264
          obtain ⟨h268, eh268⟩ : ∃ z : tw_H, z = tw_up h250 q263 (.inr (13, [.int 0, .int 0, .int 0, .null])) := ⟨_, rfl⟩
          rw [← eh268]
          have th269 : tw_th (h268 x) = 0 := by rw [eh268, tw_up_n (tw_kF sp260.1 kx (by decide) hq264)] <;> exact th259
          have oq270 : h268 o = h o := by rw [eh268, tw_up_n (tw_kF sp260.1 ko (by decide) hq264)] <;> exact oq261
          have sp271 : tw_sp d τ h g τ h268 := by rw [eh268]; exact sp260.mk hq264
          have f272 : h268 q263 = some (.inr (13, [.int 0, .int 0, .int 0, .null])) := by rw [eh268]; exact tw_up_s
          refine tw_dup dX10_house_76 rfl ?_
          refine tw_bv (tw_callIN (M := mX10_house) (pc := 77) okX9_init dX10_house_77 w_1338 rfl [] [.ref q263] rfl rfl ⟨by decide, by decide⟩ (Nat.le_of_ble_eq_true rfl) (c2_X9_init d g τ h268 sp271.1 q263 z267 f272) 8 54 (Nat.le_of_ble_eq_true rfl) (Nat.le_of_ble_eq_true rfl)) (fun h274 q273 => ?_) (fun E h1 q => q.elim)
          obtain ⟨τ275, p276, q273s, f277, z278, k279, fr281⟩ := q273
          have th282 : tw_th (h274 x) = 0 := by rw [fr281 x (tw_nz kx z267 (by decide)) (fun z => by obtain ⟨e, y, -⟩ := sp271.1 x 36 kx (by decide); rw [z] at y; cases y)]; exact th269
          have oq283 : h274 o = h o := by rw [fr281 o (tw_nk ko z267 (by decide)) (tw_some sp271.1 ko (by decide))] <;> exact oq270
          have sp280 := sp271.trm n266 q273s
          have k284 : τ275 x = 36 := q273s.2.1.k kx (by decide)
          have k285 : τ275 o = 12 := q273s.2.1.k ko (by decide)
          have k286 : τ275 ds_5 = 34 := q273s.2.1.k k14 (by decide)
          have k287 : τ275 fr_6 = 34 := q273s.2.1.k k15 (by decide)
          have k288 : τ275 ca_7 = 31 := q273s.2.1.k k16 (by decide)
          have k289 : τ275 us_8 = 31 := q273s.2.1.k k17 (by decide)
          have k290 : τ275 wo_9 = 31 := q273s.2.1.k k18 (by decide)
          have k291 : τ275 cm_10 = 31 := q273s.2.1.k k19 (by decide)
          have k292 : τ275 lc_11 = 24 := q273s.2.1.k k20 (by decide)
          have k293 : τ275 lh_12 = 25 := q273s.2.1.k k21 (by decide)
          have k294 : τ275 ld_13 = 26 := q273s.2.1.k k22 (by decide)
          have k295 : τ275 ds_168 = 34 := q273s.2.1.k k177 (by decide)
          have k296 : τ275 fr_169 = 34 := q273s.2.1.k k178 (by decide)
          have k297 : τ275 ca_170 = 31 := q273s.2.1.k k179 (by decide)
          have k298 : τ275 us_171 = 31 := q273s.2.1.k k180 (by decide)
          have k299 : τ275 wo_172 = 31 := q273s.2.1.k k181 (by decide)
          have k300 : τ275 cm_173 = 31 := q273s.2.1.k k182 (by decide)
          have k301 : τ275 lc_174 = 24 := q273s.2.1.k k183 (by decide)
          have k302 : τ275 lh_175 = 25 := q273s.2.1.k k184 (by decide)
          have k303 : τ275 ld_176 = 26 := q273s.2.1.k k185 (by decide)
          have k304 : τ275 ds_213 = 34 := q273s.2.1.k k222 (by decide)
          have k305 : τ275 fr_214 = 34 := q273s.2.1.k k223 (by decide)
          have k306 : τ275 ca_215 = 31 := q273s.2.1.k k224 (by decide)
          have k307 : τ275 us_216 = 31 := q273s.2.1.k k225 (by decide)
          have k308 : τ275 wo_217 = 31 := q273s.2.1.k k226 (by decide)
          have k309 : τ275 cm_218 = 31 := q273s.2.1.k k227 (by decide)
          have k310 : τ275 lc_219 = 24 := q273s.2.1.k k228 (by decide)
          have k311 : τ275 lh_220 = 25 := q273s.2.1.k k229 (by decide)
          have k312 : τ275 ld_221 = 26 := q273s.2.1.k k230 (by decide)
          refine tw_astore [(4, .ref q263), (0, .ref x), (1, .int (nI j35)), (2, .int go), (3, .int si)] dX10_house_80 (by decide) rfl ?_
          refine tw_aload 0 dX10_house_82 rfl ?_
          refine tw_iload_n 2 dX10_house_84 rfl rfl ?_
          refine tw_put rfl in_13 tyX9 tyX9_ok nmX9 0 dX10_house_85 w_1342 rfl (by decide) f277 rfl rfl rfl rfl (Nat.le_of_ble_eq_true rfl) [.int (nI j35), .int (-1), .int (-1), .ref p276] rfl ?_
          obtain ⟨h313, eh313⟩ : ∃ z : tw_H, z = tw_up h274 q263 (.inr (13, [.int (nI j35), .int (-1), .int (-1), .ref p276])) := ⟨_, rfl⟩
          rw [← eh313]
          have th314 : tw_th (h313 x) = 0 := by rw [eh313, tw_up_n (tw_nk k284 z278 (by decide))] <;> exact th282
          have oq315 : h313 o = h o := by rw [eh313, tw_up_n (tw_nk k285 z278 (by decide))] <;> exact oq283
          have sp316 : tw_sp d τ h g τ275 h313 := by rw [eh313]; exact sp280.wl n266 z278
          have f317 : h313 q263 = some (.inr (13, [.int (nI j35), .int (-1), .int (-1), .ref p276])) := by rw [eh313]; exact tw_up_s
          refine tw_aload 0 dX10_house_88 rfl ?_
          refine tw_get (v := .ref p276) rfl in_13 3 dX10_house_90 w_1348 rfl (by decide) f317 rfl ?_
          refine tw_iconst (v := 0) dX10_house_93 (by decide) ?_
          refine tw_iload_n 3 dX10_house_94 rfl rfl ?_
          refine tw_i2l dX10_house_95 ?_
          refine tw_nml (fun v318 ev318 => ?_)
          obtain ⟨e319, f320, F321, rfl⟩ := sp316.1 p276 31 k279 (by decide)
          refine tw_last dX10_house_96 f320 (vp_in_nI (n := 0) (by decide) (by decide)) ?_
          obtain ⟨h322, eh322⟩ : ∃ z : tw_H, z = tw_up h313 p276 (.inl (d.2 1, 2, .inr (.inl (vp_updL F321 (0 : Int32).toNatClampNeg v318)))) := ⟨_, rfl⟩
          rw [← eh322]
          have th323 : tw_th (h322 x) = 0 := by rw [eh322, tw_up_n (tw_nk k284 k279 (by decide))] <;> exact th314
          have oq324 : h322 o = h o := by rw [eh322, tw_up_n (tw_nk k285 k279 (by decide))] <;> exact oq315
          have sp325 : tw_sp d τ h g τ275 h322 := by rw [eh322]; exact sp316.set k279 (by decide) ⟨_, rfl⟩
          have f326 : h322 q263 = some (.inr (13, [.int (nI j35), .int (-1), .int (-1), .ref p276])) := by rw [eh322, tw_up_n (fun q => absurd (z278) (by rw [q, k279]; decide))]; exact f317
          refine tw_aload 0 dX10_house_97 rfl ?_
          refine tw_get (v := .ref p276) rfl in_13 3 dX10_house_99 w_1348 rfl (by decide) f326 rfl ?_
          refine tw_iconst (v := 1) dX10_house_102 (by decide) ?_
          refine tw_iload_n 4 dX10_house_103 rfl rfl ?_
          refine tw_i2l dX10_house_104 ?_
          refine tw_nml (fun v327 ev327 => ?_)
          obtain ⟨e328, f329, F330, rfl⟩ := sp325.1 p276 31 k279 (by decide)
          refine tw_last dX10_house_105 f329 (vp_in_nI (n := 1) (by decide) (by decide)) ?_
          obtain ⟨h331, eh331⟩ : ∃ z : tw_H, z = tw_up h322 p276 (.inl (d.2 1, 2, .inr (.inl (vp_updL F330 (1 : Int32).toNatClampNeg v327)))) := ⟨_, rfl⟩
          rw [← eh331]
          have th332 : tw_th (h331 x) = 0 := by rw [eh331, tw_up_n (tw_nk k284 k279 (by decide))] <;> exact th323
          have oq333 : h331 o = h o := by rw [eh331, tw_up_n (tw_nk k285 k279 (by decide))] <;> exact oq324
          have sp334 : tw_sp d τ h g τ275 h331 := by rw [eh331]; exact sp325.set k279 (by decide) ⟨_, rfl⟩
          have f335 : h331 q263 = some (.inr (13, [.int (nI j35), .int (-1), .int (-1), .ref p276])) := by rw [eh331, tw_up_n (fun q => absurd (z278) (by rw [q, k279]; decide))]; exact f326
          refine tw_aload_n 1 dX10_house_106 rfl rfl ?_
          obtain ⟨e336, f337, th_338, td_339, ds_340, fr_341, ca_342, us_343, wo_344, cm_345, lc_346, lh_347, ld_348, rfl, k349, k350, k351, k352, k353, k354, k355, k356, k357, k358, k359, k360, k361, k362, k363, k364, k365, k366⟩ := sp334.1 x 36 k284 (by decide)
          refine tw_get (v := .ref cm_345) rfl in_14 8 dX10_house_107 w_1159 rfl (by decide) f337 rfl ?_
          refine tw_iconst (v := 0) dX10_house_110 (by decide) ?_
          refine tw_dup2 dX10_house_111 rfl rfl ?_
          obtain ⟨e367, f368, F369, rfl⟩ := sp334.1 cm_345 31 k354 (by decide)
          obtain ⟨v370, ev370⟩ : ∃ y : Int64, F369 (0 : Int32).toNatClampNeg = y := ⟨_, rfl⟩
          refine tw_lald (v := v370) dX10_house_112 f368 (vp_in_nI (n := 0) (by decide) (by decide)) ev370 ?_
          refine tw_iload_n 3 dX10_house_113 rfl rfl ?_
          refine tw_i2l dX10_house_114 ?_
          refine tw_nml (fun v371 ev371 => ?_)
          refine tw_ladd dX10_house_115 ?_
          refine tw_nml (fun v372 ev372 => ?_)
          refine tw_last dX10_house_116 f368 (vp_in_nI (n := 0) (by decide) (by decide)) ?_
          obtain ⟨h373, eh373⟩ : ∃ z : tw_H, z = tw_up h331 cm_345 (.inl (d.2 1, 2, .inr (.inl (vp_updL F369 (0 : Int32).toNatClampNeg v372)))) := ⟨_, rfl⟩
          rw [← eh373]
          have th374 : tw_th (h373 x) = 0 := by rw [eh373, tw_up_n (tw_nk k284 k354 (by decide))] <;> exact th332
          have oq375 : h373 o = h o := by rw [eh373, tw_up_n (tw_nk k285 k354 (by decide))] <;> exact oq333
          have sp376 : tw_sp d τ h g τ275 h373 := by rw [eh373]; exact sp334.set k354 (by decide) ⟨_, rfl⟩
          have f377 : h373 q263 = some (.inr (13, [.int (nI j35), .int (-1), .int (-1), .ref p276])) := by rw [eh373, tw_up_n (fun q => absurd (z278) (by rw [q, k354]; decide))]; exact f335
          refine tw_aload_n 1 dX10_house_117 rfl rfl ?_
          obtain ⟨e378, f379, th_380, td_381, ds_382, fr_383, ca_384, us_385, wo_386, cm_387, lc_388, lh_389, ld_390, rfl, k391, k392, k393, k394, k395, k396, k397, k398, k399, k400, k401, k402, k403, k404, k405, k406, k407, k408⟩ := sp376.1 x 36 k284 (by decide)
          refine tw_get (v := .ref cm_387) rfl in_14 8 dX10_house_118 w_1159 rfl (by decide) f379 rfl ?_
          refine tw_iconst (v := 1) dX10_house_121 (by decide) ?_
          refine tw_dup2 dX10_house_122 rfl rfl ?_
          obtain ⟨e409, f410, F411, rfl⟩ := sp376.1 cm_387 31 k396 (by decide)
          obtain ⟨v412, ev412⟩ : ∃ y : Int64, F411 (1 : Int32).toNatClampNeg = y := ⟨_, rfl⟩
          refine tw_lald (v := v412) dX10_house_123 f410 (vp_in_nI (n := 1) (by decide) (by decide)) ev412 ?_
          refine tw_iload_n 4 dX10_house_124 rfl rfl ?_
          refine tw_i2l dX10_house_125 ?_
          refine tw_nml (fun v413 ev413 => ?_)
          refine tw_ladd dX10_house_126 ?_
          refine tw_nml (fun v414 ev414 => ?_)
          refine tw_last dX10_house_127 f410 (vp_in_nI (n := 1) (by decide) (by decide)) ?_
          obtain ⟨h415, eh415⟩ : ∃ z : tw_H, z = tw_up h373 cm_387 (.inl (d.2 1, 2, .inr (.inl (vp_updL F411 (1 : Int32).toNatClampNeg v414)))) := ⟨_, rfl⟩
          rw [← eh415]
          have th416 : tw_th (h415 x) = 0 := by rw [eh415, tw_up_n (tw_nk k284 k396 (by decide))] <;> exact th374
          have oq417 : h415 o = h o := by rw [eh415, tw_up_n (tw_nk k285 k396 (by decide))] <;> exact oq375
          have sp418 : tw_sp d τ h g τ275 h415 := by rw [eh415]; exact sp376.set k396 (by decide) ⟨_, rfl⟩
          have f419 : h415 q263 = some (.inr (13, [.int (nI j35), .int (-1), .int (-1), .ref p276])) := by rw [eh415, tw_up_n (fun q => absurd (z278) (by rw [q, k396]; decide))]; exact f377
          refine tw_aload_n 1 dX10_house_128 rfl rfl ?_
          obtain ⟨e420, f421, th_422, td_423, ds_424, fr_425, ca_426, us_427, wo_428, cm_429, lc_430, lh_431, ld_432, rfl, k433, k434, k435, k436, k437, k438, k439, k440, k441, k442, k443, k444, k445, k446, k447, k448, k449, k450⟩ := sp418.1 x 36 k284 (by decide)
          refine tw_get (v := .ref lh_431) rfl in_14 10 dX10_house_129 w_1161 rfl (by decide) f421 rfl ?_
          refine tw_aload 0 dX10_house_132 rfl ?_
          obtain ⟨τ451, eτ451⟩ : ∃ z : tw_K, z = tw_ku τ275 q263 23 := ⟨_, rfl⟩
          have le452 : tw_le τ275 τ451 := by rw [eτ451]; exact tw_ku_le z278
          have k453 : τ451 x = 36 := le452.k k284 (by decide)
          have k454 : τ451 o = 12 := le452.k k285 (by decide)
          have k455 : τ451 ds_5 = 34 := le452.k k286 (by decide)
          have k456 : τ451 fr_6 = 34 := le452.k k287 (by decide)
          have k457 : τ451 ca_7 = 31 := le452.k k288 (by decide)
          have k458 : τ451 us_8 = 31 := le452.k k289 (by decide)
          have k459 : τ451 wo_9 = 31 := le452.k k290 (by decide)
          have k460 : τ451 cm_10 = 31 := le452.k k291 (by decide)
          have k461 : τ451 lc_11 = 24 := le452.k k292 (by decide)
          have k462 : τ451 lh_12 = 25 := le452.k k293 (by decide)
          have k463 : τ451 ld_13 = 26 := le452.k k294 (by decide)
          have k464 : τ451 ds_168 = 34 := le452.k k295 (by decide)
          have k465 : τ451 fr_169 = 34 := le452.k k296 (by decide)
          have k466 : τ451 ca_170 = 31 := le452.k k297 (by decide)
          have k467 : τ451 us_171 = 31 := le452.k k298 (by decide)
          have k468 : τ451 wo_172 = 31 := le452.k k299 (by decide)
          have k469 : τ451 cm_173 = 31 := le452.k k300 (by decide)
          have k470 : τ451 lc_174 = 24 := le452.k k301 (by decide)
          have k471 : τ451 lh_175 = 25 := le452.k k302 (by decide)
          have k472 : τ451 ld_176 = 26 := le452.k k303 (by decide)
          have k473 : τ451 ds_213 = 34 := le452.k k304 (by decide)
          have k474 : τ451 fr_214 = 34 := le452.k k305 (by decide)
          have k475 : τ451 ca_215 = 31 := le452.k k306 (by decide)
          have k476 : τ451 us_216 = 31 := le452.k k307 (by decide)
          have k477 : τ451 wo_217 = 31 := le452.k k308 (by decide)
          have k478 : τ451 cm_218 = 31 := le452.k k309 (by decide)
          have k479 : τ451 lc_219 = 24 := le452.k k310 (by decide)
          have k480 : τ451 lh_220 = 25 := le452.k k311 (by decide)
          have k481 : τ451 ld_221 = 26 := le452.k k312 (by decide)
          have k482 : τ451 p276 = 31 := le452.k k279 (by decide)
          have k483 : τ451 ds_340 = 34 := le452.k k349 (by decide)
          have k484 : τ451 fr_341 = 34 := le452.k k350 (by decide)
          have k485 : τ451 ca_342 = 31 := le452.k k351 (by decide)
          have k486 : τ451 us_343 = 31 := le452.k k352 (by decide)
          have k487 : τ451 wo_344 = 31 := le452.k k353 (by decide)
          have k488 : τ451 cm_345 = 31 := le452.k k354 (by decide)
          have k489 : τ451 lc_346 = 24 := le452.k k355 (by decide)
          have k490 : τ451 lh_347 = 25 := le452.k k356 (by decide)
          have k491 : τ451 ld_348 = 26 := le452.k k357 (by decide)
          have k492 : τ451 ds_382 = 34 := le452.k k391 (by decide)
          have k493 : τ451 fr_383 = 34 := le452.k k392 (by decide)
          have k494 : τ451 ca_384 = 31 := le452.k k393 (by decide)
          have k495 : τ451 us_385 = 31 := le452.k k394 (by decide)
          have k496 : τ451 wo_386 = 31 := le452.k k395 (by decide)
          have k497 : τ451 cm_387 = 31 := le452.k k396 (by decide)
          have k498 : τ451 lc_388 = 24 := le452.k k397 (by decide)
          have k499 : τ451 lh_389 = 25 := le452.k k398 (by decide)
          have k500 : τ451 ld_390 = 26 := le452.k k399 (by decide)
          have k501 : τ451 ds_424 = 34 := le452.k k433 (by decide)
          have k502 : τ451 fr_425 = 34 := le452.k k434 (by decide)
          have k503 : τ451 ca_426 = 31 := le452.k k435 (by decide)
          have k504 : τ451 us_427 = 31 := le452.k k436 (by decide)
          have k505 : τ451 wo_428 = 31 := le452.k k437 (by decide)
          have k506 : τ451 cm_429 = 31 := le452.k k438 (by decide)
          have k507 : τ451 lc_430 = 24 := le452.k k439 (by decide)
          have k508 : τ451 lh_431 = 25 := le452.k k440 (by decide)
          have k509 : τ451 ld_432 = 26 := le452.k k441 (by decide)
          have sp510 : tw_sp d τ h g τ451 h415 := by rw [eτ451]; exact sp418.ty n266 z278 f419 (by rw [← eτ451]; exact ⟨(nI j35), (-1), (-1), p276, rfl, k482, (Or.inr ⟨_, (by omega), rfl⟩), (Or.inl rfl)⟩)
          have k511 : τ451 q263 = 23 := by rw [eτ451]; exact tw_ku_s
          obtain ⟨e512, f513, ⟨el514, rfl, k515⟩, k516⟩ := sp510.1 lh_431 25 k508 (by decide)
          have hb9 : g.2 4 + 1 ≤ 6 := (tw_n4 c248 k443 (by decide))
          rcases k515 with k515p | k515p
          · obtain ⟨pa, pn, pf⟩ := k515p
            subst pa
            have f9 : h415 lh_431 = some (.inr (3, [.int (g.1 4), .ref (d.2 102), .int (nI 0)])) := by have z := f513; rw [pn] at z; exact z
            refine tw_bi (tw_callV (M := mX10_house) (pc := 134) okJx4a65c_add_9ea2d dX10_house_134 w_1238 rfl f513 [.ref q263] [] rfl rfl ⟨by decide, by decide⟩ (Nat.le_of_ble_eq_true rfl) (c_add_new d h415 lh_431 (g.1 4) f9 q263 13 _ _ rfl (ng_13) f419 (by decide)) 7 44 (Nat.le_of_ble_eq_true rfl) (Nat.le_of_ble_eq_true rfl)) (fun r9 h517 q9 => ?_) (fun E h1 q => q.elim)
            obtain ⟨r8, hr8, q1, q2, q3⟩ := q9
            have th518 : tw_th (h517 x) = 0 := by rw [q3 x (tw_nz k453 k508 (by decide)) (tw_thF sp510.1 k453 hr8)]; exact th416
            have oq519 : h517 o = h o := by rw [q3 o (tw_nk k454 k508 (by decide)) (tw_kF sp510.1 k454 (by decide) hr8)] <;> exact oq417
            obtain ⟨g9, τ9, ⟨hga, hg1⟩, sp9⟩ := tw_gadd25 (F := fun _ => none) sp510.1 k508 k511 hb9 (fun j hj => by rw [pn] at hj; exact absurd hj (Nat.not_lt_zero _)) (Or.inr ⟨hr8, pf⟩) (by rw [pn]; exact q1) (by rw [pn]; exact q2) q3
            have sp520 := sp510.tr sp9
            have k521 : τ9 x = 36 := sp9.2.1.k k453 (by decide)
            have k522 : τ9 o = 12 := sp9.2.1.k k454 (by decide)
            have k523 : τ9 ds_5 = 34 := sp9.2.1.k k455 (by decide)
            have k524 : τ9 fr_6 = 34 := sp9.2.1.k k456 (by decide)
            have k525 : τ9 ca_7 = 31 := sp9.2.1.k k457 (by decide)
            have k526 : τ9 us_8 = 31 := sp9.2.1.k k458 (by decide)
            have k527 : τ9 wo_9 = 31 := sp9.2.1.k k459 (by decide)
            have k528 : τ9 cm_10 = 31 := sp9.2.1.k k460 (by decide)
            have k529 : τ9 lc_11 = 24 := sp9.2.1.k k461 (by decide)
            have k530 : τ9 lh_12 = 25 := sp9.2.1.k k462 (by decide)
            have k531 : τ9 ld_13 = 26 := sp9.2.1.k k463 (by decide)
            have k532 : τ9 ds_168 = 34 := sp9.2.1.k k464 (by decide)
            have k533 : τ9 fr_169 = 34 := sp9.2.1.k k465 (by decide)
            have k534 : τ9 ca_170 = 31 := sp9.2.1.k k466 (by decide)
            have k535 : τ9 us_171 = 31 := sp9.2.1.k k467 (by decide)
            have k536 : τ9 wo_172 = 31 := sp9.2.1.k k468 (by decide)
            have k537 : τ9 cm_173 = 31 := sp9.2.1.k k469 (by decide)
            have k538 : τ9 lc_174 = 24 := sp9.2.1.k k470 (by decide)
            have k539 : τ9 lh_175 = 25 := sp9.2.1.k k471 (by decide)
            have k540 : τ9 ld_176 = 26 := sp9.2.1.k k472 (by decide)
            have k541 : τ9 ds_213 = 34 := sp9.2.1.k k473 (by decide)
            have k542 : τ9 fr_214 = 34 := sp9.2.1.k k474 (by decide)
            have k543 : τ9 ca_215 = 31 := sp9.2.1.k k475 (by decide)
            have k544 : τ9 us_216 = 31 := sp9.2.1.k k476 (by decide)
            have k545 : τ9 wo_217 = 31 := sp9.2.1.k k477 (by decide)
            have k546 : τ9 cm_218 = 31 := sp9.2.1.k k478 (by decide)
            have k547 : τ9 lc_219 = 24 := sp9.2.1.k k479 (by decide)
            have k548 : τ9 lh_220 = 25 := sp9.2.1.k k480 (by decide)
            have k549 : τ9 ld_221 = 26 := sp9.2.1.k k481 (by decide)
            have k550 : τ9 p276 = 31 := sp9.2.1.k k482 (by decide)
            have k551 : τ9 ds_340 = 34 := sp9.2.1.k k483 (by decide)
            have k552 : τ9 fr_341 = 34 := sp9.2.1.k k484 (by decide)
            have k553 : τ9 ca_342 = 31 := sp9.2.1.k k485 (by decide)
            have k554 : τ9 us_343 = 31 := sp9.2.1.k k486 (by decide)
            have k555 : τ9 wo_344 = 31 := sp9.2.1.k k487 (by decide)
            have k556 : τ9 cm_345 = 31 := sp9.2.1.k k488 (by decide)
            have k557 : τ9 lc_346 = 24 := sp9.2.1.k k489 (by decide)
            have k558 : τ9 lh_347 = 25 := sp9.2.1.k k490 (by decide)
            have k559 : τ9 ld_348 = 26 := sp9.2.1.k k491 (by decide)
            have k560 : τ9 ds_382 = 34 := sp9.2.1.k k492 (by decide)
            have k561 : τ9 fr_383 = 34 := sp9.2.1.k k493 (by decide)
            have k562 : τ9 ca_384 = 31 := sp9.2.1.k k494 (by decide)
            have k563 : τ9 us_385 = 31 := sp9.2.1.k k495 (by decide)
            have k564 : τ9 wo_386 = 31 := sp9.2.1.k k496 (by decide)
            have k565 : τ9 cm_387 = 31 := sp9.2.1.k k497 (by decide)
            have k566 : τ9 lc_388 = 24 := sp9.2.1.k k498 (by decide)
            have k567 : τ9 lh_389 = 25 := sp9.2.1.k k499 (by decide)
            have k568 : τ9 ld_390 = 26 := sp9.2.1.k k500 (by decide)
            have k569 : τ9 ds_424 = 34 := sp9.2.1.k k501 (by decide)
            have k570 : τ9 fr_425 = 34 := sp9.2.1.k k502 (by decide)
            have k571 : τ9 ca_426 = 31 := sp9.2.1.k k503 (by decide)
            have k572 : τ9 us_427 = 31 := sp9.2.1.k k504 (by decide)
            have k573 : τ9 wo_428 = 31 := sp9.2.1.k k505 (by decide)
            have k574 : τ9 cm_429 = 31 := sp9.2.1.k k506 (by decide)
            have k575 : τ9 lc_430 = 24 := sp9.2.1.k k507 (by decide)
            have k576 : τ9 lh_431 = 25 := sp9.2.1.k k508 (by decide)
            have k577 : τ9 ld_432 = 26 := sp9.2.1.k k509 (by decide)
            have k578 : τ9 q263 = 23 := sp9.2.1.k k511 (by decide)
            refine tw_pop dX10_house_137 rfl ?_
            refine tw_aload_n 1 dX10_house_138 rfl rfl ?_
            obtain ⟨e579, f580, th_581, td_582, ds_583, fr_584, ca_585, us_586, wo_587, cm_588, lc_589, lh_590, ld_591, rfl, k592, k593, k594, k595, k596, k597, k598, k599, k600, k601, k602, k603, k604, k605, k606, k607, k608, k609⟩ := sp520.1 x 36 k521 (by decide)
            refine tw_get (v := .ref lh_590) rfl in_14 10 dX10_house_139 w_1161 rfl (by decide) f580 rfl ?_
            obtain ⟨e610, f611, ⟨el612, rfl, k613⟩, k614⟩ := sp520.1 lh_590 25 k599 (by decide)
            refine tw_bi (tw_callV (M := mX10_house) (pc := 142) okJx4a65c_size_8abf5 dX10_house_142 w_1208 rfl f611 [] [] rfl rfl ⟨by decide, by decide⟩ (Nat.le_of_ble_eq_true rfl) (c25_size d g9 τ9 h517 sp520.1 lh_590 k599) 7 44 (Nat.le_of_ble_eq_true rfl) (Nat.le_of_ble_eq_true rfl)) (fun r617 h616 q615 => ?_) (fun E h1 q => q.elim)
            obtain ⟨q615e, q615r⟩ := q615
            rw [q615e, q615r]
            refine tw_iconst (v := 1) dX10_house_145 (by decide) ?_
            refine tw_isub dX10_house_146 ?_
            refine tw_nmi (fun v618 ev618 => ?_)
            exact tw_iret dX10_house_147 rfl (Or.inl ⟨_, rfl, _, _, sp520, oq519, Or.inr (Or.inr (Or.inr (⟨ix0, ⟨⟨q64a, q64b⟩, ⟨q114a, q114b⟩⟩, by omega, by rw [ev618, hg1.1]; exact nI_pred _, th518, hga, hg1⟩)))⟩)
          · obtain ⟨e9, fa9, ⟨F9, rfl, hc9, h49⟩, un9⟩ := sp510.1 el514 28 k515p (by decide)
            refine tw_bi (tw_callV (M := mX10_house) (pc := 134) okJx4a65c_add_9ea2d dX10_house_134 w_1238 rfl f513 [.ref q263] [] rfl rfl ⟨by decide, by decide⟩ (Nat.le_of_ble_eq_true rfl) (c_add_old d h415 lh_431 el514 (g.2 4) F9 (g.1 4) (by omega) f513 fa9 q263 13 _ _ rfl (ng_13) f419 (by decide)) 7 44 (Nat.le_of_ble_eq_true rfl) (Nat.le_of_ble_eq_true rfl)) (fun r9 h619 q9 => ?_) (fun E h1 q => q.elim)
            obtain ⟨q1, q2, q3⟩ := q9
            have th620 : tw_th (h619 x) = 0 := by rw [q3 x (tw_nz k453 k508 (by decide)) (tw_nz k453 k515p (by decide))]; exact th416
            have oq621 : h619 o = h o := by rw [q3 o (tw_nk k454 k508 (by decide)) (tw_nk k454 k515p (by decide))] <;> exact oq417
            obtain ⟨g9, τ9, ⟨hga, hg1⟩, sp9⟩ := tw_gadd25 sp510.1 k508 k511 hb9 h49 (Or.inl k515p) q1 q2 q3
            have sp622 := sp510.tr sp9
            have k623 : τ9 x = 36 := sp9.2.1.k k453 (by decide)
            have k624 : τ9 o = 12 := sp9.2.1.k k454 (by decide)
            have k625 : τ9 ds_5 = 34 := sp9.2.1.k k455 (by decide)
            have k626 : τ9 fr_6 = 34 := sp9.2.1.k k456 (by decide)
            have k627 : τ9 ca_7 = 31 := sp9.2.1.k k457 (by decide)
            have k628 : τ9 us_8 = 31 := sp9.2.1.k k458 (by decide)
            have k629 : τ9 wo_9 = 31 := sp9.2.1.k k459 (by decide)
            have k630 : τ9 cm_10 = 31 := sp9.2.1.k k460 (by decide)
            have k631 : τ9 lc_11 = 24 := sp9.2.1.k k461 (by decide)
            have k632 : τ9 lh_12 = 25 := sp9.2.1.k k462 (by decide)
            have k633 : τ9 ld_13 = 26 := sp9.2.1.k k463 (by decide)
            have k634 : τ9 ds_168 = 34 := sp9.2.1.k k464 (by decide)
            have k635 : τ9 fr_169 = 34 := sp9.2.1.k k465 (by decide)
            have k636 : τ9 ca_170 = 31 := sp9.2.1.k k466 (by decide)
            have k637 : τ9 us_171 = 31 := sp9.2.1.k k467 (by decide)
            have k638 : τ9 wo_172 = 31 := sp9.2.1.k k468 (by decide)
            have k639 : τ9 cm_173 = 31 := sp9.2.1.k k469 (by decide)
            have k640 : τ9 lc_174 = 24 := sp9.2.1.k k470 (by decide)
            have k641 : τ9 lh_175 = 25 := sp9.2.1.k k471 (by decide)
            have k642 : τ9 ld_176 = 26 := sp9.2.1.k k472 (by decide)
            have k643 : τ9 ds_213 = 34 := sp9.2.1.k k473 (by decide)
            have k644 : τ9 fr_214 = 34 := sp9.2.1.k k474 (by decide)
            have k645 : τ9 ca_215 = 31 := sp9.2.1.k k475 (by decide)
            have k646 : τ9 us_216 = 31 := sp9.2.1.k k476 (by decide)
            have k647 : τ9 wo_217 = 31 := sp9.2.1.k k477 (by decide)
            have k648 : τ9 cm_218 = 31 := sp9.2.1.k k478 (by decide)
            have k649 : τ9 lc_219 = 24 := sp9.2.1.k k479 (by decide)
            have k650 : τ9 lh_220 = 25 := sp9.2.1.k k480 (by decide)
            have k651 : τ9 ld_221 = 26 := sp9.2.1.k k481 (by decide)
            have k652 : τ9 p276 = 31 := sp9.2.1.k k482 (by decide)
            have k653 : τ9 ds_340 = 34 := sp9.2.1.k k483 (by decide)
            have k654 : τ9 fr_341 = 34 := sp9.2.1.k k484 (by decide)
            have k655 : τ9 ca_342 = 31 := sp9.2.1.k k485 (by decide)
            have k656 : τ9 us_343 = 31 := sp9.2.1.k k486 (by decide)
            have k657 : τ9 wo_344 = 31 := sp9.2.1.k k487 (by decide)
            have k658 : τ9 cm_345 = 31 := sp9.2.1.k k488 (by decide)
            have k659 : τ9 lc_346 = 24 := sp9.2.1.k k489 (by decide)
            have k660 : τ9 lh_347 = 25 := sp9.2.1.k k490 (by decide)
            have k661 : τ9 ld_348 = 26 := sp9.2.1.k k491 (by decide)
            have k662 : τ9 ds_382 = 34 := sp9.2.1.k k492 (by decide)
            have k663 : τ9 fr_383 = 34 := sp9.2.1.k k493 (by decide)
            have k664 : τ9 ca_384 = 31 := sp9.2.1.k k494 (by decide)
            have k665 : τ9 us_385 = 31 := sp9.2.1.k k495 (by decide)
            have k666 : τ9 wo_386 = 31 := sp9.2.1.k k496 (by decide)
            have k667 : τ9 cm_387 = 31 := sp9.2.1.k k497 (by decide)
            have k668 : τ9 lc_388 = 24 := sp9.2.1.k k498 (by decide)
            have k669 : τ9 lh_389 = 25 := sp9.2.1.k k499 (by decide)
            have k670 : τ9 ld_390 = 26 := sp9.2.1.k k500 (by decide)
            have k671 : τ9 ds_424 = 34 := sp9.2.1.k k501 (by decide)
            have k672 : τ9 fr_425 = 34 := sp9.2.1.k k502 (by decide)
            have k673 : τ9 ca_426 = 31 := sp9.2.1.k k503 (by decide)
            have k674 : τ9 us_427 = 31 := sp9.2.1.k k504 (by decide)
            have k675 : τ9 wo_428 = 31 := sp9.2.1.k k505 (by decide)
            have k676 : τ9 cm_429 = 31 := sp9.2.1.k k506 (by decide)
            have k677 : τ9 lc_430 = 24 := sp9.2.1.k k507 (by decide)
            have k678 : τ9 lh_431 = 25 := sp9.2.1.k k508 (by decide)
            have k679 : τ9 ld_432 = 26 := sp9.2.1.k k509 (by decide)
            have k680 : τ9 q263 = 23 := sp9.2.1.k k511 (by decide)
            refine tw_pop dX10_house_137 rfl ?_
            refine tw_aload_n 1 dX10_house_138 rfl rfl ?_
            obtain ⟨e681, f682, th_683, td_684, ds_685, fr_686, ca_687, us_688, wo_689, cm_690, lc_691, lh_692, ld_693, rfl, k694, k695, k696, k697, k698, k699, k700, k701, k702, k703, k704, k705, k706, k707, k708, k709, k710, k711⟩ := sp622.1 x 36 k623 (by decide)
            refine tw_get (v := .ref lh_692) rfl in_14 10 dX10_house_139 w_1161 rfl (by decide) f682 rfl ?_
            obtain ⟨e712, f713, ⟨el714, rfl, k715⟩, k716⟩ := sp622.1 lh_692 25 k701 (by decide)
            refine tw_bi (tw_callV (M := mX10_house) (pc := 142) okJx4a65c_size_8abf5 dX10_house_142 w_1208 rfl f713 [] [] rfl rfl ⟨by decide, by decide⟩ (Nat.le_of_ble_eq_true rfl) (c25_size d g9 τ9 h619 sp622.1 lh_692 k701) 7 44 (Nat.le_of_ble_eq_true rfl) (Nat.le_of_ble_eq_true rfl)) (fun r719 h718 q717 => ?_) (fun E h1 q => q.elim)
            obtain ⟨q717e, q717r⟩ := q717
            rw [q717e, q717r]
            refine tw_iconst (v := 1) dX10_house_145 (by decide) ?_
            refine tw_isub dX10_house_146 ?_
            refine tw_nmi (fun v720 ev720 => ?_)
            exact tw_iret dX10_house_147 rfl (Or.inl ⟨_, rfl, _, _, sp622, oq621, Or.inr (Or.inr (Or.inr (⟨ix0, ⟨⟨q64a, q64b⟩, ⟨q114a, q114b⟩⟩, by omega, by rw [ev720, hg1.1]; exact nI_pred _, th620, hga, hg1⟩)))⟩)
        · refine tw_iconst (v := 1) dX10_house_59 (by decide) ?_
          refine tw_goto 64 dX10_house_60 (by decide) ?_
          refine tw_iconst (v := 3) dX10_house_64 (by decide) ?_
          refine tw_bi (tw_callV (M := mX10_house) (pc := 65) okX10_refuse dX10_house_65 w_1204 rfl f210 [.int 1, .int 3] [] rfl rfl ⟨by decide, by decide⟩ (Nat.le_of_ble_eq_true rfl) (c_X10_refuse d g τ h196 sp206.1 x kx 1 3 (by decide)) 10 60 (Nat.le_of_ble_eq_true rfl) (Nat.le_of_ble_eq_true rfl)) (fun r723 h722 q721 => ?_) (fun E h1 q => q.elim)
          obtain ⟨e724, he725, hs726, hr727, hc728⟩ := q721
          obtain ⟨rz729, tz730⟩ := (hc728 th205).2 rfl
          have th731 : tw_th (h722 x) = 3 := by rw [he725, tw_up_s]; exact tz730
          have sp732 : tw_sp d τ h g τ h722 := by rw [he725]; exact sp206.set kx (by decide) hs726
          rw [rz729]
          have oq733 : h722 o = h o := by rw [he725, tw_up_n (tw_nk ko kx (by decide))] <;> exact oq207
          refine tw_if_eq 73 dX10_house_68 (by decide) (fun c734 => absurd c734 (by decide)) (fun _ => ?_)
          refine tw_iconst (v := 0) dX10_house_71 (by decide) ?_
          exact tw_iret dX10_house_72 rfl (Or.inl ⟨_, rfl, _, _, sp732, oq733, Or.inr (Or.inr (Or.inl ⟨ix0, ⟨⟨q64a, q64b⟩, ⟨q114a, q114b⟩⟩, fun z => absurd (tw_nIj (a := g.2 4) (b := 6) c248 (by omega) (by decide)) (by omega), th731, rfl⟩))⟩)

set_option maxHeartbeats 4000000 in
set_option maxRecDepth 100000 in
theorem c2_X10_owe (d : tw_D) (g : tw_G) (τ : tw_K) (h : tw_H) (hw : tw_wt d g τ h) (x : Nat) (kx : τ x = 36) (a : Int32) (b : Int32) (v : Int32) (dy : Int32) (o : Nat) (ko : τ o = 12) : tw_Ct d mX10_owe 10 60 [.ref x, .int a, .int b, .int v, .int dy] h (tw_qi (fun r9 h1 => ∃ g1 τ1, tw_sp d τ h g1 τ1 h1 ∧ h1 o = h o ∧ ((¬ (tw_ix (g.2 4) a ∧ tw_ix (g.2 4) b) ∧ tw_th (h1 x) = 1 ∧ g1 = g) ∨ ((tw_ix (g.2 4) a ∧ tw_ix (g.2 4) b) ∧ ¬ tw_RO a b v dy ∧ tw_th (h1 x) = 2 ∧ g1 = g) ∨ ((tw_ix (g.2 4) a ∧ tw_ix (g.2 4) b) ∧ tw_RO a b v dy ∧ ¬ g.2 5 < 10 ∧ tw_th (h1 x) = 3 ∧ g1 = g) ∨ ((tw_ix (g.2 4) a ∧ tw_ix (g.2 4) b) ∧ tw_RO a b v dy ∧ g.2 5 < 10 ∧ r9 = nI (g.2 5) ∧ tw_th (h1 x) = 0 ∧ tw_gk 5 g g1))) tw_nx) := by
  refine tw_of (by decide +kernel) (Nat.le_of_ble_eq_true rfl) ?_
  show tw_W d mX10_owe _ 0 [(0, .ref x), (1, .int a), (2, .int b), (3, .int v), (4, .int dy)] [] h 10 60
  have sp0 := tw_sp.rf hw
  have oq0 : h o = h o := rfl
  refine tw_aload_n 0 dX10_owe_0 rfl rfl ?_
  refine tw_aload_n 0 dX10_owe_1 rfl rfl ?_
  refine tw_iload_n 1 dX10_owe_2 rfl rfl ?_
  obtain ⟨e1, f2, th_3, td_4, ds_5, fr_6, ca_7, us_8, wo_9, cm_10, lc_11, lh_12, ld_13, rfl, k14, k15, k16, k17, k18, k19, k20, k21, k22, k23, k24, k25, k26, k27, k28, k29, k30, k31⟩ := sp0.1 x 36 kx (by decide)
  refine tw_bi (tw_callV (M := mX10_owe) (pc := 3) okX10_isNoHouse dX10_owe_3 w_1362 rfl f2 [.int a] [.ref x] rfl rfl ⟨by decide, by decide⟩ (Nat.le_of_ble_eq_true rfl) (c2_X10_isNoHouse d g τ h sp0.1 x kx a) 10 60 (Nat.le_of_ble_eq_true rfl) (Nat.le_of_ble_eq_true rfl)) (fun r34 h33 q32 => ?_) (fun E h1 q => q.elim)
  obtain ⟨q32e, q32d⟩ := q32
  rw [q32e]
  rcases q32d with ⟨q32r, q32n⟩ | ⟨q32r, q32i⟩
  · rw [q32r]
    refine tw_if_ne 17 dX10_owe_6 (by decide) (fun _ => ?_) (fun c36 => absurd c36 (by decide))
    refine tw_iconst (v := 1) dX10_owe_17 (by decide) ?_
    refine tw_goto 22 dX10_owe_18 (by decide) ?_
    refine tw_iconst (v := 1) dX10_owe_22 (by decide) ?_
    refine tw_bi (tw_callV (M := mX10_owe) (pc := 23) okX10_start dX10_owe_23 w_1200 rfl f2 [.int 1, .int 1] [] rfl rfl ⟨by decide, by decide⟩ (Nat.le_of_ble_eq_true rfl) (c_X10_start d g τ h sp0.1 x kx 1 1 (by decide)) 10 60 (Nat.le_of_ble_eq_true rfl) (Nat.le_of_ble_eq_true rfl)) (fun r39 h38 q37 => ?_) (fun E h1 q => q.elim)
    obtain ⟨e40, he41, hs42, hr43, hc44⟩ := q37
    obtain ⟨rz45, tz46⟩ := hc44.2 rfl
    have th47 : tw_th (h38 x) = 1 := by rw [he41, tw_up_s]; exact tz46
    have sp48 : tw_sp d τ h g τ h38 := by rw [he41]; exact sp0.set kx (by decide) hs42
    rw [rz45]
    have oq49 : h38 o = h o := by rw [he41, tw_up_n (tw_nk ko kx (by decide))] <;> exact oq0
    refine tw_if_ne 95 dX10_owe_26 (by decide) (fun _ => ?_) (fun c50 => absurd c50 (by decide))
    refine tw_iconst (v := 0) dX10_owe_95 (by decide) ?_
    exact tw_iret dX10_owe_96 rfl (Or.inl ⟨_, rfl, _, _, sp48, oq49, Or.inl ⟨fun z => q32n z.1, th47, rfl⟩⟩)
  · rw [q32r]
    have q32x := q32i
    obtain ⟨j35, q32j, q32k⟩ := q32i
    subst q32k
    refine tw_if_ne 17 dX10_owe_6 (by decide) (fun c51 => absurd (by decide) c51) (fun _ => ?_)
    refine tw_aload_n 0 dX10_owe_9 rfl rfl ?_
    refine tw_iload_n 2 dX10_owe_10 rfl rfl ?_
    refine tw_bi (tw_callV (M := mX10_owe) (pc := 11) okX10_isNoHouse dX10_owe_11 w_1362 rfl f2 [.int b] [.ref x] rfl rfl ⟨by decide, by decide⟩ (Nat.le_of_ble_eq_true rfl) (c2_X10_isNoHouse d g τ h sp0.1 x kx b) 10 60 (Nat.le_of_ble_eq_true rfl) (Nat.le_of_ble_eq_true rfl)) (fun r54 h53 q52 => ?_) (fun E h1 q => q.elim)
    obtain ⟨q52e, q52d⟩ := q52
    rw [q52e]
    rcases q52d with ⟨q52r, q52n⟩ | ⟨q52r, q52i⟩
    · rw [q52r]
      refine tw_if_eq 21 dX10_owe_14 (by decide) (fun c56 => absurd c56 (by decide)) (fun _ => ?_)
      refine tw_iconst (v := 1) dX10_owe_17 (by decide) ?_
      refine tw_goto 22 dX10_owe_18 (by decide) ?_
      refine tw_iconst (v := 1) dX10_owe_22 (by decide) ?_
      refine tw_bi (tw_callV (M := mX10_owe) (pc := 23) okX10_start dX10_owe_23 w_1200 rfl f2 [.int 1, .int 1] [] rfl rfl ⟨by decide, by decide⟩ (Nat.le_of_ble_eq_true rfl) (c_X10_start d g τ h sp0.1 x kx 1 1 (by decide)) 10 60 (Nat.le_of_ble_eq_true rfl) (Nat.le_of_ble_eq_true rfl)) (fun r59 h58 q57 => ?_) (fun E h1 q => q.elim)
      obtain ⟨e60, he61, hs62, hr63, hc64⟩ := q57
      obtain ⟨rz65, tz66⟩ := hc64.2 rfl
      have th67 : tw_th (h58 x) = 1 := by rw [he61, tw_up_s]; exact tz66
      have sp68 : tw_sp d τ h g τ h58 := by rw [he61]; exact sp0.set kx (by decide) hs62
      rw [rz65]
      have oq69 : h58 o = h o := by rw [he61, tw_up_n (tw_nk ko kx (by decide))] <;> exact oq0
      refine tw_if_ne 95 dX10_owe_26 (by decide) (fun _ => ?_) (fun c70 => absurd c70 (by decide))
      refine tw_iconst (v := 0) dX10_owe_95 (by decide) ?_
      exact tw_iret dX10_owe_96 rfl (Or.inl ⟨_, rfl, _, _, sp68, oq69, Or.inl ⟨fun z => q52n z.2, th67, rfl⟩⟩)
    · rw [q52r]
      have q52x := q52i
      obtain ⟨j55, q52j, q52k⟩ := q52i
      subst q52k
      have ix0 := And.intro q32x q52x
      refine tw_if_eq 21 dX10_owe_14 (by decide) (fun _ => ?_) (fun c71 => absurd (by decide) c71)
      refine tw_iconst (v := 0) dX10_owe_21 (by decide) ?_
      refine tw_iconst (v := 1) dX10_owe_22 (by decide) ?_
      refine tw_bi (tw_callV (M := mX10_owe) (pc := 23) okX10_start dX10_owe_23 w_1200 rfl f2 [.int 0, .int 1] [] rfl rfl ⟨by decide, by decide⟩ (Nat.le_of_ble_eq_true rfl) (c_X10_start d g τ h sp0.1 x kx 0 1 (by decide)) 10 60 (Nat.le_of_ble_eq_true rfl) (Nat.le_of_ble_eq_true rfl)) (fun r74 h73 q72 => ?_) (fun E h1 q => q.elim)
      obtain ⟨e75, he76, hs77, hr78, hc79⟩ := q72
      obtain ⟨rz80, tz81⟩ := hc79.1 rfl
      have th82 : tw_th (h73 x) = 0 := by rw [he76, tw_up_s]; exact tz81
      have sp83 : tw_sp d τ h g τ h73 := by rw [he76]; exact sp0.set kx (by decide) hs77
      rw [rz80]
      have oq84 : h73 o = h o := by rw [he76, tw_up_n (tw_nk ko kx (by decide))] <;> exact oq0
      refine tw_if_ne 95 dX10_owe_26 (by decide) (fun c85 => absurd (by decide) c85) (fun _ => ?_)
      refine tw_aload_n 0 dX10_owe_29 rfl rfl ?_
      refine tw_iload_n 1 dX10_owe_30 rfl rfl ?_
      refine tw_iload_n 2 dX10_owe_31 rfl rfl ?_
      refine tw_icmp_eq 58 dX10_owe_32 (by decide) (fun c86 => ?_) (fun c86 => ?_)
      · refine tw_iconst (v := 1) dX10_owe_58 (by decide) ?_
        refine tw_goto 63 dX10_owe_59 (by decide) ?_
        refine tw_iconst (v := 2) dX10_owe_63 (by decide) ?_
        obtain ⟨e87, f88, th_89, td_90, ds_91, fr_92, ca_93, us_94, wo_95, cm_96, lc_97, lh_98, ld_99, rfl, k100, k101, k102, k103, k104, k105, k106, k107, k108, k109, k110, k111, k112, k113, k114, k115, k116, k117⟩ := sp83.1 x 36 kx (by decide)
        refine tw_bi (tw_callV (M := mX10_owe) (pc := 64) okX10_refuse dX10_owe_64 w_1204 rfl f88 [.int 1, .int 2] [] rfl rfl ⟨by decide, by decide⟩ (Nat.le_of_ble_eq_true rfl) (c_X10_refuse d g τ h73 sp83.1 x kx 1 2 (by decide)) 10 60 (Nat.le_of_ble_eq_true rfl) (Nat.le_of_ble_eq_true rfl)) (fun r120 h119 q118 => ?_) (fun E h1 q => q.elim)
        obtain ⟨e121, he122, hs123, hr124, hc125⟩ := q118
        obtain ⟨rz126, tz127⟩ := (hc125 th82).2 rfl
        have th128 : tw_th (h119 x) = 2 := by rw [he122, tw_up_s]; exact tz127
        have sp129 : tw_sp d τ h g τ h119 := by rw [he122]; exact sp83.set kx (by decide) hs123
        rw [rz126]
        have oq130 : h119 o = h o := by rw [he122, tw_up_n (tw_nk ko kx (by decide))] <;> exact oq84
        refine tw_if_ne 95 dX10_owe_67 (by decide) (fun _ => ?_) (fun c131 => absurd c131 (by decide))
        refine tw_iconst (v := 0) dX10_owe_95 (by decide) ?_
        exact tw_iret dX10_owe_96 rfl (Or.inl ⟨_, rfl, _, _, sp129, oq130, Or.inr (Or.inl ⟨ix0, fun z => z.1 c86, th128, rfl⟩)⟩)
      · refine tw_iload_n 3 dX10_owe_35 rfl rfl ?_
        refine tw_iconst (v := 1) dX10_owe_36 (by decide) ?_
        refine tw_sipush (v := 9999) dX10_owe_37 (by decide) ?_
        refine tw_bi (tw_callS (M := mX10_owe) (pc := 40) okX10_isIn dX10_owe_40 w_1196 [.int v, .int 1, .int 9999] [.ref x] rfl rfl ⟨by decide, by decide⟩ (Nat.le_of_ble_eq_true rfl) (c_X10_isIn d g τ h73 sp83.1 v 1 9999) 10 60 (Nat.le_of_ble_eq_true rfl) (Nat.le_of_ble_eq_true rfl)) (fun r134 h133 q132 => ?_) (fun E h1 q => q.elim)
        obtain ⟨q132e, q132d⟩ := q132
        rw [q132e]
        rcases q132d with ⟨q132r, q132n⟩ | ⟨q132r, q132a, q132b⟩
        · rw [q132r]
          refine tw_if_eq 58 dX10_owe_43 (by decide) (fun _ => ?_) (fun c135 => absurd (by decide) c135)
          refine tw_iconst (v := 1) dX10_owe_58 (by decide) ?_
          refine tw_goto 63 dX10_owe_59 (by decide) ?_
          refine tw_iconst (v := 2) dX10_owe_63 (by decide) ?_
          obtain ⟨e136, f137, th_138, td_139, ds_140, fr_141, ca_142, us_143, wo_144, cm_145, lc_146, lh_147, ld_148, rfl, k149, k150, k151, k152, k153, k154, k155, k156, k157, k158, k159, k160, k161, k162, k163, k164, k165, k166⟩ := sp83.1 x 36 kx (by decide)
          refine tw_bi (tw_callV (M := mX10_owe) (pc := 64) okX10_refuse dX10_owe_64 w_1204 rfl f137 [.int 1, .int 2] [] rfl rfl ⟨by decide, by decide⟩ (Nat.le_of_ble_eq_true rfl) (c_X10_refuse d g τ h73 sp83.1 x kx 1 2 (by decide)) 10 60 (Nat.le_of_ble_eq_true rfl) (Nat.le_of_ble_eq_true rfl)) (fun r169 h168 q167 => ?_) (fun E h1 q => q.elim)
          obtain ⟨e170, he171, hs172, hr173, hc174⟩ := q167
          obtain ⟨rz175, tz176⟩ := (hc174 th82).2 rfl
          have th177 : tw_th (h168 x) = 2 := by rw [he171, tw_up_s]; exact tz176
          have sp178 : tw_sp d τ h g τ h168 := by rw [he171]; exact sp83.set kx (by decide) hs172
          rw [rz175]
          have oq179 : h168 o = h o := by rw [he171, tw_up_n (tw_nk ko kx (by decide))] <;> exact oq84
          refine tw_if_ne 95 dX10_owe_67 (by decide) (fun _ => ?_) (fun c180 => absurd c180 (by decide))
          refine tw_iconst (v := 0) dX10_owe_95 (by decide) ?_
          exact tw_iret dX10_owe_96 rfl (Or.inl ⟨_, rfl, _, _, sp178, oq179, Or.inr (Or.inl ⟨ix0, fun z => q132n z.2.1, th177, rfl⟩)⟩)
        · rw [q132r]
          refine tw_if_eq 58 dX10_owe_43 (by decide) (fun c181 => absurd c181 (by decide)) (fun _ => ?_)
          refine tw_iload 4 dX10_owe_46 rfl ?_
          refine tw_iconst (v := 0) dX10_owe_48 (by decide) ?_
          refine tw_sipush (v := 1000) dX10_owe_49 (by decide) ?_
          refine tw_bi (tw_callS (M := mX10_owe) (pc := 52) okX10_isIn dX10_owe_52 w_1196 [.int dy, .int 0, .int 1000] [.ref x] rfl rfl ⟨by decide, by decide⟩ (Nat.le_of_ble_eq_true rfl) (c_X10_isIn d g τ h73 sp83.1 dy 0 1000) 10 60 (Nat.le_of_ble_eq_true rfl) (Nat.le_of_ble_eq_true rfl)) (fun r184 h183 q182 => ?_) (fun E h1 q => q.elim)
          obtain ⟨q182e, q182d⟩ := q182
          rw [q182e]
          rcases q182d with ⟨q182r, q182n⟩ | ⟨q182r, q182a, q182b⟩
          · rw [q182r]
            refine tw_if_ne 62 dX10_owe_55 (by decide) (fun c185 => absurd (by decide) c185) (fun _ => ?_)
            refine tw_iconst (v := 1) dX10_owe_58 (by decide) ?_
            refine tw_goto 63 dX10_owe_59 (by decide) ?_
            refine tw_iconst (v := 2) dX10_owe_63 (by decide) ?_
            obtain ⟨e186, f187, th_188, td_189, ds_190, fr_191, ca_192, us_193, wo_194, cm_195, lc_196, lh_197, ld_198, rfl, k199, k200, k201, k202, k203, k204, k205, k206, k207, k208, k209, k210, k211, k212, k213, k214, k215, k216⟩ := sp83.1 x 36 kx (by decide)
            refine tw_bi (tw_callV (M := mX10_owe) (pc := 64) okX10_refuse dX10_owe_64 w_1204 rfl f187 [.int 1, .int 2] [] rfl rfl ⟨by decide, by decide⟩ (Nat.le_of_ble_eq_true rfl) (c_X10_refuse d g τ h73 sp83.1 x kx 1 2 (by decide)) 10 60 (Nat.le_of_ble_eq_true rfl) (Nat.le_of_ble_eq_true rfl)) (fun r219 h218 q217 => ?_) (fun E h1 q => q.elim)
            obtain ⟨e220, he221, hs222, hr223, hc224⟩ := q217
            obtain ⟨rz225, tz226⟩ := (hc224 th82).2 rfl
            have th227 : tw_th (h218 x) = 2 := by rw [he221, tw_up_s]; exact tz226
            have sp228 : tw_sp d τ h g τ h218 := by rw [he221]; exact sp83.set kx (by decide) hs222
            rw [rz225]
            have oq229 : h218 o = h o := by rw [he221, tw_up_n (tw_nk ko kx (by decide))] <;> exact oq84
            refine tw_if_ne 95 dX10_owe_67 (by decide) (fun _ => ?_) (fun c230 => absurd c230 (by decide))
            refine tw_iconst (v := 0) dX10_owe_95 (by decide) ?_
            exact tw_iret dX10_owe_96 rfl (Or.inl ⟨_, rfl, _, _, sp228, oq229, Or.inr (Or.inl ⟨ix0, fun z => q182n z.2.2, th227, rfl⟩)⟩)
          · rw [q182r]
            refine tw_if_ne 62 dX10_owe_55 (by decide) (fun _ => ?_) (fun c231 => absurd c231 (by decide))
            refine tw_iconst (v := 0) dX10_owe_62 (by decide) ?_
            refine tw_iconst (v := 2) dX10_owe_63 (by decide) ?_
            obtain ⟨e232, f233, th_234, td_235, ds_236, fr_237, ca_238, us_239, wo_240, cm_241, lc_242, lh_243, ld_244, rfl, k245, k246, k247, k248, k249, k250, k251, k252, k253, k254, k255, k256, k257, k258, k259, k260, k261, k262⟩ := sp83.1 x 36 kx (by decide)
            refine tw_bi (tw_callV (M := mX10_owe) (pc := 64) okX10_refuse dX10_owe_64 w_1204 rfl f233 [.int 0, .int 2] [] rfl rfl ⟨by decide, by decide⟩ (Nat.le_of_ble_eq_true rfl) (c_X10_refuse d g τ h73 sp83.1 x kx 0 2 (by decide)) 10 60 (Nat.le_of_ble_eq_true rfl) (Nat.le_of_ble_eq_true rfl)) (fun r265 h264 q263 => ?_) (fun E h1 q => q.elim)
            obtain ⟨e266, he267, hs268, hr269, hc270⟩ := q263
            obtain ⟨rz271, tz272⟩ := (hc270 th82).1 rfl
            have th273 : tw_th (h264 x) = 0 := by rw [he267, tw_up_s]; exact tz272
            have sp274 : tw_sp d τ h g τ h264 := by rw [he267]; exact sp83.set kx (by decide) hs268
            rw [rz271]
            have oq275 : h264 o = h o := by rw [he267, tw_up_n (tw_nk ko kx (by decide))] <;> exact oq84
            refine tw_if_ne 95 dX10_owe_67 (by decide) (fun c276 => absurd (by decide) c276) (fun _ => ?_)
            refine tw_aload_n 0 dX10_owe_70 rfl rfl ?_
            refine tw_aload_n 0 dX10_owe_71 rfl rfl ?_
            obtain ⟨e277, f278, th_279, td_280, ds_281, fr_282, ca_283, us_284, wo_285, cm_286, lc_287, lh_288, ld_289, rfl, k290, k291, k292, k293, k294, k295, k296, k297, k298, k299, k300, k301, k302, k303, k304, k305, k306, k307⟩ := sp274.1 x 36 kx (by decide)
            refine tw_get (v := .ref ld_289) rfl in_14 11 dX10_owe_72 w_1162 rfl (by decide) f278 rfl ?_
            obtain ⟨e308, f309, ⟨el310, rfl, k311⟩, k312⟩ := sp274.1 ld_289 26 k298 (by decide)
            refine tw_bi (tw_callV (M := mX10_owe) (pc := 75) okJx4a65c_size_8abf5 dX10_owe_75 w_1208 rfl f309 [] [.ref x] rfl rfl ⟨by decide, by decide⟩ (Nat.le_of_ble_eq_true rfl) (c26_size d g τ h264 sp274.1 ld_289 k298) 10 60 (Nat.le_of_ble_eq_true rfl) (Nat.le_of_ble_eq_true rfl)) (fun r315 h314 q313 => ?_) (fun E h1 q => q.elim)
            obtain ⟨q313e, q313r⟩ := q313
            rw [q313e, q313r]
            refine tw_bipush (v := 10) dX10_owe_78 (by decide) ?_
            refine tw_icmp_ne 87 dX10_owe_80 (by decide) (fun c316 => ?_) (fun c316 => ?_)
            · refine tw_iconst (v := 0) dX10_owe_87 (by decide) ?_
              refine tw_iconst (v := 3) dX10_owe_88 (by decide) ?_
              refine tw_bi (tw_callV (M := mX10_owe) (pc := 89) okX10_refuse dX10_owe_89 w_1204 rfl f278 [.int 0, .int 3] [] rfl rfl ⟨by decide, by decide⟩ (Nat.le_of_ble_eq_true rfl) (c_X10_refuse d g τ h264 sp274.1 x kx 0 3 (by decide)) 10 60 (Nat.le_of_ble_eq_true rfl) (Nat.le_of_ble_eq_true rfl)) (fun r319 h318 q317 => ?_) (fun E h1 q => q.elim)
              obtain ⟨e320, he321, hs322, hr323, hc324⟩ := q317
              obtain ⟨rz325, tz326⟩ := (hc324 th273).1 rfl
              have th327 : tw_th (h318 x) = 0 := by rw [he321, tw_up_s]; exact tz326
              have sp328 : tw_sp d τ h g τ h318 := by rw [he321]; exact sp274.set kx (by decide) hs322
              rw [rz325]
              have oq329 : h318 o = h o := by rw [he321, tw_up_n (tw_nk ko kx (by decide))] <;> exact oq275
              refine tw_if_eq 97 dX10_owe_92 (by decide) (fun _ => ?_) (fun c330 => absurd (by decide) c330)
              refine tw_new (ci := 12) rfl in_12 tyX8 tyX8_ok dX10_owe_97 w_1437 w_1438 w_103 (fs := [.int 0, .int 0, .int 0, .int 0, .int 0]) (fun j hj => by rcases (show j = 0 ∨ j = 1 ∨ j = 2 ∨ j = 3 ∨ j = 4 by omega) with rfl | rfl | rfl | rfl | rfl <;> rfl) 9 55 (Nat.le_of_ble_eq_true rfl) (Nat.le_of_ble_eq_true rfl) (fun q331 hq332 hA333 => ?_)
              have n334 := sp328.nn hq332
              have z335 := sp328.1.none hq332
              obtain ⟨h336, eh336⟩ : ∃ z : tw_H, z = tw_up h318 q331 (.inr (12, [.int 0, .int 0, .int 0, .int 0, .int 0])) := ⟨_, rfl⟩
              rw [← eh336]
              have th337 : tw_th (h336 x) = 0 := by rw [eh336, tw_up_n (tw_kF sp328.1 kx (by decide) hq332)] <;> exact th327
              have oq338 : h336 o = h o := by rw [eh336, tw_up_n (tw_kF sp328.1 ko (by decide) hq332)] <;> exact oq329
              have sp339 : tw_sp d τ h g τ h336 := by rw [eh336]; exact sp328.mk hq332
              have f340 : h336 q331 = some (.inr (12, [.int 0, .int 0, .int 0, .int 0, .int 0])) := by rw [eh336]; exact tw_up_s
              refine tw_dup dX10_owe_100 rfl ?_
              refine tw_bv (tw_callIN (M := mX10_owe) (pc := 101) okX8_init dX10_owe_101 w_1439 rfl [] [.ref q331] rfl rfl ⟨by decide, by decide⟩ (Nat.le_of_ble_eq_true rfl) (c2_X8_init d g τ h336 sp339.1 q331 z335 f340) 9 55 (Nat.le_of_ble_eq_true rfl) (Nat.le_of_ble_eq_true rfl)) (fun h342 q341 => ?_) (fun E h1 q => q.elim)
              obtain ⟨τ343, q341s, f344, z345, fr347⟩ := q341
              have th348 : tw_th (h342 x) = 0 := by rw [fr347 x (tw_nz kx z335 (by decide)) (fun z => by obtain ⟨e, y, -⟩ := sp339.1 x 36 kx (by decide); rw [z] at y; cases y)]; exact th337
              have oq349 : h342 o = h o := by rw [fr347 o (tw_nk ko z335 (by decide)) (tw_some sp339.1 ko (by decide))] <;> exact oq338
              have sp346 := sp339.trm n334 q341s
              have k350 : τ343 x = 36 := q341s.2.1.k kx (by decide)
              have k351 : τ343 o = 12 := q341s.2.1.k ko (by decide)
              have k352 : τ343 ds_5 = 34 := q341s.2.1.k k14 (by decide)
              have k353 : τ343 fr_6 = 34 := q341s.2.1.k k15 (by decide)
              have k354 : τ343 ca_7 = 31 := q341s.2.1.k k16 (by decide)
              have k355 : τ343 us_8 = 31 := q341s.2.1.k k17 (by decide)
              have k356 : τ343 wo_9 = 31 := q341s.2.1.k k18 (by decide)
              have k357 : τ343 cm_10 = 31 := q341s.2.1.k k19 (by decide)
              have k358 : τ343 lc_11 = 24 := q341s.2.1.k k20 (by decide)
              have k359 : τ343 lh_12 = 25 := q341s.2.1.k k21 (by decide)
              have k360 : τ343 ld_13 = 26 := q341s.2.1.k k22 (by decide)
              have k361 : τ343 ds_236 = 34 := q341s.2.1.k k245 (by decide)
              have k362 : τ343 fr_237 = 34 := q341s.2.1.k k246 (by decide)
              have k363 : τ343 ca_238 = 31 := q341s.2.1.k k247 (by decide)
              have k364 : τ343 us_239 = 31 := q341s.2.1.k k248 (by decide)
              have k365 : τ343 wo_240 = 31 := q341s.2.1.k k249 (by decide)
              have k366 : τ343 cm_241 = 31 := q341s.2.1.k k250 (by decide)
              have k367 : τ343 lc_242 = 24 := q341s.2.1.k k251 (by decide)
              have k368 : τ343 lh_243 = 25 := q341s.2.1.k k252 (by decide)
              have k369 : τ343 ld_244 = 26 := q341s.2.1.k k253 (by decide)
              have k370 : τ343 ds_281 = 34 := q341s.2.1.k k290 (by decide)
              have k371 : τ343 fr_282 = 34 := q341s.2.1.k k291 (by decide)
              have k372 : τ343 ca_283 = 31 := q341s.2.1.k k292 (by decide)
              have k373 : τ343 us_284 = 31 := q341s.2.1.k k293 (by decide)
              have k374 : τ343 wo_285 = 31 := q341s.2.1.k k294 (by decide)
              have k375 : τ343 cm_286 = 31 := q341s.2.1.k k295 (by decide)
              have k376 : τ343 lc_287 = 24 := q341s.2.1.k k296 (by decide)
              have k377 : τ343 lh_288 = 25 := q341s.2.1.k k297 (by decide)
              have k378 : τ343 ld_289 = 26 := q341s.2.1.k k298 (by decide)
              refine tw_astore [(5, .ref q331), (0, .ref x), (1, .int (nI j35)), (2, .int (nI j55)), (3, .int v), (4, .int dy)] dX10_owe_104 (by decide) rfl ?_
              refine tw_aload 0 dX10_owe_106 rfl ?_
              refine tw_iload_n 2 dX10_owe_108 rfl rfl ?_
              refine tw_put rfl in_12 tyX8 tyX8_ok nmX8 0 dX10_owe_109 w_1443 rfl (by decide) f344 rfl rfl rfl rfl (Nat.le_of_ble_eq_true rfl) [.int (nI j35), .int 0, .int 0, .int 0, .int 0] rfl ?_
              obtain ⟨h379, eh379⟩ : ∃ z : tw_H, z = tw_up h342 q331 (.inr (12, [.int (nI j35), .int 0, .int 0, .int 0, .int 0])) := ⟨_, rfl⟩
              rw [← eh379]
              have th380 : tw_th (h379 x) = 0 := by rw [eh379, tw_up_n (tw_nk k350 z345 (by decide))] <;> exact th348
              have oq381 : h379 o = h o := by rw [eh379, tw_up_n (tw_nk k351 z345 (by decide))] <;> exact oq349
              have sp382 : tw_sp d τ h g τ343 h379 := by rw [eh379]; exact sp346.wl n334 z345
              have f383 : h379 q331 = some (.inr (12, [.int (nI j35), .int 0, .int 0, .int 0, .int 0])) := by rw [eh379]; exact tw_up_s
              refine tw_aload 0 dX10_owe_112 rfl ?_
              refine tw_iload_n 3 dX10_owe_114 rfl rfl ?_
              refine tw_put rfl in_12 tyX8 tyX8_ok nmX8 1 dX10_owe_115 w_1444 rfl (by decide) f383 rfl rfl rfl rfl (Nat.le_of_ble_eq_true rfl) [.int (nI j35), .int (nI j55), .int 0, .int 0, .int 0] rfl ?_
              obtain ⟨h384, eh384⟩ : ∃ z : tw_H, z = tw_up h379 q331 (.inr (12, [.int (nI j35), .int (nI j55), .int 0, .int 0, .int 0])) := ⟨_, rfl⟩
              rw [← eh384]
              have th385 : tw_th (h384 x) = 0 := by rw [eh384, tw_up_n (tw_nk k350 z345 (by decide))] <;> exact th380
              have oq386 : h384 o = h o := by rw [eh384, tw_up_n (tw_nk k351 z345 (by decide))] <;> exact oq381
              have sp387 : tw_sp d τ h g τ343 h384 := by rw [eh384]; exact sp382.wl n334 z345
              have f388 : h384 q331 = some (.inr (12, [.int (nI j35), .int (nI j55), .int 0, .int 0, .int 0])) := by rw [eh384]; exact tw_up_s
              refine tw_aload 0 dX10_owe_118 rfl ?_
              refine tw_iload_n 4 dX10_owe_120 rfl rfl ?_
              refine tw_put rfl in_12 tyX8 tyX8_ok nmX8 2 dX10_owe_121 w_1445 rfl (by decide) f388 rfl rfl rfl rfl (Nat.le_of_ble_eq_true rfl) [.int (nI j35), .int (nI j55), .int v, .int 0, .int 0] rfl ?_
              obtain ⟨h389, eh389⟩ : ∃ z : tw_H, z = tw_up h384 q331 (.inr (12, [.int (nI j35), .int (nI j55), .int v, .int 0, .int 0])) := ⟨_, rfl⟩
              rw [← eh389]
              have th390 : tw_th (h389 x) = 0 := by rw [eh389, tw_up_n (tw_nk k350 z345 (by decide))] <;> exact th385
              have oq391 : h389 o = h o := by rw [eh389, tw_up_n (tw_nk k351 z345 (by decide))] <;> exact oq386
              have sp392 : tw_sp d τ h g τ343 h389 := by rw [eh389]; exact sp387.wl n334 z345
              have f393 : h389 q331 = some (.inr (12, [.int (nI j35), .int (nI j55), .int v, .int 0, .int 0])) := by rw [eh389]; exact tw_up_s
              refine tw_aload 0 dX10_owe_124 rfl ?_
              refine tw_aload_n 1 dX10_owe_126 rfl rfl ?_
              obtain ⟨e394, f395, th_396, td_397, ds_398, fr_399, ca_400, us_401, wo_402, cm_403, lc_404, lh_405, ld_406, rfl, k407, k408, k409, k410, k411, k412, k413, k414, k415, k416, k417, k418, k419, k420, k421, k422, k423, k424⟩ := sp392.1 x 36 k350 (by decide)
              refine tw_get (v := .int td_397) rfl in_14 1 dX10_owe_127 w_1152 rfl (by decide) f395 rfl ?_
              refine tw_iload 5 dX10_owe_130 rfl ?_
              refine tw_iadd dX10_owe_132 ?_
              refine tw_nmi (fun v425 ev425 => ?_)
              refine tw_put rfl in_12 tyX8 tyX8_ok nmX8 3 dX10_owe_133 w_1446 rfl (by decide) f393 rfl rfl rfl rfl (Nat.le_of_ble_eq_true rfl) [.int (nI j35), .int (nI j55), .int v, .int v425, .int 0] rfl ?_
              obtain ⟨h426, eh426⟩ : ∃ z : tw_H, z = tw_up h389 q331 (.inr (12, [.int (nI j35), .int (nI j55), .int v, .int v425, .int 0])) := ⟨_, rfl⟩
              rw [← eh426]
              have th427 : tw_th (h426 x) = 0 := by rw [eh426, tw_up_n (tw_nk k350 z345 (by decide))] <;> exact th390
              have oq428 : h426 o = h o := by rw [eh426, tw_up_n (tw_nk k351 z345 (by decide))] <;> exact oq391
              have sp429 : tw_sp d τ h g τ343 h426 := by rw [eh426]; exact sp392.wl n334 z345
              have f430 : h426 q331 = some (.inr (12, [.int (nI j35), .int (nI j55), .int v, .int v425, .int 0])) := by rw [eh426]; exact tw_up_s
              refine tw_aload_n 1 dX10_owe_136 rfl rfl ?_
              obtain ⟨e431, f432, th_433, td_434, ds_435, fr_436, ca_437, us_438, wo_439, cm_440, lc_441, lh_442, ld_443, rfl, k444, k445, k446, k447, k448, k449, k450, k451, k452, k453, k454, k455, k456, k457, k458, k459, k460, k461⟩ := sp429.1 x 36 k350 (by decide)
              refine tw_get (v := .ref ld_443) rfl in_14 11 dX10_owe_137 w_1162 rfl (by decide) f432 rfl ?_
              refine tw_aload 0 dX10_owe_140 rfl ?_
              obtain ⟨τ462, eτ462⟩ : ∃ z : tw_K, z = tw_ku τ343 q331 22 := ⟨_, rfl⟩
              have le463 : tw_le τ343 τ462 := by rw [eτ462]; exact tw_ku_le z345
              have k464 : τ462 x = 36 := le463.k k350 (by decide)
              have k465 : τ462 o = 12 := le463.k k351 (by decide)
              have k466 : τ462 ds_5 = 34 := le463.k k352 (by decide)
              have k467 : τ462 fr_6 = 34 := le463.k k353 (by decide)
              have k468 : τ462 ca_7 = 31 := le463.k k354 (by decide)
              have k469 : τ462 us_8 = 31 := le463.k k355 (by decide)
              have k470 : τ462 wo_9 = 31 := le463.k k356 (by decide)
              have k471 : τ462 cm_10 = 31 := le463.k k357 (by decide)
              have k472 : τ462 lc_11 = 24 := le463.k k358 (by decide)
              have k473 : τ462 lh_12 = 25 := le463.k k359 (by decide)
              have k474 : τ462 ld_13 = 26 := le463.k k360 (by decide)
              have k475 : τ462 ds_236 = 34 := le463.k k361 (by decide)
              have k476 : τ462 fr_237 = 34 := le463.k k362 (by decide)
              have k477 : τ462 ca_238 = 31 := le463.k k363 (by decide)
              have k478 : τ462 us_239 = 31 := le463.k k364 (by decide)
              have k479 : τ462 wo_240 = 31 := le463.k k365 (by decide)
              have k480 : τ462 cm_241 = 31 := le463.k k366 (by decide)
              have k481 : τ462 lc_242 = 24 := le463.k k367 (by decide)
              have k482 : τ462 lh_243 = 25 := le463.k k368 (by decide)
              have k483 : τ462 ld_244 = 26 := le463.k k369 (by decide)
              have k484 : τ462 ds_281 = 34 := le463.k k370 (by decide)
              have k485 : τ462 fr_282 = 34 := le463.k k371 (by decide)
              have k486 : τ462 ca_283 = 31 := le463.k k372 (by decide)
              have k487 : τ462 us_284 = 31 := le463.k k373 (by decide)
              have k488 : τ462 wo_285 = 31 := le463.k k374 (by decide)
              have k489 : τ462 cm_286 = 31 := le463.k k375 (by decide)
              have k490 : τ462 lc_287 = 24 := le463.k k376 (by decide)
              have k491 : τ462 lh_288 = 25 := le463.k k377 (by decide)
              have k492 : τ462 ld_289 = 26 := le463.k k378 (by decide)
              have k493 : τ462 ds_398 = 34 := le463.k k407 (by decide)
              have k494 : τ462 fr_399 = 34 := le463.k k408 (by decide)
              have k495 : τ462 ca_400 = 31 := le463.k k409 (by decide)
              have k496 : τ462 us_401 = 31 := le463.k k410 (by decide)
              have k497 : τ462 wo_402 = 31 := le463.k k411 (by decide)
              have k498 : τ462 cm_403 = 31 := le463.k k412 (by decide)
              have k499 : τ462 lc_404 = 24 := le463.k k413 (by decide)
              have k500 : τ462 lh_405 = 25 := le463.k k414 (by decide)
              have k501 : τ462 ld_406 = 26 := le463.k k415 (by decide)
              have k502 : τ462 ds_435 = 34 := le463.k k444 (by decide)
              have k503 : τ462 fr_436 = 34 := le463.k k445 (by decide)
              have k504 : τ462 ca_437 = 31 := le463.k k446 (by decide)
              have k505 : τ462 us_438 = 31 := le463.k k447 (by decide)
              have k506 : τ462 wo_439 = 31 := le463.k k448 (by decide)
              have k507 : τ462 cm_440 = 31 := le463.k k449 (by decide)
              have k508 : τ462 lc_441 = 24 := le463.k k450 (by decide)
              have k509 : τ462 lh_442 = 25 := le463.k k451 (by decide)
              have k510 : τ462 ld_443 = 26 := le463.k k452 (by decide)
              have sp511 : tw_sp d τ h g τ462 h426 := by rw [eτ462]; exact sp429.ty n334 z345 f430 (by rw [← eτ462]; exact ⟨v, v425, 0, j35, j55, rfl, (by omega), (by omega), (by unfold tw_01; decide)⟩)
              have k512 : τ462 q331 = 22 := by rw [eτ462]; exact tw_ku_s
              obtain ⟨e513, f514, ⟨el515, rfl, k516⟩, k517⟩ := sp511.1 ld_443 26 k510 (by decide)
              have hb9 : g.2 5 + 1 ≤ 10 := (tw_n4 c316 k455 (by decide))
              rcases k516 with k516p | k516p
              · obtain ⟨pa, pn, pf⟩ := k516p
                subst pa
                have f9 : h426 ld_443 = some (.inr (3, [.int (g.1 5), .ref (d.2 102), .int (nI 0)])) := by have z := f514; rw [pn] at z; exact z
                refine tw_bi (tw_callV (M := mX10_owe) (pc := 142) okJx4a65c_add_9ea2d dX10_owe_142 w_1238 rfl f514 [.ref q331] [] rfl rfl ⟨by decide, by decide⟩ (Nat.le_of_ble_eq_true rfl) (c_add_new d h426 ld_443 (g.1 5) f9 q331 12 _ _ rfl (ng_12) f430 (by decide)) 8 45 (Nat.le_of_ble_eq_true rfl) (Nat.le_of_ble_eq_true rfl)) (fun r9 h518 q9 => ?_) (fun E h1 q => q.elim)
                obtain ⟨r8, hr8, q1, q2, q3⟩ := q9
                have th519 : tw_th (h518 x) = 0 := by rw [q3 x (tw_nz k464 k510 (by decide)) (tw_thF sp511.1 k464 hr8)]; exact th427
                have oq520 : h518 o = h o := by rw [q3 o (tw_nk k465 k510 (by decide)) (tw_kF sp511.1 k465 (by decide) hr8)] <;> exact oq428
                obtain ⟨g9, τ9, ⟨hga, hg1⟩, sp9⟩ := tw_gadd26 (F := fun _ => none) sp511.1 k510 k512 hb9 (fun j hj => by rw [pn] at hj; exact absurd hj (Nat.not_lt_zero _)) (Or.inr ⟨hr8, pf⟩) (by rw [pn]; exact q1) (by rw [pn]; exact q2) q3
                have sp521 := sp511.tr sp9
                have k522 : τ9 x = 36 := sp9.2.1.k k464 (by decide)
                have k523 : τ9 o = 12 := sp9.2.1.k k465 (by decide)
                have k524 : τ9 ds_5 = 34 := sp9.2.1.k k466 (by decide)
                have k525 : τ9 fr_6 = 34 := sp9.2.1.k k467 (by decide)
                have k526 : τ9 ca_7 = 31 := sp9.2.1.k k468 (by decide)
                have k527 : τ9 us_8 = 31 := sp9.2.1.k k469 (by decide)
                have k528 : τ9 wo_9 = 31 := sp9.2.1.k k470 (by decide)
                have k529 : τ9 cm_10 = 31 := sp9.2.1.k k471 (by decide)
                have k530 : τ9 lc_11 = 24 := sp9.2.1.k k472 (by decide)
                have k531 : τ9 lh_12 = 25 := sp9.2.1.k k473 (by decide)
                have k532 : τ9 ld_13 = 26 := sp9.2.1.k k474 (by decide)
                have k533 : τ9 ds_236 = 34 := sp9.2.1.k k475 (by decide)
                have k534 : τ9 fr_237 = 34 := sp9.2.1.k k476 (by decide)
                have k535 : τ9 ca_238 = 31 := sp9.2.1.k k477 (by decide)
                have k536 : τ9 us_239 = 31 := sp9.2.1.k k478 (by decide)
                have k537 : τ9 wo_240 = 31 := sp9.2.1.k k479 (by decide)
                have k538 : τ9 cm_241 = 31 := sp9.2.1.k k480 (by decide)
                have k539 : τ9 lc_242 = 24 := sp9.2.1.k k481 (by decide)
                have k540 : τ9 lh_243 = 25 := sp9.2.1.k k482 (by decide)
                have k541 : τ9 ld_244 = 26 := sp9.2.1.k k483 (by decide)
                have k542 : τ9 ds_281 = 34 := sp9.2.1.k k484 (by decide)
                have k543 : τ9 fr_282 = 34 := sp9.2.1.k k485 (by decide)
                have k544 : τ9 ca_283 = 31 := sp9.2.1.k k486 (by decide)
                have k545 : τ9 us_284 = 31 := sp9.2.1.k k487 (by decide)
                have k546 : τ9 wo_285 = 31 := sp9.2.1.k k488 (by decide)
                have k547 : τ9 cm_286 = 31 := sp9.2.1.k k489 (by decide)
                have k548 : τ9 lc_287 = 24 := sp9.2.1.k k490 (by decide)
                have k549 : τ9 lh_288 = 25 := sp9.2.1.k k491 (by decide)
                have k550 : τ9 ld_289 = 26 := sp9.2.1.k k492 (by decide)
                have k551 : τ9 ds_398 = 34 := sp9.2.1.k k493 (by decide)
                have k552 : τ9 fr_399 = 34 := sp9.2.1.k k494 (by decide)
                have k553 : τ9 ca_400 = 31 := sp9.2.1.k k495 (by decide)
                have k554 : τ9 us_401 = 31 := sp9.2.1.k k496 (by decide)
                have k555 : τ9 wo_402 = 31 := sp9.2.1.k k497 (by decide)
                have k556 : τ9 cm_403 = 31 := sp9.2.1.k k498 (by decide)
                have k557 : τ9 lc_404 = 24 := sp9.2.1.k k499 (by decide)
                have k558 : τ9 lh_405 = 25 := sp9.2.1.k k500 (by decide)
                have k559 : τ9 ld_406 = 26 := sp9.2.1.k k501 (by decide)
                have k560 : τ9 ds_435 = 34 := sp9.2.1.k k502 (by decide)
                have k561 : τ9 fr_436 = 34 := sp9.2.1.k k503 (by decide)
                have k562 : τ9 ca_437 = 31 := sp9.2.1.k k504 (by decide)
                have k563 : τ9 us_438 = 31 := sp9.2.1.k k505 (by decide)
                have k564 : τ9 wo_439 = 31 := sp9.2.1.k k506 (by decide)
                have k565 : τ9 cm_440 = 31 := sp9.2.1.k k507 (by decide)
                have k566 : τ9 lc_441 = 24 := sp9.2.1.k k508 (by decide)
                have k567 : τ9 lh_442 = 25 := sp9.2.1.k k509 (by decide)
                have k568 : τ9 ld_443 = 26 := sp9.2.1.k k510 (by decide)
                have k569 : τ9 q331 = 22 := sp9.2.1.k k512 (by decide)
                refine tw_pop dX10_owe_145 rfl ?_
                refine tw_aload_n 1 dX10_owe_146 rfl rfl ?_
                obtain ⟨e570, f571, th_572, td_573, ds_574, fr_575, ca_576, us_577, wo_578, cm_579, lc_580, lh_581, ld_582, rfl, k583, k584, k585, k586, k587, k588, k589, k590, k591, k592, k593, k594, k595, k596, k597, k598, k599, k600⟩ := sp521.1 x 36 k522 (by decide)
                refine tw_get (v := .ref ld_582) rfl in_14 11 dX10_owe_147 w_1162 rfl (by decide) f571 rfl ?_
                obtain ⟨e601, f602, ⟨el603, rfl, k604⟩, k605⟩ := sp521.1 ld_582 26 k591 (by decide)
                refine tw_bi (tw_callV (M := mX10_owe) (pc := 150) okJx4a65c_size_8abf5 dX10_owe_150 w_1208 rfl f602 [] [] rfl rfl ⟨by decide, by decide⟩ (Nat.le_of_ble_eq_true rfl) (c26_size d g9 τ9 h518 sp521.1 ld_582 k591) 8 45 (Nat.le_of_ble_eq_true rfl) (Nat.le_of_ble_eq_true rfl)) (fun r608 h607 q606 => ?_) (fun E h1 q => q.elim)
                obtain ⟨q606e, q606r⟩ := q606
                rw [q606e, q606r]
                refine tw_iconst (v := 1) dX10_owe_153 (by decide) ?_
                refine tw_isub dX10_owe_154 ?_
                refine tw_nmi (fun v609 ev609 => ?_)
                exact tw_iret dX10_owe_155 rfl (Or.inl ⟨_, rfl, _, _, sp521, oq520, Or.inr (Or.inr (Or.inr (⟨ix0, ⟨c86, ⟨q132a, q132b⟩, ⟨q182a, q182b⟩⟩, by omega, by rw [ev609, hg1.1]; exact nI_pred _, th519, hga, hg1⟩)))⟩)
              · obtain ⟨e9, fa9, ⟨F9, rfl, hc9, h49⟩, un9⟩ := sp511.1 el515 29 k516p (by decide)
                refine tw_bi (tw_callV (M := mX10_owe) (pc := 142) okJx4a65c_add_9ea2d dX10_owe_142 w_1238 rfl f514 [.ref q331] [] rfl rfl ⟨by decide, by decide⟩ (Nat.le_of_ble_eq_true rfl) (c_add_old d h426 ld_443 el515 (g.2 5) F9 (g.1 5) (by omega) f514 fa9 q331 12 _ _ rfl (ng_12) f430 (by decide)) 8 45 (Nat.le_of_ble_eq_true rfl) (Nat.le_of_ble_eq_true rfl)) (fun r9 h610 q9 => ?_) (fun E h1 q => q.elim)
                obtain ⟨q1, q2, q3⟩ := q9
                have th611 : tw_th (h610 x) = 0 := by rw [q3 x (tw_nz k464 k510 (by decide)) (tw_nz k464 k516p (by decide))]; exact th427
                have oq612 : h610 o = h o := by rw [q3 o (tw_nk k465 k510 (by decide)) (tw_nk k465 k516p (by decide))] <;> exact oq428
                obtain ⟨g9, τ9, ⟨hga, hg1⟩, sp9⟩ := tw_gadd26 sp511.1 k510 k512 hb9 h49 (Or.inl k516p) q1 q2 q3
                have sp613 := sp511.tr sp9
                have k614 : τ9 x = 36 := sp9.2.1.k k464 (by decide)
                have k615 : τ9 o = 12 := sp9.2.1.k k465 (by decide)
                have k616 : τ9 ds_5 = 34 := sp9.2.1.k k466 (by decide)
                have k617 : τ9 fr_6 = 34 := sp9.2.1.k k467 (by decide)
                have k618 : τ9 ca_7 = 31 := sp9.2.1.k k468 (by decide)
                have k619 : τ9 us_8 = 31 := sp9.2.1.k k469 (by decide)
                have k620 : τ9 wo_9 = 31 := sp9.2.1.k k470 (by decide)
                have k621 : τ9 cm_10 = 31 := sp9.2.1.k k471 (by decide)
                have k622 : τ9 lc_11 = 24 := sp9.2.1.k k472 (by decide)
                have k623 : τ9 lh_12 = 25 := sp9.2.1.k k473 (by decide)
                have k624 : τ9 ld_13 = 26 := sp9.2.1.k k474 (by decide)
                have k625 : τ9 ds_236 = 34 := sp9.2.1.k k475 (by decide)
                have k626 : τ9 fr_237 = 34 := sp9.2.1.k k476 (by decide)
                have k627 : τ9 ca_238 = 31 := sp9.2.1.k k477 (by decide)
                have k628 : τ9 us_239 = 31 := sp9.2.1.k k478 (by decide)
                have k629 : τ9 wo_240 = 31 := sp9.2.1.k k479 (by decide)
                have k630 : τ9 cm_241 = 31 := sp9.2.1.k k480 (by decide)
                have k631 : τ9 lc_242 = 24 := sp9.2.1.k k481 (by decide)
                have k632 : τ9 lh_243 = 25 := sp9.2.1.k k482 (by decide)
                have k633 : τ9 ld_244 = 26 := sp9.2.1.k k483 (by decide)
                have k634 : τ9 ds_281 = 34 := sp9.2.1.k k484 (by decide)
                have k635 : τ9 fr_282 = 34 := sp9.2.1.k k485 (by decide)
                have k636 : τ9 ca_283 = 31 := sp9.2.1.k k486 (by decide)
                have k637 : τ9 us_284 = 31 := sp9.2.1.k k487 (by decide)
                have k638 : τ9 wo_285 = 31 := sp9.2.1.k k488 (by decide)
                have k639 : τ9 cm_286 = 31 := sp9.2.1.k k489 (by decide)
                have k640 : τ9 lc_287 = 24 := sp9.2.1.k k490 (by decide)
                have k641 : τ9 lh_288 = 25 := sp9.2.1.k k491 (by decide)
                have k642 : τ9 ld_289 = 26 := sp9.2.1.k k492 (by decide)
                have k643 : τ9 ds_398 = 34 := sp9.2.1.k k493 (by decide)
                have k644 : τ9 fr_399 = 34 := sp9.2.1.k k494 (by decide)
                have k645 : τ9 ca_400 = 31 := sp9.2.1.k k495 (by decide)
                have k646 : τ9 us_401 = 31 := sp9.2.1.k k496 (by decide)
                have k647 : τ9 wo_402 = 31 := sp9.2.1.k k497 (by decide)
                have k648 : τ9 cm_403 = 31 := sp9.2.1.k k498 (by decide)
                have k649 : τ9 lc_404 = 24 := sp9.2.1.k k499 (by decide)
                have k650 : τ9 lh_405 = 25 := sp9.2.1.k k500 (by decide)
                have k651 : τ9 ld_406 = 26 := sp9.2.1.k k501 (by decide)
                have k652 : τ9 ds_435 = 34 := sp9.2.1.k k502 (by decide)
                have k653 : τ9 fr_436 = 34 := sp9.2.1.k k503 (by decide)
                have k654 : τ9 ca_437 = 31 := sp9.2.1.k k504 (by decide)
                have k655 : τ9 us_438 = 31 := sp9.2.1.k k505 (by decide)
                have k656 : τ9 wo_439 = 31 := sp9.2.1.k k506 (by decide)
                have k657 : τ9 cm_440 = 31 := sp9.2.1.k k507 (by decide)
                have k658 : τ9 lc_441 = 24 := sp9.2.1.k k508 (by decide)
                have k659 : τ9 lh_442 = 25 := sp9.2.1.k k509 (by decide)
                have k660 : τ9 ld_443 = 26 := sp9.2.1.k k510 (by decide)
                have k661 : τ9 q331 = 22 := sp9.2.1.k k512 (by decide)
                refine tw_pop dX10_owe_145 rfl ?_
                refine tw_aload_n 1 dX10_owe_146 rfl rfl ?_
                obtain ⟨e662, f663, th_664, td_665, ds_666, fr_667, ca_668, us_669, wo_670, cm_671, lc_672, lh_673, ld_674, rfl, k675, k676, k677, k678, k679, k680, k681, k682, k683, k684, k685, k686, k687, k688, k689, k690, k691, k692⟩ := sp613.1 x 36 k614 (by decide)
                refine tw_get (v := .ref ld_674) rfl in_14 11 dX10_owe_147 w_1162 rfl (by decide) f663 rfl ?_
                obtain ⟨e693, f694, ⟨el695, rfl, k696⟩, k697⟩ := sp613.1 ld_674 26 k683 (by decide)
                refine tw_bi (tw_callV (M := mX10_owe) (pc := 150) okJx4a65c_size_8abf5 dX10_owe_150 w_1208 rfl f694 [] [] rfl rfl ⟨by decide, by decide⟩ (Nat.le_of_ble_eq_true rfl) (c26_size d g9 τ9 h610 sp613.1 ld_674 k683) 8 45 (Nat.le_of_ble_eq_true rfl) (Nat.le_of_ble_eq_true rfl)) (fun r700 h699 q698 => ?_) (fun E h1 q => q.elim)
                obtain ⟨q698e, q698r⟩ := q698
                rw [q698e, q698r]
                refine tw_iconst (v := 1) dX10_owe_153 (by decide) ?_
                refine tw_isub dX10_owe_154 ?_
                refine tw_nmi (fun v701 ev701 => ?_)
                exact tw_iret dX10_owe_155 rfl (Or.inl ⟨_, rfl, _, _, sp613, oq612, Or.inr (Or.inr (Or.inr (⟨ix0, ⟨c86, ⟨q132a, q132b⟩, ⟨q182a, q182b⟩⟩, by omega, by rw [ev701, hg1.1]; exact nI_pred _, th611, hga, hg1⟩)))⟩)
            · refine tw_iconst (v := 1) dX10_owe_83 (by decide) ?_
              refine tw_goto 88 dX10_owe_84 (by decide) ?_
              refine tw_iconst (v := 3) dX10_owe_88 (by decide) ?_
              refine tw_bi (tw_callV (M := mX10_owe) (pc := 89) okX10_refuse dX10_owe_89 w_1204 rfl f278 [.int 1, .int 3] [] rfl rfl ⟨by decide, by decide⟩ (Nat.le_of_ble_eq_true rfl) (c_X10_refuse d g τ h264 sp274.1 x kx 1 3 (by decide)) 10 60 (Nat.le_of_ble_eq_true rfl) (Nat.le_of_ble_eq_true rfl)) (fun r704 h703 q702 => ?_) (fun E h1 q => q.elim)
              obtain ⟨e705, he706, hs707, hr708, hc709⟩ := q702
              obtain ⟨rz710, tz711⟩ := (hc709 th273).2 rfl
              have th712 : tw_th (h703 x) = 3 := by rw [he706, tw_up_s]; exact tz711
              have sp713 : tw_sp d τ h g τ h703 := by rw [he706]; exact sp274.set kx (by decide) hs707
              rw [rz710]
              have oq714 : h703 o = h o := by rw [he706, tw_up_n (tw_nk ko kx (by decide))] <;> exact oq275
              refine tw_if_eq 97 dX10_owe_92 (by decide) (fun c715 => absurd c715 (by decide)) (fun _ => ?_)
              refine tw_iconst (v := 0) dX10_owe_95 (by decide) ?_
              exact tw_iret dX10_owe_96 rfl (Or.inl ⟨_, rfl, _, _, sp713, oq714, Or.inr (Or.inr (Or.inl ⟨ix0, ⟨c86, ⟨q132a, q132b⟩, ⟨q182a, q182b⟩⟩, fun z => absurd (tw_nIj (a := g.2 5) (b := 10) c316 (by omega) (by decide)) (by omega), th712, rfl⟩))⟩)

set_option maxHeartbeats 4000000 in
set_option maxRecDepth 100000 in
theorem c2_X10_pass (d : tw_D) (g : tw_G) (τ : tw_K) (h : tw_H) (hw : tw_wt d g τ h) (x : Nat) (kx : τ x = 36) (dy : Int32) (o : Nat) (ko : τ o = 12) : tw_Ct d mX10_pass 802 3208 [.ref x, .int dy] h (tw_qi (fun r9 h1 => ∃ g1 τ1, tw_sp d τ h g1 τ1 h1 ∧ h1 o = h o ∧ ((¬ tw_RP dy ∧ tw_th (h1 x) = 1 ∧ g1 = g) ∨ (tw_RP dy ∧ ¬ g.2 22 + tw_DN dy ≤ 3000 ∧ tw_th (h1 x) = 2 ∧ g1 = g) ∨ (tw_RP dy ∧ g.2 22 + tw_DN dy ≤ 3000 ∧ r9 = nI (g.2 22 + tw_DN dy) ∧ tw_th (h1 x) = 0 ∧ g1 = tw_g2 g 22 (g.2 22 + tw_DN dy)))) tw_nx) := by
  refine tw_of (by decide +kernel) (Nat.le_of_ble_eq_true rfl) ?_
  show tw_W d mX10_pass _ 0 [(0, .ref x), (1, .int dy)] [] h 802 3208
  have sp0 := tw_sp.rf hw
  have oq0 : h o = h o := rfl
  refine tw_aload_n 0 dX10_pass_0 rfl rfl ?_
  refine tw_iload_n 1 dX10_pass_1 rfl rfl ?_
  refine tw_iconst (v := 1) dX10_pass_2 (by decide) ?_
  refine tw_sipush (v := 400) dX10_pass_3 (by decide) ?_
  refine tw_bi (tw_callS (M := mX10_pass) (pc := 6) okX10_isIn dX10_pass_6 w_1196 [.int dy, .int 1, .int 400] [.ref x] rfl rfl ⟨by decide, by decide⟩ (Nat.le_of_ble_eq_true rfl) (c_X10_isIn d g τ h sp0.1 dy 1 400) 802 3208 (Nat.le_of_ble_eq_true rfl) (Nat.le_of_ble_eq_true rfl)) (fun r3 h2 q1 => ?_) (fun E h1 q => q.elim)
  obtain ⟨q1e, q1d⟩ := q1
  rw [q1e]
  rcases q1d with ⟨q1r, q1n⟩ | ⟨q1r, q1a, q1b⟩
  · rw [q1r]
    refine tw_if_ne 16 dX10_pass_9 (by decide) (fun c4 => absurd (by decide) c4) (fun _ => ?_)
    refine tw_iconst (v := 1) dX10_pass_12 (by decide) ?_
    refine tw_goto 17 dX10_pass_13 (by decide) ?_
    refine tw_iconst (v := 1) dX10_pass_17 (by decide) ?_
    obtain ⟨e5, f6, th_7, td_8, ds_9, fr_10, ca_11, us_12, wo_13, cm_14, lc_15, lh_16, ld_17, rfl, k18, k19, k20, k21, k22, k23, k24, k25, k26, k27, k28, k29, k30, k31, k32, k33, k34, k35⟩ := sp0.1 x 36 kx (by decide)
    refine tw_bi (tw_callV (M := mX10_pass) (pc := 18) okX10_start dX10_pass_18 w_1200 rfl f6 [.int 1, .int 1] [] rfl rfl ⟨by decide, by decide⟩ (Nat.le_of_ble_eq_true rfl) (c_X10_start d g τ h sp0.1 x kx 1 1 (by decide)) 802 3208 (Nat.le_of_ble_eq_true rfl) (Nat.le_of_ble_eq_true rfl)) (fun r38 h37 q36 => ?_) (fun E h1 q => q.elim)
    obtain ⟨e39, he40, hs41, hr42, hc43⟩ := q36
    obtain ⟨rz44, tz45⟩ := hc43.2 rfl
    have th46 : tw_th (h37 x) = 1 := by rw [he40, tw_up_s]; exact tz45
    have sp47 : tw_sp d τ h g τ h37 := by rw [he40]; exact sp0.set kx (by decide) hs41
    rw [rz44]
    have oq48 : h37 o = h o := by rw [he40, tw_up_n (tw_nk ko kx (by decide))] <;> exact oq0
    refine tw_if_ne 49 dX10_pass_21 (by decide) (fun _ => ?_) (fun c49 => absurd c49 (by decide))
    refine tw_iconst (v := 0) dX10_pass_49 (by decide) ?_
    exact tw_iret dX10_pass_50 rfl (Or.inl ⟨_, rfl, _, _, sp47, oq48, Or.inl ⟨q1n, th46, rfl⟩⟩)
  · rw [q1r]
    have rp : tw_RP dy := ⟨q1a, q1b⟩
    obtain ⟨D, hD1, hD4, eD⟩ := tw_pD rp
    subst eD
    have cD : tw_DN (nI D) = D := nI_clamp (by omega)
    refine tw_if_ne 16 dX10_pass_9 (by decide) (fun _ => ?_) (fun c50 => absurd c50 (by decide))
    refine tw_iconst (v := 0) dX10_pass_16 (by decide) ?_
    refine tw_iconst (v := 1) dX10_pass_17 (by decide) ?_
    obtain ⟨e51, f52, th_53, td_54, ds_55, fr_56, ca_57, us_58, wo_59, cm_60, lc_61, lh_62, ld_63, rfl, k64, k65, k66, k67, k68, k69, k70, k71, k72, k73, k74, k75, k76, k77, k78, k79, k80, k81⟩ := sp0.1 x 36 kx (by decide)
    refine tw_bi (tw_callV (M := mX10_pass) (pc := 18) okX10_start dX10_pass_18 w_1200 rfl f52 [.int 0, .int 1] [] rfl rfl ⟨by decide, by decide⟩ (Nat.le_of_ble_eq_true rfl) (c_X10_start d g τ h sp0.1 x kx 0 1 (by decide)) 802 3208 (Nat.le_of_ble_eq_true rfl) (Nat.le_of_ble_eq_true rfl)) (fun r84 h83 q82 => ?_) (fun E h1 q => q.elim)
    obtain ⟨e85, he86, hs87, hr88, hc89⟩ := q82
    obtain ⟨rz90, tz91⟩ := hc89.1 rfl
    have th92 : tw_th (h83 x) = 0 := by rw [he86, tw_up_s]; exact tz91
    have sp93 : tw_sp d τ h g τ h83 := by rw [he86]; exact sp0.set kx (by decide) hs87
    rw [rz90]
    have oq94 : h83 o = h o := by rw [he86, tw_up_n (tw_nk ko kx (by decide))] <;> exact oq0
    refine tw_if_ne 49 dX10_pass_21 (by decide) (fun c95 => absurd (by decide) c95) (fun _ => ?_)
    refine tw_aload_n 0 dX10_pass_24 rfl rfl ?_
    refine tw_aload_n 0 dX10_pass_25 rfl rfl ?_
    obtain ⟨e96, f97, th_98, td_99, ds_100, fr_101, ca_102, us_103, wo_104, cm_105, lc_106, lh_107, ld_108, rfl, k109, k110, k111, k112, k113, k114, k115, k116, k117, k118, k119, k120, k121, k122, k123, k124, k125, k126⟩ := sp93.1 x 36 kx (by decide)
    refine tw_get (v := .int td_99) rfl in_14 1 dX10_pass_26 w_1152 rfl (by decide) f97 rfl ?_
    refine tw_iload_n 1 dX10_pass_29 rfl rfl ?_
    refine tw_iadd dX10_pass_30 ?_
    refine tw_nmi (fun v127 ev127 => ?_)
    refine tw_sipush (v := 3000) dX10_pass_31 (by decide) ?_
    refine tw_icmp_le 41 dX10_pass_34 (by decide) (fun c128 => ?_) (fun c128 => ?_)
    · have le9 : g.2 22 + D ≤ 3000 := (tw_dle2 k123 ev127 k124 hD4).mp c128
      refine tw_iconst (v := 0) dX10_pass_41 (by decide) ?_
      refine tw_iconst (v := 2) dX10_pass_42 (by decide) ?_
      refine tw_bi (tw_callV (M := mX10_pass) (pc := 43) okX10_refuse dX10_pass_43 w_1204 rfl f97 [.int 0, .int 2] [] rfl rfl ⟨by decide, by decide⟩ (Nat.le_of_ble_eq_true rfl) (c_X10_refuse d g τ h83 sp93.1 x kx 0 2 (by decide)) 802 3208 (Nat.le_of_ble_eq_true rfl) (Nat.le_of_ble_eq_true rfl)) (fun r131 h130 q129 => ?_) (fun E h1 q => q.elim)
      obtain ⟨e132, he133, hs134, hr135, hc136⟩ := q129
      obtain ⟨rz137, tz138⟩ := (hc136 th92).1 rfl
      have th139 : tw_th (h130 x) = 0 := by rw [he133, tw_up_s]; exact tz138
      have sp140 : tw_sp d τ h g τ h130 := by rw [he133]; exact sp93.set kx (by decide) hs134
      rw [rz137]
      have oq141 : h130 o = h o := by rw [he133, tw_up_n (tw_nk ko kx (by decide))] <;> exact oq94
      refine tw_if_eq 51 dX10_pass_46 (by decide) (fun _ => ?_) (fun c142 => absurd (by decide) c142)
      refine tw_iconst (v := 0) dX10_pass_51 (by decide) ?_
      refine tw_istore_n [(2, .int 0), (0, .ref x), (1, .int (nI D))] dX10_pass_52 rfl (by decide) rfl ?_
      have L146 : ∀ (r144 k143 : Nat) (h149 : tw_H) (sp150 : tw_sp d τ h (tw_g2 g 22 (g.2 22 + k143)) τ h149) (th151 : tw_th (h149 x) = 0) (oq152 : h149 o = h o), D + 1 ≤ k143 + r144 → k143 ≤ D → tw_W d mX10_pass (tw_qi (fun r9 h1 => ∃ g1 τ1, tw_sp d τ h g1 τ1 h1 ∧ h1 o = h o ∧ ((¬ tw_RP (nI D) ∧ tw_th (h1 x) = 1 ∧ g1 = g) ∨ (tw_RP (nI D) ∧ ¬ g.2 22 + tw_DN (nI D) ≤ 3000 ∧ tw_th (h1 x) = 2 ∧ g1 = g) ∨ (tw_RP (nI D) ∧ g.2 22 + tw_DN (nI D) ≤ 3000 ∧ r9 = nI (g.2 22 + tw_DN (nI D)) ∧ tw_th (h1 x) = 0 ∧ g1 = tw_g2 g 22 (g.2 22 + tw_DN (nI D))))) tw_nx) 53 [(0, .ref x), (1, .int (nI D)), (2, .int (nI k143))] [] h149 (0 + 2 * r144) (0 + 8 * r144) := by
        intro r144
        induction r144 with
        | zero => intro k143 h149 sp150 th151 oq152 hk147 hk148; exact absurd hk147 (by omega)
        | succ r144 ih145 =>
          intro k143 h149 sp150 th151 oq152 hk147 hk148
          obtain ⟨g153, eg153⟩ : ∃ z : tw_G, z = tw_g2 g 22 (g.2 22 + k143) := ⟨_, rfl⟩
          rw [← eg153] at sp150
          have tg153 : g153.2 22 = g.2 22 + k143 := by rw [eg153]; rfl
          refine tw_iload_n 2 dX10_pass_53 rfl rfl ?_
          refine tw_iload_n 1 dX10_pass_54 rfl rfl ?_
          refine tw_icmp_ge 232 dX10_pass_55 (by decide) (fun c154 => ?_) (fun c154 => ?_)
          · refine tw_aload_n 0 dX10_pass_232 rfl rfl ?_
            obtain ⟨e155, f156, th_157, td_158, ds_159, fr_160, ca_161, us_162, wo_163, cm_164, lc_165, lh_166, ld_167, rfl, k168, k169, k170, k171, k172, k173, k174, k175, k176, k177, k178, k179, k180, k181, k182, k183, k184, k185⟩ := sp150.1 x 36 kx (by decide)
            refine tw_get (v := .int td_158) rfl in_14 1 dX10_pass_233 w_1152 rfl (by decide) f156 rfl ?_
            exact tw_iret dX10_pass_236 rfl (Or.inl ⟨_, rfl, _, _, sp150, oq152, Or.inr (Or.inr ⟨rp, by rw [cD]; exact le9, by rw [cD, k182, tg153, show k143 = D from Nat.le_antisymm hk148 (tw_kge c154 (by omega))], th151, by rw [eg153, cD, show k143 = D from Nat.le_antisymm hk148 (tw_kge c154 (by omega))]⟩)⟩)
          · refine tw_aload_n 0 dX10_pass_58 rfl rfl ?_
            refine tw_dup dX10_pass_59 rfl ?_
            obtain ⟨e186, f187, th_188, td_189, ds_190, fr_191, ca_192, us_193, wo_194, cm_195, lc_196, lh_197, ld_198, rfl, k199, k200, k201, k202, k203, k204, k205, k206, k207, k208, k209, k210, k211, k212, k213, k214, k215, k216⟩ := sp150.1 x 36 kx (by decide)
            refine tw_get (v := .int td_189) rfl in_14 1 dX10_pass_60 w_1152 rfl (by decide) f187 rfl ?_
            refine tw_iconst (v := 1) dX10_pass_63 (by decide) ?_
            refine tw_iadd dX10_pass_64 ?_
            refine tw_nmi (fun v217 ev217 => ?_)
            have kl9 : k143 < D := tw_klt (N := D) c154 hk148 (by omega)
            obtain ⟨g218, eg218⟩ : ∃ z : tw_G, z = tw_g2 g153 22 (g153.2 22 + 1) := ⟨_, rfl⟩
            have q219 : v217 = nI (g218.2 22) := by rw [ev217, k213, nI_1, eg218]; rfl
            subst q219
            refine tw_put rfl in_14 tyX10 tyX10_ok nmX10 1 dX10_pass_65 w_1152 rfl (by decide) f187 rfl rfl rfl rfl (Nat.le_of_ble_eq_true rfl) [.int th_188, .int (nI (g218.2 22)), .int (g153.1 1), .ref ds_190, .ref fr_191, .ref ca_192, .ref us_193, .ref wo_194, .ref cm_195, .ref lc_196, .ref lh_197, .ref ld_198] rfl ?_
            obtain ⟨h220, eh220⟩ : ∃ z : tw_H, z = tw_up h149 x (.inr (14, [.int th_188, .int (nI (g218.2 22)), .int (g153.1 1), .ref ds_190, .ref fr_191, .ref ca_192, .ref us_193, .ref wo_194, .ref cm_195, .ref lc_196, .ref lh_197, .ref ld_198])) := ⟨_, rfl⟩
            rw [← eh220]
            have th221 : tw_th (h220 x) = 0 := by rw [eh220, tw_up_s]; have z := th151; rw [f187] at z; exact z
            have oq222 : h220 o = h o := by rw [eh220, tw_up_n (tw_nk ko kx (by decide))] <;> exact oq152
            have sp223 : tw_sp d τ h g218 τ h220 := by rw [eh220, eg218]; exact sp150.m36d kx (by rw [← eg218]; exact ⟨th_188, (nI (g218.2 22)), ds_190, fr_191, ca_192, us_193, wo_194, cm_195, lc_196, lh_197, ld_198, (by rw [eg218]; rfl), k199, k200, k201, k202, k203, k204, k205, k206, k207, (by (try rw [eg218]); exact k208), (by (try rw [eg218]); exact k209), (by (try rw [eg218]); exact k210), (by (try rw [eg218]); exact k211), (by (try rw [eg218]); exact k212), rfl, (by rw [eg218]; exact (show g153.2 22 + 1 ≤ 3000 by omega)), (by rw [eg218]; exact (tw_g2_ne (by omega)).trans k215), (by rw [eg218]; exact (tw_g2_ne (by omega)).trans k216)⟩)
            refine tw_aload_n 0 dX10_pass_68 rfl rfl ?_
            obtain ⟨e224, f225, th_226, td_227, ds_228, fr_229, ca_230, us_231, wo_232, cm_233, lc_234, lh_235, ld_236, rfl, k237, k238, k239, k240, k241, k242, k243, k244, k245, k246, k247, k248, k249, k250, k251, k252, k253, k254⟩ := sp223.1 x 36 kx (by decide)
            refine tw_get (v := .ref lh_235) rfl in_14 10 dX10_pass_69 w_1161 rfl (by decide) f225 rfl ?_
            obtain ⟨e255, f256, ⟨el257, rfl, k258⟩, k259⟩ := sp223.1 lh_235 25 k244 (by decide)
            refine tw_br (tw_callV (M := mX10_pass) (pc := 72) okJx4a65c_iterator_32c93 dX10_pass_72 w_1386 rfl f256 [] [] rfl rfl ⟨by decide, by decide⟩ (Nat.le_of_ble_eq_true rfl) (c_iterator d h220 lh_235 el257 (g218.1 4) (nI (g218.2 4)) f256) ((0 + 2 * (r144 + 1)) - 1) ((0 + 8 * (r144 + 1)) - 4) (by omega) (by omega)) (fun it260 h261 q262 => ?_) (fun E h1 q => q.elim)
            obtain ⟨q262n, q262e⟩ := q262
            rw [q262e]
            have n263 := sp223.nn q262n
            have z264 := sp223.1.none q262n
            obtain ⟨h265, eh265⟩ : ∃ z : tw_H, z = tw_up h220 it260 (.inr (2, [.int 0, .int (-1), .int (g218.1 4), .ref lh_235])) := ⟨_, rfl⟩
            rw [← eh265]
            have th266 : tw_th (h265 x) = 0 := by rw [eh265, tw_up_n (tw_kF sp223.1 kx (by decide) q262n)] <;> exact th221
            have oq267 : h265 o = h o := by rw [eh265, tw_up_n (tw_kF sp223.1 ko (by decide) q262n)] <;> exact oq222
            have sp268 : tw_sp d τ h g218 τ h265 := by rw [eh265]; exact sp223.mk q262n
            have f269 : h265 it260 = some (.inr (2, [.int 0, .int (-1), .int (g218.1 4), .ref lh_235])) := by rw [eh265]; exact tw_up_s
            refine tw_astore_n [(3, .ref it260), (0, .ref x), (1, .int (nI D)), (2, .int (nI k143))] dX10_pass_75 rfl (by decide) rfl ?_
            have L274 : ∀ (r270 j271 : Nat) (l272 : Int32) (h275 : tw_H) (sp276 : tw_sp d τ (tw_rm h265 it260) g218 τ h275) (ft277 : h275 it260 = some (.inr (2, [.int (nI j271), .int l272, .int (g218.1 4), .ref lh_235]))) (zt278 : τ it260 = 0) (th279 : tw_th (h275 x) = 0) (oq280 : h275 o = h o), g218.2 4 + 1 ≤ j271 + r270 → j271 ≤ g218.2 4 → tw_W d mX10_pass (tw_qi (fun r9 h1 => ∃ g1 τ1, tw_sp d τ h g1 τ1 h1 ∧ h1 o = h o ∧ ((¬ tw_RP (nI D) ∧ tw_th (h1 x) = 1 ∧ g1 = g) ∨ (tw_RP (nI D) ∧ ¬ g.2 22 + tw_DN (nI D) ≤ 3000 ∧ tw_th (h1 x) = 2 ∧ g1 = g) ∨ (tw_RP (nI D) ∧ g.2 22 + tw_DN (nI D) ≤ 3000 ∧ r9 = nI (g.2 22 + tw_DN (nI D)) ∧ tw_th (h1 x) = 0 ∧ g1 = tw_g2 g 22 (g.2 22 + tw_DN (nI D))))) tw_nx) 76 [(0, .ref x), (1, .int (nI D)), (2, .int (nI k143)), (3, .ref it260)] [] h275 ((0 + 2 * (r144 + 1)) - 1) ((0 + 8 * (r144 + 1)) - 4) := by
              intro r270
              induction r270 with
              | zero => intro j271 l272 h275 sp276 ft277 zt278 th279 oq280 hk281 hk282; exact absurd hk281 (by omega)
              | succ r270 ih273 =>
                intro j271 l272 h275 sp276 ft277 zt278 th279 oq280 hk281 hk282
                refine tw_aload_n 3 dX10_pass_76 rfl rfl ?_
                obtain ⟨e283, f284, ⟨el285, rfl, k286⟩, k287⟩ := sp276.1 lh_235 25 k244 (by decide)
                refine tw_bi (tw_callF (M := mX10_pass) (pc := 77) (n9 := 0) (ci := 2) tw_hasNext ok_itHas w_1416 w_1414 (fun s H z => z.2.2.2.2.2.2.2.2.1) (by decide +kernel) dX10_pass_77 w_1410 rfl ft277 [] [] rfl rfl ⟨by decide, by decide⟩ (Nat.le_of_ble_eq_true rfl) (c_hasNext d h275 it260 lh_235 el285 j271 (g218.2 4) l272 (g218.1 4) (g218.1 4) ft277 f284 (by omega) (tw_lim25 sp276.1 k244)) ((0 + 2 * (r144 + 1)) - 1) ((0 + 8 * (r144 + 1)) - 4) (by omega) (by omega)) (fun r290 h289 q288 => ?_) (fun E h1 q => q.elim)
                obtain ⟨q288e, q288q⟩ := q288
                rw [q288e]
                rcases q288q with ⟨q288r, q288j⟩ | ⟨q288r, q288j⟩
                · rw [q288r]
                  refine tw_if_eq 145 dX10_pass_82 (by decide) (fun _ => ?_) (fun c291 => absurd (by decide) c291)
                  refine tw_aload_n 0 dX10_pass_145 rfl rfl ?_
                  obtain ⟨e292, f293, th_294, td_295, ds_296, fr_297, ca_298, us_299, wo_300, cm_301, lc_302, lh_303, ld_304, rfl, k305, k306, k307, k308, k309, k310, k311, k312, k313, k314, k315, k316, k317, k318, k319, k320, k321, k322⟩ := sp276.1 x 36 kx (by decide)
                  refine tw_get (v := .ref lc_302) rfl in_14 9 dX10_pass_146 w_1160 rfl (by decide) f293 rfl ?_
                  obtain ⟨e323, f324, ⟨el325, rfl, k326⟩, k327⟩ := sp276.1 lc_302 24 k311 (by decide)
                  refine tw_br (tw_callV (M := mX10_pass) (pc := 149) okJx4a65c_iterator_32c93 dX10_pass_149 w_1386 rfl f324 [] [] rfl rfl ⟨by decide, by decide⟩ (Nat.le_of_ble_eq_true rfl) (c_iterator d h275 lc_302 el325 (g218.1 3) (nI (g218.2 3)) f324) (((0 + 2 * (r144 + 1)) - 1) - 1) (((0 + 8 * (r144 + 1)) - 4) - 4) (by omega) (by omega)) (fun it328 h329 q330 => ?_) (fun E h1 q => q.elim)
                  obtain ⟨q330n, q330e⟩ := q330
                  rw [q330e]
                  have n331 := sp276.nn q330n
                  have z332 := sp276.1.none q330n
                  have ne333 := tw_neF ft277 q330n
                  obtain ⟨h334, eh334⟩ : ∃ z : tw_H, z = tw_up h275 it328 (.inr (2, [.int 0, .int (-1), .int (g218.1 3), .ref lc_302])) := ⟨_, rfl⟩
                  rw [← eh334]
                  have th335 : tw_th (h334 x) = 0 := by rw [eh334, tw_up_n (tw_kF sp276.1 kx (by decide) q330n)] <;> exact th279
                  have oq336 : h334 o = h o := by rw [eh334, tw_up_n (tw_kF sp276.1 ko (by decide) q330n)] <;> exact oq280
                  have sp337 : tw_sp d τ (tw_rm h265 it260) g218 τ h334 := by rw [eh334]; exact sp276.mk q330n
                  have f338 : h334 it260 = some (.inr (2, [.int (nI j271), .int l272, .int (g218.1 4), .ref lh_235])) := by rw [eh334, tw_up_n ne333]; exact ft277
                  have f339 : h334 it328 = some (.inr (2, [.int 0, .int (-1), .int (g218.1 3), .ref lc_302])) := by rw [eh334]; exact tw_up_s
                  refine tw_astore_n [(3, .ref it328), (0, .ref x), (1, .int (nI D)), (2, .int (nI k143))] dX10_pass_152 rfl (by decide) rfl ?_
                  have L344 : ∀ (r340 j341 : Nat) (l342 : Int32) (h345 : tw_H) (sp346 : tw_sp d τ (tw_rm h334 it328) g218 τ h345) (ft347 : h345 it328 = some (.inr (2, [.int (nI j341), .int l342, .int (g218.1 3), .ref lc_302]))) (zt348 : τ it328 = 0) (th349 : tw_th (h345 x) = 0) (oq350 : h345 o = h o), g218.2 3 + 1 ≤ j341 + r340 → j341 ≤ g218.2 3 → tw_W d mX10_pass (tw_qi (fun r9 h1 => ∃ g1 τ1, tw_sp d τ h g1 τ1 h1 ∧ h1 o = h o ∧ ((¬ tw_RP (nI D) ∧ tw_th (h1 x) = 1 ∧ g1 = g) ∨ (tw_RP (nI D) ∧ ¬ g.2 22 + tw_DN (nI D) ≤ 3000 ∧ tw_th (h1 x) = 2 ∧ g1 = g) ∨ (tw_RP (nI D) ∧ g.2 22 + tw_DN (nI D) ≤ 3000 ∧ r9 = nI (g.2 22 + tw_DN (nI D)) ∧ tw_th (h1 x) = 0 ∧ g1 = tw_g2 g 22 (g.2 22 + tw_DN (nI D))))) tw_nx) 153 [(0, .ref x), (1, .int (nI D)), (2, .int (nI k143)), (3, .ref it328)] [] h345 (((0 + 2 * (r144 + 1)) - 1) - 1) (((0 + 8 * (r144 + 1)) - 4) - 4) := by
                    intro r340
                    induction r340 with
                    | zero => intro j341 l342 h345 sp346 ft347 zt348 th349 oq350 hk351 hk352; exact absurd hk351 (by omega)
                    | succ r340 ih343 =>
                      intro j341 l342 h345 sp346 ft347 zt348 th349 oq350 hk351 hk352
                      have f353 := (sp346.2.2 _ _ (by unfold tw_rm; rw [if_neg ne333]; exact f338) zt278).1
                      have z354 := (sp346.2.2 _ _ (by unfold tw_rm; rw [if_neg ne333]; exact f338) zt278).2
                      refine tw_aload_n 3 dX10_pass_153 rfl rfl ?_
                      obtain ⟨e355, f356, ⟨el357, rfl, k358⟩, k359⟩ := sp346.1 lc_302 24 k311 (by decide)
                      refine tw_bi (tw_callF (M := mX10_pass) (pc := 154) (n9 := 0) (ci := 2) tw_hasNext ok_itHas w_1416 w_1414 (fun s H z => z.2.2.2.2.2.2.2.2.1) (by decide +kernel) dX10_pass_154 w_1410 rfl ft347 [] [] rfl rfl ⟨by decide, by decide⟩ (Nat.le_of_ble_eq_true rfl) (c_hasNext d h345 it328 lc_302 el357 j341 (g218.2 3) l342 (g218.1 3) (g218.1 3) ft347 f356 (by omega) (tw_lim24 sp346.1 k311)) (((0 + 2 * (r144 + 1)) - 1) - 1) (((0 + 8 * (r144 + 1)) - 4) - 4) (by omega) (by omega)) (fun r362 h361 q360 => ?_) (fun E h1 q => q.elim)
                      obtain ⟨q360e, q360q⟩ := q360
                      rw [q360e]
                      rcases q360q with ⟨q360r, q360j⟩ | ⟨q360r, q360j⟩
                      · rw [q360r]
                        refine tw_if_eq 226 dX10_pass_159 (by decide) (fun _ => ?_) (fun c363 => absurd (by decide) c363)
                        obtain ⟨v364, ev364⟩ : ∃ y : Int32, y = (nI k143) + 1 := ⟨_, rfl⟩
                        refine tw_iinc [(2, .int v364), (0, .ref x), (1, .int (nI D)), (3, .ref it328)] 2 dX10_pass_226 rfl (by rw [ev364]; rfl) (by decide) rfl ?_
                        refine tw_goto 53 dX10_pass_229 (by decide) ?_
                        have qv364 := tw_nI3 ev364
                        rw [qv364]
                        refine tw_lv [1, 2, 0] rfl ?_
                        refine tw_less (c2 := 0 + 2 * r144) (n2 := 0 + 8 * r144) (by omega) (by omega) ?_
                        exact ih145 (k143 + 1) _ (by have z := (sp268.trm n263 (sp337.trm n331 sp346)); rw [eg218, eg153, tw_g2_1] at z; exact z) th349 oq350 (by omega) (by omega)
                      · rw [q360r]
                        refine tw_if_eq 226 dX10_pass_159 (by decide) (fun c365 => absurd c365 (by decide)) (fun _ => ?_)
                        refine tw_aload_n 3 dX10_pass_162 rfl rfl ?_
                        have k366 : τ el357 = 27 := k358.resolve_left (fun q => absurd q360j (by rw [q.2.1]; exact Nat.not_lt_zero _))
                        obtain ⟨e367, f368, ⟨F369, rfl, hc370, hc371⟩, un372⟩ := sp346.1 el357 27 k366 (by decide)
                        obtain ⟨y373, hy374, ky375⟩ := hc371 j341 q360j
                        refine tw_br (tw_callF (M := mX10_pass) (pc := 163) (n9 := 0) (ci := 2) tw_next ok_itNext w_1425 w_1423 (fun s H z => z.2.2.2.2.2.2.2.2.2) (by decide +kernel) dX10_pass_163 w_1420 rfl ft347 [] [] rfl rfl ⟨by decide, by decide⟩ (Nat.le_of_ble_eq_true rfl) (c_next d h345 it328 lc_302 el357 j341 (g218.2 3) y373 l342 (g218.1 3) F369 ft347 f356 f368 q360j hc370 hy374) (((0 + 2 * (r144 + 1)) - 1) - 1) (((0 + 8 * (r144 + 1)) - 4) - 4) (by omega) (by omega)) (fun r378 h377 q376 => ?_) (fun E h1 q => q.elim)
                        obtain ⟨q376r, q376e⟩ := q376
                        rw [q376r]
                        have sp379 : tw_sp d τ (tw_rm h334 it328) g218 τ h377 := by rw [q376e]; exact sp346.wl tw_rm_s zt348
                        have f380 : h377 it260 = some (.inr (2, [.int (nI j271), .int l272, .int (g218.1 4), .ref lh_235])) := by rw [q376e, tw_up_n ne333]; exact f353
                        have th381 : tw_th (h377 x) = 0 := by rw [q376e, tw_up_n (tw_nk kx zt348 (by decide))] <;> exact th349
                        have oq382 : h377 o = h o := by rw [q376e, tw_up_n (tw_nk ko zt348 (by decide))] <;> exact oq350
                        have f383 : h377 it328 = some (.inr (2, [.int (nI (j341 + 1)), .int (nI j341), .int (g218.1 3), .ref lc_302])) := by rw [q376e]; exact tw_up_s
                        obtain ⟨e384, f385, r_386, c_387, v_388, o_389, t_390, rfl, k391, k392, k393, k394, k395, k396⟩ := sp379.1 y373 21 ky375 (by decide)
                        refine tw_castS (ci := 11) rfl dX10_pass_168 w_1212 f385 ?_
                        refine tw_astore [(4, .ref y373), (0, .ref x), (1, .int (nI D)), (2, .int (nI k143)), (3, .ref it328)] dX10_pass_171 (by decide) rfl ?_
                        refine tw_aload_n 1 dX10_pass_173 rfl rfl ?_
                        obtain ⟨e397, f398, th_399, td_400, ds_401, fr_402, ca_403, us_404, wo_405, cm_406, lc_407, lh_408, ld_409, rfl, k410, k411, k412, k413, k414, k415, k416, k417, k418, k419, k420, k421, k422, k423, k424, k425, k426, k427⟩ := sp379.1 x 36 kx (by decide)
                        refine tw_get (v := .int td_400) rfl in_14 1 dX10_pass_174 w_1152 rfl (by decide) f398 rfl ?_
                        refine tw_bipush (v := 30) dX10_pass_177 (by decide) ?_
                        refine tw_irem dX10_pass_179 (by decide) ?_
                        refine tw_nmi (fun v428 ev428 => ?_)
                        refine tw_if_ne 197 dX10_pass_180 (by decide) (fun c429 => ?_) (fun c429 => ?_)
                        · refine tw_lconst (v := 0) dX10_pass_197 (by decide) ?_
                          refine tw_lstore [(5, .long 0), (4, .ref y373), (0, .ref x), (1, .int (nI D)), (2, .int (nI k143)), (3, .ref it328)] dX10_pass_198 (by decide) rfl ?_
                          refine tw_aload 1 dX10_pass_200 rfl ?_
                          refine tw_get (v := .ref v_388) rfl in_11 2 dX10_pass_202 w_1221 rfl (by decide) f385 rfl ?_
                          refine tw_iconst (v := 1) dX10_pass_205 (by decide) ?_
                          refine tw_dup2 dX10_pass_206 rfl rfl ?_
                          obtain ⟨e430, f431, F432, rfl⟩ := sp379.1 v_388 31 k391 (by decide)
                          obtain ⟨v433, ev433⟩ : ∃ y : Int64, F432 (1 : Int32).toNatClampNeg = y := ⟨_, rfl⟩
                          refine tw_lald (v := v433) dX10_pass_207 f431 (vp_in_nI (n := 1) (by decide) (by decide)) ev433 ?_
                          refine tw_lload 0 dX10_pass_208 rfl ?_
                          refine tw_lsub dX10_pass_210 ?_
                          refine tw_nml (fun v434 ev434 => ?_)
                          refine tw_last dX10_pass_211 f431 (vp_in_nI (n := 1) (by decide) (by decide)) ?_
                          obtain ⟨h435, eh435⟩ : ∃ z : tw_H, z = tw_up h377 v_388 (.inl (d.2 1, 2, .inr (.inl (vp_updL F432 (1 : Int32).toNatClampNeg v434)))) := ⟨_, rfl⟩
                          rw [← eh435]
                          have th436 : tw_th (h435 x) = 0 := by rw [eh435, tw_up_n (tw_nk kx k391 (by decide))] <;> exact th381
                          have oq437 : h435 o = h o := by rw [eh435, tw_up_n (tw_nk ko k391 (by decide))] <;> exact oq382
                          have sp438 : tw_sp d τ (tw_rm h334 it328) g218 τ h435 := by rw [eh435]; exact sp379.set k391 (by decide) ⟨_, rfl⟩
                          have f439 : h435 it260 = some (.inr (2, [.int (nI j271), .int l272, .int (g218.1 4), .ref lh_235])) := by rw [eh435, tw_up_n (fun q => absurd (z354) (by rw [q, k391]; decide))]; exact f380
                          have f440 : h435 it328 = some (.inr (2, [.int (nI (j341 + 1)), .int (nI j341), .int (g218.1 3), .ref lc_302])) := by rw [eh435, tw_up_n (fun q => absurd (zt348) (by rw [q, k391]; decide))]; exact f383
                          refine tw_aload_n 2 dX10_pass_212 rfl rfl ?_
                          obtain ⟨e441, f442, th_443, td_444, ds_445, fr_446, ca_447, us_448, wo_449, cm_450, lc_451, lh_452, ld_453, rfl, k454, k455, k456, k457, k458, k459, k460, k461, k462, k463, k464, k465, k466, k467, k468, k469, k470, k471⟩ := sp438.1 x 36 kx (by decide)
                          refine tw_get (v := .ref wo_449) rfl in_14 7 dX10_pass_213 w_1158 rfl (by decide) f442 rfl ?_
                          refine tw_iconst (v := 1) dX10_pass_216 (by decide) ?_
                          refine tw_dup2 dX10_pass_217 rfl rfl ?_
                          obtain ⟨e472, f473, F474, rfl⟩ := sp438.1 wo_449 31 k458 (by decide)
                          obtain ⟨v475, ev475⟩ : ∃ y : Int64, F474 (1 : Int32).toNatClampNeg = y := ⟨_, rfl⟩
                          refine tw_lald (v := v475) dX10_pass_218 f473 (vp_in_nI (n := 1) (by decide) (by decide)) ev475 ?_
                          refine tw_lload 0 dX10_pass_219 rfl ?_
                          refine tw_ladd dX10_pass_221 ?_
                          refine tw_nml (fun v476 ev476 => ?_)
                          refine tw_last dX10_pass_222 f473 (vp_in_nI (n := 1) (by decide) (by decide)) ?_
                          obtain ⟨h477, eh477⟩ : ∃ z : tw_H, z = tw_up h435 wo_449 (.inl (d.2 1, 2, .inr (.inl (vp_updL F474 (1 : Int32).toNatClampNeg v476)))) := ⟨_, rfl⟩
                          rw [← eh477]
                          have th478 : tw_th (h477 x) = 0 := by rw [eh477, tw_up_n (tw_nk kx k458 (by decide))] <;> exact th436
                          have oq479 : h477 o = h o := by rw [eh477, tw_up_n (tw_nk ko k458 (by decide))] <;> exact oq437
                          have sp480 : tw_sp d τ (tw_rm h334 it328) g218 τ h477 := by rw [eh477]; exact sp438.set k458 (by decide) ⟨_, rfl⟩
                          have f481 : h477 it260 = some (.inr (2, [.int (nI j271), .int l272, .int (g218.1 4), .ref lh_235])) := by rw [eh477, tw_up_n (fun q => absurd (z354) (by rw [q, k458]; decide))]; exact f439
                          have f482 : h477 it328 = some (.inr (2, [.int (nI (j341 + 1)), .int (nI j341), .int (g218.1 3), .ref lc_302])) := by rw [eh477, tw_up_n (fun q => absurd (zt348) (by rw [q, k458]; decide))]; exact f440
                          refine tw_goto 153 dX10_pass_223 (by decide) ?_
                          refine tw_lv [2, 3, 4, 5] rfl ?_
                          exact ih343 ((j341 + 1)) (nI j341)  _ sp480 f482 zt348 th478 oq479 (by omega) (by omega)
                        · refine tw_aload 0 dX10_pass_183 rfl ?_
                          refine tw_get (v := .ref v_388) rfl in_11 2 dX10_pass_185 w_1221 rfl (by decide) f385 rfl ?_
                          refine tw_iconst (v := 1) dX10_pass_188 (by decide) ?_
                          obtain ⟨e483, f484, F485, rfl⟩ := sp379.1 v_388 31 k391 (by decide)
                          obtain ⟨v486, ev486⟩ : ∃ y : Int64, F485 (1 : Int32).toNatClampNeg = y := ⟨_, rfl⟩
                          refine tw_lald (v := v486) dX10_pass_189 f484 (vp_in_nI (n := 1) (by decide) (by decide)) ev486 ?_
                          refine tw_ldc2 (v := 10000) dX10_pass_190 w_1432 ?_
                          refine tw_ldiv dX10_pass_193 (by decide) ?_
                          refine tw_nml (fun v487 ev487 => ?_)
                          refine tw_goto 198 dX10_pass_194 (by decide) ?_
                          refine tw_lstore [(5, .long v487), (4, .ref y373), (0, .ref x), (1, .int (nI D)), (2, .int (nI k143)), (3, .ref it328)] dX10_pass_198 (by decide) rfl ?_
                          refine tw_aload 1 dX10_pass_200 rfl ?_
                          refine tw_get (v := .ref v_388) rfl in_11 2 dX10_pass_202 w_1221 rfl (by decide) f385 rfl ?_
                          refine tw_iconst (v := 1) dX10_pass_205 (by decide) ?_
                          refine tw_dup2 dX10_pass_206 rfl rfl ?_
                          obtain ⟨v488, ev488⟩ : ∃ y : Int64, F485 (1 : Int32).toNatClampNeg = y := ⟨_, rfl⟩
                          refine tw_lald (v := v488) dX10_pass_207 f484 (vp_in_nI (n := 1) (by decide) (by decide)) ev488 ?_
                          refine tw_lload 0 dX10_pass_208 rfl ?_
                          refine tw_lsub dX10_pass_210 ?_
                          refine tw_nml (fun v489 ev489 => ?_)
                          refine tw_last dX10_pass_211 f484 (vp_in_nI (n := 1) (by decide) (by decide)) ?_
                          obtain ⟨h490, eh490⟩ : ∃ z : tw_H, z = tw_up h377 v_388 (.inl (d.2 1, 2, .inr (.inl (vp_updL F485 (1 : Int32).toNatClampNeg v489)))) := ⟨_, rfl⟩
                          rw [← eh490]
                          have th491 : tw_th (h490 x) = 0 := by rw [eh490, tw_up_n (tw_nk kx k391 (by decide))] <;> exact th381
                          have oq492 : h490 o = h o := by rw [eh490, tw_up_n (tw_nk ko k391 (by decide))] <;> exact oq382
                          have sp493 : tw_sp d τ (tw_rm h334 it328) g218 τ h490 := by rw [eh490]; exact sp379.set k391 (by decide) ⟨_, rfl⟩
                          have f494 : h490 it260 = some (.inr (2, [.int (nI j271), .int l272, .int (g218.1 4), .ref lh_235])) := by rw [eh490, tw_up_n (fun q => absurd (z354) (by rw [q, k391]; decide))]; exact f380
                          have f495 : h490 it328 = some (.inr (2, [.int (nI (j341 + 1)), .int (nI j341), .int (g218.1 3), .ref lc_302])) := by rw [eh490, tw_up_n (fun q => absurd (zt348) (by rw [q, k391]; decide))]; exact f383
                          refine tw_aload_n 2 dX10_pass_212 rfl rfl ?_
                          obtain ⟨e496, f497, th_498, td_499, ds_500, fr_501, ca_502, us_503, wo_504, cm_505, lc_506, lh_507, ld_508, rfl, k509, k510, k511, k512, k513, k514, k515, k516, k517, k518, k519, k520, k521, k522, k523, k524, k525, k526⟩ := sp493.1 x 36 kx (by decide)
                          refine tw_get (v := .ref wo_504) rfl in_14 7 dX10_pass_213 w_1158 rfl (by decide) f497 rfl ?_
                          refine tw_iconst (v := 1) dX10_pass_216 (by decide) ?_
                          refine tw_dup2 dX10_pass_217 rfl rfl ?_
                          obtain ⟨e527, f528, F529, rfl⟩ := sp493.1 wo_504 31 k513 (by decide)
                          obtain ⟨v530, ev530⟩ : ∃ y : Int64, F529 (1 : Int32).toNatClampNeg = y := ⟨_, rfl⟩
                          refine tw_lald (v := v530) dX10_pass_218 f528 (vp_in_nI (n := 1) (by decide) (by decide)) ev530 ?_
                          refine tw_lload 0 dX10_pass_219 rfl ?_
                          refine tw_ladd dX10_pass_221 ?_
                          refine tw_nml (fun v531 ev531 => ?_)
                          refine tw_last dX10_pass_222 f528 (vp_in_nI (n := 1) (by decide) (by decide)) ?_
                          obtain ⟨h532, eh532⟩ : ∃ z : tw_H, z = tw_up h490 wo_504 (.inl (d.2 1, 2, .inr (.inl (vp_updL F529 (1 : Int32).toNatClampNeg v531)))) := ⟨_, rfl⟩
                          rw [← eh532]
                          have th533 : tw_th (h532 x) = 0 := by rw [eh532, tw_up_n (tw_nk kx k513 (by decide))] <;> exact th491
                          have oq534 : h532 o = h o := by rw [eh532, tw_up_n (tw_nk ko k513 (by decide))] <;> exact oq492
                          have sp535 : tw_sp d τ (tw_rm h334 it328) g218 τ h532 := by rw [eh532]; exact sp493.set k513 (by decide) ⟨_, rfl⟩
                          have f536 : h532 it260 = some (.inr (2, [.int (nI j271), .int l272, .int (g218.1 4), .ref lh_235])) := by rw [eh532, tw_up_n (fun q => absurd (z354) (by rw [q, k513]; decide))]; exact f494
                          have f537 : h532 it328 = some (.inr (2, [.int (nI (j341 + 1)), .int (nI j341), .int (g218.1 3), .ref lc_302])) := by rw [eh532, tw_up_n (fun q => absurd (zt348) (by rw [q, k513]; decide))]; exact f495
                          refine tw_goto 153 dX10_pass_223 (by decide) ?_
                          refine tw_lv [2, 3, 4, 5] rfl ?_
                          exact ih343 ((j341 + 1)) (nI j341)  _ sp535 f537 zt348 th533 oq534 (by omega) (by omega)
                  refine tw_lv [1, 2, 3, 0] rfl ?_
                  exact L344 (g218.2 3 + 1) 0 (-1)  _ (tw_sp.rm sp337.1 it328) f339 z332 th335 oq336 (by omega) (Nat.zero_le _)
                · rw [q288r]
                  refine tw_if_eq 145 dX10_pass_82 (by decide) (fun c538 => absurd c538 (by decide)) (fun _ => ?_)
                  refine tw_aload_n 3 dX10_pass_85 rfl rfl ?_
                  have k539 : τ el285 = 28 := k286.resolve_left (fun q => absurd q288j (by rw [q.2.1]; exact Nat.not_lt_zero _))
                  obtain ⟨e540, f541, ⟨F542, rfl, hc543, hc544⟩, un545⟩ := sp276.1 el285 28 k539 (by decide)
                  obtain ⟨y546, hy547, ky548⟩ := hc544 j271 q288j
                  refine tw_br (tw_callF (M := mX10_pass) (pc := 86) (n9 := 0) (ci := 2) tw_next ok_itNext w_1425 w_1423 (fun s H z => z.2.2.2.2.2.2.2.2.2) (by decide +kernel) dX10_pass_86 w_1420 rfl ft277 [] [] rfl rfl ⟨by decide, by decide⟩ (Nat.le_of_ble_eq_true rfl) (c_next d h275 it260 lh_235 el285 j271 (g218.2 4) y546 l272 (g218.1 4) F542 ft277 f284 f541 q288j hc543 hy547) ((0 + 2 * (r144 + 1)) - 1) ((0 + 8 * (r144 + 1)) - 4) (by omega) (by omega)) (fun r551 h550 q549 => ?_) (fun E h1 q => q.elim)
                  obtain ⟨q549r, q549e⟩ := q549
                  rw [q549r]
                  have sp552 : tw_sp d τ (tw_rm h265 it260) g218 τ h550 := by rw [q549e]; exact sp276.wl tw_rm_s zt278
                  have th553 : tw_th (h550 x) = 0 := by rw [q549e, tw_up_n (tw_nk kx zt278 (by decide))] <;> exact th279
                  have oq554 : h550 o = h o := by rw [q549e, tw_up_n (tw_nk ko zt278 (by decide))] <;> exact oq280
                  have f555 : h550 it260 = some (.inr (2, [.int (nI (j271 + 1)), .int (nI j271), .int (g218.1 4), .ref lh_235])) := by rw [q549e]; exact tw_up_s
                  obtain ⟨e556, f557, x_558, y_559, dy_560, p_561, rfl, k562, k563, k564⟩ := sp552.1 y546 23 ky548 (by decide)
                  refine tw_castS (ci := 13) rfl dX10_pass_91 w_1336 f557 ?_
                  refine tw_astore [(4, .ref y546), (0, .ref x), (1, .int (nI D)), (2, .int (nI k143)), (3, .ref it260)] dX10_pass_94 (by decide) rfl ?_
                  refine tw_aload 0 dX10_pass_96 rfl ?_
                  refine tw_get (v := .int x_558) rfl in_13 0 dX10_pass_98 w_1342 rfl (by decide) f557 rfl ?_
                  refine tw_iconst (v := -1) dX10_pass_101 (by decide) ?_
                  refine tw_icmp_ne 76 dX10_pass_102 (by decide) (fun c565 => ?_) (fun c565 => ?_)
                  · refine tw_lv [1, 2, 3, 4] rfl ?_
                    exact ih273 ((j271 + 1)) (nI j271)  _ sp552 f555 zt278 th553 oq554 (by omega) (by omega)
                  · refine tw_aload 0 dX10_pass_105 rfl ?_
                    refine tw_get (v := .int dy_560) rfl in_13 2 dX10_pass_107 w_1346 rfl (by decide) f557 rfl ?_
                    refine tw_aload_n 1 dX10_pass_110 rfl rfl ?_
                    obtain ⟨e566, f567, th_568, td_569, ds_570, fr_571, ca_572, us_573, wo_574, cm_575, lc_576, lh_577, ld_578, rfl, k579, k580, k581, k582, k583, k584, k585, k586, k587, k588, k589, k590, k591, k592, k593, k594, k595, k596⟩ := sp552.1 x 36 kx (by decide)
                    refine tw_get (v := .int td_569) rfl in_14 1 dX10_pass_111 w_1152 rfl (by decide) f567 rfl ?_
                    refine tw_icmp_eq 120 dX10_pass_114 (by decide) (fun c597 => ?_) (fun c597 => ?_)
                    · refine tw_aload 0 dX10_pass_120 rfl ?_
                      refine tw_aload 0 dX10_pass_122 rfl ?_
                      refine tw_get (v := .int y_559) rfl in_13 1 dX10_pass_124 w_1344 rfl (by decide) f557 rfl ?_
                      refine tw_put rfl in_13 tyX9 tyX9_ok nmX9 0 dX10_pass_127 w_1342 rfl (by decide) f557 rfl rfl rfl rfl (Nat.le_of_ble_eq_true rfl) [.int y_559, .int y_559, .int dy_560, .ref p_561] rfl ?_
                      obtain ⟨h598, eh598⟩ : ∃ z : tw_H, z = tw_up h550 y546 (.inr (13, [.int y_559, .int y_559, .int dy_560, .ref p_561])) := ⟨_, rfl⟩
                      rw [← eh598]
                      have th599 : tw_th (h598 x) = 0 := by rw [eh598, tw_up_n (tw_nk kx ky548 (by decide))] <;> exact th553
                      have oq600 : h598 o = h o := by rw [eh598, tw_up_n (tw_nk ko ky548 (by decide))] <;> exact oq554
                      have sp601 : tw_sp d τ (tw_rm h265 it260) g218 τ h598 := by rw [eh598]; exact sp552.set ky548 (by decide) ⟨y_559, y_559, dy_560, p_561, rfl, k562, k564, k564⟩
                      have f602 : h598 it260 = some (.inr (2, [.int (nI (j271 + 1)), .int (nI j271), .int (g218.1 4), .ref lh_235])) := by rw [eh598, tw_up_n (fun q => absurd (zt278) (by rw [q, ky548]; decide))]; exact f555
                      have f603 : h598 y546 = some (.inr (13, [.int y_559, .int y_559, .int dy_560, .ref p_561])) := by rw [eh598]; exact tw_up_s
                      refine tw_aload 0 dX10_pass_130 rfl ?_
                      refine tw_iconst (v := -1) dX10_pass_132 (by decide) ?_
                      refine tw_put rfl in_13 tyX9 tyX9_ok nmX9 1 dX10_pass_133 w_1344 rfl (by decide) f603 rfl rfl rfl rfl (Nat.le_of_ble_eq_true rfl) [.int y_559, .int (-1), .int dy_560, .ref p_561] rfl ?_
                      obtain ⟨h604, eh604⟩ : ∃ z : tw_H, z = tw_up h598 y546 (.inr (13, [.int y_559, .int (-1), .int dy_560, .ref p_561])) := ⟨_, rfl⟩
                      rw [← eh604]
                      have th605 : tw_th (h604 x) = 0 := by rw [eh604, tw_up_n (tw_nk kx ky548 (by decide))] <;> exact th599
                      have oq606 : h604 o = h o := by rw [eh604, tw_up_n (tw_nk ko ky548 (by decide))] <;> exact oq600
                      have sp607 : tw_sp d τ (tw_rm h265 it260) g218 τ h604 := by rw [eh604]; exact sp601.set ky548 (by decide) ⟨y_559, (-1), dy_560, p_561, rfl, k562, k564, (Or.inl rfl)⟩
                      have f608 : h604 it260 = some (.inr (2, [.int (nI (j271 + 1)), .int (nI j271), .int (g218.1 4), .ref lh_235])) := by rw [eh604, tw_up_n (fun q => absurd (zt278) (by rw [q, ky548]; decide))]; exact f602
                      have f609 : h604 y546 = some (.inr (13, [.int y_559, .int (-1), .int dy_560, .ref p_561])) := by rw [eh604]; exact tw_up_s
                      refine tw_aload 0 dX10_pass_136 rfl ?_
                      refine tw_iconst (v := -1) dX10_pass_138 (by decide) ?_
                      refine tw_put rfl in_13 tyX9 tyX9_ok nmX9 2 dX10_pass_139 w_1346 rfl (by decide) f609 rfl rfl rfl rfl (Nat.le_of_ble_eq_true rfl) [.int y_559, .int (-1), .int (-1), .ref p_561] rfl ?_
                      obtain ⟨h610, eh610⟩ : ∃ z : tw_H, z = tw_up h604 y546 (.inr (13, [.int y_559, .int (-1), .int (-1), .ref p_561])) := ⟨_, rfl⟩
                      rw [← eh610]
                      have th611 : tw_th (h610 x) = 0 := by rw [eh610, tw_up_n (tw_nk kx ky548 (by decide))] <;> exact th605
                      have oq612 : h610 o = h o := by rw [eh610, tw_up_n (tw_nk ko ky548 (by decide))] <;> exact oq606
                      have sp613 : tw_sp d τ (tw_rm h265 it260) g218 τ h610 := by rw [eh610]; exact sp607.set ky548 (by decide) ⟨y_559, (-1), (-1), p_561, rfl, k562, k564, (Or.inl rfl)⟩
                      have f614 : h610 it260 = some (.inr (2, [.int (nI (j271 + 1)), .int (nI j271), .int (g218.1 4), .ref lh_235])) := by rw [eh610, tw_up_n (fun q => absurd (zt278) (by rw [q, ky548]; decide))]; exact f608
                      have f615 : h610 y546 = some (.inr (13, [.int y_559, .int (-1), .int (-1), .ref p_561])) := by rw [eh610]; exact tw_up_s
                      refine tw_goto 76 dX10_pass_142 (by decide) ?_
                      refine tw_lv [1, 2, 3, 4] rfl ?_
                      exact ih273 ((j271 + 1)) (nI j271)  _ sp613 f614 zt278 th611 oq612 (by omega) (by omega)
                    · refine tw_goto 76 dX10_pass_117 (by decide) ?_
                      refine tw_lv [1, 2, 3, 4] rfl ?_
                      exact ih273 ((j271 + 1)) (nI j271)  _ sp552 f555 zt278 th553 oq554 (by omega) (by omega)
            refine tw_lv [1, 2, 3, 0] rfl ?_
            exact L274 (g218.2 4 + 1) 0 (-1)  _ (tw_sp.rm sp268.1 it260) f269 z264 th266 oq267 (by omega) (Nat.zero_le _)
      refine tw_lv [1, 2, 0] rfl ?_
      refine tw_less (c2 := 0 + 2 * 401) (n2 := 0 + 8 * 401) (by omega) (by omega) ?_
      exact L146 401 0 _ (by rw [tw_g2_id]; exact sp140) th139 oq141 (by omega) (by omega)
    · have le9 : ¬ g.2 22 + D ≤ 3000 := fun z => c128 ((tw_dle2 k123 ev127 k124 hD4).mpr z)
      refine tw_iconst (v := 1) dX10_pass_37 (by decide) ?_
      refine tw_goto 42 dX10_pass_38 (by decide) ?_
      refine tw_iconst (v := 2) dX10_pass_42 (by decide) ?_
      refine tw_bi (tw_callV (M := mX10_pass) (pc := 43) okX10_refuse dX10_pass_43 w_1204 rfl f97 [.int 1, .int 2] [] rfl rfl ⟨by decide, by decide⟩ (Nat.le_of_ble_eq_true rfl) (c_X10_refuse d g τ h83 sp93.1 x kx 1 2 (by decide)) 802 3208 (Nat.le_of_ble_eq_true rfl) (Nat.le_of_ble_eq_true rfl)) (fun r618 h617 q616 => ?_) (fun E h1 q => q.elim)
      obtain ⟨e619, he620, hs621, hr622, hc623⟩ := q616
      obtain ⟨rz624, tz625⟩ := (hc623 th92).2 rfl
      have th626 : tw_th (h617 x) = 2 := by rw [he620, tw_up_s]; exact tz625
      have sp627 : tw_sp d τ h g τ h617 := by rw [he620]; exact sp93.set kx (by decide) hs621
      rw [rz624]
      have oq628 : h617 o = h o := by rw [he620, tw_up_n (tw_nk ko kx (by decide))] <;> exact oq94
      refine tw_if_eq 51 dX10_pass_46 (by decide) (fun c629 => absurd c629 (by decide)) (fun _ => ?_)
      refine tw_iconst (v := 0) dX10_pass_49 (by decide) ?_
      exact tw_iret dX10_pass_50 rfl (Or.inl ⟨_, rfl, _, _, sp627, oq628, Or.inr (Or.inl ⟨rp, fun z => le9 (by rw [cD] at z; exact z), th626, rfl⟩)⟩)

set_option maxHeartbeats 4000000 in
set_option maxRecDepth 100000 in
theorem c2_X10_isNoMetal (d : tw_D) (g : tw_G) (τ : tw_K) (h : tw_H) (hw : tw_wt d g τ h) (m : Int32) : tw_Ct d mX10_isNoMetal 0 0 [.int m] h (tw_qi (fun r h1 => h1 = h ∧ (r = 1 ∧ ¬ tw_RM m ∨ r = 0 ∧ tw_RM m)) tw_nx) := by
  refine tw_of (by decide +kernel) (Nat.le_of_ble_eq_true rfl) ?_
  show tw_W d mX10_isNoMetal _ 0 [(0, .int m)] [] h 0 0
  have sp0 := tw_sp.rf hw
  refine tw_iload_n 0 dX10_isNoMetal_0 rfl rfl ?_
  refine tw_iconst (v := 0) dX10_isNoMetal_1 (by decide) ?_
  refine tw_iconst (v := 1) dX10_isNoMetal_2 (by decide) ?_
  refine tw_bi (tw_callS (M := mX10_isNoMetal) (pc := 3) okX10_isIn dX10_isNoMetal_3 w_1196 [.int m, .int 0, .int 1] [] rfl rfl ⟨by decide, by decide⟩ (Nat.le_of_ble_eq_true rfl) (c_X10_isIn d g τ h sp0.1 m 0 1) 0 0 (Nat.le_of_ble_eq_true rfl) (Nat.le_of_ble_eq_true rfl)) (fun r3 h2 q1 => ?_) (fun E h1 q => q.elim)
  obtain ⟨q1e, q1d⟩ := q1
  rw [q1e]
  rcases q1d with ⟨q1r, q1n⟩ | ⟨q1r, q1a, q1b⟩
  · rw [q1r]
    refine tw_if_ne 13 dX10_isNoMetal_6 (by decide) (fun c4 => absurd (by decide) c4) (fun _ => ?_)
    refine tw_iconst (v := 1) dX10_isNoMetal_9 (by decide) ?_
    refine tw_goto 14 dX10_isNoMetal_10 (by decide) ?_
    exact tw_zret dX10_isNoMetal_14 rfl rfl (Or.inl ⟨_, rfl, rfl, Or.inl ⟨rfl, fun z => q1n (z.elim (fun q => by rw [q]; decide) (fun q => by rw [q]; decide))⟩⟩)
  · rw [q1r]
    refine tw_if_ne 13 dX10_isNoMetal_6 (by decide) (fun _ => ?_) (fun c5 => absurd c5 (by decide))
    refine tw_iconst (v := 0) dX10_isNoMetal_13 (by decide) ?_
    exact tw_zret dX10_isNoMetal_14 rfl rfl (Or.inl ⟨_, rfl, rfl, Or.inr ⟨rfl, tw_m01 q1a q1b⟩⟩)

set_option maxHeartbeats 4000000 in
set_option maxRecDepth 100000 in
theorem c2_X10_law (d : tw_D) (g : tw_G) (τ : tw_K) (h : tw_H) (hw : tw_wt d g τ h) (x : Nat) (kx : τ x = 36) (n : Int32) (rt : Int32) (ct : Int32) (o : Nat) (ko : τ o = 12) : tw_Ct d mX10_law 0 0 [.ref x, .int n, .int rt, .int ct] h (tw_qi (fun r9 h1 => ∃ g1 τ1, tw_sp d τ h g1 τ1 h1 ∧ h1 o = h o ∧ ((¬ tw_ix (g.2 3) n ∧ tw_th (h1 x) = 1 ∧ g1 = g) ∨ (tw_ix (g.2 3) n ∧ ¬ tw_RL rt ct ∧ tw_th (h1 x) = 2 ∧ g1 = g) ∨ (tw_ix (g.2 3) n ∧ tw_RL rt ct ∧ r9 = g.1 (480 + 64 * tw_DN n) ∧ tw_th (h1 x) = 0 ∧ g1 = tw_g1 (tw_g1 g (480 + 64 * tw_DN n) rt) (480 + 64 * tw_DN n + 1) ct))) tw_nx) := by
  refine tw_of (by decide +kernel) (Nat.le_of_ble_eq_true rfl) ?_
  show tw_W d mX10_law _ 0 [(0, .ref x), (1, .int n), (2, .int rt), (3, .int ct)] [] h 0 0
  have sp0 := tw_sp.rf hw
  have oq0 : h o = h o := rfl
  refine tw_aload_n 0 dX10_law_0 rfl rfl ?_
  refine tw_aload_n 0 dX10_law_1 rfl rfl ?_
  refine tw_iload_n 1 dX10_law_2 rfl rfl ?_
  obtain ⟨e1, f2, th_3, td_4, ds_5, fr_6, ca_7, us_8, wo_9, cm_10, lc_11, lh_12, ld_13, rfl, k14, k15, k16, k17, k18, k19, k20, k21, k22, k23, k24, k25, k26, k27, k28, k29, k30, k31⟩ := sp0.1 x 36 kx (by decide)
  refine tw_bi (tw_callV (M := mX10_law) (pc := 3) okX10_isNoCountry dX10_law_3 w_1292 rfl f2 [.int n] [.ref x] rfl rfl ⟨by decide, by decide⟩ (Nat.le_of_ble_eq_true rfl) (c2_X10_isNoCountry d g τ h sp0.1 x kx n) 0 0 (Nat.le_of_ble_eq_true rfl) (Nat.le_of_ble_eq_true rfl)) (fun r34 h33 q32 => ?_) (fun E h1 q => q.elim)
  obtain ⟨q32e, q32d⟩ := q32
  rw [q32e]
  rcases q32d with ⟨q32r, q32n⟩ | ⟨q32r, q32i⟩
  · rw [q32r]
    refine tw_iconst (v := 1) dX10_law_6 (by decide) ?_
    refine tw_bi (tw_callV (M := mX10_law) (pc := 7) okX10_start dX10_law_7 w_1200 rfl f2 [.int 1, .int 1] [] rfl rfl ⟨by decide, by decide⟩ (Nat.le_of_ble_eq_true rfl) (c_X10_start d g τ h sp0.1 x kx 1 1 (by decide)) 0 0 (Nat.le_of_ble_eq_true rfl) (Nat.le_of_ble_eq_true rfl)) (fun r37 h36 q35 => ?_) (fun E h1 q => q.elim)
    obtain ⟨e38, he39, hs40, hr41, hc42⟩ := q35
    obtain ⟨rz43, tz44⟩ := hc42.2 rfl
    have th45 : tw_th (h36 x) = 1 := by rw [he39, tw_up_s]; exact tz44
    have sp46 : tw_sp d τ h g τ h36 := by rw [he39]; exact sp0.set kx (by decide) hs40
    rw [rz43]
    have oq47 : h36 o = h o := by rw [he39, tw_up_n (tw_nk ko kx (by decide))] <;> exact oq0
    refine tw_if_ne 48 dX10_law_10 (by decide) (fun _ => ?_) (fun c48 => absurd c48 (by decide))
    refine tw_iconst (v := 0) dX10_law_48 (by decide) ?_
    exact tw_iret dX10_law_49 rfl (Or.inl ⟨_, rfl, _, _, sp46, oq47, Or.inl ⟨q32n, th45, rfl⟩⟩)
  · rw [q32r]
    have q32x := q32i
    obtain ⟨jn, q32j, q32k⟩ := q32i
    subst q32k
    have cDn : tw_DN (nI jn) = jn := nI_clamp (by omega)
    have ix0 := q32x
    refine tw_iconst (v := 1) dX10_law_6 (by decide) ?_
    refine tw_bi (tw_callV (M := mX10_law) (pc := 7) okX10_start dX10_law_7 w_1200 rfl f2 [.int 0, .int 1] [] rfl rfl ⟨by decide, by decide⟩ (Nat.le_of_ble_eq_true rfl) (c_X10_start d g τ h sp0.1 x kx 0 1 (by decide)) 0 0 (Nat.le_of_ble_eq_true rfl) (Nat.le_of_ble_eq_true rfl)) (fun r51 h50 q49 => ?_) (fun E h1 q => q.elim)
    obtain ⟨e52, he53, hs54, hr55, hc56⟩ := q49
    obtain ⟨rz57, tz58⟩ := hc56.1 rfl
    have th59 : tw_th (h50 x) = 0 := by rw [he53, tw_up_s]; exact tz58
    have sp60 : tw_sp d τ h g τ h50 := by rw [he53]; exact sp0.set kx (by decide) hs54
    rw [rz57]
    have oq61 : h50 o = h o := by rw [he53, tw_up_n (tw_nk ko kx (by decide))] <;> exact oq0
    refine tw_if_ne 48 dX10_law_10 (by decide) (fun c62 => absurd (by decide) c62) (fun _ => ?_)
    refine tw_aload_n 0 dX10_law_13 rfl rfl ?_
    refine tw_iload_n 2 dX10_law_14 rfl rfl ?_
    refine tw_bipush (v := 100) dX10_law_15 (by decide) ?_
    refine tw_sipush (v := 200) dX10_law_17 (by decide) ?_
    refine tw_bi (tw_callS (M := mX10_law) (pc := 20) okX10_isIn dX10_law_20 w_1196 [.int rt, .int 100, .int 200] [.ref x] rfl rfl ⟨by decide, by decide⟩ (Nat.le_of_ble_eq_true rfl) (c_X10_isIn d g τ h50 sp60.1 rt 100 200) 0 0 (Nat.le_of_ble_eq_true rfl) (Nat.le_of_ble_eq_true rfl)) (fun r65 h64 q63 => ?_) (fun E h1 q => q.elim)
    obtain ⟨q63e, q63d⟩ := q63
    rw [q63e]
    rcases q63d with ⟨q63r, q63n⟩ | ⟨q63r, q63a, q63b⟩
    · rw [q63r]
      refine tw_if_eq 36 dX10_law_23 (by decide) (fun _ => ?_) (fun c66 => absurd (by decide) c66)
      refine tw_iconst (v := 1) dX10_law_36 (by decide) ?_
      refine tw_goto 41 dX10_law_37 (by decide) ?_
      refine tw_iconst (v := 2) dX10_law_41 (by decide) ?_
      obtain ⟨e67, f68, th_69, td_70, ds_71, fr_72, ca_73, us_74, wo_75, cm_76, lc_77, lh_78, ld_79, rfl, k80, k81, k82, k83, k84, k85, k86, k87, k88, k89, k90, k91, k92, k93, k94, k95, k96, k97⟩ := sp60.1 x 36 kx (by decide)
      refine tw_bi (tw_callV (M := mX10_law) (pc := 42) okX10_refuse dX10_law_42 w_1204 rfl f68 [.int 1, .int 2] [] rfl rfl ⟨by decide, by decide⟩ (Nat.le_of_ble_eq_true rfl) (c_X10_refuse d g τ h50 sp60.1 x kx 1 2 (by decide)) 0 0 (Nat.le_of_ble_eq_true rfl) (Nat.le_of_ble_eq_true rfl)) (fun r100 h99 q98 => ?_) (fun E h1 q => q.elim)
      obtain ⟨e101, he102, hs103, hr104, hc105⟩ := q98
      obtain ⟨rz106, tz107⟩ := (hc105 th59).2 rfl
      have th108 : tw_th (h99 x) = 2 := by rw [he102, tw_up_s]; exact tz107
      have sp109 : tw_sp d τ h g τ h99 := by rw [he102]; exact sp60.set kx (by decide) hs103
      rw [rz106]
      have oq110 : h99 o = h o := by rw [he102, tw_up_n (tw_nk ko kx (by decide))] <;> exact oq61
      refine tw_if_eq 50 dX10_law_45 (by decide) (fun c111 => absurd c111 (by decide)) (fun _ => ?_)
      refine tw_iconst (v := 0) dX10_law_48 (by decide) ?_
      exact tw_iret dX10_law_49 rfl (Or.inl ⟨_, rfl, _, _, sp109, oq110, Or.inr (Or.inl ⟨ix0, fun z => q63n z.1, th108, rfl⟩)⟩)
    · rw [q63r]
      refine tw_if_eq 36 dX10_law_23 (by decide) (fun c112 => absurd c112 (by decide)) (fun _ => ?_)
      refine tw_iload_n 3 dX10_law_26 rfl rfl ?_
      refine tw_iconst (v := 0) dX10_law_27 (by decide) ?_
      refine tw_bipush (v := 50) dX10_law_28 (by decide) ?_
      refine tw_bi (tw_callS (M := mX10_law) (pc := 30) okX10_isIn dX10_law_30 w_1196 [.int ct, .int 0, .int 50] [.ref x] rfl rfl ⟨by decide, by decide⟩ (Nat.le_of_ble_eq_true rfl) (c_X10_isIn d g τ h50 sp60.1 ct 0 50) 0 0 (Nat.le_of_ble_eq_true rfl) (Nat.le_of_ble_eq_true rfl)) (fun r115 h114 q113 => ?_) (fun E h1 q => q.elim)
      obtain ⟨q113e, q113d⟩ := q113
      rw [q113e]
      rcases q113d with ⟨q113r, q113n⟩ | ⟨q113r, q113a, q113b⟩
      · rw [q113r]
        refine tw_if_ne 40 dX10_law_33 (by decide) (fun c116 => absurd (by decide) c116) (fun _ => ?_)
        refine tw_iconst (v := 1) dX10_law_36 (by decide) ?_
        refine tw_goto 41 dX10_law_37 (by decide) ?_
        refine tw_iconst (v := 2) dX10_law_41 (by decide) ?_
        obtain ⟨e117, f118, th_119, td_120, ds_121, fr_122, ca_123, us_124, wo_125, cm_126, lc_127, lh_128, ld_129, rfl, k130, k131, k132, k133, k134, k135, k136, k137, k138, k139, k140, k141, k142, k143, k144, k145, k146, k147⟩ := sp60.1 x 36 kx (by decide)
        refine tw_bi (tw_callV (M := mX10_law) (pc := 42) okX10_refuse dX10_law_42 w_1204 rfl f118 [.int 1, .int 2] [] rfl rfl ⟨by decide, by decide⟩ (Nat.le_of_ble_eq_true rfl) (c_X10_refuse d g τ h50 sp60.1 x kx 1 2 (by decide)) 0 0 (Nat.le_of_ble_eq_true rfl) (Nat.le_of_ble_eq_true rfl)) (fun r150 h149 q148 => ?_) (fun E h1 q => q.elim)
        obtain ⟨e151, he152, hs153, hr154, hc155⟩ := q148
        obtain ⟨rz156, tz157⟩ := (hc155 th59).2 rfl
        have th158 : tw_th (h149 x) = 2 := by rw [he152, tw_up_s]; exact tz157
        have sp159 : tw_sp d τ h g τ h149 := by rw [he152]; exact sp60.set kx (by decide) hs153
        rw [rz156]
        have oq160 : h149 o = h o := by rw [he152, tw_up_n (tw_nk ko kx (by decide))] <;> exact oq61
        refine tw_if_eq 50 dX10_law_45 (by decide) (fun c161 => absurd c161 (by decide)) (fun _ => ?_)
        refine tw_iconst (v := 0) dX10_law_48 (by decide) ?_
        exact tw_iret dX10_law_49 rfl (Or.inl ⟨_, rfl, _, _, sp159, oq160, Or.inr (Or.inl ⟨ix0, fun z => q113n z.2, th158, rfl⟩)⟩)
      · rw [q113r]
        refine tw_if_ne 40 dX10_law_33 (by decide) (fun _ => ?_) (fun c162 => absurd c162 (by decide))
        refine tw_iconst (v := 0) dX10_law_40 (by decide) ?_
        refine tw_iconst (v := 2) dX10_law_41 (by decide) ?_
        obtain ⟨e163, f164, th_165, td_166, ds_167, fr_168, ca_169, us_170, wo_171, cm_172, lc_173, lh_174, ld_175, rfl, k176, k177, k178, k179, k180, k181, k182, k183, k184, k185, k186, k187, k188, k189, k190, k191, k192, k193⟩ := sp60.1 x 36 kx (by decide)
        refine tw_bi (tw_callV (M := mX10_law) (pc := 42) okX10_refuse dX10_law_42 w_1204 rfl f164 [.int 0, .int 2] [] rfl rfl ⟨by decide, by decide⟩ (Nat.le_of_ble_eq_true rfl) (c_X10_refuse d g τ h50 sp60.1 x kx 0 2 (by decide)) 0 0 (Nat.le_of_ble_eq_true rfl) (Nat.le_of_ble_eq_true rfl)) (fun r196 h195 q194 => ?_) (fun E h1 q => q.elim)
        obtain ⟨e197, he198, hs199, hr200, hc201⟩ := q194
        obtain ⟨rz202, tz203⟩ := (hc201 th59).1 rfl
        have th204 : tw_th (h195 x) = 0 := by rw [he198, tw_up_s]; exact tz203
        have sp205 : tw_sp d τ h g τ h195 := by rw [he198]; exact sp60.set kx (by decide) hs199
        rw [rz202]
        have oq206 : h195 o = h o := by rw [he198, tw_up_n (tw_nk ko kx (by decide))] <;> exact oq61
        refine tw_if_eq 50 dX10_law_45 (by decide) (fun _ => ?_) (fun c207 => absurd (by decide) c207)
        refine tw_aload_n 0 dX10_law_50 rfl rfl ?_
        obtain ⟨e208, f209, th_210, td_211, ds_212, fr_213, ca_214, us_215, wo_216, cm_217, lc_218, lh_219, ld_220, rfl, k221, k222, k223, k224, k225, k226, k227, k228, k229, k230, k231, k232, k233, k234, k235, k236, k237, k238⟩ := sp205.1 x 36 kx (by decide)
        refine tw_get (v := .ref lc_218) rfl in_14 9 dX10_law_51 w_1160 rfl (by decide) f209 rfl ?_
        refine tw_iload_n 1 dX10_law_54 rfl rfl ?_
        obtain ⟨e239, f240, ⟨el241, rfl, k242⟩, k243⟩ := sp205.1 lc_218 24 k227 (by decide)
        refine tw_br (tw_callV (M := mX10_law) (pc := 55) okJx4a65c_get_915e3 dX10_law_55 w_1296 rfl f240 [.int (nI jn)] [] rfl rfl ⟨by decide, by decide⟩ (Nat.le_of_ble_eq_true rfl) (c24_get d g τ h195 sp205.1 lc_218 k227 jn (by omega) (by omega)) 0 0 (Nat.le_of_ble_eq_true rfl) (Nat.le_of_ble_eq_true rfl)) (fun r246 h245 q244 => ?_) (fun E h1 q => q.elim)
        obtain ⟨q244e, q244k⟩ := q244
        rw [q244e]
        have el247 : tw_el h195 (g.2 12) jn = r246 := by rw [← k243]; exact q244k.2.symm
        have kl248 : τ (g.2 12) = 24 := by rw [← k243]; exact k227
        have id249 : g.2 (4096 + r246) = 480 + 64 * jn := by rw [← el247]; exact tw_eli24 sp205.1 kl248 (by omega)
        obtain ⟨e250, f251, r_252, c_253, v_254, o_255, t_256, rfl, k257, k258, k259, k260, k261, k262⟩ := sp205.1 r246 21 q244k.1 (by decide)
        obtain ⟨j263, ow264, fr9, fc9, q265, q266⟩ := k262
        obtain rfl : jn = j263 := by have z := ow264.b id249; omega
        subst fr9 fc9
        refine tw_castS (ci := 11) rfl dX10_law_58 w_1212 f251 ?_
        refine tw_astore [(4, .ref r246), (0, .ref x), (1, .int (nI jn)), (2, .int rt), (3, .int ct)] dX10_law_61 (by decide) rfl ?_
        refine tw_aload 0 dX10_law_63 rfl ?_
        refine tw_get (v := .int (g.1 (480 + 64 * jn))) rfl in_11 0 dX10_law_65 w_1218 rfl (by decide) f251 rfl ?_
        refine tw_istore [(5, .int (g.1 (480 + 64 * jn))), (4, .ref r246), (0, .ref x), (1, .int (nI jn)), (2, .int rt), (3, .int ct)] dX10_law_68 (by decide) rfl ?_
        refine tw_aload 1 dX10_law_70 rfl ?_
        refine tw_iload_n 4 dX10_law_72 rfl rfl ?_
        refine tw_put rfl in_11 tyX7 tyX7_ok nmX7 0 dX10_law_73 w_1218 rfl (by decide) f251 rfl rfl rfl rfl (Nat.le_of_ble_eq_true rfl) [.int rt, .int (g.1 (480 + 64 * jn + 1)), .ref v_254, .ref o_255, .ref t_256] rfl ?_
        obtain ⟨h267, eh267⟩ : ∃ z : tw_H, z = tw_up h195 r246 (.inr (11, [.int rt, .int (g.1 (480 + 64 * jn + 1)), .ref v_254, .ref o_255, .ref t_256])) := ⟨_, rfl⟩
        rw [← eh267]
        have th268 : tw_th (h267 x) = 0 := by rw [eh267, tw_up_n (tw_nk kx q244k.1 (by decide))] <;> exact th204
        have oq269 : h267 o = h o := by rw [eh267, tw_up_n (tw_nk ko q244k.1 (by decide))] <;> exact oq206
        have sp270 : tw_sp d τ h (tw_g1 g (480 + 64 * jn) rt) τ h267 := by rw [eh267]; exact sp205.wb q244k.1 (by decide) ow264 ⟨rt, (g.1 (480 + 64 * jn + 1)), v_254, o_255, t_256, rfl, k257, k258, k259, q63a, q63b, ⟨jn, ow264, tw_g1_eq.symm, (tw_g1_ne (by omega)).symm, q265, q266⟩⟩ (fun q9 hq9 => tw_g1_ne (by omega)) rfl
        refine tw_aload 1 dX10_law_76 rfl ?_
        refine tw_iload_n 5 dX10_law_78 rfl rfl ?_
        obtain ⟨e271, f272, r_273, c_274, v_275, o_276, t_277, rfl, k278, k279, k280, k281, k282, k283⟩ := sp270.1 r246 21 q244k.1 (by decide)
        obtain ⟨j284, ow285, fr9, fc9, q286, q287⟩ := k283
        obtain rfl : jn = j284 := by have z := ow285.b id249; omega
        subst fr9 fc9
        refine tw_put rfl in_11 tyX7 tyX7_ok nmX7 1 dX10_law_79 w_1219 rfl (by decide) f272 rfl rfl rfl rfl (Nat.le_of_ble_eq_true rfl) [.int ((tw_g1 g (480 + 64 * jn) rt).1 (480 + 64 * jn)), .int ct, .ref v_275, .ref o_276, .ref t_277] rfl ?_
        obtain ⟨h288, eh288⟩ : ∃ z : tw_H, z = tw_up h267 r246 (.inr (11, [.int ((tw_g1 g (480 + 64 * jn) rt).1 (480 + 64 * jn)), .int ct, .ref v_275, .ref o_276, .ref t_277])) := ⟨_, rfl⟩
        rw [← eh288]
        have th289 : tw_th (h288 x) = 0 := by rw [eh288, tw_up_n (tw_nk kx q244k.1 (by decide))] <;> exact th268
        have oq290 : h288 o = h o := by rw [eh288, tw_up_n (tw_nk ko q244k.1 (by decide))] <;> exact oq269
        have sp291 : tw_sp d τ h (tw_g1 (tw_g1 g (480 + 64 * jn) rt) (480 + 64 * jn + 1) ct) τ h288 := by rw [eh288]; exact sp270.wb q244k.1 (by decide) ow285 ⟨((tw_g1 g (480 + 64 * jn) rt).1 (480 + 64 * jn)), ct, v_275, o_276, t_277, rfl, k278, k279, k280, k281, k282, ⟨jn, ow285, (tw_g1_ne (by omega)).symm, tw_g1_eq.symm, q286, q287⟩⟩ (fun q9 hq9 => tw_g1_ne (by omega)) rfl
        refine tw_iload 0 dX10_law_82 rfl ?_
        exact tw_iret dX10_law_84 rfl (Or.inl ⟨_, rfl, _, _, sp291, oq290, Or.inr (Or.inr ⟨ix0, ⟨⟨q63a, q63b⟩, ⟨q113a, q113b⟩⟩, (by rw [cDn]), th289, (by rw [cDn])⟩)⟩)

set_option maxHeartbeats 4000000 in
set_option maxRecDepth 100000 in
theorem c2_X10_gate (d : tw_D) (g : tw_G) (τ : tw_K) (h : tw_H) (hw : tw_wt d g τ h) (x : Nat) (kx : τ x = 36) (n : Int32) (m : Int32) (b : Int32) (kb : tw_01 b) (o : Nat) (ko : τ o = 12) : tw_Ct d mX10_gate 0 0 [.ref x, .int n, .int m, .int b] h (tw_qi (fun r9 h1 => ∃ g1 τ1, tw_sp d τ h g1 τ1 h1 ∧ h1 o = h o ∧ ((¬ tw_ix (g.2 3) n ∧ tw_th (h1 x) = 1 ∧ g1 = g) ∨ (tw_ix (g.2 3) n ∧ ¬ tw_RM m ∧ tw_th (h1 x) = 2 ∧ g1 = g) ∨ (tw_ix (g.2 3) n ∧ tw_RM m ∧ r9 = g.1 (480 + 64 * tw_DN n + 8 + tw_DN m) ∧ tw_th (h1 x) = 0 ∧ g1 = tw_g1 g (480 + 64 * tw_DN n + 8 + tw_DN m) b)) ∧ tw_01 r9) tw_nx) := by
  refine tw_of (by decide +kernel) (Nat.le_of_ble_eq_true rfl) ?_
  show tw_W d mX10_gate _ 0 [(0, .ref x), (1, .int n), (2, .int m), (3, .int b)] [] h 0 0
  have sp0 := tw_sp.rf hw
  have oq0 : h o = h o := rfl
  refine tw_aload_n 0 dX10_gate_0 rfl rfl ?_
  refine tw_aload_n 0 dX10_gate_1 rfl rfl ?_
  refine tw_iload_n 1 dX10_gate_2 rfl rfl ?_
  obtain ⟨e1, f2, th_3, td_4, ds_5, fr_6, ca_7, us_8, wo_9, cm_10, lc_11, lh_12, ld_13, rfl, k14, k15, k16, k17, k18, k19, k20, k21, k22, k23, k24, k25, k26, k27, k28, k29, k30, k31⟩ := sp0.1 x 36 kx (by decide)
  refine tw_bi (tw_callV (M := mX10_gate) (pc := 3) okX10_isNoCountry dX10_gate_3 w_1292 rfl f2 [.int n] [.ref x] rfl rfl ⟨by decide, by decide⟩ (Nat.le_of_ble_eq_true rfl) (c2_X10_isNoCountry d g τ h sp0.1 x kx n) 0 0 (Nat.le_of_ble_eq_true rfl) (Nat.le_of_ble_eq_true rfl)) (fun r34 h33 q32 => ?_) (fun E h1 q => q.elim)
  obtain ⟨q32e, q32d⟩ := q32
  rw [q32e]
  rcases q32d with ⟨q32r, q32n⟩ | ⟨q32r, q32i⟩
  · rw [q32r]
    refine tw_iconst (v := 1) dX10_gate_6 (by decide) ?_
    refine tw_bi (tw_callV (M := mX10_gate) (pc := 7) okX10_start dX10_gate_7 w_1200 rfl f2 [.int 1, .int 1] [] rfl rfl ⟨by decide, by decide⟩ (Nat.le_of_ble_eq_true rfl) (c_X10_start d g τ h sp0.1 x kx 1 1 (by decide)) 0 0 (Nat.le_of_ble_eq_true rfl) (Nat.le_of_ble_eq_true rfl)) (fun r37 h36 q35 => ?_) (fun E h1 q => q.elim)
    obtain ⟨e38, he39, hs40, hr41, hc42⟩ := q35
    obtain ⟨rz43, tz44⟩ := hc42.2 rfl
    have th45 : tw_th (h36 x) = 1 := by rw [he39, tw_up_s]; exact tz44
    have sp46 : tw_sp d τ h g τ h36 := by rw [he39]; exact sp0.set kx (by decide) hs40
    rw [rz43]
    have oq47 : h36 o = h o := by rw [he39, tw_up_n (tw_nk ko kx (by decide))] <;> exact oq0
    refine tw_if_ne 25 dX10_gate_10 (by decide) (fun _ => ?_) (fun c48 => absurd c48 (by decide))
    refine tw_iconst (v := 0) dX10_gate_25 (by decide) ?_
    exact tw_zret dX10_gate_26 rfl rfl (Or.inl ⟨_, rfl, _, _, sp46, oq47, Or.inl ⟨q32n, th45, rfl⟩, by unfold tw_01; decide⟩)
  · rw [q32r]
    have q32x := q32i
    obtain ⟨jn, q32j, q32k⟩ := q32i
    subst q32k
    have cDn : tw_DN (nI jn) = jn := nI_clamp (by omega)
    have ix0 := q32x
    refine tw_iconst (v := 1) dX10_gate_6 (by decide) ?_
    refine tw_bi (tw_callV (M := mX10_gate) (pc := 7) okX10_start dX10_gate_7 w_1200 rfl f2 [.int 0, .int 1] [] rfl rfl ⟨by decide, by decide⟩ (Nat.le_of_ble_eq_true rfl) (c_X10_start d g τ h sp0.1 x kx 0 1 (by decide)) 0 0 (Nat.le_of_ble_eq_true rfl) (Nat.le_of_ble_eq_true rfl)) (fun r51 h50 q49 => ?_) (fun E h1 q => q.elim)
    obtain ⟨e52, he53, hs54, hr55, hc56⟩ := q49
    obtain ⟨rz57, tz58⟩ := hc56.1 rfl
    have th59 : tw_th (h50 x) = 0 := by rw [he53, tw_up_s]; exact tz58
    have sp60 : tw_sp d τ h g τ h50 := by rw [he53]; exact sp0.set kx (by decide) hs54
    rw [rz57]
    have oq61 : h50 o = h o := by rw [he53, tw_up_n (tw_nk ko kx (by decide))] <;> exact oq0
    refine tw_if_ne 25 dX10_gate_10 (by decide) (fun c62 => absurd (by decide) c62) (fun _ => ?_)
    refine tw_aload_n 0 dX10_gate_13 rfl rfl ?_
    refine tw_iload_n 2 dX10_gate_14 rfl rfl ?_
    refine tw_bi (tw_callS (M := mX10_gate) (pc := 15) okX10_isNoMetal dX10_gate_15 w_1312 [.int m] [.ref x] rfl rfl ⟨by decide, by decide⟩ (Nat.le_of_ble_eq_true rfl) (c2_X10_isNoMetal d g τ h50 sp60.1 m) 0 0 (Nat.le_of_ble_eq_true rfl) (Nat.le_of_ble_eq_true rfl)) (fun r65 h64 q63 => ?_) (fun E h1 q => q.elim)
    obtain ⟨q63e, q63d⟩ := q63
    rw [q63e]
    rcases q63d with ⟨q63r, q63n⟩ | ⟨q63r, q63i⟩
    · rw [q63r]
      refine tw_iconst (v := 2) dX10_gate_18 (by decide) ?_
      obtain ⟨e66, f67, th_68, td_69, ds_70, fr_71, ca_72, us_73, wo_74, cm_75, lc_76, lh_77, ld_78, rfl, k79, k80, k81, k82, k83, k84, k85, k86, k87, k88, k89, k90, k91, k92, k93, k94, k95, k96⟩ := sp60.1 x 36 kx (by decide)
      refine tw_bi (tw_callV (M := mX10_gate) (pc := 19) okX10_refuse dX10_gate_19 w_1204 rfl f67 [.int 1, .int 2] [] rfl rfl ⟨by decide, by decide⟩ (Nat.le_of_ble_eq_true rfl) (c_X10_refuse d g τ h50 sp60.1 x kx 1 2 (by decide)) 0 0 (Nat.le_of_ble_eq_true rfl) (Nat.le_of_ble_eq_true rfl)) (fun r99 h98 q97 => ?_) (fun E h1 q => q.elim)
      obtain ⟨e100, he101, hs102, hr103, hc104⟩ := q97
      obtain ⟨rz105, tz106⟩ := (hc104 th59).2 rfl
      have th107 : tw_th (h98 x) = 2 := by rw [he101, tw_up_s]; exact tz106
      have sp108 : tw_sp d τ h g τ h98 := by rw [he101]; exact sp60.set kx (by decide) hs102
      rw [rz105]
      have oq109 : h98 o = h o := by rw [he101, tw_up_n (tw_nk ko kx (by decide))] <;> exact oq61
      refine tw_if_eq 27 dX10_gate_22 (by decide) (fun c110 => absurd c110 (by decide)) (fun _ => ?_)
      refine tw_iconst (v := 0) dX10_gate_25 (by decide) ?_
      exact tw_zret dX10_gate_26 rfl rfl (Or.inl ⟨_, rfl, _, _, sp108, oq109, Or.inr (Or.inl ⟨ix0, q63n, th107, rfl⟩), by unfold tw_01; decide⟩)
    · rw [q63r]
      have rc := q63i
      obtain ⟨k, hk, km⟩ := q63i.k
      subst km
      have cDm : tw_DN (nI k) = k := nI_clamp (by omega)
      refine tw_iconst (v := 2) dX10_gate_18 (by decide) ?_
      obtain ⟨e111, f112, th_113, td_114, ds_115, fr_116, ca_117, us_118, wo_119, cm_120, lc_121, lh_122, ld_123, rfl, k124, k125, k126, k127, k128, k129, k130, k131, k132, k133, k134, k135, k136, k137, k138, k139, k140, k141⟩ := sp60.1 x 36 kx (by decide)
      refine tw_bi (tw_callV (M := mX10_gate) (pc := 19) okX10_refuse dX10_gate_19 w_1204 rfl f112 [.int 0, .int 2] [] rfl rfl ⟨by decide, by decide⟩ (Nat.le_of_ble_eq_true rfl) (c_X10_refuse d g τ h50 sp60.1 x kx 0 2 (by decide)) 0 0 (Nat.le_of_ble_eq_true rfl) (Nat.le_of_ble_eq_true rfl)) (fun r144 h143 q142 => ?_) (fun E h1 q => q.elim)
      obtain ⟨e145, he146, hs147, hr148, hc149⟩ := q142
      obtain ⟨rz150, tz151⟩ := (hc149 th59).1 rfl
      have th152 : tw_th (h143 x) = 0 := by rw [he146, tw_up_s]; exact tz151
      have sp153 : tw_sp d τ h g τ h143 := by rw [he146]; exact sp60.set kx (by decide) hs147
      rw [rz150]
      have oq154 : h143 o = h o := by rw [he146, tw_up_n (tw_nk ko kx (by decide))] <;> exact oq61
      refine tw_if_eq 27 dX10_gate_22 (by decide) (fun _ => ?_) (fun c155 => absurd (by decide) c155)
      refine tw_aload_n 0 dX10_gate_27 rfl rfl ?_
      obtain ⟨e156, f157, th_158, td_159, ds_160, fr_161, ca_162, us_163, wo_164, cm_165, lc_166, lh_167, ld_168, rfl, k169, k170, k171, k172, k173, k174, k175, k176, k177, k178, k179, k180, k181, k182, k183, k184, k185, k186⟩ := sp153.1 x 36 kx (by decide)
      refine tw_get (v := .ref lc_166) rfl in_14 9 dX10_gate_28 w_1160 rfl (by decide) f157 rfl ?_
      refine tw_iload_n 1 dX10_gate_31 rfl rfl ?_
      obtain ⟨e187, f188, ⟨el189, rfl, k190⟩, k191⟩ := sp153.1 lc_166 24 k175 (by decide)
      refine tw_br (tw_callV (M := mX10_gate) (pc := 32) okJx4a65c_get_915e3 dX10_gate_32 w_1296 rfl f188 [.int (nI jn)] [] rfl rfl ⟨by decide, by decide⟩ (Nat.le_of_ble_eq_true rfl) (c24_get d g τ h143 sp153.1 lc_166 k175 jn (by omega) (by omega)) 0 0 (Nat.le_of_ble_eq_true rfl) (Nat.le_of_ble_eq_true rfl)) (fun r194 h193 q192 => ?_) (fun E h1 q => q.elim)
      obtain ⟨q192e, q192k⟩ := q192
      rw [q192e]
      have el195 : tw_el h143 (g.2 12) jn = r194 := by rw [← k191]; exact q192k.2.symm
      have kl196 : τ (g.2 12) = 24 := by rw [← k191]; exact k175
      have id197 : g.2 (4096 + r194) = 480 + 64 * jn := by rw [← el195]; exact tw_eli24 sp153.1 kl196 (by omega)
      obtain ⟨e198, f199, r_200, c_201, v_202, o_203, t_204, rfl, k205, k206, k207, k208, k209, k210⟩ := sp153.1 r194 21 q192k.1 (by decide)
      obtain ⟨j211, ow212, fr9, fc9, q213, q214⟩ := k210
      obtain rfl : jn = j211 := by have z := ow212.b id197; omega
      subst fr9 fc9
      refine tw_castS (ci := 11) rfl dX10_gate_35 w_1212 f199 ?_
      refine tw_get (v := .ref o_203) rfl in_11 3 dX10_gate_38 w_1223 rfl (by decide) f199 rfl ?_
      refine tw_iload_n 2 dX10_gate_41 rfl rfl ?_
      obtain ⟨e215, f216, F217, rfl, k219, ⟨b220, ow221, wv222⟩⟩ := sp153.1 o_203 32 k206 (by decide)
      obtain rfl : b220 = (480 + 64 * jn + 8) := ow221.b q213
      have ev223 : F217 ((nI k)).toNatClampNeg = (g.1 ((480 + 64 * jn + 8) + k)) := by rw [nI_clamp (by omega)]; exact wv222 k (by omega)
      refine tw_zald (v := (g.1 ((480 + 64 * jn + 8) + k))) dX10_gate_42 f216 (vp_in_nI (by omega) (by decide)) ev223 ?_
      refine tw_istore [(4, .int (g.1 ((480 + 64 * jn + 8) + k))), (0, .ref x), (1, .int (nI jn)), (2, .int (nI k)), (3, .int b)] dX10_gate_43 (by decide) rfl ?_
      refine tw_aload_n 1 dX10_gate_45 rfl rfl ?_
      refine tw_get (v := .ref lc_166) rfl in_14 9 dX10_gate_46 w_1160 rfl (by decide) f157 rfl ?_
      refine tw_iload_n 2 dX10_gate_49 rfl rfl ?_
      refine tw_br (tw_callV (M := mX10_gate) (pc := 50) okJx4a65c_get_915e3 dX10_gate_50 w_1296 rfl f188 [.int (nI jn)] [] rfl rfl ⟨by decide, by decide⟩ (Nat.le_of_ble_eq_true rfl) (c24_get d g τ h143 sp153.1 lc_166 k175 jn (by omega) (by omega)) 0 0 (Nat.le_of_ble_eq_true rfl) (Nat.le_of_ble_eq_true rfl)) (fun r226 h225 q224 => ?_) (fun E h1 q => q.elim)
      obtain ⟨q224e, q224k⟩ := q224
      rw [q224e]
      have q224ky : r226 = r194 := q224k.2.trans (by rw [k191]; exact el195)
      rw [q224ky]
      refine tw_castS (ci := 11) rfl dX10_gate_53 w_1212 f199 ?_
      refine tw_get (v := .ref o_203) rfl in_11 3 dX10_gate_56 w_1223 rfl (by decide) f199 rfl ?_
      refine tw_iload_n 3 dX10_gate_59 rfl rfl ?_
      refine tw_iload_n 4 dX10_gate_60 rfl rfl ?_
      refine tw_zast dX10_gate_61 f216 (vp_in_nI (by omega) (by decide)) ?_
      have nr227 : vp_nar .boolean b = b := tw_vpn kb
      rw [nr227]
      rw [nI_clamp (by omega)]
      obtain ⟨h228, eh228⟩ : ∃ z : tw_H, z = tw_up h143 o_203 (.inl (d.2 2, 2, .inl (upd F217 k b))) := ⟨_, rfl⟩
      rw [← eh228]
      have th229 : tw_th (h228 x) = 0 := by rw [eh228, tw_up_n (tw_nk kx k206 (by decide))] <;> exact th152
      have oq230 : h228 o = h o := by rw [eh228, tw_up_n (tw_nk ko k206 (by decide))] <;> exact oq154
      have sp231 : tw_sp d τ h (tw_g1 g ((480 + 64 * jn + 8) + k) b) τ h228 := by rw [eh228]; exact sp153.wb k206 (by decide) ow221 ⟨_, rfl, tw_01up k219 kb, tw_f6.up ow221 wv222⟩ (fun q9 hq9 => tw_g1_ne (by omega)) rfl
      refine tw_iload 0 dX10_gate_62 rfl ?_
      exact tw_zret dX10_gate_64 rfl (tw_nar01 (by rw [← ev223]; exact k219 _)) (Or.inl ⟨_, rfl, _, _, sp231, oq230, Or.inr (Or.inr ⟨ix0, rc, (by rw [cDn, cDm]), th229, (by rw [cDn, cDm])⟩), (by rw [← ev223]; exact k219 _)⟩)

set_option maxHeartbeats 4000000 in
set_option maxRecDepth 100000 in
theorem c2_X10_road (d : tw_D) (g : tw_G) (τ : tw_K) (h : tw_H) (hw : tw_wt d g τ h) (x : Nat) (kx : τ x = 36) (a : Int32) (b : Int32) (dy : Int32) (fr : Int32) (o : Nat) (ko : τ o = 12) : tw_Ct d mX10_road 0 0 [.ref x, .int a, .int b, .int dy, .int fr] h (tw_qi (fun r9 h1 => ∃ g1 τ1, tw_sp d τ h g1 τ1 h1 ∧ h1 o = h o ∧ ((¬ (tw_ix (g.2 3) a ∧ tw_ix (g.2 3) b) ∧ tw_th (h1 x) = 1 ∧ g1 = g) ∨ ((tw_ix (g.2 3) a ∧ tw_ix (g.2 3) b) ∧ ¬ tw_RD a b dy fr ∧ tw_th (h1 x) = 2 ∧ g1 = g) ∨ ((tw_ix (g.2 3) a ∧ tw_ix (g.2 3) b) ∧ tw_RD a b dy fr ∧ r9 = g.1 (416 + 8 * tw_DN a + tw_DN b) ∧ tw_th (h1 x) = 0 ∧ g1 = tw_g1 (tw_g1 (tw_g1 (tw_g1 g (416 + 8 * tw_DN a + tw_DN b) dy) (416 + 8 * tw_DN b + tw_DN a) dy) (448 + 8 * tw_DN a + tw_DN b) fr) (448 + 8 * tw_DN b + tw_DN a) fr))) tw_nx) := by
  refine tw_of (by decide +kernel) (Nat.le_of_ble_eq_true rfl) ?_
  show tw_W d mX10_road _ 0 [(0, .ref x), (1, .int a), (2, .int b), (3, .int dy), (4, .int fr)] [] h 0 0
  have sp0 := tw_sp.rf hw
  have oq0 : h o = h o := rfl
  refine tw_aload_n 0 dX10_road_0 rfl rfl ?_
  refine tw_aload_n 0 dX10_road_1 rfl rfl ?_
  refine tw_iload_n 1 dX10_road_2 rfl rfl ?_
  obtain ⟨e1, f2, th_3, td_4, ds_5, fr_6, ca_7, us_8, wo_9, cm_10, lc_11, lh_12, ld_13, rfl, k14, k15, k16, k17, k18, k19, k20, k21, k22, k23, k24, k25, k26, k27, k28, k29, k30, k31⟩ := sp0.1 x 36 kx (by decide)
  refine tw_bi (tw_callV (M := mX10_road) (pc := 3) okX10_isNoCountry dX10_road_3 w_1292 rfl f2 [.int a] [.ref x] rfl rfl ⟨by decide, by decide⟩ (Nat.le_of_ble_eq_true rfl) (c2_X10_isNoCountry d g τ h sp0.1 x kx a) 0 0 (Nat.le_of_ble_eq_true rfl) (Nat.le_of_ble_eq_true rfl)) (fun r34 h33 q32 => ?_) (fun E h1 q => q.elim)
  obtain ⟨q32e, q32d⟩ := q32
  rw [q32e]
  rcases q32d with ⟨q32r, q32n⟩ | ⟨q32r, q32i⟩
  · rw [q32r]
    refine tw_if_ne 17 dX10_road_6 (by decide) (fun _ => ?_) (fun c35 => absurd c35 (by decide))
    refine tw_iconst (v := 1) dX10_road_17 (by decide) ?_
    refine tw_goto 22 dX10_road_18 (by decide) ?_
    refine tw_iconst (v := 1) dX10_road_22 (by decide) ?_
    refine tw_bi (tw_callV (M := mX10_road) (pc := 23) okX10_start dX10_road_23 w_1200 rfl f2 [.int 1, .int 1] [] rfl rfl ⟨by decide, by decide⟩ (Nat.le_of_ble_eq_true rfl) (c_X10_start d g τ h sp0.1 x kx 1 1 (by decide)) 0 0 (Nat.le_of_ble_eq_true rfl) (Nat.le_of_ble_eq_true rfl)) (fun r38 h37 q36 => ?_) (fun E h1 q => q.elim)
    obtain ⟨e39, he40, hs41, hr42, hc43⟩ := q36
    obtain ⟨rz44, tz45⟩ := hc43.2 rfl
    have th46 : tw_th (h37 x) = 1 := by rw [he40, tw_up_s]; exact tz45
    have sp47 : tw_sp d τ h g τ h37 := by rw [he40]; exact sp0.set kx (by decide) hs41
    rw [rz44]
    have oq48 : h37 o = h o := by rw [he40, tw_up_n (tw_nk ko kx (by decide))] <;> exact oq0
    refine tw_if_ne 68 dX10_road_26 (by decide) (fun _ => ?_) (fun c49 => absurd c49 (by decide))
    refine tw_iconst (v := 0) dX10_road_68 (by decide) ?_
    exact tw_iret dX10_road_69 rfl (Or.inl ⟨_, rfl, _, _, sp47, oq48, Or.inl ⟨fun z => q32n z.1, th46, rfl⟩⟩)
  · rw [q32r]
    have q32x := q32i
    obtain ⟨ja, q32j, q32k⟩ := q32i
    subst q32k
    have cDa : tw_DN (nI ja) = ja := nI_clamp (by omega)
    refine tw_if_ne 17 dX10_road_6 (by decide) (fun c50 => absurd (by decide) c50) (fun _ => ?_)
    refine tw_aload_n 0 dX10_road_9 rfl rfl ?_
    refine tw_iload_n 2 dX10_road_10 rfl rfl ?_
    refine tw_bi (tw_callV (M := mX10_road) (pc := 11) okX10_isNoCountry dX10_road_11 w_1292 rfl f2 [.int b] [.ref x] rfl rfl ⟨by decide, by decide⟩ (Nat.le_of_ble_eq_true rfl) (c2_X10_isNoCountry d g τ h sp0.1 x kx b) 0 0 (Nat.le_of_ble_eq_true rfl) (Nat.le_of_ble_eq_true rfl)) (fun r53 h52 q51 => ?_) (fun E h1 q => q.elim)
    obtain ⟨q51e, q51d⟩ := q51
    rw [q51e]
    rcases q51d with ⟨q51r, q51n⟩ | ⟨q51r, q51i⟩
    · rw [q51r]
      refine tw_if_eq 21 dX10_road_14 (by decide) (fun c54 => absurd c54 (by decide)) (fun _ => ?_)
      refine tw_iconst (v := 1) dX10_road_17 (by decide) ?_
      refine tw_goto 22 dX10_road_18 (by decide) ?_
      refine tw_iconst (v := 1) dX10_road_22 (by decide) ?_
      refine tw_bi (tw_callV (M := mX10_road) (pc := 23) okX10_start dX10_road_23 w_1200 rfl f2 [.int 1, .int 1] [] rfl rfl ⟨by decide, by decide⟩ (Nat.le_of_ble_eq_true rfl) (c_X10_start d g τ h sp0.1 x kx 1 1 (by decide)) 0 0 (Nat.le_of_ble_eq_true rfl) (Nat.le_of_ble_eq_true rfl)) (fun r57 h56 q55 => ?_) (fun E h1 q => q.elim)
      obtain ⟨e58, he59, hs60, hr61, hc62⟩ := q55
      obtain ⟨rz63, tz64⟩ := hc62.2 rfl
      have th65 : tw_th (h56 x) = 1 := by rw [he59, tw_up_s]; exact tz64
      have sp66 : tw_sp d τ h g τ h56 := by rw [he59]; exact sp0.set kx (by decide) hs60
      rw [rz63]
      have oq67 : h56 o = h o := by rw [he59, tw_up_n (tw_nk ko kx (by decide))] <;> exact oq0
      refine tw_if_ne 68 dX10_road_26 (by decide) (fun _ => ?_) (fun c68 => absurd c68 (by decide))
      refine tw_iconst (v := 0) dX10_road_68 (by decide) ?_
      exact tw_iret dX10_road_69 rfl (Or.inl ⟨_, rfl, _, _, sp66, oq67, Or.inl ⟨fun z => q51n z.2, th65, rfl⟩⟩)
    · rw [q51r]
      have q51x := q51i
      obtain ⟨jb, q51j, q51k⟩ := q51i
      subst q51k
      have cDb : tw_DN (nI jb) = jb := nI_clamp (by omega)
      have ix0 := And.intro q32x q51x
      refine tw_if_eq 21 dX10_road_14 (by decide) (fun _ => ?_) (fun c69 => absurd (by decide) c69)
      refine tw_iconst (v := 0) dX10_road_21 (by decide) ?_
      refine tw_iconst (v := 1) dX10_road_22 (by decide) ?_
      refine tw_bi (tw_callV (M := mX10_road) (pc := 23) okX10_start dX10_road_23 w_1200 rfl f2 [.int 0, .int 1] [] rfl rfl ⟨by decide, by decide⟩ (Nat.le_of_ble_eq_true rfl) (c_X10_start d g τ h sp0.1 x kx 0 1 (by decide)) 0 0 (Nat.le_of_ble_eq_true rfl) (Nat.le_of_ble_eq_true rfl)) (fun r72 h71 q70 => ?_) (fun E h1 q => q.elim)
      obtain ⟨e73, he74, hs75, hr76, hc77⟩ := q70
      obtain ⟨rz78, tz79⟩ := hc77.1 rfl
      have th80 : tw_th (h71 x) = 0 := by rw [he74, tw_up_s]; exact tz79
      have sp81 : tw_sp d τ h g τ h71 := by rw [he74]; exact sp0.set kx (by decide) hs75
      rw [rz78]
      have oq82 : h71 o = h o := by rw [he74, tw_up_n (tw_nk ko kx (by decide))] <;> exact oq0
      refine tw_if_ne 68 dX10_road_26 (by decide) (fun c83 => absurd (by decide) c83) (fun _ => ?_)
      refine tw_aload_n 0 dX10_road_29 rfl rfl ?_
      refine tw_iload_n 1 dX10_road_30 rfl rfl ?_
      refine tw_iload_n 2 dX10_road_31 rfl rfl ?_
      refine tw_icmp_eq 56 dX10_road_32 (by decide) (fun c84 => ?_) (fun c84 => ?_)
      · refine tw_iconst (v := 1) dX10_road_56 (by decide) ?_
        refine tw_goto 61 dX10_road_57 (by decide) ?_
        refine tw_iconst (v := 2) dX10_road_61 (by decide) ?_
        obtain ⟨e85, f86, th_87, td_88, ds_89, fr_90, ca_91, us_92, wo_93, cm_94, lc_95, lh_96, ld_97, rfl, k98, k99, k100, k101, k102, k103, k104, k105, k106, k107, k108, k109, k110, k111, k112, k113, k114, k115⟩ := sp81.1 x 36 kx (by decide)
        refine tw_bi (tw_callV (M := mX10_road) (pc := 62) okX10_refuse dX10_road_62 w_1204 rfl f86 [.int 1, .int 2] [] rfl rfl ⟨by decide, by decide⟩ (Nat.le_of_ble_eq_true rfl) (c_X10_refuse d g τ h71 sp81.1 x kx 1 2 (by decide)) 0 0 (Nat.le_of_ble_eq_true rfl) (Nat.le_of_ble_eq_true rfl)) (fun r118 h117 q116 => ?_) (fun E h1 q => q.elim)
        obtain ⟨e119, he120, hs121, hr122, hc123⟩ := q116
        obtain ⟨rz124, tz125⟩ := (hc123 th80).2 rfl
        have th126 : tw_th (h117 x) = 2 := by rw [he120, tw_up_s]; exact tz125
        have sp127 : tw_sp d τ h g τ h117 := by rw [he120]; exact sp81.set kx (by decide) hs121
        rw [rz124]
        have oq128 : h117 o = h o := by rw [he120, tw_up_n (tw_nk ko kx (by decide))] <;> exact oq82
        refine tw_if_eq 70 dX10_road_65 (by decide) (fun c129 => absurd c129 (by decide)) (fun _ => ?_)
        refine tw_iconst (v := 0) dX10_road_68 (by decide) ?_
        exact tw_iret dX10_road_69 rfl (Or.inl ⟨_, rfl, _, _, sp127, oq128, Or.inr (Or.inl ⟨ix0, fun z => z.1 c84, th126, rfl⟩)⟩)
      · refine tw_iload_n 3 dX10_road_35 rfl rfl ?_
        refine tw_iconst (v := 1) dX10_road_36 (by decide) ?_
        refine tw_bipush (v := 30) dX10_road_37 (by decide) ?_
        refine tw_bi (tw_callS (M := mX10_road) (pc := 39) okX10_isIn dX10_road_39 w_1196 [.int dy, .int 1, .int 30] [.ref x] rfl rfl ⟨by decide, by decide⟩ (Nat.le_of_ble_eq_true rfl) (c_X10_isIn d g τ h71 sp81.1 dy 1 30) 0 0 (Nat.le_of_ble_eq_true rfl) (Nat.le_of_ble_eq_true rfl)) (fun r132 h131 q130 => ?_) (fun E h1 q => q.elim)
        obtain ⟨q130e, q130d⟩ := q130
        rw [q130e]
        rcases q130d with ⟨q130r, q130n⟩ | ⟨q130r, q130a, q130b⟩
        · rw [q130r]
          refine tw_if_eq 56 dX10_road_42 (by decide) (fun _ => ?_) (fun c133 => absurd (by decide) c133)
          refine tw_iconst (v := 1) dX10_road_56 (by decide) ?_
          refine tw_goto 61 dX10_road_57 (by decide) ?_
          refine tw_iconst (v := 2) dX10_road_61 (by decide) ?_
          obtain ⟨e134, f135, th_136, td_137, ds_138, fr_139, ca_140, us_141, wo_142, cm_143, lc_144, lh_145, ld_146, rfl, k147, k148, k149, k150, k151, k152, k153, k154, k155, k156, k157, k158, k159, k160, k161, k162, k163, k164⟩ := sp81.1 x 36 kx (by decide)
          refine tw_bi (tw_callV (M := mX10_road) (pc := 62) okX10_refuse dX10_road_62 w_1204 rfl f135 [.int 1, .int 2] [] rfl rfl ⟨by decide, by decide⟩ (Nat.le_of_ble_eq_true rfl) (c_X10_refuse d g τ h71 sp81.1 x kx 1 2 (by decide)) 0 0 (Nat.le_of_ble_eq_true rfl) (Nat.le_of_ble_eq_true rfl)) (fun r167 h166 q165 => ?_) (fun E h1 q => q.elim)
          obtain ⟨e168, he169, hs170, hr171, hc172⟩ := q165
          obtain ⟨rz173, tz174⟩ := (hc172 th80).2 rfl
          have th175 : tw_th (h166 x) = 2 := by rw [he169, tw_up_s]; exact tz174
          have sp176 : tw_sp d τ h g τ h166 := by rw [he169]; exact sp81.set kx (by decide) hs170
          rw [rz173]
          have oq177 : h166 o = h o := by rw [he169, tw_up_n (tw_nk ko kx (by decide))] <;> exact oq82
          refine tw_if_eq 70 dX10_road_65 (by decide) (fun c178 => absurd c178 (by decide)) (fun _ => ?_)
          refine tw_iconst (v := 0) dX10_road_68 (by decide) ?_
          exact tw_iret dX10_road_69 rfl (Or.inl ⟨_, rfl, _, _, sp176, oq177, Or.inr (Or.inl ⟨ix0, fun z => q130n z.2.1, th175, rfl⟩)⟩)
        · rw [q130r]
          refine tw_if_eq 56 dX10_road_42 (by decide) (fun c179 => absurd c179 (by decide)) (fun _ => ?_)
          refine tw_iload 4 dX10_road_45 rfl ?_
          refine tw_iconst (v := 0) dX10_road_47 (by decide) ?_
          refine tw_bipush (v := 100) dX10_road_48 (by decide) ?_
          refine tw_bi (tw_callS (M := mX10_road) (pc := 50) okX10_isIn dX10_road_50 w_1196 [.int fr, .int 0, .int 100] [.ref x] rfl rfl ⟨by decide, by decide⟩ (Nat.le_of_ble_eq_true rfl) (c_X10_isIn d g τ h71 sp81.1 fr 0 100) 0 0 (Nat.le_of_ble_eq_true rfl) (Nat.le_of_ble_eq_true rfl)) (fun r182 h181 q180 => ?_) (fun E h1 q => q.elim)
          obtain ⟨q180e, q180d⟩ := q180
          rw [q180e]
          rcases q180d with ⟨q180r, q180n⟩ | ⟨q180r, q180a, q180b⟩
          · rw [q180r]
            refine tw_if_ne 60 dX10_road_53 (by decide) (fun c183 => absurd (by decide) c183) (fun _ => ?_)
            refine tw_iconst (v := 1) dX10_road_56 (by decide) ?_
            refine tw_goto 61 dX10_road_57 (by decide) ?_
            refine tw_iconst (v := 2) dX10_road_61 (by decide) ?_
            obtain ⟨e184, f185, th_186, td_187, ds_188, fr_189, ca_190, us_191, wo_192, cm_193, lc_194, lh_195, ld_196, rfl, k197, k198, k199, k200, k201, k202, k203, k204, k205, k206, k207, k208, k209, k210, k211, k212, k213, k214⟩ := sp81.1 x 36 kx (by decide)
            refine tw_bi (tw_callV (M := mX10_road) (pc := 62) okX10_refuse dX10_road_62 w_1204 rfl f185 [.int 1, .int 2] [] rfl rfl ⟨by decide, by decide⟩ (Nat.le_of_ble_eq_true rfl) (c_X10_refuse d g τ h71 sp81.1 x kx 1 2 (by decide)) 0 0 (Nat.le_of_ble_eq_true rfl) (Nat.le_of_ble_eq_true rfl)) (fun r217 h216 q215 => ?_) (fun E h1 q => q.elim)
            obtain ⟨e218, he219, hs220, hr221, hc222⟩ := q215
            obtain ⟨rz223, tz224⟩ := (hc222 th80).2 rfl
            have th225 : tw_th (h216 x) = 2 := by rw [he219, tw_up_s]; exact tz224
            have sp226 : tw_sp d τ h g τ h216 := by rw [he219]; exact sp81.set kx (by decide) hs220
            rw [rz223]
            have oq227 : h216 o = h o := by rw [he219, tw_up_n (tw_nk ko kx (by decide))] <;> exact oq82
            refine tw_if_eq 70 dX10_road_65 (by decide) (fun c228 => absurd c228 (by decide)) (fun _ => ?_)
            refine tw_iconst (v := 0) dX10_road_68 (by decide) ?_
            exact tw_iret dX10_road_69 rfl (Or.inl ⟨_, rfl, _, _, sp226, oq227, Or.inr (Or.inl ⟨ix0, fun z => q180n z.2.2, th225, rfl⟩)⟩)
          · rw [q180r]
            refine tw_if_ne 60 dX10_road_53 (by decide) (fun _ => ?_) (fun c229 => absurd c229 (by decide))
            refine tw_iconst (v := 0) dX10_road_60 (by decide) ?_
            refine tw_iconst (v := 2) dX10_road_61 (by decide) ?_
            obtain ⟨e230, f231, th_232, td_233, ds_234, fr_235, ca_236, us_237, wo_238, cm_239, lc_240, lh_241, ld_242, rfl, k243, k244, k245, k246, k247, k248, k249, k250, k251, k252, k253, k254, k255, k256, k257, k258, k259, k260⟩ := sp81.1 x 36 kx (by decide)
            refine tw_bi (tw_callV (M := mX10_road) (pc := 62) okX10_refuse dX10_road_62 w_1204 rfl f231 [.int 0, .int 2] [] rfl rfl ⟨by decide, by decide⟩ (Nat.le_of_ble_eq_true rfl) (c_X10_refuse d g τ h71 sp81.1 x kx 0 2 (by decide)) 0 0 (Nat.le_of_ble_eq_true rfl) (Nat.le_of_ble_eq_true rfl)) (fun r263 h262 q261 => ?_) (fun E h1 q => q.elim)
            obtain ⟨e264, he265, hs266, hr267, hc268⟩ := q261
            obtain ⟨rz269, tz270⟩ := (hc268 th80).1 rfl
            have th271 : tw_th (h262 x) = 0 := by rw [he265, tw_up_s]; exact tz270
            have sp272 : tw_sp d τ h g τ h262 := by rw [he265]; exact sp81.set kx (by decide) hs266
            rw [rz269]
            have oq273 : h262 o = h o := by rw [he265, tw_up_n (tw_nk ko kx (by decide))] <;> exact oq82
            refine tw_if_eq 70 dX10_road_65 (by decide) (fun _ => ?_) (fun c274 => absurd (by decide) c274)
            refine tw_aload_n 0 dX10_road_70 rfl rfl ?_
            obtain ⟨e275, f276, th_277, td_278, ds_279, fr_280, ca_281, us_282, wo_283, cm_284, lc_285, lh_286, ld_287, rfl, k288, k289, k290, k291, k292, k293, k294, k295, k296, k297, k298, k299, k300, k301, k302, k303, k304, k305⟩ := sp272.1 x 36 kx (by decide)
            refine tw_get (v := .ref ds_279) rfl in_14 3 dX10_road_71 w_1154 rfl (by decide) f276 rfl ?_
            refine tw_iload_n 1 dX10_road_74 rfl rfl ?_
            obtain ⟨e308, f309, F306, rfl, k307⟩ := sp272.1 ds_279 34 k288 (by decide)
            obtain ⟨q310, k311, k312, iq313⟩ := k307 ((nI ja)).toNatClampNeg (by rw [nI_clamp (by omega)]; omega)
            refine tw_aald (v := .ref q310) 8 rfl rfl dX10_road_75 f309 (vp_in_nI (by omega) (by decide)) (by rw [k311]; rfl) ?_
            have id314 : g.2 (4096 + q310) = 416 + 8 * ja := by have z := iq313; rw [nI_clamp (by omega), k304] at z; exact z
            refine tw_iload_n 2 dX10_road_76 rfl rfl ?_
            obtain ⟨e315, f316, F317, rfl, ⟨b319, ow320, wv321⟩⟩ := sp272.1 q310 6 k312 (by decide)
            obtain rfl : b319 = (416 + 8 * ja) := ow320.b id314
            have ev322 : F317 ((nI jb)).toNatClampNeg = (g.1 ((416 + 8 * ja) + jb)) := by rw [nI_clamp (by omega)]; exact wv321 jb (by omega)
            refine tw_iald (v := (g.1 ((416 + 8 * ja) + jb))) dX10_road_77 f316 (vp_in_nI (by omega) (by decide)) ev322 ?_
            refine tw_istore [(5, .int (g.1 ((416 + 8 * ja) + jb))), (0, .ref x), (1, .int (nI ja)), (2, .int (nI jb)), (3, .int dy), (4, .int fr)] dX10_road_78 (by decide) rfl ?_
            refine tw_aload_n 1 dX10_road_80 rfl rfl ?_
            refine tw_get (v := .ref ds_279) rfl in_14 3 dX10_road_81 w_1154 rfl (by decide) f276 rfl ?_
            refine tw_iload_n 2 dX10_road_84 rfl rfl ?_
            obtain ⟨q323, k324, k325, iq326⟩ := k307 ((nI ja)).toNatClampNeg (by rw [nI_clamp (by omega)]; omega)
            refine tw_aald (v := .ref q323) 8 rfl rfl dX10_road_85 f309 (vp_in_nI (by omega) (by decide)) (by rw [k324]; rfl) ?_
            have id327 : g.2 (4096 + q323) = 416 + 8 * ja := by have z := iq326; rw [nI_clamp (by omega), k304] at z; exact z
            refine tw_iload_n 3 dX10_road_86 rfl rfl ?_
            refine tw_iload_n 4 dX10_road_87 rfl rfl ?_
            obtain ⟨e328, f329, F330, rfl, ⟨b332, ow333, wv334⟩⟩ := sp272.1 q323 6 k325 (by decide)
            obtain rfl : b332 = (416 + 8 * ja) := ow333.b id327
            refine tw_iast dX10_road_88 f329 (vp_in_nI (by omega) (by decide)) ?_
            rw [nI_clamp (by omega)]
            obtain ⟨h335, eh335⟩ : ∃ z : tw_H, z = tw_up h262 q323 (.inl (d.2 0, 4, .inl (upd F330 jb dy))) := ⟨_, rfl⟩
            rw [← eh335]
            have th336 : tw_th (h335 x) = 0 := by rw [eh335, tw_up_n (tw_nk kx k325 (by decide))] <;> exact th271
            have oq337 : h335 o = h o := by rw [eh335, tw_up_n (tw_nk ko k325 (by decide))] <;> exact oq273
            have sp338 : tw_sp d τ h (tw_g1 g ((416 + 8 * ja) + jb) dy) τ h335 := by rw [eh335]; exact sp272.wb k325 (by decide) ow333 ⟨_, rfl, tw_f6.up ow333 wv334⟩ (fun q9 hq9 => tw_g1_ne (by omega)) rfl
            refine tw_aload_n 1 dX10_road_89 rfl rfl ?_
            obtain ⟨e339, f340, th_341, td_342, ds_343, fr_344, ca_345, us_346, wo_347, cm_348, lc_349, lh_350, ld_351, rfl, k352, k353, k354, k355, k356, k357, k358, k359, k360, k361, k362, k363, k364, k365, k366, k367, k368, k369⟩ := sp338.1 x 36 kx (by decide)
            refine tw_get (v := .ref ds_343) rfl in_14 3 dX10_road_90 w_1154 rfl (by decide) f340 rfl ?_
            refine tw_iload_n 3 dX10_road_93 rfl rfl ?_
            obtain ⟨e372, f373, F370, rfl, k371⟩ := sp338.1 ds_343 34 k352 (by decide)
            obtain ⟨q374, k375, k376, iq377⟩ := k371 ((nI jb)).toNatClampNeg (by rw [nI_clamp (by omega)]; omega)
            refine tw_aald (v := .ref q374) 8 rfl rfl dX10_road_94 f373 (vp_in_nI (by omega) (by decide)) (by rw [k375]; rfl) ?_
            have id378 : (tw_g1 g ((416 + 8 * ja) + jb) dy).2 (4096 + q374) = 416 + 8 * jb := by have z := iq377; rw [nI_clamp (by omega), k368] at z; exact z
            refine tw_iload_n 2 dX10_road_95 rfl rfl ?_
            refine tw_iload_n 4 dX10_road_96 rfl rfl ?_
            obtain ⟨e379, f380, F381, rfl, ⟨b383, ow384, wv385⟩⟩ := sp338.1 q374 6 k376 (by decide)
            obtain rfl : b383 = (416 + 8 * jb) := ow384.b id378
            refine tw_iast dX10_road_97 f380 (vp_in_nI (by omega) (by decide)) ?_
            rw [nI_clamp (by omega)]
            obtain ⟨h386, eh386⟩ : ∃ z : tw_H, z = tw_up h335 q374 (.inl (d.2 0, 4, .inl (upd F381 ja dy))) := ⟨_, rfl⟩
            rw [← eh386]
            have th387 : tw_th (h386 x) = 0 := by rw [eh386, tw_up_n (tw_nk kx k376 (by decide))] <;> exact th336
            have oq388 : h386 o = h o := by rw [eh386, tw_up_n (tw_nk ko k376 (by decide))] <;> exact oq337
            have sp389 : tw_sp d τ h (tw_g1 (tw_g1 g ((416 + 8 * ja) + jb) dy) ((416 + 8 * jb) + ja) dy) τ h386 := by rw [eh386]; exact sp338.wb k376 (by decide) ow384 ⟨_, rfl, tw_f6.up ow384 wv385⟩ (fun q9 hq9 => tw_g1_ne (by omega)) rfl
            refine tw_aload_n 1 dX10_road_98 rfl rfl ?_
            obtain ⟨e390, f391, th_392, td_393, ds_394, fr_395, ca_396, us_397, wo_398, cm_399, lc_400, lh_401, ld_402, rfl, k403, k404, k405, k406, k407, k408, k409, k410, k411, k412, k413, k414, k415, k416, k417, k418, k419, k420⟩ := sp389.1 x 36 kx (by decide)
            refine tw_get (v := .ref fr_395) rfl in_14 4 dX10_road_99 w_1155 rfl (by decide) f391 rfl ?_
            refine tw_iload_n 2 dX10_road_102 rfl rfl ?_
            obtain ⟨e423, f424, F421, rfl, k422⟩ := sp389.1 fr_395 34 k404 (by decide)
            obtain ⟨q425, k426, k427, iq428⟩ := k422 ((nI ja)).toNatClampNeg (by rw [nI_clamp (by omega)]; omega)
            refine tw_aald (v := .ref q425) 8 rfl rfl dX10_road_103 f424 (vp_in_nI (by omega) (by decide)) (by rw [k426]; rfl) ?_
            have id429 : (tw_g1 (tw_g1 g ((416 + 8 * ja) + jb) dy) ((416 + 8 * jb) + ja) dy).2 (4096 + q425) = 448 + 8 * ja := by have z := iq428; rw [nI_clamp (by omega), k420] at z; exact z
            refine tw_iload_n 3 dX10_road_104 rfl rfl ?_
            refine tw_iload 5 dX10_road_105 rfl ?_
            obtain ⟨e430, f431, F432, rfl, ⟨b434, ow435, wv436⟩⟩ := sp389.1 q425 6 k427 (by decide)
            obtain rfl : b434 = (448 + 8 * ja) := ow435.b id429
            refine tw_iast dX10_road_107 f431 (vp_in_nI (by omega) (by decide)) ?_
            rw [nI_clamp (by omega)]
            obtain ⟨h437, eh437⟩ : ∃ z : tw_H, z = tw_up h386 q425 (.inl (d.2 0, 4, .inl (upd F432 jb fr))) := ⟨_, rfl⟩
            rw [← eh437]
            have th438 : tw_th (h437 x) = 0 := by rw [eh437, tw_up_n (tw_nk kx k427 (by decide))] <;> exact th387
            have oq439 : h437 o = h o := by rw [eh437, tw_up_n (tw_nk ko k427 (by decide))] <;> exact oq388
            have sp440 : tw_sp d τ h (tw_g1 (tw_g1 (tw_g1 g ((416 + 8 * ja) + jb) dy) ((416 + 8 * jb) + ja) dy) ((448 + 8 * ja) + jb) fr) τ h437 := by rw [eh437]; exact sp389.wb k427 (by decide) ow435 ⟨_, rfl, tw_f6.up ow435 wv436⟩ (fun q9 hq9 => tw_g1_ne (by omega)) rfl
            refine tw_aload_n 1 dX10_road_108 rfl rfl ?_
            obtain ⟨e441, f442, th_443, td_444, ds_445, fr_446, ca_447, us_448, wo_449, cm_450, lc_451, lh_452, ld_453, rfl, k454, k455, k456, k457, k458, k459, k460, k461, k462, k463, k464, k465, k466, k467, k468, k469, k470, k471⟩ := sp440.1 x 36 kx (by decide)
            refine tw_get (v := .ref fr_446) rfl in_14 4 dX10_road_109 w_1155 rfl (by decide) f442 rfl ?_
            refine tw_iload_n 3 dX10_road_112 rfl rfl ?_
            obtain ⟨e474, f475, F472, rfl, k473⟩ := sp440.1 fr_446 34 k455 (by decide)
            obtain ⟨q476, k477, k478, iq479⟩ := k473 ((nI jb)).toNatClampNeg (by rw [nI_clamp (by omega)]; omega)
            refine tw_aald (v := .ref q476) 8 rfl rfl dX10_road_113 f475 (vp_in_nI (by omega) (by decide)) (by rw [k477]; rfl) ?_
            have id480 : (tw_g1 (tw_g1 (tw_g1 g ((416 + 8 * ja) + jb) dy) ((416 + 8 * jb) + ja) dy) ((448 + 8 * ja) + jb) fr).2 (4096 + q476) = 448 + 8 * jb := by have z := iq479; rw [nI_clamp (by omega), k471] at z; exact z
            refine tw_iload_n 2 dX10_road_114 rfl rfl ?_
            refine tw_iload 5 dX10_road_115 rfl ?_
            obtain ⟨e481, f482, F483, rfl, ⟨b485, ow486, wv487⟩⟩ := sp440.1 q476 6 k478 (by decide)
            obtain rfl : b485 = (448 + 8 * jb) := ow486.b id480
            refine tw_iast dX10_road_117 f482 (vp_in_nI (by omega) (by decide)) ?_
            rw [nI_clamp (by omega)]
            obtain ⟨h488, eh488⟩ : ∃ z : tw_H, z = tw_up h437 q476 (.inl (d.2 0, 4, .inl (upd F483 ja fr))) := ⟨_, rfl⟩
            rw [← eh488]
            have th489 : tw_th (h488 x) = 0 := by rw [eh488, tw_up_n (tw_nk kx k478 (by decide))] <;> exact th438
            have oq490 : h488 o = h o := by rw [eh488, tw_up_n (tw_nk ko k478 (by decide))] <;> exact oq439
            have sp491 : tw_sp d τ h (tw_g1 (tw_g1 (tw_g1 (tw_g1 g ((416 + 8 * ja) + jb) dy) ((416 + 8 * jb) + ja) dy) ((448 + 8 * ja) + jb) fr) ((448 + 8 * jb) + ja) fr) τ h488 := by rw [eh488]; exact sp440.wb k478 (by decide) ow486 ⟨_, rfl, tw_f6.up ow486 wv487⟩ (fun q9 hq9 => tw_g1_ne (by omega)) rfl
            refine tw_iload 0 dX10_road_118 rfl ?_
            exact tw_iret dX10_road_120 rfl (Or.inl ⟨_, rfl, _, _, sp491, oq490, Or.inr (Or.inr ⟨ix0, ⟨c84, ⟨q130a, q130b⟩, ⟨q180a, q180b⟩⟩, (by rw [cDa, cDb]), th489, (by rw [cDa, cDb])⟩)⟩)

set_option maxHeartbeats 4000000 in
set_option maxRecDepth 100000 in
theorem c2_X10_init (d : tw_D) (g : tw_G) (τ : tw_K) (h : tw_H) (hw : tw_wt d g τ h) (hno : tw_no τ) (x : Nat) (hz : τ x = 0) (hx : h x = some (.inr (14, [.int 0, .int 0, .int 0, .null, .null, .null, .null, .null, .null, .null, .null, .null]))) (h24 : g.2 24 = 160) (h9 : g.2 9 = 0) : tw_Ct d mX10_init 17 60 [.ref x] h (tw_qv (fun h1 => ∃ (g1 : tw_G) (τ1 : tw_K), (g1.1 0 = g.1 0 ∧ g1.1 1 = 155 ∧ (∀ i, i < 3 → g1.2 i = g.2 i) ∧ (∀ i, 6 ≤ i → i < 9 → g1.2 i = g.2 i) ∧ (∀ i, 3 ≤ i → i < 6 → g1.2 i = 0) ∧ g1.2 21 = g.2 21 ∧ g1.2 22 = 0 ∧ g1.2 24 = g.2 24 ∧ g1.2 9 = 480 ∧ ∀ j k, j < 4 → k < 4 → g1.1 (416 + 8 * j + k) = 3 ∧ g1.1 (448 + 8 * j + k) = 10) ∧ tw_ini d g1 τ h x 36 τ1 h1) tw_nx) := by
  refine tw_of (by decide +kernel) (Nat.le_of_ble_eq_true rfl) ?_
  show tw_W d mX10_init _ 0 [(0, .ref x)] [] h 17 60
  have sp0 := tw_sp.rm hw x
  refine tw_aload_n 0 dX10_init_0 rfl rfl ?_
  refine tw_objInit dX10_init_1 w_1118 w_117 w_118 ⟨by decide, Nat.le_of_ble_eq_true rfl⟩ ?_
  refine tw_aload_n 0 dX10_init_4 rfl rfl ?_
  refine tw_sipush (v := 155) dX10_init_5 (by decide) ?_
  refine tw_put rfl in_14 tyX10 tyX10_ok nmX10 2 dX10_init_8 w_1153 rfl (by decide) hx rfl rfl rfl rfl (Nat.le_of_ble_eq_true rfl) [.int 0, .int 0, .int 155, .null, .null, .null, .null, .null, .null, .null, .null, .null] rfl ?_
  obtain ⟨h1, eh1⟩ : ∃ z : tw_H, z = tw_up h x (.inr (14, [.int 0, .int 0, .int 155, .null, .null, .null, .null, .null, .null, .null, .null, .null])) := ⟨_, rfl⟩
  rw [← eh1]
  have sp2 : tw_sp d τ (tw_rm h x) g τ h1 := by rw [eh1]; exact sp0.wl tw_rm_s hz
  have f3 : h1 x = some (.inr (14, [.int 0, .int 0, .int 155, .null, .null, .null, .null, .null, .null, .null, .null, .null])) := by rw [eh1]; exact tw_up_s
  refine tw_aload_n 0 dX10_init_11 rfl rfl ?_
  refine tw_iconst (v := 4) dX10_init_12 (by decide) ?_
  refine tw_iconst (v := 4) dX10_init_13 (by decide) ?_
  refine tw_mna dX10_init_14 w_1119 w_500 12 40 (Nat.le_of_ble_eq_true rfl) (Nat.le_of_ble_eq_true rfl) (fun q4 r5 h6 hq7 hr8 hi9 hg10 ho11 hw12 => ?_)
  have sp13 := sp2.tr (tw_gw.sp hw12 sp2.1)
  have f14 := hw12 _ _ f3
  have ne15 := tw_neF f3 (hr8 0 (by decide)).1
  have ne16 := tw_neF f3 (hr8 1 (by decide)).1
  have ne17 := tw_neF f3 (hr8 2 (by decide)).1
  have ne18 := tw_neF f3 (hr8 3 (by decide)).1
  have ne19 := tw_neF f3 hq7
  have n20 := sp2.nn (hr8 0 (by decide)).1
  have z21 := sp2.1.none (hr8 0 (by decide)).1
  have f22 : h6 (r5 0) = some (.inl (d.2 0, 4, .inl (fun _ => 0))) := ho11 0 (by decide)
  have n23 := sp2.nn (hr8 1 (by decide)).1
  have z24 := sp2.1.none (hr8 1 (by decide)).1
  have f25 : h6 (r5 1) = some (.inl (d.2 0, 4, .inl (fun _ => 0))) := ho11 1 (by decide)
  have n26 := sp2.nn (hr8 2 (by decide)).1
  have z27 := sp2.1.none (hr8 2 (by decide)).1
  have f28 : h6 (r5 2) = some (.inl (d.2 0, 4, .inl (fun _ => 0))) := ho11 2 (by decide)
  have n29 := sp2.nn (hr8 3 (by decide)).1
  have z30 := sp2.1.none (hr8 3 (by decide)).1
  have f31 : h6 (r5 3) = some (.inl (d.2 0, 4, .inl (fun _ => 0))) := ho11 3 (by decide)
  have n32 := sp2.nn hq7
  have z33 := sp2.1.none hq7
  refine tw_putF rfl in_14 tyX10 tyX10_ok nmX10 3 dX10_init_18 w_1154 rfl (by decide) f14 rfl rfl rfl rfl rfl rfl (Nat.le_of_ble_eq_true rfl) [.int 0, .int 0, .int 155, .ref q4, .null, .null, .null, .null, .null, .null, .null, .null] rfl ?_
  obtain ⟨h34, eh34⟩ : ∃ z : tw_H, z = tw_up h6 x (.inr (14, [.int 0, .int 0, .int 155, .ref q4, .null, .null, .null, .null, .null, .null, .null, .null])) := ⟨_, rfl⟩
  rw [← eh34]
  have sp35 : tw_sp d τ (tw_rm h x) g τ h34 := by rw [eh34]; exact sp13.wl tw_rm_s hz
  have f36 : h34 (r5 0) = some (.inl (d.2 0, 4, .inl (fun _ => 0))) := by rw [eh34, tw_up_n (Ne.symm ne15)]; exact f22
  have f37 : h34 (r5 1) = some (.inl (d.2 0, 4, .inl (fun _ => 0))) := by rw [eh34, tw_up_n (Ne.symm ne16)]; exact f25
  have f38 : h34 (r5 2) = some (.inl (d.2 0, 4, .inl (fun _ => 0))) := by rw [eh34, tw_up_n (Ne.symm ne17)]; exact f28
  have f39 : h34 (r5 3) = some (.inl (d.2 0, 4, .inl (fun _ => 0))) := by rw [eh34, tw_up_n (Ne.symm ne18)]; exact f31
  have f40 : h34 q4 = some (.inl (d.2 8, 4, .inr (.inr (.inr (.inr (fun i => if i < 4 then some (r5 i) else none)))))) := by rw [eh34, tw_up_n (Ne.symm ne19)]; exact hg10
  have f41 : h34 x = some (.inr (14, [.int 0, .int 0, .int 155, .ref q4, .null, .null, .null, .null, .null, .null, .null, .null])) := by rw [eh34]; exact tw_up_s
  refine tw_aload_n 0 dX10_init_21 rfl rfl ?_
  refine tw_iconst (v := 4) dX10_init_22 (by decide) ?_
  refine tw_iconst (v := 4) dX10_init_23 (by decide) ?_
  refine tw_mna dX10_init_24 w_1119 w_500 7 20 (Nat.le_of_ble_eq_true rfl) (Nat.le_of_ble_eq_true rfl) (fun q42 r43 h44 hq45 hr46 hi47 hg48 ho49 hw50 => ?_)
  have sp51 := sp35.tr (tw_gw.sp hw50 sp35.1)
  have f52 := hw50 _ _ f36
  have ne53 := tw_neF f36 (hr46 0 (by decide)).1
  have ne54 := tw_neF f36 (hr46 1 (by decide)).1
  have ne55 := tw_neF f36 (hr46 2 (by decide)).1
  have ne56 := tw_neF f36 (hr46 3 (by decide)).1
  have ne57 := tw_neF f36 hq45
  have f58 := hw50 _ _ f37
  have ne59 := tw_neF f37 (hr46 0 (by decide)).1
  have ne60 := tw_neF f37 (hr46 1 (by decide)).1
  have ne61 := tw_neF f37 (hr46 2 (by decide)).1
  have ne62 := tw_neF f37 (hr46 3 (by decide)).1
  have ne63 := tw_neF f37 hq45
  have f64 := hw50 _ _ f38
  have ne65 := tw_neF f38 (hr46 0 (by decide)).1
  have ne66 := tw_neF f38 (hr46 1 (by decide)).1
  have ne67 := tw_neF f38 (hr46 2 (by decide)).1
  have ne68 := tw_neF f38 (hr46 3 (by decide)).1
  have ne69 := tw_neF f38 hq45
  have f70 := hw50 _ _ f39
  have ne71 := tw_neF f39 (hr46 0 (by decide)).1
  have ne72 := tw_neF f39 (hr46 1 (by decide)).1
  have ne73 := tw_neF f39 (hr46 2 (by decide)).1
  have ne74 := tw_neF f39 (hr46 3 (by decide)).1
  have ne75 := tw_neF f39 hq45
  have f76 := hw50 _ _ f40
  have ne77 := tw_neF f40 (hr46 0 (by decide)).1
  have ne78 := tw_neF f40 (hr46 1 (by decide)).1
  have ne79 := tw_neF f40 (hr46 2 (by decide)).1
  have ne80 := tw_neF f40 (hr46 3 (by decide)).1
  have ne81 := tw_neF f40 hq45
  have f82 := hw50 _ _ f41
  have ne83 := tw_neF f41 (hr46 0 (by decide)).1
  have ne84 := tw_neF f41 (hr46 1 (by decide)).1
  have ne85 := tw_neF f41 (hr46 2 (by decide)).1
  have ne86 := tw_neF f41 (hr46 3 (by decide)).1
  have ne87 := tw_neF f41 hq45
  have n88 := sp35.nn (hr46 0 (by decide)).1
  have z89 := sp35.1.none (hr46 0 (by decide)).1
  have f90 : h44 (r43 0) = some (.inl (d.2 0, 4, .inl (fun _ => 0))) := ho49 0 (by decide)
  have n91 := sp35.nn (hr46 1 (by decide)).1
  have z92 := sp35.1.none (hr46 1 (by decide)).1
  have f93 : h44 (r43 1) = some (.inl (d.2 0, 4, .inl (fun _ => 0))) := ho49 1 (by decide)
  have n94 := sp35.nn (hr46 2 (by decide)).1
  have z95 := sp35.1.none (hr46 2 (by decide)).1
  have f96 : h44 (r43 2) = some (.inl (d.2 0, 4, .inl (fun _ => 0))) := ho49 2 (by decide)
  have n97 := sp35.nn (hr46 3 (by decide)).1
  have z98 := sp35.1.none (hr46 3 (by decide)).1
  have f99 : h44 (r43 3) = some (.inl (d.2 0, 4, .inl (fun _ => 0))) := ho49 3 (by decide)
  have n100 := sp35.nn hq45
  have z101 := sp35.1.none hq45
  refine tw_putF rfl in_14 tyX10 tyX10_ok nmX10 4 dX10_init_28 w_1155 rfl (by decide) f82 rfl rfl rfl rfl rfl rfl (Nat.le_of_ble_eq_true rfl) [.int 0, .int 0, .int 155, .ref q4, .ref q42, .null, .null, .null, .null, .null, .null, .null] rfl ?_
  obtain ⟨h102, eh102⟩ : ∃ z : tw_H, z = tw_up h44 x (.inr (14, [.int 0, .int 0, .int 155, .ref q4, .ref q42, .null, .null, .null, .null, .null, .null, .null])) := ⟨_, rfl⟩
  rw [← eh102]
  have sp103 : tw_sp d τ (tw_rm h x) g τ h102 := by rw [eh102]; exact sp51.wl tw_rm_s hz
  have f104 : h102 (r5 0) = some (.inl (d.2 0, 4, .inl (fun _ => 0))) := by rw [eh102, tw_up_n (Ne.symm ne15)]; exact f52
  have f105 : h102 (r5 1) = some (.inl (d.2 0, 4, .inl (fun _ => 0))) := by rw [eh102, tw_up_n (Ne.symm ne16)]; exact f58
  have f106 : h102 (r5 2) = some (.inl (d.2 0, 4, .inl (fun _ => 0))) := by rw [eh102, tw_up_n (Ne.symm ne17)]; exact f64
  have f107 : h102 (r5 3) = some (.inl (d.2 0, 4, .inl (fun _ => 0))) := by rw [eh102, tw_up_n (Ne.symm ne18)]; exact f70
  have f108 : h102 q4 = some (.inl (d.2 8, 4, .inr (.inr (.inr (.inr (fun i => if i < 4 then some (r5 i) else none)))))) := by rw [eh102, tw_up_n (Ne.symm ne19)]; exact f76
  have f109 : h102 (r43 0) = some (.inl (d.2 0, 4, .inl (fun _ => 0))) := by rw [eh102, tw_up_n (Ne.symm ne83)]; exact f90
  have f110 : h102 (r43 1) = some (.inl (d.2 0, 4, .inl (fun _ => 0))) := by rw [eh102, tw_up_n (Ne.symm ne84)]; exact f93
  have f111 : h102 (r43 2) = some (.inl (d.2 0, 4, .inl (fun _ => 0))) := by rw [eh102, tw_up_n (Ne.symm ne85)]; exact f96
  have f112 : h102 (r43 3) = some (.inl (d.2 0, 4, .inl (fun _ => 0))) := by rw [eh102, tw_up_n (Ne.symm ne86)]; exact f99
  have f113 : h102 q42 = some (.inl (d.2 8, 4, .inr (.inr (.inr (.inr (fun i => if i < 4 then some (r43 i) else none)))))) := by rw [eh102, tw_up_n (Ne.symm ne87)]; exact hg48
  have f114 : h102 x = some (.inr (14, [.int 0, .int 0, .int 155, .ref q4, .ref q42, .null, .null, .null, .null, .null, .null, .null])) := by rw [eh102]; exact tw_up_s
  refine tw_aload_n 0 dX10_init_31 rfl rfl ?_
  refine tw_iconst (v := 2) dX10_init_32 (by decide) ?_
  refine tw_newa (a0 := (2, .inr (.inl (fun _ => 0)))) 1 rfl dX10_init_33 rfl w_1150 (fun _ => rfl) (by decide) (by decide) (by decide) 6 18 (Nat.le_of_ble_eq_true rfl) (Nat.le_of_ble_eq_true rfl) (fun q115 hq116 hA117 => ?_)
  have n118 := sp103.nn hq116
  have z119 := sp103.1.none hq116
  have ne120 := tw_neF f104 hq116
  have ne121 := tw_neF f105 hq116
  have ne122 := tw_neF f106 hq116
  have ne123 := tw_neF f107 hq116
  have ne124 := tw_neF f108 hq116
  have ne125 := tw_neF f109 hq116
  have ne126 := tw_neF f110 hq116
  have ne127 := tw_neF f111 hq116
  have ne128 := tw_neF f112 hq116
  have ne129 := tw_neF f113 hq116
  have ne130 := tw_neF f114 hq116
  obtain ⟨h131, eh131⟩ : ∃ z : tw_H, z = tw_up h102 q115 (.inl (d.2 1, 2, .inr (.inl (fun _ => 0)))) := ⟨_, rfl⟩
  rw [← eh131]
  have sp132 : tw_sp d τ (tw_rm h x) g τ h131 := by rw [eh131]; exact sp103.mk hq116
  have f133 : h131 (r5 0) = some (.inl (d.2 0, 4, .inl (fun _ => 0))) := by rw [eh131, tw_up_n ne120]; exact f104
  have f134 : h131 (r5 1) = some (.inl (d.2 0, 4, .inl (fun _ => 0))) := by rw [eh131, tw_up_n ne121]; exact f105
  have f135 : h131 (r5 2) = some (.inl (d.2 0, 4, .inl (fun _ => 0))) := by rw [eh131, tw_up_n ne122]; exact f106
  have f136 : h131 (r5 3) = some (.inl (d.2 0, 4, .inl (fun _ => 0))) := by rw [eh131, tw_up_n ne123]; exact f107
  have f137 : h131 q4 = some (.inl (d.2 8, 4, .inr (.inr (.inr (.inr (fun i => if i < 4 then some (r5 i) else none)))))) := by rw [eh131, tw_up_n ne124]; exact f108
  have f138 : h131 (r43 0) = some (.inl (d.2 0, 4, .inl (fun _ => 0))) := by rw [eh131, tw_up_n ne125]; exact f109
  have f139 : h131 (r43 1) = some (.inl (d.2 0, 4, .inl (fun _ => 0))) := by rw [eh131, tw_up_n ne126]; exact f110
  have f140 : h131 (r43 2) = some (.inl (d.2 0, 4, .inl (fun _ => 0))) := by rw [eh131, tw_up_n ne127]; exact f111
  have f141 : h131 (r43 3) = some (.inl (d.2 0, 4, .inl (fun _ => 0))) := by rw [eh131, tw_up_n ne128]; exact f112
  have f142 : h131 q42 = some (.inl (d.2 8, 4, .inr (.inr (.inr (.inr (fun i => if i < 4 then some (r43 i) else none)))))) := by rw [eh131, tw_up_n ne129]; exact f113
  have f143 : h131 x = some (.inr (14, [.int 0, .int 0, .int 155, .ref q4, .ref q42, .null, .null, .null, .null, .null, .null, .null])) := by rw [eh131, tw_up_n ne130]; exact f114
  have f144 : h131 q115 = some (.inl (d.2 1, 2, .inr (.inl (fun _ => 0)))) := by rw [eh131]; exact tw_up_s
  obtain ⟨τ145, eτ145⟩ : ∃ z : tw_K, z = tw_ku τ q115 31 := ⟨_, rfl⟩
  have le146 : tw_le τ τ145 := by rw [eτ145]; exact tw_ku_le z119
  have sp147 : tw_sp d τ (tw_rm h x) g τ145 h131 := by rw [eτ145]; exact sp132.ty n118 z119 f144 (by rw [← eτ145]; exact ⟨_, rfl⟩)
  have k148 : τ145 q115 = 31 := by rw [eτ145]; exact tw_ku_s
  have z149 : τ145 x = 0 := by rw [eτ145, tw_ku_n ne130]; exact hz
  have z150 : τ145 (r5 0) = 0 := by rw [eτ145, tw_ku_n ne120]; exact z21
  have z151 : τ145 (r5 1) = 0 := by rw [eτ145, tw_ku_n ne121]; exact z24
  have z152 : τ145 (r5 2) = 0 := by rw [eτ145, tw_ku_n ne122]; exact z27
  have z153 : τ145 (r5 3) = 0 := by rw [eτ145, tw_ku_n ne123]; exact z30
  have z154 : τ145 q4 = 0 := by rw [eτ145, tw_ku_n ne124]; exact z33
  have z155 : τ145 (r43 0) = 0 := by rw [eτ145, tw_ku_n ne125]; exact z89
  have z156 : τ145 (r43 1) = 0 := by rw [eτ145, tw_ku_n ne126]; exact z92
  have z157 : τ145 (r43 2) = 0 := by rw [eτ145, tw_ku_n ne127]; exact z95
  have z158 : τ145 (r43 3) = 0 := by rw [eτ145, tw_ku_n ne128]; exact z98
  have z159 : τ145 q42 = 0 := by rw [eτ145, tw_ku_n ne129]; exact z101
  have no160 : tw_no τ145 := by rw [eτ145]; exact hno.ku (by decide)
  refine tw_putF rfl in_14 tyX10 tyX10_ok nmX10 5 dX10_init_35 w_1156 rfl (by decide) f143 rfl rfl rfl rfl rfl rfl (Nat.le_of_ble_eq_true rfl) [.int 0, .int 0, .int 155, .ref q4, .ref q42, .ref q115, .null, .null, .null, .null, .null, .null] rfl ?_
  obtain ⟨h161, eh161⟩ : ∃ z : tw_H, z = tw_up h131 x (.inr (14, [.int 0, .int 0, .int 155, .ref q4, .ref q42, .ref q115, .null, .null, .null, .null, .null, .null])) := ⟨_, rfl⟩
  rw [← eh161]
  have sp162 : tw_sp d τ (tw_rm h x) g τ145 h161 := by rw [eh161]; exact sp147.wl tw_rm_s z149
  have f163 : h161 (r5 0) = some (.inl (d.2 0, 4, .inl (fun _ => 0))) := by rw [eh161, tw_up_n (Ne.symm ne15)]; exact f133
  have f164 : h161 (r5 1) = some (.inl (d.2 0, 4, .inl (fun _ => 0))) := by rw [eh161, tw_up_n (Ne.symm ne16)]; exact f134
  have f165 : h161 (r5 2) = some (.inl (d.2 0, 4, .inl (fun _ => 0))) := by rw [eh161, tw_up_n (Ne.symm ne17)]; exact f135
  have f166 : h161 (r5 3) = some (.inl (d.2 0, 4, .inl (fun _ => 0))) := by rw [eh161, tw_up_n (Ne.symm ne18)]; exact f136
  have f167 : h161 q4 = some (.inl (d.2 8, 4, .inr (.inr (.inr (.inr (fun i => if i < 4 then some (r5 i) else none)))))) := by rw [eh161, tw_up_n (Ne.symm ne19)]; exact f137
  have f168 : h161 (r43 0) = some (.inl (d.2 0, 4, .inl (fun _ => 0))) := by rw [eh161, tw_up_n (Ne.symm ne83)]; exact f138
  have f169 : h161 (r43 1) = some (.inl (d.2 0, 4, .inl (fun _ => 0))) := by rw [eh161, tw_up_n (Ne.symm ne84)]; exact f139
  have f170 : h161 (r43 2) = some (.inl (d.2 0, 4, .inl (fun _ => 0))) := by rw [eh161, tw_up_n (Ne.symm ne85)]; exact f140
  have f171 : h161 (r43 3) = some (.inl (d.2 0, 4, .inl (fun _ => 0))) := by rw [eh161, tw_up_n (Ne.symm ne86)]; exact f141
  have f172 : h161 q42 = some (.inl (d.2 8, 4, .inr (.inr (.inr (.inr (fun i => if i < 4 then some (r43 i) else none)))))) := by rw [eh161, tw_up_n (Ne.symm ne87)]; exact f142
  have f173 : h161 x = some (.inr (14, [.int 0, .int 0, .int 155, .ref q4, .ref q42, .ref q115, .null, .null, .null, .null, .null, .null])) := by rw [eh161]; exact tw_up_s
  refine tw_aload_n 0 dX10_init_38 rfl rfl ?_
  refine tw_iconst (v := 2) dX10_init_39 (by decide) ?_
  refine tw_newa (a0 := (2, .inr (.inl (fun _ => 0)))) 1 rfl dX10_init_40 rfl w_1150 (fun _ => rfl) (by decide) (by decide) (by decide) 5 16 (Nat.le_of_ble_eq_true rfl) (Nat.le_of_ble_eq_true rfl) (fun q174 hq175 hA176 => ?_)
  have n177 := sp162.nn hq175
  have z178 := sp162.1.none hq175
  have ne179 := tw_neF f163 hq175
  have ne180 := tw_neF f164 hq175
  have ne181 := tw_neF f165 hq175
  have ne182 := tw_neF f166 hq175
  have ne183 := tw_neF f167 hq175
  have ne184 := tw_neF f168 hq175
  have ne185 := tw_neF f169 hq175
  have ne186 := tw_neF f170 hq175
  have ne187 := tw_neF f171 hq175
  have ne188 := tw_neF f172 hq175
  have ne189 := tw_neF f173 hq175
  obtain ⟨h190, eh190⟩ : ∃ z : tw_H, z = tw_up h161 q174 (.inl (d.2 1, 2, .inr (.inl (fun _ => 0)))) := ⟨_, rfl⟩
  rw [← eh190]
  have sp191 : tw_sp d τ (tw_rm h x) g τ145 h190 := by rw [eh190]; exact sp162.mk hq175
  have f192 : h190 (r5 0) = some (.inl (d.2 0, 4, .inl (fun _ => 0))) := by rw [eh190, tw_up_n ne179]; exact f163
  have f193 : h190 (r5 1) = some (.inl (d.2 0, 4, .inl (fun _ => 0))) := by rw [eh190, tw_up_n ne180]; exact f164
  have f194 : h190 (r5 2) = some (.inl (d.2 0, 4, .inl (fun _ => 0))) := by rw [eh190, tw_up_n ne181]; exact f165
  have f195 : h190 (r5 3) = some (.inl (d.2 0, 4, .inl (fun _ => 0))) := by rw [eh190, tw_up_n ne182]; exact f166
  have f196 : h190 q4 = some (.inl (d.2 8, 4, .inr (.inr (.inr (.inr (fun i => if i < 4 then some (r5 i) else none)))))) := by rw [eh190, tw_up_n ne183]; exact f167
  have f197 : h190 (r43 0) = some (.inl (d.2 0, 4, .inl (fun _ => 0))) := by rw [eh190, tw_up_n ne184]; exact f168
  have f198 : h190 (r43 1) = some (.inl (d.2 0, 4, .inl (fun _ => 0))) := by rw [eh190, tw_up_n ne185]; exact f169
  have f199 : h190 (r43 2) = some (.inl (d.2 0, 4, .inl (fun _ => 0))) := by rw [eh190, tw_up_n ne186]; exact f170
  have f200 : h190 (r43 3) = some (.inl (d.2 0, 4, .inl (fun _ => 0))) := by rw [eh190, tw_up_n ne187]; exact f171
  have f201 : h190 q42 = some (.inl (d.2 8, 4, .inr (.inr (.inr (.inr (fun i => if i < 4 then some (r43 i) else none)))))) := by rw [eh190, tw_up_n ne188]; exact f172
  have f202 : h190 x = some (.inr (14, [.int 0, .int 0, .int 155, .ref q4, .ref q42, .ref q115, .null, .null, .null, .null, .null, .null])) := by rw [eh190, tw_up_n ne189]; exact f173
  have f203 : h190 q174 = some (.inl (d.2 1, 2, .inr (.inl (fun _ => 0)))) := by rw [eh190]; exact tw_up_s
  obtain ⟨τ204, eτ204⟩ : ∃ z : tw_K, z = tw_ku τ145 q174 31 := ⟨_, rfl⟩
  have le205 : tw_le τ145 τ204 := by rw [eτ204]; exact tw_ku_le z178
  have k206 : τ204 q115 = 31 := le205.k k148 (by decide)
  have sp207 : tw_sp d τ (tw_rm h x) g τ204 h190 := by rw [eτ204]; exact sp191.ty n177 z178 f203 (by rw [← eτ204]; exact ⟨_, rfl⟩)
  have k208 : τ204 q174 = 31 := by rw [eτ204]; exact tw_ku_s
  have z209 : τ204 x = 0 := by rw [eτ204, tw_ku_n ne189]; exact z149
  have z210 : τ204 (r5 0) = 0 := by rw [eτ204, tw_ku_n ne179]; exact z150
  have z211 : τ204 (r5 1) = 0 := by rw [eτ204, tw_ku_n ne180]; exact z151
  have z212 : τ204 (r5 2) = 0 := by rw [eτ204, tw_ku_n ne181]; exact z152
  have z213 : τ204 (r5 3) = 0 := by rw [eτ204, tw_ku_n ne182]; exact z153
  have z214 : τ204 q4 = 0 := by rw [eτ204, tw_ku_n ne183]; exact z154
  have z215 : τ204 (r43 0) = 0 := by rw [eτ204, tw_ku_n ne184]; exact z155
  have z216 : τ204 (r43 1) = 0 := by rw [eτ204, tw_ku_n ne185]; exact z156
  have z217 : τ204 (r43 2) = 0 := by rw [eτ204, tw_ku_n ne186]; exact z157
  have z218 : τ204 (r43 3) = 0 := by rw [eτ204, tw_ku_n ne187]; exact z158
  have z219 : τ204 q42 = 0 := by rw [eτ204, tw_ku_n ne188]; exact z159
  have no220 : tw_no τ204 := by rw [eτ204]; exact no160.ku (by decide)
  refine tw_putF rfl in_14 tyX10 tyX10_ok nmX10 6 dX10_init_42 w_1157 rfl (by decide) f202 rfl rfl rfl rfl rfl rfl (Nat.le_of_ble_eq_true rfl) [.int 0, .int 0, .int 155, .ref q4, .ref q42, .ref q115, .ref q174, .null, .null, .null, .null, .null] rfl ?_
  obtain ⟨h221, eh221⟩ : ∃ z : tw_H, z = tw_up h190 x (.inr (14, [.int 0, .int 0, .int 155, .ref q4, .ref q42, .ref q115, .ref q174, .null, .null, .null, .null, .null])) := ⟨_, rfl⟩
  rw [← eh221]
  have sp222 : tw_sp d τ (tw_rm h x) g τ204 h221 := by rw [eh221]; exact sp207.wl tw_rm_s z209
  have f223 : h221 (r5 0) = some (.inl (d.2 0, 4, .inl (fun _ => 0))) := by rw [eh221, tw_up_n (Ne.symm ne15)]; exact f192
  have f224 : h221 (r5 1) = some (.inl (d.2 0, 4, .inl (fun _ => 0))) := by rw [eh221, tw_up_n (Ne.symm ne16)]; exact f193
  have f225 : h221 (r5 2) = some (.inl (d.2 0, 4, .inl (fun _ => 0))) := by rw [eh221, tw_up_n (Ne.symm ne17)]; exact f194
  have f226 : h221 (r5 3) = some (.inl (d.2 0, 4, .inl (fun _ => 0))) := by rw [eh221, tw_up_n (Ne.symm ne18)]; exact f195
  have f227 : h221 q4 = some (.inl (d.2 8, 4, .inr (.inr (.inr (.inr (fun i => if i < 4 then some (r5 i) else none)))))) := by rw [eh221, tw_up_n (Ne.symm ne19)]; exact f196
  have f228 : h221 (r43 0) = some (.inl (d.2 0, 4, .inl (fun _ => 0))) := by rw [eh221, tw_up_n (Ne.symm ne83)]; exact f197
  have f229 : h221 (r43 1) = some (.inl (d.2 0, 4, .inl (fun _ => 0))) := by rw [eh221, tw_up_n (Ne.symm ne84)]; exact f198
  have f230 : h221 (r43 2) = some (.inl (d.2 0, 4, .inl (fun _ => 0))) := by rw [eh221, tw_up_n (Ne.symm ne85)]; exact f199
  have f231 : h221 (r43 3) = some (.inl (d.2 0, 4, .inl (fun _ => 0))) := by rw [eh221, tw_up_n (Ne.symm ne86)]; exact f200
  have f232 : h221 q42 = some (.inl (d.2 8, 4, .inr (.inr (.inr (.inr (fun i => if i < 4 then some (r43 i) else none)))))) := by rw [eh221, tw_up_n (Ne.symm ne87)]; exact f201
  have f233 : h221 x = some (.inr (14, [.int 0, .int 0, .int 155, .ref q4, .ref q42, .ref q115, .ref q174, .null, .null, .null, .null, .null])) := by rw [eh221]; exact tw_up_s
  refine tw_aload_n 0 dX10_init_45 rfl rfl ?_
  refine tw_iconst (v := 2) dX10_init_46 (by decide) ?_
  refine tw_newa (a0 := (2, .inr (.inl (fun _ => 0)))) 1 rfl dX10_init_47 rfl w_1150 (fun _ => rfl) (by decide) (by decide) (by decide) 4 14 (Nat.le_of_ble_eq_true rfl) (Nat.le_of_ble_eq_true rfl) (fun q234 hq235 hA236 => ?_)
  have n237 := sp222.nn hq235
  have z238 := sp222.1.none hq235
  have ne239 := tw_neF f223 hq235
  have ne240 := tw_neF f224 hq235
  have ne241 := tw_neF f225 hq235
  have ne242 := tw_neF f226 hq235
  have ne243 := tw_neF f227 hq235
  have ne244 := tw_neF f228 hq235
  have ne245 := tw_neF f229 hq235
  have ne246 := tw_neF f230 hq235
  have ne247 := tw_neF f231 hq235
  have ne248 := tw_neF f232 hq235
  have ne249 := tw_neF f233 hq235
  obtain ⟨h250, eh250⟩ : ∃ z : tw_H, z = tw_up h221 q234 (.inl (d.2 1, 2, .inr (.inl (fun _ => 0)))) := ⟨_, rfl⟩
  rw [← eh250]
  have sp251 : tw_sp d τ (tw_rm h x) g τ204 h250 := by rw [eh250]; exact sp222.mk hq235
  have f252 : h250 (r5 0) = some (.inl (d.2 0, 4, .inl (fun _ => 0))) := by rw [eh250, tw_up_n ne239]; exact f223
  have f253 : h250 (r5 1) = some (.inl (d.2 0, 4, .inl (fun _ => 0))) := by rw [eh250, tw_up_n ne240]; exact f224
  have f254 : h250 (r5 2) = some (.inl (d.2 0, 4, .inl (fun _ => 0))) := by rw [eh250, tw_up_n ne241]; exact f225
  have f255 : h250 (r5 3) = some (.inl (d.2 0, 4, .inl (fun _ => 0))) := by rw [eh250, tw_up_n ne242]; exact f226
  have f256 : h250 q4 = some (.inl (d.2 8, 4, .inr (.inr (.inr (.inr (fun i => if i < 4 then some (r5 i) else none)))))) := by rw [eh250, tw_up_n ne243]; exact f227
  have f257 : h250 (r43 0) = some (.inl (d.2 0, 4, .inl (fun _ => 0))) := by rw [eh250, tw_up_n ne244]; exact f228
  have f258 : h250 (r43 1) = some (.inl (d.2 0, 4, .inl (fun _ => 0))) := by rw [eh250, tw_up_n ne245]; exact f229
  have f259 : h250 (r43 2) = some (.inl (d.2 0, 4, .inl (fun _ => 0))) := by rw [eh250, tw_up_n ne246]; exact f230
  have f260 : h250 (r43 3) = some (.inl (d.2 0, 4, .inl (fun _ => 0))) := by rw [eh250, tw_up_n ne247]; exact f231
  have f261 : h250 q42 = some (.inl (d.2 8, 4, .inr (.inr (.inr (.inr (fun i => if i < 4 then some (r43 i) else none)))))) := by rw [eh250, tw_up_n ne248]; exact f232
  have f262 : h250 x = some (.inr (14, [.int 0, .int 0, .int 155, .ref q4, .ref q42, .ref q115, .ref q174, .null, .null, .null, .null, .null])) := by rw [eh250, tw_up_n ne249]; exact f233
  have f263 : h250 q234 = some (.inl (d.2 1, 2, .inr (.inl (fun _ => 0)))) := by rw [eh250]; exact tw_up_s
  obtain ⟨τ264, eτ264⟩ : ∃ z : tw_K, z = tw_ku τ204 q234 31 := ⟨_, rfl⟩
  have le265 : tw_le τ204 τ264 := by rw [eτ264]; exact tw_ku_le z238
  have k266 : τ264 q115 = 31 := le265.k k206 (by decide)
  have k267 : τ264 q174 = 31 := le265.k k208 (by decide)
  have sp268 : tw_sp d τ (tw_rm h x) g τ264 h250 := by rw [eτ264]; exact sp251.ty n237 z238 f263 (by rw [← eτ264]; exact ⟨_, rfl⟩)
  have k269 : τ264 q234 = 31 := by rw [eτ264]; exact tw_ku_s
  have z270 : τ264 x = 0 := by rw [eτ264, tw_ku_n ne249]; exact z209
  have z271 : τ264 (r5 0) = 0 := by rw [eτ264, tw_ku_n ne239]; exact z210
  have z272 : τ264 (r5 1) = 0 := by rw [eτ264, tw_ku_n ne240]; exact z211
  have z273 : τ264 (r5 2) = 0 := by rw [eτ264, tw_ku_n ne241]; exact z212
  have z274 : τ264 (r5 3) = 0 := by rw [eτ264, tw_ku_n ne242]; exact z213
  have z275 : τ264 q4 = 0 := by rw [eτ264, tw_ku_n ne243]; exact z214
  have z276 : τ264 (r43 0) = 0 := by rw [eτ264, tw_ku_n ne244]; exact z215
  have z277 : τ264 (r43 1) = 0 := by rw [eτ264, tw_ku_n ne245]; exact z216
  have z278 : τ264 (r43 2) = 0 := by rw [eτ264, tw_ku_n ne246]; exact z217
  have z279 : τ264 (r43 3) = 0 := by rw [eτ264, tw_ku_n ne247]; exact z218
  have z280 : τ264 q42 = 0 := by rw [eτ264, tw_ku_n ne248]; exact z219
  have no281 : tw_no τ264 := by rw [eτ264]; exact no220.ku (by decide)
  refine tw_putF rfl in_14 tyX10 tyX10_ok nmX10 7 dX10_init_49 w_1158 rfl (by decide) f262 rfl rfl rfl rfl rfl rfl (Nat.le_of_ble_eq_true rfl) [.int 0, .int 0, .int 155, .ref q4, .ref q42, .ref q115, .ref q174, .ref q234, .null, .null, .null, .null] rfl ?_
  obtain ⟨h282, eh282⟩ : ∃ z : tw_H, z = tw_up h250 x (.inr (14, [.int 0, .int 0, .int 155, .ref q4, .ref q42, .ref q115, .ref q174, .ref q234, .null, .null, .null, .null])) := ⟨_, rfl⟩
  rw [← eh282]
  have sp283 : tw_sp d τ (tw_rm h x) g τ264 h282 := by rw [eh282]; exact sp268.wl tw_rm_s z270
  have f284 : h282 (r5 0) = some (.inl (d.2 0, 4, .inl (fun _ => 0))) := by rw [eh282, tw_up_n (Ne.symm ne15)]; exact f252
  have f285 : h282 (r5 1) = some (.inl (d.2 0, 4, .inl (fun _ => 0))) := by rw [eh282, tw_up_n (Ne.symm ne16)]; exact f253
  have f286 : h282 (r5 2) = some (.inl (d.2 0, 4, .inl (fun _ => 0))) := by rw [eh282, tw_up_n (Ne.symm ne17)]; exact f254
  have f287 : h282 (r5 3) = some (.inl (d.2 0, 4, .inl (fun _ => 0))) := by rw [eh282, tw_up_n (Ne.symm ne18)]; exact f255
  have f288 : h282 q4 = some (.inl (d.2 8, 4, .inr (.inr (.inr (.inr (fun i => if i < 4 then some (r5 i) else none)))))) := by rw [eh282, tw_up_n (Ne.symm ne19)]; exact f256
  have f289 : h282 (r43 0) = some (.inl (d.2 0, 4, .inl (fun _ => 0))) := by rw [eh282, tw_up_n (Ne.symm ne83)]; exact f257
  have f290 : h282 (r43 1) = some (.inl (d.2 0, 4, .inl (fun _ => 0))) := by rw [eh282, tw_up_n (Ne.symm ne84)]; exact f258
  have f291 : h282 (r43 2) = some (.inl (d.2 0, 4, .inl (fun _ => 0))) := by rw [eh282, tw_up_n (Ne.symm ne85)]; exact f259
  have f292 : h282 (r43 3) = some (.inl (d.2 0, 4, .inl (fun _ => 0))) := by rw [eh282, tw_up_n (Ne.symm ne86)]; exact f260
  have f293 : h282 q42 = some (.inl (d.2 8, 4, .inr (.inr (.inr (.inr (fun i => if i < 4 then some (r43 i) else none)))))) := by rw [eh282, tw_up_n (Ne.symm ne87)]; exact f261
  have f294 : h282 x = some (.inr (14, [.int 0, .int 0, .int 155, .ref q4, .ref q42, .ref q115, .ref q174, .ref q234, .null, .null, .null, .null])) := by rw [eh282]; exact tw_up_s
  refine tw_aload_n 0 dX10_init_52 rfl rfl ?_
  refine tw_iconst (v := 2) dX10_init_53 (by decide) ?_
  refine tw_newa (a0 := (2, .inr (.inl (fun _ => 0)))) 1 rfl dX10_init_54 rfl w_1150 (fun _ => rfl) (by decide) (by decide) (by decide) 3 12 (Nat.le_of_ble_eq_true rfl) (Nat.le_of_ble_eq_true rfl) (fun q295 hq296 hA297 => ?_)
  have n298 := sp283.nn hq296
  have z299 := sp283.1.none hq296
  have ne300 := tw_neF f284 hq296
  have ne301 := tw_neF f285 hq296
  have ne302 := tw_neF f286 hq296
  have ne303 := tw_neF f287 hq296
  have ne304 := tw_neF f288 hq296
  have ne305 := tw_neF f289 hq296
  have ne306 := tw_neF f290 hq296
  have ne307 := tw_neF f291 hq296
  have ne308 := tw_neF f292 hq296
  have ne309 := tw_neF f293 hq296
  have ne310 := tw_neF f294 hq296
  obtain ⟨h311, eh311⟩ : ∃ z : tw_H, z = tw_up h282 q295 (.inl (d.2 1, 2, .inr (.inl (fun _ => 0)))) := ⟨_, rfl⟩
  rw [← eh311]
  have sp312 : tw_sp d τ (tw_rm h x) g τ264 h311 := by rw [eh311]; exact sp283.mk hq296
  have f313 : h311 (r5 0) = some (.inl (d.2 0, 4, .inl (fun _ => 0))) := by rw [eh311, tw_up_n ne300]; exact f284
  have f314 : h311 (r5 1) = some (.inl (d.2 0, 4, .inl (fun _ => 0))) := by rw [eh311, tw_up_n ne301]; exact f285
  have f315 : h311 (r5 2) = some (.inl (d.2 0, 4, .inl (fun _ => 0))) := by rw [eh311, tw_up_n ne302]; exact f286
  have f316 : h311 (r5 3) = some (.inl (d.2 0, 4, .inl (fun _ => 0))) := by rw [eh311, tw_up_n ne303]; exact f287
  have f317 : h311 q4 = some (.inl (d.2 8, 4, .inr (.inr (.inr (.inr (fun i => if i < 4 then some (r5 i) else none)))))) := by rw [eh311, tw_up_n ne304]; exact f288
  have f318 : h311 (r43 0) = some (.inl (d.2 0, 4, .inl (fun _ => 0))) := by rw [eh311, tw_up_n ne305]; exact f289
  have f319 : h311 (r43 1) = some (.inl (d.2 0, 4, .inl (fun _ => 0))) := by rw [eh311, tw_up_n ne306]; exact f290
  have f320 : h311 (r43 2) = some (.inl (d.2 0, 4, .inl (fun _ => 0))) := by rw [eh311, tw_up_n ne307]; exact f291
  have f321 : h311 (r43 3) = some (.inl (d.2 0, 4, .inl (fun _ => 0))) := by rw [eh311, tw_up_n ne308]; exact f292
  have f322 : h311 q42 = some (.inl (d.2 8, 4, .inr (.inr (.inr (.inr (fun i => if i < 4 then some (r43 i) else none)))))) := by rw [eh311, tw_up_n ne309]; exact f293
  have f323 : h311 x = some (.inr (14, [.int 0, .int 0, .int 155, .ref q4, .ref q42, .ref q115, .ref q174, .ref q234, .null, .null, .null, .null])) := by rw [eh311, tw_up_n ne310]; exact f294
  have f324 : h311 q295 = some (.inl (d.2 1, 2, .inr (.inl (fun _ => 0)))) := by rw [eh311]; exact tw_up_s
  obtain ⟨τ325, eτ325⟩ : ∃ z : tw_K, z = tw_ku τ264 q295 31 := ⟨_, rfl⟩
  have le326 : tw_le τ264 τ325 := by rw [eτ325]; exact tw_ku_le z299
  have k327 : τ325 q115 = 31 := le326.k k266 (by decide)
  have k328 : τ325 q174 = 31 := le326.k k267 (by decide)
  have k329 : τ325 q234 = 31 := le326.k k269 (by decide)
  have sp330 : tw_sp d τ (tw_rm h x) g τ325 h311 := by rw [eτ325]; exact sp312.ty n298 z299 f324 (by rw [← eτ325]; exact ⟨_, rfl⟩)
  have k331 : τ325 q295 = 31 := by rw [eτ325]; exact tw_ku_s
  have z332 : τ325 x = 0 := by rw [eτ325, tw_ku_n ne310]; exact z270
  have z333 : τ325 (r5 0) = 0 := by rw [eτ325, tw_ku_n ne300]; exact z271
  have z334 : τ325 (r5 1) = 0 := by rw [eτ325, tw_ku_n ne301]; exact z272
  have z335 : τ325 (r5 2) = 0 := by rw [eτ325, tw_ku_n ne302]; exact z273
  have z336 : τ325 (r5 3) = 0 := by rw [eτ325, tw_ku_n ne303]; exact z274
  have z337 : τ325 q4 = 0 := by rw [eτ325, tw_ku_n ne304]; exact z275
  have z338 : τ325 (r43 0) = 0 := by rw [eτ325, tw_ku_n ne305]; exact z276
  have z339 : τ325 (r43 1) = 0 := by rw [eτ325, tw_ku_n ne306]; exact z277
  have z340 : τ325 (r43 2) = 0 := by rw [eτ325, tw_ku_n ne307]; exact z278
  have z341 : τ325 (r43 3) = 0 := by rw [eτ325, tw_ku_n ne308]; exact z279
  have z342 : τ325 q42 = 0 := by rw [eτ325, tw_ku_n ne309]; exact z280
  have no343 : tw_no τ325 := by rw [eτ325]; exact no281.ku (by decide)
  refine tw_putF rfl in_14 tyX10 tyX10_ok nmX10 8 dX10_init_56 w_1159 rfl (by decide) f323 rfl rfl rfl rfl rfl rfl (Nat.le_of_ble_eq_true rfl) [.int 0, .int 0, .int 155, .ref q4, .ref q42, .ref q115, .ref q174, .ref q234, .ref q295, .null, .null, .null] rfl ?_
  obtain ⟨h344, eh344⟩ : ∃ z : tw_H, z = tw_up h311 x (.inr (14, [.int 0, .int 0, .int 155, .ref q4, .ref q42, .ref q115, .ref q174, .ref q234, .ref q295, .null, .null, .null])) := ⟨_, rfl⟩
  rw [← eh344]
  have sp345 : tw_sp d τ (tw_rm h x) g τ325 h344 := by rw [eh344]; exact sp330.wl tw_rm_s z332
  have f346 : h344 (r5 0) = some (.inl (d.2 0, 4, .inl (fun _ => 0))) := by rw [eh344, tw_up_n (Ne.symm ne15)]; exact f313
  have f347 : h344 (r5 1) = some (.inl (d.2 0, 4, .inl (fun _ => 0))) := by rw [eh344, tw_up_n (Ne.symm ne16)]; exact f314
  have f348 : h344 (r5 2) = some (.inl (d.2 0, 4, .inl (fun _ => 0))) := by rw [eh344, tw_up_n (Ne.symm ne17)]; exact f315
  have f349 : h344 (r5 3) = some (.inl (d.2 0, 4, .inl (fun _ => 0))) := by rw [eh344, tw_up_n (Ne.symm ne18)]; exact f316
  have f350 : h344 q4 = some (.inl (d.2 8, 4, .inr (.inr (.inr (.inr (fun i => if i < 4 then some (r5 i) else none)))))) := by rw [eh344, tw_up_n (Ne.symm ne19)]; exact f317
  have f351 : h344 (r43 0) = some (.inl (d.2 0, 4, .inl (fun _ => 0))) := by rw [eh344, tw_up_n (Ne.symm ne83)]; exact f318
  have f352 : h344 (r43 1) = some (.inl (d.2 0, 4, .inl (fun _ => 0))) := by rw [eh344, tw_up_n (Ne.symm ne84)]; exact f319
  have f353 : h344 (r43 2) = some (.inl (d.2 0, 4, .inl (fun _ => 0))) := by rw [eh344, tw_up_n (Ne.symm ne85)]; exact f320
  have f354 : h344 (r43 3) = some (.inl (d.2 0, 4, .inl (fun _ => 0))) := by rw [eh344, tw_up_n (Ne.symm ne86)]; exact f321
  have f355 : h344 q42 = some (.inl (d.2 8, 4, .inr (.inr (.inr (.inr (fun i => if i < 4 then some (r43 i) else none)))))) := by rw [eh344, tw_up_n (Ne.symm ne87)]; exact f322
  have f356 : h344 x = some (.inr (14, [.int 0, .int 0, .int 155, .ref q4, .ref q42, .ref q115, .ref q174, .ref q234, .ref q295, .null, .null, .null])) := by rw [eh344]; exact tw_up_s
  refine tw_aload_n 0 dX10_init_59 rfl rfl ?_
  refine tw_new (ci := 3) rfl in_3 tyJx4a65c tyJx4a65c_ok dX10_init_60 w_1121 w_1122 w_82 (fs := [.int 0, .null, .int 0]) (fun j hj => by rcases (show j = 0 ∨ j = 1 ∨ j = 2 by omega) with rfl | rfl | rfl <;> rfl) 2 9 (Nat.le_of_ble_eq_true rfl) (Nat.le_of_ble_eq_true rfl) (fun q357 hq358 hA359 => ?_)
  have n360 := sp345.nn hq358
  have z361 := sp345.1.none hq358
  have ne362 := tw_neF f346 hq358
  have ne363 := tw_neF f347 hq358
  have ne364 := tw_neF f348 hq358
  have ne365 := tw_neF f349 hq358
  have ne366 := tw_neF f350 hq358
  have ne367 := tw_neF f351 hq358
  have ne368 := tw_neF f352 hq358
  have ne369 := tw_neF f353 hq358
  have ne370 := tw_neF f354 hq358
  have ne371 := tw_neF f355 hq358
  have ne372 := tw_neF f356 hq358
  obtain ⟨h373, eh373⟩ : ∃ z : tw_H, z = tw_up h344 q357 (.inr (3, [.int 0, .null, .int 0])) := ⟨_, rfl⟩
  rw [← eh373]
  have sp374 : tw_sp d τ (tw_rm h x) g τ325 h373 := by rw [eh373]; exact sp345.mk hq358
  have f375 : h373 (r5 0) = some (.inl (d.2 0, 4, .inl (fun _ => 0))) := by rw [eh373, tw_up_n ne362]; exact f346
  have f376 : h373 (r5 1) = some (.inl (d.2 0, 4, .inl (fun _ => 0))) := by rw [eh373, tw_up_n ne363]; exact f347
  have f377 : h373 (r5 2) = some (.inl (d.2 0, 4, .inl (fun _ => 0))) := by rw [eh373, tw_up_n ne364]; exact f348
  have f378 : h373 (r5 3) = some (.inl (d.2 0, 4, .inl (fun _ => 0))) := by rw [eh373, tw_up_n ne365]; exact f349
  have f379 : h373 q4 = some (.inl (d.2 8, 4, .inr (.inr (.inr (.inr (fun i => if i < 4 then some (r5 i) else none)))))) := by rw [eh373, tw_up_n ne366]; exact f350
  have f380 : h373 (r43 0) = some (.inl (d.2 0, 4, .inl (fun _ => 0))) := by rw [eh373, tw_up_n ne367]; exact f351
  have f381 : h373 (r43 1) = some (.inl (d.2 0, 4, .inl (fun _ => 0))) := by rw [eh373, tw_up_n ne368]; exact f352
  have f382 : h373 (r43 2) = some (.inl (d.2 0, 4, .inl (fun _ => 0))) := by rw [eh373, tw_up_n ne369]; exact f353
  have f383 : h373 (r43 3) = some (.inl (d.2 0, 4, .inl (fun _ => 0))) := by rw [eh373, tw_up_n ne370]; exact f354
  have f384 : h373 q42 = some (.inl (d.2 8, 4, .inr (.inr (.inr (.inr (fun i => if i < 4 then some (r43 i) else none)))))) := by rw [eh373, tw_up_n ne371]; exact f355
  have f385 : h373 x = some (.inr (14, [.int 0, .int 0, .int 155, .ref q4, .ref q42, .ref q115, .ref q174, .ref q234, .ref q295, .null, .null, .null])) := by rw [eh373, tw_up_n ne372]; exact f356
  have f386 : h373 q357 = some (.inr (3, [.int 0, .null, .int 0])) := by rw [eh373]; exact tw_up_s
  refine tw_dup dX10_init_63 rfl ?_
  refine tw_bv (tw_callI (M := mX10_init) (pc := 64) okJx4a65c_init_da8c8 dX10_init_64 w_1123 rfl [] [.ref q357, .ref x] rfl rfl ⟨by decide, by decide⟩ (Nat.le_of_ble_eq_true rfl) (c_alist d h373 q357 f386) 2 9 (Nat.le_of_ble_eq_true rfl) (Nat.le_of_ble_eq_true rfl)) (fun h388 q387 => ?_) (fun E h1 q => q.elim)
  have sp389 : tw_sp d τ (tw_rm h x) g τ325 h388 := by rw [q387]; exact sp374.wl n360 z361
  have f390 : h388 (r5 0) = some (.inl (d.2 0, 4, .inl (fun _ => 0))) := by rw [q387, tw_up_n ne362]; exact f375
  have f391 : h388 (r5 1) = some (.inl (d.2 0, 4, .inl (fun _ => 0))) := by rw [q387, tw_up_n ne363]; exact f376
  have f392 : h388 (r5 2) = some (.inl (d.2 0, 4, .inl (fun _ => 0))) := by rw [q387, tw_up_n ne364]; exact f377
  have f393 : h388 (r5 3) = some (.inl (d.2 0, 4, .inl (fun _ => 0))) := by rw [q387, tw_up_n ne365]; exact f378
  have f394 : h388 q4 = some (.inl (d.2 8, 4, .inr (.inr (.inr (.inr (fun i => if i < 4 then some (r5 i) else none)))))) := by rw [q387, tw_up_n ne366]; exact f379
  have f395 : h388 (r43 0) = some (.inl (d.2 0, 4, .inl (fun _ => 0))) := by rw [q387, tw_up_n ne367]; exact f380
  have f396 : h388 (r43 1) = some (.inl (d.2 0, 4, .inl (fun _ => 0))) := by rw [q387, tw_up_n ne368]; exact f381
  have f397 : h388 (r43 2) = some (.inl (d.2 0, 4, .inl (fun _ => 0))) := by rw [q387, tw_up_n ne369]; exact f382
  have f398 : h388 (r43 3) = some (.inl (d.2 0, 4, .inl (fun _ => 0))) := by rw [q387, tw_up_n ne370]; exact f383
  have f399 : h388 q42 = some (.inl (d.2 8, 4, .inr (.inr (.inr (.inr (fun i => if i < 4 then some (r43 i) else none)))))) := by rw [q387, tw_up_n ne371]; exact f384
  have f400 : h388 x = some (.inr (14, [.int 0, .int 0, .int 155, .ref q4, .ref q42, .ref q115, .ref q174, .ref q234, .ref q295, .null, .null, .null])) := by rw [q387, tw_up_n ne372]; exact f385
  have f401 : h388 q357 = some (.inr (3, [.int 0, .ref (d.2 102), .int 0])) := by rw [q387]; exact tw_up_s
  refine tw_putF rfl in_14 tyX10 tyX10_ok nmX10 9 dX10_init_67 w_1160 rfl (by decide) f400 rfl rfl rfl rfl rfl rfl (Nat.le_of_ble_eq_true rfl) [.int 0, .int 0, .int 155, .ref q4, .ref q42, .ref q115, .ref q174, .ref q234, .ref q295, .ref q357, .null, .null] rfl ?_
  obtain ⟨h402, eh402⟩ : ∃ z : tw_H, z = tw_up h388 x (.inr (14, [.int 0, .int 0, .int 155, .ref q4, .ref q42, .ref q115, .ref q174, .ref q234, .ref q295, .ref q357, .null, .null])) := ⟨_, rfl⟩
  rw [← eh402]
  have sp403 : tw_sp d τ (tw_rm h x) g τ325 h402 := by rw [eh402]; exact sp389.wl tw_rm_s z332
  have f404 : h402 (r5 0) = some (.inl (d.2 0, 4, .inl (fun _ => 0))) := by rw [eh402, tw_up_n (Ne.symm ne15)]; exact f390
  have f405 : h402 (r5 1) = some (.inl (d.2 0, 4, .inl (fun _ => 0))) := by rw [eh402, tw_up_n (Ne.symm ne16)]; exact f391
  have f406 : h402 (r5 2) = some (.inl (d.2 0, 4, .inl (fun _ => 0))) := by rw [eh402, tw_up_n (Ne.symm ne17)]; exact f392
  have f407 : h402 (r5 3) = some (.inl (d.2 0, 4, .inl (fun _ => 0))) := by rw [eh402, tw_up_n (Ne.symm ne18)]; exact f393
  have f408 : h402 q4 = some (.inl (d.2 8, 4, .inr (.inr (.inr (.inr (fun i => if i < 4 then some (r5 i) else none)))))) := by rw [eh402, tw_up_n (Ne.symm ne19)]; exact f394
  have f409 : h402 (r43 0) = some (.inl (d.2 0, 4, .inl (fun _ => 0))) := by rw [eh402, tw_up_n (Ne.symm ne83)]; exact f395
  have f410 : h402 (r43 1) = some (.inl (d.2 0, 4, .inl (fun _ => 0))) := by rw [eh402, tw_up_n (Ne.symm ne84)]; exact f396
  have f411 : h402 (r43 2) = some (.inl (d.2 0, 4, .inl (fun _ => 0))) := by rw [eh402, tw_up_n (Ne.symm ne85)]; exact f397
  have f412 : h402 (r43 3) = some (.inl (d.2 0, 4, .inl (fun _ => 0))) := by rw [eh402, tw_up_n (Ne.symm ne86)]; exact f398
  have f413 : h402 q42 = some (.inl (d.2 8, 4, .inr (.inr (.inr (.inr (fun i => if i < 4 then some (r43 i) else none)))))) := by rw [eh402, tw_up_n (Ne.symm ne87)]; exact f399
  have f414 : h402 q357 = some (.inr (3, [.int 0, .ref (d.2 102), .int 0])) := by rw [eh402, tw_up_n (Ne.symm ne372)]; exact f401
  have f415 : h402 x = some (.inr (14, [.int 0, .int 0, .int 155, .ref q4, .ref q42, .ref q115, .ref q174, .ref q234, .ref q295, .ref q357, .null, .null])) := by rw [eh402]; exact tw_up_s
  refine tw_aload_n 0 dX10_init_70 rfl rfl ?_
  refine tw_new (ci := 3) rfl in_3 tyJx4a65c tyJx4a65c_ok dX10_init_71 w_1121 w_1122 w_82 (fs := [.int 0, .null, .int 0]) (fun j hj => by rcases (show j = 0 ∨ j = 1 ∨ j = 2 by omega) with rfl | rfl | rfl <;> rfl) 1 6 (Nat.le_of_ble_eq_true rfl) (Nat.le_of_ble_eq_true rfl) (fun q416 hq417 hA418 => ?_)
  have n419 := sp403.nn hq417
  have z420 := sp403.1.none hq417
  have ne421 := tw_neF f404 hq417
  have ne422 := tw_neF f405 hq417
  have ne423 := tw_neF f406 hq417
  have ne424 := tw_neF f407 hq417
  have ne425 := tw_neF f408 hq417
  have ne426 := tw_neF f409 hq417
  have ne427 := tw_neF f410 hq417
  have ne428 := tw_neF f411 hq417
  have ne429 := tw_neF f412 hq417
  have ne430 := tw_neF f413 hq417
  have ne431 := tw_neF f414 hq417
  have ne432 := tw_neF f415 hq417
  obtain ⟨h433, eh433⟩ : ∃ z : tw_H, z = tw_up h402 q416 (.inr (3, [.int 0, .null, .int 0])) := ⟨_, rfl⟩
  rw [← eh433]
  have sp434 : tw_sp d τ (tw_rm h x) g τ325 h433 := by rw [eh433]; exact sp403.mk hq417
  have f435 : h433 (r5 0) = some (.inl (d.2 0, 4, .inl (fun _ => 0))) := by rw [eh433, tw_up_n ne421]; exact f404
  have f436 : h433 (r5 1) = some (.inl (d.2 0, 4, .inl (fun _ => 0))) := by rw [eh433, tw_up_n ne422]; exact f405
  have f437 : h433 (r5 2) = some (.inl (d.2 0, 4, .inl (fun _ => 0))) := by rw [eh433, tw_up_n ne423]; exact f406
  have f438 : h433 (r5 3) = some (.inl (d.2 0, 4, .inl (fun _ => 0))) := by rw [eh433, tw_up_n ne424]; exact f407
  have f439 : h433 q4 = some (.inl (d.2 8, 4, .inr (.inr (.inr (.inr (fun i => if i < 4 then some (r5 i) else none)))))) := by rw [eh433, tw_up_n ne425]; exact f408
  have f440 : h433 (r43 0) = some (.inl (d.2 0, 4, .inl (fun _ => 0))) := by rw [eh433, tw_up_n ne426]; exact f409
  have f441 : h433 (r43 1) = some (.inl (d.2 0, 4, .inl (fun _ => 0))) := by rw [eh433, tw_up_n ne427]; exact f410
  have f442 : h433 (r43 2) = some (.inl (d.2 0, 4, .inl (fun _ => 0))) := by rw [eh433, tw_up_n ne428]; exact f411
  have f443 : h433 (r43 3) = some (.inl (d.2 0, 4, .inl (fun _ => 0))) := by rw [eh433, tw_up_n ne429]; exact f412
  have f444 : h433 q42 = some (.inl (d.2 8, 4, .inr (.inr (.inr (.inr (fun i => if i < 4 then some (r43 i) else none)))))) := by rw [eh433, tw_up_n ne430]; exact f413
  have f445 : h433 q357 = some (.inr (3, [.int 0, .ref (d.2 102), .int 0])) := by rw [eh433, tw_up_n ne431]; exact f414
  have f446 : h433 x = some (.inr (14, [.int 0, .int 0, .int 155, .ref q4, .ref q42, .ref q115, .ref q174, .ref q234, .ref q295, .ref q357, .null, .null])) := by rw [eh433, tw_up_n ne432]; exact f415
  have f447 : h433 q416 = some (.inr (3, [.int 0, .null, .int 0])) := by rw [eh433]; exact tw_up_s
  refine tw_dup dX10_init_74 rfl ?_
  refine tw_bv (tw_callI (M := mX10_init) (pc := 75) okJx4a65c_init_da8c8 dX10_init_75 w_1123 rfl [] [.ref q416, .ref x] rfl rfl ⟨by decide, by decide⟩ (Nat.le_of_ble_eq_true rfl) (c_alist d h433 q416 f447) 1 6 (Nat.le_of_ble_eq_true rfl) (Nat.le_of_ble_eq_true rfl)) (fun h449 q448 => ?_) (fun E h1 q => q.elim)
  have sp450 : tw_sp d τ (tw_rm h x) g τ325 h449 := by rw [q448]; exact sp434.wl n419 z420
  have f451 : h449 (r5 0) = some (.inl (d.2 0, 4, .inl (fun _ => 0))) := by rw [q448, tw_up_n ne421]; exact f435
  have f452 : h449 (r5 1) = some (.inl (d.2 0, 4, .inl (fun _ => 0))) := by rw [q448, tw_up_n ne422]; exact f436
  have f453 : h449 (r5 2) = some (.inl (d.2 0, 4, .inl (fun _ => 0))) := by rw [q448, tw_up_n ne423]; exact f437
  have f454 : h449 (r5 3) = some (.inl (d.2 0, 4, .inl (fun _ => 0))) := by rw [q448, tw_up_n ne424]; exact f438
  have f455 : h449 q4 = some (.inl (d.2 8, 4, .inr (.inr (.inr (.inr (fun i => if i < 4 then some (r5 i) else none)))))) := by rw [q448, tw_up_n ne425]; exact f439
  have f456 : h449 (r43 0) = some (.inl (d.2 0, 4, .inl (fun _ => 0))) := by rw [q448, tw_up_n ne426]; exact f440
  have f457 : h449 (r43 1) = some (.inl (d.2 0, 4, .inl (fun _ => 0))) := by rw [q448, tw_up_n ne427]; exact f441
  have f458 : h449 (r43 2) = some (.inl (d.2 0, 4, .inl (fun _ => 0))) := by rw [q448, tw_up_n ne428]; exact f442
  have f459 : h449 (r43 3) = some (.inl (d.2 0, 4, .inl (fun _ => 0))) := by rw [q448, tw_up_n ne429]; exact f443
  have f460 : h449 q42 = some (.inl (d.2 8, 4, .inr (.inr (.inr (.inr (fun i => if i < 4 then some (r43 i) else none)))))) := by rw [q448, tw_up_n ne430]; exact f444
  have f461 : h449 q357 = some (.inr (3, [.int 0, .ref (d.2 102), .int 0])) := by rw [q448, tw_up_n ne431]; exact f445
  have f462 : h449 x = some (.inr (14, [.int 0, .int 0, .int 155, .ref q4, .ref q42, .ref q115, .ref q174, .ref q234, .ref q295, .ref q357, .null, .null])) := by rw [q448, tw_up_n ne432]; exact f446
  have f463 : h449 q416 = some (.inr (3, [.int 0, .ref (d.2 102), .int 0])) := by rw [q448]; exact tw_up_s
  refine tw_putF rfl in_14 tyX10 tyX10_ok nmX10 10 dX10_init_78 w_1161 rfl (by decide) f462 rfl rfl rfl rfl rfl rfl (Nat.le_of_ble_eq_true rfl) [.int 0, .int 0, .int 155, .ref q4, .ref q42, .ref q115, .ref q174, .ref q234, .ref q295, .ref q357, .ref q416, .null] rfl ?_
  obtain ⟨h464, eh464⟩ : ∃ z : tw_H, z = tw_up h449 x (.inr (14, [.int 0, .int 0, .int 155, .ref q4, .ref q42, .ref q115, .ref q174, .ref q234, .ref q295, .ref q357, .ref q416, .null])) := ⟨_, rfl⟩
  rw [← eh464]
  have sp465 : tw_sp d τ (tw_rm h x) g τ325 h464 := by rw [eh464]; exact sp450.wl tw_rm_s z332
  have f466 : h464 (r5 0) = some (.inl (d.2 0, 4, .inl (fun _ => 0))) := by rw [eh464, tw_up_n (Ne.symm ne15)]; exact f451
  have f467 : h464 (r5 1) = some (.inl (d.2 0, 4, .inl (fun _ => 0))) := by rw [eh464, tw_up_n (Ne.symm ne16)]; exact f452
  have f468 : h464 (r5 2) = some (.inl (d.2 0, 4, .inl (fun _ => 0))) := by rw [eh464, tw_up_n (Ne.symm ne17)]; exact f453
  have f469 : h464 (r5 3) = some (.inl (d.2 0, 4, .inl (fun _ => 0))) := by rw [eh464, tw_up_n (Ne.symm ne18)]; exact f454
  have f470 : h464 q4 = some (.inl (d.2 8, 4, .inr (.inr (.inr (.inr (fun i => if i < 4 then some (r5 i) else none)))))) := by rw [eh464, tw_up_n (Ne.symm ne19)]; exact f455
  have f471 : h464 (r43 0) = some (.inl (d.2 0, 4, .inl (fun _ => 0))) := by rw [eh464, tw_up_n (Ne.symm ne83)]; exact f456
  have f472 : h464 (r43 1) = some (.inl (d.2 0, 4, .inl (fun _ => 0))) := by rw [eh464, tw_up_n (Ne.symm ne84)]; exact f457
  have f473 : h464 (r43 2) = some (.inl (d.2 0, 4, .inl (fun _ => 0))) := by rw [eh464, tw_up_n (Ne.symm ne85)]; exact f458
  have f474 : h464 (r43 3) = some (.inl (d.2 0, 4, .inl (fun _ => 0))) := by rw [eh464, tw_up_n (Ne.symm ne86)]; exact f459
  have f475 : h464 q42 = some (.inl (d.2 8, 4, .inr (.inr (.inr (.inr (fun i => if i < 4 then some (r43 i) else none)))))) := by rw [eh464, tw_up_n (Ne.symm ne87)]; exact f460
  have f476 : h464 q357 = some (.inr (3, [.int 0, .ref (d.2 102), .int 0])) := by rw [eh464, tw_up_n (Ne.symm ne372)]; exact f461
  have f477 : h464 q416 = some (.inr (3, [.int 0, .ref (d.2 102), .int 0])) := by rw [eh464, tw_up_n (Ne.symm ne432)]; exact f463
  have f478 : h464 x = some (.inr (14, [.int 0, .int 0, .int 155, .ref q4, .ref q42, .ref q115, .ref q174, .ref q234, .ref q295, .ref q357, .ref q416, .null])) := by rw [eh464]; exact tw_up_s
  refine tw_aload_n 0 dX10_init_81 rfl rfl ?_
  refine tw_new (ci := 3) rfl in_3 tyJx4a65c tyJx4a65c_ok dX10_init_82 w_1121 w_1122 w_82 (fs := [.int 0, .null, .int 0]) (fun j hj => by rcases (show j = 0 ∨ j = 1 ∨ j = 2 by omega) with rfl | rfl | rfl <;> rfl) 0 3 (Nat.le_of_ble_eq_true rfl) (Nat.le_of_ble_eq_true rfl) (fun q479 hq480 hA481 => ?_)
  have n482 := sp465.nn hq480
  have z483 := sp465.1.none hq480
  have ne484 := tw_neF f466 hq480
  have ne485 := tw_neF f467 hq480
  have ne486 := tw_neF f468 hq480
  have ne487 := tw_neF f469 hq480
  have ne488 := tw_neF f470 hq480
  have ne489 := tw_neF f471 hq480
  have ne490 := tw_neF f472 hq480
  have ne491 := tw_neF f473 hq480
  have ne492 := tw_neF f474 hq480
  have ne493 := tw_neF f475 hq480
  have ne494 := tw_neF f476 hq480
  have ne495 := tw_neF f477 hq480
  have ne496 := tw_neF f478 hq480
  obtain ⟨h497, eh497⟩ : ∃ z : tw_H, z = tw_up h464 q479 (.inr (3, [.int 0, .null, .int 0])) := ⟨_, rfl⟩
  rw [← eh497]
  have sp498 : tw_sp d τ (tw_rm h x) g τ325 h497 := by rw [eh497]; exact sp465.mk hq480
  have f499 : h497 (r5 0) = some (.inl (d.2 0, 4, .inl (fun _ => 0))) := by rw [eh497, tw_up_n ne484]; exact f466
  have f500 : h497 (r5 1) = some (.inl (d.2 0, 4, .inl (fun _ => 0))) := by rw [eh497, tw_up_n ne485]; exact f467
  have f501 : h497 (r5 2) = some (.inl (d.2 0, 4, .inl (fun _ => 0))) := by rw [eh497, tw_up_n ne486]; exact f468
  have f502 : h497 (r5 3) = some (.inl (d.2 0, 4, .inl (fun _ => 0))) := by rw [eh497, tw_up_n ne487]; exact f469
  have f503 : h497 q4 = some (.inl (d.2 8, 4, .inr (.inr (.inr (.inr (fun i => if i < 4 then some (r5 i) else none)))))) := by rw [eh497, tw_up_n ne488]; exact f470
  have f504 : h497 (r43 0) = some (.inl (d.2 0, 4, .inl (fun _ => 0))) := by rw [eh497, tw_up_n ne489]; exact f471
  have f505 : h497 (r43 1) = some (.inl (d.2 0, 4, .inl (fun _ => 0))) := by rw [eh497, tw_up_n ne490]; exact f472
  have f506 : h497 (r43 2) = some (.inl (d.2 0, 4, .inl (fun _ => 0))) := by rw [eh497, tw_up_n ne491]; exact f473
  have f507 : h497 (r43 3) = some (.inl (d.2 0, 4, .inl (fun _ => 0))) := by rw [eh497, tw_up_n ne492]; exact f474
  have f508 : h497 q42 = some (.inl (d.2 8, 4, .inr (.inr (.inr (.inr (fun i => if i < 4 then some (r43 i) else none)))))) := by rw [eh497, tw_up_n ne493]; exact f475
  have f509 : h497 q357 = some (.inr (3, [.int 0, .ref (d.2 102), .int 0])) := by rw [eh497, tw_up_n ne494]; exact f476
  have f510 : h497 q416 = some (.inr (3, [.int 0, .ref (d.2 102), .int 0])) := by rw [eh497, tw_up_n ne495]; exact f477
  have f511 : h497 x = some (.inr (14, [.int 0, .int 0, .int 155, .ref q4, .ref q42, .ref q115, .ref q174, .ref q234, .ref q295, .ref q357, .ref q416, .null])) := by rw [eh497, tw_up_n ne496]; exact f478
  have f512 : h497 q479 = some (.inr (3, [.int 0, .null, .int 0])) := by rw [eh497]; exact tw_up_s
  refine tw_dup dX10_init_85 rfl ?_
  refine tw_bv (tw_callI (M := mX10_init) (pc := 86) okJx4a65c_init_da8c8 dX10_init_86 w_1123 rfl [] [.ref q479, .ref x] rfl rfl ⟨by decide, by decide⟩ (Nat.le_of_ble_eq_true rfl) (c_alist d h497 q479 f512) 0 3 (Nat.le_of_ble_eq_true rfl) (Nat.le_of_ble_eq_true rfl)) (fun h514 q513 => ?_) (fun E h1 q => q.elim)
  have sp515 : tw_sp d τ (tw_rm h x) g τ325 h514 := by rw [q513]; exact sp498.wl n482 z483
  have f516 : h514 (r5 0) = some (.inl (d.2 0, 4, .inl (fun _ => 0))) := by rw [q513, tw_up_n ne484]; exact f499
  have f517 : h514 (r5 1) = some (.inl (d.2 0, 4, .inl (fun _ => 0))) := by rw [q513, tw_up_n ne485]; exact f500
  have f518 : h514 (r5 2) = some (.inl (d.2 0, 4, .inl (fun _ => 0))) := by rw [q513, tw_up_n ne486]; exact f501
  have f519 : h514 (r5 3) = some (.inl (d.2 0, 4, .inl (fun _ => 0))) := by rw [q513, tw_up_n ne487]; exact f502
  have f520 : h514 q4 = some (.inl (d.2 8, 4, .inr (.inr (.inr (.inr (fun i => if i < 4 then some (r5 i) else none)))))) := by rw [q513, tw_up_n ne488]; exact f503
  have f521 : h514 (r43 0) = some (.inl (d.2 0, 4, .inl (fun _ => 0))) := by rw [q513, tw_up_n ne489]; exact f504
  have f522 : h514 (r43 1) = some (.inl (d.2 0, 4, .inl (fun _ => 0))) := by rw [q513, tw_up_n ne490]; exact f505
  have f523 : h514 (r43 2) = some (.inl (d.2 0, 4, .inl (fun _ => 0))) := by rw [q513, tw_up_n ne491]; exact f506
  have f524 : h514 (r43 3) = some (.inl (d.2 0, 4, .inl (fun _ => 0))) := by rw [q513, tw_up_n ne492]; exact f507
  have f525 : h514 q42 = some (.inl (d.2 8, 4, .inr (.inr (.inr (.inr (fun i => if i < 4 then some (r43 i) else none)))))) := by rw [q513, tw_up_n ne493]; exact f508
  have f526 : h514 q357 = some (.inr (3, [.int 0, .ref (d.2 102), .int 0])) := by rw [q513, tw_up_n ne494]; exact f509
  have f527 : h514 q416 = some (.inr (3, [.int 0, .ref (d.2 102), .int 0])) := by rw [q513, tw_up_n ne495]; exact f510
  have f528 : h514 x = some (.inr (14, [.int 0, .int 0, .int 155, .ref q4, .ref q42, .ref q115, .ref q174, .ref q234, .ref q295, .ref q357, .ref q416, .null])) := by rw [q513, tw_up_n ne496]; exact f511
  have f529 : h514 q479 = some (.inr (3, [.int 0, .ref (d.2 102), .int 0])) := by rw [q513]; exact tw_up_s
  refine tw_putF rfl in_14 tyX10 tyX10_ok nmX10 11 dX10_init_89 w_1162 rfl (by decide) f528 rfl rfl rfl rfl rfl rfl (Nat.le_of_ble_eq_true rfl) [.int 0, .int 0, .int 155, .ref q4, .ref q42, .ref q115, .ref q174, .ref q234, .ref q295, .ref q357, .ref q416, .ref q479] rfl ?_
  obtain ⟨h530, eh530⟩ : ∃ z : tw_H, z = tw_up h514 x (.inr (14, [.int 0, .int 0, .int 155, .ref q4, .ref q42, .ref q115, .ref q174, .ref q234, .ref q295, .ref q357, .ref q416, .ref q479])) := ⟨_, rfl⟩
  rw [← eh530]
  have sp531 : tw_sp d τ (tw_rm h x) g τ325 h530 := by rw [eh530]; exact sp515.wl tw_rm_s z332
  have f532 : h530 (r5 0) = some (.inl (d.2 0, 4, .inl (fun _ => 0))) := by rw [eh530, tw_up_n (Ne.symm ne15)]; exact f516
  have f533 : h530 (r5 1) = some (.inl (d.2 0, 4, .inl (fun _ => 0))) := by rw [eh530, tw_up_n (Ne.symm ne16)]; exact f517
  have f534 : h530 (r5 2) = some (.inl (d.2 0, 4, .inl (fun _ => 0))) := by rw [eh530, tw_up_n (Ne.symm ne17)]; exact f518
  have f535 : h530 (r5 3) = some (.inl (d.2 0, 4, .inl (fun _ => 0))) := by rw [eh530, tw_up_n (Ne.symm ne18)]; exact f519
  have f536 : h530 q4 = some (.inl (d.2 8, 4, .inr (.inr (.inr (.inr (fun i => if i < 4 then some (r5 i) else none)))))) := by rw [eh530, tw_up_n (Ne.symm ne19)]; exact f520
  have f537 : h530 (r43 0) = some (.inl (d.2 0, 4, .inl (fun _ => 0))) := by rw [eh530, tw_up_n (Ne.symm ne83)]; exact f521
  have f538 : h530 (r43 1) = some (.inl (d.2 0, 4, .inl (fun _ => 0))) := by rw [eh530, tw_up_n (Ne.symm ne84)]; exact f522
  have f539 : h530 (r43 2) = some (.inl (d.2 0, 4, .inl (fun _ => 0))) := by rw [eh530, tw_up_n (Ne.symm ne85)]; exact f523
  have f540 : h530 (r43 3) = some (.inl (d.2 0, 4, .inl (fun _ => 0))) := by rw [eh530, tw_up_n (Ne.symm ne86)]; exact f524
  have f541 : h530 q42 = some (.inl (d.2 8, 4, .inr (.inr (.inr (.inr (fun i => if i < 4 then some (r43 i) else none)))))) := by rw [eh530, tw_up_n (Ne.symm ne87)]; exact f525
  have f542 : h530 q357 = some (.inr (3, [.int 0, .ref (d.2 102), .int 0])) := by rw [eh530, tw_up_n (Ne.symm ne372)]; exact f526
  have f543 : h530 q416 = some (.inr (3, [.int 0, .ref (d.2 102), .int 0])) := by rw [eh530, tw_up_n (Ne.symm ne432)]; exact f527
  have f544 : h530 q479 = some (.inr (3, [.int 0, .ref (d.2 102), .int 0])) := by rw [eh530, tw_up_n (Ne.symm ne496)]; exact f529
  have f545 : h530 x = some (.inr (14, [.int 0, .int 0, .int 155, .ref q4, .ref q42, .ref q115, .ref q174, .ref q234, .ref q295, .ref q357, .ref q416, .ref q479])) := by rw [eh530]; exact tw_up_s
  refine tw_iconst (v := 0) dX10_init_92 (by decide) ?_
  refine tw_istore_n [(1, .int 0), (0, .ref x)] dX10_init_93 rfl (by decide) rfl ?_
  refine tw_iload_n 0 dX10_init_94 rfl rfl ?_
  refine tw_iconst (v := 4) dX10_init_95 (by decide) ?_
  refine tw_icmp_ge 137 dX10_init_96 (by decide) (fun c546 => absurd c546 (by decide)) (fun _ => ?_)
  refine tw_iconst (v := 0) dX10_init_99 (by decide) ?_
  refine tw_istore_n [(2, .int 0), (1, .int 0), (0, .ref x)] dX10_init_100 rfl (by decide) rfl ?_
  refine tw_iload_n 0 dX10_init_101 rfl rfl ?_
  refine tw_iconst (v := 4) dX10_init_102 (by decide) ?_
  refine tw_icmp_ge 131 dX10_init_103 (by decide) (fun c547 => absurd c547 (by decide)) (fun _ => ?_)
  refine tw_aload_n 2 dX10_init_106 rfl rfl ?_
  refine tw_get (v := .ref q4) rfl in_14 3 dX10_init_107 w_1154 rfl (by decide) f545 rfl ?_
  refine tw_iload_n 1 dX10_init_110 rfl rfl ?_
  refine tw_aald (v := .ref (r5 0)) 8 rfl rfl dX10_init_111 f536 (vp_in_nI (n := 0) (by decide) (by decide)) rfl ?_
  refine tw_iload_n 0 dX10_init_112 rfl rfl ?_
  refine tw_iconst (v := 3) dX10_init_113 (by decide) ?_
  refine tw_iast dX10_init_114 f532 (vp_in_nI (n := 0) (by decide) (by decide)) ?_
  obtain ⟨F548, eF548⟩ : ∃ z : Nat → Int32, z = upd (fun _ => 0) (0 : Int32).toNatClampNeg 3 := ⟨_, rfl⟩
  rw [← eF548]
  obtain ⟨h549, eh549⟩ : ∃ z : tw_H, z = tw_up h530 (r5 0) (.inl (d.2 0, 4, .inl F548)) := ⟨_, rfl⟩
  rw [← eh549]
  have sp550 : tw_sp d τ (tw_rm h x) g τ325 h549 := by rw [eh549]; exact sp531.wl n20 z333
  have f551 : h549 (r5 1) = some (.inl (d.2 0, 4, .inl (fun _ => 0))) := by rw [eh549, tw_up_n (fun z => absurd (hi9 1 0 (by decide) (by decide) z) (by decide))]; exact f533
  have f552 : h549 (r5 2) = some (.inl (d.2 0, 4, .inl (fun _ => 0))) := by rw [eh549, tw_up_n (fun z => absurd (hi9 2 0 (by decide) (by decide) z) (by decide))]; exact f534
  have f553 : h549 (r5 3) = some (.inl (d.2 0, 4, .inl (fun _ => 0))) := by rw [eh549, tw_up_n (fun z => absurd (hi9 3 0 (by decide) (by decide) z) (by decide))]; exact f535
  have f554 : h549 q4 = some (.inl (d.2 8, 4, .inr (.inr (.inr (.inr (fun i => if i < 4 then some (r5 i) else none)))))) := by rw [eh549, tw_up_n (Ne.symm (hr8 0 (by decide)).2)]; exact f536
  have f555 : h549 (r43 0) = some (.inl (d.2 0, 4, .inl (fun _ => 0))) := by rw [eh549, tw_up_n (Ne.symm ne53)]; exact f537
  have f556 : h549 (r43 1) = some (.inl (d.2 0, 4, .inl (fun _ => 0))) := by rw [eh549, tw_up_n (Ne.symm ne54)]; exact f538
  have f557 : h549 (r43 2) = some (.inl (d.2 0, 4, .inl (fun _ => 0))) := by rw [eh549, tw_up_n (Ne.symm ne55)]; exact f539
  have f558 : h549 (r43 3) = some (.inl (d.2 0, 4, .inl (fun _ => 0))) := by rw [eh549, tw_up_n (Ne.symm ne56)]; exact f540
  have f559 : h549 q42 = some (.inl (d.2 8, 4, .inr (.inr (.inr (.inr (fun i => if i < 4 then some (r43 i) else none)))))) := by rw [eh549, tw_up_n (Ne.symm ne57)]; exact f541
  have f560 : h549 q357 = some (.inr (3, [.int 0, .ref (d.2 102), .int 0])) := by rw [eh549, tw_up_n (Ne.symm ne362)]; exact f542
  have f561 : h549 q416 = some (.inr (3, [.int 0, .ref (d.2 102), .int 0])) := by rw [eh549, tw_up_n (Ne.symm ne421)]; exact f543
  have f562 : h549 q479 = some (.inr (3, [.int 0, .ref (d.2 102), .int 0])) := by rw [eh549, tw_up_n (Ne.symm ne484)]; exact f544
  have f563 : h549 x = some (.inr (14, [.int 0, .int 0, .int 155, .ref q4, .ref q42, .ref q115, .ref q174, .ref q234, .ref q295, .ref q357, .ref q416, .ref q479])) := by rw [eh549, tw_up_n ne15]; exact f545
  have f564 : h549 (r5 0) = some (.inl (d.2 0, 4, .inl F548)) := by rw [eh549]; exact tw_up_s
  clear f532 f533 f534 f535 f536 f537 f538 f539 f540 f541 f542 f543 f544 f545 sp531 eh549
  refine tw_aload_n 2 dX10_init_115 rfl rfl ?_
  refine tw_get (v := .ref q42) rfl in_14 4 dX10_init_116 w_1155 rfl (by decide) f563 rfl ?_
  refine tw_iload_n 1 dX10_init_119 rfl rfl ?_
  refine tw_aald (v := .ref (r43 0)) 8 rfl rfl dX10_init_120 f559 (vp_in_nI (n := 0) (by decide) (by decide)) rfl ?_
  refine tw_iload_n 0 dX10_init_121 rfl rfl ?_
  refine tw_bipush (v := 10) dX10_init_122 (by decide) ?_
  refine tw_iast dX10_init_124 f555 (vp_in_nI (n := 0) (by decide) (by decide)) ?_
  obtain ⟨F565, eF565⟩ : ∃ z : Nat → Int32, z = upd (fun _ => 0) (0 : Int32).toNatClampNeg 10 := ⟨_, rfl⟩
  rw [← eF565]
  obtain ⟨h566, eh566⟩ : ∃ z : tw_H, z = tw_up h549 (r43 0) (.inl (d.2 0, 4, .inl F565)) := ⟨_, rfl⟩
  rw [← eh566]
  have sp567 : tw_sp d τ (tw_rm h x) g τ325 h566 := by rw [eh566]; exact sp550.wl n88 z338
  have f568 : h566 (r5 1) = some (.inl (d.2 0, 4, .inl (fun _ => 0))) := by rw [eh566, tw_up_n ne59]; exact f551
  have f569 : h566 (r5 2) = some (.inl (d.2 0, 4, .inl (fun _ => 0))) := by rw [eh566, tw_up_n ne65]; exact f552
  have f570 : h566 (r5 3) = some (.inl (d.2 0, 4, .inl (fun _ => 0))) := by rw [eh566, tw_up_n ne71]; exact f553
  have f571 : h566 q4 = some (.inl (d.2 8, 4, .inr (.inr (.inr (.inr (fun i => if i < 4 then some (r5 i) else none)))))) := by rw [eh566, tw_up_n ne77]; exact f554
  have f572 : h566 (r43 1) = some (.inl (d.2 0, 4, .inl (fun _ => 0))) := by rw [eh566, tw_up_n (fun z => absurd (hi47 1 0 (by decide) (by decide) z) (by decide))]; exact f556
  have f573 : h566 (r43 2) = some (.inl (d.2 0, 4, .inl (fun _ => 0))) := by rw [eh566, tw_up_n (fun z => absurd (hi47 2 0 (by decide) (by decide) z) (by decide))]; exact f557
  have f574 : h566 (r43 3) = some (.inl (d.2 0, 4, .inl (fun _ => 0))) := by rw [eh566, tw_up_n (fun z => absurd (hi47 3 0 (by decide) (by decide) z) (by decide))]; exact f558
  have f575 : h566 q42 = some (.inl (d.2 8, 4, .inr (.inr (.inr (.inr (fun i => if i < 4 then some (r43 i) else none)))))) := by rw [eh566, tw_up_n (Ne.symm (hr46 0 (by decide)).2)]; exact f559
  have f576 : h566 q357 = some (.inr (3, [.int 0, .ref (d.2 102), .int 0])) := by rw [eh566, tw_up_n (Ne.symm ne367)]; exact f560
  have f577 : h566 q416 = some (.inr (3, [.int 0, .ref (d.2 102), .int 0])) := by rw [eh566, tw_up_n (Ne.symm ne426)]; exact f561
  have f578 : h566 q479 = some (.inr (3, [.int 0, .ref (d.2 102), .int 0])) := by rw [eh566, tw_up_n (Ne.symm ne489)]; exact f562
  have f579 : h566 x = some (.inr (14, [.int 0, .int 0, .int 155, .ref q4, .ref q42, .ref q115, .ref q174, .ref q234, .ref q295, .ref q357, .ref q416, .ref q479])) := by rw [eh566, tw_up_n ne83]; exact f563
  have f580 : h566 (r5 0) = some (.inl (d.2 0, 4, .inl F548)) := by rw [eh566, tw_up_n ne53]; exact f564
  have f581 : h566 (r43 0) = some (.inl (d.2 0, 4, .inl F565)) := by rw [eh566]; exact tw_up_s
  clear f551 f552 f553 f554 f555 f556 f557 f558 f559 f560 f561 f562 f563 f564 sp550 eh566
  refine tw_iinc [(2, .int 1), (1, .int 0), (0, .ref x)] 0 dX10_init_125 rfl (by decide) (by decide) rfl ?_
  refine tw_goto 101 dX10_init_128 (by decide) ?_
  refine tw_iload_n 0 dX10_init_101 rfl rfl ?_
  refine tw_iconst (v := 4) dX10_init_102 (by decide) ?_
  refine tw_icmp_ge 131 dX10_init_103 (by decide) (fun c582 => absurd c582 (by decide)) (fun _ => ?_)
  refine tw_aload_n 2 dX10_init_106 rfl rfl ?_
  refine tw_get (v := .ref q4) rfl in_14 3 dX10_init_107 w_1154 rfl (by decide) f579 rfl ?_
  refine tw_iload_n 1 dX10_init_110 rfl rfl ?_
  refine tw_aald (v := .ref (r5 0)) 8 rfl rfl dX10_init_111 f571 (vp_in_nI (n := 0) (by decide) (by decide)) rfl ?_
  refine tw_iload_n 0 dX10_init_112 rfl rfl ?_
  refine tw_iconst (v := 3) dX10_init_113 (by decide) ?_
  refine tw_iast dX10_init_114 f580 (vp_in_nI (n := 1) (by decide) (by decide)) ?_
  obtain ⟨F583, eF583⟩ : ∃ z : Nat → Int32, z = upd F548 (1 : Int32).toNatClampNeg 3 := ⟨_, rfl⟩
  rw [← eF583]
  obtain ⟨h584, eh584⟩ : ∃ z : tw_H, z = tw_up h566 (r5 0) (.inl (d.2 0, 4, .inl F583)) := ⟨_, rfl⟩
  rw [← eh584]
  have sp585 : tw_sp d τ (tw_rm h x) g τ325 h584 := by rw [eh584]; exact sp567.wl n20 z333
  have f586 : h584 (r5 1) = some (.inl (d.2 0, 4, .inl (fun _ => 0))) := by rw [eh584, tw_up_n (fun z => absurd (hi9 1 0 (by decide) (by decide) z) (by decide))]; exact f568
  have f587 : h584 (r5 2) = some (.inl (d.2 0, 4, .inl (fun _ => 0))) := by rw [eh584, tw_up_n (fun z => absurd (hi9 2 0 (by decide) (by decide) z) (by decide))]; exact f569
  have f588 : h584 (r5 3) = some (.inl (d.2 0, 4, .inl (fun _ => 0))) := by rw [eh584, tw_up_n (fun z => absurd (hi9 3 0 (by decide) (by decide) z) (by decide))]; exact f570
  have f589 : h584 q4 = some (.inl (d.2 8, 4, .inr (.inr (.inr (.inr (fun i => if i < 4 then some (r5 i) else none)))))) := by rw [eh584, tw_up_n (Ne.symm (hr8 0 (by decide)).2)]; exact f571
  have f590 : h584 (r43 1) = some (.inl (d.2 0, 4, .inl (fun _ => 0))) := by rw [eh584, tw_up_n (Ne.symm ne54)]; exact f572
  have f591 : h584 (r43 2) = some (.inl (d.2 0, 4, .inl (fun _ => 0))) := by rw [eh584, tw_up_n (Ne.symm ne55)]; exact f573
  have f592 : h584 (r43 3) = some (.inl (d.2 0, 4, .inl (fun _ => 0))) := by rw [eh584, tw_up_n (Ne.symm ne56)]; exact f574
  have f593 : h584 q42 = some (.inl (d.2 8, 4, .inr (.inr (.inr (.inr (fun i => if i < 4 then some (r43 i) else none)))))) := by rw [eh584, tw_up_n (Ne.symm ne57)]; exact f575
  have f594 : h584 q357 = some (.inr (3, [.int 0, .ref (d.2 102), .int 0])) := by rw [eh584, tw_up_n (Ne.symm ne362)]; exact f576
  have f595 : h584 q416 = some (.inr (3, [.int 0, .ref (d.2 102), .int 0])) := by rw [eh584, tw_up_n (Ne.symm ne421)]; exact f577
  have f596 : h584 q479 = some (.inr (3, [.int 0, .ref (d.2 102), .int 0])) := by rw [eh584, tw_up_n (Ne.symm ne484)]; exact f578
  have f597 : h584 x = some (.inr (14, [.int 0, .int 0, .int 155, .ref q4, .ref q42, .ref q115, .ref q174, .ref q234, .ref q295, .ref q357, .ref q416, .ref q479])) := by rw [eh584, tw_up_n ne15]; exact f579
  have f598 : h584 (r43 0) = some (.inl (d.2 0, 4, .inl F565)) := by rw [eh584, tw_up_n (Ne.symm ne53)]; exact f581
  have f599 : h584 (r5 0) = some (.inl (d.2 0, 4, .inl F583)) := by rw [eh584]; exact tw_up_s
  clear f568 f569 f570 f571 f572 f573 f574 f575 f576 f577 f578 f579 f580 f581 sp567 eh584
  refine tw_aload_n 2 dX10_init_115 rfl rfl ?_
  refine tw_get (v := .ref q42) rfl in_14 4 dX10_init_116 w_1155 rfl (by decide) f597 rfl ?_
  refine tw_iload_n 1 dX10_init_119 rfl rfl ?_
  refine tw_aald (v := .ref (r43 0)) 8 rfl rfl dX10_init_120 f593 (vp_in_nI (n := 0) (by decide) (by decide)) rfl ?_
  refine tw_iload_n 0 dX10_init_121 rfl rfl ?_
  refine tw_bipush (v := 10) dX10_init_122 (by decide) ?_
  refine tw_iast dX10_init_124 f598 (vp_in_nI (n := 1) (by decide) (by decide)) ?_
  obtain ⟨F600, eF600⟩ : ∃ z : Nat → Int32, z = upd F565 (1 : Int32).toNatClampNeg 10 := ⟨_, rfl⟩
  rw [← eF600]
  obtain ⟨h601, eh601⟩ : ∃ z : tw_H, z = tw_up h584 (r43 0) (.inl (d.2 0, 4, .inl F600)) := ⟨_, rfl⟩
  rw [← eh601]
  have sp602 : tw_sp d τ (tw_rm h x) g τ325 h601 := by rw [eh601]; exact sp585.wl n88 z338
  have f603 : h601 (r5 1) = some (.inl (d.2 0, 4, .inl (fun _ => 0))) := by rw [eh601, tw_up_n ne59]; exact f586
  have f604 : h601 (r5 2) = some (.inl (d.2 0, 4, .inl (fun _ => 0))) := by rw [eh601, tw_up_n ne65]; exact f587
  have f605 : h601 (r5 3) = some (.inl (d.2 0, 4, .inl (fun _ => 0))) := by rw [eh601, tw_up_n ne71]; exact f588
  have f606 : h601 q4 = some (.inl (d.2 8, 4, .inr (.inr (.inr (.inr (fun i => if i < 4 then some (r5 i) else none)))))) := by rw [eh601, tw_up_n ne77]; exact f589
  have f607 : h601 (r43 1) = some (.inl (d.2 0, 4, .inl (fun _ => 0))) := by rw [eh601, tw_up_n (fun z => absurd (hi47 1 0 (by decide) (by decide) z) (by decide))]; exact f590
  have f608 : h601 (r43 2) = some (.inl (d.2 0, 4, .inl (fun _ => 0))) := by rw [eh601, tw_up_n (fun z => absurd (hi47 2 0 (by decide) (by decide) z) (by decide))]; exact f591
  have f609 : h601 (r43 3) = some (.inl (d.2 0, 4, .inl (fun _ => 0))) := by rw [eh601, tw_up_n (fun z => absurd (hi47 3 0 (by decide) (by decide) z) (by decide))]; exact f592
  have f610 : h601 q42 = some (.inl (d.2 8, 4, .inr (.inr (.inr (.inr (fun i => if i < 4 then some (r43 i) else none)))))) := by rw [eh601, tw_up_n (Ne.symm (hr46 0 (by decide)).2)]; exact f593
  have f611 : h601 q357 = some (.inr (3, [.int 0, .ref (d.2 102), .int 0])) := by rw [eh601, tw_up_n (Ne.symm ne367)]; exact f594
  have f612 : h601 q416 = some (.inr (3, [.int 0, .ref (d.2 102), .int 0])) := by rw [eh601, tw_up_n (Ne.symm ne426)]; exact f595
  have f613 : h601 q479 = some (.inr (3, [.int 0, .ref (d.2 102), .int 0])) := by rw [eh601, tw_up_n (Ne.symm ne489)]; exact f596
  have f614 : h601 x = some (.inr (14, [.int 0, .int 0, .int 155, .ref q4, .ref q42, .ref q115, .ref q174, .ref q234, .ref q295, .ref q357, .ref q416, .ref q479])) := by rw [eh601, tw_up_n ne83]; exact f597
  have f615 : h601 (r5 0) = some (.inl (d.2 0, 4, .inl F583)) := by rw [eh601, tw_up_n ne53]; exact f599
  have f616 : h601 (r43 0) = some (.inl (d.2 0, 4, .inl F600)) := by rw [eh601]; exact tw_up_s
  clear f586 f587 f588 f589 f590 f591 f592 f593 f594 f595 f596 f597 f598 f599 sp585 eh601
  refine tw_iinc [(2, .int 2), (1, .int 0), (0, .ref x)] 0 dX10_init_125 rfl (by decide) (by decide) rfl ?_
  refine tw_goto 101 dX10_init_128 (by decide) ?_
  refine tw_iload_n 0 dX10_init_101 rfl rfl ?_
  refine tw_iconst (v := 4) dX10_init_102 (by decide) ?_
  refine tw_icmp_ge 131 dX10_init_103 (by decide) (fun c617 => absurd c617 (by decide)) (fun _ => ?_)
  refine tw_aload_n 2 dX10_init_106 rfl rfl ?_
  refine tw_get (v := .ref q4) rfl in_14 3 dX10_init_107 w_1154 rfl (by decide) f614 rfl ?_
  refine tw_iload_n 1 dX10_init_110 rfl rfl ?_
  refine tw_aald (v := .ref (r5 0)) 8 rfl rfl dX10_init_111 f606 (vp_in_nI (n := 0) (by decide) (by decide)) rfl ?_
  refine tw_iload_n 0 dX10_init_112 rfl rfl ?_
  refine tw_iconst (v := 3) dX10_init_113 (by decide) ?_
  refine tw_iast dX10_init_114 f615 (vp_in_nI (n := 2) (by decide) (by decide)) ?_
  obtain ⟨F618, eF618⟩ : ∃ z : Nat → Int32, z = upd F583 (2 : Int32).toNatClampNeg 3 := ⟨_, rfl⟩
  rw [← eF618]
  obtain ⟨h619, eh619⟩ : ∃ z : tw_H, z = tw_up h601 (r5 0) (.inl (d.2 0, 4, .inl F618)) := ⟨_, rfl⟩
  rw [← eh619]
  have sp620 : tw_sp d τ (tw_rm h x) g τ325 h619 := by rw [eh619]; exact sp602.wl n20 z333
  have f621 : h619 (r5 1) = some (.inl (d.2 0, 4, .inl (fun _ => 0))) := by rw [eh619, tw_up_n (fun z => absurd (hi9 1 0 (by decide) (by decide) z) (by decide))]; exact f603
  have f622 : h619 (r5 2) = some (.inl (d.2 0, 4, .inl (fun _ => 0))) := by rw [eh619, tw_up_n (fun z => absurd (hi9 2 0 (by decide) (by decide) z) (by decide))]; exact f604
  have f623 : h619 (r5 3) = some (.inl (d.2 0, 4, .inl (fun _ => 0))) := by rw [eh619, tw_up_n (fun z => absurd (hi9 3 0 (by decide) (by decide) z) (by decide))]; exact f605
  have f624 : h619 q4 = some (.inl (d.2 8, 4, .inr (.inr (.inr (.inr (fun i => if i < 4 then some (r5 i) else none)))))) := by rw [eh619, tw_up_n (Ne.symm (hr8 0 (by decide)).2)]; exact f606
  have f625 : h619 (r43 1) = some (.inl (d.2 0, 4, .inl (fun _ => 0))) := by rw [eh619, tw_up_n (Ne.symm ne54)]; exact f607
  have f626 : h619 (r43 2) = some (.inl (d.2 0, 4, .inl (fun _ => 0))) := by rw [eh619, tw_up_n (Ne.symm ne55)]; exact f608
  have f627 : h619 (r43 3) = some (.inl (d.2 0, 4, .inl (fun _ => 0))) := by rw [eh619, tw_up_n (Ne.symm ne56)]; exact f609
  have f628 : h619 q42 = some (.inl (d.2 8, 4, .inr (.inr (.inr (.inr (fun i => if i < 4 then some (r43 i) else none)))))) := by rw [eh619, tw_up_n (Ne.symm ne57)]; exact f610
  have f629 : h619 q357 = some (.inr (3, [.int 0, .ref (d.2 102), .int 0])) := by rw [eh619, tw_up_n (Ne.symm ne362)]; exact f611
  have f630 : h619 q416 = some (.inr (3, [.int 0, .ref (d.2 102), .int 0])) := by rw [eh619, tw_up_n (Ne.symm ne421)]; exact f612
  have f631 : h619 q479 = some (.inr (3, [.int 0, .ref (d.2 102), .int 0])) := by rw [eh619, tw_up_n (Ne.symm ne484)]; exact f613
  have f632 : h619 x = some (.inr (14, [.int 0, .int 0, .int 155, .ref q4, .ref q42, .ref q115, .ref q174, .ref q234, .ref q295, .ref q357, .ref q416, .ref q479])) := by rw [eh619, tw_up_n ne15]; exact f614
  have f633 : h619 (r43 0) = some (.inl (d.2 0, 4, .inl F600)) := by rw [eh619, tw_up_n (Ne.symm ne53)]; exact f616
  have f634 : h619 (r5 0) = some (.inl (d.2 0, 4, .inl F618)) := by rw [eh619]; exact tw_up_s
  clear f603 f604 f605 f606 f607 f608 f609 f610 f611 f612 f613 f614 f615 f616 sp602 eh619
  refine tw_aload_n 2 dX10_init_115 rfl rfl ?_
  refine tw_get (v := .ref q42) rfl in_14 4 dX10_init_116 w_1155 rfl (by decide) f632 rfl ?_
  refine tw_iload_n 1 dX10_init_119 rfl rfl ?_
  refine tw_aald (v := .ref (r43 0)) 8 rfl rfl dX10_init_120 f628 (vp_in_nI (n := 0) (by decide) (by decide)) rfl ?_
  refine tw_iload_n 0 dX10_init_121 rfl rfl ?_
  refine tw_bipush (v := 10) dX10_init_122 (by decide) ?_
  refine tw_iast dX10_init_124 f633 (vp_in_nI (n := 2) (by decide) (by decide)) ?_
  obtain ⟨F635, eF635⟩ : ∃ z : Nat → Int32, z = upd F600 (2 : Int32).toNatClampNeg 10 := ⟨_, rfl⟩
  rw [← eF635]
  obtain ⟨h636, eh636⟩ : ∃ z : tw_H, z = tw_up h619 (r43 0) (.inl (d.2 0, 4, .inl F635)) := ⟨_, rfl⟩
  rw [← eh636]
  have sp637 : tw_sp d τ (tw_rm h x) g τ325 h636 := by rw [eh636]; exact sp620.wl n88 z338
  have f638 : h636 (r5 1) = some (.inl (d.2 0, 4, .inl (fun _ => 0))) := by rw [eh636, tw_up_n ne59]; exact f621
  have f639 : h636 (r5 2) = some (.inl (d.2 0, 4, .inl (fun _ => 0))) := by rw [eh636, tw_up_n ne65]; exact f622
  have f640 : h636 (r5 3) = some (.inl (d.2 0, 4, .inl (fun _ => 0))) := by rw [eh636, tw_up_n ne71]; exact f623
  have f641 : h636 q4 = some (.inl (d.2 8, 4, .inr (.inr (.inr (.inr (fun i => if i < 4 then some (r5 i) else none)))))) := by rw [eh636, tw_up_n ne77]; exact f624
  have f642 : h636 (r43 1) = some (.inl (d.2 0, 4, .inl (fun _ => 0))) := by rw [eh636, tw_up_n (fun z => absurd (hi47 1 0 (by decide) (by decide) z) (by decide))]; exact f625
  have f643 : h636 (r43 2) = some (.inl (d.2 0, 4, .inl (fun _ => 0))) := by rw [eh636, tw_up_n (fun z => absurd (hi47 2 0 (by decide) (by decide) z) (by decide))]; exact f626
  have f644 : h636 (r43 3) = some (.inl (d.2 0, 4, .inl (fun _ => 0))) := by rw [eh636, tw_up_n (fun z => absurd (hi47 3 0 (by decide) (by decide) z) (by decide))]; exact f627
  have f645 : h636 q42 = some (.inl (d.2 8, 4, .inr (.inr (.inr (.inr (fun i => if i < 4 then some (r43 i) else none)))))) := by rw [eh636, tw_up_n (Ne.symm (hr46 0 (by decide)).2)]; exact f628
  have f646 : h636 q357 = some (.inr (3, [.int 0, .ref (d.2 102), .int 0])) := by rw [eh636, tw_up_n (Ne.symm ne367)]; exact f629
  have f647 : h636 q416 = some (.inr (3, [.int 0, .ref (d.2 102), .int 0])) := by rw [eh636, tw_up_n (Ne.symm ne426)]; exact f630
  have f648 : h636 q479 = some (.inr (3, [.int 0, .ref (d.2 102), .int 0])) := by rw [eh636, tw_up_n (Ne.symm ne489)]; exact f631
  have f649 : h636 x = some (.inr (14, [.int 0, .int 0, .int 155, .ref q4, .ref q42, .ref q115, .ref q174, .ref q234, .ref q295, .ref q357, .ref q416, .ref q479])) := by rw [eh636, tw_up_n ne83]; exact f632
  have f650 : h636 (r5 0) = some (.inl (d.2 0, 4, .inl F618)) := by rw [eh636, tw_up_n ne53]; exact f634
  have f651 : h636 (r43 0) = some (.inl (d.2 0, 4, .inl F635)) := by rw [eh636]; exact tw_up_s
  clear f621 f622 f623 f624 f625 f626 f627 f628 f629 f630 f631 f632 f633 f634 sp620 eh636
  refine tw_iinc [(2, .int 3), (1, .int 0), (0, .ref x)] 0 dX10_init_125 rfl (by decide) (by decide) rfl ?_
  refine tw_goto 101 dX10_init_128 (by decide) ?_
  refine tw_iload_n 0 dX10_init_101 rfl rfl ?_
  refine tw_iconst (v := 4) dX10_init_102 (by decide) ?_
  refine tw_icmp_ge 131 dX10_init_103 (by decide) (fun c652 => absurd c652 (by decide)) (fun _ => ?_)
  refine tw_aload_n 2 dX10_init_106 rfl rfl ?_
  refine tw_get (v := .ref q4) rfl in_14 3 dX10_init_107 w_1154 rfl (by decide) f649 rfl ?_
  refine tw_iload_n 1 dX10_init_110 rfl rfl ?_
  refine tw_aald (v := .ref (r5 0)) 8 rfl rfl dX10_init_111 f641 (vp_in_nI (n := 0) (by decide) (by decide)) rfl ?_
  refine tw_iload_n 0 dX10_init_112 rfl rfl ?_
  refine tw_iconst (v := 3) dX10_init_113 (by decide) ?_
  refine tw_iast dX10_init_114 f650 (vp_in_nI (n := 3) (by decide) (by decide)) ?_
  obtain ⟨F653, eF653⟩ : ∃ z : Nat → Int32, z = upd F618 (3 : Int32).toNatClampNeg 3 := ⟨_, rfl⟩
  rw [← eF653]
  obtain ⟨h654, eh654⟩ : ∃ z : tw_H, z = tw_up h636 (r5 0) (.inl (d.2 0, 4, .inl F653)) := ⟨_, rfl⟩
  rw [← eh654]
  have sp655 : tw_sp d τ (tw_rm h x) g τ325 h654 := by rw [eh654]; exact sp637.wl n20 z333
  have f656 : h654 (r5 1) = some (.inl (d.2 0, 4, .inl (fun _ => 0))) := by rw [eh654, tw_up_n (fun z => absurd (hi9 1 0 (by decide) (by decide) z) (by decide))]; exact f638
  have f657 : h654 (r5 2) = some (.inl (d.2 0, 4, .inl (fun _ => 0))) := by rw [eh654, tw_up_n (fun z => absurd (hi9 2 0 (by decide) (by decide) z) (by decide))]; exact f639
  have f658 : h654 (r5 3) = some (.inl (d.2 0, 4, .inl (fun _ => 0))) := by rw [eh654, tw_up_n (fun z => absurd (hi9 3 0 (by decide) (by decide) z) (by decide))]; exact f640
  have f659 : h654 q4 = some (.inl (d.2 8, 4, .inr (.inr (.inr (.inr (fun i => if i < 4 then some (r5 i) else none)))))) := by rw [eh654, tw_up_n (Ne.symm (hr8 0 (by decide)).2)]; exact f641
  have f660 : h654 (r43 1) = some (.inl (d.2 0, 4, .inl (fun _ => 0))) := by rw [eh654, tw_up_n (Ne.symm ne54)]; exact f642
  have f661 : h654 (r43 2) = some (.inl (d.2 0, 4, .inl (fun _ => 0))) := by rw [eh654, tw_up_n (Ne.symm ne55)]; exact f643
  have f662 : h654 (r43 3) = some (.inl (d.2 0, 4, .inl (fun _ => 0))) := by rw [eh654, tw_up_n (Ne.symm ne56)]; exact f644
  have f663 : h654 q42 = some (.inl (d.2 8, 4, .inr (.inr (.inr (.inr (fun i => if i < 4 then some (r43 i) else none)))))) := by rw [eh654, tw_up_n (Ne.symm ne57)]; exact f645
  have f664 : h654 q357 = some (.inr (3, [.int 0, .ref (d.2 102), .int 0])) := by rw [eh654, tw_up_n (Ne.symm ne362)]; exact f646
  have f665 : h654 q416 = some (.inr (3, [.int 0, .ref (d.2 102), .int 0])) := by rw [eh654, tw_up_n (Ne.symm ne421)]; exact f647
  have f666 : h654 q479 = some (.inr (3, [.int 0, .ref (d.2 102), .int 0])) := by rw [eh654, tw_up_n (Ne.symm ne484)]; exact f648
  have f667 : h654 x = some (.inr (14, [.int 0, .int 0, .int 155, .ref q4, .ref q42, .ref q115, .ref q174, .ref q234, .ref q295, .ref q357, .ref q416, .ref q479])) := by rw [eh654, tw_up_n ne15]; exact f649
  have f668 : h654 (r43 0) = some (.inl (d.2 0, 4, .inl F635)) := by rw [eh654, tw_up_n (Ne.symm ne53)]; exact f651
  have f669 : h654 (r5 0) = some (.inl (d.2 0, 4, .inl F653)) := by rw [eh654]; exact tw_up_s
  clear f638 f639 f640 f641 f642 f643 f644 f645 f646 f647 f648 f649 f650 f651 sp637 eh654
  refine tw_aload_n 2 dX10_init_115 rfl rfl ?_
  refine tw_get (v := .ref q42) rfl in_14 4 dX10_init_116 w_1155 rfl (by decide) f667 rfl ?_
  refine tw_iload_n 1 dX10_init_119 rfl rfl ?_
  refine tw_aald (v := .ref (r43 0)) 8 rfl rfl dX10_init_120 f663 (vp_in_nI (n := 0) (by decide) (by decide)) rfl ?_
  refine tw_iload_n 0 dX10_init_121 rfl rfl ?_
  refine tw_bipush (v := 10) dX10_init_122 (by decide) ?_
  refine tw_iast dX10_init_124 f668 (vp_in_nI (n := 3) (by decide) (by decide)) ?_
  obtain ⟨F670, eF670⟩ : ∃ z : Nat → Int32, z = upd F635 (3 : Int32).toNatClampNeg 10 := ⟨_, rfl⟩
  rw [← eF670]
  obtain ⟨h671, eh671⟩ : ∃ z : tw_H, z = tw_up h654 (r43 0) (.inl (d.2 0, 4, .inl F670)) := ⟨_, rfl⟩
  rw [← eh671]
  have sp672 : tw_sp d τ (tw_rm h x) g τ325 h671 := by rw [eh671]; exact sp655.wl n88 z338
  have f673 : h671 (r5 1) = some (.inl (d.2 0, 4, .inl (fun _ => 0))) := by rw [eh671, tw_up_n ne59]; exact f656
  have f674 : h671 (r5 2) = some (.inl (d.2 0, 4, .inl (fun _ => 0))) := by rw [eh671, tw_up_n ne65]; exact f657
  have f675 : h671 (r5 3) = some (.inl (d.2 0, 4, .inl (fun _ => 0))) := by rw [eh671, tw_up_n ne71]; exact f658
  have f676 : h671 q4 = some (.inl (d.2 8, 4, .inr (.inr (.inr (.inr (fun i => if i < 4 then some (r5 i) else none)))))) := by rw [eh671, tw_up_n ne77]; exact f659
  have f677 : h671 (r43 1) = some (.inl (d.2 0, 4, .inl (fun _ => 0))) := by rw [eh671, tw_up_n (fun z => absurd (hi47 1 0 (by decide) (by decide) z) (by decide))]; exact f660
  have f678 : h671 (r43 2) = some (.inl (d.2 0, 4, .inl (fun _ => 0))) := by rw [eh671, tw_up_n (fun z => absurd (hi47 2 0 (by decide) (by decide) z) (by decide))]; exact f661
  have f679 : h671 (r43 3) = some (.inl (d.2 0, 4, .inl (fun _ => 0))) := by rw [eh671, tw_up_n (fun z => absurd (hi47 3 0 (by decide) (by decide) z) (by decide))]; exact f662
  have f680 : h671 q42 = some (.inl (d.2 8, 4, .inr (.inr (.inr (.inr (fun i => if i < 4 then some (r43 i) else none)))))) := by rw [eh671, tw_up_n (Ne.symm (hr46 0 (by decide)).2)]; exact f663
  have f681 : h671 q357 = some (.inr (3, [.int 0, .ref (d.2 102), .int 0])) := by rw [eh671, tw_up_n (Ne.symm ne367)]; exact f664
  have f682 : h671 q416 = some (.inr (3, [.int 0, .ref (d.2 102), .int 0])) := by rw [eh671, tw_up_n (Ne.symm ne426)]; exact f665
  have f683 : h671 q479 = some (.inr (3, [.int 0, .ref (d.2 102), .int 0])) := by rw [eh671, tw_up_n (Ne.symm ne489)]; exact f666
  have f684 : h671 x = some (.inr (14, [.int 0, .int 0, .int 155, .ref q4, .ref q42, .ref q115, .ref q174, .ref q234, .ref q295, .ref q357, .ref q416, .ref q479])) := by rw [eh671, tw_up_n ne83]; exact f667
  have f685 : h671 (r5 0) = some (.inl (d.2 0, 4, .inl F653)) := by rw [eh671, tw_up_n ne53]; exact f669
  have f686 : h671 (r43 0) = some (.inl (d.2 0, 4, .inl F670)) := by rw [eh671]; exact tw_up_s
  clear f656 f657 f658 f659 f660 f661 f662 f663 f664 f665 f666 f667 f668 f669 sp655 eh671
  refine tw_iinc [(2, .int 4), (1, .int 0), (0, .ref x)] 0 dX10_init_125 rfl (by decide) (by decide) rfl ?_
  refine tw_goto 101 dX10_init_128 (by decide) ?_
  refine tw_iload_n 0 dX10_init_101 rfl rfl ?_
  refine tw_iconst (v := 4) dX10_init_102 (by decide) ?_
  refine tw_icmp_ge 131 dX10_init_103 (by decide) (fun _ => ?_) (fun c687 => absurd (by decide) c687)
  refine tw_iinc [(1, .int 1), (2, .int 4), (0, .ref x)] 1 dX10_init_131 rfl (by decide) (by decide) rfl ?_
  refine tw_goto 94 dX10_init_134 (by decide) ?_
  refine tw_iload_n 0 dX10_init_94 rfl rfl ?_
  refine tw_iconst (v := 4) dX10_init_95 (by decide) ?_
  refine tw_icmp_ge 137 dX10_init_96 (by decide) (fun c688 => absurd c688 (by decide)) (fun _ => ?_)
  refine tw_iconst (v := 0) dX10_init_99 (by decide) ?_
  refine tw_istore_n [(2, .int 0), (1, .int 1), (0, .ref x)] dX10_init_100 rfl (by decide) rfl ?_
  refine tw_iload_n 0 dX10_init_101 rfl rfl ?_
  refine tw_iconst (v := 4) dX10_init_102 (by decide) ?_
  refine tw_icmp_ge 131 dX10_init_103 (by decide) (fun c689 => absurd c689 (by decide)) (fun _ => ?_)
  refine tw_aload_n 2 dX10_init_106 rfl rfl ?_
  refine tw_get (v := .ref q4) rfl in_14 3 dX10_init_107 w_1154 rfl (by decide) f684 rfl ?_
  refine tw_iload_n 1 dX10_init_110 rfl rfl ?_
  refine tw_aald (v := .ref (r5 1)) 8 rfl rfl dX10_init_111 f676 (vp_in_nI (n := 1) (by decide) (by decide)) rfl ?_
  refine tw_iload_n 0 dX10_init_112 rfl rfl ?_
  refine tw_iconst (v := 3) dX10_init_113 (by decide) ?_
  refine tw_iast dX10_init_114 f673 (vp_in_nI (n := 0) (by decide) (by decide)) ?_
  obtain ⟨F690, eF690⟩ : ∃ z : Nat → Int32, z = upd (fun _ => 0) (0 : Int32).toNatClampNeg 3 := ⟨_, rfl⟩
  rw [← eF690]
  obtain ⟨h691, eh691⟩ : ∃ z : tw_H, z = tw_up h671 (r5 1) (.inl (d.2 0, 4, .inl F690)) := ⟨_, rfl⟩
  rw [← eh691]
  have sp692 : tw_sp d τ (tw_rm h x) g τ325 h691 := by rw [eh691]; exact sp672.wl n23 z334
  have f693 : h691 (r5 2) = some (.inl (d.2 0, 4, .inl (fun _ => 0))) := by rw [eh691, tw_up_n (fun z => absurd (hi9 2 1 (by decide) (by decide) z) (by decide))]; exact f674
  have f694 : h691 (r5 3) = some (.inl (d.2 0, 4, .inl (fun _ => 0))) := by rw [eh691, tw_up_n (fun z => absurd (hi9 3 1 (by decide) (by decide) z) (by decide))]; exact f675
  have f695 : h691 q4 = some (.inl (d.2 8, 4, .inr (.inr (.inr (.inr (fun i => if i < 4 then some (r5 i) else none)))))) := by rw [eh691, tw_up_n (Ne.symm (hr8 1 (by decide)).2)]; exact f676
  have f696 : h691 (r43 1) = some (.inl (d.2 0, 4, .inl (fun _ => 0))) := by rw [eh691, tw_up_n (Ne.symm ne60)]; exact f677
  have f697 : h691 (r43 2) = some (.inl (d.2 0, 4, .inl (fun _ => 0))) := by rw [eh691, tw_up_n (Ne.symm ne61)]; exact f678
  have f698 : h691 (r43 3) = some (.inl (d.2 0, 4, .inl (fun _ => 0))) := by rw [eh691, tw_up_n (Ne.symm ne62)]; exact f679
  have f699 : h691 q42 = some (.inl (d.2 8, 4, .inr (.inr (.inr (.inr (fun i => if i < 4 then some (r43 i) else none)))))) := by rw [eh691, tw_up_n (Ne.symm ne63)]; exact f680
  have f700 : h691 q357 = some (.inr (3, [.int 0, .ref (d.2 102), .int 0])) := by rw [eh691, tw_up_n (Ne.symm ne363)]; exact f681
  have f701 : h691 q416 = some (.inr (3, [.int 0, .ref (d.2 102), .int 0])) := by rw [eh691, tw_up_n (Ne.symm ne422)]; exact f682
  have f702 : h691 q479 = some (.inr (3, [.int 0, .ref (d.2 102), .int 0])) := by rw [eh691, tw_up_n (Ne.symm ne485)]; exact f683
  have f703 : h691 x = some (.inr (14, [.int 0, .int 0, .int 155, .ref q4, .ref q42, .ref q115, .ref q174, .ref q234, .ref q295, .ref q357, .ref q416, .ref q479])) := by rw [eh691, tw_up_n ne16]; exact f684
  have f704 : h691 (r5 0) = some (.inl (d.2 0, 4, .inl F653)) := by rw [eh691, tw_up_n (Ne.symm (fun z => absurd (hi9 1 0 (by decide) (by decide) z) (by decide)))]; exact f685
  have f705 : h691 (r43 0) = some (.inl (d.2 0, 4, .inl F670)) := by rw [eh691, tw_up_n (Ne.symm ne59)]; exact f686
  have f706 : h691 (r5 1) = some (.inl (d.2 0, 4, .inl F690)) := by rw [eh691]; exact tw_up_s
  clear f673 f674 f675 f676 f677 f678 f679 f680 f681 f682 f683 f684 f685 f686 sp672 eh691
  refine tw_aload_n 2 dX10_init_115 rfl rfl ?_
  refine tw_get (v := .ref q42) rfl in_14 4 dX10_init_116 w_1155 rfl (by decide) f703 rfl ?_
  refine tw_iload_n 1 dX10_init_119 rfl rfl ?_
  refine tw_aald (v := .ref (r43 1)) 8 rfl rfl dX10_init_120 f699 (vp_in_nI (n := 1) (by decide) (by decide)) rfl ?_
  refine tw_iload_n 0 dX10_init_121 rfl rfl ?_
  refine tw_bipush (v := 10) dX10_init_122 (by decide) ?_
  refine tw_iast dX10_init_124 f696 (vp_in_nI (n := 0) (by decide) (by decide)) ?_
  obtain ⟨F707, eF707⟩ : ∃ z : Nat → Int32, z = upd (fun _ => 0) (0 : Int32).toNatClampNeg 10 := ⟨_, rfl⟩
  rw [← eF707]
  obtain ⟨h708, eh708⟩ : ∃ z : tw_H, z = tw_up h691 (r43 1) (.inl (d.2 0, 4, .inl F707)) := ⟨_, rfl⟩
  rw [← eh708]
  have sp709 : tw_sp d τ (tw_rm h x) g τ325 h708 := by rw [eh708]; exact sp692.wl n91 z339
  have f710 : h708 (r5 2) = some (.inl (d.2 0, 4, .inl (fun _ => 0))) := by rw [eh708, tw_up_n ne66]; exact f693
  have f711 : h708 (r5 3) = some (.inl (d.2 0, 4, .inl (fun _ => 0))) := by rw [eh708, tw_up_n ne72]; exact f694
  have f712 : h708 q4 = some (.inl (d.2 8, 4, .inr (.inr (.inr (.inr (fun i => if i < 4 then some (r5 i) else none)))))) := by rw [eh708, tw_up_n ne78]; exact f695
  have f713 : h708 (r43 2) = some (.inl (d.2 0, 4, .inl (fun _ => 0))) := by rw [eh708, tw_up_n (fun z => absurd (hi47 2 1 (by decide) (by decide) z) (by decide))]; exact f697
  have f714 : h708 (r43 3) = some (.inl (d.2 0, 4, .inl (fun _ => 0))) := by rw [eh708, tw_up_n (fun z => absurd (hi47 3 1 (by decide) (by decide) z) (by decide))]; exact f698
  have f715 : h708 q42 = some (.inl (d.2 8, 4, .inr (.inr (.inr (.inr (fun i => if i < 4 then some (r43 i) else none)))))) := by rw [eh708, tw_up_n (Ne.symm (hr46 1 (by decide)).2)]; exact f699
  have f716 : h708 q357 = some (.inr (3, [.int 0, .ref (d.2 102), .int 0])) := by rw [eh708, tw_up_n (Ne.symm ne368)]; exact f700
  have f717 : h708 q416 = some (.inr (3, [.int 0, .ref (d.2 102), .int 0])) := by rw [eh708, tw_up_n (Ne.symm ne427)]; exact f701
  have f718 : h708 q479 = some (.inr (3, [.int 0, .ref (d.2 102), .int 0])) := by rw [eh708, tw_up_n (Ne.symm ne490)]; exact f702
  have f719 : h708 x = some (.inr (14, [.int 0, .int 0, .int 155, .ref q4, .ref q42, .ref q115, .ref q174, .ref q234, .ref q295, .ref q357, .ref q416, .ref q479])) := by rw [eh708, tw_up_n ne84]; exact f703
  have f720 : h708 (r5 0) = some (.inl (d.2 0, 4, .inl F653)) := by rw [eh708, tw_up_n ne54]; exact f704
  have f721 : h708 (r43 0) = some (.inl (d.2 0, 4, .inl F670)) := by rw [eh708, tw_up_n (Ne.symm (fun z => absurd (hi47 1 0 (by decide) (by decide) z) (by decide)))]; exact f705
  have f722 : h708 (r5 1) = some (.inl (d.2 0, 4, .inl F690)) := by rw [eh708, tw_up_n ne60]; exact f706
  have f723 : h708 (r43 1) = some (.inl (d.2 0, 4, .inl F707)) := by rw [eh708]; exact tw_up_s
  clear f693 f694 f695 f696 f697 f698 f699 f700 f701 f702 f703 f704 f705 f706 sp692 eh708
  refine tw_iinc [(2, .int 1), (1, .int 1), (0, .ref x)] 0 dX10_init_125 rfl (by decide) (by decide) rfl ?_
  refine tw_goto 101 dX10_init_128 (by decide) ?_
  refine tw_iload_n 0 dX10_init_101 rfl rfl ?_
  refine tw_iconst (v := 4) dX10_init_102 (by decide) ?_
  refine tw_icmp_ge 131 dX10_init_103 (by decide) (fun c724 => absurd c724 (by decide)) (fun _ => ?_)
  refine tw_aload_n 2 dX10_init_106 rfl rfl ?_
  refine tw_get (v := .ref q4) rfl in_14 3 dX10_init_107 w_1154 rfl (by decide) f719 rfl ?_
  refine tw_iload_n 1 dX10_init_110 rfl rfl ?_
  refine tw_aald (v := .ref (r5 1)) 8 rfl rfl dX10_init_111 f712 (vp_in_nI (n := 1) (by decide) (by decide)) rfl ?_
  refine tw_iload_n 0 dX10_init_112 rfl rfl ?_
  refine tw_iconst (v := 3) dX10_init_113 (by decide) ?_
  refine tw_iast dX10_init_114 f722 (vp_in_nI (n := 1) (by decide) (by decide)) ?_
  obtain ⟨F725, eF725⟩ : ∃ z : Nat → Int32, z = upd F690 (1 : Int32).toNatClampNeg 3 := ⟨_, rfl⟩
  rw [← eF725]
  obtain ⟨h726, eh726⟩ : ∃ z : tw_H, z = tw_up h708 (r5 1) (.inl (d.2 0, 4, .inl F725)) := ⟨_, rfl⟩
  rw [← eh726]
  have sp727 : tw_sp d τ (tw_rm h x) g τ325 h726 := by rw [eh726]; exact sp709.wl n23 z334
  have f728 : h726 (r5 2) = some (.inl (d.2 0, 4, .inl (fun _ => 0))) := by rw [eh726, tw_up_n (fun z => absurd (hi9 2 1 (by decide) (by decide) z) (by decide))]; exact f710
  have f729 : h726 (r5 3) = some (.inl (d.2 0, 4, .inl (fun _ => 0))) := by rw [eh726, tw_up_n (fun z => absurd (hi9 3 1 (by decide) (by decide) z) (by decide))]; exact f711
  have f730 : h726 q4 = some (.inl (d.2 8, 4, .inr (.inr (.inr (.inr (fun i => if i < 4 then some (r5 i) else none)))))) := by rw [eh726, tw_up_n (Ne.symm (hr8 1 (by decide)).2)]; exact f712
  have f731 : h726 (r43 2) = some (.inl (d.2 0, 4, .inl (fun _ => 0))) := by rw [eh726, tw_up_n (Ne.symm ne61)]; exact f713
  have f732 : h726 (r43 3) = some (.inl (d.2 0, 4, .inl (fun _ => 0))) := by rw [eh726, tw_up_n (Ne.symm ne62)]; exact f714
  have f733 : h726 q42 = some (.inl (d.2 8, 4, .inr (.inr (.inr (.inr (fun i => if i < 4 then some (r43 i) else none)))))) := by rw [eh726, tw_up_n (Ne.symm ne63)]; exact f715
  have f734 : h726 q357 = some (.inr (3, [.int 0, .ref (d.2 102), .int 0])) := by rw [eh726, tw_up_n (Ne.symm ne363)]; exact f716
  have f735 : h726 q416 = some (.inr (3, [.int 0, .ref (d.2 102), .int 0])) := by rw [eh726, tw_up_n (Ne.symm ne422)]; exact f717
  have f736 : h726 q479 = some (.inr (3, [.int 0, .ref (d.2 102), .int 0])) := by rw [eh726, tw_up_n (Ne.symm ne485)]; exact f718
  have f737 : h726 x = some (.inr (14, [.int 0, .int 0, .int 155, .ref q4, .ref q42, .ref q115, .ref q174, .ref q234, .ref q295, .ref q357, .ref q416, .ref q479])) := by rw [eh726, tw_up_n ne16]; exact f719
  have f738 : h726 (r5 0) = some (.inl (d.2 0, 4, .inl F653)) := by rw [eh726, tw_up_n (Ne.symm (fun z => absurd (hi9 1 0 (by decide) (by decide) z) (by decide)))]; exact f720
  have f739 : h726 (r43 0) = some (.inl (d.2 0, 4, .inl F670)) := by rw [eh726, tw_up_n (Ne.symm ne59)]; exact f721
  have f740 : h726 (r43 1) = some (.inl (d.2 0, 4, .inl F707)) := by rw [eh726, tw_up_n (Ne.symm ne60)]; exact f723
  have f741 : h726 (r5 1) = some (.inl (d.2 0, 4, .inl F725)) := by rw [eh726]; exact tw_up_s
  clear f710 f711 f712 f713 f714 f715 f716 f717 f718 f719 f720 f721 f722 f723 sp709 eh726
  refine tw_aload_n 2 dX10_init_115 rfl rfl ?_
  refine tw_get (v := .ref q42) rfl in_14 4 dX10_init_116 w_1155 rfl (by decide) f737 rfl ?_
  refine tw_iload_n 1 dX10_init_119 rfl rfl ?_
  refine tw_aald (v := .ref (r43 1)) 8 rfl rfl dX10_init_120 f733 (vp_in_nI (n := 1) (by decide) (by decide)) rfl ?_
  refine tw_iload_n 0 dX10_init_121 rfl rfl ?_
  refine tw_bipush (v := 10) dX10_init_122 (by decide) ?_
  refine tw_iast dX10_init_124 f740 (vp_in_nI (n := 1) (by decide) (by decide)) ?_
  obtain ⟨F742, eF742⟩ : ∃ z : Nat → Int32, z = upd F707 (1 : Int32).toNatClampNeg 10 := ⟨_, rfl⟩
  rw [← eF742]
  obtain ⟨h743, eh743⟩ : ∃ z : tw_H, z = tw_up h726 (r43 1) (.inl (d.2 0, 4, .inl F742)) := ⟨_, rfl⟩
  rw [← eh743]
  have sp744 : tw_sp d τ (tw_rm h x) g τ325 h743 := by rw [eh743]; exact sp727.wl n91 z339
  have f745 : h743 (r5 2) = some (.inl (d.2 0, 4, .inl (fun _ => 0))) := by rw [eh743, tw_up_n ne66]; exact f728
  have f746 : h743 (r5 3) = some (.inl (d.2 0, 4, .inl (fun _ => 0))) := by rw [eh743, tw_up_n ne72]; exact f729
  have f747 : h743 q4 = some (.inl (d.2 8, 4, .inr (.inr (.inr (.inr (fun i => if i < 4 then some (r5 i) else none)))))) := by rw [eh743, tw_up_n ne78]; exact f730
  have f748 : h743 (r43 2) = some (.inl (d.2 0, 4, .inl (fun _ => 0))) := by rw [eh743, tw_up_n (fun z => absurd (hi47 2 1 (by decide) (by decide) z) (by decide))]; exact f731
  have f749 : h743 (r43 3) = some (.inl (d.2 0, 4, .inl (fun _ => 0))) := by rw [eh743, tw_up_n (fun z => absurd (hi47 3 1 (by decide) (by decide) z) (by decide))]; exact f732
  have f750 : h743 q42 = some (.inl (d.2 8, 4, .inr (.inr (.inr (.inr (fun i => if i < 4 then some (r43 i) else none)))))) := by rw [eh743, tw_up_n (Ne.symm (hr46 1 (by decide)).2)]; exact f733
  have f751 : h743 q357 = some (.inr (3, [.int 0, .ref (d.2 102), .int 0])) := by rw [eh743, tw_up_n (Ne.symm ne368)]; exact f734
  have f752 : h743 q416 = some (.inr (3, [.int 0, .ref (d.2 102), .int 0])) := by rw [eh743, tw_up_n (Ne.symm ne427)]; exact f735
  have f753 : h743 q479 = some (.inr (3, [.int 0, .ref (d.2 102), .int 0])) := by rw [eh743, tw_up_n (Ne.symm ne490)]; exact f736
  have f754 : h743 x = some (.inr (14, [.int 0, .int 0, .int 155, .ref q4, .ref q42, .ref q115, .ref q174, .ref q234, .ref q295, .ref q357, .ref q416, .ref q479])) := by rw [eh743, tw_up_n ne84]; exact f737
  have f755 : h743 (r5 0) = some (.inl (d.2 0, 4, .inl F653)) := by rw [eh743, tw_up_n ne54]; exact f738
  have f756 : h743 (r43 0) = some (.inl (d.2 0, 4, .inl F670)) := by rw [eh743, tw_up_n (Ne.symm (fun z => absurd (hi47 1 0 (by decide) (by decide) z) (by decide)))]; exact f739
  have f757 : h743 (r5 1) = some (.inl (d.2 0, 4, .inl F725)) := by rw [eh743, tw_up_n ne60]; exact f741
  have f758 : h743 (r43 1) = some (.inl (d.2 0, 4, .inl F742)) := by rw [eh743]; exact tw_up_s
  clear f728 f729 f730 f731 f732 f733 f734 f735 f736 f737 f738 f739 f740 f741 sp727 eh743
  refine tw_iinc [(2, .int 2), (1, .int 1), (0, .ref x)] 0 dX10_init_125 rfl (by decide) (by decide) rfl ?_
  refine tw_goto 101 dX10_init_128 (by decide) ?_
  refine tw_iload_n 0 dX10_init_101 rfl rfl ?_
  refine tw_iconst (v := 4) dX10_init_102 (by decide) ?_
  refine tw_icmp_ge 131 dX10_init_103 (by decide) (fun c759 => absurd c759 (by decide)) (fun _ => ?_)
  refine tw_aload_n 2 dX10_init_106 rfl rfl ?_
  refine tw_get (v := .ref q4) rfl in_14 3 dX10_init_107 w_1154 rfl (by decide) f754 rfl ?_
  refine tw_iload_n 1 dX10_init_110 rfl rfl ?_
  refine tw_aald (v := .ref (r5 1)) 8 rfl rfl dX10_init_111 f747 (vp_in_nI (n := 1) (by decide) (by decide)) rfl ?_
  refine tw_iload_n 0 dX10_init_112 rfl rfl ?_
  refine tw_iconst (v := 3) dX10_init_113 (by decide) ?_
  refine tw_iast dX10_init_114 f757 (vp_in_nI (n := 2) (by decide) (by decide)) ?_
  obtain ⟨F760, eF760⟩ : ∃ z : Nat → Int32, z = upd F725 (2 : Int32).toNatClampNeg 3 := ⟨_, rfl⟩
  rw [← eF760]
  obtain ⟨h761, eh761⟩ : ∃ z : tw_H, z = tw_up h743 (r5 1) (.inl (d.2 0, 4, .inl F760)) := ⟨_, rfl⟩
  rw [← eh761]
  have sp762 : tw_sp d τ (tw_rm h x) g τ325 h761 := by rw [eh761]; exact sp744.wl n23 z334
  have f763 : h761 (r5 2) = some (.inl (d.2 0, 4, .inl (fun _ => 0))) := by rw [eh761, tw_up_n (fun z => absurd (hi9 2 1 (by decide) (by decide) z) (by decide))]; exact f745
  have f764 : h761 (r5 3) = some (.inl (d.2 0, 4, .inl (fun _ => 0))) := by rw [eh761, tw_up_n (fun z => absurd (hi9 3 1 (by decide) (by decide) z) (by decide))]; exact f746
  have f765 : h761 q4 = some (.inl (d.2 8, 4, .inr (.inr (.inr (.inr (fun i => if i < 4 then some (r5 i) else none)))))) := by rw [eh761, tw_up_n (Ne.symm (hr8 1 (by decide)).2)]; exact f747
  have f766 : h761 (r43 2) = some (.inl (d.2 0, 4, .inl (fun _ => 0))) := by rw [eh761, tw_up_n (Ne.symm ne61)]; exact f748
  have f767 : h761 (r43 3) = some (.inl (d.2 0, 4, .inl (fun _ => 0))) := by rw [eh761, tw_up_n (Ne.symm ne62)]; exact f749
  have f768 : h761 q42 = some (.inl (d.2 8, 4, .inr (.inr (.inr (.inr (fun i => if i < 4 then some (r43 i) else none)))))) := by rw [eh761, tw_up_n (Ne.symm ne63)]; exact f750
  have f769 : h761 q357 = some (.inr (3, [.int 0, .ref (d.2 102), .int 0])) := by rw [eh761, tw_up_n (Ne.symm ne363)]; exact f751
  have f770 : h761 q416 = some (.inr (3, [.int 0, .ref (d.2 102), .int 0])) := by rw [eh761, tw_up_n (Ne.symm ne422)]; exact f752
  have f771 : h761 q479 = some (.inr (3, [.int 0, .ref (d.2 102), .int 0])) := by rw [eh761, tw_up_n (Ne.symm ne485)]; exact f753
  have f772 : h761 x = some (.inr (14, [.int 0, .int 0, .int 155, .ref q4, .ref q42, .ref q115, .ref q174, .ref q234, .ref q295, .ref q357, .ref q416, .ref q479])) := by rw [eh761, tw_up_n ne16]; exact f754
  have f773 : h761 (r5 0) = some (.inl (d.2 0, 4, .inl F653)) := by rw [eh761, tw_up_n (Ne.symm (fun z => absurd (hi9 1 0 (by decide) (by decide) z) (by decide)))]; exact f755
  have f774 : h761 (r43 0) = some (.inl (d.2 0, 4, .inl F670)) := by rw [eh761, tw_up_n (Ne.symm ne59)]; exact f756
  have f775 : h761 (r43 1) = some (.inl (d.2 0, 4, .inl F742)) := by rw [eh761, tw_up_n (Ne.symm ne60)]; exact f758
  have f776 : h761 (r5 1) = some (.inl (d.2 0, 4, .inl F760)) := by rw [eh761]; exact tw_up_s
  clear f745 f746 f747 f748 f749 f750 f751 f752 f753 f754 f755 f756 f757 f758 sp744 eh761
  refine tw_aload_n 2 dX10_init_115 rfl rfl ?_
  refine tw_get (v := .ref q42) rfl in_14 4 dX10_init_116 w_1155 rfl (by decide) f772 rfl ?_
  refine tw_iload_n 1 dX10_init_119 rfl rfl ?_
  refine tw_aald (v := .ref (r43 1)) 8 rfl rfl dX10_init_120 f768 (vp_in_nI (n := 1) (by decide) (by decide)) rfl ?_
  refine tw_iload_n 0 dX10_init_121 rfl rfl ?_
  refine tw_bipush (v := 10) dX10_init_122 (by decide) ?_
  refine tw_iast dX10_init_124 f775 (vp_in_nI (n := 2) (by decide) (by decide)) ?_
  obtain ⟨F777, eF777⟩ : ∃ z : Nat → Int32, z = upd F742 (2 : Int32).toNatClampNeg 10 := ⟨_, rfl⟩
  rw [← eF777]
  obtain ⟨h778, eh778⟩ : ∃ z : tw_H, z = tw_up h761 (r43 1) (.inl (d.2 0, 4, .inl F777)) := ⟨_, rfl⟩
  rw [← eh778]
  have sp779 : tw_sp d τ (tw_rm h x) g τ325 h778 := by rw [eh778]; exact sp762.wl n91 z339
  have f780 : h778 (r5 2) = some (.inl (d.2 0, 4, .inl (fun _ => 0))) := by rw [eh778, tw_up_n ne66]; exact f763
  have f781 : h778 (r5 3) = some (.inl (d.2 0, 4, .inl (fun _ => 0))) := by rw [eh778, tw_up_n ne72]; exact f764
  have f782 : h778 q4 = some (.inl (d.2 8, 4, .inr (.inr (.inr (.inr (fun i => if i < 4 then some (r5 i) else none)))))) := by rw [eh778, tw_up_n ne78]; exact f765
  have f783 : h778 (r43 2) = some (.inl (d.2 0, 4, .inl (fun _ => 0))) := by rw [eh778, tw_up_n (fun z => absurd (hi47 2 1 (by decide) (by decide) z) (by decide))]; exact f766
  have f784 : h778 (r43 3) = some (.inl (d.2 0, 4, .inl (fun _ => 0))) := by rw [eh778, tw_up_n (fun z => absurd (hi47 3 1 (by decide) (by decide) z) (by decide))]; exact f767
  have f785 : h778 q42 = some (.inl (d.2 8, 4, .inr (.inr (.inr (.inr (fun i => if i < 4 then some (r43 i) else none)))))) := by rw [eh778, tw_up_n (Ne.symm (hr46 1 (by decide)).2)]; exact f768
  have f786 : h778 q357 = some (.inr (3, [.int 0, .ref (d.2 102), .int 0])) := by rw [eh778, tw_up_n (Ne.symm ne368)]; exact f769
  have f787 : h778 q416 = some (.inr (3, [.int 0, .ref (d.2 102), .int 0])) := by rw [eh778, tw_up_n (Ne.symm ne427)]; exact f770
  have f788 : h778 q479 = some (.inr (3, [.int 0, .ref (d.2 102), .int 0])) := by rw [eh778, tw_up_n (Ne.symm ne490)]; exact f771
  have f789 : h778 x = some (.inr (14, [.int 0, .int 0, .int 155, .ref q4, .ref q42, .ref q115, .ref q174, .ref q234, .ref q295, .ref q357, .ref q416, .ref q479])) := by rw [eh778, tw_up_n ne84]; exact f772
  have f790 : h778 (r5 0) = some (.inl (d.2 0, 4, .inl F653)) := by rw [eh778, tw_up_n ne54]; exact f773
  have f791 : h778 (r43 0) = some (.inl (d.2 0, 4, .inl F670)) := by rw [eh778, tw_up_n (Ne.symm (fun z => absurd (hi47 1 0 (by decide) (by decide) z) (by decide)))]; exact f774
  have f792 : h778 (r5 1) = some (.inl (d.2 0, 4, .inl F760)) := by rw [eh778, tw_up_n ne60]; exact f776
  have f793 : h778 (r43 1) = some (.inl (d.2 0, 4, .inl F777)) := by rw [eh778]; exact tw_up_s
  clear f763 f764 f765 f766 f767 f768 f769 f770 f771 f772 f773 f774 f775 f776 sp762 eh778
  refine tw_iinc [(2, .int 3), (1, .int 1), (0, .ref x)] 0 dX10_init_125 rfl (by decide) (by decide) rfl ?_
  refine tw_goto 101 dX10_init_128 (by decide) ?_
  refine tw_iload_n 0 dX10_init_101 rfl rfl ?_
  refine tw_iconst (v := 4) dX10_init_102 (by decide) ?_
  refine tw_icmp_ge 131 dX10_init_103 (by decide) (fun c794 => absurd c794 (by decide)) (fun _ => ?_)
  refine tw_aload_n 2 dX10_init_106 rfl rfl ?_
  refine tw_get (v := .ref q4) rfl in_14 3 dX10_init_107 w_1154 rfl (by decide) f789 rfl ?_
  refine tw_iload_n 1 dX10_init_110 rfl rfl ?_
  refine tw_aald (v := .ref (r5 1)) 8 rfl rfl dX10_init_111 f782 (vp_in_nI (n := 1) (by decide) (by decide)) rfl ?_
  refine tw_iload_n 0 dX10_init_112 rfl rfl ?_
  refine tw_iconst (v := 3) dX10_init_113 (by decide) ?_
  refine tw_iast dX10_init_114 f792 (vp_in_nI (n := 3) (by decide) (by decide)) ?_
  obtain ⟨F795, eF795⟩ : ∃ z : Nat → Int32, z = upd F760 (3 : Int32).toNatClampNeg 3 := ⟨_, rfl⟩
  rw [← eF795]
  obtain ⟨h796, eh796⟩ : ∃ z : tw_H, z = tw_up h778 (r5 1) (.inl (d.2 0, 4, .inl F795)) := ⟨_, rfl⟩
  rw [← eh796]
  have sp797 : tw_sp d τ (tw_rm h x) g τ325 h796 := by rw [eh796]; exact sp779.wl n23 z334
  have f798 : h796 (r5 2) = some (.inl (d.2 0, 4, .inl (fun _ => 0))) := by rw [eh796, tw_up_n (fun z => absurd (hi9 2 1 (by decide) (by decide) z) (by decide))]; exact f780
  have f799 : h796 (r5 3) = some (.inl (d.2 0, 4, .inl (fun _ => 0))) := by rw [eh796, tw_up_n (fun z => absurd (hi9 3 1 (by decide) (by decide) z) (by decide))]; exact f781
  have f800 : h796 q4 = some (.inl (d.2 8, 4, .inr (.inr (.inr (.inr (fun i => if i < 4 then some (r5 i) else none)))))) := by rw [eh796, tw_up_n (Ne.symm (hr8 1 (by decide)).2)]; exact f782
  have f801 : h796 (r43 2) = some (.inl (d.2 0, 4, .inl (fun _ => 0))) := by rw [eh796, tw_up_n (Ne.symm ne61)]; exact f783
  have f802 : h796 (r43 3) = some (.inl (d.2 0, 4, .inl (fun _ => 0))) := by rw [eh796, tw_up_n (Ne.symm ne62)]; exact f784
  have f803 : h796 q42 = some (.inl (d.2 8, 4, .inr (.inr (.inr (.inr (fun i => if i < 4 then some (r43 i) else none)))))) := by rw [eh796, tw_up_n (Ne.symm ne63)]; exact f785
  have f804 : h796 q357 = some (.inr (3, [.int 0, .ref (d.2 102), .int 0])) := by rw [eh796, tw_up_n (Ne.symm ne363)]; exact f786
  have f805 : h796 q416 = some (.inr (3, [.int 0, .ref (d.2 102), .int 0])) := by rw [eh796, tw_up_n (Ne.symm ne422)]; exact f787
  have f806 : h796 q479 = some (.inr (3, [.int 0, .ref (d.2 102), .int 0])) := by rw [eh796, tw_up_n (Ne.symm ne485)]; exact f788
  have f807 : h796 x = some (.inr (14, [.int 0, .int 0, .int 155, .ref q4, .ref q42, .ref q115, .ref q174, .ref q234, .ref q295, .ref q357, .ref q416, .ref q479])) := by rw [eh796, tw_up_n ne16]; exact f789
  have f808 : h796 (r5 0) = some (.inl (d.2 0, 4, .inl F653)) := by rw [eh796, tw_up_n (Ne.symm (fun z => absurd (hi9 1 0 (by decide) (by decide) z) (by decide)))]; exact f790
  have f809 : h796 (r43 0) = some (.inl (d.2 0, 4, .inl F670)) := by rw [eh796, tw_up_n (Ne.symm ne59)]; exact f791
  have f810 : h796 (r43 1) = some (.inl (d.2 0, 4, .inl F777)) := by rw [eh796, tw_up_n (Ne.symm ne60)]; exact f793
  have f811 : h796 (r5 1) = some (.inl (d.2 0, 4, .inl F795)) := by rw [eh796]; exact tw_up_s
  clear f780 f781 f782 f783 f784 f785 f786 f787 f788 f789 f790 f791 f792 f793 sp779 eh796
  refine tw_aload_n 2 dX10_init_115 rfl rfl ?_
  refine tw_get (v := .ref q42) rfl in_14 4 dX10_init_116 w_1155 rfl (by decide) f807 rfl ?_
  refine tw_iload_n 1 dX10_init_119 rfl rfl ?_
  refine tw_aald (v := .ref (r43 1)) 8 rfl rfl dX10_init_120 f803 (vp_in_nI (n := 1) (by decide) (by decide)) rfl ?_
  refine tw_iload_n 0 dX10_init_121 rfl rfl ?_
  refine tw_bipush (v := 10) dX10_init_122 (by decide) ?_
  refine tw_iast dX10_init_124 f810 (vp_in_nI (n := 3) (by decide) (by decide)) ?_
  obtain ⟨F812, eF812⟩ : ∃ z : Nat → Int32, z = upd F777 (3 : Int32).toNatClampNeg 10 := ⟨_, rfl⟩
  rw [← eF812]
  obtain ⟨h813, eh813⟩ : ∃ z : tw_H, z = tw_up h796 (r43 1) (.inl (d.2 0, 4, .inl F812)) := ⟨_, rfl⟩
  rw [← eh813]
  have sp814 : tw_sp d τ (tw_rm h x) g τ325 h813 := by rw [eh813]; exact sp797.wl n91 z339
  have f815 : h813 (r5 2) = some (.inl (d.2 0, 4, .inl (fun _ => 0))) := by rw [eh813, tw_up_n ne66]; exact f798
  have f816 : h813 (r5 3) = some (.inl (d.2 0, 4, .inl (fun _ => 0))) := by rw [eh813, tw_up_n ne72]; exact f799
  have f817 : h813 q4 = some (.inl (d.2 8, 4, .inr (.inr (.inr (.inr (fun i => if i < 4 then some (r5 i) else none)))))) := by rw [eh813, tw_up_n ne78]; exact f800
  have f818 : h813 (r43 2) = some (.inl (d.2 0, 4, .inl (fun _ => 0))) := by rw [eh813, tw_up_n (fun z => absurd (hi47 2 1 (by decide) (by decide) z) (by decide))]; exact f801
  have f819 : h813 (r43 3) = some (.inl (d.2 0, 4, .inl (fun _ => 0))) := by rw [eh813, tw_up_n (fun z => absurd (hi47 3 1 (by decide) (by decide) z) (by decide))]; exact f802
  have f820 : h813 q42 = some (.inl (d.2 8, 4, .inr (.inr (.inr (.inr (fun i => if i < 4 then some (r43 i) else none)))))) := by rw [eh813, tw_up_n (Ne.symm (hr46 1 (by decide)).2)]; exact f803
  have f821 : h813 q357 = some (.inr (3, [.int 0, .ref (d.2 102), .int 0])) := by rw [eh813, tw_up_n (Ne.symm ne368)]; exact f804
  have f822 : h813 q416 = some (.inr (3, [.int 0, .ref (d.2 102), .int 0])) := by rw [eh813, tw_up_n (Ne.symm ne427)]; exact f805
  have f823 : h813 q479 = some (.inr (3, [.int 0, .ref (d.2 102), .int 0])) := by rw [eh813, tw_up_n (Ne.symm ne490)]; exact f806
  have f824 : h813 x = some (.inr (14, [.int 0, .int 0, .int 155, .ref q4, .ref q42, .ref q115, .ref q174, .ref q234, .ref q295, .ref q357, .ref q416, .ref q479])) := by rw [eh813, tw_up_n ne84]; exact f807
  have f825 : h813 (r5 0) = some (.inl (d.2 0, 4, .inl F653)) := by rw [eh813, tw_up_n ne54]; exact f808
  have f826 : h813 (r43 0) = some (.inl (d.2 0, 4, .inl F670)) := by rw [eh813, tw_up_n (Ne.symm (fun z => absurd (hi47 1 0 (by decide) (by decide) z) (by decide)))]; exact f809
  have f827 : h813 (r5 1) = some (.inl (d.2 0, 4, .inl F795)) := by rw [eh813, tw_up_n ne60]; exact f811
  have f828 : h813 (r43 1) = some (.inl (d.2 0, 4, .inl F812)) := by rw [eh813]; exact tw_up_s
  clear f798 f799 f800 f801 f802 f803 f804 f805 f806 f807 f808 f809 f810 f811 sp797 eh813
  refine tw_iinc [(2, .int 4), (1, .int 1), (0, .ref x)] 0 dX10_init_125 rfl (by decide) (by decide) rfl ?_
  refine tw_goto 101 dX10_init_128 (by decide) ?_
  refine tw_iload_n 0 dX10_init_101 rfl rfl ?_
  refine tw_iconst (v := 4) dX10_init_102 (by decide) ?_
  refine tw_icmp_ge 131 dX10_init_103 (by decide) (fun _ => ?_) (fun c829 => absurd (by decide) c829)
  refine tw_iinc [(1, .int 2), (2, .int 4), (0, .ref x)] 1 dX10_init_131 rfl (by decide) (by decide) rfl ?_
  refine tw_goto 94 dX10_init_134 (by decide) ?_
  refine tw_iload_n 0 dX10_init_94 rfl rfl ?_
  refine tw_iconst (v := 4) dX10_init_95 (by decide) ?_
  refine tw_icmp_ge 137 dX10_init_96 (by decide) (fun c830 => absurd c830 (by decide)) (fun _ => ?_)
  refine tw_iconst (v := 0) dX10_init_99 (by decide) ?_
  refine tw_istore_n [(2, .int 0), (1, .int 2), (0, .ref x)] dX10_init_100 rfl (by decide) rfl ?_
  refine tw_iload_n 0 dX10_init_101 rfl rfl ?_
  refine tw_iconst (v := 4) dX10_init_102 (by decide) ?_
  refine tw_icmp_ge 131 dX10_init_103 (by decide) (fun c831 => absurd c831 (by decide)) (fun _ => ?_)
  refine tw_aload_n 2 dX10_init_106 rfl rfl ?_
  refine tw_get (v := .ref q4) rfl in_14 3 dX10_init_107 w_1154 rfl (by decide) f824 rfl ?_
  refine tw_iload_n 1 dX10_init_110 rfl rfl ?_
  refine tw_aald (v := .ref (r5 2)) 8 rfl rfl dX10_init_111 f817 (vp_in_nI (n := 2) (by decide) (by decide)) rfl ?_
  refine tw_iload_n 0 dX10_init_112 rfl rfl ?_
  refine tw_iconst (v := 3) dX10_init_113 (by decide) ?_
  refine tw_iast dX10_init_114 f815 (vp_in_nI (n := 0) (by decide) (by decide)) ?_
  obtain ⟨F832, eF832⟩ : ∃ z : Nat → Int32, z = upd (fun _ => 0) (0 : Int32).toNatClampNeg 3 := ⟨_, rfl⟩
  rw [← eF832]
  obtain ⟨h833, eh833⟩ : ∃ z : tw_H, z = tw_up h813 (r5 2) (.inl (d.2 0, 4, .inl F832)) := ⟨_, rfl⟩
  rw [← eh833]
  have sp834 : tw_sp d τ (tw_rm h x) g τ325 h833 := by rw [eh833]; exact sp814.wl n26 z335
  have f835 : h833 (r5 3) = some (.inl (d.2 0, 4, .inl (fun _ => 0))) := by rw [eh833, tw_up_n (fun z => absurd (hi9 3 2 (by decide) (by decide) z) (by decide))]; exact f816
  have f836 : h833 q4 = some (.inl (d.2 8, 4, .inr (.inr (.inr (.inr (fun i => if i < 4 then some (r5 i) else none)))))) := by rw [eh833, tw_up_n (Ne.symm (hr8 2 (by decide)).2)]; exact f817
  have f837 : h833 (r43 2) = some (.inl (d.2 0, 4, .inl (fun _ => 0))) := by rw [eh833, tw_up_n (Ne.symm ne67)]; exact f818
  have f838 : h833 (r43 3) = some (.inl (d.2 0, 4, .inl (fun _ => 0))) := by rw [eh833, tw_up_n (Ne.symm ne68)]; exact f819
  have f839 : h833 q42 = some (.inl (d.2 8, 4, .inr (.inr (.inr (.inr (fun i => if i < 4 then some (r43 i) else none)))))) := by rw [eh833, tw_up_n (Ne.symm ne69)]; exact f820
  have f840 : h833 q357 = some (.inr (3, [.int 0, .ref (d.2 102), .int 0])) := by rw [eh833, tw_up_n (Ne.symm ne364)]; exact f821
  have f841 : h833 q416 = some (.inr (3, [.int 0, .ref (d.2 102), .int 0])) := by rw [eh833, tw_up_n (Ne.symm ne423)]; exact f822
  have f842 : h833 q479 = some (.inr (3, [.int 0, .ref (d.2 102), .int 0])) := by rw [eh833, tw_up_n (Ne.symm ne486)]; exact f823
  have f843 : h833 x = some (.inr (14, [.int 0, .int 0, .int 155, .ref q4, .ref q42, .ref q115, .ref q174, .ref q234, .ref q295, .ref q357, .ref q416, .ref q479])) := by rw [eh833, tw_up_n ne17]; exact f824
  have f844 : h833 (r5 0) = some (.inl (d.2 0, 4, .inl F653)) := by rw [eh833, tw_up_n (Ne.symm (fun z => absurd (hi9 2 0 (by decide) (by decide) z) (by decide)))]; exact f825
  have f845 : h833 (r43 0) = some (.inl (d.2 0, 4, .inl F670)) := by rw [eh833, tw_up_n (Ne.symm ne65)]; exact f826
  have f846 : h833 (r5 1) = some (.inl (d.2 0, 4, .inl F795)) := by rw [eh833, tw_up_n (Ne.symm (fun z => absurd (hi9 2 1 (by decide) (by decide) z) (by decide)))]; exact f827
  have f847 : h833 (r43 1) = some (.inl (d.2 0, 4, .inl F812)) := by rw [eh833, tw_up_n (Ne.symm ne66)]; exact f828
  have f848 : h833 (r5 2) = some (.inl (d.2 0, 4, .inl F832)) := by rw [eh833]; exact tw_up_s
  clear f815 f816 f817 f818 f819 f820 f821 f822 f823 f824 f825 f826 f827 f828 sp814 eh833
  refine tw_aload_n 2 dX10_init_115 rfl rfl ?_
  refine tw_get (v := .ref q42) rfl in_14 4 dX10_init_116 w_1155 rfl (by decide) f843 rfl ?_
  refine tw_iload_n 1 dX10_init_119 rfl rfl ?_
  refine tw_aald (v := .ref (r43 2)) 8 rfl rfl dX10_init_120 f839 (vp_in_nI (n := 2) (by decide) (by decide)) rfl ?_
  refine tw_iload_n 0 dX10_init_121 rfl rfl ?_
  refine tw_bipush (v := 10) dX10_init_122 (by decide) ?_
  refine tw_iast dX10_init_124 f837 (vp_in_nI (n := 0) (by decide) (by decide)) ?_
  obtain ⟨F849, eF849⟩ : ∃ z : Nat → Int32, z = upd (fun _ => 0) (0 : Int32).toNatClampNeg 10 := ⟨_, rfl⟩
  rw [← eF849]
  obtain ⟨h850, eh850⟩ : ∃ z : tw_H, z = tw_up h833 (r43 2) (.inl (d.2 0, 4, .inl F849)) := ⟨_, rfl⟩
  rw [← eh850]
  have sp851 : tw_sp d τ (tw_rm h x) g τ325 h850 := by rw [eh850]; exact sp834.wl n94 z340
  have f852 : h850 (r5 3) = some (.inl (d.2 0, 4, .inl (fun _ => 0))) := by rw [eh850, tw_up_n ne73]; exact f835
  have f853 : h850 q4 = some (.inl (d.2 8, 4, .inr (.inr (.inr (.inr (fun i => if i < 4 then some (r5 i) else none)))))) := by rw [eh850, tw_up_n ne79]; exact f836
  have f854 : h850 (r43 3) = some (.inl (d.2 0, 4, .inl (fun _ => 0))) := by rw [eh850, tw_up_n (fun z => absurd (hi47 3 2 (by decide) (by decide) z) (by decide))]; exact f838
  have f855 : h850 q42 = some (.inl (d.2 8, 4, .inr (.inr (.inr (.inr (fun i => if i < 4 then some (r43 i) else none)))))) := by rw [eh850, tw_up_n (Ne.symm (hr46 2 (by decide)).2)]; exact f839
  have f856 : h850 q357 = some (.inr (3, [.int 0, .ref (d.2 102), .int 0])) := by rw [eh850, tw_up_n (Ne.symm ne369)]; exact f840
  have f857 : h850 q416 = some (.inr (3, [.int 0, .ref (d.2 102), .int 0])) := by rw [eh850, tw_up_n (Ne.symm ne428)]; exact f841
  have f858 : h850 q479 = some (.inr (3, [.int 0, .ref (d.2 102), .int 0])) := by rw [eh850, tw_up_n (Ne.symm ne491)]; exact f842
  have f859 : h850 x = some (.inr (14, [.int 0, .int 0, .int 155, .ref q4, .ref q42, .ref q115, .ref q174, .ref q234, .ref q295, .ref q357, .ref q416, .ref q479])) := by rw [eh850, tw_up_n ne85]; exact f843
  have f860 : h850 (r5 0) = some (.inl (d.2 0, 4, .inl F653)) := by rw [eh850, tw_up_n ne55]; exact f844
  have f861 : h850 (r43 0) = some (.inl (d.2 0, 4, .inl F670)) := by rw [eh850, tw_up_n (Ne.symm (fun z => absurd (hi47 2 0 (by decide) (by decide) z) (by decide)))]; exact f845
  have f862 : h850 (r5 1) = some (.inl (d.2 0, 4, .inl F795)) := by rw [eh850, tw_up_n ne61]; exact f846
  have f863 : h850 (r43 1) = some (.inl (d.2 0, 4, .inl F812)) := by rw [eh850, tw_up_n (Ne.symm (fun z => absurd (hi47 2 1 (by decide) (by decide) z) (by decide)))]; exact f847
  have f864 : h850 (r5 2) = some (.inl (d.2 0, 4, .inl F832)) := by rw [eh850, tw_up_n ne67]; exact f848
  have f865 : h850 (r43 2) = some (.inl (d.2 0, 4, .inl F849)) := by rw [eh850]; exact tw_up_s
  clear f835 f836 f837 f838 f839 f840 f841 f842 f843 f844 f845 f846 f847 f848 sp834 eh850
  refine tw_iinc [(2, .int 1), (1, .int 2), (0, .ref x)] 0 dX10_init_125 rfl (by decide) (by decide) rfl ?_
  refine tw_goto 101 dX10_init_128 (by decide) ?_
  refine tw_iload_n 0 dX10_init_101 rfl rfl ?_
  refine tw_iconst (v := 4) dX10_init_102 (by decide) ?_
  refine tw_icmp_ge 131 dX10_init_103 (by decide) (fun c866 => absurd c866 (by decide)) (fun _ => ?_)
  refine tw_aload_n 2 dX10_init_106 rfl rfl ?_
  refine tw_get (v := .ref q4) rfl in_14 3 dX10_init_107 w_1154 rfl (by decide) f859 rfl ?_
  refine tw_iload_n 1 dX10_init_110 rfl rfl ?_
  refine tw_aald (v := .ref (r5 2)) 8 rfl rfl dX10_init_111 f853 (vp_in_nI (n := 2) (by decide) (by decide)) rfl ?_
  refine tw_iload_n 0 dX10_init_112 rfl rfl ?_
  refine tw_iconst (v := 3) dX10_init_113 (by decide) ?_
  refine tw_iast dX10_init_114 f864 (vp_in_nI (n := 1) (by decide) (by decide)) ?_
  obtain ⟨F867, eF867⟩ : ∃ z : Nat → Int32, z = upd F832 (1 : Int32).toNatClampNeg 3 := ⟨_, rfl⟩
  rw [← eF867]
  obtain ⟨h868, eh868⟩ : ∃ z : tw_H, z = tw_up h850 (r5 2) (.inl (d.2 0, 4, .inl F867)) := ⟨_, rfl⟩
  rw [← eh868]
  have sp869 : tw_sp d τ (tw_rm h x) g τ325 h868 := by rw [eh868]; exact sp851.wl n26 z335
  have f870 : h868 (r5 3) = some (.inl (d.2 0, 4, .inl (fun _ => 0))) := by rw [eh868, tw_up_n (fun z => absurd (hi9 3 2 (by decide) (by decide) z) (by decide))]; exact f852
  have f871 : h868 q4 = some (.inl (d.2 8, 4, .inr (.inr (.inr (.inr (fun i => if i < 4 then some (r5 i) else none)))))) := by rw [eh868, tw_up_n (Ne.symm (hr8 2 (by decide)).2)]; exact f853
  have f872 : h868 (r43 3) = some (.inl (d.2 0, 4, .inl (fun _ => 0))) := by rw [eh868, tw_up_n (Ne.symm ne68)]; exact f854
  have f873 : h868 q42 = some (.inl (d.2 8, 4, .inr (.inr (.inr (.inr (fun i => if i < 4 then some (r43 i) else none)))))) := by rw [eh868, tw_up_n (Ne.symm ne69)]; exact f855
  have f874 : h868 q357 = some (.inr (3, [.int 0, .ref (d.2 102), .int 0])) := by rw [eh868, tw_up_n (Ne.symm ne364)]; exact f856
  have f875 : h868 q416 = some (.inr (3, [.int 0, .ref (d.2 102), .int 0])) := by rw [eh868, tw_up_n (Ne.symm ne423)]; exact f857
  have f876 : h868 q479 = some (.inr (3, [.int 0, .ref (d.2 102), .int 0])) := by rw [eh868, tw_up_n (Ne.symm ne486)]; exact f858
  have f877 : h868 x = some (.inr (14, [.int 0, .int 0, .int 155, .ref q4, .ref q42, .ref q115, .ref q174, .ref q234, .ref q295, .ref q357, .ref q416, .ref q479])) := by rw [eh868, tw_up_n ne17]; exact f859
  have f878 : h868 (r5 0) = some (.inl (d.2 0, 4, .inl F653)) := by rw [eh868, tw_up_n (Ne.symm (fun z => absurd (hi9 2 0 (by decide) (by decide) z) (by decide)))]; exact f860
  have f879 : h868 (r43 0) = some (.inl (d.2 0, 4, .inl F670)) := by rw [eh868, tw_up_n (Ne.symm ne65)]; exact f861
  have f880 : h868 (r5 1) = some (.inl (d.2 0, 4, .inl F795)) := by rw [eh868, tw_up_n (Ne.symm (fun z => absurd (hi9 2 1 (by decide) (by decide) z) (by decide)))]; exact f862
  have f881 : h868 (r43 1) = some (.inl (d.2 0, 4, .inl F812)) := by rw [eh868, tw_up_n (Ne.symm ne66)]; exact f863
  have f882 : h868 (r43 2) = some (.inl (d.2 0, 4, .inl F849)) := by rw [eh868, tw_up_n (Ne.symm ne67)]; exact f865
  have f883 : h868 (r5 2) = some (.inl (d.2 0, 4, .inl F867)) := by rw [eh868]; exact tw_up_s
  clear f852 f853 f854 f855 f856 f857 f858 f859 f860 f861 f862 f863 f864 f865 sp851 eh868
  refine tw_aload_n 2 dX10_init_115 rfl rfl ?_
  refine tw_get (v := .ref q42) rfl in_14 4 dX10_init_116 w_1155 rfl (by decide) f877 rfl ?_
  refine tw_iload_n 1 dX10_init_119 rfl rfl ?_
  refine tw_aald (v := .ref (r43 2)) 8 rfl rfl dX10_init_120 f873 (vp_in_nI (n := 2) (by decide) (by decide)) rfl ?_
  refine tw_iload_n 0 dX10_init_121 rfl rfl ?_
  refine tw_bipush (v := 10) dX10_init_122 (by decide) ?_
  refine tw_iast dX10_init_124 f882 (vp_in_nI (n := 1) (by decide) (by decide)) ?_
  obtain ⟨F884, eF884⟩ : ∃ z : Nat → Int32, z = upd F849 (1 : Int32).toNatClampNeg 10 := ⟨_, rfl⟩
  rw [← eF884]
  obtain ⟨h885, eh885⟩ : ∃ z : tw_H, z = tw_up h868 (r43 2) (.inl (d.2 0, 4, .inl F884)) := ⟨_, rfl⟩
  rw [← eh885]
  have sp886 : tw_sp d τ (tw_rm h x) g τ325 h885 := by rw [eh885]; exact sp869.wl n94 z340
  have f887 : h885 (r5 3) = some (.inl (d.2 0, 4, .inl (fun _ => 0))) := by rw [eh885, tw_up_n ne73]; exact f870
  have f888 : h885 q4 = some (.inl (d.2 8, 4, .inr (.inr (.inr (.inr (fun i => if i < 4 then some (r5 i) else none)))))) := by rw [eh885, tw_up_n ne79]; exact f871
  have f889 : h885 (r43 3) = some (.inl (d.2 0, 4, .inl (fun _ => 0))) := by rw [eh885, tw_up_n (fun z => absurd (hi47 3 2 (by decide) (by decide) z) (by decide))]; exact f872
  have f890 : h885 q42 = some (.inl (d.2 8, 4, .inr (.inr (.inr (.inr (fun i => if i < 4 then some (r43 i) else none)))))) := by rw [eh885, tw_up_n (Ne.symm (hr46 2 (by decide)).2)]; exact f873
  have f891 : h885 q357 = some (.inr (3, [.int 0, .ref (d.2 102), .int 0])) := by rw [eh885, tw_up_n (Ne.symm ne369)]; exact f874
  have f892 : h885 q416 = some (.inr (3, [.int 0, .ref (d.2 102), .int 0])) := by rw [eh885, tw_up_n (Ne.symm ne428)]; exact f875
  have f893 : h885 q479 = some (.inr (3, [.int 0, .ref (d.2 102), .int 0])) := by rw [eh885, tw_up_n (Ne.symm ne491)]; exact f876
  have f894 : h885 x = some (.inr (14, [.int 0, .int 0, .int 155, .ref q4, .ref q42, .ref q115, .ref q174, .ref q234, .ref q295, .ref q357, .ref q416, .ref q479])) := by rw [eh885, tw_up_n ne85]; exact f877
  have f895 : h885 (r5 0) = some (.inl (d.2 0, 4, .inl F653)) := by rw [eh885, tw_up_n ne55]; exact f878
  have f896 : h885 (r43 0) = some (.inl (d.2 0, 4, .inl F670)) := by rw [eh885, tw_up_n (Ne.symm (fun z => absurd (hi47 2 0 (by decide) (by decide) z) (by decide)))]; exact f879
  have f897 : h885 (r5 1) = some (.inl (d.2 0, 4, .inl F795)) := by rw [eh885, tw_up_n ne61]; exact f880
  have f898 : h885 (r43 1) = some (.inl (d.2 0, 4, .inl F812)) := by rw [eh885, tw_up_n (Ne.symm (fun z => absurd (hi47 2 1 (by decide) (by decide) z) (by decide)))]; exact f881
  have f899 : h885 (r5 2) = some (.inl (d.2 0, 4, .inl F867)) := by rw [eh885, tw_up_n ne67]; exact f883
  have f900 : h885 (r43 2) = some (.inl (d.2 0, 4, .inl F884)) := by rw [eh885]; exact tw_up_s
  clear f870 f871 f872 f873 f874 f875 f876 f877 f878 f879 f880 f881 f882 f883 sp869 eh885
  refine tw_iinc [(2, .int 2), (1, .int 2), (0, .ref x)] 0 dX10_init_125 rfl (by decide) (by decide) rfl ?_
  refine tw_goto 101 dX10_init_128 (by decide) ?_
  refine tw_iload_n 0 dX10_init_101 rfl rfl ?_
  refine tw_iconst (v := 4) dX10_init_102 (by decide) ?_
  refine tw_icmp_ge 131 dX10_init_103 (by decide) (fun c901 => absurd c901 (by decide)) (fun _ => ?_)
  refine tw_aload_n 2 dX10_init_106 rfl rfl ?_
  refine tw_get (v := .ref q4) rfl in_14 3 dX10_init_107 w_1154 rfl (by decide) f894 rfl ?_
  refine tw_iload_n 1 dX10_init_110 rfl rfl ?_
  refine tw_aald (v := .ref (r5 2)) 8 rfl rfl dX10_init_111 f888 (vp_in_nI (n := 2) (by decide) (by decide)) rfl ?_
  refine tw_iload_n 0 dX10_init_112 rfl rfl ?_
  refine tw_iconst (v := 3) dX10_init_113 (by decide) ?_
  refine tw_iast dX10_init_114 f899 (vp_in_nI (n := 2) (by decide) (by decide)) ?_
  obtain ⟨F902, eF902⟩ : ∃ z : Nat → Int32, z = upd F867 (2 : Int32).toNatClampNeg 3 := ⟨_, rfl⟩
  rw [← eF902]
  obtain ⟨h903, eh903⟩ : ∃ z : tw_H, z = tw_up h885 (r5 2) (.inl (d.2 0, 4, .inl F902)) := ⟨_, rfl⟩
  rw [← eh903]
  have sp904 : tw_sp d τ (tw_rm h x) g τ325 h903 := by rw [eh903]; exact sp886.wl n26 z335
  have f905 : h903 (r5 3) = some (.inl (d.2 0, 4, .inl (fun _ => 0))) := by rw [eh903, tw_up_n (fun z => absurd (hi9 3 2 (by decide) (by decide) z) (by decide))]; exact f887
  have f906 : h903 q4 = some (.inl (d.2 8, 4, .inr (.inr (.inr (.inr (fun i => if i < 4 then some (r5 i) else none)))))) := by rw [eh903, tw_up_n (Ne.symm (hr8 2 (by decide)).2)]; exact f888
  have f907 : h903 (r43 3) = some (.inl (d.2 0, 4, .inl (fun _ => 0))) := by rw [eh903, tw_up_n (Ne.symm ne68)]; exact f889
  have f908 : h903 q42 = some (.inl (d.2 8, 4, .inr (.inr (.inr (.inr (fun i => if i < 4 then some (r43 i) else none)))))) := by rw [eh903, tw_up_n (Ne.symm ne69)]; exact f890
  have f909 : h903 q357 = some (.inr (3, [.int 0, .ref (d.2 102), .int 0])) := by rw [eh903, tw_up_n (Ne.symm ne364)]; exact f891
  have f910 : h903 q416 = some (.inr (3, [.int 0, .ref (d.2 102), .int 0])) := by rw [eh903, tw_up_n (Ne.symm ne423)]; exact f892
  have f911 : h903 q479 = some (.inr (3, [.int 0, .ref (d.2 102), .int 0])) := by rw [eh903, tw_up_n (Ne.symm ne486)]; exact f893
  have f912 : h903 x = some (.inr (14, [.int 0, .int 0, .int 155, .ref q4, .ref q42, .ref q115, .ref q174, .ref q234, .ref q295, .ref q357, .ref q416, .ref q479])) := by rw [eh903, tw_up_n ne17]; exact f894
  have f913 : h903 (r5 0) = some (.inl (d.2 0, 4, .inl F653)) := by rw [eh903, tw_up_n (Ne.symm (fun z => absurd (hi9 2 0 (by decide) (by decide) z) (by decide)))]; exact f895
  have f914 : h903 (r43 0) = some (.inl (d.2 0, 4, .inl F670)) := by rw [eh903, tw_up_n (Ne.symm ne65)]; exact f896
  have f915 : h903 (r5 1) = some (.inl (d.2 0, 4, .inl F795)) := by rw [eh903, tw_up_n (Ne.symm (fun z => absurd (hi9 2 1 (by decide) (by decide) z) (by decide)))]; exact f897
  have f916 : h903 (r43 1) = some (.inl (d.2 0, 4, .inl F812)) := by rw [eh903, tw_up_n (Ne.symm ne66)]; exact f898
  have f917 : h903 (r43 2) = some (.inl (d.2 0, 4, .inl F884)) := by rw [eh903, tw_up_n (Ne.symm ne67)]; exact f900
  have f918 : h903 (r5 2) = some (.inl (d.2 0, 4, .inl F902)) := by rw [eh903]; exact tw_up_s
  clear f887 f888 f889 f890 f891 f892 f893 f894 f895 f896 f897 f898 f899 f900 sp886 eh903
  refine tw_aload_n 2 dX10_init_115 rfl rfl ?_
  refine tw_get (v := .ref q42) rfl in_14 4 dX10_init_116 w_1155 rfl (by decide) f912 rfl ?_
  refine tw_iload_n 1 dX10_init_119 rfl rfl ?_
  refine tw_aald (v := .ref (r43 2)) 8 rfl rfl dX10_init_120 f908 (vp_in_nI (n := 2) (by decide) (by decide)) rfl ?_
  refine tw_iload_n 0 dX10_init_121 rfl rfl ?_
  refine tw_bipush (v := 10) dX10_init_122 (by decide) ?_
  refine tw_iast dX10_init_124 f917 (vp_in_nI (n := 2) (by decide) (by decide)) ?_
  obtain ⟨F919, eF919⟩ : ∃ z : Nat → Int32, z = upd F884 (2 : Int32).toNatClampNeg 10 := ⟨_, rfl⟩
  rw [← eF919]
  obtain ⟨h920, eh920⟩ : ∃ z : tw_H, z = tw_up h903 (r43 2) (.inl (d.2 0, 4, .inl F919)) := ⟨_, rfl⟩
  rw [← eh920]
  have sp921 : tw_sp d τ (tw_rm h x) g τ325 h920 := by rw [eh920]; exact sp904.wl n94 z340
  have f922 : h920 (r5 3) = some (.inl (d.2 0, 4, .inl (fun _ => 0))) := by rw [eh920, tw_up_n ne73]; exact f905
  have f923 : h920 q4 = some (.inl (d.2 8, 4, .inr (.inr (.inr (.inr (fun i => if i < 4 then some (r5 i) else none)))))) := by rw [eh920, tw_up_n ne79]; exact f906
  have f924 : h920 (r43 3) = some (.inl (d.2 0, 4, .inl (fun _ => 0))) := by rw [eh920, tw_up_n (fun z => absurd (hi47 3 2 (by decide) (by decide) z) (by decide))]; exact f907
  have f925 : h920 q42 = some (.inl (d.2 8, 4, .inr (.inr (.inr (.inr (fun i => if i < 4 then some (r43 i) else none)))))) := by rw [eh920, tw_up_n (Ne.symm (hr46 2 (by decide)).2)]; exact f908
  have f926 : h920 q357 = some (.inr (3, [.int 0, .ref (d.2 102), .int 0])) := by rw [eh920, tw_up_n (Ne.symm ne369)]; exact f909
  have f927 : h920 q416 = some (.inr (3, [.int 0, .ref (d.2 102), .int 0])) := by rw [eh920, tw_up_n (Ne.symm ne428)]; exact f910
  have f928 : h920 q479 = some (.inr (3, [.int 0, .ref (d.2 102), .int 0])) := by rw [eh920, tw_up_n (Ne.symm ne491)]; exact f911
  have f929 : h920 x = some (.inr (14, [.int 0, .int 0, .int 155, .ref q4, .ref q42, .ref q115, .ref q174, .ref q234, .ref q295, .ref q357, .ref q416, .ref q479])) := by rw [eh920, tw_up_n ne85]; exact f912
  have f930 : h920 (r5 0) = some (.inl (d.2 0, 4, .inl F653)) := by rw [eh920, tw_up_n ne55]; exact f913
  have f931 : h920 (r43 0) = some (.inl (d.2 0, 4, .inl F670)) := by rw [eh920, tw_up_n (Ne.symm (fun z => absurd (hi47 2 0 (by decide) (by decide) z) (by decide)))]; exact f914
  have f932 : h920 (r5 1) = some (.inl (d.2 0, 4, .inl F795)) := by rw [eh920, tw_up_n ne61]; exact f915
  have f933 : h920 (r43 1) = some (.inl (d.2 0, 4, .inl F812)) := by rw [eh920, tw_up_n (Ne.symm (fun z => absurd (hi47 2 1 (by decide) (by decide) z) (by decide)))]; exact f916
  have f934 : h920 (r5 2) = some (.inl (d.2 0, 4, .inl F902)) := by rw [eh920, tw_up_n ne67]; exact f918
  have f935 : h920 (r43 2) = some (.inl (d.2 0, 4, .inl F919)) := by rw [eh920]; exact tw_up_s
  clear f905 f906 f907 f908 f909 f910 f911 f912 f913 f914 f915 f916 f917 f918 sp904 eh920
  refine tw_iinc [(2, .int 3), (1, .int 2), (0, .ref x)] 0 dX10_init_125 rfl (by decide) (by decide) rfl ?_
  refine tw_goto 101 dX10_init_128 (by decide) ?_
  refine tw_iload_n 0 dX10_init_101 rfl rfl ?_
  refine tw_iconst (v := 4) dX10_init_102 (by decide) ?_
  refine tw_icmp_ge 131 dX10_init_103 (by decide) (fun c936 => absurd c936 (by decide)) (fun _ => ?_)
  refine tw_aload_n 2 dX10_init_106 rfl rfl ?_
  refine tw_get (v := .ref q4) rfl in_14 3 dX10_init_107 w_1154 rfl (by decide) f929 rfl ?_
  refine tw_iload_n 1 dX10_init_110 rfl rfl ?_
  refine tw_aald (v := .ref (r5 2)) 8 rfl rfl dX10_init_111 f923 (vp_in_nI (n := 2) (by decide) (by decide)) rfl ?_
  refine tw_iload_n 0 dX10_init_112 rfl rfl ?_
  refine tw_iconst (v := 3) dX10_init_113 (by decide) ?_
  refine tw_iast dX10_init_114 f934 (vp_in_nI (n := 3) (by decide) (by decide)) ?_
  obtain ⟨F937, eF937⟩ : ∃ z : Nat → Int32, z = upd F902 (3 : Int32).toNatClampNeg 3 := ⟨_, rfl⟩
  rw [← eF937]
  obtain ⟨h938, eh938⟩ : ∃ z : tw_H, z = tw_up h920 (r5 2) (.inl (d.2 0, 4, .inl F937)) := ⟨_, rfl⟩
  rw [← eh938]
  have sp939 : tw_sp d τ (tw_rm h x) g τ325 h938 := by rw [eh938]; exact sp921.wl n26 z335
  have f940 : h938 (r5 3) = some (.inl (d.2 0, 4, .inl (fun _ => 0))) := by rw [eh938, tw_up_n (fun z => absurd (hi9 3 2 (by decide) (by decide) z) (by decide))]; exact f922
  have f941 : h938 q4 = some (.inl (d.2 8, 4, .inr (.inr (.inr (.inr (fun i => if i < 4 then some (r5 i) else none)))))) := by rw [eh938, tw_up_n (Ne.symm (hr8 2 (by decide)).2)]; exact f923
  have f942 : h938 (r43 3) = some (.inl (d.2 0, 4, .inl (fun _ => 0))) := by rw [eh938, tw_up_n (Ne.symm ne68)]; exact f924
  have f943 : h938 q42 = some (.inl (d.2 8, 4, .inr (.inr (.inr (.inr (fun i => if i < 4 then some (r43 i) else none)))))) := by rw [eh938, tw_up_n (Ne.symm ne69)]; exact f925
  have f944 : h938 q357 = some (.inr (3, [.int 0, .ref (d.2 102), .int 0])) := by rw [eh938, tw_up_n (Ne.symm ne364)]; exact f926
  have f945 : h938 q416 = some (.inr (3, [.int 0, .ref (d.2 102), .int 0])) := by rw [eh938, tw_up_n (Ne.symm ne423)]; exact f927
  have f946 : h938 q479 = some (.inr (3, [.int 0, .ref (d.2 102), .int 0])) := by rw [eh938, tw_up_n (Ne.symm ne486)]; exact f928
  have f947 : h938 x = some (.inr (14, [.int 0, .int 0, .int 155, .ref q4, .ref q42, .ref q115, .ref q174, .ref q234, .ref q295, .ref q357, .ref q416, .ref q479])) := by rw [eh938, tw_up_n ne17]; exact f929
  have f948 : h938 (r5 0) = some (.inl (d.2 0, 4, .inl F653)) := by rw [eh938, tw_up_n (Ne.symm (fun z => absurd (hi9 2 0 (by decide) (by decide) z) (by decide)))]; exact f930
  have f949 : h938 (r43 0) = some (.inl (d.2 0, 4, .inl F670)) := by rw [eh938, tw_up_n (Ne.symm ne65)]; exact f931
  have f950 : h938 (r5 1) = some (.inl (d.2 0, 4, .inl F795)) := by rw [eh938, tw_up_n (Ne.symm (fun z => absurd (hi9 2 1 (by decide) (by decide) z) (by decide)))]; exact f932
  have f951 : h938 (r43 1) = some (.inl (d.2 0, 4, .inl F812)) := by rw [eh938, tw_up_n (Ne.symm ne66)]; exact f933
  have f952 : h938 (r43 2) = some (.inl (d.2 0, 4, .inl F919)) := by rw [eh938, tw_up_n (Ne.symm ne67)]; exact f935
  have f953 : h938 (r5 2) = some (.inl (d.2 0, 4, .inl F937)) := by rw [eh938]; exact tw_up_s
  clear f922 f923 f924 f925 f926 f927 f928 f929 f930 f931 f932 f933 f934 f935 sp921 eh938
  refine tw_aload_n 2 dX10_init_115 rfl rfl ?_
  refine tw_get (v := .ref q42) rfl in_14 4 dX10_init_116 w_1155 rfl (by decide) f947 rfl ?_
  refine tw_iload_n 1 dX10_init_119 rfl rfl ?_
  refine tw_aald (v := .ref (r43 2)) 8 rfl rfl dX10_init_120 f943 (vp_in_nI (n := 2) (by decide) (by decide)) rfl ?_
  refine tw_iload_n 0 dX10_init_121 rfl rfl ?_
  refine tw_bipush (v := 10) dX10_init_122 (by decide) ?_
  refine tw_iast dX10_init_124 f952 (vp_in_nI (n := 3) (by decide) (by decide)) ?_
  obtain ⟨F954, eF954⟩ : ∃ z : Nat → Int32, z = upd F919 (3 : Int32).toNatClampNeg 10 := ⟨_, rfl⟩
  rw [← eF954]
  obtain ⟨h955, eh955⟩ : ∃ z : tw_H, z = tw_up h938 (r43 2) (.inl (d.2 0, 4, .inl F954)) := ⟨_, rfl⟩
  rw [← eh955]
  have sp956 : tw_sp d τ (tw_rm h x) g τ325 h955 := by rw [eh955]; exact sp939.wl n94 z340
  have f957 : h955 (r5 3) = some (.inl (d.2 0, 4, .inl (fun _ => 0))) := by rw [eh955, tw_up_n ne73]; exact f940
  have f958 : h955 q4 = some (.inl (d.2 8, 4, .inr (.inr (.inr (.inr (fun i => if i < 4 then some (r5 i) else none)))))) := by rw [eh955, tw_up_n ne79]; exact f941
  have f959 : h955 (r43 3) = some (.inl (d.2 0, 4, .inl (fun _ => 0))) := by rw [eh955, tw_up_n (fun z => absurd (hi47 3 2 (by decide) (by decide) z) (by decide))]; exact f942
  have f960 : h955 q42 = some (.inl (d.2 8, 4, .inr (.inr (.inr (.inr (fun i => if i < 4 then some (r43 i) else none)))))) := by rw [eh955, tw_up_n (Ne.symm (hr46 2 (by decide)).2)]; exact f943
  have f961 : h955 q357 = some (.inr (3, [.int 0, .ref (d.2 102), .int 0])) := by rw [eh955, tw_up_n (Ne.symm ne369)]; exact f944
  have f962 : h955 q416 = some (.inr (3, [.int 0, .ref (d.2 102), .int 0])) := by rw [eh955, tw_up_n (Ne.symm ne428)]; exact f945
  have f963 : h955 q479 = some (.inr (3, [.int 0, .ref (d.2 102), .int 0])) := by rw [eh955, tw_up_n (Ne.symm ne491)]; exact f946
  have f964 : h955 x = some (.inr (14, [.int 0, .int 0, .int 155, .ref q4, .ref q42, .ref q115, .ref q174, .ref q234, .ref q295, .ref q357, .ref q416, .ref q479])) := by rw [eh955, tw_up_n ne85]; exact f947
  have f965 : h955 (r5 0) = some (.inl (d.2 0, 4, .inl F653)) := by rw [eh955, tw_up_n ne55]; exact f948
  have f966 : h955 (r43 0) = some (.inl (d.2 0, 4, .inl F670)) := by rw [eh955, tw_up_n (Ne.symm (fun z => absurd (hi47 2 0 (by decide) (by decide) z) (by decide)))]; exact f949
  have f967 : h955 (r5 1) = some (.inl (d.2 0, 4, .inl F795)) := by rw [eh955, tw_up_n ne61]; exact f950
  have f968 : h955 (r43 1) = some (.inl (d.2 0, 4, .inl F812)) := by rw [eh955, tw_up_n (Ne.symm (fun z => absurd (hi47 2 1 (by decide) (by decide) z) (by decide)))]; exact f951
  have f969 : h955 (r5 2) = some (.inl (d.2 0, 4, .inl F937)) := by rw [eh955, tw_up_n ne67]; exact f953
  have f970 : h955 (r43 2) = some (.inl (d.2 0, 4, .inl F954)) := by rw [eh955]; exact tw_up_s
  clear f940 f941 f942 f943 f944 f945 f946 f947 f948 f949 f950 f951 f952 f953 sp939 eh955
  refine tw_iinc [(2, .int 4), (1, .int 2), (0, .ref x)] 0 dX10_init_125 rfl (by decide) (by decide) rfl ?_
  refine tw_goto 101 dX10_init_128 (by decide) ?_
  refine tw_iload_n 0 dX10_init_101 rfl rfl ?_
  refine tw_iconst (v := 4) dX10_init_102 (by decide) ?_
  refine tw_icmp_ge 131 dX10_init_103 (by decide) (fun _ => ?_) (fun c971 => absurd (by decide) c971)
  refine tw_iinc [(1, .int 3), (2, .int 4), (0, .ref x)] 1 dX10_init_131 rfl (by decide) (by decide) rfl ?_
  refine tw_goto 94 dX10_init_134 (by decide) ?_
  refine tw_iload_n 0 dX10_init_94 rfl rfl ?_
  refine tw_iconst (v := 4) dX10_init_95 (by decide) ?_
  refine tw_icmp_ge 137 dX10_init_96 (by decide) (fun c972 => absurd c972 (by decide)) (fun _ => ?_)
  refine tw_iconst (v := 0) dX10_init_99 (by decide) ?_
  refine tw_istore_n [(2, .int 0), (1, .int 3), (0, .ref x)] dX10_init_100 rfl (by decide) rfl ?_
  refine tw_iload_n 0 dX10_init_101 rfl rfl ?_
  refine tw_iconst (v := 4) dX10_init_102 (by decide) ?_
  refine tw_icmp_ge 131 dX10_init_103 (by decide) (fun c973 => absurd c973 (by decide)) (fun _ => ?_)
  refine tw_aload_n 2 dX10_init_106 rfl rfl ?_
  refine tw_get (v := .ref q4) rfl in_14 3 dX10_init_107 w_1154 rfl (by decide) f964 rfl ?_
  refine tw_iload_n 1 dX10_init_110 rfl rfl ?_
  refine tw_aald (v := .ref (r5 3)) 8 rfl rfl dX10_init_111 f958 (vp_in_nI (n := 3) (by decide) (by decide)) rfl ?_
  refine tw_iload_n 0 dX10_init_112 rfl rfl ?_
  refine tw_iconst (v := 3) dX10_init_113 (by decide) ?_
  refine tw_iast dX10_init_114 f957 (vp_in_nI (n := 0) (by decide) (by decide)) ?_
  obtain ⟨F974, eF974⟩ : ∃ z : Nat → Int32, z = upd (fun _ => 0) (0 : Int32).toNatClampNeg 3 := ⟨_, rfl⟩
  rw [← eF974]
  obtain ⟨h975, eh975⟩ : ∃ z : tw_H, z = tw_up h955 (r5 3) (.inl (d.2 0, 4, .inl F974)) := ⟨_, rfl⟩
  rw [← eh975]
  have sp976 : tw_sp d τ (tw_rm h x) g τ325 h975 := by rw [eh975]; exact sp956.wl n29 z336
  have f977 : h975 q4 = some (.inl (d.2 8, 4, .inr (.inr (.inr (.inr (fun i => if i < 4 then some (r5 i) else none)))))) := by rw [eh975, tw_up_n (Ne.symm (hr8 3 (by decide)).2)]; exact f958
  have f978 : h975 (r43 3) = some (.inl (d.2 0, 4, .inl (fun _ => 0))) := by rw [eh975, tw_up_n (Ne.symm ne74)]; exact f959
  have f979 : h975 q42 = some (.inl (d.2 8, 4, .inr (.inr (.inr (.inr (fun i => if i < 4 then some (r43 i) else none)))))) := by rw [eh975, tw_up_n (Ne.symm ne75)]; exact f960
  have f980 : h975 q357 = some (.inr (3, [.int 0, .ref (d.2 102), .int 0])) := by rw [eh975, tw_up_n (Ne.symm ne365)]; exact f961
  have f981 : h975 q416 = some (.inr (3, [.int 0, .ref (d.2 102), .int 0])) := by rw [eh975, tw_up_n (Ne.symm ne424)]; exact f962
  have f982 : h975 q479 = some (.inr (3, [.int 0, .ref (d.2 102), .int 0])) := by rw [eh975, tw_up_n (Ne.symm ne487)]; exact f963
  have f983 : h975 x = some (.inr (14, [.int 0, .int 0, .int 155, .ref q4, .ref q42, .ref q115, .ref q174, .ref q234, .ref q295, .ref q357, .ref q416, .ref q479])) := by rw [eh975, tw_up_n ne18]; exact f964
  have f984 : h975 (r5 0) = some (.inl (d.2 0, 4, .inl F653)) := by rw [eh975, tw_up_n (Ne.symm (fun z => absurd (hi9 3 0 (by decide) (by decide) z) (by decide)))]; exact f965
  have f985 : h975 (r43 0) = some (.inl (d.2 0, 4, .inl F670)) := by rw [eh975, tw_up_n (Ne.symm ne71)]; exact f966
  have f986 : h975 (r5 1) = some (.inl (d.2 0, 4, .inl F795)) := by rw [eh975, tw_up_n (Ne.symm (fun z => absurd (hi9 3 1 (by decide) (by decide) z) (by decide)))]; exact f967
  have f987 : h975 (r43 1) = some (.inl (d.2 0, 4, .inl F812)) := by rw [eh975, tw_up_n (Ne.symm ne72)]; exact f968
  have f988 : h975 (r5 2) = some (.inl (d.2 0, 4, .inl F937)) := by rw [eh975, tw_up_n (Ne.symm (fun z => absurd (hi9 3 2 (by decide) (by decide) z) (by decide)))]; exact f969
  have f989 : h975 (r43 2) = some (.inl (d.2 0, 4, .inl F954)) := by rw [eh975, tw_up_n (Ne.symm ne73)]; exact f970
  have f990 : h975 (r5 3) = some (.inl (d.2 0, 4, .inl F974)) := by rw [eh975]; exact tw_up_s
  clear f957 f958 f959 f960 f961 f962 f963 f964 f965 f966 f967 f968 f969 f970 sp956 eh975
  refine tw_aload_n 2 dX10_init_115 rfl rfl ?_
  refine tw_get (v := .ref q42) rfl in_14 4 dX10_init_116 w_1155 rfl (by decide) f983 rfl ?_
  refine tw_iload_n 1 dX10_init_119 rfl rfl ?_
  refine tw_aald (v := .ref (r43 3)) 8 rfl rfl dX10_init_120 f979 (vp_in_nI (n := 3) (by decide) (by decide)) rfl ?_
  refine tw_iload_n 0 dX10_init_121 rfl rfl ?_
  refine tw_bipush (v := 10) dX10_init_122 (by decide) ?_
  refine tw_iast dX10_init_124 f978 (vp_in_nI (n := 0) (by decide) (by decide)) ?_
  obtain ⟨F991, eF991⟩ : ∃ z : Nat → Int32, z = upd (fun _ => 0) (0 : Int32).toNatClampNeg 10 := ⟨_, rfl⟩
  rw [← eF991]
  obtain ⟨h992, eh992⟩ : ∃ z : tw_H, z = tw_up h975 (r43 3) (.inl (d.2 0, 4, .inl F991)) := ⟨_, rfl⟩
  rw [← eh992]
  have sp993 : tw_sp d τ (tw_rm h x) g τ325 h992 := by rw [eh992]; exact sp976.wl n97 z341
  have f994 : h992 q4 = some (.inl (d.2 8, 4, .inr (.inr (.inr (.inr (fun i => if i < 4 then some (r5 i) else none)))))) := by rw [eh992, tw_up_n ne80]; exact f977
  have f995 : h992 q42 = some (.inl (d.2 8, 4, .inr (.inr (.inr (.inr (fun i => if i < 4 then some (r43 i) else none)))))) := by rw [eh992, tw_up_n (Ne.symm (hr46 3 (by decide)).2)]; exact f979
  have f996 : h992 q357 = some (.inr (3, [.int 0, .ref (d.2 102), .int 0])) := by rw [eh992, tw_up_n (Ne.symm ne370)]; exact f980
  have f997 : h992 q416 = some (.inr (3, [.int 0, .ref (d.2 102), .int 0])) := by rw [eh992, tw_up_n (Ne.symm ne429)]; exact f981
  have f998 : h992 q479 = some (.inr (3, [.int 0, .ref (d.2 102), .int 0])) := by rw [eh992, tw_up_n (Ne.symm ne492)]; exact f982
  have f999 : h992 x = some (.inr (14, [.int 0, .int 0, .int 155, .ref q4, .ref q42, .ref q115, .ref q174, .ref q234, .ref q295, .ref q357, .ref q416, .ref q479])) := by rw [eh992, tw_up_n ne86]; exact f983
  have f1000 : h992 (r5 0) = some (.inl (d.2 0, 4, .inl F653)) := by rw [eh992, tw_up_n ne56]; exact f984
  have f1001 : h992 (r43 0) = some (.inl (d.2 0, 4, .inl F670)) := by rw [eh992, tw_up_n (Ne.symm (fun z => absurd (hi47 3 0 (by decide) (by decide) z) (by decide)))]; exact f985
  have f1002 : h992 (r5 1) = some (.inl (d.2 0, 4, .inl F795)) := by rw [eh992, tw_up_n ne62]; exact f986
  have f1003 : h992 (r43 1) = some (.inl (d.2 0, 4, .inl F812)) := by rw [eh992, tw_up_n (Ne.symm (fun z => absurd (hi47 3 1 (by decide) (by decide) z) (by decide)))]; exact f987
  have f1004 : h992 (r5 2) = some (.inl (d.2 0, 4, .inl F937)) := by rw [eh992, tw_up_n ne68]; exact f988
  have f1005 : h992 (r43 2) = some (.inl (d.2 0, 4, .inl F954)) := by rw [eh992, tw_up_n (Ne.symm (fun z => absurd (hi47 3 2 (by decide) (by decide) z) (by decide)))]; exact f989
  have f1006 : h992 (r5 3) = some (.inl (d.2 0, 4, .inl F974)) := by rw [eh992, tw_up_n ne74]; exact f990
  have f1007 : h992 (r43 3) = some (.inl (d.2 0, 4, .inl F991)) := by rw [eh992]; exact tw_up_s
  clear f977 f978 f979 f980 f981 f982 f983 f984 f985 f986 f987 f988 f989 f990 sp976 eh992
  refine tw_iinc [(2, .int 1), (1, .int 3), (0, .ref x)] 0 dX10_init_125 rfl (by decide) (by decide) rfl ?_
  refine tw_goto 101 dX10_init_128 (by decide) ?_
  refine tw_iload_n 0 dX10_init_101 rfl rfl ?_
  refine tw_iconst (v := 4) dX10_init_102 (by decide) ?_
  refine tw_icmp_ge 131 dX10_init_103 (by decide) (fun c1008 => absurd c1008 (by decide)) (fun _ => ?_)
  refine tw_aload_n 2 dX10_init_106 rfl rfl ?_
  refine tw_get (v := .ref q4) rfl in_14 3 dX10_init_107 w_1154 rfl (by decide) f999 rfl ?_
  refine tw_iload_n 1 dX10_init_110 rfl rfl ?_
  refine tw_aald (v := .ref (r5 3)) 8 rfl rfl dX10_init_111 f994 (vp_in_nI (n := 3) (by decide) (by decide)) rfl ?_
  refine tw_iload_n 0 dX10_init_112 rfl rfl ?_
  refine tw_iconst (v := 3) dX10_init_113 (by decide) ?_
  refine tw_iast dX10_init_114 f1006 (vp_in_nI (n := 1) (by decide) (by decide)) ?_
  obtain ⟨F1009, eF1009⟩ : ∃ z : Nat → Int32, z = upd F974 (1 : Int32).toNatClampNeg 3 := ⟨_, rfl⟩
  rw [← eF1009]
  obtain ⟨h1010, eh1010⟩ : ∃ z : tw_H, z = tw_up h992 (r5 3) (.inl (d.2 0, 4, .inl F1009)) := ⟨_, rfl⟩
  rw [← eh1010]
  have sp1011 : tw_sp d τ (tw_rm h x) g τ325 h1010 := by rw [eh1010]; exact sp993.wl n29 z336
  have f1012 : h1010 q4 = some (.inl (d.2 8, 4, .inr (.inr (.inr (.inr (fun i => if i < 4 then some (r5 i) else none)))))) := by rw [eh1010, tw_up_n (Ne.symm (hr8 3 (by decide)).2)]; exact f994
  have f1013 : h1010 q42 = some (.inl (d.2 8, 4, .inr (.inr (.inr (.inr (fun i => if i < 4 then some (r43 i) else none)))))) := by rw [eh1010, tw_up_n (Ne.symm ne75)]; exact f995
  have f1014 : h1010 q357 = some (.inr (3, [.int 0, .ref (d.2 102), .int 0])) := by rw [eh1010, tw_up_n (Ne.symm ne365)]; exact f996
  have f1015 : h1010 q416 = some (.inr (3, [.int 0, .ref (d.2 102), .int 0])) := by rw [eh1010, tw_up_n (Ne.symm ne424)]; exact f997
  have f1016 : h1010 q479 = some (.inr (3, [.int 0, .ref (d.2 102), .int 0])) := by rw [eh1010, tw_up_n (Ne.symm ne487)]; exact f998
  have f1017 : h1010 x = some (.inr (14, [.int 0, .int 0, .int 155, .ref q4, .ref q42, .ref q115, .ref q174, .ref q234, .ref q295, .ref q357, .ref q416, .ref q479])) := by rw [eh1010, tw_up_n ne18]; exact f999
  have f1018 : h1010 (r5 0) = some (.inl (d.2 0, 4, .inl F653)) := by rw [eh1010, tw_up_n (Ne.symm (fun z => absurd (hi9 3 0 (by decide) (by decide) z) (by decide)))]; exact f1000
  have f1019 : h1010 (r43 0) = some (.inl (d.2 0, 4, .inl F670)) := by rw [eh1010, tw_up_n (Ne.symm ne71)]; exact f1001
  have f1020 : h1010 (r5 1) = some (.inl (d.2 0, 4, .inl F795)) := by rw [eh1010, tw_up_n (Ne.symm (fun z => absurd (hi9 3 1 (by decide) (by decide) z) (by decide)))]; exact f1002
  have f1021 : h1010 (r43 1) = some (.inl (d.2 0, 4, .inl F812)) := by rw [eh1010, tw_up_n (Ne.symm ne72)]; exact f1003
  have f1022 : h1010 (r5 2) = some (.inl (d.2 0, 4, .inl F937)) := by rw [eh1010, tw_up_n (Ne.symm (fun z => absurd (hi9 3 2 (by decide) (by decide) z) (by decide)))]; exact f1004
  have f1023 : h1010 (r43 2) = some (.inl (d.2 0, 4, .inl F954)) := by rw [eh1010, tw_up_n (Ne.symm ne73)]; exact f1005
  have f1024 : h1010 (r43 3) = some (.inl (d.2 0, 4, .inl F991)) := by rw [eh1010, tw_up_n (Ne.symm ne74)]; exact f1007
  have f1025 : h1010 (r5 3) = some (.inl (d.2 0, 4, .inl F1009)) := by rw [eh1010]; exact tw_up_s
  clear f994 f995 f996 f997 f998 f999 f1000 f1001 f1002 f1003 f1004 f1005 f1006 f1007 sp993 eh1010
  refine tw_aload_n 2 dX10_init_115 rfl rfl ?_
  refine tw_get (v := .ref q42) rfl in_14 4 dX10_init_116 w_1155 rfl (by decide) f1017 rfl ?_
  refine tw_iload_n 1 dX10_init_119 rfl rfl ?_
  refine tw_aald (v := .ref (r43 3)) 8 rfl rfl dX10_init_120 f1013 (vp_in_nI (n := 3) (by decide) (by decide)) rfl ?_
  refine tw_iload_n 0 dX10_init_121 rfl rfl ?_
  refine tw_bipush (v := 10) dX10_init_122 (by decide) ?_
  refine tw_iast dX10_init_124 f1024 (vp_in_nI (n := 1) (by decide) (by decide)) ?_
  obtain ⟨F1026, eF1026⟩ : ∃ z : Nat → Int32, z = upd F991 (1 : Int32).toNatClampNeg 10 := ⟨_, rfl⟩
  rw [← eF1026]
  obtain ⟨h1027, eh1027⟩ : ∃ z : tw_H, z = tw_up h1010 (r43 3) (.inl (d.2 0, 4, .inl F1026)) := ⟨_, rfl⟩
  rw [← eh1027]
  have sp1028 : tw_sp d τ (tw_rm h x) g τ325 h1027 := by rw [eh1027]; exact sp1011.wl n97 z341
  have f1029 : h1027 q4 = some (.inl (d.2 8, 4, .inr (.inr (.inr (.inr (fun i => if i < 4 then some (r5 i) else none)))))) := by rw [eh1027, tw_up_n ne80]; exact f1012
  have f1030 : h1027 q42 = some (.inl (d.2 8, 4, .inr (.inr (.inr (.inr (fun i => if i < 4 then some (r43 i) else none)))))) := by rw [eh1027, tw_up_n (Ne.symm (hr46 3 (by decide)).2)]; exact f1013
  have f1031 : h1027 q357 = some (.inr (3, [.int 0, .ref (d.2 102), .int 0])) := by rw [eh1027, tw_up_n (Ne.symm ne370)]; exact f1014
  have f1032 : h1027 q416 = some (.inr (3, [.int 0, .ref (d.2 102), .int 0])) := by rw [eh1027, tw_up_n (Ne.symm ne429)]; exact f1015
  have f1033 : h1027 q479 = some (.inr (3, [.int 0, .ref (d.2 102), .int 0])) := by rw [eh1027, tw_up_n (Ne.symm ne492)]; exact f1016
  have f1034 : h1027 x = some (.inr (14, [.int 0, .int 0, .int 155, .ref q4, .ref q42, .ref q115, .ref q174, .ref q234, .ref q295, .ref q357, .ref q416, .ref q479])) := by rw [eh1027, tw_up_n ne86]; exact f1017
  have f1035 : h1027 (r5 0) = some (.inl (d.2 0, 4, .inl F653)) := by rw [eh1027, tw_up_n ne56]; exact f1018
  have f1036 : h1027 (r43 0) = some (.inl (d.2 0, 4, .inl F670)) := by rw [eh1027, tw_up_n (Ne.symm (fun z => absurd (hi47 3 0 (by decide) (by decide) z) (by decide)))]; exact f1019
  have f1037 : h1027 (r5 1) = some (.inl (d.2 0, 4, .inl F795)) := by rw [eh1027, tw_up_n ne62]; exact f1020
  have f1038 : h1027 (r43 1) = some (.inl (d.2 0, 4, .inl F812)) := by rw [eh1027, tw_up_n (Ne.symm (fun z => absurd (hi47 3 1 (by decide) (by decide) z) (by decide)))]; exact f1021
  have f1039 : h1027 (r5 2) = some (.inl (d.2 0, 4, .inl F937)) := by rw [eh1027, tw_up_n ne68]; exact f1022
  have f1040 : h1027 (r43 2) = some (.inl (d.2 0, 4, .inl F954)) := by rw [eh1027, tw_up_n (Ne.symm (fun z => absurd (hi47 3 2 (by decide) (by decide) z) (by decide)))]; exact f1023
  have f1041 : h1027 (r5 3) = some (.inl (d.2 0, 4, .inl F1009)) := by rw [eh1027, tw_up_n ne74]; exact f1025
  have f1042 : h1027 (r43 3) = some (.inl (d.2 0, 4, .inl F1026)) := by rw [eh1027]; exact tw_up_s
  clear f1012 f1013 f1014 f1015 f1016 f1017 f1018 f1019 f1020 f1021 f1022 f1023 f1024 f1025 sp1011 eh1027
  refine tw_iinc [(2, .int 2), (1, .int 3), (0, .ref x)] 0 dX10_init_125 rfl (by decide) (by decide) rfl ?_
  refine tw_goto 101 dX10_init_128 (by decide) ?_
  refine tw_iload_n 0 dX10_init_101 rfl rfl ?_
  refine tw_iconst (v := 4) dX10_init_102 (by decide) ?_
  refine tw_icmp_ge 131 dX10_init_103 (by decide) (fun c1043 => absurd c1043 (by decide)) (fun _ => ?_)
  refine tw_aload_n 2 dX10_init_106 rfl rfl ?_
  refine tw_get (v := .ref q4) rfl in_14 3 dX10_init_107 w_1154 rfl (by decide) f1034 rfl ?_
  refine tw_iload_n 1 dX10_init_110 rfl rfl ?_
  refine tw_aald (v := .ref (r5 3)) 8 rfl rfl dX10_init_111 f1029 (vp_in_nI (n := 3) (by decide) (by decide)) rfl ?_
  refine tw_iload_n 0 dX10_init_112 rfl rfl ?_
  refine tw_iconst (v := 3) dX10_init_113 (by decide) ?_
  refine tw_iast dX10_init_114 f1041 (vp_in_nI (n := 2) (by decide) (by decide)) ?_
  obtain ⟨F1044, eF1044⟩ : ∃ z : Nat → Int32, z = upd F1009 (2 : Int32).toNatClampNeg 3 := ⟨_, rfl⟩
  rw [← eF1044]
  obtain ⟨h1045, eh1045⟩ : ∃ z : tw_H, z = tw_up h1027 (r5 3) (.inl (d.2 0, 4, .inl F1044)) := ⟨_, rfl⟩
  rw [← eh1045]
  have sp1046 : tw_sp d τ (tw_rm h x) g τ325 h1045 := by rw [eh1045]; exact sp1028.wl n29 z336
  have f1047 : h1045 q4 = some (.inl (d.2 8, 4, .inr (.inr (.inr (.inr (fun i => if i < 4 then some (r5 i) else none)))))) := by rw [eh1045, tw_up_n (Ne.symm (hr8 3 (by decide)).2)]; exact f1029
  have f1048 : h1045 q42 = some (.inl (d.2 8, 4, .inr (.inr (.inr (.inr (fun i => if i < 4 then some (r43 i) else none)))))) := by rw [eh1045, tw_up_n (Ne.symm ne75)]; exact f1030
  have f1049 : h1045 q357 = some (.inr (3, [.int 0, .ref (d.2 102), .int 0])) := by rw [eh1045, tw_up_n (Ne.symm ne365)]; exact f1031
  have f1050 : h1045 q416 = some (.inr (3, [.int 0, .ref (d.2 102), .int 0])) := by rw [eh1045, tw_up_n (Ne.symm ne424)]; exact f1032
  have f1051 : h1045 q479 = some (.inr (3, [.int 0, .ref (d.2 102), .int 0])) := by rw [eh1045, tw_up_n (Ne.symm ne487)]; exact f1033
  have f1052 : h1045 x = some (.inr (14, [.int 0, .int 0, .int 155, .ref q4, .ref q42, .ref q115, .ref q174, .ref q234, .ref q295, .ref q357, .ref q416, .ref q479])) := by rw [eh1045, tw_up_n ne18]; exact f1034
  have f1053 : h1045 (r5 0) = some (.inl (d.2 0, 4, .inl F653)) := by rw [eh1045, tw_up_n (Ne.symm (fun z => absurd (hi9 3 0 (by decide) (by decide) z) (by decide)))]; exact f1035
  have f1054 : h1045 (r43 0) = some (.inl (d.2 0, 4, .inl F670)) := by rw [eh1045, tw_up_n (Ne.symm ne71)]; exact f1036
  have f1055 : h1045 (r5 1) = some (.inl (d.2 0, 4, .inl F795)) := by rw [eh1045, tw_up_n (Ne.symm (fun z => absurd (hi9 3 1 (by decide) (by decide) z) (by decide)))]; exact f1037
  have f1056 : h1045 (r43 1) = some (.inl (d.2 0, 4, .inl F812)) := by rw [eh1045, tw_up_n (Ne.symm ne72)]; exact f1038
  have f1057 : h1045 (r5 2) = some (.inl (d.2 0, 4, .inl F937)) := by rw [eh1045, tw_up_n (Ne.symm (fun z => absurd (hi9 3 2 (by decide) (by decide) z) (by decide)))]; exact f1039
  have f1058 : h1045 (r43 2) = some (.inl (d.2 0, 4, .inl F954)) := by rw [eh1045, tw_up_n (Ne.symm ne73)]; exact f1040
  have f1059 : h1045 (r43 3) = some (.inl (d.2 0, 4, .inl F1026)) := by rw [eh1045, tw_up_n (Ne.symm ne74)]; exact f1042
  have f1060 : h1045 (r5 3) = some (.inl (d.2 0, 4, .inl F1044)) := by rw [eh1045]; exact tw_up_s
  clear f1029 f1030 f1031 f1032 f1033 f1034 f1035 f1036 f1037 f1038 f1039 f1040 f1041 f1042 sp1028 eh1045
  refine tw_aload_n 2 dX10_init_115 rfl rfl ?_
  refine tw_get (v := .ref q42) rfl in_14 4 dX10_init_116 w_1155 rfl (by decide) f1052 rfl ?_
  refine tw_iload_n 1 dX10_init_119 rfl rfl ?_
  refine tw_aald (v := .ref (r43 3)) 8 rfl rfl dX10_init_120 f1048 (vp_in_nI (n := 3) (by decide) (by decide)) rfl ?_
  refine tw_iload_n 0 dX10_init_121 rfl rfl ?_
  refine tw_bipush (v := 10) dX10_init_122 (by decide) ?_
  refine tw_iast dX10_init_124 f1059 (vp_in_nI (n := 2) (by decide) (by decide)) ?_
  obtain ⟨F1061, eF1061⟩ : ∃ z : Nat → Int32, z = upd F1026 (2 : Int32).toNatClampNeg 10 := ⟨_, rfl⟩
  rw [← eF1061]
  obtain ⟨h1062, eh1062⟩ : ∃ z : tw_H, z = tw_up h1045 (r43 3) (.inl (d.2 0, 4, .inl F1061)) := ⟨_, rfl⟩
  rw [← eh1062]
  have sp1063 : tw_sp d τ (tw_rm h x) g τ325 h1062 := by rw [eh1062]; exact sp1046.wl n97 z341
  have f1064 : h1062 q4 = some (.inl (d.2 8, 4, .inr (.inr (.inr (.inr (fun i => if i < 4 then some (r5 i) else none)))))) := by rw [eh1062, tw_up_n ne80]; exact f1047
  have f1065 : h1062 q42 = some (.inl (d.2 8, 4, .inr (.inr (.inr (.inr (fun i => if i < 4 then some (r43 i) else none)))))) := by rw [eh1062, tw_up_n (Ne.symm (hr46 3 (by decide)).2)]; exact f1048
  have f1066 : h1062 q357 = some (.inr (3, [.int 0, .ref (d.2 102), .int 0])) := by rw [eh1062, tw_up_n (Ne.symm ne370)]; exact f1049
  have f1067 : h1062 q416 = some (.inr (3, [.int 0, .ref (d.2 102), .int 0])) := by rw [eh1062, tw_up_n (Ne.symm ne429)]; exact f1050
  have f1068 : h1062 q479 = some (.inr (3, [.int 0, .ref (d.2 102), .int 0])) := by rw [eh1062, tw_up_n (Ne.symm ne492)]; exact f1051
  have f1069 : h1062 x = some (.inr (14, [.int 0, .int 0, .int 155, .ref q4, .ref q42, .ref q115, .ref q174, .ref q234, .ref q295, .ref q357, .ref q416, .ref q479])) := by rw [eh1062, tw_up_n ne86]; exact f1052
  have f1070 : h1062 (r5 0) = some (.inl (d.2 0, 4, .inl F653)) := by rw [eh1062, tw_up_n ne56]; exact f1053
  have f1071 : h1062 (r43 0) = some (.inl (d.2 0, 4, .inl F670)) := by rw [eh1062, tw_up_n (Ne.symm (fun z => absurd (hi47 3 0 (by decide) (by decide) z) (by decide)))]; exact f1054
  have f1072 : h1062 (r5 1) = some (.inl (d.2 0, 4, .inl F795)) := by rw [eh1062, tw_up_n ne62]; exact f1055
  have f1073 : h1062 (r43 1) = some (.inl (d.2 0, 4, .inl F812)) := by rw [eh1062, tw_up_n (Ne.symm (fun z => absurd (hi47 3 1 (by decide) (by decide) z) (by decide)))]; exact f1056
  have f1074 : h1062 (r5 2) = some (.inl (d.2 0, 4, .inl F937)) := by rw [eh1062, tw_up_n ne68]; exact f1057
  have f1075 : h1062 (r43 2) = some (.inl (d.2 0, 4, .inl F954)) := by rw [eh1062, tw_up_n (Ne.symm (fun z => absurd (hi47 3 2 (by decide) (by decide) z) (by decide)))]; exact f1058
  have f1076 : h1062 (r5 3) = some (.inl (d.2 0, 4, .inl F1044)) := by rw [eh1062, tw_up_n ne74]; exact f1060
  have f1077 : h1062 (r43 3) = some (.inl (d.2 0, 4, .inl F1061)) := by rw [eh1062]; exact tw_up_s
  clear f1047 f1048 f1049 f1050 f1051 f1052 f1053 f1054 f1055 f1056 f1057 f1058 f1059 f1060 sp1046 eh1062
  refine tw_iinc [(2, .int 3), (1, .int 3), (0, .ref x)] 0 dX10_init_125 rfl (by decide) (by decide) rfl ?_
  refine tw_goto 101 dX10_init_128 (by decide) ?_
  refine tw_iload_n 0 dX10_init_101 rfl rfl ?_
  refine tw_iconst (v := 4) dX10_init_102 (by decide) ?_
  refine tw_icmp_ge 131 dX10_init_103 (by decide) (fun c1078 => absurd c1078 (by decide)) (fun _ => ?_)
  refine tw_aload_n 2 dX10_init_106 rfl rfl ?_
  refine tw_get (v := .ref q4) rfl in_14 3 dX10_init_107 w_1154 rfl (by decide) f1069 rfl ?_
  refine tw_iload_n 1 dX10_init_110 rfl rfl ?_
  refine tw_aald (v := .ref (r5 3)) 8 rfl rfl dX10_init_111 f1064 (vp_in_nI (n := 3) (by decide) (by decide)) rfl ?_
  refine tw_iload_n 0 dX10_init_112 rfl rfl ?_
  refine tw_iconst (v := 3) dX10_init_113 (by decide) ?_
  refine tw_iast dX10_init_114 f1076 (vp_in_nI (n := 3) (by decide) (by decide)) ?_
  obtain ⟨F1079, eF1079⟩ : ∃ z : Nat → Int32, z = upd F1044 (3 : Int32).toNatClampNeg 3 := ⟨_, rfl⟩
  rw [← eF1079]
  obtain ⟨h1080, eh1080⟩ : ∃ z : tw_H, z = tw_up h1062 (r5 3) (.inl (d.2 0, 4, .inl F1079)) := ⟨_, rfl⟩
  rw [← eh1080]
  have sp1081 : tw_sp d τ (tw_rm h x) g τ325 h1080 := by rw [eh1080]; exact sp1063.wl n29 z336
  have f1082 : h1080 q4 = some (.inl (d.2 8, 4, .inr (.inr (.inr (.inr (fun i => if i < 4 then some (r5 i) else none)))))) := by rw [eh1080, tw_up_n (Ne.symm (hr8 3 (by decide)).2)]; exact f1064
  have f1083 : h1080 q42 = some (.inl (d.2 8, 4, .inr (.inr (.inr (.inr (fun i => if i < 4 then some (r43 i) else none)))))) := by rw [eh1080, tw_up_n (Ne.symm ne75)]; exact f1065
  have f1084 : h1080 q357 = some (.inr (3, [.int 0, .ref (d.2 102), .int 0])) := by rw [eh1080, tw_up_n (Ne.symm ne365)]; exact f1066
  have f1085 : h1080 q416 = some (.inr (3, [.int 0, .ref (d.2 102), .int 0])) := by rw [eh1080, tw_up_n (Ne.symm ne424)]; exact f1067
  have f1086 : h1080 q479 = some (.inr (3, [.int 0, .ref (d.2 102), .int 0])) := by rw [eh1080, tw_up_n (Ne.symm ne487)]; exact f1068
  have f1087 : h1080 x = some (.inr (14, [.int 0, .int 0, .int 155, .ref q4, .ref q42, .ref q115, .ref q174, .ref q234, .ref q295, .ref q357, .ref q416, .ref q479])) := by rw [eh1080, tw_up_n ne18]; exact f1069
  have f1088 : h1080 (r5 0) = some (.inl (d.2 0, 4, .inl F653)) := by rw [eh1080, tw_up_n (Ne.symm (fun z => absurd (hi9 3 0 (by decide) (by decide) z) (by decide)))]; exact f1070
  have f1089 : h1080 (r43 0) = some (.inl (d.2 0, 4, .inl F670)) := by rw [eh1080, tw_up_n (Ne.symm ne71)]; exact f1071
  have f1090 : h1080 (r5 1) = some (.inl (d.2 0, 4, .inl F795)) := by rw [eh1080, tw_up_n (Ne.symm (fun z => absurd (hi9 3 1 (by decide) (by decide) z) (by decide)))]; exact f1072
  have f1091 : h1080 (r43 1) = some (.inl (d.2 0, 4, .inl F812)) := by rw [eh1080, tw_up_n (Ne.symm ne72)]; exact f1073
  have f1092 : h1080 (r5 2) = some (.inl (d.2 0, 4, .inl F937)) := by rw [eh1080, tw_up_n (Ne.symm (fun z => absurd (hi9 3 2 (by decide) (by decide) z) (by decide)))]; exact f1074
  have f1093 : h1080 (r43 2) = some (.inl (d.2 0, 4, .inl F954)) := by rw [eh1080, tw_up_n (Ne.symm ne73)]; exact f1075
  have f1094 : h1080 (r43 3) = some (.inl (d.2 0, 4, .inl F1061)) := by rw [eh1080, tw_up_n (Ne.symm ne74)]; exact f1077
  have f1095 : h1080 (r5 3) = some (.inl (d.2 0, 4, .inl F1079)) := by rw [eh1080]; exact tw_up_s
  clear f1064 f1065 f1066 f1067 f1068 f1069 f1070 f1071 f1072 f1073 f1074 f1075 f1076 f1077 sp1063 eh1080
  refine tw_aload_n 2 dX10_init_115 rfl rfl ?_
  refine tw_get (v := .ref q42) rfl in_14 4 dX10_init_116 w_1155 rfl (by decide) f1087 rfl ?_
  refine tw_iload_n 1 dX10_init_119 rfl rfl ?_
  refine tw_aald (v := .ref (r43 3)) 8 rfl rfl dX10_init_120 f1083 (vp_in_nI (n := 3) (by decide) (by decide)) rfl ?_
  refine tw_iload_n 0 dX10_init_121 rfl rfl ?_
  refine tw_bipush (v := 10) dX10_init_122 (by decide) ?_
  refine tw_iast dX10_init_124 f1094 (vp_in_nI (n := 3) (by decide) (by decide)) ?_
  obtain ⟨F1096, eF1096⟩ : ∃ z : Nat → Int32, z = upd F1061 (3 : Int32).toNatClampNeg 10 := ⟨_, rfl⟩
  rw [← eF1096]
  obtain ⟨h1097, eh1097⟩ : ∃ z : tw_H, z = tw_up h1080 (r43 3) (.inl (d.2 0, 4, .inl F1096)) := ⟨_, rfl⟩
  rw [← eh1097]
  have sp1098 : tw_sp d τ (tw_rm h x) g τ325 h1097 := by rw [eh1097]; exact sp1081.wl n97 z341
  have f1099 : h1097 q4 = some (.inl (d.2 8, 4, .inr (.inr (.inr (.inr (fun i => if i < 4 then some (r5 i) else none)))))) := by rw [eh1097, tw_up_n ne80]; exact f1082
  have f1100 : h1097 q42 = some (.inl (d.2 8, 4, .inr (.inr (.inr (.inr (fun i => if i < 4 then some (r43 i) else none)))))) := by rw [eh1097, tw_up_n (Ne.symm (hr46 3 (by decide)).2)]; exact f1083
  have f1101 : h1097 q357 = some (.inr (3, [.int 0, .ref (d.2 102), .int 0])) := by rw [eh1097, tw_up_n (Ne.symm ne370)]; exact f1084
  have f1102 : h1097 q416 = some (.inr (3, [.int 0, .ref (d.2 102), .int 0])) := by rw [eh1097, tw_up_n (Ne.symm ne429)]; exact f1085
  have f1103 : h1097 q479 = some (.inr (3, [.int 0, .ref (d.2 102), .int 0])) := by rw [eh1097, tw_up_n (Ne.symm ne492)]; exact f1086
  have f1104 : h1097 x = some (.inr (14, [.int 0, .int 0, .int 155, .ref q4, .ref q42, .ref q115, .ref q174, .ref q234, .ref q295, .ref q357, .ref q416, .ref q479])) := by rw [eh1097, tw_up_n ne86]; exact f1087
  have f1105 : h1097 (r5 0) = some (.inl (d.2 0, 4, .inl F653)) := by rw [eh1097, tw_up_n ne56]; exact f1088
  have f1106 : h1097 (r43 0) = some (.inl (d.2 0, 4, .inl F670)) := by rw [eh1097, tw_up_n (Ne.symm (fun z => absurd (hi47 3 0 (by decide) (by decide) z) (by decide)))]; exact f1089
  have f1107 : h1097 (r5 1) = some (.inl (d.2 0, 4, .inl F795)) := by rw [eh1097, tw_up_n ne62]; exact f1090
  have f1108 : h1097 (r43 1) = some (.inl (d.2 0, 4, .inl F812)) := by rw [eh1097, tw_up_n (Ne.symm (fun z => absurd (hi47 3 1 (by decide) (by decide) z) (by decide)))]; exact f1091
  have f1109 : h1097 (r5 2) = some (.inl (d.2 0, 4, .inl F937)) := by rw [eh1097, tw_up_n ne68]; exact f1092
  have f1110 : h1097 (r43 2) = some (.inl (d.2 0, 4, .inl F954)) := by rw [eh1097, tw_up_n (Ne.symm (fun z => absurd (hi47 3 2 (by decide) (by decide) z) (by decide)))]; exact f1093
  have f1111 : h1097 (r5 3) = some (.inl (d.2 0, 4, .inl F1079)) := by rw [eh1097, tw_up_n ne74]; exact f1095
  have f1112 : h1097 (r43 3) = some (.inl (d.2 0, 4, .inl F1096)) := by rw [eh1097]; exact tw_up_s
  clear f1082 f1083 f1084 f1085 f1086 f1087 f1088 f1089 f1090 f1091 f1092 f1093 f1094 f1095 sp1081 eh1097
  refine tw_iinc [(2, .int 4), (1, .int 3), (0, .ref x)] 0 dX10_init_125 rfl (by decide) (by decide) rfl ?_
  refine tw_goto 101 dX10_init_128 (by decide) ?_
  refine tw_iload_n 0 dX10_init_101 rfl rfl ?_
  refine tw_iconst (v := 4) dX10_init_102 (by decide) ?_
  refine tw_icmp_ge 131 dX10_init_103 (by decide) (fun _ => ?_) (fun c1113 => absurd (by decide) c1113)
  refine tw_iinc [(1, .int 4), (2, .int 4), (0, .ref x)] 1 dX10_init_131 rfl (by decide) (by decide) rfl ?_
  refine tw_goto 94 dX10_init_134 (by decide) ?_
  refine tw_iload_n 0 dX10_init_94 rfl rfl ?_
  refine tw_iconst (v := 4) dX10_init_95 (by decide) ?_
  refine tw_icmp_ge 137 dX10_init_96 (by decide) (fun _ => ?_) (fun c1114 => absurd (by decide) c1114)
  have c3_0 : ∀ k, k < 4 → F653 k = 3 := by
    rw [eF653, eF618, eF583, eF548]
    exact tw_4 rfl rfl rfl rfl
  have c3_1 : ∀ k, k < 4 → F795 k = 3 := by
    rw [eF795, eF760, eF725, eF690]
    exact tw_4 rfl rfl rfl rfl
  have c3_2 : ∀ k, k < 4 → F937 k = 3 := by
    rw [eF937, eF902, eF867, eF832]
    exact tw_4 rfl rfl rfl rfl
  have c3_3 : ∀ k, k < 4 → F1079 k = 3 := by
    rw [eF1079, eF1044, eF1009, eF974]
    exact tw_4 rfl rfl rfl rfl
  have c10_0 : ∀ k, k < 4 → F670 k = 10 := by
    rw [eF670, eF635, eF600, eF565]
    exact tw_4 rfl rfl rfl rfl
  have c10_1 : ∀ k, k < 4 → F812 k = 10 := by
    rw [eF812, eF777, eF742, eF707]
    exact tw_4 rfl rfl rfl rfl
  have c10_2 : ∀ k, k < 4 → F954 k = 10 := by
    rw [eF954, eF919, eF884, eF849]
    exact tw_4 rfl rfl rfl rfl
  have c10_3 : ∀ k, k < 4 → F1096 k = 10 := by
    rw [eF1096, eF1061, eF1026, eF991]
    exact tw_4 rfl rfl rfl rfl
  have zr : ∀ i, i < 4 → τ325 (r5 i) = 0 := tw_4 z333 z334 z335 z336
  have zs : ∀ i, i < 4 → τ325 (r43 i) = 0 := tw_4 z338 z339 z340 z341
  have hrs : ∀ i, i < 4 → ∀ j, j < 4 → r5 i ≠ r43 j := tw_4 (tw_4 ne53 ne54 ne55 ne56) (tw_4 ne59 ne60 ne61 ne62) (tw_4 ne65 ne66 ne67 ne68) (tw_4 ne71 ne72 ne73 ne74)
  have hd : ∀ i, i < 4 → q4 ≠ r5 i ∧ q4 ≠ r43 i ∧ q42 ≠ r5 i ∧ q42 ≠ r43 i := tw_4 ⟨(Ne.symm (hr8 0 (by decide)).2), ne77, (Ne.symm ne57), (Ne.symm (hr46 0 (by decide)).2)⟩ ⟨(Ne.symm (hr8 1 (by decide)).2), ne78, (Ne.symm ne63), (Ne.symm (hr46 1 (by decide)).2)⟩ ⟨(Ne.symm (hr8 2 (by decide)).2), ne79, (Ne.symm ne69), (Ne.symm (hr46 2 (by decide)).2)⟩ ⟨(Ne.symm (hr8 3 (by decide)).2), ne80, (Ne.symm ne75), (Ne.symm (hr46 3 (by decide)).2)⟩
  have oo := tw_gM_o (g := g) (x := x) (lc := q357) (lh := q416) (ld := q479) (ds := q4) (fr := q42) (r := r5) (s := r43) hi9 hi47 (fun i j hi hj => hrs i hi j hj) hd (Ne.symm ne81)
  have cc := fun (j k : Nat) (hj : j < 4) (hk : k < 4) => tw_gM_c (g := g) (x := x) (lc := q357) (lh := q416) (ld := q479) (ds := q4) (fr := q42) (r := r5) (s := r43) hj hk
  obtain ⟨g1, eg1⟩ : ∃ z : tw_G, z = tw_gM g x q357 q416 q479 q4 q42 r5 r43 := ⟨_, rfl⟩
  rw [← eg1] at oo
  have cc : ∀ (j k : Nat), j < 4 → k < 4 → g1.1 (416 + 8 * j + k) = 3 ∧ g1.1 (448 + 8 * j + k) = 10 := by rw [eg1]; exact cc
  have gR : ∀ q, τ325 q ≠ 0 → g1.2 (4096 + q) = g.2 (4096 + q) := by rw [eg1]; exact fun q hq => tw_gM_R zr zs z337 z342 hq
  have sp1115 := sp1098.gch (g1 := g1) no343 (by rw [eg1]; rfl) (by rw [eg1]; rfl) (by rw [eg1]; rfl) (by rw [eg1]; rfl) (by rw [eg1]; rfl) (by rw [eg1]; rfl) (fun i h1 h2 => by rw [eg1]; exact tw_gM_lo (Or.inr (Or.inl ⟨h1, h2⟩))) (fun i h1 h2 => by rw [eg1]; exact tw_gM_lo (Or.inr (Or.inr (Or.inl ⟨h1, Nat.lt_succ_of_lt h2⟩)))) (fun y b _ o => absurd o (tw_ow_no (Nat.le_of_eq h24) (by rw [h9]; decide))) gR
  obtain ⟨τ1116, eτ1116⟩ : ∃ z : tw_K, z = tw_ku τ325 (r5 0) 6 := ⟨_, rfl⟩
  have le1117 : tw_le τ325 τ1116 := by rw [eτ1116]; exact tw_ku_le z333
  have k1118 : τ1116 q115 = 31 := le1117.k k327 (by decide)
  have k1119 : τ1116 q174 = 31 := le1117.k k328 (by decide)
  have k1120 : τ1116 q234 = 31 := le1117.k k329 (by decide)
  have k1121 : τ1116 q295 = 31 := le1117.k k331 (by decide)
  have sp1122 : tw_sp d τ (tw_rm h x) g1 τ1116 h1097 := by rw [eτ1116]; exact sp1115.ty n20 z333 f1105 (by rw [← eτ1116]; exact ⟨_, rfl, _, (oo.1 0 (by decide)).1, fun k hk => (c3_0 k hk).trans (cc 0 k (by decide) hk).1.symm⟩)
  have k1123 : τ1116 (r5 0) = 6 := by rw [eτ1116]; exact tw_ku_s
  have z1124 : τ1116 x = 0 := by rw [eτ1116, tw_ku_n ne15]; exact z332
  have z1125 : τ1116 (r5 1) = 0 := by rw [eτ1116, tw_ku_n (fun z => absurd (hi9 1 0 (by decide) (by decide) z) (by decide))]; exact z334
  have z1126 : τ1116 (r5 2) = 0 := by rw [eτ1116, tw_ku_n (fun z => absurd (hi9 2 0 (by decide) (by decide) z) (by decide))]; exact z335
  have z1127 : τ1116 (r5 3) = 0 := by rw [eτ1116, tw_ku_n (fun z => absurd (hi9 3 0 (by decide) (by decide) z) (by decide))]; exact z336
  have z1128 : τ1116 q4 = 0 := by rw [eτ1116, tw_ku_n (Ne.symm (hr8 0 (by decide)).2)]; exact z337
  have z1129 : τ1116 (r43 0) = 0 := by rw [eτ1116, tw_ku_n (Ne.symm ne53)]; exact z338
  have z1130 : τ1116 (r43 1) = 0 := by rw [eτ1116, tw_ku_n (Ne.symm ne54)]; exact z339
  have z1131 : τ1116 (r43 2) = 0 := by rw [eτ1116, tw_ku_n (Ne.symm ne55)]; exact z340
  have z1132 : τ1116 (r43 3) = 0 := by rw [eτ1116, tw_ku_n (Ne.symm ne56)]; exact z341
  have z1133 : τ1116 q42 = 0 := by rw [eτ1116, tw_ku_n (Ne.symm ne57)]; exact z342
  have z1134 : τ1116 q357 = 0 := by rw [eτ1116, tw_ku_n (Ne.symm ne362)]; exact z361
  have z1135 : τ1116 q416 = 0 := by rw [eτ1116, tw_ku_n (Ne.symm ne421)]; exact z420
  have z1136 : τ1116 q479 = 0 := by rw [eτ1116, tw_ku_n (Ne.symm ne484)]; exact z483
  obtain ⟨τ1137, eτ1137⟩ : ∃ z : tw_K, z = tw_ku τ1116 (r5 1) 6 := ⟨_, rfl⟩
  have le1138 : tw_le τ1116 τ1137 := by rw [eτ1137]; exact tw_ku_le z1125
  have k1139 : τ1137 q115 = 31 := le1138.k k1118 (by decide)
  have k1140 : τ1137 q174 = 31 := le1138.k k1119 (by decide)
  have k1141 : τ1137 q234 = 31 := le1138.k k1120 (by decide)
  have k1142 : τ1137 q295 = 31 := le1138.k k1121 (by decide)
  have k1143 : τ1137 (r5 0) = 6 := le1138.k k1123 (by decide)
  have sp1144 : tw_sp d τ (tw_rm h x) g1 τ1137 h1097 := by rw [eτ1137]; exact sp1122.ty n23 z1125 f1107 (by rw [← eτ1137]; exact ⟨_, rfl, _, (oo.1 1 (by decide)).1, fun k hk => (c3_1 k hk).trans (cc 1 k (by decide) hk).1.symm⟩)
  have k1145 : τ1137 (r5 1) = 6 := by rw [eτ1137]; exact tw_ku_s
  have z1146 : τ1137 x = 0 := by rw [eτ1137, tw_ku_n ne16]; exact z1124
  have z1147 : τ1137 (r5 2) = 0 := by rw [eτ1137, tw_ku_n (fun z => absurd (hi9 2 1 (by decide) (by decide) z) (by decide))]; exact z1126
  have z1148 : τ1137 (r5 3) = 0 := by rw [eτ1137, tw_ku_n (fun z => absurd (hi9 3 1 (by decide) (by decide) z) (by decide))]; exact z1127
  have z1149 : τ1137 q4 = 0 := by rw [eτ1137, tw_ku_n (Ne.symm (hr8 1 (by decide)).2)]; exact z1128
  have z1150 : τ1137 (r43 0) = 0 := by rw [eτ1137, tw_ku_n (Ne.symm ne59)]; exact z1129
  have z1151 : τ1137 (r43 1) = 0 := by rw [eτ1137, tw_ku_n (Ne.symm ne60)]; exact z1130
  have z1152 : τ1137 (r43 2) = 0 := by rw [eτ1137, tw_ku_n (Ne.symm ne61)]; exact z1131
  have z1153 : τ1137 (r43 3) = 0 := by rw [eτ1137, tw_ku_n (Ne.symm ne62)]; exact z1132
  have z1154 : τ1137 q42 = 0 := by rw [eτ1137, tw_ku_n (Ne.symm ne63)]; exact z1133
  have z1155 : τ1137 q357 = 0 := by rw [eτ1137, tw_ku_n (Ne.symm ne363)]; exact z1134
  have z1156 : τ1137 q416 = 0 := by rw [eτ1137, tw_ku_n (Ne.symm ne422)]; exact z1135
  have z1157 : τ1137 q479 = 0 := by rw [eτ1137, tw_ku_n (Ne.symm ne485)]; exact z1136
  obtain ⟨τ1158, eτ1158⟩ : ∃ z : tw_K, z = tw_ku τ1137 (r5 2) 6 := ⟨_, rfl⟩
  have le1159 : tw_le τ1137 τ1158 := by rw [eτ1158]; exact tw_ku_le z1147
  have k1160 : τ1158 q115 = 31 := le1159.k k1139 (by decide)
  have k1161 : τ1158 q174 = 31 := le1159.k k1140 (by decide)
  have k1162 : τ1158 q234 = 31 := le1159.k k1141 (by decide)
  have k1163 : τ1158 q295 = 31 := le1159.k k1142 (by decide)
  have k1164 : τ1158 (r5 0) = 6 := le1159.k k1143 (by decide)
  have k1165 : τ1158 (r5 1) = 6 := le1159.k k1145 (by decide)
  have sp1166 : tw_sp d τ (tw_rm h x) g1 τ1158 h1097 := by rw [eτ1158]; exact sp1144.ty n26 z1147 f1109 (by rw [← eτ1158]; exact ⟨_, rfl, _, (oo.1 2 (by decide)).1, fun k hk => (c3_2 k hk).trans (cc 2 k (by decide) hk).1.symm⟩)
  have k1167 : τ1158 (r5 2) = 6 := by rw [eτ1158]; exact tw_ku_s
  have z1168 : τ1158 x = 0 := by rw [eτ1158, tw_ku_n ne17]; exact z1146
  have z1169 : τ1158 (r5 3) = 0 := by rw [eτ1158, tw_ku_n (fun z => absurd (hi9 3 2 (by decide) (by decide) z) (by decide))]; exact z1148
  have z1170 : τ1158 q4 = 0 := by rw [eτ1158, tw_ku_n (Ne.symm (hr8 2 (by decide)).2)]; exact z1149
  have z1171 : τ1158 (r43 0) = 0 := by rw [eτ1158, tw_ku_n (Ne.symm ne65)]; exact z1150
  have z1172 : τ1158 (r43 1) = 0 := by rw [eτ1158, tw_ku_n (Ne.symm ne66)]; exact z1151
  have z1173 : τ1158 (r43 2) = 0 := by rw [eτ1158, tw_ku_n (Ne.symm ne67)]; exact z1152
  have z1174 : τ1158 (r43 3) = 0 := by rw [eτ1158, tw_ku_n (Ne.symm ne68)]; exact z1153
  have z1175 : τ1158 q42 = 0 := by rw [eτ1158, tw_ku_n (Ne.symm ne69)]; exact z1154
  have z1176 : τ1158 q357 = 0 := by rw [eτ1158, tw_ku_n (Ne.symm ne364)]; exact z1155
  have z1177 : τ1158 q416 = 0 := by rw [eτ1158, tw_ku_n (Ne.symm ne423)]; exact z1156
  have z1178 : τ1158 q479 = 0 := by rw [eτ1158, tw_ku_n (Ne.symm ne486)]; exact z1157
  obtain ⟨τ1179, eτ1179⟩ : ∃ z : tw_K, z = tw_ku τ1158 (r5 3) 6 := ⟨_, rfl⟩
  have le1180 : tw_le τ1158 τ1179 := by rw [eτ1179]; exact tw_ku_le z1169
  have k1181 : τ1179 q115 = 31 := le1180.k k1160 (by decide)
  have k1182 : τ1179 q174 = 31 := le1180.k k1161 (by decide)
  have k1183 : τ1179 q234 = 31 := le1180.k k1162 (by decide)
  have k1184 : τ1179 q295 = 31 := le1180.k k1163 (by decide)
  have k1185 : τ1179 (r5 0) = 6 := le1180.k k1164 (by decide)
  have k1186 : τ1179 (r5 1) = 6 := le1180.k k1165 (by decide)
  have k1187 : τ1179 (r5 2) = 6 := le1180.k k1167 (by decide)
  have sp1188 : tw_sp d τ (tw_rm h x) g1 τ1179 h1097 := by rw [eτ1179]; exact sp1166.ty n29 z1169 f1111 (by rw [← eτ1179]; exact ⟨_, rfl, _, (oo.1 3 (by decide)).1, fun k hk => (c3_3 k hk).trans (cc 3 k (by decide) hk).1.symm⟩)
  have k1189 : τ1179 (r5 3) = 6 := by rw [eτ1179]; exact tw_ku_s
  have z1190 : τ1179 x = 0 := by rw [eτ1179, tw_ku_n ne18]; exact z1168
  have z1191 : τ1179 q4 = 0 := by rw [eτ1179, tw_ku_n (Ne.symm (hr8 3 (by decide)).2)]; exact z1170
  have z1192 : τ1179 (r43 0) = 0 := by rw [eτ1179, tw_ku_n (Ne.symm ne71)]; exact z1171
  have z1193 : τ1179 (r43 1) = 0 := by rw [eτ1179, tw_ku_n (Ne.symm ne72)]; exact z1172
  have z1194 : τ1179 (r43 2) = 0 := by rw [eτ1179, tw_ku_n (Ne.symm ne73)]; exact z1173
  have z1195 : τ1179 (r43 3) = 0 := by rw [eτ1179, tw_ku_n (Ne.symm ne74)]; exact z1174
  have z1196 : τ1179 q42 = 0 := by rw [eτ1179, tw_ku_n (Ne.symm ne75)]; exact z1175
  have z1197 : τ1179 q357 = 0 := by rw [eτ1179, tw_ku_n (Ne.symm ne365)]; exact z1176
  have z1198 : τ1179 q416 = 0 := by rw [eτ1179, tw_ku_n (Ne.symm ne424)]; exact z1177
  have z1199 : τ1179 q479 = 0 := by rw [eτ1179, tw_ku_n (Ne.symm ne487)]; exact z1178
  obtain ⟨τ1200, eτ1200⟩ : ∃ z : tw_K, z = tw_ku τ1179 (r43 0) 6 := ⟨_, rfl⟩
  have le1201 : tw_le τ1179 τ1200 := by rw [eτ1200]; exact tw_ku_le z1192
  have k1202 : τ1200 q115 = 31 := le1201.k k1181 (by decide)
  have k1203 : τ1200 q174 = 31 := le1201.k k1182 (by decide)
  have k1204 : τ1200 q234 = 31 := le1201.k k1183 (by decide)
  have k1205 : τ1200 q295 = 31 := le1201.k k1184 (by decide)
  have k1206 : τ1200 (r5 0) = 6 := le1201.k k1185 (by decide)
  have k1207 : τ1200 (r5 1) = 6 := le1201.k k1186 (by decide)
  have k1208 : τ1200 (r5 2) = 6 := le1201.k k1187 (by decide)
  have k1209 : τ1200 (r5 3) = 6 := le1201.k k1189 (by decide)
  have sp1210 : tw_sp d τ (tw_rm h x) g1 τ1200 h1097 := by rw [eτ1200]; exact sp1188.ty n88 z1192 f1106 (by rw [← eτ1200]; exact ⟨_, rfl, _, (oo.1 0 (by decide)).2, fun k hk => (c10_0 k hk).trans (cc 0 k (by decide) hk).2.symm⟩)
  have k1211 : τ1200 (r43 0) = 6 := by rw [eτ1200]; exact tw_ku_s
  have z1212 : τ1200 x = 0 := by rw [eτ1200, tw_ku_n ne83]; exact z1190
  have z1213 : τ1200 q4 = 0 := by rw [eτ1200, tw_ku_n ne77]; exact z1191
  have z1214 : τ1200 (r43 1) = 0 := by rw [eτ1200, tw_ku_n (fun z => absurd (hi47 1 0 (by decide) (by decide) z) (by decide))]; exact z1193
  have z1215 : τ1200 (r43 2) = 0 := by rw [eτ1200, tw_ku_n (fun z => absurd (hi47 2 0 (by decide) (by decide) z) (by decide))]; exact z1194
  have z1216 : τ1200 (r43 3) = 0 := by rw [eτ1200, tw_ku_n (fun z => absurd (hi47 3 0 (by decide) (by decide) z) (by decide))]; exact z1195
  have z1217 : τ1200 q42 = 0 := by rw [eτ1200, tw_ku_n (Ne.symm (hr46 0 (by decide)).2)]; exact z1196
  have z1218 : τ1200 q357 = 0 := by rw [eτ1200, tw_ku_n (Ne.symm ne367)]; exact z1197
  have z1219 : τ1200 q416 = 0 := by rw [eτ1200, tw_ku_n (Ne.symm ne426)]; exact z1198
  have z1220 : τ1200 q479 = 0 := by rw [eτ1200, tw_ku_n (Ne.symm ne489)]; exact z1199
  obtain ⟨τ1221, eτ1221⟩ : ∃ z : tw_K, z = tw_ku τ1200 (r43 1) 6 := ⟨_, rfl⟩
  have le1222 : tw_le τ1200 τ1221 := by rw [eτ1221]; exact tw_ku_le z1214
  have k1223 : τ1221 q115 = 31 := le1222.k k1202 (by decide)
  have k1224 : τ1221 q174 = 31 := le1222.k k1203 (by decide)
  have k1225 : τ1221 q234 = 31 := le1222.k k1204 (by decide)
  have k1226 : τ1221 q295 = 31 := le1222.k k1205 (by decide)
  have k1227 : τ1221 (r5 0) = 6 := le1222.k k1206 (by decide)
  have k1228 : τ1221 (r5 1) = 6 := le1222.k k1207 (by decide)
  have k1229 : τ1221 (r5 2) = 6 := le1222.k k1208 (by decide)
  have k1230 : τ1221 (r5 3) = 6 := le1222.k k1209 (by decide)
  have k1231 : τ1221 (r43 0) = 6 := le1222.k k1211 (by decide)
  have sp1232 : tw_sp d τ (tw_rm h x) g1 τ1221 h1097 := by rw [eτ1221]; exact sp1210.ty n91 z1214 f1108 (by rw [← eτ1221]; exact ⟨_, rfl, _, (oo.1 1 (by decide)).2, fun k hk => (c10_1 k hk).trans (cc 1 k (by decide) hk).2.symm⟩)
  have k1233 : τ1221 (r43 1) = 6 := by rw [eτ1221]; exact tw_ku_s
  have z1234 : τ1221 x = 0 := by rw [eτ1221, tw_ku_n ne84]; exact z1212
  have z1235 : τ1221 q4 = 0 := by rw [eτ1221, tw_ku_n ne78]; exact z1213
  have z1236 : τ1221 (r43 2) = 0 := by rw [eτ1221, tw_ku_n (fun z => absurd (hi47 2 1 (by decide) (by decide) z) (by decide))]; exact z1215
  have z1237 : τ1221 (r43 3) = 0 := by rw [eτ1221, tw_ku_n (fun z => absurd (hi47 3 1 (by decide) (by decide) z) (by decide))]; exact z1216
  have z1238 : τ1221 q42 = 0 := by rw [eτ1221, tw_ku_n (Ne.symm (hr46 1 (by decide)).2)]; exact z1217
  have z1239 : τ1221 q357 = 0 := by rw [eτ1221, tw_ku_n (Ne.symm ne368)]; exact z1218
  have z1240 : τ1221 q416 = 0 := by rw [eτ1221, tw_ku_n (Ne.symm ne427)]; exact z1219
  have z1241 : τ1221 q479 = 0 := by rw [eτ1221, tw_ku_n (Ne.symm ne490)]; exact z1220
  obtain ⟨τ1242, eτ1242⟩ : ∃ z : tw_K, z = tw_ku τ1221 (r43 2) 6 := ⟨_, rfl⟩
  have le1243 : tw_le τ1221 τ1242 := by rw [eτ1242]; exact tw_ku_le z1236
  have k1244 : τ1242 q115 = 31 := le1243.k k1223 (by decide)
  have k1245 : τ1242 q174 = 31 := le1243.k k1224 (by decide)
  have k1246 : τ1242 q234 = 31 := le1243.k k1225 (by decide)
  have k1247 : τ1242 q295 = 31 := le1243.k k1226 (by decide)
  have k1248 : τ1242 (r5 0) = 6 := le1243.k k1227 (by decide)
  have k1249 : τ1242 (r5 1) = 6 := le1243.k k1228 (by decide)
  have k1250 : τ1242 (r5 2) = 6 := le1243.k k1229 (by decide)
  have k1251 : τ1242 (r5 3) = 6 := le1243.k k1230 (by decide)
  have k1252 : τ1242 (r43 0) = 6 := le1243.k k1231 (by decide)
  have k1253 : τ1242 (r43 1) = 6 := le1243.k k1233 (by decide)
  have sp1254 : tw_sp d τ (tw_rm h x) g1 τ1242 h1097 := by rw [eτ1242]; exact sp1232.ty n94 z1236 f1110 (by rw [← eτ1242]; exact ⟨_, rfl, _, (oo.1 2 (by decide)).2, fun k hk => (c10_2 k hk).trans (cc 2 k (by decide) hk).2.symm⟩)
  have k1255 : τ1242 (r43 2) = 6 := by rw [eτ1242]; exact tw_ku_s
  have z1256 : τ1242 x = 0 := by rw [eτ1242, tw_ku_n ne85]; exact z1234
  have z1257 : τ1242 q4 = 0 := by rw [eτ1242, tw_ku_n ne79]; exact z1235
  have z1258 : τ1242 (r43 3) = 0 := by rw [eτ1242, tw_ku_n (fun z => absurd (hi47 3 2 (by decide) (by decide) z) (by decide))]; exact z1237
  have z1259 : τ1242 q42 = 0 := by rw [eτ1242, tw_ku_n (Ne.symm (hr46 2 (by decide)).2)]; exact z1238
  have z1260 : τ1242 q357 = 0 := by rw [eτ1242, tw_ku_n (Ne.symm ne369)]; exact z1239
  have z1261 : τ1242 q416 = 0 := by rw [eτ1242, tw_ku_n (Ne.symm ne428)]; exact z1240
  have z1262 : τ1242 q479 = 0 := by rw [eτ1242, tw_ku_n (Ne.symm ne491)]; exact z1241
  obtain ⟨τ1263, eτ1263⟩ : ∃ z : tw_K, z = tw_ku τ1242 (r43 3) 6 := ⟨_, rfl⟩
  have le1264 : tw_le τ1242 τ1263 := by rw [eτ1263]; exact tw_ku_le z1258
  have k1265 : τ1263 q115 = 31 := le1264.k k1244 (by decide)
  have k1266 : τ1263 q174 = 31 := le1264.k k1245 (by decide)
  have k1267 : τ1263 q234 = 31 := le1264.k k1246 (by decide)
  have k1268 : τ1263 q295 = 31 := le1264.k k1247 (by decide)
  have k1269 : τ1263 (r5 0) = 6 := le1264.k k1248 (by decide)
  have k1270 : τ1263 (r5 1) = 6 := le1264.k k1249 (by decide)
  have k1271 : τ1263 (r5 2) = 6 := le1264.k k1250 (by decide)
  have k1272 : τ1263 (r5 3) = 6 := le1264.k k1251 (by decide)
  have k1273 : τ1263 (r43 0) = 6 := le1264.k k1252 (by decide)
  have k1274 : τ1263 (r43 1) = 6 := le1264.k k1253 (by decide)
  have k1275 : τ1263 (r43 2) = 6 := le1264.k k1255 (by decide)
  have sp1276 : tw_sp d τ (tw_rm h x) g1 τ1263 h1097 := by rw [eτ1263]; exact sp1254.ty n97 z1258 f1112 (by rw [← eτ1263]; exact ⟨_, rfl, _, (oo.1 3 (by decide)).2, fun k hk => (c10_3 k hk).trans (cc 3 k (by decide) hk).2.symm⟩)
  have k1277 : τ1263 (r43 3) = 6 := by rw [eτ1263]; exact tw_ku_s
  have z1278 : τ1263 x = 0 := by rw [eτ1263, tw_ku_n ne86]; exact z1256
  have z1279 : τ1263 q4 = 0 := by rw [eτ1263, tw_ku_n ne80]; exact z1257
  have z1280 : τ1263 q42 = 0 := by rw [eτ1263, tw_ku_n (Ne.symm (hr46 3 (by decide)).2)]; exact z1259
  have z1281 : τ1263 q357 = 0 := by rw [eτ1263, tw_ku_n (Ne.symm ne370)]; exact z1260
  have z1282 : τ1263 q416 = 0 := by rw [eτ1263, tw_ku_n (Ne.symm ne429)]; exact z1261
  have z1283 : τ1263 q479 = 0 := by rw [eτ1263, tw_ku_n (Ne.symm ne492)]; exact z1262
  obtain ⟨τ1284, eτ1284⟩ : ∃ z : tw_K, z = tw_ku τ1263 q4 34 := ⟨_, rfl⟩
  have le1285 : tw_le τ1263 τ1284 := by rw [eτ1284]; exact tw_ku_le z1279
  have k1286 : τ1284 q115 = 31 := le1285.k k1265 (by decide)
  have k1287 : τ1284 q174 = 31 := le1285.k k1266 (by decide)
  have k1288 : τ1284 q234 = 31 := le1285.k k1267 (by decide)
  have k1289 : τ1284 q295 = 31 := le1285.k k1268 (by decide)
  have k1290 : τ1284 (r5 0) = 6 := le1285.k k1269 (by decide)
  have k1291 : τ1284 (r5 1) = 6 := le1285.k k1270 (by decide)
  have k1292 : τ1284 (r5 2) = 6 := le1285.k k1271 (by decide)
  have k1293 : τ1284 (r5 3) = 6 := le1285.k k1272 (by decide)
  have k1294 : τ1284 (r43 0) = 6 := le1285.k k1273 (by decide)
  have k1295 : τ1284 (r43 1) = 6 := le1285.k k1274 (by decide)
  have k1296 : τ1284 (r43 2) = 6 := le1285.k k1275 (by decide)
  have k1297 : τ1284 (r43 3) = 6 := le1285.k k1277 (by decide)
  have sp1298 : tw_sp d τ (tw_rm h x) g1 τ1284 h1097 := by rw [eτ1284]; exact sp1276.ty n32 z1279 f1099 (by rw [← eτ1284]; exact ⟨_, rfl, fun j hj => ⟨r5 j, if_pos hj, tw_4k k1290 k1291 k1292 k1293 j hj, by rw [oo.2.1]; exact (oo.1 j hj).1.2.2.2.2⟩⟩)
  have k1299 : τ1284 q4 = 34 := by rw [eτ1284]; exact tw_ku_s
  have z1300 : τ1284 x = 0 := by rw [eτ1284, tw_ku_n ne19]; exact z1278
  have z1301 : τ1284 q42 = 0 := by rw [eτ1284, tw_ku_n (Ne.symm ne81)]; exact z1280
  have z1302 : τ1284 q357 = 0 := by rw [eτ1284, tw_ku_n (Ne.symm ne366)]; exact z1281
  have z1303 : τ1284 q416 = 0 := by rw [eτ1284, tw_ku_n (Ne.symm ne425)]; exact z1282
  have z1304 : τ1284 q479 = 0 := by rw [eτ1284, tw_ku_n (Ne.symm ne488)]; exact z1283
  obtain ⟨τ1305, eτ1305⟩ : ∃ z : tw_K, z = tw_ku τ1284 q42 34 := ⟨_, rfl⟩
  have le1306 : tw_le τ1284 τ1305 := by rw [eτ1305]; exact tw_ku_le z1301
  have k1307 : τ1305 q115 = 31 := le1306.k k1286 (by decide)
  have k1308 : τ1305 q174 = 31 := le1306.k k1287 (by decide)
  have k1309 : τ1305 q234 = 31 := le1306.k k1288 (by decide)
  have k1310 : τ1305 q295 = 31 := le1306.k k1289 (by decide)
  have k1311 : τ1305 (r5 0) = 6 := le1306.k k1290 (by decide)
  have k1312 : τ1305 (r5 1) = 6 := le1306.k k1291 (by decide)
  have k1313 : τ1305 (r5 2) = 6 := le1306.k k1292 (by decide)
  have k1314 : τ1305 (r5 3) = 6 := le1306.k k1293 (by decide)
  have k1315 : τ1305 (r43 0) = 6 := le1306.k k1294 (by decide)
  have k1316 : τ1305 (r43 1) = 6 := le1306.k k1295 (by decide)
  have k1317 : τ1305 (r43 2) = 6 := le1306.k k1296 (by decide)
  have k1318 : τ1305 (r43 3) = 6 := le1306.k k1297 (by decide)
  have k1319 : τ1305 q4 = 34 := le1306.k k1299 (by decide)
  have sp1320 : tw_sp d τ (tw_rm h x) g1 τ1305 h1097 := by rw [eτ1305]; exact sp1298.ty n100 z1301 f1100 (by rw [← eτ1305]; exact ⟨_, rfl, fun j hj => ⟨r43 j, if_pos hj, tw_4k k1315 k1316 k1317 k1318 j hj, by rw [oo.2.2]; exact (oo.1 j hj).2.2.2.2.2⟩⟩)
  have k1321 : τ1305 q42 = 34 := by rw [eτ1305]; exact tw_ku_s
  have z1322 : τ1305 x = 0 := by rw [eτ1305, tw_ku_n ne87]; exact z1300
  have z1323 : τ1305 q357 = 0 := by rw [eτ1305, tw_ku_n (Ne.symm ne371)]; exact z1302
  have z1324 : τ1305 q416 = 0 := by rw [eτ1305, tw_ku_n (Ne.symm ne430)]; exact z1303
  have z1325 : τ1305 q479 = 0 := by rw [eτ1305, tw_ku_n (Ne.symm ne493)]; exact z1304
  obtain ⟨τ1326, eτ1326⟩ : ∃ z : tw_K, z = tw_ku τ1305 q357 24 := ⟨_, rfl⟩
  have le1327 : tw_le τ1305 τ1326 := by rw [eτ1326]; exact tw_ku_le z1323
  have k1328 : τ1326 q115 = 31 := le1327.k k1307 (by decide)
  have k1329 : τ1326 q174 = 31 := le1327.k k1308 (by decide)
  have k1330 : τ1326 q234 = 31 := le1327.k k1309 (by decide)
  have k1331 : τ1326 q295 = 31 := le1327.k k1310 (by decide)
  have k1332 : τ1326 (r5 0) = 6 := le1327.k k1311 (by decide)
  have k1333 : τ1326 (r5 1) = 6 := le1327.k k1312 (by decide)
  have k1334 : τ1326 (r5 2) = 6 := le1327.k k1313 (by decide)
  have k1335 : τ1326 (r5 3) = 6 := le1327.k k1314 (by decide)
  have k1336 : τ1326 (r43 0) = 6 := le1327.k k1315 (by decide)
  have k1337 : τ1326 (r43 1) = 6 := le1327.k k1316 (by decide)
  have k1338 : τ1326 (r43 2) = 6 := le1327.k k1317 (by decide)
  have k1339 : τ1326 (r43 3) = 6 := le1327.k k1318 (by decide)
  have k1340 : τ1326 q4 = 34 := le1327.k k1319 (by decide)
  have k1341 : τ1326 q42 = 34 := le1327.k k1321 (by decide)
  have sp1342 : tw_sp d τ (tw_rm h x) g1 τ1326 h1097 := by rw [eτ1326]; exact sp1320.ty n360 z1323 f1101 (by rw [← eτ1326]; exact ⟨⟨d.2 102, (by rw [eg1]; rfl), Or.inl ⟨rfl, (by rw [eg1]; rfl), (by rw [eg1]; rfl)⟩⟩, (by rw [eg1]; rfl)⟩)
  have k1343 : τ1326 q357 = 24 := by rw [eτ1326]; exact tw_ku_s
  have z1344 : τ1326 x = 0 := by rw [eτ1326, tw_ku_n ne372]; exact z1322
  have z1345 : τ1326 q416 = 0 := by rw [eτ1326, tw_ku_n (Ne.symm ne431)]; exact z1324
  have z1346 : τ1326 q479 = 0 := by rw [eτ1326, tw_ku_n (Ne.symm ne494)]; exact z1325
  obtain ⟨τ1347, eτ1347⟩ : ∃ z : tw_K, z = tw_ku τ1326 q416 25 := ⟨_, rfl⟩
  have le1348 : tw_le τ1326 τ1347 := by rw [eτ1347]; exact tw_ku_le z1345
  have k1349 : τ1347 q115 = 31 := le1348.k k1328 (by decide)
  have k1350 : τ1347 q174 = 31 := le1348.k k1329 (by decide)
  have k1351 : τ1347 q234 = 31 := le1348.k k1330 (by decide)
  have k1352 : τ1347 q295 = 31 := le1348.k k1331 (by decide)
  have k1353 : τ1347 (r5 0) = 6 := le1348.k k1332 (by decide)
  have k1354 : τ1347 (r5 1) = 6 := le1348.k k1333 (by decide)
  have k1355 : τ1347 (r5 2) = 6 := le1348.k k1334 (by decide)
  have k1356 : τ1347 (r5 3) = 6 := le1348.k k1335 (by decide)
  have k1357 : τ1347 (r43 0) = 6 := le1348.k k1336 (by decide)
  have k1358 : τ1347 (r43 1) = 6 := le1348.k k1337 (by decide)
  have k1359 : τ1347 (r43 2) = 6 := le1348.k k1338 (by decide)
  have k1360 : τ1347 (r43 3) = 6 := le1348.k k1339 (by decide)
  have k1361 : τ1347 q4 = 34 := le1348.k k1340 (by decide)
  have k1362 : τ1347 q42 = 34 := le1348.k k1341 (by decide)
  have k1363 : τ1347 q357 = 24 := le1348.k k1343 (by decide)
  have sp1364 : tw_sp d τ (tw_rm h x) g1 τ1347 h1097 := by rw [eτ1347]; exact sp1342.ty n419 z1345 f1102 (by rw [← eτ1347]; exact ⟨⟨d.2 102, (by rw [eg1]; rfl), Or.inl ⟨rfl, (by rw [eg1]; rfl), (by rw [eg1]; rfl)⟩⟩, (by rw [eg1]; rfl)⟩)
  have k1365 : τ1347 q416 = 25 := by rw [eτ1347]; exact tw_ku_s
  have z1366 : τ1347 x = 0 := by rw [eτ1347, tw_ku_n ne432]; exact z1344
  have z1367 : τ1347 q479 = 0 := by rw [eτ1347, tw_ku_n (Ne.symm ne495)]; exact z1346
  obtain ⟨τ1368, eτ1368⟩ : ∃ z : tw_K, z = tw_ku τ1347 q479 26 := ⟨_, rfl⟩
  have le1369 : tw_le τ1347 τ1368 := by rw [eτ1368]; exact tw_ku_le z1367
  have k1370 : τ1368 q115 = 31 := le1369.k k1349 (by decide)
  have k1371 : τ1368 q174 = 31 := le1369.k k1350 (by decide)
  have k1372 : τ1368 q234 = 31 := le1369.k k1351 (by decide)
  have k1373 : τ1368 q295 = 31 := le1369.k k1352 (by decide)
  have k1374 : τ1368 (r5 0) = 6 := le1369.k k1353 (by decide)
  have k1375 : τ1368 (r5 1) = 6 := le1369.k k1354 (by decide)
  have k1376 : τ1368 (r5 2) = 6 := le1369.k k1355 (by decide)
  have k1377 : τ1368 (r5 3) = 6 := le1369.k k1356 (by decide)
  have k1378 : τ1368 (r43 0) = 6 := le1369.k k1357 (by decide)
  have k1379 : τ1368 (r43 1) = 6 := le1369.k k1358 (by decide)
  have k1380 : τ1368 (r43 2) = 6 := le1369.k k1359 (by decide)
  have k1381 : τ1368 (r43 3) = 6 := le1369.k k1360 (by decide)
  have k1382 : τ1368 q4 = 34 := le1369.k k1361 (by decide)
  have k1383 : τ1368 q42 = 34 := le1369.k k1362 (by decide)
  have k1384 : τ1368 q357 = 24 := le1369.k k1363 (by decide)
  have k1385 : τ1368 q416 = 25 := le1369.k k1365 (by decide)
  have sp1386 : tw_sp d τ (tw_rm h x) g1 τ1368 h1097 := by rw [eτ1368]; exact sp1364.ty n482 z1367 f1103 (by rw [← eτ1368]; exact ⟨⟨d.2 102, (by rw [eg1]; rfl), Or.inl ⟨rfl, (by rw [eg1]; rfl), (by rw [eg1]; rfl)⟩⟩, (by rw [eg1]; rfl)⟩)
  have k1387 : τ1368 q479 = 26 := by rw [eτ1368]; exact tw_ku_s
  have z1388 : τ1368 x = 0 := by rw [eτ1368, tw_ku_n ne496]; exact z1366
  obtain ⟨τ1389, eτ1389⟩ : ∃ z : tw_K, z = tw_ku τ1368 x 36 := ⟨_, rfl⟩
  have le1390 : tw_le τ1368 τ1389 := by rw [eτ1389]; exact tw_ku_le z1388
  have k1391 : τ1389 q115 = 31 := le1390.k k1370 (by decide)
  have k1392 : τ1389 q174 = 31 := le1390.k k1371 (by decide)
  have k1393 : τ1389 q234 = 31 := le1390.k k1372 (by decide)
  have k1394 : τ1389 q295 = 31 := le1390.k k1373 (by decide)
  have k1395 : τ1389 (r5 0) = 6 := le1390.k k1374 (by decide)
  have k1396 : τ1389 (r5 1) = 6 := le1390.k k1375 (by decide)
  have k1397 : τ1389 (r5 2) = 6 := le1390.k k1376 (by decide)
  have k1398 : τ1389 (r5 3) = 6 := le1390.k k1377 (by decide)
  have k1399 : τ1389 (r43 0) = 6 := le1390.k k1378 (by decide)
  have k1400 : τ1389 (r43 1) = 6 := le1390.k k1379 (by decide)
  have k1401 : τ1389 (r43 2) = 6 := le1390.k k1380 (by decide)
  have k1402 : τ1389 (r43 3) = 6 := le1390.k k1381 (by decide)
  have k1403 : τ1389 q4 = 34 := le1390.k k1382 (by decide)
  have k1404 : τ1389 q42 = 34 := le1390.k k1383 (by decide)
  have k1405 : τ1389 q357 = 24 := le1390.k k1384 (by decide)
  have k1406 : τ1389 q416 = 25 := le1390.k k1385 (by decide)
  have k1407 : τ1389 q479 = 26 := le1390.k k1387 (by decide)
  have sp1408 : tw_sp d τ (tw_rm h x) g1 τ1389 h1097 := by rw [eτ1389]; exact sp1386.ty tw_rm_s z1388 f1104 (by rw [← eτ1389]; exact ⟨0, 0, q4, q42, q115, q174, q234, q295, q357, q416, q479, (by rw [eg1]; rfl), k1403, k1404, k1391, k1392, k1393, k1394, k1405, k1406, k1407, (by rw [eg1]; exact Nat.zero_le _), (by rw [eg1]; exact Nat.zero_le _), (by rw [eg1]; exact Nat.zero_le _), (by rw [eg1]; rfl), (by decide), (by rw [eg1]; rfl), (by rw [eg1]; exact Nat.zero_le _), oo.2.1, oo.2.2⟩)
  have k1409 : τ1389 x = 36 := by rw [eτ1389]; exact tw_ku_s
  exact tw_vret dX10_init_137 rfl (Or.inl ⟨rfl, g1, _, ⟨by rw [eg1]; rfl, by rw [eg1]; rfl, fun i hi => by rw [eg1]; exact tw_gM_lo (Or.inl hi), fun i h1 h2 => by rw [eg1]; exact tw_gM_lo (Or.inr (Or.inl ⟨h1, h2⟩)), fun i h3 h6 => by rw [eg1]; exact tw_gM_z h3 h6, by rw [eg1]; rfl, by rw [eg1]; rfl, by rw [eg1]; rfl, by rw [eg1]; rfl, cc⟩, sp1408.toini k1409⟩)

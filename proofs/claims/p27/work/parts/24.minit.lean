/-! the class's methods over the typed heap. Laid by wip/p5/mkclass.py. -/
set_option maxHeartbeats 4000000 in
set_option maxRecDepth 100000 in
theorem c_acol (d : tw_D) (h : tw_H) (x : Nat) : tw_Ct d mJxa1e45_init_da8c8 0 0 [.ref x] h (tw_qv (fun h1 => h1 = h) tw_nx) := by
  refine tw_of (by decide +kernel) (Nat.le_of_ble_eq_true rfl) ?_
  show tw_W d mJxa1e45_init_da8c8 _ 0 [(0, .ref x)] [] h 0 0
  refine tw_aload_n 0 dJxa1e45_init_da8c8_0 rfl rfl ?_
  refine tw_objInit dJxa1e45_init_da8c8_1 w_1132 w_117 w_118 ⟨by decide, Nat.le_of_ble_eq_true rfl⟩ ?_
  exact tw_vret dJxa1e45_init_da8c8_4 rfl (Or.inl ⟨rfl, rfl⟩)

set_option maxHeartbeats 4000000 in
set_option maxRecDepth 100000 in
theorem c_alis (d : tw_D) (h : tw_H) (x : Nat) (hx : h x = some (.inr (3, [.int 0, .null, .int 0]))) : tw_Ct d mJxc12de_init_da8c8 0 0 [.ref x] h (tw_qv (fun h1 => h1 = tw_up h x (.inr (3, [.int 0, .null, .int 0]))) tw_nx) := by
  refine tw_of (by decide +kernel) (Nat.le_of_ble_eq_true rfl) ?_
  show tw_W d mJxc12de_init_da8c8 _ 0 [(0, .ref x)] [] h 0 0
  refine tw_aload_n 0 dJxc12de_init_da8c8_0 rfl rfl ?_
  refine tw_bv (tw_callI (M := mJxc12de_init_da8c8) (pc := 1) okJxa1e45_init_da8c8 dJxc12de_init_da8c8_1 w_1129 rfl [] [] rfl rfl ⟨by decide, by decide⟩ (Nat.le_of_ble_eq_true rfl) (c_acol d h x) 0 0 (Nat.le_of_ble_eq_true rfl) (Nat.le_of_ble_eq_true rfl)) (fun h2 q1 => ?_) (fun E h1 q => q.elim)
  rw [q1]
  refine tw_aload_n 0 dJxc12de_init_da8c8_4 rfl rfl ?_
  refine tw_iconst (v := 0) dJxc12de_init_da8c8_5 (by decide) ?_
  refine tw_put rfl in_3 tyJx4a65c tyJx4a65c_ok nmJx4a65c 0 dJxc12de_init_da8c8_6 w_1139 rfl (by decide) hx rfl rfl rfl rfl (Nat.le_of_ble_eq_true rfl) [.int 0, .null, .int 0] rfl ?_
  obtain ⟨h4, eh4⟩ : ∃ z : tw_H, z = tw_up h x (.inr (3, [.int 0, .null, .int 0])) := ⟨_, rfl⟩
  rw [← eh4]
  have f5 : h4 x = some (.inr (3, [.int 0, .null, .int 0])) := by rw [eh4]; exact tw_up_s
  exact tw_vret dJxc12de_init_da8c8_9 rfl (Or.inl ⟨rfl, rfl⟩)

set_option maxHeartbeats 4000000 in
set_option maxRecDepth 100000 in
theorem c_alist (d : tw_D) (h : tw_H) (x : Nat) (hx : h x = some (.inr (3, [.int 0, .null, .int 0]))) : tw_Ct d mJx4a65c_init_da8c8 0 0 [.ref x] h (tw_qv (fun h1 => h1 = tw_up h x (.inr (3, [.int 0, .ref (d.2 102), .int 0]))) tw_nx) := by
  refine tw_of (by decide +kernel) (Nat.le_of_ble_eq_true rfl) ?_
  show tw_W d mJx4a65c_init_da8c8 _ 0 [(0, .ref x)] [] h 0 0
  refine tw_aload_n 0 dJx4a65c_init_da8c8_0 rfl rfl ?_
  refine tw_bv (tw_callI (M := mJx4a65c_init_da8c8) (pc := 1) okJxc12de_init_da8c8 dJx4a65c_init_da8c8_1 w_1126 rfl [] [] rfl rfl ⟨by decide, by decide⟩ (Nat.le_of_ble_eq_true rfl) (c_alis d h x hx) 0 0 (Nat.le_of_ble_eq_true rfl) (Nat.le_of_ble_eq_true rfl)) (fun h2 q1 => ?_) (fun E h1 q => q.elim)
  have f4 : h2 x = some (.inr (3, [.int 0, .null, .int 0])) := by rw [q1]; exact tw_up_s
  refine tw_aload_n 0 dJx4a65c_init_da8c8_4 rfl rfl ?_
  refine tw_gets (fun _ _ z => z.2.2.2.2.2.1.1) rfl dJx4a65c_init_da8c8_5 w_1133 ?_
  refine tw_put rfl in_3 tyJx4a65c tyJx4a65c_ok nmJx4a65c 1 dJx4a65c_init_da8c8_8 w_1135 rfl (by decide) f4 rfl rfl rfl rfl (Nat.le_of_ble_eq_true rfl) [.int 0, .ref (d.2 102), .int 0] rfl ?_
  obtain ⟨h5, eh5⟩ : ∃ z : tw_H, z = tw_up h2 x (.inr (3, [.int 0, .ref (d.2 102), .int 0])) := ⟨_, rfl⟩
  rw [← eh5]
  have f6 : h5 x = some (.inr (3, [.int 0, .ref (d.2 102), .int 0])) := by rw [eh5]; exact tw_up_s
  exact tw_vret dJx4a65c_init_da8c8_11 rfl (Or.inl ⟨rfl, (by rw [eh5, q1] <;> simp only [tw_up_up])⟩)

/-! the class's methods over the typed heap. Laid by wip/p5/mkclass.py. -/
set_option maxHeartbeats 4000000 in
set_option maxRecDepth 100000 in
theorem c_J3_checkIndex_8e157 (d : tw_D) (g : tw_G) (τ : tw_K) (h : tw_H) (hw : tw_wt d g τ h) (i : Int32) (n : Int32) (h1 : ¬ i < 0) (h2 : i < n) : tw_Ct d mJ3_checkIndex_8e157 0 0 [.int i, .int n, .null] h (tw_qi (fun r h1 => h1 = h ∧ r = i) tw_nx) := by
  refine tw_of (by decide +kernel) (Nat.le_of_ble_eq_true rfl) ?_
  show tw_W d mJ3_checkIndex_8e157 _ 0 [(0, .int i), (1, .int n), (2, .null)] [] h 0 0
  have sp0 := tw_sp.rf hw
  refine tw_iload_n 0 dJ3_checkIndex_8e157_0 rfl rfl ?_
  refine tw_if_lt 9 dJ3_checkIndex_8e157_1 (by decide) (fun c1 => absurd c1 (h1)) (fun _ => ?_)
  refine tw_iload_n 0 dJ3_checkIndex_8e157_4 rfl rfl ?_
  refine tw_iload_n 1 dJ3_checkIndex_8e157_5 rfl rfl ?_
  refine tw_icmp_lt 16 dJ3_checkIndex_8e157_6 (by decide) (fun _ => ?_) (fun c2 => absurd (h2) c2)
  refine tw_iload_n 0 dJ3_checkIndex_8e157_16 rfl rfl ?_
  exact tw_iret dJ3_checkIndex_8e157_17 rfl (Or.inl ⟨_, rfl, ⟨rfl, rfl⟩⟩)

set_option maxHeartbeats 4000000 in
set_option maxRecDepth 100000 in
theorem c_J15_checkIndex_7cf53 (d : tw_D) (g : tw_G) (τ : tw_K) (h : tw_H) (hw : tw_wt d g τ h) (i : Int32) (n : Int32) (h1 : ¬ i < 0) (h2 : i < n) : tw_Ct d mJ15_checkIndex_7cf53 0 0 [.int i, .int n] h (tw_qi (fun r h1 => h1 = h ∧ r = i) tw_nx) := by
  refine tw_of (by decide +kernel) (Nat.le_of_ble_eq_true rfl) ?_
  show tw_W d mJ15_checkIndex_7cf53 _ 0 [(0, .int i), (1, .int n)] [] h 0 0
  have sp0 := tw_sp.rf hw
  refine tw_iload_n 0 dJ15_checkIndex_7cf53_0 rfl rfl ?_
  refine tw_iload_n 1 dJ15_checkIndex_7cf53_1 rfl rfl ?_
  refine tw_null dJ15_checkIndex_7cf53_2 ?_
  refine tw_bi (tw_callS okJ3_checkIndex_8e157 dJ15_checkIndex_7cf53_3 w_1303 [.int i, .int n, .null] [] rfl rfl ⟨by decide, by decide⟩ (Nat.le_of_ble_eq_true rfl) (c_J3_checkIndex_8e157 d g τ h sp0.1 i n h1 h2) 0 0 (Nat.le_of_ble_eq_true rfl) (Nat.le_of_ble_eq_true rfl)) (fun r3 h2 q1 => ?_) (fun E h1 q => q.elim)
  obtain ⟨q1e, q1r⟩ := q1
  rw [q1e, q1r]
  exact tw_iret dJ15_checkIndex_7cf53_6 rfl (Or.inl ⟨_, rfl, ⟨rfl, rfl⟩⟩)

set_option maxHeartbeats 4000000 in
set_option maxRecDepth 100000 in
theorem c24_size (d : tw_D) (g : tw_G) (τ : tw_K) (h : tw_H) (hw : tw_wt d g τ h) (x : Nat) (kx : τ x = 24) : tw_Ct d mJx4a65c_size_8abf5 0 0 [.ref x] h (tw_qi (fun r h1 => h1 = h ∧ r = nI (g.2 3)) tw_nx) := by
  refine tw_of (by decide +kernel) (Nat.le_of_ble_eq_true rfl) ?_
  show tw_W d mJx4a65c_size_8abf5 _ 0 [(0, .ref x)] [] h 0 0
  have sp0 := tw_sp.rf hw
  refine tw_aload_n 0 dJx4a65c_size_8abf5_0 rfl rfl ?_
  obtain ⟨e1, f2, ⟨el3, rfl, k4⟩, k5⟩ := sp0.1 x 24 kx (by decide)
  refine tw_get (v := .int (nI (g.2 3))) rfl in_3 2 dJx4a65c_size_8abf5_1 w_1138 rfl (by decide) f2 rfl ?_
  exact tw_iret dJx4a65c_size_8abf5_4 rfl (Or.inl ⟨_, rfl, ⟨rfl, rfl⟩⟩)

set_option maxHeartbeats 4000000 in
set_option maxRecDepth 100000 in
theorem c24_elem (d : tw_D) (g : tw_G) (τ : tw_K) (h : tw_H) (hw : tw_wt d g τ h) (x : Nat) (kx : τ x = 24) (j : Nat) (hj : j < (g.2 3)) : tw_Ct d mJx4a65c_elementData_915e3 0 0 [.ref x, .int (nI j)] h (tw_qr (fun r h1 => h1 = h ∧ τ r = 21) tw_nx) := by
  refine tw_of (by decide +kernel) (Nat.le_of_ble_eq_true rfl) ?_
  show tw_W d mJx4a65c_elementData_915e3 _ 0 [(0, .ref x), (1, .int (nI j))] [] h 0 0
  have sp0 := tw_sp.rf hw
  refine tw_aload_n 0 dJx4a65c_elementData_915e3_0 rfl rfl ?_
  obtain ⟨e1, f2, ⟨el3, rfl, k4⟩, k5⟩ := sp0.1 x 24 kx (by decide)
  refine tw_get (v := .ref el3) rfl in_3 1 dJx4a65c_elementData_915e3_1 w_1135 rfl (by decide) f2 rfl ?_
  refine tw_iload_n 1 dJx4a65c_elementData_915e3_4 rfl rfl ?_
  have k6 : τ el3 = 27 := k4.resolve_left (fun q => absurd hj (by rw [q.2]; exact Nat.not_lt_zero _))
  obtain ⟨e7, f8, ⟨cap9, F10, rfl, hc11, hc12, hc13, hc14⟩, un15⟩ := sp0.1 el3 27 k6 (by decide)
  obtain ⟨y16, hy17, ky18⟩ := hc14 j hj
  refine tw_aald (v := .ref y16) 7 rfl rfl dJx4a65c_elementData_915e3_5 f8 (vp_in_nI (Nat.lt_of_lt_of_le hj hc11) (by omega)) (by rw [nI_clamp (by omega), hy17]; rfl) ?_
  exact tw_aret dJx4a65c_elementData_915e3_6 rfl (Or.inl ⟨_, rfl⟩) (Or.inl ⟨_, rfl, ⟨rfl, ky18⟩⟩)

set_option maxHeartbeats 4000000 in
set_option maxRecDepth 100000 in
theorem c24_get (d : tw_D) (g : tw_G) (τ : tw_K) (h : tw_H) (hw : tw_wt d g τ h) (x : Nat) (kx : τ x = 24) (j : Nat) (hj : j < (g.2 3)) (hm : (g.2 3) < 2 ^ 31) : tw_Ct d mJx4a65c_get_915e3 0 0 [.ref x, .int (nI j)] h (tw_qr (fun r h1 => h1 = h ∧ τ r = 21) tw_nx) := by
  refine tw_of (by decide +kernel) (Nat.le_of_ble_eq_true rfl) ?_
  show tw_W d mJx4a65c_get_915e3 _ 0 [(0, .ref x), (1, .int (nI j))] [] h 0 0
  have sp0 := tw_sp.rf hw
  refine tw_iload_n 1 dJx4a65c_get_915e3_0 rfl rfl ?_
  refine tw_aload_n 0 dJx4a65c_get_915e3_1 rfl rfl ?_
  obtain ⟨e1, f2, ⟨el3, rfl, k4⟩, k5⟩ := sp0.1 x 24 kx (by decide)
  refine tw_get (v := .int (nI (g.2 3))) rfl in_3 2 dJx4a65c_get_915e3_2 w_1138 rfl (by decide) f2 rfl ?_
  refine tw_bi (tw_callS okJ15_checkIndex_7cf53 dJx4a65c_get_915e3_5 w_1300 [.int (nI j), .int (nI (g.2 3))] [] rfl rfl ⟨by decide, by decide⟩ (Nat.le_of_ble_eq_true rfl) (c_J15_checkIndex_7cf53 d g τ h sp0.1 (nI j) (nI (g.2 3)) (nI_pos (by omega)) (nI_lt hj hm)) 0 0 (Nat.le_of_ble_eq_true rfl) (Nat.le_of_ble_eq_true rfl)) (fun r8 h7 q6 => ?_) (fun E h1 q => q.elim)
  obtain ⟨q6e, q6r⟩ := q6
  rw [q6e, q6r]
  refine tw_pop dJx4a65c_get_915e3_8 rfl ?_
  refine tw_aload_n 0 dJx4a65c_get_915e3_9 rfl rfl ?_
  refine tw_iload_n 1 dJx4a65c_get_915e3_10 rfl rfl ?_
  refine tw_br (tw_callV okJx4a65c_elementData_915e3 dJx4a65c_get_915e3_11 w_1304 rfl f2 [.int (nI j)] [] rfl rfl ⟨by decide, by decide⟩ (Nat.le_of_ble_eq_true rfl) (c24_elem d g τ h sp0.1 x kx j hj) 0 0 (Nat.le_of_ble_eq_true rfl) (Nat.le_of_ble_eq_true rfl)) (fun r11 h10 q9 => ?_) (fun E h1 q => q.elim)
  obtain ⟨q9e, q9k⟩ := q9
  rw [q9e]
  exact tw_aret dJx4a65c_get_915e3_14 rfl (Or.inl ⟨_, rfl⟩) (Or.inl ⟨_, rfl, ⟨rfl, q9k⟩⟩)

set_option maxHeartbeats 4000000 in
set_option maxRecDepth 100000 in
theorem c25_size (d : tw_D) (g : tw_G) (τ : tw_K) (h : tw_H) (hw : tw_wt d g τ h) (x : Nat) (kx : τ x = 25) : tw_Ct d mJx4a65c_size_8abf5 0 0 [.ref x] h (tw_qi (fun r h1 => h1 = h ∧ r = nI (g.2 4)) tw_nx) := by
  refine tw_of (by decide +kernel) (Nat.le_of_ble_eq_true rfl) ?_
  show tw_W d mJx4a65c_size_8abf5 _ 0 [(0, .ref x)] [] h 0 0
  have sp0 := tw_sp.rf hw
  refine tw_aload_n 0 dJx4a65c_size_8abf5_0 rfl rfl ?_
  obtain ⟨e1, f2, ⟨el3, rfl, k4⟩, k5⟩ := sp0.1 x 25 kx (by decide)
  refine tw_get (v := .int (nI (g.2 4))) rfl in_3 2 dJx4a65c_size_8abf5_1 w_1138 rfl (by decide) f2 rfl ?_
  exact tw_iret dJx4a65c_size_8abf5_4 rfl (Or.inl ⟨_, rfl, ⟨rfl, rfl⟩⟩)

set_option maxHeartbeats 4000000 in
set_option maxRecDepth 100000 in
theorem c25_elem (d : tw_D) (g : tw_G) (τ : tw_K) (h : tw_H) (hw : tw_wt d g τ h) (x : Nat) (kx : τ x = 25) (j : Nat) (hj : j < (g.2 4)) : tw_Ct d mJx4a65c_elementData_915e3 0 0 [.ref x, .int (nI j)] h (tw_qr (fun r h1 => h1 = h ∧ τ r = 23) tw_nx) := by
  refine tw_of (by decide +kernel) (Nat.le_of_ble_eq_true rfl) ?_
  show tw_W d mJx4a65c_elementData_915e3 _ 0 [(0, .ref x), (1, .int (nI j))] [] h 0 0
  have sp0 := tw_sp.rf hw
  refine tw_aload_n 0 dJx4a65c_elementData_915e3_0 rfl rfl ?_
  obtain ⟨e1, f2, ⟨el3, rfl, k4⟩, k5⟩ := sp0.1 x 25 kx (by decide)
  refine tw_get (v := .ref el3) rfl in_3 1 dJx4a65c_elementData_915e3_1 w_1135 rfl (by decide) f2 rfl ?_
  refine tw_iload_n 1 dJx4a65c_elementData_915e3_4 rfl rfl ?_
  have k6 : τ el3 = 28 := k4.resolve_left (fun q => absurd hj (by rw [q.2]; exact Nat.not_lt_zero _))
  obtain ⟨e7, f8, ⟨cap9, F10, rfl, hc11, hc12, hc13, hc14⟩, un15⟩ := sp0.1 el3 28 k6 (by decide)
  obtain ⟨y16, hy17, ky18⟩ := hc14 j hj
  refine tw_aald (v := .ref y16) 7 rfl rfl dJx4a65c_elementData_915e3_5 f8 (vp_in_nI (Nat.lt_of_lt_of_le hj hc11) (by omega)) (by rw [nI_clamp (by omega), hy17]; rfl) ?_
  exact tw_aret dJx4a65c_elementData_915e3_6 rfl (Or.inl ⟨_, rfl⟩) (Or.inl ⟨_, rfl, ⟨rfl, ky18⟩⟩)

set_option maxHeartbeats 4000000 in
set_option maxRecDepth 100000 in
theorem c25_get (d : tw_D) (g : tw_G) (τ : tw_K) (h : tw_H) (hw : tw_wt d g τ h) (x : Nat) (kx : τ x = 25) (j : Nat) (hj : j < (g.2 4)) (hm : (g.2 4) < 2 ^ 31) : tw_Ct d mJx4a65c_get_915e3 0 0 [.ref x, .int (nI j)] h (tw_qr (fun r h1 => h1 = h ∧ τ r = 23) tw_nx) := by
  refine tw_of (by decide +kernel) (Nat.le_of_ble_eq_true rfl) ?_
  show tw_W d mJx4a65c_get_915e3 _ 0 [(0, .ref x), (1, .int (nI j))] [] h 0 0
  have sp0 := tw_sp.rf hw
  refine tw_iload_n 1 dJx4a65c_get_915e3_0 rfl rfl ?_
  refine tw_aload_n 0 dJx4a65c_get_915e3_1 rfl rfl ?_
  obtain ⟨e1, f2, ⟨el3, rfl, k4⟩, k5⟩ := sp0.1 x 25 kx (by decide)
  refine tw_get (v := .int (nI (g.2 4))) rfl in_3 2 dJx4a65c_get_915e3_2 w_1138 rfl (by decide) f2 rfl ?_
  refine tw_bi (tw_callS okJ15_checkIndex_7cf53 dJx4a65c_get_915e3_5 w_1300 [.int (nI j), .int (nI (g.2 4))] [] rfl rfl ⟨by decide, by decide⟩ (Nat.le_of_ble_eq_true rfl) (c_J15_checkIndex_7cf53 d g τ h sp0.1 (nI j) (nI (g.2 4)) (nI_pos (by omega)) (nI_lt hj hm)) 0 0 (Nat.le_of_ble_eq_true rfl) (Nat.le_of_ble_eq_true rfl)) (fun r8 h7 q6 => ?_) (fun E h1 q => q.elim)
  obtain ⟨q6e, q6r⟩ := q6
  rw [q6e, q6r]
  refine tw_pop dJx4a65c_get_915e3_8 rfl ?_
  refine tw_aload_n 0 dJx4a65c_get_915e3_9 rfl rfl ?_
  refine tw_iload_n 1 dJx4a65c_get_915e3_10 rfl rfl ?_
  refine tw_br (tw_callV okJx4a65c_elementData_915e3 dJx4a65c_get_915e3_11 w_1304 rfl f2 [.int (nI j)] [] rfl rfl ⟨by decide, by decide⟩ (Nat.le_of_ble_eq_true rfl) (c25_elem d g τ h sp0.1 x kx j hj) 0 0 (Nat.le_of_ble_eq_true rfl) (Nat.le_of_ble_eq_true rfl)) (fun r11 h10 q9 => ?_) (fun E h1 q => q.elim)
  obtain ⟨q9e, q9k⟩ := q9
  rw [q9e]
  exact tw_aret dJx4a65c_get_915e3_14 rfl (Or.inl ⟨_, rfl⟩) (Or.inl ⟨_, rfl, ⟨rfl, q9k⟩⟩)

set_option maxHeartbeats 4000000 in
set_option maxRecDepth 100000 in
theorem c26_size (d : tw_D) (g : tw_G) (τ : tw_K) (h : tw_H) (hw : tw_wt d g τ h) (x : Nat) (kx : τ x = 26) : tw_Ct d mJx4a65c_size_8abf5 0 0 [.ref x] h (tw_qi (fun r h1 => h1 = h ∧ r = nI (g.2 5)) tw_nx) := by
  refine tw_of (by decide +kernel) (Nat.le_of_ble_eq_true rfl) ?_
  show tw_W d mJx4a65c_size_8abf5 _ 0 [(0, .ref x)] [] h 0 0
  have sp0 := tw_sp.rf hw
  refine tw_aload_n 0 dJx4a65c_size_8abf5_0 rfl rfl ?_
  obtain ⟨e1, f2, ⟨el3, rfl, k4⟩, k5⟩ := sp0.1 x 26 kx (by decide)
  refine tw_get (v := .int (nI (g.2 5))) rfl in_3 2 dJx4a65c_size_8abf5_1 w_1138 rfl (by decide) f2 rfl ?_
  exact tw_iret dJx4a65c_size_8abf5_4 rfl (Or.inl ⟨_, rfl, ⟨rfl, rfl⟩⟩)

set_option maxHeartbeats 4000000 in
set_option maxRecDepth 100000 in
theorem c26_elem (d : tw_D) (g : tw_G) (τ : tw_K) (h : tw_H) (hw : tw_wt d g τ h) (x : Nat) (kx : τ x = 26) (j : Nat) (hj : j < (g.2 5)) : tw_Ct d mJx4a65c_elementData_915e3 0 0 [.ref x, .int (nI j)] h (tw_qr (fun r h1 => h1 = h ∧ τ r = 22) tw_nx) := by
  refine tw_of (by decide +kernel) (Nat.le_of_ble_eq_true rfl) ?_
  show tw_W d mJx4a65c_elementData_915e3 _ 0 [(0, .ref x), (1, .int (nI j))] [] h 0 0
  have sp0 := tw_sp.rf hw
  refine tw_aload_n 0 dJx4a65c_elementData_915e3_0 rfl rfl ?_
  obtain ⟨e1, f2, ⟨el3, rfl, k4⟩, k5⟩ := sp0.1 x 26 kx (by decide)
  refine tw_get (v := .ref el3) rfl in_3 1 dJx4a65c_elementData_915e3_1 w_1135 rfl (by decide) f2 rfl ?_
  refine tw_iload_n 1 dJx4a65c_elementData_915e3_4 rfl rfl ?_
  have k6 : τ el3 = 29 := k4.resolve_left (fun q => absurd hj (by rw [q.2]; exact Nat.not_lt_zero _))
  obtain ⟨e7, f8, ⟨cap9, F10, rfl, hc11, hc12, hc13, hc14⟩, un15⟩ := sp0.1 el3 29 k6 (by decide)
  obtain ⟨y16, hy17, ky18⟩ := hc14 j hj
  refine tw_aald (v := .ref y16) 7 rfl rfl dJx4a65c_elementData_915e3_5 f8 (vp_in_nI (Nat.lt_of_lt_of_le hj hc11) (by omega)) (by rw [nI_clamp (by omega), hy17]; rfl) ?_
  exact tw_aret dJx4a65c_elementData_915e3_6 rfl (Or.inl ⟨_, rfl⟩) (Or.inl ⟨_, rfl, ⟨rfl, ky18⟩⟩)

set_option maxHeartbeats 4000000 in
set_option maxRecDepth 100000 in
theorem c26_get (d : tw_D) (g : tw_G) (τ : tw_K) (h : tw_H) (hw : tw_wt d g τ h) (x : Nat) (kx : τ x = 26) (j : Nat) (hj : j < (g.2 5)) (hm : (g.2 5) < 2 ^ 31) : tw_Ct d mJx4a65c_get_915e3 0 0 [.ref x, .int (nI j)] h (tw_qr (fun r h1 => h1 = h ∧ τ r = 22) tw_nx) := by
  refine tw_of (by decide +kernel) (Nat.le_of_ble_eq_true rfl) ?_
  show tw_W d mJx4a65c_get_915e3 _ 0 [(0, .ref x), (1, .int (nI j))] [] h 0 0
  have sp0 := tw_sp.rf hw
  refine tw_iload_n 1 dJx4a65c_get_915e3_0 rfl rfl ?_
  refine tw_aload_n 0 dJx4a65c_get_915e3_1 rfl rfl ?_
  obtain ⟨e1, f2, ⟨el3, rfl, k4⟩, k5⟩ := sp0.1 x 26 kx (by decide)
  refine tw_get (v := .int (nI (g.2 5))) rfl in_3 2 dJx4a65c_get_915e3_2 w_1138 rfl (by decide) f2 rfl ?_
  refine tw_bi (tw_callS okJ15_checkIndex_7cf53 dJx4a65c_get_915e3_5 w_1300 [.int (nI j), .int (nI (g.2 5))] [] rfl rfl ⟨by decide, by decide⟩ (Nat.le_of_ble_eq_true rfl) (c_J15_checkIndex_7cf53 d g τ h sp0.1 (nI j) (nI (g.2 5)) (nI_pos (by omega)) (nI_lt hj hm)) 0 0 (Nat.le_of_ble_eq_true rfl) (Nat.le_of_ble_eq_true rfl)) (fun r8 h7 q6 => ?_) (fun E h1 q => q.elim)
  obtain ⟨q6e, q6r⟩ := q6
  rw [q6e, q6r]
  refine tw_pop dJx4a65c_get_915e3_8 rfl ?_
  refine tw_aload_n 0 dJx4a65c_get_915e3_9 rfl rfl ?_
  refine tw_iload_n 1 dJx4a65c_get_915e3_10 rfl rfl ?_
  refine tw_br (tw_callV okJx4a65c_elementData_915e3 dJx4a65c_get_915e3_11 w_1304 rfl f2 [.int (nI j)] [] rfl rfl ⟨by decide, by decide⟩ (Nat.le_of_ble_eq_true rfl) (c26_elem d g τ h sp0.1 x kx j hj) 0 0 (Nat.le_of_ble_eq_true rfl) (Nat.le_of_ble_eq_true rfl)) (fun r11 h10 q9 => ?_) (fun E h1 q => q.elim)
  obtain ⟨q9e, q9k⟩ := q9
  rw [q9e]
  exact tw_aret dJx4a65c_get_915e3_14 rfl (Or.inl ⟨_, rfl⟩) (Or.inl ⟨_, rfl, ⟨rfl, q9k⟩⟩)

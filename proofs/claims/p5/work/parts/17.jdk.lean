/-! the class's methods over the typed heap. Laid by wip/p5/mkclass.py. -/
set_option maxHeartbeats 4000000 in
set_option maxRecDepth 100000 in
theorem c_J3_checkIndex_8e157 (d : tw_D) (g : tw_G) (τ : tw_K) (h : tw_H) (hw : tw_wt d g τ h) (i : Int32) (n : Int32) (h1 : ¬ i < 0) (h2 : i < n) : tw_Ct d mJ3_checkIndex_8e157 0 0 [.int i, .int n, .null] h (tw_qi (fun r h1 => h1 = h ∧ r = i) tw_nx) := by
  refine tw_of (by decide +kernel) (Nat.le_of_ble_eq_true rfl) ?_
  show tw_W d mJ3_checkIndex_8e157 _ 0 [(0, .int i), (1, .int n), (2, .null)] [] h 0 0
  have sp0 := tw_sp.rf hw
  refine tw_iload_n 0 dJ3_checkIndex_8e157_0 rfl rfl ?_
  refine tw_if_lt 9 dJ3_checkIndex_8e157_1 (by decide) (fun c1 => absurd c1 (h1)) (fun _ => ?_)
  refine tw_iload_n 0 dJ3_checkIndex_8e157_4 rfl rfl ?_
  refine tw_iload_n 1 dJ3_checkIndex_8e157_5 rfl rfl ?_
  refine tw_icmp_lt 16 dJ3_checkIndex_8e157_6 (by decide) (fun _ => ?_) (fun c2 => absurd (h2) c2)
  refine tw_iload_n 0 dJ3_checkIndex_8e157_16 rfl rfl ?_
  exact tw_iret dJ3_checkIndex_8e157_17 rfl (Or.inl ⟨_, rfl, ⟨rfl, rfl⟩⟩)

set_option maxHeartbeats 4000000 in
set_option maxRecDepth 100000 in
theorem c_J15_checkIndex_7cf53 (d : tw_D) (g : tw_G) (τ : tw_K) (h : tw_H) (hw : tw_wt d g τ h) (i : Int32) (n : Int32) (h1 : ¬ i < 0) (h2 : i < n) : tw_Ct d mJ15_checkIndex_7cf53 0 0 [.int i, .int n] h (tw_qi (fun r h1 => h1 = h ∧ r = i) tw_nx) := by
  refine tw_of (by decide +kernel) (Nat.le_of_ble_eq_true rfl) ?_
  show tw_W d mJ15_checkIndex_7cf53 _ 0 [(0, .int i), (1, .int n)] [] h 0 0
  have sp0 := tw_sp.rf hw
  refine tw_iload_n 0 dJ15_checkIndex_7cf53_0 rfl rfl ?_
  refine tw_iload_n 1 dJ15_checkIndex_7cf53_1 rfl rfl ?_
  refine tw_null dJ15_checkIndex_7cf53_2 ?_
  refine tw_bi (tw_callS okJ3_checkIndex_8e157 dJ15_checkIndex_7cf53_3 w_1303 [.int i, .int n, .null] [] rfl rfl ⟨by decide, by decide⟩ (Nat.le_of_ble_eq_true rfl) (c_J3_checkIndex_8e157 d g τ h sp0.1 i n h1 h2) 0 0 (Nat.le_of_ble_eq_true rfl) (Nat.le_of_ble_eq_true rfl)) (fun r3 h2 q1 => ?_) (fun E h1 q => q.elim)
  obtain ⟨q1e, q1r⟩ := q1
  rw [q1e, q1r]
  exact tw_iret dJ15_checkIndex_7cf53_6 rfl (Or.inl ⟨_, rfl, ⟨rfl, rfl⟩⟩)

set_option maxHeartbeats 4000000 in
set_option maxRecDepth 100000 in
theorem c24_size (d : tw_D) (g : tw_G) (τ : tw_K) (h : tw_H) (hw : tw_wt d g τ h) (x : Nat) (kx : τ x = 24) : tw_Ct d mJx4a65c_size_8abf5 0 0 [.ref x] h (tw_qi (fun r h1 => h1 = h ∧ r = nI (g.2 3)) tw_nx) := by
  refine tw_of (by decide +kernel) (Nat.le_of_ble_eq_true rfl) ?_
  show tw_W d mJx4a65c_size_8abf5 _ 0 [(0, .ref x)] [] h 0 0
  have sp0 := tw_sp.rf hw
  refine tw_aload_n 0 dJx4a65c_size_8abf5_0 rfl rfl ?_
  obtain ⟨e1, f2, ⟨el3, rfl, k4⟩, k5⟩ := sp0.1 x 24 kx (by decide)
  refine tw_get (v := .int (nI (g.2 3))) rfl in_3 2 dJx4a65c_size_8abf5_1 w_1138 rfl (by decide) f2 rfl ?_
  exact tw_iret dJx4a65c_size_8abf5_4 rfl (Or.inl ⟨_, rfl, ⟨rfl, rfl⟩⟩)

set_option maxHeartbeats 4000000 in
set_option maxRecDepth 100000 in
theorem c24_elem (d : tw_D) (g : tw_G) (τ : tw_K) (h : tw_H) (hw : tw_wt d g τ h) (x : Nat) (kx : τ x = 24) (j : Nat) (hj : j < (g.2 3)) : tw_Ct d mJx4a65c_elementData_915e3 0 0 [.ref x, .int (nI j)] h (tw_qr (fun r h1 => h1 = h ∧ τ r = 21 ∧ r = tw_el h x j) tw_nx) := by
  refine tw_of (by decide +kernel) (Nat.le_of_ble_eq_true rfl) ?_
  show tw_W d mJx4a65c_elementData_915e3 _ 0 [(0, .ref x), (1, .int (nI j))] [] h 0 0
  have sp0 := tw_sp.rf hw
  refine tw_aload_n 0 dJx4a65c_elementData_915e3_0 rfl rfl ?_
  obtain ⟨e1, f2, ⟨el3, rfl, k4⟩, k5⟩ := sp0.1 x 24 kx (by decide)
  refine tw_get (v := .ref el3) rfl in_3 1 dJx4a65c_elementData_915e3_1 w_1135 rfl (by decide) f2 rfl ?_
  refine tw_iload_n 1 dJx4a65c_elementData_915e3_4 rfl rfl ?_
  have k6 : τ el3 = 27 := k4.resolve_left (fun q => absurd hj (by rw [q.2]; exact Nat.not_lt_zero _))
  obtain ⟨e7, f8, ⟨F9, rfl, hc10, hc11⟩, un12⟩ := sp0.1 el3 27 k6 (by decide)
  obtain ⟨y13, hy14, ky15⟩ := hc11 j hj
  refine tw_aald (v := .ref y13) 7 rfl rfl dJx4a65c_elementData_915e3_5 f8 (vp_in_nI (Nat.lt_of_lt_of_le hj hc10) (by omega)) (by rw [nI_clamp (by omega), hy14]; rfl) ?_
  exact tw_aret dJx4a65c_elementData_915e3_6 rfl (Or.inl ⟨_, rfl⟩) (Or.inl ⟨_, rfl, ⟨rfl, ky15, (tw_el_e f2 f8 hy14).symm⟩⟩)

set_option maxHeartbeats 4000000 in
set_option maxRecDepth 100000 in
theorem c24_get (d : tw_D) (g : tw_G) (τ : tw_K) (h : tw_H) (hw : tw_wt d g τ h) (x : Nat) (kx : τ x = 24) (j : Nat) (hj : j < (g.2 3)) (hm : (g.2 3) < 2 ^ 31) : tw_Ct d mJx4a65c_get_915e3 0 0 [.ref x, .int (nI j)] h (tw_qr (fun r h1 => h1 = h ∧ τ r = 21 ∧ r = tw_el h x j) tw_nx) := by
  refine tw_of (by decide +kernel) (Nat.le_of_ble_eq_true rfl) ?_
  show tw_W d mJx4a65c_get_915e3 _ 0 [(0, .ref x), (1, .int (nI j))] [] h 0 0
  have sp0 := tw_sp.rf hw
  refine tw_iload_n 1 dJx4a65c_get_915e3_0 rfl rfl ?_
  refine tw_aload_n 0 dJx4a65c_get_915e3_1 rfl rfl ?_
  obtain ⟨e1, f2, ⟨el3, rfl, k4⟩, k5⟩ := sp0.1 x 24 kx (by decide)
  refine tw_get (v := .int (nI (g.2 3))) rfl in_3 2 dJx4a65c_get_915e3_2 w_1138 rfl (by decide) f2 rfl ?_
  refine tw_bi (tw_callS okJ15_checkIndex_7cf53 dJx4a65c_get_915e3_5 w_1300 [.int (nI j), .int (nI (g.2 3))] [] rfl rfl ⟨by decide, by decide⟩ (Nat.le_of_ble_eq_true rfl) (c_J15_checkIndex_7cf53 d g τ h sp0.1 (nI j) (nI (g.2 3)) (nI_pos (by omega)) (nI_lt hj hm)) 0 0 (Nat.le_of_ble_eq_true rfl) (Nat.le_of_ble_eq_true rfl)) (fun r8 h7 q6 => ?_) (fun E h1 q => q.elim)
  obtain ⟨q6e, q6r⟩ := q6
  rw [q6e, q6r]
  refine tw_pop dJx4a65c_get_915e3_8 rfl ?_
  refine tw_aload_n 0 dJx4a65c_get_915e3_9 rfl rfl ?_
  refine tw_iload_n 1 dJx4a65c_get_915e3_10 rfl rfl ?_
  refine tw_br (tw_callV okJx4a65c_elementData_915e3 dJx4a65c_get_915e3_11 w_1304 rfl f2 [.int (nI j)] [] rfl rfl ⟨by decide, by decide⟩ (Nat.le_of_ble_eq_true rfl) (c24_elem d g τ h sp0.1 x kx j hj) 0 0 (Nat.le_of_ble_eq_true rfl) (Nat.le_of_ble_eq_true rfl)) (fun r11 h10 q9 => ?_) (fun E h1 q => q.elim)
  obtain ⟨q9e, q9k, q9l⟩ := q9
  rw [q9e]
  exact tw_aret dJx4a65c_get_915e3_14 rfl (Or.inl ⟨_, rfl⟩) (Or.inl ⟨_, rfl, ⟨rfl, q9k, q9l⟩⟩)

set_option maxHeartbeats 4000000 in
set_option maxRecDepth 100000 in
theorem c25_size (d : tw_D) (g : tw_G) (τ : tw_K) (h : tw_H) (hw : tw_wt d g τ h) (x : Nat) (kx : τ x = 25) : tw_Ct d mJx4a65c_size_8abf5 0 0 [.ref x] h (tw_qi (fun r h1 => h1 = h ∧ r = nI (g.2 4)) tw_nx) := by
  refine tw_of (by decide +kernel) (Nat.le_of_ble_eq_true rfl) ?_
  show tw_W d mJx4a65c_size_8abf5 _ 0 [(0, .ref x)] [] h 0 0
  have sp0 := tw_sp.rf hw
  refine tw_aload_n 0 dJx4a65c_size_8abf5_0 rfl rfl ?_
  obtain ⟨e1, f2, ⟨el3, rfl, k4⟩, k5⟩ := sp0.1 x 25 kx (by decide)
  refine tw_get (v := .int (nI (g.2 4))) rfl in_3 2 dJx4a65c_size_8abf5_1 w_1138 rfl (by decide) f2 rfl ?_
  exact tw_iret dJx4a65c_size_8abf5_4 rfl (Or.inl ⟨_, rfl, ⟨rfl, rfl⟩⟩)

set_option maxHeartbeats 4000000 in
set_option maxRecDepth 100000 in
theorem c25_elem (d : tw_D) (g : tw_G) (τ : tw_K) (h : tw_H) (hw : tw_wt d g τ h) (x : Nat) (kx : τ x = 25) (j : Nat) (hj : j < (g.2 4)) : tw_Ct d mJx4a65c_elementData_915e3 0 0 [.ref x, .int (nI j)] h (tw_qr (fun r h1 => h1 = h ∧ τ r = 23 ∧ r = tw_el h x j) tw_nx) := by
  refine tw_of (by decide +kernel) (Nat.le_of_ble_eq_true rfl) ?_
  show tw_W d mJx4a65c_elementData_915e3 _ 0 [(0, .ref x), (1, .int (nI j))] [] h 0 0
  have sp0 := tw_sp.rf hw
  refine tw_aload_n 0 dJx4a65c_elementData_915e3_0 rfl rfl ?_
  obtain ⟨e1, f2, ⟨el3, rfl, k4⟩, k5⟩ := sp0.1 x 25 kx (by decide)
  refine tw_get (v := .ref el3) rfl in_3 1 dJx4a65c_elementData_915e3_1 w_1135 rfl (by decide) f2 rfl ?_
  refine tw_iload_n 1 dJx4a65c_elementData_915e3_4 rfl rfl ?_
  have k6 : τ el3 = 28 := k4.resolve_left (fun q => absurd hj (by rw [q.2]; exact Nat.not_lt_zero _))
  obtain ⟨e7, f8, ⟨F9, rfl, hc10, hc11⟩, un12⟩ := sp0.1 el3 28 k6 (by decide)
  obtain ⟨y13, hy14, ky15⟩ := hc11 j hj
  refine tw_aald (v := .ref y13) 7 rfl rfl dJx4a65c_elementData_915e3_5 f8 (vp_in_nI (Nat.lt_of_lt_of_le hj hc10) (by omega)) (by rw [nI_clamp (by omega), hy14]; rfl) ?_
  exact tw_aret dJx4a65c_elementData_915e3_6 rfl (Or.inl ⟨_, rfl⟩) (Or.inl ⟨_, rfl, ⟨rfl, ky15, (tw_el_e f2 f8 hy14).symm⟩⟩)

set_option maxHeartbeats 4000000 in
set_option maxRecDepth 100000 in
theorem c25_get (d : tw_D) (g : tw_G) (τ : tw_K) (h : tw_H) (hw : tw_wt d g τ h) (x : Nat) (kx : τ x = 25) (j : Nat) (hj : j < (g.2 4)) (hm : (g.2 4) < 2 ^ 31) : tw_Ct d mJx4a65c_get_915e3 0 0 [.ref x, .int (nI j)] h (tw_qr (fun r h1 => h1 = h ∧ τ r = 23 ∧ r = tw_el h x j) tw_nx) := by
  refine tw_of (by decide +kernel) (Nat.le_of_ble_eq_true rfl) ?_
  show tw_W d mJx4a65c_get_915e3 _ 0 [(0, .ref x), (1, .int (nI j))] [] h 0 0
  have sp0 := tw_sp.rf hw
  refine tw_iload_n 1 dJx4a65c_get_915e3_0 rfl rfl ?_
  refine tw_aload_n 0 dJx4a65c_get_915e3_1 rfl rfl ?_
  obtain ⟨e1, f2, ⟨el3, rfl, k4⟩, k5⟩ := sp0.1 x 25 kx (by decide)
  refine tw_get (v := .int (nI (g.2 4))) rfl in_3 2 dJx4a65c_get_915e3_2 w_1138 rfl (by decide) f2 rfl ?_
  refine tw_bi (tw_callS okJ15_checkIndex_7cf53 dJx4a65c_get_915e3_5 w_1300 [.int (nI j), .int (nI (g.2 4))] [] rfl rfl ⟨by decide, by decide⟩ (Nat.le_of_ble_eq_true rfl) (c_J15_checkIndex_7cf53 d g τ h sp0.1 (nI j) (nI (g.2 4)) (nI_pos (by omega)) (nI_lt hj hm)) 0 0 (Nat.le_of_ble_eq_true rfl) (Nat.le_of_ble_eq_true rfl)) (fun r8 h7 q6 => ?_) (fun E h1 q => q.elim)
  obtain ⟨q6e, q6r⟩ := q6
  rw [q6e, q6r]
  refine tw_pop dJx4a65c_get_915e3_8 rfl ?_
  refine tw_aload_n 0 dJx4a65c_get_915e3_9 rfl rfl ?_
  refine tw_iload_n 1 dJx4a65c_get_915e3_10 rfl rfl ?_
  refine tw_br (tw_callV okJx4a65c_elementData_915e3 dJx4a65c_get_915e3_11 w_1304 rfl f2 [.int (nI j)] [] rfl rfl ⟨by decide, by decide⟩ (Nat.le_of_ble_eq_true rfl) (c25_elem d g τ h sp0.1 x kx j hj) 0 0 (Nat.le_of_ble_eq_true rfl) (Nat.le_of_ble_eq_true rfl)) (fun r11 h10 q9 => ?_) (fun E h1 q => q.elim)
  obtain ⟨q9e, q9k, q9l⟩ := q9
  rw [q9e]
  exact tw_aret dJx4a65c_get_915e3_14 rfl (Or.inl ⟨_, rfl⟩) (Or.inl ⟨_, rfl, ⟨rfl, q9k, q9l⟩⟩)

set_option maxHeartbeats 4000000 in
set_option maxRecDepth 100000 in
theorem c26_size (d : tw_D) (g : tw_G) (τ : tw_K) (h : tw_H) (hw : tw_wt d g τ h) (x : Nat) (kx : τ x = 26) : tw_Ct d mJx4a65c_size_8abf5 0 0 [.ref x] h (tw_qi (fun r h1 => h1 = h ∧ r = nI (g.2 5)) tw_nx) := by
  refine tw_of (by decide +kernel) (Nat.le_of_ble_eq_true rfl) ?_
  show tw_W d mJx4a65c_size_8abf5 _ 0 [(0, .ref x)] [] h 0 0
  have sp0 := tw_sp.rf hw
  refine tw_aload_n 0 dJx4a65c_size_8abf5_0 rfl rfl ?_
  obtain ⟨e1, f2, ⟨el3, rfl, k4⟩, k5⟩ := sp0.1 x 26 kx (by decide)
  refine tw_get (v := .int (nI (g.2 5))) rfl in_3 2 dJx4a65c_size_8abf5_1 w_1138 rfl (by decide) f2 rfl ?_
  exact tw_iret dJx4a65c_size_8abf5_4 rfl (Or.inl ⟨_, rfl, ⟨rfl, rfl⟩⟩)

set_option maxHeartbeats 4000000 in
set_option maxRecDepth 100000 in
theorem c26_elem (d : tw_D) (g : tw_G) (τ : tw_K) (h : tw_H) (hw : tw_wt d g τ h) (x : Nat) (kx : τ x = 26) (j : Nat) (hj : j < (g.2 5)) : tw_Ct d mJx4a65c_elementData_915e3 0 0 [.ref x, .int (nI j)] h (tw_qr (fun r h1 => h1 = h ∧ τ r = 22 ∧ r = tw_el h x j) tw_nx) := by
  refine tw_of (by decide +kernel) (Nat.le_of_ble_eq_true rfl) ?_
  show tw_W d mJx4a65c_elementData_915e3 _ 0 [(0, .ref x), (1, .int (nI j))] [] h 0 0
  have sp0 := tw_sp.rf hw
  refine tw_aload_n 0 dJx4a65c_elementData_915e3_0 rfl rfl ?_
  obtain ⟨e1, f2, ⟨el3, rfl, k4⟩, k5⟩ := sp0.1 x 26 kx (by decide)
  refine tw_get (v := .ref el3) rfl in_3 1 dJx4a65c_elementData_915e3_1 w_1135 rfl (by decide) f2 rfl ?_
  refine tw_iload_n 1 dJx4a65c_elementData_915e3_4 rfl rfl ?_
  have k6 : τ el3 = 29 := k4.resolve_left (fun q => absurd hj (by rw [q.2]; exact Nat.not_lt_zero _))
  obtain ⟨e7, f8, ⟨F9, rfl, hc10, hc11⟩, un12⟩ := sp0.1 el3 29 k6 (by decide)
  obtain ⟨y13, hy14, ky15⟩ := hc11 j hj
  refine tw_aald (v := .ref y13) 7 rfl rfl dJx4a65c_elementData_915e3_5 f8 (vp_in_nI (Nat.lt_of_lt_of_le hj hc10) (by omega)) (by rw [nI_clamp (by omega), hy14]; rfl) ?_
  exact tw_aret dJx4a65c_elementData_915e3_6 rfl (Or.inl ⟨_, rfl⟩) (Or.inl ⟨_, rfl, ⟨rfl, ky15, (tw_el_e f2 f8 hy14).symm⟩⟩)

set_option maxHeartbeats 4000000 in
set_option maxRecDepth 100000 in
theorem c26_get (d : tw_D) (g : tw_G) (τ : tw_K) (h : tw_H) (hw : tw_wt d g τ h) (x : Nat) (kx : τ x = 26) (j : Nat) (hj : j < (g.2 5)) (hm : (g.2 5) < 2 ^ 31) : tw_Ct d mJx4a65c_get_915e3 0 0 [.ref x, .int (nI j)] h (tw_qr (fun r h1 => h1 = h ∧ τ r = 22 ∧ r = tw_el h x j) tw_nx) := by
  refine tw_of (by decide +kernel) (Nat.le_of_ble_eq_true rfl) ?_
  show tw_W d mJx4a65c_get_915e3 _ 0 [(0, .ref x), (1, .int (nI j))] [] h 0 0
  have sp0 := tw_sp.rf hw
  refine tw_iload_n 1 dJx4a65c_get_915e3_0 rfl rfl ?_
  refine tw_aload_n 0 dJx4a65c_get_915e3_1 rfl rfl ?_
  obtain ⟨e1, f2, ⟨el3, rfl, k4⟩, k5⟩ := sp0.1 x 26 kx (by decide)
  refine tw_get (v := .int (nI (g.2 5))) rfl in_3 2 dJx4a65c_get_915e3_2 w_1138 rfl (by decide) f2 rfl ?_
  refine tw_bi (tw_callS okJ15_checkIndex_7cf53 dJx4a65c_get_915e3_5 w_1300 [.int (nI j), .int (nI (g.2 5))] [] rfl rfl ⟨by decide, by decide⟩ (Nat.le_of_ble_eq_true rfl) (c_J15_checkIndex_7cf53 d g τ h sp0.1 (nI j) (nI (g.2 5)) (nI_pos (by omega)) (nI_lt hj hm)) 0 0 (Nat.le_of_ble_eq_true rfl) (Nat.le_of_ble_eq_true rfl)) (fun r8 h7 q6 => ?_) (fun E h1 q => q.elim)
  obtain ⟨q6e, q6r⟩ := q6
  rw [q6e, q6r]
  refine tw_pop dJx4a65c_get_915e3_8 rfl ?_
  refine tw_aload_n 0 dJx4a65c_get_915e3_9 rfl rfl ?_
  refine tw_iload_n 1 dJx4a65c_get_915e3_10 rfl rfl ?_
  refine tw_br (tw_callV okJx4a65c_elementData_915e3 dJx4a65c_get_915e3_11 w_1304 rfl f2 [.int (nI j)] [] rfl rfl ⟨by decide, by decide⟩ (Nat.le_of_ble_eq_true rfl) (c26_elem d g τ h sp0.1 x kx j hj) 0 0 (Nat.le_of_ble_eq_true rfl) (Nat.le_of_ble_eq_true rfl)) (fun r11 h10 q9 => ?_) (fun E h1 q => q.elim)
  obtain ⟨q9e, q9k, q9l⟩ := q9
  rw [q9e]
  exact tw_aret dJx4a65c_get_915e3_14 rfl (Or.inl ⟨_, rfl⟩) (Or.inl ⟨_, rfl, ⟨rfl, q9k, q9l⟩⟩)

set_option maxHeartbeats 4000000 in
set_option maxRecDepth 100000 in
theorem c_it_init (d : tw_D) (h : tw_H) (x : Nat) (hx : h x = some (.inr (2, [.int 0, .int 0, .int 0, .null]))) (lst a : Nat) (m z : Int32) (hl : h lst = some (.inr (3, [.int m, .ref a, .int z]))) : tw_Ct d mJx35411_init_45d68 0 0 [.ref x, .ref lst] h (tw_qv (fun h1 => h1 = tw_up h x (.inr (2, [.int 0, .int (-1), .int m, .ref lst]))) tw_nx) := by
  refine tw_of (by decide +kernel) (Nat.le_of_ble_eq_true rfl) ?_
  show tw_W d mJx35411_init_45d68 _ 0 [(0, .ref x), (1, .ref lst)] [] h 0 0
  refine tw_aload_n 0 dJx35411_init_45d68_0 rfl rfl ?_
  refine tw_aload_n 1 dJx35411_init_45d68_1 rfl rfl ?_
  refine tw_putF rfl in_2 tyJx35411 tyJx35411_ok nmJx35411 3 dJx35411_init_45d68_2 w_1399 rfl (by decide) hx rfl rfl rfl rfl rfl rfl (Nat.le_of_ble_eq_true rfl) [.int 0, .int 0, .int 0, .ref lst] rfl ?_
  obtain ⟨h1, eh1⟩ : ∃ z : tw_H, z = tw_up h x (.inr (2, [.int 0, .int 0, .int 0, .ref lst])) := ⟨_, rfl⟩
  rw [← eh1]
  have f2 : h1 lst = some (.inr (3, [.int m, .ref a, .int z])) := by rw [eh1, tw_up_n (tw_ne hl hx (by simp))]; exact hl
  have f3 : h1 x = some (.inr (2, [.int 0, .int 0, .int 0, .ref lst])) := by rw [eh1]; exact tw_up_s
  refine tw_aload_n 0 dJx35411_init_45d68_5 rfl rfl ?_
  refine tw_objInit dJx35411_init_45d68_6 w_1395 w_117 w_118 ⟨by decide, Nat.le_of_ble_eq_true rfl⟩ ?_
  refine tw_aload_n 0 dJx35411_init_45d68_9 rfl rfl ?_
  refine tw_iconst (v := -1) dJx35411_init_45d68_10 (by decide) ?_
  refine tw_put rfl in_2 tyJx35411 tyJx35411_ok nmJx35411 1 dJx35411_init_45d68_11 w_1397 rfl (by decide) f3 rfl rfl rfl rfl (Nat.le_of_ble_eq_true rfl) [.int 0, .int (-1), .int 0, .ref lst] rfl ?_
  obtain ⟨h4, eh4⟩ : ∃ z : tw_H, z = tw_up h1 x (.inr (2, [.int 0, .int (-1), .int 0, .ref lst])) := ⟨_, rfl⟩
  rw [← eh4]
  have f5 : h4 lst = some (.inr (3, [.int m, .ref a, .int z])) := by rw [eh4, tw_up_n (tw_ne f2 f3 (by simp))]; exact f2
  have f6 : h4 x = some (.inr (2, [.int 0, .int (-1), .int 0, .ref lst])) := by rw [eh4]; exact tw_up_s
  refine tw_aload_n 0 dJx35411_init_45d68_14 rfl rfl ?_
  refine tw_aload_n 0 dJx35411_init_45d68_15 rfl rfl ?_
  refine tw_get (v := .ref lst) rfl in_2 3 dJx35411_init_45d68_16 w_1399 rfl (by decide) f6 rfl ?_
  refine tw_getU (v := .int m) rfl in_3 0 dJx35411_init_45d68_19 w_1140 w_1141 (by decide) f5 rfl ?_
  refine tw_put rfl in_2 tyJx35411 tyJx35411_ok nmJx35411 2 dJx35411_init_45d68_22 w_1398 rfl (by decide) f6 rfl rfl rfl rfl (Nat.le_of_ble_eq_true rfl) [.int 0, .int (-1), .int m, .ref lst] rfl ?_
  obtain ⟨h7, eh7⟩ : ∃ z : tw_H, z = tw_up h4 x (.inr (2, [.int 0, .int (-1), .int m, .ref lst])) := ⟨_, rfl⟩
  rw [← eh7]
  have f8 : h7 lst = some (.inr (3, [.int m, .ref a, .int z])) := by rw [eh7, tw_up_n (tw_ne f5 f6 (by simp))]; exact f5
  have f9 : h7 x = some (.inr (2, [.int 0, .int (-1), .int m, .ref lst])) := by rw [eh7]; exact tw_up_s
  exact tw_vret dJx35411_init_45d68_25 rfl (Or.inl ⟨rfl, (by rw [eh7, eh4, eh1]; simp only [tw_up_up])⟩)

set_option maxHeartbeats 4000000 in
set_option maxRecDepth 100000 in
theorem c_iterator (d : tw_D) (h : tw_H) (x a : Nat) (m z : Int32) (hx : h x = some (.inr (3, [.int m, .ref a, .int z]))) : tw_Ct d mJx4a65c_iterator_32c93 1 4 [.ref x] h (tw_qr (fun r h1 => h r = none ∧ h1 = tw_up h r (.inr (2, [.int 0, .int (-1), .int m, .ref x]))) tw_nx) := by
  refine tw_of (by decide +kernel) (Nat.le_of_ble_eq_true rfl) ?_
  show tw_W d mJx4a65c_iterator_32c93 _ 0 [(0, .ref x)] [] h 1 4
  refine tw_new (ci := 2) rfl in_2 tyJx35411 tyJx35411_ok dJx4a65c_iterator_32c93_0 w_1390 w_1391 w_101 (fs := [.int 0, .int 0, .int 0, .null]) (fun j hj => by rcases (show j = 0 ∨ j = 1 ∨ j = 2 ∨ j = 3 by omega) with rfl | rfl | rfl | rfl <;> rfl) 0 0 (Nat.le_of_ble_eq_true rfl) (Nat.le_of_ble_eq_true rfl) (fun q1 hq2 hA3 => ?_)
  obtain ⟨h4, eh4⟩ : ∃ z : tw_H, z = tw_up h q1 (.inr (2, [.int 0, .int 0, .int 0, .null])) := ⟨_, rfl⟩
  rw [← eh4]
  have ne6 := tw_neF hx hq2
  have f5 : h4 x = some (.inr (3, [.int m, .ref a, .int z])) := by rw [eh4, tw_up_n ne6]; exact hx
  have f7 : h4 q1 = some (.inr (2, [.int 0, .int 0, .int 0, .null])) := by rw [eh4]; exact tw_up_s
  refine tw_dup dJx4a65c_iterator_32c93_3 rfl ?_
  refine tw_aload_n 0 dJx4a65c_iterator_32c93_4 rfl rfl ?_
  refine tw_bv (tw_callI okJx35411_init_45d68 dJx4a65c_iterator_32c93_5 w_1392 rfl [.ref x] [.ref q1] rfl rfl ⟨by decide, by decide⟩ (Nat.le_of_ble_eq_true rfl) (c_it_init d h4 q1 f7 x a m z f5) 0 0 (Nat.le_of_ble_eq_true rfl) (Nat.le_of_ble_eq_true rfl)) (fun h9 q8 => ?_) (fun E h1 q => q.elim)
  have f11 : h9 x = some (.inr (3, [.int m, .ref a, .int z])) := by rw [q8, tw_up_n ne6]; exact f5
  have f12 : h9 q1 = some (.inr (2, [.int 0, .int (-1), .int m, .ref x])) := by rw [q8]; exact tw_up_s
  exact tw_aret dJx4a65c_iterator_32c93_8 rfl (Or.inl ⟨_, rfl⟩) (Or.inl ⟨_, rfl, hq2, (by rw [q8, eh4]; simp only [tw_up_up])⟩)

set_option maxHeartbeats 4000000 in
set_option maxRecDepth 100000 in
theorem c_hasNext (d : tw_D) (h : tw_H) (x lst a j n : Nat) (lr m m2 : Int32) (hx : h x = some (.inr (2, [.int (nI j), .int lr, .int m2, .ref lst]))) (hl : h lst = some (.inr (3, [.int m, .ref a, .int (nI n)]))) (hj : j ≤ n) (hn : n ≤ 10) : tw_Ct d mJx35411_hasNext_aae02 0 0 [.ref x] h (tw_qi (fun r h1 => h1 = h ∧ (r = 0 ∧ j = n ∨ r = 1 ∧ j < n)) tw_nx) := by
  refine tw_of (by decide +kernel) (Nat.le_of_ble_eq_true rfl) ?_
  show tw_W d mJx35411_hasNext_aae02 _ 0 [(0, .ref x)] [] h 0 0
  refine tw_aload_n 0 dJx35411_hasNext_aae02_0 rfl rfl ?_
  refine tw_get (v := .int (nI j)) rfl in_2 0 dJx35411_hasNext_aae02_1 w_1396 rfl (by decide) hx rfl ?_
  refine tw_aload_n 0 dJx35411_hasNext_aae02_4 rfl rfl ?_
  refine tw_get (v := .ref lst) rfl in_2 3 dJx35411_hasNext_aae02_5 w_1399 rfl (by decide) hx rfl ?_
  refine tw_getN (v := .int (nI n)) rfl in_3 2 dJx35411_hasNext_aae02_8 w_1137 rfl (by decide) hl rfl ?_
  refine tw_icmp_eq 18 dJx35411_hasNext_aae02_11 (by decide) (fun c1 => ?_) (fun c1 => ?_)
  · refine tw_iconst (v := 0) dJx35411_hasNext_aae02_18 (by decide) ?_
    exact tw_zret dJx35411_hasNext_aae02_19 rfl rfl (Or.inl ⟨_, rfl, rfl, Or.inl ⟨rfl, tw_nIj c1 (by omega) (by omega)⟩⟩)
  · refine tw_iconst (v := 1) dJx35411_hasNext_aae02_14 (by decide) ?_
    refine tw_goto 19 dJx35411_hasNext_aae02_15 (by decide) ?_
    exact tw_zret dJx35411_hasNext_aae02_19 rfl rfl (Or.inl ⟨_, rfl, rfl, Or.inr ⟨rfl, Nat.lt_of_le_of_ne hj (fun q => c1 (by rw [q]))⟩⟩)

set_option maxHeartbeats 4000000 in
set_option maxRecDepth 100000 in
theorem c_checkMod (d : tw_D) (h : tw_H) (x lst a : Nat) (m z c9 lr : Int32) (hx : h x = some (.inr (2, [.int c9, .int lr, .int m, .ref lst]))) (hl : h lst = some (.inr (3, [.int m, .ref a, .int z]))) : tw_Ct d mJx35411_checkForComodification_da8c8 0 0 [.ref x] h (tw_qv (fun h1 => h1 = h) tw_nx) := by
  refine tw_of (by decide +kernel) (Nat.le_of_ble_eq_true rfl) ?_
  show tw_W d mJx35411_checkForComodification_da8c8 _ 0 [(0, .ref x)] [] h 0 0
  refine tw_aload_n 0 dJx35411_checkForComodification_da8c8_0 rfl rfl ?_
  refine tw_get (v := .ref lst) rfl in_2 3 dJx35411_checkForComodification_da8c8_1 w_1399 rfl (by decide) hx rfl ?_
  refine tw_getU (v := .int m) rfl in_3 0 dJx35411_checkForComodification_da8c8_4 w_1140 w_1141 (by decide) hl rfl ?_
  refine tw_aload_n 0 dJx35411_checkForComodification_da8c8_7 rfl rfl ?_
  refine tw_get (v := .int m) rfl in_2 2 dJx35411_checkForComodification_da8c8_8 w_1398 rfl (by decide) hx rfl ?_
  refine tw_icmp_eq 22 dJx35411_checkForComodification_da8c8_11 (by decide) (fun _ => ?_) (fun c1 => absurd (rfl) c1)
  exact tw_vret dJx35411_checkForComodification_da8c8_22 rfl (Or.inl ⟨rfl, rfl⟩)

set_option maxHeartbeats 4000000 in
set_option maxRecDepth 100000 in
theorem c_next (d : tw_D) (h : tw_H) (x lst a j n y : Nat) (lr m : Int32) (f : Nat → Option Nat) (hx : h x = some (.inr (2, [.int (nI j), .int lr, .int m, .ref lst]))) (hl : h lst = some (.inr (3, [.int m, .ref a, .int (nI n)]))) (ha : h a = some (.inl (d.2 7, 10, .inr (.inr (.inr (.inr f)))))) (hj : j < n) (hn : n ≤ 10) (hy : f j = some y) : tw_Ct d mJx35411_next_0502b 0 0 [.ref x] h (tw_qr (fun r h1 => r = y ∧ h1 = tw_up h x (.inr (2, [.int (nI (j + 1)), .int (nI j), .int m, .ref lst]))) tw_nx) := by
  refine tw_of (by decide +kernel) (Nat.le_of_ble_eq_true rfl) ?_
  show tw_W d mJx35411_next_0502b _ 0 [(0, .ref x)] [] h 0 0
  refine tw_aload_n 0 dJx35411_next_0502b_0 rfl rfl ?_
  refine tw_bv (tw_callV okJx35411_checkForComodification_da8c8 dJx35411_next_0502b_1 w_1428 rfl hx [] [] rfl rfl ⟨by decide, by decide⟩ (Nat.le_of_ble_eq_true rfl) (c_checkMod d h x lst a m (nI n) (nI j) lr hx hl) 0 0 (Nat.le_of_ble_eq_true rfl) (Nat.le_of_ble_eq_true rfl)) (fun h2 q1 => ?_) (fun E h1 q => q.elim)
  rw [q1]
  refine tw_aload_n 0 dJx35411_next_0502b_4 rfl rfl ?_
  refine tw_get (v := .int (nI j)) rfl in_2 0 dJx35411_next_0502b_5 w_1396 rfl (by decide) hx rfl ?_
  refine tw_istore_n [(1, .int (nI j)), (0, .ref x)] dJx35411_next_0502b_8 rfl (by decide) rfl ?_
  refine tw_iload_n 0 dJx35411_next_0502b_9 rfl rfl ?_
  refine tw_aload_n 1 dJx35411_next_0502b_10 rfl rfl ?_
  refine tw_get (v := .ref lst) rfl in_2 3 dJx35411_next_0502b_11 w_1399 rfl (by decide) hx rfl ?_
  refine tw_getN (v := .int (nI n)) rfl in_3 2 dJx35411_next_0502b_14 w_1137 rfl (by decide) hl rfl ?_
  refine tw_icmp_lt 28 dJx35411_next_0502b_17 (by decide) (fun _ => ?_) (fun c4 => absurd (nI_lt hj (by omega)) c4)
  refine tw_aload_n 1 dJx35411_next_0502b_28 rfl rfl ?_
  refine tw_get (v := .ref lst) rfl in_2 3 dJx35411_next_0502b_29 w_1399 rfl (by decide) hx rfl ?_
  refine tw_get (v := .ref a) rfl in_3 1 dJx35411_next_0502b_32 w_1136 rfl (by decide) hl rfl ?_
  refine tw_astore_n [(2, .ref a), (1, .int (nI j)), (0, .ref x)] dJx35411_next_0502b_35 rfl (by decide) rfl ?_
  refine tw_iload_n 1 dJx35411_next_0502b_36 rfl rfl ?_
  refine tw_aload_n 0 dJx35411_next_0502b_37 rfl rfl ?_
  refine tw_alen (v := nI 10) 7 rfl dJx35411_next_0502b_38 ha rfl ?_
  refine tw_icmp_lt 50 dJx35411_next_0502b_39 (by decide) (fun _ => ?_) (fun c5 => absurd (nI_lt (Nat.lt_of_lt_of_le hj hn) (by decide)) c5)
  refine tw_aload_n 2 dJx35411_next_0502b_50 rfl rfl ?_
  refine tw_iload_n 1 dJx35411_next_0502b_51 rfl rfl ?_
  refine tw_iconst (v := 1) dJx35411_next_0502b_52 (by decide) ?_
  refine tw_iadd dJx35411_next_0502b_53 ?_
  refine tw_nmi (fun v6 ev6 => ?_)
  refine tw_put rfl in_2 tyJx35411 tyJx35411_ok nmJx35411 0 dJx35411_next_0502b_54 w_1396 rfl (by decide) hx rfl rfl rfl rfl (Nat.le_of_ble_eq_true rfl) [.int v6, .int lr, .int m, .ref lst] rfl ?_
  rw [tw_nI3 ev6]
  obtain ⟨h7, eh7⟩ : ∃ z : tw_H, z = tw_up h x (.inr (2, [.int (nI (j + 1)), .int lr, .int m, .ref lst])) := ⟨_, rfl⟩
  rw [← eh7]
  have f8 : h7 lst = some (.inr (3, [.int m, .ref a, .int (nI n)])) := by rw [eh7, tw_up_n (tw_ne hl hx (by simp))]; exact hl
  have f9 : h7 a = some (.inl (d.2 7, 10, .inr (.inr (.inr (.inr f))))) := by rw [eh7, tw_up_n (tw_ne ha hx (by simp))]; exact ha
  have f10 : h7 x = some (.inr (2, [.int (nI (j + 1)), .int lr, .int m, .ref lst])) := by rw [eh7]; exact tw_up_s
  refine tw_aload_n 0 dJx35411_next_0502b_57 rfl rfl ?_
  refine tw_aload_n 2 dJx35411_next_0502b_58 rfl rfl ?_
  refine tw_iload_n 1 dJx35411_next_0502b_59 rfl rfl ?_
  refine tw_dup_x1 dJx35411_next_0502b_60 rfl rfl ?_
  refine tw_put rfl in_2 tyJx35411 tyJx35411_ok nmJx35411 1 dJx35411_next_0502b_61 w_1397 rfl (by decide) f10 rfl rfl rfl rfl (Nat.le_of_ble_eq_true rfl) [.int (nI (j + 1)), .int (nI j), .int m, .ref lst] rfl ?_
  obtain ⟨h11, eh11⟩ : ∃ z : tw_H, z = tw_up h7 x (.inr (2, [.int (nI (j + 1)), .int (nI j), .int m, .ref lst])) := ⟨_, rfl⟩
  rw [← eh11]
  have f12 : h11 lst = some (.inr (3, [.int m, .ref a, .int (nI n)])) := by rw [eh11, tw_up_n (tw_ne f8 f10 (by simp))]; exact f8
  have f13 : h11 a = some (.inl (d.2 7, 10, .inr (.inr (.inr (.inr f))))) := by rw [eh11, tw_up_n (tw_ne f9 f10 (by simp))]; exact f9
  have f14 : h11 x = some (.inr (2, [.int (nI (j + 1)), .int (nI j), .int m, .ref lst])) := by rw [eh11]; exact tw_up_s
  refine tw_aald (v := .ref y) 7 rfl rfl dJx35411_next_0502b_64 f13 (vp_in_nI (Nat.lt_of_lt_of_le hj hn) (by decide)) (by rw [nI_clamp (by omega), hy]; rfl) ?_
  exact tw_aret dJx35411_next_0502b_65 rfl (Or.inl ⟨_, rfl⟩) (Or.inl ⟨_, rfl, rfl, (by rw [eh11, eh7]; simp only [tw_up_up])⟩)

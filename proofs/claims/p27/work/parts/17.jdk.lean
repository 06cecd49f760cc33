/-! the class's methods over the typed heap. Laid by wip/p5/mkclass.py. -/
set_option maxHeartbeats 4000000 in
set_option maxRecDepth 100000 in
theorem c_J3_checkIndex_8e157 (d : tw_D) (g : tw_G) (τ : tw_K) (h : tw_H) (hw : tw_wt d g τ h) (i : Int32) (n : Int32) (h1 : ¬ i < 0) (h2 : i < n) : tw_Ct d mJ3_checkIndex_8e157 0 0 [.int i, .int n, .null] h (tw_qi (fun r h1 => h1 = h ∧ r = i) tw_nx) := by
  refine tw_of (by decide +kernel) (Nat.le_of_ble_eq_true rfl) ?_
  show tw_W d mJ3_checkIndex_8e157 _ 0 [(0, .int i), (1, .int n), (2, .null)] [] h 0 0
  have sp0 := tw_sp.rf hw
  refine tw_iload_n 0 dJ3_checkIndex_8e157_0 rfl rfl ?_
  refine tw_if_lt 9 dJ3_checkIndex_8e157_1 (by decide) (fun c1 => absurd c1 (h1)) (fun _ => ?_)
  refine tw_iload_n 0 dJ3_checkIndex_8e157_4 rfl rfl ?_
  refine tw_iload_n 1 dJ3_checkIndex_8e157_5 rfl rfl ?_
  refine tw_icmp_lt 16 dJ3_checkIndex_8e157_6 (by decide) (fun _ => ?_) (fun c2 => absurd (h2) c2)
  refine tw_iload_n 0 dJ3_checkIndex_8e157_16 rfl rfl ?_
  exact tw_iret dJ3_checkIndex_8e157_17 rfl (Or.inl ⟨_, rfl, ⟨rfl, rfl⟩⟩)

set_option maxHeartbeats 4000000 in
set_option maxRecDepth 100000 in
theorem c_J15_checkIndex_7cf53 (d : tw_D) (g : tw_G) (τ : tw_K) (h : tw_H) (hw : tw_wt d g τ h) (i : Int32) (n : Int32) (h1 : ¬ i < 0) (h2 : i < n) : tw_Ct d mJ15_checkIndex_7cf53 0 0 [.int i, .int n] h (tw_qi (fun r h1 => h1 = h ∧ r = i) tw_nx) := by
  refine tw_of (by decide +kernel) (Nat.le_of_ble_eq_true rfl) ?_
  show tw_W d mJ15_checkIndex_7cf53 _ 0 [(0, .int i), (1, .int n)] [] h 0 0
  have sp0 := tw_sp.rf hw
  refine tw_iload_n 0 dJ15_checkIndex_7cf53_0 rfl rfl ?_
  refine tw_iload_n 1 dJ15_checkIndex_7cf53_1 rfl rfl ?_
  refine tw_null dJ15_checkIndex_7cf53_2 ?_
  refine tw_bi (tw_callS (M := mJ15_checkIndex_7cf53) (pc := 3) okJ3_checkIndex_8e157 dJ15_checkIndex_7cf53_3 w_1299 [.int i, .int n, .null] [] rfl rfl ⟨by decide, by decide⟩ (Nat.le_of_ble_eq_true rfl) (c_J3_checkIndex_8e157 d g τ h sp0.1 i n h1 h2) 0 0 (Nat.le_of_ble_eq_true rfl) (Nat.le_of_ble_eq_true rfl)) (fun r3 h2 q1 => ?_) (fun E h1 q => q.elim)
  obtain ⟨q1e, q1r⟩ := q1
  rw [q1e, q1r]
  exact tw_iret dJ15_checkIndex_7cf53_6 rfl (Or.inl ⟨_, rfl, ⟨rfl, rfl⟩⟩)

set_option maxHeartbeats 4000000 in
set_option maxRecDepth 100000 in
theorem c24_size (d : tw_D) (g : tw_G) (τ : tw_K) (h : tw_H) (hw : tw_wt d g τ h) (x : Nat) (kx : τ x = 24) : tw_Ct d mJx4a65c_size_8abf5 0 0 [.ref x] h (tw_qi (fun r h1 => h1 = h ∧ r = nI (g.2 3)) tw_nx) := by
  refine tw_of (by decide +kernel) (Nat.le_of_ble_eq_true rfl) ?_
  show tw_W d mJx4a65c_size_8abf5 _ 0 [(0, .ref x)] [] h 0 0
  have sp0 := tw_sp.rf hw
  refine tw_aload_n 0 dJx4a65c_size_8abf5_0 rfl rfl ?_
  obtain ⟨e1, f2, ⟨el3, rfl, k4⟩, k5⟩ := sp0.1 x 24 kx (by decide)
  refine tw_get (v := .int (nI (g.2 3))) rfl in_3 2 dJx4a65c_size_8abf5_1 w_1138 rfl (by decide) f2 rfl ?_
  exact tw_iret dJx4a65c_size_8abf5_4 rfl (Or.inl ⟨_, rfl, ⟨rfl, rfl⟩⟩)

set_option maxHeartbeats 4000000 in
set_option maxRecDepth 100000 in
theorem c24_elem (d : tw_D) (g : tw_G) (τ : tw_K) (h : tw_H) (hw : tw_wt d g τ h) (x : Nat) (kx : τ x = 24) (j : Nat) (hj : j < (g.2 3)) : tw_Ct d mJx4a65c_elementData_915e3 0 0 [.ref x, .int (nI j)] h (tw_qr (fun r h1 => h1 = h ∧ τ r = 21 ∧ r = tw_el h x j) tw_nx) := by
  refine tw_of (by decide +kernel) (Nat.le_of_ble_eq_true rfl) ?_
  show tw_W d mJx4a65c_elementData_915e3 _ 0 [(0, .ref x), (1, .int (nI j))] [] h 0 0
  have sp0 := tw_sp.rf hw
  refine tw_aload_n 0 dJx4a65c_elementData_915e3_0 rfl rfl ?_
  obtain ⟨e1, f2, ⟨el3, rfl, k4⟩, k5⟩ := sp0.1 x 24 kx (by decide)
  refine tw_get (v := .ref el3) rfl in_3 1 dJx4a65c_elementData_915e3_1 w_1135 rfl (by decide) f2 rfl ?_
  refine tw_iload_n 1 dJx4a65c_elementData_915e3_4 rfl rfl ?_
  have k6 : τ el3 = 27 := k4.resolve_left (fun q => absurd hj (by rw [q.2.1]; exact Nat.not_lt_zero _))
  obtain ⟨e7, f8, ⟨F9, rfl, hc10, hc11⟩, un12⟩ := sp0.1 el3 27 k6 (by decide)
  obtain ⟨y13, hy14, ky15⟩ := hc11 j hj
  refine tw_aald (v := .ref y13) 7 rfl rfl dJx4a65c_elementData_915e3_5 f8 (vp_in_nI (Nat.lt_of_lt_of_le hj hc10) (by omega)) (by rw [nI_clamp (by omega), hy14]; rfl) ?_
  exact tw_aret dJx4a65c_elementData_915e3_6 rfl (Or.inl ⟨_, rfl⟩) (Or.inl ⟨_, rfl, ⟨rfl, ky15, (tw_el_e f2 f8 hy14).symm⟩⟩)

set_option maxHeartbeats 4000000 in
set_option maxRecDepth 100000 in
theorem c24_get (d : tw_D) (g : tw_G) (τ : tw_K) (h : tw_H) (hw : tw_wt d g τ h) (x : Nat) (kx : τ x = 24) (j : Nat) (hj : j < (g.2 3)) (hm : (g.2 3) < 2 ^ 31) : tw_Ct d mJx4a65c_get_915e3 0 0 [.ref x, .int (nI j)] h (tw_qr (fun r h1 => h1 = h ∧ τ r = 21 ∧ r = tw_el h x j) tw_nx) := by
  refine tw_of (by decide +kernel) (Nat.le_of_ble_eq_true rfl) ?_
  show tw_W d mJx4a65c_get_915e3 _ 0 [(0, .ref x), (1, .int (nI j))] [] h 0 0
  have sp0 := tw_sp.rf hw
  refine tw_iload_n 1 dJx4a65c_get_915e3_0 rfl rfl ?_
  refine tw_aload_n 0 dJx4a65c_get_915e3_1 rfl rfl ?_
  obtain ⟨e1, f2, ⟨el3, rfl, k4⟩, k5⟩ := sp0.1 x 24 kx (by decide)
  refine tw_get (v := .int (nI (g.2 3))) rfl in_3 2 dJx4a65c_get_915e3_2 w_1138 rfl (by decide) f2 rfl ?_
  refine tw_bi (tw_callS (M := mJx4a65c_get_915e3) (pc := 5) okJ15_checkIndex_7cf53 dJx4a65c_get_915e3_5 w_1296 [.int (nI j), .int (nI (g.2 3))] [] rfl rfl ⟨by decide, by decide⟩ (Nat.le_of_ble_eq_true rfl) (c_J15_checkIndex_7cf53 d g τ h sp0.1 (nI j) (nI (g.2 3)) (nI_pos (by omega)) (nI_lt hj hm)) 0 0 (Nat.le_of_ble_eq_true rfl) (Nat.le_of_ble_eq_true rfl)) (fun r8 h7 q6 => ?_) (fun E h1 q => q.elim)
  obtain ⟨q6e, q6r⟩ := q6
  rw [q6e, q6r]
  refine tw_pop dJx4a65c_get_915e3_8 rfl ?_
  refine tw_aload_n 0 dJx4a65c_get_915e3_9 rfl rfl ?_
  refine tw_iload_n 1 dJx4a65c_get_915e3_10 rfl rfl ?_
  refine tw_br (tw_callV (M := mJx4a65c_get_915e3) (pc := 11) okJx4a65c_elementData_915e3 dJx4a65c_get_915e3_11 w_1300 rfl f2 [.int (nI j)] [] rfl rfl ⟨by decide, by decide⟩ (Nat.le_of_ble_eq_true rfl) (c24_elem d g τ h sp0.1 x kx j hj) 0 0 (Nat.le_of_ble_eq_true rfl) (Nat.le_of_ble_eq_true rfl)) (fun r11 h10 q9 => ?_) (fun E h1 q => q.elim)
  obtain ⟨q9e, q9k, q9l⟩ := q9
  rw [q9e]
  exact tw_aret dJx4a65c_get_915e3_14 rfl (Or.inl ⟨_, rfl⟩) (Or.inl ⟨_, rfl, ⟨rfl, q9k, q9l⟩⟩)

set_option maxHeartbeats 4000000 in
set_option maxRecDepth 100000 in
theorem c25_size (d : tw_D) (g : tw_G) (τ : tw_K) (h : tw_H) (hw : tw_wt d g τ h) (x : Nat) (kx : τ x = 25) : tw_Ct d mJx4a65c_size_8abf5 0 0 [.ref x] h (tw_qi (fun r h1 => h1 = h ∧ r = nI (g.2 4)) tw_nx) := by
  refine tw_of (by decide +kernel) (Nat.le_of_ble_eq_true rfl) ?_
  show tw_W d mJx4a65c_size_8abf5 _ 0 [(0, .ref x)] [] h 0 0
  have sp0 := tw_sp.rf hw
  refine tw_aload_n 0 dJx4a65c_size_8abf5_0 rfl rfl ?_
  obtain ⟨e1, f2, ⟨el3, rfl, k4⟩, k5⟩ := sp0.1 x 25 kx (by decide)
  refine tw_get (v := .int (nI (g.2 4))) rfl in_3 2 dJx4a65c_size_8abf5_1 w_1138 rfl (by decide) f2 rfl ?_
  exact tw_iret dJx4a65c_size_8abf5_4 rfl (Or.inl ⟨_, rfl, ⟨rfl, rfl⟩⟩)

set_option maxHeartbeats 4000000 in
set_option maxRecDepth 100000 in
theorem c25_elem (d : tw_D) (g : tw_G) (τ : tw_K) (h : tw_H) (hw : tw_wt d g τ h) (x : Nat) (kx : τ x = 25) (j : Nat) (hj : j < (g.2 4)) : tw_Ct d mJx4a65c_elementData_915e3 0 0 [.ref x, .int (nI j)] h (tw_qr (fun r h1 => h1 = h ∧ τ r = 23 ∧ r = tw_el h x j) tw_nx) := by
  refine tw_of (by decide +kernel) (Nat.le_of_ble_eq_true rfl) ?_
  show tw_W d mJx4a65c_elementData_915e3 _ 0 [(0, .ref x), (1, .int (nI j))] [] h 0 0
  have sp0 := tw_sp.rf hw
  refine tw_aload_n 0 dJx4a65c_elementData_915e3_0 rfl rfl ?_
  obtain ⟨e1, f2, ⟨el3, rfl, k4⟩, k5⟩ := sp0.1 x 25 kx (by decide)
  refine tw_get (v := .ref el3) rfl in_3 1 dJx4a65c_elementData_915e3_1 w_1135 rfl (by decide) f2 rfl ?_
  refine tw_iload_n 1 dJx4a65c_elementData_915e3_4 rfl rfl ?_
  have k6 : τ el3 = 28 := k4.resolve_left (fun q => absurd hj (by rw [q.2.1]; exact Nat.not_lt_zero _))
  obtain ⟨e7, f8, ⟨F9, rfl, hc10, hc11⟩, un12⟩ := sp0.1 el3 28 k6 (by decide)
  obtain ⟨y13, hy14, ky15⟩ := hc11 j hj
  refine tw_aald (v := .ref y13) 7 rfl rfl dJx4a65c_elementData_915e3_5 f8 (vp_in_nI (Nat.lt_of_lt_of_le hj hc10) (by omega)) (by rw [nI_clamp (by omega), hy14]; rfl) ?_
  exact tw_aret dJx4a65c_elementData_915e3_6 rfl (Or.inl ⟨_, rfl⟩) (Or.inl ⟨_, rfl, ⟨rfl, ky15, (tw_el_e f2 f8 hy14).symm⟩⟩)

set_option maxHeartbeats 4000000 in
set_option maxRecDepth 100000 in
theorem c25_get (d : tw_D) (g : tw_G) (τ : tw_K) (h : tw_H) (hw : tw_wt d g τ h) (x : Nat) (kx : τ x = 25) (j : Nat) (hj : j < (g.2 4)) (hm : (g.2 4) < 2 ^ 31) : tw_Ct d mJx4a65c_get_915e3 0 0 [.ref x, .int (nI j)] h (tw_qr (fun r h1 => h1 = h ∧ τ r = 23 ∧ r = tw_el h x j) tw_nx) := by
  refine tw_of (by decide +kernel) (Nat.le_of_ble_eq_true rfl) ?_
  show tw_W d mJx4a65c_get_915e3 _ 0 [(0, .ref x), (1, .int (nI j))] [] h 0 0
  have sp0 := tw_sp.rf hw
  refine tw_iload_n 1 dJx4a65c_get_915e3_0 rfl rfl ?_
  refine tw_aload_n 0 dJx4a65c_get_915e3_1 rfl rfl ?_
  obtain ⟨e1, f2, ⟨el3, rfl, k4⟩, k5⟩ := sp0.1 x 25 kx (by decide)
  refine tw_get (v := .int (nI (g.2 4))) rfl in_3 2 dJx4a65c_get_915e3_2 w_1138 rfl (by decide) f2 rfl ?_
  refine tw_bi (tw_callS (M := mJx4a65c_get_915e3) (pc := 5) okJ15_checkIndex_7cf53 dJx4a65c_get_915e3_5 w_1296 [.int (nI j), .int (nI (g.2 4))] [] rfl rfl ⟨by decide, by decide⟩ (Nat.le_of_ble_eq_true rfl) (c_J15_checkIndex_7cf53 d g τ h sp0.1 (nI j) (nI (g.2 4)) (nI_pos (by omega)) (nI_lt hj hm)) 0 0 (Nat.le_of_ble_eq_true rfl) (Nat.le_of_ble_eq_true rfl)) (fun r8 h7 q6 => ?_) (fun E h1 q => q.elim)
  obtain ⟨q6e, q6r⟩ := q6
  rw [q6e, q6r]
  refine tw_pop dJx4a65c_get_915e3_8 rfl ?_
  refine tw_aload_n 0 dJx4a65c_get_915e3_9 rfl rfl ?_
  refine tw_iload_n 1 dJx4a65c_get_915e3_10 rfl rfl ?_
  refine tw_br (tw_callV (M := mJx4a65c_get_915e3) (pc := 11) okJx4a65c_elementData_915e3 dJx4a65c_get_915e3_11 w_1300 rfl f2 [.int (nI j)] [] rfl rfl ⟨by decide, by decide⟩ (Nat.le_of_ble_eq_true rfl) (c25_elem d g τ h sp0.1 x kx j hj) 0 0 (Nat.le_of_ble_eq_true rfl) (Nat.le_of_ble_eq_true rfl)) (fun r11 h10 q9 => ?_) (fun E h1 q => q.elim)
  obtain ⟨q9e, q9k, q9l⟩ := q9
  rw [q9e]
  exact tw_aret dJx4a65c_get_915e3_14 rfl (Or.inl ⟨_, rfl⟩) (Or.inl ⟨_, rfl, ⟨rfl, q9k, q9l⟩⟩)

set_option maxHeartbeats 4000000 in
set_option maxRecDepth 100000 in
theorem c26_size (d : tw_D) (g : tw_G) (τ : tw_K) (h : tw_H) (hw : tw_wt d g τ h) (x : Nat) (kx : τ x = 26) : tw_Ct d mJx4a65c_size_8abf5 0 0 [.ref x] h (tw_qi (fun r h1 => h1 = h ∧ r = nI (g.2 5)) tw_nx) := by
  refine tw_of (by decide +kernel) (Nat.le_of_ble_eq_true rfl) ?_
  show tw_W d mJx4a65c_size_8abf5 _ 0 [(0, .ref x)] [] h 0 0
  have sp0 := tw_sp.rf hw
  refine tw_aload_n 0 dJx4a65c_size_8abf5_0 rfl rfl ?_
  obtain ⟨e1, f2, ⟨el3, rfl, k4⟩, k5⟩ := sp0.1 x 26 kx (by decide)
  refine tw_get (v := .int (nI (g.2 5))) rfl in_3 2 dJx4a65c_size_8abf5_1 w_1138 rfl (by decide) f2 rfl ?_
  exact tw_iret dJx4a65c_size_8abf5_4 rfl (Or.inl ⟨_, rfl, ⟨rfl, rfl⟩⟩)

set_option maxHeartbeats 4000000 in
set_option maxRecDepth 100000 in
theorem c26_elem (d : tw_D) (g : tw_G) (τ : tw_K) (h : tw_H) (hw : tw_wt d g τ h) (x : Nat) (kx : τ x = 26) (j : Nat) (hj : j < (g.2 5)) : tw_Ct d mJx4a65c_elementData_915e3 0 0 [.ref x, .int (nI j)] h (tw_qr (fun r h1 => h1 = h ∧ τ r = 22 ∧ r = tw_el h x j) tw_nx) := by
  refine tw_of (by decide +kernel) (Nat.le_of_ble_eq_true rfl) ?_
  show tw_W d mJx4a65c_elementData_915e3 _ 0 [(0, .ref x), (1, .int (nI j))] [] h 0 0
  have sp0 := tw_sp.rf hw
  refine tw_aload_n 0 dJx4a65c_elementData_915e3_0 rfl rfl ?_
  obtain ⟨e1, f2, ⟨el3, rfl, k4⟩, k5⟩ := sp0.1 x 26 kx (by decide)
  refine tw_get (v := .ref el3) rfl in_3 1 dJx4a65c_elementData_915e3_1 w_1135 rfl (by decide) f2 rfl ?_
  refine tw_iload_n 1 dJx4a65c_elementData_915e3_4 rfl rfl ?_
  have k6 : τ el3 = 29 := k4.resolve_left (fun q => absurd hj (by rw [q.2.1]; exact Nat.not_lt_zero _))
  obtain ⟨e7, f8, ⟨F9, rfl, hc10, hc11⟩, un12⟩ := sp0.1 el3 29 k6 (by decide)
  obtain ⟨y13, hy14, ky15⟩ := hc11 j hj
  refine tw_aald (v := .ref y13) 7 rfl rfl dJx4a65c_elementData_915e3_5 f8 (vp_in_nI (Nat.lt_of_lt_of_le hj hc10) (by omega)) (by rw [nI_clamp (by omega), hy14]; rfl) ?_
  exact tw_aret dJx4a65c_elementData_915e3_6 rfl (Or.inl ⟨_, rfl⟩) (Or.inl ⟨_, rfl, ⟨rfl, ky15, (tw_el_e f2 f8 hy14).symm⟩⟩)

set_option maxHeartbeats 4000000 in
set_option maxRecDepth 100000 in
theorem c26_get (d : tw_D) (g : tw_G) (τ : tw_K) (h : tw_H) (hw : tw_wt d g τ h) (x : Nat) (kx : τ x = 26) (j : Nat) (hj : j < (g.2 5)) (hm : (g.2 5) < 2 ^ 31) : tw_Ct d mJx4a65c_get_915e3 0 0 [.ref x, .int (nI j)] h (tw_qr (fun r h1 => h1 = h ∧ τ r = 22 ∧ r = tw_el h x j) tw_nx) := by
  refine tw_of (by decide +kernel) (Nat.le_of_ble_eq_true rfl) ?_
  show tw_W d mJx4a65c_get_915e3 _ 0 [(0, .ref x), (1, .int (nI j))] [] h 0 0
  have sp0 := tw_sp.rf hw
  refine tw_iload_n 1 dJx4a65c_get_915e3_0 rfl rfl ?_
  refine tw_aload_n 0 dJx4a65c_get_915e3_1 rfl rfl ?_
  obtain ⟨e1, f2, ⟨el3, rfl, k4⟩, k5⟩ := sp0.1 x 26 kx (by decide)
  refine tw_get (v := .int (nI (g.2 5))) rfl in_3 2 dJx4a65c_get_915e3_2 w_1138 rfl (by decide) f2 rfl ?_
  refine tw_bi (tw_callS (M := mJx4a65c_get_915e3) (pc := 5) okJ15_checkIndex_7cf53 dJx4a65c_get_915e3_5 w_1296 [.int (nI j), .int (nI (g.2 5))] [] rfl rfl ⟨by decide, by decide⟩ (Nat.le_of_ble_eq_true rfl) (c_J15_checkIndex_7cf53 d g τ h sp0.1 (nI j) (nI (g.2 5)) (nI_pos (by omega)) (nI_lt hj hm)) 0 0 (Nat.le_of_ble_eq_true rfl) (Nat.le_of_ble_eq_true rfl)) (fun r8 h7 q6 => ?_) (fun E h1 q => q.elim)
  obtain ⟨q6e, q6r⟩ := q6
  rw [q6e, q6r]
  refine tw_pop dJx4a65c_get_915e3_8 rfl ?_
  refine tw_aload_n 0 dJx4a65c_get_915e3_9 rfl rfl ?_
  refine tw_iload_n 1 dJx4a65c_get_915e3_10 rfl rfl ?_
  refine tw_br (tw_callV (M := mJx4a65c_get_915e3) (pc := 11) okJx4a65c_elementData_915e3 dJx4a65c_get_915e3_11 w_1300 rfl f2 [.int (nI j)] [] rfl rfl ⟨by decide, by decide⟩ (Nat.le_of_ble_eq_true rfl) (c26_elem d g τ h sp0.1 x kx j hj) 0 0 (Nat.le_of_ble_eq_true rfl) (Nat.le_of_ble_eq_true rfl)) (fun r11 h10 q9 => ?_) (fun E h1 q => q.elim)
  obtain ⟨q9e, q9k, q9l⟩ := q9
  rw [q9e]
  exact tw_aret dJx4a65c_get_915e3_14 rfl (Or.inl ⟨_, rfl⟩) (Or.inl ⟨_, rfl, ⟨rfl, q9k, q9l⟩⟩)

set_option maxHeartbeats 4000000 in
set_option maxRecDepth 100000 in
theorem c_it_init (d : tw_D) (h : tw_H) (x : Nat) (hx : h x = some (.inr (2, [.int 0, .int 0, .int 0, .null]))) (lst a : Nat) (m z : Int32) (hl : h lst = some (.inr (3, [.int m, .ref a, .int z]))) : tw_Ct d mJx35411_init_45d68 0 0 [.ref x, .ref lst] h (tw_qv (fun h1 => h1 = tw_up h x (.inr (2, [.int 0, .int (-1), .int m, .ref lst]))) tw_nx) := by
  refine tw_of (by decide +kernel) (Nat.le_of_ble_eq_true rfl) ?_
  show tw_W d mJx35411_init_45d68 _ 0 [(0, .ref x), (1, .ref lst)] [] h 0 0
  refine tw_aload_n 0 dJx35411_init_45d68_0 rfl rfl ?_
  refine tw_aload_n 1 dJx35411_init_45d68_1 rfl rfl ?_
  refine tw_putF rfl in_2 tyJx35411 tyJx35411_ok nmJx35411 3 dJx35411_init_45d68_2 w_1395 rfl (by decide) hx rfl rfl rfl rfl rfl rfl (Nat.le_of_ble_eq_true rfl) [.int 0, .int 0, .int 0, .ref lst] rfl ?_
  obtain ⟨h1, eh1⟩ : ∃ z : tw_H, z = tw_up h x (.inr (2, [.int 0, .int 0, .int 0, .ref lst])) := ⟨_, rfl⟩
  rw [← eh1]
  have f2 : h1 lst = some (.inr (3, [.int m, .ref a, .int z])) := by rw [eh1, tw_up_n (tw_ne hl hx (by simp))]; exact hl
  have f3 : h1 x = some (.inr (2, [.int 0, .int 0, .int 0, .ref lst])) := by rw [eh1]; exact tw_up_s
  refine tw_aload_n 0 dJx35411_init_45d68_5 rfl rfl ?_
  refine tw_objInit dJx35411_init_45d68_6 w_1391 w_117 w_118 ⟨by decide, Nat.le_of_ble_eq_true rfl⟩ ?_
  refine tw_aload_n 0 dJx35411_init_45d68_9 rfl rfl ?_
  refine tw_iconst (v := -1) dJx35411_init_45d68_10 (by decide) ?_
  refine tw_put rfl in_2 tyJx35411 tyJx35411_ok nmJx35411 1 dJx35411_init_45d68_11 w_1393 rfl (by decide) f3 rfl rfl rfl rfl (Nat.le_of_ble_eq_true rfl) [.int 0, .int (-1), .int 0, .ref lst] rfl ?_
  obtain ⟨h4, eh4⟩ : ∃ z : tw_H, z = tw_up h1 x (.inr (2, [.int 0, .int (-1), .int 0, .ref lst])) := ⟨_, rfl⟩
  rw [← eh4]
  have f5 : h4 lst = some (.inr (3, [.int m, .ref a, .int z])) := by rw [eh4, tw_up_n (tw_ne f2 f3 (by simp))]; exact f2
  have f6 : h4 x = some (.inr (2, [.int 0, .int (-1), .int 0, .ref lst])) := by rw [eh4]; exact tw_up_s
  refine tw_aload_n 0 dJx35411_init_45d68_14 rfl rfl ?_
  refine tw_aload_n 0 dJx35411_init_45d68_15 rfl rfl ?_
  refine tw_get (v := .ref lst) rfl in_2 3 dJx35411_init_45d68_16 w_1395 rfl (by decide) f6 rfl ?_
  refine tw_getU (v := .int m) rfl in_3 0 dJx35411_init_45d68_19 w_1140 w_1141 (by decide) f5 rfl ?_
  refine tw_put rfl in_2 tyJx35411 tyJx35411_ok nmJx35411 2 dJx35411_init_45d68_22 w_1394 rfl (by decide) f6 rfl rfl rfl rfl (Nat.le_of_ble_eq_true rfl) [.int 0, .int (-1), .int m, .ref lst] rfl ?_
  obtain ⟨h7, eh7⟩ : ∃ z : tw_H, z = tw_up h4 x (.inr (2, [.int 0, .int (-1), .int m, .ref lst])) := ⟨_, rfl⟩
  rw [← eh7]
  have f8 : h7 lst = some (.inr (3, [.int m, .ref a, .int z])) := by rw [eh7, tw_up_n (tw_ne f5 f6 (by simp))]; exact f5
  have f9 : h7 x = some (.inr (2, [.int 0, .int (-1), .int m, .ref lst])) := by rw [eh7]; exact tw_up_s
  exact tw_vret dJx35411_init_45d68_25 rfl (Or.inl ⟨rfl, (by rw [eh7, eh4, eh1] <;> simp only [tw_up_up])⟩)

set_option maxHeartbeats 4000000 in
set_option maxRecDepth 100000 in
theorem c_iterator (d : tw_D) (h : tw_H) (x a : Nat) (m z : Int32) (hx : h x = some (.inr (3, [.int m, .ref a, .int z]))) : tw_Ct d mJx4a65c_iterator_32c93 1 4 [.ref x] h (tw_qr (fun r h1 => h r = none ∧ h1 = tw_up h r (.inr (2, [.int 0, .int (-1), .int m, .ref x]))) tw_nx) := by
  refine tw_of (by decide +kernel) (Nat.le_of_ble_eq_true rfl) ?_
  show tw_W d mJx4a65c_iterator_32c93 _ 0 [(0, .ref x)] [] h 1 4
  refine tw_new (ci := 2) rfl in_2 tyJx35411 tyJx35411_ok dJx4a65c_iterator_32c93_0 w_1386 w_1387 w_101 (fs := [.int 0, .int 0, .int 0, .null]) (fun j hj => by rcases (show j = 0 ∨ j = 1 ∨ j = 2 ∨ j = 3 by omega) with rfl | rfl | rfl | rfl <;> rfl) 0 0 (Nat.le_of_ble_eq_true rfl) (Nat.le_of_ble_eq_true rfl) (fun q1 hq2 hA3 => ?_)
  obtain ⟨h4, eh4⟩ : ∃ z : tw_H, z = tw_up h q1 (.inr (2, [.int 0, .int 0, .int 0, .null])) := ⟨_, rfl⟩
  rw [← eh4]
  have ne6 := tw_neF hx hq2
  have f5 : h4 x = some (.inr (3, [.int m, .ref a, .int z])) := by rw [eh4, tw_up_n ne6]; exact hx
  have f7 : h4 q1 = some (.inr (2, [.int 0, .int 0, .int 0, .null])) := by rw [eh4]; exact tw_up_s
  refine tw_dup dJx4a65c_iterator_32c93_3 rfl ?_
  refine tw_aload_n 0 dJx4a65c_iterator_32c93_4 rfl rfl ?_
  refine tw_bv (tw_callI (M := mJx4a65c_iterator_32c93) (pc := 5) okJx35411_init_45d68 dJx4a65c_iterator_32c93_5 w_1388 rfl [.ref x] [.ref q1] rfl rfl ⟨by decide, by decide⟩ (Nat.le_of_ble_eq_true rfl) (c_it_init d h4 q1 f7 x a m z f5) 0 0 (Nat.le_of_ble_eq_true rfl) (Nat.le_of_ble_eq_true rfl)) (fun h9 q8 => ?_) (fun E h1 q => q.elim)
  have f11 : h9 x = some (.inr (3, [.int m, .ref a, .int z])) := by rw [q8, tw_up_n ne6]; exact f5
  have f12 : h9 q1 = some (.inr (2, [.int 0, .int (-1), .int m, .ref x])) := by rw [q8]; exact tw_up_s
  exact tw_aret dJx4a65c_iterator_32c93_8 rfl (Or.inl ⟨_, rfl⟩) (Or.inl ⟨_, rfl, hq2, (by rw [q8, eh4] <;> simp only [tw_up_up])⟩)

set_option maxHeartbeats 4000000 in
set_option maxRecDepth 100000 in
theorem c_hasNext (d : tw_D) (h : tw_H) (x lst a j n : Nat) (lr m m2 : Int32) (hx : h x = some (.inr (2, [.int (nI j), .int lr, .int m2, .ref lst]))) (hl : h lst = some (.inr (3, [.int m, .ref a, .int (nI n)]))) (hj : j ≤ n) (hn : n ≤ 10) : tw_Ct d mJx35411_hasNext_aae02 0 0 [.ref x] h (tw_qi (fun r h1 => h1 = h ∧ (r = 0 ∧ j = n ∨ r = 1 ∧ j < n)) tw_nx) := by
  refine tw_of (by decide +kernel) (Nat.le_of_ble_eq_true rfl) ?_
  show tw_W d mJx35411_hasNext_aae02 _ 0 [(0, .ref x)] [] h 0 0
  refine tw_aload_n 0 dJx35411_hasNext_aae02_0 rfl rfl ?_
  refine tw_get (v := .int (nI j)) rfl in_2 0 dJx35411_hasNext_aae02_1 w_1392 rfl (by decide) hx rfl ?_
  refine tw_aload_n 0 dJx35411_hasNext_aae02_4 rfl rfl ?_
  refine tw_get (v := .ref lst) rfl in_2 3 dJx35411_hasNext_aae02_5 w_1395 rfl (by decide) hx rfl ?_
  refine tw_getN (v := .int (nI n)) rfl in_3 2 dJx35411_hasNext_aae02_8 w_1137 rfl (by decide) hl rfl ?_
  refine tw_icmp_eq 18 dJx35411_hasNext_aae02_11 (by decide) (fun c1 => ?_) (fun c1 => ?_)
  · refine tw_iconst (v := 0) dJx35411_hasNext_aae02_18 (by decide) ?_
    exact tw_zret dJx35411_hasNext_aae02_19 rfl rfl (Or.inl ⟨_, rfl, rfl, Or.inl ⟨rfl, tw_nIj c1 (by omega) (by omega)⟩⟩)
  · refine tw_iconst (v := 1) dJx35411_hasNext_aae02_14 (by decide) ?_
    refine tw_goto 19 dJx35411_hasNext_aae02_15 (by decide) ?_
    exact tw_zret dJx35411_hasNext_aae02_19 rfl rfl (Or.inl ⟨_, rfl, rfl, Or.inr ⟨rfl, Nat.lt_of_le_of_ne hj (fun q => c1 (by rw [q]))⟩⟩)

set_option maxHeartbeats 4000000 in
set_option maxRecDepth 100000 in
theorem c_checkMod (d : tw_D) (h : tw_H) (x lst a : Nat) (m z c9 lr : Int32) (hx : h x = some (.inr (2, [.int c9, .int lr, .int m, .ref lst]))) (hl : h lst = some (.inr (3, [.int m, .ref a, .int z]))) : tw_Ct d mJx35411_checkForComodification_da8c8 0 0 [.ref x] h (tw_qv (fun h1 => h1 = h) tw_nx) := by
  refine tw_of (by decide +kernel) (Nat.le_of_ble_eq_true rfl) ?_
  show tw_W d mJx35411_checkForComodification_da8c8 _ 0 [(0, .ref x)] [] h 0 0
  refine tw_aload_n 0 dJx35411_checkForComodification_da8c8_0 rfl rfl ?_
  refine tw_get (v := .ref lst) rfl in_2 3 dJx35411_checkForComodification_da8c8_1 w_1395 rfl (by decide) hx rfl ?_
  refine tw_getU (v := .int m) rfl in_3 0 dJx35411_checkForComodification_da8c8_4 w_1140 w_1141 (by decide) hl rfl ?_
  refine tw_aload_n 0 dJx35411_checkForComodification_da8c8_7 rfl rfl ?_
  refine tw_get (v := .int m) rfl in_2 2 dJx35411_checkForComodification_da8c8_8 w_1394 rfl (by decide) hx rfl ?_
  refine tw_icmp_eq 22 dJx35411_checkForComodification_da8c8_11 (by decide) (fun _ => ?_) (fun c1 => absurd (rfl) c1)
  exact tw_vret dJx35411_checkForComodification_da8c8_22 rfl (Or.inl ⟨rfl, rfl⟩)

set_option maxHeartbeats 4000000 in
set_option maxRecDepth 100000 in
theorem c_next (d : tw_D) (h : tw_H) (x lst a j n y : Nat) (lr m : Int32) (f : Nat → Option Nat) (hx : h x = some (.inr (2, [.int (nI j), .int lr, .int m, .ref lst]))) (hl : h lst = some (.inr (3, [.int m, .ref a, .int (nI n)]))) (ha : h a = some (.inl (d.2 7, 10, .inr (.inr (.inr (.inr f)))))) (hj : j < n) (hn : n ≤ 10) (hy : f j = some y) : tw_Ct d mJx35411_next_0502b 0 0 [.ref x] h (tw_qr (fun r h1 => r = y ∧ h1 = tw_up h x (.inr (2, [.int (nI (j + 1)), .int (nI j), .int m, .ref lst]))) tw_nx) := by
  refine tw_of (by decide +kernel) (Nat.le_of_ble_eq_true rfl) ?_
  show tw_W d mJx35411_next_0502b _ 0 [(0, .ref x)] [] h 0 0
  refine tw_aload_n 0 dJx35411_next_0502b_0 rfl rfl ?_
  refine tw_bv (tw_callV (M := mJx35411_next_0502b) (pc := 1) okJx35411_checkForComodification_da8c8 dJx35411_next_0502b_1 w_1424 rfl hx [] [] rfl rfl ⟨by decide, by decide⟩ (Nat.le_of_ble_eq_true rfl) (c_checkMod d h x lst a m (nI n) (nI j) lr hx hl) 0 0 (Nat.le_of_ble_eq_true rfl) (Nat.le_of_ble_eq_true rfl)) (fun h2 q1 => ?_) (fun E h1 q => q.elim)
  rw [q1]
  refine tw_aload_n 0 dJx35411_next_0502b_4 rfl rfl ?_
  refine tw_get (v := .int (nI j)) rfl in_2 0 dJx35411_next_0502b_5 w_1392 rfl (by decide) hx rfl ?_
  refine tw_istore_n [(1, .int (nI j)), (0, .ref x)] dJx35411_next_0502b_8 rfl (by decide) rfl ?_
  refine tw_iload_n 0 dJx35411_next_0502b_9 rfl rfl ?_
  refine tw_aload_n 1 dJx35411_next_0502b_10 rfl rfl ?_
  refine tw_get (v := .ref lst) rfl in_2 3 dJx35411_next_0502b_11 w_1395 rfl (by decide) hx rfl ?_
  refine tw_getN (v := .int (nI n)) rfl in_3 2 dJx35411_next_0502b_14 w_1137 rfl (by decide) hl rfl ?_
  refine tw_icmp_lt 28 dJx35411_next_0502b_17 (by decide) (fun _ => ?_) (fun c4 => absurd (nI_lt hj (by omega)) c4)
  refine tw_aload_n 1 dJx35411_next_0502b_28 rfl rfl ?_
  refine tw_get (v := .ref lst) rfl in_2 3 dJx35411_next_0502b_29 w_1395 rfl (by decide) hx rfl ?_
  refine tw_get (v := .ref a) rfl in_3 1 dJx35411_next_0502b_32 w_1136 rfl (by decide) hl rfl ?_
  refine tw_astore_n [(2, .ref a), (1, .int (nI j)), (0, .ref x)] dJx35411_next_0502b_35 rfl (by decide) rfl ?_
  refine tw_iload_n 1 dJx35411_next_0502b_36 rfl rfl ?_
  refine tw_aload_n 0 dJx35411_next_0502b_37 rfl rfl ?_
  refine tw_alen (v := nI 10) 7 rfl dJx35411_next_0502b_38 ha rfl ?_
  refine tw_icmp_lt 50 dJx35411_next_0502b_39 (by decide) (fun _ => ?_) (fun c5 => absurd (nI_lt (Nat.lt_of_lt_of_le hj hn) (by decide)) c5)
  refine tw_aload_n 2 dJx35411_next_0502b_50 rfl rfl ?_
  refine tw_iload_n 1 dJx35411_next_0502b_51 rfl rfl ?_
  refine tw_iconst (v := 1) dJx35411_next_0502b_52 (by decide) ?_
  refine tw_iadd dJx35411_next_0502b_53 ?_
  refine tw_nmi (fun v6 ev6 => ?_)
  refine tw_put rfl in_2 tyJx35411 tyJx35411_ok nmJx35411 0 dJx35411_next_0502b_54 w_1392 rfl (by decide) hx rfl rfl rfl rfl (Nat.le_of_ble_eq_true rfl) [.int v6, .int lr, .int m, .ref lst] rfl ?_
  rw [tw_nI3 ev6]
  obtain ⟨h7, eh7⟩ : ∃ z : tw_H, z = tw_up h x (.inr (2, [.int (nI (j + 1)), .int lr, .int m, .ref lst])) := ⟨_, rfl⟩
  rw [← eh7]
  have f8 : h7 lst = some (.inr (3, [.int m, .ref a, .int (nI n)])) := by rw [eh7, tw_up_n (tw_ne hl hx (by simp))]; exact hl
  have f9 : h7 a = some (.inl (d.2 7, 10, .inr (.inr (.inr (.inr f))))) := by rw [eh7, tw_up_n (tw_ne ha hx (by simp))]; exact ha
  have f10 : h7 x = some (.inr (2, [.int (nI (j + 1)), .int lr, .int m, .ref lst])) := by rw [eh7]; exact tw_up_s
  refine tw_aload_n 0 dJx35411_next_0502b_57 rfl rfl ?_
  refine tw_aload_n 2 dJx35411_next_0502b_58 rfl rfl ?_
  refine tw_iload_n 1 dJx35411_next_0502b_59 rfl rfl ?_
  refine tw_dup_x1 dJx35411_next_0502b_60 rfl rfl ?_
  refine tw_put rfl in_2 tyJx35411 tyJx35411_ok nmJx35411 1 dJx35411_next_0502b_61 w_1393 rfl (by decide) f10 rfl rfl rfl rfl (Nat.le_of_ble_eq_true rfl) [.int (nI (j + 1)), .int (nI j), .int m, .ref lst] rfl ?_
  obtain ⟨h11, eh11⟩ : ∃ z : tw_H, z = tw_up h7 x (.inr (2, [.int (nI (j + 1)), .int (nI j), .int m, .ref lst])) := ⟨_, rfl⟩
  rw [← eh11]
  have f12 : h11 lst = some (.inr (3, [.int m, .ref a, .int (nI n)])) := by rw [eh11, tw_up_n (tw_ne f8 f10 (by simp))]; exact f8
  have f13 : h11 a = some (.inl (d.2 7, 10, .inr (.inr (.inr (.inr f))))) := by rw [eh11, tw_up_n (tw_ne f9 f10 (by simp))]; exact f9
  have f14 : h11 x = some (.inr (2, [.int (nI (j + 1)), .int (nI j), .int m, .ref lst])) := by rw [eh11]; exact tw_up_s
  refine tw_aald (v := .ref y) 7 rfl rfl dJx35411_next_0502b_64 f13 (vp_in_nI (Nat.lt_of_lt_of_le hj hn) (by decide)) (by rw [nI_clamp (by omega), hy]; rfl) ?_
  exact tw_aret dJx35411_next_0502b_65 rfl (Or.inl ⟨_, rfl⟩) (Or.inl ⟨_, rfl, rfl, (by rw [eh11, eh7] <;> simp only [tw_up_up])⟩)

set_option maxHeartbeats 4000000 in
set_option maxRecDepth 100000 in
theorem c_grow1 (d : tw_D) (h : tw_H) (x : Nat) (m : Int32) (hx : h x = some (.inr (3, [.int m, .ref (d.2 102), .int (nI 0)]))) : tw_Ct d mJx4a65c_grow_92f84 1 10 [.ref x, .int 1] h (tw_qr (fun r h1 => h r = none ∧ h1 = tw_up (tw_up h r (.inl (d.2 7, 10, .inr (.inr (.inr (.inr (fun _ => none))))))) x (.inr (3, [.int m, .ref r, .int (nI 0)]))) tw_nx) := by
  refine tw_of (by decide +kernel) (Nat.le_of_ble_eq_true rfl) ?_
  show tw_W d mJx4a65c_grow_92f84 _ 0 [(0, .ref x), (1, .int 1)] [] h 1 10
  refine tw_aload_n 0 dJx4a65c_grow_92f84_0 rfl rfl ?_
  refine tw_get (v := .ref (d.2 102)) rfl in_3 1 dJx4a65c_grow_92f84_1 w_1135 rfl (by decide) hx rfl ?_
  refine tw_tlen (N := 0) (fun _ _ z => z.2.2.2.2.2.1.2) dJx4a65c_grow_92f84_4 ?_
  refine tw_istore_n [(2, .int (nI 0)), (0, .ref x), (1, .int 1)] dJx4a65c_grow_92f84_5 rfl (by decide) rfl ?_
  refine tw_iload_n 0 dJx4a65c_grow_92f84_6 rfl rfl ?_
  refine tw_if_gt 20 dJx4a65c_grow_92f84_7 (by decide) (fun c1 => absurd c1 (by decide)) (fun _ => ?_)
  refine tw_aload_n 1 dJx4a65c_grow_92f84_10 rfl rfl ?_
  refine tw_get (v := .ref (d.2 102)) rfl in_3 1 dJx4a65c_grow_92f84_11 w_1135 rfl (by decide) hx rfl ?_
  refine tw_gets (fun _ _ z => z.2.2.2.2.2.1.1) rfl dJx4a65c_grow_92f84_14 w_1133 ?_
  refine tw_acmp_eq (rx := (some (d.2 102))) (ry := (some (d.2 102))) 45 dJx4a65c_grow_92f84_17 (by decide) (fun _ => ?_) (fun c2 => absurd (rfl) c2)
  refine tw_aload_n 1 dJx4a65c_grow_92f84_45 rfl rfl ?_
  refine tw_bipush (v := 10) dJx4a65c_grow_92f84_46 (by decide) ?_
  refine tw_iload_n 2 dJx4a65c_grow_92f84_48 rfl rfl ?_
  refine tw_mmax dJx4a65c_grow_92f84_49 w_1282 w_875 w_93 w_876 ⟨by decide, Nat.le_of_ble_eq_true rfl⟩ ?_
  refine tw_nmi (fun v3 ev3 => ?_)
  have q4 : v3 = 10 := by rw [ev3]; decide
  subst q4
  refine tw_newq (k := 10) (N := 10) 7 rfl (fun _ _ z => z.2.2.2.2.2.2.2.1.2.2.2) dJx4a65c_grow_92f84_52 w_1283 (by decide) (by decide) (by decide) 0 0 (Nat.le_of_ble_eq_true rfl) (Nat.le_of_ble_eq_true rfl) (fun q5 hq6 hA7 => ?_)
  obtain ⟨h8, eh8⟩ : ∃ z : tw_H, z = tw_up h q5 (.inl (d.2 7, 10, .inr (.inr (.inr (.inr (fun _ => none)))))) := ⟨_, rfl⟩
  rw [← eh8]
  have ne10 := tw_neF hx hq6
  have f9 : h8 x = some (.inr (3, [.int m, .ref (d.2 102), .int (nI 0)])) := by rw [eh8, tw_up_n ne10]; exact hx
  have f11 : h8 q5 = some (.inl (d.2 7, 10, .inr (.inr (.inr (.inr (fun _ => none)))))) := by rw [eh8]; exact tw_up_s
  refine tw_dup_x1 dJx4a65c_grow_92f84_55 rfl rfl ?_
  refine tw_put rfl in_3 tyJx4a65c tyJx4a65c_ok nmJx4a65c 1 dJx4a65c_grow_92f84_56 w_1135 rfl (by decide) f9 rfl rfl rfl rfl (Nat.le_of_ble_eq_true rfl) [.int m, .ref q5, .int (nI 0)] rfl ?_
  obtain ⟨h12, eh12⟩ : ∃ z : tw_H, z = tw_up h8 x (.inr (3, [.int m, .ref q5, .int (nI 0)])) := ⟨_, rfl⟩
  rw [← eh12]
  have f13 : h12 q5 = some (.inl (d.2 7, 10, .inr (.inr (.inr (.inr (fun _ => none)))))) := by rw [eh12, tw_up_n (Ne.symm ne10)]; exact f11
  have f14 : h12 x = some (.inr (3, [.int m, .ref q5, .int (nI 0)])) := by rw [eh12]; exact tw_up_s
  exact tw_aret dJx4a65c_grow_92f84_59 rfl (Or.inr ⟨_, rfl⟩) (Or.inl ⟨_, rfl, hq6, (by rw [eh12, eh8])⟩)

set_option maxHeartbeats 4000000 in
set_option maxRecDepth 100000 in
theorem c_grow (d : tw_D) (h : tw_H) (x : Nat) (m : Int32) (hx : h x = some (.inr (3, [.int m, .ref (d.2 102), .int (nI 0)]))) : tw_Ct d mJx4a65c_grow_d5877 1 10 [.ref x] h (tw_qr (fun r h1 => h r = none ∧ h1 = tw_up (tw_up h r (.inl (d.2 7, 10, .inr (.inr (.inr (.inr (fun _ => none))))))) x (.inr (3, [.int m, .ref r, .int (nI 0)]))) tw_nx) := by
  refine tw_of (by decide +kernel) (Nat.le_of_ble_eq_true rfl) ?_
  show tw_W d mJx4a65c_grow_d5877 _ 0 [(0, .ref x)] [] h 1 10
  refine tw_aload_n 0 dJx4a65c_grow_d5877_0 rfl rfl ?_
  refine tw_aload_n 0 dJx4a65c_grow_d5877_1 rfl rfl ?_
  refine tw_get (v := .int (nI 0)) rfl in_3 2 dJx4a65c_grow_d5877_2 w_1138 rfl (by decide) hx rfl ?_
  refine tw_iconst (v := 1) dJx4a65c_grow_d5877_5 (by decide) ?_
  refine tw_iadd dJx4a65c_grow_d5877_6 ?_
  refine tw_nmi (fun v1 ev1 => ?_)
  have q2 : v1 = 1 := by rw [ev1]; decide
  subst q2
  refine tw_br (tw_callV (M := mJx4a65c_grow_d5877) (pc := 7) okJx4a65c_grow_92f84 dJx4a65c_grow_d5877_7 w_1246 rfl hx [.int 1] [] rfl rfl ⟨by decide, by decide⟩ (Nat.le_of_ble_eq_true rfl) (c_grow1 d h x m hx) 0 0 (Nat.le_of_ble_eq_true rfl) (Nat.le_of_ble_eq_true rfl)) (fun r5 h4 q3 => ?_) (fun E h1 q => q.elim)
  obtain ⟨q3n, q3e⟩ := q3
  have ne8 := tw_neF hx q3n
  have f6 : h4 x = some (.inr (3, [.int m, .ref r5, .int (nI 0)])) := by rw [q3e]; exact tw_up_s
  have f7 : h4 r5 = some (.inl (d.2 7, 10, .inr (.inr (.inr (.inr (fun _ => none)))))) := by rw [q3e, tw_up_n (Ne.symm ne8)]; exact tw_up_s
  exact tw_aret dJx4a65c_grow_d5877_10 rfl (Or.inr ⟨_, rfl⟩) (Or.inl ⟨_, rfl, q3n, q3e⟩)

set_option maxHeartbeats 4000000 in
set_option maxRecDepth 100000 in
theorem c_add3_new (d : tw_D) (h : tw_H) (x : Nat) (m : Int32) (hx : h x = some (.inr (3, [.int m, .ref (d.2 102), .int (nI 0)]))) (e ci : Nat) (fs : List Value) (rc : vw_C) (hcl : vwCl[ci]? = some rc) (hc9 : Cond.castable rc.1 "java/lang/Object" ∈ tw_NG) (he : h e = some (.inr (ci, fs))) (hne : ci ≠ 3) : tw_Ct d mJx4a65c_add_72be8 1 10 [.ref x, .ref e, .ref (d.2 102), .int (nI 0)] h (tw_qv (fun h1 => ∃ r, h r = none ∧ h1 x = some (.inr (3, [.int m, .ref r, .int (nI (0 + 1))])) ∧ h1 r = some (.inl (d.2 7, 10, .inr (.inr (.inr (.inr (va_up (fun _ => none) 0 (some e))))))) ∧ ∀ b, b ≠ x → b ≠ r → h1 b = h b) tw_nx) := by
  refine tw_of (by decide +kernel) (Nat.le_of_ble_eq_true rfl) ?_
  show tw_W d mJx4a65c_add_72be8 _ 0 [(0, .ref x), (1, .ref e), (2, .ref (d.2 102)), (3, .int (nI 0))] [] h 1 10
  refine tw_iload_n 3 dJx4a65c_add_72be8_0 rfl rfl ?_
  refine tw_aload_n 2 dJx4a65c_add_72be8_1 rfl rfl ?_
  refine tw_tlen (N := 0) (fun _ _ z => z.2.2.2.2.2.1.2) dJx4a65c_add_72be8_2 ?_
  refine tw_icmp_ne 11 dJx4a65c_add_72be8_3 (by decide) (fun c1 => absurd (rfl) c1) (fun _ => ?_)
  refine tw_aload_n 0 dJx4a65c_add_72be8_6 rfl rfl ?_
  refine tw_br (tw_callV (M := mJx4a65c_add_72be8) (pc := 7) okJx4a65c_grow_d5877 dJx4a65c_add_72be8_7 w_1242 rfl hx [] [] rfl rfl ⟨by decide, by decide⟩ (Nat.le_of_ble_eq_true rfl) (c_grow d h x m hx) 0 0 (Nat.le_of_ble_eq_true rfl) (Nat.le_of_ble_eq_true rfl)) (fun r4 h3 q2 => ?_) (fun E h1 q => q.elim)
  obtain ⟨q2n, q2e⟩ := q2
  have ne7 := tw_neF hx q2n
  have f5 : h3 x = some (.inr (3, [.int m, .ref r4, .int (nI 0)])) := by rw [q2e]; exact tw_up_s
  have f6 : h3 r4 = some (.inl (d.2 7, 10, .inr (.inr (.inr (.inr (fun _ => none)))))) := by rw [q2e, tw_up_n (Ne.symm ne7)]; exact tw_up_s
  have ne8 := tw_neF he q2n
  have f9 : h3 e = some (.inr (ci, fs)) := by rw [q2e, tw_up_n (tw_ne he hx (fun z => hne (congrArg Prod.fst (Sum.inr.inj z)))), tw_up_n ne8]; exact he
  refine tw_astore_n [(2, .ref r4), (0, .ref x), (1, .ref e), (3, .int (nI 0))] dJx4a65c_add_72be8_10 rfl (by decide) rfl ?_
  refine tw_aload_n 0 dJx4a65c_add_72be8_11 rfl rfl ?_
  refine tw_iload_n 3 dJx4a65c_add_72be8_12 rfl rfl ?_
  refine tw_aload_n 2 dJx4a65c_add_72be8_13 rfl rfl ?_
  refine tw_aastO (ci := ci) 7 rfl hcl hc9 dJx4a65c_add_72be8_14 f6 f9 (vp_in_nI (by omega) (by decide)) ?_
  rw [nI_clamp (by omega)]
  obtain ⟨h10, eh10⟩ : ∃ z : tw_H, z = tw_up h3 r4 (.inl (d.2 7, 10, .inr (.inr (.inr (.inr (va_up (fun _ => none) 0 (some e))))))) := ⟨_, rfl⟩
  rw [← eh10]
  have f11 : h10 x = some (.inr (3, [.int m, .ref r4, .int (nI 0)])) := by rw [eh10, tw_up_n ne7]; exact f5
  have f12 : h10 r4 = some (.inl (d.2 7, 10, .inr (.inr (.inr (.inr (va_up (fun _ => none) 0 (some e))))))) := by rw [eh10]; exact tw_up_s
  refine tw_aload_n 1 dJx4a65c_add_72be8_15 rfl rfl ?_
  refine tw_iload_n 3 dJx4a65c_add_72be8_16 rfl rfl ?_
  refine tw_iconst (v := 1) dJx4a65c_add_72be8_17 (by decide) ?_
  refine tw_iadd dJx4a65c_add_72be8_18 ?_
  refine tw_nmi (fun v13 ev13 => ?_)
  refine tw_put rfl in_3 tyJx4a65c tyJx4a65c_ok nmJx4a65c 2 dJx4a65c_add_72be8_19 w_1138 rfl (by decide) f11 rfl rfl rfl rfl (Nat.le_of_ble_eq_true rfl) [.int m, .ref r4, .int v13] rfl ?_
  rw [tw_nI3 ev13]
  obtain ⟨h14, eh14⟩ : ∃ z : tw_H, z = tw_up h10 x (.inr (3, [.int m, .ref r4, .int (nI (0 + 1))])) := ⟨_, rfl⟩
  rw [← eh14]
  have f15 : h14 x = some (.inr (3, [.int m, .ref r4, .int (nI (0 + 1))])) := by rw [eh14]; exact tw_up_s
  have f16 : h14 r4 = some (.inl (d.2 7, 10, .inr (.inr (.inr (.inr (va_up (fun _ => none) 0 (some e))))))) := by rw [eh14, tw_up_n (Ne.symm ne7)]; exact f12
  exact tw_vret dJx4a65c_add_72be8_22 rfl (Or.inl ⟨rfl, r4, q2n, f15, f16, (by intro b hb hb2; rw [eh14, tw_up_n hb, eh10, tw_up_n hb2, q2e, tw_up_n hb, tw_up_n hb2])⟩)

set_option maxHeartbeats 4000000 in
set_option maxRecDepth 100000 in
theorem c_add3_old (d : tw_D) (h : tw_H) (x a n : Nat) (f : Nat → Option Nat) (m : Int32) (hn : n < 10) (hx : h x = some (.inr (3, [.int m, .ref a, .int (nI n)]))) (ha : h a = some (.inl (d.2 7, 10, .inr (.inr (.inr (.inr f)))))) (e ci : Nat) (fs : List Value) (rc : vw_C) (hcl : vwCl[ci]? = some rc) (hc9 : Cond.castable rc.1 "java/lang/Object" ∈ tw_NG) (he : h e = some (.inr (ci, fs))) (hne : ci ≠ 3) : tw_Ct d mJx4a65c_add_72be8 1 10 [.ref x, .ref e, .ref a, .int (nI n)] h (tw_qv (fun h1 => h1 x = some (.inr (3, [.int m, .ref a, .int (nI (n + 1))])) ∧ h1 a = some (.inl (d.2 7, 10, .inr (.inr (.inr (.inr (va_up f n (some e))))))) ∧ ∀ b, b ≠ x → b ≠ a → h1 b = h b) tw_nx) := by
  refine tw_of (by decide +kernel) (Nat.le_of_ble_eq_true rfl) ?_
  show tw_W d mJx4a65c_add_72be8 _ 0 [(0, .ref x), (1, .ref e), (2, .ref a), (3, .int (nI n))] [] h 1 10
  refine tw_iload_n 3 dJx4a65c_add_72be8_0 rfl rfl ?_
  refine tw_aload_n 2 dJx4a65c_add_72be8_1 rfl rfl ?_
  refine tw_alen (v := nI 10) 7 rfl dJx4a65c_add_72be8_2 ha rfl ?_
  refine tw_icmp_ne 11 dJx4a65c_add_72be8_3 (by decide) (fun _ => ?_) (fun c1 => absurd c1 (fun q => absurd (tw_nIj q (by omega) (by decide)) (by omega)))
  refine tw_aload_n 2 dJx4a65c_add_72be8_11 rfl rfl ?_
  refine tw_iload_n 3 dJx4a65c_add_72be8_12 rfl rfl ?_
  refine tw_aload_n 1 dJx4a65c_add_72be8_13 rfl rfl ?_
  refine tw_aastO (ci := ci) 7 rfl hcl hc9 dJx4a65c_add_72be8_14 ha he (vp_in_nI (by omega) (by decide)) ?_
  rw [nI_clamp (by omega)]
  obtain ⟨h2, eh2⟩ : ∃ z : tw_H, z = tw_up h a (.inl (d.2 7, 10, .inr (.inr (.inr (.inr (va_up f n (some e))))))) := ⟨_, rfl⟩
  rw [← eh2]
  have f3 : h2 x = some (.inr (3, [.int m, .ref a, .int (nI n)])) := by rw [eh2, tw_up_n (tw_ne hx ha (by simp))]; exact hx
  have f4 : h2 a = some (.inl (d.2 7, 10, .inr (.inr (.inr (.inr (va_up f n (some e))))))) := by rw [eh2]; exact tw_up_s
  refine tw_aload_n 0 dJx4a65c_add_72be8_15 rfl rfl ?_
  refine tw_iload_n 3 dJx4a65c_add_72be8_16 rfl rfl ?_
  refine tw_iconst (v := 1) dJx4a65c_add_72be8_17 (by decide) ?_
  refine tw_iadd dJx4a65c_add_72be8_18 ?_
  refine tw_nmi (fun v5 ev5 => ?_)
  refine tw_put rfl in_3 tyJx4a65c tyJx4a65c_ok nmJx4a65c 2 dJx4a65c_add_72be8_19 w_1138 rfl (by decide) f3 rfl rfl rfl rfl (Nat.le_of_ble_eq_true rfl) [.int m, .ref a, .int v5] rfl ?_
  rw [tw_nI3 ev5]
  obtain ⟨h6, eh6⟩ : ∃ z : tw_H, z = tw_up h2 x (.inr (3, [.int m, .ref a, .int (nI (n + 1))])) := ⟨_, rfl⟩
  rw [← eh6]
  have f7 : h6 x = some (.inr (3, [.int m, .ref a, .int (nI (n + 1))])) := by rw [eh6]; exact tw_up_s
  have f8 : h6 a = some (.inl (d.2 7, 10, .inr (.inr (.inr (.inr (va_up f n (some e))))))) := by rw [eh6, tw_up_n (tw_ne f4 f3 (by simp))]; exact f4
  exact tw_vret dJx4a65c_add_72be8_22 rfl (Or.inl ⟨rfl, f7, f8, (by intro b hb hb2; rw [eh6, tw_up_n hb, eh2, tw_up_n hb2])⟩)

set_option maxHeartbeats 4000000 in
set_option maxRecDepth 100000 in
theorem c_add_new (d : tw_D) (h : tw_H) (x : Nat) (m : Int32) (hx : h x = some (.inr (3, [.int m, .ref (d.2 102), .int (nI 0)]))) (e ci : Nat) (fs : List Value) (rc : vw_C) (hcl : vwCl[ci]? = some rc) (hc9 : Cond.castable rc.1 "java/lang/Object" ∈ tw_NG) (he : h e = some (.inr (ci, fs))) (hne : ci ≠ 3) : tw_Ct d mJx4a65c_add_9ea2d 1 10 [.ref x, .ref e] h (tw_qi (fun _ h1 => ∃ r, h r = none ∧ h1 x = some (.inr (3, [.int (m + 1), .ref r, .int (nI (0 + 1))])) ∧ h1 r = some (.inl (d.2 7, 10, .inr (.inr (.inr (.inr (va_up (fun _ => none) 0 (some e))))))) ∧ ∀ b, b ≠ x → b ≠ r → h1 b = h b) tw_nx) := by
  refine tw_of (by decide +kernel) (Nat.le_of_ble_eq_true rfl) ?_
  show tw_W d mJx4a65c_add_9ea2d _ 0 [(0, .ref x), (1, .ref e)] [] h 1 10
  refine tw_aload_n 0 dJx4a65c_add_9ea2d_0 rfl rfl ?_
  refine tw_dup dJx4a65c_add_9ea2d_1 rfl ?_
  refine tw_getU (v := .int m) rfl in_3 0 dJx4a65c_add_9ea2d_2 w_1142 w_1141 (by decide) hx rfl ?_
  refine tw_iconst (v := 1) dJx4a65c_add_9ea2d_5 (by decide) ?_
  refine tw_iadd dJx4a65c_add_9ea2d_6 ?_
  refine tw_nmi (fun v1 ev1 => ?_)
  refine tw_putU rfl in_3 tyJx4a65c tyJx4a65c_ok nmJx4a65c 0 dJx4a65c_add_9ea2d_7 w_1142 w_1141 (by decide) hx rfl rfl rfl rfl (Nat.le_of_ble_eq_true rfl) [.int v1, .ref (d.2 102), .int (nI 0)] rfl ?_
  obtain ⟨h2, eh2⟩ : ∃ z : tw_H, z = tw_up h x (.inr (3, [.int v1, .ref (d.2 102), .int (nI 0)])) := ⟨_, rfl⟩
  rw [← eh2]
  have f3 : h2 x = some (.inr (3, [.int v1, .ref (d.2 102), .int (nI 0)])) := by rw [eh2]; exact tw_up_s
  have f4 : h2 e = some (.inr (ci, fs)) := by rw [eh2, tw_up_n (tw_ne he hx (fun z => hne (congrArg Prod.fst (Sum.inr.inj z))))]; exact he
  refine tw_aload_n 0 dJx4a65c_add_9ea2d_10 rfl rfl ?_
  refine tw_aload_n 1 dJx4a65c_add_9ea2d_11 rfl rfl ?_
  refine tw_aload_n 0 dJx4a65c_add_9ea2d_12 rfl rfl ?_
  refine tw_get (v := .ref (d.2 102)) rfl in_3 1 dJx4a65c_add_9ea2d_13 w_1135 rfl (by decide) f3 rfl ?_
  refine tw_aload_n 0 dJx4a65c_add_9ea2d_16 rfl rfl ?_
  refine tw_get (v := .int (nI 0)) rfl in_3 2 dJx4a65c_add_9ea2d_17 w_1138 rfl (by decide) f3 rfl ?_
  refine tw_bv (tw_callV (M := mJx4a65c_add_9ea2d) (pc := 20) okJx4a65c_add_72be8 dJx4a65c_add_9ea2d_20 w_1238 rfl f3 [.ref e, .ref (d.2 102), .int (nI 0)] [] rfl rfl ⟨by decide, by decide⟩ (Nat.le_of_ble_eq_true rfl) (c_add3_new d h2 x v1 f3 e ci fs rc hcl hc9 f4 hne) 0 0 (Nat.le_of_ble_eq_true rfl) (Nat.le_of_ble_eq_true rfl)) (fun h8 q => ?_) (fun E h1 q => q.elim)
  obtain ⟨r, hr, q1, q2, q3⟩ := q
  refine tw_iconst (v := 1) dJx4a65c_add_9ea2d_23 (by decide) ?_
  exact tw_zret dJx4a65c_add_9ea2d_24 rfl rfl (Or.inl ⟨_, rfl, r, (by rw [eh2] at hr; exact (by rwa [tw_up_n (fun z => by rw [z, tw_up_s] at hr; cases hr)] at hr)), by rw [← ev1]; exact q1, q2, (by intro b hb hb2; rw [q3 b hb hb2, eh2, tw_up_n hb])⟩)

set_option maxHeartbeats 4000000 in
set_option maxRecDepth 100000 in
theorem c_add_old (d : tw_D) (h : tw_H) (x a n : Nat) (f : Nat → Option Nat) (m : Int32) (hn : n < 10) (hx : h x = some (.inr (3, [.int m, .ref a, .int (nI n)]))) (ha : h a = some (.inl (d.2 7, 10, .inr (.inr (.inr (.inr f)))))) (e ci : Nat) (fs : List Value) (rc : vw_C) (hcl : vwCl[ci]? = some rc) (hc9 : Cond.castable rc.1 "java/lang/Object" ∈ tw_NG) (he : h e = some (.inr (ci, fs))) (hne : ci ≠ 3) : tw_Ct d mJx4a65c_add_9ea2d 1 10 [.ref x, .ref e] h (tw_qi (fun _ h1 => h1 x = some (.inr (3, [.int (m + 1), .ref a, .int (nI (n + 1))])) ∧ h1 a = some (.inl (d.2 7, 10, .inr (.inr (.inr (.inr (va_up f n (some e))))))) ∧ ∀ b, b ≠ x → b ≠ a → h1 b = h b) tw_nx) := by
  refine tw_of (by decide +kernel) (Nat.le_of_ble_eq_true rfl) ?_
  show tw_W d mJx4a65c_add_9ea2d _ 0 [(0, .ref x), (1, .ref e)] [] h 1 10
  refine tw_aload_n 0 dJx4a65c_add_9ea2d_0 rfl rfl ?_
  refine tw_dup dJx4a65c_add_9ea2d_1 rfl ?_
  refine tw_getU (v := .int m) rfl in_3 0 dJx4a65c_add_9ea2d_2 w_1142 w_1141 (by decide) hx rfl ?_
  refine tw_iconst (v := 1) dJx4a65c_add_9ea2d_5 (by decide) ?_
  refine tw_iadd dJx4a65c_add_9ea2d_6 ?_
  refine tw_nmi (fun v1 ev1 => ?_)
  refine tw_putU rfl in_3 tyJx4a65c tyJx4a65c_ok nmJx4a65c 0 dJx4a65c_add_9ea2d_7 w_1142 w_1141 (by decide) hx rfl rfl rfl rfl (Nat.le_of_ble_eq_true rfl) [.int v1, .ref a, .int (nI n)] rfl ?_
  obtain ⟨h2, eh2⟩ : ∃ z : tw_H, z = tw_up h x (.inr (3, [.int v1, .ref a, .int (nI n)])) := ⟨_, rfl⟩
  rw [← eh2]
  have f3 : h2 x = some (.inr (3, [.int v1, .ref a, .int (nI n)])) := by rw [eh2]; exact tw_up_s
  have f4 : h2 a = some (.inl (d.2 7, 10, .inr (.inr (.inr (.inr f))))) := by rw [eh2, tw_up_n (tw_ne ha hx (by simp))]; exact ha
  have f5 : h2 e = some (.inr (ci, fs)) := by rw [eh2, tw_up_n (tw_ne he hx (fun z => hne (congrArg Prod.fst (Sum.inr.inj z))))]; exact he
  refine tw_aload_n 0 dJx4a65c_add_9ea2d_10 rfl rfl ?_
  refine tw_aload_n 1 dJx4a65c_add_9ea2d_11 rfl rfl ?_
  refine tw_aload_n 0 dJx4a65c_add_9ea2d_12 rfl rfl ?_
  refine tw_get (v := .ref a) rfl in_3 1 dJx4a65c_add_9ea2d_13 w_1135 rfl (by decide) f3 rfl ?_
  refine tw_aload_n 0 dJx4a65c_add_9ea2d_16 rfl rfl ?_
  refine tw_get (v := .int (nI n)) rfl in_3 2 dJx4a65c_add_9ea2d_17 w_1138 rfl (by decide) f3 rfl ?_
  refine tw_bv (tw_callV (M := mJx4a65c_add_9ea2d) (pc := 20) okJx4a65c_add_72be8 dJx4a65c_add_9ea2d_20 w_1238 rfl f3 [.ref e, .ref a, .int (nI n)] [] rfl rfl ⟨by decide, by decide⟩ (Nat.le_of_ble_eq_true rfl) (c_add3_old d h2 x a n f v1 hn f3 f4 e ci fs rc hcl hc9 f5 hne) 0 0 (Nat.le_of_ble_eq_true rfl) (Nat.le_of_ble_eq_true rfl)) (fun h8 q => ?_) (fun E h1 q => q.elim)
  obtain ⟨q1, q2, q3⟩ := q
  refine tw_iconst (v := 1) dJx4a65c_add_9ea2d_23 (by decide) ?_
  exact tw_zret dJx4a65c_add_9ea2d_24 rfl rfl (Or.inl ⟨_, rfl, by rw [← ev1]; exact q1, q2, (by intro b hb hb2; rw [q3 b hb hb2, eh2, tw_up_n hb])⟩)

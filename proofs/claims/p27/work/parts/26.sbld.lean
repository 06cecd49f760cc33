/-! the class's methods over the typed heap. Laid by wip/p5/mkclass.py. -/
theorem tw_e16 {m : Nat} (h : m ≤ 16) : nI m - nI 16 ≤ 0 := (by decide +kernel : ∀ m, m < 17 → nI m - nI 16 ≤ 0) m (by omega)
theorem tw_ni0 {i : Nat} (h : i ≤ 99) : ¬ nI i < 0 := nI_pos (by omega)
theorem tw_ni9 {i : Nat} (h : i ≤ 99) (c : ¬ -nI i ≤ -10) : i ≤ 9 := (by decide +kernel : ∀ i, i < 100 → ¬ -nI i ≤ -10 → i ≤ 9) i (by omega) c
theorem tw_ni99 {i : Nat} (h : i ≤ 99) : ¬ -nI i ≤ -100 := (by decide +kernel : ∀ i, i < 100 → ¬ -nI i ≤ -100) i (by omega)
theorem tw_ni99' {i : Nat} (h : i ≤ 99) : -100 < -nI i := (by decide +kernel : ∀ i, i < 100 → -100 < -nI i) i (by omega)
theorem tw_ni10 {i : Nat} (h : i ≤ 99) (c : ¬ -9 ≤ -nI i) : 10 ≤ i := (by decide +kernel : ∀ i, i < 100 → ¬ -9 ≤ -nI i → 10 ≤ i) i (by omega) c
theorem tw_ninn (i : Nat) : - -nI i = nI i := Int32.neg_neg
theorem tw_nim {j : Nat} (h : 1 ≤ j) : nI j + (-1) = nI (j - 1) := by
  obtain ⟨k, rfl⟩ : ∃ k, j = k + 1 := ⟨j - 1, by omega⟩
  exact (Int32.sub_eq_add_neg (nI (k + 1)) 1).symm.trans (nI_pred k)
theorem tw_niadd {a b : Nat} : nI a + nI b = nI (a + b) := (Int32.ofNat_add a b).symm
theorem tw_min16 {m : Nat} (h : m ≤ 16) : (if nI m < nI 16 - 0 then nI m else nI 16 - 0) = nI m := (by decide +kernel : ∀ m, m < 17 → (if nI m < nI 16 - 0 then nI m else nI 16 - 0) = nI m) m (by omega)
theorem tw_ne16 {m : Nat} (h : m ≤ 15) : ¬ nI m = nI 16 := (by decide +kernel : ∀ m, m < 16 → ¬ nI m = nI 16) m (by omega)
theorem tw_ln {i : Nat} (h : i < 2) : ([0, 1] : List Nat).getD i 0 = i := (by decide : ∀ i, i < 2 → ([0, 1] : List Nat).getD i 0 = i) i h
theorem tw_kT {d : tw_D} {i : Nat} (hi : i < 2) : ∀ (s : State) (H : Heap), tw_St d s H → va_T .byte (d.2 (105 + i)) i (fun j => .int ((([[], [42]] : List (List Int32)).getD i []).getD j 0)) (tw_A d) s H := by
  intro s H z
  have a := (z.xs.2.2.1.1 i hi).2.2.2
  rw [tw_ln hi] at a
  exact a
theorem tw_rg {r : Int32} (h1 : 100 ≤ r) (h2 : r ≤ 200) : ∃ m, m < 201 ∧ r = nI m := by
  obtain ⟨j, hj, rfl⟩ := nI_of (Int32.not_lt.mpr (Int32.le_trans (by decide) h1))
  have a := Int32.le_iff_toInt_le.mp h2
  rw [nI_toInt hj, show (200 : Int32).toInt = 200 by decide] at a
  exact ⟨j, by omega, rfl⟩
theorem tw_d10 {r v : Int32} (h1 : 100 ≤ r) (h2 : r ≤ 200) (e : v = r / 10) : ∃ i, i ≤ 99 ∧ v = nI i := by
  obtain ⟨m, hm, rfl⟩ := tw_rg h1 h2
  rw [e]
  exact ⟨m / 10, by omega, (by decide +kernel : ∀ m, m < 201 → nI m / 10 = nI (m / 10)) m hm⟩
theorem tw_m10 {r v : Int32} (h1 : 100 ≤ r) (h2 : r ≤ 200) (e : v = r - r / 10 * 10) : ∃ i, i ≤ 99 ∧ v = nI i := by
  obtain ⟨m, hm, rfl⟩ := tw_rg h1 h2
  rw [e]
  exact ⟨m % 10, by omega, (by decide +kernel : ∀ m, m < 201 → nI m - nI m / 10 * 10 = nI (m % 10)) m hm⟩
theorem tw_sp.ext {d : tw_D} {g : tw_G} {τ : tw_K} {h h1 : tw_H} (hw : tw_wt d g τ h) (e : ∀ q x, h q = some x → h1 q = some x) : tw_sp d τ h g τ h1 :=
  ⟨fun a k hk h0 => by obtain ⟨x, a1, a2⟩ := hw a k hk h0; exact ⟨x, e a x a1, a2⟩, tw_le.rf, fun a x a1 a2 => ⟨e a x a1, a2⟩⟩
theorem tw_sp.sb {d : tw_D} {g : tw_G} {τ0 τ : tw_K} {h0 h h1 : tw_H} {x v k : Nat} (s : tw_sp d τ0 h0 g τ h) (nx : h0 x = none) (zx : τ x = 0) (nv : h0 v = none) (zv : τ v = 0) (w : tw_sbw d h x v k h1) : tw_sp d τ0 h0 g τ h1 := by
  refine ⟨fun a j hj j0 => ?_, s.2.1, fun a e a1 a2 => ?_⟩
  · obtain ⟨e, b1, b2⟩ := s.1 a j hj j0
    exact ⟨e, by rw [w.2.2 a (fun q => j0 (by rw [← hj, q]; exact zx)) (fun q => j0 (by rw [← hj, q]; exact zv))]; exact b1, b2⟩
  · obtain ⟨b1, b2⟩ := s.2.2 a e a1 a2
    exact ⟨by rw [w.2.2 a (fun q => by rw [q, nx] at a1; cases a1) (fun q => by rw [q, nv] at a1; cases a1)]; exact b1, b2⟩
theorem okcJ5_length_8abf5 : tw_ok mJ5_length_8abf5 0 := ⟨⟨by decide +kernel, by decide +kernel, by decide +kernel⟩, w_1005, w_104, by decide +kernel⟩
theorem okcJ5_ensureCapacityInternal_d00df : tw_ok mJ5_ensureCapacityInternal_d00df 1 := ⟨⟨by decide +kernel, by decide +kernel, by decide +kernel⟩, w_866, w_104, by decide +kernel⟩
theorem okcJ5_append_3fe6f : tw_ok mJ5_append_3fe6f 1 := ⟨⟨by decide +kernel, by decide +kernel, by decide +kernel⟩, w_945, w_104, by decide +kernel⟩
theorem okcJ5_append_c97b9 : tw_ok mJ5_append_c97b9 1 := ⟨⟨by decide +kernel, by decide +kernel, by decide +kernel⟩, w_859, w_104, by decide +kernel⟩
theorem okcJ5_append_cf1ce : tw_ok mJ5_append_cf1ce 1 := ⟨⟨by decide +kernel, by decide +kernel, by decide +kernel⟩, w_1027, w_104, by decide +kernel⟩
theorem okcJ5_getValue_6d5f1 : tw_ok mJ5_getValue_6d5f1 0 := ⟨⟨by decide +kernel, by decide +kernel, by decide +kernel⟩, w_997, w_104, by decide +kernel⟩
theorem okcJ5_isLatin1_aae02 : tw_ok mJ5_isLatin1_aae02 0 := ⟨⟨by decide +kernel, by decide +kernel, by decide +kernel⟩, w_900, w_104, by decide +kernel⟩
theorem okcJ5_inflateIfNeededFor_a7421 : tw_ok mJ5_inflateIfNeededFor_a7421 1 := ⟨⟨by decide +kernel, by decide +kernel, by decide +kernel⟩, w_1051, w_104, by decide +kernel⟩
theorem okcJ5_putStringAt_47b60 : tw_ok mJ5_putStringAt_47b60 2 := ⟨⟨by decide +kernel, by decide +kernel, by decide +kernel⟩, w_1047, w_104, by decide +kernel⟩
theorem okcJ4_length_8abf5 : tw_ok mJ4_length_8abf5 0 := ⟨⟨by decide +kernel, by decide +kernel, by decide +kernel⟩, w_1003, w_105, by decide +kernel⟩
set_option maxHeartbeats 4000000 in
set_option maxRecDepth 100000 in
theorem c_sb_ens (d : tw_D) (h : tw_H) (x v k : Nat) (f : Nat → Int32) (hx : h x = some (.inr (1, [.ref v, .int 0, .int 0, .int (nI k)]))) (hv : h v = some (.inl (d.2 3, 16, .inl f))) (hf : tw_fb f) (m : Nat) (hm : m ≤ 16) : tw_Ct d mJ5_ensureCapacityInternal_d00df 0 0 [.ref x, .int (nI m)] h (tw_qv (fun h1 => h1 = h) tw_nx) := by
  refine tw_of (by decide +kernel) (Nat.le_of_ble_eq_true rfl) ?_
  show tw_W d mJ5_ensureCapacityInternal_d00df _ 0 [(0, .ref x), (1, .int (nI m))] [] h 0 0
  refine tw_aload_n 0 dJ5_ensureCapacityInternal_d00df_0 rfl rfl ?_
  refine tw_get (v := .ref v) rfl in_1 0 dJ5_ensureCapacityInternal_d00df_1 w_840 rfl (by decide) hx rfl ?_
  refine tw_alen (v := nI 16) 3 rfl dJ5_ensureCapacityInternal_d00df_4 hv rfl ?_
  refine tw_aload_n 0 dJ5_ensureCapacityInternal_d00df_5 rfl rfl ?_
  refine tw_get (v := .int 0) rfl in_1 1 dJ5_ensureCapacityInternal_d00df_6 w_841 rfl (by decide) hx rfl ?_
  refine tw_ishr0 dJ5_ensureCapacityInternal_d00df_9 ?_
  refine tw_istore_n [(2, .int (nI 16)), (0, .ref x), (1, .int (nI m))] dJ5_ensureCapacityInternal_d00df_10 rfl (by decide) rfl ?_
  refine tw_iload_n 2 dJ5_ensureCapacityInternal_d00df_11 rfl rfl ?_
  refine tw_iload_n 0 dJ5_ensureCapacityInternal_d00df_12 rfl rfl ?_
  refine tw_isub dJ5_ensureCapacityInternal_d00df_13 ?_
  refine tw_nmi (fun v1 ev1 => ?_)
  refine tw_if_le 38 dJ5_ensureCapacityInternal_d00df_14 (by decide) (fun _ => ?_) (fun c2 => absurd (by rw [ev1]; exact tw_e16 hm) c2)
  exact tw_vret dJ5_ensureCapacityInternal_d00df_38 rfl (Or.inl ⟨rfl, rfl⟩)

set_option maxHeartbeats 4000000 in
set_option maxRecDepth 100000 in
theorem c_sb_lat (d : tw_D) (h : tw_H) (x v k : Nat) (f : Nat → Int32) (hx : h x = some (.inr (1, [.ref v, .int 0, .int 0, .int (nI k)]))) (hv : h v = some (.inl (d.2 3, 16, .inl f))) (hf : tw_fb f) : tw_Ct d mJ5_isLatin1_aae02 0 0 [.ref x] h (tw_qi (fun r h1 => r = 1 ∧ h1 = h) tw_nx) := by
  refine tw_of (by decide +kernel) (Nat.le_of_ble_eq_true rfl) ?_
  show tw_W d mJ5_isLatin1_aae02 _ 0 [(0, .ref x)] [] h 0 0
  refine tw_gets (fun _ _ z => z.2.2.2.2.2.2.1.1) rfl dJ5_isLatin1_aae02_0 w_831 ?_
  refine tw_if_eq 17 dJ5_isLatin1_aae02_3 (by decide) (fun c1 => absurd c1 (by decide)) (fun _ => ?_)
  refine tw_aload_n 0 dJ5_isLatin1_aae02_6 rfl rfl ?_
  refine tw_get (v := .int 0) rfl in_1 1 dJ5_isLatin1_aae02_7 w_841 rfl (by decide) hx rfl ?_
  refine tw_if_ne 17 dJ5_isLatin1_aae02_10 (by decide) (fun c2 => absurd (by decide) c2) (fun _ => ?_)
  refine tw_iconst (v := 1) dJ5_isLatin1_aae02_13 (by decide) ?_
  refine tw_goto 18 dJ5_isLatin1_aae02_14 (by decide) ?_
  exact tw_zret dJ5_isLatin1_aae02_18 rfl rfl (Or.inl ⟨_, rfl, rfl, rfl⟩)

set_option maxHeartbeats 4000000 in
set_option maxRecDepth 100000 in
theorem c_can (d : tw_D) (h : tw_H) (c : Int32) (hc : c ≤ 255) : tw_Ct d mJ1_canEncode_fc78d 0 0 [.int c] h (tw_qi (fun r h1 => r = 1 ∧ h1 = h) tw_nx) := by
  refine tw_of (by decide +kernel) (Nat.le_of_ble_eq_true rfl) ?_
  show tw_W d mJ1_canEncode_fc78d _ 0 [(0, .int c)] [] h 0 0
  refine tw_iload_n 0 dJ1_canEncode_fc78d_0 rfl rfl ?_
  refine tw_sipush (v := 255) dJ1_canEncode_fc78d_1 (by decide) ?_
  refine tw_icmp_gt 11 dJ1_canEncode_fc78d_4 (by decide) (fun c1 => absurd c1 (Int32.not_lt.mpr hc)) (fun _ => ?_)
  refine tw_iconst (v := 1) dJ1_canEncode_fc78d_7 (by decide) ?_
  refine tw_goto 12 dJ1_canEncode_fc78d_8 (by decide) ?_
  exact tw_zret dJ1_canEncode_fc78d_12 rfl rfl (Or.inl ⟨_, rfl, rfl, rfl⟩)

set_option maxHeartbeats 4000000 in
set_option maxRecDepth 100000 in
theorem c_sb_gv (d : tw_D) (h : tw_H) (x v k : Nat) (f : Nat → Int32) (hx : h x = some (.inr (1, [.ref v, .int 0, .int 0, .int (nI k)]))) (hv : h v = some (.inl (d.2 3, 16, .inl f))) (hf : tw_fb f) : tw_Ct d mJ5_getValue_6d5f1 0 0 [.ref x] h (tw_qr (fun r h1 => r = v ∧ h1 = h) tw_nx) := by
  refine tw_of (by decide +kernel) (Nat.le_of_ble_eq_true rfl) ?_
  show tw_W d mJ5_getValue_6d5f1 _ 0 [(0, .ref x)] [] h 0 0
  refine tw_aload_n 0 dJ5_getValue_6d5f1_0 rfl rfl ?_
  refine tw_get (v := .ref v) rfl in_1 0 dJ5_getValue_6d5f1_1 w_840 rfl (by decide) hx rfl ?_
  exact tw_aret dJ5_getValue_6d5f1_4 rfl (Or.inr ⟨_, rfl⟩) (Or.inl ⟨_, rfl, rfl, rfl⟩)

set_option maxHeartbeats 4000000 in
set_option maxRecDepth 100000 in
theorem c_sb_l5 (d : tw_D) (h : tw_H) (x v k : Nat) (f : Nat → Int32) (hx : h x = some (.inr (1, [.ref v, .int 0, .int 0, .int (nI k)]))) (hv : h v = some (.inl (d.2 3, 16, .inl f))) (hf : tw_fb f) : tw_Ct d mJ5_length_8abf5 0 0 [.ref x] h (tw_qi (fun r h1 => r = nI k ∧ h1 = h) tw_nx) := by
  refine tw_of (by decide +kernel) (Nat.le_of_ble_eq_true rfl) ?_
  show tw_W d mJ5_length_8abf5 _ 0 [(0, .ref x)] [] h 0 0
  refine tw_aload_n 0 dJ5_length_8abf5_0 rfl rfl ?_
  refine tw_get (v := .int (nI k)) rfl in_1 3 dJ5_length_8abf5_1 w_843 rfl (by decide) hx rfl ?_
  exact tw_iret dJ5_length_8abf5_4 rfl (Or.inl ⟨_, rfl, rfl, rfl⟩)

set_option maxHeartbeats 4000000 in
set_option maxRecDepth 100000 in
theorem c_sb_l4 (d : tw_D) (h : tw_H) (x v k : Nat) (f : Nat → Int32) (hx : h x = some (.inr (1, [.ref v, .int 0, .int 0, .int (nI k)]))) (hv : h v = some (.inl (d.2 3, 16, .inl f))) (hf : tw_fb f) : tw_Ct d mJ4_length_8abf5 0 0 [.ref x] h (tw_qi (fun r h1 => r = nI k ∧ h1 = h) tw_nx) := by
  refine tw_of (by decide +kernel) (Nat.le_of_ble_eq_true rfl) ?_
  show tw_W d mJ4_length_8abf5 _ 0 [(0, .ref x)] [] h 0 0
  refine tw_aload_n 0 dJ4_length_8abf5_0 rfl rfl ?_
  refine tw_bi (tw_callSU (M := mJ4_length_8abf5) (pc := 1) okcJ5_length_8abf5 w_999 w_1000 w_852 (by decide) dJ4_length_8abf5_1 w_1004 rfl hx [] [] rfl rfl ⟨by decide, by decide⟩ (Nat.le_of_ble_eq_true rfl) (c_sb_l5 d h x v k f hx hv hf) 0 0 (Nat.le_of_ble_eq_true rfl) (Nat.le_of_ble_eq_true rfl)) (fun r3 h2 q1 => ?_) (fun E h1 q => q.elim)
  obtain ⟨q1r, q1e⟩ := q1
  rw [q1r, q1e]
  exact tw_iret dJ4_length_8abf5_4 rfl (Or.inl ⟨_, rfl, rfl, rfl⟩)

set_option maxHeartbeats 4000000 in
set_option maxRecDepth 100000 in
theorem c_sb_c5 (d : tw_D) (h : tw_H) (x v k : Nat) (f : Nat → Int32) (hx : h x = some (.inr (1, [.ref v, .int 0, .int 0, .int (nI k)]))) (hv : h v = some (.inl (d.2 3, 16, .inl f))) (hf : tw_fb f) (hk : k + 1 ≤ 16) (c : Int32) (hc : c ≤ 255) : tw_Ct d mJ5_append_3fe6f 0 0 [.ref x, .int c] h (tw_qr (fun r h1 => r = x ∧ tw_sbw d h x v (k + 1) h1) tw_nx) := by
  refine tw_of (by decide +kernel) (Nat.le_of_ble_eq_true rfl) ?_
  show tw_W d mJ5_append_3fe6f _ 0 [(0, .ref x), (1, .int c)] [] h 0 0
  refine tw_aload_n 0 dJ5_append_3fe6f_0 rfl rfl ?_
  refine tw_aload_n 0 dJ5_append_3fe6f_1 rfl rfl ?_
  refine tw_get (v := .int (nI k)) rfl in_1 3 dJ5_append_3fe6f_2 w_843 rfl (by decide) hx rfl ?_
  refine tw_iconst (v := 1) dJ5_append_3fe6f_5 (by decide) ?_
  refine tw_iadd dJ5_append_3fe6f_6 ?_
  refine tw_nmi (fun v1 ev1 => ?_)
  have q2 : v1 = (nI (k + 1)) := tw_nI3 ev1
  subst q2
  refine tw_bv (tw_callC (M := mJ5_append_3fe6f) (pc := 7) (C := RJ4) okcJ5_ensureCapacityInternal_d00df w_865 (fun s H a u z => tw_sel (z _ w_899) rfl (u.xs.2.2.2.1 _ (by decide)) (z _ w_865) ⟨by decide, by decide⟩) dJ5_append_3fe6f_7 w_863 rfl hx [.int (nI (k + 1))] [] rfl rfl ⟨by decide, by decide⟩ (Nat.le_of_ble_eq_true rfl) (c_sb_ens d h x v k f hx hv hf (k + 1) (by omega)) 0 0 (Nat.le_of_ble_eq_true rfl) (Nat.le_of_ble_eq_true rfl)) (fun h4 q3 => ?_) (fun E h1 q => q.elim)
  rw [q3]
  refine tw_aload_n 0 dJ5_append_3fe6f_10 rfl rfl ?_
  refine tw_bi (tw_callC (M := mJ5_append_3fe6f) (pc := 11) (C := RJ4) okcJ5_isLatin1_aae02 w_897 (fun s H a u z => z _ w_899) dJ5_append_3fe6f_11 w_896 rfl hx [] [] rfl rfl ⟨by decide, by decide⟩ (Nat.le_of_ble_eq_true rfl) (c_sb_lat d h x v k f hx hv hf) 0 0 (Nat.le_of_ble_eq_true rfl) (Nat.le_of_ble_eq_true rfl)) (fun r8 h7 q6 => ?_) (fun E h1 q => q.elim)
  obtain ⟨q6r, q6e⟩ := q6
  rw [q6r, q6e]
  refine tw_if_eq 45 dJ5_append_3fe6f_14 (by decide) (fun c9 => absurd c9 (by decide)) (fun _ => ?_)
  refine tw_iload_n 1 dJ5_append_3fe6f_17 rfl rfl ?_
  refine tw_bi (tw_callS (M := mJ5_append_3fe6f) (pc := 18) okJ1_canEncode_fc78d dJ5_append_3fe6f_18 w_946 [.int c] [] rfl rfl ⟨by decide, by decide⟩ (Nat.le_of_ble_eq_true rfl) (c_can d h c hc) 0 0 (Nat.le_of_ble_eq_true rfl) (Nat.le_of_ble_eq_true rfl)) (fun r12 h11 q10 => ?_) (fun E h1 q => q.elim)
  obtain ⟨q10r, q10e⟩ := q10
  rw [q10r, q10e]
  refine tw_if_eq 45 dJ5_append_3fe6f_21 (by decide) (fun c13 => absurd c13 (by decide)) (fun _ => ?_)
  refine tw_aload_n 0 dJ5_append_3fe6f_24 rfl rfl ?_
  refine tw_get (v := .ref v) rfl in_1 0 dJ5_append_3fe6f_25 w_840 rfl (by decide) hx rfl ?_
  refine tw_aload_n 0 dJ5_append_3fe6f_28 rfl rfl ?_
  refine tw_dup dJ5_append_3fe6f_29 rfl ?_
  refine tw_get (v := .int (nI k)) rfl in_1 3 dJ5_append_3fe6f_30 w_843 rfl (by decide) hx rfl ?_
  refine tw_dup_x1 dJ5_append_3fe6f_33 rfl rfl ?_
  refine tw_iconst (v := 1) dJ5_append_3fe6f_34 (by decide) ?_
  refine tw_iadd dJ5_append_3fe6f_35 ?_
  refine tw_nmi (fun v14 ev14 => ?_)
  have q15 : v14 = (nI (k + 1)) := tw_nI3 ev14
  subst q15
  refine tw_put rfl in_1 tyJ4 tyJ4_ok nmJ4 3 dJ5_append_3fe6f_36 w_843 rfl (by decide) hx rfl rfl rfl rfl (Nat.le_of_ble_eq_true rfl) [.ref v, .int 0, .int 0, .int (nI (k + 1))] rfl ?_
  obtain ⟨h16, eh16⟩ : ∃ z : tw_H, z = tw_up h x (.inr (1, [.ref v, .int 0, .int 0, .int (nI (k + 1))])) := ⟨_, rfl⟩
  rw [← eh16]
  have f17 : h16 v = some (.inl (d.2 3, 16, .inl f)) := by rw [eh16, tw_up_n (tw_ne hv hx (by simp))]; exact hv
  have f18 : h16 x = some (.inr (1, [.ref v, .int 0, .int 0, .int (nI (k + 1))])) := by rw [eh16]; exact tw_up_s
  refine tw_iload_n 1 dJ5_append_3fe6f_39 rfl rfl ?_
  obtain ⟨v19, ev19⟩ : ∃ y : Int32, c.toInt8.toInt32 = y := ⟨_, rfl⟩
  refine tw_i2b dJ5_append_3fe6f_40 ev19 ?_
  refine tw_bast dJ5_append_3fe6f_41 f17 (vp_in_nI (by omega) (by decide)) ?_
  obtain ⟨h20, eh20⟩ : ∃ z : tw_H, z = tw_up h16 v (.inl (d.2 3, 16, .inl (upd f (nI k).toNatClampNeg (vp_nar .byte v19)))) := ⟨_, rfl⟩
  rw [← eh20]
  have f21 : h20 x = some (.inr (1, [.ref v, .int 0, .int 0, .int (nI (k + 1))])) := by rw [eh20, tw_up_n (tw_ne f18 f17 (by simp))]; exact f18
  have f22 : h20 v = some (.inl (d.2 3, 16, .inl (upd f (nI k).toNatClampNeg (vp_nar .byte v19)))) := by rw [eh20]; exact tw_up_s
  refine tw_goto 75 dJ5_append_3fe6f_42 (by decide) ?_
  refine tw_aload_n 0 dJ5_append_3fe6f_75 rfl rfl ?_
  exact tw_aret dJ5_append_3fe6f_76 rfl (Or.inl ⟨_, rfl⟩) (Or.inl ⟨_, rfl, rfl, ⟨f21, ⟨_, f22, (tw_fb_up hf _ _)⟩, fun q n1 n2 => by rw [eh20, eh16]; simp [tw_up, n1, n2]⟩⟩)

set_option maxHeartbeats 4000000 in
set_option maxRecDepth 100000 in
theorem c_sb_c4 (d : tw_D) (h : tw_H) (x v k : Nat) (f : Nat → Int32) (hx : h x = some (.inr (1, [.ref v, .int 0, .int 0, .int (nI k)]))) (hv : h v = some (.inl (d.2 3, 16, .inl f))) (hf : tw_fb f) (hk : k + 1 ≤ 16) (c : Int32) (hc : c ≤ 255) : tw_Ct d mJ4_append_cf468 0 0 [.ref x, .int c] h (tw_qr (fun r h1 => r = x ∧ tw_sbw d h x v (k + 1) h1) tw_nx) := by
  refine tw_of (by decide +kernel) (Nat.le_of_ble_eq_true rfl) ?_
  show tw_W d mJ4_append_cf468 _ 0 [(0, .ref x), (1, .int c)] [] h 0 0
  refine tw_aload_n 0 dJ4_append_cf468_0 rfl rfl ?_
  refine tw_iload_n 1 dJ4_append_cf468_1 rfl rfl ?_
  refine tw_br (tw_callSU (M := mJ4_append_cf468) (pc := 2) okcJ5_append_3fe6f w_944 w_1599 w_852 (by decide) dJ4_append_cf468_2 w_943 rfl hx [.int c] [] rfl rfl ⟨by decide, by decide⟩ (Nat.le_of_ble_eq_true rfl) (c_sb_c5 d h x v k f hx hv hf hk c hc) 0 0 (Nat.le_of_ble_eq_true rfl) (Nat.le_of_ble_eq_true rfl)) (fun r3 h2 q1 => ?_) (fun E h1 q => q.elim)
  obtain ⟨q1r, q1w⟩ := q1
  rw [q1r]
  refine tw_pop dJ4_append_cf468_5 rfl ?_
  refine tw_aload_n 0 dJ4_append_cf468_6 rfl rfl ?_
  exact tw_aret dJ4_append_cf468_7 rfl (Or.inl ⟨_, rfl⟩) (Or.inl ⟨_, rfl, rfl, q1w⟩)

set_option maxHeartbeats 4000000 in
set_option maxRecDepth 100000 in
theorem c_ssz (d : tw_D) (h : tw_H) (i : Nat) (hi : i ≤ 99) : tw_Ct d mJ6_stringSize_0f7a4 0 0 [.int (nI i)] h (tw_qi (fun r h1 => ∃ w : Nat, (w = 1 ∧ i ≤ 9 ∨ w = 2) ∧ r = nI w ∧ h1 = h) tw_nx) := by
  refine tw_of (by decide +kernel) (Nat.le_of_ble_eq_true rfl) ?_
  show tw_W d mJ6_stringSize_0f7a4 _ 0 [(0, .int (nI i))] [] h 0 0
  refine tw_iconst (v := 1) dJ6_stringSize_0f7a4_0 (by decide) ?_
  refine tw_istore_n [(1, .int 1), (0, .int (nI i))] dJ6_stringSize_0f7a4_1 rfl (by decide) rfl ?_
  refine tw_iload_n 1 dJ6_stringSize_0f7a4_2 rfl rfl ?_
  refine tw_if_lt 11 dJ6_stringSize_0f7a4_3 (by decide) (fun c1 => absurd c1 (tw_ni0 hi)) (fun _ => ?_)
  refine tw_iconst (v := 0) dJ6_stringSize_0f7a4_6 (by decide) ?_
  refine tw_istore_n [(1, .int 0), (0, .int (nI i))] dJ6_stringSize_0f7a4_7 rfl (by decide) rfl ?_
  refine tw_iload_n 1 dJ6_stringSize_0f7a4_8 rfl rfl ?_
  refine tw_ineg dJ6_stringSize_0f7a4_9 ?_
  refine tw_nmi (fun v2 ev2 => ?_)
  refine tw_istore_n [(0, .int v2), (1, .int 0)] dJ6_stringSize_0f7a4_10 rfl (by decide) rfl ?_
  refine tw_bipush (v := -10) dJ6_stringSize_0f7a4_11 (by decide) ?_
  refine tw_istore_n [(2, .int (-10)), (0, .int v2), (1, .int 0)] dJ6_stringSize_0f7a4_13 rfl (by decide) rfl ?_
  refine tw_iconst (v := 1) dJ6_stringSize_0f7a4_14 (by decide) ?_
  refine tw_istore_n [(3, .int 1), (2, .int (-10)), (0, .int v2), (1, .int 0)] dJ6_stringSize_0f7a4_15 rfl (by decide) rfl ?_
  refine tw_iload_n 0 dJ6_stringSize_0f7a4_16 rfl rfl ?_
  refine tw_bipush (v := 10) dJ6_stringSize_0f7a4_17 (by decide) ?_
  refine tw_icmp_ge 42 dJ6_stringSize_0f7a4_19 (by decide) (fun c3 => absurd c3 (by decide)) (fun _ => ?_)
  refine tw_iload_n 2 dJ6_stringSize_0f7a4_22 rfl rfl ?_
  refine tw_iload_n 1 dJ6_stringSize_0f7a4_23 rfl rfl ?_
  refine tw_icmp_le 31 dJ6_stringSize_0f7a4_24 (by decide) (fun c4 => ?_) (fun c4 => ?_)
  · refine tw_bipush (v := 10) dJ6_stringSize_0f7a4_31 (by decide) ?_
    refine tw_iload_n 1 dJ6_stringSize_0f7a4_33 rfl rfl ?_
    refine tw_imul dJ6_stringSize_0f7a4_34 ?_
    refine tw_nmi (fun v5 ev5 => ?_)
    have q6 : v5 = -100 := by rw [ev5]; decide
    subst q6
    refine tw_istore_n [(2, .int (-100)), (3, .int 1), (0, .int v2), (1, .int 0)] dJ6_stringSize_0f7a4_35 rfl (by decide) rfl ?_
    refine tw_iinc [(3, .int 2), (2, .int (-100)), (0, .int v2), (1, .int 0)] 1 dJ6_stringSize_0f7a4_36 rfl (by decide) (by decide) rfl ?_
    refine tw_goto 16 dJ6_stringSize_0f7a4_39 (by decide) ?_
    refine tw_iload_n 0 dJ6_stringSize_0f7a4_16 rfl rfl ?_
    refine tw_bipush (v := 10) dJ6_stringSize_0f7a4_17 (by decide) ?_
    refine tw_icmp_ge 42 dJ6_stringSize_0f7a4_19 (by decide) (fun c7 => absurd c7 (by decide)) (fun _ => ?_)
    refine tw_iload_n 2 dJ6_stringSize_0f7a4_22 rfl rfl ?_
    refine tw_iload_n 1 dJ6_stringSize_0f7a4_23 rfl rfl ?_
    refine tw_icmp_le 31 dJ6_stringSize_0f7a4_24 (by decide) (fun c8 => absurd c8 (by rw [ev2]; exact tw_ni99 hi)) (fun _ => ?_)
    refine tw_iload_n 0 dJ6_stringSize_0f7a4_27 rfl rfl ?_
    refine tw_iload_n 3 dJ6_stringSize_0f7a4_28 rfl rfl ?_
    refine tw_iadd dJ6_stringSize_0f7a4_29 ?_
    refine tw_nmi (fun v9 ev9 => ?_)
    exact tw_iret dJ6_stringSize_0f7a4_30 rfl (Or.inl ⟨_, rfl, 2, Or.inr rfl, by rw [ev9]; rfl, rfl⟩)
  · refine tw_iload_n 0 dJ6_stringSize_0f7a4_27 rfl rfl ?_
    refine tw_iload_n 3 dJ6_stringSize_0f7a4_28 rfl rfl ?_
    refine tw_iadd dJ6_stringSize_0f7a4_29 ?_
    refine tw_nmi (fun v10 ev10 => ?_)
    exact tw_iret dJ6_stringSize_0f7a4_30 rfl (Or.inl ⟨_, rfl, 1, Or.inl ⟨rfl, tw_ni9 hi (by rw [← ev2]; exact c4)⟩, by rw [ev10]; rfl, rfl⟩)

set_option maxHeartbeats 4000000 in
set_option maxRecDepth 100000 in
theorem c_gch (d : tw_D) (h : tw_H) (i j v : Nat) (f : Nat → Int32) (hv : h v = some (.inl (d.2 3, 16, .inl f))) (hf : tw_fb f) (hi : i ≤ 99) (hj : j ≤ 16) (h1 : 1 ≤ j) (h2 : 10 ≤ i → 2 ≤ j) : tw_Ct d mJ6_getChars_ba4f3 0 0 [.int (nI i), .int (nI j), .ref v] h (tw_qi (fun r h1 => ∃ f1 : Nat → Int32, h1 = tw_up h v (.inl (d.2 3, 16, .inl f1)) ∧ tw_fb f1) tw_nx) := by
  refine tw_of (by decide +kernel) (Nat.le_of_ble_eq_true rfl) ?_
  show tw_W d mJ6_getChars_ba4f3 _ 0 [(0, .int (nI i)), (1, .int (nI j)), (2, .ref v)] [] h 0 0
  refine tw_iload_n 1 dJ6_getChars_ba4f3_0 rfl rfl ?_
  refine tw_istore [(5, .int (nI j)), (0, .int (nI i)), (1, .int (nI j)), (2, .ref v)] dJ6_getChars_ba4f3_1 (by decide) rfl ?_
  refine tw_iload_n 1 dJ6_getChars_ba4f3_3 rfl rfl ?_
  refine tw_if_ge 11 dJ6_getChars_ba4f3_4 (by decide) (fun _ => ?_) (fun c1 => absurd (Int32.not_lt.mp (tw_ni0 hi)) c1)
  refine tw_iconst (v := 0) dJ6_getChars_ba4f3_11 (by decide) ?_
  refine tw_istore [(6, .int 0), (5, .int (nI j)), (0, .int (nI i)), (1, .int (nI j)), (2, .ref v)] dJ6_getChars_ba4f3_12 (by decide) rfl ?_
  refine tw_iload 0 dJ6_getChars_ba4f3_14 rfl ?_
  refine tw_if_ne 22 dJ6_getChars_ba4f3_16 (by decide) (fun c2 => absurd (by decide) c2) (fun _ => ?_)
  refine tw_iload_n 2 dJ6_getChars_ba4f3_19 rfl rfl ?_
  refine tw_ineg dJ6_getChars_ba4f3_20 ?_
  refine tw_nmi (fun v3 ev3 => ?_)
  refine tw_istore_n [(0, .int v3), (6, .int 0), (5, .int (nI j)), (1, .int (nI j)), (2, .ref v)] dJ6_getChars_ba4f3_21 rfl (by decide) rfl ?_
  refine tw_iload_n 0 dJ6_getChars_ba4f3_22 rfl rfl ?_
  refine tw_bipush (v := -100) dJ6_getChars_ba4f3_23 (by decide) ?_
  refine tw_icmp_gt 72 dJ6_getChars_ba4f3_25 (by decide) (fun _ => ?_) (fun c4 => absurd (by rw [ev3]; exact tw_ni99' hi) c4)
  refine tw_aload_n 4 dJ6_getChars_ba4f3_72 rfl rfl ?_
  obtain ⟨v5, ev5⟩ : ∃ y : Int32, y = (nI j) + (-1) := ⟨_, rfl⟩
  refine tw_iinc [(5, .int v5), (0, .int v3), (6, .int 0), (1, .int (nI j)), (2, .ref v)] 2 dJ6_getChars_ba4f3_73 rfl (by rw [ev5]; rfl) (by decide) rfl ?_
  have q6 : v5 = nI (j - 1) := by rw [ev5]; exact tw_nim (j := j) (by omega)
  subst q6
  refine tw_iload 0 dJ6_getChars_ba4f3_76 rfl ?_
  refine tw_gets (fun _ _ z => z.xs.1.1) rfl dJ6_getChars_ba4f3_78 w_904 ?_
  refine tw_iload_n 1 dJ6_getChars_ba4f3_81 rfl rfl ?_
  refine tw_ineg dJ6_getChars_ba4f3_82 ?_
  refine tw_nmi (fun v7 ev7 => ?_)
  have q8 : v7 = nI i := by rw [ev7, ev3]; exact tw_ninn i
  rw [q8]
  obtain ⟨y9, ey9⟩ : ∃ y : Int32, nI (48 + (nI i).toNatClampNeg % 10) = y := ⟨_, rfl⟩
  refine tw_tb (v := .int y9) (fun _ _ z => z.xs.1.2) dJ6_getChars_ba4f3_83 (vp_in_nI (by omega) (by decide)) (congrArg Value.int ey9) ?_
  refine tw_bast dJ6_getChars_ba4f3_84 hv (vp_in_nI (by omega) (by decide)) ?_
  obtain ⟨h10, eh10⟩ : ∃ z : tw_H, z = tw_up h v (.inl (d.2 3, 16, .inl (upd f (nI (j - 1)).toNatClampNeg (vp_nar .byte y9)))) := ⟨_, rfl⟩
  rw [← eh10]
  have f11 : h10 v = some (.inl (d.2 3, 16, .inl (upd f (nI (j - 1)).toNatClampNeg (vp_nar .byte y9)))) := by rw [eh10]; exact tw_up_s
  refine tw_iload_n 1 dJ6_getChars_ba4f3_85 rfl rfl ?_
  refine tw_bipush (v := -9) dJ6_getChars_ba4f3_86 (by decide) ?_
  refine tw_icmp_ge 104 dJ6_getChars_ba4f3_88 (by decide) (fun c12 => ?_) (fun c12 => ?_)
  · refine tw_iload 2 dJ6_getChars_ba4f3_104 rfl ?_
    refine tw_if_eq 118 dJ6_getChars_ba4f3_106 (by decide) (fun _ => ?_) (fun c13 => absurd (by decide) c13)
    refine tw_iload 0 dJ6_getChars_ba4f3_118 rfl ?_
    exact tw_iret dJ6_getChars_ba4f3_120 rfl (Or.inl ⟨_, rfl, (upd f (nI (j - 1)).toNatClampNeg (vp_nar .byte y9)), (by rw [eh10] <;> simp only [tw_up_up]), (tw_fb_up hf _ _)⟩)
  · have i10 : 10 ≤ i := tw_ni10 hi (by rw [← ev3]; exact c12)
    have j2 := h2 i10
    refine tw_aload_n 4 dJ6_getChars_ba4f3_91 rfl rfl ?_
    obtain ⟨v14, ev14⟩ : ∃ y : Int32, y = (nI (j - 1)) + (-1) := ⟨_, rfl⟩
    refine tw_iinc [(5, .int v14), (0, .int v3), (6, .int 0), (1, .int (nI j)), (2, .ref v)] 0 dJ6_getChars_ba4f3_92 rfl (by rw [ev14]; rfl) (by decide) rfl ?_
    have q15 : v14 = nI ((j - 1) - 1) := by rw [ev14]; exact tw_nim (j := (j - 1)) (by omega)
    subst q15
    refine tw_iload 0 dJ6_getChars_ba4f3_95 rfl ?_
    refine tw_gets (fun _ _ z => z.xs.2.1.1) rfl dJ6_getChars_ba4f3_97 w_906 ?_
    refine tw_iload_n 1 dJ6_getChars_ba4f3_100 rfl rfl ?_
    refine tw_ineg dJ6_getChars_ba4f3_101 ?_
    refine tw_nmi (fun v16 ev16 => ?_)
    have q17 : v16 = nI i := by rw [ev16, ev3]; exact tw_ninn i
    rw [q17]
    obtain ⟨y18, ey18⟩ : ∃ y : Int32, nI (48 + (nI i).toNatClampNeg / 10) = y := ⟨_, rfl⟩
    refine tw_tb (v := .int y18) (fun _ _ z => z.xs.2.1.2) dJ6_getChars_ba4f3_102 (vp_in_nI (by omega) (by decide)) (congrArg Value.int ey18) ?_
    refine tw_bast dJ6_getChars_ba4f3_103 f11 (vp_in_nI (by omega) (by decide)) ?_
    obtain ⟨h19, eh19⟩ : ∃ z : tw_H, z = tw_up h10 v (.inl (d.2 3, 16, .inl (upd (upd f (nI (j - 1)).toNatClampNeg (vp_nar .byte y9)) (nI ((j - 1) - 1)).toNatClampNeg (vp_nar .byte y18)))) := ⟨_, rfl⟩
    rw [← eh19]
    have f20 : h19 v = some (.inl (d.2 3, 16, .inl (upd (upd f (nI (j - 1)).toNatClampNeg (vp_nar .byte y9)) (nI ((j - 1) - 1)).toNatClampNeg (vp_nar .byte y18)))) := by rw [eh19]; exact tw_up_s
    refine tw_iload 2 dJ6_getChars_ba4f3_104 rfl ?_
    refine tw_if_eq 118 dJ6_getChars_ba4f3_106 (by decide) (fun _ => ?_) (fun c21 => absurd (by decide) c21)
    refine tw_iload 0 dJ6_getChars_ba4f3_118 rfl ?_
    exact tw_iret dJ6_getChars_ba4f3_120 rfl (Or.inl ⟨_, rfl, (upd (upd f (nI (j - 1)).toNatClampNeg (vp_nar .byte y9)) (nI ((j - 1) - 1)).toNatClampNeg (vp_nar .byte y18)), (by rw [eh19, eh10] <;> simp only [tw_up_up]), (tw_fb_up (tw_fb_up hf _ _) _ _)⟩)

set_option maxHeartbeats 4000000 in
set_option maxRecDepth 100000 in
theorem c_sb_i5 (d : tw_D) (h : tw_H) (x v k : Nat) (f : Nat → Int32) (hx : h x = some (.inr (1, [.ref v, .int 0, .int 0, .int (nI k)]))) (hv : h v = some (.inl (d.2 3, 16, .inl f))) (hf : tw_fb f) (hk : k + 2 ≤ 16) (i : Nat) (hi : i ≤ 99) : tw_Ct d mJ5_append_c97b9 0 0 [.ref x, .int (nI i)] h (tw_qr (fun r h1 => r = x ∧ ∃ k1, k1 ≤ k + 2 ∧ tw_sbw d h x v k1 h1) tw_nx) := by
  refine tw_of (by decide +kernel) (Nat.le_of_ble_eq_true rfl) ?_
  show tw_W d mJ5_append_c97b9 _ 0 [(0, .ref x), (1, .int (nI i))] [] h 0 0
  refine tw_aload_n 0 dJ5_append_c97b9_0 rfl rfl ?_
  refine tw_get (v := .int (nI k)) rfl in_1 3 dJ5_append_c97b9_1 w_843 rfl (by decide) hx rfl ?_
  refine tw_istore_n [(2, .int (nI k)), (0, .ref x), (1, .int (nI i))] dJ5_append_c97b9_4 rfl (by decide) rfl ?_
  refine tw_iload_n 0 dJ5_append_c97b9_5 rfl rfl ?_
  refine tw_iload_n 2 dJ5_append_c97b9_6 rfl rfl ?_
  refine tw_bi (tw_callS (M := mJ5_append_c97b9) (pc := 7) okJ6_stringSize_0f7a4 dJ5_append_c97b9_7 w_860 [.int (nI i)] [.int (nI k)] rfl rfl ⟨by decide, by decide⟩ (Nat.le_of_ble_eq_true rfl) (c_ssz d h i hi) 0 0 (Nat.le_of_ble_eq_true rfl) (Nat.le_of_ble_eq_true rfl)) (fun r3 h2 q1 => ?_) (fun E h1 q => q.elim)
  obtain ⟨w4, q1w, q1r, q1e⟩ := q1
  rw [q1r, q1e]
  refine tw_iadd dJ5_append_c97b9_10 ?_
  refine tw_nmi (fun v5 ev5 => ?_)
  have q6 : v5 = nI (k + w4) := by rw [ev5]; exact tw_niadd
  subst q6
  refine tw_istore_n [(3, .int (nI (k + w4))), (2, .int (nI k)), (0, .ref x), (1, .int (nI i))] dJ5_append_c97b9_11 rfl (by decide) rfl ?_
  refine tw_aload_n 2 dJ5_append_c97b9_12 rfl rfl ?_
  refine tw_iload_n 0 dJ5_append_c97b9_13 rfl rfl ?_
  refine tw_bv (tw_callC (M := mJ5_append_c97b9) (pc := 14) (C := RJ4) okcJ5_ensureCapacityInternal_d00df w_865 (fun s H a u z => tw_sel (z _ w_899) rfl (u.xs.2.2.2.1 _ (by decide)) (z _ w_865) ⟨by decide, by decide⟩) dJ5_append_c97b9_14 w_863 rfl hx [.int (nI (k + w4))] [] rfl rfl ⟨by decide, by decide⟩ (Nat.le_of_ble_eq_true rfl) (c_sb_ens d h x v k f hx hv hf (k + w4) (by omega)) 0 0 (Nat.le_of_ble_eq_true rfl) (Nat.le_of_ble_eq_true rfl)) (fun h8 q7 => ?_) (fun E h1 q => q.elim)
  rw [q7]
  refine tw_aload_n 2 dJ5_append_c97b9_17 rfl rfl ?_
  refine tw_bi (tw_callC (M := mJ5_append_c97b9) (pc := 18) (C := RJ4) okcJ5_isLatin1_aae02 w_897 (fun s H a u z => z _ w_899) dJ5_append_c97b9_18 w_896 rfl hx [] [] rfl rfl ⟨by decide, by decide⟩ (Nat.le_of_ble_eq_true rfl) (c_sb_lat d h x v k f hx hv hf) 0 0 (Nat.le_of_ble_eq_true rfl) (Nat.le_of_ble_eq_true rfl)) (fun r12 h11 q10 => ?_) (fun E h1 q => q.elim)
  obtain ⟨q10r, q10e⟩ := q10
  rw [q10r, q10e]
  refine tw_if_eq 37 dJ5_append_c97b9_21 (by decide) (fun c13 => absurd c13 (by decide)) (fun _ => ?_)
  refine tw_iload_n 3 dJ5_append_c97b9_24 rfl rfl ?_
  refine tw_iload_n 0 dJ5_append_c97b9_25 rfl rfl ?_
  refine tw_aload_n 2 dJ5_append_c97b9_26 rfl rfl ?_
  refine tw_get (v := .ref v) rfl in_1 0 dJ5_append_c97b9_27 w_840 rfl (by decide) hx rfl ?_
  refine tw_bi (tw_callS (M := mJ5_append_c97b9) (pc := 30) okJ6_getChars_ba4f3 dJ5_append_c97b9_30 w_901 [.int (nI i), .int (nI (k + w4)), .ref v] [] rfl rfl ⟨by decide, by decide⟩ (Nat.le_of_ble_eq_true rfl) (c_gch d h i (k + w4) v f hv hf hi (by omega) (by omega) (by omega)) 0 0 (Nat.le_of_ble_eq_true rfl) (Nat.le_of_ble_eq_true rfl)) (fun r16 h15 q14 => ?_) (fun E h1 q => q.elim)
  obtain ⟨F17, q14e, q14f⟩ := q14
  have f18 : h15 x = some (.inr (1, [.ref v, .int 0, .int 0, .int (nI k)])) := by rw [q14e, tw_up_n (tw_ne hx hv (by simp))]; exact hx
  have f19 : h15 v = some (.inl (d.2 3, 16, .inl F17)) := by rw [q14e]; exact tw_up_s
  refine tw_pop dJ5_append_c97b9_33 rfl ?_
  refine tw_goto 48 dJ5_append_c97b9_34 (by decide) ?_
  refine tw_aload_n 2 dJ5_append_c97b9_48 rfl rfl ?_
  refine tw_iload_n 0 dJ5_append_c97b9_49 rfl rfl ?_
  refine tw_put rfl in_1 tyJ4 tyJ4_ok nmJ4 3 dJ5_append_c97b9_50 w_843 rfl (by decide) f18 rfl rfl rfl rfl (Nat.le_of_ble_eq_true rfl) [.ref v, .int 0, .int 0, .int (nI (k + w4))] rfl ?_
  obtain ⟨h20, eh20⟩ : ∃ z : tw_H, z = tw_up h15 x (.inr (1, [.ref v, .int 0, .int 0, .int (nI (k + w4))])) := ⟨_, rfl⟩
  rw [← eh20]
  have f21 : h20 v = some (.inl (d.2 3, 16, .inl F17)) := by rw [eh20, tw_up_n (tw_ne f19 f18 (by simp))]; exact f19
  have f22 : h20 x = some (.inr (1, [.ref v, .int 0, .int 0, .int (nI (k + w4))])) := by rw [eh20]; exact tw_up_s
  refine tw_aload_n 2 dJ5_append_c97b9_53 rfl rfl ?_
  exact tw_aret dJ5_append_c97b9_54 rfl (Or.inl ⟨_, rfl⟩) (Or.inl ⟨_, rfl, rfl, _, (by omega), ⟨f22, ⟨_, f21, q14f⟩, fun q n1 n2 => by rw [eh20, q14e]; simp [tw_up, n1, n2]⟩⟩)

set_option maxHeartbeats 4000000 in
set_option maxRecDepth 100000 in
theorem c_sb_i4 (d : tw_D) (h : tw_H) (x v k : Nat) (f : Nat → Int32) (hx : h x = some (.inr (1, [.ref v, .int 0, .int 0, .int (nI k)]))) (hv : h v = some (.inl (d.2 3, 16, .inl f))) (hf : tw_fb f) (hk : k + 2 ≤ 16) (i : Nat) (hi : i ≤ 99) : tw_Ct d mJ4_append_bf812 0 0 [.ref x, .int (nI i)] h (tw_qr (fun r h1 => r = x ∧ ∃ k1, k1 ≤ k + 2 ∧ tw_sbw d h x v k1 h1) tw_nx) := by
  refine tw_of (by decide +kernel) (Nat.le_of_ble_eq_true rfl) ?_
  show tw_W d mJ4_append_bf812 _ 0 [(0, .ref x), (1, .int (nI i))] [] h 0 0
  refine tw_aload_n 0 dJ4_append_bf812_0 rfl rfl ?_
  refine tw_iload_n 1 dJ4_append_bf812_1 rfl rfl ?_
  refine tw_br (tw_callSU (M := mJ4_append_bf812) (pc := 2) okcJ5_append_c97b9 w_858 w_1596 w_852 (by decide) dJ4_append_bf812_2 w_857 rfl hx [.int (nI i)] [] rfl rfl ⟨by decide, by decide⟩ (Nat.le_of_ble_eq_true rfl) (c_sb_i5 d h x v k f hx hv hf hk i hi) 0 0 (Nat.le_of_ble_eq_true rfl) (Nat.le_of_ble_eq_true rfl)) (fun r3 h2 q1 => ?_) (fun E h1 q => q.elim)
  obtain ⟨q1r, q1w⟩ := q1
  rw [q1r]
  refine tw_pop dJ4_append_bf812_5 rfl ?_
  refine tw_aload_n 0 dJ4_append_bf812_6 rfl rfl ?_
  exact tw_aret dJ4_append_bf812_7 rfl (Or.inl ⟨_, rfl⟩) (Or.inl ⟨_, rfl, rfl, q1w⟩)

set_option maxHeartbeats 4000000 in
set_option maxRecDepth 100000 in
theorem c_scod (d : tw_D) (h : tw_H) (i : Nat) (hi : i < 2) : tw_Ct d mJ0_coder_7d493 0 0 [.ref (d.2 (219 + i))] h (tw_qi (fun r h1 => r = 0 ∧ h1 = h) tw_nx) := by
  refine tw_of (by decide +kernel) (Nat.le_of_ble_eq_true rfl) ?_
  show tw_W d mJ0_coder_7d493 _ 0 [(0, .ref (d.2 (219 + i)))] [] h 0 0
  refine tw_gets (fun _ _ z => z.2.2.2.2.2.2.1.1) rfl dJ0_coder_7d493_0 w_1043 ?_
  refine tw_if_eq 13 dJ0_coder_7d493_3 (by decide) (fun c1 => absurd c1 (by decide)) (fun _ => ?_)
  refine tw_aload_n 0 dJ0_coder_7d493_6 rfl rfl ?_
  refine tw_getK (v := .int 0) (fun _ _ z => (z.xs.2.2.1.1 i hi).2.1) dJ0_coder_7d493_7 w_1075 ?_
  refine tw_goto 14 dJ0_coder_7d493_10 (by decide) ?_
  exact tw_bret dJ0_coder_7d493_14 rfl rfl (Or.inl ⟨_, rfl, rfl, rfl⟩)

set_option maxHeartbeats 4000000 in
set_option maxRecDepth 100000 in
theorem c_slen (d : tw_D) (h : tw_H) (i : Nat) (hi : i < 2) : tw_Ct d mJ0_length_8abf5 0 0 [.ref (d.2 (219 + i))] h (tw_qi (fun r h1 => r = nI i ∧ h1 = h) tw_nx) := by
  refine tw_of (by decide +kernel) (Nat.le_of_ble_eq_true rfl) ?_
  show tw_W d mJ0_length_8abf5 _ 0 [(0, .ref (d.2 (219 + i)))] [] h 0 0
  refine tw_aload_n 0 dJ0_length_8abf5_0 rfl rfl ?_
  refine tw_getK (v := .ref (d.2 (105 + i))) (fun _ _ z => (z.xs.2.2.1.1 i hi).2.2.1) dJ0_length_8abf5_1 w_1074 ?_
  refine tw_tlen (N := i) (tw_kT hi) dJ0_length_8abf5_4 ?_
  refine tw_aload_n 0 dJ0_length_8abf5_5 rfl rfl ?_
  refine tw_bi (tw_callK (M := mJ0_length_8abf5) (pc := 6) (i := i) okJ0_coder_7d493 rfl hi dJ0_length_8abf5_6 w_1039 [] [.int (nI i)] rfl rfl ⟨by decide, by decide⟩ (Nat.le_of_ble_eq_true rfl) (c_scod d h i hi) 0 0 (Nat.le_of_ble_eq_true rfl) (Nat.le_of_ble_eq_true rfl)) (fun r3 h2 q1 => ?_) (fun E h1 q => q.elim)
  obtain ⟨q1r, q1e⟩ := q1
  rw [q1r, q1e]
  refine tw_ishr0 dJ0_length_8abf5_9 ?_
  exact tw_iret dJ0_length_8abf5_10 rfl (Or.inl ⟨_, rfl, rfl, rfl⟩)

set_option maxHeartbeats 4000000 in
set_option maxRecDepth 100000 in
theorem c_sgb (d : tw_D) (h : tw_H) (i : Nat) (hi : i < 2) (v k : Nat) (f : Nat → Int32) (hv : h v = some (.inl (d.2 3, 16, .inl f))) (hf : tw_fb f) (hk : k + i ≤ 16) : tw_Ct d mJ0_getBytes_840e7 0 0 [.ref (d.2 (219 + i)), .ref v, .int (nI k), .int 0] h (tw_qv (fun h1 => ∃ f1 : Nat → Int32, h1 = tw_up h v (.inl (d.2 3, 16, .inl f1)) ∧ tw_fb f1) tw_nx) := by
  refine tw_of (by decide +kernel) (Nat.le_of_ble_eq_true rfl) ?_
  show tw_W d mJ0_getBytes_840e7 _ 0 [(0, .ref (d.2 (219 + i))), (1, .ref v), (2, .int (nI k)), (3, .int 0)] [] h 0 0
  refine tw_aload_n 0 dJ0_getBytes_840e7_0 rfl rfl ?_
  refine tw_bi (tw_callK (M := mJ0_getBytes_840e7) (pc := 1) (i := i) okJ0_coder_7d493 rfl hi dJ0_getBytes_840e7_1 w_1039 [] [] rfl rfl ⟨by decide, by decide⟩ (Nat.le_of_ble_eq_true rfl) (c_scod d h i hi) 0 0 (Nat.le_of_ble_eq_true rfl) (Nat.le_of_ble_eq_true rfl)) (fun r3 h2 q1 => ?_) (fun E h1 q => q.elim)
  obtain ⟨q1r, q1e⟩ := q1
  rw [q1r, q1e]
  refine tw_iload_n 3 dJ0_getBytes_840e7_4 rfl rfl ?_
  refine tw_icmp_ne 28 dJ0_getBytes_840e7_5 (by decide) (fun c4 => absurd (by decide) c4) (fun _ => ?_)
  refine tw_aload_n 0 dJ0_getBytes_840e7_8 rfl rfl ?_
  refine tw_getK (v := .ref (d.2 (105 + i))) (fun _ _ z => (z.xs.2.2.1.1 i hi).2.2.1) dJ0_getBytes_840e7_9 w_1074 ?_
  refine tw_iconst (v := 0) dJ0_getBytes_840e7_12 (by decide) ?_
  refine tw_aload_n 1 dJ0_getBytes_840e7_13 rfl rfl ?_
  refine tw_iload_n 2 dJ0_getBytes_840e7_14 rfl rfl ?_
  refine tw_iload_n 3 dJ0_getBytes_840e7_15 rfl rfl ?_
  refine tw_ishl0 dJ0_getBytes_840e7_16 ?_
  refine tw_aload_n 0 dJ0_getBytes_840e7_17 rfl rfl ?_
  refine tw_getK (v := .ref (d.2 (105 + i))) (fun _ _ z => (z.xs.2.2.1.1 i hi).2.2.1) dJ0_getBytes_840e7_18 w_1074 ?_
  refine tw_tlen (N := i) (tw_kT hi) dJ0_getBytes_840e7_21 ?_
  refine tw_tcopy (n0 := i) (k := nI i) (tw_kT hi) dJ0_getBytes_840e7_22 w_1057 hv (tw_fb42 i hi) (by decide) (nI_pos (by omega)) (nI_pos (by omega)) (by rw [nI_clamp (by omega)]; exact Nat.le_of_eq (Nat.zero_add i)) (by rw [nI_clamp (by omega), nI_clamp (by omega)]; exact hk) ⟨by decide, Nat.le_of_ble_eq_true rfl⟩ ?_
  obtain ⟨h5, eh5⟩ : ∃ z : tw_H, z = tw_up h v (.inl (d.2 3, 16, .inl (va_cpy (fun j => (([[], [42]] : List (List Int32)).getD i []).getD j 0) f (0 : Int32).toNatClampNeg (nI k).toNatClampNeg (nI i).toNatClampNeg))) := ⟨_, rfl⟩
  rw [← eh5]
  have f6 : h5 v = some (.inl (d.2 3, 16, .inl (va_cpy (fun j => (([[], [42]] : List (List Int32)).getD i []).getD j 0) f (0 : Int32).toNatClampNeg (nI k).toNatClampNeg (nI i).toNatClampNeg))) := by rw [eh5]; exact tw_up_s
  refine tw_goto 43 dJ0_getBytes_840e7_25 (by decide) ?_
  exact tw_vret dJ0_getBytes_840e7_43 rfl (Or.inl ⟨rfl, (va_cpy (fun j => (([[], [42]] : List (List Int32)).getD i []).getD j 0) f (0 : Int32).toNatClampNeg (nI k).toNatClampNeg (nI i).toNatClampNeg), (by rw [eh5] <;> simp only [tw_up_up]), (tw_fb_cp (tw_fb42 i hi) hf _ _ _)⟩)

set_option maxHeartbeats 4000000 in
set_option maxRecDepth 100000 in
theorem c_infl (d : tw_D) (h : tw_H) (x v k : Nat) (f : Nat → Int32) (hx : h x = some (.inr (1, [.ref v, .int 0, .int 0, .int (nI k)]))) (hv : h v = some (.inl (d.2 3, 16, .inl f))) (hf : tw_fb f) (i : Nat) (hi : i < 2) : tw_Ct d mJ5_inflateIfNeededFor_a7421 0 0 [.ref x, .ref (d.2 (219 + i))] h (tw_qv (fun h1 => h1 = h) tw_nx) := by
  refine tw_of (by decide +kernel) (Nat.le_of_ble_eq_true rfl) ?_
  show tw_W d mJ5_inflateIfNeededFor_a7421 _ 0 [(0, .ref x), (1, .ref (d.2 (219 + i)))] [] h 0 0
  refine tw_gets (fun _ _ z => z.2.2.2.2.2.2.1.1) rfl dJ5_inflateIfNeededFor_a7421_0 w_831 ?_
  refine tw_if_eq 21 dJ5_inflateIfNeededFor_a7421_3 (by decide) (fun c1 => absurd c1 (by decide)) (fun _ => ?_)
  refine tw_aload_n 0 dJ5_inflateIfNeededFor_a7421_6 rfl rfl ?_
  refine tw_get (v := .int 0) rfl in_1 1 dJ5_inflateIfNeededFor_a7421_7 w_841 rfl (by decide) hx rfl ?_
  refine tw_aload_n 1 dJ5_inflateIfNeededFor_a7421_10 rfl rfl ?_
  refine tw_bi (tw_callK (M := mJ5_inflateIfNeededFor_a7421) (pc := 11) (i := i) okJ0_coder_7d493 rfl hi dJ5_inflateIfNeededFor_a7421_11 w_1052 [] [.int 0] rfl rfl ⟨by decide, by decide⟩ (Nat.le_of_ble_eq_true rfl) (c_scod d h i hi) 0 0 (Nat.le_of_ble_eq_true rfl) (Nat.le_of_ble_eq_true rfl)) (fun r4 h3 q2 => ?_) (fun E h1 q => q.elim)
  obtain ⟨q2r, q2e⟩ := q2
  rw [q2r, q2e]
  refine tw_icmp_eq 21 dJ5_inflateIfNeededFor_a7421_14 (by decide) (fun _ => ?_) (fun c5 => absurd (by decide) c5)
  exact tw_vret dJ5_inflateIfNeededFor_a7421_21 rfl (Or.inl ⟨rfl, rfl⟩)

set_option maxHeartbeats 4000000 in
set_option maxRecDepth 100000 in
theorem c_psa (d : tw_D) (h : tw_H) (x v k : Nat) (f : Nat → Int32) (hx : h x = some (.inr (1, [.ref v, .int 0, .int 0, .int (nI k)]))) (hv : h v = some (.inl (d.2 3, 16, .inl f))) (hf : tw_fb f) (i : Nat) (hi : i < 2) (hk : k + i ≤ 16) : tw_Ct d mJ5_putStringAt_47b60 0 0 [.ref x, .int (nI k), .ref (d.2 (219 + i))] h (tw_qv (fun h1 => ∃ f1 : Nat → Int32, h1 = tw_up h v (.inl (d.2 3, 16, .inl f1)) ∧ tw_fb f1) tw_nx) := by
  refine tw_of (by decide +kernel) (Nat.le_of_ble_eq_true rfl) ?_
  show tw_W d mJ5_putStringAt_47b60 _ 0 [(0, .ref x), (1, .int (nI k)), (2, .ref (d.2 (219 + i)))] [] h 0 0
  refine tw_aload_n 0 dJ5_putStringAt_47b60_0 rfl rfl ?_
  refine tw_aload_n 2 dJ5_putStringAt_47b60_1 rfl rfl ?_
  refine tw_bv (tw_callC (M := mJ5_putStringAt_47b60) (pc := 2) (C := RJ4) okcJ5_inflateIfNeededFor_a7421 w_1050 (fun s H a u z => tw_sel (z _ w_899) rfl (u.xs.2.2.2.1 _ (by decide)) (z _ w_1050) ⟨by decide, by decide⟩) dJ5_putStringAt_47b60_2 w_1048 rfl hx [.ref (d.2 (219 + i))] [] rfl rfl ⟨by decide, by decide⟩ (Nat.le_of_ble_eq_true rfl) (c_infl d h x v k f hx hv hf i hi) 0 0 (Nat.le_of_ble_eq_true rfl) (Nat.le_of_ble_eq_true rfl)) (fun h2 q1 => ?_) (fun E h1 q => q.elim)
  rw [q1]
  refine tw_aload_n 2 dJ5_putStringAt_47b60_5 rfl rfl ?_
  refine tw_aload_n 0 dJ5_putStringAt_47b60_6 rfl rfl ?_
  refine tw_get (v := .ref v) rfl in_1 0 dJ5_putStringAt_47b60_7 w_840 rfl (by decide) hx rfl ?_
  refine tw_iload_n 1 dJ5_putStringAt_47b60_10 rfl rfl ?_
  refine tw_aload_n 0 dJ5_putStringAt_47b60_11 rfl rfl ?_
  refine tw_get (v := .int 0) rfl in_1 1 dJ5_putStringAt_47b60_12 w_841 rfl (by decide) hx rfl ?_
  refine tw_bv (tw_callK (M := mJ5_putStringAt_47b60) (pc := 15) (i := i) okJ0_getBytes_840e7 rfl hi dJ5_putStringAt_47b60_15 w_1053 [.ref v, .int (nI k), .int 0] [] rfl rfl ⟨by decide, by decide⟩ (Nat.le_of_ble_eq_true rfl) (c_sgb d h i hi v k f hv hf (by omega)) 0 0 (Nat.le_of_ble_eq_true rfl) (Nat.le_of_ble_eq_true rfl)) (fun h5 q4 => ?_) (fun E h1 q => q.elim)
  obtain ⟨F7, q4e, q4f⟩ := q4
  have f8 : h5 x = some (.inr (1, [.ref v, .int 0, .int 0, .int (nI k)])) := by rw [q4e, tw_up_n (tw_ne hx hv (by simp))]; exact hx
  have f9 : h5 v = some (.inl (d.2 3, 16, .inl F7)) := by rw [q4e]; exact tw_up_s
  exact tw_vret dJ5_putStringAt_47b60_18 rfl (Or.inl ⟨rfl, F7, (by rw [q4e] <;> simp only [tw_up_up]), q4f⟩)

set_option maxHeartbeats 4000000 in
set_option maxRecDepth 100000 in
theorem c_sb_s5 (d : tw_D) (h : tw_H) (x v k : Nat) (f : Nat → Int32) (hx : h x = some (.inr (1, [.ref v, .int 0, .int 0, .int (nI k)]))) (hv : h v = some (.inl (d.2 3, 16, .inl f))) (hf : tw_fb f) (i : Nat) (hi : i < 2) (hk : k + 1 ≤ 16) : tw_Ct d mJ5_append_cf1ce 0 0 [.ref x, .ref (d.2 (219 + i))] h (tw_qr (fun r h1 => r = x ∧ ∃ k1, k1 ≤ k + 1 ∧ tw_sbw d h x v k1 h1) tw_nx) := by
  refine tw_of (by decide +kernel) (Nat.le_of_ble_eq_true rfl) ?_
  show tw_W d mJ5_append_cf1ce _ 0 [(0, .ref x), (1, .ref (d.2 (219 + i)))] [] h 0 0
  refine tw_aload_n 1 dJ5_append_cf1ce_0 rfl rfl ?_
  refine tw_ifnonnull 9 dJ5_append_cf1ce_1 (by decide) ?_
  refine tw_aload_n 1 dJ5_append_cf1ce_9 rfl rfl ?_
  refine tw_bi (tw_callK (M := mJ5_append_cf1ce) (pc := 10) (i := i) okJ0_length_8abf5 rfl hi dJ5_append_cf1ce_10 w_1035 [] [] rfl rfl ⟨by decide, by decide⟩ (Nat.le_of_ble_eq_true rfl) (c_slen d h i hi) 0 0 (Nat.le_of_ble_eq_true rfl) (Nat.le_of_ble_eq_true rfl)) (fun r3 h2 q1 => ?_) (fun E h1 q => q.elim)
  obtain ⟨q1r, q1e⟩ := q1
  rw [q1r, q1e]
  refine tw_istore_n [(2, .int (nI i)), (0, .ref x), (1, .ref (d.2 (219 + i)))] dJ5_append_cf1ce_13 rfl (by decide) rfl ?_
  refine tw_aload_n 1 dJ5_append_cf1ce_14 rfl rfl ?_
  refine tw_aload_n 1 dJ5_append_cf1ce_15 rfl rfl ?_
  refine tw_get (v := .int (nI k)) rfl in_1 3 dJ5_append_cf1ce_16 w_843 rfl (by decide) hx rfl ?_
  refine tw_iload_n 0 dJ5_append_cf1ce_19 rfl rfl ?_
  refine tw_iadd dJ5_append_cf1ce_20 ?_
  refine tw_nmi (fun v4 ev4 => ?_)
  have q5 : v4 = nI (k + i) := by rw [ev4]; exact tw_niadd
  subst q5
  refine tw_bv (tw_callC (M := mJ5_append_cf1ce) (pc := 21) (C := RJ4) okcJ5_ensureCapacityInternal_d00df w_865 (fun s H a u z => tw_sel (z _ w_899) rfl (u.xs.2.2.2.1 _ (by decide)) (z _ w_865) ⟨by decide, by decide⟩) dJ5_append_cf1ce_21 w_863 rfl hx [.int (nI (k + i))] [] rfl rfl ⟨by decide, by decide⟩ (Nat.le_of_ble_eq_true rfl) (c_sb_ens d h x v k f hx hv hf (k + i) (by omega)) 0 0 (Nat.le_of_ble_eq_true rfl) (Nat.le_of_ble_eq_true rfl)) (fun h7 q6 => ?_) (fun E h1 q => q.elim)
  rw [q6]
  refine tw_aload_n 1 dJ5_append_cf1ce_24 rfl rfl ?_
  refine tw_aload_n 1 dJ5_append_cf1ce_25 rfl rfl ?_
  refine tw_get (v := .int (nI k)) rfl in_1 3 dJ5_append_cf1ce_26 w_843 rfl (by decide) hx rfl ?_
  refine tw_aload_n 2 dJ5_append_cf1ce_29 rfl rfl ?_
  refine tw_bv (tw_callC (M := mJ5_append_cf1ce) (pc := 30) (C := RJ4) okcJ5_putStringAt_47b60 w_1046 (fun s H a u z => tw_sel (z _ w_899) rfl (u.xs.2.2.2.1 _ (by decide)) (z _ w_1046) ⟨by decide, by decide⟩) dJ5_append_cf1ce_30 w_1044 rfl hx [.int (nI k), .ref (d.2 (219 + i))] [] rfl rfl ⟨by decide, by decide⟩ (Nat.le_of_ble_eq_true rfl) (c_psa d h x v k f hx hv hf i hi (by omega)) 0 0 (Nat.le_of_ble_eq_true rfl) (Nat.le_of_ble_eq_true rfl)) (fun h10 q9 => ?_) (fun E h1 q => q.elim)
  obtain ⟨F12, q9e, q9f⟩ := q9
  have f13 : h10 x = some (.inr (1, [.ref v, .int 0, .int 0, .int (nI k)])) := by rw [q9e, tw_up_n (tw_ne hx hv (by simp))]; exact hx
  have f14 : h10 v = some (.inl (d.2 3, 16, .inl F12)) := by rw [q9e]; exact tw_up_s
  refine tw_aload_n 1 dJ5_append_cf1ce_33 rfl rfl ?_
  refine tw_dup dJ5_append_cf1ce_34 rfl ?_
  refine tw_get (v := .int (nI k)) rfl in_1 3 dJ5_append_cf1ce_35 w_843 rfl (by decide) f13 rfl ?_
  refine tw_iload_n 0 dJ5_append_cf1ce_38 rfl rfl ?_
  refine tw_iadd dJ5_append_cf1ce_39 ?_
  refine tw_nmi (fun v15 ev15 => ?_)
  have q16 : v15 = nI (k + i) := by rw [ev15]; exact tw_niadd
  subst q16
  refine tw_put rfl in_1 tyJ4 tyJ4_ok nmJ4 3 dJ5_append_cf1ce_40 w_843 rfl (by decide) f13 rfl rfl rfl rfl (Nat.le_of_ble_eq_true rfl) [.ref v, .int 0, .int 0, .int (nI (k + i))] rfl ?_
  obtain ⟨h17, eh17⟩ : ∃ z : tw_H, z = tw_up h10 x (.inr (1, [.ref v, .int 0, .int 0, .int (nI (k + i))])) := ⟨_, rfl⟩
  rw [← eh17]
  have f18 : h17 v = some (.inl (d.2 3, 16, .inl F12)) := by rw [eh17, tw_up_n (tw_ne f14 f13 (by simp))]; exact f14
  have f19 : h17 x = some (.inr (1, [.ref v, .int 0, .int 0, .int (nI (k + i))])) := by rw [eh17]; exact tw_up_s
  refine tw_aload_n 1 dJ5_append_cf1ce_43 rfl rfl ?_
  exact tw_aret dJ5_append_cf1ce_44 rfl (Or.inl ⟨_, rfl⟩) (Or.inl ⟨_, rfl, rfl, _, (by omega), ⟨f19, ⟨_, f18, q9f⟩, fun q n1 n2 => by rw [eh17, q9e]; simp [tw_up, n1, n2]⟩⟩)

set_option maxHeartbeats 4000000 in
set_option maxRecDepth 100000 in
theorem c_sb_s4 (d : tw_D) (h : tw_H) (x v k : Nat) (f : Nat → Int32) (hx : h x = some (.inr (1, [.ref v, .int 0, .int 0, .int (nI k)]))) (hv : h v = some (.inl (d.2 3, 16, .inl f))) (hf : tw_fb f) (i : Nat) (hi : i < 2) (hk : k + 1 ≤ 16) : tw_Ct d mJ4_append_15ec4 0 0 [.ref x, .ref (d.2 (219 + i))] h (tw_qr (fun r h1 => r = x ∧ ∃ k1, k1 ≤ k + 1 ∧ tw_sbw d h x v k1 h1) tw_nx) := by
  refine tw_of (by decide +kernel) (Nat.le_of_ble_eq_true rfl) ?_
  show tw_W d mJ4_append_15ec4 _ 0 [(0, .ref x), (1, .ref (d.2 (219 + i)))] [] h 0 0
  refine tw_aload_n 0 dJ4_append_15ec4_0 rfl rfl ?_
  refine tw_aload_n 1 dJ4_append_15ec4_1 rfl rfl ?_
  refine tw_br (tw_callSU (M := mJ4_append_15ec4) (pc := 2) okcJ5_append_cf1ce w_1026 w_1601 w_852 (by decide) dJ4_append_15ec4_2 w_1025 rfl hx [.ref (d.2 (219 + i))] [] rfl rfl ⟨by decide, by decide⟩ (Nat.le_of_ble_eq_true rfl) (c_sb_s5 d h x v k f hx hv hf i hi hk) 0 0 (Nat.le_of_ble_eq_true rfl) (Nat.le_of_ble_eq_true rfl)) (fun r3 h2 q1 => ?_) (fun E h1 q => q.elim)
  obtain ⟨q1r, q1w⟩ := q1
  rw [q1r]
  refine tw_pop dJ4_append_15ec4_5 rfl ?_
  refine tw_aload_n 0 dJ4_append_15ec4_6 rfl rfl ?_
  exact tw_aret dJ4_append_15ec4_7 rfl (Or.inl ⟨_, rfl⟩) (Or.inl ⟨_, rfl, rfl, q1w⟩)

set_option maxHeartbeats 4000000 in
set_option maxRecDepth 100000 in
theorem c_sb_n5 (d : tw_D) (h : tw_H) (x : Nat) (hx : h x = some (.inr (1, [.null, .int 0, .int 0, .int 0]))) : tw_Ct d mJ5_init_d00df 1 16 [.ref x, .int 16] h (tw_qv (fun h1 => ∃ v : Nat, h v = none ∧ tw_sbw d h x v 0 h1) tw_nx) := by
  refine tw_of (by decide +kernel) (Nat.le_of_ble_eq_true rfl) ?_
  show tw_W d mJ5_init_d00df _ 0 [(0, .ref x), (1, .int 16)] [] h 1 16
  refine tw_aload_n 0 dJ5_init_d00df_0 rfl rfl ?_
  refine tw_objInit dJ5_init_d00df_1 w_830 w_117 w_118 ⟨by decide, Nat.le_of_ble_eq_true rfl⟩ ?_
  refine tw_gets (fun _ _ z => z.2.2.2.2.2.2.1.1) rfl dJ5_init_d00df_4 w_831 ?_
  refine tw_if_eq 25 dJ5_init_d00df_7 (by decide) (fun c1 => absurd c1 (by decide)) (fun _ => ?_)
  refine tw_aload_n 0 dJ5_init_d00df_10 rfl rfl ?_
  refine tw_iload_n 1 dJ5_init_d00df_11 rfl rfl ?_
  refine tw_newa (a0 := (16, .inl (fun _ => 0))) 3 rfl dJ5_init_d00df_12 rfl w_469 (fun _ => rfl) (by decide) (by decide) (by decide) 0 0 (Nat.le_of_ble_eq_true rfl) (Nat.le_of_ble_eq_true rfl) (fun q2 hq3 hA4 => ?_)
  obtain ⟨h5, eh5⟩ : ∃ z : tw_H, z = tw_up h q2 (.inl (d.2 3, 16, .inl (fun _ => 0))) := ⟨_, rfl⟩
  rw [← eh5]
  have ne7 := tw_neF hx hq3
  have f6 : h5 x = some (.inr (1, [.null, .int 0, .int 0, .int 0])) := by rw [eh5, tw_up_n ne7]; exact hx
  have f8 : h5 q2 = some (.inl (d.2 3, 16, .inl (fun _ => 0))) := by rw [eh5]; exact tw_up_s
  refine tw_put rfl in_1 tyJ4 tyJ4_ok nmJ4 0 dJ5_init_d00df_14 w_840 rfl (by decide) f6 rfl rfl rfl rfl (Nat.le_of_ble_eq_true rfl) [.ref q2, .int 0, .int 0, .int 0] rfl ?_
  obtain ⟨h9, eh9⟩ : ∃ z : tw_H, z = tw_up h5 x (.inr (1, [.ref q2, .int 0, .int 0, .int 0])) := ⟨_, rfl⟩
  rw [← eh9]
  have f10 : h9 q2 = some (.inl (d.2 3, 16, .inl (fun _ => 0))) := by rw [eh9, tw_up_n (Ne.symm ne7)]; exact f8
  have f11 : h9 x = some (.inr (1, [.ref q2, .int 0, .int 0, .int 0])) := by rw [eh9]; exact tw_up_s
  refine tw_aload_n 0 dJ5_init_d00df_17 rfl rfl ?_
  refine tw_iconst (v := 0) dJ5_init_d00df_18 (by decide) ?_
  refine tw_put rfl in_1 tyJ4 tyJ4_ok nmJ4 1 dJ5_init_d00df_19 w_841 rfl (by decide) f11 rfl rfl rfl rfl (Nat.le_of_ble_eq_true rfl) [.ref q2, .int 0, .int 0, .int 0] rfl ?_
  obtain ⟨h12, eh12⟩ : ∃ z : tw_H, z = tw_up h9 x (.inr (1, [.ref q2, .int 0, .int 0, .int 0])) := ⟨_, rfl⟩
  rw [← eh12]
  have f13 : h12 q2 = some (.inl (d.2 3, 16, .inl (fun _ => 0))) := by rw [eh12, tw_up_n (Ne.symm ne7)]; exact f10
  have f14 : h12 x = some (.inr (1, [.ref q2, .int 0, .int 0, .int 0])) := by rw [eh12]; exact tw_up_s
  refine tw_goto 38 dJ5_init_d00df_22 (by decide) ?_
  exact tw_vret dJ5_init_d00df_38 rfl (Or.inl ⟨rfl, q2, hq3, f14, ⟨_, f13, tw_fb0⟩, fun q n1 n2 => by rw [eh12, eh9, eh5]; simp [tw_up, n1, n2]⟩)

set_option maxHeartbeats 4000000 in
set_option maxRecDepth 100000 in
theorem c_sb_n4 (d : tw_D) (h : tw_H) (x : Nat) (hx : h x = some (.inr (1, [.null, .int 0, .int 0, .int 0]))) : tw_Ct d mJ4_init_da8c8 1 16 [.ref x] h (tw_qv (fun h1 => ∃ v : Nat, h v = none ∧ tw_sbw d h x v 0 h1) tw_nx) := by
  refine tw_of (by decide +kernel) (Nat.le_of_ble_eq_true rfl) ?_
  show tw_W d mJ4_init_da8c8 _ 0 [(0, .ref x)] [] h 1 16
  refine tw_aload_n 0 dJ4_init_da8c8_0 rfl rfl ?_
  refine tw_bipush (v := 16) dJ4_init_da8c8_1 (by decide) ?_
  refine tw_bv (tw_callI (M := mJ4_init_da8c8) (pc := 3) okJ5_init_d00df dJ4_init_da8c8_3 w_827 rfl [.int 16] [] rfl rfl ⟨by decide, by decide⟩ (Nat.le_of_ble_eq_true rfl) (c_sb_n5 d h x hx) 0 0 (Nat.le_of_ble_eq_true rfl) (Nat.le_of_ble_eq_true rfl)) (fun h1 q => ?_) (fun E h1 q => q.elim)
  exact tw_vret dJ4_init_da8c8_6 rfl (Or.inl ⟨rfl, q⟩)

set_option maxHeartbeats 4000000 in
set_option maxRecDepth 100000 in
theorem c_chk (d : tw_D) (h : tw_H) (m : Nat) (hm : m ≤ 16) : tw_Ct d mJ7_checkLength_df160 0 0 [.int 0, .int (nI m)] h (tw_qv (fun h1 => h1 = h) tw_nx) := by
  refine tw_of (by decide +kernel) (Nat.le_of_ble_eq_true rfl) ?_
  show tw_W d mJ7_checkLength_df160 _ 0 [(0, .int 0), (1, .int (nI m))] [] h 0 0
  refine tw_iload_n 1 dJ7_checkLength_df160_0 rfl rfl ?_
  refine tw_iload_n 0 dJ7_checkLength_df160_1 rfl rfl ?_
  refine tw_icmp_ge 37 dJ7_checkLength_df160_2 (by decide) (fun _ => ?_) (fun c1 => absurd (nI_pos' (by omega)) c1)
  exact tw_vret dJ7_checkLength_df160_37 rfl (Or.inl ⟨rfl, rfl⟩)

set_option maxHeartbeats 4000000 in
set_option maxRecDepth 100000 in
theorem c_crb (d : tw_D) (h : tw_H) (v m : Nat) (f : Nat → Int32) (hv : h v = some (.inl (d.2 3, 16, .inl f))) (hf : tw_fb f) (hm : m ≤ 16) : tw_Ct d mJ7_copyOfRangeByte_39247 1 16 [.ref v, .int 0, .int (nI m)] h (tw_qr (fun r h1 => h r = none ∧ ∃ f1 : Nat → Int32, h1 = tw_up h r (.inl (d.2 3, m, .inl f1))) tw_nx) := by
  refine tw_of (by decide +kernel) (Nat.le_of_ble_eq_true rfl) ?_
  show tw_W d mJ7_copyOfRangeByte_39247 _ 0 [(0, .ref v), (1, .int 0), (2, .int (nI m))] [] h 1 16
  refine tw_iload_n 1 dJ7_copyOfRangeByte_39247_0 rfl rfl ?_
  refine tw_iload_n 2 dJ7_copyOfRangeByte_39247_1 rfl rfl ?_
  refine tw_bv (tw_callS (M := mJ7_copyOfRangeByte_39247) (pc := 2) okJ7_checkLength_df160 dJ7_copyOfRangeByte_39247_2 w_1013 [.int 0, .int (nI m)] [] rfl rfl ⟨by decide, by decide⟩ (Nat.le_of_ble_eq_true rfl) (c_chk d h m hm) 1 16 (Nat.le_of_ble_eq_true rfl) (Nat.le_of_ble_eq_true rfl)) (fun h2 q1 => ?_) (fun E h1 q => q.elim)
  rw [q1]
  refine tw_iload_n 2 dJ7_copyOfRangeByte_39247_5 rfl rfl ?_
  refine tw_iload_n 1 dJ7_copyOfRangeByte_39247_6 rfl rfl ?_
  refine tw_isub dJ7_copyOfRangeByte_39247_7 ?_
  refine tw_nmi (fun v4 ev4 => ?_)
  have q5 : v4 = nI m := by rw [ev4]; exact Int32.sub_zero _
  subst q5
  refine tw_istore_n [(3, .int (nI m)), (0, .ref v), (1, .int 0), (2, .int (nI m))] dJ7_copyOfRangeByte_39247_8 rfl (by decide) rfl ?_
  refine tw_iload_n 0 dJ7_copyOfRangeByte_39247_9 rfl rfl ?_
  refine tw_newa (k := nI m) (N := m) (a0 := (m, .inl (fun _ => 0))) 3 rfl dJ7_copyOfRangeByte_39247_10 rfl w_469 (fun _ => rfl) (nI_pos (by omega)) (nI_clamp (by omega)) (by show m * 1 ≤ 536870912; omega) 0 0 (Nat.le_of_ble_eq_true rfl) (by omega) (fun q6 hq7 hA8 => ?_)
  obtain ⟨h9, eh9⟩ : ∃ z : tw_H, z = tw_up h q6 (.inl (d.2 3, m, .inl (fun _ => 0))) := ⟨_, rfl⟩
  rw [← eh9]
  have ne11 := tw_neF hv hq7
  have f10 : h9 v = some (.inl (d.2 3, 16, .inl f)) := by rw [eh9, tw_up_n ne11]; exact hv
  have f12 : h9 q6 = some (.inl (d.2 3, m, .inl (fun _ => 0))) := by rw [eh9]; exact tw_up_s
  refine tw_astore [(4, .ref q6), (3, .int (nI m)), (0, .ref v), (1, .int 0), (2, .int (nI m))] dJ7_copyOfRangeByte_39247_12 (by decide) rfl ?_
  refine tw_aload_n 2 dJ7_copyOfRangeByte_39247_14 rfl rfl ?_
  refine tw_iload_n 3 dJ7_copyOfRangeByte_39247_15 rfl rfl ?_
  refine tw_aload 0 dJ7_copyOfRangeByte_39247_16 rfl ?_
  refine tw_iconst (v := 0) dJ7_copyOfRangeByte_39247_18 (by decide) ?_
  refine tw_aload_n 2 dJ7_copyOfRangeByte_39247_19 rfl rfl ?_
  refine tw_alen (v := nI 16) 3 rfl dJ7_copyOfRangeByte_39247_20 f10 rfl ?_
  refine tw_iload_n 3 dJ7_copyOfRangeByte_39247_21 rfl rfl ?_
  refine tw_isub dJ7_copyOfRangeByte_39247_22 ?_
  refine tw_nmi (fun v13 ev13 => ?_)
  refine tw_iload_n 1 dJ7_copyOfRangeByte_39247_23 rfl rfl ?_
  refine tw_mmin dJ7_copyOfRangeByte_39247_24 w_892 w_290 w_93 w_291 ⟨by decide, Nat.le_of_ble_eq_true rfl⟩ ?_
  refine tw_nmi (fun v14 ev14 => ?_)
  have q15 : v14 = nI m := by rw [ev14, ev13]; exact tw_min16 hm
  rw [q15]
  refine tw_bcopy dJ7_copyOfRangeByte_39247_27 w_893 f10 f12 hf (by decide) (by decide) (nI_pos (by omega)) (by rw [nI_clamp (by omega)]; show 0 + m ≤ 16; omega) (by rw [nI_clamp (by omega)]; exact Nat.le_of_eq (Nat.zero_add m)) ⟨by decide, Nat.le_of_ble_eq_true rfl⟩ ?_
  obtain ⟨h16, eh16⟩ : ∃ z : tw_H, z = tw_up h9 q6 (.inl (d.2 3, m, .inl (va_cpy f (fun _ => 0) (0 : Int32).toNatClampNeg (0 : Int32).toNatClampNeg (nI m).toNatClampNeg))) := ⟨_, rfl⟩
  rw [← eh16]
  have f17 : h16 v = some (.inl (d.2 3, 16, .inl f)) := by rw [eh16, tw_up_n ne11]; exact f10
  have f18 : h16 q6 = some (.inl (d.2 3, m, .inl (va_cpy f (fun _ => 0) (0 : Int32).toNatClampNeg (0 : Int32).toNatClampNeg (nI m).toNatClampNeg))) := by rw [eh16]; exact tw_up_s
  refine tw_aload 0 dJ7_copyOfRangeByte_39247_30 rfl ?_
  exact tw_aret dJ7_copyOfRangeByte_39247_32 rfl (Or.inr ⟨_, rfl⟩) (Or.inl ⟨_, rfl, hq7, (va_cpy f (fun _ => 0) (0 : Int32).toNatClampNeg (0 : Int32).toNatClampNeg (nI m).toNatClampNeg), (by rw [eh16, eh9] <;> simp only [tw_up_up])⟩)

set_option maxHeartbeats 4000000 in
set_option maxRecDepth 100000 in
theorem c_cor (d : tw_D) (h : tw_H) (v m : Nat) (f : Nat → Int32) (hv : h v = some (.inl (d.2 3, 16, .inl f))) (hf : tw_fb f) (hm : m ≤ 15) : tw_Ct d mJ7_copyOfRange_39247 1 16 [.ref v, .int 0, .int (nI m)] h (tw_qr (fun r h1 => h r = none ∧ ∃ f1 : Nat → Int32, h1 = tw_up h r (.inl (d.2 3, m, .inl f1))) tw_nx) := by
  refine tw_of (by decide +kernel) (Nat.le_of_ble_eq_true rfl) ?_
  show tw_W d mJ7_copyOfRange_39247 _ 0 [(0, .ref v), (1, .int 0), (2, .int (nI m))] [] h 1 16
  refine tw_iload_n 1 dJ7_copyOfRange_39247_0 rfl rfl ?_
  refine tw_if_ne 10 dJ7_copyOfRange_39247_1 (by decide) (fun c1 => absurd (by decide) c1) (fun _ => ?_)
  refine tw_iload_n 2 dJ7_copyOfRange_39247_4 rfl rfl ?_
  refine tw_aload_n 0 dJ7_copyOfRange_39247_5 rfl rfl ?_
  refine tw_alen (v := nI 16) 3 rfl dJ7_copyOfRange_39247_6 hv rfl ?_
  refine tw_icmp_eq 17 dJ7_copyOfRange_39247_7 (by decide) (fun c2 => absurd c2 (tw_ne16 hm)) (fun _ => ?_)
  refine tw_aload_n 0 dJ7_copyOfRange_39247_10 rfl rfl ?_
  refine tw_iload_n 1 dJ7_copyOfRange_39247_11 rfl rfl ?_
  refine tw_iload_n 2 dJ7_copyOfRange_39247_12 rfl rfl ?_
  refine tw_br (tw_callS (M := mJ7_copyOfRange_39247) (pc := 13) okJ7_copyOfRangeByte_39247 dJ7_copyOfRange_39247_13 w_1010 [.ref v, .int 0, .int (nI m)] [] rfl rfl ⟨by decide, by decide⟩ (Nat.le_of_ble_eq_true rfl) (c_crb d h v m f hv hf (by omega)) 0 0 (Nat.le_of_ble_eq_true rfl) (Nat.le_of_ble_eq_true rfl)) (fun r5 h4 q3 => ?_) (fun E h1 q => q.elim)
  exact tw_aret dJ7_copyOfRange_39247_16 rfl (Or.inr ⟨_, rfl⟩) (Or.inl ⟨_, rfl, q3⟩)

set_option maxHeartbeats 4000000 in
set_option maxRecDepth 100000 in
theorem c_sn2 (d : tw_D) (h : tw_H) (x v k : Nat) (f : Nat → Int32) (hx : h x = some (.inr (1, [.ref v, .int 0, .int 0, .int (nI k)]))) (hv : h v = some (.inl (d.2 3, 16, .inl f))) (hf : tw_fb f) (hk : k ≤ 15) (s : Nat) (hs : h s = some (.inr (0, [.null, .int 0, .int 0, .int 0]))) : tw_Ct d mJ0_init_db425 1 16 [.ref s, .ref x, .null] h (tw_qv (fun h1 => ∃ b : Nat, h b = none ∧ ∀ q, q ≠ s → q ≠ b → h1 q = h q) tw_nx) := by
  refine tw_of (by decide +kernel) (Nat.le_of_ble_eq_true rfl) ?_
  show tw_W d mJ0_init_db425 _ 0 [(0, .ref s), (1, .ref x), (2, .null)] [] h 1 16
  refine tw_aload_n 0 dJ0_init_db425_0 rfl rfl ?_
  refine tw_objInit dJ0_init_db425_1 w_992 w_117 w_118 ⟨by decide, Nat.le_of_ble_eq_true rfl⟩ ?_
  refine tw_aload_n 1 dJ0_init_db425_4 rfl rfl ?_
  refine tw_br (tw_callC (M := mJ0_init_db425) (pc := 5) (C := RJ4) okcJ5_getValue_6d5f1 w_994 (fun s H a u z => z _ w_996) dJ0_init_db425_5 w_993 rfl hx [] [] rfl rfl ⟨by decide, by decide⟩ (Nat.le_of_ble_eq_true rfl) (c_sb_gv d h x v k f hx hv hf) 1 16 (Nat.le_of_ble_eq_true rfl) (Nat.le_of_ble_eq_true rfl)) (fun r3 h2 q1 => ?_) (fun E h1 q => q.elim)
  obtain ⟨q1r, q1e⟩ := q1
  rw [q1r, q1e]
  refine tw_astore_n [(3, .ref v), (0, .ref s), (1, .ref x), (2, .null)] dJ0_init_db425_8 rfl (by decide) rfl ?_
  refine tw_aload_n 2 dJ0_init_db425_9 rfl rfl ?_
  refine tw_bi (tw_callO (M := mJ0_init_db425) (pc := 10) (C := RJ4) (owner := RJ5) ⟨RJ5, "length", "()I"⟩ okcJ4_length_8abf5 w_1002 w_999 w_1000 w_1001 w_1005 (by decide +kernel) dJ0_init_db425_10 w_998 rfl hx [] [] rfl rfl ⟨by decide, by decide⟩ (Nat.le_of_ble_eq_true rfl) (c_sb_l4 d h x v k f hx hv hf) 1 16 (Nat.le_of_ble_eq_true rfl) (Nat.le_of_ble_eq_true rfl)) (fun r6 h5 q4 => ?_) (fun E h1 q => q.elim)
  obtain ⟨q4r, q4e⟩ := q4
  rw [q4r, q4e]
  refine tw_istore [(4, .int (nI k)), (3, .ref v), (0, .ref s), (1, .ref x), (2, .null)] dJ0_init_db425_13 (by decide) rfl ?_
  refine tw_aload_n 3 dJ0_init_db425_15 rfl rfl ?_
  refine tw_bi (tw_callC (M := mJ0_init_db425) (pc := 16) (C := RJ4) okcJ5_isLatin1_aae02 w_897 (fun s H a u z => z _ w_899) dJ0_init_db425_16 w_1006 rfl hx [] [] rfl rfl ⟨by decide, by decide⟩ (Nat.le_of_ble_eq_true rfl) (c_sb_lat d h x v k f hx hv hf) 1 16 (Nat.le_of_ble_eq_true rfl) (Nat.le_of_ble_eq_true rfl)) (fun r9 h8 q7 => ?_) (fun E h1 q => q.elim)
  obtain ⟨q7r, q7e⟩ := q7
  rw [q7r, q7e]
  refine tw_if_eq 41 dJ0_init_db425_19 (by decide) (fun c10 => absurd c10 (by decide)) (fun _ => ?_)
  refine tw_aload_n 2 dJ0_init_db425_22 rfl rfl ?_
  refine tw_iconst (v := 0) dJ0_init_db425_23 (by decide) ?_
  refine tw_putF rfl in_0 tyJ0 tyJ0_ok nmJ0 1 dJ0_init_db425_24 w_1075 rfl (by decide) hs rfl rfl rfl rfl rfl rfl (Nat.le_of_ble_eq_true rfl) [.null, .int 0, .int 0, .int 0] rfl ?_
  obtain ⟨h11, eh11⟩ : ∃ z : tw_H, z = tw_up h s (.inr (0, [.null, .int 0, .int 0, .int 0])) := ⟨_, rfl⟩
  rw [← eh11]
  have f12 : h11 x = some (.inr (1, [.ref v, .int 0, .int 0, .int (nI k)])) := by rw [eh11, tw_up_n (tw_ne hx hs (by simp))]; exact hx
  have f13 : h11 v = some (.inl (d.2 3, 16, .inl f)) := by rw [eh11, tw_up_n (tw_ne hv hs (by simp))]; exact hv
  have f14 : h11 s = some (.inr (0, [.null, .int 0, .int 0, .int 0])) := by rw [eh11]; exact tw_up_s
  refine tw_aload_n 2 dJ0_init_db425_27 rfl rfl ?_
  refine tw_aload_n 1 dJ0_init_db425_28 rfl rfl ?_
  refine tw_iconst (v := 0) dJ0_init_db425_29 (by decide) ?_
  refine tw_iload 0 dJ0_init_db425_30 rfl ?_
  refine tw_br (tw_callS (M := mJ0_init_db425) (pc := 32) okJ7_copyOfRange_39247 dJ0_init_db425_32 w_1007 [.ref v, .int 0, .int (nI k)] [.ref s] rfl rfl ⟨by decide, by decide⟩ (Nat.le_of_ble_eq_true rfl) (c_cor d h11 v k f f13 hf (by omega)) 0 0 (Nat.le_of_ble_eq_true rfl) (Nat.le_of_ble_eq_true rfl)) (fun r17 h16 q15 => ?_) (fun E h1 q => q.elim)
  obtain ⟨q15n, F18, q15e⟩ := q15
  have ne20 := tw_neF f12 q15n
  have f21 : h16 x = some (.inr (1, [.ref v, .int 0, .int 0, .int (nI k)])) := by rw [q15e, tw_up_n ne20]; exact f12
  have ne22 := tw_neF f13 q15n
  have f23 : h16 v = some (.inl (d.2 3, 16, .inl f)) := by rw [q15e, tw_up_n ne22]; exact f13
  have ne24 := tw_neF f14 q15n
  have f25 : h16 s = some (.inr (0, [.null, .int 0, .int 0, .int 0])) := by rw [q15e, tw_up_n ne24]; exact f14
  have f26 : h16 r17 = some (.inl (d.2 3, k, .inl F18)) := by rw [q15e]; exact tw_up_s
  refine tw_putF rfl in_0 tyJ0 tyJ0_ok nmJ0 0 dJ0_init_db425_35 w_1074 rfl (by decide) f25 rfl rfl rfl rfl rfl rfl (Nat.le_of_ble_eq_true rfl) [.ref r17, .int 0, .int 0, .int 0] rfl ?_
  obtain ⟨h27, eh27⟩ : ∃ z : tw_H, z = tw_up h16 s (.inr (0, [.ref r17, .int 0, .int 0, .int 0])) := ⟨_, rfl⟩
  rw [← eh27]
  have f28 : h27 x = some (.inr (1, [.ref v, .int 0, .int 0, .int (nI k)])) := by rw [eh27, tw_up_n (tw_ne f21 f25 (by simp))]; exact f21
  have f29 : h27 v = some (.inl (d.2 3, 16, .inl f)) := by rw [eh27, tw_up_n (tw_ne f23 f25 (by simp))]; exact f23
  have f30 : h27 r17 = some (.inl (d.2 3, k, .inl F18)) := by rw [eh27, tw_up_n (Ne.symm ne24)]; exact f26
  have f31 : h27 s = some (.inr (0, [.ref r17, .int 0, .int 0, .int 0])) := by rw [eh27]; exact tw_up_s
  refine tw_goto 97 dJ0_init_db425_38 (by decide) ?_
  have hb9 : h r17 = none := by have z := q15n; rw [eh11, tw_up_n (Ne.symm ne24)] at z; exact z
  exact tw_vret dJ0_init_db425_97 rfl (Or.inl ⟨rfl, r17, hb9, fun q n1 n2 => by rw [eh27, q15e, eh11]; simp [tw_up, n1, n2]⟩)

set_option maxHeartbeats 4000000 in
set_option maxRecDepth 100000 in
theorem c_sn1 (d : tw_D) (h : tw_H) (x v k : Nat) (f : Nat → Int32) (hx : h x = some (.inr (1, [.ref v, .int 0, .int 0, .int (nI k)]))) (hv : h v = some (.inl (d.2 3, 16, .inl f))) (hf : tw_fb f) (hk : k ≤ 15) (s : Nat) (hs : h s = some (.inr (0, [.null, .int 0, .int 0, .int 0]))) : tw_Ct d mJ0_init_81219 1 16 [.ref s, .ref x] h (tw_qv (fun h1 => ∃ b : Nat, h b = none ∧ ∀ q, q ≠ s → q ≠ b → h1 q = h q) tw_nx) := by
  refine tw_of (by decide +kernel) (Nat.le_of_ble_eq_true rfl) ?_
  show tw_W d mJ0_init_81219 _ 0 [(0, .ref s), (1, .ref x)] [] h 1 16
  refine tw_aload_n 0 dJ0_init_81219_0 rfl rfl ?_
  refine tw_aload_n 1 dJ0_init_81219_1 rfl rfl ?_
  refine tw_null dJ0_init_81219_2 ?_
  refine tw_bv (tw_callI (M := mJ0_init_81219) (pc := 3) okJ0_init_db425 dJ0_init_81219_3 w_989 rfl [.ref x, .null] [] rfl rfl ⟨by decide, by decide⟩ (Nat.le_of_ble_eq_true rfl) (c_sn2 d h x v k f hx hv hf hk s hs) 0 0 (Nat.le_of_ble_eq_true rfl) (Nat.le_of_ble_eq_true rfl)) (fun h1 q => ?_) (fun E h1 q => q.elim)
  exact tw_vret dJ0_init_81219_6 rfl (Or.inl ⟨rfl, q⟩)

set_option maxHeartbeats 4000000 in
set_option maxRecDepth 100000 in
theorem c_tos (d : tw_D) (h : tw_H) (g : tw_G) (τ : tw_K) (hw : tw_wt d g τ h) (x v k : Nat) (f : Nat → Int32) (hx : h x = some (.inr (1, [.ref v, .int 0, .int 0, .int (nI k)]))) (hv : h v = some (.inl (d.2 3, 16, .inl f))) (hf : tw_fb f) (hk : k ≤ 15) : tw_Ct d mJ4_toString_0e30d 2 20 [.ref x] h (tw_qr (fun r h1 => tw_sp d τ h g τ h1) tw_nx) := by
  refine tw_of (by decide +kernel) (Nat.le_of_ble_eq_true rfl) ?_
  show tw_W d mJ4_toString_0e30d _ 0 [(0, .ref x)] [] h 2 20
  refine tw_new (ci := 0) rfl in_0 tyJ0 tyJ0_ok dJ4_toString_0e30d_0 w_984 w_985 w_106 (fs := [.null, .int 0, .int 0, .int 0]) (fun j hj => by rcases (show j = 0 ∨ j = 1 ∨ j = 2 ∨ j = 3 by omega) with rfl | rfl | rfl | rfl <;> rfl) 1 16 (Nat.le_of_ble_eq_true rfl) (Nat.le_of_ble_eq_true rfl) (fun q1 hq2 hA3 => ?_)
  obtain ⟨h4, eh4⟩ : ∃ z : tw_H, z = tw_up h q1 (.inr (0, [.null, .int 0, .int 0, .int 0])) := ⟨_, rfl⟩
  rw [← eh4]
  have ne6 := tw_neF hx hq2
  have f5 : h4 x = some (.inr (1, [.ref v, .int 0, .int 0, .int (nI k)])) := by rw [eh4, tw_up_n ne6]; exact hx
  have ne8 := tw_neF hv hq2
  have f7 : h4 v = some (.inl (d.2 3, 16, .inl f)) := by rw [eh4, tw_up_n ne8]; exact hv
  have f9 : h4 q1 = some (.inr (0, [.null, .int 0, .int 0, .int 0])) := by rw [eh4]; exact tw_up_s
  refine tw_dup dJ4_toString_0e30d_3 rfl ?_
  refine tw_aload_n 0 dJ4_toString_0e30d_4 rfl rfl ?_
  refine tw_bv (tw_callI (M := mJ4_toString_0e30d) (pc := 5) okJ0_init_81219 dJ4_toString_0e30d_5 w_986 rfl [.ref x] [.ref q1] rfl rfl ⟨by decide, by decide⟩ (Nat.le_of_ble_eq_true rfl) (c_sn1 d h4 x v k f f5 f7 hf hk q1 f9) 0 0 (Nat.le_of_ble_eq_true rfl) (Nat.le_of_ble_eq_true rfl)) (fun h1 q => ?_) (fun E h1 q => q.elim)
  exact tw_aret dJ4_toString_0e30d_8 rfl (Or.inl ⟨_, rfl⟩) (Or.inl ⟨_, rfl, by obtain ⟨b, nb, w⟩ := q; refine tw_sp.ext hw (fun y e ye => ?_); have n1 := tw_neF ye hq2; rw [eh4] at nb w; have n2 : y ≠ b := (fun z => by rw [← z, tw_up_n n1, ye] at nb; cases nb); rw [w y n1 n2, tw_up_n n1]; exact ye⟩)

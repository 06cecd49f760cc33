/-! the class's methods over the typed heap. Laid by wip/p5/mkclass.py. -/
def tw_RC (r ct go si : Int32) : Prop := (100 ≤ r ∧ r ≤ 200) ∧ (0 ≤ ct ∧ ct ≤ 50) ∧ (0 ≤ go ∧ go ≤ 99999) ∧ 0 ≤ si ∧ si ≤ 99999
def tw_RL (r ct : Int32) : Prop := (100 ≤ r ∧ r ≤ 200) ∧ (0 ≤ ct ∧ ct ≤ 50)
theorem tw_thF {d : tw_D} {g : tw_G} {τ : tw_K} {h : tw_H} {x q : Nat} (hw : tw_wt d g τ h) (kx : τ x = 36) (hq : h q = none) : x ≠ q := fun z => by
  have := hw.none hq
  rw [← z, kx] at this
  cases this
theorem tw_nz {τ : tw_K} {x a k : Nat} (kx : τ x = 36) (ka : τ a = k) (n : k ≠ 36) : x ≠ a := fun z => n (by rw [← ka, ← z, kx])
theorem tw_nk {τ : tw_K} {o a k j : Nat} (ko : τ o = j) (ka : τ a = k) (n : k ≠ j) : o ≠ a := fun z => n (by rw [← ka, ← z, ko])
theorem tw_kF {d : tw_D} {g : tw_G} {τ : tw_K} {h : tw_H} {o q j : Nat} (hw : tw_wt d g τ h) (ko : τ o = j) (n : j ≠ 0) (hq : h q = none) : o ≠ q := fun z => n (by rw [← ko, z]; exact hw.none hq)
theorem tw_some {d : tw_D} {g : tw_G} {τ : tw_K} {h : tw_H} {o j : Nat} (hw : tw_wt d g τ h) (ko : τ o = j) (n : j ≠ 0) : h o ≠ none := fun z => by obtain ⟨e, y, -⟩ := hw o j ko n; rw [z] at y; cases y
theorem tw_rmN {h : tw_H} {x q b : Nat} (w : tw_rm h x q = none) (z : b = q) (n1 : b ≠ x) : h b = none := by
  subst z
  exact (if_neg n1).symm.trans w
/-- one list has grown by one -/
def tw_gk (k : Nat) (g g1 : tw_G) : Prop := tw_ga g g1 ∧ g1.2 k = g.2 k + 1 ∧ (∀ i, (i < 10 ∨ i = 21 ∨ i = 22 ∨ i = 24 ∨ 128 ≤ i) → i ≠ k → g1.2 i = g.2 i) ∧ ∀ i, 128 ≤ i → g1.1 i = g.1 i
set_option maxHeartbeats 4000000 in
set_option maxRecDepth 100000 in
theorem c2_X5_needLaw (d : tw_D) (g : tw_G) (τ : tw_K) (h : tw_H) (hw : tw_wt d g τ h) (r ct : Int32) : tw_Ct d mX5_needLaw 2 12 [.int r, .int ct] h (tw_qv (fun h1 => h1 = h ∧ tw_RL r ct) (fun E h1 => E = tw_IAE ∧ h1 = h ∧ ¬ tw_RL r ct)) := by
  refine tw_of (by decide +kernel) (Nat.le_of_ble_eq_true rfl) ?_
  show tw_W d mX5_needLaw _ 0 [(0, .int r), (1, .int ct)] [] h 2 12
  have sp0 := tw_sp.rf hw
  refine tw_iload_n 0 dX5_needLaw_0 rfl rfl ?_
  refine tw_bipush (v := 100) dX5_needLaw_1 (by decide) ?_
  refine tw_sipush (v := 200) dX5_needLaw_3 (by decide) ?_
  refine tw_bv (tw_callS (M := mX5_needLaw) (pc := 6) okX5_needRange dX5_needLaw_6 w_399 [.int r, .int 100, .int 200] [] rfl rfl ⟨by decide, by decide⟩ (Nat.le_of_ble_eq_true rfl) (c2_X5_needRange d g τ h sp0.1 r 100 200) 1 6 (Nat.le_of_ble_eq_true rfl) (Nat.le_of_ble_eq_true rfl)) (fun h2 q1 => ?_) (fun E h1 q => Or.inr ⟨E, rfl, q.1, q.2.1, fun z => q.2.2 z.1⟩)
  obtain ⟨q1e, q1l⟩ := q1
  rw [q1e]
  refine tw_iload_n 1 dX5_needLaw_9 rfl rfl ?_
  refine tw_iconst (v := 0) dX5_needLaw_10 (by decide) ?_
  refine tw_bipush (v := 50) dX5_needLaw_11 (by decide) ?_
  refine tw_bv (tw_callS (M := mX5_needLaw) (pc := 13) okX5_needRange dX5_needLaw_13 w_399 [.int ct, .int 0, .int 50] [] rfl rfl ⟨by decide, by decide⟩ (Nat.le_of_ble_eq_true rfl) (c2_X5_needRange d g τ h sp0.1 ct 0 50) 0 0 (Nat.le_of_ble_eq_true rfl) (Nat.le_of_ble_eq_true rfl)) (fun h4 q3 => ?_) (fun E h1 q => Or.inr ⟨E, rfl, q.1, q.2.1, fun z => q.2.2 z.2⟩)
  obtain ⟨q3e, q3l⟩ := q3
  rw [q3e]
  exact tw_vret dX5_needLaw_16 rfl (Or.inl ⟨rfl, rfl, q1l, q3l⟩)

def tw_RH (go si : Int32) : Prop := (0 ≤ go ∧ go ≤ 99999) ∧ 0 ≤ si ∧ si ≤ 99999
def tw_RO (a b v dy : Int32) : Prop := a ≠ b ∧ (1 ≤ v ∧ v ≤ 9999) ∧ 0 ≤ dy ∧ dy ≤ 1000
/-- the number of one of m things -/
def tw_ix (m : Nat) (n : Int32) : Prop := ∃ j, j < m ∧ n = nI j
/-- two counts go on by one -/
def tw_gI (g : tw_G) (a b : Nat) : tw_G := tw_g2 (tw_g2 g a (g.2 a + 1)) b (g.2 b + 1)
theorem tw_ix_lt {m : Nat} {n : Int32} (hm : m ≤ 10) (c : n < 0) : ¬ tw_ix m n := by
  rintro ⟨j, hj, rfl⟩
  rw [Int32.lt_iff_toInt_lt, nI_toInt (by omega), show (0 : Int32).toInt = 0 by decide] at c
  omega
theorem tw_ix_ge {m N : Nat} {n : Int32} (hm : m ≤ N) (hN : N ≤ 10) (c : nI N ≤ n) : ¬ tw_ix m n := by
  rintro ⟨j, hj, rfl⟩
  rw [Int32.le_iff_toInt_le, nI_toInt (by omega), nI_toInt (by omega)] at c
  omega
theorem tw_ix_no {F : Nat → Option Nat} {m N : Nat} {n : Int32} (pn : ∀ j, j < N → (F j = none ↔ m ≤ j)) (pb : m ≤ N) (hN : N ≤ 10) (hv : F n.toNatClampNeg = none) : ¬ tw_ix m n := by
  rintro ⟨j, hj, rfl⟩
  rw [nI_clamp (by omega)] at hv
  have := (pn j (by omega)).mp hv
  omega
theorem tw_ix_so {F : Nat → Option Nat} {m N q : Nat} {n : Int32} (pn : ∀ j, j < N → (F j = none ↔ m ≤ j)) (c1 : ¬ n < 0) (c2 : ¬ nI N ≤ n) (hv : F n.toNatClampNeg = some q) : tw_ix m n := by
  obtain ⟨j, hj, rfl⟩ := nI_of c1
  rw [nI_clamp hj] at hv
  have hN : j < N := by
    rcases Nat.lt_or_ge j N with z | z
    · exact z
    · exact absurd (nI_le z hj) c2
  refine ⟨j, ?_, rfl⟩
  rcases Nat.lt_or_ge j m with z | z
  · exact z
  · rw [(pn j hN).mpr z] at hv; cases hv
theorem tw_ixup {F : Nat → Option Nat} {m N b : Nat} (pn : ∀ j, j < N → (F j = none ↔ m ≤ j)) : ∀ j, j < N → (va_up F m (some b) j = none ↔ m + 1 ≤ j) := by
  intro j hj
  unfold va_up
  by_cases q : j = m
  · rw [if_pos q]; exact ⟨fun z => (by cases z), fun z => absurd z (by omega)⟩
  · rw [if_neg q]; exact (pn j hj).trans ⟨fun z => (by omega), fun z => (by omega)⟩
theorem tw_b678 {d : tw_D} {g : tw_G} {τ : tw_K} {h : tw_H} {x : Nat} (hw : tw_wt d g τ h) (kx : τ x = 11) : g.2 6 ≤ 4 ∧ g.2 7 ≤ 6 ∧ g.2 8 ≤ 10 := by
  obtain ⟨e, he, td, ca, ha, da, c1, c2, c3, c4, h1, k1, k2, k3, -⟩ := hw x 11 kx (by decide)
  obtain ⟨_, _, _, _, _, _, b6, _⟩ := hw ca 8 k1 (by decide)
  obtain ⟨_, _, _, _, _, _, b7, _⟩ := hw ha 9 k2 (by decide)
  obtain ⟨_, _, _, _, _, _, b8, _⟩ := hw da 10 k3 (by decide)
  exact ⟨b6, b7, b8⟩
set_option maxHeartbeats 4000000 in
set_option maxRecDepth 100000 in
theorem c2_X5_countryAt (d : tw_D) (g : tw_G) (τ : tw_K) (h : tw_H) (hw : tw_wt d g τ h) (x : Nat) (kx : τ x = 11) (n : Int32) : tw_Ct d mX5_countryAt 1 6 [.ref x, .int n] h (tw_qr (fun r h1 => h1 = h ∧ τ r = 2 ∧ tw_ix (g.2 6) n) (fun E h1 => E = tw_IOE ∧ h1 = h ∧ ¬ tw_ix (g.2 6) n)) := by
  refine tw_of (by decide +kernel) (Nat.le_of_ble_eq_true rfl) ?_
  show tw_W d mX5_countryAt _ 0 [(0, .ref x), (1, .int n)] [] h 1 6
  have sp0 := tw_sp.rf hw
  have b9 := tw_b678 hw kx
  refine tw_iload_n 1 dX5_countryAt_0 rfl rfl ?_
  refine tw_if_lt 22 dX5_countryAt_1 (by decide) (fun c1 => ?_) (fun c1 => ?_)
  · exact tw_throwSW (i := 2) (by decide +kernel) w_550 w_96 rfl at_IOE dX5_countryAt_22 dX5_countryAt_25 dX5_countryAt_26 dX5_countryAt_29 dX5_countryAt_32 ⟨by decide, Nat.le_of_ble_eq_true rfl⟩ (Nat.le_of_ble_eq_true rfl) (Nat.le_of_ble_eq_true rfl) (Or.inr ⟨_, rfl, rfl, rfl, tw_ix_lt (by omega) c1⟩)
  · refine tw_iload_n 1 dX5_countryAt_4 rfl rfl ?_
    refine tw_aload_n 0 dX5_countryAt_5 rfl rfl ?_
    obtain ⟨e2, f3, td_4, ca_5, ha_6, da_7, c1_8, c2_9, c3_10, c4_11, rfl, k12, k13, k14, k15, k16, k17, k18, k19, k20, k21, k22, k23, k24⟩ := sp0.1 x 11 kx (by decide)
    refine tw_get (v := .ref ca_5) rfl in_9 2 dX5_countryAt_6 w_142 rfl (by decide) f3 rfl ?_
    obtain ⟨e25, f26, F27, rfl, k28, pn29, pb30, px31, pf32⟩ := sp0.1 ca_5 8 k12 (by decide)
    refine tw_alen (v := nI 4) 4 rfl dX5_countryAt_9 f26 rfl ?_
    refine tw_icmp_ge 22 dX5_countryAt_10 (by decide) (fun c33 => ?_) (fun c33 => ?_)
    · exact tw_throwSW (i := 2) (by decide +kernel) w_550 w_96 rfl at_IOE dX5_countryAt_22 dX5_countryAt_25 dX5_countryAt_26 dX5_countryAt_29 dX5_countryAt_32 ⟨by decide, Nat.le_of_ble_eq_true rfl⟩ (Nat.le_of_ble_eq_true rfl) (Nat.le_of_ble_eq_true rfl) (Or.inr ⟨_, rfl, rfl, rfl, tw_ix_ge (N := 4) b9.1 (by decide) c33⟩)
    · refine tw_aload_n 0 dX5_countryAt_13 rfl rfl ?_
      refine tw_get (v := .ref ca_5) rfl in_9 2 dX5_countryAt_14 w_142 rfl (by decide) f3 rfl ?_
      refine tw_iload_n 1 dX5_countryAt_17 rfl rfl ?_
      cases k34 : F27 (n).toNatClampNeg with
      | none =>
        refine tw_aald (v := .null) 4 rfl rfl dX5_countryAt_18 f26 (tw_ib2 c1 c33 (by decide)) (by rw [k34]; rfl) ?_
        refine tw_ifnonnullN dX5_countryAt_19 ?_
        exact tw_throwSW (i := 2) (by decide +kernel) w_550 w_96 rfl at_IOE dX5_countryAt_22 dX5_countryAt_25 dX5_countryAt_26 dX5_countryAt_29 dX5_countryAt_32 ⟨by decide, Nat.le_of_ble_eq_true rfl⟩ (Nat.le_of_ble_eq_true rfl) (Nat.le_of_ble_eq_true rfl) (Or.inr ⟨_, rfl, rfl, rfl, tw_ix_no pn29 pb30 (by decide) k34⟩)
      | some q35 =>
        have k36 := k28 _ _ k34
        refine tw_aald (v := .ref q35) 4 rfl rfl dX5_countryAt_18 f26 (tw_ib2 c1 c33 (by decide)) (by rw [k34]; rfl) ?_
        refine tw_ifnonnull 33 dX5_countryAt_19 (by decide) ?_
        refine tw_aload_n 0 dX5_countryAt_33 rfl rfl ?_
        refine tw_get (v := .ref ca_5) rfl in_9 2 dX5_countryAt_34 w_142 rfl (by decide) f3 rfl ?_
        refine tw_iload_n 1 dX5_countryAt_37 rfl rfl ?_
        refine tw_aald (v := .ref q35) 4 rfl rfl dX5_countryAt_38 f26 (tw_ib2 c1 c33 (by decide)) (by rw [k34]; rfl) ?_
        exact tw_aret dX5_countryAt_39 rfl (Or.inl ⟨_, rfl⟩) (Or.inl ⟨_, rfl, rfl, k36, tw_ix_so pn29 c1 c33 k34⟩)

set_option maxHeartbeats 4000000 in
set_option maxRecDepth 100000 in
theorem c2_X5_houseAt (d : tw_D) (g : tw_G) (τ : tw_K) (h : tw_H) (hw : tw_wt d g τ h) (x : Nat) (kx : τ x = 11) (n : Int32) : tw_Ct d mX5_houseAt 1 6 [.ref x, .int n] h (tw_qr (fun r h1 => h1 = h ∧ τ r = 3 ∧ tw_ix (g.2 7) n) (fun E h1 => E = tw_IOE ∧ h1 = h ∧ ¬ tw_ix (g.2 7) n)) := by
  refine tw_of (by decide +kernel) (Nat.le_of_ble_eq_true rfl) ?_
  show tw_W d mX5_houseAt _ 0 [(0, .ref x), (1, .int n)] [] h 1 6
  have sp0 := tw_sp.rf hw
  have b9 := tw_b678 hw kx
  refine tw_iload_n 1 dX5_houseAt_0 rfl rfl ?_
  refine tw_if_lt 22 dX5_houseAt_1 (by decide) (fun c1 => ?_) (fun c1 => ?_)
  · exact tw_throwSW (i := 8) (by decide +kernel) w_550 w_96 rfl at_IOE dX5_houseAt_22 dX5_houseAt_25 dX5_houseAt_26 dX5_houseAt_29 dX5_houseAt_32 ⟨by decide, Nat.le_of_ble_eq_true rfl⟩ (Nat.le_of_ble_eq_true rfl) (Nat.le_of_ble_eq_true rfl) (Or.inr ⟨_, rfl, rfl, rfl, tw_ix_lt (by omega) c1⟩)
  · refine tw_iload_n 1 dX5_houseAt_4 rfl rfl ?_
    refine tw_aload_n 0 dX5_houseAt_5 rfl rfl ?_
    obtain ⟨e2, f3, td_4, ca_5, ha_6, da_7, c1_8, c2_9, c3_10, c4_11, rfl, k12, k13, k14, k15, k16, k17, k18, k19, k20, k21, k22, k23, k24⟩ := sp0.1 x 11 kx (by decide)
    refine tw_get (v := .ref ha_6) rfl in_9 4 dX5_houseAt_6 w_144 rfl (by decide) f3 rfl ?_
    obtain ⟨e25, f26, F27, rfl, k28, pn29, pb30, px31⟩ := sp0.1 ha_6 9 k13 (by decide)
    refine tw_alen (v := nI 6) 5 rfl dX5_houseAt_9 f26 rfl ?_
    refine tw_icmp_ge 22 dX5_houseAt_10 (by decide) (fun c32 => ?_) (fun c32 => ?_)
    · exact tw_throwSW (i := 8) (by decide +kernel) w_550 w_96 rfl at_IOE dX5_houseAt_22 dX5_houseAt_25 dX5_houseAt_26 dX5_houseAt_29 dX5_houseAt_32 ⟨by decide, Nat.le_of_ble_eq_true rfl⟩ (Nat.le_of_ble_eq_true rfl) (Nat.le_of_ble_eq_true rfl) (Or.inr ⟨_, rfl, rfl, rfl, tw_ix_ge (N := 6) b9.2.1 (by decide) c32⟩)
    · refine tw_aload_n 0 dX5_houseAt_13 rfl rfl ?_
      refine tw_get (v := .ref ha_6) rfl in_9 4 dX5_houseAt_14 w_144 rfl (by decide) f3 rfl ?_
      refine tw_iload_n 1 dX5_houseAt_17 rfl rfl ?_
      cases k33 : F27 (n).toNatClampNeg with
      | none =>
        refine tw_aald (v := .null) 5 rfl rfl dX5_houseAt_18 f26 (tw_ib2 c1 c32 (by decide)) (by rw [k33]; rfl) ?_
        refine tw_ifnonnullN dX5_houseAt_19 ?_
        exact tw_throwSW (i := 8) (by decide +kernel) w_550 w_96 rfl at_IOE dX5_houseAt_22 dX5_houseAt_25 dX5_houseAt_26 dX5_houseAt_29 dX5_houseAt_32 ⟨by decide, Nat.le_of_ble_eq_true rfl⟩ (Nat.le_of_ble_eq_true rfl) (Nat.le_of_ble_eq_true rfl) (Or.inr ⟨_, rfl, rfl, rfl, tw_ix_no pn29 pb30 (by decide) k33⟩)
      | some q34 =>
        have k35 := k28 _ _ k33
        refine tw_aald (v := .ref q34) 5 rfl rfl dX5_houseAt_18 f26 (tw_ib2 c1 c32 (by decide)) (by rw [k33]; rfl) ?_
        refine tw_ifnonnull 33 dX5_houseAt_19 (by decide) ?_
        refine tw_aload_n 0 dX5_houseAt_33 rfl rfl ?_
        refine tw_get (v := .ref ha_6) rfl in_9 4 dX5_houseAt_34 w_144 rfl (by decide) f3 rfl ?_
        refine tw_iload_n 1 dX5_houseAt_37 rfl rfl ?_
        refine tw_aald (v := .ref q34) 5 rfl rfl dX5_houseAt_38 f26 (tw_ib2 c1 c32 (by decide)) (by rw [k33]; rfl) ?_
        exact tw_aret dX5_houseAt_39 rfl (Or.inl ⟨_, rfl⟩) (Or.inl ⟨_, rfl, rfl, k35, tw_ix_so pn29 c1 c32 k33⟩)

set_option maxHeartbeats 4000000 in
set_option maxRecDepth 100000 in
theorem c2_X5_needDifferent (d : tw_D) (g : tw_G) (τ : tw_K) (h : tw_H) (hw : tw_wt d g τ h) (a b : Int32) : tw_Ct d mX5_needDifferent 1 6 [.int a, .int b] h (tw_qv (fun h1 => h1 = h ∧ a ≠ b) (fun E h1 => E = tw_IAE ∧ h1 = h ∧ ¬ a ≠ b)) := by
  refine tw_of (by decide +kernel) (Nat.le_of_ble_eq_true rfl) ?_
  show tw_W d mX5_needDifferent _ 0 [(0, .int a), (1, .int b)] [] h 1 6
  have sp0 := tw_sp.rf hw
  refine tw_iload_n 0 dX5_needDifferent_0 rfl rfl ?_
  refine tw_iload_n 1 dX5_needDifferent_1 rfl rfl ?_
  refine tw_icmp_ne 16 dX5_needDifferent_2 (by decide) (fun c1 => ?_) (fun c1 => ?_)
  · exact tw_vret dX5_needDifferent_16 rfl (Or.inl ⟨rfl, rfl, c1⟩)
  · exact tw_throwSW (i := 4) (by decide +kernel) w_402 w_87 rfl at_IAE dX5_needDifferent_5 dX5_needDifferent_8 dX5_needDifferent_9 dX5_needDifferent_12 dX5_needDifferent_15 ⟨by decide, Nat.le_of_ble_eq_true rfl⟩ (Nat.le_of_ble_eq_true rfl) (Nat.le_of_ble_eq_true rfl) (Or.inr ⟨_, rfl, rfl, rfl, fun z => z c1⟩)

set_option maxHeartbeats 4000000 in
set_option maxRecDepth 100000 in
theorem c2_X5_house (d : tw_D) (g : tw_G) (τ : tw_K) (h : tw_H) (hw : tw_wt d g τ h) (x : Nat) (kx : τ x = 11) (a : Int32) (go : Int32) (si : Int32) (he6 : g.2 7 = g.2 1) : tw_Ct d mX5_house 20 120 [.ref x, .int a, .int go, .int si] h (tw_qi (fun r9 h1 => r9 = nI (g.2 1) ∧ tw_ix (g.2 6) a ∧ tw_RH go si ∧ g.2 1 < 6 ∧ ∃ τ1, tw_sp d τ h (tw_gI g 7 1) τ1 h1) (fun E h1 => (E = tw_IOE ∧ ¬ tw_ix (g.2 6) a ∨ E = tw_IAE ∧ tw_ix (g.2 6) a ∧ ¬ tw_RH go si ∨ E = tw_ISE ∧ tw_ix (g.2 6) a ∧ tw_RH go si ∧ ¬ g.2 1 < 6) ∧ ∃ τ1, tw_sp d τ h g τ1 h1)) := by
  refine tw_of (by decide +kernel) (Nat.le_of_ble_eq_true rfl) ?_
  show tw_W d mX5_house _ 0 [(0, .ref x), (1, .int a), (2, .int go), (3, .int si)] [] h 20 120
  have sp0 := tw_sp.rf hw
  refine tw_aload_n 0 dX5_house_0 rfl rfl ?_
  refine tw_iload_n 1 dX5_house_1 rfl rfl ?_
  obtain ⟨e4, f5, td_6, ca_7, ha_8, da_9, c1_10, c2_11, c3_12, c4_13, rfl, k14, k15, k16, k17, k18, k19, k20, k21, k22, k23, k24, k25, k26⟩ := sp0.1 x 11 kx (by decide)
  refine tw_br (tw_callV (M := mX5_house) (pc := 2) okX5_countryAt dX5_house_2 w_546 rfl f5 [.int a] [] rfl rfl ⟨by decide, by decide⟩ (Nat.le_of_ble_eq_true rfl) (c2_X5_countryAt d g τ h sp0.1 x kx a) 19 114 (Nat.le_of_ble_eq_true rfl) (Nat.le_of_ble_eq_true rfl)) (fun r3 h2 q1 => ?_) (fun E h1 q1 => Or.inr ⟨E, rfl, (Or.inl ⟨q1.1, q1.2.2⟩), τ, by rw [q1.2.1]; exact sp0⟩)
  obtain ⟨q1e, q1k, q1i⟩ := q1
  rw [q1e]
  have ix0 := q1i
  refine tw_astore [(4, .ref r3), (0, .ref x), (1, .int a), (2, .int go), (3, .int si)] dX5_house_5 (by decide) rfl ?_
  refine tw_iload_n 3 dX5_house_7 rfl rfl ?_
  refine tw_iconst (v := 0) dX5_house_8 (by decide) ?_
  refine tw_ldc (v := 99999) dX5_house_9 w_470 ?_
  refine tw_bv (tw_callS (M := mX5_house) (pc := 11) okX5_needRange dX5_house_11 w_399 [.int go, .int 0, .int 99999] [] rfl rfl ⟨by decide, by decide⟩ (Nat.le_of_ble_eq_true rfl) (c2_X5_needRange d g τ h sp0.1 go 0 99999) 18 108 (Nat.le_of_ble_eq_true rfl) (Nat.le_of_ble_eq_true rfl)) (fun h28 q27 => ?_) (fun E h1 q27 => Or.inr ⟨E, rfl, (Or.inr (Or.inl ⟨q27.1, ix0, fun z => q27.2.2 z.1⟩)), τ, by rw [q27.2.1]; exact sp0⟩)
  obtain ⟨q27e, q27l⟩ := q27
  rw [q27e]
  refine tw_iload_n 4 dX5_house_14 rfl rfl ?_
  refine tw_iconst (v := 0) dX5_house_15 (by decide) ?_
  refine tw_ldc (v := 99999) dX5_house_16 w_470 ?_
  refine tw_bv (tw_callS (M := mX5_house) (pc := 18) okX5_needRange dX5_house_18 w_399 [.int si, .int 0, .int 99999] [] rfl rfl ⟨by decide, by decide⟩ (Nat.le_of_ble_eq_true rfl) (c2_X5_needRange d g τ h sp0.1 si 0 99999) 17 102 (Nat.le_of_ble_eq_true rfl) (Nat.le_of_ble_eq_true rfl)) (fun h31 q30 => ?_) (fun E h1 q30 => Or.inr ⟨E, rfl, (Or.inr (Or.inl ⟨q30.1, ix0, fun z => q30.2.2 z.2⟩)), τ, by rw [q30.2.1]; exact sp0⟩)
  obtain ⟨q30e, q30l⟩ := q30
  rw [q30e]
  have rc : tw_RH go si := ⟨q27l, q30l⟩
  refine tw_aload_n 1 dX5_house_21 rfl rfl ?_
  refine tw_get (v := .int (nI (g.2 1))) rfl in_9 5 dX5_house_22 w_145 rfl (by decide) f5 rfl ?_
  refine tw_aload_n 1 dX5_house_25 rfl rfl ?_
  refine tw_get (v := .ref ha_8) rfl in_9 4 dX5_house_26 w_144 rfl (by decide) f5 rfl ?_
  obtain ⟨e33, f34, F35, rfl, k36, pn37, pb38, px39⟩ := sp0.1 ha_8 9 k15 (by decide)
  refine tw_alen (v := nI 6) 5 rfl dX5_house_29 f34 rfl ?_
  refine tw_icmp_lt 43 dX5_house_30 (by decide) (fun c40 => ?_) (fun c40 => ?_)
  · refine tw_aload_n 1 dX5_house_43 rfl rfl ?_
    refine tw_get (v := .int (nI (g.2 1))) rfl in_9 5 dX5_house_44 w_145 rfl (by decide) f5 rfl ?_
    refine tw_istore [(5, .int (nI (g.2 1))), (4, .ref r3), (0, .ref x), (1, .int a), (2, .int go), (3, .int si)] dX5_house_47 (by decide) rfl ?_
    refine tw_aload_n 2 dX5_house_49 rfl rfl ?_
    refine tw_get (v := .ref ha_8) rfl in_9 4 dX5_house_50 w_144 rfl (by decide) f5 rfl ?_
    refine tw_iload 0 dX5_house_53 rfl ?_
    refine tw_new (ci := 6) rfl in_6 tyX2 tyX2_ok dX5_house_55 w_121 w_217 w_99 (fs := [.int 0, .null, .null, .null, .int 0]) (fun j hj => by rcases (show j = 0 ∨ j = 1 ∨ j = 2 ∨ j = 3 ∨ j = 4 by omega) with rfl | rfl | rfl | rfl | rfl <;> rfl) 16 97 (Nat.le_of_ble_eq_true rfl) (Nat.le_of_ble_eq_true rfl) (fun q41 hq42 hA43 => ?_)
    have n44 := sp0.nn hq42
    have z45 := sp0.1.none hq42
    obtain ⟨h46, eh46⟩ : ∃ z : tw_H, z = tw_up h q41 (.inr (6, [.int 0, .null, .null, .null, .int 0])) := ⟨_, rfl⟩
    rw [← eh46]
    have sp47 : tw_sp d τ h g τ h46 := by rw [eh46]; exact sp0.mk hq42
    have f48 : h46 q41 = some (.inr (6, [.int 0, .null, .null, .null, .int 0])) := by rw [eh46]; exact tw_up_s
    refine tw_dup dX5_house_58 rfl ?_
    refine tw_iload 0 dX5_house_59 rfl ?_
    refine tw_aload 1 dX5_house_61 rfl ?_
    refine tw_new (ci := 7) rfl in_7 tyX3 tyX3_ok dX5_house_63 w_125 w_126 w_78 (fs := [.int 0, .int 0]) (fun j hj => by rcases (show j = 0 ∨ j = 1 by omega) with rfl | rfl <;> rfl) 15 95 (Nat.le_of_ble_eq_true rfl) (Nat.le_of_ble_eq_true rfl) (fun q49 hq50 hA51 => ?_)
    have n52 := sp47.nn hq50
    have z53 := sp47.1.none hq50
    have ne54 := tw_neF f48 hq50
    obtain ⟨h55, eh55⟩ : ∃ z : tw_H, z = tw_up h46 q49 (.inr (7, [.int 0, .int 0])) := ⟨_, rfl⟩
    rw [← eh55]
    have sp56 : tw_sp d τ h g τ h55 := by rw [eh55]; exact sp47.mk hq50
    have f57 : h55 q41 = some (.inr (6, [.int 0, .null, .null, .null, .int 0])) := by rw [eh55, tw_up_n ne54]; exact f48
    have f58 : h55 q49 = some (.inr (7, [.int 0, .int 0])) := by rw [eh55]; exact tw_up_s
    refine tw_dup dX5_house_66 rfl ?_
    refine tw_iload_n 4 dX5_house_67 rfl rfl ?_
    refine tw_iload_n 5 dX5_house_68 rfl rfl ?_
    refine tw_bv (tw_callIN (M := mX5_house) (pc := 69) okX3_init dX5_house_69 w_127 rfl [.int go, .int si] [.ref q49, .ref r3, .int (nI (g.2 1)), .ref q41, .ref q41, .int (nI (g.2 1)), .ref ha_8] rfl rfl ⟨by decide, by decide⟩ (Nat.le_of_ble_eq_true rfl) (c_X3_init d g τ h55 sp56.1 q49 z53 f58 go si) 15 95 (Nat.le_of_ble_eq_true rfl) (Nat.le_of_ble_eq_true rfl)) (fun h63 q62 => ?_) (fun E h1 q => q.elim)
    obtain ⟨τ64, qi65⟩ := q62
    have sp66 := sp56.ini n52 qi65
    have k67 : τ64 x = 11 := qi65.2.1.k kx (by decide)
    have k68 : τ64 ca_7 = 8 := qi65.2.1.k k14 (by decide)
    have k69 : τ64 ha_8 = 9 := qi65.2.1.k k15 (by decide)
    have k70 : τ64 da_9 = 10 := qi65.2.1.k k16 (by decide)
    have k71 : τ64 c1_10 = 1 := qi65.2.1.k k17 (by decide)
    have k72 : τ64 c2_11 = 1 := qi65.2.1.k k18 (by decide)
    have k73 : τ64 c3_12 = 1 := qi65.2.1.k k19 (by decide)
    have k74 : τ64 c4_13 = 1 := qi65.2.1.k k20 (by decide)
    have k75 : τ64 r3 = 2 := qi65.2.1.k q1k (by decide)
    have k76 : τ64 q49 = 1 := qi65.2.2.1
    have f77 := (qi65.2.2.2 _ _ ne54 f57 z45).1
    have z78 := (qi65.2.2.2 _ _ ne54 f57 z45).2
    refine tw_bv (tw_callIN (M := mX5_house) (pc := 72) okX2_init dX5_house_72 w_632 rfl [.int (nI (g.2 1)), .ref r3, .ref q49] [.ref q41, .int (nI (g.2 1)), .ref ha_8] rfl rfl ⟨by decide, by decide⟩ (Nat.le_of_ble_eq_true rfl) (c_X2_init d g τ64 h63 sp66.1 q41 z78 f77 (nI (g.2 1)) r3 k75 q49 k76) 15 95 (Nat.le_of_ble_eq_true rfl) (Nat.le_of_ble_eq_true rfl)) (fun h83 q82 => ?_) (fun E h1 q => q.elim)
    obtain ⟨τ84, qi85⟩ := q82
    have sp86 := sp66.ini n44 qi85
    have k87 : τ84 x = 11 := qi85.2.1.k k67 (by decide)
    have k88 : τ84 ca_7 = 8 := qi85.2.1.k k68 (by decide)
    have k89 : τ84 ha_8 = 9 := qi85.2.1.k k69 (by decide)
    have k90 : τ84 da_9 = 10 := qi85.2.1.k k70 (by decide)
    have k91 : τ84 c1_10 = 1 := qi85.2.1.k k71 (by decide)
    have k92 : τ84 c2_11 = 1 := qi85.2.1.k k72 (by decide)
    have k93 : τ84 c3_12 = 1 := qi85.2.1.k k73 (by decide)
    have k94 : τ84 c4_13 = 1 := qi85.2.1.k k74 (by decide)
    have k95 : τ84 r3 = 2 := qi85.2.1.k k75 (by decide)
    have k96 : τ84 q49 = 1 := qi85.2.1.k k76 (by decide)
    have k97 : τ84 q41 = 3 := qi85.2.2.1
    have lt0 : g.2 1 < 6 := tw_klt2 c40 k22 (by decide)
    obtain ⟨e98, f99, F100, rfl, k101, pn102, pb103, px104⟩ := sp86.1 ha_8 9 k89 (by decide)
    obtain ⟨e105, f106, n_107, ar_108, p_109, pl_110, go_111, rfl, k112, k113, k114⟩ := sp86.1 q41 3 k97 (by decide)
    refine tw_aast (ci := 6) 5 rfl rfl dX5_house_75 f99 f106 (vp_in_nI lt0 (by decide)) ?_
    obtain ⟨gA, eA⟩ : ∃ z : tw_G, z = tw_g2 g 7 (g.2 7 + 1) := ⟨_, rfl⟩
    obtain ⟨h115, eh115⟩ : ∃ z : tw_H, z = tw_up h83 ha_8 (.inl (d.2 5, 6, .inr (.inr (.inr (.inr (va_up F100 (nI (g.2 1)).toNatClampNeg (some q41))))))) := ⟨_, rfl⟩
    rw [← eh115]
    have sp116 : tw_sp d τ h gA τ84 h115 := by rw [eh115]; exact sp86.g9 k89 ⟨_, rfl, tw_okup k101 k97, by rw [eA, show (nI (g.2 1)).toNatClampNeg = g.2 7 by rw [nI_clamp (by omega), he6]]; exact tw_ixup pn102, by rw [eA]; show g.2 7 + 1 ≤ 6; rw [he6]; exact lt0, by rw [eA]; exact px104⟩ (by rw [eA]; rfl) (by rw [eA]; intro i hi; exact if_neg hi)
    refine tw_aload_n 2 dX5_house_76 rfl rfl ?_
    refine tw_iload 0 dX5_house_77 rfl ?_
    refine tw_iconst (v := 1) dX5_house_79 (by decide) ?_
    refine tw_iadd dX5_house_80 ?_
    refine tw_nmi (fun v117 ev117 => ?_)
    obtain ⟨e118, f119, td_120, ca_121, ha_122, da_123, c1_124, c2_125, c3_126, c4_127, rfl, k128, k129, k130, k131, k132, k133, k134, k135, k136, k137, k138, k139, k140⟩ := sp116.1 x 11 k87 (by decide)
    obtain ⟨gB, eB⟩ : ∃ z : tw_G, z = tw_g2 gA 1 (gA.2 1 + 1) := ⟨_, rfl⟩
    have eGG : gB = tw_gI g 7 1 := by rw [eB, eA]; rfl
    have q141 : v117 = nI (gB.2 1) := by rw [ev117, nI_1, eB, eA]; rfl
    subst q141
    have egB : gB = tw_g2 gA 1 (gA.2 1 + 1) := eB
    refine tw_put rfl in_9 tyX5 tyX5_ok nmX5 5 dX5_house_81 w_145 rfl (by decide) f119 rfl rfl rfl rfl (Nat.le_of_ble_eq_true rfl) [.int td_120, .int (gA.1 0), .ref ca_121, .int (nI (gA.2 0)), .ref ha_122, .int (nI (gB.2 1)), .ref da_123, .int (nI (gA.2 2)), .ref c1_124, .ref c2_125, .ref c3_126, .ref c4_127] rfl ?_
    obtain ⟨h142, eh142⟩ : ∃ z : tw_H, z = tw_up h115 x (.inr (9, [.int td_120, .int (gA.1 0), .ref ca_121, .int (nI (gA.2 0)), .ref ha_122, .int (nI (gB.2 1)), .ref da_123, .int (nI (gA.2 2)), .ref c1_124, .ref c2_125, .ref c3_126, .ref c4_127])) := ⟨_, rfl⟩
    rw [← eh142]
    have sp143 : tw_sp d τ h gB τ84 h142 := by rw [eh142]; exact sp116.g11 k87 ⟨td_120, ca_121, ha_122, da_123, c1_124, c2_125, c3_126, c4_127, (by rw [egB]; rfl), k128, k129, k130, k131, k132, k133, k134, (by rw [egB]; exact k135), (by rw [egB]; exact (show gA.2 1 + 1 ≤ 6 by rw [eA]; exact lt0)), (by rw [egB]; exact k137), (by rw [egB]; exact k138), (by rw [egB]; exact k139), (by rw [egB]; exact k140)⟩ (by rw [egB]; intro i hi; rfl) (by rw [egB]; intro i hi hj; exact if_neg (by omega))
    refine tw_aload_n 2 dX5_house_84 rfl rfl ?_
    obtain ⟨e144, f145, td_146, ca_147, ha_148, da_149, c1_150, c2_151, c3_152, c4_153, rfl, k154, k155, k156, k157, k158, k159, k160, k161, k162, k163, k164, k165, k166⟩ := sp143.1 x 11 k87 (by decide)
    refine tw_get (v := .ref c4_153) rfl in_9 11 dX5_house_85 w_151 rfl (by decide) f145 rfl ?_
    refine tw_iconst (v := 0) dX5_house_88 (by decide) ?_
    refine tw_iload_n 4 dX5_house_89 rfl rfl ?_
    obtain ⟨e170, f171, a_172, b_173, rfl⟩ := sp143.1 c4_153 1 k160 (by decide)
    refine tw_bv (tw_callVN (M := mX5_house) (pc := 90) okX3_add dX5_house_90 w_534 rfl f171 [.int 0, .int go] [] rfl rfl ⟨by decide, by decide⟩ (Nat.le_of_ble_eq_true rfl) (c_X3_add d gB τ84 h142 sp143.1 c4_153 k160 0 go) 15 95 (Nat.le_of_ble_eq_true rfl) (Nat.le_of_ble_eq_true rfl)) (fun h175 q174 => ?_) (fun E h1 q => q.elim)
    have q174s := q174
    have sp177 := sp143.tr q174s
    refine tw_aload_n 2 dX5_house_93 rfl rfl ?_
    obtain ⟨e179, f180, td_181, ca_182, ha_183, da_184, c1_185, c2_186, c3_187, c4_188, rfl, k189, k190, k191, k192, k193, k194, k195, k196, k197, k198, k199, k200, k201⟩ := sp177.1 x 11 k87 (by decide)
    refine tw_get (v := .ref c4_188) rfl in_9 11 dX5_house_94 w_151 rfl (by decide) f180 rfl ?_
    refine tw_iconst (v := 1) dX5_house_97 (by decide) ?_
    refine tw_iload_n 5 dX5_house_98 rfl rfl ?_
    obtain ⟨e205, f206, a_207, b_208, rfl⟩ := sp177.1 c4_188 1 k195 (by decide)
    refine tw_bv (tw_callVN (M := mX5_house) (pc := 99) okX3_add dX5_house_99 w_534 rfl f206 [.int 1, .int si] [] rfl rfl ⟨by decide, by decide⟩ (Nat.le_of_ble_eq_true rfl) (c_X3_add d gB τ84 h175 sp177.1 c4_188 k195 1 si) 15 95 (Nat.le_of_ble_eq_true rfl) (Nat.le_of_ble_eq_true rfl)) (fun h210 q209 => ?_) (fun E h1 q => q.elim)
    have q209s := q209
    have sp212 := sp177.tr q209s
    refine tw_iload 0 dX5_house_102 rfl ?_
    exact tw_iret dX5_house_104 rfl (Or.inl ⟨_, rfl, rfl, ix0, rc, lt0, _, by rw [← eGG]; exact sp212⟩)
  · exact tw_throwS (i := 7) (by decide +kernel) w_471 w_88 rfl at_ISE dX5_house_33 dX5_house_36 dX5_house_37 dX5_house_39 dX5_house_42 ⟨by decide, Nat.le_of_ble_eq_true rfl⟩ (Nat.le_of_ble_eq_true rfl) (Nat.le_of_ble_eq_true rfl) (Or.inr ⟨_, rfl, (Or.inr (Or.inr (⟨rfl, ix0, rc, fun z => c40 (nI_lt z (by decide))⟩))), _, sp0⟩)

set_option maxHeartbeats 4000000 in
set_option maxRecDepth 100000 in
theorem c2_X5_owe (d : tw_D) (g : tw_G) (τ : tw_K) (h : tw_H) (hw : tw_wt d g τ h) (x : Nat) (kx : τ x = 11) (a : Int32) (b : Int32) (v : Int32) (dy : Int32) (he6 : g.2 8 = g.2 2) : tw_Ct d mX5_owe 20 120 [.ref x, .int a, .int b, .int v, .int dy] h (tw_qi (fun r9 h1 => r9 = nI (g.2 2) ∧ (tw_ix (g.2 7) a ∧ tw_ix (g.2 7) b) ∧ tw_RO a b v dy ∧ g.2 2 < 10 ∧ ∃ τ1, tw_sp d τ h (tw_gI g 8 2) τ1 h1) (fun E h1 => (E = tw_IOE ∧ ¬ (tw_ix (g.2 7) a ∧ tw_ix (g.2 7) b) ∨ E = tw_IAE ∧ (tw_ix (g.2 7) a ∧ tw_ix (g.2 7) b) ∧ ¬ tw_RO a b v dy ∨ E = tw_ISE ∧ (tw_ix (g.2 7) a ∧ tw_ix (g.2 7) b) ∧ tw_RO a b v dy ∧ ¬ g.2 2 < 10) ∧ ∃ τ1, tw_sp d τ h g τ1 h1)) := by
  refine tw_of (by decide +kernel) (Nat.le_of_ble_eq_true rfl) ?_
  show tw_W d mX5_owe _ 0 [(0, .ref x), (1, .int a), (2, .int b), (3, .int v), (4, .int dy)] [] h 20 120
  have sp0 := tw_sp.rf hw
  refine tw_aload_n 0 dX5_owe_0 rfl rfl ?_
  refine tw_iload_n 1 dX5_owe_1 rfl rfl ?_
  obtain ⟨e4, f5, td_6, ca_7, ha_8, da_9, c1_10, c2_11, c3_12, c4_13, rfl, k14, k15, k16, k17, k18, k19, k20, k21, k22, k23, k24, k25, k26⟩ := sp0.1 x 11 kx (by decide)
  refine tw_br (tw_callV (M := mX5_owe) (pc := 2) okX5_houseAt dX5_owe_2 w_664 rfl f5 [.int a] [] rfl rfl ⟨by decide, by decide⟩ (Nat.le_of_ble_eq_true rfl) (c2_X5_houseAt d g τ h sp0.1 x kx a) 19 114 (Nat.le_of_ble_eq_true rfl) (Nat.le_of_ble_eq_true rfl)) (fun r3 h2 q1 => ?_) (fun E h1 q1 => Or.inr ⟨E, rfl, (Or.inl ⟨q1.1, fun z => q1.2.2 z.1⟩), τ, by rw [q1.2.1]; exact sp0⟩)
  obtain ⟨q1e, q1k, q1i⟩ := q1
  rw [q1e]
  refine tw_astore [(5, .ref r3), (0, .ref x), (1, .int a), (2, .int b), (3, .int v), (4, .int dy)] dX5_owe_5 (by decide) rfl ?_
  refine tw_aload_n 1 dX5_owe_7 rfl rfl ?_
  refine tw_iload_n 3 dX5_owe_8 rfl rfl ?_
  refine tw_br (tw_callV (M := mX5_owe) (pc := 9) okX5_houseAt dX5_owe_9 w_664 rfl f5 [.int b] [] rfl rfl ⟨by decide, by decide⟩ (Nat.le_of_ble_eq_true rfl) (c2_X5_houseAt d g τ h sp0.1 x kx b) 18 108 (Nat.le_of_ble_eq_true rfl) (Nat.le_of_ble_eq_true rfl)) (fun r29 h28 q27 => ?_) (fun E h1 q27 => Or.inr ⟨E, rfl, (Or.inl ⟨q27.1, fun z => q27.2.2 z.2⟩), τ, by rw [q27.2.1]; exact sp0⟩)
  obtain ⟨q27e, q27k, q27i⟩ := q27
  rw [q27e]
  have ix0 := And.intro q1i q27i
  refine tw_astore [(6, .ref r29), (5, .ref r3), (0, .ref x), (1, .int a), (2, .int b), (3, .int v), (4, .int dy)] dX5_owe_12 (by decide) rfl ?_
  refine tw_iload_n 3 dX5_owe_14 rfl rfl ?_
  refine tw_iload_n 4 dX5_owe_15 rfl rfl ?_
  refine tw_bv (tw_callS (M := mX5_owe) (pc := 16) okX5_needDifferent dX5_owe_16 w_599 [.int a, .int b] [] rfl rfl ⟨by decide, by decide⟩ (Nat.le_of_ble_eq_true rfl) (c2_X5_needDifferent d g τ h sp0.1 a b) 17 102 (Nat.le_of_ble_eq_true rfl) (Nat.le_of_ble_eq_true rfl)) (fun h31 q30 => ?_) (fun E h1 q30 => Or.inr ⟨E, rfl, (Or.inr (Or.inl ⟨q30.1, ix0, fun z => q30.2.2 z.1⟩)), τ, by rw [q30.2.1]; exact sp0⟩)
  obtain ⟨q30e, q30l⟩ := q30
  rw [q30e]
  refine tw_iload_n 5 dX5_owe_19 rfl rfl ?_
  refine tw_iconst (v := 1) dX5_owe_20 (by decide) ?_
  refine tw_sipush (v := 9999) dX5_owe_21 (by decide) ?_
  refine tw_bv (tw_callS (M := mX5_owe) (pc := 24) okX5_needRange dX5_owe_24 w_399 [.int v, .int 1, .int 9999] [] rfl rfl ⟨by decide, by decide⟩ (Nat.le_of_ble_eq_true rfl) (c2_X5_needRange d g τ h sp0.1 v 1 9999) 16 96 (Nat.le_of_ble_eq_true rfl) (Nat.le_of_ble_eq_true rfl)) (fun h34 q33 => ?_) (fun E h1 q33 => Or.inr ⟨E, rfl, (Or.inr (Or.inl ⟨q33.1, ix0, fun z => q33.2.2 z.2.1⟩)), τ, by rw [q33.2.1]; exact sp0⟩)
  obtain ⟨q33e, q33l⟩ := q33
  rw [q33e]
  refine tw_iload 6 dX5_owe_27 rfl ?_
  refine tw_iconst (v := 0) dX5_owe_29 (by decide) ?_
  refine tw_sipush (v := 1000) dX5_owe_30 (by decide) ?_
  refine tw_bv (tw_callS (M := mX5_owe) (pc := 33) okX5_needRange dX5_owe_33 w_399 [.int dy, .int 0, .int 1000] [] rfl rfl ⟨by decide, by decide⟩ (Nat.le_of_ble_eq_true rfl) (c2_X5_needRange d g τ h sp0.1 dy 0 1000) 15 90 (Nat.le_of_ble_eq_true rfl) (Nat.le_of_ble_eq_true rfl)) (fun h37 q36 => ?_) (fun E h1 q36 => Or.inr ⟨E, rfl, (Or.inr (Or.inl ⟨q36.1, ix0, fun z => q36.2.2 z.2.2⟩)), τ, by rw [q36.2.1]; exact sp0⟩)
  obtain ⟨q36e, q36l⟩ := q36
  rw [q36e]
  have rc : tw_RO a b v dy := ⟨q30l, q33l, q36l⟩
  refine tw_aload_n 2 dX5_owe_36 rfl rfl ?_
  refine tw_get (v := .int (nI (g.2 2))) rfl in_9 7 dX5_owe_37 w_147 rfl (by decide) f5 rfl ?_
  refine tw_aload_n 2 dX5_owe_40 rfl rfl ?_
  refine tw_get (v := .ref da_9) rfl in_9 6 dX5_owe_41 w_146 rfl (by decide) f5 rfl ?_
  obtain ⟨e39, f40, F41, rfl, k42, pn43, pb44, px45⟩ := sp0.1 da_9 10 k16 (by decide)
  refine tw_alen (v := nI 10) 6 rfl dX5_owe_44 f40 rfl ?_
  refine tw_icmp_lt 58 dX5_owe_45 (by decide) (fun c46 => ?_) (fun c46 => ?_)
  · refine tw_aload_n 2 dX5_owe_58 rfl rfl ?_
    refine tw_get (v := .int (nI (g.2 2))) rfl in_9 7 dX5_owe_59 w_147 rfl (by decide) f5 rfl ?_
    refine tw_istore [(7, .int (nI (g.2 2))), (6, .ref r29), (5, .ref r3), (0, .ref x), (1, .int a), (2, .int b), (3, .int v), (4, .int dy)] dX5_owe_62 (by decide) rfl ?_
    refine tw_aload_n 3 dX5_owe_64 rfl rfl ?_
    refine tw_get (v := .ref da_9) rfl in_9 6 dX5_owe_65 w_146 rfl (by decide) f5 rfl ?_
    refine tw_iload 0 dX5_owe_68 rfl ?_
    refine tw_new (ci := 5) rfl in_5 tyX1 tyX1_ok dX5_owe_70 w_123 w_358 w_102 (fs := [.null, .null, .int 0, .int 0, .int 0]) (fun j hj => by rcases (show j = 0 ∨ j = 1 ∨ j = 2 ∨ j = 3 ∨ j = 4 by omega) with rfl | rfl | rfl | rfl | rfl <;> rfl) 14 85 (Nat.le_of_ble_eq_true rfl) (Nat.le_of_ble_eq_true rfl) (fun q47 hq48 hA49 => ?_)
    have n50 := sp0.nn hq48
    have z51 := sp0.1.none hq48
    obtain ⟨h52, eh52⟩ : ∃ z : tw_H, z = tw_up h q47 (.inr (5, [.null, .null, .int 0, .int 0, .int 0])) := ⟨_, rfl⟩
    rw [← eh52]
    have sp53 : tw_sp d τ h g τ h52 := by rw [eh52]; exact sp0.mk hq48
    have f54 : h52 q47 = some (.inr (5, [.null, .null, .int 0, .int 0, .int 0])) := by rw [eh52]; exact tw_up_s
    refine tw_dup dX5_owe_73 rfl ?_
    refine tw_aload 2 dX5_owe_74 rfl ?_
    refine tw_aload 1 dX5_owe_76 rfl ?_
    refine tw_iload_n 6 dX5_owe_78 rfl rfl ?_
    refine tw_aload_n 3 dX5_owe_79 rfl rfl ?_
    obtain ⟨e55, f56, td_57, ca_58, ha_59, da_60, c1_61, c2_62, c3_63, c4_64, rfl, k65, k66, k67, k68, k69, k70, k71, k72, k73, k74, k75, k76, k77⟩ := sp53.1 x 11 kx (by decide)
    refine tw_get (v := .int td_57) rfl in_9 0 dX5_owe_80 w_140 rfl (by decide) f56 rfl ?_
    refine tw_iload 7 dX5_owe_83 rfl ?_
    refine tw_iadd dX5_owe_85 ?_
    refine tw_nmi (fun v78 ev78 => ?_)
    refine tw_bv (tw_callIN (M := mX5_owe) (pc := 86) okX1_init dX5_owe_86 w_715 rfl [.ref r3, .ref r29, .int v, .int v78] [.ref q47, .int (nI (g.2 2)), .ref da_9] rfl rfl ⟨by decide, by decide⟩ (Nat.le_of_ble_eq_true rfl) (c_X1_init d g τ h52 sp53.1 q47 z51 f54 r3 q1k r29 q27k v v78) 14 85 (Nat.le_of_ble_eq_true rfl) (Nat.le_of_ble_eq_true rfl)) (fun h83 q82 => ?_) (fun E h1 q => q.elim)
    obtain ⟨τ84, qi85⟩ := q82
    have sp86 := sp53.ini n50 qi85
    have k87 : τ84 x = 11 := qi85.2.1.k kx (by decide)
    have k88 : τ84 ca_7 = 8 := qi85.2.1.k k14 (by decide)
    have k89 : τ84 ha_8 = 9 := qi85.2.1.k k15 (by decide)
    have k90 : τ84 da_9 = 10 := qi85.2.1.k k16 (by decide)
    have k91 : τ84 c1_10 = 1 := qi85.2.1.k k17 (by decide)
    have k92 : τ84 c2_11 = 1 := qi85.2.1.k k18 (by decide)
    have k93 : τ84 c3_12 = 1 := qi85.2.1.k k19 (by decide)
    have k94 : τ84 c4_13 = 1 := qi85.2.1.k k20 (by decide)
    have k95 : τ84 r3 = 3 := qi85.2.1.k q1k (by decide)
    have k96 : τ84 r29 = 3 := qi85.2.1.k q27k (by decide)
    have k97 : τ84 ca_58 = 8 := qi85.2.1.k k65 (by decide)
    have k98 : τ84 ha_59 = 9 := qi85.2.1.k k66 (by decide)
    have k99 : τ84 da_60 = 10 := qi85.2.1.k k67 (by decide)
    have k100 : τ84 c1_61 = 1 := qi85.2.1.k k68 (by decide)
    have k101 : τ84 c2_62 = 1 := qi85.2.1.k k69 (by decide)
    have k102 : τ84 c3_63 = 1 := qi85.2.1.k k70 (by decide)
    have k103 : τ84 c4_64 = 1 := qi85.2.1.k k71 (by decide)
    have k104 : τ84 q47 = 4 := qi85.2.2.1
    have lt0 : g.2 2 < 10 := tw_klt2 c46 k74 (by decide)
    obtain ⟨e105, f106, F107, rfl, k108, pn109, pb110, px111⟩ := sp86.1 da_9 10 k90 (by decide)
    obtain ⟨e112, f113, v_114, dy_115, pd_116, a_117, b_118, rfl, k119, k120, k121⟩ := sp86.1 q47 4 k104 (by decide)
    refine tw_aast (ci := 5) 6 rfl rfl dX5_owe_89 f106 f113 (vp_in_nI lt0 (by decide)) ?_
    obtain ⟨gA, eA⟩ : ∃ z : tw_G, z = tw_g2 g 8 (g.2 8 + 1) := ⟨_, rfl⟩
    obtain ⟨h122, eh122⟩ : ∃ z : tw_H, z = tw_up h83 da_9 (.inl (d.2 6, 10, .inr (.inr (.inr (.inr (va_up F107 (nI (g.2 2)).toNatClampNeg (some q47))))))) := ⟨_, rfl⟩
    rw [← eh122]
    have sp123 : tw_sp d τ h gA τ84 h122 := by rw [eh122]; exact sp86.g10 k90 ⟨_, rfl, tw_okup k108 k104, by rw [eA, show (nI (g.2 2)).toNatClampNeg = g.2 8 by rw [nI_clamp (by omega), he6]]; exact tw_ixup pn109, by rw [eA]; show g.2 8 + 1 ≤ 10; rw [he6]; exact lt0, by rw [eA]; exact px111⟩ (by rw [eA]; rfl) (by rw [eA]; intro i hi; exact if_neg hi)
    refine tw_aload_n 3 dX5_owe_90 rfl rfl ?_
    refine tw_iload 0 dX5_owe_91 rfl ?_
    refine tw_iconst (v := 1) dX5_owe_93 (by decide) ?_
    refine tw_iadd dX5_owe_94 ?_
    refine tw_nmi (fun v124 ev124 => ?_)
    obtain ⟨e125, f126, td_127, ca_128, ha_129, da_130, c1_131, c2_132, c3_133, c4_134, rfl, k135, k136, k137, k138, k139, k140, k141, k142, k143, k144, k145, k146, k147⟩ := sp123.1 x 11 k87 (by decide)
    obtain ⟨gB, eB⟩ : ∃ z : tw_G, z = tw_g2 gA 2 (gA.2 2 + 1) := ⟨_, rfl⟩
    have eGG : gB = tw_gI g 8 2 := by rw [eB, eA]; rfl
    have q148 : v124 = nI (gB.2 2) := by rw [ev124, nI_1, eB, eA]; rfl
    subst q148
    have egB : gB = tw_g2 gA 2 (gA.2 2 + 1) := eB
    refine tw_put rfl in_9 tyX5 tyX5_ok nmX5 7 dX5_owe_95 w_147 rfl (by decide) f126 rfl rfl rfl rfl (Nat.le_of_ble_eq_true rfl) [.int td_127, .int (gA.1 0), .ref ca_128, .int (nI (gA.2 0)), .ref ha_129, .int (nI (gA.2 1)), .ref da_130, .int (nI (gB.2 2)), .ref c1_131, .ref c2_132, .ref c3_133, .ref c4_134] rfl ?_
    obtain ⟨h149, eh149⟩ : ∃ z : tw_H, z = tw_up h122 x (.inr (9, [.int td_127, .int (gA.1 0), .ref ca_128, .int (nI (gA.2 0)), .ref ha_129, .int (nI (gA.2 1)), .ref da_130, .int (nI (gB.2 2)), .ref c1_131, .ref c2_132, .ref c3_133, .ref c4_134])) := ⟨_, rfl⟩
    rw [← eh149]
    have sp150 : tw_sp d τ h gB τ84 h149 := by rw [eh149]; exact sp123.g11 k87 ⟨td_127, ca_128, ha_129, da_130, c1_131, c2_132, c3_133, c4_134, (by rw [egB]; rfl), k135, k136, k137, k138, k139, k140, k141, (by rw [egB]; exact k142), (by rw [egB]; exact k143), (by rw [egB]; exact (show gA.2 2 + 1 ≤ 10 by rw [eA]; exact lt0)), (by rw [egB]; exact k145), (by rw [egB]; exact k146), (by rw [egB]; exact k147)⟩ (by rw [egB]; intro i hi; rfl) (by rw [egB]; intro i hi hj; exact if_neg (by omega))
    refine tw_iload 0 dX5_owe_98 rfl ?_
    exact tw_iret dX5_owe_100 rfl (Or.inl ⟨_, rfl, rfl, ix0, rc, lt0, _, by rw [← eGG]; exact sp150⟩)
  · exact tw_throwS (i := 13) (by decide +kernel) w_471 w_88 rfl at_ISE dX5_owe_48 dX5_owe_51 dX5_owe_52 dX5_owe_54 dX5_owe_57 ⟨by decide, Nat.le_of_ble_eq_true rfl⟩ (Nat.le_of_ble_eq_true rfl) (Nat.le_of_ble_eq_true rfl) (Or.inr ⟨_, rfl, (Or.inr (Or.inr (⟨rfl, ix0, rc, fun z => c46 (nI_lt z (by decide))⟩))), _, sp0⟩)

theorem tw_sp.g0 {d : tw_D} {g g1 : tw_G} {τ τ1 : tw_K} {h h1 : tw_H} (s : tw_sp d τ h g τ1 h1) (z : ∀ a, τ1 a = 0) : tw_sp d τ h g1 τ1 h1 := ⟨fun a k hk h0 => absurd (hk.symm.trans (z a)) h0, s.2.1, s.2.2⟩
set_option maxHeartbeats 4000000 in
set_option maxRecDepth 100000 in
theorem c2_X5_init (d : tw_D) (g : tw_G) (τ : tw_K) (h : tw_H) (hw : tw_wt d g τ h) (hz0 : ∀ a, τ a = 0) (x : Nat) (hz : τ x = 0) (hx : h x = some (.inr (9, [.int 0, .int 0, .null, .int 0, .null, .int 0, .null, .int 0, .null, .null, .null, .null]))) : tw_Ct d mX5_init 10 40 [.ref x] h (tw_qv (fun h1 => ∃ (g1 : tw_G) (τ1 : tw_K), (g1.1 0 = 155 ∧ (∀ i, (i < 9 ∨ i = 21) → g1.2 i = 0) ∧ g1.2 24 = 160 ∧ g1.2 9 = 0) ∧ tw_ini d g1 τ h x 11 τ1 h1) tw_nx) := by
  refine tw_of (by decide +kernel) (Nat.le_of_ble_eq_true rfl) ?_
  show tw_W d mX5_init _ 0 [(0, .ref x)] [] h 10 40
  have sp0 := tw_sp.rm hw x
  refine tw_aload_n 0 dX5_init_0 rfl rfl ?_
  refine tw_objInit dX5_init_1 w_116 w_117 w_118 ⟨by decide, Nat.le_of_ble_eq_true rfl⟩ ?_
  refine tw_aload_n 0 dX5_init_4 rfl rfl ?_
  refine tw_sipush (v := 155) dX5_init_5 (by decide) ?_
  refine tw_put rfl in_9 tyX5 tyX5_ok nmX5 1 dX5_init_8 w_141 rfl (by decide) hx rfl rfl rfl rfl (Nat.le_of_ble_eq_true rfl) [.int 0, .int 155, .null, .int 0, .null, .int 0, .null, .int 0, .null, .null, .null, .null] rfl ?_
  obtain ⟨h1, eh1⟩ : ∃ z : tw_H, z = tw_up h x (.inr (9, [.int 0, .int 155, .null, .int 0, .null, .int 0, .null, .int 0, .null, .null, .null, .null])) := ⟨_, rfl⟩
  rw [← eh1]
  have sp2 : tw_sp d τ (tw_rm h x) g τ h1 := by rw [eh1]; exact sp0.wl tw_rm_s hz
  have f3 : h1 x = some (.inr (9, [.int 0, .int 155, .null, .int 0, .null, .int 0, .null, .int 0, .null, .null, .null, .null])) := by rw [eh1]; exact tw_up_s
  refine tw_aload_n 0 dX5_init_11 rfl rfl ?_
  refine tw_iconst (v := 4) dX5_init_12 (by decide) ?_
  refine tw_newq (k := 4) (N := 4) 4 rfl (fun _ _ z => z.2.2.2.2.2.2.2.1.1) dX5_init_13 w_119 (by decide) (by decide) (by decide) 9 36 (Nat.le_of_ble_eq_true rfl) (Nat.le_of_ble_eq_true rfl) (fun q4 hq5 hA6 => ?_)
  have n7 := sp2.nn hq5
  have z8 := sp2.1.none hq5
  have ne9 := tw_neF f3 hq5
  obtain ⟨h10, eh10⟩ : ∃ z : tw_H, z = tw_up h1 q4 (.inl (d.2 4, 4, .inr (.inr (.inr (.inr (fun _ => none)))))) := ⟨_, rfl⟩
  rw [← eh10]
  have sp11 : tw_sp d τ (tw_rm h x) g τ h10 := by rw [eh10]; exact sp2.mk hq5
  have f12 : h10 x = some (.inr (9, [.int 0, .int 155, .null, .int 0, .null, .int 0, .null, .int 0, .null, .null, .null, .null])) := by rw [eh10, tw_up_n ne9]; exact f3
  have f13 : h10 q4 = some (.inl (d.2 4, 4, .inr (.inr (.inr (.inr (fun _ => none)))))) := by rw [eh10]; exact tw_up_s
  refine tw_putF rfl in_9 tyX5 tyX5_ok nmX5 2 dX5_init_16 w_142 rfl (by decide) f12 rfl rfl rfl rfl rfl rfl (Nat.le_of_ble_eq_true rfl) [.int 0, .int 155, .ref q4, .int 0, .null, .int 0, .null, .int 0, .null, .null, .null, .null] rfl ?_
  obtain ⟨h14, eh14⟩ : ∃ z : tw_H, z = tw_up h10 x (.inr (9, [.int 0, .int 155, .ref q4, .int 0, .null, .int 0, .null, .int 0, .null, .null, .null, .null])) := ⟨_, rfl⟩
  rw [← eh14]
  have sp15 : tw_sp d τ (tw_rm h x) g τ h14 := by rw [eh14]; exact sp11.wl tw_rm_s hz
  have f16 : h14 q4 = some (.inl (d.2 4, 4, .inr (.inr (.inr (.inr (fun _ => none)))))) := by rw [eh14, tw_up_n (Ne.symm ne9)]; exact f13
  have f17 : h14 x = some (.inr (9, [.int 0, .int 155, .ref q4, .int 0, .null, .int 0, .null, .int 0, .null, .null, .null, .null])) := by rw [eh14]; exact tw_up_s
  refine tw_aload_n 0 dX5_init_19 rfl rfl ?_
  refine tw_bipush (v := 6) dX5_init_20 (by decide) ?_
  refine tw_newq (k := 6) (N := 6) 5 rfl (fun _ _ z => z.2.2.2.2.2.2.2.1.2.1) dX5_init_22 w_121 (by decide) (by decide) (by decide) 8 30 (Nat.le_of_ble_eq_true rfl) (Nat.le_of_ble_eq_true rfl) (fun q18 hq19 hA20 => ?_)
  have n21 := sp15.nn hq19
  have z22 := sp15.1.none hq19
  have ne23 := tw_neF f16 hq19
  have ne24 := tw_neF f17 hq19
  obtain ⟨h25, eh25⟩ : ∃ z : tw_H, z = tw_up h14 q18 (.inl (d.2 5, 6, .inr (.inr (.inr (.inr (fun _ => none)))))) := ⟨_, rfl⟩
  rw [← eh25]
  have sp26 : tw_sp d τ (tw_rm h x) g τ h25 := by rw [eh25]; exact sp15.mk hq19
  have f27 : h25 q4 = some (.inl (d.2 4, 4, .inr (.inr (.inr (.inr (fun _ => none)))))) := by rw [eh25, tw_up_n ne23]; exact f16
  have f28 : h25 x = some (.inr (9, [.int 0, .int 155, .ref q4, .int 0, .null, .int 0, .null, .int 0, .null, .null, .null, .null])) := by rw [eh25, tw_up_n ne24]; exact f17
  have f29 : h25 q18 = some (.inl (d.2 5, 6, .inr (.inr (.inr (.inr (fun _ => none)))))) := by rw [eh25]; exact tw_up_s
  refine tw_putF rfl in_9 tyX5 tyX5_ok nmX5 4 dX5_init_25 w_144 rfl (by decide) f28 rfl rfl rfl rfl rfl rfl (Nat.le_of_ble_eq_true rfl) [.int 0, .int 155, .ref q4, .int 0, .ref q18, .int 0, .null, .int 0, .null, .null, .null, .null] rfl ?_
  obtain ⟨h30, eh30⟩ : ∃ z : tw_H, z = tw_up h25 x (.inr (9, [.int 0, .int 155, .ref q4, .int 0, .ref q18, .int 0, .null, .int 0, .null, .null, .null, .null])) := ⟨_, rfl⟩
  rw [← eh30]
  have sp31 : tw_sp d τ (tw_rm h x) g τ h30 := by rw [eh30]; exact sp26.wl tw_rm_s hz
  have f32 : h30 q4 = some (.inl (d.2 4, 4, .inr (.inr (.inr (.inr (fun _ => none)))))) := by rw [eh30, tw_up_n (Ne.symm ne9)]; exact f27
  have f33 : h30 q18 = some (.inl (d.2 5, 6, .inr (.inr (.inr (.inr (fun _ => none)))))) := by rw [eh30, tw_up_n (Ne.symm ne24)]; exact f29
  have f34 : h30 x = some (.inr (9, [.int 0, .int 155, .ref q4, .int 0, .ref q18, .int 0, .null, .int 0, .null, .null, .null, .null])) := by rw [eh30]; exact tw_up_s
  refine tw_aload_n 0 dX5_init_28 rfl rfl ?_
  refine tw_bipush (v := 10) dX5_init_29 (by decide) ?_
  refine tw_newq (k := 10) (N := 10) 6 rfl (fun _ _ z => z.2.2.2.2.2.2.2.1.2.2.1) dX5_init_31 w_123 (by decide) (by decide) (by decide) 7 20 (Nat.le_of_ble_eq_true rfl) (Nat.le_of_ble_eq_true rfl) (fun q35 hq36 hA37 => ?_)
  have n38 := sp31.nn hq36
  have z39 := sp31.1.none hq36
  have ne40 := tw_neF f32 hq36
  have ne41 := tw_neF f33 hq36
  have ne42 := tw_neF f34 hq36
  obtain ⟨h43, eh43⟩ : ∃ z : tw_H, z = tw_up h30 q35 (.inl (d.2 6, 10, .inr (.inr (.inr (.inr (fun _ => none)))))) := ⟨_, rfl⟩
  rw [← eh43]
  have sp44 : tw_sp d τ (tw_rm h x) g τ h43 := by rw [eh43]; exact sp31.mk hq36
  have f45 : h43 q4 = some (.inl (d.2 4, 4, .inr (.inr (.inr (.inr (fun _ => none)))))) := by rw [eh43, tw_up_n ne40]; exact f32
  have f46 : h43 q18 = some (.inl (d.2 5, 6, .inr (.inr (.inr (.inr (fun _ => none)))))) := by rw [eh43, tw_up_n ne41]; exact f33
  have f47 : h43 x = some (.inr (9, [.int 0, .int 155, .ref q4, .int 0, .ref q18, .int 0, .null, .int 0, .null, .null, .null, .null])) := by rw [eh43, tw_up_n ne42]; exact f34
  have f48 : h43 q35 = some (.inl (d.2 6, 10, .inr (.inr (.inr (.inr (fun _ => none)))))) := by rw [eh43]; exact tw_up_s
  refine tw_putF rfl in_9 tyX5 tyX5_ok nmX5 6 dX5_init_34 w_146 rfl (by decide) f47 rfl rfl rfl rfl rfl rfl (Nat.le_of_ble_eq_true rfl) [.int 0, .int 155, .ref q4, .int 0, .ref q18, .int 0, .ref q35, .int 0, .null, .null, .null, .null] rfl ?_
  obtain ⟨h49, eh49⟩ : ∃ z : tw_H, z = tw_up h43 x (.inr (9, [.int 0, .int 155, .ref q4, .int 0, .ref q18, .int 0, .ref q35, .int 0, .null, .null, .null, .null])) := ⟨_, rfl⟩
  rw [← eh49]
  have sp50 : tw_sp d τ (tw_rm h x) g τ h49 := by rw [eh49]; exact sp44.wl tw_rm_s hz
  have f51 : h49 q4 = some (.inl (d.2 4, 4, .inr (.inr (.inr (.inr (fun _ => none)))))) := by rw [eh49, tw_up_n (Ne.symm ne9)]; exact f45
  have f52 : h49 q18 = some (.inl (d.2 5, 6, .inr (.inr (.inr (.inr (fun _ => none)))))) := by rw [eh49, tw_up_n (Ne.symm ne24)]; exact f46
  have f53 : h49 q35 = some (.inl (d.2 6, 10, .inr (.inr (.inr (.inr (fun _ => none)))))) := by rw [eh49, tw_up_n (Ne.symm ne42)]; exact f48
  have f54 : h49 x = some (.inr (9, [.int 0, .int 155, .ref q4, .int 0, .ref q18, .int 0, .ref q35, .int 0, .null, .null, .null, .null])) := by rw [eh49]; exact tw_up_s
  obtain ⟨g1, eg1⟩ : ∃ z : tw_G, z = (fun k => if k = 0 then 155 else 0, fun k => if k = 10 then x else if k = 18 then q4 else if k = 19 then q18 else if k = 20 then q35 else if k = 24 then 160 else 0) := ⟨_, rfl⟩
  have sp55 : tw_sp d τ (tw_rm h x) g1 τ h49 := sp50.g0 hz0
  obtain ⟨τ56, eτ56⟩ : ∃ z : tw_K, z = tw_ku τ q4 8 := ⟨_, rfl⟩
  have le57 : tw_le τ τ56 := by rw [eτ56]; exact tw_ku_le z8
  have sp58 : tw_sp d τ (tw_rm h x) g1 τ56 h49 := by rw [eτ56]; exact sp55.ty n7 z8 f51 (by rw [← eτ56]; exact ⟨_, rfl, fun _ _ z => (by cases z), fun j _ => ⟨fun _ => (by rw [eg1]; exact Nat.zero_le _), fun _ => rfl⟩, (by rw [eg1]; exact Nat.zero_le _), (by rw [eg1]; rfl), fun _ _ z => (by cases z)⟩)
  have k59 : τ56 q4 = 8 := by rw [eτ56]; exact tw_ku_s
  have z60 : τ56 x = 0 := by rw [eτ56, tw_ku_n ne9]; exact hz
  have z61 : τ56 q18 = 0 := by rw [eτ56, tw_ku_n (Ne.symm ne23)]; exact z22
  have z62 : τ56 q35 = 0 := by rw [eτ56, tw_ku_n (Ne.symm ne40)]; exact z39
  obtain ⟨τ63, eτ63⟩ : ∃ z : tw_K, z = tw_ku τ56 q18 9 := ⟨_, rfl⟩
  have le64 : tw_le τ56 τ63 := by rw [eτ63]; exact tw_ku_le z61
  have k65 : τ63 q4 = 8 := le64.k k59 (by decide)
  have sp66 : tw_sp d τ (tw_rm h x) g1 τ63 h49 := by rw [eτ63]; exact sp58.ty n21 z61 f52 (by rw [← eτ63]; exact ⟨_, rfl, fun _ _ z => (by cases z), fun j _ => ⟨fun _ => (by rw [eg1]; exact Nat.zero_le _), fun _ => rfl⟩, (by rw [eg1]; exact Nat.zero_le _), (by rw [eg1]; rfl)⟩)
  have k67 : τ63 q18 = 9 := by rw [eτ63]; exact tw_ku_s
  have z68 : τ63 x = 0 := by rw [eτ63, tw_ku_n ne24]; exact z60
  have z69 : τ63 q35 = 0 := by rw [eτ63, tw_ku_n (Ne.symm ne41)]; exact z62
  obtain ⟨τ70, eτ70⟩ : ∃ z : tw_K, z = tw_ku τ63 q35 10 := ⟨_, rfl⟩
  have le71 : tw_le τ63 τ70 := by rw [eτ70]; exact tw_ku_le z69
  have k72 : τ70 q4 = 8 := le71.k k65 (by decide)
  have k73 : τ70 q18 = 9 := le71.k k67 (by decide)
  have sp74 : tw_sp d τ (tw_rm h x) g1 τ70 h49 := by rw [eτ70]; exact sp66.ty n38 z69 f53 (by rw [← eτ70]; exact ⟨_, rfl, fun _ _ z => (by cases z), fun j _ => ⟨fun _ => (by rw [eg1]; exact Nat.zero_le _), fun _ => rfl⟩, (by rw [eg1]; exact Nat.zero_le _), (by rw [eg1]; rfl)⟩)
  have k75 : τ70 q35 = 10 := by rw [eτ70]; exact tw_ku_s
  have z76 : τ70 x = 0 := by rw [eτ70, tw_ku_n ne42]; exact z68
  refine tw_aload_n 0 dX5_init_37 rfl rfl ?_
  refine tw_new (ci := 7) rfl in_7 tyX3 tyX3_ok dX5_init_38 w_125 w_126 w_78 (fs := [.int 0, .int 0]) (fun j hj => by rcases (show j = 0 ∨ j = 1 by omega) with rfl | rfl <;> rfl) 6 18 (Nat.le_of_ble_eq_true rfl) (Nat.le_of_ble_eq_true rfl) (fun q77 hq78 hA79 => ?_)
  have n80 := sp74.nn hq78
  have z81 := sp74.1.none hq78
  have ne82 := tw_neF f54 hq78
  obtain ⟨h83, eh83⟩ : ∃ z : tw_H, z = tw_up h49 q77 (.inr (7, [.int 0, .int 0])) := ⟨_, rfl⟩
  rw [← eh83]
  have sp84 : tw_sp d τ (tw_rm h x) g1 τ70 h83 := by rw [eh83]; exact sp74.mk hq78
  have f85 : h83 x = some (.inr (9, [.int 0, .int 155, .ref q4, .int 0, .ref q18, .int 0, .ref q35, .int 0, .null, .null, .null, .null])) := by rw [eh83, tw_up_n ne82]; exact f54
  have f86 : h83 q77 = some (.inr (7, [.int 0, .int 0])) := by rw [eh83]; exact tw_up_s
  refine tw_dup dX5_init_41 rfl ?_
  refine tw_iconst (v := 0) dX5_init_42 (by decide) ?_
  refine tw_iconst (v := 0) dX5_init_43 (by decide) ?_
  refine tw_bv (tw_callIN (M := mX5_init) (pc := 44) okX3_init dX5_init_44 w_127 rfl [.int 0, .int 0] [.ref q77, .ref x] rfl rfl ⟨by decide, by decide⟩ (Nat.le_of_ble_eq_true rfl) (c_X3_init d g1 τ70 h83 sp84.1 q77 z81 f86 0 0) 6 18 (Nat.le_of_ble_eq_true rfl) (Nat.le_of_ble_eq_true rfl)) (fun h88 q87 => ?_) (fun E h1 q => q.elim)
  obtain ⟨τ89, qi90⟩ := q87
  have sp91 := sp84.ini n80 qi90
  have k92 : τ89 q4 = 8 := qi90.2.1.k k72 (by decide)
  have k93 : τ89 q18 = 9 := qi90.2.1.k k73 (by decide)
  have k94 : τ89 q35 = 10 := qi90.2.1.k k75 (by decide)
  have k95 : τ89 q77 = 1 := qi90.2.2.1
  have f96 := (qi90.2.2.2 _ _ ne82 f85 z76).1
  have z97 := (qi90.2.2.2 _ _ ne82 f85 z76).2
  refine tw_putF rfl in_9 tyX5 tyX5_ok nmX5 8 dX5_init_47 w_148 rfl (by decide) f96 rfl rfl rfl rfl rfl rfl (Nat.le_of_ble_eq_true rfl) [.int 0, .int 155, .ref q4, .int 0, .ref q18, .int 0, .ref q35, .int 0, .ref q77, .null, .null, .null] rfl ?_
  obtain ⟨h98, eh98⟩ : ∃ z : tw_H, z = tw_up h88 x (.inr (9, [.int 0, .int 155, .ref q4, .int 0, .ref q18, .int 0, .ref q35, .int 0, .ref q77, .null, .null, .null])) := ⟨_, rfl⟩
  rw [← eh98]
  have sp99 : tw_sp d τ (tw_rm h x) g1 τ89 h98 := by rw [eh98]; exact sp91.wl tw_rm_s z97
  have f100 : h98 x = some (.inr (9, [.int 0, .int 155, .ref q4, .int 0, .ref q18, .int 0, .ref q35, .int 0, .ref q77, .null, .null, .null])) := by rw [eh98]; exact tw_up_s
  refine tw_aload_n 0 dX5_init_50 rfl rfl ?_
  refine tw_new (ci := 7) rfl in_7 tyX3 tyX3_ok dX5_init_51 w_125 w_126 w_78 (fs := [.int 0, .int 0]) (fun j hj => by rcases (show j = 0 ∨ j = 1 by omega) with rfl | rfl <;> rfl) 5 16 (Nat.le_of_ble_eq_true rfl) (Nat.le_of_ble_eq_true rfl) (fun q101 hq102 hA103 => ?_)
  have n104 := sp99.nn hq102
  have z105 := sp99.1.none hq102
  have ne106 := tw_neF f100 hq102
  obtain ⟨h107, eh107⟩ : ∃ z : tw_H, z = tw_up h98 q101 (.inr (7, [.int 0, .int 0])) := ⟨_, rfl⟩
  rw [← eh107]
  have sp108 : tw_sp d τ (tw_rm h x) g1 τ89 h107 := by rw [eh107]; exact sp99.mk hq102
  have f109 : h107 x = some (.inr (9, [.int 0, .int 155, .ref q4, .int 0, .ref q18, .int 0, .ref q35, .int 0, .ref q77, .null, .null, .null])) := by rw [eh107, tw_up_n ne106]; exact f100
  have f110 : h107 q101 = some (.inr (7, [.int 0, .int 0])) := by rw [eh107]; exact tw_up_s
  refine tw_dup dX5_init_54 rfl ?_
  refine tw_iconst (v := 0) dX5_init_55 (by decide) ?_
  refine tw_iconst (v := 0) dX5_init_56 (by decide) ?_
  refine tw_bv (tw_callIN (M := mX5_init) (pc := 57) okX3_init dX5_init_57 w_127 rfl [.int 0, .int 0] [.ref q101, .ref x] rfl rfl ⟨by decide, by decide⟩ (Nat.le_of_ble_eq_true rfl) (c_X3_init d g1 τ89 h107 sp108.1 q101 z105 f110 0 0) 5 16 (Nat.le_of_ble_eq_true rfl) (Nat.le_of_ble_eq_true rfl)) (fun h112 q111 => ?_) (fun E h1 q => q.elim)
  obtain ⟨τ113, qi114⟩ := q111
  have sp115 := sp108.ini n104 qi114
  have k116 : τ113 q4 = 8 := qi114.2.1.k k92 (by decide)
  have k117 : τ113 q18 = 9 := qi114.2.1.k k93 (by decide)
  have k118 : τ113 q35 = 10 := qi114.2.1.k k94 (by decide)
  have k119 : τ113 q77 = 1 := qi114.2.1.k k95 (by decide)
  have k120 : τ113 q101 = 1 := qi114.2.2.1
  have f121 := (qi114.2.2.2 _ _ ne106 f109 z97).1
  have z122 := (qi114.2.2.2 _ _ ne106 f109 z97).2
  refine tw_putF rfl in_9 tyX5 tyX5_ok nmX5 9 dX5_init_60 w_149 rfl (by decide) f121 rfl rfl rfl rfl rfl rfl (Nat.le_of_ble_eq_true rfl) [.int 0, .int 155, .ref q4, .int 0, .ref q18, .int 0, .ref q35, .int 0, .ref q77, .ref q101, .null, .null] rfl ?_
  obtain ⟨h123, eh123⟩ : ∃ z : tw_H, z = tw_up h112 x (.inr (9, [.int 0, .int 155, .ref q4, .int 0, .ref q18, .int 0, .ref q35, .int 0, .ref q77, .ref q101, .null, .null])) := ⟨_, rfl⟩
  rw [← eh123]
  have sp124 : tw_sp d τ (tw_rm h x) g1 τ113 h123 := by rw [eh123]; exact sp115.wl tw_rm_s z122
  have f125 : h123 x = some (.inr (9, [.int 0, .int 155, .ref q4, .int 0, .ref q18, .int 0, .ref q35, .int 0, .ref q77, .ref q101, .null, .null])) := by rw [eh123]; exact tw_up_s
  refine tw_aload_n 0 dX5_init_63 rfl rfl ?_
  refine tw_new (ci := 7) rfl in_7 tyX3 tyX3_ok dX5_init_64 w_125 w_126 w_78 (fs := [.int 0, .int 0]) (fun j hj => by rcases (show j = 0 ∨ j = 1 by omega) with rfl | rfl <;> rfl) 4 14 (Nat.le_of_ble_eq_true rfl) (Nat.le_of_ble_eq_true rfl) (fun q126 hq127 hA128 => ?_)
  have n129 := sp124.nn hq127
  have z130 := sp124.1.none hq127
  have ne131 := tw_neF f125 hq127
  obtain ⟨h132, eh132⟩ : ∃ z : tw_H, z = tw_up h123 q126 (.inr (7, [.int 0, .int 0])) := ⟨_, rfl⟩
  rw [← eh132]
  have sp133 : tw_sp d τ (tw_rm h x) g1 τ113 h132 := by rw [eh132]; exact sp124.mk hq127
  have f134 : h132 x = some (.inr (9, [.int 0, .int 155, .ref q4, .int 0, .ref q18, .int 0, .ref q35, .int 0, .ref q77, .ref q101, .null, .null])) := by rw [eh132, tw_up_n ne131]; exact f125
  have f135 : h132 q126 = some (.inr (7, [.int 0, .int 0])) := by rw [eh132]; exact tw_up_s
  refine tw_dup dX5_init_67 rfl ?_
  refine tw_iconst (v := 0) dX5_init_68 (by decide) ?_
  refine tw_iconst (v := 0) dX5_init_69 (by decide) ?_
  refine tw_bv (tw_callIN (M := mX5_init) (pc := 70) okX3_init dX5_init_70 w_127 rfl [.int 0, .int 0] [.ref q126, .ref x] rfl rfl ⟨by decide, by decide⟩ (Nat.le_of_ble_eq_true rfl) (c_X3_init d g1 τ113 h132 sp133.1 q126 z130 f135 0 0) 4 14 (Nat.le_of_ble_eq_true rfl) (Nat.le_of_ble_eq_true rfl)) (fun h137 q136 => ?_) (fun E h1 q => q.elim)
  obtain ⟨τ138, qi139⟩ := q136
  have sp140 := sp133.ini n129 qi139
  have k141 : τ138 q4 = 8 := qi139.2.1.k k116 (by decide)
  have k142 : τ138 q18 = 9 := qi139.2.1.k k117 (by decide)
  have k143 : τ138 q35 = 10 := qi139.2.1.k k118 (by decide)
  have k144 : τ138 q77 = 1 := qi139.2.1.k k119 (by decide)
  have k145 : τ138 q101 = 1 := qi139.2.1.k k120 (by decide)
  have k146 : τ138 q126 = 1 := qi139.2.2.1
  have f147 := (qi139.2.2.2 _ _ ne131 f134 z122).1
  have z148 := (qi139.2.2.2 _ _ ne131 f134 z122).2
  refine tw_putF rfl in_9 tyX5 tyX5_ok nmX5 10 dX5_init_73 w_150 rfl (by decide) f147 rfl rfl rfl rfl rfl rfl (Nat.le_of_ble_eq_true rfl) [.int 0, .int 155, .ref q4, .int 0, .ref q18, .int 0, .ref q35, .int 0, .ref q77, .ref q101, .ref q126, .null] rfl ?_
  obtain ⟨h149, eh149⟩ : ∃ z : tw_H, z = tw_up h137 x (.inr (9, [.int 0, .int 155, .ref q4, .int 0, .ref q18, .int 0, .ref q35, .int 0, .ref q77, .ref q101, .ref q126, .null])) := ⟨_, rfl⟩
  rw [← eh149]
  have sp150 : tw_sp d τ (tw_rm h x) g1 τ138 h149 := by rw [eh149]; exact sp140.wl tw_rm_s z148
  have f151 : h149 x = some (.inr (9, [.int 0, .int 155, .ref q4, .int 0, .ref q18, .int 0, .ref q35, .int 0, .ref q77, .ref q101, .ref q126, .null])) := by rw [eh149]; exact tw_up_s
  refine tw_aload_n 0 dX5_init_76 rfl rfl ?_
  refine tw_new (ci := 7) rfl in_7 tyX3 tyX3_ok dX5_init_77 w_125 w_126 w_78 (fs := [.int 0, .int 0]) (fun j hj => by rcases (show j = 0 ∨ j = 1 by omega) with rfl | rfl <;> rfl) 3 12 (Nat.le_of_ble_eq_true rfl) (Nat.le_of_ble_eq_true rfl) (fun q152 hq153 hA154 => ?_)
  have n155 := sp150.nn hq153
  have z156 := sp150.1.none hq153
  have ne157 := tw_neF f151 hq153
  obtain ⟨h158, eh158⟩ : ∃ z : tw_H, z = tw_up h149 q152 (.inr (7, [.int 0, .int 0])) := ⟨_, rfl⟩
  rw [← eh158]
  have sp159 : tw_sp d τ (tw_rm h x) g1 τ138 h158 := by rw [eh158]; exact sp150.mk hq153
  have f160 : h158 x = some (.inr (9, [.int 0, .int 155, .ref q4, .int 0, .ref q18, .int 0, .ref q35, .int 0, .ref q77, .ref q101, .ref q126, .null])) := by rw [eh158, tw_up_n ne157]; exact f151
  have f161 : h158 q152 = some (.inr (7, [.int 0, .int 0])) := by rw [eh158]; exact tw_up_s
  refine tw_dup dX5_init_80 rfl ?_
  refine tw_iconst (v := 0) dX5_init_81 (by decide) ?_
  refine tw_iconst (v := 0) dX5_init_82 (by decide) ?_
  refine tw_bv (tw_callIN (M := mX5_init) (pc := 83) okX3_init dX5_init_83 w_127 rfl [.int 0, .int 0] [.ref q152, .ref x] rfl rfl ⟨by decide, by decide⟩ (Nat.le_of_ble_eq_true rfl) (c_X3_init d g1 τ138 h158 sp159.1 q152 z156 f161 0 0) 3 12 (Nat.le_of_ble_eq_true rfl) (Nat.le_of_ble_eq_true rfl)) (fun h163 q162 => ?_) (fun E h1 q => q.elim)
  obtain ⟨τ164, qi165⟩ := q162
  have sp166 := sp159.ini n155 qi165
  have k167 : τ164 q4 = 8 := qi165.2.1.k k141 (by decide)
  have k168 : τ164 q18 = 9 := qi165.2.1.k k142 (by decide)
  have k169 : τ164 q35 = 10 := qi165.2.1.k k143 (by decide)
  have k170 : τ164 q77 = 1 := qi165.2.1.k k144 (by decide)
  have k171 : τ164 q101 = 1 := qi165.2.1.k k145 (by decide)
  have k172 : τ164 q126 = 1 := qi165.2.1.k k146 (by decide)
  have k173 : τ164 q152 = 1 := qi165.2.2.1
  have f174 := (qi165.2.2.2 _ _ ne157 f160 z148).1
  have z175 := (qi165.2.2.2 _ _ ne157 f160 z148).2
  refine tw_putF rfl in_9 tyX5 tyX5_ok nmX5 11 dX5_init_86 w_151 rfl (by decide) f174 rfl rfl rfl rfl rfl rfl (Nat.le_of_ble_eq_true rfl) [.int 0, .int 155, .ref q4, .int 0, .ref q18, .int 0, .ref q35, .int 0, .ref q77, .ref q101, .ref q126, .ref q152] rfl ?_
  obtain ⟨h176, eh176⟩ : ∃ z : tw_H, z = tw_up h163 x (.inr (9, [.int 0, .int 155, .ref q4, .int 0, .ref q18, .int 0, .ref q35, .int 0, .ref q77, .ref q101, .ref q126, .ref q152])) := ⟨_, rfl⟩
  rw [← eh176]
  have sp177 : tw_sp d τ (tw_rm h x) g1 τ164 h176 := by rw [eh176]; exact sp166.wl tw_rm_s z175
  have f178 : h176 x = some (.inr (9, [.int 0, .int 155, .ref q4, .int 0, .ref q18, .int 0, .ref q35, .int 0, .ref q77, .ref q101, .ref q126, .ref q152])) := by rw [eh176]; exact tw_up_s
  obtain ⟨τ179, eτ179⟩ : ∃ z : tw_K, z = tw_ku τ164 x 11 := ⟨_, rfl⟩
  have le180 : tw_le τ164 τ179 := by rw [eτ179]; exact tw_ku_le z175
  have k181 : τ179 q4 = 8 := le180.k k167 (by decide)
  have k182 : τ179 q18 = 9 := le180.k k168 (by decide)
  have k183 : τ179 q35 = 10 := le180.k k169 (by decide)
  have k184 : τ179 q77 = 1 := le180.k k170 (by decide)
  have k185 : τ179 q101 = 1 := le180.k k171 (by decide)
  have k186 : τ179 q126 = 1 := le180.k k172 (by decide)
  have k187 : τ179 q152 = 1 := le180.k k173 (by decide)
  have sp188 : tw_sp d τ (tw_rm h x) g1 τ179 h176 := by rw [eτ179]; exact sp177.ty tw_rm_s z175 f178 (by rw [← eτ179]; exact ⟨0, q4, q18, q35, q77, q101, q126, q152, (by rw [eg1]; rfl), k181, k182, k183, k184, k185, k186, k187, (by rw [eg1]; exact Nat.zero_le _), (by rw [eg1]; exact Nat.zero_le _), (by rw [eg1]; exact Nat.zero_le _), (by rw [eg1]; rfl), (by rw [eg1]; rfl), (by rw [eg1]; exact Nat.zero_le _)⟩)
  have k189 : τ179 x = 11 := by rw [eτ179]; exact tw_ku_s
  exact tw_vret dX5_init_89 rfl (Or.inl ⟨rfl, g1, _, ⟨by rw [eg1]; rfl, fun i hi => by rw [eg1]; dsimp only; repeat rw [if_neg (by omega)], (by rw [eg1]; rfl), (by rw [eg1]; rfl)⟩, sp188.toini k189⟩)

def tw_RP (dy : Int32) : Prop := 1 ≤ dy ∧ dy ≤ 400
def tw_DN (dy : Int32) : Nat := dy.toNatClampNeg
theorem tw_g2_id {g : tw_G} {i : Nat} : tw_g2 g i (g.2 i + 0) = g := by
  refine Prod.ext rfl (funext fun j => ?_)
  show (if j = i then g.2 i + 0 else g.2 j) = g.2 j
  by_cases q : j = i
  · rw [if_pos q, q]
    rfl
  · rw [if_neg q]
theorem tw_g2_g2 {g : tw_G} {i a b : Nat} : tw_g2 (tw_g2 g i a) i b = tw_g2 g i b := by
  refine Prod.ext rfl (funext fun j => ?_)
  show (if j = i then b else if j = i then a else g.2 j) = if j = i then b else g.2 j
  by_cases q : j = i
  · rw [if_pos q, if_pos q]
  · rw [if_neg q, if_neg q, if_neg q]
theorem tw_g2_1 {g : tw_G} {i k : Nat} : tw_g2 (tw_g2 g i (g.2 i + k)) i ((tw_g2 g i (g.2 i + k)).2 i + 1) = tw_g2 g i (g.2 i + (k + 1)) := by
  rw [tw_g2_g2]
  show tw_g2 g i ((if i = i then g.2 i + k else g.2 i) + 1) = _
  rw [if_pos rfl, Nat.add_assoc]
theorem tw_pD {dy : Int32} (h : tw_RP dy) : ∃ D, 1 ≤ D ∧ D ≤ 400 ∧ dy = nI D := by
  obtain ⟨h1, h2⟩ := h
  obtain ⟨D, hD, e⟩ := nI_of (Int32.not_lt.mpr (Int32.le_trans (by decide) h1))
  refine ⟨D, ?_, ?_, e⟩
  · rw [e] at h1
    rw [Int32.le_iff_toInt_le, nI_toInt hD, show (1 : Int32).toInt = 1 by decide] at h1
    omega
  · rw [e] at h2
    rw [Int32.le_iff_toInt_le, nI_toInt hD, show (400 : Int32).toInt = 400 by decide] at h2
    omega
theorem tw_dle {T D : Nat} {t v : Int32} (et : t = nI T) (e : v = 3000 - nI D) (hT : T ≤ 3000) (hD : D ≤ 400) : t ≤ v ↔ T + D ≤ 3000 := by
  rw [et, e, Int32.le_iff_toInt_le, Int32.toInt_sub, nI_toInt (by omega), nI_toInt (by omega), show (3000 : Int32).toInt = 3000 by decide]
  have b : ((3000 : Int) - D).bmod (2 ^ 32) = 3000 - (D : Int) := by apply Int.bmod_eq_of_le_mul_two <;> omega
  rw [b]
  omega
theorem tw_dle2 {T D : Nat} {t v : Int32} (et : t = nI T) (e : v = t + nI D) (hT : T ≤ 3000) (hD : D ≤ 400) : v ≤ 3000 ↔ T + D ≤ 3000 := by
  rw [e, et, Int32.le_iff_toInt_le, Int32.toInt_add, nI_toInt (by omega), nI_toInt (by omega), show (3000 : Int32).toInt = 3000 by decide]
  have b : ((T : Int) + D).bmod (2 ^ 32) = (T : Int) + D := by apply Int.bmod_eq_of_le_mul_two <;> omega
  rw [b]
  omega
set_option maxHeartbeats 4000000 in
set_option maxRecDepth 100000 in
theorem c2_X5_beginDay (d : tw_D) (g : tw_G) (τ : tw_K) (h : tw_H) (hw : tw_wt d g τ h) (x : Nat) (kx : τ x = 11) (hT : g.2 21 < 3000) : tw_Ct d mX5_beginDay 0 0 [.ref x] h (tw_qv (fun h1 => ∃ τ1, tw_sp d τ h (tw_g2 g 21 (g.2 21 + 1)) τ1 h1) tw_nx) := by
  refine tw_of (by decide +kernel) (Nat.le_of_ble_eq_true rfl) ?_
  show tw_W d mX5_beginDay _ 0 [(0, .ref x)] [] h 0 0
  have sp0 := tw_sp.rf hw
  refine tw_aload_n 0 dX5_beginDay_0 rfl rfl ?_
  refine tw_dup dX5_beginDay_1 rfl ?_
  obtain ⟨e1, f2, td_3, ca_4, ha_5, da_6, c1_7, c2_8, c3_9, c4_10, rfl, k11, k12, k13, k14, k15, k16, k17, k18, k19, k20, k21, k22, k23⟩ := sp0.1 x 11 kx (by decide)
  refine tw_get (v := .int td_3) rfl in_9 0 dX5_beginDay_2 w_140 rfl (by decide) f2 rfl ?_
  refine tw_iconst (v := 1) dX5_beginDay_5 (by decide) ?_
  refine tw_iadd dX5_beginDay_6 ?_
  refine tw_nmi (fun v24 ev24 => ?_)
  obtain ⟨gB, egB⟩ : ∃ z : tw_G, z = tw_g2 g 21 (g.2 21 + 1) := ⟨_, rfl⟩
  have q25 : v24 = nI (gB.2 21) := by rw [ev24, k22, nI_1, egB]; rfl
  subst q25
  refine tw_put rfl in_9 tyX5 tyX5_ok nmX5 0 dX5_beginDay_7 w_140 rfl (by decide) f2 rfl rfl rfl rfl (Nat.le_of_ble_eq_true rfl) [.int (nI (gB.2 21)), .int (g.1 0), .ref ca_4, .int (nI (g.2 0)), .ref ha_5, .int (nI (g.2 1)), .ref da_6, .int (nI (g.2 2)), .ref c1_7, .ref c2_8, .ref c3_9, .ref c4_10] rfl ?_
  obtain ⟨h26, eh26⟩ : ∃ z : tw_H, z = tw_up h x (.inr (9, [.int (nI (gB.2 21)), .int (g.1 0), .ref ca_4, .int (nI (g.2 0)), .ref ha_5, .int (nI (g.2 1)), .ref da_6, .int (nI (g.2 2)), .ref c1_7, .ref c2_8, .ref c3_9, .ref c4_10])) := ⟨_, rfl⟩
  rw [← eh26]
  have sp27 : tw_sp d τ h gB τ h26 := by rw [eh26]; exact sp0.g11 kx ⟨(nI (gB.2 21)), ca_4, ha_5, da_6, c1_7, c2_8, c3_9, c4_10, (by rw [egB]; rfl), k11, k12, k13, k14, k15, k16, k17, (by rw [egB]; exact k18), (by rw [egB]; exact k19), (by rw [egB]; exact k20), (by rw [egB]; exact k21), rfl, (by rw [egB]; exact (show g.2 21 + 1 ≤ 3000 by omega))⟩ (by rw [egB]; intro i hi; rfl) (by rw [egB]; intro i hi hj; exact if_neg (by omega))
  refine tw_aload_n 0 dX5_beginDay_10 rfl rfl ?_
  obtain ⟨e28, f29, td_30, ca_31, ha_32, da_33, c1_34, c2_35, c3_36, c4_37, rfl, k38, k39, k40, k41, k42, k43, k44, k45, k46, k47, k48, k49, k50⟩ := sp27.1 x 11 kx (by decide)
  refine tw_get (v := .ref ha_32) rfl in_9 4 dX5_beginDay_11 w_144 rfl (by decide) f29 rfl ?_
  refine tw_astore_n [(1, .ref ha_32), (0, .ref x)] dX5_beginDay_14 rfl (by decide) rfl ?_
  refine tw_aload_n 0 dX5_beginDay_15 rfl rfl ?_
  obtain ⟨e51, f52, F53, rfl, k54, pn55, pb56, px57⟩ := sp27.1 ha_32 9 k39 (by decide)
  refine tw_alen (v := nI 6) 5 rfl dX5_beginDay_16 f52 rfl ?_
  refine tw_istore_n [(2, .int (nI 6)), (1, .ref ha_32), (0, .ref x)] dX5_beginDay_17 rfl (by decide) rfl ?_
  refine tw_iconst (v := 0) dX5_beginDay_18 (by decide) ?_
  refine tw_istore_n [(3, .int 0), (2, .int (nI 6)), (1, .ref ha_32), (0, .ref x)] dX5_beginDay_19 rfl (by decide) rfl ?_
  have L61 : ∀ (r59 k58 : Nat) (τ62 : tw_K) (h63 : tw_H) (sp64 : tw_sp d τ h26 gB τ62 h63), 6 + 1 ≤ k58 + r59 → k58 ≤ 6 → tw_W d mX5_beginDay (tw_qv (fun h1 => ∃ τ1, tw_sp d τ h (tw_g2 g 21 (g.2 21 + 1)) τ1 h1) tw_nx) 20 [(0, .ref x), (1, .ref ha_32), (2, .int (nI 6)), (3, .int (nI k58))] [] h63 0 0 := by
    intro r59
    induction r59 with
    | zero => intro k58 τ62 h63 sp64 hk66 hk67; exact absurd hk66 (by omega)
    | succ r59 ih60 =>
      intro k58 τ62 h63 sp64 hk66 hk67
      refine tw_iload_n 3 dX5_beginDay_20 rfl rfl ?_
      refine tw_iload_n 2 dX5_beginDay_21 rfl rfl ?_
      refine tw_icmp_ge 50 dX5_beginDay_22 (by decide) (fun c68 => ?_) (fun c68 => ?_)
      · refine tw_aload_n 0 dX5_beginDay_50 rfl rfl ?_
        obtain ⟨e69, f70, td_71, ca_72, ha_73, da_74, c1_75, c2_76, c3_77, c4_78, rfl, k79, k80, k81, k82, k83, k84, k85, k86, k87, k88, k89, k90, k91⟩ := sp64.1 x 11 (sp64.2.1.k kx (by decide)) (by decide)
        refine tw_get (v := .int td_71) rfl in_9 0 dX5_beginDay_51 w_140 rfl (by decide) f70 rfl ?_
        refine tw_bi (tw_callS (M := mX5_beginDay) (pc := 54) okX5_isWearDay dX5_beginDay_54 w_325 [.int td_71] [] rfl rfl ⟨by decide, by decide⟩ (Nat.le_of_ble_eq_true rfl) (c_X5_isWearDay d gB τ62 h63 sp64.1 td_71) 0 0 (Nat.le_of_ble_eq_true rfl) (Nat.le_of_ble_eq_true rfl)) (fun r94 h93 q92 => ?_) (fun E h1 q => q.elim)
        obtain ⟨q92e, p95⟩ := q92
        rw [q92e]
        refine tw_if_eq 64 dX5_beginDay_57 (by decide) (fun c96 => ?_) (fun c96 => ?_)
        · exact tw_vret dX5_beginDay_64 rfl (Or.inl ⟨rfl, _, by rw [← egB]; exact (sp27.tr sp64)⟩)
        · refine tw_aload_n 0 dX5_beginDay_60 rfl rfl ?_
          refine tw_bv (tw_callV (M := mX5_beginDay) (pc := 61) okX5_wearVaults dX5_beginDay_61 w_703 rfl f70 [] [] rfl rfl ⟨by decide, by decide⟩ (Nat.le_of_ble_eq_true rfl) (c_X5_wearVaults d gB τ62 h63 sp64.1 x (sp64.2.1.k kx (by decide))) 0 0 (Nat.le_of_ble_eq_true rfl) (Nat.le_of_ble_eq_true rfl)) (fun h98 q97 => ?_) (fun E h1 q => q.elim)
          obtain ⟨τ102, q97s⟩ := q97
          have sp100 := sp64.tr q97s
          have k103 := q97s.2.1.k (sp64.2.1.k kx (by decide)) (by decide)
          have k104 := q97s.2.1.k (sp64.2.1.k k11 (by decide)) (by decide)
          have k105 := q97s.2.1.k (sp64.2.1.k k12 (by decide)) (by decide)
          have k106 := q97s.2.1.k (sp64.2.1.k k13 (by decide)) (by decide)
          have k107 := q97s.2.1.k (sp64.2.1.k k14 (by decide)) (by decide)
          have k108 := q97s.2.1.k (sp64.2.1.k k15 (by decide)) (by decide)
          have k109 := q97s.2.1.k (sp64.2.1.k k16 (by decide)) (by decide)
          have k110 := q97s.2.1.k (sp64.2.1.k k17 (by decide)) (by decide)
          have k111 := q97s.2.1.k (sp64.2.1.k k38 (by decide)) (by decide)
          have k112 := q97s.2.1.k (sp64.2.1.k k39 (by decide)) (by decide)
          have k113 := q97s.2.1.k (sp64.2.1.k k40 (by decide)) (by decide)
          have k114 := q97s.2.1.k (sp64.2.1.k k41 (by decide)) (by decide)
          have k115 := q97s.2.1.k (sp64.2.1.k k42 (by decide)) (by decide)
          have k116 := q97s.2.1.k (sp64.2.1.k k43 (by decide)) (by decide)
          have k117 := q97s.2.1.k (sp64.2.1.k k44 (by decide)) (by decide)
          have k118 := q97s.2.1.k k79 (by decide)
          have k119 := q97s.2.1.k k80 (by decide)
          have k120 := q97s.2.1.k k81 (by decide)
          have k121 := q97s.2.1.k k82 (by decide)
          have k122 := q97s.2.1.k k83 (by decide)
          have k123 := q97s.2.1.k k84 (by decide)
          have k124 := q97s.2.1.k k85 (by decide)
          exact tw_vret dX5_beginDay_64 rfl (Or.inl ⟨rfl, _, by rw [← egB]; exact (sp27.tr sp100)⟩)
      · have kl125 := tw_klt (N := 6) c68 hk67 (by decide)
        refine tw_aload_n 1 dX5_beginDay_25 rfl rfl ?_
        refine tw_iload_n 3 dX5_beginDay_26 rfl rfl ?_
        obtain ⟨e126, f127, F128, rfl, k129, pn130, pb131, px132⟩ := sp64.1 ha_32 9 (sp64.2.1.k k39 (by decide)) (by decide)
        cases k133 : F128 ((nI k58)).toNatClampNeg with
        | none =>
          refine tw_aald (v := .null) 5 rfl rfl dX5_beginDay_27 f127 (vp_in_nI (by omega) (by decide)) (by rw [k133]; rfl) ?_
          refine tw_astoreN [(4, .null), (0, .ref x), (1, .ref ha_32), (2, .int (nI 6)), (3, .int (nI k58))] dX5_beginDay_28 (by decide) rfl ?_
          refine tw_aloadN 0 dX5_beginDay_30 rfl ?_
          refine tw_ifnullN 44 dX5_beginDay_32 (by decide) ?_
          obtain ⟨v135, ev135⟩ : ∃ y : Int32, y = (nI k58) + 1 := ⟨_, rfl⟩
          refine tw_iinc [(3, .int v135), (4, .null), (0, .ref x), (1, .ref ha_32), (2, .int (nI 6))] 4 dX5_beginDay_44 rfl (by rw [ev135]; rfl) (by decide) rfl ?_
          refine tw_goto 20 dX5_beginDay_47 (by decide) ?_
          have qv135 := tw_nI3 ev135
          rw [qv135]
          refine tw_lv [2, 3, 4, 0] rfl ?_
          exact ih60 (k58 + 1)  _ _ sp64 (by omega) (by omega)
        | some q134 =>
          have k136 := k129 _ _ k133
          refine tw_aald (v := .ref q134) 5 rfl rfl dX5_beginDay_27 f127 (vp_in_nI (by omega) (by decide)) (by rw [k133]; rfl) ?_
          refine tw_astore [(4, .ref q134), (0, .ref x), (1, .ref ha_32), (2, .int (nI 6)), (3, .int (nI k58))] dX5_beginDay_28 (by decide) rfl ?_
          refine tw_aload 0 dX5_beginDay_30 rfl ?_
          refine tw_ifnull dX5_beginDay_32 ?_
          refine tw_aload 0 dX5_beginDay_35 rfl ?_
          refine tw_aload_n 1 dX5_beginDay_37 rfl rfl ?_
          obtain ⟨e137, f138, td_139, ca_140, ha_141, da_142, c1_143, c2_144, c3_145, c4_146, rfl, k147, k148, k149, k150, k151, k152, k153, k154, k155, k156, k157, k158, k159⟩ := sp64.1 x 11 (sp64.2.1.k kx (by decide)) (by decide)
          refine tw_get (v := .int td_139) rfl in_9 0 dX5_beginDay_38 w_140 rfl (by decide) f138 rfl ?_
          obtain ⟨e160, f161, n_162, ar_163, p_164, pl_165, go_166, rfl, k167, k168, k169⟩ := sp64.1 q134 3 k136 (by decide)
          refine tw_bv (tw_callVN (M := mX5_beginDay) (pc := 41) okX2_arriveBy dX5_beginDay_41 w_699 rfl f161 [.int td_139] [] rfl rfl ⟨by decide, by decide⟩ (Nat.le_of_ble_eq_true rfl) (c_X2_arriveBy d gB τ62 h63 sp64.1 q134 k136 td_139) 0 0 (Nat.le_of_ble_eq_true rfl) (Nat.le_of_ble_eq_true rfl)) (fun h171 q170 => ?_) (fun E h1 q => q.elim)
          have q170s := q170
          have sp173 := sp64.tr q170s
          obtain ⟨v175, ev175⟩ : ∃ y : Int32, y = (nI k58) + 1 := ⟨_, rfl⟩
          refine tw_iinc [(3, .int v175), (4, .ref q134), (0, .ref x), (1, .ref ha_32), (2, .int (nI 6))] 4 dX5_beginDay_44 rfl (by rw [ev175]; rfl) (by decide) rfl ?_
          refine tw_goto 20 dX5_beginDay_47 (by decide) ?_
          have qv175 := tw_nI3 ev175
          rw [qv175]
          refine tw_lv [2, 3, 4, 0] rfl ?_
          exact ih60 (k58 + 1)  _ _ sp173 (by omega) (by omega)
  refine tw_lv [3, 2, 1, 0] rfl ?_
  exact L61 (6 + 1) 0  _ _ (tw_sp.rf sp27.1) (by omega) (by omega)

theorem tw_kge {k N : Nat} (c : nI N ≤ nI k) (h : k < 2 ^ 31 ∧ N < 2 ^ 31) : N ≤ k := by
  rw [Int32.le_iff_toInt_le, nI_toInt h.2, nI_toInt h.1] at c
  omega
set_option maxHeartbeats 4000000 in
set_option maxRecDepth 100000 in
theorem c2_X5_pass (d : tw_D) (g : tw_G) (τ : tw_K) (h : tw_H) (hw : tw_wt d g τ h) (x : Nat) (kx : τ x = 11) (dy : Int32) : tw_Ct d mX5_pass 20 120 [.ref x, .int dy] h (tw_qi (fun r9 h1 => r9 = nI (g.2 21 + tw_DN dy) ∧ tw_RP dy ∧ g.2 21 + tw_DN dy ≤ 3000 ∧ ∃ τ1, tw_sp d τ h (tw_g2 g 21 (g.2 21 + tw_DN dy)) τ1 h1) (fun E h1 => (E = tw_IAE ∧ ¬ tw_RP dy ∨ E = tw_ISE ∧ tw_RP dy ∧ ¬ g.2 21 + tw_DN dy ≤ 3000) ∧ ∃ τ1, tw_sp d τ h g τ1 h1)) := by
  refine tw_of (by decide +kernel) (Nat.le_of_ble_eq_true rfl) ?_
  show tw_W d mX5_pass _ 0 [(0, .ref x), (1, .int dy)] [] h 20 120
  have sp0 := tw_sp.rf hw
  refine tw_iload_n 1 dX5_pass_0 rfl rfl ?_
  refine tw_iconst (v := 1) dX5_pass_1 (by decide) ?_
  refine tw_sipush (v := 400) dX5_pass_2 (by decide) ?_
  refine tw_bv (tw_callS (M := mX5_pass) (pc := 5) okX5_needRange dX5_pass_5 w_399 [.int dy, .int 1, .int 400] [] rfl rfl ⟨by decide, by decide⟩ (Nat.le_of_ble_eq_true rfl) (c2_X5_needRange d g τ h sp0.1 dy 1 400) 19 114 (Nat.le_of_ble_eq_true rfl) (Nat.le_of_ble_eq_true rfl)) (fun h2 q1 => ?_) (fun E h1 q1 => Or.inr ⟨E, rfl, Or.inl ⟨q1.1, q1.2.2⟩, τ, by rw [q1.2.1]; exact sp0⟩)
  obtain ⟨q1e, rp⟩ := q1
  rw [q1e]
  obtain ⟨D, hD1, hD4, eD⟩ := tw_pD rp
  subst eD
  have cD : tw_DN (nI D) = D := nI_clamp (by omega)
  refine tw_aload_n 0 dX5_pass_8 rfl rfl ?_
  obtain ⟨e3, f4, td_5, ca_6, ha_7, da_8, c1_9, c2_10, c3_11, c4_12, rfl, k13, k14, k15, k16, k17, k18, k19, k20, k21, k22, k23, k24, k25⟩ := sp0.1 x 11 kx (by decide)
  refine tw_get (v := .int td_5) rfl in_9 0 dX5_pass_9 w_140 rfl (by decide) f4 rfl ?_
  refine tw_sipush (v := 3000) dX5_pass_12 (by decide) ?_
  refine tw_iload_n 1 dX5_pass_15 rfl rfl ?_
  refine tw_isub dX5_pass_16 ?_
  refine tw_nmi (fun v26 ev26 => ?_)
  refine tw_icmp_le 30 dX5_pass_17 (by decide) (fun c27 => ?_) (fun c27 => ?_)
  · have le9 : g.2 21 + D ≤ 3000 := (tw_dle k24 ev26 k25 hD4).mp c27
    refine tw_iconst (v := 0) dX5_pass_30 (by decide) ?_
    refine tw_istore_n [(2, .int 0), (0, .ref x), (1, .int (nI D))] dX5_pass_31 rfl (by decide) rfl ?_
    have L31 : ∀ (r29 k28 : Nat) (τ34 : tw_K) (h35 : tw_H) (sp36 : tw_sp d τ h (tw_g2 g 21 (g.2 21 + k28)) τ34 h35), D + 1 ≤ k28 + r29 → k28 ≤ D → tw_W d mX5_pass (tw_qi (fun r9 h1 => r9 = nI (g.2 21 + tw_DN (nI D)) ∧ tw_RP (nI D) ∧ g.2 21 + tw_DN (nI D) ≤ 3000 ∧ ∃ τ1, tw_sp d τ h (tw_g2 g 21 (g.2 21 + tw_DN (nI D))) τ1 h1) (fun E h1 => (E = tw_IAE ∧ ¬ tw_RP (nI D) ∨ E = tw_ISE ∧ tw_RP (nI D) ∧ ¬ g.2 21 + tw_DN (nI D) ≤ 3000) ∧ ∃ τ1, tw_sp d τ h g τ1 h1)) 32 [(0, .ref x), (1, .int (nI D)), (2, .int (nI k28))] [] h35 19 114 := by
      intro r29
      induction r29 with
      | zero => intro k28 τ34 h35 sp36 hk32 hk33; exact absurd hk32 (by omega)
      | succ r29 ih30 =>
        intro k28 τ34 h35 sp36 hk32 hk33
        obtain ⟨g37, eg37⟩ : ∃ z : tw_G, z = tw_g2 g 21 (g.2 21 + k28) := ⟨_, rfl⟩
        rw [← eg37] at sp36
        have tg37 : g37.2 21 = g.2 21 + k28 := by rw [eg37]; rfl
        refine tw_iload_n 2 dX5_pass_32 rfl rfl ?_
        refine tw_iload_n 1 dX5_pass_33 rfl rfl ?_
        refine tw_icmp_ge 47 dX5_pass_34 (by decide) (fun c38 => ?_) (fun c38 => ?_)
        · refine tw_aload_n 0 dX5_pass_47 rfl rfl ?_
          obtain ⟨e39, f40, td_41, ca_42, ha_43, da_44, c1_45, c2_46, c3_47, c4_48, rfl, k49, k50, k51, k52, k53, k54, k55, k56, k57, k58, k59, k60, k61⟩ := sp36.1 x 11 (sp36.2.1.k kx (by decide)) (by decide)
          refine tw_get (v := .int td_41) rfl in_9 0 dX5_pass_48 w_140 rfl (by decide) f40 rfl ?_
          exact tw_iret dX5_pass_51 rfl (Or.inl ⟨_, rfl, by rw [cD, k60, tg37, show k28 = D from Nat.le_antisymm hk33 (tw_kge c38 (by omega))], rp, by rw [cD]; exact le9, _, by rw [cD, ← show k28 = D from Nat.le_antisymm hk33 (tw_kge c38 (by omega)), ← eg37]; exact sp36⟩)
        · refine tw_aload_n 0 dX5_pass_37 rfl rfl ?_
          have kl9 : k28 < D := tw_klt (N := D) c38 hk33 (by omega)
          obtain ⟨e65, f66, td_67, ca_68, ha_69, da_70, c1_71, c2_72, c3_73, c4_74, rfl, k75, k76, k77, k78, k79, k80, k81, k82, k83, k84, k85, k86, k87⟩ := sp36.1 x 11 (sp36.2.1.k kx (by decide)) (by decide)
          refine tw_bv (tw_callV (M := mX5_pass) (pc := 38) okX5_beginDay dX5_pass_38 w_695 rfl f66 [] [] rfl rfl ⟨by decide, by decide⟩ (Nat.le_of_ble_eq_true rfl) (c2_X5_beginDay d g37 τ34 h35 sp36.1 x (sp36.2.1.k kx (by decide)) (by omega)) 19 114 (Nat.le_of_ble_eq_true rfl) (Nat.le_of_ble_eq_true rfl)) (fun h63 q62 => ?_) (fun E h1 q => q.elim)
          obtain ⟨τ64, q62s⟩ := q62
          have sp88 := sp36.tr q62s
          have k89 := q62s.2.1.k (sp36.2.1.k kx (by decide)) (by decide)
          obtain ⟨v90, ev90⟩ : ∃ y : Int32, y = (nI k28) + 1 := ⟨_, rfl⟩
          refine tw_iinc [(2, .int v90), (0, .ref x), (1, .int (nI D))] 2 dX5_pass_41 rfl (by rw [ev90]; rfl) (by decide) rfl ?_
          refine tw_goto 32 dX5_pass_44 (by decide) ?_
          have qv90 := tw_nI3 ev90
          rw [qv90]
          refine tw_lv [1, 2, 0] rfl ?_
          exact ih30 (k28 + 1) _ _ (by have z := sp88; rw [eg37, tw_g2_1] at z; exact z) (by omega) (by omega)
    refine tw_lv [1, 2, 0] rfl ?_
    exact L31 (D + 1) 0 _ _ (by rw [tw_g2_id]; exact sp0) (by omega) (by omega)
  · have le9 : ¬ g.2 21 + D ≤ 3000 := fun z => c27 ((tw_dle k24 ev26 k25 hD4).mpr z)
    exact tw_throwS (i := 12) (by decide +kernel) w_471 w_88 rfl at_ISE dX5_pass_20 dX5_pass_23 dX5_pass_24 dX5_pass_26 dX5_pass_29 ⟨by decide, Nat.le_of_ble_eq_true rfl⟩ (Nat.le_of_ble_eq_true rfl) (Nat.le_of_ble_eq_true rfl) (Or.inr ⟨_, rfl, Or.inr ⟨rfl, rp, fun z => le9 (by rw [cD] at z; exact z)⟩, _, sp0⟩)

theorem tw_ix_so8 {g : tw_G} {F : Nat → Option Nat} {m N q : Nat} {n : Int32} (pn : ∀ j, j < N → (F j = none ↔ m ≤ j)) (hm : m ≤ 10) (c1 : ¬ n < 0) (c2 : ¬ nI N ≤ n) (hv : F n.toNatClampNeg = some q) (f8 : tw_f8 g F) : ∃ j, j < m ∧ n = nI j ∧ g.2 (4096 + q) = 160 + 64 * j := by
  obtain ⟨j, hj, rfl⟩ := tw_ix_so pn c1 c2 hv
  exact ⟨j, hj, rfl, by have z := f8 _ _ hv; rw [nI_clamp (by omega)] at z; exact z⟩
def tw_RM (m : Int32) : Prop := m = 0 ∨ m = 1
def tw_RD (a b dy fr : Int32) : Prop := a ≠ b ∧ (1 ≤ dy ∧ dy ≤ 30) ∧ 0 ≤ fr ∧ fr ≤ 100
theorem tw_RM.k {m : Int32} (h : tw_RM m) : ∃ k, k < 2 ∧ m = nI k := by
  rcases h with rfl | rfl
  · exact ⟨0, by decide, rfl⟩
  · exact ⟨1, by decide, rfl⟩
set_option maxHeartbeats 4000000 in
set_option maxRecDepth 100000 in
theorem c3_X5_countryAt (d : tw_D) (g : tw_G) (τ : tw_K) (h : tw_H) (hw : tw_wt d g τ h) (x : Nat) (kx : τ x = 11) (n : Int32) : tw_Ct d mX5_countryAt 1 6 [.ref x, .int n] h (tw_qr (fun r h1 => h1 = h ∧ τ r = 2 ∧ ∃ j, j < g.2 6 ∧ n = nI j ∧ g.2 (4096 + r) = 160 + 64 * j) (fun E h1 => E = tw_IOE ∧ h1 = h ∧ ¬ tw_ix (g.2 6) n)) := by
  refine tw_of (by decide +kernel) (Nat.le_of_ble_eq_true rfl) ?_
  show tw_W d mX5_countryAt _ 0 [(0, .ref x), (1, .int n)] [] h 1 6
  have sp0 := tw_sp.rf hw
  have b9 := tw_b678 hw kx
  refine tw_iload_n 1 dX5_countryAt_0 rfl rfl ?_
  refine tw_if_lt 22 dX5_countryAt_1 (by decide) (fun c1 => ?_) (fun c1 => ?_)
  · exact tw_throwSW (i := 2) (by decide +kernel) w_550 w_96 rfl at_IOE dX5_countryAt_22 dX5_countryAt_25 dX5_countryAt_26 dX5_countryAt_29 dX5_countryAt_32 ⟨by decide, Nat.le_of_ble_eq_true rfl⟩ (Nat.le_of_ble_eq_true rfl) (Nat.le_of_ble_eq_true rfl) (Or.inr ⟨_, rfl, rfl, rfl, tw_ix_lt (by omega) c1⟩)
  · refine tw_iload_n 1 dX5_countryAt_4 rfl rfl ?_
    refine tw_aload_n 0 dX5_countryAt_5 rfl rfl ?_
    obtain ⟨e2, f3, td_4, ca_5, ha_6, da_7, c1_8, c2_9, c3_10, c4_11, rfl, k12, k13, k14, k15, k16, k17, k18, k19, k20, k21, k22, k23, k24⟩ := sp0.1 x 11 kx (by decide)
    refine tw_get (v := .ref ca_5) rfl in_9 2 dX5_countryAt_6 w_142 rfl (by decide) f3 rfl ?_
    obtain ⟨e25, f26, F27, rfl, k28, pn29, pb30, px31, pf32⟩ := sp0.1 ca_5 8 k12 (by decide)
    refine tw_alen (v := nI 4) 4 rfl dX5_countryAt_9 f26 rfl ?_
    refine tw_icmp_ge 22 dX5_countryAt_10 (by decide) (fun c33 => ?_) (fun c33 => ?_)
    · exact tw_throwSW (i := 2) (by decide +kernel) w_550 w_96 rfl at_IOE dX5_countryAt_22 dX5_countryAt_25 dX5_countryAt_26 dX5_countryAt_29 dX5_countryAt_32 ⟨by decide, Nat.le_of_ble_eq_true rfl⟩ (Nat.le_of_ble_eq_true rfl) (Nat.le_of_ble_eq_true rfl) (Or.inr ⟨_, rfl, rfl, rfl, tw_ix_ge (N := 4) b9.1 (by decide) c33⟩)
    · refine tw_aload_n 0 dX5_countryAt_13 rfl rfl ?_
      refine tw_get (v := .ref ca_5) rfl in_9 2 dX5_countryAt_14 w_142 rfl (by decide) f3 rfl ?_
      refine tw_iload_n 1 dX5_countryAt_17 rfl rfl ?_
      cases k34 : F27 (n).toNatClampNeg with
      | none =>
        refine tw_aald (v := .null) 4 rfl rfl dX5_countryAt_18 f26 (tw_ib2 c1 c33 (by decide)) (by rw [k34]; rfl) ?_
        refine tw_ifnonnullN dX5_countryAt_19 ?_
        exact tw_throwSW (i := 2) (by decide +kernel) w_550 w_96 rfl at_IOE dX5_countryAt_22 dX5_countryAt_25 dX5_countryAt_26 dX5_countryAt_29 dX5_countryAt_32 ⟨by decide, Nat.le_of_ble_eq_true rfl⟩ (Nat.le_of_ble_eq_true rfl) (Nat.le_of_ble_eq_true rfl) (Or.inr ⟨_, rfl, rfl, rfl, tw_ix_no pn29 pb30 (by decide) k34⟩)
      | some q35 =>
        have k36 := k28 _ _ k34
        refine tw_aald (v := .ref q35) 4 rfl rfl dX5_countryAt_18 f26 (tw_ib2 c1 c33 (by decide)) (by rw [k34]; rfl) ?_
        refine tw_ifnonnull 33 dX5_countryAt_19 (by decide) ?_
        refine tw_aload_n 0 dX5_countryAt_33 rfl rfl ?_
        refine tw_get (v := .ref ca_5) rfl in_9 2 dX5_countryAt_34 w_142 rfl (by decide) f3 rfl ?_
        refine tw_iload_n 1 dX5_countryAt_37 rfl rfl ?_
        refine tw_aald (v := .ref q35) 4 rfl rfl dX5_countryAt_38 f26 (tw_ib2 c1 c33 (by decide)) (by rw [k34]; rfl) ?_
        exact tw_aret dX5_countryAt_39 rfl (Or.inl ⟨_, rfl⟩) (Or.inl ⟨_, rfl, rfl, k36, tw_ix_so8 pn29 (by omega) c1 c33 k34 pf32⟩)

set_option maxHeartbeats 4000000 in
set_option maxRecDepth 100000 in
theorem c2_X5_needMetal (d : tw_D) (g : tw_G) (τ : tw_K) (h : tw_H) (hw : tw_wt d g τ h) (m : Int32) : tw_Ct d mX5_needMetal 1 6 [.int m] h (tw_qv (fun h1 => h1 = h ∧ tw_RM m) (fun E h1 => (E = tw_IAE) ∧ h1 = h ∧ ¬ tw_RM m)) := by
  refine tw_of (by decide +kernel) (Nat.le_of_ble_eq_true rfl) ?_
  show tw_W d mX5_needMetal _ 0 [(0, .int m)] [] h 1 6
  have sp0 := tw_sp.rf hw
  refine tw_iload_n 0 dX5_needMetal_0 rfl rfl ?_
  refine tw_if_eq 20 dX5_needMetal_1 (by decide) (fun c1 => ?_) (fun c1 => ?_)
  · exact tw_vret dX5_needMetal_20 rfl (Or.inl ⟨rfl, ⟨rfl, Or.inl c1⟩⟩)
  · refine tw_iload_n 0 dX5_needMetal_4 rfl rfl ?_
    refine tw_iconst (v := 1) dX5_needMetal_5 (by decide) ?_
    refine tw_icmp_eq 20 dX5_needMetal_6 (by decide) (fun c2 => ?_) (fun c2 => ?_)
    · exact tw_vret dX5_needMetal_20 rfl (Or.inl ⟨rfl, ⟨rfl, Or.inr c2⟩⟩)
    · exact tw_throwSW (i := 3) (by decide +kernel) w_402 w_87 rfl at_IAE dX5_needMetal_9 dX5_needMetal_12 dX5_needMetal_13 dX5_needMetal_16 dX5_needMetal_19 ⟨by decide, Nat.le_of_ble_eq_true rfl⟩ (Nat.le_of_ble_eq_true rfl) (Nat.le_of_ble_eq_true rfl) (Or.inr ⟨_, rfl, (rfl), rfl, (fun q => q.elim c1 c2)⟩)

set_option maxHeartbeats 4000000 in
set_option maxRecDepth 100000 in
theorem c2_X0_daysTo (d : tw_D) (g : tw_G) (τ : tw_K) (h : tw_H) (hw : tw_wt d g τ h) (x : Nat) (kx : τ x = 2) (j : Nat) (hj : j < 4) (hb : g.2 (4096 + x) = 160 + 64 * j) (i : Nat) (hi : i < 4) : tw_Ct d mX0_daysTo 0 0 [.ref x, .int (nI i)] h (tw_qi (fun r h1 => h1 = h ∧ r = g.1 (160 + 64 * j + 8 + i)) tw_nx) := by
  refine tw_of (by decide +kernel) (Nat.le_of_ble_eq_true rfl) ?_
  show tw_W d mX0_daysTo _ 0 [(0, .ref x), (1, .int (nI i))] [] h 0 0
  have sp0 := tw_sp.rf hw
  refine tw_iload_n 1 dX0_daysTo_0 rfl rfl ?_
  refine tw_if_lt 22 dX0_daysTo_1 (by decide) (fun c1 => absurd c1 (nI_pos (by omega))) (fun _ => ?_)
  refine tw_iload_n 1 dX0_daysTo_4 rfl rfl ?_
  refine tw_aload_n 0 dX0_daysTo_5 rfl rfl ?_
  obtain ⟨e2, f3, n_4, r_5, c_6, go_7, so_8, v_9, rd_10, rf_11, t_12, rfl, k13, k14, k15, k16, k17, k18, k19, k20, k21⟩ := sp0.1 x 2 kx (by decide)
  obtain ⟨j22, ow23, fn9, fr9, fc9, fg9, fs9, q24, q25, q26⟩ := k21
  obtain rfl : j = j22 := by have z := ow23.b hb; omega
  subst fn9 fr9 fc9 fg9 fs9
  refine tw_get (v := .ref rd_10) rfl in_4 6 dX0_daysTo_6 w_511 rfl (by decide) f3 rfl ?_
  obtain ⟨e27, f28, F29, rfl, ⟨b31, ow32, wv33⟩⟩ := sp0.1 rd_10 6 k14 (by decide)
  obtain rfl : b31 = (160 + 64 * j + 8) := ow32.b q24
  refine tw_alen (v := nI 4) 0 rfl dX0_daysTo_9 f28 rfl ?_
  refine tw_icmp_ge 22 dX0_daysTo_10 (by decide) (fun c34 => absurd c34 (Int32.not_le.mpr (nI_lt hi (by decide)))) (fun _ => ?_)
  refine tw_aload_n 0 dX0_daysTo_13 rfl rfl ?_
  refine tw_get (v := .ref rd_10) rfl in_4 6 dX0_daysTo_14 w_511 rfl (by decide) f3 rfl ?_
  refine tw_iload_n 1 dX0_daysTo_17 rfl rfl ?_
  have ev35 : F29 ((nI i)).toNatClampNeg = (g.1 ((160 + 64 * j + 8) + i)) := by rw [nI_clamp (by omega)]; exact wv33 i (by omega)
  refine tw_iald (v := (g.1 ((160 + 64 * j + 8) + i))) dX0_daysTo_18 f28 (vp_in_nI (by omega) (by decide)) ev35 ?_
  refine tw_goto 23 dX0_daysTo_19 (by decide) ?_
  exact tw_iret dX0_daysTo_23 rfl (Or.inl ⟨_, rfl, rfl, rfl⟩)

set_option maxHeartbeats 4000000 in
set_option maxRecDepth 100000 in
theorem c2_X0_freightTo (d : tw_D) (g : tw_G) (τ : tw_K) (h : tw_H) (hw : tw_wt d g τ h) (x : Nat) (kx : τ x = 2) (j : Nat) (hj : j < 4) (hb : g.2 (4096 + x) = 160 + 64 * j) (i : Nat) (hi : i < 4) : tw_Ct d mX0_freightTo 0 0 [.ref x, .int (nI i)] h (tw_qi (fun r h1 => h1 = h ∧ r = g.1 (160 + 64 * j + 16 + i)) tw_nx) := by
  refine tw_of (by decide +kernel) (Nat.le_of_ble_eq_true rfl) ?_
  show tw_W d mX0_freightTo _ 0 [(0, .ref x), (1, .int (nI i))] [] h 0 0
  have sp0 := tw_sp.rf hw
  refine tw_iload_n 1 dX0_freightTo_0 rfl rfl ?_
  refine tw_if_lt 22 dX0_freightTo_1 (by decide) (fun c1 => absurd c1 (nI_pos (by omega))) (fun _ => ?_)
  refine tw_iload_n 1 dX0_freightTo_4 rfl rfl ?_
  refine tw_aload_n 0 dX0_freightTo_5 rfl rfl ?_
  obtain ⟨e2, f3, n_4, r_5, c_6, go_7, so_8, v_9, rd_10, rf_11, t_12, rfl, k13, k14, k15, k16, k17, k18, k19, k20, k21⟩ := sp0.1 x 2 kx (by decide)
  obtain ⟨j22, ow23, fn9, fr9, fc9, fg9, fs9, q24, q25, q26⟩ := k21
  obtain rfl : j = j22 := by have z := ow23.b hb; omega
  subst fn9 fr9 fc9 fg9 fs9
  refine tw_get (v := .ref rf_11) rfl in_4 7 dX0_freightTo_6 w_512 rfl (by decide) f3 rfl ?_
  obtain ⟨e27, f28, F29, rfl, ⟨b31, ow32, wv33⟩⟩ := sp0.1 rf_11 6 k15 (by decide)
  obtain rfl : b31 = (160 + 64 * j + 16) := ow32.b q25
  refine tw_alen (v := nI 4) 0 rfl dX0_freightTo_9 f28 rfl ?_
  refine tw_icmp_ge 22 dX0_freightTo_10 (by decide) (fun c34 => absurd c34 (Int32.not_le.mpr (nI_lt hi (by decide)))) (fun _ => ?_)
  refine tw_aload_n 0 dX0_freightTo_13 rfl rfl ?_
  refine tw_get (v := .ref rf_11) rfl in_4 7 dX0_freightTo_14 w_512 rfl (by decide) f3 rfl ?_
  refine tw_iload_n 1 dX0_freightTo_17 rfl rfl ?_
  have ev35 : F29 ((nI i)).toNatClampNeg = (g.1 ((160 + 64 * j + 16) + i)) := by rw [nI_clamp (by omega)]; exact wv33 i (by omega)
  refine tw_iald (v := (g.1 ((160 + 64 * j + 16) + i))) dX0_freightTo_18 f28 (vp_in_nI (by omega) (by decide)) ev35 ?_
  refine tw_goto 24 dX0_freightTo_19 (by decide) ?_
  exact tw_iret dX0_freightTo_24 rfl (Or.inl ⟨_, rfl, rfl, rfl⟩)

set_option maxHeartbeats 4000000 in
set_option maxRecDepth 100000 in
theorem c2_X0_setRoadTo (d : tw_D) (g : tw_G) (τ : tw_K) (h : tw_H) (hw : tw_wt d g τ h) (x : Nat) (kx : τ x = 2) (j : Nat) (hj : j < 4) (hb : g.2 (4096 + x) = 160 + 64 * j) (i : Nat) (hi : i < 4) (dy fr : Int32) : tw_Ct d mX0_setRoadTo 0 0 [.ref x, .int (nI i), .int dy, .int fr] h (tw_qv (fun h1 => tw_sp d τ h (tw_g1 (tw_g1 g (160 + 64 * j + 8 + i) dy) (160 + 64 * j + 16 + i) fr) τ h1) tw_nx) := by
  refine tw_of (by decide +kernel) (Nat.le_of_ble_eq_true rfl) ?_
  show tw_W d mX0_setRoadTo _ 0 [(0, .ref x), (1, .int (nI i)), (2, .int dy), (3, .int fr)] [] h 0 0
  have sp0 := tw_sp.rf hw
  refine tw_iload_n 1 dX0_setRoadTo_0 rfl rfl ?_
  refine tw_if_lt 36 dX0_setRoadTo_1 (by decide) (fun c1 => absurd c1 (nI_pos (by omega))) (fun _ => ?_)
  refine tw_iload_n 1 dX0_setRoadTo_4 rfl rfl ?_
  refine tw_aload_n 0 dX0_setRoadTo_5 rfl rfl ?_
  obtain ⟨e2, f3, n_4, r_5, c_6, go_7, so_8, v_9, rd_10, rf_11, t_12, rfl, k13, k14, k15, k16, k17, k18, k19, k20, k21⟩ := sp0.1 x 2 kx (by decide)
  obtain ⟨j22, ow23, fn9, fr9, fc9, fg9, fs9, q24, q25, q26⟩ := k21
  obtain rfl : j = j22 := by have z := ow23.b hb; omega
  subst fn9 fr9 fc9 fg9 fs9
  refine tw_get (v := .ref rd_10) rfl in_4 6 dX0_setRoadTo_6 w_511 rfl (by decide) f3 rfl ?_
  obtain ⟨e27, f28, F29, rfl, ⟨b31, ow32, wv33⟩⟩ := sp0.1 rd_10 6 k14 (by decide)
  obtain rfl : b31 = (160 + 64 * j + 8) := ow32.b q24
  refine tw_alen (v := nI 4) 0 rfl dX0_setRoadTo_9 f28 rfl ?_
  refine tw_icmp_ge 36 dX0_setRoadTo_10 (by decide) (fun c34 => absurd c34 (Int32.not_le.mpr (nI_lt hi (by decide)))) (fun _ => ?_)
  refine tw_iload_n 1 dX0_setRoadTo_13 rfl rfl ?_
  refine tw_aload_n 0 dX0_setRoadTo_14 rfl rfl ?_
  refine tw_get (v := .ref rf_11) rfl in_4 7 dX0_setRoadTo_15 w_512 rfl (by decide) f3 rfl ?_
  obtain ⟨e35, f36, F37, rfl, ⟨b39, ow40, wv41⟩⟩ := sp0.1 rf_11 6 k15 (by decide)
  obtain rfl : b39 = (160 + 64 * j + 16) := ow40.b q25
  refine tw_alen (v := nI 4) 0 rfl dX0_setRoadTo_18 f36 rfl ?_
  refine tw_icmp_ge 36 dX0_setRoadTo_19 (by decide) (fun c42 => absurd c42 (Int32.not_le.mpr (nI_lt hi (by decide)))) (fun _ => ?_)
  refine tw_aload_n 0 dX0_setRoadTo_22 rfl rfl ?_
  refine tw_get (v := .ref rd_10) rfl in_4 6 dX0_setRoadTo_23 w_511 rfl (by decide) f3 rfl ?_
  refine tw_iload_n 1 dX0_setRoadTo_26 rfl rfl ?_
  refine tw_iload_n 2 dX0_setRoadTo_27 rfl rfl ?_
  refine tw_iast dX0_setRoadTo_28 f28 (vp_in_nI (by omega) (by decide)) ?_
  rw [nI_clamp (by omega)]
  obtain ⟨h43, eh43⟩ : ∃ z : tw_H, z = tw_up h rd_10 (.inl (d.2 0, 4, .inl (upd F29 i dy))) := ⟨_, rfl⟩
  rw [← eh43]
  have sp44 : tw_sp d τ h (tw_g1 g ((160 + 64 * j + 8) + i) dy) τ h43 := by rw [eh43]; exact sp0.wb k14 (by decide) ow32 ⟨_, rfl, tw_f6.up ow32 wv33⟩ (fun q9 hq9 => tw_g1_ne (by omega)) rfl
  refine tw_aload_n 0 dX0_setRoadTo_29 rfl rfl ?_
  obtain ⟨e45, f46, n_47, r_48, c_49, go_50, so_51, v_52, rd_53, rf_54, t_55, rfl, k56, k57, k58, k59, k60, k61, k62, k63, k64⟩ := sp44.1 x 2 kx (by decide)
  obtain ⟨j65, ow66, fn9, fr9, fc9, fg9, fs9, q67, q68, q69⟩ := k64
  obtain rfl : j = j65 := by have z := ow66.b hb; omega
  subst fn9 fr9 fc9 fg9 fs9
  refine tw_get (v := .ref rf_54) rfl in_4 7 dX0_setRoadTo_30 w_512 rfl (by decide) f46 rfl ?_
  refine tw_iload_n 1 dX0_setRoadTo_33 rfl rfl ?_
  refine tw_iload_n 3 dX0_setRoadTo_34 rfl rfl ?_
  obtain ⟨e70, f71, F72, rfl, ⟨b74, ow75, wv76⟩⟩ := sp44.1 rf_54 6 k58 (by decide)
  obtain rfl : b74 = (160 + 64 * j + 16) := ow75.b q68
  refine tw_iast dX0_setRoadTo_35 f71 (vp_in_nI (by omega) (by decide)) ?_
  rw [nI_clamp (by omega)]
  obtain ⟨h77, eh77⟩ : ∃ z : tw_H, z = tw_up h43 rf_54 (.inl (d.2 0, 4, .inl (upd F72 i fr))) := ⟨_, rfl⟩
  rw [← eh77]
  have sp78 : tw_sp d τ h (tw_g1 (tw_g1 g ((160 + 64 * j + 8) + i) dy) ((160 + 64 * j + 16) + i) fr) τ h77 := by rw [eh77]; exact sp44.wb k58 (by decide) ow75 ⟨_, rfl, tw_f6.up ow75 wv76⟩ (fun q9 hq9 => tw_g1_ne (by omega)) rfl
  exact tw_vret dX0_setRoadTo_36 rfl (Or.inl ⟨rfl, sp78⟩)

set_option maxHeartbeats 4000000 in
set_option maxRecDepth 100000 in
theorem c2_X0_isOpenFor (d : tw_D) (g : tw_G) (τ : tw_K) (h : tw_H) (hw : tw_wt d g τ h) (x : Nat) (kx : τ x = 2) (j : Nat) (hj : j < 4) (hb : g.2 (4096 + x) = 160 + 64 * j) (k : Nat) (hk : k < 2) : tw_Ct d mX0_isOpenFor 0 0 [.ref x, .int (nI k)] h (tw_qi (fun r h1 => h1 = h ∧ r = g.1 (160 + 64 * j + 2 + k) ∧ tw_01 r) tw_nx) := by
  rcases (show k = 0 ∨ k = 1 by omega) with rfl | rfl
  · refine tw_of (by decide +kernel) (Nat.le_of_ble_eq_true rfl) ?_
    show tw_W d mX0_isOpenFor _ 0 [(0, .ref x), (1, .int (nI 0))] [] h 0 0
    have sp0 := tw_sp.rf hw
    refine tw_iload_n 1 dX0_isOpenFor_0 rfl rfl ?_
    refine tw_if_ne 11 dX0_isOpenFor_1 (by decide) (fun c1 => absurd (rfl) c1) (fun _ => ?_)
    refine tw_aload_n 0 dX0_isOpenFor_4 rfl rfl ?_
    obtain ⟨e2, f3, n_4, r_5, c_6, go_7, so_8, v_9, rd_10, rf_11, t_12, rfl, k13, k14, k15, k16, k17, k18, k19, k20, k21⟩ := sp0.1 x 2 kx (by decide)
    obtain ⟨j22, ow23, fn9, fr9, fc9, fg9, fs9, q24, q25, q26⟩ := k21
    obtain rfl : j = j22 := by have z := ow23.b hb; omega
    subst fn9 fr9 fc9 fg9 fs9
    refine tw_get (v := .int (g.1 (160 + 64 * j + 2))) rfl in_4 4 dX0_isOpenFor_5 w_509 rfl (by decide) f3 rfl ?_
    refine tw_goto 15 dX0_isOpenFor_8 (by decide) ?_
    exact tw_zret dX0_isOpenFor_15 rfl (tw_nar01 k17) (Or.inl ⟨_, rfl, rfl, rfl, k17⟩)
  · refine tw_of (by decide +kernel) (Nat.le_of_ble_eq_true rfl) ?_
    show tw_W d mX0_isOpenFor _ 0 [(0, .ref x), (1, .int (nI 1))] [] h 0 0
    have sp0 := tw_sp.rf hw
    refine tw_iload_n 1 dX0_isOpenFor_0 rfl rfl ?_
    refine tw_if_ne 11 dX0_isOpenFor_1 (by decide) (fun _ => ?_) (fun c1 => absurd c1 ((by decide)))
    refine tw_aload_n 0 dX0_isOpenFor_11 rfl rfl ?_
    obtain ⟨e2, f3, n_4, r_5, c_6, go_7, so_8, v_9, rd_10, rf_11, t_12, rfl, k13, k14, k15, k16, k17, k18, k19, k20, k21⟩ := sp0.1 x 2 kx (by decide)
    obtain ⟨j22, ow23, fn9, fr9, fc9, fg9, fs9, q24, q25, q26⟩ := k21
    obtain rfl : j = j22 := by have z := ow23.b hb; omega
    subst fn9 fr9 fc9 fg9 fs9
    refine tw_get (v := .int (g.1 (160 + 64 * j + 3))) rfl in_4 5 dX0_isOpenFor_12 w_510 rfl (by decide) f3 rfl ?_
    exact tw_zret dX0_isOpenFor_15 rfl (tw_nar01 k18) (Or.inl ⟨_, rfl, rfl, rfl, k18⟩)

set_option maxHeartbeats 4000000 in
set_option maxRecDepth 100000 in
theorem c2_X0_setOpenFor (d : tw_D) (g : tw_G) (τ : tw_K) (h : tw_H) (hw : tw_wt d g τ h) (x : Nat) (kx : τ x = 2) (j : Nat) (hj : j < 4) (hb : g.2 (4096 + x) = 160 + 64 * j) (k : Nat) (hk : k < 2) (b : Int32) (kb : tw_01 b) : tw_Ct d mX0_setOpenFor 0 0 [.ref x, .int (nI k), .int b] h (tw_qv (fun h1 => tw_sp d τ h (tw_g1 g (160 + 64 * j + 2 + k) b) τ h1) tw_nx) := by
  rcases (show k = 0 ∨ k = 1 by omega) with rfl | rfl
  · refine tw_of (by decide +kernel) (Nat.le_of_ble_eq_true rfl) ?_
    show tw_W d mX0_setOpenFor _ 0 [(0, .ref x), (1, .int (nI 0)), (2, .int b)] [] h 0 0
    have sp0 := tw_sp.rf hw
    refine tw_iload_n 1 dX0_setOpenFor_0 rfl rfl ?_
    refine tw_if_ne 12 dX0_setOpenFor_1 (by decide) (fun c1 => absurd (rfl) c1) (fun _ => ?_)
    refine tw_aload_n 0 dX0_setOpenFor_4 rfl rfl ?_
    refine tw_iload_n 2 dX0_setOpenFor_5 rfl rfl ?_
    obtain ⟨e2, f3, n_4, r_5, c_6, go_7, so_8, v_9, rd_10, rf_11, t_12, rfl, k13, k14, k15, k16, k17, k18, k19, k20, k21⟩ := sp0.1 x 2 kx (by decide)
    obtain ⟨j22, ow23, fn9, fr9, fc9, fg9, fs9, q24, q25, q26⟩ := k21
    obtain rfl : j = j22 := by have z := ow23.b hb; omega
    subst fn9 fr9 fc9 fg9 fs9
    refine tw_put rfl in_4 tyX0 tyX0_ok nmX0 4 dX0_setOpenFor_6 w_509 rfl (by decide) f3 rfl rfl (tw_nar01 kb) (tw_fit01 kb) (Nat.le_of_ble_eq_true rfl) [.int (nI j), .int (g.1 (160 + 64 * j)), .int (g.1 (160 + 64 * j + 1)), .ref v_9, .int b, .int (g.1 (160 + 64 * j + 3)), .ref rd_10, .ref rf_11, .ref t_12] rfl ?_
    obtain ⟨h27, eh27⟩ : ∃ z : tw_H, z = tw_up h x (.inr (4, [.int (nI j), .int (g.1 (160 + 64 * j)), .int (g.1 (160 + 64 * j + 1)), .ref v_9, .int b, .int (g.1 (160 + 64 * j + 3)), .ref rd_10, .ref rf_11, .ref t_12])) := ⟨_, rfl⟩
    rw [← eh27]
    have sp28 : tw_sp d τ h (tw_g1 g (160 + 64 * j + 2) b) τ h27 := by rw [eh27]; exact sp0.wb kx (by decide) ow23 ⟨(nI j), (g.1 (160 + 64 * j)), (g.1 (160 + 64 * j + 1)), b, (g.1 (160 + 64 * j + 3)), v_9, rd_10, rf_11, t_12, rfl, k13, k14, k15, k16, kb, k18, k19, k20, ⟨j, ow23, rfl, (tw_g1_ne (by omega)).symm, (tw_g1_ne (by omega)).symm, tw_g1_eq.symm, (tw_g1_ne (by omega)).symm, q24, q25, q26⟩⟩ (fun q9 hq9 => tw_g1_ne (by omega)) rfl
    refine tw_goto 17 dX0_setOpenFor_9 (by decide) ?_
    exact tw_vret dX0_setOpenFor_17 rfl (Or.inl ⟨rfl, sp28⟩)
  · refine tw_of (by decide +kernel) (Nat.le_of_ble_eq_true rfl) ?_
    show tw_W d mX0_setOpenFor _ 0 [(0, .ref x), (1, .int (nI 1)), (2, .int b)] [] h 0 0
    have sp0 := tw_sp.rf hw
    refine tw_iload_n 1 dX0_setOpenFor_0 rfl rfl ?_
    refine tw_if_ne 12 dX0_setOpenFor_1 (by decide) (fun _ => ?_) (fun c1 => absurd c1 ((by decide)))
    refine tw_aload_n 0 dX0_setOpenFor_12 rfl rfl ?_
    refine tw_iload_n 2 dX0_setOpenFor_13 rfl rfl ?_
    obtain ⟨e2, f3, n_4, r_5, c_6, go_7, so_8, v_9, rd_10, rf_11, t_12, rfl, k13, k14, k15, k16, k17, k18, k19, k20, k21⟩ := sp0.1 x 2 kx (by decide)
    obtain ⟨j22, ow23, fn9, fr9, fc9, fg9, fs9, q24, q25, q26⟩ := k21
    obtain rfl : j = j22 := by have z := ow23.b hb; omega
    subst fn9 fr9 fc9 fg9 fs9
    refine tw_put rfl in_4 tyX0 tyX0_ok nmX0 5 dX0_setOpenFor_14 w_510 rfl (by decide) f3 rfl rfl (tw_nar01 kb) (tw_fit01 kb) (Nat.le_of_ble_eq_true rfl) [.int (nI j), .int (g.1 (160 + 64 * j)), .int (g.1 (160 + 64 * j + 1)), .ref v_9, .int (g.1 (160 + 64 * j + 2)), .int b, .ref rd_10, .ref rf_11, .ref t_12] rfl ?_
    obtain ⟨h27, eh27⟩ : ∃ z : tw_H, z = tw_up h x (.inr (4, [.int (nI j), .int (g.1 (160 + 64 * j)), .int (g.1 (160 + 64 * j + 1)), .ref v_9, .int (g.1 (160 + 64 * j + 2)), .int b, .ref rd_10, .ref rf_11, .ref t_12])) := ⟨_, rfl⟩
    rw [← eh27]
    have sp28 : tw_sp d τ h (tw_g1 g (160 + 64 * j + 3) b) τ h27 := by rw [eh27]; exact sp0.wb kx (by decide) ow23 ⟨(nI j), (g.1 (160 + 64 * j)), (g.1 (160 + 64 * j + 1)), (g.1 (160 + 64 * j + 2)), b, v_9, rd_10, rf_11, t_12, rfl, k13, k14, k15, k16, k17, kb, k19, k20, ⟨j, ow23, rfl, (tw_g1_ne (by omega)).symm, (tw_g1_ne (by omega)).symm, (tw_g1_ne (by omega)).symm, tw_g1_eq.symm, q24, q25, q26⟩⟩ (fun q9 hq9 => tw_g1_ne (by omega)) rfl
    exact tw_vret dX0_setOpenFor_17 rfl (Or.inl ⟨rfl, sp28⟩)

set_option maxHeartbeats 4000000 in
set_option maxRecDepth 100000 in
theorem c2_X5_law (d : tw_D) (g : tw_G) (τ : tw_K) (h : tw_H) (hw : tw_wt d g τ h) (x : Nat) (kx : τ x = 11) (n : Int32) (rt : Int32) (ct : Int32) : tw_Ct d mX5_law 20 120 [.ref x, .int n, .int rt, .int ct] h (tw_qi (fun r9 h1 => r9 = g.1 (160 + 64 * tw_DN n) ∧ tw_ix (g.2 6) n ∧ tw_RL rt ct ∧ ∃ τ1, tw_sp d τ h (tw_g1 (tw_g1 g (160 + 64 * tw_DN n) rt) (160 + 64 * tw_DN n + 1) ct) τ1 h1) (fun E h1 => (E = tw_IOE ∧ ¬ tw_ix (g.2 6) n ∨ E = tw_IAE ∧ tw_ix (g.2 6) n ∧ ¬ tw_RL rt ct) ∧ ∃ τ1, tw_sp d τ h g τ1 h1)) := by
  refine tw_of (by decide +kernel) (Nat.le_of_ble_eq_true rfl) ?_
  show tw_W d mX5_law _ 0 [(0, .ref x), (1, .int n), (2, .int rt), (3, .int ct)] [] h 20 120
  have sp0 := tw_sp.rf hw
  have b9 := (tw_b678 hw kx).1
  refine tw_aload_n 0 dX5_law_0 rfl rfl ?_
  refine tw_iload_n 1 dX5_law_1 rfl rfl ?_
  obtain ⟨e4, f5, td_6, ca_7, ha_8, da_9, c1_10, c2_11, c3_12, c4_13, rfl, k14, k15, k16, k17, k18, k19, k20, k21, k22, k23, k24, k25, k26⟩ := sp0.1 x 11 kx (by decide)
  refine tw_br (tw_callV (M := mX5_law) (pc := 2) okX5_countryAt dX5_law_2 w_546 rfl f5 [.int n] [] rfl rfl ⟨by decide, by decide⟩ (Nat.le_of_ble_eq_true rfl) (c3_X5_countryAt d g τ h sp0.1 x kx n) 19 114 (Nat.le_of_ble_eq_true rfl) (Nat.le_of_ble_eq_true rfl)) (fun r3 h2 q1 => ?_) (fun E h1 q1 => Or.inr ⟨E, rfl, Or.inl ⟨q1.1, q1.2.2⟩, τ, by rw [q1.2.1]; exact sp0⟩)
  obtain ⟨q1e, q1k, jn, q1j, q1n, q1b⟩ := q1
  rw [q1e]
  subst q1n
  have cDn : tw_DN (nI jn) = jn := nI_clamp (by omega)
  have ix0 : tw_ix (g.2 6) (nI jn) := ⟨jn, q1j, rfl⟩
  refine tw_astore [(4, .ref r3), (0, .ref x), (1, .int (nI jn)), (2, .int rt), (3, .int ct)] dX5_law_5 (by decide) rfl ?_
  refine tw_iload_n 3 dX5_law_7 rfl rfl ?_
  refine tw_iload_n 4 dX5_law_8 rfl rfl ?_
  refine tw_bv (tw_callS (M := mX5_law) (pc := 9) okX5_needLaw dX5_law_9 w_396 [.int rt, .int ct] [] rfl rfl ⟨by decide, by decide⟩ (Nat.le_of_ble_eq_true rfl) (c2_X5_needLaw d g τ h sp0.1 rt ct) 17 102 (Nat.le_of_ble_eq_true rfl) (Nat.le_of_ble_eq_true rfl)) (fun h28 q27 => ?_) (fun E h1 q27 => Or.inr ⟨E, rfl, Or.inr ⟨q27.1, ix0, q27.2.2⟩, τ, by rw [q27.2.1]; exact sp0⟩)
  obtain ⟨q27e, rc⟩ := q27
  rw [q27e]
  refine tw_aload 0 dX5_law_12 rfl ?_
  obtain ⟨e30, f31, n_32, r_33, c_34, go_35, so_36, v_37, rd_38, rf_39, t_40, rfl, k41, k42, k43, k44, k45, k46, k47, k48, k49⟩ := sp0.1 r3 2 q1k (by decide)
  obtain ⟨j50, ow51, fn9, fr9, fc9, fg9, fs9, q52, q53, q54⟩ := k49
  obtain rfl : jn = j50 := by have z := ow51.b q1b; omega
  subst fn9 fr9 fc9 fg9 fs9
  refine tw_getN (v := .int (g.1 (160 + 64 * jn))) rfl in_4 1 dX5_law_14 w_504 rfl (by decide) f31 rfl ?_
  refine tw_istore [(5, .int (g.1 (160 + 64 * jn))), (4, .ref r3), (0, .ref x), (1, .int (nI jn)), (2, .int rt), (3, .int ct)] dX5_law_17 (by decide) rfl ?_
  refine tw_aload 1 dX5_law_19 rfl ?_
  refine tw_iload_n 4 dX5_law_21 rfl rfl ?_
  refine tw_putN rfl in_4 tyX0 tyX0_ok nmX0 1 dX5_law_22 w_504 rfl (by decide) f31 rfl rfl rfl rfl (Nat.le_of_ble_eq_true rfl) [.int (nI jn), .int rt, .int (g.1 (160 + 64 * jn + 1)), .ref v_37, .int (g.1 (160 + 64 * jn + 2)), .int (g.1 (160 + 64 * jn + 3)), .ref rd_38, .ref rf_39, .ref t_40] rfl ?_
  obtain ⟨h55, eh55⟩ : ∃ z : tw_H, z = tw_up h r3 (.inr (4, [.int (nI jn), .int rt, .int (g.1 (160 + 64 * jn + 1)), .ref v_37, .int (g.1 (160 + 64 * jn + 2)), .int (g.1 (160 + 64 * jn + 3)), .ref rd_38, .ref rf_39, .ref t_40])) := ⟨_, rfl⟩
  rw [← eh55]
  have sp56 : tw_sp d τ h (tw_g1 g (160 + 64 * jn) rt) τ h55 := by rw [eh55]; exact sp0.wb q1k (by decide) ow51 ⟨(nI jn), rt, (g.1 (160 + 64 * jn + 1)), (g.1 (160 + 64 * jn + 2)), (g.1 (160 + 64 * jn + 3)), v_37, rd_38, rf_39, t_40, rfl, k41, k42, k43, k44, k45, k46, rc.1.1, rc.1.2, ⟨jn, ow51, rfl, tw_g1_eq.symm, (tw_g1_ne (by omega)).symm, (tw_g1_ne (by omega)).symm, (tw_g1_ne (by omega)).symm, q52, q53, q54⟩⟩ (fun q9 hq9 => tw_g1_ne (by omega)) rfl
  refine tw_aload 1 dX5_law_25 rfl ?_
  refine tw_iload_n 5 dX5_law_27 rfl rfl ?_
  obtain ⟨e57, f58, n_59, r_60, c_61, go_62, so_63, v_64, rd_65, rf_66, t_67, rfl, k68, k69, k70, k71, k72, k73, k74, k75, k76⟩ := sp56.1 r3 2 q1k (by decide)
  obtain ⟨j77, ow78, fn9, fr9, fc9, fg9, fs9, q79, q80, q81⟩ := k76
  obtain rfl : jn = j77 := by have z := ow78.b q1b; omega
  subst fn9 fr9 fc9 fg9 fs9
  refine tw_putN rfl in_4 tyX0 tyX0_ok nmX0 2 dX5_law_28 w_506 rfl (by decide) f58 rfl rfl rfl rfl (Nat.le_of_ble_eq_true rfl) [.int (nI jn), .int ((tw_g1 g (160 + 64 * jn) rt).1 (160 + 64 * jn)), .int ct, .ref v_64, .int ((tw_g1 g (160 + 64 * jn) rt).1 (160 + 64 * jn + 2)), .int ((tw_g1 g (160 + 64 * jn) rt).1 (160 + 64 * jn + 3)), .ref rd_65, .ref rf_66, .ref t_67] rfl ?_
  obtain ⟨h82, eh82⟩ : ∃ z : tw_H, z = tw_up h55 r3 (.inr (4, [.int (nI jn), .int ((tw_g1 g (160 + 64 * jn) rt).1 (160 + 64 * jn)), .int ct, .ref v_64, .int ((tw_g1 g (160 + 64 * jn) rt).1 (160 + 64 * jn + 2)), .int ((tw_g1 g (160 + 64 * jn) rt).1 (160 + 64 * jn + 3)), .ref rd_65, .ref rf_66, .ref t_67])) := ⟨_, rfl⟩
  rw [← eh82]
  have sp83 : tw_sp d τ h (tw_g1 (tw_g1 g (160 + 64 * jn) rt) (160 + 64 * jn + 1) ct) τ h82 := by rw [eh82]; exact sp56.wb q1k (by decide) ow78 ⟨(nI jn), ((tw_g1 g (160 + 64 * jn) rt).1 (160 + 64 * jn)), ct, ((tw_g1 g (160 + 64 * jn) rt).1 (160 + 64 * jn + 2)), ((tw_g1 g (160 + 64 * jn) rt).1 (160 + 64 * jn + 3)), v_64, rd_65, rf_66, t_67, rfl, k68, k69, k70, k71, k72, k73, k74, k75, ⟨jn, ow78, rfl, (tw_g1_ne (by omega)).symm, tw_g1_eq.symm, (tw_g1_ne (by omega)).symm, (tw_g1_ne (by omega)).symm, q79, q80, q81⟩⟩ (fun q9 hq9 => tw_g1_ne (by omega)) rfl
  refine tw_iload 0 dX5_law_31 rfl ?_
  exact tw_iret dX5_law_33 rfl (Or.inl ⟨_, rfl, (by rw [cDn]), ix0, rc, _, by rw [cDn]; exact sp83⟩)

set_option maxHeartbeats 4000000 in
set_option maxRecDepth 100000 in
theorem c2_X5_gate (d : tw_D) (g : tw_G) (τ : tw_K) (h : tw_H) (hw : tw_wt d g τ h) (x : Nat) (kx : τ x = 11) (n : Int32) (m : Int32) (b : Int32) (kb : tw_01 b) : tw_Ct d mX5_gate 20 120 [.ref x, .int n, .int m, .int b] h (tw_qi (fun r9 h1 => r9 = g.1 (160 + 64 * tw_DN n + 2 + tw_DN m) ∧ tw_ix (g.2 6) n ∧ tw_RM m ∧ tw_01 r9 ∧ ∃ τ1, tw_sp d τ h (tw_g1 g (160 + 64 * tw_DN n + 2 + tw_DN m) b) τ1 h1) (fun E h1 => (E = tw_IOE ∧ ¬ tw_ix (g.2 6) n ∨ E = tw_IAE ∧ tw_ix (g.2 6) n ∧ ¬ tw_RM m) ∧ ∃ τ1, tw_sp d τ h g τ1 h1)) := by
  refine tw_of (by decide +kernel) (Nat.le_of_ble_eq_true rfl) ?_
  show tw_W d mX5_gate _ 0 [(0, .ref x), (1, .int n), (2, .int m), (3, .int b)] [] h 20 120
  have sp0 := tw_sp.rf hw
  have b9 := (tw_b678 hw kx).1
  refine tw_aload_n 0 dX5_gate_0 rfl rfl ?_
  refine tw_iload_n 1 dX5_gate_1 rfl rfl ?_
  obtain ⟨e4, f5, td_6, ca_7, ha_8, da_9, c1_10, c2_11, c3_12, c4_13, rfl, k14, k15, k16, k17, k18, k19, k20, k21, k22, k23, k24, k25, k26⟩ := sp0.1 x 11 kx (by decide)
  refine tw_br (tw_callV (M := mX5_gate) (pc := 2) okX5_countryAt dX5_gate_2 w_546 rfl f5 [.int n] [] rfl rfl ⟨by decide, by decide⟩ (Nat.le_of_ble_eq_true rfl) (c3_X5_countryAt d g τ h sp0.1 x kx n) 19 114 (Nat.le_of_ble_eq_true rfl) (Nat.le_of_ble_eq_true rfl)) (fun r3 h2 q1 => ?_) (fun E h1 q1 => Or.inr ⟨E, rfl, Or.inl ⟨q1.1, q1.2.2⟩, τ, by rw [q1.2.1]; exact sp0⟩)
  obtain ⟨q1e, q1k, jn, q1j, q1n, q1b⟩ := q1
  rw [q1e]
  subst q1n
  have cDn : tw_DN (nI jn) = jn := nI_clamp (by omega)
  have ix0 : tw_ix (g.2 6) (nI jn) := ⟨jn, q1j, rfl⟩
  refine tw_astore [(4, .ref r3), (0, .ref x), (1, .int (nI jn)), (2, .int m), (3, .int b)] dX5_gate_5 (by decide) rfl ?_
  refine tw_iload_n 3 dX5_gate_7 rfl rfl ?_
  refine tw_bv (tw_callS (M := mX5_gate) (pc := 8) okX5_needMetal dX5_gate_8 w_573 [.int m] [] rfl rfl ⟨by decide, by decide⟩ (Nat.le_of_ble_eq_true rfl) (c2_X5_needMetal d g τ h sp0.1 m) 18 108 (Nat.le_of_ble_eq_true rfl) (Nat.le_of_ble_eq_true rfl)) (fun h28 q27 => ?_) (fun E h1 q27 => Or.inr ⟨E, rfl, Or.inr ⟨q27.1, ix0, q27.2.2⟩, τ, by rw [q27.2.1]; exact sp0⟩)
  obtain ⟨q27e, rc⟩ := q27
  rw [q27e]
  have rc0 := rc
  obtain ⟨k, hk, km⟩ := rc.k
  subst km
  have cDm : tw_DN (nI k) = k := nI_clamp (by omega)
  refine tw_aload 0 dX5_gate_11 rfl ?_
  refine tw_iload_n 3 dX5_gate_13 rfl rfl ?_
  obtain ⟨e33, f34, n_35, r_36, c_37, go_38, so_39, v_40, rd_41, rf_42, t_43, rfl, k44, k45, k46, k47, k48, k49, k50, k51, k52⟩ := sp0.1 r3 2 q1k (by decide)
  obtain ⟨j53, ow54, fn9, fr9, fc9, fg9, fs9, q55, q56, q57⟩ := k52
  obtain rfl : jn = j53 := by have z := ow54.b q1b; omega
  subst fn9 fr9 fc9 fg9 fs9
  refine tw_bi (tw_callVN (M := mX5_gate) (pc := 14) okX0_isOpenFor dX5_gate_14 w_577 rfl f34 [.int (nI k)] [] rfl rfl ⟨by decide, by decide⟩ (Nat.le_of_ble_eq_true rfl) (c2_X0_isOpenFor d g τ h sp0.1 r3 q1k jn (by omega) q1b k hk) 18 108 (Nat.le_of_ble_eq_true rfl) (Nat.le_of_ble_eq_true rfl)) (fun r32 h31 q30 => ?_) (fun E h1 q => q.elim)
  obtain ⟨q30e, q30v, q30z⟩ := q30
  rw [q30e]
  refine tw_istore [(5, .int r32), (4, .ref r3), (0, .ref x), (1, .int (nI jn)), (2, .int (nI k)), (3, .int b)] dX5_gate_17 (by decide) rfl ?_
  refine tw_aload 1 dX5_gate_19 rfl ?_
  refine tw_iload_n 4 dX5_gate_21 rfl rfl ?_
  refine tw_iload_n 5 dX5_gate_22 rfl rfl ?_
  refine tw_bv (tw_callVN (M := mX5_gate) (pc := 23) okX0_setOpenFor dX5_gate_23 w_581 rfl f34 [.int (nI k), .int b] [] rfl rfl ⟨by decide, by decide⟩ (Nat.le_of_ble_eq_true rfl) (c2_X0_setOpenFor d g τ h sp0.1 r3 q1k jn (by omega) q1b k hk b kb) 18 108 (Nat.le_of_ble_eq_true rfl) (Nat.le_of_ble_eq_true rfl)) (fun h59 q58 => ?_) (fun E h1 q => q.elim)
  have sp61 := sp0.tr q58
  refine tw_iload 0 dX5_gate_26 rfl ?_
  exact tw_zret dX5_gate_28 rfl (tw_nar01 q30z) (Or.inl ⟨_, rfl, (by rw [cDn, cDm]; exact q30v), ix0, rc0, q30z, _, by rw [cDn, cDm]; exact sp61⟩)

set_option maxHeartbeats 4000000 in
set_option maxRecDepth 100000 in
theorem c2_X5_road (d : tw_D) (g : tw_G) (τ : tw_K) (h : tw_H) (hw : tw_wt d g τ h) (x : Nat) (kx : τ x = 11) (a : Int32) (b : Int32) (dy : Int32) (fr : Int32) : tw_Ct d mX5_road 20 120 [.ref x, .int a, .int b, .int dy, .int fr] h (tw_qi (fun r9 h1 => r9 = g.1 (160 + 64 * tw_DN a + 8 + tw_DN b) ∧ (tw_ix (g.2 6) a ∧ tw_ix (g.2 6) b) ∧ tw_RD a b dy fr ∧ ∃ τ1, tw_sp d τ h (tw_g1 (tw_g1 (tw_g1 (tw_g1 g (160 + 64 * tw_DN a + 8 + tw_DN b) dy) (160 + 64 * tw_DN a + 16 + tw_DN b) fr) (160 + 64 * tw_DN b + 8 + tw_DN a) dy) (160 + 64 * tw_DN b + 16 + tw_DN a) fr) τ1 h1) (fun E h1 => (E = tw_IOE ∧ ¬ (tw_ix (g.2 6) a ∧ tw_ix (g.2 6) b) ∨ E = tw_IAE ∧ (tw_ix (g.2 6) a ∧ tw_ix (g.2 6) b) ∧ ¬ tw_RD a b dy fr) ∧ ∃ τ1, tw_sp d τ h g τ1 h1)) := by
  refine tw_of (by decide +kernel) (Nat.le_of_ble_eq_true rfl) ?_
  show tw_W d mX5_road _ 0 [(0, .ref x), (1, .int a), (2, .int b), (3, .int dy), (4, .int fr)] [] h 20 120
  have sp0 := tw_sp.rf hw
  have b9 := (tw_b678 hw kx).1
  refine tw_aload_n 0 dX5_road_0 rfl rfl ?_
  refine tw_iload_n 1 dX5_road_1 rfl rfl ?_
  obtain ⟨e4, f5, td_6, ca_7, ha_8, da_9, c1_10, c2_11, c3_12, c4_13, rfl, k14, k15, k16, k17, k18, k19, k20, k21, k22, k23, k24, k25, k26⟩ := sp0.1 x 11 kx (by decide)
  refine tw_br (tw_callV (M := mX5_road) (pc := 2) okX5_countryAt dX5_road_2 w_546 rfl f5 [.int a] [] rfl rfl ⟨by decide, by decide⟩ (Nat.le_of_ble_eq_true rfl) (c3_X5_countryAt d g τ h sp0.1 x kx a) 19 114 (Nat.le_of_ble_eq_true rfl) (Nat.le_of_ble_eq_true rfl)) (fun r3 h2 q1 => ?_) (fun E h1 q1 => Or.inr ⟨E, rfl, Or.inl ⟨q1.1, fun z => q1.2.2 z.1⟩, τ, by rw [q1.2.1]; exact sp0⟩)
  obtain ⟨q1e, q1k, ja, q1j, q1n, q1b⟩ := q1
  rw [q1e]
  subst q1n
  have cDa : tw_DN (nI ja) = ja := nI_clamp (by omega)
  refine tw_astore [(5, .ref r3), (0, .ref x), (1, .int (nI ja)), (2, .int b), (3, .int dy), (4, .int fr)] dX5_road_5 (by decide) rfl ?_
  refine tw_aload_n 1 dX5_road_7 rfl rfl ?_
  refine tw_iload_n 3 dX5_road_8 rfl rfl ?_
  refine tw_br (tw_callV (M := mX5_road) (pc := 9) okX5_countryAt dX5_road_9 w_546 rfl f5 [.int b] [] rfl rfl ⟨by decide, by decide⟩ (Nat.le_of_ble_eq_true rfl) (c3_X5_countryAt d g τ h sp0.1 x kx b) 18 108 (Nat.le_of_ble_eq_true rfl) (Nat.le_of_ble_eq_true rfl)) (fun r29 h28 q27 => ?_) (fun E h1 q27 => Or.inr ⟨E, rfl, Or.inl ⟨q27.1, fun z => q27.2.2 z.2⟩, τ, by rw [q27.2.1]; exact sp0⟩)
  obtain ⟨q27e, q27k, jb, q27j, q27n, q27b⟩ := q27
  rw [q27e]
  subst q27n
  have cDb : tw_DN (nI jb) = jb := nI_clamp (by omega)
  have ix0 : tw_ix (g.2 6) (nI ja) ∧ tw_ix (g.2 6) (nI jb) := ⟨⟨ja, q1j, rfl⟩, ⟨jb, q27j, rfl⟩⟩
  refine tw_astore [(6, .ref r29), (5, .ref r3), (0, .ref x), (1, .int (nI ja)), (2, .int (nI jb)), (3, .int dy), (4, .int fr)] dX5_road_12 (by decide) rfl ?_
  refine tw_iload_n 3 dX5_road_14 rfl rfl ?_
  refine tw_iload_n 4 dX5_road_15 rfl rfl ?_
  refine tw_bv (tw_callS (M := mX5_road) (pc := 16) okX5_needDifferent dX5_road_16 w_599 [.int (nI ja), .int (nI jb)] [] rfl rfl ⟨by decide, by decide⟩ (Nat.le_of_ble_eq_true rfl) (c2_X5_needDifferent d g τ h sp0.1 (nI ja) (nI jb)) 17 102 (Nat.le_of_ble_eq_true rfl) (Nat.le_of_ble_eq_true rfl)) (fun h31 q30 => ?_) (fun E h1 q30 => Or.inr ⟨E, rfl, Or.inr ⟨q30.1, ix0, fun z => q30.2.2 z.1⟩, τ, by rw [q30.2.1]; exact sp0⟩)
  obtain ⟨q30e, nd⟩ := q30
  rw [q30e]
  refine tw_iload_n 5 dX5_road_19 rfl rfl ?_
  refine tw_iconst (v := 1) dX5_road_20 (by decide) ?_
  refine tw_bipush (v := 30) dX5_road_21 (by decide) ?_
  refine tw_bv (tw_callS (M := mX5_road) (pc := 23) okX5_needRange dX5_road_23 w_399 [.int dy, .int 1, .int 30] [] rfl rfl ⟨by decide, by decide⟩ (Nat.le_of_ble_eq_true rfl) (c2_X5_needRange d g τ h sp0.1 dy 1 30) 16 96 (Nat.le_of_ble_eq_true rfl) (Nat.le_of_ble_eq_true rfl)) (fun h34 q33 => ?_) (fun E h1 q33 => Or.inr ⟨E, rfl, Or.inr ⟨q33.1, ix0, fun z => q33.2.2 z.2.1⟩, τ, by rw [q33.2.1]; exact sp0⟩)
  obtain ⟨q33e, rldy⟩ := q33
  rw [q33e]
  refine tw_iload 6 dX5_road_26 rfl ?_
  refine tw_iconst (v := 0) dX5_road_28 (by decide) ?_
  refine tw_bipush (v := 100) dX5_road_29 (by decide) ?_
  refine tw_bv (tw_callS (M := mX5_road) (pc := 31) okX5_needRange dX5_road_31 w_399 [.int fr, .int 0, .int 100] [] rfl rfl ⟨by decide, by decide⟩ (Nat.le_of_ble_eq_true rfl) (c2_X5_needRange d g τ h sp0.1 fr 0 100) 15 90 (Nat.le_of_ble_eq_true rfl) (Nat.le_of_ble_eq_true rfl)) (fun h37 q36 => ?_) (fun E h1 q36 => Or.inr ⟨E, rfl, Or.inr ⟨q36.1, ix0, fun z => q36.2.2 z.2.2⟩, τ, by rw [q36.2.1]; exact sp0⟩)
  obtain ⟨q36e, rlfr⟩ := q36
  rw [q36e]
  have rc : tw_RD (nI ja) (nI jb) dy fr := ⟨nd, rldy, rlfr⟩
  refine tw_aload 1 dX5_road_34 rfl ?_
  refine tw_aload 0 dX5_road_36 rfl ?_
  obtain ⟨e39, f40, n_41, r_42, c_43, go_44, so_45, v_46, rd_47, rf_48, t_49, rfl, k50, k51, k52, k53, k54, k55, k56, k57, k58⟩ := sp0.1 r29 2 q27k (by decide)
  obtain ⟨j59, ow60, fn9, fr9, fc9, fg9, fs9, q61, q62, q63⟩ := k58
  obtain rfl : jb = j59 := by have z := ow60.b q27b; omega
  subst fn9 fr9 fc9 fg9 fs9
  refine tw_getN (v := .int (nI jb)) rfl in_4 0 dX5_road_38 w_502 rfl (by decide) f40 rfl ?_
  obtain ⟨e67, f68, n_69, r_70, c_71, go_72, so_73, v_74, rd_75, rf_76, t_77, rfl, k78, k79, k80, k81, k82, k83, k84, k85, k86⟩ := sp0.1 r3 2 q1k (by decide)
  obtain ⟨j87, ow88, fn9, fr9, fc9, fg9, fs9, q89, q90, q91⟩ := k86
  obtain rfl : ja = j87 := by have z := ow88.b q1b; omega
  subst fn9 fr9 fc9 fg9 fs9
  refine tw_bi (tw_callVN (M := mX5_road) (pc := 41) okX0_daysTo dX5_road_41 w_226 rfl f68 [.int (nI jb)] [] rfl rfl ⟨by decide, by decide⟩ (Nat.le_of_ble_eq_true rfl) (c2_X0_daysTo d g τ h sp0.1 r3 q1k ja (by omega) q1b jb (by omega)) 15 90 (Nat.le_of_ble_eq_true rfl) (Nat.le_of_ble_eq_true rfl)) (fun r66 h65 q64 => ?_) (fun E h1 q => q.elim)
  obtain ⟨q64e, q64v⟩ := q64
  rw [q64e]
  refine tw_istore [(7, .int r66), (6, .ref r29), (5, .ref r3), (0, .ref x), (1, .int (nI ja)), (2, .int (nI jb)), (3, .int dy), (4, .int fr)] dX5_road_44 (by decide) rfl ?_
  refine tw_aload 2 dX5_road_46 rfl ?_
  refine tw_aload 1 dX5_road_48 rfl ?_
  refine tw_getN (v := .int (nI jb)) rfl in_4 0 dX5_road_50 w_502 rfl (by decide) f40 rfl ?_
  refine tw_iload_n 6 dX5_road_53 rfl rfl ?_
  refine tw_iload 7 dX5_road_54 rfl ?_
  refine tw_bv (tw_callVN (M := mX5_road) (pc := 56) okX0_setRoadTo dX5_road_56 w_603 rfl f68 [.int (nI jb), .int dy, .int fr] [] rfl rfl ⟨by decide, by decide⟩ (Nat.le_of_ble_eq_true rfl) (c2_X0_setRoadTo d g τ h sp0.1 r3 q1k ja (by omega) q1b jb (by omega) dy fr) 15 90 (Nat.le_of_ble_eq_true rfl) (Nat.le_of_ble_eq_true rfl)) (fun h93 q92 => ?_) (fun E h1 q => q.elim)
  have sp95 := sp0.tr q92
  refine tw_aload 1 dX5_road_59 rfl ?_
  refine tw_aload 2 dX5_road_61 rfl ?_
  obtain ⟨e96, f97, n_98, r_99, c_100, go_101, so_102, v_103, rd_104, rf_105, t_106, rfl, k107, k108, k109, k110, k111, k112, k113, k114, k115⟩ := sp95.1 r3 2 q1k (by decide)
  obtain ⟨j116, ow117, fn9, fr9, fc9, fg9, fs9, q118, q119, q120⟩ := k115
  obtain rfl : ja = j116 := by have z := ow117.b q1b; omega
  subst fn9 fr9 fc9 fg9 fs9
  refine tw_getN (v := .int (nI ja)) rfl in_4 0 dX5_road_63 w_502 rfl (by decide) f97 rfl ?_
  refine tw_iload_n 6 dX5_road_66 rfl rfl ?_
  refine tw_iload 7 dX5_road_67 rfl ?_
  obtain ⟨e124, f125, n_126, r_127, c_128, go_129, so_130, v_131, rd_132, rf_133, t_134, rfl, k135, k136, k137, k138, k139, k140, k141, k142, k143⟩ := sp95.1 r29 2 q27k (by decide)
  obtain ⟨j144, ow145, fn9, fr9, fc9, fg9, fs9, q146, q147, q148⟩ := k143
  obtain rfl : jb = j144 := by have z := ow145.b q27b; omega
  subst fn9 fr9 fc9 fg9 fs9
  refine tw_bv (tw_callVN (M := mX5_road) (pc := 69) okX0_setRoadTo dX5_road_69 w_603 rfl f125 [.int (nI ja), .int dy, .int fr] [] rfl rfl ⟨by decide, by decide⟩ (Nat.le_of_ble_eq_true rfl) (c2_X0_setRoadTo d (tw_g1 (tw_g1 g (160 + 64 * ja + 8 + jb) dy) (160 + 64 * ja + 16 + jb) fr) τ h93 sp95.1 r29 q27k jb (by omega) q27b ja (by omega) dy fr) 15 90 (Nat.le_of_ble_eq_true rfl) (Nat.le_of_ble_eq_true rfl)) (fun h122 q121 => ?_) (fun E h1 q => q.elim)
  have sp149 := sp95.tr q121
  refine tw_iload 0 dX5_road_72 rfl ?_
  exact tw_iret dX5_road_74 rfl (Or.inl ⟨_, rfl, (by rw [cDa, cDb]; exact q64v), ix0, rc, _, by rw [cDa, cDb]; exact sp149⟩)

set_option maxHeartbeats 4000000 in
set_option maxRecDepth 100000 in
theorem c2_X0_init (d : tw_D) (g : tw_G) (τ : tw_K) (h : tw_H) (hw : tw_wt d g τ h) (x : Nat) (hz : τ x = 0) (hx : h x = some (.inr (4, [.int 0, .int 0, .int 0, .null, .int 0, .int 0, .null, .null, .null]))) (j : Nat) (hj : j < 4) (h24 : g.2 24 = 160 + 64 * j) (r ct : Int32) (v : Nat) (kv : τ v = 1) (rlaw : 100 ≤ r ∧ r ≤ 200) : tw_Ct d mX0_init 6 30 [.ref x, .int (nI j), .int r, .int ct, .ref v] h (tw_qv (fun h1 => ∃ (rd rf t m : Nat) (τ1 : tw_K), tw_ini d (tw_gC g (160 + 64 * j) x rd rf t m r ct) τ h x 2 τ1 h1) tw_nx) := by
  refine tw_of (by decide +kernel) (Nat.le_of_ble_eq_true rfl) ?_
  show tw_W d mX0_init _ 0 [(0, .ref x), (1, .int (nI j)), (2, .int r), (3, .int ct), (4, .ref v)] [] h 6 30
  have sp0 := tw_sp.rm hw x
  refine tw_aload_n 0 dX0_init_0 rfl rfl ?_
  refine tw_objInit dX0_init_1 w_490 w_117 w_118 ⟨by decide, Nat.le_of_ble_eq_true rfl⟩ ?_
  refine tw_aload_n 0 dX0_init_4 rfl rfl ?_
  refine tw_iload_n 1 dX0_init_5 rfl rfl ?_
  refine tw_putF rfl in_4 tyX0 tyX0_ok nmX0 0 dX0_init_6 w_501 rfl (by decide) hx rfl rfl rfl rfl rfl rfl (Nat.le_of_ble_eq_true rfl) [.int (nI j), .int 0, .int 0, .null, .int 0, .int 0, .null, .null, .null] rfl ?_
  obtain ⟨h1, eh1⟩ : ∃ z : tw_H, z = tw_up h x (.inr (4, [.int (nI j), .int 0, .int 0, .null, .int 0, .int 0, .null, .null, .null])) := ⟨_, rfl⟩
  rw [← eh1]
  have sp2 : tw_sp d τ (tw_rm h x) g τ h1 := by rw [eh1]; exact sp0.wl tw_rm_s hz
  have f3 : h1 x = some (.inr (4, [.int (nI j), .int 0, .int 0, .null, .int 0, .int 0, .null, .null, .null])) := by rw [eh1]; exact tw_up_s
  refine tw_aload_n 0 dX0_init_9 rfl rfl ?_
  refine tw_iload_n 2 dX0_init_10 rfl rfl ?_
  refine tw_put rfl in_4 tyX0 tyX0_ok nmX0 1 dX0_init_11 w_503 rfl (by decide) f3 rfl rfl rfl rfl (Nat.le_of_ble_eq_true rfl) [.int (nI j), .int r, .int 0, .null, .int 0, .int 0, .null, .null, .null] rfl ?_
  obtain ⟨h4, eh4⟩ : ∃ z : tw_H, z = tw_up h1 x (.inr (4, [.int (nI j), .int r, .int 0, .null, .int 0, .int 0, .null, .null, .null])) := ⟨_, rfl⟩
  rw [← eh4]
  have sp5 : tw_sp d τ (tw_rm h x) g τ h4 := by rw [eh4]; exact sp2.wl tw_rm_s hz
  have f6 : h4 x = some (.inr (4, [.int (nI j), .int r, .int 0, .null, .int 0, .int 0, .null, .null, .null])) := by rw [eh4]; exact tw_up_s
  refine tw_aload_n 0 dX0_init_14 rfl rfl ?_
  refine tw_iload_n 3 dX0_init_15 rfl rfl ?_
  refine tw_put rfl in_4 tyX0 tyX0_ok nmX0 2 dX0_init_16 w_505 rfl (by decide) f6 rfl rfl rfl rfl (Nat.le_of_ble_eq_true rfl) [.int (nI j), .int r, .int ct, .null, .int 0, .int 0, .null, .null, .null] rfl ?_
  obtain ⟨h7, eh7⟩ : ∃ z : tw_H, z = tw_up h4 x (.inr (4, [.int (nI j), .int r, .int ct, .null, .int 0, .int 0, .null, .null, .null])) := ⟨_, rfl⟩
  rw [← eh7]
  have sp8 : tw_sp d τ (tw_rm h x) g τ h7 := by rw [eh7]; exact sp5.wl tw_rm_s hz
  have f9 : h7 x = some (.inr (4, [.int (nI j), .int r, .int ct, .null, .int 0, .int 0, .null, .null, .null])) := by rw [eh7]; exact tw_up_s
  refine tw_aload_n 0 dX0_init_19 rfl rfl ?_
  refine tw_aload 4 dX0_init_20 rfl ?_
  refine tw_putF rfl in_4 tyX0 tyX0_ok nmX0 3 dX0_init_22 w_507 rfl (by decide) f9 rfl rfl rfl rfl rfl rfl (Nat.le_of_ble_eq_true rfl) [.int (nI j), .int r, .int ct, .ref v, .int 0, .int 0, .null, .null, .null] rfl ?_
  obtain ⟨h10, eh10⟩ : ∃ z : tw_H, z = tw_up h7 x (.inr (4, [.int (nI j), .int r, .int ct, .ref v, .int 0, .int 0, .null, .null, .null])) := ⟨_, rfl⟩
  rw [← eh10]
  have sp11 : tw_sp d τ (tw_rm h x) g τ h10 := by rw [eh10]; exact sp8.wl tw_rm_s hz
  have f12 : h10 x = some (.inr (4, [.int (nI j), .int r, .int ct, .ref v, .int 0, .int 0, .null, .null, .null])) := by rw [eh10]; exact tw_up_s
  refine tw_aload_n 0 dX0_init_25 rfl rfl ?_
  refine tw_iconst (v := 1) dX0_init_26 (by decide) ?_
  refine tw_put rfl in_4 tyX0 tyX0_ok nmX0 4 dX0_init_27 w_509 rfl (by decide) f12 rfl rfl rfl rfl (Nat.le_of_ble_eq_true rfl) [.int (nI j), .int r, .int ct, .ref v, .int 1, .int 0, .null, .null, .null] rfl ?_
  obtain ⟨h13, eh13⟩ : ∃ z : tw_H, z = tw_up h10 x (.inr (4, [.int (nI j), .int r, .int ct, .ref v, .int 1, .int 0, .null, .null, .null])) := ⟨_, rfl⟩
  rw [← eh13]
  have sp14 : tw_sp d τ (tw_rm h x) g τ h13 := by rw [eh13]; exact sp11.wl tw_rm_s hz
  have f15 : h13 x = some (.inr (4, [.int (nI j), .int r, .int ct, .ref v, .int 1, .int 0, .null, .null, .null])) := by rw [eh13]; exact tw_up_s
  refine tw_aload_n 0 dX0_init_30 rfl rfl ?_
  refine tw_iconst (v := 1) dX0_init_31 (by decide) ?_
  refine tw_put rfl in_4 tyX0 tyX0_ok nmX0 5 dX0_init_32 w_510 rfl (by decide) f15 rfl rfl rfl rfl (Nat.le_of_ble_eq_true rfl) [.int (nI j), .int r, .int ct, .ref v, .int 1, .int 1, .null, .null, .null] rfl ?_
  obtain ⟨h16, eh16⟩ : ∃ z : tw_H, z = tw_up h13 x (.inr (4, [.int (nI j), .int r, .int ct, .ref v, .int 1, .int 1, .null, .null, .null])) := ⟨_, rfl⟩
  rw [← eh16]
  have sp17 : tw_sp d τ (tw_rm h x) g τ h16 := by rw [eh16]; exact sp14.wl tw_rm_s hz
  have f18 : h16 x = some (.inr (4, [.int (nI j), .int r, .int ct, .ref v, .int 1, .int 1, .null, .null, .null])) := by rw [eh16]; exact tw_up_s
  refine tw_aload_n 0 dX0_init_35 rfl rfl ?_
  refine tw_iconst (v := 4) dX0_init_36 (by decide) ?_
  refine tw_newa (a0 := (4, .inl (fun _ => 0))) 0 rfl dX0_init_37 rfl w_500 (fun _ => rfl) (by decide) (by decide) (by decide) 5 26 (Nat.le_of_ble_eq_true rfl) (Nat.le_of_ble_eq_true rfl) (fun q19 hq20 hA21 => ?_)
  have n22 := sp17.nn hq20
  have z23 := sp17.1.none hq20
  have ne24 := tw_neF f18 hq20
  obtain ⟨h25, eh25⟩ : ∃ z : tw_H, z = tw_up h16 q19 (.inl (d.2 0, 4, .inl (fun _ => 0))) := ⟨_, rfl⟩
  rw [← eh25]
  have sp26 : tw_sp d τ (tw_rm h x) g τ h25 := by rw [eh25]; exact sp17.mk hq20
  have f27 : h25 x = some (.inr (4, [.int (nI j), .int r, .int ct, .ref v, .int 1, .int 1, .null, .null, .null])) := by rw [eh25, tw_up_n ne24]; exact f18
  have f28 : h25 q19 = some (.inl (d.2 0, 4, .inl (fun _ => 0))) := by rw [eh25]; exact tw_up_s
  refine tw_putF rfl in_4 tyX0 tyX0_ok nmX0 6 dX0_init_39 w_511 rfl (by decide) f27 rfl rfl rfl rfl rfl rfl (Nat.le_of_ble_eq_true rfl) [.int (nI j), .int r, .int ct, .ref v, .int 1, .int 1, .ref q19, .null, .null] rfl ?_
  obtain ⟨h29, eh29⟩ : ∃ z : tw_H, z = tw_up h25 x (.inr (4, [.int (nI j), .int r, .int ct, .ref v, .int 1, .int 1, .ref q19, .null, .null])) := ⟨_, rfl⟩
  rw [← eh29]
  have sp30 : tw_sp d τ (tw_rm h x) g τ h29 := by rw [eh29]; exact sp26.wl tw_rm_s hz
  have f31 : h29 q19 = some (.inl (d.2 0, 4, .inl (fun _ => 0))) := by rw [eh29, tw_up_n (Ne.symm ne24)]; exact f28
  have f32 : h29 x = some (.inr (4, [.int (nI j), .int r, .int ct, .ref v, .int 1, .int 1, .ref q19, .null, .null])) := by rw [eh29]; exact tw_up_s
  refine tw_aload_n 0 dX0_init_42 rfl rfl ?_
  refine tw_iconst (v := 4) dX0_init_43 (by decide) ?_
  refine tw_newa (a0 := (4, .inl (fun _ => 0))) 0 rfl dX0_init_44 rfl w_500 (fun _ => rfl) (by decide) (by decide) (by decide) 4 22 (Nat.le_of_ble_eq_true rfl) (Nat.le_of_ble_eq_true rfl) (fun q33 hq34 hA35 => ?_)
  have n36 := sp30.nn hq34
  have z37 := sp30.1.none hq34
  have ne38 := tw_neF f31 hq34
  have ne39 := tw_neF f32 hq34
  obtain ⟨h40, eh40⟩ : ∃ z : tw_H, z = tw_up h29 q33 (.inl (d.2 0, 4, .inl (fun _ => 0))) := ⟨_, rfl⟩
  rw [← eh40]
  have sp41 : tw_sp d τ (tw_rm h x) g τ h40 := by rw [eh40]; exact sp30.mk hq34
  have f42 : h40 q19 = some (.inl (d.2 0, 4, .inl (fun _ => 0))) := by rw [eh40, tw_up_n ne38]; exact f31
  have f43 : h40 x = some (.inr (4, [.int (nI j), .int r, .int ct, .ref v, .int 1, .int 1, .ref q19, .null, .null])) := by rw [eh40, tw_up_n ne39]; exact f32
  have f44 : h40 q33 = some (.inl (d.2 0, 4, .inl (fun _ => 0))) := by rw [eh40]; exact tw_up_s
  refine tw_putF rfl in_4 tyX0 tyX0_ok nmX0 7 dX0_init_46 w_512 rfl (by decide) f43 rfl rfl rfl rfl rfl rfl (Nat.le_of_ble_eq_true rfl) [.int (nI j), .int r, .int ct, .ref v, .int 1, .int 1, .ref q19, .ref q33, .null] rfl ?_
  obtain ⟨h45, eh45⟩ : ∃ z : tw_H, z = tw_up h40 x (.inr (4, [.int (nI j), .int r, .int ct, .ref v, .int 1, .int 1, .ref q19, .ref q33, .null])) := ⟨_, rfl⟩
  rw [← eh45]
  have sp46 : tw_sp d τ (tw_rm h x) g τ h45 := by rw [eh45]; exact sp41.wl tw_rm_s hz
  have f47 : h45 q19 = some (.inl (d.2 0, 4, .inl (fun _ => 0))) := by rw [eh45, tw_up_n (Ne.symm ne24)]; exact f42
  have f48 : h45 q33 = some (.inl (d.2 0, 4, .inl (fun _ => 0))) := by rw [eh45, tw_up_n (Ne.symm ne39)]; exact f44
  have f49 : h45 x = some (.inr (4, [.int (nI j), .int r, .int ct, .ref v, .int 1, .int 1, .ref q19, .ref q33, .null])) := by rw [eh45]; exact tw_up_s
  refine tw_iconst (v := 0) dX0_init_49 (by decide) ?_
  refine tw_istore [(5, .int 0), (0, .ref x), (1, .int (nI j)), (2, .int r), (3, .int ct), (4, .ref v)] dX0_init_50 (by decide) rfl ?_
  refine tw_iload 0 dX0_init_52 rfl ?_
  refine tw_iconst (v := 4) dX0_init_54 (by decide) ?_
  refine tw_icmp_ge 81 dX0_init_55 (by decide) (fun c50 => absurd c50 (by decide)) (fun _ => ?_)
  refine tw_aload_n 1 dX0_init_58 rfl rfl ?_
  refine tw_get (v := .ref q19) rfl in_4 6 dX0_init_59 w_511 rfl (by decide) f49 rfl ?_
  refine tw_iload 0 dX0_init_62 rfl ?_
  refine tw_iconst (v := 3) dX0_init_64 (by decide) ?_
  refine tw_iast dX0_init_65 f47 (vp_in_nI (n := 0) (by decide) (by decide)) ?_
  obtain ⟨F51, eF51⟩ : ∃ z : Nat → Int32, z = upd (fun _ => 0) (0 : Int32).toNatClampNeg 3 := ⟨_, rfl⟩
  rw [← eF51]
  obtain ⟨h52, eh52⟩ : ∃ z : tw_H, z = tw_up h45 q19 (.inl (d.2 0, 4, .inl F51)) := ⟨_, rfl⟩
  rw [← eh52]
  have sp53 : tw_sp d τ (tw_rm h x) g τ h52 := by rw [eh52]; exact sp46.wl n22 z23
  have f54 : h52 q33 = some (.inl (d.2 0, 4, .inl (fun _ => 0))) := by rw [eh52, tw_up_n (Ne.symm ne38)]; exact f48
  have f55 : h52 x = some (.inr (4, [.int (nI j), .int r, .int ct, .ref v, .int 1, .int 1, .ref q19, .ref q33, .null])) := by rw [eh52, tw_up_n ne24]; exact f49
  have f56 : h52 q19 = some (.inl (d.2 0, 4, .inl F51)) := by rw [eh52]; exact tw_up_s
  refine tw_aload_n 1 dX0_init_66 rfl rfl ?_
  refine tw_get (v := .ref q33) rfl in_4 7 dX0_init_67 w_512 rfl (by decide) f55 rfl ?_
  refine tw_iload 0 dX0_init_70 rfl ?_
  refine tw_bipush (v := 10) dX0_init_72 (by decide) ?_
  refine tw_iast dX0_init_74 f54 (vp_in_nI (n := 0) (by decide) (by decide)) ?_
  obtain ⟨F57, eF57⟩ : ∃ z : Nat → Int32, z = upd (fun _ => 0) (0 : Int32).toNatClampNeg 10 := ⟨_, rfl⟩
  rw [← eF57]
  obtain ⟨h58, eh58⟩ : ∃ z : tw_H, z = tw_up h52 q33 (.inl (d.2 0, 4, .inl F57)) := ⟨_, rfl⟩
  rw [← eh58]
  have sp59 : tw_sp d τ (tw_rm h x) g τ h58 := by rw [eh58]; exact sp53.wl n36 z37
  have f60 : h58 x = some (.inr (4, [.int (nI j), .int r, .int ct, .ref v, .int 1, .int 1, .ref q19, .ref q33, .null])) := by rw [eh58, tw_up_n ne39]; exact f55
  have f61 : h58 q19 = some (.inl (d.2 0, 4, .inl F51)) := by rw [eh58, tw_up_n ne38]; exact f56
  have f62 : h58 q33 = some (.inl (d.2 0, 4, .inl F57)) := by rw [eh58]; exact tw_up_s
  refine tw_iinc [(5, .int 1), (0, .ref x), (1, .int (nI j)), (2, .int r), (3, .int ct), (4, .ref v)] 0 dX0_init_75 rfl (by decide) (by decide) rfl ?_
  refine tw_goto 52 dX0_init_78 (by decide) ?_
  refine tw_iload 0 dX0_init_52 rfl ?_
  refine tw_iconst (v := 4) dX0_init_54 (by decide) ?_
  refine tw_icmp_ge 81 dX0_init_55 (by decide) (fun c63 => absurd c63 (by decide)) (fun _ => ?_)
  refine tw_aload_n 1 dX0_init_58 rfl rfl ?_
  refine tw_get (v := .ref q19) rfl in_4 6 dX0_init_59 w_511 rfl (by decide) f60 rfl ?_
  refine tw_iload 0 dX0_init_62 rfl ?_
  refine tw_iconst (v := 3) dX0_init_64 (by decide) ?_
  refine tw_iast dX0_init_65 f61 (vp_in_nI (n := 1) (by decide) (by decide)) ?_
  obtain ⟨F64, eF64⟩ : ∃ z : Nat → Int32, z = upd F51 (1 : Int32).toNatClampNeg 3 := ⟨_, rfl⟩
  rw [← eF64]
  obtain ⟨h65, eh65⟩ : ∃ z : tw_H, z = tw_up h58 q19 (.inl (d.2 0, 4, .inl F64)) := ⟨_, rfl⟩
  rw [← eh65]
  have sp66 : tw_sp d τ (tw_rm h x) g τ h65 := by rw [eh65]; exact sp59.wl n22 z23
  have f67 : h65 x = some (.inr (4, [.int (nI j), .int r, .int ct, .ref v, .int 1, .int 1, .ref q19, .ref q33, .null])) := by rw [eh65, tw_up_n ne24]; exact f60
  have f68 : h65 q33 = some (.inl (d.2 0, 4, .inl F57)) := by rw [eh65, tw_up_n (Ne.symm ne38)]; exact f62
  have f69 : h65 q19 = some (.inl (d.2 0, 4, .inl F64)) := by rw [eh65]; exact tw_up_s
  refine tw_aload_n 1 dX0_init_66 rfl rfl ?_
  refine tw_get (v := .ref q33) rfl in_4 7 dX0_init_67 w_512 rfl (by decide) f67 rfl ?_
  refine tw_iload 0 dX0_init_70 rfl ?_
  refine tw_bipush (v := 10) dX0_init_72 (by decide) ?_
  refine tw_iast dX0_init_74 f68 (vp_in_nI (n := 1) (by decide) (by decide)) ?_
  obtain ⟨F70, eF70⟩ : ∃ z : Nat → Int32, z = upd F57 (1 : Int32).toNatClampNeg 10 := ⟨_, rfl⟩
  rw [← eF70]
  obtain ⟨h71, eh71⟩ : ∃ z : tw_H, z = tw_up h65 q33 (.inl (d.2 0, 4, .inl F70)) := ⟨_, rfl⟩
  rw [← eh71]
  have sp72 : tw_sp d τ (tw_rm h x) g τ h71 := by rw [eh71]; exact sp66.wl n36 z37
  have f73 : h71 x = some (.inr (4, [.int (nI j), .int r, .int ct, .ref v, .int 1, .int 1, .ref q19, .ref q33, .null])) := by rw [eh71, tw_up_n ne39]; exact f67
  have f74 : h71 q19 = some (.inl (d.2 0, 4, .inl F64)) := by rw [eh71, tw_up_n ne38]; exact f69
  have f75 : h71 q33 = some (.inl (d.2 0, 4, .inl F70)) := by rw [eh71]; exact tw_up_s
  refine tw_iinc [(5, .int 2), (0, .ref x), (1, .int (nI j)), (2, .int r), (3, .int ct), (4, .ref v)] 0 dX0_init_75 rfl (by decide) (by decide) rfl ?_
  refine tw_goto 52 dX0_init_78 (by decide) ?_
  refine tw_iload 0 dX0_init_52 rfl ?_
  refine tw_iconst (v := 4) dX0_init_54 (by decide) ?_
  refine tw_icmp_ge 81 dX0_init_55 (by decide) (fun c76 => absurd c76 (by decide)) (fun _ => ?_)
  refine tw_aload_n 1 dX0_init_58 rfl rfl ?_
  refine tw_get (v := .ref q19) rfl in_4 6 dX0_init_59 w_511 rfl (by decide) f73 rfl ?_
  refine tw_iload 0 dX0_init_62 rfl ?_
  refine tw_iconst (v := 3) dX0_init_64 (by decide) ?_
  refine tw_iast dX0_init_65 f74 (vp_in_nI (n := 2) (by decide) (by decide)) ?_
  obtain ⟨F77, eF77⟩ : ∃ z : Nat → Int32, z = upd F64 (2 : Int32).toNatClampNeg 3 := ⟨_, rfl⟩
  rw [← eF77]
  obtain ⟨h78, eh78⟩ : ∃ z : tw_H, z = tw_up h71 q19 (.inl (d.2 0, 4, .inl F77)) := ⟨_, rfl⟩
  rw [← eh78]
  have sp79 : tw_sp d τ (tw_rm h x) g τ h78 := by rw [eh78]; exact sp72.wl n22 z23
  have f80 : h78 x = some (.inr (4, [.int (nI j), .int r, .int ct, .ref v, .int 1, .int 1, .ref q19, .ref q33, .null])) := by rw [eh78, tw_up_n ne24]; exact f73
  have f81 : h78 q33 = some (.inl (d.2 0, 4, .inl F70)) := by rw [eh78, tw_up_n (Ne.symm ne38)]; exact f75
  have f82 : h78 q19 = some (.inl (d.2 0, 4, .inl F77)) := by rw [eh78]; exact tw_up_s
  refine tw_aload_n 1 dX0_init_66 rfl rfl ?_
  refine tw_get (v := .ref q33) rfl in_4 7 dX0_init_67 w_512 rfl (by decide) f80 rfl ?_
  refine tw_iload 0 dX0_init_70 rfl ?_
  refine tw_bipush (v := 10) dX0_init_72 (by decide) ?_
  refine tw_iast dX0_init_74 f81 (vp_in_nI (n := 2) (by decide) (by decide)) ?_
  obtain ⟨F83, eF83⟩ : ∃ z : Nat → Int32, z = upd F70 (2 : Int32).toNatClampNeg 10 := ⟨_, rfl⟩
  rw [← eF83]
  obtain ⟨h84, eh84⟩ : ∃ z : tw_H, z = tw_up h78 q33 (.inl (d.2 0, 4, .inl F83)) := ⟨_, rfl⟩
  rw [← eh84]
  have sp85 : tw_sp d τ (tw_rm h x) g τ h84 := by rw [eh84]; exact sp79.wl n36 z37
  have f86 : h84 x = some (.inr (4, [.int (nI j), .int r, .int ct, .ref v, .int 1, .int 1, .ref q19, .ref q33, .null])) := by rw [eh84, tw_up_n ne39]; exact f80
  have f87 : h84 q19 = some (.inl (d.2 0, 4, .inl F77)) := by rw [eh84, tw_up_n ne38]; exact f82
  have f88 : h84 q33 = some (.inl (d.2 0, 4, .inl F83)) := by rw [eh84]; exact tw_up_s
  refine tw_iinc [(5, .int 3), (0, .ref x), (1, .int (nI j)), (2, .int r), (3, .int ct), (4, .ref v)] 0 dX0_init_75 rfl (by decide) (by decide) rfl ?_
  refine tw_goto 52 dX0_init_78 (by decide) ?_
  refine tw_iload 0 dX0_init_52 rfl ?_
  refine tw_iconst (v := 4) dX0_init_54 (by decide) ?_
  refine tw_icmp_ge 81 dX0_init_55 (by decide) (fun c89 => absurd c89 (by decide)) (fun _ => ?_)
  refine tw_aload_n 1 dX0_init_58 rfl rfl ?_
  refine tw_get (v := .ref q19) rfl in_4 6 dX0_init_59 w_511 rfl (by decide) f86 rfl ?_
  refine tw_iload 0 dX0_init_62 rfl ?_
  refine tw_iconst (v := 3) dX0_init_64 (by decide) ?_
  refine tw_iast dX0_init_65 f87 (vp_in_nI (n := 3) (by decide) (by decide)) ?_
  obtain ⟨F90, eF90⟩ : ∃ z : Nat → Int32, z = upd F77 (3 : Int32).toNatClampNeg 3 := ⟨_, rfl⟩
  rw [← eF90]
  obtain ⟨h91, eh91⟩ : ∃ z : tw_H, z = tw_up h84 q19 (.inl (d.2 0, 4, .inl F90)) := ⟨_, rfl⟩
  rw [← eh91]
  have sp92 : tw_sp d τ (tw_rm h x) g τ h91 := by rw [eh91]; exact sp85.wl n22 z23
  have f93 : h91 x = some (.inr (4, [.int (nI j), .int r, .int ct, .ref v, .int 1, .int 1, .ref q19, .ref q33, .null])) := by rw [eh91, tw_up_n ne24]; exact f86
  have f94 : h91 q33 = some (.inl (d.2 0, 4, .inl F83)) := by rw [eh91, tw_up_n (Ne.symm ne38)]; exact f88
  have f95 : h91 q19 = some (.inl (d.2 0, 4, .inl F90)) := by rw [eh91]; exact tw_up_s
  refine tw_aload_n 1 dX0_init_66 rfl rfl ?_
  refine tw_get (v := .ref q33) rfl in_4 7 dX0_init_67 w_512 rfl (by decide) f93 rfl ?_
  refine tw_iload 0 dX0_init_70 rfl ?_
  refine tw_bipush (v := 10) dX0_init_72 (by decide) ?_
  refine tw_iast dX0_init_74 f94 (vp_in_nI (n := 3) (by decide) (by decide)) ?_
  obtain ⟨F96, eF96⟩ : ∃ z : Nat → Int32, z = upd F83 (3 : Int32).toNatClampNeg 10 := ⟨_, rfl⟩
  rw [← eF96]
  obtain ⟨h97, eh97⟩ : ∃ z : tw_H, z = tw_up h91 q33 (.inl (d.2 0, 4, .inl F96)) := ⟨_, rfl⟩
  rw [← eh97]
  have sp98 : tw_sp d τ (tw_rm h x) g τ h97 := by rw [eh97]; exact sp92.wl n36 z37
  have f99 : h97 x = some (.inr (4, [.int (nI j), .int r, .int ct, .ref v, .int 1, .int 1, .ref q19, .ref q33, .null])) := by rw [eh97, tw_up_n ne39]; exact f93
  have f100 : h97 q19 = some (.inl (d.2 0, 4, .inl F90)) := by rw [eh97, tw_up_n ne38]; exact f95
  have f101 : h97 q33 = some (.inl (d.2 0, 4, .inl F96)) := by rw [eh97]; exact tw_up_s
  refine tw_iinc [(5, .int 4), (0, .ref x), (1, .int (nI j)), (2, .int r), (3, .int ct), (4, .ref v)] 0 dX0_init_75 rfl (by decide) (by decide) rfl ?_
  refine tw_goto 52 dX0_init_78 (by decide) ?_
  refine tw_iload 0 dX0_init_52 rfl ?_
  refine tw_iconst (v := 4) dX0_init_54 (by decide) ?_
  refine tw_icmp_ge 81 dX0_init_55 (by decide) (fun _ => ?_) (fun c102 => absurd (by decide) c102)
  refine tw_aload_n 1 dX0_init_81 rfl rfl ?_
  refine tw_new (ci := 8) rfl in_8 tyX4 tyX4_ok dX0_init_82 w_491 w_208 w_90 (fs := [.null]) (fun j hj => by rcases (show j = 0 by omega) with rfl <;> rfl) 3 21 (Nat.le_of_ble_eq_true rfl) (Nat.le_of_ble_eq_true rfl) (fun q103 hq104 hA105 => ?_)
  have n106 := sp98.nn hq104
  have z107 := sp98.1.none hq104
  have ne108 := tw_neF f99 hq104
  have ne109 := tw_neF f100 hq104
  have ne110 := tw_neF f101 hq104
  obtain ⟨h111, eh111⟩ : ∃ z : tw_H, z = tw_up h97 q103 (.inr (8, [.null])) := ⟨_, rfl⟩
  rw [← eh111]
  have sp112 : tw_sp d τ (tw_rm h x) g τ h111 := by rw [eh111]; exact sp98.mk hq104
  have f113 : h111 x = some (.inr (4, [.int (nI j), .int r, .int ct, .ref v, .int 1, .int 1, .ref q19, .ref q33, .null])) := by rw [eh111, tw_up_n ne108]; exact f99
  have f114 : h111 q19 = some (.inl (d.2 0, 4, .inl F90)) := by rw [eh111, tw_up_n ne109]; exact f100
  have f115 : h111 q33 = some (.inl (d.2 0, 4, .inl F96)) := by rw [eh111, tw_up_n ne110]; exact f101
  have f116 : h111 q103 = some (.inr (8, [.null])) := by rw [eh111]; exact tw_up_s
  refine tw_dup dX0_init_85 rfl ?_
  refine tw_bv (tw_callIN (M := mX0_init) (pc := 86) okX4_init dX0_init_86 w_492 rfl [] [.ref q103, .ref x] rfl rfl ⟨by decide, by decide⟩ (Nat.le_of_ble_eq_true rfl) (c2_X4_init d g τ h111 sp112.1 q103 z107 f116) 2 16 (Nat.le_of_ble_eq_true rfl) (Nat.le_of_ble_eq_true rfl)) (fun h118 q117 => ?_) (fun E h1 q => q.elim)
  obtain ⟨m119, qs120, f121, f122, ne123, n124, hm125, z126, fr127⟩ := q117
  have sp128 := sp112.trm n106 qs120
  have f129 := (fr127 x ne108 (by rw [f113]; exact fun z => by cases z)).trans f113
  have ne130 : x ≠ m119 := fun z => by have y := tw_rmN2 n124 z ne108; rw [f113] at y; cases y
  have f131 := (fr127 q19 ne109 (by rw [f114]; exact fun z => by cases z)).trans f114
  have ne132 : q19 ≠ m119 := fun z => by have y := tw_rmN2 n124 z ne109; rw [f114] at y; cases y
  have f133 := (fr127 q33 ne110 (by rw [f115]; exact fun z => by cases z)).trans f115
  have ne134 : q33 ≠ m119 := fun z => by have y := tw_rmN2 n124 z ne110; rw [f115] at y; cases y
  have n135 := sp112.nn hm125
  refine tw_putF rfl in_4 tyX0 tyX0_ok nmX0 8 dX0_init_89 w_513 rfl (by decide) f129 rfl rfl rfl rfl rfl rfl (Nat.le_of_ble_eq_true rfl) [.int (nI j), .int r, .int ct, .ref v, .int 1, .int 1, .ref q19, .ref q33, .ref q103] rfl ?_
  obtain ⟨h136, eh136⟩ : ∃ z : tw_H, z = tw_up h118 x (.inr (4, [.int (nI j), .int r, .int ct, .ref v, .int 1, .int 1, .ref q19, .ref q33, .ref q103])) := ⟨_, rfl⟩
  rw [← eh136]
  have sp137 : tw_sp d τ (tw_rm h x) g τ h136 := by rw [eh136]; exact sp128.wl tw_rm_s hz
  have f138 : h136 q19 = some (.inl (d.2 0, 4, .inl F90)) := by rw [eh136, tw_up_n (Ne.symm ne24)]; exact f131
  have f139 : h136 q33 = some (.inl (d.2 0, 4, .inl F96)) := by rw [eh136, tw_up_n (Ne.symm ne39)]; exact f133
  have f140 : h136 q103 = some (.inr (8, [.ref m119])) := by rw [eh136, tw_up_n (Ne.symm ne108)]; exact f121
  have f141 : h136 m119 = some (.inl (d.2 0, 5, .inl (fun _ => 0))) := by rw [eh136, tw_up_n (Ne.symm ne130)]; exact f122
  have f142 : h136 x = some (.inr (4, [.int (nI j), .int r, .int ct, .ref v, .int 1, .int 1, .ref q19, .ref q33, .ref q103])) := by rw [eh136]; exact tw_up_s
  have fF3 : ∀ k, k < 4 → F90 k = 3 := by
    intro k hk
    rw [eF90, eF77, eF64, eF51]
    rcases (show k = 0 ∨ k = 1 ∨ k = 2 ∨ k = 3 by omega) with rfl | rfl | rfl | rfl <;> rfl
  have fF10 : ∀ k, k < 4 → F96 k = 10 := by
    intro k hk
    rw [eF96, eF83, eF70, eF57]
    rcases (show k = 0 ∨ k = 1 ∨ k = 2 ∨ k = 3 by omega) with rfl | rfl | rfl | rfl <;> rfl
  have oo := tw_gC_o (g := g) (b := 160 + 64 * j) (j := j) (t := q103) (m := m119) (r := r) (c := ct) rfl hj ne24 ne39 ne38
  have ot := tw_gC_t (g := g) (b := 160 + 64 * j) (j := j) (r := r) (c := ct) rfl hj (Ne.symm ne130) (Ne.symm ne132) (Ne.symm ne134) (Ne.symm ne108) (Ne.symm ne109) (Ne.symm ne110) ne123
  have vv := tw_gC_v (g := g) (b := 160 + 64 * j) (x := x) (rd := q19) (rf := q33) (t := q103) (m := m119) (r := r) (c := ct)
  obtain ⟨gC, egC⟩ : ∃ z : tw_G, z = tw_gC g (160 + 64 * j) x q19 q33 q103 m119 r ct := ⟨_, rfl⟩
  rw [← egC] at oo vv ot
  have sp143 : tw_sp d τ (tw_rm h x) gC τ h136 := by rw [egC]; exact sp137.gw2 (tw_gC_w rfl hj h24 hz z23 z37 z107 z126)
  obtain ⟨τ144, eτ144⟩ : ∃ z : tw_K, z = tw_ku τ q19 6 := ⟨_, rfl⟩
  have le145 : tw_le τ τ144 := by rw [eτ144]; exact tw_ku_le z23
  have k146 : τ144 v = 1 := le145.k kv (by decide)
  have sp147 : tw_sp d τ (tw_rm h x) gC τ144 h136 := by rw [eτ144]; exact sp143.ty n22 z23 f138 (by rw [← eτ144]; exact ⟨_, rfl, _, oo.2.1, fun k hk => (fF3 k hk).trans (vv.2.2.2.2.1 k hk).symm⟩)
  have k148 : τ144 q19 = 6 := by rw [eτ144]; exact tw_ku_s
  have z149 : τ144 x = 0 := by rw [eτ144, tw_ku_n ne24]; exact hz
  have z150 : τ144 q33 = 0 := by rw [eτ144, tw_ku_n (Ne.symm ne38)]; exact z37
  have z151 : τ144 q103 = 0 := by rw [eτ144, tw_ku_n (Ne.symm ne109)]; exact z107
  have z152 : τ144 m119 = 0 := by rw [eτ144, tw_ku_n (Ne.symm ne132)]; exact z126
  obtain ⟨τ153, eτ153⟩ : ∃ z : tw_K, z = tw_ku τ144 q33 6 := ⟨_, rfl⟩
  have le154 : tw_le τ144 τ153 := by rw [eτ153]; exact tw_ku_le z150
  have k155 : τ153 v = 1 := le154.k k146 (by decide)
  have k156 : τ153 q19 = 6 := le154.k k148 (by decide)
  have sp157 : tw_sp d τ (tw_rm h x) gC τ153 h136 := by rw [eτ153]; exact sp147.ty n36 z150 f139 (by rw [← eτ153]; exact ⟨_, rfl, _, oo.2.2, fun k hk => (fF10 k hk).trans (vv.2.2.2.2.2 k hk).symm⟩)
  have k158 : τ153 q33 = 6 := by rw [eτ153]; exact tw_ku_s
  have z159 : τ153 x = 0 := by rw [eτ153, tw_ku_n ne39]; exact z149
  have z160 : τ153 q103 = 0 := by rw [eτ153, tw_ku_n (Ne.symm ne110)]; exact z151
  have z161 : τ153 m119 = 0 := by rw [eτ153, tw_ku_n (Ne.symm ne134)]; exact z152
  obtain ⟨τ162, eτ162⟩ : ∃ z : tw_K, z = tw_ku τ153 m119 7 := ⟨_, rfl⟩
  have le163 : tw_le τ153 τ162 := by rw [eτ162]; exact tw_ku_le z161
  have k164 : τ162 v = 1 := le163.k k155 (by decide)
  have k165 : τ162 q19 = 6 := le163.k k156 (by decide)
  have k166 : τ162 q33 = 6 := le163.k k158 (by decide)
  have sp167 : tw_sp d τ (tw_rm h x) gC τ162 h136 := by rw [eτ162]; exact sp157.ty n135 z161 f141 (by rw [← eτ162]; exact ⟨_, rfl, _, ot.1, fun k hk => (ot.2.2 k hk).symm⟩)
  have k168 : τ162 m119 = 7 := by rw [eτ162]; exact tw_ku_s
  have z169 : τ162 x = 0 := by rw [eτ162, tw_ku_n ne130]; exact z159
  have z170 : τ162 q103 = 0 := by rw [eτ162, tw_ku_n ne123]; exact z160
  obtain ⟨τ171, eτ171⟩ : ∃ z : tw_K, z = tw_ku τ162 q103 5 := ⟨_, rfl⟩
  have le172 : tw_le τ162 τ171 := by rw [eτ171]; exact tw_ku_le z170
  have k173 : τ171 v = 1 := le172.k k164 (by decide)
  have k174 : τ171 q19 = 6 := le172.k k165 (by decide)
  have k175 : τ171 q33 = 6 := le172.k k166 (by decide)
  have k176 : τ171 m119 = 7 := le172.k k168 (by decide)
  have sp177 : tw_sp d τ (tw_rm h x) gC τ171 h136 := by rw [eτ171]; exact sp167.ty n106 z170 f140 (by rw [← eτ171]; exact ⟨m119, rfl, k176, ot.1.2.2.2.2.trans ot.2.1.symm⟩)
  have k178 : τ171 q103 = 5 := by rw [eτ171]; exact tw_ku_s
  have z179 : τ171 x = 0 := by rw [eτ171, tw_ku_n ne108]; exact z169
  obtain ⟨τ180, eτ180⟩ : ∃ z : tw_K, z = tw_ku τ171 x 2 := ⟨_, rfl⟩
  have le181 : tw_le τ171 τ180 := by rw [eτ180]; exact tw_ku_le z179
  have k182 : τ180 v = 1 := le181.k k173 (by decide)
  have k183 : τ180 q19 = 6 := le181.k k174 (by decide)
  have k184 : τ180 q33 = 6 := le181.k k175 (by decide)
  have k185 : τ180 m119 = 7 := le181.k k176 (by decide)
  have k186 : τ180 q103 = 5 := le181.k k178 (by decide)
  have sp187 : tw_sp d τ (tw_rm h x) gC τ180 h136 := by rw [eτ180]; exact sp177.ty tw_rm_s z179 f142 (by rw [← eτ180]; exact ⟨nI j, r, ct, 1, 1, v, q19, q33, q103, rfl, k182, k183, k184, k186, (by unfold tw_01; decide), (by unfold tw_01; decide), rlaw.1, rlaw.2, j, oo.1, rfl, vv.1.symm, vv.2.1.symm, vv.2.2.1.symm, vv.2.2.2.1.symm, oo.2.1.2.2.2.2, oo.2.2.2.2.2.2, ot.2.1⟩)
  have k188 : τ180 x = 2 := by rw [eτ180]; exact tw_ku_s
  exact tw_vret dX0_init_92 rfl (Or.inl ⟨rfl, q19, q33, q103, m119, _, by rw [← egC]; exact sp187.toini k188⟩)

set_option maxHeartbeats 4000000 in
set_option maxRecDepth 100000 in
theorem c2_X5_country (d : tw_D) (g : tw_G) (τ : tw_K) (h : tw_H) (hw : tw_wt d g τ h) (x : Nat) (kx : τ x = 11) (r : Int32) (ct : Int32) (go : Int32) (si : Int32) (he6 : g.2 6 = g.2 0) (he24 : g.2 24 = 160 + 64 * g.2 0) : tw_Ct d mX5_country 20 120 [.ref x, .int r, .int ct, .int go, .int si] h (tw_qi (fun r9 h1 => r9 = nI (g.2 0) ∧ tw_RC r ct go si ∧ g.2 0 < 4 ∧ ∃ y9 d9 f9 t9 m9 τ1, tw_sp d τ h (tw_gI (tw_gC g (160 + 64 * g.2 0) y9 d9 f9 t9 m9 r ct) 6 0) τ1 h1) (fun E h1 => (E = tw_IAE ∧ ¬ tw_RC r ct go si ∨ E = tw_ISE ∧ tw_RC r ct go si ∧ ¬ g.2 0 < 4) ∧ ∃ τ1, tw_sp d τ h g τ1 h1)) := by
  refine tw_of (by decide +kernel) (Nat.le_of_ble_eq_true rfl) ?_
  show tw_W d mX5_country _ 0 [(0, .ref x), (1, .int r), (2, .int ct), (3, .int go), (4, .int si)] [] h 20 120
  have sp0 := tw_sp.rf hw
  refine tw_iload_n 1 dX5_country_0 rfl rfl ?_
  refine tw_iload_n 2 dX5_country_1 rfl rfl ?_
  refine tw_bv (tw_callS (M := mX5_country) (pc := 2) okX5_needLaw dX5_country_2 w_396 [.int r, .int ct] [] rfl rfl ⟨by decide, by decide⟩ (Nat.le_of_ble_eq_true rfl) (c2_X5_needLaw d g τ h sp0.1 r ct) 18 108 (Nat.le_of_ble_eq_true rfl) (Nat.le_of_ble_eq_true rfl)) (fun h2 q1 => ?_) (fun E h1 q1 => Or.inr ⟨E, rfl, Or.inl ⟨q1.1, fun z => q1.2.2 ⟨z.1, z.2.1⟩⟩, τ, by rw [q1.2.1]; exact sp0⟩)
  obtain ⟨q1e, q1l⟩ := q1
  rw [q1e]
  refine tw_iload_n 3 dX5_country_5 rfl rfl ?_
  refine tw_iconst (v := 0) dX5_country_6 (by decide) ?_
  refine tw_ldc (v := 99999) dX5_country_7 w_470 ?_
  refine tw_bv (tw_callS (M := mX5_country) (pc := 9) okX5_needRange dX5_country_9 w_399 [.int go, .int 0, .int 99999] [] rfl rfl ⟨by decide, by decide⟩ (Nat.le_of_ble_eq_true rfl) (c2_X5_needRange d g τ h sp0.1 go 0 99999) 17 102 (Nat.le_of_ble_eq_true rfl) (Nat.le_of_ble_eq_true rfl)) (fun h4 q3 => ?_) (fun E h1 q3 => Or.inr ⟨E, rfl, Or.inl ⟨q3.1, fun z => q3.2.2 z.2.2.1⟩, τ, by rw [q3.2.1]; exact sp0⟩)
  obtain ⟨q3e, q3l⟩ := q3
  rw [q3e]
  refine tw_iload 4 dX5_country_12 rfl ?_
  refine tw_iconst (v := 0) dX5_country_14 (by decide) ?_
  refine tw_ldc (v := 99999) dX5_country_15 w_470 ?_
  refine tw_bv (tw_callS (M := mX5_country) (pc := 17) okX5_needRange dX5_country_17 w_399 [.int si, .int 0, .int 99999] [] rfl rfl ⟨by decide, by decide⟩ (Nat.le_of_ble_eq_true rfl) (c2_X5_needRange d g τ h sp0.1 si 0 99999) 16 96 (Nat.le_of_ble_eq_true rfl) (Nat.le_of_ble_eq_true rfl)) (fun h6 q5 => ?_) (fun E h1 q5 => Or.inr ⟨E, rfl, Or.inl ⟨q5.1, fun z => q5.2.2 z.2.2.2⟩, τ, by rw [q5.2.1]; exact sp0⟩)
  obtain ⟨q5e, q5l⟩ := q5
  rw [q5e]
  have rc : tw_RC r ct go si := ⟨q1l.1, q1l.2, q3l, q5l⟩
  refine tw_aload_n 0 dX5_country_20 rfl rfl ?_
  obtain ⟨e7, f8, td_9, ca_10, ha_11, da_12, c1_13, c2_14, c3_15, c4_16, rfl, k17, k18, k19, k20, k21, k22, k23, k24, k25, k26, k27, k28, k29⟩ := sp0.1 x 11 kx (by decide)
  refine tw_get (v := .int (nI (g.2 0))) rfl in_9 3 dX5_country_21 w_143 rfl (by decide) f8 rfl ?_
  refine tw_aload_n 0 dX5_country_24 rfl rfl ?_
  refine tw_get (v := .ref ca_10) rfl in_9 2 dX5_country_25 w_142 rfl (by decide) f8 rfl ?_
  obtain ⟨e30, f31, F32, rfl, k33, pn34, pb35, px36, pf37⟩ := sp0.1 ca_10 8 k17 (by decide)
  refine tw_alen (v := nI 4) 4 rfl dX5_country_28 f31 rfl ?_
  refine tw_icmp_lt 42 dX5_country_29 (by decide) (fun c38 => ?_) (fun c38 => ?_)
  · refine tw_aload_n 0 dX5_country_42 rfl rfl ?_
    refine tw_get (v := .int (nI (g.2 0))) rfl in_9 3 dX5_country_43 w_143 rfl (by decide) f8 rfl ?_
    refine tw_istore [(5, .int (nI (g.2 0))), (0, .ref x), (1, .int r), (2, .int ct), (3, .int go), (4, .int si)] dX5_country_46 (by decide) rfl ?_
    refine tw_aload_n 1 dX5_country_48 rfl rfl ?_
    refine tw_get (v := .ref ca_10) rfl in_9 2 dX5_country_49 w_142 rfl (by decide) f8 rfl ?_
    refine tw_iload 0 dX5_country_52 rfl ?_
    refine tw_new (ci := 4) rfl in_4 tyX0 tyX0_ok dX5_country_54 w_119 w_229 w_89 (fs := [.int 0, .int 0, .int 0, .null, .int 0, .int 0, .null, .null, .null]) (fun j hj => by rcases (show j = 0 ∨ j = 1 ∨ j = 2 ∨ j = 3 ∨ j = 4 ∨ j = 5 ∨ j = 6 ∨ j = 7 ∨ j = 8 by omega) with rfl | rfl | rfl | rfl | rfl | rfl | rfl | rfl | rfl <;> rfl) 15 87 (Nat.le_of_ble_eq_true rfl) (Nat.le_of_ble_eq_true rfl) (fun q39 hq40 hA41 => ?_)
    have n42 := sp0.nn hq40
    have z43 := sp0.1.none hq40
    obtain ⟨h44, eh44⟩ : ∃ z : tw_H, z = tw_up h q39 (.inr (4, [.int 0, .int 0, .int 0, .null, .int 0, .int 0, .null, .null, .null])) := ⟨_, rfl⟩
    rw [← eh44]
    have sp45 : tw_sp d τ h g τ h44 := by rw [eh44]; exact sp0.mk hq40
    have f46 : h44 q39 = some (.inr (4, [.int 0, .int 0, .int 0, .null, .int 0, .int 0, .null, .null, .null])) := by rw [eh44]; exact tw_up_s
    refine tw_dup dX5_country_57 rfl ?_
    refine tw_iload 0 dX5_country_58 rfl ?_
    refine tw_iload_n 2 dX5_country_60 rfl rfl ?_
    refine tw_iload_n 3 dX5_country_61 rfl rfl ?_
    refine tw_new (ci := 7) rfl in_7 tyX3 tyX3_ok dX5_country_62 w_125 w_126 w_78 (fs := [.int 0, .int 0]) (fun j hj => by rcases (show j = 0 ∨ j = 1 by omega) with rfl | rfl <;> rfl) 14 85 (Nat.le_of_ble_eq_true rfl) (Nat.le_of_ble_eq_true rfl) (fun q47 hq48 hA49 => ?_)
    have n50 := sp45.nn hq48
    have z51 := sp45.1.none hq48
    have ne52 := tw_neF f46 hq48
    obtain ⟨h53, eh53⟩ : ∃ z : tw_H, z = tw_up h44 q47 (.inr (7, [.int 0, .int 0])) := ⟨_, rfl⟩
    rw [← eh53]
    have sp54 : tw_sp d τ h g τ h53 := by rw [eh53]; exact sp45.mk hq48
    have f55 : h53 q39 = some (.inr (4, [.int 0, .int 0, .int 0, .null, .int 0, .int 0, .null, .null, .null])) := by rw [eh53, tw_up_n ne52]; exact f46
    have f56 : h53 q47 = some (.inr (7, [.int 0, .int 0])) := by rw [eh53]; exact tw_up_s
    refine tw_dup dX5_country_65 rfl ?_
    refine tw_iload_n 4 dX5_country_66 rfl rfl ?_
    refine tw_iload 5 dX5_country_67 rfl ?_
    refine tw_bv (tw_callIN (M := mX5_country) (pc := 69) okX3_init dX5_country_69 w_127 rfl [.int go, .int si] [.ref q47, .int ct, .int r, .int (nI (g.2 0)), .ref q39, .ref q39, .int (nI (g.2 0)), .ref ca_10] rfl rfl ⟨by decide, by decide⟩ (Nat.le_of_ble_eq_true rfl) (c_X3_init d g τ h53 sp54.1 q47 z51 f56 go si) 14 85 (Nat.le_of_ble_eq_true rfl) (Nat.le_of_ble_eq_true rfl)) (fun h60 q59 => ?_) (fun E h1 q => q.elim)
    obtain ⟨τ61, qi62⟩ := q59
    have sp63 := sp54.ini n50 qi62
    have k64 : τ61 x = 11 := qi62.2.1.k kx (by decide)
    have k65 : τ61 ca_10 = 8 := qi62.2.1.k k17 (by decide)
    have k66 : τ61 ha_11 = 9 := qi62.2.1.k k18 (by decide)
    have k67 : τ61 da_12 = 10 := qi62.2.1.k k19 (by decide)
    have k68 : τ61 c1_13 = 1 := qi62.2.1.k k20 (by decide)
    have k69 : τ61 c2_14 = 1 := qi62.2.1.k k21 (by decide)
    have k70 : τ61 c3_15 = 1 := qi62.2.1.k k22 (by decide)
    have k71 : τ61 c4_16 = 1 := qi62.2.1.k k23 (by decide)
    have k72 : τ61 q47 = 1 := qi62.2.2.1
    have f73 := (qi62.2.2.2 _ _ ne52 f55 z43).1
    have z74 := (qi62.2.2.2 _ _ ne52 f55 z43).2
    have lt0 : g.2 0 < 4 := tw_klt2 c38 k24 (by decide)
    refine tw_bv (tw_callIN (M := mX5_country) (pc := 72) okX0_init dX5_country_72 w_487 rfl [.int (nI (g.2 0)), .int r, .int ct, .ref q47] [.ref q39, .int (nI (g.2 0)), .ref ca_10] rfl rfl ⟨by decide, by decide⟩ (Nat.le_of_ble_eq_true rfl) (c2_X0_init d g τ61 h60 sp63.1 q39 z74 f73 (g.2 0) lt0 he24 r ct q47 k72 q1l.1) 8 55 (Nat.le_of_ble_eq_true rfl) (Nat.le_of_ble_eq_true rfl)) (fun h76 q75 => ?_) (fun E h1 q => q.elim)
    obtain ⟨d9, f9, t9, m9, τ77, qi78⟩ := q75
    obtain ⟨gC, egC⟩ : ∃ z : tw_G, z = tw_gC g (160 + 64 * g.2 0) q39 d9 f9 t9 m9 r ct := ⟨_, rfl⟩
    rw [← egC] at qi78
    have gc0 : gC.2 0 = g.2 0 := by rw [egC]; exact tw_gC_2 (by decide) (by omega) (by omega)
    have gc6 : gC.2 6 = g.2 0 := by rw [egC, ← he6]; exact tw_gC_2 (by decide) (by omega) (by omega)
    have gcx : gC.2 (4096 + q39) = 160 + 64 * g.2 0 := by rw [egC]; unfold tw_gC; dsimp only; rw [if_neg (by omega), if_neg (by omega), if_neg (by omega), if_neg (by omega), if_neg (by omega), if_pos rfl]
    have sp79 := sp63.ini n42 qi78
    have k80 : τ77 x = 11 := qi78.2.1.k k64 (by decide)
    have k81 : τ77 ca_10 = 8 := qi78.2.1.k k65 (by decide)
    have k82 : τ77 ha_11 = 9 := qi78.2.1.k k66 (by decide)
    have k83 : τ77 da_12 = 10 := qi78.2.1.k k67 (by decide)
    have k84 : τ77 c1_13 = 1 := qi78.2.1.k k68 (by decide)
    have k85 : τ77 c2_14 = 1 := qi78.2.1.k k69 (by decide)
    have k86 : τ77 c3_15 = 1 := qi78.2.1.k k70 (by decide)
    have k87 : τ77 c4_16 = 1 := qi78.2.1.k k71 (by decide)
    have k88 : τ77 q47 = 1 := qi78.2.1.k k72 (by decide)
    have k89 : τ77 q39 = 2 := qi78.2.2.1
    obtain ⟨e90, f91, F92, rfl, k93, pn94, pb95, px96, pf97⟩ := sp79.1 ca_10 8 k81 (by decide)
    obtain ⟨e98, f99, n_100, r_101, c_102, go_103, so_104, v_105, rd_106, rf_107, t_108, rfl, k109, k110, k111, k112, k113, k114, k115, k116, k117⟩ := sp79.1 q39 2 k89 (by decide)
    refine tw_aast (ci := 4) 4 rfl rfl dX5_country_75 f91 f99 (vp_in_nI lt0 (by decide)) ?_
    obtain ⟨gA, eA⟩ : ∃ z : tw_G, z = tw_g2 gC 6 (gC.2 6 + 1) := ⟨_, rfl⟩
    have ga1 : ∀ i, i ≠ 6 → gA.2 i = gC.2 i := by rw [eA]; intro i hi; exact if_neg hi
    have cl0 : (nI (g.2 0)).toNatClampNeg = gC.2 6 := by rw [nI_clamp (by omega), gc6]
    obtain ⟨h118, eh118⟩ : ∃ z : tw_H, z = tw_up h76 ca_10 (.inl (d.2 4, 4, .inr (.inr (.inr (.inr (va_up F92 (nI (g.2 0)).toNatClampNeg (some q39))))))) := ⟨_, rfl⟩
    rw [← eh118]
    have sp119 : tw_sp d τ h gA τ77 h118 := by rw [eh118]; exact sp79.g8 k81 ⟨_, rfl, tw_okup k93 k89, by rw [eA, cl0]; exact tw_ixup pn94, by rw [eA]; show gC.2 6 + 1 ≤ 4; rw [gc6]; exact lt0, by rw [ga1 18 (by decide)]; exact px96, fun j q hq => by rw [ga1 _ (by omega)]; rw [cl0] at hq; unfold va_up at hq; by_cases z : j = gC.2 6; (rw [if_pos z] at hq; cases hq; rw [z, gc6]; exact gcx); (rw [if_neg z] at hq; exact pf97 j q hq)⟩ (by rw [eA]; rfl) ga1
    refine tw_aload_n 1 dX5_country_76 rfl rfl ?_
    refine tw_iload 0 dX5_country_77 rfl ?_
    refine tw_iconst (v := 1) dX5_country_79 (by decide) ?_
    refine tw_iadd dX5_country_80 ?_
    refine tw_nmi (fun v120 ev120 => ?_)
    obtain ⟨e121, f122, td_123, ca_124, ha_125, da_126, c1_127, c2_128, c3_129, c4_130, rfl, k131, k132, k133, k134, k135, k136, k137, k138, k139, k140, k141, k142, k143⟩ := sp119.1 x 11 k80 (by decide)
    obtain ⟨gB, eB⟩ : ∃ z : tw_G, z = tw_g2 gA 0 (gA.2 0 + 1) := ⟨_, rfl⟩
    have eGG : gB = tw_gI gC 6 0 := by rw [eB, eA]; rfl
    have q144 : v120 = nI (gB.2 0) := by rw [ev120, nI_1, eB]; show nI (g.2 0 + 1) = nI (gA.2 0 + 1); rw [ga1 0 (by decide), gc0]
    subst q144
    have egB : gB = tw_g2 gA 0 (gA.2 0 + 1) := eB
    refine tw_put rfl in_9 tyX5 tyX5_ok nmX5 3 dX5_country_81 w_143 rfl (by decide) f122 rfl rfl rfl rfl (Nat.le_of_ble_eq_true rfl) [.int td_123, .int (gA.1 0), .ref ca_124, .int (nI (gB.2 0)), .ref ha_125, .int (nI (gA.2 1)), .ref da_126, .int (nI (gA.2 2)), .ref c1_127, .ref c2_128, .ref c3_129, .ref c4_130] rfl ?_
    obtain ⟨h145, eh145⟩ : ∃ z : tw_H, z = tw_up h118 x (.inr (9, [.int td_123, .int (gA.1 0), .ref ca_124, .int (nI (gB.2 0)), .ref ha_125, .int (nI (gA.2 1)), .ref da_126, .int (nI (gA.2 2)), .ref c1_127, .ref c2_128, .ref c3_129, .ref c4_130])) := ⟨_, rfl⟩
    rw [← eh145]
    have sp146 : tw_sp d τ h gB τ77 h145 := by rw [eh145]; exact sp119.g11 k80 ⟨td_123, ca_124, ha_125, da_126, c1_127, c2_128, c3_129, c4_130, (by rw [egB]; rfl), k131, k132, k133, k134, k135, k136, k137, (by rw [egB]; exact (show gA.2 0 + 1 ≤ 4 by rw [ga1 0 (by decide), gc0]; exact lt0)), (by rw [egB]; exact k139), (by rw [egB]; exact k140), (by rw [egB]; exact k141), (by rw [egB]; exact k142), (by rw [egB]; exact k143)⟩ (by rw [egB]; intro i hi; rfl) (by rw [egB]; intro i hi hj; exact if_neg (by omega))
    refine tw_aload_n 1 dX5_country_84 rfl rfl ?_
    obtain ⟨e147, f148, td_149, ca_150, ha_151, da_152, c1_153, c2_154, c3_155, c4_156, rfl, k157, k158, k159, k160, k161, k162, k163, k164, k165, k166, k167, k168, k169⟩ := sp146.1 x 11 k80 (by decide)
    refine tw_get (v := .ref c4_156) rfl in_9 11 dX5_country_85 w_151 rfl (by decide) f148 rfl ?_
    refine tw_iconst (v := 0) dX5_country_88 (by decide) ?_
    refine tw_iload_n 4 dX5_country_89 rfl rfl ?_
    obtain ⟨e172, f173, a_174, b_175, rfl⟩ := sp146.1 c4_156 1 k163 (by decide)
    refine tw_bv (tw_callVN (M := mX5_country) (pc := 90) okX3_add dX5_country_90 w_534 rfl f173 [.int 0, .int go] [] rfl rfl ⟨by decide, by decide⟩ (Nat.le_of_ble_eq_true rfl) (c_X3_add d gB τ77 h145 sp146.1 c4_156 k163 0 go) 8 55 (Nat.le_of_ble_eq_true rfl) (Nat.le_of_ble_eq_true rfl)) (fun h177 q176 => ?_) (fun E h1 q => q.elim)
    have q176s := q176
    have sp179 := sp146.tr q176s
    refine tw_aload_n 1 dX5_country_93 rfl rfl ?_
    obtain ⟨e181, f182, td_183, ca_184, ha_185, da_186, c1_187, c2_188, c3_189, c4_190, rfl, k191, k192, k193, k194, k195, k196, k197, k198, k199, k200, k201, k202, k203⟩ := sp179.1 x 11 k80 (by decide)
    refine tw_get (v := .ref c4_190) rfl in_9 11 dX5_country_94 w_151 rfl (by decide) f182 rfl ?_
    refine tw_iconst (v := 1) dX5_country_97 (by decide) ?_
    refine tw_iload 5 dX5_country_98 rfl ?_
    obtain ⟨e206, f207, a_208, b_209, rfl⟩ := sp179.1 c4_190 1 k197 (by decide)
    refine tw_bv (tw_callVN (M := mX5_country) (pc := 100) okX3_add dX5_country_100 w_534 rfl f207 [.int 1, .int si] [] rfl rfl ⟨by decide, by decide⟩ (Nat.le_of_ble_eq_true rfl) (c_X3_add d gB τ77 h177 sp179.1 c4_190 k197 1 si) 8 55 (Nat.le_of_ble_eq_true rfl) (Nat.le_of_ble_eq_true rfl)) (fun h211 q210 => ?_) (fun E h1 q => q.elim)
    have q210s := q210
    have sp213 := sp179.tr q210s
    refine tw_iload 0 dX5_country_103 rfl ?_
    exact tw_iret dX5_country_105 rfl (Or.inl ⟨_, rfl, rfl, rc, lt0, _, d9, f9, t9, m9, _, by rw [← egC, ← eGG]; exact sp213⟩)
  · exact tw_throwS (i := 1) (by decide +kernel) w_471 w_88 rfl at_ISE dX5_country_32 dX5_country_35 dX5_country_36 dX5_country_38 dX5_country_41 ⟨by decide, Nat.le_of_ble_eq_true rfl⟩ (Nat.le_of_ble_eq_true rfl) (Nat.le_of_ble_eq_true rfl) (Or.inr ⟨_, rfl, Or.inr ⟨rfl, rc, fun z => c38 (nI_lt z (by decide))⟩, _, sp0⟩)

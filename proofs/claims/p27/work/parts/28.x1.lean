/-! the class's methods over the typed heap. Laid by wip/p5/mkclass.py. -/
def tw_RC (r ct go si : Int32) : Prop := (100 ≤ r ∧ r ≤ 200) ∧ (0 ≤ ct ∧ ct ≤ 50) ∧ (0 ≤ go ∧ go ≤ 99999) ∧ 0 ≤ si ∧ si ≤ 99999
def tw_RL (r ct : Int32) : Prop := (100 ≤ r ∧ r ≤ 200) ∧ (0 ≤ ct ∧ ct ≤ 50)
theorem tw_thF {d : tw_D} {g : tw_G} {τ : tw_K} {h : tw_H} {x q : Nat} (hw : tw_wt d g τ h) (kx : τ x = 36) (hq : h q = none) : x ≠ q := fun z => by
  have := hw.none hq
  rw [← z, kx] at this
  cases this
theorem tw_nz {τ : tw_K} {x a k : Nat} (kx : τ x = 36) (ka : τ a = k) (n : k ≠ 36) : x ≠ a := fun z => n (by rw [← ka, ← z, kx])
theorem tw_nk {τ : tw_K} {o a k j : Nat} (ko : τ o = j) (ka : τ a = k) (n : k ≠ j) : o ≠ a := fun z => n (by rw [← ka, ← z, ko])
theorem tw_kF {d : tw_D} {g : tw_G} {τ : tw_K} {h : tw_H} {o q j : Nat} (hw : tw_wt d g τ h) (ko : τ o = j) (n : j ≠ 0) (hq : h q = none) : o ≠ q := fun z => n (by rw [← ko, z]; exact hw.none hq)
theorem tw_some {d : tw_D} {g : tw_G} {τ : tw_K} {h : tw_H} {o j : Nat} (hw : tw_wt d g τ h) (ko : τ o = j) (n : j ≠ 0) : h o ≠ none := fun z => by obtain ⟨e, y, -⟩ := hw o j ko n; rw [z] at y; cases y
theorem tw_rmN {h : tw_H} {x q b : Nat} (w : tw_rm h x q = none) (z : b = q) (n1 : b ≠ x) : h b = none := by
  subst z
  exact (if_neg n1).symm.trans w
/-- one list has grown by one -/
def tw_gk (k : Nat) (g g1 : tw_G) : Prop := tw_ga g g1 ∧ g1.2 k = g.2 k + 1 ∧ (∀ i, (i < 10 ∨ i = 21 ∨ i = 22 ∨ i = 24 ∨ 128 ≤ i) → i ≠ k → g1.2 i = g.2 i) ∧ ∀ i, 128 ≤ i → g1.1 i = g.1 i
set_option maxHeartbeats 4000000 in
set_option maxRecDepth 100000 in
theorem c2_X5_needLaw (d : tw_D) (g : tw_G) (τ : tw_K) (h : tw_H) (hw : tw_wt d g τ h) (r ct : Int32) : tw_Ct d mX5_needLaw 2 12 [.int r, .int ct] h (tw_qv (fun h1 => h1 = h ∧ tw_RL r ct) (fun E h1 => E = tw_IAE ∧ h1 = h ∧ ¬ tw_RL r ct)) := by
  refine tw_of (by decide +kernel) (Nat.le_of_ble_eq_true rfl) ?_
  show tw_W d mX5_needLaw _ 0 [(0, .int r), (1, .int ct)] [] h 2 12
  have sp0 := tw_sp.rf hw
  refine tw_iload_n 0 dX5_needLaw_0 rfl rfl ?_
  refine tw_bipush (v := 100) dX5_needLaw_1 (by decide) ?_
  refine tw_sipush (v := 200) dX5_needLaw_3 (by decide) ?_
  refine tw_bv (tw_callS (M := mX5_needLaw) (pc := 6) okX5_needRange dX5_needLaw_6 w_399 [.int r, .int 100, .int 200] [] rfl rfl ⟨by decide, by decide⟩ (Nat.le_of_ble_eq_true rfl) (c2_X5_needRange d g τ h sp0.1 r 100 200) 1 6 (Nat.le_of_ble_eq_true rfl) (Nat.le_of_ble_eq_true rfl)) (fun h2 q1 => ?_) (fun E h1 q => Or.inr ⟨E, rfl, q.1, q.2.1, fun z => q.2.2 z.1⟩)
  obtain ⟨q1e, q1l⟩ := q1
  rw [q1e]
  refine tw_iload_n 1 dX5_needLaw_9 rfl rfl ?_
  refine tw_iconst (v := 0) dX5_needLaw_10 (by decide) ?_
  refine tw_bipush (v := 50) dX5_needLaw_11 (by decide) ?_
  refine tw_bv (tw_callS (M := mX5_needLaw) (pc := 13) okX5_needRange dX5_needLaw_13 w_399 [.int ct, .int 0, .int 50] [] rfl rfl ⟨by decide, by decide⟩ (Nat.le_of_ble_eq_true rfl) (c2_X5_needRange d g τ h sp0.1 ct 0 50) 0 0 (Nat.le_of_ble_eq_true rfl) (Nat.le_of_ble_eq_true rfl)) (fun h4 q3 => ?_) (fun E h1 q => Or.inr ⟨E, rfl, q.1, q.2.1, fun z => q.2.2 z.2⟩)
  obtain ⟨q3e, q3l⟩ := q3
  rw [q3e]
  exact tw_vret dX5_needLaw_16 rfl (Or.inl ⟨rfl, rfl, q1l, q3l⟩)

def tw_RH (go si : Int32) : Prop := (0 ≤ go ∧ go ≤ 99999) ∧ 0 ≤ si ∧ si ≤ 99999
def tw_RO (a b v dy : Int32) : Prop := a ≠ b ∧ (1 ≤ v ∧ v ≤ 9999) ∧ 0 ≤ dy ∧ dy ≤ 1000
/-- the number of one of m things -/
def tw_ix (m : Nat) (n : Int32) : Prop := ∃ j, j < m ∧ n = nI j
/-- two counts go on by one -/
def tw_gI (g : tw_G) (a b : Nat) : tw_G := tw_g2 (tw_g2 g a (g.2 a + 1)) b (g.2 b + 1)
theorem tw_ix_lt {m : Nat} {n : Int32} (hm : m ≤ 10) (c : n < 0) : ¬ tw_ix m n := by
  rintro ⟨j, hj, rfl⟩
  rw [Int32.lt_iff_toInt_lt, nI_toInt (by omega), show (0 : Int32).toInt = 0 by decide] at c
  omega
theorem tw_ix_ge {m N : Nat} {n : Int32} (hm : m ≤ N) (hN : N ≤ 10) (c : nI N ≤ n) : ¬ tw_ix m n := by
  rintro ⟨j, hj, rfl⟩
  rw [Int32.le_iff_toInt_le, nI_toInt (by omega), nI_toInt (by omega)] at c
  omega
theorem tw_ix_no {F : Nat → Option Nat} {m N : Nat} {n : Int32} (pn : ∀ j, j < N → (F j = none ↔ m ≤ j)) (pb : m ≤ N) (hN : N ≤ 10) (hv : F n.toNatClampNeg = none) : ¬ tw_ix m n := by
  rintro ⟨j, hj, rfl⟩
  rw [nI_clamp (by omega)] at hv
  have := (pn j (by omega)).mp hv
  omega
theorem tw_ix_so {F : Nat → Option Nat} {m N q : Nat} {n : Int32} (pn : ∀ j, j < N → (F j = none ↔ m ≤ j)) (c1 : ¬ n < 0) (c2 : ¬ nI N ≤ n) (hv : F n.toNatClampNeg = some q) : tw_ix m n := by
  obtain ⟨j, hj, rfl⟩ := nI_of c1
  rw [nI_clamp hj] at hv
  have hN : j < N := by
    rcases Nat.lt_or_ge j N with z | z
    · exact z
    · exact absurd (nI_le z hj) c2
  refine ⟨j, ?_, rfl⟩
  rcases Nat.lt_or_ge j m with z | z
  · exact z
  · rw [(pn j hN).mpr z] at hv; cases hv
theorem tw_ixup {F : Nat → Option Nat} {m N b : Nat} (pn : ∀ j, j < N → (F j = none ↔ m ≤ j)) : ∀ j, j < N → (va_up F m (some b) j = none ↔ m + 1 ≤ j) := by
  intro j hj
  unfold va_up
  by_cases q : j = m
  · rw [if_pos q]; exact ⟨fun z => (by cases z), fun z => absurd z (by omega)⟩
  · rw [if_neg q]; exact (pn j hj).trans ⟨fun z => (by omega), fun z => (by omega)⟩
theorem tw_b678 {d : tw_D} {g : tw_G} {τ : tw_K} {h : tw_H} {x : Nat} (hw : tw_wt d g τ h) (kx : τ x = 11) : g.2 6 ≤ 4 ∧ g.2 7 ≤ 6 ∧ g.2 8 ≤ 10 := by
  obtain ⟨e, he, td, ca, ha, da, c1, c2, c3, c4, h1, k1, k2, k3, -⟩ := hw x 11 kx (by decide)
  obtain ⟨_, _, _, _, _, _, b6, _⟩ := hw ca 8 k1 (by decide)
  obtain ⟨_, _, _, _, _, _, b7, _⟩ := hw ha 9 k2 (by decide)
  obtain ⟨_, _, _, _, _, _, b8, _⟩ := hw da 10 k3 (by decide)
  exact ⟨b6, b7, b8⟩
set_option maxHeartbeats 4000000 in
set_option maxRecDepth 100000 in
theorem c2_X5_countryAt (d : tw_D) (g : tw_G) (τ : tw_K) (h : tw_H) (hw : tw_wt d g τ h) (x : Nat) (kx : τ x = 11) (n : Int32) : tw_Ct d mX5_countryAt 1 6 [.ref x, .int n] h (tw_qr (fun r h1 => h1 = h ∧ τ r = 2 ∧ tw_ix (g.2 6) n) (fun E h1 => E = tw_IOE ∧ h1 = h ∧ ¬ tw_ix (g.2 6) n)) := by
  refine tw_of (by decide +kernel) (Nat.le_of_ble_eq_true rfl) ?_
  show tw_W d mX5_countryAt _ 0 [(0, .ref x), (1, .int n)] [] h 1 6
  have sp0 := tw_sp.rf hw
  have b9 := tw_b678 hw kx
  refine tw_iload_n 1 dX5_countryAt_0 rfl rfl ?_
  refine tw_if_lt 22 dX5_countryAt_1 (by decide) (fun c1 => ?_) (fun c1 => ?_)
  · exact tw_throwSW (i := 2) (by decide +kernel) w_550 w_96 rfl at_IOE dX5_countryAt_22 dX5_countryAt_25 dX5_countryAt_26 dX5_countryAt_29 dX5_countryAt_32 ⟨by decide, Nat.le_of_ble_eq_true rfl⟩ (Nat.le_of_ble_eq_true rfl) (Nat.le_of_ble_eq_true rfl) (Or.inr ⟨_, rfl, rfl, rfl, tw_ix_lt (by omega) c1⟩)
  · refine tw_iload_n 1 dX5_countryAt_4 rfl rfl ?_
    refine tw_aload_n 0 dX5_countryAt_5 rfl rfl ?_
    obtain ⟨e2, f3, td_4, ca_5, ha_6, da_7, c1_8, c2_9, c3_10, c4_11, rfl, k12, k13, k14, k15, k16, k17, k18, k19, k20, k21, k22, k23, k24, k25, k26, k27, k28⟩ := sp0.1 x 11 kx (by decide)
    refine tw_get (v := .ref ca_5) rfl in_9 2 dX5_countryAt_6 w_142 rfl (by decide) f3 rfl ?_
    obtain ⟨e29, f30, F31, rfl, k32, pn33, pb34, px35, pf36⟩ := sp0.1 ca_5 8 k12 (by decide)
    refine tw_alen (v := nI 4) 4 rfl dX5_countryAt_9 f30 rfl ?_
    refine tw_icmp_ge 22 dX5_countryAt_10 (by decide) (fun c37 => ?_) (fun c37 => ?_)
    · exact tw_throwSW (i := 2) (by decide +kernel) w_550 w_96 rfl at_IOE dX5_countryAt_22 dX5_countryAt_25 dX5_countryAt_26 dX5_countryAt_29 dX5_countryAt_32 ⟨by decide, Nat.le_of_ble_eq_true rfl⟩ (Nat.le_of_ble_eq_true rfl) (Nat.le_of_ble_eq_true rfl) (Or.inr ⟨_, rfl, rfl, rfl, tw_ix_ge (N := 4) b9.1 (by decide) c37⟩)
    · refine tw_aload_n 0 dX5_countryAt_13 rfl rfl ?_
      refine tw_get (v := .ref ca_5) rfl in_9 2 dX5_countryAt_14 w_142 rfl (by decide) f3 rfl ?_
      refine tw_iload_n 1 dX5_countryAt_17 rfl rfl ?_
      cases k38 : F31 (n).toNatClampNeg with
      | none =>
        refine tw_aald (v := .null) 4 rfl rfl dX5_countryAt_18 f30 (tw_ib2 c1 c37 (by decide)) (by rw [k38]; rfl) ?_
        refine tw_ifnonnullN dX5_countryAt_19 ?_
        exact tw_throwSW (i := 2) (by decide +kernel) w_550 w_96 rfl at_IOE dX5_countryAt_22 dX5_countryAt_25 dX5_countryAt_26 dX5_countryAt_29 dX5_countryAt_32 ⟨by decide, Nat.le_of_ble_eq_true rfl⟩ (Nat.le_of_ble_eq_true rfl) (Nat.le_of_ble_eq_true rfl) (Or.inr ⟨_, rfl, rfl, rfl, tw_ix_no pn33 pb34 (by decide) k38⟩)
      | some q39 =>
        have k40 := k32 _ _ k38
        refine tw_aald (v := .ref q39) 4 rfl rfl dX5_countryAt_18 f30 (tw_ib2 c1 c37 (by decide)) (by rw [k38]; rfl) ?_
        refine tw_ifnonnull 33 dX5_countryAt_19 (by decide) ?_
        refine tw_aload_n 0 dX5_countryAt_33 rfl rfl ?_
        refine tw_get (v := .ref ca_5) rfl in_9 2 dX5_countryAt_34 w_142 rfl (by decide) f3 rfl ?_
        refine tw_iload_n 1 dX5_countryAt_37 rfl rfl ?_
        refine tw_aald (v := .ref q39) 4 rfl rfl dX5_countryAt_38 f30 (tw_ib2 c1 c37 (by decide)) (by rw [k38]; rfl) ?_
        exact tw_aret dX5_countryAt_39 rfl (Or.inl ⟨_, rfl⟩) (Or.inl ⟨_, rfl, rfl, k40, tw_ix_so pn33 c1 c37 k38⟩)

set_option maxHeartbeats 4000000 in
set_option maxRecDepth 100000 in
theorem c2_X5_houseAt (d : tw_D) (g : tw_G) (τ : tw_K) (h : tw_H) (hw : tw_wt d g τ h) (x : Nat) (kx : τ x = 11) (n : Int32) : tw_Ct d mX5_houseAt 1 6 [.ref x, .int n] h (tw_qr (fun r h1 => h1 = h ∧ τ r = 3 ∧ tw_ix (g.2 7) n) (fun E h1 => E = tw_IOE ∧ h1 = h ∧ ¬ tw_ix (g.2 7) n)) := by
  refine tw_of (by decide +kernel) (Nat.le_of_ble_eq_true rfl) ?_
  show tw_W d mX5_houseAt _ 0 [(0, .ref x), (1, .int n)] [] h 1 6
  have sp0 := tw_sp.rf hw
  have b9 := tw_b678 hw kx
  refine tw_iload_n 1 dX5_houseAt_0 rfl rfl ?_
  refine tw_if_lt 22 dX5_houseAt_1 (by decide) (fun c1 => ?_) (fun c1 => ?_)
  · exact tw_throwSW (i := 8) (by decide +kernel) w_550 w_96 rfl at_IOE dX5_houseAt_22 dX5_houseAt_25 dX5_houseAt_26 dX5_houseAt_29 dX5_houseAt_32 ⟨by decide, Nat.le_of_ble_eq_true rfl⟩ (Nat.le_of_ble_eq_true rfl) (Nat.le_of_ble_eq_true rfl) (Or.inr ⟨_, rfl, rfl, rfl, tw_ix_lt (by omega) c1⟩)
  · refine tw_iload_n 1 dX5_houseAt_4 rfl rfl ?_
    refine tw_aload_n 0 dX5_houseAt_5 rfl rfl ?_
    obtain ⟨e2, f3, td_4, ca_5, ha_6, da_7, c1_8, c2_9, c3_10, c4_11, rfl, k12, k13, k14, k15, k16, k17, k18, k19, k20, k21, k22, k23, k24, k25, k26, k27, k28⟩ := sp0.1 x 11 kx (by decide)
    refine tw_get (v := .ref ha_6) rfl in_9 4 dX5_houseAt_6 w_144 rfl (by decide) f3 rfl ?_
    obtain ⟨e29, f30, F31, rfl, k32, pn33, pb34, px35, pf36⟩ := sp0.1 ha_6 9 k13 (by decide)
    refine tw_alen (v := nI 6) 5 rfl dX5_houseAt_9 f30 rfl ?_
    refine tw_icmp_ge 22 dX5_houseAt_10 (by decide) (fun c37 => ?_) (fun c37 => ?_)
    · exact tw_throwSW (i := 8) (by decide +kernel) w_550 w_96 rfl at_IOE dX5_houseAt_22 dX5_houseAt_25 dX5_houseAt_26 dX5_houseAt_29 dX5_houseAt_32 ⟨by decide, Nat.le_of_ble_eq_true rfl⟩ (Nat.le_of_ble_eq_true rfl) (Nat.le_of_ble_eq_true rfl) (Or.inr ⟨_, rfl, rfl, rfl, tw_ix_ge (N := 6) b9.2.1 (by decide) c37⟩)
    · refine tw_aload_n 0 dX5_houseAt_13 rfl rfl ?_
      refine tw_get (v := .ref ha_6) rfl in_9 4 dX5_houseAt_14 w_144 rfl (by decide) f3 rfl ?_
      refine tw_iload_n 1 dX5_houseAt_17 rfl rfl ?_
      cases k38 : F31 (n).toNatClampNeg with
      | none =>
        refine tw_aald (v := .null) 5 rfl rfl dX5_houseAt_18 f30 (tw_ib2 c1 c37 (by decide)) (by rw [k38]; rfl) ?_
        refine tw_ifnonnullN dX5_houseAt_19 ?_
        exact tw_throwSW (i := 8) (by decide +kernel) w_550 w_96 rfl at_IOE dX5_houseAt_22 dX5_houseAt_25 dX5_houseAt_26 dX5_houseAt_29 dX5_houseAt_32 ⟨by decide, Nat.le_of_ble_eq_true rfl⟩ (Nat.le_of_ble_eq_true rfl) (Nat.le_of_ble_eq_true rfl) (Or.inr ⟨_, rfl, rfl, rfl, tw_ix_no pn33 pb34 (by decide) k38⟩)
      | some q39 =>
        have k40 := k32 _ _ k38
        refine tw_aald (v := .ref q39) 5 rfl rfl dX5_houseAt_18 f30 (tw_ib2 c1 c37 (by decide)) (by rw [k38]; rfl) ?_
        refine tw_ifnonnull 33 dX5_houseAt_19 (by decide) ?_
        refine tw_aload_n 0 dX5_houseAt_33 rfl rfl ?_
        refine tw_get (v := .ref ha_6) rfl in_9 4 dX5_houseAt_34 w_144 rfl (by decide) f3 rfl ?_
        refine tw_iload_n 1 dX5_houseAt_37 rfl rfl ?_
        refine tw_aald (v := .ref q39) 5 rfl rfl dX5_houseAt_38 f30 (tw_ib2 c1 c37 (by decide)) (by rw [k38]; rfl) ?_
        exact tw_aret dX5_houseAt_39 rfl (Or.inl ⟨_, rfl⟩) (Or.inl ⟨_, rfl, rfl, k40, tw_ix_so pn33 c1 c37 k38⟩)

set_option maxHeartbeats 4000000 in
set_option maxRecDepth 100000 in
theorem c2_X5_needDifferent (d : tw_D) (g : tw_G) (τ : tw_K) (h : tw_H) (hw : tw_wt d g τ h) (a b : Int32) : tw_Ct d mX5_needDifferent 1 6 [.int a, .int b] h (tw_qv (fun h1 => h1 = h ∧ a ≠ b) (fun E h1 => E = tw_IAE ∧ h1 = h ∧ ¬ a ≠ b)) := by
  refine tw_of (by decide +kernel) (Nat.le_of_ble_eq_true rfl) ?_
  show tw_W d mX5_needDifferent _ 0 [(0, .int a), (1, .int b)] [] h 1 6
  have sp0 := tw_sp.rf hw
  refine tw_iload_n 0 dX5_needDifferent_0 rfl rfl ?_
  refine tw_iload_n 1 dX5_needDifferent_1 rfl rfl ?_
  refine tw_icmp_ne 16 dX5_needDifferent_2 (by decide) (fun c1 => ?_) (fun c1 => ?_)
  · exact tw_vret dX5_needDifferent_16 rfl (Or.inl ⟨rfl, rfl, c1⟩)
  · exact tw_throwSW (i := 4) (by decide +kernel) w_402 w_87 rfl at_IAE dX5_needDifferent_5 dX5_needDifferent_8 dX5_needDifferent_9 dX5_needDifferent_12 dX5_needDifferent_15 ⟨by decide, Nat.le_of_ble_eq_true rfl⟩ (Nat.le_of_ble_eq_true rfl) (Nat.le_of_ble_eq_true rfl) (Or.inr ⟨_, rfl, rfl, rfl, fun z => z c1⟩)

theorem tw_sp.g0 {d : tw_D} {g g1 : tw_G} {τ τ1 : tw_K} {h h1 : tw_H} (s : tw_sp d τ h g τ1 h1) (z : ∀ a, τ1 a = 0) : tw_sp d τ h g1 τ1 h1 := ⟨fun a k hk h0 => absurd (hk.symm.trans (z a)) h0, s.2.1, s.2.2⟩
def tw_RP (dy : Int32) : Prop := 1 ≤ dy ∧ dy ≤ 400
def tw_DN (dy : Int32) : Nat := dy.toNatClampNeg
theorem tw_g2_id {g : tw_G} {i : Nat} : tw_g2 g i (g.2 i + 0) = g := by
  refine Prod.ext rfl (funext fun j => ?_)
  show (if j = i then g.2 i + 0 else g.2 j) = g.2 j
  by_cases q : j = i
  · rw [if_pos q, q]
    rfl
  · rw [if_neg q]
theorem tw_g2_g2 {g : tw_G} {i a b : Nat} : tw_g2 (tw_g2 g i a) i b = tw_g2 g i b := by
  refine Prod.ext rfl (funext fun j => ?_)
  show (if j = i then b else if j = i then a else g.2 j) = if j = i then b else g.2 j
  by_cases q : j = i
  · rw [if_pos q, if_pos q]
  · rw [if_neg q, if_neg q, if_neg q]
theorem tw_g2_1 {g : tw_G} {i k : Nat} : tw_g2 (tw_g2 g i (g.2 i + k)) i ((tw_g2 g i (g.2 i + k)).2 i + 1) = tw_g2 g i (g.2 i + (k + 1)) := by
  rw [tw_g2_g2]
  show tw_g2 g i ((if i = i then g.2 i + k else g.2 i) + 1) = _
  rw [if_pos rfl, Nat.add_assoc]
theorem tw_pD {dy : Int32} (h : tw_RP dy) : ∃ D, 1 ≤ D ∧ D ≤ 400 ∧ dy = nI D := by
  obtain ⟨h1, h2⟩ := h
  obtain ⟨D, hD, e⟩ := nI_of (Int32.not_lt.mpr (Int32.le_trans (by decide) h1))
  refine ⟨D, ?_, ?_, e⟩
  · rw [e] at h1
    rw [Int32.le_iff_toInt_le, nI_toInt hD, show (1 : Int32).toInt = 1 by decide] at h1
    omega
  · rw [e] at h2
    rw [Int32.le_iff_toInt_le, nI_toInt hD, show (400 : Int32).toInt = 400 by decide] at h2
    omega
theorem tw_dle {T D : Nat} {t v : Int32} (et : t = nI T) (e : v = 3000 - nI D) (hT : T ≤ 3000) (hD : D ≤ 400) : t ≤ v ↔ T + D ≤ 3000 := by
  rw [et, e, Int32.le_iff_toInt_le, Int32.toInt_sub, nI_toInt (by omega), nI_toInt (by omega), show (3000 : Int32).toInt = 3000 by decide]
  have b : ((3000 : Int) - D).bmod (2 ^ 32) = 3000 - (D : Int) := by apply Int.bmod_eq_of_le_mul_two <;> omega
  rw [b]
  omega
theorem tw_dle2 {T D : Nat} {t v : Int32} (et : t = nI T) (e : v = t + nI D) (hT : T ≤ 3000) (hD : D ≤ 400) : v ≤ 3000 ↔ T + D ≤ 3000 := by
  rw [e, et, Int32.le_iff_toInt_le, Int32.toInt_add, nI_toInt (by omega), nI_toInt (by omega), show (3000 : Int32).toInt = 3000 by decide]
  have b : ((T : Int) + D).bmod (2 ^ 32) = (T : Int) + D := by apply Int.bmod_eq_of_le_mul_two <;> omega
  rw [b]
  omega
theorem tw_kge {k N : Nat} (c : nI N ≤ nI k) (h : k < 2 ^ 31 ∧ N < 2 ^ 31) : N ≤ k := by
  rw [Int32.le_iff_toInt_le, nI_toInt h.2, nI_toInt h.1] at c
  omega
theorem tw_ix_so8 {g : tw_G} {F : Nat → Option Nat} {m N q : Nat} {n : Int32} (pn : ∀ j, j < N → (F j = none ↔ m ≤ j)) (hm : m ≤ 10) (c1 : ¬ n < 0) (c2 : ¬ nI N ≤ n) (hv : F n.toNatClampNeg = some q) (f8 : tw_f8 g F) : ∃ j, j < m ∧ n = nI j ∧ g.2 (4096 + q) = 160 + 64 * j := by
  obtain ⟨j, hj, rfl⟩ := tw_ix_so pn c1 c2 hv
  exact ⟨j, hj, rfl, by have z := f8 _ _ hv; rw [nI_clamp (by omega)] at z; exact z⟩
def tw_RM (m : Int32) : Prop := m = 0 ∨ m = 1
def tw_RD (a b dy fr : Int32) : Prop := a ≠ b ∧ (1 ≤ dy ∧ dy ≤ 30) ∧ 0 ≤ fr ∧ fr ≤ 100
theorem tw_RM.k {m : Int32} (h : tw_RM m) : ∃ k, k < 2 ∧ m = nI k := by
  rcases h with rfl | rfl
  · exact ⟨0, by decide, rfl⟩
  · exact ⟨1, by decide, rfl⟩
set_option maxHeartbeats 4000000 in
set_option maxRecDepth 100000 in
theorem c3_X5_countryAt (d : tw_D) (g : tw_G) (τ : tw_K) (h : tw_H) (hw : tw_wt d g τ h) (x : Nat) (kx : τ x = 11) (n : Int32) : tw_Ct d mX5_countryAt 1 6 [.ref x, .int n] h (tw_qr (fun r h1 => h1 = h ∧ τ r = 2 ∧ ∃ j, j < g.2 6 ∧ n = nI j ∧ g.2 (4096 + r) = 160 + 64 * j) (fun E h1 => E = tw_IOE ∧ h1 = h ∧ ¬ tw_ix (g.2 6) n)) := by
  refine tw_of (by decide +kernel) (Nat.le_of_ble_eq_true rfl) ?_
  show tw_W d mX5_countryAt _ 0 [(0, .ref x), (1, .int n)] [] h 1 6
  have sp0 := tw_sp.rf hw
  have b9 := tw_b678 hw kx
  refine tw_iload_n 1 dX5_countryAt_0 rfl rfl ?_
  refine tw_if_lt 22 dX5_countryAt_1 (by decide) (fun c1 => ?_) (fun c1 => ?_)
  · exact tw_throwSW (i := 2) (by decide +kernel) w_550 w_96 rfl at_IOE dX5_countryAt_22 dX5_countryAt_25 dX5_countryAt_26 dX5_countryAt_29 dX5_countryAt_32 ⟨by decide, Nat.le_of_ble_eq_true rfl⟩ (Nat.le_of_ble_eq_true rfl) (Nat.le_of_ble_eq_true rfl) (Or.inr ⟨_, rfl, rfl, rfl, tw_ix_lt (by omega) c1⟩)
  · refine tw_iload_n 1 dX5_countryAt_4 rfl rfl ?_
    refine tw_aload_n 0 dX5_countryAt_5 rfl rfl ?_
    obtain ⟨e2, f3, td_4, ca_5, ha_6, da_7, c1_8, c2_9, c3_10, c4_11, rfl, k12, k13, k14, k15, k16, k17, k18, k19, k20, k21, k22, k23, k24, k25, k26, k27, k28⟩ := sp0.1 x 11 kx (by decide)
    refine tw_get (v := .ref ca_5) rfl in_9 2 dX5_countryAt_6 w_142 rfl (by decide) f3 rfl ?_
    obtain ⟨e29, f30, F31, rfl, k32, pn33, pb34, px35, pf36⟩ := sp0.1 ca_5 8 k12 (by decide)
    refine tw_alen (v := nI 4) 4 rfl dX5_countryAt_9 f30 rfl ?_
    refine tw_icmp_ge 22 dX5_countryAt_10 (by decide) (fun c37 => ?_) (fun c37 => ?_)
    · exact tw_throwSW (i := 2) (by decide +kernel) w_550 w_96 rfl at_IOE dX5_countryAt_22 dX5_countryAt_25 dX5_countryAt_26 dX5_countryAt_29 dX5_countryAt_32 ⟨by decide, Nat.le_of_ble_eq_true rfl⟩ (Nat.le_of_ble_eq_true rfl) (Nat.le_of_ble_eq_true rfl) (Or.inr ⟨_, rfl, rfl, rfl, tw_ix_ge (N := 4) b9.1 (by decide) c37⟩)
    · refine tw_aload_n 0 dX5_countryAt_13 rfl rfl ?_
      refine tw_get (v := .ref ca_5) rfl in_9 2 dX5_countryAt_14 w_142 rfl (by decide) f3 rfl ?_
      refine tw_iload_n 1 dX5_countryAt_17 rfl rfl ?_
      cases k38 : F31 (n).toNatClampNeg with
      | none =>
        refine tw_aald (v := .null) 4 rfl rfl dX5_countryAt_18 f30 (tw_ib2 c1 c37 (by decide)) (by rw [k38]; rfl) ?_
        refine tw_ifnonnullN dX5_countryAt_19 ?_
        exact tw_throwSW (i := 2) (by decide +kernel) w_550 w_96 rfl at_IOE dX5_countryAt_22 dX5_countryAt_25 dX5_countryAt_26 dX5_countryAt_29 dX5_countryAt_32 ⟨by decide, Nat.le_of_ble_eq_true rfl⟩ (Nat.le_of_ble_eq_true rfl) (Nat.le_of_ble_eq_true rfl) (Or.inr ⟨_, rfl, rfl, rfl, tw_ix_no pn33 pb34 (by decide) k38⟩)
      | some q39 =>
        have k40 := k32 _ _ k38
        refine tw_aald (v := .ref q39) 4 rfl rfl dX5_countryAt_18 f30 (tw_ib2 c1 c37 (by decide)) (by rw [k38]; rfl) ?_
        refine tw_ifnonnull 33 dX5_countryAt_19 (by decide) ?_
        refine tw_aload_n 0 dX5_countryAt_33 rfl rfl ?_
        refine tw_get (v := .ref ca_5) rfl in_9 2 dX5_countryAt_34 w_142 rfl (by decide) f3 rfl ?_
        refine tw_iload_n 1 dX5_countryAt_37 rfl rfl ?_
        refine tw_aald (v := .ref q39) 4 rfl rfl dX5_countryAt_38 f30 (tw_ib2 c1 c37 (by decide)) (by rw [k38]; rfl) ?_
        exact tw_aret dX5_countryAt_39 rfl (Or.inl ⟨_, rfl⟩) (Or.inl ⟨_, rfl, rfl, k40, tw_ix_so8 pn33 (by omega) c1 c37 k38 pf36⟩)

set_option maxHeartbeats 4000000 in
set_option maxRecDepth 100000 in
theorem c2_X5_needMetal (d : tw_D) (g : tw_G) (τ : tw_K) (h : tw_H) (hw : tw_wt d g τ h) (m : Int32) : tw_Ct d mX5_needMetal 1 6 [.int m] h (tw_qv (fun h1 => h1 = h ∧ tw_RM m) (fun E h1 => (E = tw_IAE) ∧ h1 = h ∧ ¬ tw_RM m)) := by
  refine tw_of (by decide +kernel) (Nat.le_of_ble_eq_true rfl) ?_
  show tw_W d mX5_needMetal _ 0 [(0, .int m)] [] h 1 6
  have sp0 := tw_sp.rf hw
  refine tw_iload_n 0 dX5_needMetal_0 rfl rfl ?_
  refine tw_if_eq 20 dX5_needMetal_1 (by decide) (fun c1 => ?_) (fun c1 => ?_)
  · exact tw_vret dX5_needMetal_20 rfl (Or.inl ⟨rfl, ⟨rfl, Or.inl c1⟩⟩)
  · refine tw_iload_n 0 dX5_needMetal_4 rfl rfl ?_
    refine tw_iconst (v := 1) dX5_needMetal_5 (by decide) ?_
    refine tw_icmp_eq 20 dX5_needMetal_6 (by decide) (fun c2 => ?_) (fun c2 => ?_)
    · exact tw_vret dX5_needMetal_20 rfl (Or.inl ⟨rfl, ⟨rfl, Or.inr c2⟩⟩)
    · exact tw_throwSW (i := 3) (by decide +kernel) w_402 w_87 rfl at_IAE dX5_needMetal_9 dX5_needMetal_12 dX5_needMetal_13 dX5_needMetal_16 dX5_needMetal_19 ⟨by decide, Nat.le_of_ble_eq_true rfl⟩ (Nat.le_of_ble_eq_true rfl) (Nat.le_of_ble_eq_true rfl) (Or.inr ⟨_, rfl, (rfl), rfl, (fun q => q.elim c1 c2)⟩)

set_option maxHeartbeats 4000000 in
set_option maxRecDepth 100000 in
theorem c2_X0_daysTo (d : tw_D) (g : tw_G) (τ : tw_K) (h : tw_H) (hw : tw_wt d g τ h) (x : Nat) (kx : τ x = 2) (j : Nat) (hj : j < 4) (hb : g.2 (4096 + x) = 160 + 64 * j) (i : Nat) (hi : i < 4) : tw_Ct d mX0_daysTo 0 0 [.ref x, .int (nI i)] h (tw_qi (fun r h1 => h1 = h ∧ r = g.1 (160 + 64 * j + 8 + i)) tw_nx) := by
  refine tw_of (by decide +kernel) (Nat.le_of_ble_eq_true rfl) ?_
  show tw_W d mX0_daysTo _ 0 [(0, .ref x), (1, .int (nI i))] [] h 0 0
  have sp0 := tw_sp.rf hw
  refine tw_iload_n 1 dX0_daysTo_0 rfl rfl ?_
  refine tw_if_lt 22 dX0_daysTo_1 (by decide) (fun c1 => absurd c1 (nI_pos (by omega))) (fun _ => ?_)
  refine tw_iload_n 1 dX0_daysTo_4 rfl rfl ?_
  refine tw_aload_n 0 dX0_daysTo_5 rfl rfl ?_
  obtain ⟨e2, f3, n_4, r_5, c_6, go_7, so_8, v_9, rd_10, rf_11, t_12, rfl, k13, k14, k15, k16, k17, k18, k19, k20, k21⟩ := sp0.1 x 2 kx (by decide)
  obtain ⟨j22, ow23, fn9, fr9, fc9, fg9, fs9, q24, q25, q26, q27⟩ := k21
  obtain rfl : j = j22 := by have z := ow23.b hb; omega
  subst fn9 fr9 fc9 fg9 fs9
  refine tw_get (v := .ref rd_10) rfl in_4 6 dX0_daysTo_6 w_511 rfl (by decide) f3 rfl ?_
  obtain ⟨e28, f29, F30, rfl, ⟨b32, ow33, wv34⟩⟩ := sp0.1 rd_10 6 k14 (by decide)
  obtain rfl : b32 = (160 + 64 * j + 8) := ow33.b q24
  refine tw_alen (v := nI 4) 0 rfl dX0_daysTo_9 f29 rfl ?_
  refine tw_icmp_ge 22 dX0_daysTo_10 (by decide) (fun c35 => absurd c35 (Int32.not_le.mpr (nI_lt hi (by decide)))) (fun _ => ?_)
  refine tw_aload_n 0 dX0_daysTo_13 rfl rfl ?_
  refine tw_get (v := .ref rd_10) rfl in_4 6 dX0_daysTo_14 w_511 rfl (by decide) f3 rfl ?_
  refine tw_iload_n 1 dX0_daysTo_17 rfl rfl ?_
  have ev36 : F30 ((nI i)).toNatClampNeg = (g.1 ((160 + 64 * j + 8) + i)) := by rw [nI_clamp (by omega)]; exact wv34 i (by omega)
  refine tw_iald (v := (g.1 ((160 + 64 * j + 8) + i))) dX0_daysTo_18 f29 (vp_in_nI (by omega) (by decide)) ev36 ?_
  refine tw_goto 23 dX0_daysTo_19 (by decide) ?_
  exact tw_iret dX0_daysTo_23 rfl (Or.inl ⟨_, rfl, rfl, rfl⟩)

set_option maxHeartbeats 4000000 in
set_option maxRecDepth 100000 in
theorem c2_X0_freightTo (d : tw_D) (g : tw_G) (τ : tw_K) (h : tw_H) (hw : tw_wt d g τ h) (x : Nat) (kx : τ x = 2) (j : Nat) (hj : j < 4) (hb : g.2 (4096 + x) = 160 + 64 * j) (i : Nat) (hi : i < 4) : tw_Ct d mX0_freightTo 0 0 [.ref x, .int (nI i)] h (tw_qi (fun r h1 => h1 = h ∧ r = g.1 (160 + 64 * j + 16 + i)) tw_nx) := by
  refine tw_of (by decide +kernel) (Nat.le_of_ble_eq_true rfl) ?_
  show tw_W d mX0_freightTo _ 0 [(0, .ref x), (1, .int (nI i))] [] h 0 0
  have sp0 := tw_sp.rf hw
  refine tw_iload_n 1 dX0_freightTo_0 rfl rfl ?_
  refine tw_if_lt 22 dX0_freightTo_1 (by decide) (fun c1 => absurd c1 (nI_pos (by omega))) (fun _ => ?_)
  refine tw_iload_n 1 dX0_freightTo_4 rfl rfl ?_
  refine tw_aload_n 0 dX0_freightTo_5 rfl rfl ?_
  obtain ⟨e2, f3, n_4, r_5, c_6, go_7, so_8, v_9, rd_10, rf_11, t_12, rfl, k13, k14, k15, k16, k17, k18, k19, k20, k21⟩ := sp0.1 x 2 kx (by decide)
  obtain ⟨j22, ow23, fn9, fr9, fc9, fg9, fs9, q24, q25, q26, q27⟩ := k21
  obtain rfl : j = j22 := by have z := ow23.b hb; omega
  subst fn9 fr9 fc9 fg9 fs9
  refine tw_get (v := .ref rf_11) rfl in_4 7 dX0_freightTo_6 w_512 rfl (by decide) f3 rfl ?_
  obtain ⟨e28, f29, F30, rfl, ⟨b32, ow33, wv34⟩⟩ := sp0.1 rf_11 6 k15 (by decide)
  obtain rfl : b32 = (160 + 64 * j + 16) := ow33.b q25
  refine tw_alen (v := nI 4) 0 rfl dX0_freightTo_9 f29 rfl ?_
  refine tw_icmp_ge 22 dX0_freightTo_10 (by decide) (fun c35 => absurd c35 (Int32.not_le.mpr (nI_lt hi (by decide)))) (fun _ => ?_)
  refine tw_aload_n 0 dX0_freightTo_13 rfl rfl ?_
  refine tw_get (v := .ref rf_11) rfl in_4 7 dX0_freightTo_14 w_512 rfl (by decide) f3 rfl ?_
  refine tw_iload_n 1 dX0_freightTo_17 rfl rfl ?_
  have ev36 : F30 ((nI i)).toNatClampNeg = (g.1 ((160 + 64 * j + 16) + i)) := by rw [nI_clamp (by omega)]; exact wv34 i (by omega)
  refine tw_iald (v := (g.1 ((160 + 64 * j + 16) + i))) dX0_freightTo_18 f29 (vp_in_nI (by omega) (by decide)) ev36 ?_
  refine tw_goto 24 dX0_freightTo_19 (by decide) ?_
  exact tw_iret dX0_freightTo_24 rfl (Or.inl ⟨_, rfl, rfl, rfl⟩)

set_option maxHeartbeats 4000000 in
set_option maxRecDepth 100000 in
theorem c2_X0_setRoadTo (d : tw_D) (g : tw_G) (τ : tw_K) (h : tw_H) (hw : tw_wt d g τ h) (x : Nat) (kx : τ x = 2) (j : Nat) (hj : j < 4) (hb : g.2 (4096 + x) = 160 + 64 * j) (i : Nat) (hi : i < 4) (dy fr : Int32) : tw_Ct d mX0_setRoadTo 0 0 [.ref x, .int (nI i), .int dy, .int fr] h (tw_qv (fun h1 => tw_sp d τ h (tw_g1 (tw_g1 g (160 + 64 * j + 8 + i) dy) (160 + 64 * j + 16 + i) fr) τ h1) tw_nx) := by
  refine tw_of (by decide +kernel) (Nat.le_of_ble_eq_true rfl) ?_
  show tw_W d mX0_setRoadTo _ 0 [(0, .ref x), (1, .int (nI i)), (2, .int dy), (3, .int fr)] [] h 0 0
  have sp0 := tw_sp.rf hw
  refine tw_iload_n 1 dX0_setRoadTo_0 rfl rfl ?_
  refine tw_if_lt 36 dX0_setRoadTo_1 (by decide) (fun c1 => absurd c1 (nI_pos (by omega))) (fun _ => ?_)
  refine tw_iload_n 1 dX0_setRoadTo_4 rfl rfl ?_
  refine tw_aload_n 0 dX0_setRoadTo_5 rfl rfl ?_
  obtain ⟨e2, f3, n_4, r_5, c_6, go_7, so_8, v_9, rd_10, rf_11, t_12, rfl, k13, k14, k15, k16, k17, k18, k19, k20, k21⟩ := sp0.1 x 2 kx (by decide)
  obtain ⟨j22, ow23, fn9, fr9, fc9, fg9, fs9, q24, q25, q26, q27⟩ := k21
  obtain rfl : j = j22 := by have z := ow23.b hb; omega
  subst fn9 fr9 fc9 fg9 fs9
  refine tw_get (v := .ref rd_10) rfl in_4 6 dX0_setRoadTo_6 w_511 rfl (by decide) f3 rfl ?_
  obtain ⟨e28, f29, F30, rfl, ⟨b32, ow33, wv34⟩⟩ := sp0.1 rd_10 6 k14 (by decide)
  obtain rfl : b32 = (160 + 64 * j + 8) := ow33.b q24
  refine tw_alen (v := nI 4) 0 rfl dX0_setRoadTo_9 f29 rfl ?_
  refine tw_icmp_ge 36 dX0_setRoadTo_10 (by decide) (fun c35 => absurd c35 (Int32.not_le.mpr (nI_lt hi (by decide)))) (fun _ => ?_)
  refine tw_iload_n 1 dX0_setRoadTo_13 rfl rfl ?_
  refine tw_aload_n 0 dX0_setRoadTo_14 rfl rfl ?_
  refine tw_get (v := .ref rf_11) rfl in_4 7 dX0_setRoadTo_15 w_512 rfl (by decide) f3 rfl ?_
  obtain ⟨e36, f37, F38, rfl, ⟨b40, ow41, wv42⟩⟩ := sp0.1 rf_11 6 k15 (by decide)
  obtain rfl : b40 = (160 + 64 * j + 16) := ow41.b q25
  refine tw_alen (v := nI 4) 0 rfl dX0_setRoadTo_18 f37 rfl ?_
  refine tw_icmp_ge 36 dX0_setRoadTo_19 (by decide) (fun c43 => absurd c43 (Int32.not_le.mpr (nI_lt hi (by decide)))) (fun _ => ?_)
  refine tw_aload_n 0 dX0_setRoadTo_22 rfl rfl ?_
  refine tw_get (v := .ref rd_10) rfl in_4 6 dX0_setRoadTo_23 w_511 rfl (by decide) f3 rfl ?_
  refine tw_iload_n 1 dX0_setRoadTo_26 rfl rfl ?_
  refine tw_iload_n 2 dX0_setRoadTo_27 rfl rfl ?_
  refine tw_iast dX0_setRoadTo_28 f29 (vp_in_nI (by omega) (by decide)) ?_
  rw [nI_clamp (by omega)]
  obtain ⟨h44, eh44⟩ : ∃ z : tw_H, z = tw_up h rd_10 (.inl (d.2 0, 4, .inl (upd F30 i dy))) := ⟨_, rfl⟩
  rw [← eh44]
  have sp45 : tw_sp d τ h (tw_g1 g ((160 + 64 * j + 8) + i) dy) τ h44 := by rw [eh44]; exact sp0.wb k14 (by decide) ow33 ⟨_, rfl, tw_f6.up ow33 wv34⟩ (fun q9 hq9 => tw_g1_ne (by omega)) rfl
  refine tw_aload_n 0 dX0_setRoadTo_29 rfl rfl ?_
  obtain ⟨e46, f47, n_48, r_49, c_50, go_51, so_52, v_53, rd_54, rf_55, t_56, rfl, k57, k58, k59, k60, k61, k62, k63, k64, k65⟩ := sp45.1 x 2 kx (by decide)
  obtain ⟨j66, ow67, fn9, fr9, fc9, fg9, fs9, q68, q69, q70, q71⟩ := k65
  obtain rfl : j = j66 := by have z := ow67.b hb; omega
  subst fn9 fr9 fc9 fg9 fs9
  refine tw_get (v := .ref rf_55) rfl in_4 7 dX0_setRoadTo_30 w_512 rfl (by decide) f47 rfl ?_
  refine tw_iload_n 1 dX0_setRoadTo_33 rfl rfl ?_
  refine tw_iload_n 3 dX0_setRoadTo_34 rfl rfl ?_
  obtain ⟨e72, f73, F74, rfl, ⟨b76, ow77, wv78⟩⟩ := sp45.1 rf_55 6 k59 (by decide)
  obtain rfl : b76 = (160 + 64 * j + 16) := ow77.b q69
  refine tw_iast dX0_setRoadTo_35 f73 (vp_in_nI (by omega) (by decide)) ?_
  rw [nI_clamp (by omega)]
  obtain ⟨h79, eh79⟩ : ∃ z : tw_H, z = tw_up h44 rf_55 (.inl (d.2 0, 4, .inl (upd F74 i fr))) := ⟨_, rfl⟩
  rw [← eh79]
  have sp80 : tw_sp d τ h (tw_g1 (tw_g1 g ((160 + 64 * j + 8) + i) dy) ((160 + 64 * j + 16) + i) fr) τ h79 := by rw [eh79]; exact sp45.wb k59 (by decide) ow77 ⟨_, rfl, tw_f6.up ow77 wv78⟩ (fun q9 hq9 => tw_g1_ne (by omega)) rfl
  exact tw_vret dX0_setRoadTo_36 rfl (Or.inl ⟨rfl, sp80⟩)

set_option maxHeartbeats 4000000 in
set_option maxRecDepth 100000 in
theorem c2_X0_isOpenFor (d : tw_D) (g : tw_G) (τ : tw_K) (h : tw_H) (hw : tw_wt d g τ h) (x : Nat) (kx : τ x = 2) (j : Nat) (hj : j < 4) (hb : g.2 (4096 + x) = 160 + 64 * j) (k : Nat) (hk : k < 2) : tw_Ct d mX0_isOpenFor 0 0 [.ref x, .int (nI k)] h (tw_qi (fun r h1 => h1 = h ∧ r = g.1 (160 + 64 * j + 2 + k) ∧ tw_01 r) tw_nx) := by
  rcases (show k = 0 ∨ k = 1 by omega) with rfl | rfl
  · refine tw_of (by decide +kernel) (Nat.le_of_ble_eq_true rfl) ?_
    show tw_W d mX0_isOpenFor _ 0 [(0, .ref x), (1, .int (nI 0))] [] h 0 0
    have sp0 := tw_sp.rf hw
    refine tw_iload_n 1 dX0_isOpenFor_0 rfl rfl ?_
    refine tw_if_ne 11 dX0_isOpenFor_1 (by decide) (fun c1 => absurd (rfl) c1) (fun _ => ?_)
    refine tw_aload_n 0 dX0_isOpenFor_4 rfl rfl ?_
    obtain ⟨e2, f3, n_4, r_5, c_6, go_7, so_8, v_9, rd_10, rf_11, t_12, rfl, k13, k14, k15, k16, k17, k18, k19, k20, k21⟩ := sp0.1 x 2 kx (by decide)
    obtain ⟨j22, ow23, fn9, fr9, fc9, fg9, fs9, q24, q25, q26, q27⟩ := k21
    obtain rfl : j = j22 := by have z := ow23.b hb; omega
    subst fn9 fr9 fc9 fg9 fs9
    refine tw_get (v := .int (g.1 (160 + 64 * j + 2))) rfl in_4 4 dX0_isOpenFor_5 w_509 rfl (by decide) f3 rfl ?_
    refine tw_goto 15 dX0_isOpenFor_8 (by decide) ?_
    exact tw_zret dX0_isOpenFor_15 rfl (tw_nar01 k17) (Or.inl ⟨_, rfl, rfl, rfl, k17⟩)
  · refine tw_of (by decide +kernel) (Nat.le_of_ble_eq_true rfl) ?_
    show tw_W d mX0_isOpenFor _ 0 [(0, .ref x), (1, .int (nI 1))] [] h 0 0
    have sp0 := tw_sp.rf hw
    refine tw_iload_n 1 dX0_isOpenFor_0 rfl rfl ?_
    refine tw_if_ne 11 dX0_isOpenFor_1 (by decide) (fun _ => ?_) (fun c1 => absurd c1 ((by decide)))
    refine tw_aload_n 0 dX0_isOpenFor_11 rfl rfl ?_
    obtain ⟨e2, f3, n_4, r_5, c_6, go_7, so_8, v_9, rd_10, rf_11, t_12, rfl, k13, k14, k15, k16, k17, k18, k19, k20, k21⟩ := sp0.1 x 2 kx (by decide)
    obtain ⟨j22, ow23, fn9, fr9, fc9, fg9, fs9, q24, q25, q26, q27⟩ := k21
    obtain rfl : j = j22 := by have z := ow23.b hb; omega
    subst fn9 fr9 fc9 fg9 fs9
    refine tw_get (v := .int (g.1 (160 + 64 * j + 3))) rfl in_4 5 dX0_isOpenFor_12 w_510 rfl (by decide) f3 rfl ?_
    exact tw_zret dX0_isOpenFor_15 rfl (tw_nar01 k18) (Or.inl ⟨_, rfl, rfl, rfl, k18⟩)

set_option maxHeartbeats 4000000 in
set_option maxRecDepth 100000 in
theorem c2_X0_setOpenFor (d : tw_D) (g : tw_G) (τ : tw_K) (h : tw_H) (hw : tw_wt d g τ h) (x : Nat) (kx : τ x = 2) (j : Nat) (hj : j < 4) (hb : g.2 (4096 + x) = 160 + 64 * j) (k : Nat) (hk : k < 2) (b : Int32) (kb : tw_01 b) : tw_Ct d mX0_setOpenFor 0 0 [.ref x, .int (nI k), .int b] h (tw_qv (fun h1 => tw_sp d τ h (tw_g1 g (160 + 64 * j + 2 + k) b) τ h1) tw_nx) := by
  rcases (show k = 0 ∨ k = 1 by omega) with rfl | rfl
  · refine tw_of (by decide +kernel) (Nat.le_of_ble_eq_true rfl) ?_
    show tw_W d mX0_setOpenFor _ 0 [(0, .ref x), (1, .int (nI 0)), (2, .int b)] [] h 0 0
    have sp0 := tw_sp.rf hw
    refine tw_iload_n 1 dX0_setOpenFor_0 rfl rfl ?_
    refine tw_if_ne 12 dX0_setOpenFor_1 (by decide) (fun c1 => absurd (rfl) c1) (fun _ => ?_)
    refine tw_aload_n 0 dX0_setOpenFor_4 rfl rfl ?_
    refine tw_iload_n 2 dX0_setOpenFor_5 rfl rfl ?_
    obtain ⟨e2, f3, n_4, r_5, c_6, go_7, so_8, v_9, rd_10, rf_11, t_12, rfl, k13, k14, k15, k16, k17, k18, k19, k20, k21⟩ := sp0.1 x 2 kx (by decide)
    obtain ⟨j22, ow23, fn9, fr9, fc9, fg9, fs9, q24, q25, q26, q27⟩ := k21
    obtain rfl : j = j22 := by have z := ow23.b hb; omega
    subst fn9 fr9 fc9 fg9 fs9
    refine tw_put rfl in_4 tyX0 tyX0_ok nmX0 4 dX0_setOpenFor_6 w_509 rfl (by decide) f3 rfl rfl (tw_nar01 kb) (tw_fit01 kb) (Nat.le_of_ble_eq_true rfl) [.int (nI j), .int (g.1 (160 + 64 * j)), .int (g.1 (160 + 64 * j + 1)), .ref v_9, .int b, .int (g.1 (160 + 64 * j + 3)), .ref rd_10, .ref rf_11, .ref t_12] rfl ?_
    obtain ⟨h28, eh28⟩ : ∃ z : tw_H, z = tw_up h x (.inr (4, [.int (nI j), .int (g.1 (160 + 64 * j)), .int (g.1 (160 + 64 * j + 1)), .ref v_9, .int b, .int (g.1 (160 + 64 * j + 3)), .ref rd_10, .ref rf_11, .ref t_12])) := ⟨_, rfl⟩
    rw [← eh28]
    have sp29 : tw_sp d τ h (tw_g1 g (160 + 64 * j + 2) b) τ h28 := by rw [eh28]; exact sp0.wb kx (by decide) ow23 ⟨(nI j), (g.1 (160 + 64 * j)), (g.1 (160 + 64 * j + 1)), b, (g.1 (160 + 64 * j + 3)), v_9, rd_10, rf_11, t_12, rfl, k13, k14, k15, k16, kb, k18, k19, k20, ⟨j, ow23, rfl, (tw_g1_ne (by omega)).symm, (tw_g1_ne (by omega)).symm, tw_g1_eq.symm, (tw_g1_ne (by omega)).symm, q24, q25, q26, q27⟩⟩ (fun q9 hq9 => tw_g1_ne (by omega)) rfl
    refine tw_goto 17 dX0_setOpenFor_9 (by decide) ?_
    exact tw_vret dX0_setOpenFor_17 rfl (Or.inl ⟨rfl, sp29⟩)
  · refine tw_of (by decide +kernel) (Nat.le_of_ble_eq_true rfl) ?_
    show tw_W d mX0_setOpenFor _ 0 [(0, .ref x), (1, .int (nI 1)), (2, .int b)] [] h 0 0
    have sp0 := tw_sp.rf hw
    refine tw_iload_n 1 dX0_setOpenFor_0 rfl rfl ?_
    refine tw_if_ne 12 dX0_setOpenFor_1 (by decide) (fun _ => ?_) (fun c1 => absurd c1 ((by decide)))
    refine tw_aload_n 0 dX0_setOpenFor_12 rfl rfl ?_
    refine tw_iload_n 2 dX0_setOpenFor_13 rfl rfl ?_
    obtain ⟨e2, f3, n_4, r_5, c_6, go_7, so_8, v_9, rd_10, rf_11, t_12, rfl, k13, k14, k15, k16, k17, k18, k19, k20, k21⟩ := sp0.1 x 2 kx (by decide)
    obtain ⟨j22, ow23, fn9, fr9, fc9, fg9, fs9, q24, q25, q26, q27⟩ := k21
    obtain rfl : j = j22 := by have z := ow23.b hb; omega
    subst fn9 fr9 fc9 fg9 fs9
    refine tw_put rfl in_4 tyX0 tyX0_ok nmX0 5 dX0_setOpenFor_14 w_510 rfl (by decide) f3 rfl rfl (tw_nar01 kb) (tw_fit01 kb) (Nat.le_of_ble_eq_true rfl) [.int (nI j), .int (g.1 (160 + 64 * j)), .int (g.1 (160 + 64 * j + 1)), .ref v_9, .int (g.1 (160 + 64 * j + 2)), .int b, .ref rd_10, .ref rf_11, .ref t_12] rfl ?_
    obtain ⟨h28, eh28⟩ : ∃ z : tw_H, z = tw_up h x (.inr (4, [.int (nI j), .int (g.1 (160 + 64 * j)), .int (g.1 (160 + 64 * j + 1)), .ref v_9, .int (g.1 (160 + 64 * j + 2)), .int b, .ref rd_10, .ref rf_11, .ref t_12])) := ⟨_, rfl⟩
    rw [← eh28]
    have sp29 : tw_sp d τ h (tw_g1 g (160 + 64 * j + 3) b) τ h28 := by rw [eh28]; exact sp0.wb kx (by decide) ow23 ⟨(nI j), (g.1 (160 + 64 * j)), (g.1 (160 + 64 * j + 1)), (g.1 (160 + 64 * j + 2)), b, v_9, rd_10, rf_11, t_12, rfl, k13, k14, k15, k16, k17, kb, k19, k20, ⟨j, ow23, rfl, (tw_g1_ne (by omega)).symm, (tw_g1_ne (by omega)).symm, (tw_g1_ne (by omega)).symm, tw_g1_eq.symm, q24, q25, q26, q27⟩⟩ (fun q9 hq9 => tw_g1_ne (by omega)) rfl
    exact tw_vret dX0_setOpenFor_17 rfl (Or.inl ⟨rfl, sp29⟩)

set_option maxHeartbeats 4000000 in
set_option maxRecDepth 100000 in
theorem c2_X5_law (d : tw_D) (g : tw_G) (τ : tw_K) (h : tw_H) (hw : tw_wt d g τ h) (x : Nat) (kx : τ x = 11) (n : Int32) (rt : Int32) (ct : Int32) : tw_Ct d mX5_law 20 120 [.ref x, .int n, .int rt, .int ct] h (tw_qi (fun r9 h1 => r9 = g.1 (160 + 64 * tw_DN n) ∧ tw_ix (g.2 6) n ∧ tw_RL rt ct ∧ ∃ τ1, tw_sp d τ h (tw_g1 (tw_g1 g (160 + 64 * tw_DN n) rt) (160 + 64 * tw_DN n + 1) ct) τ1 h1) (fun E h1 => (E = tw_IOE ∧ ¬ tw_ix (g.2 6) n ∨ E = tw_IAE ∧ tw_ix (g.2 6) n ∧ ¬ tw_RL rt ct) ∧ ∃ τ1, tw_sp d τ h g τ1 h1)) := by
  refine tw_of (by decide +kernel) (Nat.le_of_ble_eq_true rfl) ?_
  show tw_W d mX5_law _ 0 [(0, .ref x), (1, .int n), (2, .int rt), (3, .int ct)] [] h 20 120
  have sp0 := tw_sp.rf hw
  have b9 := (tw_b678 hw kx).1
  refine tw_aload_n 0 dX5_law_0 rfl rfl ?_
  refine tw_iload_n 1 dX5_law_1 rfl rfl ?_
  obtain ⟨e4, f5, td_6, ca_7, ha_8, da_9, c1_10, c2_11, c3_12, c4_13, rfl, k14, k15, k16, k17, k18, k19, k20, k21, k22, k23, k24, k25, k26, k27, k28, k29, k30⟩ := sp0.1 x 11 kx (by decide)
  refine tw_br (tw_callV (M := mX5_law) (pc := 2) okX5_countryAt dX5_law_2 w_546 rfl f5 [.int n] [] rfl rfl ⟨by decide, by decide⟩ (Nat.le_of_ble_eq_true rfl) (c3_X5_countryAt d g τ h sp0.1 x kx n) 19 114 (Nat.le_of_ble_eq_true rfl) (Nat.le_of_ble_eq_true rfl)) (fun r3 h2 q1 => ?_) (fun E h1 q1 => Or.inr ⟨E, rfl, Or.inl ⟨q1.1, q1.2.2⟩, τ, by rw [q1.2.1]; exact sp0⟩)
  obtain ⟨q1e, q1k, jn, q1j, q1n, q1b⟩ := q1
  rw [q1e]
  subst q1n
  have cDn : tw_DN (nI jn) = jn := nI_clamp (by omega)
  have ix0 : tw_ix (g.2 6) (nI jn) := ⟨jn, q1j, rfl⟩
  refine tw_astore [(4, .ref r3), (0, .ref x), (1, .int (nI jn)), (2, .int rt), (3, .int ct)] dX5_law_5 (by decide) rfl ?_
  refine tw_iload_n 3 dX5_law_7 rfl rfl ?_
  refine tw_iload_n 4 dX5_law_8 rfl rfl ?_
  refine tw_bv (tw_callS (M := mX5_law) (pc := 9) okX5_needLaw dX5_law_9 w_396 [.int rt, .int ct] [] rfl rfl ⟨by decide, by decide⟩ (Nat.le_of_ble_eq_true rfl) (c2_X5_needLaw d g τ h sp0.1 rt ct) 17 102 (Nat.le_of_ble_eq_true rfl) (Nat.le_of_ble_eq_true rfl)) (fun h32 q31 => ?_) (fun E h1 q31 => Or.inr ⟨E, rfl, Or.inr ⟨q31.1, ix0, q31.2.2⟩, τ, by rw [q31.2.1]; exact sp0⟩)
  obtain ⟨q31e, rc⟩ := q31
  rw [q31e]
  refine tw_aload 0 dX5_law_12 rfl ?_
  obtain ⟨e34, f35, n_36, r_37, c_38, go_39, so_40, v_41, rd_42, rf_43, t_44, rfl, k45, k46, k47, k48, k49, k50, k51, k52, k53⟩ := sp0.1 r3 2 q1k (by decide)
  obtain ⟨j54, ow55, fn9, fr9, fc9, fg9, fs9, q56, q57, q58, q59⟩ := k53
  obtain rfl : jn = j54 := by have z := ow55.b q1b; omega
  subst fn9 fr9 fc9 fg9 fs9
  refine tw_getN (v := .int (g.1 (160 + 64 * jn))) rfl in_4 1 dX5_law_14 w_504 rfl (by decide) f35 rfl ?_
  refine tw_istore [(5, .int (g.1 (160 + 64 * jn))), (4, .ref r3), (0, .ref x), (1, .int (nI jn)), (2, .int rt), (3, .int ct)] dX5_law_17 (by decide) rfl ?_
  refine tw_aload 1 dX5_law_19 rfl ?_
  refine tw_iload_n 4 dX5_law_21 rfl rfl ?_
  refine tw_putN rfl in_4 tyX0 tyX0_ok nmX0 1 dX5_law_22 w_504 rfl (by decide) f35 rfl rfl rfl rfl (Nat.le_of_ble_eq_true rfl) [.int (nI jn), .int rt, .int (g.1 (160 + 64 * jn + 1)), .ref v_41, .int (g.1 (160 + 64 * jn + 2)), .int (g.1 (160 + 64 * jn + 3)), .ref rd_42, .ref rf_43, .ref t_44] rfl ?_
  obtain ⟨h60, eh60⟩ : ∃ z : tw_H, z = tw_up h r3 (.inr (4, [.int (nI jn), .int rt, .int (g.1 (160 + 64 * jn + 1)), .ref v_41, .int (g.1 (160 + 64 * jn + 2)), .int (g.1 (160 + 64 * jn + 3)), .ref rd_42, .ref rf_43, .ref t_44])) := ⟨_, rfl⟩
  rw [← eh60]
  have sp61 : tw_sp d τ h (tw_g1 g (160 + 64 * jn) rt) τ h60 := by rw [eh60]; exact sp0.wb q1k (by decide) ow55 ⟨(nI jn), rt, (g.1 (160 + 64 * jn + 1)), (g.1 (160 + 64 * jn + 2)), (g.1 (160 + 64 * jn + 3)), v_41, rd_42, rf_43, t_44, rfl, k45, k46, k47, k48, k49, k50, rc.1.1, rc.1.2, ⟨jn, ow55, rfl, tw_g1_eq.symm, (tw_g1_ne (by omega)).symm, (tw_g1_ne (by omega)).symm, (tw_g1_ne (by omega)).symm, q56, q57, q58, q59⟩⟩ (fun q9 hq9 => tw_g1_ne (by omega)) rfl
  refine tw_aload 1 dX5_law_25 rfl ?_
  refine tw_iload_n 5 dX5_law_27 rfl rfl ?_
  obtain ⟨e62, f63, n_64, r_65, c_66, go_67, so_68, v_69, rd_70, rf_71, t_72, rfl, k73, k74, k75, k76, k77, k78, k79, k80, k81⟩ := sp61.1 r3 2 q1k (by decide)
  obtain ⟨j82, ow83, fn9, fr9, fc9, fg9, fs9, q84, q85, q86, q87⟩ := k81
  obtain rfl : jn = j82 := by have z := ow83.b q1b; omega
  subst fn9 fr9 fc9 fg9 fs9
  refine tw_putN rfl in_4 tyX0 tyX0_ok nmX0 2 dX5_law_28 w_506 rfl (by decide) f63 rfl rfl rfl rfl (Nat.le_of_ble_eq_true rfl) [.int (nI jn), .int ((tw_g1 g (160 + 64 * jn) rt).1 (160 + 64 * jn)), .int ct, .ref v_69, .int ((tw_g1 g (160 + 64 * jn) rt).1 (160 + 64 * jn + 2)), .int ((tw_g1 g (160 + 64 * jn) rt).1 (160 + 64 * jn + 3)), .ref rd_70, .ref rf_71, .ref t_72] rfl ?_
  obtain ⟨h88, eh88⟩ : ∃ z : tw_H, z = tw_up h60 r3 (.inr (4, [.int (nI jn), .int ((tw_g1 g (160 + 64 * jn) rt).1 (160 + 64 * jn)), .int ct, .ref v_69, .int ((tw_g1 g (160 + 64 * jn) rt).1 (160 + 64 * jn + 2)), .int ((tw_g1 g (160 + 64 * jn) rt).1 (160 + 64 * jn + 3)), .ref rd_70, .ref rf_71, .ref t_72])) := ⟨_, rfl⟩
  rw [← eh88]
  have sp89 : tw_sp d τ h (tw_g1 (tw_g1 g (160 + 64 * jn) rt) (160 + 64 * jn + 1) ct) τ h88 := by rw [eh88]; exact sp61.wb q1k (by decide) ow83 ⟨(nI jn), ((tw_g1 g (160 + 64 * jn) rt).1 (160 + 64 * jn)), ct, ((tw_g1 g (160 + 64 * jn) rt).1 (160 + 64 * jn + 2)), ((tw_g1 g (160 + 64 * jn) rt).1 (160 + 64 * jn + 3)), v_69, rd_70, rf_71, t_72, rfl, k73, k74, k75, k76, k77, k78, k79, k80, ⟨jn, ow83, rfl, (tw_g1_ne (by omega)).symm, tw_g1_eq.symm, (tw_g1_ne (by omega)).symm, (tw_g1_ne (by omega)).symm, q84, q85, q86, q87⟩⟩ (fun q9 hq9 => tw_g1_ne (by omega)) rfl
  refine tw_iload 0 dX5_law_31 rfl ?_
  exact tw_iret dX5_law_33 rfl (Or.inl ⟨_, rfl, (by rw [cDn]), ix0, rc, _, by rw [cDn]; exact sp89⟩)

set_option maxHeartbeats 4000000 in
set_option maxRecDepth 100000 in
theorem c2_X5_gate (d : tw_D) (g : tw_G) (τ : tw_K) (h : tw_H) (hw : tw_wt d g τ h) (x : Nat) (kx : τ x = 11) (n : Int32) (m : Int32) (b : Int32) (kb : tw_01 b) : tw_Ct d mX5_gate 20 120 [.ref x, .int n, .int m, .int b] h (tw_qi (fun r9 h1 => r9 = g.1 (160 + 64 * tw_DN n + 2 + tw_DN m) ∧ tw_ix (g.2 6) n ∧ tw_RM m ∧ tw_01 r9 ∧ ∃ τ1, tw_sp d τ h (tw_g1 g (160 + 64 * tw_DN n + 2 + tw_DN m) b) τ1 h1) (fun E h1 => (E = tw_IOE ∧ ¬ tw_ix (g.2 6) n ∨ E = tw_IAE ∧ tw_ix (g.2 6) n ∧ ¬ tw_RM m) ∧ ∃ τ1, tw_sp d τ h g τ1 h1)) := by
  refine tw_of (by decide +kernel) (Nat.le_of_ble_eq_true rfl) ?_
  show tw_W d mX5_gate _ 0 [(0, .ref x), (1, .int n), (2, .int m), (3, .int b)] [] h 20 120
  have sp0 := tw_sp.rf hw
  have b9 := (tw_b678 hw kx).1
  refine tw_aload_n 0 dX5_gate_0 rfl rfl ?_
  refine tw_iload_n 1 dX5_gate_1 rfl rfl ?_
  obtain ⟨e4, f5, td_6, ca_7, ha_8, da_9, c1_10, c2_11, c3_12, c4_13, rfl, k14, k15, k16, k17, k18, k19, k20, k21, k22, k23, k24, k25, k26, k27, k28, k29, k30⟩ := sp0.1 x 11 kx (by decide)
  refine tw_br (tw_callV (M := mX5_gate) (pc := 2) okX5_countryAt dX5_gate_2 w_546 rfl f5 [.int n] [] rfl rfl ⟨by decide, by decide⟩ (Nat.le_of_ble_eq_true rfl) (c3_X5_countryAt d g τ h sp0.1 x kx n) 19 114 (Nat.le_of_ble_eq_true rfl) (Nat.le_of_ble_eq_true rfl)) (fun r3 h2 q1 => ?_) (fun E h1 q1 => Or.inr ⟨E, rfl, Or.inl ⟨q1.1, q1.2.2⟩, τ, by rw [q1.2.1]; exact sp0⟩)
  obtain ⟨q1e, q1k, jn, q1j, q1n, q1b⟩ := q1
  rw [q1e]
  subst q1n
  have cDn : tw_DN (nI jn) = jn := nI_clamp (by omega)
  have ix0 : tw_ix (g.2 6) (nI jn) := ⟨jn, q1j, rfl⟩
  refine tw_astore [(4, .ref r3), (0, .ref x), (1, .int (nI jn)), (2, .int m), (3, .int b)] dX5_gate_5 (by decide) rfl ?_
  refine tw_iload_n 3 dX5_gate_7 rfl rfl ?_
  refine tw_bv (tw_callS (M := mX5_gate) (pc := 8) okX5_needMetal dX5_gate_8 w_573 [.int m] [] rfl rfl ⟨by decide, by decide⟩ (Nat.le_of_ble_eq_true rfl) (c2_X5_needMetal d g τ h sp0.1 m) 18 108 (Nat.le_of_ble_eq_true rfl) (Nat.le_of_ble_eq_true rfl)) (fun h32 q31 => ?_) (fun E h1 q31 => Or.inr ⟨E, rfl, Or.inr ⟨q31.1, ix0, q31.2.2⟩, τ, by rw [q31.2.1]; exact sp0⟩)
  obtain ⟨q31e, rc⟩ := q31
  rw [q31e]
  have rc0 := rc
  obtain ⟨k, hk, km⟩ := rc.k
  subst km
  have cDm : tw_DN (nI k) = k := nI_clamp (by omega)
  refine tw_aload 0 dX5_gate_11 rfl ?_
  refine tw_iload_n 3 dX5_gate_13 rfl rfl ?_
  obtain ⟨e37, f38, n_39, r_40, c_41, go_42, so_43, v_44, rd_45, rf_46, t_47, rfl, k48, k49, k50, k51, k52, k53, k54, k55, k56⟩ := sp0.1 r3 2 q1k (by decide)
  obtain ⟨j57, ow58, fn9, fr9, fc9, fg9, fs9, q59, q60, q61, q62⟩ := k56
  obtain rfl : jn = j57 := by have z := ow58.b q1b; omega
  subst fn9 fr9 fc9 fg9 fs9
  refine tw_bi (tw_callVN (M := mX5_gate) (pc := 14) okX0_isOpenFor dX5_gate_14 w_577 rfl f38 [.int (nI k)] [] rfl rfl ⟨by decide, by decide⟩ (Nat.le_of_ble_eq_true rfl) (c2_X0_isOpenFor d g τ h sp0.1 r3 q1k jn (by omega) q1b k hk) 18 108 (Nat.le_of_ble_eq_true rfl) (Nat.le_of_ble_eq_true rfl)) (fun r36 h35 q34 => ?_) (fun E h1 q => q.elim)
  obtain ⟨q34e, q34v, q34z⟩ := q34
  rw [q34e]
  refine tw_istore [(5, .int r36), (4, .ref r3), (0, .ref x), (1, .int (nI jn)), (2, .int (nI k)), (3, .int b)] dX5_gate_17 (by decide) rfl ?_
  refine tw_aload 1 dX5_gate_19 rfl ?_
  refine tw_iload_n 4 dX5_gate_21 rfl rfl ?_
  refine tw_iload_n 5 dX5_gate_22 rfl rfl ?_
  refine tw_bv (tw_callVN (M := mX5_gate) (pc := 23) okX0_setOpenFor dX5_gate_23 w_581 rfl f38 [.int (nI k), .int b] [] rfl rfl ⟨by decide, by decide⟩ (Nat.le_of_ble_eq_true rfl) (c2_X0_setOpenFor d g τ h sp0.1 r3 q1k jn (by omega) q1b k hk b kb) 18 108 (Nat.le_of_ble_eq_true rfl) (Nat.le_of_ble_eq_true rfl)) (fun h64 q63 => ?_) (fun E h1 q => q.elim)
  have sp66 := sp0.tr q63
  refine tw_iload 0 dX5_gate_26 rfl ?_
  exact tw_zret dX5_gate_28 rfl (tw_nar01 q34z) (Or.inl ⟨_, rfl, (by rw [cDn, cDm]; exact q34v), ix0, rc0, q34z, _, by rw [cDn, cDm]; exact sp66⟩)

set_option maxHeartbeats 4000000 in
set_option maxRecDepth 100000 in
theorem c2_X5_road (d : tw_D) (g : tw_G) (τ : tw_K) (h : tw_H) (hw : tw_wt d g τ h) (x : Nat) (kx : τ x = 11) (a : Int32) (b : Int32) (dy : Int32) (fr : Int32) : tw_Ct d mX5_road 20 120 [.ref x, .int a, .int b, .int dy, .int fr] h (tw_qi (fun r9 h1 => r9 = g.1 (160 + 64 * tw_DN a + 8 + tw_DN b) ∧ (tw_ix (g.2 6) a ∧ tw_ix (g.2 6) b) ∧ tw_RD a b dy fr ∧ ∃ τ1, tw_sp d τ h (tw_g1 (tw_g1 (tw_g1 (tw_g1 g (160 + 64 * tw_DN a + 8 + tw_DN b) dy) (160 + 64 * tw_DN a + 16 + tw_DN b) fr) (160 + 64 * tw_DN b + 8 + tw_DN a) dy) (160 + 64 * tw_DN b + 16 + tw_DN a) fr) τ1 h1) (fun E h1 => (E = tw_IOE ∧ ¬ (tw_ix (g.2 6) a ∧ tw_ix (g.2 6) b) ∨ E = tw_IAE ∧ (tw_ix (g.2 6) a ∧ tw_ix (g.2 6) b) ∧ ¬ tw_RD a b dy fr) ∧ ∃ τ1, tw_sp d τ h g τ1 h1)) := by
  refine tw_of (by decide +kernel) (Nat.le_of_ble_eq_true rfl) ?_
  show tw_W d mX5_road _ 0 [(0, .ref x), (1, .int a), (2, .int b), (3, .int dy), (4, .int fr)] [] h 20 120
  have sp0 := tw_sp.rf hw
  have b9 := (tw_b678 hw kx).1
  refine tw_aload_n 0 dX5_road_0 rfl rfl ?_
  refine tw_iload_n 1 dX5_road_1 rfl rfl ?_
  obtain ⟨e4, f5, td_6, ca_7, ha_8, da_9, c1_10, c2_11, c3_12, c4_13, rfl, k14, k15, k16, k17, k18, k19, k20, k21, k22, k23, k24, k25, k26, k27, k28, k29, k30⟩ := sp0.1 x 11 kx (by decide)
  refine tw_br (tw_callV (M := mX5_road) (pc := 2) okX5_countryAt dX5_road_2 w_546 rfl f5 [.int a] [] rfl rfl ⟨by decide, by decide⟩ (Nat.le_of_ble_eq_true rfl) (c3_X5_countryAt d g τ h sp0.1 x kx a) 19 114 (Nat.le_of_ble_eq_true rfl) (Nat.le_of_ble_eq_true rfl)) (fun r3 h2 q1 => ?_) (fun E h1 q1 => Or.inr ⟨E, rfl, Or.inl ⟨q1.1, fun z => q1.2.2 z.1⟩, τ, by rw [q1.2.1]; exact sp0⟩)
  obtain ⟨q1e, q1k, ja, q1j, q1n, q1b⟩ := q1
  rw [q1e]
  subst q1n
  have cDa : tw_DN (nI ja) = ja := nI_clamp (by omega)
  refine tw_astore [(5, .ref r3), (0, .ref x), (1, .int (nI ja)), (2, .int b), (3, .int dy), (4, .int fr)] dX5_road_5 (by decide) rfl ?_
  refine tw_aload_n 1 dX5_road_7 rfl rfl ?_
  refine tw_iload_n 3 dX5_road_8 rfl rfl ?_
  refine tw_br (tw_callV (M := mX5_road) (pc := 9) okX5_countryAt dX5_road_9 w_546 rfl f5 [.int b] [] rfl rfl ⟨by decide, by decide⟩ (Nat.le_of_ble_eq_true rfl) (c3_X5_countryAt d g τ h sp0.1 x kx b) 18 108 (Nat.le_of_ble_eq_true rfl) (Nat.le_of_ble_eq_true rfl)) (fun r33 h32 q31 => ?_) (fun E h1 q31 => Or.inr ⟨E, rfl, Or.inl ⟨q31.1, fun z => q31.2.2 z.2⟩, τ, by rw [q31.2.1]; exact sp0⟩)
  obtain ⟨q31e, q31k, jb, q31j, q31n, q31b⟩ := q31
  rw [q31e]
  subst q31n
  have cDb : tw_DN (nI jb) = jb := nI_clamp (by omega)
  have ix0 : tw_ix (g.2 6) (nI ja) ∧ tw_ix (g.2 6) (nI jb) := ⟨⟨ja, q1j, rfl⟩, ⟨jb, q31j, rfl⟩⟩
  refine tw_astore [(6, .ref r33), (5, .ref r3), (0, .ref x), (1, .int (nI ja)), (2, .int (nI jb)), (3, .int dy), (4, .int fr)] dX5_road_12 (by decide) rfl ?_
  refine tw_iload_n 3 dX5_road_14 rfl rfl ?_
  refine tw_iload_n 4 dX5_road_15 rfl rfl ?_
  refine tw_bv (tw_callS (M := mX5_road) (pc := 16) okX5_needDifferent dX5_road_16 w_599 [.int (nI ja), .int (nI jb)] [] rfl rfl ⟨by decide, by decide⟩ (Nat.le_of_ble_eq_true rfl) (c2_X5_needDifferent d g τ h sp0.1 (nI ja) (nI jb)) 17 102 (Nat.le_of_ble_eq_true rfl) (Nat.le_of_ble_eq_true rfl)) (fun h35 q34 => ?_) (fun E h1 q34 => Or.inr ⟨E, rfl, Or.inr ⟨q34.1, ix0, fun z => q34.2.2 z.1⟩, τ, by rw [q34.2.1]; exact sp0⟩)
  obtain ⟨q34e, nd⟩ := q34
  rw [q34e]
  refine tw_iload_n 5 dX5_road_19 rfl rfl ?_
  refine tw_iconst (v := 1) dX5_road_20 (by decide) ?_
  refine tw_bipush (v := 30) dX5_road_21 (by decide) ?_
  refine tw_bv (tw_callS (M := mX5_road) (pc := 23) okX5_needRange dX5_road_23 w_399 [.int dy, .int 1, .int 30] [] rfl rfl ⟨by decide, by decide⟩ (Nat.le_of_ble_eq_true rfl) (c2_X5_needRange d g τ h sp0.1 dy 1 30) 16 96 (Nat.le_of_ble_eq_true rfl) (Nat.le_of_ble_eq_true rfl)) (fun h38 q37 => ?_) (fun E h1 q37 => Or.inr ⟨E, rfl, Or.inr ⟨q37.1, ix0, fun z => q37.2.2 z.2.1⟩, τ, by rw [q37.2.1]; exact sp0⟩)
  obtain ⟨q37e, rldy⟩ := q37
  rw [q37e]
  refine tw_iload 6 dX5_road_26 rfl ?_
  refine tw_iconst (v := 0) dX5_road_28 (by decide) ?_
  refine tw_bipush (v := 100) dX5_road_29 (by decide) ?_
  refine tw_bv (tw_callS (M := mX5_road) (pc := 31) okX5_needRange dX5_road_31 w_399 [.int fr, .int 0, .int 100] [] rfl rfl ⟨by decide, by decide⟩ (Nat.le_of_ble_eq_true rfl) (c2_X5_needRange d g τ h sp0.1 fr 0 100) 15 90 (Nat.le_of_ble_eq_true rfl) (Nat.le_of_ble_eq_true rfl)) (fun h41 q40 => ?_) (fun E h1 q40 => Or.inr ⟨E, rfl, Or.inr ⟨q40.1, ix0, fun z => q40.2.2 z.2.2⟩, τ, by rw [q40.2.1]; exact sp0⟩)
  obtain ⟨q40e, rlfr⟩ := q40
  rw [q40e]
  have rc : tw_RD (nI ja) (nI jb) dy fr := ⟨nd, rldy, rlfr⟩
  refine tw_aload 1 dX5_road_34 rfl ?_
  refine tw_aload 0 dX5_road_36 rfl ?_
  obtain ⟨e43, f44, n_45, r_46, c_47, go_48, so_49, v_50, rd_51, rf_52, t_53, rfl, k54, k55, k56, k57, k58, k59, k60, k61, k62⟩ := sp0.1 r33 2 q31k (by decide)
  obtain ⟨j63, ow64, fn9, fr9, fc9, fg9, fs9, q65, q66, q67, q68⟩ := k62
  obtain rfl : jb = j63 := by have z := ow64.b q31b; omega
  subst fn9 fr9 fc9 fg9 fs9
  refine tw_getN (v := .int (nI jb)) rfl in_4 0 dX5_road_38 w_502 rfl (by decide) f44 rfl ?_
  obtain ⟨e72, f73, n_74, r_75, c_76, go_77, so_78, v_79, rd_80, rf_81, t_82, rfl, k83, k84, k85, k86, k87, k88, k89, k90, k91⟩ := sp0.1 r3 2 q1k (by decide)
  obtain ⟨j92, ow93, fn9, fr9, fc9, fg9, fs9, q94, q95, q96, q97⟩ := k91
  obtain rfl : ja = j92 := by have z := ow93.b q1b; omega
  subst fn9 fr9 fc9 fg9 fs9
  refine tw_bi (tw_callVN (M := mX5_road) (pc := 41) okX0_daysTo dX5_road_41 w_226 rfl f73 [.int (nI jb)] [] rfl rfl ⟨by decide, by decide⟩ (Nat.le_of_ble_eq_true rfl) (c2_X0_daysTo d g τ h sp0.1 r3 q1k ja (by omega) q1b jb (by omega)) 15 90 (Nat.le_of_ble_eq_true rfl) (Nat.le_of_ble_eq_true rfl)) (fun r71 h70 q69 => ?_) (fun E h1 q => q.elim)
  obtain ⟨q69e, q69v⟩ := q69
  rw [q69e]
  refine tw_istore [(7, .int r71), (6, .ref r33), (5, .ref r3), (0, .ref x), (1, .int (nI ja)), (2, .int (nI jb)), (3, .int dy), (4, .int fr)] dX5_road_44 (by decide) rfl ?_
  refine tw_aload 2 dX5_road_46 rfl ?_
  refine tw_aload 1 dX5_road_48 rfl ?_
  refine tw_getN (v := .int (nI jb)) rfl in_4 0 dX5_road_50 w_502 rfl (by decide) f44 rfl ?_
  refine tw_iload_n 6 dX5_road_53 rfl rfl ?_
  refine tw_iload 7 dX5_road_54 rfl ?_
  refine tw_bv (tw_callVN (M := mX5_road) (pc := 56) okX0_setRoadTo dX5_road_56 w_603 rfl f73 [.int (nI jb), .int dy, .int fr] [] rfl rfl ⟨by decide, by decide⟩ (Nat.le_of_ble_eq_true rfl) (c2_X0_setRoadTo d g τ h sp0.1 r3 q1k ja (by omega) q1b jb (by omega) dy fr) 15 90 (Nat.le_of_ble_eq_true rfl) (Nat.le_of_ble_eq_true rfl)) (fun h99 q98 => ?_) (fun E h1 q => q.elim)
  have sp101 := sp0.tr q98
  refine tw_aload 1 dX5_road_59 rfl ?_
  refine tw_aload 2 dX5_road_61 rfl ?_
  obtain ⟨e102, f103, n_104, r_105, c_106, go_107, so_108, v_109, rd_110, rf_111, t_112, rfl, k113, k114, k115, k116, k117, k118, k119, k120, k121⟩ := sp101.1 r3 2 q1k (by decide)
  obtain ⟨j122, ow123, fn9, fr9, fc9, fg9, fs9, q124, q125, q126, q127⟩ := k121
  obtain rfl : ja = j122 := by have z := ow123.b q1b; omega
  subst fn9 fr9 fc9 fg9 fs9
  refine tw_getN (v := .int (nI ja)) rfl in_4 0 dX5_road_63 w_502 rfl (by decide) f103 rfl ?_
  refine tw_iload_n 6 dX5_road_66 rfl rfl ?_
  refine tw_iload 7 dX5_road_67 rfl ?_
  obtain ⟨e131, f132, n_133, r_134, c_135, go_136, so_137, v_138, rd_139, rf_140, t_141, rfl, k142, k143, k144, k145, k146, k147, k148, k149, k150⟩ := sp101.1 r33 2 q31k (by decide)
  obtain ⟨j151, ow152, fn9, fr9, fc9, fg9, fs9, q153, q154, q155, q156⟩ := k150
  obtain rfl : jb = j151 := by have z := ow152.b q31b; omega
  subst fn9 fr9 fc9 fg9 fs9
  refine tw_bv (tw_callVN (M := mX5_road) (pc := 69) okX0_setRoadTo dX5_road_69 w_603 rfl f132 [.int (nI ja), .int dy, .int fr] [] rfl rfl ⟨by decide, by decide⟩ (Nat.le_of_ble_eq_true rfl) (c2_X0_setRoadTo d (tw_g1 (tw_g1 g (160 + 64 * ja + 8 + jb) dy) (160 + 64 * ja + 16 + jb) fr) τ h99 sp101.1 r33 q31k jb (by omega) q31b ja (by omega) dy fr) 15 90 (Nat.le_of_ble_eq_true rfl) (Nat.le_of_ble_eq_true rfl)) (fun h129 q128 => ?_) (fun E h1 q => q.elim)
  have sp157 := sp101.tr q128
  refine tw_iload 0 dX5_road_72 rfl ?_
  exact tw_iret dX5_road_74 rfl (Or.inl ⟨_, rfl, (by rw [cDa, cDb]; exact q69v), ix0, rc, _, by rw [cDa, cDb]; exact sp157⟩)

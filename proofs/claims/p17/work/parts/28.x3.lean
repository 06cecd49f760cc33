/-! the class's methods over the typed heap. Laid by wip/p5/mkclass.py. -/
/-! numbers that don't overflow -/
def tw_L (n : Nat) : Int64 := Int64.ofNat n
theorem tw_L_toInt {n : Nat} (h : n < 2 ^ 63) : (tw_L n).toInt = n := by
  unfold tw_L
  exact Int64.toInt_ofNat_of_lt h
theorem tw_L_of {x : Int64} {n : Nat} (h : x.toInt = n) (hn : n < 2 ^ 63) : x = tw_L n := Int64.toInt_inj.mp (h.trans (tw_L_toInt hn).symm)
theorem tw_I_of {x : Int32} {n : Nat} (h : x.toInt = n) (hn : n < 2 ^ 31) : x = nI n := Int32.toInt_inj.mp (h.trans (nI_toInt hn).symm)
theorem tw_L_i {n : Nat} (h : n < 2 ^ 31) : (nI n).toInt64 = tw_L n := tw_L_of (by rw [Int32.toInt_toInt64, nI_toInt h]) (by omega)
theorem tw_L_mul {a b : Nat} (ha : a < 2 ^ 63) (hb : b < 2 ^ 63) (h : a * b < 2 ^ 63) : tw_L a * tw_L b = tw_L (a * b) := by
  refine tw_L_of ?_ h
  rw [Int64.toInt_mul, tw_L_toInt ha, tw_L_toInt hb, ← Int.natCast_mul]
  apply Int.bmod_eq_of_le_mul_two <;> omega
theorem tw_L_add {a b : Nat} (h : a + b < 2 ^ 63) : tw_L a + tw_L b = tw_L (a + b) := by
  refine tw_L_of ?_ h
  rw [Int64.toInt_add, tw_L_toInt (by omega), tw_L_toInt (by omega)]
  have e : (a : Int) + b = ((a + b : Nat) : Int) := by omega
  rw [e]
  apply Int.bmod_eq_of_le_mul_two <;> omega
theorem tw_L_sub {a b : Nat} (ha : a < 2 ^ 63) (h : b ≤ a) : tw_L a - tw_L b = tw_L (a - b) := by
  refine tw_L_of ?_ (by omega)
  rw [Int64.toInt_sub, tw_L_toInt (by omega), tw_L_toInt (by omega)]
  have e : (a : Int) - b = ((a - b : Nat) : Int) := by omega
  rw [e]
  apply Int.bmod_eq_of_le_mul_two <;> omega
theorem tw_L_div {a b : Nat} (ha : a < 2 ^ 63) (hb : b < 2 ^ 63) : tw_L a / tw_L b = tw_L (a / b) := by
  have l : a / b ≤ a := Nat.div_le_self a b
  refine tw_L_of ?_ (by omega)
  rw [Int64.toInt_div, tw_L_toInt ha, tw_L_toInt hb]
  have e : Int.tdiv (a : Int) b = ((a / b : Nat) : Int) := by simp
  rw [e]
  clear e
  generalize a / b = c at l ⊢
  apply Int.bmod_eq_of_le_mul_two <;> omega
theorem tw_L_32 {n : Nat} (h : n < 2 ^ 31) : (tw_L n).toInt32 = nI n := by
  refine tw_I_of ?_ h
  rw [Int64.toInt_toInt32, tw_L_toInt (by omega)]
  apply Int.bmod_eq_of_le_mul_two <;> omega
theorem tw_I_sub {a b : Nat} (ha : a < 2 ^ 31) (h : b ≤ a) : nI a - nI b = nI (a - b) := by
  refine tw_I_of ?_ (by omega)
  rw [Int32.toInt_sub, nI_toInt (by omega), nI_toInt (by omega)]
  have e : (a : Int) - b = ((a - b : Nat) : Int) := by omega
  rw [e]
  apply Int.bmod_eq_of_le_mul_two <;> omega
theorem tw_I_rng {x : Int32} {a b : Nat} (h1 : nI a ≤ x) (h2 : x ≤ nI b) (hb : b < 2 ^ 31) (ha : a < 2 ^ 31) : ∃ n, a ≤ n ∧ n ≤ b ∧ x = nI n := by
  obtain ⟨n, hn, rfl⟩ := nI_of (Int32.not_lt.mpr (Int32.le_trans (nI_le (a := 0) (Nat.zero_le a) ha) h1))
  refine ⟨n, ?_, ?_, rfl⟩
  · rw [Int32.le_iff_toInt_le, nI_toInt ha, nI_toInt hn] at h1
    omega
  · rw [Int32.le_iff_toInt_le, nI_toInt hb, nI_toInt hn] at h2
    omega
/-! what a mint gives, what comes of a trip -/
def tw_up3 (a t : Nat) : Nat := (a * t + 999) / 1000
def tw_gv (k r c a : Nat) : Nat := (if k = 0 then a * r / 10 else a * 10 / r) - tw_up3 (if k = 0 then a * r / 10 else a * 10 / r) c
def tw_tp (k a r1 c1 r2 c2 f1 f2 : Nat) : Nat := tw_gv (1 - k) r2 c2 (tw_gv k r1 c1 a - tw_up3 (tw_gv k r1 c1 a) f1) - tw_up3 (tw_gv (1 - k) r2 c2 (tw_gv k r1 c1 a - tw_up3 (tw_gv k r1 c1 a) f1)) f2
theorem tw_up3_le {a t : Nat} (h : t ≤ 1000) : tw_up3 a t ≤ a := by
  have z : a * t ≤ a * 1000 := Nat.mul_le_mul_left a h
  unfold tw_up3
  omega
theorem tw_sil_le {a r : Nat} (h : r ≤ 200) : a * r / 10 ≤ 20 * a := by
  have z : a * r ≤ a * 200 := Nat.mul_le_mul_left a h
  omega
theorem tw_gol_le {a r : Nat} (h : 100 ≤ r) : a * 10 / r ≤ a := by
  have z : a * 10 / r ≤ a * 10 / 100 := Nat.div_le_div_left h (by decide)
  omega
theorem tw_w_le {k a r : Nat} (h1 : 100 ≤ r) (h2 : r ≤ 200) : (if k = 0 then a * r / 10 else a * 10 / r) ≤ 20 * a := by
  split
  · exact tw_sil_le h2
  · have := tw_gol_le (a := a) h1
    omega
theorem tw_gv_le {k r c a : Nat} (h1 : 100 ≤ r) (h2 : r ≤ 200) : tw_gv k r c a ≤ 20 * a := by
  have := tw_w_le (k := k) (a := a) h1 h2
  unfold tw_gv
  omega
theorem tw_mul_lt {a b m n : Nat} (h1 : a ≤ m) (h2 : b ≤ n) : a * b ≤ m * n := Nat.mul_le_mul h1 h2
theorem tw_up3_i {a t : Nat} (ha : a < 2 ^ 31) (ht : t ≤ 1000) : (((nI a).toInt64 * (nI t).toInt64 + 999) / 1000).toInt32 = nI (tw_up3 a t) := by
  have z : a * t ≤ 2 ^ 31 * 1000 := tw_mul_lt (by omega) ht
  have u := tw_up3_le (a := a) ht
  rw [tw_L_i ha, tw_L_i (by omega), tw_L_mul (by omega) (by omega) (by omega), show (999 : Int64) = tw_L 999 from rfl, show (1000 : Int64) = tw_L 1000 from rfl, tw_L_add (by omega), tw_L_div (by omega) (by omega)]
  exact tw_L_32 (n := tw_up3 a t) (by omega)
theorem tw_sil_i {a r : Nat} (ha : a ≤ 4000000) (hr : r ≤ 200) : ((nI a).toInt64 * (nI r).toInt64 / 10).toInt32 = nI (a * r / 10) := by
  have z : a * r ≤ 4000000 * 200 := tw_mul_lt ha hr
  rw [tw_L_i (by omega), tw_L_i (by omega), tw_L_mul (by omega) (by omega) (by omega), show (10 : Int64) = tw_L 10 from rfl, tw_L_div (by omega) (by omega)]
  exact tw_L_32 (by omega)
theorem tw_gol_i {a r : Nat} (ha : a ≤ 4000000) (h1 : 100 ≤ r) (hr : r ≤ 200) : ((nI a).toInt64 * 10 / (nI r).toInt64).toInt32 = nI (a * 10 / r) := by
  have z := tw_gol_le (a := a) h1
  rw [tw_L_i (by omega), tw_L_i (by omega), show (10 : Int64) = tw_L 10 from rfl, tw_L_mul (by omega) (by omega) (by omega), tw_L_div (by omega) (by omega)]
  exact tw_L_32 (by omega)
theorem tw_upL {a b : Nat} (hb : 1 ≤ b) (h : a + b < 2 ^ 63) : (tw_L a + tw_L b - 1) / tw_L b = tw_L ((a + b - 1) / b) := by
  rw [tw_L_add h, show (1 : Int64) = tw_L 1 from rfl, tw_L_sub (by omega) (by omega), tw_L_div (by omega) (by omega)]
theorem tw_up3_L {a t : Nat} (ha : a ≤ 80000000) (ht : t ≤ 1000) : tw_L a - tw_L ((a * t + 1000 - 1) / 1000) = tw_L (a - tw_up3 a t) := by
  have u := tw_up3_le (a := a) ht
  have z : a * t ≤ 80000000 * 1000 := tw_mul_lt ha ht
  rw [show a * t + 1000 - 1 = a * t + 999 by omega]
  exact tw_L_sub (by omega) u
theorem tw_silL {a r : Nat} (ha : a ≤ 4000000) (hr : r ≤ 200) : tw_L a * (nI r).toInt64 / 10 = tw_L (a * r / 10) := by
  have z : a * r ≤ 4000000 * 200 := tw_mul_lt ha hr
  rw [tw_L_i (by omega), tw_L_mul (by omega) (by omega) (by omega), show (10 : Int64) = tw_L 10 from rfl, tw_L_div (by omega) (by omega)]
theorem tw_golL {a r : Nat} (ha : a ≤ 4000000) (hr : r ≤ 200) : tw_L a * 10 / (nI r).toInt64 = tw_L (a * 10 / r) := by
  rw [tw_L_i (by omega), show (10 : Int64) = tw_L 10 from rfl, tw_L_mul (by omega) (by omega) (by omega), tw_L_div (by omega) (by omega)]
/-- the numbers of the countries are within their ranges -/
def tw_EC (g : tw_G) : Prop := ∀ j, j < g.2 6 → (100 ≤ tw_DN (g.1 (160 + 64 * j)) ∧ tw_DN (g.1 (160 + 64 * j)) ≤ 200 ∧ g.1 (160 + 64 * j) = nI (tw_DN (g.1 (160 + 64 * j)))) ∧ (tw_DN (g.1 (160 + 64 * j + 1)) ≤ 50 ∧ g.1 (160 + 64 * j + 1) = nI (tw_DN (g.1 (160 + 64 * j + 1)))) ∧ ∀ k, k < 4 → tw_DN (g.1 (160 + 64 * j + 16 + k)) ≤ 100 ∧ g.1 (160 + 64 * j + 16 + k) = nI (tw_DN (g.1 (160 + 64 * j + 16 + k)))
def tw_EM (g : tw_G) : Prop := ∀ j, j < g.2 3 → (100 ≤ tw_DN (g.1 (480 + 64 * j)) ∧ tw_DN (g.1 (480 + 64 * j)) ≤ 200 ∧ g.1 (480 + 64 * j) = nI (tw_DN (g.1 (480 + 64 * j)))) ∧ (tw_DN (g.1 (480 + 64 * j + 1)) ≤ 50 ∧ g.1 (480 + 64 * j + 1) = nI (tw_DN (g.1 (480 + 64 * j + 1)))) ∧ ∀ k, k < 4 → tw_DN (g.1 (448 + 8 * j + k)) ≤ 100 ∧ g.1 (448 + 8 * j + k) = nI (tw_DN (g.1 (448 + 8 * j + k)))
/-- what comes of a trip, by the class's numbers and by the reference's -/
def tw_tC (g : tw_G) (a b k n : Nat) : Nat := tw_tp k n (tw_DN (g.1 (160 + 64 * a))) (tw_DN (g.1 (160 + 64 * a + 1))) (tw_DN (g.1 (160 + 64 * b))) (tw_DN (g.1 (160 + 64 * b + 1))) (tw_DN (g.1 (160 + 64 * a + 16 + b))) (tw_DN (g.1 (160 + 64 * a + 16 + b)))
def tw_tM (g : tw_G) (a b k n : Nat) : Nat := tw_tp k n (tw_DN (g.1 (480 + 64 * a))) (tw_DN (g.1 (480 + 64 * a + 1))) (tw_DN (g.1 (480 + 64 * b))) (tw_DN (g.1 (480 + 64 * b + 1))) (tw_DN (g.1 (448 + 8 * a + b))) (tw_DN (g.1 (448 + 8 * b + a)))
theorem tw_b3 {d : tw_D} {g : tw_G} {τ : tw_K} {h : tw_H} {x : Nat} (hw : tw_wt d g τ h) (kx : τ x = 36) : g.2 3 ≤ 4 := by
  obtain ⟨e, he, th, td, ds, fr, ca, us, wo, cm, lc, lh, ld, h9, k1, k2, k3, k4, k5, k6, k7, k8, k9, b3, -⟩ := hw x 36 kx (by decide)
  exact b3

set_option maxHeartbeats 4000000 in
set_option maxRecDepth 100000 in
theorem c3_X5_thousandthsRoundedUp (d : tw_D) (g : tw_G) (τ : tw_K) (h : tw_H) (hw : tw_wt d g τ h) (a t : Int32) (A T : Nat) (ea : a = nI A) (et : t = nI T) (hA : A < 2 ^ 31) (hT : T ≤ 1000) : tw_Ct d mX5_thousandthsRoundedUp 0 0 [.int a, .int t] h (tw_qi (fun r h1 => h1 = h ∧ r = nI (tw_up3 A T)) tw_nx) := by
  refine tw_of (by decide +kernel) (Nat.le_of_ble_eq_true rfl) ?_
  show tw_W d mX5_thousandthsRoundedUp _ 0 [(0, .int a), (1, .int t)] [] h 0 0
  have sp0 := tw_sp.rf hw
  refine tw_iload_n 0 dX5_thousandthsRoundedUp_0 rfl rfl ?_
  refine tw_i2l dX5_thousandthsRoundedUp_1 ?_
  refine tw_nml (fun v1 ev1 => ?_)
  refine tw_iload_n 1 dX5_thousandthsRoundedUp_2 rfl rfl ?_
  refine tw_i2l dX5_thousandthsRoundedUp_3 ?_
  refine tw_nml (fun v2 ev2 => ?_)
  refine tw_lmul dX5_thousandthsRoundedUp_4 ?_
  refine tw_nml (fun v3 ev3 => ?_)
  refine tw_ldc2 (v := 999) dX5_thousandthsRoundedUp_5 w_315 ?_
  refine tw_ladd dX5_thousandthsRoundedUp_8 ?_
  refine tw_nml (fun v4 ev4 => ?_)
  refine tw_ldc2 (v := 1000) dX5_thousandthsRoundedUp_9 w_316 ?_
  refine tw_ldiv dX5_thousandthsRoundedUp_12 (by decide) ?_
  refine tw_nml (fun v5 ev5 => ?_)
  refine tw_l2i dX5_thousandthsRoundedUp_13 ?_
  refine tw_nmi (fun v6 ev6 => ?_)
  exact tw_iret dX5_thousandthsRoundedUp_14 rfl (Or.inl ⟨_, rfl, rfl, by rw [ev6, ev5, ev4, ev3, ev1, ev2, ea, et]; exact tw_up3_i hA hT⟩)

set_option maxHeartbeats 4000000 in
set_option maxRecDepth 100000 in
theorem c3_X0_silverFor (d : tw_D) (g : tw_G) (τ : tw_K) (h : tw_H) (hw : tw_wt d g τ h) (x : Nat) (kx : τ x = 2) (j : Nat) (hj : j < 4) (hb : g.2 (4096 + x) = 160 + 64 * j) (a : Int32) (A R : Nat) (ea : a = nI A) (eR : g.1 (160 + 64 * j) = nI R) (h1R : 100 ≤ R) (h2R : R ≤ 200) (hA : A ≤ 4000000) : tw_Ct d mX0_silverFor 0 0 [.ref x, .int a] h (tw_qi (fun r h1 => h1 = h ∧ r = nI (A * R / 10)) tw_nx) := by
  refine tw_of (by decide +kernel) (Nat.le_of_ble_eq_true rfl) ?_
  show tw_W d mX0_silverFor _ 0 [(0, .ref x), (1, .int a)] [] h 0 0
  have sp0 := tw_sp.rf hw
  refine tw_iload_n 1 dX0_silverFor_0 rfl rfl ?_
  refine tw_i2l dX0_silverFor_1 ?_
  refine tw_nml (fun v1 ev1 => ?_)
  refine tw_aload_n 0 dX0_silverFor_2 rfl rfl ?_
  obtain ⟨e2, f3, n_4, r_5, c_6, go_7, so_8, v_9, rd_10, rf_11, t_12, rfl, k13, k14, k15, k16, k17, k18, k19, k20, k21⟩ := sp0.1 x 2 kx (by decide)
  obtain ⟨j22, ow23, fn9, fr9, fc9, fg9, fs9, q24, q25, q26⟩ := k21
  obtain rfl : j = j22 := by have z := ow23.b hb; omega
  subst fn9 fr9 fc9 fg9 fs9
  refine tw_get (v := .int (g.1 (160 + 64 * j))) rfl in_4 1 dX0_silverFor_3 w_503 rfl (by decide) f3 rfl ?_
  refine tw_i2l dX0_silverFor_6 ?_
  refine tw_nml (fun v27 ev27 => ?_)
  refine tw_lmul dX0_silverFor_7 ?_
  refine tw_nml (fun v28 ev28 => ?_)
  refine tw_ldc2 (v := 10) dX0_silverFor_8 w_307 ?_
  refine tw_ldiv dX0_silverFor_11 (by decide) ?_
  refine tw_nml (fun v29 ev29 => ?_)
  refine tw_l2i dX0_silverFor_12 ?_
  refine tw_nmi (fun v30 ev30 => ?_)
  exact tw_iret dX0_silverFor_13 rfl (Or.inl ⟨_, rfl, rfl, by rw [ev30, ev29, ev28, ev1, ev27, ea, eR]; exact tw_sil_i hA h2R⟩)

set_option maxHeartbeats 4000000 in
set_option maxRecDepth 100000 in
theorem c3_X0_goldOf (d : tw_D) (g : tw_G) (τ : tw_K) (h : tw_H) (hw : tw_wt d g τ h) (x : Nat) (kx : τ x = 2) (j : Nat) (hj : j < 4) (hb : g.2 (4096 + x) = 160 + 64 * j) (a : Int32) (A R : Nat) (ea : a = nI A) (eR : g.1 (160 + 64 * j) = nI R) (h1R : 100 ≤ R) (h2R : R ≤ 200) (hA : A ≤ 4000000) : tw_Ct d mX0_goldOf 0 0 [.ref x, .int a] h (tw_qi (fun r h1 => h1 = h ∧ r = nI (A * 10 / R)) tw_nx) := by
  refine tw_of (by decide +kernel) (Nat.le_of_ble_eq_true rfl) ?_
  show tw_W d mX0_goldOf _ 0 [(0, .ref x), (1, .int a)] [] h 0 0
  have sp0 := tw_sp.rf hw
  refine tw_aload_n 0 dX0_goldOf_0 rfl rfl ?_
  obtain ⟨e1, f2, n_3, r_4, c_5, go_6, so_7, v_8, rd_9, rf_10, t_11, rfl, k12, k13, k14, k15, k16, k17, k18, k19, k20⟩ := sp0.1 x 2 kx (by decide)
  obtain ⟨j21, ow22, fn9, fr9, fc9, fg9, fs9, q23, q24, q25⟩ := k20
  obtain rfl : j = j21 := by have z := ow22.b hb; omega
  subst fn9 fr9 fc9 fg9 fs9
  refine tw_get (v := .int (g.1 (160 + 64 * j))) rfl in_4 1 dX0_goldOf_1 w_503 rfl (by decide) f2 rfl ?_
  refine tw_iconst (v := 1) dX0_goldOf_4 (by decide) ?_
  refine tw_icmp_ge 12 dX0_goldOf_5 (by decide) (fun _ => ?_) (fun c26 => absurd ((by rw [eR]; exact nI_le (a := 1) (by omega) (by omega))) c26)
  refine tw_iload_n 1 dX0_goldOf_12 rfl rfl ?_
  refine tw_i2l dX0_goldOf_13 ?_
  refine tw_nml (fun v27 ev27 => ?_)
  refine tw_ldc2 (v := 10) dX0_goldOf_14 w_307 ?_
  refine tw_lmul dX0_goldOf_17 ?_
  refine tw_nml (fun v28 ev28 => ?_)
  refine tw_aload_n 0 dX0_goldOf_18 rfl rfl ?_
  refine tw_get (v := .int (g.1 (160 + 64 * j))) rfl in_4 1 dX0_goldOf_19 w_503 rfl (by decide) f2 rfl ?_
  refine tw_i2l dX0_goldOf_22 ?_
  refine tw_nml (fun v29 ev29 => ?_)
  refine tw_ldiv dX0_goldOf_23 (tw_nzl ev29 (by rw [eR]; exact nI_le (a := 1) (by omega) (by omega))) ?_
  refine tw_nml (fun v30 ev30 => ?_)
  refine tw_l2i dX0_goldOf_24 ?_
  refine tw_nmi (fun v31 ev31 => ?_)
  exact tw_iret dX0_goldOf_25 rfl (Or.inl ⟨_, rfl, rfl, by rw [ev31, ev30, ev28, ev27, ev29, ea, eR]; exact tw_gol_i hA h1R h2R⟩)

set_option maxHeartbeats 4000000 in
set_option maxRecDepth 100000 in
theorem c3_X0_minted (d : tw_D) (g : tw_G) (τ : tw_K) (h : tw_H) (hw : tw_wt d g τ h) (x : Nat) (kx : τ x = 2) (j : Nat) (hj : j < 4) (hb : g.2 (4096 + x) = 160 + 64 * j) (k : Nat) (hk : k < 2) (a : Int32) (A R : Nat) (ea : a = nI A) (eR : g.1 (160 + 64 * j) = nI R) (h1R : 100 ≤ R) (h2R : R ≤ 200) (hA : A ≤ 4000000) (C : Nat) (eC : g.1 (160 + 64 * j + 1) = nI C) (hC : C ≤ 50) : tw_Ct d mX0_minted 0 0 [.ref x, .int (nI k), .int a] h (tw_qi (fun r h1 => h1 = h ∧ r = nI (tw_gv k R C A)) tw_nx) := by
  rcases (show k = 0 ∨ k = 1 by omega) with rfl | rfl
  · skip
    refine tw_of (by decide +kernel) (Nat.le_of_ble_eq_true rfl) ?_
    show tw_W d mX0_minted _ 0 [(0, .ref x), (1, .int (nI 0)), (2, .int a)] [] h 0 0
    have sp0 := tw_sp.rf hw
    refine tw_iload_n 1 dX0_minted_0 rfl rfl ?_
    refine tw_if_ne 12 dX0_minted_1 (by decide) (fun c1 => absurd (rfl) c1) (fun _ => ?_)
    refine tw_aload_n 0 dX0_minted_4 rfl rfl ?_
    refine tw_iload_n 2 dX0_minted_5 rfl rfl ?_
    obtain ⟨e2, f3, n_4, r_5, c_6, go_7, so_8, v_9, rd_10, rf_11, t_12, rfl, k13, k14, k15, k16, k17, k18, k19, k20, k21⟩ := sp0.1 x 2 kx (by decide)
    obtain ⟨j22, ow23, fn9, fr9, fc9, fg9, fs9, q24, q25, q26⟩ := k21
    obtain rfl : j = j22 := by have z := ow23.b hb; omega
    subst fn9 fr9 fc9 fg9 fs9
    refine tw_bi (tw_callV (M := mX0_minted) (pc := 6) okX0_silverFor dX0_minted_6 w_303 rfl f3 [.int a] [] rfl rfl ⟨by decide, by decide⟩ (Nat.le_of_ble_eq_true rfl) (c3_X0_silverFor d g τ h sp0.1 x kx j hj hb a A R ea eR h1R h2R hA) 0 0 (Nat.le_of_ble_eq_true rfl) (Nat.le_of_ble_eq_true rfl)) (fun r29 h28 q27 => ?_) (fun E h1 q => q.elim)
    obtain ⟨q27e, q27v⟩ := q27
    rw [q27e]
    refine tw_goto 17 dX0_minted_9 (by decide) ?_
    refine tw_istore_n [(3, .int r29), (0, .ref x), (1, .int (nI 0)), (2, .int a)] dX0_minted_17 rfl (by decide) rfl ?_
    refine tw_iload_n 0 dX0_minted_18 rfl rfl ?_
    refine tw_iload_n 0 dX0_minted_19 rfl rfl ?_
    refine tw_aload_n 1 dX0_minted_20 rfl rfl ?_
    refine tw_get (v := .int (g.1 (160 + 64 * j + 1))) rfl in_4 2 dX0_minted_21 w_505 rfl (by decide) f3 rfl ?_
    have wl : (A * R / 10) ≤ 20 * A := tw_sil_le h2R
    refine tw_bi (tw_callSN (M := mX0_minted) (pc := 24) okX5_thousandthsRoundedUp dX0_minted_24 w_312 [.int r29, .int (g.1 (160 + 64 * j + 1))] [.int r29] rfl rfl ⟨by decide, by decide⟩ (Nat.le_of_ble_eq_true rfl) (c3_X5_thousandthsRoundedUp d g τ h sp0.1 r29 (g.1 (160 + 64 * j + 1)) (A * R / 10) C q27v eC (by omega) (by omega)) 0 0 (Nat.le_of_ble_eq_true rfl) (Nat.le_of_ble_eq_true rfl)) (fun r32 h31 q30 => ?_) (fun E h1 q => q.elim)
    obtain ⟨q30e, q30v⟩ := q30
    rw [q30e]
    refine tw_isub dX0_minted_27 ?_
    refine tw_nmi (fun v33 ev33 => ?_)
    exact tw_iret dX0_minted_28 rfl (Or.inl ⟨_, rfl, rfl, by rw [ev33, q27v, q30v]; exact tw_I_sub (by omega) (tw_up3_le (by omega))⟩)
  · skip
    refine tw_of (by decide +kernel) (Nat.le_of_ble_eq_true rfl) ?_
    show tw_W d mX0_minted _ 0 [(0, .ref x), (1, .int (nI 1)), (2, .int a)] [] h 0 0
    have sp0 := tw_sp.rf hw
    refine tw_iload_n 1 dX0_minted_0 rfl rfl ?_
    refine tw_if_ne 12 dX0_minted_1 (by decide) (fun _ => ?_) (fun c1 => absurd c1 ((by decide)))
    refine tw_aload_n 0 dX0_minted_12 rfl rfl ?_
    refine tw_iload_n 2 dX0_minted_13 rfl rfl ?_
    obtain ⟨e2, f3, n_4, r_5, c_6, go_7, so_8, v_9, rd_10, rf_11, t_12, rfl, k13, k14, k15, k16, k17, k18, k19, k20, k21⟩ := sp0.1 x 2 kx (by decide)
    obtain ⟨j22, ow23, fn9, fr9, fc9, fg9, fs9, q24, q25, q26⟩ := k21
    obtain rfl : j = j22 := by have z := ow23.b hb; omega
    subst fn9 fr9 fc9 fg9 fs9
    refine tw_bi (tw_callV (M := mX0_minted) (pc := 14) okX0_goldOf dX0_minted_14 w_308 rfl f3 [.int a] [] rfl rfl ⟨by decide, by decide⟩ (Nat.le_of_ble_eq_true rfl) (c3_X0_goldOf d g τ h sp0.1 x kx j hj hb a A R ea eR h1R h2R hA) 0 0 (Nat.le_of_ble_eq_true rfl) (Nat.le_of_ble_eq_true rfl)) (fun r29 h28 q27 => ?_) (fun E h1 q => q.elim)
    obtain ⟨q27e, q27v⟩ := q27
    rw [q27e]
    refine tw_istore_n [(3, .int r29), (0, .ref x), (1, .int (nI 1)), (2, .int a)] dX0_minted_17 rfl (by decide) rfl ?_
    refine tw_iload_n 0 dX0_minted_18 rfl rfl ?_
    refine tw_iload_n 0 dX0_minted_19 rfl rfl ?_
    refine tw_aload_n 1 dX0_minted_20 rfl rfl ?_
    refine tw_get (v := .int (g.1 (160 + 64 * j + 1))) rfl in_4 2 dX0_minted_21 w_505 rfl (by decide) f3 rfl ?_
    have wl : (A * 10 / R) ≤ 20 * A := Nat.le_trans (tw_gol_le h1R) (by omega)
    refine tw_bi (tw_callSN (M := mX0_minted) (pc := 24) okX5_thousandthsRoundedUp dX0_minted_24 w_312 [.int r29, .int (g.1 (160 + 64 * j + 1))] [.int r29] rfl rfl ⟨by decide, by decide⟩ (Nat.le_of_ble_eq_true rfl) (c3_X5_thousandthsRoundedUp d g τ h sp0.1 r29 (g.1 (160 + 64 * j + 1)) (A * 10 / R) C q27v eC (by omega) (by omega)) 0 0 (Nat.le_of_ble_eq_true rfl) (Nat.le_of_ble_eq_true rfl)) (fun r32 h31 q30 => ?_) (fun E h1 q => q.elim)
    obtain ⟨q30e, q30v⟩ := q30
    rw [q30e]
    refine tw_isub dX0_minted_27 ?_
    refine tw_nmi (fun v33 ev33 => ?_)
    exact tw_iret dX0_minted_28 rfl (Or.inl ⟨_, rfl, rfl, by rw [ev33, q27v, q30v]; exact tw_I_sub (by omega) (tw_up3_le (by omega))⟩)

set_option maxHeartbeats 4000000 in
set_option maxRecDepth 100000 in
theorem c3_X5_otherMetal (d : tw_D) (g : tw_G) (τ : tw_K) (h : tw_H) (hw : tw_wt d g τ h) (k : Nat) (hk : k < 2) : tw_Ct d mX5_otherMetal 0 0 [.int (nI k)] h (tw_qi (fun r h1 => h1 = h ∧ r = nI (1 - k)) tw_nx) := by
  rcases (show k = 0 ∨ k = 1 by omega) with rfl | rfl
  · skip
    refine tw_of (by decide +kernel) (Nat.le_of_ble_eq_true rfl) ?_
    show tw_W d mX5_otherMetal _ 0 [(0, .int (nI 0))] [] h 0 0
    have sp0 := tw_sp.rf hw
    refine tw_iload_n 0 dX5_otherMetal_0 rfl rfl ?_
    refine tw_if_ne 8 dX5_otherMetal_1 (by decide) (fun c1 => absurd (rfl) c1) (fun _ => ?_)
    refine tw_iconst (v := 1) dX5_otherMetal_4 (by decide) ?_
    refine tw_goto 9 dX5_otherMetal_5 (by decide) ?_
    exact tw_iret dX5_otherMetal_9 rfl (Or.inl ⟨_, rfl, rfl, rfl⟩)
  · skip
    refine tw_of (by decide +kernel) (Nat.le_of_ble_eq_true rfl) ?_
    show tw_W d mX5_otherMetal _ 0 [(0, .int (nI 1))] [] h 0 0
    have sp0 := tw_sp.rf hw
    refine tw_iload_n 0 dX5_otherMetal_0 rfl rfl ?_
    refine tw_if_ne 8 dX5_otherMetal_1 (by decide) (fun _ => ?_) (fun c1 => absurd c1 ((by decide)))
    refine tw_iconst (v := 0) dX5_otherMetal_8 (by decide) ?_
    exact tw_iret dX5_otherMetal_9 rfl (Or.inl ⟨_, rfl, rfl, rfl⟩)

set_option maxHeartbeats 4000000 in
set_option maxRecDepth 100000 in
theorem c3_X5_comesOfTrip (d : tw_D) (g : tw_G) (τ : tw_K) (h : tw_H) (hw : tw_wt d g τ h) (a : Nat) (ka : τ a = 2) (ja : Nat) (hja : ja < 4) (hba : g.2 (4096 + a) = 160 + 64 * ja) (b : Nat) (kb : τ b = 2) (jb : Nat) (hjb : jb < 4) (hbb : g.2 (4096 + b) = 160 + 64 * jb) (k : Nat) (hk : k < 2) (gr : Int32) (n : Nat) (en : gr = nI n) (hn : n ≤ 99999) (Ra Ca : Nat) (eRa : g.1 (160 + 64 * ja) = nI Ra) (h1Ra : 100 ≤ Ra) (h2Ra : Ra ≤ 200) (eCa : g.1 (160 + 64 * ja + 1) = nI Ca) (hCa : Ca ≤ 50) (Rb Cb : Nat) (eRb : g.1 (160 + 64 * jb) = nI Rb) (h1Rb : 100 ≤ Rb) (h2Rb : Rb ≤ 200) (eCb : g.1 (160 + 64 * jb + 1) = nI Cb) (hCb : Cb ≤ 50) (F : Nat) (eF : g.1 (160 + 64 * ja + 16 + jb) = nI F) (hF : F ≤ 100) : tw_Ct d mX5_comesOfTrip 0 0 [.ref a, .ref b, .int (nI k), .int gr] h (tw_qi (fun r h1 => h1 = h ∧ r = nI (tw_tp k n Ra Ca Rb Cb F F)) tw_nx) := by
  refine tw_of (by decide +kernel) (Nat.le_of_ble_eq_true rfl) ?_
  show tw_W d mX5_comesOfTrip _ 0 [(0, .ref a), (1, .ref b), (2, .int (nI k)), (3, .int gr)] [] h 0 0
  have sp0 := tw_sp.rf hw
  refine tw_aload_n 0 dX5_comesOfTrip_0 rfl rfl ?_
  refine tw_aload_n 1 dX5_comesOfTrip_1 rfl rfl ?_
  obtain ⟨e1, f2, n_3, r_4, c_5, go_6, so_7, v_8, rd_9, rf_10, t_11, rfl, k12, k13, k14, k15, k16, k17, k18, k19, k20⟩ := sp0.1 b 2 kb (by decide)
  obtain ⟨j21, ow22, fn9, fr9, fc9, fg9, fs9, q23, q24, q25⟩ := k20
  obtain rfl : jb = j21 := by have z := ow22.b hbb; omega
  subst fn9 fr9 fc9 fg9 fs9
  refine tw_getN (v := .int (nI jb)) rfl in_4 0 dX5_comesOfTrip_2 w_502 rfl (by decide) f2 rfl ?_
  obtain ⟨e26, f27, n_28, r_29, c_30, go_31, so_32, v_33, rd_34, rf_35, t_36, rfl, k37, k38, k39, k40, k41, k42, k43, k44, k45⟩ := sp0.1 a 2 ka (by decide)
  obtain ⟨j46, ow47, fn9, fr9, fc9, fg9, fs9, q48, q49, q50⟩ := k45
  obtain rfl : ja = j46 := by have z := ow47.b hba; omega
  subst fn9 fr9 fc9 fg9 fs9
  refine tw_bi (tw_callVN (M := mX5_comesOfTrip) (pc := 5) okX0_freightTo dX5_comesOfTrip_5 w_231 rfl f27 [.int (nI jb)] [] rfl rfl ⟨by decide, by decide⟩ (Nat.le_of_ble_eq_true rfl) (c2_X0_freightTo d g τ h sp0.1 a ka ja hja hba jb hjb) 0 0 (Nat.le_of_ble_eq_true rfl) (Nat.le_of_ble_eq_true rfl)) (fun r53 h52 q51 => ?_) (fun E h1 q => q.elim)
  obtain ⟨q51e, q51v⟩ := q51
  rw [q51e]
  have fr9 := q51v.trans eF
  refine tw_istore [(4, .int r53), (0, .ref a), (1, .ref b), (2, .int (nI k)), (3, .int gr)] dX5_comesOfTrip_8 (by decide) rfl ?_
  refine tw_aload_n 1 dX5_comesOfTrip_10 rfl rfl ?_
  refine tw_iload_n 3 dX5_comesOfTrip_11 rfl rfl ?_
  refine tw_iload_n 4 dX5_comesOfTrip_12 rfl rfl ?_
  refine tw_bi (tw_callVN (M := mX5_comesOfTrip) (pc := 13) okX0_minted dX5_comesOfTrip_13 w_299 rfl f27 [.int (nI k), .int gr] [] rfl rfl ⟨by decide, by decide⟩ (Nat.le_of_ble_eq_true rfl) (c3_X0_minted d g τ h sp0.1 a ka ja hja hba k (by omega) gr n Ra en eRa h1Ra h2Ra (by omega) Ca eCa hCa) 0 0 (Nat.le_of_ble_eq_true rfl) (Nat.le_of_ble_eq_true rfl)) (fun r56 h55 q54 => ?_) (fun E h1 q => q.elim)
  obtain ⟨q54e, q54v⟩ := q54
  rw [q54e]
  have gla := tw_gv_le (k := k) (r := Ra) (c := Ca) (a := n) h1Ra h2Ra
  refine tw_istore [(5, .int r56), (4, .int r53), (0, .ref a), (1, .ref b), (2, .int (nI k)), (3, .int gr)] dX5_comesOfTrip_16 (by decide) rfl ?_
  refine tw_iload 0 dX5_comesOfTrip_18 rfl ?_
  refine tw_iload 0 dX5_comesOfTrip_20 rfl ?_
  refine tw_iload 1 dX5_comesOfTrip_22 rfl ?_
  refine tw_bi (tw_callS (M := mX5_comesOfTrip) (pc := 24) okX5_thousandthsRoundedUp dX5_comesOfTrip_24 w_317 [.int r56, .int r53] [.int r56] rfl rfl ⟨by decide, by decide⟩ (Nat.le_of_ble_eq_true rfl) (c3_X5_thousandthsRoundedUp d g τ h sp0.1 r56 r53 (tw_gv k Ra Ca n) F q54v fr9 (by omega) (by omega)) 0 0 (Nat.le_of_ble_eq_true rfl) (Nat.le_of_ble_eq_true rfl)) (fun r59 h58 q57 => ?_) (fun E h1 q => q.elim)
  obtain ⟨q57e, q57v⟩ := q57
  rw [q57e]
  refine tw_isub dX5_comesOfTrip_27 ?_
  refine tw_nmi (fun v60 ev60 => ?_)
  refine tw_istore [(6, .int v60), (5, .int r56), (4, .int r53), (0, .ref a), (1, .ref b), (2, .int (nI k)), (3, .int gr)] dX5_comesOfTrip_28 (by decide) rfl ?_
  refine tw_aload_n 4 dX5_comesOfTrip_30 rfl rfl ?_
  refine tw_iload_n 5 dX5_comesOfTrip_31 rfl rfl ?_
  refine tw_bi (tw_callS (M := mX5_comesOfTrip) (pc := 32) okX5_otherMetal dX5_comesOfTrip_32 w_318 [.int (nI k)] [.ref b] rfl rfl ⟨by decide, by decide⟩ (Nat.le_of_ble_eq_true rfl) (c3_X5_otherMetal d g τ h sp0.1 k hk) 0 0 (Nat.le_of_ble_eq_true rfl) (Nat.le_of_ble_eq_true rfl)) (fun r63 h62 q61 => ?_) (fun E h1 q => q.elim)
  obtain ⟨q61e, q61v⟩ := q61
  rw [q61e, q61v]
  have ar9 : v60 = nI ((tw_gv k Ra Ca n) - tw_up3 (tw_gv k Ra Ca n) F) := by rw [ev60, q54v, q57v]; exact tw_I_sub (by omega) (tw_up3_le (by omega))
  have al9 : ((tw_gv k Ra Ca n) - tw_up3 (tw_gv k Ra Ca n) F) ≤ (tw_gv k Ra Ca n) := Nat.sub_le _ _
  refine tw_iload 0 dX5_comesOfTrip_35 rfl ?_
  refine tw_bi (tw_callVN (M := mX5_comesOfTrip) (pc := 37) okX0_minted dX5_comesOfTrip_37 w_299 rfl f2 [.int (nI (1 - k)), .int v60] [] rfl rfl ⟨by decide, by decide⟩ (Nat.le_of_ble_eq_true rfl) (c3_X0_minted d g τ h sp0.1 b kb jb hjb hbb (1 - k) (by omega) v60 ((tw_gv k Ra Ca n) - tw_up3 (tw_gv k Ra Ca n) F) Rb ar9 eRb h1Rb h2Rb (by omega) Cb eCb hCb) 0 0 (Nat.le_of_ble_eq_true rfl) (Nat.le_of_ble_eq_true rfl)) (fun r66 h65 q64 => ?_) (fun E h1 q => q.elim)
  obtain ⟨q64e, q64v⟩ := q64
  rw [q64e]
  have glb := tw_gv_le (k := (1 - k)) (r := Rb) (c := Cb) (a := ((tw_gv k Ra Ca n) - tw_up3 (tw_gv k Ra Ca n) F)) h1Rb h2Rb
  refine tw_istore [(7, .int r66), (6, .int v60), (5, .int r56), (4, .int r53), (0, .ref a), (1, .ref b), (2, .int (nI k)), (3, .int gr)] dX5_comesOfTrip_40 (by decide) rfl ?_
  refine tw_iload 0 dX5_comesOfTrip_42 rfl ?_
  refine tw_iload 0 dX5_comesOfTrip_44 rfl ?_
  refine tw_iload 3 dX5_comesOfTrip_46 rfl ?_
  refine tw_bi (tw_callS (M := mX5_comesOfTrip) (pc := 48) okX5_thousandthsRoundedUp dX5_comesOfTrip_48 w_317 [.int r66, .int r53] [.int r66] rfl rfl ⟨by decide, by decide⟩ (Nat.le_of_ble_eq_true rfl) (c3_X5_thousandthsRoundedUp d g τ h sp0.1 r66 r53 (tw_gv (1 - k) Rb Cb ((tw_gv k Ra Ca n) - tw_up3 (tw_gv k Ra Ca n) F)) F q64v fr9 (by omega) (by omega)) 0 0 (Nat.le_of_ble_eq_true rfl) (Nat.le_of_ble_eq_true rfl)) (fun r69 h68 q67 => ?_) (fun E h1 q => q.elim)
  obtain ⟨q67e, q67v⟩ := q67
  rw [q67e]
  refine tw_isub dX5_comesOfTrip_51 ?_
  refine tw_nmi (fun v70 ev70 => ?_)
  exact tw_iret dX5_comesOfTrip_52 rfl (Or.inl ⟨_, rfl, rfl, by rw [ev70, q64v, q67v]; exact tw_I_sub (by omega) (tw_up3_le (by omega))⟩)

set_option maxHeartbeats 4000000 in
set_option maxRecDepth 100000 in
theorem c3_X10_up (d : tw_D) (g : tw_G) (τ : tw_K) (h : tw_H) (hw : tw_wt d g τ h) (a b : Int64) (A D : Nat) (ea : a = tw_L A) (eb : b = tw_L D) (hD : 1 ≤ D) (h9 : A + D < 2 ^ 63) : tw_Ct d mX10_up 0 0 [.long a, .long b] h (tw_ql (fun r h1 => h1 = h ∧ r = tw_L ((A + D - 1) / D)) tw_nx) := by
  refine tw_of (by decide +kernel) (Nat.le_of_ble_eq_true rfl) ?_
  show tw_W d mX10_up _ 0 [(0, .long a), (2, .long b)] [] h 0 0
  have sp0 := tw_sp.rf hw
  refine tw_lload_n 0 dX10_up_0 rfl rfl ?_
  refine tw_lload_n 1 dX10_up_1 rfl rfl ?_
  refine tw_ladd dX10_up_2 ?_
  refine tw_nml (fun v1 ev1 => ?_)
  refine tw_lconst (v := 1) dX10_up_3 (by decide) ?_
  refine tw_lsub dX10_up_4 ?_
  refine tw_nml (fun v2 ev2 => ?_)
  refine tw_lload_n 1 dX10_up_5 rfl rfl ?_
  refine tw_ldiv dX10_up_6 (fun z => by rw [eb] at z; have z2 := congrArg Int64.toInt z; rw [tw_L_toInt (by omega)] at z2; have z3 : (0 : Int64).toInt = 0 := rfl; omega) ?_
  refine tw_nml (fun v3 ev3 => ?_)
  exact tw_lret dX10_up_7 rfl (Or.inl ⟨_, rfl, rfl, by rw [ev3, ev2, ev1, ea, eb]; exact tw_upL hD h9⟩)

set_option maxHeartbeats 4000000 in
set_option maxRecDepth 100000 in
theorem c3_X10_given (d : tw_D) (g : tw_G) (τ : tw_K) (h : tw_H) (hw : tw_wt d g τ h) (c : Nat) (kc : τ c = 21) (j : Nat) (hj : j < 4) (hb : g.2 (4096 + c) = 480 + 64 * j) (k : Nat) (hk : k < 2) (a : Int64) (A : Nat) (ea : a = tw_L A) (hA : A ≤ 4000000) (R C : Nat) (eR : g.1 (480 + 64 * j) = nI R) (h1R : 100 ≤ R) (h2R : R ≤ 200) (eC : g.1 (480 + 64 * j + 1) = nI C) (hC : C ≤ 50) : tw_Ct d mX10_given 0 0 [.ref c, .int (nI k), .long a] h (tw_ql (fun r h1 => h1 = h ∧ r = tw_L (tw_gv k R C A)) tw_nx) := by
  rcases (show k = 0 ∨ k = 1 by omega) with rfl | rfl
  · skip
    refine tw_of (by decide +kernel) (Nat.le_of_ble_eq_true rfl) ?_
    show tw_W d mX10_given _ 0 [(0, .ref c), (1, .int (nI 0)), (2, .long a)] [] h 0 0
    have sp0 := tw_sp.rf hw
    refine tw_iload_n 1 dX10_given_0 rfl rfl ?_
    refine tw_if_ne 18 dX10_given_1 (by decide) (fun c1 => absurd (rfl) c1) (fun _ => ?_)
    refine tw_lload_n 2 dX10_given_4 rfl rfl ?_
    refine tw_aload_n 0 dX10_given_5 rfl rfl ?_
    obtain ⟨e2, f3, r_4, c_5, v_6, o_7, t_8, rfl, k9, k10, k11, k12, k13, k14⟩ := sp0.1 c 21 kc (by decide)
    obtain ⟨j15, ow16, fr9, fc9, q17, q18⟩ := k14
    obtain rfl : j = j15 := by have z := ow16.b hb; omega
    subst fr9 fc9
    refine tw_get (v := .int (g.1 (480 + 64 * j))) rfl in_11 0 dX10_given_6 w_1218 rfl (by decide) f3 rfl ?_
    refine tw_i2l dX10_given_9 ?_
    refine tw_nml (fun v19 ev19 => ?_)
    refine tw_lmul dX10_given_10 ?_
    refine tw_nml (fun v20 ev20 => ?_)
    refine tw_ldc2 (v := 10) dX10_given_11 w_1373 ?_
    refine tw_ldiv dX10_given_14 (by decide) ?_
    refine tw_nml (fun v21 ev21 => ?_)
    refine tw_goto 29 dX10_given_15 (by decide) ?_
    refine tw_lstore [(4, .long v21), (0, .ref c), (1, .int (nI 0)), (2, .long a)] dX10_given_29 (by decide) rfl ?_
    refine tw_lload 0 dX10_given_31 rfl ?_
    refine tw_lload 0 dX10_given_33 rfl ?_
    refine tw_aload_n 1 dX10_given_35 rfl rfl ?_
    refine tw_get (v := .int (g.1 (480 + 64 * j + 1))) rfl in_11 1 dX10_given_36 w_1219 rfl (by decide) f3 rfl ?_
    refine tw_i2l dX10_given_39 ?_
    refine tw_nml (fun v22 ev22 => ?_)
    refine tw_lmul dX10_given_40 ?_
    refine tw_nml (fun v23 ev23 => ?_)
    refine tw_ldc2 (v := 1000) dX10_given_41 w_1374 ?_
    have wl : (A * R / 10) ≤ 20 * A := tw_sil_le h2R
    have we : v21 = tw_L (A * R / 10) := by rw [ev21, ev20, ev19, ea, eR]; exact tw_silL hA h2R
    have zC : (A * R / 10) * C ≤ 80000000 * 1000 := tw_mul_lt (by omega) (by omega)
    have ue : v23 = tw_L ((A * R / 10) * C) := by rw [ev23, we, ev22, eC, tw_L_i (by omega)]; exact tw_L_mul (by omega) (by omega) (by omega)
    refine tw_bl (tw_callS (M := mX10_given) (pc := 44) okX10_up dX10_given_44 w_1375 [.long v23, .long 1000] [.long v21] rfl rfl ⟨by decide, by decide⟩ (Nat.le_of_ble_eq_true rfl) (c3_X10_up d g τ h sp0.1 v23 1000 ((A * R / 10) * C) 1000 ue rfl (by decide) (by omega)) 0 0 (Nat.le_of_ble_eq_true rfl) (Nat.le_of_ble_eq_true rfl)) (fun r26 h25 q24 => ?_) (fun E h1 q => q.elim)
    obtain ⟨q24e, q24v⟩ := q24
    rw [q24e]
    refine tw_lsub dX10_given_47 ?_
    refine tw_nml (fun v27 ev27 => ?_)
    exact tw_lret dX10_given_48 rfl (Or.inl ⟨_, rfl, rfl, by rw [ev27, we, q24v]; exact tw_up3_L (by omega) (by omega)⟩)
  · skip
    refine tw_of (by decide +kernel) (Nat.le_of_ble_eq_true rfl) ?_
    show tw_W d mX10_given _ 0 [(0, .ref c), (1, .int (nI 1)), (2, .long a)] [] h 0 0
    have sp0 := tw_sp.rf hw
    refine tw_iload_n 1 dX10_given_0 rfl rfl ?_
    refine tw_if_ne 18 dX10_given_1 (by decide) (fun _ => ?_) (fun c1 => absurd c1 ((by decide)))
    refine tw_lload_n 2 dX10_given_18 rfl rfl ?_
    refine tw_ldc2 (v := 10) dX10_given_19 w_1373 ?_
    refine tw_lmul dX10_given_22 ?_
    refine tw_nml (fun v2 ev2 => ?_)
    refine tw_aload_n 0 dX10_given_23 rfl rfl ?_
    obtain ⟨e3, f4, r_5, c_6, v_7, o_8, t_9, rfl, k10, k11, k12, k13, k14, k15⟩ := sp0.1 c 21 kc (by decide)
    obtain ⟨j16, ow17, fr9, fc9, q18, q19⟩ := k15
    obtain rfl : j = j16 := by have z := ow17.b hb; omega
    subst fr9 fc9
    refine tw_get (v := .int (g.1 (480 + 64 * j))) rfl in_11 0 dX10_given_24 w_1218 rfl (by decide) f4 rfl ?_
    refine tw_i2l dX10_given_27 ?_
    refine tw_nml (fun v20 ev20 => ?_)
    refine tw_ldiv dX10_given_28 (tw_nzl ev20 (by rw [eR]; exact nI_le (a := 1) (by omega) (by omega))) ?_
    refine tw_nml (fun v21 ev21 => ?_)
    refine tw_lstore [(4, .long v21), (0, .ref c), (1, .int (nI 1)), (2, .long a)] dX10_given_29 (by decide) rfl ?_
    refine tw_lload 0 dX10_given_31 rfl ?_
    refine tw_lload 0 dX10_given_33 rfl ?_
    refine tw_aload_n 1 dX10_given_35 rfl rfl ?_
    refine tw_get (v := .int (g.1 (480 + 64 * j + 1))) rfl in_11 1 dX10_given_36 w_1219 rfl (by decide) f4 rfl ?_
    refine tw_i2l dX10_given_39 ?_
    refine tw_nml (fun v22 ev22 => ?_)
    refine tw_lmul dX10_given_40 ?_
    refine tw_nml (fun v23 ev23 => ?_)
    refine tw_ldc2 (v := 1000) dX10_given_41 w_1374 ?_
    have wl : (A * 10 / R) ≤ 20 * A := Nat.le_trans (tw_gol_le h1R) (by omega)
    have we : v21 = tw_L (A * 10 / R) := by rw [ev21, ev2, ev20, ea, eR]; exact tw_golL hA h2R
    have zC : (A * 10 / R) * C ≤ 80000000 * 1000 := tw_mul_lt (by omega) (by omega)
    have ue : v23 = tw_L ((A * 10 / R) * C) := by rw [ev23, we, ev22, eC, tw_L_i (by omega)]; exact tw_L_mul (by omega) (by omega) (by omega)
    refine tw_bl (tw_callS (M := mX10_given) (pc := 44) okX10_up dX10_given_44 w_1375 [.long v23, .long 1000] [.long v21] rfl rfl ⟨by decide, by decide⟩ (Nat.le_of_ble_eq_true rfl) (c3_X10_up d g τ h sp0.1 v23 1000 ((A * 10 / R) * C) 1000 ue rfl (by decide) (by omega)) 0 0 (Nat.le_of_ble_eq_true rfl) (Nat.le_of_ble_eq_true rfl)) (fun r26 h25 q24 => ?_) (fun E h1 q => q.elim)
    obtain ⟨q24e, q24v⟩ := q24
    rw [q24e]
    refine tw_lsub dX10_given_47 ?_
    refine tw_nml (fun v27 ev27 => ?_)
    exact tw_lret dX10_given_48 rfl (Or.inl ⟨_, rfl, rfl, by rw [ev27, we, q24v]; exact tw_up3_L (by omega) (by omega)⟩)

theorem tw_tp_lt {k n r1 c1 r2 c2 f1 f2 : Nat} (h1 : 100 ≤ r1) (h2 : r1 ≤ 200) (h3 : 100 ≤ r2) (h4 : r2 ≤ 200) (hn : n ≤ 99999) : tw_tp k n r1 c1 r2 c2 f1 f2 < 2 ^ 31 := by
  have a := tw_gv_le (k := k) (r := r1) (c := c1) (a := n) h1 h2
  have b := tw_gv_le (k := 1 - k) (r := r2) (c := c2) (a := tw_gv k r1 c1 n - tw_up3 (tw_gv k r1 c1 n) f1) h3 h4
  unfold tw_tp
  omega
def tw_RT (a b m gr : Int32) : Prop := a ≠ b ∧ tw_RM m ∧ 0 ≤ gr ∧ gr ≤ 99999
theorem tw_grm {gr : Int32} (h1 : 0 ≤ gr) (h2 : gr ≤ 99999) : ∃ n, n ≤ 99999 ∧ gr = nI n := by
  obtain ⟨n, -, h, e⟩ := tw_I_rng (a := 0) (b := 99999) h1 h2 (by decide) (by decide)
  exact ⟨n, h, e⟩
theorem tw_1k {k : Nat} (hk : k < 2) : (1 : Int32) - nI k = nI (1 - k) := by
  rcases (show k = 0 ∨ k = 1 by omega) with rfl | rfl <;> rfl
set_option maxHeartbeats 4000000 in
set_option maxRecDepth 100000 in
theorem c3_X10_tripNow (d : tw_D) (g : tw_G) (τ : tw_K) (h : tw_H) (hw : tw_wt d g τ h) (x : Nat) (kx : τ x = 36) (a b : Nat) (ha : a < g.2 3) (hb : b < g.2 3) (k : Nat) (hk : k < 2) (gr : Int64) (n : Nat) (en : gr = tw_L n) (hn : n ≤ 99999) (he : tw_EM g) : tw_Ct d mX10_tripNow 0 0 [.ref x, .int (nI a), .int (nI b), .int (nI k), .long gr] h (tw_ql (fun r h1 => h1 = h ∧ r = tw_L (tw_tM g a b k n)) tw_nx) := by
  refine tw_of (by decide +kernel) (Nat.le_of_ble_eq_true rfl) ?_
  show tw_W d mX10_tripNow _ 0 [(0, .ref x), (1, .int (nI a)), (2, .int (nI b)), (3, .int (nI k)), (4, .long gr)] [] h 0 0
  have sp0 := tw_sp.rf hw
  have b9 := tw_b3 hw kx
  have Ea := he a ha
  have Eb := he b hb
  refine tw_aload_n 0 dX10_tripNow_0 rfl rfl ?_
  obtain ⟨e1, f2, th_3, td_4, ds_5, fr_6, ca_7, us_8, wo_9, cm_10, lc_11, lh_12, ld_13, rfl, k14, k15, k16, k17, k18, k19, k20, k21, k22, k23, k24, k25, k26, k27, k28, k29, k30, k31⟩ := sp0.1 x 36 kx (by decide)
  refine tw_get (v := .ref lc_11) rfl in_14 9 dX10_tripNow_1 w_1160 rfl (by decide) f2 rfl ?_
  refine tw_iload_n 1 dX10_tripNow_4 rfl rfl ?_
  obtain ⟨e32, f33, ⟨el34, rfl, k35⟩, k36⟩ := sp0.1 lc_11 24 k20 (by decide)
  refine tw_br (tw_callV (M := mX10_tripNow) (pc := 5) okJx4a65c_get_915e3 dX10_tripNow_5 w_1296 rfl f33 [.int (nI a)] [] rfl rfl ⟨by decide, by decide⟩ (Nat.le_of_ble_eq_true rfl) (c24_get d g τ h sp0.1 lc_11 k20 a (by omega) (by omega)) 0 0 (Nat.le_of_ble_eq_true rfl) (Nat.le_of_ble_eq_true rfl)) (fun r39 h38 q37 => ?_) (fun E h1 q => q.elim)
  obtain ⟨q37e, q37k⟩ := q37
  rw [q37e]
  have el40 : tw_el h (g.2 12) a = r39 := by rw [← k36]; exact q37k.2.symm
  have kl41 : τ (g.2 12) = 24 := by rw [← k36]; exact k20
  have id42 : g.2 (4096 + r39) = 480 + 64 * a := by rw [← el40]; exact tw_eli24 sp0.1 kl41 (by omega)
  obtain ⟨e43, f44, r_45, c_46, v_47, o_48, t_49, rfl, k50, k51, k52, k53, k54, k55⟩ := sp0.1 r39 21 q37k.1 (by decide)
  obtain ⟨j56, ow57, fr9, fc9, q58, q59⟩ := k55
  obtain rfl : a = j56 := by have z := ow57.b id42; omega
  subst fr9 fc9
  refine tw_castS (ci := 11) rfl dX10_tripNow_8 w_1212 f44 ?_
  refine tw_iload_n 3 dX10_tripNow_11 rfl rfl ?_
  refine tw_lload 4 dX10_tripNow_12 rfl ?_
  refine tw_bl (tw_callS (M := mX10_tripNow) (pc := 14) okX10_given dX10_tripNow_14 w_1370 [.ref r39, .int (nI k), .long gr] [] rfl rfl ⟨by decide, by decide⟩ (Nat.le_of_ble_eq_true rfl) (c3_X10_given d g τ h sp0.1 r39 q37k.1 a (by omega) id42 k (by omega) gr n en (by omega) _ _ Ea.1.2.2 Ea.1.1 Ea.1.2.1 Ea.2.1.2 Ea.2.1.1) 0 0 (Nat.le_of_ble_eq_true rfl) (Nat.le_of_ble_eq_true rfl)) (fun r62 h61 q60 => ?_) (fun E h1 q => q.elim)
  obtain ⟨q60e, q60v⟩ := q60
  rw [q60e]
  have gla := tw_gv_le (k := k) (r := (tw_DN (g.1 (480 + 64 * a)))) (c := (tw_DN (g.1 (480 + 64 * a + 1)))) (a := n) Ea.1.1 Ea.1.2.1
  refine tw_lstore [(6, .long r62), (0, .ref x), (1, .int (nI a)), (2, .int (nI b)), (3, .int (nI k)), (4, .long gr)] dX10_tripNow_17 (by decide) rfl ?_
  refine tw_lload 0 dX10_tripNow_19 rfl ?_
  refine tw_lload 0 dX10_tripNow_21 rfl ?_
  refine tw_aload_n 1 dX10_tripNow_23 rfl rfl ?_
  refine tw_get (v := .ref fr_6) rfl in_14 4 dX10_tripNow_24 w_1155 rfl (by decide) f2 rfl ?_
  refine tw_iload_n 2 dX10_tripNow_27 rfl rfl ?_
  obtain ⟨e65, f66, F63, rfl, k64⟩ := sp0.1 fr_6 34 k15 (by decide)
  obtain ⟨q67, k68, k69, iq70⟩ := k64 ((nI a)).toNatClampNeg (by rw [nI_clamp (by omega)]; omega)
  refine tw_aald (v := .ref q67) 8 rfl rfl dX10_tripNow_28 f66 (vp_in_nI (by omega) (by decide)) (by rw [k68]; rfl) ?_
  have id71 : g.2 (4096 + q67) = 448 + 8 * a := by have z := iq70; rw [nI_clamp (by omega), k31] at z; exact z
  refine tw_iload_n 3 dX10_tripNow_29 rfl rfl ?_
  obtain ⟨e72, f73, F74, rfl, ⟨b76, ow77, wv78⟩⟩ := sp0.1 q67 6 k69 (by decide)
  obtain rfl : b76 = (448 + 8 * a) := ow77.b id71
  have ev79 : F74 ((nI b)).toNatClampNeg = (g.1 ((448 + 8 * a) + b)) := by rw [nI_clamp (by omega)]; exact wv78 b (by omega)
  refine tw_iald (v := (g.1 ((448 + 8 * a) + b))) dX10_tripNow_30 f73 (vp_in_nI (by omega) (by decide)) ev79 ?_
  refine tw_i2l dX10_tripNow_31 ?_
  refine tw_nml (fun v80 ev80 => ?_)
  refine tw_lmul dX10_tripNow_32 ?_
  refine tw_nml (fun v81 ev81 => ?_)
  refine tw_ldc2 (v := 1000) dX10_tripNow_33 w_1374 ?_
  have fa := (Ea.2.2 b (by omega))
  have za : (tw_gv k (tw_DN (g.1 (480 + 64 * a))) (tw_DN (g.1 (480 + 64 * a + 1))) n) * (tw_DN (g.1 (448 + 8 * a + b))) ≤ 80000000 * 1000 := tw_mul_lt (by omega) (by omega)
  have ua : v81 = tw_L ((tw_gv k (tw_DN (g.1 (480 + 64 * a))) (tw_DN (g.1 (480 + 64 * a + 1))) n) * (tw_DN (g.1 (448 + 8 * a + b)))) := by rw [ev81, q60v, ev80, fa.2, tw_L_i (by have := fa.1; omega), ← fa.2]; exact tw_L_mul (by omega) (by omega) (by omega)
  refine tw_bl (tw_callS (M := mX10_tripNow) (pc := 36) okX10_up dX10_tripNow_36 w_1375 [.long v81, .long 1000] [.long r62] rfl rfl ⟨by decide, by decide⟩ (Nat.le_of_ble_eq_true rfl) (c3_X10_up d g τ h sp0.1 v81 1000 ((tw_gv k (tw_DN (g.1 (480 + 64 * a))) (tw_DN (g.1 (480 + 64 * a + 1))) n) * (tw_DN (g.1 (448 + 8 * a + b)))) 1000 ua rfl (by decide) (by omega)) 0 0 (Nat.le_of_ble_eq_true rfl) (Nat.le_of_ble_eq_true rfl)) (fun r84 h83 q82 => ?_) (fun E h1 q => q.elim)
  obtain ⟨q82e, q82v⟩ := q82
  rw [q82e]
  refine tw_lsub dX10_tripNow_39 ?_
  refine tw_nml (fun v85 ev85 => ?_)
  have ar9 : v85 = tw_L ((tw_gv k (tw_DN (g.1 (480 + 64 * a))) (tw_DN (g.1 (480 + 64 * a + 1))) n) - tw_up3 (tw_gv k (tw_DN (g.1 (480 + 64 * a))) (tw_DN (g.1 (480 + 64 * a + 1))) n) (tw_DN (g.1 (448 + 8 * a + b)))) := by rw [ev85, q60v, q82v]; exact tw_up3_L (by omega) (by omega)
  have al9 : ((tw_gv k (tw_DN (g.1 (480 + 64 * a))) (tw_DN (g.1 (480 + 64 * a + 1))) n) - tw_up3 (tw_gv k (tw_DN (g.1 (480 + 64 * a))) (tw_DN (g.1 (480 + 64 * a + 1))) n) (tw_DN (g.1 (448 + 8 * a + b)))) ≤ (tw_gv k (tw_DN (g.1 (480 + 64 * a))) (tw_DN (g.1 (480 + 64 * a + 1))) n) := Nat.sub_le _ _
  refine tw_lstore [(6, .long v85), (0, .ref x), (1, .int (nI a)), (2, .int (nI b)), (3, .int (nI k)), (4, .long gr)] dX10_tripNow_40 (by decide) rfl ?_
  refine tw_aload_n 1 dX10_tripNow_42 rfl rfl ?_
  refine tw_get (v := .ref lc_11) rfl in_14 9 dX10_tripNow_43 w_1160 rfl (by decide) f2 rfl ?_
  refine tw_iload_n 3 dX10_tripNow_46 rfl rfl ?_
  refine tw_br (tw_callV (M := mX10_tripNow) (pc := 47) okJx4a65c_get_915e3 dX10_tripNow_47 w_1296 rfl f33 [.int (nI b)] [] rfl rfl ⟨by decide, by decide⟩ (Nat.le_of_ble_eq_true rfl) (c24_get d g τ h sp0.1 lc_11 k20 b (by omega) (by omega)) 0 0 (Nat.le_of_ble_eq_true rfl) (Nat.le_of_ble_eq_true rfl)) (fun r88 h87 q86 => ?_) (fun E h1 q => q.elim)
  obtain ⟨q86e, q86k⟩ := q86
  rw [q86e]
  have el89 : tw_el h (g.2 12) b = r88 := by rw [← k36]; exact q86k.2.symm
  have kl90 : τ (g.2 12) = 24 := by rw [← k36]; exact k20
  have id91 : g.2 (4096 + r88) = 480 + 64 * b := by rw [← el89]; exact tw_eli24 sp0.1 kl90 (by omega)
  obtain ⟨e92, f93, r_94, c_95, v_96, o_97, t_98, rfl, k99, k100, k101, k102, k103, k104⟩ := sp0.1 r88 21 q86k.1 (by decide)
  obtain ⟨j105, ow106, fr9, fc9, q107, q108⟩ := k104
  obtain rfl : b = j105 := by have z := ow106.b id91; omega
  subst fr9 fc9
  refine tw_castS (ci := 11) rfl dX10_tripNow_50 w_1212 f93 ?_
  refine tw_iconst (v := 1) dX10_tripNow_53 (by decide) ?_
  refine tw_iload_n 4 dX10_tripNow_54 rfl rfl ?_
  refine tw_isub dX10_tripNow_55 ?_
  refine tw_nmi (fun v109 ev109 => ?_)
  refine tw_lload 0 dX10_tripNow_56 rfl ?_
  have m1 : v109 = nI (1 - k) := by rw [ev109]; exact tw_1k hk
  rw [m1]
  refine tw_bl (tw_callS (M := mX10_tripNow) (pc := 58) okX10_given dX10_tripNow_58 w_1370 [.ref r88, .int (nI (1 - k)), .long v85] [] rfl rfl ⟨by decide, by decide⟩ (Nat.le_of_ble_eq_true rfl) (c3_X10_given d g τ h sp0.1 r88 q86k.1 b (by omega) id91 (1 - k) (by omega) v85 ((tw_gv k (tw_DN (g.1 (480 + 64 * a))) (tw_DN (g.1 (480 + 64 * a + 1))) n) - tw_up3 (tw_gv k (tw_DN (g.1 (480 + 64 * a))) (tw_DN (g.1 (480 + 64 * a + 1))) n) (tw_DN (g.1 (448 + 8 * a + b)))) ar9 (by omega) _ _ Eb.1.2.2 Eb.1.1 Eb.1.2.1 Eb.2.1.2 Eb.2.1.1) 0 0 (Nat.le_of_ble_eq_true rfl) (Nat.le_of_ble_eq_true rfl)) (fun r112 h111 q110 => ?_) (fun E h1 q => q.elim)
  obtain ⟨q110e, q110v⟩ := q110
  rw [q110e]
  have glb := tw_gv_le (k := (1 - k)) (r := (tw_DN (g.1 (480 + 64 * b)))) (c := (tw_DN (g.1 (480 + 64 * b + 1)))) (a := ((tw_gv k (tw_DN (g.1 (480 + 64 * a))) (tw_DN (g.1 (480 + 64 * a + 1))) n) - tw_up3 (tw_gv k (tw_DN (g.1 (480 + 64 * a))) (tw_DN (g.1 (480 + 64 * a + 1))) n) (tw_DN (g.1 (448 + 8 * a + b))))) Eb.1.1 Eb.1.2.1
  refine tw_lstore [(8, .long r112), (6, .long v85), (0, .ref x), (1, .int (nI a)), (2, .int (nI b)), (3, .int (nI k)), (4, .long gr)] dX10_tripNow_61 (by decide) rfl ?_
  refine tw_lload 0 dX10_tripNow_63 rfl ?_
  refine tw_lload 0 dX10_tripNow_65 rfl ?_
  refine tw_aload_n 2 dX10_tripNow_67 rfl rfl ?_
  refine tw_get (v := .ref fr_6) rfl in_14 4 dX10_tripNow_68 w_1155 rfl (by decide) f2 rfl ?_
  refine tw_iload_n 4 dX10_tripNow_71 rfl rfl ?_
  obtain ⟨q113, k114, k115, iq116⟩ := k64 ((nI b)).toNatClampNeg (by rw [nI_clamp (by omega)]; omega)
  refine tw_aald (v := .ref q113) 8 rfl rfl dX10_tripNow_72 f66 (vp_in_nI (by omega) (by decide)) (by rw [k114]; rfl) ?_
  have id117 : g.2 (4096 + q113) = 448 + 8 * b := by have z := iq116; rw [nI_clamp (by omega), k31] at z; exact z
  refine tw_iload_n 3 dX10_tripNow_73 rfl rfl ?_
  obtain ⟨e118, f119, F120, rfl, ⟨b122, ow123, wv124⟩⟩ := sp0.1 q113 6 k115 (by decide)
  obtain rfl : b122 = (448 + 8 * b) := ow123.b id117
  have ev125 : F120 ((nI a)).toNatClampNeg = (g.1 ((448 + 8 * b) + a)) := by rw [nI_clamp (by omega)]; exact wv124 a (by omega)
  refine tw_iald (v := (g.1 ((448 + 8 * b) + a))) dX10_tripNow_74 f119 (vp_in_nI (by omega) (by decide)) ev125 ?_
  refine tw_i2l dX10_tripNow_75 ?_
  refine tw_nml (fun v126 ev126 => ?_)
  refine tw_lmul dX10_tripNow_76 ?_
  refine tw_nml (fun v127 ev127 => ?_)
  refine tw_ldc2 (v := 1000) dX10_tripNow_77 w_1374 ?_
  have fb := (Eb.2.2 a (by omega))
  have zb : (tw_gv (1 - k) (tw_DN (g.1 (480 + 64 * b))) (tw_DN (g.1 (480 + 64 * b + 1))) ((tw_gv k (tw_DN (g.1 (480 + 64 * a))) (tw_DN (g.1 (480 + 64 * a + 1))) n) - tw_up3 (tw_gv k (tw_DN (g.1 (480 + 64 * a))) (tw_DN (g.1 (480 + 64 * a + 1))) n) (tw_DN (g.1 (448 + 8 * a + b))))) * (tw_DN (g.1 (448 + 8 * b + a))) ≤ 80000000 * 1000 := tw_mul_lt (by omega) (by omega)
  have ub : v127 = tw_L ((tw_gv (1 - k) (tw_DN (g.1 (480 + 64 * b))) (tw_DN (g.1 (480 + 64 * b + 1))) ((tw_gv k (tw_DN (g.1 (480 + 64 * a))) (tw_DN (g.1 (480 + 64 * a + 1))) n) - tw_up3 (tw_gv k (tw_DN (g.1 (480 + 64 * a))) (tw_DN (g.1 (480 + 64 * a + 1))) n) (tw_DN (g.1 (448 + 8 * a + b))))) * (tw_DN (g.1 (448 + 8 * b + a)))) := by rw [ev127, q110v, ev126, fb.2, tw_L_i (by have := fb.1; omega), ← fb.2]; exact tw_L_mul (by omega) (by omega) (by omega)
  refine tw_bl (tw_callS (M := mX10_tripNow) (pc := 80) okX10_up dX10_tripNow_80 w_1375 [.long v127, .long 1000] [.long r112] rfl rfl ⟨by decide, by decide⟩ (Nat.le_of_ble_eq_true rfl) (c3_X10_up d g τ h sp0.1 v127 1000 ((tw_gv (1 - k) (tw_DN (g.1 (480 + 64 * b))) (tw_DN (g.1 (480 + 64 * b + 1))) ((tw_gv k (tw_DN (g.1 (480 + 64 * a))) (tw_DN (g.1 (480 + 64 * a + 1))) n) - tw_up3 (tw_gv k (tw_DN (g.1 (480 + 64 * a))) (tw_DN (g.1 (480 + 64 * a + 1))) n) (tw_DN (g.1 (448 + 8 * a + b))))) * (tw_DN (g.1 (448 + 8 * b + a)))) 1000 ub rfl (by decide) (by omega)) 0 0 (Nat.le_of_ble_eq_true rfl) (Nat.le_of_ble_eq_true rfl)) (fun r130 h129 q128 => ?_) (fun E h1 q => q.elim)
  obtain ⟨q128e, q128v⟩ := q128
  rw [q128e]
  refine tw_lsub dX10_tripNow_83 ?_
  refine tw_nml (fun v131 ev131 => ?_)
  exact tw_lret dX10_tripNow_84 rfl (Or.inl ⟨_, rfl, rfl, by rw [ev131, q110v, q128v]; exact tw_up3_L (by omega) (by omega)⟩)

set_option maxHeartbeats 4000000 in
set_option maxRecDepth 100000 in
theorem c2_X5_trip (d : tw_D) (g : tw_G) (τ : tw_K) (h : tw_H) (hw : tw_wt d g τ h) (x : Nat) (kx : τ x = 11) (a : Int32) (b : Int32) (m : Int32) (gr : Int32) (he : tw_EC g) : tw_Ct d mX5_trip 20 120 [.ref x, .int a, .int b, .int m, .int gr] h (tw_qi (fun r9 h1 => r9 = nI (tw_tC g (tw_DN a) (tw_DN b) (tw_DN m) (tw_DN gr)) ∧ (tw_ix (g.2 6) a ∧ tw_ix (g.2 6) b) ∧ tw_RT a b m gr ∧ ∃ τ1, tw_sp d τ h (g) τ1 h1) (fun E h1 => (E = tw_IOE ∧ ¬ (tw_ix (g.2 6) a ∧ tw_ix (g.2 6) b) ∨ E = tw_IAE ∧ (tw_ix (g.2 6) a ∧ tw_ix (g.2 6) b) ∧ ¬ tw_RT a b m gr) ∧ ∃ τ1, tw_sp d τ h g τ1 h1)) := by
  refine tw_of (by decide +kernel) (Nat.le_of_ble_eq_true rfl) ?_
  show tw_W d mX5_trip _ 0 [(0, .ref x), (1, .int a), (2, .int b), (3, .int m), (4, .int gr)] [] h 20 120
  have sp0 := tw_sp.rf hw
  have b9 := (tw_b678 hw kx).1
  refine tw_aload_n 0 dX5_trip_0 rfl rfl ?_
  refine tw_iload_n 1 dX5_trip_1 rfl rfl ?_
  obtain ⟨e4, f5, td_6, ca_7, ha_8, da_9, c1_10, c2_11, c3_12, c4_13, rfl, k14, k15, k16, k17, k18, k19, k20, k21, k22, k23, k24, k25, k26⟩ := sp0.1 x 11 kx (by decide)
  refine tw_br (tw_callV (M := mX5_trip) (pc := 2) okX5_countryAt dX5_trip_2 w_546 rfl f5 [.int a] [] rfl rfl ⟨by decide, by decide⟩ (Nat.le_of_ble_eq_true rfl) (c3_X5_countryAt d g τ h sp0.1 x kx a) 19 114 (Nat.le_of_ble_eq_true rfl) (Nat.le_of_ble_eq_true rfl)) (fun r3 h2 q1 => ?_) (fun E h1 q1 => Or.inr ⟨E, rfl, Or.inl ⟨q1.1, fun z => q1.2.2 z.1⟩, τ, by rw [q1.2.1]; exact sp0⟩)
  obtain ⟨q1e, q1k, ja, q1j, q1n, q1b⟩ := q1
  rw [q1e]
  subst q1n
  have cDa : tw_DN (nI ja) = ja := nI_clamp (by omega)
  refine tw_astore [(5, .ref r3), (0, .ref x), (1, .int (nI ja)), (2, .int b), (3, .int m), (4, .int gr)] dX5_trip_5 (by decide) rfl ?_
  refine tw_aload_n 1 dX5_trip_7 rfl rfl ?_
  refine tw_iload_n 3 dX5_trip_8 rfl rfl ?_
  refine tw_br (tw_callV (M := mX5_trip) (pc := 9) okX5_countryAt dX5_trip_9 w_546 rfl f5 [.int b] [] rfl rfl ⟨by decide, by decide⟩ (Nat.le_of_ble_eq_true rfl) (c3_X5_countryAt d g τ h sp0.1 x kx b) 18 108 (Nat.le_of_ble_eq_true rfl) (Nat.le_of_ble_eq_true rfl)) (fun r29 h28 q27 => ?_) (fun E h1 q27 => Or.inr ⟨E, rfl, Or.inl ⟨q27.1, fun z => q27.2.2 z.2⟩, τ, by rw [q27.2.1]; exact sp0⟩)
  obtain ⟨q27e, q27k, jb, q27j, q27n, q27b⟩ := q27
  rw [q27e]
  subst q27n
  have cDb : tw_DN (nI jb) = jb := nI_clamp (by omega)
  have ix0 : tw_ix (g.2 6) (nI ja) ∧ tw_ix (g.2 6) (nI jb) := ⟨⟨ja, q1j, rfl⟩, ⟨jb, q27j, rfl⟩⟩
  refine tw_astore [(6, .ref r29), (5, .ref r3), (0, .ref x), (1, .int (nI ja)), (2, .int (nI jb)), (3, .int m), (4, .int gr)] dX5_trip_12 (by decide) rfl ?_
  refine tw_iload_n 3 dX5_trip_14 rfl rfl ?_
  refine tw_iload_n 4 dX5_trip_15 rfl rfl ?_
  refine tw_bv (tw_callS (M := mX5_trip) (pc := 16) okX5_needDifferent dX5_trip_16 w_599 [.int (nI ja), .int (nI jb)] [] rfl rfl ⟨by decide, by decide⟩ (Nat.le_of_ble_eq_true rfl) (c2_X5_needDifferent d g τ h sp0.1 (nI ja) (nI jb)) 17 102 (Nat.le_of_ble_eq_true rfl) (Nat.le_of_ble_eq_true rfl)) (fun h31 q30 => ?_) (fun E h1 q30 => Or.inr ⟨E, rfl, Or.inr ⟨q30.1, ix0, fun z => q30.2.2 z.1⟩, τ, by rw [q30.2.1]; exact sp0⟩)
  obtain ⟨q30e, nd⟩ := q30
  rw [q30e]
  refine tw_iload_n 5 dX5_trip_19 rfl rfl ?_
  refine tw_bv (tw_callS (M := mX5_trip) (pc := 20) okX5_needMetal dX5_trip_20 w_573 [.int m] [] rfl rfl ⟨by decide, by decide⟩ (Nat.le_of_ble_eq_true rfl) (c2_X5_needMetal d g τ h sp0.1 m) 16 96 (Nat.le_of_ble_eq_true rfl) (Nat.le_of_ble_eq_true rfl)) (fun h34 q33 => ?_) (fun E h1 q33 => Or.inr ⟨E, rfl, Or.inr ⟨q33.1, ix0, fun z => q33.2.2 z.2.1⟩, τ, by rw [q33.2.1]; exact sp0⟩)
  obtain ⟨q33e, rcm⟩ := q33
  rw [q33e]
  have rcm0 := rcm
  obtain ⟨k, hk, km⟩ := rcm.k
  subst km
  have cDm : tw_DN (nI k) = k := nI_clamp (by omega)
  refine tw_iload 6 dX5_trip_23 rfl ?_
  refine tw_iconst (v := 0) dX5_trip_25 (by decide) ?_
  refine tw_ldc (v := 99999) dX5_trip_26 w_470 ?_
  refine tw_bv (tw_callS (M := mX5_trip) (pc := 28) okX5_needRange dX5_trip_28 w_399 [.int gr, .int 0, .int 99999] [] rfl rfl ⟨by decide, by decide⟩ (Nat.le_of_ble_eq_true rfl) (c2_X5_needRange d g τ h sp0.1 gr 0 99999) 15 90 (Nat.le_of_ble_eq_true rfl) (Nat.le_of_ble_eq_true rfl)) (fun h37 q36 => ?_) (fun E h1 q36 => Or.inr ⟨E, rfl, Or.inr ⟨q36.1, ix0, fun z => q36.2.2 z.2.2⟩, τ, by rw [q36.2.1]; exact sp0⟩)
  obtain ⟨q36e, rlg⟩ := q36
  rw [q36e]
  have rc : tw_RT (nI ja) (nI jb) (nI k) gr := ⟨nd, rcm0, rlg⟩
  obtain ⟨n, hn, en⟩ := tw_grm rlg.1 rlg.2
  subst en
  have cDgr : tw_DN (nI n) = n := nI_clamp (by omega)
  refine tw_aload 1 dX5_trip_31 rfl ?_
  refine tw_aload 0 dX5_trip_33 rfl ?_
  refine tw_iload_n 5 dX5_trip_35 rfl rfl ?_
  refine tw_iload 6 dX5_trip_36 rfl ?_
  have Ea := he ja (by omega)
  have Eb := he jb (by omega)
  have Ef := Ea.2.2 jb (by omega)
  refine tw_bi (tw_callS (M := mX5_trip) (pc := 38) okX5_comesOfTrip dX5_trip_38 w_296 [.ref r3, .ref r29, .int (nI k), .int (nI n)] [] rfl rfl ⟨by decide, by decide⟩ (Nat.le_of_ble_eq_true rfl) (c3_X5_comesOfTrip d g τ h sp0.1 r3 q1k ja (by omega) q1b r29 q27k jb (by omega) q27b k hk (nI n) n rfl hn _ _ Ea.1.2.2 Ea.1.1 Ea.1.2.1 Ea.2.1.2 Ea.2.1.1 _ _ Eb.1.2.2 Eb.1.1 Eb.1.2.1 Eb.2.1.2 Eb.2.1.1 _ Ef.2 Ef.1) 15 90 (Nat.le_of_ble_eq_true rfl) (Nat.le_of_ble_eq_true rfl)) (fun r41 h40 q39 => ?_) (fun E h1 q => q.elim)
  obtain ⟨q39e, q39v⟩ := q39
  rw [q39e]
  exact tw_iret dX5_trip_41 rfl (Or.inl ⟨_, rfl, (by rw [cDa, cDb, cDm, cDgr]; exact q39v), ix0, rc, _, by skip; exact sp0⟩)

set_option maxHeartbeats 4000000 in
set_option maxRecDepth 100000 in
theorem c2_X10_trip (d : tw_D) (g : tw_G) (τ : tw_K) (h : tw_H) (hw : tw_wt d g τ h) (x : Nat) (kx : τ x = 36) (a : Int32) (b : Int32) (m : Int32) (gr : Int32) (o : Nat) (ko : τ o = 12) (he : tw_EM g) : tw_Ct d mX10_trip 0 0 [.ref x, .int a, .int b, .int m, .int gr] h (tw_qi (fun r9 h1 => ∃ g1 τ1, tw_sp d τ h g1 τ1 h1 ∧ h1 o = h o ∧ ((¬ (tw_ix (g.2 3) a ∧ tw_ix (g.2 3) b) ∧ tw_th (h1 x) = 1 ∧ g1 = g) ∨ ((tw_ix (g.2 3) a ∧ tw_ix (g.2 3) b) ∧ ¬ tw_RT a b m gr ∧ tw_th (h1 x) = 2 ∧ g1 = g) ∨ ((tw_ix (g.2 3) a ∧ tw_ix (g.2 3) b) ∧ tw_RT a b m gr ∧ r9 = nI (tw_tM g (tw_DN a) (tw_DN b) (tw_DN m) (tw_DN gr)) ∧ tw_th (h1 x) = 0 ∧ g1 = g))) tw_nx) := by
  refine tw_of (by decide +kernel) (Nat.le_of_ble_eq_true rfl) ?_
  show tw_W d mX10_trip _ 0 [(0, .ref x), (1, .int a), (2, .int b), (3, .int m), (4, .int gr)] [] h 0 0
  have sp0 := tw_sp.rf hw
  have oq0 : h o = h o := rfl
  refine tw_aload_n 0 dX10_trip_0 rfl rfl ?_
  refine tw_aload_n 0 dX10_trip_1 rfl rfl ?_
  refine tw_iload_n 1 dX10_trip_2 rfl rfl ?_
  obtain ⟨e1, f2, th_3, td_4, ds_5, fr_6, ca_7, us_8, wo_9, cm_10, lc_11, lh_12, ld_13, rfl, k14, k15, k16, k17, k18, k19, k20, k21, k22, k23, k24, k25, k26, k27, k28, k29, k30, k31⟩ := sp0.1 x 36 kx (by decide)
  refine tw_bi (tw_callV (M := mX10_trip) (pc := 3) okX10_isNoCountry dX10_trip_3 w_1292 rfl f2 [.int a] [.ref x] rfl rfl ⟨by decide, by decide⟩ (Nat.le_of_ble_eq_true rfl) (c2_X10_isNoCountry d g τ h sp0.1 x kx a) 0 0 (Nat.le_of_ble_eq_true rfl) (Nat.le_of_ble_eq_true rfl)) (fun r34 h33 q32 => ?_) (fun E h1 q => q.elim)
  obtain ⟨q32e, q32d⟩ := q32
  rw [q32e]
  rcases q32d with ⟨q32r, q32n⟩ | ⟨q32r, q32i⟩
  · rw [q32r]
    refine tw_if_ne 17 dX10_trip_6 (by decide) (fun _ => ?_) (fun c35 => absurd c35 (by decide))
    refine tw_iconst (v := 1) dX10_trip_17 (by decide) ?_
    refine tw_goto 22 dX10_trip_18 (by decide) ?_
    refine tw_iconst (v := 1) dX10_trip_22 (by decide) ?_
    refine tw_bi (tw_callV (M := mX10_trip) (pc := 23) okX10_start dX10_trip_23 w_1200 rfl f2 [.int 1, .int 1] [] rfl rfl ⟨by decide, by decide⟩ (Nat.le_of_ble_eq_true rfl) (c_X10_start d g τ h sp0.1 x kx 1 1 (by decide)) 0 0 (Nat.le_of_ble_eq_true rfl) (Nat.le_of_ble_eq_true rfl)) (fun r38 h37 q36 => ?_) (fun E h1 q => q.elim)
    obtain ⟨e39, he40, hs41, hr42, hc43⟩ := q36
    obtain ⟨rz44, tz45⟩ := hc43.2 rfl
    have th46 : tw_th (h37 x) = 1 := by rw [he40, tw_up_s]; exact tz45
    have sp47 : tw_sp d τ h g τ h37 := by rw [he40]; exact sp0.set kx (by decide) hs41
    rw [rz44]
    have oq48 : h37 o = h o := by rw [he40, tw_up_n (tw_nk ko kx (by decide))] <;> exact oq0
    refine tw_if_ne 65 dX10_trip_26 (by decide) (fun _ => ?_) (fun c49 => absurd c49 (by decide))
    refine tw_iconst (v := 0) dX10_trip_65 (by decide) ?_
    refine tw_goto 80 dX10_trip_66 (by decide) ?_
    exact tw_iret dX10_trip_80 rfl (Or.inl ⟨_, rfl, _, _, sp47, oq48, Or.inl ⟨fun z => q32n z.1, th46, rfl⟩⟩)
  · rw [q32r]
    have q32x := q32i
    obtain ⟨ja, q32j, q32k⟩ := q32i
    subst q32k
    have cDa : tw_DN (nI ja) = ja := nI_clamp (by omega)
    refine tw_if_ne 17 dX10_trip_6 (by decide) (fun c50 => absurd (by decide) c50) (fun _ => ?_)
    refine tw_aload_n 0 dX10_trip_9 rfl rfl ?_
    refine tw_iload_n 2 dX10_trip_10 rfl rfl ?_
    refine tw_bi (tw_callV (M := mX10_trip) (pc := 11) okX10_isNoCountry dX10_trip_11 w_1292 rfl f2 [.int b] [.ref x] rfl rfl ⟨by decide, by decide⟩ (Nat.le_of_ble_eq_true rfl) (c2_X10_isNoCountry d g τ h sp0.1 x kx b) 0 0 (Nat.le_of_ble_eq_true rfl) (Nat.le_of_ble_eq_true rfl)) (fun r53 h52 q51 => ?_) (fun E h1 q => q.elim)
    obtain ⟨q51e, q51d⟩ := q51
    rw [q51e]
    rcases q51d with ⟨q51r, q51n⟩ | ⟨q51r, q51i⟩
    · rw [q51r]
      refine tw_if_eq 21 dX10_trip_14 (by decide) (fun c54 => absurd c54 (by decide)) (fun _ => ?_)
      refine tw_iconst (v := 1) dX10_trip_17 (by decide) ?_
      refine tw_goto 22 dX10_trip_18 (by decide) ?_
      refine tw_iconst (v := 1) dX10_trip_22 (by decide) ?_
      refine tw_bi (tw_callV (M := mX10_trip) (pc := 23) okX10_start dX10_trip_23 w_1200 rfl f2 [.int 1, .int 1] [] rfl rfl ⟨by decide, by decide⟩ (Nat.le_of_ble_eq_true rfl) (c_X10_start d g τ h sp0.1 x kx 1 1 (by decide)) 0 0 (Nat.le_of_ble_eq_true rfl) (Nat.le_of_ble_eq_true rfl)) (fun r57 h56 q55 => ?_) (fun E h1 q => q.elim)
      obtain ⟨e58, he59, hs60, hr61, hc62⟩ := q55
      obtain ⟨rz63, tz64⟩ := hc62.2 rfl
      have th65 : tw_th (h56 x) = 1 := by rw [he59, tw_up_s]; exact tz64
      have sp66 : tw_sp d τ h g τ h56 := by rw [he59]; exact sp0.set kx (by decide) hs60
      rw [rz63]
      have oq67 : h56 o = h o := by rw [he59, tw_up_n (tw_nk ko kx (by decide))] <;> exact oq0
      refine tw_if_ne 65 dX10_trip_26 (by decide) (fun _ => ?_) (fun c68 => absurd c68 (by decide))
      refine tw_iconst (v := 0) dX10_trip_65 (by decide) ?_
      refine tw_goto 80 dX10_trip_66 (by decide) ?_
      exact tw_iret dX10_trip_80 rfl (Or.inl ⟨_, rfl, _, _, sp66, oq67, Or.inl ⟨fun z => q51n z.2, th65, rfl⟩⟩)
    · rw [q51r]
      have q51x := q51i
      obtain ⟨jb, q51j, q51k⟩ := q51i
      subst q51k
      have cDb : tw_DN (nI jb) = jb := nI_clamp (by omega)
      have ix0 := And.intro q32x q51x
      refine tw_if_eq 21 dX10_trip_14 (by decide) (fun _ => ?_) (fun c69 => absurd (by decide) c69)
      refine tw_iconst (v := 0) dX10_trip_21 (by decide) ?_
      refine tw_iconst (v := 1) dX10_trip_22 (by decide) ?_
      refine tw_bi (tw_callV (M := mX10_trip) (pc := 23) okX10_start dX10_trip_23 w_1200 rfl f2 [.int 0, .int 1] [] rfl rfl ⟨by decide, by decide⟩ (Nat.le_of_ble_eq_true rfl) (c_X10_start d g τ h sp0.1 x kx 0 1 (by decide)) 0 0 (Nat.le_of_ble_eq_true rfl) (Nat.le_of_ble_eq_true rfl)) (fun r72 h71 q70 => ?_) (fun E h1 q => q.elim)
      obtain ⟨e73, he74, hs75, hr76, hc77⟩ := q70
      obtain ⟨rz78, tz79⟩ := hc77.1 rfl
      have th80 : tw_th (h71 x) = 0 := by rw [he74, tw_up_s]; exact tz79
      have sp81 : tw_sp d τ h g τ h71 := by rw [he74]; exact sp0.set kx (by decide) hs75
      rw [rz78]
      have oq82 : h71 o = h o := by rw [he74, tw_up_n (tw_nk ko kx (by decide))] <;> exact oq0
      refine tw_if_ne 65 dX10_trip_26 (by decide) (fun c83 => absurd (by decide) c83) (fun _ => ?_)
      refine tw_aload_n 0 dX10_trip_29 rfl rfl ?_
      refine tw_iload_n 1 dX10_trip_30 rfl rfl ?_
      refine tw_iload_n 2 dX10_trip_31 rfl rfl ?_
      refine tw_icmp_eq 53 dX10_trip_32 (by decide) (fun c84 => ?_) (fun c84 => ?_)
      · refine tw_iconst (v := 1) dX10_trip_53 (by decide) ?_
        refine tw_goto 58 dX10_trip_54 (by decide) ?_
        refine tw_iconst (v := 2) dX10_trip_58 (by decide) ?_
        obtain ⟨e85, f86, th_87, td_88, ds_89, fr_90, ca_91, us_92, wo_93, cm_94, lc_95, lh_96, ld_97, rfl, k98, k99, k100, k101, k102, k103, k104, k105, k106, k107, k108, k109, k110, k111, k112, k113, k114, k115⟩ := sp81.1 x 36 kx (by decide)
        refine tw_bi (tw_callV (M := mX10_trip) (pc := 59) okX10_refuse dX10_trip_59 w_1204 rfl f86 [.int 1, .int 2] [] rfl rfl ⟨by decide, by decide⟩ (Nat.le_of_ble_eq_true rfl) (c_X10_refuse d g τ h71 sp81.1 x kx 1 2 (by decide)) 0 0 (Nat.le_of_ble_eq_true rfl) (Nat.le_of_ble_eq_true rfl)) (fun r118 h117 q116 => ?_) (fun E h1 q => q.elim)
        obtain ⟨e119, he120, hs121, hr122, hc123⟩ := q116
        obtain ⟨rz124, tz125⟩ := (hc123 th80).2 rfl
        have th126 : tw_th (h117 x) = 2 := by rw [he120, tw_up_s]; exact tz125
        have sp127 : tw_sp d τ h g τ h117 := by rw [he120]; exact sp81.set kx (by decide) hs121
        rw [rz124]
        have oq128 : h117 o = h o := by rw [he120, tw_up_n (tw_nk ko kx (by decide))] <;> exact oq82
        refine tw_if_eq 69 dX10_trip_62 (by decide) (fun c129 => absurd c129 (by decide)) (fun _ => ?_)
        refine tw_iconst (v := 0) dX10_trip_65 (by decide) ?_
        refine tw_goto 80 dX10_trip_66 (by decide) ?_
        exact tw_iret dX10_trip_80 rfl (Or.inl ⟨_, rfl, _, _, sp127, oq128, Or.inr (Or.inl ⟨ix0, fun z => z.1 c84, th126, rfl⟩)⟩)
      · refine tw_iload_n 3 dX10_trip_35 rfl rfl ?_
        refine tw_bi (tw_callS (M := mX10_trip) (pc := 36) okX10_isNoMetal dX10_trip_36 w_1312 [.int m] [.ref x] rfl rfl ⟨by decide, by decide⟩ (Nat.le_of_ble_eq_true rfl) (c2_X10_isNoMetal d g τ h71 sp81.1 m) 0 0 (Nat.le_of_ble_eq_true rfl) (Nat.le_of_ble_eq_true rfl)) (fun r132 h131 q130 => ?_) (fun E h1 q => q.elim)
        obtain ⟨q130e, q130d⟩ := q130
        rw [q130e]
        rcases q130d with ⟨q130r, q130n⟩ | ⟨q130r, q130i⟩
        · rw [q130r]
          refine tw_if_ne 53 dX10_trip_39 (by decide) (fun _ => ?_) (fun c133 => absurd c133 (by decide))
          refine tw_iconst (v := 1) dX10_trip_53 (by decide) ?_
          refine tw_goto 58 dX10_trip_54 (by decide) ?_
          refine tw_iconst (v := 2) dX10_trip_58 (by decide) ?_
          obtain ⟨e134, f135, th_136, td_137, ds_138, fr_139, ca_140, us_141, wo_142, cm_143, lc_144, lh_145, ld_146, rfl, k147, k148, k149, k150, k151, k152, k153, k154, k155, k156, k157, k158, k159, k160, k161, k162, k163, k164⟩ := sp81.1 x 36 kx (by decide)
          refine tw_bi (tw_callV (M := mX10_trip) (pc := 59) okX10_refuse dX10_trip_59 w_1204 rfl f135 [.int 1, .int 2] [] rfl rfl ⟨by decide, by decide⟩ (Nat.le_of_ble_eq_true rfl) (c_X10_refuse d g τ h71 sp81.1 x kx 1 2 (by decide)) 0 0 (Nat.le_of_ble_eq_true rfl) (Nat.le_of_ble_eq_true rfl)) (fun r167 h166 q165 => ?_) (fun E h1 q => q.elim)
          obtain ⟨e168, he169, hs170, hr171, hc172⟩ := q165
          obtain ⟨rz173, tz174⟩ := (hc172 th80).2 rfl
          have th175 : tw_th (h166 x) = 2 := by rw [he169, tw_up_s]; exact tz174
          have sp176 : tw_sp d τ h g τ h166 := by rw [he169]; exact sp81.set kx (by decide) hs170
          rw [rz173]
          have oq177 : h166 o = h o := by rw [he169, tw_up_n (tw_nk ko kx (by decide))] <;> exact oq82
          refine tw_if_eq 69 dX10_trip_62 (by decide) (fun c178 => absurd c178 (by decide)) (fun _ => ?_)
          refine tw_iconst (v := 0) dX10_trip_65 (by decide) ?_
          refine tw_goto 80 dX10_trip_66 (by decide) ?_
          exact tw_iret dX10_trip_80 rfl (Or.inl ⟨_, rfl, _, _, sp176, oq177, Or.inr (Or.inl ⟨ix0, fun z => q130n z.2.1, th175, rfl⟩)⟩)
        · rw [q130r]
          have rcm := q130i
          obtain ⟨k, hk, km⟩ := q130i.k
          subst km
          have cDm : tw_DN (nI k) = k := nI_clamp (by omega)
          refine tw_if_ne 53 dX10_trip_39 (by decide) (fun c179 => absurd (by decide) c179) (fun _ => ?_)
          refine tw_iload 4 dX10_trip_42 rfl ?_
          refine tw_iconst (v := 0) dX10_trip_44 (by decide) ?_
          refine tw_ldc (v := 99999) dX10_trip_45 w_1199 ?_
          refine tw_bi (tw_callS (M := mX10_trip) (pc := 47) okX10_isIn dX10_trip_47 w_1196 [.int gr, .int 0, .int 99999] [.ref x] rfl rfl ⟨by decide, by decide⟩ (Nat.le_of_ble_eq_true rfl) (c_X10_isIn d g τ h71 sp81.1 gr 0 99999) 0 0 (Nat.le_of_ble_eq_true rfl) (Nat.le_of_ble_eq_true rfl)) (fun r182 h181 q180 => ?_) (fun E h1 q => q.elim)
          obtain ⟨q180e, q180d⟩ := q180
          rw [q180e]
          rcases q180d with ⟨q180r, q180n⟩ | ⟨q180r, rlg⟩
          · rw [q180r]
            refine tw_if_ne 57 dX10_trip_50 (by decide) (fun c183 => absurd (by decide) c183) (fun _ => ?_)
            refine tw_iconst (v := 1) dX10_trip_53 (by decide) ?_
            refine tw_goto 58 dX10_trip_54 (by decide) ?_
            refine tw_iconst (v := 2) dX10_trip_58 (by decide) ?_
            obtain ⟨e184, f185, th_186, td_187, ds_188, fr_189, ca_190, us_191, wo_192, cm_193, lc_194, lh_195, ld_196, rfl, k197, k198, k199, k200, k201, k202, k203, k204, k205, k206, k207, k208, k209, k210, k211, k212, k213, k214⟩ := sp81.1 x 36 kx (by decide)
            refine tw_bi (tw_callV (M := mX10_trip) (pc := 59) okX10_refuse dX10_trip_59 w_1204 rfl f185 [.int 1, .int 2] [] rfl rfl ⟨by decide, by decide⟩ (Nat.le_of_ble_eq_true rfl) (c_X10_refuse d g τ h71 sp81.1 x kx 1 2 (by decide)) 0 0 (Nat.le_of_ble_eq_true rfl) (Nat.le_of_ble_eq_true rfl)) (fun r217 h216 q215 => ?_) (fun E h1 q => q.elim)
            obtain ⟨e218, he219, hs220, hr221, hc222⟩ := q215
            obtain ⟨rz223, tz224⟩ := (hc222 th80).2 rfl
            have th225 : tw_th (h216 x) = 2 := by rw [he219, tw_up_s]; exact tz224
            have sp226 : tw_sp d τ h g τ h216 := by rw [he219]; exact sp81.set kx (by decide) hs220
            rw [rz223]
            have oq227 : h216 o = h o := by rw [he219, tw_up_n (tw_nk ko kx (by decide))] <;> exact oq82
            refine tw_if_eq 69 dX10_trip_62 (by decide) (fun c228 => absurd c228 (by decide)) (fun _ => ?_)
            refine tw_iconst (v := 0) dX10_trip_65 (by decide) ?_
            refine tw_goto 80 dX10_trip_66 (by decide) ?_
            exact tw_iret dX10_trip_80 rfl (Or.inl ⟨_, rfl, _, _, sp226, oq227, Or.inr (Or.inl ⟨ix0, fun z => q180n z.2.2, th225, rfl⟩)⟩)
          · rw [q180r]
            have rlg0 := rlg
            obtain ⟨n, hn, en⟩ := tw_grm rlg.1 rlg.2
            subst en
            have cDgr : tw_DN (nI n) = n := nI_clamp (by omega)
            refine tw_if_ne 57 dX10_trip_50 (by decide) (fun _ => ?_) (fun c229 => absurd c229 (by decide))
            refine tw_iconst (v := 0) dX10_trip_57 (by decide) ?_
            refine tw_iconst (v := 2) dX10_trip_58 (by decide) ?_
            obtain ⟨e230, f231, th_232, td_233, ds_234, fr_235, ca_236, us_237, wo_238, cm_239, lc_240, lh_241, ld_242, rfl, k243, k244, k245, k246, k247, k248, k249, k250, k251, k252, k253, k254, k255, k256, k257, k258, k259, k260⟩ := sp81.1 x 36 kx (by decide)
            refine tw_bi (tw_callV (M := mX10_trip) (pc := 59) okX10_refuse dX10_trip_59 w_1204 rfl f231 [.int 0, .int 2] [] rfl rfl ⟨by decide, by decide⟩ (Nat.le_of_ble_eq_true rfl) (c_X10_refuse d g τ h71 sp81.1 x kx 0 2 (by decide)) 0 0 (Nat.le_of_ble_eq_true rfl) (Nat.le_of_ble_eq_true rfl)) (fun r263 h262 q261 => ?_) (fun E h1 q => q.elim)
            obtain ⟨e264, he265, hs266, hr267, hc268⟩ := q261
            obtain ⟨rz269, tz270⟩ := (hc268 th80).1 rfl
            have th271 : tw_th (h262 x) = 0 := by rw [he265, tw_up_s]; exact tz270
            have sp272 : tw_sp d τ h g τ h262 := by rw [he265]; exact sp81.set kx (by decide) hs266
            rw [rz269]
            have oq273 : h262 o = h o := by rw [he265, tw_up_n (tw_nk ko kx (by decide))] <;> exact oq82
            refine tw_if_eq 69 dX10_trip_62 (by decide) (fun _ => ?_) (fun c274 => absurd (by decide) c274)
            refine tw_aload_n 0 dX10_trip_69 rfl rfl ?_
            refine tw_iload_n 1 dX10_trip_70 rfl rfl ?_
            refine tw_iload_n 2 dX10_trip_71 rfl rfl ?_
            refine tw_iload_n 3 dX10_trip_72 rfl rfl ?_
            refine tw_iload 4 dX10_trip_73 rfl ?_
            refine tw_i2l dX10_trip_75 ?_
            refine tw_nml (fun v275 ev275 => ?_)
            have wL : v275 = tw_L n := by rw [ev275]; exact tw_L_i (by omega)
            obtain ⟨e276, f277, th_278, td_279, ds_280, fr_281, ca_282, us_283, wo_284, cm_285, lc_286, lh_287, ld_288, rfl, k289, k290, k291, k292, k293, k294, k295, k296, k297, k298, k299, k300, k301, k302, k303, k304, k305, k306⟩ := sp272.1 x 36 kx (by decide)
            refine tw_bl (tw_callV (M := mX10_trip) (pc := 76) okX10_tripNow dX10_trip_76 w_1557 rfl f277 [.int (nI ja), .int (nI jb), .int (nI k), .long v275] [] rfl rfl ⟨by decide, by decide⟩ (Nat.le_of_ble_eq_true rfl) (c3_X10_tripNow d g τ h262 sp272.1 x kx ja jb (by omega) (by omega) k hk v275 n wL hn he) 0 0 (Nat.le_of_ble_eq_true rfl) (Nat.le_of_ble_eq_true rfl)) (fun r309 h308 q307 => ?_) (fun E h1 q => q.elim)
            obtain ⟨q307e, q307v⟩ := q307
            rw [q307e]
            refine tw_l2i dX10_trip_79 ?_
            refine tw_nmi (fun v310 ev310 => ?_)
            exact tw_iret dX10_trip_80 rfl (Or.inl ⟨_, rfl, _, _, sp272, oq273, Or.inr (Or.inr ⟨ix0, ⟨c84, rcm, rlg0⟩, (by rw [cDa, cDb, cDm, cDgr, ev310, q307v]; exact tw_L_32 (tw_tp_lt (he _ (by omega)).1.1 (he _ (by omega)).1.2.1 (he _ (by omega)).1.1 (he _ (by omega)).1.2.1 (by omega))), th271, rfl⟩)⟩)

/-! the best trip: what the loops have found so far -/
def tw_bs (T : Nat → Nat) (f n : Nat) : Nat → Option Nat × Nat
  | 0 => (none, n)
  | j + 1 => if j ≠ f ∧ (tw_bs T f n j).2 < T j then (some j, T j) else tw_bs T f n j
def tw_bno (o : Option Nat) : Int32 := match o with
  | some j => nI j
  | none => -1
theorem tw_bs_skip {T : Nat → Nat} {f n j : Nat} (h : j = f ∨ ¬ (tw_bs T f n j).2 < T j) : tw_bs T f n (j + 1) = tw_bs T f n j := if_neg (fun z => h.elim z.1 (fun q => q z.2))
theorem tw_bs_take {T : Nat → Nat} {f n j : Nat} (h1 : j ≠ f) (h2 : (tw_bs T f n j).2 < T j) : tw_bs T f n (j + 1) = (some j, T j) := if_pos ⟨h1, h2⟩
theorem tw_bs_congr {T T' : Nat → Nat} {f n : Nat} : ∀ j, (∀ i, i < j → T i = T' i) → tw_bs T f n j = tw_bs T' f n j
  | 0, _ => rfl
  | j + 1, h => by
    show (if j ≠ f ∧ (tw_bs T f n j).2 < T j then _ else _) = if j ≠ f ∧ (tw_bs T' f n j).2 < T' j then _ else _
    rw [tw_bs_congr j (fun i hi => h i (by omega)), h j (by omega)]
theorem tw_bs_lt {T : Nat → Nat} {f n m : Nat} (hn : n < m) : ∀ j, (∀ i, i < j → T i < m) → (tw_bs T f n j).2 < m
  | 0, _ => hn
  | j + 1, h => by
    show (if j ≠ f ∧ (tw_bs T f n j).2 < T j then (some j, T j) else tw_bs T f n j).2 < m
    split
    · exact h j (by omega)
    · exact tw_bs_lt hn j (fun i hi => h i (by omega))
theorem tw_bs_none {T : Nat → Nat} {f n : Nat} : ∀ j, (tw_bs T f n j).1 = none → (tw_bs T f n j).2 = n
  | 0, _ => rfl
  | j + 1, h => by
    by_cases q : j ≠ f ∧ (tw_bs T f n j).2 < T j
    · rw [tw_bs_take q.1 q.2] at h; cases h
    · have e : tw_bs T f n (j + 1) = tw_bs T f n j := if_neg q
      rw [e] at h ⊢
      exact tw_bs_none j h
theorem tw_bs_some {T : Nat → Nat} {f n b : Nat} : ∀ j, (tw_bs T f n j).1 = some b → b < j ∧ (tw_bs T f n j).2 = T b ∧ n < T b
  | 0, h => by cases h
  | j + 1, h => by
    by_cases q : j ≠ f ∧ (tw_bs T f n j).2 < T j
    · rw [tw_bs_take q.1 q.2] at h ⊢
      have e := Option.some.inj h
      rw [← e]
      refine ⟨by omega, rfl, ?_⟩
      have l := q.2
      cases z : (tw_bs T f n j).1 with
      | none => rw [tw_bs_none j z] at l; exact l
      | some c => have s := tw_bs_some j z; omega
    · have e : tw_bs T f n (j + 1) = tw_bs T f n j := if_neg q
      rw [e] at h ⊢
      have s := tw_bs_some j h
      exact ⟨by omega, s.2⟩
theorem tw_bno_no {o : Option Nat} (h : tw_bno o = -1) (hb : ∀ b, o = some b → b < 10) : o = none := by
  cases o with
  | none => rfl
  | some b =>
    have l := hb b rfl
    have z := congrArg Int32.toInt h
    rw [show tw_bno (some b) = nI b from rfl, nI_toInt (by omega), show (-1 : Int32).toInt = -1 by decide] at z
    omega
/-- over the class's numbers, over the reference's -/
def tw_bC (g : tw_G) (f k n j : Nat) : Option Nat × Nat := tw_bs (fun i => tw_tC g f i k n) f n j
def tw_bM (g : tw_G) (f k n j : Nat) : Option Nat × Nat := tw_bs (fun i => tw_tM g f i k n) f n j
theorem tw_tC_lt {g : tw_G} {a b k n : Nat} (he : tw_EC g) (ha : a < g.2 6) (hb : b < g.2 6) (hn : n ≤ 99999) : tw_tC g a b k n < 2 ^ 31 := tw_tp_lt (he a ha).1.1 (he a ha).1.2.1 (he b hb).1.1 (he b hb).1.2.1 hn
theorem tw_tM_lt {g : tw_G} {a b k n : Nat} (he : tw_EM g) (ha : a < g.2 3) (hb : b < g.2 3) (hn : n ≤ 99999) : tw_tM g a b k n < 2 ^ 31 := tw_tp_lt (he a ha).1.1 (he a ha).1.2.1 (he b hb).1.1 (he b hb).1.2.1 hn
theorem tw_bC_lt {g : tw_G} {f k n j : Nat} (he : tw_EC g) (hf : f < g.2 6) (hj : j ≤ g.2 6) (hn : n ≤ 99999) : (tw_bC g f k n j).2 < 2 ^ 31 := tw_bs_lt (by omega) j (fun i hi => tw_tC_lt he hf (by omega) hn)
theorem tw_own2 {d : tw_D} {g : tw_G} {τ : tw_K} {h : tw_H} {a b : Nat} (hw : tw_wt d g τ h) (ka : τ a = 2) (kb : τ b = 2) (e : g.2 (4096 + a) = g.2 (4096 + b)) : a = b := by
  obtain ⟨_, _, _, _, _, _, _, _, _, _, _, _, _, _, _, _, _, _, _, _, _, oa, _⟩ := hw a 2 ka (by decide)
  obtain ⟨_, _, _, _, _, _, _, _, _, _, _, _, _, _, _, _, _, _, _, _, _, ob, _⟩ := hw b 2 kb (by decide)
  have ea := oa.2.2.2.2
  have eb := ob.2.2.2.2
  rw [oa.2.2.2.1, ob.2.2.2.1, ← ea, ← eb, e]
theorem tw_cmp_gt {a b : Nat} (ha : a < 2 ^ 63) (hb : b < 2 ^ 63) : 0 < lg_cmp (tw_L a) (tw_L b) ↔ b < a := by
  unfold lg_cmp
  have e : tw_L a > tw_L b ↔ b < a := by
    show tw_L b < tw_L a ↔ _
    rw [Int64.lt_iff_toInt_lt, tw_L_toInt ha, tw_L_toInt hb]
    omega
  by_cases q : b < a
  · rw [if_pos (e.mpr q)]
    exact ⟨fun _ => q, fun _ => by decide⟩
  · rw [if_neg (fun z => q (e.mp z))]
    split
    · exact ⟨fun z => absurd z (by decide), fun z => absurd z q⟩
    · exact ⟨fun z => absurd z (by decide), fun z => absurd z q⟩
theorem tw_nIle {a b : Nat} (ha : a < 2 ^ 31) (hb : b < 2 ^ 31) : nI a ≤ nI b ↔ a ≤ b := by
  rw [Int32.le_iff_toInt_le, nI_toInt ha, nI_toInt hb]
  omega
theorem tw_bs_up {T : Nat → Nat} {f n : Nat} (j : Nat) {m : Nat} (h : (tw_bs T f n j).2 < m) : n < m := by
  cases z : (tw_bs T f n j).1 with
  | none => rw [tw_bs_none j z] at h; exact h
  | some b => have s := tw_bs_some j z; omega
/-! rest: no trip from anywhere brings more -/
def tw_rb (B : Nat → Nat → Option Nat) : Nat → Bool
  | 0 => true
  | j + 1 => tw_rb B j && (B j 0).isNone && (B j 1).isNone
def tw_rbi (b : Bool) : Int32 := if b then 1 else 0
theorem tw_rbi_01 (b : Bool) : tw_01 (tw_rbi b) := by
  cases b
  · exact Or.inl rfl
  · exact Or.inr rfl
theorem tw_rb_s {B : Nat → Nat → Option Nat} {j : Nat} (h : tw_rb B j = true) (h0 : B j 0 = none) (h1 : B j 1 = none) : tw_rb B (j + 1) = true := by
  show (tw_rb B j && (B j 0).isNone && (B j 1).isNone) = true
  rw [h, h0, h1]
  rfl
theorem tw_rb_f {B : Nat → Nat → Option Nat} {i k : Nat} (hk : k < 2) (h : B i k ≠ none) : ∀ j, i < j → tw_rb B j = false
  | 0, z => absurd z (Nat.not_lt_zero _)
  | j + 1, z => by
    show (tw_rb B j && (B j 0).isNone && (B j 1).isNone) = false
    by_cases q : i = j
    · subst q
      rcases (show k = 0 ∨ k = 1 by omega) with rfl | rfl
      · cases y : B i 0 with
        | none => exact absurd y h
        | some w => simp
      · cases y : B i 1 with
        | none => exact absurd y h
        | some w => simp
    · rw [tw_rb_f hk h j (by omega)]
      rfl
theorem tw_rb_congr {B C : Nat → Nat → Option Nat} : ∀ j, (∀ i, i < j → ∀ k, k < 2 → B i k = C i k) → tw_rb B j = tw_rb C j
  | 0, _ => rfl
  | j + 1, h => by
    show (tw_rb B j && (B j 0).isNone && (B j 1).isNone) = (tw_rb C j && (C j 0).isNone && (C j 1).isNone)
    rw [tw_rb_congr j (fun i hi => h i (by omega)), h j (by omega) 0 (by decide), h j (by omega) 1 (by decide)]
def tw_rC (g : tw_G) (n j : Nat) : Bool := tw_rb (fun i k => (tw_bC g i k n (g.2 6)).1) j
def tw_rM (g : tw_G) (n j : Nat) : Bool := tw_rb (fun i k => (tw_bM g i k n (g.2 3)).1) j
theorem tw_bC_no {g : tw_G} {f k n : Nat} {r : Int32} (h4 : g.2 6 ≤ 4) (e : r = tw_bno (tw_bC g f k n (g.2 6)).1) (h : r = -1) : (tw_bC g f k n (g.2 6)).1 = none := tw_bno_no (e ▸ h) (fun b z => by have y := tw_bs_some _ z; omega)
theorem tw_bC_so {g : tw_G} {f k n : Nat} {r : Int32} (e : r = tw_bno (tw_bC g f k n (g.2 6)).1) (h : ¬ r = -1) : (tw_bC g f k n (g.2 6)).1 ≠ none := fun z => h (by rw [e, z]; rfl)
theorem tw_bM_no {g : tw_G} {f k n : Nat} {r : Int32} (h4 : g.2 3 ≤ 4) (e : r = tw_bno (tw_bM g f k n (g.2 3)).1) (h : r = -1) : (tw_bM g f k n (g.2 3)).1 = none := tw_bno_no (e ▸ h) (fun b z => by have y := tw_bs_some _ z; omega)
theorem tw_bM_so {g : tw_G} {f k n : Nat} {r : Int32} (e : r = tw_bno (tw_bM g f k n (g.2 3)).1) (h : ¬ r = -1) : (tw_bM g f k n (g.2 3)).1 ≠ none := fun z => h (by rw [e, z]; rfl)
def tw_RG (gr : Int32) : Prop := 0 ≤ gr ∧ gr ≤ 99999

set_option maxHeartbeats 4000000 in
set_option maxRecDepth 100000 in
theorem c3_X5_bestOver (d : tw_D) (g : tw_G) (τ : tw_K) (h : tw_H) (hw : tw_wt d g τ h) (x : Nat) (kx : τ x = 11) (a : Nat) (ka : τ a = 2) (ja : Nat) (hja : ja < g.2 6) (hba : g.2 (4096 + a) = 160 + 64 * ja) (k : Nat) (hk : k < 2) (gr : Int32) (n : Nat) (en : gr = nI n) (hn : n ≤ 99999) (he : tw_EC g) : tw_Ct d mX5_bestOver 0 0 [.ref x, .ref a, .int (nI k), .int gr] h (tw_qi (fun r h1 => h1 = h ∧ r = tw_bno (tw_bC g ja k n (g.2 6)).1) tw_nx) := by
  refine tw_of (by decide +kernel) (Nat.le_of_ble_eq_true rfl) ?_
  show tw_W d mX5_bestOver _ 0 [(0, .ref x), (1, .ref a), (2, .int (nI k)), (3, .int gr)] [] h 0 0
  have sp0 := tw_sp.rf hw
  have b9 := (tw_b678 hw kx).1
  refine tw_iconst (v := -1) dX5_bestOver_0 (by decide) ?_
  refine tw_istore [(4, .int (-1)), (0, .ref x), (1, .ref a), (2, .int (nI k)), (3, .int gr)] dX5_bestOver_1 (by decide) rfl ?_
  refine tw_iload_n 4 dX5_bestOver_3 rfl rfl ?_
  refine tw_istore [(5, .int gr), (4, .int (-1)), (0, .ref x), (1, .ref a), (2, .int (nI k)), (3, .int gr)] dX5_bestOver_4 (by decide) rfl ?_
  refine tw_aload_n 2 dX5_bestOver_6 rfl rfl ?_
  obtain ⟨e1, f2, td_3, ca_4, ha_5, da_6, c1_7, c2_8, c3_9, c4_10, rfl, k11, k12, k13, k14, k15, k16, k17, k18, k19, k20, k21, k22, k23⟩ := sp0.1 x 11 kx (by decide)
  refine tw_get (v := .ref ca_4) rfl in_9 2 dX5_bestOver_7 w_142 rfl (by decide) f2 rfl ?_
  refine tw_astore [(6, .ref ca_4), (5, .int gr), (4, .int (-1)), (0, .ref x), (1, .ref a), (2, .int (nI k)), (3, .int gr)] dX5_bestOver_10 (by decide) rfl ?_
  refine tw_aload 0 dX5_bestOver_12 rfl ?_
  obtain ⟨e24, f25, F26, rfl, k27, pn28, pb29, px30, pf31⟩ := sp0.1 ca_4 8 k11 (by decide)
  refine tw_alen (v := nI 4) 4 rfl dX5_bestOver_14 f25 rfl ?_
  refine tw_istore [(7, .int (nI 4)), (6, .ref ca_4), (5, .int gr), (4, .int (-1)), (0, .ref x), (1, .ref a), (2, .int (nI k)), (3, .int gr)] dX5_bestOver_15 (by decide) rfl ?_
  refine tw_iconst (v := 0) dX5_bestOver_17 (by decide) ?_
  refine tw_istore [(8, .int 0), (7, .int (nI 4)), (6, .ref ca_4), (5, .int gr), (4, .int (-1)), (0, .ref x), (1, .ref a), (2, .int (nI k)), (3, .int gr)] dX5_bestOver_18 (by decide) rfl ?_
  have L37 : ∀ (r35 k34 : Nat) (x32 : Int32) (x33 : Int32) (li41 : x32 = tw_bno (tw_bC g ja k n (min k34 (g.2 6))).1 ∧ x33 = nI (tw_bC g ja k n (min k34 (g.2 6))).2), 4 + 1 ≤ k34 + r35 → k34 ≤ 4 → tw_W d mX5_bestOver (tw_qi (fun r h1 => h1 = h ∧ r = tw_bno (tw_bC g ja k n (g.2 6)).1) tw_nx) 20 [(0, .ref x), (1, .ref a), (2, .int (nI k)), (3, .int gr), (4, .int x32), (5, .int x33), (6, .ref ca_4), (7, .int (nI 4)), (8, .int (nI k34))] [] h 0 0 := by
    intro r35
    induction r35 with
    | zero => intro k34 x32 x33 li41 hk42 hk43; exact absurd hk42 (by omega)
    | succ r35 ih36 =>
      intro k34 x32 x33 li41 hk42 hk43
      refine tw_iload 8 dX5_bestOver_20 rfl ?_
      refine tw_iload 7 dX5_bestOver_22 rfl ?_
      refine tw_icmp_ge 79 dX5_bestOver_24 (by decide) (fun c44 => ?_) (fun c44 => ?_)
      · refine tw_iload 4 dX5_bestOver_79 rfl ?_
        exact tw_iret dX5_bestOver_81 rfl (Or.inl ⟨_, rfl, rfl, by have z := tw_kge c44 (by omega); have z2 := li41.1; rw [show min k34 (g.2 6) = g.2 6 by omega] at z2; exact z2⟩)
      · have kl45 := tw_klt (N := 4) c44 hk43 (by decide)
        refine tw_aload 6 dX5_bestOver_27 rfl ?_
        refine tw_iload 8 dX5_bestOver_29 rfl ?_
        cases k46 : F26 ((nI k34)).toNatClampNeg with
        | none =>
          refine tw_aald (v := .null) 4 rfl rfl dX5_bestOver_31 f25 (vp_in_nI (by omega) (by decide)) (by rw [k46]; rfl) ?_
          refine tw_astoreN [(9, .null), (0, .ref x), (1, .ref a), (2, .int (nI k)), (3, .int gr), (4, .int x32), (5, .int x33), (6, .ref ca_4), (7, .int (nI 4)), (8, .int (nI k34))] dX5_bestOver_32 (by decide) rfl ?_
          have hv9 := k46
          rw [nI_clamp (by omega)] at hv9
          have pn9 := pn28 k34 (by omega)
          have hk9 : g.2 6 ≤ k34 := pn9.mp hv9
          have mn9 : min (k34 + 1) (g.2 6) = min k34 (g.2 6) := by omega
          refine tw_aloadN 0 dX5_bestOver_34 rfl ?_
          refine tw_ifnullN 73 dX5_bestOver_36 (by decide) ?_
          obtain ⟨v48, ev48⟩ : ∃ y : Int32, y = (nI k34) + 1 := ⟨_, rfl⟩
          refine tw_iinc [(8, .int v48), (9, .null), (0, .ref x), (1, .ref a), (2, .int (nI k)), (3, .int gr), (4, .int x32), (5, .int x33), (6, .ref ca_4), (7, .int (nI 4))] 9 dX5_bestOver_73 rfl (by rw [ev48]; rfl) (by decide) rfl ?_
          refine tw_goto 20 dX5_bestOver_76 (by decide) ?_
          have qv48 := tw_nI3 ev48
          rw [qv48]
          refine tw_lv [2, 3, 4, 5, 6, 7, 8, 9, 0] rfl ?_
          exact ih36 (k34 + 1) x32 x33 (⟨by rw [mn9]; exact li41.1, by rw [mn9]; exact li41.2⟩) (by omega) (by omega)
        | some q47 =>
          have k49 := k27 _ _ k46
          refine tw_aald (v := .ref q47) 4 rfl rfl dX5_bestOver_31 f25 (vp_in_nI (by omega) (by decide)) (by rw [k46]; rfl) ?_
          refine tw_astore [(9, .ref q47), (0, .ref x), (1, .ref a), (2, .int (nI k)), (3, .int gr), (4, .int x32), (5, .int x33), (6, .ref ca_4), (7, .int (nI 4)), (8, .int (nI k34))] dX5_bestOver_32 (by decide) rfl ?_
          have hv9 := k46
          rw [nI_clamp (by omega)] at hv9
          have pn9 := pn28 k34 (by omega)
          have hk9 : k34 < g.2 6 := by rcases Nat.lt_or_ge k34 (g.2 6) with z | z; exact z; rw [pn9.mpr z] at hv9; cases hv9
          have bq9 : g.2 (4096 + q47) = 160 + 64 * k34 := pf31 _ _ hv9
          have m09 : min k34 (g.2 6) = k34 := by omega
          have m19 : min (k34 + 1) (g.2 6) = k34 + 1 := by omega
          refine tw_aload 0 dX5_bestOver_34 rfl ?_
          refine tw_ifnull dX5_bestOver_36 ?_
          refine tw_aload 0 dX5_bestOver_39 rfl ?_
          refine tw_aload_n 2 dX5_bestOver_41 rfl rfl ?_
          refine tw_acmp_eq (rx := (some q47)) (ry := (some a)) 73 dX5_bestOver_42 (by decide) (fun c50 => ?_) (fun c50 => ?_)
          · have ej9 : k34 = ja := by have z := Option.some.inj c50; have z2 := bq9; rw [z, hba] at z2; omega
            have st9 : (tw_bC g ja k n (min (k34 + 1) (g.2 6))) = (tw_bC g ja k n (min k34 (g.2 6))) := by rw [m09, m19]; exact tw_bs_skip (Or.inl ej9)
            obtain ⟨v51, ev51⟩ : ∃ y : Int32, y = (nI k34) + 1 := ⟨_, rfl⟩
            refine tw_iinc [(8, .int v51), (9, .ref q47), (0, .ref x), (1, .ref a), (2, .int (nI k)), (3, .int gr), (4, .int x32), (5, .int x33), (6, .ref ca_4), (7, .int (nI 4))] 9 dX5_bestOver_73 rfl (by rw [ev51]; rfl) (by decide) rfl ?_
            refine tw_goto 20 dX5_bestOver_76 (by decide) ?_
            have qv51 := tw_nI3 ev51
            rw [qv51]
            refine tw_lv [2, 3, 4, 5, 6, 7, 8, 9, 0] rfl ?_
            exact ih36 (k34 + 1) x32 x33 (⟨by rw [st9]; exact li41.1, by rw [st9]; exact li41.2⟩) (by omega) (by omega)
          · have nj9 : k34 ≠ ja := fun z => c50 (congrArg some (tw_own2 sp0.1 k49 ka (by rw [bq9, hba, z])))
            refine tw_aload_n 2 dX5_bestOver_45 rfl rfl ?_
            refine tw_aload 0 dX5_bestOver_46 rfl ?_
            refine tw_iload_n 3 dX5_bestOver_48 rfl rfl ?_
            refine tw_iload_n 4 dX5_bestOver_49 rfl rfl ?_
            have Ea := he ja hja
            have Eb := he k34 hk9
            have Ef := Ea.2.2 k34 (by omega)
            refine tw_bi (tw_callS (M := mX5_bestOver) (pc := 50) okX5_comesOfTrip dX5_bestOver_50 w_296 [.ref a, .ref q47, .int (nI k), .int gr] [] rfl rfl ⟨by decide, by decide⟩ (Nat.le_of_ble_eq_true rfl) (c3_X5_comesOfTrip d g τ h sp0.1 a ka ja (by omega) hba q47 k49 k34 (by omega) bq9 k hk gr n en hn _ _ Ea.1.2.2 Ea.1.1 Ea.1.2.1 Ea.2.1.2 Ea.2.1.1 _ _ Eb.1.2.2 Eb.1.1 Eb.1.2.1 Eb.2.1.2 Eb.2.1.1 _ Ef.2 Ef.1) 0 0 (Nat.le_of_ble_eq_true rfl) (Nat.le_of_ble_eq_true rfl)) (fun r54 h53 q52 => ?_) (fun E h1 q => q.elim)
            obtain ⟨q52e, q52v⟩ := q52
            rw [q52e]
            have rv9 : r54 = nI (tw_tC g ja k34 k n) := q52v
            refine tw_istore [(10, .int r54), (9, .ref q47), (0, .ref x), (1, .ref a), (2, .int (nI k)), (3, .int gr), (4, .int x32), (5, .int x33), (6, .ref ca_4), (7, .int (nI 4)), (8, .int (nI k34))] dX5_bestOver_53 (by decide) rfl ?_
            refine tw_iload 0 dX5_bestOver_55 rfl ?_
            refine tw_iload 7 dX5_bestOver_57 rfl ?_
            refine tw_icmp_le 73 dX5_bestOver_59 (by decide) (fun c55 => ?_) (fun c55 => ?_)
            · have bl9 := tw_bC_lt (j := k34) (k := k) he hja (by omega) hn
              have tl9 := tw_tC_lt (k := k) he hja hk9 hn
              have h29 := li41.2
              rw [m09] at h29
              have st9 : (tw_bC g ja k n (min (k34 + 1) (g.2 6))) = (tw_bC g ja k n (min k34 (g.2 6))) := by rw [m09, m19]; exact tw_bs_skip (Or.inr (Nat.not_lt.mpr ((tw_nIle tl9 bl9).mp (by rw [← h29, ← rv9]; exact c55))))
              obtain ⟨v56, ev56⟩ : ∃ y : Int32, y = (nI k34) + 1 := ⟨_, rfl⟩
              refine tw_iinc [(8, .int v56), (10, .int r54), (9, .ref q47), (0, .ref x), (1, .ref a), (2, .int (nI k)), (3, .int gr), (4, .int x32), (5, .int x33), (6, .ref ca_4), (7, .int (nI 4))] 10 dX5_bestOver_73 rfl (by rw [ev56]; rfl) (by decide) rfl ?_
              refine tw_goto 20 dX5_bestOver_76 (by decide) ?_
              have qv56 := tw_nI3 ev56
              rw [qv56]
              refine tw_lv [3, 4, 5, 6, 7, 8, 9, 10, 0] rfl ?_
              exact ih36 (k34 + 1) x32 x33 (⟨by rw [st9]; exact li41.1, by rw [st9]; exact li41.2⟩) (by omega) (by omega)
            · have bl9 := tw_bC_lt (j := k34) (k := k) he hja (by omega) hn
              have tl9 := tw_tC_lt (k := k) he hja hk9 hn
              have h29 := li41.2
              rw [m09] at h29
              have st9 : (tw_bC g ja k n (min (k34 + 1) (g.2 6))) = (some k34, tw_tC g ja k34 k n) := by rw [m19]; exact tw_bs_take nj9 (Nat.not_le.mp (fun z => c55 (by rw [h29, rv9]; exact (tw_nIle tl9 bl9).mpr z)))
              refine tw_iload 0 dX5_bestOver_62 rfl ?_
              refine tw_istore [(5, .int r54), (10, .int r54), (9, .ref q47), (0, .ref x), (1, .ref a), (2, .int (nI k)), (3, .int gr), (4, .int x32), (6, .ref ca_4), (7, .int (nI 4)), (8, .int (nI k34))] dX5_bestOver_64 (by decide) rfl ?_
              refine tw_aload 2 dX5_bestOver_66 rfl ?_
              obtain ⟨e57, f58, n_59, r_60, c_61, go_62, so_63, v_64, rd_65, rf_66, t_67, rfl, k68, k69, k70, k71, k72, k73, k74, k75, k76⟩ := sp0.1 q47 2 k49 (by decide)
              obtain ⟨j77, ow78, fn9, fr9, fc9, fg9, fs9, q79, q80, q81⟩ := k76
              obtain rfl : k34 = j77 := by have z := ow78.b bq9; omega
              subst fn9 fr9 fc9 fg9 fs9
              refine tw_getN (v := .int (nI k34)) rfl in_4 0 dX5_bestOver_68 w_502 rfl (by decide) f58 rfl ?_
              refine tw_istore [(4, .int (nI k34)), (5, .int r54), (10, .int r54), (9, .ref q47), (0, .ref x), (1, .ref a), (2, .int (nI k)), (3, .int gr), (6, .ref ca_4), (7, .int (nI 4)), (8, .int (nI k34))] dX5_bestOver_71 (by decide) rfl ?_
              obtain ⟨v82, ev82⟩ : ∃ y : Int32, y = (nI k34) + 1 := ⟨_, rfl⟩
              refine tw_iinc [(8, .int v82), (4, .int (nI k34)), (5, .int r54), (10, .int r54), (9, .ref q47), (0, .ref x), (1, .ref a), (2, .int (nI k)), (3, .int gr), (6, .ref ca_4), (7, .int (nI 4))] 10 dX5_bestOver_73 rfl (by rw [ev82]; rfl) (by decide) rfl ?_
              refine tw_goto 20 dX5_bestOver_76 (by decide) ?_
              have qv82 := tw_nI3 ev82
              rw [qv82]
              refine tw_lv [5, 6, 7, 8, 1, 2, 9, 10, 0] rfl ?_
              exact ih36 (k34 + 1) (nI k34) r54 (⟨by rw [st9]; rfl, by rw [st9]; exact rv9⟩) (by omega) (by omega)
  refine tw_lv [5, 6, 7, 8, 4, 3, 2, 1, 0] rfl ?_
  exact L37 (4 + 1) 0 (-1) gr (⟨rfl, en⟩) (by omega) (by omega)

set_option maxHeartbeats 4000000 in
set_option maxRecDepth 100000 in
theorem c3_X10_bestTripNow (d : tw_D) (g : tw_G) (τ : tw_K) (h : tw_H) (hw : tw_wt d g τ h) (x : Nat) (kx : τ x = 36) (a : Nat) (ha : a < g.2 3) (k : Nat) (hk : k < 2) (gr : Int32) (n : Nat) (en : gr = nI n) (hn : n ≤ 99999) (he : tw_EM g) : tw_Ct d mX10_bestTripNow 0 0 [.ref x, .int (nI a), .int (nI k), .int gr] h (tw_qi (fun r h1 => h1 = h ∧ r = tw_bno (tw_bM g a k n (g.2 3)).1) tw_nx) := by
  refine tw_of (by decide +kernel) (Nat.le_of_ble_eq_true rfl) ?_
  show tw_W d mX10_bestTripNow _ 0 [(0, .ref x), (1, .int (nI a)), (2, .int (nI k)), (3, .int gr)] [] h 0 0
  have sp0 := tw_sp.rf hw
  have b9 := tw_b3 hw kx
  refine tw_iconst (v := -1) dX10_bestTripNow_0 (by decide) ?_
  refine tw_istore [(4, .int (-1)), (0, .ref x), (1, .int (nI a)), (2, .int (nI k)), (3, .int gr)] dX10_bestTripNow_1 (by decide) rfl ?_
  refine tw_iconst (v := 0) dX10_bestTripNow_3 (by decide) ?_
  refine tw_istore [(5, .int 0), (4, .int (-1)), (0, .ref x), (1, .int (nI a)), (2, .int (nI k)), (3, .int gr)] dX10_bestTripNow_4 (by decide) rfl ?_
  have L5 : ∀ (r3 k2 : Nat) (x1 : Int32) (li8 : x1 = tw_bno (tw_bM g a k n k2).1), (g.2 3) + 1 ≤ k2 + r3 → k2 ≤ (g.2 3) → tw_W d mX10_bestTripNow (tw_qi (fun r h1 => h1 = h ∧ r = tw_bno (tw_bM g a k n (g.2 3)).1) tw_nx) 6 [(0, .ref x), (1, .int (nI a)), (2, .int (nI k)), (3, .int gr), (4, .int x1), (5, .int (nI k2))] [] h 0 0 := by
    intro r3
    induction r3 with
    | zero => intro k2 x1 li8 hk9 hk10; exact absurd hk9 (by omega)
    | succ r3 ih4 =>
      intro k2 x1 li8 hk9 hk10
      refine tw_iload 5 dX10_bestTripNow_6 rfl ?_
      refine tw_aload_n 0 dX10_bestTripNow_8 rfl rfl ?_
      obtain ⟨e11, f12, th_13, td_14, ds_15, fr_16, ca_17, us_18, wo_19, cm_20, lc_21, lh_22, ld_23, rfl, k24, k25, k26, k27, k28, k29, k30, k31, k32, k33, k34, k35, k36, k37, k38, k39, k40, k41⟩ := sp0.1 x 36 kx (by decide)
      refine tw_get (v := .ref lc_21) rfl in_14 9 dX10_bestTripNow_9 w_1160 rfl (by decide) f12 rfl ?_
      obtain ⟨e42, f43, ⟨el44, rfl, k45⟩, k46⟩ := sp0.1 lc_21 24 k30 (by decide)
      refine tw_bi (tw_callV (M := mX10_bestTripNow) (pc := 12) okJx4a65c_size_8abf5 dX10_bestTripNow_12 w_1208 rfl f43 [] [.int (nI k2)] rfl rfl ⟨by decide, by decide⟩ (Nat.le_of_ble_eq_true rfl) (c24_size d g τ h sp0.1 lc_21 k30) 0 0 (Nat.le_of_ble_eq_true rfl) (Nat.le_of_ble_eq_true rfl)) (fun r49 h48 q47 => ?_) (fun E h1 q => q.elim)
      obtain ⟨q47e, q47r⟩ := q47
      rw [q47e, q47r]
      refine tw_icmp_ge 83 dX10_bestTripNow_15 (by decide) (fun c50 => ?_) (fun c50 => ?_)
      · refine tw_iload 4 dX10_bestTripNow_83 rfl ?_
        exact tw_iret dX10_bestTripNow_85 rfl (Or.inl ⟨_, rfl, rfl, by have z := tw_kge c50 (by omega); have z2 := li8; rw [show k2 = g.2 3 by omega] at z2; exact z2⟩)
      · have kl51 : k2 < (g.2 3) := tw_klt (N := (g.2 3)) c50 hk10 (by omega)
        refine tw_iload 5 dX10_bestTripNow_18 rfl ?_
        refine tw_iload_n 1 dX10_bestTripNow_20 rfl rfl ?_
        refine tw_icmp_eq 77 dX10_bestTripNow_21 (by decide) (fun c52 => ?_) (fun c52 => ?_)
        · have st9 : (tw_bM g a k n (k2 + 1)) = (tw_bM g a k n k2) := tw_bs_skip (Or.inl (tw_nIj c52 (by omega) (by omega)))
          obtain ⟨v53, ev53⟩ : ∃ y : Int32, y = (nI k2) + 1 := ⟨_, rfl⟩
          refine tw_iinc [(5, .int v53), (0, .ref x), (1, .int (nI a)), (2, .int (nI k)), (3, .int gr), (4, .int x1)] 5 dX10_bestTripNow_77 rfl (by rw [ev53]; rfl) (by decide) rfl ?_
          refine tw_goto 6 dX10_bestTripNow_80 (by decide) ?_
          have qv53 := tw_nI3 ev53
          rw [qv53]
          refine tw_lv [1, 2, 3, 4, 5, 0] rfl ?_
          exact ih4 (k2 + 1) x1 (by rw [st9]; exact li8) (by omega) (by omega)
        · have nj9 : k2 ≠ a := fun z => c52 (by rw [z])
          have tl9 := tw_tM_lt (k := k) he ha (show k2 < g.2 3 by omega) hn
          refine tw_aload_n 0 dX10_bestTripNow_24 rfl rfl ?_
          refine tw_iload_n 1 dX10_bestTripNow_25 rfl rfl ?_
          refine tw_iload 5 dX10_bestTripNow_26 rfl ?_
          refine tw_iload_n 2 dX10_bestTripNow_28 rfl rfl ?_
          refine tw_iload_n 3 dX10_bestTripNow_29 rfl rfl ?_
          refine tw_i2l dX10_bestTripNow_30 ?_
          refine tw_nml (fun v54 ev54 => ?_)
          have wL55 : v54 = tw_L n := by rw [ev54, en]; exact tw_L_i (by omega)
          refine tw_bl (tw_callV (M := mX10_bestTripNow) (pc := 31) okX10_tripNow dX10_bestTripNow_31 w_1557 rfl f12 [.int (nI a), .int (nI k2), .int (nI k), .long v54] [] rfl rfl ⟨by decide, by decide⟩ (Nat.le_of_ble_eq_true rfl) (c3_X10_tripNow d g τ h sp0.1 x kx a k2 (by omega) (by omega) k hk v54 n wL55 hn he) 0 0 (Nat.le_of_ble_eq_true rfl) (Nat.le_of_ble_eq_true rfl)) (fun r58 h57 q56 => ?_) (fun E h1 q => q.elim)
          obtain ⟨q56e, q56v⟩ := q56
          rw [q56e]
          refine tw_iload_n 3 dX10_bestTripNow_34 rfl rfl ?_
          refine tw_i2l dX10_bestTripNow_35 ?_
          refine tw_nml (fun v59 ev59 => ?_)
          have nn60 : v59 = tw_L n := by rw [ev59, en]; exact tw_L_i (by omega)
          refine tw_lcmp dX10_bestTripNow_36 ?_
          refine tw_nmi (fun v61 ev61 => ?_)
          refine tw_if_gt 43 dX10_bestTripNow_37 (by decide) (fun c62 => ?_) (fun c62 => ?_)
          · have gt9 : n < tw_tM g a k2 k n := (tw_cmp_gt (by omega) (by omega)).mp (by rw [← q56v, ← nn60, ← ev61]; exact c62)
            refine tw_iload 4 dX10_bestTripNow_43 rfl ?_
            refine tw_iconst (v := -1) dX10_bestTripNow_45 (by decide) ?_
            refine tw_icmp_eq 73 dX10_bestTripNow_46 (by decide) (fun c63 => ?_) (fun c63 => ?_)
            · have bb9 : ∀ b, (tw_bM g a k n k2).1 = some b → b < 10 := fun b z => by have y := tw_bs_some _ z; omega
              have no9 := tw_bno_no (by rw [← li8]; exact c63) bb9
              have st9 : (tw_bM g a k n (k2 + 1)) = (some k2, tw_tM g a k2 k n) := tw_bs_take nj9 (by have y := tw_bs_none _ no9; rw [y]; exact gt9)
              refine tw_iload 5 dX10_bestTripNow_73 rfl ?_
              refine tw_istore [(4, .int (nI k2)), (0, .ref x), (1, .int (nI a)), (2, .int (nI k)), (3, .int gr), (5, .int (nI k2))] dX10_bestTripNow_75 (by decide) rfl ?_
              obtain ⟨v64, ev64⟩ : ∃ y : Int32, y = (nI k2) + 1 := ⟨_, rfl⟩
              refine tw_iinc [(5, .int v64), (4, .int (nI k2)), (0, .ref x), (1, .int (nI a)), (2, .int (nI k)), (3, .int gr)] 5 dX10_bestTripNow_77 rfl (by rw [ev64]; rfl) (by decide) rfl ?_
              refine tw_goto 6 dX10_bestTripNow_80 (by decide) ?_
              have qv64 := tw_nI3 ev64
              rw [qv64]
              refine tw_lv [2, 3, 4, 5, 1, 0] rfl ?_
              exact ih4 (k2 + 1) (nI k2) (by rw [st9]; rfl) (by omega) (by omega)
            · have bb9 : ∀ b, (tw_bM g a k n k2).1 = some b → b < 10 := fun b z => by have y := tw_bs_some _ z; omega
              obtain ⟨b, hb9⟩ : ∃ b, (tw_bM g a k n k2).1 = some b := by cases z : (tw_bM g a k n k2).1 with | none => exact absurd (by rw [li8, z]; rfl) c63 | some b => exact ⟨b, rfl⟩
              have hli9 := li8
              have sb9 := tw_bs_some _ hb9
              have xb9 : x1 = nI b := by rw [hli9, hb9]; rfl
              have bl9 : b < g.2 3 := by omega
              subst xb9
              refine tw_aload_n 0 dX10_bestTripNow_49 rfl rfl ?_
              refine tw_iload_n 1 dX10_bestTripNow_50 rfl rfl ?_
              refine tw_iload 5 dX10_bestTripNow_51 rfl ?_
              refine tw_iload_n 2 dX10_bestTripNow_53 rfl rfl ?_
              refine tw_iload_n 3 dX10_bestTripNow_54 rfl rfl ?_
              refine tw_i2l dX10_bestTripNow_55 ?_
              refine tw_nml (fun v65 ev65 => ?_)
              have wL66 : v65 = tw_L n := by rw [ev65, en]; exact tw_L_i (by omega)
              refine tw_bl (tw_callV (M := mX10_bestTripNow) (pc := 56) okX10_tripNow dX10_bestTripNow_56 w_1557 rfl f12 [.int (nI a), .int (nI k2), .int (nI k), .long v65] [] rfl rfl ⟨by decide, by decide⟩ (Nat.le_of_ble_eq_true rfl) (c3_X10_tripNow d g τ h sp0.1 x kx a k2 (by omega) (by omega) k hk v65 n wL66 hn he) 0 0 (Nat.le_of_ble_eq_true rfl) (Nat.le_of_ble_eq_true rfl)) (fun r69 h68 q67 => ?_) (fun E h1 q => q.elim)
              obtain ⟨q67e, q67v⟩ := q67
              rw [q67e]
              refine tw_aload_n 0 dX10_bestTripNow_59 rfl rfl ?_
              refine tw_iload_n 1 dX10_bestTripNow_60 rfl rfl ?_
              refine tw_iload 4 dX10_bestTripNow_61 rfl ?_
              refine tw_iload_n 2 dX10_bestTripNow_63 rfl rfl ?_
              refine tw_iload_n 3 dX10_bestTripNow_64 rfl rfl ?_
              refine tw_i2l dX10_bestTripNow_65 ?_
              refine tw_nml (fun v70 ev70 => ?_)
              have wL71 : v70 = tw_L n := by rw [ev70, en]; exact tw_L_i (by omega)
              refine tw_bl (tw_callV (M := mX10_bestTripNow) (pc := 66) okX10_tripNow dX10_bestTripNow_66 w_1557 rfl f12 [.int (nI a), .int (nI b), .int (nI k), .long v70] [.long r69] rfl rfl ⟨by decide, by decide⟩ (Nat.le_of_ble_eq_true rfl) (c3_X10_tripNow d g τ h sp0.1 x kx a b (by omega) (by omega) k hk v70 n wL71 hn he) 0 0 (Nat.le_of_ble_eq_true rfl) (Nat.le_of_ble_eq_true rfl)) (fun r74 h73 q72 => ?_) (fun E h1 q => q.elim)
              obtain ⟨q72e, q72v⟩ := q72
              rw [q72e]
              refine tw_lcmp dX10_bestTripNow_69 ?_
              refine tw_nmi (fun v75 ev75 => ?_)
              refine tw_if_le 77 dX10_bestTripNow_70 (by decide) (fun c76 => ?_) (fun c76 => ?_)
              · have tb9 := tw_tM_lt (k := k) he ha bl9 hn
                have iff9 := tw_cmp_gt (a := tw_tM g a k2 k n) (b := tw_tM g a b k n) (by omega) (by omega)
                rw [← q67v, ← q72v, ← ev75] at iff9
                have st9 : (tw_bM g a k n (k2 + 1)) = (tw_bM g a k n k2) := tw_bs_skip (Or.inr (fun z => absurd (iff9.mpr (by rw [sb9.2.1] at z; exact z)) (Int32.not_lt.mpr c76)))
                obtain ⟨v77, ev77⟩ : ∃ y : Int32, y = (nI k2) + 1 := ⟨_, rfl⟩
                refine tw_iinc [(5, .int v77), (0, .ref x), (1, .int (nI a)), (2, .int (nI k)), (3, .int gr), (4, .int (nI b))] 5 dX10_bestTripNow_77 rfl (by rw [ev77]; rfl) (by decide) rfl ?_
                refine tw_goto 6 dX10_bestTripNow_80 (by decide) ?_
                have qv77 := tw_nI3 ev77
                rw [qv77]
                refine tw_lv [1, 2, 3, 4, 5, 0] rfl ?_
                exact ih4 (k2 + 1) (nI b) (by rw [st9]; exact hli9) (by omega) (by omega)
              · have tb9 := tw_tM_lt (k := k) he ha bl9 hn
                have iff9 := tw_cmp_gt (a := tw_tM g a k2 k n) (b := tw_tM g a b k n) (by omega) (by omega)
                rw [← q67v, ← q72v, ← ev75] at iff9
                have st9 : (tw_bM g a k n (k2 + 1)) = (some k2, tw_tM g a k2 k n) := tw_bs_take nj9 (by rw [sb9.2.1]; exact iff9.mp (Int32.not_le.mp c76))
                refine tw_iload 5 dX10_bestTripNow_73 rfl ?_
                refine tw_istore [(4, .int (nI k2)), (0, .ref x), (1, .int (nI a)), (2, .int (nI k)), (3, .int gr), (5, .int (nI k2))] dX10_bestTripNow_75 (by decide) rfl ?_
                obtain ⟨v78, ev78⟩ : ∃ y : Int32, y = (nI k2) + 1 := ⟨_, rfl⟩
                refine tw_iinc [(5, .int v78), (4, .int (nI k2)), (0, .ref x), (1, .int (nI a)), (2, .int (nI k)), (3, .int gr)] 5 dX10_bestTripNow_77 rfl (by rw [ev78]; rfl) (by decide) rfl ?_
                refine tw_goto 6 dX10_bestTripNow_80 (by decide) ?_
                have qv78 := tw_nI3 ev78
                rw [qv78]
                refine tw_lv [2, 3, 4, 5, 1, 0] rfl ?_
                exact ih4 (k2 + 1) (nI k2) (by rw [st9]; rfl) (by omega) (by omega)
          · have ng9 : ¬ n < tw_tM g a k2 k n := fun z => c62 (by rw [ev61, q56v, nn60]; exact (tw_cmp_gt (by omega) (by omega)).mpr z)
            have st9 : (tw_bM g a k n (k2 + 1)) = (tw_bM g a k n k2) := tw_bs_skip (Or.inr (fun z => ng9 (tw_bs_up _ z)))
            refine tw_goto 77 dX10_bestTripNow_40 (by decide) ?_
            obtain ⟨v79, ev79⟩ : ∃ y : Int32, y = (nI k2) + 1 := ⟨_, rfl⟩
            refine tw_iinc [(5, .int v79), (0, .ref x), (1, .int (nI a)), (2, .int (nI k)), (3, .int gr), (4, .int x1)] 5 dX10_bestTripNow_77 rfl (by rw [ev79]; rfl) (by decide) rfl ?_
            refine tw_goto 6 dX10_bestTripNow_80 (by decide) ?_
            have qv79 := tw_nI3 ev79
            rw [qv79]
            refine tw_lv [1, 2, 3, 4, 5, 0] rfl ?_
            exact ih4 (k2 + 1) x1 (by rw [st9]; exact li8) (by omega) (by omega)
  refine tw_lv [2, 3, 4, 5, 1, 0] rfl ?_
  exact L5 ((g.2 3) + 1) 0 (-1) (rfl) (by omega) (by omega)

def tw_RB (m gr : Int32) : Prop := tw_RM m ∧ 0 ≤ gr ∧ gr ≤ 99999
set_option maxHeartbeats 4000000 in
set_option maxRecDepth 100000 in
theorem c2_X5_bestTrip (d : tw_D) (g : tw_G) (τ : tw_K) (h : tw_H) (hw : tw_wt d g τ h) (x : Nat) (kx : τ x = 11) (a : Int32) (m : Int32) (gr : Int32) (he : tw_EC g) : tw_Ct d mX5_bestTrip 20 120 [.ref x, .int a, .int m, .int gr] h (tw_qi (fun r9 h1 => r9 = tw_bno (tw_bC g (tw_DN a) (tw_DN m) (tw_DN gr) (g.2 6)).1 ∧ tw_ix (g.2 6) a ∧ tw_RB m gr ∧ ∃ τ1, tw_sp d τ h (g) τ1 h1) (fun E h1 => (E = tw_IOE ∧ ¬ tw_ix (g.2 6) a ∨ E = tw_IAE ∧ tw_ix (g.2 6) a ∧ ¬ tw_RB m gr) ∧ ∃ τ1, tw_sp d τ h g τ1 h1)) := by
  refine tw_of (by decide +kernel) (Nat.le_of_ble_eq_true rfl) ?_
  show tw_W d mX5_bestTrip _ 0 [(0, .ref x), (1, .int a), (2, .int m), (3, .int gr)] [] h 20 120
  have sp0 := tw_sp.rf hw
  have b9 := (tw_b678 hw kx).1
  refine tw_aload_n 0 dX5_bestTrip_0 rfl rfl ?_
  refine tw_iload_n 1 dX5_bestTrip_1 rfl rfl ?_
  obtain ⟨e4, f5, td_6, ca_7, ha_8, da_9, c1_10, c2_11, c3_12, c4_13, rfl, k14, k15, k16, k17, k18, k19, k20, k21, k22, k23, k24, k25, k26⟩ := sp0.1 x 11 kx (by decide)
  refine tw_br (tw_callV (M := mX5_bestTrip) (pc := 2) okX5_countryAt dX5_bestTrip_2 w_546 rfl f5 [.int a] [] rfl rfl ⟨by decide, by decide⟩ (Nat.le_of_ble_eq_true rfl) (c3_X5_countryAt d g τ h sp0.1 x kx a) 19 114 (Nat.le_of_ble_eq_true rfl) (Nat.le_of_ble_eq_true rfl)) (fun r3 h2 q1 => ?_) (fun E h1 q1 => Or.inr ⟨E, rfl, Or.inl ⟨q1.1, q1.2.2⟩, τ, by rw [q1.2.1]; exact sp0⟩)
  obtain ⟨q1e, q1k, ja, q1j, q1n, q1b⟩ := q1
  rw [q1e]
  subst q1n
  have cDa : tw_DN (nI ja) = ja := nI_clamp (by omega)
  have ix0 : tw_ix (g.2 6) (nI ja) := ⟨ja, q1j, rfl⟩
  refine tw_astore [(4, .ref r3), (0, .ref x), (1, .int (nI ja)), (2, .int m), (3, .int gr)] dX5_bestTrip_5 (by decide) rfl ?_
  refine tw_iload_n 3 dX5_bestTrip_7 rfl rfl ?_
  refine tw_bv (tw_callS (M := mX5_bestTrip) (pc := 8) okX5_needMetal dX5_bestTrip_8 w_573 [.int m] [] rfl rfl ⟨by decide, by decide⟩ (Nat.le_of_ble_eq_true rfl) (c2_X5_needMetal d g τ h sp0.1 m) 18 108 (Nat.le_of_ble_eq_true rfl) (Nat.le_of_ble_eq_true rfl)) (fun h28 q27 => ?_) (fun E h1 q27 => Or.inr ⟨E, rfl, Or.inr ⟨q27.1, ix0, fun z => q27.2.2 z.1⟩, τ, by rw [q27.2.1]; exact sp0⟩)
  obtain ⟨q27e, rcm⟩ := q27
  rw [q27e]
  have rcm0 := rcm
  obtain ⟨k, hk, km⟩ := rcm.k
  subst km
  have cDm : tw_DN (nI k) = k := nI_clamp (by omega)
  refine tw_iload_n 4 dX5_bestTrip_11 rfl rfl ?_
  refine tw_iconst (v := 0) dX5_bestTrip_12 (by decide) ?_
  refine tw_ldc (v := 99999) dX5_bestTrip_13 w_470 ?_
  refine tw_bv (tw_callS (M := mX5_bestTrip) (pc := 15) okX5_needRange dX5_bestTrip_15 w_399 [.int gr, .int 0, .int 99999] [] rfl rfl ⟨by decide, by decide⟩ (Nat.le_of_ble_eq_true rfl) (c2_X5_needRange d g τ h sp0.1 gr 0 99999) 17 102 (Nat.le_of_ble_eq_true rfl) (Nat.le_of_ble_eq_true rfl)) (fun h31 q30 => ?_) (fun E h1 q30 => Or.inr ⟨E, rfl, Or.inr ⟨q30.1, ix0, fun z => q30.2.2 z.2⟩, τ, by rw [q30.2.1]; exact sp0⟩)
  obtain ⟨q30e, rlg⟩ := q30
  rw [q30e]
  have rc : tw_RB (nI k) gr := ⟨rcm0, rlg⟩
  obtain ⟨n9, hn, en⟩ := tw_grm rlg.1 rlg.2
  subst en
  have cDgr : tw_DN (nI n9) = n9 := nI_clamp (by omega)
  refine tw_aload_n 1 dX5_bestTrip_18 rfl rfl ?_
  refine tw_aload 0 dX5_bestTrip_19 rfl ?_
  refine tw_iload_n 3 dX5_bestTrip_21 rfl rfl ?_
  refine tw_iload_n 4 dX5_bestTrip_22 rfl rfl ?_
  refine tw_bi (tw_callV (M := mX5_bestTrip) (pc := 23) okX5_bestOver dX5_bestTrip_23 w_292 rfl f5 [.ref r3, .int (nI k), .int (nI n9)] [] rfl rfl ⟨by decide, by decide⟩ (Nat.le_of_ble_eq_true rfl) (c3_X5_bestOver d g τ h sp0.1 x kx r3 q1k ja (by omega) q1b k hk (nI n9) n9 rfl hn he) 17 102 (Nat.le_of_ble_eq_true rfl) (Nat.le_of_ble_eq_true rfl)) (fun r35 h34 q33 => ?_) (fun E h1 q => q.elim)
  obtain ⟨q33e, q33v⟩ := q33
  rw [q33e]
  exact tw_iret dX5_bestTrip_26 rfl (Or.inl ⟨_, rfl, (by rw [cDa, cDm, cDgr]; exact q33v), ix0, rc, _, by skip; exact sp0⟩)

set_option maxHeartbeats 4000000 in
set_option maxRecDepth 100000 in
theorem c2_X10_bestTrip (d : tw_D) (g : tw_G) (τ : tw_K) (h : tw_H) (hw : tw_wt d g τ h) (x : Nat) (kx : τ x = 36) (a : Int32) (m : Int32) (gr : Int32) (o : Nat) (ko : τ o = 12) (he : tw_EM g) : tw_Ct d mX10_bestTrip 0 0 [.ref x, .int a, .int m, .int gr] h (tw_qi (fun r9 h1 => ∃ g1 τ1, tw_sp d τ h g1 τ1 h1 ∧ h1 o = h o ∧ ((¬ tw_ix (g.2 3) a ∧ tw_th (h1 x) = 1 ∧ g1 = g) ∨ (tw_ix (g.2 3) a ∧ ¬ tw_RB m gr ∧ tw_th (h1 x) = 2 ∧ g1 = g) ∨ (tw_ix (g.2 3) a ∧ tw_RB m gr ∧ r9 = tw_bno (tw_bM g (tw_DN a) (tw_DN m) (tw_DN gr) (g.2 3)).1 ∧ tw_th (h1 x) = 0 ∧ g1 = g))) tw_nx) := by
  refine tw_of (by decide +kernel) (Nat.le_of_ble_eq_true rfl) ?_
  show tw_W d mX10_bestTrip _ 0 [(0, .ref x), (1, .int a), (2, .int m), (3, .int gr)] [] h 0 0
  have sp0 := tw_sp.rf hw
  have oq0 : h o = h o := rfl
  refine tw_aload_n 0 dX10_bestTrip_0 rfl rfl ?_
  refine tw_aload_n 0 dX10_bestTrip_1 rfl rfl ?_
  refine tw_iload_n 1 dX10_bestTrip_2 rfl rfl ?_
  obtain ⟨e1, f2, th_3, td_4, ds_5, fr_6, ca_7, us_8, wo_9, cm_10, lc_11, lh_12, ld_13, rfl, k14, k15, k16, k17, k18, k19, k20, k21, k22, k23, k24, k25, k26, k27, k28, k29, k30, k31⟩ := sp0.1 x 36 kx (by decide)
  refine tw_bi (tw_callV (M := mX10_bestTrip) (pc := 3) okX10_isNoCountry dX10_bestTrip_3 w_1292 rfl f2 [.int a] [.ref x] rfl rfl ⟨by decide, by decide⟩ (Nat.le_of_ble_eq_true rfl) (c2_X10_isNoCountry d g τ h sp0.1 x kx a) 0 0 (Nat.le_of_ble_eq_true rfl) (Nat.le_of_ble_eq_true rfl)) (fun r34 h33 q32 => ?_) (fun E h1 q => q.elim)
  obtain ⟨q32e, q32d⟩ := q32
  rw [q32e]
  rcases q32d with ⟨q32r, q32n⟩ | ⟨q32r, q32i⟩
  · rw [q32r]
    refine tw_iconst (v := 1) dX10_bestTrip_6 (by decide) ?_
    refine tw_bi (tw_callV (M := mX10_bestTrip) (pc := 7) okX10_start dX10_bestTrip_7 w_1200 rfl f2 [.int 1, .int 1] [] rfl rfl ⟨by decide, by decide⟩ (Nat.le_of_ble_eq_true rfl) (c_X10_start d g τ h sp0.1 x kx 1 1 (by decide)) 0 0 (Nat.le_of_ble_eq_true rfl) (Nat.le_of_ble_eq_true rfl)) (fun r37 h36 q35 => ?_) (fun E h1 q => q.elim)
    obtain ⟨e38, he39, hs40, hr41, hc42⟩ := q35
    obtain ⟨rz43, tz44⟩ := hc42.2 rfl
    have th45 : tw_th (h36 x) = 1 := by rw [he39, tw_up_s]; exact tz44
    have sp46 : tw_sp d τ h g τ h36 := by rw [he39]; exact sp0.set kx (by decide) hs40
    rw [rz43]
    have oq47 : h36 o = h o := by rw [he39, tw_up_n (tw_nk ko kx (by decide))] <;> exact oq0
    refine tw_if_ne 43 dX10_bestTrip_10 (by decide) (fun _ => ?_) (fun c48 => absurd c48 (by decide))
    refine tw_iconst (v := 0) dX10_bestTrip_43 (by decide) ?_
    refine tw_goto 54 dX10_bestTrip_44 (by decide) ?_
    exact tw_iret dX10_bestTrip_54 rfl (Or.inl ⟨_, rfl, _, _, sp46, oq47, Or.inl ⟨q32n, th45, rfl⟩⟩)
  · rw [q32r]
    have q32x := q32i
    obtain ⟨ja, q32j, q32k⟩ := q32i
    subst q32k
    have cDa : tw_DN (nI ja) = ja := nI_clamp (by omega)
    have ix0 := q32x
    refine tw_iconst (v := 1) dX10_bestTrip_6 (by decide) ?_
    refine tw_bi (tw_callV (M := mX10_bestTrip) (pc := 7) okX10_start dX10_bestTrip_7 w_1200 rfl f2 [.int 0, .int 1] [] rfl rfl ⟨by decide, by decide⟩ (Nat.le_of_ble_eq_true rfl) (c_X10_start d g τ h sp0.1 x kx 0 1 (by decide)) 0 0 (Nat.le_of_ble_eq_true rfl) (Nat.le_of_ble_eq_true rfl)) (fun r51 h50 q49 => ?_) (fun E h1 q => q.elim)
    obtain ⟨e52, he53, hs54, hr55, hc56⟩ := q49
    obtain ⟨rz57, tz58⟩ := hc56.1 rfl
    have th59 : tw_th (h50 x) = 0 := by rw [he53, tw_up_s]; exact tz58
    have sp60 : tw_sp d τ h g τ h50 := by rw [he53]; exact sp0.set kx (by decide) hs54
    rw [rz57]
    have oq61 : h50 o = h o := by rw [he53, tw_up_n (tw_nk ko kx (by decide))] <;> exact oq0
    refine tw_if_ne 43 dX10_bestTrip_10 (by decide) (fun c62 => absurd (by decide) c62) (fun _ => ?_)
    refine tw_aload_n 0 dX10_bestTrip_13 rfl rfl ?_
    refine tw_iload_n 2 dX10_bestTrip_14 rfl rfl ?_
    refine tw_bi (tw_callS (M := mX10_bestTrip) (pc := 15) okX10_isNoMetal dX10_bestTrip_15 w_1312 [.int m] [.ref x] rfl rfl ⟨by decide, by decide⟩ (Nat.le_of_ble_eq_true rfl) (c2_X10_isNoMetal d g τ h50 sp60.1 m) 0 0 (Nat.le_of_ble_eq_true rfl) (Nat.le_of_ble_eq_true rfl)) (fun r65 h64 q63 => ?_) (fun E h1 q => q.elim)
    obtain ⟨q63e, q63d⟩ := q63
    rw [q63e]
    rcases q63d with ⟨q63r, q63n⟩ | ⟨q63r, q63i⟩
    · rw [q63r]
      refine tw_if_ne 31 dX10_bestTrip_18 (by decide) (fun _ => ?_) (fun c66 => absurd c66 (by decide))
      refine tw_iconst (v := 1) dX10_bestTrip_31 (by decide) ?_
      refine tw_goto 36 dX10_bestTrip_32 (by decide) ?_
      refine tw_iconst (v := 2) dX10_bestTrip_36 (by decide) ?_
      obtain ⟨e67, f68, th_69, td_70, ds_71, fr_72, ca_73, us_74, wo_75, cm_76, lc_77, lh_78, ld_79, rfl, k80, k81, k82, k83, k84, k85, k86, k87, k88, k89, k90, k91, k92, k93, k94, k95, k96, k97⟩ := sp60.1 x 36 kx (by decide)
      refine tw_bi (tw_callV (M := mX10_bestTrip) (pc := 37) okX10_refuse dX10_bestTrip_37 w_1204 rfl f68 [.int 1, .int 2] [] rfl rfl ⟨by decide, by decide⟩ (Nat.le_of_ble_eq_true rfl) (c_X10_refuse d g τ h50 sp60.1 x kx 1 2 (by decide)) 0 0 (Nat.le_of_ble_eq_true rfl) (Nat.le_of_ble_eq_true rfl)) (fun r100 h99 q98 => ?_) (fun E h1 q => q.elim)
      obtain ⟨e101, he102, hs103, hr104, hc105⟩ := q98
      obtain ⟨rz106, tz107⟩ := (hc105 th59).2 rfl
      have th108 : tw_th (h99 x) = 2 := by rw [he102, tw_up_s]; exact tz107
      have sp109 : tw_sp d τ h g τ h99 := by rw [he102]; exact sp60.set kx (by decide) hs103
      rw [rz106]
      have oq110 : h99 o = h o := by rw [he102, tw_up_n (tw_nk ko kx (by decide))] <;> exact oq61
      refine tw_if_eq 47 dX10_bestTrip_40 (by decide) (fun c111 => absurd c111 (by decide)) (fun _ => ?_)
      refine tw_iconst (v := 0) dX10_bestTrip_43 (by decide) ?_
      refine tw_goto 54 dX10_bestTrip_44 (by decide) ?_
      exact tw_iret dX10_bestTrip_54 rfl (Or.inl ⟨_, rfl, _, _, sp109, oq110, Or.inr (Or.inl ⟨ix0, fun z => q63n z.1, th108, rfl⟩)⟩)
    · rw [q63r]
      have rcm := q63i
      obtain ⟨k, hk, km⟩ := q63i.k
      subst km
      have cDm : tw_DN (nI k) = k := nI_clamp (by omega)
      refine tw_if_ne 31 dX10_bestTrip_18 (by decide) (fun c112 => absurd (by decide) c112) (fun _ => ?_)
      refine tw_iload_n 3 dX10_bestTrip_21 rfl rfl ?_
      refine tw_iconst (v := 0) dX10_bestTrip_22 (by decide) ?_
      refine tw_ldc (v := 99999) dX10_bestTrip_23 w_1199 ?_
      refine tw_bi (tw_callS (M := mX10_bestTrip) (pc := 25) okX10_isIn dX10_bestTrip_25 w_1196 [.int gr, .int 0, .int 99999] [.ref x] rfl rfl ⟨by decide, by decide⟩ (Nat.le_of_ble_eq_true rfl) (c_X10_isIn d g τ h50 sp60.1 gr 0 99999) 0 0 (Nat.le_of_ble_eq_true rfl) (Nat.le_of_ble_eq_true rfl)) (fun r115 h114 q113 => ?_) (fun E h1 q => q.elim)
      obtain ⟨q113e, q113d⟩ := q113
      rw [q113e]
      rcases q113d with ⟨q113r, q113n⟩ | ⟨q113r, rlg⟩
      · rw [q113r]
        refine tw_if_ne 35 dX10_bestTrip_28 (by decide) (fun c116 => absurd (by decide) c116) (fun _ => ?_)
        refine tw_iconst (v := 1) dX10_bestTrip_31 (by decide) ?_
        refine tw_goto 36 dX10_bestTrip_32 (by decide) ?_
        refine tw_iconst (v := 2) dX10_bestTrip_36 (by decide) ?_
        obtain ⟨e117, f118, th_119, td_120, ds_121, fr_122, ca_123, us_124, wo_125, cm_126, lc_127, lh_128, ld_129, rfl, k130, k131, k132, k133, k134, k135, k136, k137, k138, k139, k140, k141, k142, k143, k144, k145, k146, k147⟩ := sp60.1 x 36 kx (by decide)
        refine tw_bi (tw_callV (M := mX10_bestTrip) (pc := 37) okX10_refuse dX10_bestTrip_37 w_1204 rfl f118 [.int 1, .int 2] [] rfl rfl ⟨by decide, by decide⟩ (Nat.le_of_ble_eq_true rfl) (c_X10_refuse d g τ h50 sp60.1 x kx 1 2 (by decide)) 0 0 (Nat.le_of_ble_eq_true rfl) (Nat.le_of_ble_eq_true rfl)) (fun r150 h149 q148 => ?_) (fun E h1 q => q.elim)
        obtain ⟨e151, he152, hs153, hr154, hc155⟩ := q148
        obtain ⟨rz156, tz157⟩ := (hc155 th59).2 rfl
        have th158 : tw_th (h149 x) = 2 := by rw [he152, tw_up_s]; exact tz157
        have sp159 : tw_sp d τ h g τ h149 := by rw [he152]; exact sp60.set kx (by decide) hs153
        rw [rz156]
        have oq160 : h149 o = h o := by rw [he152, tw_up_n (tw_nk ko kx (by decide))] <;> exact oq61
        refine tw_if_eq 47 dX10_bestTrip_40 (by decide) (fun c161 => absurd c161 (by decide)) (fun _ => ?_)
        refine tw_iconst (v := 0) dX10_bestTrip_43 (by decide) ?_
        refine tw_goto 54 dX10_bestTrip_44 (by decide) ?_
        exact tw_iret dX10_bestTrip_54 rfl (Or.inl ⟨_, rfl, _, _, sp159, oq160, Or.inr (Or.inl ⟨ix0, fun z => q113n z.2, th158, rfl⟩)⟩)
      · rw [q113r]
        have rlg0 := rlg
        obtain ⟨n9, hn, en⟩ := tw_grm rlg.1 rlg.2
        subst en
        have cDgr : tw_DN (nI n9) = n9 := nI_clamp (by omega)
        refine tw_if_ne 35 dX10_bestTrip_28 (by decide) (fun _ => ?_) (fun c162 => absurd c162 (by decide))
        refine tw_iconst (v := 0) dX10_bestTrip_35 (by decide) ?_
        refine tw_iconst (v := 2) dX10_bestTrip_36 (by decide) ?_
        obtain ⟨e163, f164, th_165, td_166, ds_167, fr_168, ca_169, us_170, wo_171, cm_172, lc_173, lh_174, ld_175, rfl, k176, k177, k178, k179, k180, k181, k182, k183, k184, k185, k186, k187, k188, k189, k190, k191, k192, k193⟩ := sp60.1 x 36 kx (by decide)
        refine tw_bi (tw_callV (M := mX10_bestTrip) (pc := 37) okX10_refuse dX10_bestTrip_37 w_1204 rfl f164 [.int 0, .int 2] [] rfl rfl ⟨by decide, by decide⟩ (Nat.le_of_ble_eq_true rfl) (c_X10_refuse d g τ h50 sp60.1 x kx 0 2 (by decide)) 0 0 (Nat.le_of_ble_eq_true rfl) (Nat.le_of_ble_eq_true rfl)) (fun r196 h195 q194 => ?_) (fun E h1 q => q.elim)
        obtain ⟨e197, he198, hs199, hr200, hc201⟩ := q194
        obtain ⟨rz202, tz203⟩ := (hc201 th59).1 rfl
        have th204 : tw_th (h195 x) = 0 := by rw [he198, tw_up_s]; exact tz203
        have sp205 : tw_sp d τ h g τ h195 := by rw [he198]; exact sp60.set kx (by decide) hs199
        rw [rz202]
        have oq206 : h195 o = h o := by rw [he198, tw_up_n (tw_nk ko kx (by decide))] <;> exact oq61
        refine tw_if_eq 47 dX10_bestTrip_40 (by decide) (fun _ => ?_) (fun c207 => absurd (by decide) c207)
        refine tw_aload_n 0 dX10_bestTrip_47 rfl rfl ?_
        refine tw_iload_n 1 dX10_bestTrip_48 rfl rfl ?_
        refine tw_iload_n 2 dX10_bestTrip_49 rfl rfl ?_
        refine tw_iload_n 3 dX10_bestTrip_50 rfl rfl ?_
        obtain ⟨e208, f209, th_210, td_211, ds_212, fr_213, ca_214, us_215, wo_216, cm_217, lc_218, lh_219, ld_220, rfl, k221, k222, k223, k224, k225, k226, k227, k228, k229, k230, k231, k232, k233, k234, k235, k236, k237, k238⟩ := sp205.1 x 36 kx (by decide)
        refine tw_bi (tw_callV (M := mX10_bestTrip) (pc := 51) okX10_bestTripNow dX10_bestTrip_51 w_1565 rfl f209 [.int (nI ja), .int (nI k), .int (nI n9)] [] rfl rfl ⟨by decide, by decide⟩ (Nat.le_of_ble_eq_true rfl) (c3_X10_bestTripNow d g τ h195 sp205.1 x kx ja (by omega) k hk (nI n9) n9 rfl hn he) 0 0 (Nat.le_of_ble_eq_true rfl) (Nat.le_of_ble_eq_true rfl)) (fun r241 h240 q239 => ?_) (fun E h1 q => q.elim)
        obtain ⟨q239e, q239v⟩ := q239
        rw [q239e]
        exact tw_iret dX10_bestTrip_54 rfl (Or.inl ⟨_, rfl, _, _, sp205, oq206, Or.inr (Or.inr ⟨ix0, ⟨rcm, rlg0⟩, (by rw [cDa, cDm, cDgr]; exact q239v), th204, rfl⟩)⟩)

set_option maxHeartbeats 4000000 in
set_option maxRecDepth 100000 in
theorem c3_X5_isRest (d : tw_D) (g : tw_G) (τ : tw_K) (h : tw_H) (hw : tw_wt d g τ h) (x : Nat) (kx : τ x = 11) (gr : Int32) (n : Nat) (en : gr = nI n) (hn : n ≤ 99999) (he : tw_EC g) : tw_Ct d mX5_isRest 0 0 [.ref x, .int gr] h (tw_qi (fun r h1 => h1 = h ∧ r = tw_rbi (tw_rC g n (g.2 6))) tw_nx) := by
  refine tw_of (by decide +kernel) (Nat.le_of_ble_eq_true rfl) ?_
  show tw_W d mX5_isRest _ 0 [(0, .ref x), (1, .int gr)] [] h 0 0
  have sp0 := tw_sp.rf hw
  have b9 := (tw_b678 hw kx).1
  refine tw_aload_n 0 dX5_isRest_0 rfl rfl ?_
  obtain ⟨e1, f2, td_3, ca_4, ha_5, da_6, c1_7, c2_8, c3_9, c4_10, rfl, k11, k12, k13, k14, k15, k16, k17, k18, k19, k20, k21, k22, k23⟩ := sp0.1 x 11 kx (by decide)
  refine tw_get (v := .ref ca_4) rfl in_9 2 dX5_isRest_1 w_142 rfl (by decide) f2 rfl ?_
  refine tw_astore_n [(2, .ref ca_4), (0, .ref x), (1, .int gr)] dX5_isRest_4 rfl (by decide) rfl ?_
  refine tw_aload_n 0 dX5_isRest_5 rfl rfl ?_
  obtain ⟨e24, f25, F26, rfl, k27, pn28, pb29, px30, pf31⟩ := sp0.1 ca_4 8 k11 (by decide)
  refine tw_alen (v := nI 4) 4 rfl dX5_isRest_6 f25 rfl ?_
  refine tw_istore_n [(3, .int (nI 4)), (2, .ref ca_4), (0, .ref x), (1, .int gr)] dX5_isRest_7 rfl (by decide) rfl ?_
  refine tw_iconst (v := 0) dX5_isRest_8 (by decide) ?_
  refine tw_istore [(4, .int 0), (3, .int (nI 4)), (2, .ref ca_4), (0, .ref x), (1, .int gr)] dX5_isRest_9 (by decide) rfl ?_
  have L35 : ∀ (r33 k32 : Nat) (li39 : tw_rC g n (min k32 (g.2 6)) = true), 4 + 1 ≤ k32 + r33 → k32 ≤ 4 → tw_W d mX5_isRest (tw_qi (fun r h1 => h1 = h ∧ r = tw_rbi (tw_rC g n (g.2 6))) tw_nx) 11 [(0, .ref x), (1, .int gr), (2, .ref ca_4), (3, .int (nI 4)), (4, .int (nI k32))] [] h 0 0 := by
    intro r33
    induction r33 with
    | zero => intro k32 li39 hk40 hk41; exact absurd hk40 (by omega)
    | succ r33 ih34 =>
      intro k32 li39 hk40 hk41
      refine tw_iload 4 dX5_isRest_11 rfl ?_
      refine tw_iload_n 3 dX5_isRest_13 rfl rfl ?_
      refine tw_icmp_ge 60 dX5_isRest_14 (by decide) (fun c42 => ?_) (fun c42 => ?_)
      · refine tw_iconst (v := 1) dX5_isRest_60 (by decide) ?_
        exact tw_zret dX5_isRest_61 rfl rfl (Or.inl ⟨_, rfl, rfl, by have z := tw_kge c42 (by omega); have z2 := li39; rw [show min k32 (g.2 6) = g.2 6 by omega] at z2; rw [z2]; rfl⟩)
      · have kl43 := tw_klt (N := 4) c42 hk41 (by decide)
        refine tw_aload_n 2 dX5_isRest_17 rfl rfl ?_
        refine tw_iload 4 dX5_isRest_18 rfl ?_
        cases k44 : F26 ((nI k32)).toNatClampNeg with
        | none =>
          refine tw_aald (v := .null) 4 rfl rfl dX5_isRest_20 f25 (vp_in_nI (by omega) (by decide)) (by rw [k44]; rfl) ?_
          refine tw_astoreN [(5, .null), (0, .ref x), (1, .int gr), (2, .ref ca_4), (3, .int (nI 4)), (4, .int (nI k32))] dX5_isRest_21 (by decide) rfl ?_
          have hv9 := k44
          rw [nI_clamp (by omega)] at hv9
          have pn9 := pn28 k32 (by omega)
          have hk9 : g.2 6 ≤ k32 := pn9.mp hv9
          have mn9 : min (k32 + 1) (g.2 6) = min k32 (g.2 6) := by omega
          refine tw_aloadN 0 dX5_isRest_23 rfl ?_
          refine tw_ifnullN 54 dX5_isRest_25 (by decide) ?_
          obtain ⟨v46, ev46⟩ : ∃ y : Int32, y = (nI k32) + 1 := ⟨_, rfl⟩
          refine tw_iinc [(4, .int v46), (5, .null), (0, .ref x), (1, .int gr), (2, .ref ca_4), (3, .int (nI 4))] 5 dX5_isRest_54 rfl (by rw [ev46]; rfl) (by decide) rfl ?_
          refine tw_goto 11 dX5_isRest_57 (by decide) ?_
          have qv46 := tw_nI3 ev46
          rw [qv46]
          refine tw_lv [2, 3, 4, 5, 0] rfl ?_
          exact ih34 (k32 + 1)  (by rw [mn9]; exact li39) (by omega) (by omega)
        | some q45 =>
          have k47 := k27 _ _ k44
          refine tw_aald (v := .ref q45) 4 rfl rfl dX5_isRest_20 f25 (vp_in_nI (by omega) (by decide)) (by rw [k44]; rfl) ?_
          refine tw_astore [(5, .ref q45), (0, .ref x), (1, .int gr), (2, .ref ca_4), (3, .int (nI 4)), (4, .int (nI k32))] dX5_isRest_21 (by decide) rfl ?_
          have hv9 := k44
          rw [nI_clamp (by omega)] at hv9
          have pn9 := pn28 k32 (by omega)
          have hk9 : k32 < g.2 6 := by rcases Nat.lt_or_ge k32 (g.2 6) with z | z; exact z; rw [pn9.mpr z] at hv9; cases hv9
          have bq9 : g.2 (4096 + q45) = 160 + 64 * k32 := pf31 _ _ hv9
          have m09 : min k32 (g.2 6) = k32 := by omega
          have m19 : min (k32 + 1) (g.2 6) = k32 + 1 := by omega
          refine tw_aload 0 dX5_isRest_23 rfl ?_
          refine tw_ifnull dX5_isRest_25 ?_
          refine tw_aload_n 1 dX5_isRest_28 rfl rfl ?_
          refine tw_aload 0 dX5_isRest_29 rfl ?_
          refine tw_iconst (v := 0) dX5_isRest_31 (by decide) ?_
          refine tw_iload_n 2 dX5_isRest_32 rfl rfl ?_
          refine tw_bi (tw_callV (M := mX5_isRest) (pc := 33) okX5_bestOver dX5_isRest_33 w_292 rfl f2 [.ref q45, .int 0, .int gr] [] rfl rfl ⟨by decide, by decide⟩ (Nat.le_of_ble_eq_true rfl) (c3_X5_bestOver d g τ h sp0.1 x kx q45 k47 k32 hk9 bq9 0 (by decide) gr n en hn he) 0 0 (Nat.le_of_ble_eq_true rfl) (Nat.le_of_ble_eq_true rfl)) (fun r50 h49 q48 => ?_) (fun E h1 q => q.elim)
          obtain ⟨q48e, q48v⟩ := q48
          rw [q48e]
          refine tw_iconst (v := -1) dX5_isRest_36 (by decide) ?_
          refine tw_icmp_ne 52 dX5_isRest_37 (by decide) (fun c51 => ?_) (fun c51 => ?_)
          · refine tw_iconst (v := 0) dX5_isRest_52 (by decide) ?_
            exact tw_zret dX5_isRest_53 rfl rfl (Or.inl ⟨_, rfl, rfl, by unfold tw_rC; rw [tw_rb_f (B := fun i k => (tw_bC g i k n (g.2 6)).1) (i := k32) (k := 0) (by decide) (tw_bC_so q48v c51) _ hk9]; rfl⟩)
          · have no0 := tw_bC_no b9 q48v c51
            refine tw_aload_n 1 dX5_isRest_40 rfl rfl ?_
            refine tw_aload 0 dX5_isRest_41 rfl ?_
            refine tw_iconst (v := 1) dX5_isRest_43 (by decide) ?_
            refine tw_iload_n 2 dX5_isRest_44 rfl rfl ?_
            refine tw_bi (tw_callV (M := mX5_isRest) (pc := 45) okX5_bestOver dX5_isRest_45 w_292 rfl f2 [.ref q45, .int 1, .int gr] [] rfl rfl ⟨by decide, by decide⟩ (Nat.le_of_ble_eq_true rfl) (c3_X5_bestOver d g τ h sp0.1 x kx q45 k47 k32 hk9 bq9 1 (by decide) gr n en hn he) 0 0 (Nat.le_of_ble_eq_true rfl) (Nat.le_of_ble_eq_true rfl)) (fun r54 h53 q52 => ?_) (fun E h1 q => q.elim)
            obtain ⟨q52e, q52v⟩ := q52
            rw [q52e]
            refine tw_iconst (v := -1) dX5_isRest_48 (by decide) ?_
            refine tw_icmp_eq 54 dX5_isRest_49 (by decide) (fun c55 => ?_) (fun c55 => ?_)
            · have no1 := tw_bC_no b9 q52v c55
              obtain ⟨v56, ev56⟩ : ∃ y : Int32, y = (nI k32) + 1 := ⟨_, rfl⟩
              refine tw_iinc [(4, .int v56), (5, .ref q45), (0, .ref x), (1, .int gr), (2, .ref ca_4), (3, .int (nI 4))] 5 dX5_isRest_54 rfl (by rw [ev56]; rfl) (by decide) rfl ?_
              refine tw_goto 11 dX5_isRest_57 (by decide) ?_
              have qv56 := tw_nI3 ev56
              rw [qv56]
              refine tw_lv [2, 3, 4, 5, 0] rfl ?_
              exact ih34 (k32 + 1)  (by have z := li39; rw [m09] at z; rw [m19]; exact tw_rb_s z no0 no1) (by omega) (by omega)
            · refine tw_iconst (v := 0) dX5_isRest_52 (by decide) ?_
              exact tw_zret dX5_isRest_53 rfl rfl (Or.inl ⟨_, rfl, rfl, by unfold tw_rC; rw [tw_rb_f (B := fun i k => (tw_bC g i k n (g.2 6)).1) (i := k32) (k := 1) (by decide) (tw_bC_so q52v c55) _ hk9]; rfl⟩)
  refine tw_lv [3, 4, 2, 1, 0] rfl ?_
  exact L35 (4 + 1) 0  (by rw [Nat.zero_min]; rfl) (by omega) (by omega)

set_option maxHeartbeats 4000000 in
set_option maxRecDepth 100000 in
theorem c3_X10_restNow (d : tw_D) (g : tw_G) (τ : tw_K) (h : tw_H) (hw : tw_wt d g τ h) (x : Nat) (kx : τ x = 36) (gr : Int32) (n : Nat) (en : gr = nI n) (hn : n ≤ 99999) (he : tw_EM g) : tw_Ct d mX10_restNow 0 0 [.ref x, .int gr] h (tw_qi (fun r h1 => h1 = h ∧ r = tw_rbi (tw_rM g n (g.2 3))) tw_nx) := by
  refine tw_of (by decide +kernel) (Nat.le_of_ble_eq_true rfl) ?_
  show tw_W d mX10_restNow _ 0 [(0, .ref x), (1, .int gr)] [] h 0 0
  have sp0 := tw_sp.rf hw
  have b9 := tw_b3 hw kx
  refine tw_iconst (v := 0) dX10_restNow_0 (by decide) ?_
  refine tw_istore_n [(2, .int 0), (0, .ref x), (1, .int gr)] dX10_restNow_1 rfl (by decide) rfl ?_
  have L4 : ∀ (r2 k1 : Nat) (li7 : tw_rM g n k1 = true), (g.2 3) + 1 ≤ k1 + r2 → k1 ≤ (g.2 3) → tw_W d mX10_restNow (tw_qi (fun r h1 => h1 = h ∧ r = tw_rbi (tw_rM g n (g.2 3))) tw_nx) 2 [(0, .ref x), (1, .int gr), (2, .int (nI k1))] [] h 0 0 := by
    intro r2
    induction r2 with
    | zero => intro k1 li7 hk8 hk9; exact absurd hk8 (by omega)
    | succ r2 ih3 =>
      intro k1 li7 hk8 hk9
      refine tw_iload_n 2 dX10_restNow_2 rfl rfl ?_
      refine tw_aload_n 0 dX10_restNow_3 rfl rfl ?_
      obtain ⟨e10, f11, th_12, td_13, ds_14, fr_15, ca_16, us_17, wo_18, cm_19, lc_20, lh_21, ld_22, rfl, k23, k24, k25, k26, k27, k28, k29, k30, k31, k32, k33, k34, k35, k36, k37, k38, k39, k40⟩ := sp0.1 x 36 kx (by decide)
      refine tw_get (v := .ref lc_20) rfl in_14 9 dX10_restNow_4 w_1160 rfl (by decide) f11 rfl ?_
      obtain ⟨e41, f42, ⟨el43, rfl, k44⟩, k45⟩ := sp0.1 lc_20 24 k29 (by decide)
      refine tw_bi (tw_callV (M := mX10_restNow) (pc := 7) okJx4a65c_size_8abf5 dX10_restNow_7 w_1208 rfl f42 [] [.int (nI k1)] rfl rfl ⟨by decide, by decide⟩ (Nat.le_of_ble_eq_true rfl) (c24_size d g τ h sp0.1 lc_20 k29) 0 0 (Nat.le_of_ble_eq_true rfl) (Nat.le_of_ble_eq_true rfl)) (fun r48 h47 q46 => ?_) (fun E h1 q => q.elim)
      obtain ⟨q46e, q46r⟩ := q46
      rw [q46e, q46r]
      refine tw_icmp_ge 45 dX10_restNow_10 (by decide) (fun c49 => ?_) (fun c49 => ?_)
      · refine tw_iconst (v := 1) dX10_restNow_45 (by decide) ?_
        exact tw_zret dX10_restNow_46 rfl rfl (Or.inl ⟨_, rfl, rfl, by have z := tw_kge c49 (by omega); have z2 := li7; rw [show k1 = g.2 3 by omega] at z2; rw [z2]; rfl⟩)
      · have kl50 : k1 < (g.2 3) := tw_klt (N := (g.2 3)) c49 hk9 (by omega)
        refine tw_iconst (v := 0) dX10_restNow_13 (by decide) ?_
        refine tw_istore_n [(3, .int 0), (0, .ref x), (1, .int gr), (2, .int (nI k1))] dX10_restNow_14 rfl (by decide) rfl ?_
        have L54 : ∀ (r52 k51 : Nat) (li57 : k1 < g.2 3 ∧ ∀ k9, k9 < k51 → (tw_bM g k1 k9 n (g.2 3)).1 = none), 2 + 1 ≤ k51 + r52 → k51 ≤ 2 → tw_W d mX10_restNow (tw_qi (fun r h1 => h1 = h ∧ r = tw_rbi (tw_rM g n (g.2 3))) tw_nx) 15 [(0, .ref x), (1, .int gr), (2, .int (nI k1)), (3, .int (nI k51))] [] h 0 0 := by
          intro r52
          induction r52 with
          | zero => intro k51 li57 hk58 hk59; exact absurd hk58 (by omega)
          | succ r52 ih53 =>
            intro k51 li57 hk58 hk59
            refine tw_iload_n 3 dX10_restNow_15 rfl rfl ?_
            refine tw_iconst (v := 2) dX10_restNow_16 (by decide) ?_
            refine tw_icmp_ge 39 dX10_restNow_17 (by decide) (fun c60 => ?_) (fun c60 => ?_)
            · obtain ⟨v61, ev61⟩ : ∃ y : Int32, y = (nI k1) + 1 := ⟨_, rfl⟩
              refine tw_iinc [(2, .int v61), (0, .ref x), (1, .int gr), (3, .int (nI k51))] 2 dX10_restNow_39 rfl (by rw [ev61]; rfl) (by decide) rfl ?_
              refine tw_goto 2 dX10_restNow_42 (by decide) ?_
              have qv61 := tw_nI3 ev61
              rw [qv61]
              refine tw_lv [1, 2, 0] rfl ?_
              exact ih3 (k1 + 1)  (tw_rb_s li7 (li57.2 0 (by have z := tw_kge (k := k51) (N := 2) c60 (by omega); omega)) (li57.2 1 (by have z := tw_kge (k := k51) (N := 2) c60 (by omega); omega))) (by omega) (by omega)
            · have kl62 := tw_klt (N := 2) c60 hk59 (by decide)
              refine tw_aload_n 0 dX10_restNow_20 rfl rfl ?_
              refine tw_iload_n 2 dX10_restNow_21 rfl rfl ?_
              refine tw_iload_n 3 dX10_restNow_22 rfl rfl ?_
              refine tw_iload_n 1 dX10_restNow_23 rfl rfl ?_
              refine tw_bi (tw_callV (M := mX10_restNow) (pc := 24) okX10_bestTripNow dX10_restNow_24 w_1565 rfl f11 [.int (nI k1), .int (nI k51), .int gr] [] rfl rfl ⟨by decide, by decide⟩ (Nat.le_of_ble_eq_true rfl) (c3_X10_bestTripNow d g τ h sp0.1 x kx k1 (by omega) k51 (by omega) gr n en hn he) 0 0 (Nat.le_of_ble_eq_true rfl) (Nat.le_of_ble_eq_true rfl)) (fun r65 h64 q63 => ?_) (fun E h1 q => q.elim)
              obtain ⟨q63e, q63v⟩ := q63
              rw [q63e]
              refine tw_iconst (v := -1) dX10_restNow_27 (by decide) ?_
              refine tw_icmp_eq 33 dX10_restNow_28 (by decide) (fun c66 => ?_) (fun c66 => ?_)
              · have no9 := tw_bM_no b9 q63v c66
                obtain ⟨v67, ev67⟩ : ∃ y : Int32, y = (nI k51) + 1 := ⟨_, rfl⟩
                refine tw_iinc [(3, .int v67), (0, .ref x), (1, .int gr), (2, .int (nI k1))] 3 dX10_restNow_33 rfl (by rw [ev67]; rfl) (by decide) rfl ?_
                refine tw_goto 15 dX10_restNow_36 (by decide) ?_
                have qv67 := tw_nI3 ev67
                rw [qv67]
                refine tw_lv [1, 2, 3, 0] rfl ?_
                exact ih53 (k51 + 1)  (⟨li57.1, fun k9 hk9 => by rcases Nat.lt_or_ge k9 k51 with z | z; exact li57.2 k9 z; rw [show k9 = k51 by omega]; exact no9⟩) (by omega) (by omega)
              · refine tw_iconst (v := 0) dX10_restNow_31 (by decide) ?_
                exact tw_zret dX10_restNow_32 rfl rfl (Or.inl ⟨_, rfl, rfl, by unfold tw_rM; rw [tw_rb_f (B := fun i k => (tw_bM g i k n (g.2 3)).1) (i := k1) (k := k51) (by omega) (tw_bM_so q63v c66) _ (by omega)]; rfl⟩)
        refine tw_lv [1, 2, 3, 0] rfl ?_
        exact L54 (2 + 1) 0  (⟨by omega, fun k9 hk9 => absurd hk9 (Nat.not_lt_zero _)⟩) (by omega) (by omega)
  refine tw_lv [1, 2, 0] rfl ?_
  exact L4 ((g.2 3) + 1) 0  (rfl) (by omega) (by omega)

set_option maxHeartbeats 4000000 in
set_option maxRecDepth 100000 in
theorem c2_X5_rest (d : tw_D) (g : tw_G) (τ : tw_K) (h : tw_H) (hw : tw_wt d g τ h) (x : Nat) (kx : τ x = 11) (gr : Int32) (he : tw_EC g) : tw_Ct d mX5_rest 20 120 [.ref x, .int gr] h (tw_qi (fun r9 h1 => r9 = tw_rbi (tw_rC g (tw_DN gr) (g.2 6)) ∧ tw_RG gr ∧ tw_01 r9 ∧ ∃ τ1, tw_sp d τ h g τ1 h1) (fun E h1 => (E = tw_IAE ∧ ¬ tw_RG gr) ∧ ∃ τ1, tw_sp d τ h g τ1 h1)) := by
  refine tw_of (by decide +kernel) (Nat.le_of_ble_eq_true rfl) ?_
  show tw_W d mX5_rest _ 0 [(0, .ref x), (1, .int gr)] [] h 20 120
  have sp0 := tw_sp.rf hw
  refine tw_iload_n 1 dX5_rest_0 rfl rfl ?_
  refine tw_iconst (v := 0) dX5_rest_1 (by decide) ?_
  refine tw_ldc (v := 99999) dX5_rest_2 w_470 ?_
  refine tw_bv (tw_callS (M := mX5_rest) (pc := 4) okX5_needRange dX5_rest_4 w_399 [.int gr, .int 0, .int 99999] [] rfl rfl ⟨by decide, by decide⟩ (Nat.le_of_ble_eq_true rfl) (c2_X5_needRange d g τ h sp0.1 gr 0 99999) 19 114 (Nat.le_of_ble_eq_true rfl) (Nat.le_of_ble_eq_true rfl)) (fun h2 q1 => ?_) (fun E h1 q1 => Or.inr ⟨E, rfl, ⟨q1.1, q1.2.2⟩, τ, by rw [q1.2.1]; exact sp0⟩)
  obtain ⟨q1e, rc⟩ := q1
  rw [q1e]
  obtain ⟨n, hn, en⟩ := tw_grm rc.1 rc.2
  subst en
  have cD : tw_DN (nI n) = n := nI_clamp (by omega)
  refine tw_aload_n 0 dX5_rest_7 rfl rfl ?_
  refine tw_iload_n 1 dX5_rest_8 rfl rfl ?_
  obtain ⟨e7, f8, td_9, ca_10, ha_11, da_12, c1_13, c2_14, c3_15, c4_16, rfl, k17, k18, k19, k20, k21, k22, k23, k24, k25, k26, k27, k28, k29⟩ := sp0.1 x 11 kx (by decide)
  refine tw_bi (tw_callV (M := mX5_rest) (pc := 9) okX5_isRest dX5_rest_9 w_369 rfl f8 [.int (nI n)] [] rfl rfl ⟨by decide, by decide⟩ (Nat.le_of_ble_eq_true rfl) (c3_X5_isRest d g τ h sp0.1 x kx (nI n) n rfl hn he) 19 114 (Nat.le_of_ble_eq_true rfl) (Nat.le_of_ble_eq_true rfl)) (fun r6 h5 q4 => ?_) (fun E h1 q => q.elim)
  obtain ⟨q4e, q4v⟩ := q4
  rw [q4e]
  have z01 : tw_01 r6 := by rw [q4v]; exact tw_rbi_01 _
  exact tw_zret dX5_rest_12 rfl (tw_nar01 z01) (Or.inl ⟨_, rfl, (by rw [cD]; exact q4v), rc, z01, _, sp0⟩)

set_option maxHeartbeats 4000000 in
set_option maxRecDepth 100000 in
theorem c2_X10_rest (d : tw_D) (g : tw_G) (τ : tw_K) (h : tw_H) (hw : tw_wt d g τ h) (x : Nat) (kx : τ x = 36) (gr : Int32) (o : Nat) (ko : τ o = 12) (he : tw_EM g) : tw_Ct d mX10_rest 0 0 [.ref x, .int gr] h (tw_qi (fun r9 h1 => ∃ g1 τ1, tw_sp d τ h g1 τ1 h1 ∧ h1 o = h o ∧ ((¬ tw_RG gr ∧ tw_th (h1 x) = 1 ∧ g1 = g) ∨ (tw_RG gr ∧ r9 = tw_rbi (tw_rM g (tw_DN gr) (g.2 3)) ∧ tw_th (h1 x) = 0 ∧ g1 = g)) ∧ tw_01 r9) tw_nx) := by
  refine tw_of (by decide +kernel) (Nat.le_of_ble_eq_true rfl) ?_
  show tw_W d mX10_rest _ 0 [(0, .ref x), (1, .int gr)] [] h 0 0
  have sp0 := tw_sp.rf hw
  have oq0 : h o = h o := rfl
  refine tw_aload_n 0 dX10_rest_0 rfl rfl ?_
  refine tw_iload_n 1 dX10_rest_1 rfl rfl ?_
  refine tw_iconst (v := 0) dX10_rest_2 (by decide) ?_
  refine tw_ldc (v := 99999) dX10_rest_3 w_1199 ?_
  refine tw_bi (tw_callS (M := mX10_rest) (pc := 5) okX10_isIn dX10_rest_5 w_1196 [.int gr, .int 0, .int 99999] [.ref x] rfl rfl ⟨by decide, by decide⟩ (Nat.le_of_ble_eq_true rfl) (c_X10_isIn d g τ h sp0.1 gr 0 99999) 0 0 (Nat.le_of_ble_eq_true rfl) (Nat.le_of_ble_eq_true rfl)) (fun r3 h2 q1 => ?_) (fun E h1 q => q.elim)
  obtain ⟨q1e, q1d⟩ := q1
  rw [q1e]
  rcases q1d with ⟨q1r, q1n⟩ | ⟨q1r, rc⟩
  · rw [q1r]
    refine tw_if_ne 15 dX10_rest_8 (by decide) (fun c4 => absurd (by decide) c4) (fun _ => ?_)
    refine tw_iconst (v := 1) dX10_rest_11 (by decide) ?_
    refine tw_goto 16 dX10_rest_12 (by decide) ?_
    refine tw_iconst (v := 1) dX10_rest_16 (by decide) ?_
    obtain ⟨e8, f9, th_10, td_11, ds_12, fr_13, ca_14, us_15, wo_16, cm_17, lc_18, lh_19, ld_20, rfl, k21, k22, k23, k24, k25, k26, k27, k28, k29, k30, k31, k32, k33, k34, k35, k36, k37, k38⟩ := sp0.1 x 36 kx (by decide)
    refine tw_bi (tw_callV (M := mX10_rest) (pc := 17) okX10_start dX10_rest_17 w_1200 rfl f9 [.int 1, .int 1] [] rfl rfl ⟨by decide, by decide⟩ (Nat.le_of_ble_eq_true rfl) (c_X10_start d g τ h sp0.1 x kx 1 1 (by decide)) 0 0 (Nat.le_of_ble_eq_true rfl) (Nat.le_of_ble_eq_true rfl)) (fun r41 h40 q39 => ?_) (fun E h1 q => q.elim)
    obtain ⟨e42, he43, hs44, hr45, hc46⟩ := q39
    obtain ⟨rz47, tz48⟩ := hc46.2 rfl
    have th49 : tw_th (h40 x) = 1 := by rw [he43, tw_up_s]; exact tz48
    have sp50 : tw_sp d τ h g τ h40 := by rw [he43]; exact sp0.set kx (by decide) hs44
    rw [rz47]
    have oq51 : h40 o = h o := by rw [he43, tw_up_n (tw_nk ko kx (by decide))] <;> exact oq0
    refine tw_if_ne 35 dX10_rest_20 (by decide) (fun _ => ?_) (fun c52 => absurd c52 (by decide))
    refine tw_iconst (v := 0) dX10_rest_35 (by decide) ?_
    exact tw_zret dX10_rest_36 rfl rfl (Or.inl ⟨_, rfl, _, _, sp50, oq51, Or.inl ⟨q1n, th49, rfl⟩, Or.inl rfl⟩)
  · rw [q1r]
    have rc0 : tw_RG gr := rc
    obtain ⟨n, hn, en⟩ := tw_grm rc.1 rc.2
    subst en
    have cD : tw_DN (nI n) = n := nI_clamp (by omega)
    refine tw_if_ne 15 dX10_rest_8 (by decide) (fun _ => ?_) (fun c53 => absurd c53 (by decide))
    refine tw_iconst (v := 0) dX10_rest_15 (by decide) ?_
    refine tw_iconst (v := 1) dX10_rest_16 (by decide) ?_
    obtain ⟨e57, f58, th_59, td_60, ds_61, fr_62, ca_63, us_64, wo_65, cm_66, lc_67, lh_68, ld_69, rfl, k70, k71, k72, k73, k74, k75, k76, k77, k78, k79, k80, k81, k82, k83, k84, k85, k86, k87⟩ := sp0.1 x 36 kx (by decide)
    refine tw_bi (tw_callV (M := mX10_rest) (pc := 17) okX10_start dX10_rest_17 w_1200 rfl f58 [.int 0, .int 1] [] rfl rfl ⟨by decide, by decide⟩ (Nat.le_of_ble_eq_true rfl) (c_X10_start d g τ h sp0.1 x kx 0 1 (by decide)) 0 0 (Nat.le_of_ble_eq_true rfl) (Nat.le_of_ble_eq_true rfl)) (fun r90 h89 q88 => ?_) (fun E h1 q => q.elim)
    obtain ⟨e91, he92, hs93, hr94, hc95⟩ := q88
    obtain ⟨rz96, tz97⟩ := hc95.1 rfl
    have th98 : tw_th (h89 x) = 0 := by rw [he92, tw_up_s]; exact tz97
    have sp99 : tw_sp d τ h g τ h89 := by rw [he92]; exact sp0.set kx (by decide) hs93
    rw [rz96]
    have oq100 : h89 o = h o := by rw [he92, tw_up_n (tw_nk ko kx (by decide))] <;> exact oq0
    refine tw_if_ne 35 dX10_rest_20 (by decide) (fun c101 => absurd (by decide) c101) (fun _ => ?_)
    refine tw_aload_n 0 dX10_rest_23 rfl rfl ?_
    refine tw_iload_n 1 dX10_rest_24 rfl rfl ?_
    obtain ⟨e105, f106, th_107, td_108, ds_109, fr_110, ca_111, us_112, wo_113, cm_114, lc_115, lh_116, ld_117, rfl, k118, k119, k120, k121, k122, k123, k124, k125, k126, k127, k128, k129, k130, k131, k132, k133, k134, k135⟩ := sp99.1 x 36 kx (by decide)
    refine tw_bi (tw_callV (M := mX10_rest) (pc := 25) okX10_restNow dX10_rest_25 w_1573 rfl f106 [.int (nI n)] [] rfl rfl ⟨by decide, by decide⟩ (Nat.le_of_ble_eq_true rfl) (c3_X10_restNow d g τ h89 sp99.1 x kx (nI n) n rfl hn he) 0 0 (Nat.le_of_ble_eq_true rfl) (Nat.le_of_ble_eq_true rfl)) (fun r104 h103 q102 => ?_) (fun E h1 q => q.elim)
    obtain ⟨q102e, q102v⟩ := q102
    rw [q102e]
    have z01 : tw_01 r104 := by rw [q102v]; exact tw_rbi_01 _
    refine tw_if_eq 35 dX10_rest_28 (by decide) (fun c136 => ?_) (fun c136 => ?_)
    · refine tw_iconst (v := 0) dX10_rest_35 (by decide) ?_
      exact tw_zret dX10_rest_36 rfl rfl (Or.inl ⟨_, rfl, _, _, sp99, oq100, Or.inr ⟨rc0, (by rw [cD, ← q102v]; exact c136.symm), th98, rfl⟩, Or.inl rfl⟩)
    · refine tw_iconst (v := 1) dX10_rest_31 (by decide) ?_
      refine tw_goto 36 dX10_rest_32 (by decide) ?_
      exact tw_zret dX10_rest_36 rfl rfl (Or.inl ⟨_, rfl, _, _, sp99, oq100, Or.inr ⟨rc0, (by rw [cD, ← q102v]; exact (z01.resolve_left c136).symm), th98, rfl⟩, Or.inr rfl⟩)

/-! the class's methods over the typed heap. Laid by wip/p5/mkclass.py. -/
/-! numbers that don't overflow -/
def tw_L (n : Nat) : Int64 := Int64.ofNat n
theorem tw_L_toInt {n : Nat} (h : n < 2 ^ 63) : (tw_L n).toInt = n := by
  unfold tw_L
  exact Int64.toInt_ofNat_of_lt h
theorem tw_L_of {x : Int64} {n : Nat} (h : x.toInt = n) (hn : n < 2 ^ 63) : x = tw_L n := Int64.toInt_inj.mp (h.trans (tw_L_toInt hn).symm)
theorem tw_I_of {x : Int32} {n : Nat} (h : x.toInt = n) (hn : n < 2 ^ 31) : x = nI n := Int32.toInt_inj.mp (h.trans (nI_toInt hn).symm)
theorem tw_L_i {n : Nat} (h : n < 2 ^ 31) : (nI n).toInt64 = tw_L n := tw_L_of (by rw [Int32.toInt_toInt64, nI_toInt h]) (by omega)
theorem tw_L_mul {a b : Nat} (ha : a < 2 ^ 63) (hb : b < 2 ^ 63) (h : a * b < 2 ^ 63) : tw_L a * tw_L b = tw_L (a * b) := by
  refine tw_L_of ?_ h
  rw [Int64.toInt_mul, tw_L_toInt ha, tw_L_toInt hb, ← Int.natCast_mul]
  apply Int.bmod_eq_of_le_mul_two <;> omega
theorem tw_L_add {a b : Nat} (h : a + b < 2 ^ 63) : tw_L a + tw_L b = tw_L (a + b) := by
  refine tw_L_of ?_ h
  rw [Int64.toInt_add, tw_L_toInt (by omega), tw_L_toInt (by omega)]
  have e : (a : Int) + b = ((a + b : Nat) : Int) := by omega
  rw [e]
  apply Int.bmod_eq_of_le_mul_two <;> omega
theorem tw_L_sub {a b : Nat} (ha : a < 2 ^ 63) (h : b ≤ a) : tw_L a - tw_L b = tw_L (a - b) := by
  refine tw_L_of ?_ (by omega)
  rw [Int64.toInt_sub, tw_L_toInt (by omega), tw_L_toInt (by omega)]
  have e : (a : Int) - b = ((a - b : Nat) : Int) := by omega
  rw [e]
  apply Int.bmod_eq_of_le_mul_two <;> omega
theorem tw_L_div {a b : Nat} (ha : a < 2 ^ 63) (hb : b < 2 ^ 63) : tw_L a / tw_L b = tw_L (a / b) := by
  have l : a / b ≤ a := Nat.div_le_self a b
  refine tw_L_of ?_ (by omega)
  rw [Int64.toInt_div, tw_L_toInt ha, tw_L_toInt hb]
  have e : Int.tdiv (a : Int) b = ((a / b : Nat) : Int) := by simp
  rw [e]
  clear e
  generalize a / b = c at l ⊢
  apply Int.bmod_eq_of_le_mul_two <;> omega
theorem tw_L_32 {n : Nat} (h : n < 2 ^ 31) : (tw_L n).toInt32 = nI n := by
  refine tw_I_of ?_ h
  rw [Int64.toInt_toInt32, tw_L_toInt (by omega)]
  apply Int.bmod_eq_of_le_mul_two <;> omega
theorem tw_I_sub {a b : Nat} (ha : a < 2 ^ 31) (h : b ≤ a) : nI a - nI b = nI (a - b) := by
  refine tw_I_of ?_ (by omega)
  rw [Int32.toInt_sub, nI_toInt (by omega), nI_toInt (by omega)]
  have e : (a : Int) - b = ((a - b : Nat) : Int) := by omega
  rw [e]
  apply Int.bmod_eq_of_le_mul_two <;> omega
theorem tw_I_rng {x : Int32} {a b : Nat} (h1 : nI a ≤ x) (h2 : x ≤ nI b) (hb : b < 2 ^ 31) (ha : a < 2 ^ 31) : ∃ n, a ≤ n ∧ n ≤ b ∧ x = nI n := by
  obtain ⟨n, hn, rfl⟩ := nI_of (Int32.not_lt.mpr (Int32.le_trans (nI_le (a := 0) (Nat.zero_le a) ha) h1))
  refine ⟨n, ?_, ?_, rfl⟩
  · rw [Int32.le_iff_toInt_le, nI_toInt ha, nI_toInt hn] at h1
    omega
  · rw [Int32.le_iff_toInt_le, nI_toInt hb, nI_toInt hn] at h2
    omega
/-! what a mint gives, what comes of a trip -/
def tw_up3 (a t : Nat) : Nat := (a * t + 999) / 1000
def tw_gv (k r c a : Nat) : Nat := (if k = 0 then a * r / 10 else a * 10 / r) - tw_up3 (if k = 0 then a * r / 10 else a * 10 / r) c
def tw_tp (k a r1 c1 r2 c2 f1 f2 : Nat) : Nat := tw_gv (1 - k) r2 c2 (tw_gv k r1 c1 a - tw_up3 (tw_gv k r1 c1 a) f1) - tw_up3 (tw_gv (1 - k) r2 c2 (tw_gv k r1 c1 a - tw_up3 (tw_gv k r1 c1 a) f1)) f2
theorem tw_up3_le {a t : Nat} (h : t ≤ 1000) : tw_up3 a t ≤ a := by
  have z : a * t ≤ a * 1000 := Nat.mul_le_mul_left a h
  unfold tw_up3
  omega
theorem tw_sil_le {a r : Nat} (h : r ≤ 200) : a * r / 10 ≤ 20 * a := by
  have z : a * r ≤ a * 200 := Nat.mul_le_mul_left a h
  omega
theorem tw_gol_le {a r : Nat} (h : 100 ≤ r) : a * 10 / r ≤ a := by
  have z : a * 10 / r ≤ a * 10 / 100 := Nat.div_le_div_left h (by decide)
  omega
theorem tw_w_le {k a r : Nat} (h1 : 100 ≤ r) (h2 : r ≤ 200) : (if k = 0 then a * r / 10 else a * 10 / r) ≤ 20 * a := by
  split
  · exact tw_sil_le h2
  · have := tw_gol_le (a := a) h1
    omega
theorem tw_gv_le {k r c a : Nat} (h1 : 100 ≤ r) (h2 : r ≤ 200) : tw_gv k r c a ≤ 20 * a := by
  have := tw_w_le (k := k) (a := a) h1 h2
  unfold tw_gv
  omega
theorem tw_mul_lt {a b m n : Nat} (h1 : a ≤ m) (h2 : b ≤ n) : a * b ≤ m * n := Nat.mul_le_mul h1 h2
theorem tw_up3_i {a t : Nat} (ha : a < 2 ^ 31) (ht : t ≤ 1000) : (((nI a).toInt64 * (nI t).toInt64 + 999) / 1000).toInt32 = nI (tw_up3 a t) := by
  have z : a * t ≤ 2 ^ 31 * 1000 := tw_mul_lt (by omega) ht
  have u := tw_up3_le (a := a) ht
  rw [tw_L_i ha, tw_L_i (by omega), tw_L_mul (by omega) (by omega) (by omega), show (999 : Int64) = tw_L 999 from rfl, show (1000 : Int64) = tw_L 1000 from rfl, tw_L_add (by omega), tw_L_div (by omega) (by omega)]
  exact tw_L_32 (n := tw_up3 a t) (by omega)
theorem tw_sil_i {a r : Nat} (ha : a ≤ 4000000) (hr : r ≤ 200) : ((nI a).toInt64 * (nI r).toInt64 / 10).toInt32 = nI (a * r / 10) := by
  have z : a * r ≤ 4000000 * 200 := tw_mul_lt ha hr
  rw [tw_L_i (by omega), tw_L_i (by omega), tw_L_mul (by omega) (by omega) (by omega), show (10 : Int64) = tw_L 10 from rfl, tw_L_div (by omega) (by omega)]
  exact tw_L_32 (by omega)
theorem tw_gol_i {a r : Nat} (ha : a ≤ 4000000) (h1 : 100 ≤ r) (hr : r ≤ 200) : ((nI a).toInt64 * 10 / (nI r).toInt64).toInt32 = nI (a * 10 / r) := by
  have z := tw_gol_le (a := a) h1
  rw [tw_L_i (by omega), tw_L_i (by omega), show (10 : Int64) = tw_L 10 from rfl, tw_L_mul (by omega) (by omega) (by omega), tw_L_div (by omega) (by omega)]
  exact tw_L_32 (by omega)
theorem tw_upL {a b : Nat} (hb : 1 ≤ b) (h : a + b < 2 ^ 63) : (tw_L a + tw_L b - 1) / tw_L b = tw_L ((a + b - 1) / b) := by
  rw [tw_L_add h, show (1 : Int64) = tw_L 1 from rfl, tw_L_sub (by omega) (by omega), tw_L_div (by omega) (by omega)]
theorem tw_up3_L {a t : Nat} (ha : a ≤ 80000000) (ht : t ≤ 1000) : tw_L a - tw_L ((a * t + 1000 - 1) / 1000) = tw_L (a - tw_up3 a t) := by
  have u := tw_up3_le (a := a) ht
  have z : a * t ≤ 80000000 * 1000 := tw_mul_lt ha ht
  rw [show a * t + 1000 - 1 = a * t + 999 by omega]
  exact tw_L_sub (by omega) u
theorem tw_silL {a r : Nat} (ha : a ≤ 4000000) (hr : r ≤ 200) : tw_L a * (nI r).toInt64 / 10 = tw_L (a * r / 10) := by
  have z : a * r ≤ 4000000 * 200 := tw_mul_lt ha hr
  rw [tw_L_i (by omega), tw_L_mul (by omega) (by omega) (by omega), show (10 : Int64) = tw_L 10 from rfl, tw_L_div (by omega) (by omega)]
theorem tw_golL {a r : Nat} (ha : a ≤ 4000000) (hr : r ≤ 200) : tw_L a * 10 / (nI r).toInt64 = tw_L (a * 10 / r) := by
  rw [tw_L_i (by omega), show (10 : Int64) = tw_L 10 from rfl, tw_L_mul (by omega) (by omega) (by omega), tw_L_div (by omega) (by omega)]
/-- the numbers of the countries are within their ranges -/
def tw_EC (g : tw_G) : Prop := ∀ j, j < g.2 6 → (100 ≤ tw_DN (g.1 (160 + 64 * j)) ∧ tw_DN (g.1 (160 + 64 * j)) ≤ 200 ∧ g.1 (160 + 64 * j) = nI (tw_DN (g.1 (160 + 64 * j)))) ∧ (tw_DN (g.1 (160 + 64 * j + 1)) ≤ 50 ∧ g.1 (160 + 64 * j + 1) = nI (tw_DN (g.1 (160 + 64 * j + 1)))) ∧ ∀ k, k < 4 → tw_DN (g.1 (160 + 64 * j + 16 + k)) ≤ 100 ∧ g.1 (160 + 64 * j + 16 + k) = nI (tw_DN (g.1 (160 + 64 * j + 16 + k)))
def tw_EM (g : tw_G) : Prop := ∀ j, j < g.2 3 → (100 ≤ tw_DN (g.1 (480 + 64 * j)) ∧ tw_DN (g.1 (480 + 64 * j)) ≤ 200 ∧ g.1 (480 + 64 * j) = nI (tw_DN (g.1 (480 + 64 * j)))) ∧ (tw_DN (g.1 (480 + 64 * j + 1)) ≤ 50 ∧ g.1 (480 + 64 * j + 1) = nI (tw_DN (g.1 (480 + 64 * j + 1)))) ∧ ∀ k, k < 4 → tw_DN (g.1 (448 + 8 * j + k)) ≤ 100 ∧ g.1 (448 + 8 * j + k) = nI (tw_DN (g.1 (448 + 8 * j + k)))
/-- what comes of a trip, by the class's numbers and by the reference's -/
def tw_tC (g : tw_G) (a b k n : Nat) : Nat := tw_tp k n (tw_DN (g.1 (160 + 64 * a))) (tw_DN (g.1 (160 + 64 * a + 1))) (tw_DN (g.1 (160 + 64 * b))) (tw_DN (g.1 (160 + 64 * b + 1))) (tw_DN (g.1 (160 + 64 * a + 16 + b))) (tw_DN (g.1 (160 + 64 * a + 16 + b)))
def tw_tM (g : tw_G) (a b k n : Nat) : Nat := tw_tp k n (tw_DN (g.1 (480 + 64 * a))) (tw_DN (g.1 (480 + 64 * a + 1))) (tw_DN (g.1 (480 + 64 * b))) (tw_DN (g.1 (480 + 64 * b + 1))) (tw_DN (g.1 (448 + 8 * a + b))) (tw_DN (g.1 (448 + 8 * b + a)))
theorem tw_b3 {d : tw_D} {g : tw_G} {τ : tw_K} {h : tw_H} {x : Nat} (hw : tw_wt d g τ h) (kx : τ x = 36) : g.2 3 ≤ 4 := by
  obtain ⟨e, he, th, td, ds, fr, ca, us, wo, cm, lc, lh, ld, h9, k1, k2, k3, k4, k5, k6, k7, k8, k9, b3, -⟩ := hw x 36 kx (by decide)
  exact b3

set_option maxHeartbeats 4000000 in
set_option maxRecDepth 100000 in
theorem c3_X5_thousandthsRoundedUp (d : tw_D) (g : tw_G) (τ : tw_K) (h : tw_H) (hw : tw_wt d g τ h) (a t : Int32) (A T : Nat) (ea : a = nI A) (et : t = nI T) (hA : A < 2 ^ 31) (hT : T ≤ 1000) : tw_Ct d mX5_thousandthsRoundedUp 0 0 [.int a, .int t] h (tw_qi (fun r h1 => h1 = h ∧ r = nI (tw_up3 A T)) tw_nx) := by
  refine tw_of (by decide +kernel) (Nat.le_of_ble_eq_true rfl) ?_
  show tw_W d mX5_thousandthsRoundedUp _ 0 [(0, .int a), (1, .int t)] [] h 0 0
  have sp0 := tw_sp.rf hw
  refine tw_iload_n 0 dX5_thousandthsRoundedUp_0 rfl rfl ?_
  refine tw_i2l dX5_thousandthsRoundedUp_1 ?_
  refine tw_nml (fun v1 ev1 => ?_)
  refine tw_iload_n 1 dX5_thousandthsRoundedUp_2 rfl rfl ?_
  refine tw_i2l dX5_thousandthsRoundedUp_3 ?_
  refine tw_nml (fun v2 ev2 => ?_)
  refine tw_lmul dX5_thousandthsRoundedUp_4 ?_
  refine tw_nml (fun v3 ev3 => ?_)
  refine tw_ldc2 (v := 999) dX5_thousandthsRoundedUp_5 w_315 ?_
  refine tw_ladd dX5_thousandthsRoundedUp_8 ?_
  refine tw_nml (fun v4 ev4 => ?_)
  refine tw_ldc2 (v := 1000) dX5_thousandthsRoundedUp_9 w_316 ?_
  refine tw_ldiv dX5_thousandthsRoundedUp_12 (by decide) ?_
  refine tw_nml (fun v5 ev5 => ?_)
  refine tw_l2i dX5_thousandthsRoundedUp_13 ?_
  refine tw_nmi (fun v6 ev6 => ?_)
  exact tw_iret dX5_thousandthsRoundedUp_14 rfl (Or.inl ⟨_, rfl, rfl, by rw [ev6, ev5, ev4, ev3, ev1, ev2, ea, et]; exact tw_up3_i hA hT⟩)

set_option maxHeartbeats 4000000 in
set_option maxRecDepth 100000 in
theorem c3_X0_silverFor (d : tw_D) (g : tw_G) (τ : tw_K) (h : tw_H) (hw : tw_wt d g τ h) (x : Nat) (kx : τ x = 2) (j : Nat) (hj : j < 4) (hb : g.2 (4096 + x) = 160 + 64 * j) (a : Int32) (A R : Nat) (ea : a = nI A) (eR : g.1 (160 + 64 * j) = nI R) (h1R : 100 ≤ R) (h2R : R ≤ 200) (hA : A ≤ 4000000) : tw_Ct d mX0_silverFor 0 0 [.ref x, .int a] h (tw_qi (fun r h1 => h1 = h ∧ r = nI (A * R / 10)) tw_nx) := by
  refine tw_of (by decide +kernel) (Nat.le_of_ble_eq_true rfl) ?_
  show tw_W d mX0_silverFor _ 0 [(0, .ref x), (1, .int a)] [] h 0 0
  have sp0 := tw_sp.rf hw
  refine tw_iload_n 1 dX0_silverFor_0 rfl rfl ?_
  refine tw_i2l dX0_silverFor_1 ?_
  refine tw_nml (fun v1 ev1 => ?_)
  refine tw_aload_n 0 dX0_silverFor_2 rfl rfl ?_
  obtain ⟨e2, f3, n_4, r_5, c_6, go_7, so_8, v_9, rd_10, rf_11, t_12, rfl, k13, k14, k15, k16, k17, k18, k19, k20, k21⟩ := sp0.1 x 2 kx (by decide)
  obtain ⟨j22, ow23, fn9, fr9, fc9, fg9, fs9, q24, q25, q26, q27⟩ := k21
  obtain rfl : j = j22 := by have z := ow23.b hb; omega
  subst fn9 fr9 fc9 fg9 fs9
  refine tw_get (v := .int (g.1 (160 + 64 * j))) rfl in_4 1 dX0_silverFor_3 w_503 rfl (by decide) f3 rfl ?_
  refine tw_i2l dX0_silverFor_6 ?_
  refine tw_nml (fun v28 ev28 => ?_)
  refine tw_lmul dX0_silverFor_7 ?_
  refine tw_nml (fun v29 ev29 => ?_)
  refine tw_ldc2 (v := 10) dX0_silverFor_8 w_307 ?_
  refine tw_ldiv dX0_silverFor_11 (by decide) ?_
  refine tw_nml (fun v30 ev30 => ?_)
  refine tw_l2i dX0_silverFor_12 ?_
  refine tw_nmi (fun v31 ev31 => ?_)
  exact tw_iret dX0_silverFor_13 rfl (Or.inl ⟨_, rfl, rfl, by rw [ev31, ev30, ev29, ev1, ev28, ea, eR]; exact tw_sil_i hA h2R⟩)

set_option maxHeartbeats 4000000 in
set_option maxRecDepth 100000 in
theorem c3_X0_goldOf (d : tw_D) (g : tw_G) (τ : tw_K) (h : tw_H) (hw : tw_wt d g τ h) (x : Nat) (kx : τ x = 2) (j : Nat) (hj : j < 4) (hb : g.2 (4096 + x) = 160 + 64 * j) (a : Int32) (A R : Nat) (ea : a = nI A) (eR : g.1 (160 + 64 * j) = nI R) (h1R : 100 ≤ R) (h2R : R ≤ 200) (hA : A ≤ 4000000) : tw_Ct d mX0_goldOf 0 0 [.ref x, .int a] h (tw_qi (fun r h1 => h1 = h ∧ r = nI (A * 10 / R)) tw_nx) := by
  refine tw_of (by decide +kernel) (Nat.le_of_ble_eq_true rfl) ?_
  show tw_W d mX0_goldOf _ 0 [(0, .ref x), (1, .int a)] [] h 0 0
  have sp0 := tw_sp.rf hw
  refine tw_aload_n 0 dX0_goldOf_0 rfl rfl ?_
  obtain ⟨e1, f2, n_3, r_4, c_5, go_6, so_7, v_8, rd_9, rf_10, t_11, rfl, k12, k13, k14, k15, k16, k17, k18, k19, k20⟩ := sp0.1 x 2 kx (by decide)
  obtain ⟨j21, ow22, fn9, fr9, fc9, fg9, fs9, q23, q24, q25, q26⟩ := k20
  obtain rfl : j = j21 := by have z := ow22.b hb; omega
  subst fn9 fr9 fc9 fg9 fs9
  refine tw_get (v := .int (g.1 (160 + 64 * j))) rfl in_4 1 dX0_goldOf_1 w_503 rfl (by decide) f2 rfl ?_
  refine tw_iconst (v := 1) dX0_goldOf_4 (by decide) ?_
  refine tw_icmp_ge 12 dX0_goldOf_5 (by decide) (fun _ => ?_) (fun c27 => absurd ((by rw [eR]; exact nI_le (a := 1) (by omega) (by omega))) c27)
  refine tw_iload_n 1 dX0_goldOf_12 rfl rfl ?_
  refine tw_i2l dX0_goldOf_13 ?_
  refine tw_nml (fun v28 ev28 => ?_)
  refine tw_ldc2 (v := 10) dX0_goldOf_14 w_307 ?_
  refine tw_lmul dX0_goldOf_17 ?_
  refine tw_nml (fun v29 ev29 => ?_)
  refine tw_aload_n 0 dX0_goldOf_18 rfl rfl ?_
  refine tw_get (v := .int (g.1 (160 + 64 * j))) rfl in_4 1 dX0_goldOf_19 w_503 rfl (by decide) f2 rfl ?_
  refine tw_i2l dX0_goldOf_22 ?_
  refine tw_nml (fun v30 ev30 => ?_)
  refine tw_ldiv dX0_goldOf_23 (tw_nzl ev30 (by rw [eR]; exact nI_le (a := 1) (by omega) (by omega))) ?_
  refine tw_nml (fun v31 ev31 => ?_)
  refine tw_l2i dX0_goldOf_24 ?_
  refine tw_nmi (fun v32 ev32 => ?_)
  exact tw_iret dX0_goldOf_25 rfl (Or.inl ⟨_, rfl, rfl, by rw [ev32, ev31, ev29, ev28, ev30, ea, eR]; exact tw_gol_i hA h1R h2R⟩)

set_option maxHeartbeats 4000000 in
set_option maxRecDepth 100000 in
theorem c3_X0_minted (d : tw_D) (g : tw_G) (τ : tw_K) (h : tw_H) (hw : tw_wt d g τ h) (x : Nat) (kx : τ x = 2) (j : Nat) (hj : j < 4) (hb : g.2 (4096 + x) = 160 + 64 * j) (k : Nat) (hk : k < 2) (a : Int32) (A R : Nat) (ea : a = nI A) (eR : g.1 (160 + 64 * j) = nI R) (h1R : 100 ≤ R) (h2R : R ≤ 200) (hA : A ≤ 4000000) (C : Nat) (eC : g.1 (160 + 64 * j + 1) = nI C) (hC : C ≤ 50) : tw_Ct d mX0_minted 0 0 [.ref x, .int (nI k), .int a] h (tw_qi (fun r h1 => h1 = h ∧ r = nI (tw_gv k R C A)) tw_nx) := by
  rcases (show k = 0 ∨ k = 1 by omega) with rfl | rfl
  · skip
    refine tw_of (by decide +kernel) (Nat.le_of_ble_eq_true rfl) ?_
    show tw_W d mX0_minted _ 0 [(0, .ref x), (1, .int (nI 0)), (2, .int a)] [] h 0 0
    have sp0 := tw_sp.rf hw
    refine tw_iload_n 1 dX0_minted_0 rfl rfl ?_
    refine tw_if_ne 12 dX0_minted_1 (by decide) (fun c1 => absurd (rfl) c1) (fun _ => ?_)
    refine tw_aload_n 0 dX0_minted_4 rfl rfl ?_
    refine tw_iload_n 2 dX0_minted_5 rfl rfl ?_
    obtain ⟨e2, f3, n_4, r_5, c_6, go_7, so_8, v_9, rd_10, rf_11, t_12, rfl, k13, k14, k15, k16, k17, k18, k19, k20, k21⟩ := sp0.1 x 2 kx (by decide)
    obtain ⟨j22, ow23, fn9, fr9, fc9, fg9, fs9, q24, q25, q26, q27⟩ := k21
    obtain rfl : j = j22 := by have z := ow23.b hb; omega
    subst fn9 fr9 fc9 fg9 fs9
    refine tw_bi (tw_callV (M := mX0_minted) (pc := 6) okX0_silverFor dX0_minted_6 w_303 rfl f3 [.int a] [] rfl rfl ⟨by decide, by decide⟩ (Nat.le_of_ble_eq_true rfl) (c3_X0_silverFor d g τ h sp0.1 x kx j hj hb a A R ea eR h1R h2R hA) 0 0 (Nat.le_of_ble_eq_true rfl) (Nat.le_of_ble_eq_true rfl)) (fun r30 h29 q28 => ?_) (fun E h1 q => q.elim)
    obtain ⟨q28e, q28v⟩ := q28
    rw [q28e]
    refine tw_goto 17 dX0_minted_9 (by decide) ?_
    refine tw_istore_n [(3, .int r30), (0, .ref x), (1, .int (nI 0)), (2, .int a)] dX0_minted_17 rfl (by decide) rfl ?_
    refine tw_iload_n 0 dX0_minted_18 rfl rfl ?_
    refine tw_iload_n 0 dX0_minted_19 rfl rfl ?_
    refine tw_aload_n 1 dX0_minted_20 rfl rfl ?_
    refine tw_get (v := .int (g.1 (160 + 64 * j + 1))) rfl in_4 2 dX0_minted_21 w_505 rfl (by decide) f3 rfl ?_
    have wl : (A * R / 10) ≤ 20 * A := tw_sil_le h2R
    refine tw_bi (tw_callSN (M := mX0_minted) (pc := 24) okX5_thousandthsRoundedUp dX0_minted_24 w_312 [.int r30, .int (g.1 (160 + 64 * j + 1))] [.int r30] rfl rfl ⟨by decide, by decide⟩ (Nat.le_of_ble_eq_true rfl) (c3_X5_thousandthsRoundedUp d g τ h sp0.1 r30 (g.1 (160 + 64 * j + 1)) (A * R / 10) C q28v eC (by omega) (by omega)) 0 0 (Nat.le_of_ble_eq_true rfl) (Nat.le_of_ble_eq_true rfl)) (fun r33 h32 q31 => ?_) (fun E h1 q => q.elim)
    obtain ⟨q31e, q31v⟩ := q31
    rw [q31e]
    refine tw_isub dX0_minted_27 ?_
    refine tw_nmi (fun v34 ev34 => ?_)
    exact tw_iret dX0_minted_28 rfl (Or.inl ⟨_, rfl, rfl, by rw [ev34, q28v, q31v]; exact tw_I_sub (by omega) (tw_up3_le (by omega))⟩)
  · skip
    refine tw_of (by decide +kernel) (Nat.le_of_ble_eq_true rfl) ?_
    show tw_W d mX0_minted _ 0 [(0, .ref x), (1, .int (nI 1)), (2, .int a)] [] h 0 0
    have sp0 := tw_sp.rf hw
    refine tw_iload_n 1 dX0_minted_0 rfl rfl ?_
    refine tw_if_ne 12 dX0_minted_1 (by decide) (fun _ => ?_) (fun c1 => absurd c1 ((by decide)))
    refine tw_aload_n 0 dX0_minted_12 rfl rfl ?_
    refine tw_iload_n 2 dX0_minted_13 rfl rfl ?_
    obtain ⟨e2, f3, n_4, r_5, c_6, go_7, so_8, v_9, rd_10, rf_11, t_12, rfl, k13, k14, k15, k16, k17, k18, k19, k20, k21⟩ := sp0.1 x 2 kx (by decide)
    obtain ⟨j22, ow23, fn9, fr9, fc9, fg9, fs9, q24, q25, q26, q27⟩ := k21
    obtain rfl : j = j22 := by have z := ow23.b hb; omega
    subst fn9 fr9 fc9 fg9 fs9
    refine tw_bi (tw_callV (M := mX0_minted) (pc := 14) okX0_goldOf dX0_minted_14 w_308 rfl f3 [.int a] [] rfl rfl ⟨by decide, by decide⟩ (Nat.le_of_ble_eq_true rfl) (c3_X0_goldOf d g τ h sp0.1 x kx j hj hb a A R ea eR h1R h2R hA) 0 0 (Nat.le_of_ble_eq_true rfl) (Nat.le_of_ble_eq_true rfl)) (fun r30 h29 q28 => ?_) (fun E h1 q => q.elim)
    obtain ⟨q28e, q28v⟩ := q28
    rw [q28e]
    refine tw_istore_n [(3, .int r30), (0, .ref x), (1, .int (nI 1)), (2, .int a)] dX0_minted_17 rfl (by decide) rfl ?_
    refine tw_iload_n 0 dX0_minted_18 rfl rfl ?_
    refine tw_iload_n 0 dX0_minted_19 rfl rfl ?_
    refine tw_aload_n 1 dX0_minted_20 rfl rfl ?_
    refine tw_get (v := .int (g.1 (160 + 64 * j + 1))) rfl in_4 2 dX0_minted_21 w_505 rfl (by decide) f3 rfl ?_
    have wl : (A * 10 / R) ≤ 20 * A := Nat.le_trans (tw_gol_le h1R) (by omega)
    refine tw_bi (tw_callSN (M := mX0_minted) (pc := 24) okX5_thousandthsRoundedUp dX0_minted_24 w_312 [.int r30, .int (g.1 (160 + 64 * j + 1))] [.int r30] rfl rfl ⟨by decide, by decide⟩ (Nat.le_of_ble_eq_true rfl) (c3_X5_thousandthsRoundedUp d g τ h sp0.1 r30 (g.1 (160 + 64 * j + 1)) (A * 10 / R) C q28v eC (by omega) (by omega)) 0 0 (Nat.le_of_ble_eq_true rfl) (Nat.le_of_ble_eq_true rfl)) (fun r33 h32 q31 => ?_) (fun E h1 q => q.elim)
    obtain ⟨q31e, q31v⟩ := q31
    rw [q31e]
    refine tw_isub dX0_minted_27 ?_
    refine tw_nmi (fun v34 ev34 => ?_)
    exact tw_iret dX0_minted_28 rfl (Or.inl ⟨_, rfl, rfl, by rw [ev34, q28v, q31v]; exact tw_I_sub (by omega) (tw_up3_le (by omega))⟩)

set_option maxHeartbeats 4000000 in
set_option maxRecDepth 100000 in
theorem c3_X5_otherMetal (d : tw_D) (g : tw_G) (τ : tw_K) (h : tw_H) (hw : tw_wt d g τ h) (k : Nat) (hk : k < 2) : tw_Ct d mX5_otherMetal 0 0 [.int (nI k)] h (tw_qi (fun r h1 => h1 = h ∧ r = nI (1 - k)) tw_nx) := by
  rcases (show k = 0 ∨ k = 1 by omega) with rfl | rfl
  · skip
    refine tw_of (by decide +kernel) (Nat.le_of_ble_eq_true rfl) ?_
    show tw_W d mX5_otherMetal _ 0 [(0, .int (nI 0))] [] h 0 0
    have sp0 := tw_sp.rf hw
    refine tw_iload_n 0 dX5_otherMetal_0 rfl rfl ?_
    refine tw_if_ne 8 dX5_otherMetal_1 (by decide) (fun c1 => absurd (rfl) c1) (fun _ => ?_)
    refine tw_iconst (v := 1) dX5_otherMetal_4 (by decide) ?_
    refine tw_goto 9 dX5_otherMetal_5 (by decide) ?_
    exact tw_iret dX5_otherMetal_9 rfl (Or.inl ⟨_, rfl, rfl, rfl⟩)
  · skip
    refine tw_of (by decide +kernel) (Nat.le_of_ble_eq_true rfl) ?_
    show tw_W d mX5_otherMetal _ 0 [(0, .int (nI 1))] [] h 0 0
    have sp0 := tw_sp.rf hw
    refine tw_iload_n 0 dX5_otherMetal_0 rfl rfl ?_
    refine tw_if_ne 8 dX5_otherMetal_1 (by decide) (fun _ => ?_) (fun c1 => absurd c1 ((by decide)))
    refine tw_iconst (v := 0) dX5_otherMetal_8 (by decide) ?_
    exact tw_iret dX5_otherMetal_9 rfl (Or.inl ⟨_, rfl, rfl, rfl⟩)

set_option maxHeartbeats 4000000 in
set_option maxRecDepth 100000 in
theorem c3_X10_up (d : tw_D) (g : tw_G) (τ : tw_K) (h : tw_H) (hw : tw_wt d g τ h) (a b : Int64) (A D : Nat) (ea : a = tw_L A) (eb : b = tw_L D) (hD : 1 ≤ D) (h9 : A + D < 2 ^ 63) : tw_Ct d mX10_up 0 0 [.long a, .long b] h (tw_ql (fun r h1 => h1 = h ∧ r = tw_L ((A + D - 1) / D)) tw_nx) := by
  refine tw_of (by decide +kernel) (Nat.le_of_ble_eq_true rfl) ?_
  show tw_W d mX10_up _ 0 [(0, .long a), (2, .long b)] [] h 0 0
  have sp0 := tw_sp.rf hw
  refine tw_lload_n 0 dX10_up_0 rfl rfl ?_
  refine tw_lload_n 1 dX10_up_1 rfl rfl ?_
  refine tw_ladd dX10_up_2 ?_
  refine tw_nml (fun v1 ev1 => ?_)
  refine tw_lconst (v := 1) dX10_up_3 (by decide) ?_
  refine tw_lsub dX10_up_4 ?_
  refine tw_nml (fun v2 ev2 => ?_)
  refine tw_lload_n 1 dX10_up_5 rfl rfl ?_
  refine tw_ldiv dX10_up_6 (fun z => by rw [eb] at z; have z2 := congrArg Int64.toInt z; rw [tw_L_toInt (by omega)] at z2; have z3 : (0 : Int64).toInt = 0 := rfl; omega) ?_
  refine tw_nml (fun v3 ev3 => ?_)
  exact tw_lret dX10_up_7 rfl (Or.inl ⟨_, rfl, rfl, by rw [ev3, ev2, ev1, ea, eb]; exact tw_upL hD h9⟩)

set_option maxHeartbeats 4000000 in
set_option maxRecDepth 100000 in
theorem c3_X10_given (d : tw_D) (g : tw_G) (τ : tw_K) (h : tw_H) (hw : tw_wt d g τ h) (c : Nat) (kc : τ c = 21) (j : Nat) (hj : j < 4) (hb : g.2 (4096 + c) = 480 + 64 * j) (k : Nat) (hk : k < 2) (a : Int64) (A : Nat) (ea : a = tw_L A) (hA : A ≤ 4000000) (R C : Nat) (eR : g.1 (480 + 64 * j) = nI R) (h1R : 100 ≤ R) (h2R : R ≤ 200) (eC : g.1 (480 + 64 * j + 1) = nI C) (hC : C ≤ 50) : tw_Ct d mX10_given 0 0 [.ref c, .int (nI k), .long a] h (tw_ql (fun r h1 => h1 = h ∧ r = tw_L (tw_gv k R C A)) tw_nx) := by
  rcases (show k = 0 ∨ k = 1 by omega) with rfl | rfl
  · skip
    refine tw_of (by decide +kernel) (Nat.le_of_ble_eq_true rfl) ?_
    show tw_W d mX10_given _ 0 [(0, .ref c), (1, .int (nI 0)), (2, .long a)] [] h 0 0
    have sp0 := tw_sp.rf hw
    refine tw_iload_n 1 dX10_given_0 rfl rfl ?_
    refine tw_if_ne 18 dX10_given_1 (by decide) (fun c1 => absurd (rfl) c1) (fun _ => ?_)
    refine tw_lload_n 2 dX10_given_4 rfl rfl ?_
    refine tw_aload_n 0 dX10_given_5 rfl rfl ?_
    obtain ⟨e2, f3, r_4, c_5, v_6, o_7, t_8, rfl, k9, k10, k11, k12, k13, k14⟩ := sp0.1 c 21 kc (by decide)
    obtain ⟨j15, ow16, fr9, fc9, q17, q18, q19⟩ := k14
    obtain rfl : j = j15 := by have z := ow16.b hb; omega
    subst fr9 fc9
    refine tw_get (v := .int (g.1 (480 + 64 * j))) rfl in_11 0 dX10_given_6 w_1214 rfl (by decide) f3 rfl ?_
    refine tw_i2l dX10_given_9 ?_
    refine tw_nml (fun v20 ev20 => ?_)
    refine tw_lmul dX10_given_10 ?_
    refine tw_nml (fun v21 ev21 => ?_)
    refine tw_ldc2 (v := 10) dX10_given_11 w_1369 ?_
    refine tw_ldiv dX10_given_14 (by decide) ?_
    refine tw_nml (fun v22 ev22 => ?_)
    refine tw_goto 29 dX10_given_15 (by decide) ?_
    refine tw_lstore [(4, .long v22), (0, .ref c), (1, .int (nI 0)), (2, .long a)] dX10_given_29 (by decide) rfl ?_
    refine tw_lload 0 dX10_given_31 rfl ?_
    refine tw_lload 0 dX10_given_33 rfl ?_
    refine tw_aload_n 1 dX10_given_35 rfl rfl ?_
    refine tw_get (v := .int (g.1 (480 + 64 * j + 1))) rfl in_11 1 dX10_given_36 w_1215 rfl (by decide) f3 rfl ?_
    refine tw_i2l dX10_given_39 ?_
    refine tw_nml (fun v23 ev23 => ?_)
    refine tw_lmul dX10_given_40 ?_
    refine tw_nml (fun v24 ev24 => ?_)
    refine tw_ldc2 (v := 1000) dX10_given_41 w_1370 ?_
    have wl : (A * R / 10) ≤ 20 * A := tw_sil_le h2R
    have we : v22 = tw_L (A * R / 10) := by rw [ev22, ev21, ev20, ea, eR]; exact tw_silL hA h2R
    have zC : (A * R / 10) * C ≤ 80000000 * 1000 := tw_mul_lt (by omega) (by omega)
    have ue : v24 = tw_L ((A * R / 10) * C) := by rw [ev24, we, ev23, eC, tw_L_i (by omega)]; exact tw_L_mul (by omega) (by omega) (by omega)
    refine tw_bl (tw_callS (M := mX10_given) (pc := 44) okX10_up dX10_given_44 w_1371 [.long v24, .long 1000] [.long v22] rfl rfl ⟨by decide, by decide⟩ (Nat.le_of_ble_eq_true rfl) (c3_X10_up d g τ h sp0.1 v24 1000 ((A * R / 10) * C) 1000 ue rfl (by decide) (by omega)) 0 0 (Nat.le_of_ble_eq_true rfl) (Nat.le_of_ble_eq_true rfl)) (fun r27 h26 q25 => ?_) (fun E h1 q => q.elim)
    obtain ⟨q25e, q25v⟩ := q25
    rw [q25e]
    refine tw_lsub dX10_given_47 ?_
    refine tw_nml (fun v28 ev28 => ?_)
    exact tw_lret dX10_given_48 rfl (Or.inl ⟨_, rfl, rfl, by rw [ev28, we, q25v]; exact tw_up3_L (by omega) (by omega)⟩)
  · skip
    refine tw_of (by decide +kernel) (Nat.le_of_ble_eq_true rfl) ?_
    show tw_W d mX10_given _ 0 [(0, .ref c), (1, .int (nI 1)), (2, .long a)] [] h 0 0
    have sp0 := tw_sp.rf hw
    refine tw_iload_n 1 dX10_given_0 rfl rfl ?_
    refine tw_if_ne 18 dX10_given_1 (by decide) (fun _ => ?_) (fun c1 => absurd c1 ((by decide)))
    refine tw_lload_n 2 dX10_given_18 rfl rfl ?_
    refine tw_ldc2 (v := 10) dX10_given_19 w_1369 ?_
    refine tw_lmul dX10_given_22 ?_
    refine tw_nml (fun v2 ev2 => ?_)
    refine tw_aload_n 0 dX10_given_23 rfl rfl ?_
    obtain ⟨e3, f4, r_5, c_6, v_7, o_8, t_9, rfl, k10, k11, k12, k13, k14, k15⟩ := sp0.1 c 21 kc (by decide)
    obtain ⟨j16, ow17, fr9, fc9, q18, q19, q20⟩ := k15
    obtain rfl : j = j16 := by have z := ow17.b hb; omega
    subst fr9 fc9
    refine tw_get (v := .int (g.1 (480 + 64 * j))) rfl in_11 0 dX10_given_24 w_1214 rfl (by decide) f4 rfl ?_
    refine tw_i2l dX10_given_27 ?_
    refine tw_nml (fun v21 ev21 => ?_)
    refine tw_ldiv dX10_given_28 (tw_nzl ev21 (by rw [eR]; exact nI_le (a := 1) (by omega) (by omega))) ?_
    refine tw_nml (fun v22 ev22 => ?_)
    refine tw_lstore [(4, .long v22), (0, .ref c), (1, .int (nI 1)), (2, .long a)] dX10_given_29 (by decide) rfl ?_
    refine tw_lload 0 dX10_given_31 rfl ?_
    refine tw_lload 0 dX10_given_33 rfl ?_
    refine tw_aload_n 1 dX10_given_35 rfl rfl ?_
    refine tw_get (v := .int (g.1 (480 + 64 * j + 1))) rfl in_11 1 dX10_given_36 w_1215 rfl (by decide) f4 rfl ?_
    refine tw_i2l dX10_given_39 ?_
    refine tw_nml (fun v23 ev23 => ?_)
    refine tw_lmul dX10_given_40 ?_
    refine tw_nml (fun v24 ev24 => ?_)
    refine tw_ldc2 (v := 1000) dX10_given_41 w_1370 ?_
    have wl : (A * 10 / R) ≤ 20 * A := Nat.le_trans (tw_gol_le h1R) (by omega)
    have we : v22 = tw_L (A * 10 / R) := by rw [ev22, ev2, ev21, ea, eR]; exact tw_golL hA h2R
    have zC : (A * 10 / R) * C ≤ 80000000 * 1000 := tw_mul_lt (by omega) (by omega)
    have ue : v24 = tw_L ((A * 10 / R) * C) := by rw [ev24, we, ev23, eC, tw_L_i (by omega)]; exact tw_L_mul (by omega) (by omega) (by omega)
    refine tw_bl (tw_callS (M := mX10_given) (pc := 44) okX10_up dX10_given_44 w_1371 [.long v24, .long 1000] [.long v22] rfl rfl ⟨by decide, by decide⟩ (Nat.le_of_ble_eq_true rfl) (c3_X10_up d g τ h sp0.1 v24 1000 ((A * 10 / R) * C) 1000 ue rfl (by decide) (by omega)) 0 0 (Nat.le_of_ble_eq_true rfl) (Nat.le_of_ble_eq_true rfl)) (fun r27 h26 q25 => ?_) (fun E h1 q => q.elim)
    obtain ⟨q25e, q25v⟩ := q25
    rw [q25e]
    refine tw_lsub dX10_given_47 ?_
    refine tw_nml (fun v28 ev28 => ?_)
    exact tw_lret dX10_given_48 rfl (Or.inl ⟨_, rfl, rfl, by rw [ev28, we, q25v]; exact tw_up3_L (by omega) (by omega)⟩)

theorem tw_grm {gr : Int32} (h1 : 0 ≤ gr) (h2 : gr ≤ 99999) : ∃ n, n ≤ 99999 ∧ gr = nI n := by
  obtain ⟨n, -, h, e⟩ := tw_I_rng (a := 0) (b := 99999) h1 h2 (by decide) (by decide)
  exact ⟨n, h, e⟩
theorem tw_1k {k : Nat} (hk : k < 2) : (1 : Int32) - nI k = nI (1 - k) := by
  rcases (show k = 0 ∨ k = 1 by omega) with rfl | rfl <;> rfl
/-! the best trip: what the loops have found so far -/
def tw_bs (T : Nat → Nat) (f n : Nat) : Nat → Option Nat × Nat
  | 0 => (none, n)
  | j + 1 => if j ≠ f ∧ (tw_bs T f n j).2 < T j then (some j, T j) else tw_bs T f n j
def tw_bno (o : Option Nat) : Int32 := match o with
  | some j => nI j
  | none => -1
theorem tw_bs_congr {T T' : Nat → Nat} {f n : Nat} : ∀ j, (∀ i, i < j → T i = T' i) → tw_bs T f n j = tw_bs T' f n j
  | 0, _ => rfl
  | j + 1, h => by
    show (if j ≠ f ∧ (tw_bs T f n j).2 < T j then _ else _) = if j ≠ f ∧ (tw_bs T' f n j).2 < T' j then _ else _
    rw [tw_bs_congr j (fun i hi => h i (by omega)), h j (by omega)]
/-- over the class's numbers, over the reference's -/
def tw_bC (g : tw_G) (f k n j : Nat) : Option Nat × Nat := tw_bs (fun i => tw_tC g f i k n) f n j
def tw_bM (g : tw_G) (f k n j : Nat) : Option Nat × Nat := tw_bs (fun i => tw_tM g f i k n) f n j
theorem tw_own2 {d : tw_D} {g : tw_G} {τ : tw_K} {h : tw_H} {a b : Nat} (hw : tw_wt d g τ h) (ka : τ a = 2) (kb : τ b = 2) (e : g.2 (4096 + a) = g.2 (4096 + b)) : a = b := by
  obtain ⟨_, _, _, _, _, _, _, _, _, _, _, _, _, _, _, _, _, _, _, _, _, oa, _⟩ := hw a 2 ka (by decide)
  obtain ⟨_, _, _, _, _, _, _, _, _, _, _, _, _, _, _, _, _, _, _, _, _, ob, _⟩ := hw b 2 kb (by decide)
  have ea := oa.2.2.2.2
  have eb := ob.2.2.2.2
  rw [oa.2.2.2.1, ob.2.2.2.1, ← ea, ← eb, e]
theorem tw_cmp_gt {a b : Nat} (ha : a < 2 ^ 63) (hb : b < 2 ^ 63) : 0 < lg_cmp (tw_L a) (tw_L b) ↔ b < a := by
  unfold lg_cmp
  have e : tw_L a > tw_L b ↔ b < a := by
    show tw_L b < tw_L a ↔ _
    rw [Int64.lt_iff_toInt_lt, tw_L_toInt ha, tw_L_toInt hb]
    omega
  by_cases q : b < a
  · rw [if_pos (e.mpr q)]
    exact ⟨fun _ => q, fun _ => by decide⟩
  · rw [if_neg (fun z => q (e.mp z))]
    split
    · exact ⟨fun z => absurd z (by decide), fun z => absurd z q⟩
    · exact ⟨fun z => absurd z (by decide), fun z => absurd z q⟩
theorem tw_nIle {a b : Nat} (ha : a < 2 ^ 31) (hb : b < 2 ^ 31) : nI a ≤ nI b ↔ a ≤ b := by
  rw [Int32.le_iff_toInt_le, nI_toInt ha, nI_toInt hb]
  omega
/-! rest: no trip from anywhere brings more -/
def tw_rb (B : Nat → Nat → Option Nat) : Nat → Bool
  | 0 => true
  | j + 1 => tw_rb B j && (B j 0).isNone && (B j 1).isNone
def tw_rbi (b : Bool) : Int32 := if b then 1 else 0
theorem tw_rb_congr {B C : Nat → Nat → Option Nat} : ∀ j, (∀ i, i < j → ∀ k, k < 2 → B i k = C i k) → tw_rb B j = tw_rb C j
  | 0, _ => rfl
  | j + 1, h => by
    show (tw_rb B j && (B j 0).isNone && (B j 1).isNone) = (tw_rb C j && (C j 0).isNone && (C j 1).isNone)
    rw [tw_rb_congr j (fun i hi => h i (by omega)), h j (by omega) 0 (by decide), h j (by omega) 1 (by decide)]
def tw_rC (g : tw_G) (n j : Nat) : Bool := tw_rb (fun i k => (tw_bC g i k n (g.2 6)).1) j
def tw_rM (g : tw_G) (n j : Nat) : Bool := tw_rb (fun i k => (tw_bM g i k n (g.2 3)).1) j
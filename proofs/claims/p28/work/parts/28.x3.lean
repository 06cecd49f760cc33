/-! the class's methods over the typed heap. Laid by wip/p5/mkclass.py. -/
/-! numbers that don't overflow -/
def tw_L (n : Nat) : Int64 := Int64.ofNat n
theorem tw_L_toInt {n : Nat} (h : n < 2 ^ 63) : (tw_L n).toInt = n := by
  unfold tw_L
  exact Int64.toInt_ofNat_of_lt h
theorem tw_L_of {x : Int64} {n : Nat} (h : x.toInt = n) (hn : n < 2 ^ 63) : x = tw_L n := Int64.toInt_inj.mp (h.trans (tw_L_toInt hn).symm)
theorem tw_I_of {x : Int32} {n : Nat} (h : x.toInt = n) (hn : n < 2 ^ 31) : x = nI n := Int32.toInt_inj.mp (h.trans (nI_toInt hn).symm)
theorem tw_L_i {n : Nat} (h : n < 2 ^ 31) : (nI n).toInt64 = tw_L n := tw_L_of (by rw [Int32.toInt_toInt64, nI_toInt h]) (by omega)
theorem tw_L_mul {a b : Nat} (ha : a < 2 ^ 63) (hb : b < 2 ^ 63) (h : a * b < 2 ^ 63) : tw_L a * tw_L b = tw_L (a * b) := by
  refine tw_L_of ?_ h
  rw [Int64.toInt_mul, tw_L_toInt ha, tw_L_toInt hb, ← Int.natCast_mul]
  apply Int.bmod_eq_of_le_mul_two <;> omega
theorem tw_L_add {a b : Nat} (h : a + b < 2 ^ 63) : tw_L a + tw_L b = tw_L (a + b) := by
  refine tw_L_of ?_ h
  rw [Int64.toInt_add, tw_L_toInt (by omega), tw_L_toInt (by omega)]
  have e : (a : Int) + b = ((a + b : Nat) : Int) := by omega
  rw [e]
  apply Int.bmod_eq_of_le_mul_two <;> omega
theorem tw_L_sub {a b : Nat} (ha : a < 2 ^ 63) (h : b ≤ a) : tw_L a - tw_L b = tw_L (a - b) := by
  refine tw_L_of ?_ (by omega)
  rw [Int64.toInt_sub, tw_L_toInt (by omega), tw_L_toInt (by omega)]
  have e : (a : Int) - b = ((a - b : Nat) : Int) := by omega
  rw [e]
  apply Int.bmod_eq_of_le_mul_two <;> omega
theorem tw_L_div {a b : Nat} (ha : a < 2 ^ 63) (hb : b < 2 ^ 63) : tw_L a / tw_L b = tw_L (a / b) := by
  have l : a / b ≤ a := Nat.div_le_self a b
  refine tw_L_of ?_ (by omega)
  rw [Int64.toInt_div, tw_L_toInt ha, tw_L_toInt hb]
  have e : Int.tdiv (a : Int) b = ((a / b : Nat) : Int) := by simp
  rw [e]
  clear e
  generalize a / b = c at l ⊢
  apply Int.bmod_eq_of_le_mul_two <;> omega
theorem tw_L_32 {n : Nat} (h : n < 2 ^ 31) : (tw_L n).toInt32 = nI n := by
  refine tw_I_of ?_ h
  rw [Int64.toInt_toInt32, tw_L_toInt (by omega)]
  apply Int.bmod_eq_of_le_mul_two <;> omega
theorem tw_I_sub {a b : Nat} (ha : a < 2 ^ 31) (h : b ≤ a) : nI a - nI b = nI (a - b) := by
  refine tw_I_of ?_ (by omega)
  rw [Int32.toInt_sub, nI_toInt (by omega), nI_toInt (by omega)]
  have e : (a : Int) - b = ((a - b : Nat) : Int) := by omega
  rw [e]
  apply Int.bmod_eq_of_le_mul_two <;> omega
theorem tw_I_rng {x : Int32} {a b : Nat} (h1 : nI a ≤ x) (h2 : x ≤ nI b) (hb : b < 2 ^ 31) (ha : a < 2 ^ 31) : ∃ n, a ≤ n ∧ n ≤ b ∧ x = nI n := by
  obtain ⟨n, hn, rfl⟩ := nI_of (Int32.not_lt.mpr (Int32.le_trans (nI_le (a := 0) (Nat.zero_le a) ha) h1))
  refine ⟨n, ?_, ?_, rfl⟩
  · rw [Int32.le_iff_toInt_le, nI_toInt ha, nI_toInt hn] at h1
    omega
  · rw [Int32.le_iff_toInt_le, nI_toInt hb, nI_toInt hn] at h2
    omega
/-! what a mint gives, what comes of a trip -/
def tw_up3 (a t : Nat) : Nat := (a * t + 999) / 1000
def tw_gv (k r c a : Nat) : Nat := (if k = 0 then a * r / 10 else a * 10 / r) - tw_up3 (if k = 0 then a * r / 10 else a * 10 / r) c
def tw_tp (k a r1 c1 r2 c2 f1 f2 : Nat) : Nat := tw_gv (1 - k) r2 c2 (tw_gv k r1 c1 a - tw_up3 (tw_gv k r1 c1 a) f1) - tw_up3 (tw_gv (1 - k) r2 c2 (tw_gv k r1 c1 a - tw_up3 (tw_gv k r1 c1 a) f1)) f2
theorem tw_up3_le {a t : Nat} (h : t ≤ 1000) : tw_up3 a t ≤ a := by
  have z : a * t ≤ a * 1000 := Nat.mul_le_mul_left a h
  unfold tw_up3
  omega
theorem tw_sil_le {a r : Nat} (h : r ≤ 200) : a * r / 10 ≤ 20 * a := by
  have z : a * r ≤ a * 200 := Nat.mul_le_mul_left a h
  omega
theorem tw_gol_le {a r : Nat} (h : 100 ≤ r) : a * 10 / r ≤ a := by
  have z : a * 10 / r ≤ a * 10 / 100 := Nat.div_le_div_left h (by decide)
  omega
theorem tw_w_le {k a r : Nat} (h1 : 100 ≤ r) (h2 : r ≤ 200) : (if k = 0 then a * r / 10 else a * 10 / r) ≤ 20 * a := by
  split
  · exact tw_sil_le h2
  · have := tw_gol_le (a := a) h1
    omega
theorem tw_gv_le {k r c a : Nat} (h1 : 100 ≤ r) (h2 : r ≤ 200) : tw_gv k r c a ≤ 20 * a := by
  have := tw_w_le (k := k) (a := a) h1 h2
  unfold tw_gv
  omega
theorem tw_mul_lt {a b m n : Nat} (h1 : a ≤ m) (h2 : b ≤ n) : a * b ≤ m * n := Nat.mul_le_mul h1 h2
theorem tw_up3_i {a t : Nat} (ha : a < 2 ^ 31) (ht : t ≤ 1000) : (((nI a).toInt64 * (nI t).toInt64 + 999) / 1000).toInt32 = nI (tw_up3 a t) := by
  have z : a * t ≤ 2 ^ 31 * 1000 := tw_mul_lt (by omega) ht
  have u := tw_up3_le (a := a) ht
  rw [tw_L_i ha, tw_L_i (by omega), tw_L_mul (by omega) (by omega) (by omega), show (999 : Int64) = tw_L 999 from rfl, show (1000 : Int64) = tw_L 1000 from rfl, tw_L_add (by omega), tw_L_div (by omega) (by omega)]
  exact tw_L_32 (n := tw_up3 a t) (by omega)
theorem tw_sil_i {a r : Nat} (ha : a ≤ 4000000) (hr : r ≤ 200) : ((nI a).toInt64 * (nI r).toInt64 / 10).toInt32 = nI (a * r / 10) := by
  have z : a * r ≤ 4000000 * 200 := tw_mul_lt ha hr
  rw [tw_L_i (by omega), tw_L_i (by omega), tw_L_mul (by omega) (by omega) (by omega), show (10 : Int64) = tw_L 10 from rfl, tw_L_div (by omega) (by omega)]
  exact tw_L_32 (by omega)
theorem tw_gol_i {a r : Nat} (ha : a ≤ 4000000) (h1 : 100 ≤ r) (hr : r ≤ 200) : ((nI a).toInt64 * 10 / (nI r).toInt64).toInt32 = nI (a * 10 / r) := by
  have z := tw_gol_le (a := a) h1
  rw [tw_L_i (by omega), tw_L_i (by omega), show (10 : Int64) = tw_L 10 from rfl, tw_L_mul (by omega) (by omega) (by omega), tw_L_div (by omega) (by omega)]
  exact tw_L_32 (by omega)
theorem tw_upL {a b : Nat} (hb : 1 ≤ b) (h : a + b < 2 ^ 63) : (tw_L a + tw_L b - 1) / tw_L b = tw_L ((a + b - 1) / b) := by
  rw [tw_L_add h, show (1 : Int64) = tw_L 1 from rfl, tw_L_sub (by omega) (by omega), tw_L_div (by omega) (by omega)]
theorem tw_up3_L {a t : Nat} (ha : a ≤ 80000000) (ht : t ≤ 1000) : tw_L a - tw_L ((a * t + 1000 - 1) / 1000) = tw_L (a - tw_up3 a t) := by
  have u := tw_up3_le (a := a) ht
  have z : a * t ≤ 80000000 * 1000 := tw_mul_lt ha ht
  rw [show a * t + 1000 - 1 = a * t + 999 by omega]
  exact tw_L_sub (by omega) u
theorem tw_silL {a r : Nat} (ha : a ≤ 4000000) (hr : r ≤ 200) : tw_L a * (nI r).toInt64 / 10 = tw_L (a * r / 10) := by
  have z : a * r ≤ 4000000 * 200 := tw_mul_lt ha hr
  rw [tw_L_i (by omega), tw_L_mul (by omega) (by omega) (by omega), show (10 : Int64) = tw_L 10 from rfl, tw_L_div (by omega) (by omega)]
theorem tw_golL {a r : Nat} (ha : a ≤ 4000000) (hr : r ≤ 200) : tw_L a * 10 / (nI r).toInt64 = tw_L (a * 10 / r) := by
  rw [tw_L_i (by omega), show (10 : Int64) = tw_L 10 from rfl, tw_L_mul (by omega) (by omega) (by omega), tw_L_div (by omega) (by omega)]
/-- the numbers of the countries are within their ranges -/
def tw_EC (g : tw_G) : Prop := ∀ j, j < g.2 6 → (100 ≤ tw_DN (g.1 (160 + 64 * j)) ∧ tw_DN (g.1 (160 + 64 * j)) ≤ 200 ∧ g.1 (160 + 64 * j) = nI (tw_DN (g.1 (160 + 64 * j)))) ∧ (tw_DN (g.1 (160 + 64 * j + 1)) ≤ 50 ∧ g.1 (160 + 64 * j + 1) = nI (tw_DN (g.1 (160 + 64 * j + 1)))) ∧ ∀ k, k < 4 → tw_DN (g.1 (160 + 64 * j + 16 + k)) ≤ 100 ∧ g.1 (160 + 64 * j + 16 + k) = nI (tw_DN (g.1 (160 + 64 * j + 16 + k)))
def tw_EM (g : tw_G) : Prop := ∀ j, j < g.2 3 → (100 ≤ tw_DN (g.1 (480 + 64 * j)) ∧ tw_DN (g.1 (480 + 64 * j)) ≤ 200 ∧ g.1 (480 + 64 * j) = nI (tw_DN (g.1 (480 + 64 * j)))) ∧ (tw_DN (g.1 (480 + 64 * j + 1)) ≤ 50 ∧ g.1 (480 + 64 * j + 1) = nI (tw_DN (g.1 (480 + 64 * j + 1)))) ∧ ∀ k, k < 4 → tw_DN (g.1 (448 + 8 * j + k)) ≤ 100 ∧ g.1 (448 + 8 * j + k) = nI (tw_DN (g.1 (448 + 8 * j + k)))
/-- what comes of a trip, by the class's numbers and by the reference's -/
def tw_tC (g : tw_G) (a b k n : Nat) : Nat := tw_tp k n (tw_DN (g.1 (160 + 64 * a))) (tw_DN (g.1 (160 + 64 * a + 1))) (tw_DN (g.1 (160 + 64 * b))) (tw_DN (g.1 (160 + 64 * b + 1))) (tw_DN (g.1 (160 + 64 * a + 16 + b))) (tw_DN (g.1 (160 + 64 * a + 16 + b)))
def tw_tM (g : tw_G) (a b k n : Nat) : Nat := tw_tp k n (tw_DN (g.1 (480 + 64 * a))) (tw_DN (g.1 (480 + 64 * a + 1))) (tw_DN (g.1 (480 + 64 * b))) (tw_DN (g.1 (480 + 64 * b + 1))) (tw_DN (g.1 (448 + 8 * a + b))) (tw_DN (g.1 (448 + 8 * b + a)))
theorem tw_b3 {d : tw_D} {g : tw_G} {τ : tw_K} {h : tw_H} {x : Nat} (hw : tw_wt d g τ h) (kx : τ x = 36) : g.2 3 ≤ 4 := by
  obtain ⟨e, he, th, td, ds, fr, ca, us, wo, cm, lc, lh, ld, h9, k1, k2, k3, k4, k5, k6, k7, k8, k9, b3, -⟩ := hw x 36 kx (by decide)
  exact b3

set_option maxHeartbeats 4000000 in
set_option maxRecDepth 100000 in
theorem c3_X5_thousandthsRoundedUp (d : tw_D) (g : tw_G) (τ : tw_K) (h : tw_H) (hw : tw_wt d g τ h) (a t : Int32) (A T : Nat) (ea : a = nI A) (et : t = nI T) (hA : A < 2 ^ 31) (hT : T ≤ 1000) : tw_Ct d mX5_thousandthsRoundedUp 0 0 [.int a, .int t] h (tw_qi (fun r h1 => h1 = h ∧ r = nI (tw_up3 A T)) tw_nx) := by
  refine tw_of (by decide +kernel) (Nat.le_of_ble_eq_true rfl) ?_
  show tw_W d mX5_thousandthsRoundedUp _ 0 [(0, .int a), (1, .int t)] [] h 0 0
  have sp0 := tw_sp.rf hw
  refine tw_iload_n 0 dX5_thousandthsRoundedUp_0 rfl rfl ?_
  refine tw_i2l dX5_thousandthsRoundedUp_1 ?_
  refine tw_nml (fun v1 ev1 => ?_)
  refine tw_iload_n 1 dX5_thousandthsRoundedUp_2 rfl rfl ?_
  refine tw_i2l dX5_thousandthsRoundedUp_3 ?_
  refine tw_nml (fun v2 ev2 => ?_)
  refine tw_lmul dX5_thousandthsRoundedUp_4 ?_
  refine tw_nml (fun v3 ev3 => ?_)
  refine tw_ldc2 (v := 999) dX5_thousandthsRoundedUp_5 w_315 ?_
  refine tw_ladd dX5_thousandthsRoundedUp_8 ?_
  refine tw_nml (fun v4 ev4 => ?_)
  refine tw_ldc2 (v := 1000) dX5_thousandthsRoundedUp_9 w_316 ?_
  refine tw_ldiv dX5_thousandthsRoundedUp_12 (by decide) ?_
  refine tw_nml (fun v5 ev5 => ?_)
  refine tw_l2i dX5_thousandthsRoundedUp_13 ?_
  refine tw_nmi (fun v6 ev6 => ?_)
  exact tw_iret dX5_thousandthsRoundedUp_14 rfl (Or.inl ⟨_, rfl, rfl, by rw [ev6, ev5, ev4, ev3, ev1, ev2, ea, et]; exact tw_up3_i hA hT⟩)

set_option maxHeartbeats 4000000 in
set_option maxRecDepth 100000 in
theorem c3_X0_silverFor (d : tw_D) (g : tw_G) (τ : tw_K) (h : tw_H) (hw : tw_wt d g τ h) (x : Nat) (kx : τ x = 2) (j : Nat) (hj : j < 4) (hb : g.2 (4096 + x) = 160 + 64 * j) (a : Int32) (A R : Nat) (ea : a = nI A) (eR : g.1 (160 + 64 * j) = nI R) (h1R : 100 ≤ R) (h2R : R ≤ 200) (hA : A ≤ 4000000) : tw_Ct d mX0_silverFor 0 0 [.ref x, .int a] h (tw_qi (fun r h1 => h1 = h ∧ r = nI (A * R / 10)) tw_nx) := by
  refine tw_of (by decide +kernel) (Nat.le_of_ble_eq_true rfl) ?_
  show tw_W d mX0_silverFor _ 0 [(0, .ref x), (1, .int a)] [] h 0 0
  have sp0 := tw_sp.rf hw
  refine tw_iload_n 1 dX0_silverFor_0 rfl rfl ?_
  refine tw_i2l dX0_silverFor_1 ?_
  refine tw_nml (fun v1 ev1 => ?_)
  refine tw_aload_n 0 dX0_silverFor_2 rfl rfl ?_
  obtain ⟨e2, f3, n_4, r_5, c_6, go_7, so_8, v_9, rd_10, rf_11, t_12, rfl, k13, k14, k15, k16, k17, k18, k19, k20, k21⟩ := sp0.1 x 2 kx (by decide)
  obtain ⟨j22, ow23, fn9, fr9, fc9, fg9, fs9, q24, q25, q26, q27⟩ := k21
  obtain rfl : j = j22 := by have z := ow23.b hb; omega
  subst fn9 fr9 fc9 fg9 fs9
  refine tw_get (v := .int (g.1 (160 + 64 * j))) rfl in_4 1 dX0_silverFor_3 w_503 rfl (by decide) f3 rfl ?_
  refine tw_i2l dX0_silverFor_6 ?_
  refine tw_nml (fun v28 ev28 => ?_)
  refine tw_lmul dX0_silverFor_7 ?_
  refine tw_nml (fun v29 ev29 => ?_)
  refine tw_ldc2 (v := 10) dX0_silverFor_8 w_307 ?_
  refine tw_ldiv dX0_silverFor_11 (by decide) ?_
  refine tw_nml (fun v30 ev30 => ?_)
  refine tw_l2i dX0_silverFor_12 ?_
  refine tw_nmi (fun v31 ev31 => ?_)
  exact tw_iret dX0_silverFor_13 rfl (Or.inl ⟨_, rfl, rfl, by rw [ev31, ev30, ev29, ev1, ev28, ea, eR]; exact tw_sil_i hA h2R⟩)

set_option maxHeartbeats 4000000 in
set_option maxRecDepth 100000 in
theorem c3_X0_goldOf (d : tw_D) (g : tw_G) (τ : tw_K) (h : tw_H) (hw : tw_wt d g τ h) (x : Nat) (kx : τ x = 2) (j : Nat) (hj : j < 4) (hb : g.2 (4096 + x) = 160 + 64 * j) (a : Int32) (A R : Nat) (ea : a = nI A) (eR : g.1 (160 + 64 * j) = nI R) (h1R : 100 ≤ R) (h2R : R ≤ 200) (hA : A ≤ 4000000) : tw_Ct d mX0_goldOf 0 0 [.ref x, .int a] h (tw_qi (fun r h1 => h1 = h ∧ r = nI (A * 10 / R)) tw_nx) := by
  refine tw_of (by decide +kernel) (Nat.le_of_ble_eq_true rfl) ?_
  show tw_W d mX0_goldOf _ 0 [(0, .ref x), (1, .int a)] [] h 0 0
  have sp0 := tw_sp.rf hw
  refine tw_aload_n 0 dX0_goldOf_0 rfl rfl ?_
  obtain ⟨e1, f2, n_3, r_4, c_5, go_6, so_7, v_8, rd_9, rf_10, t_11, rfl, k12, k13, k14, k15, k16, k17, k18, k19, k20⟩ := sp0.1 x 2 kx (by decide)
  obtain ⟨j21, ow22, fn9, fr9, fc9, fg9, fs9, q23, q24, q25, q26⟩ := k20
  obtain rfl : j = j21 := by have z := ow22.b hb; omega
  subst fn9 fr9 fc9 fg9 fs9
  refine tw_get (v := .int (g.1 (160 + 64 * j))) rfl in_4 1 dX0_goldOf_1 w_503 rfl (by decide) f2 rfl ?_
  refine tw_iconst (v := 1) dX0_goldOf_4 (by decide) ?_
  refine tw_icmp_ge 12 dX0_goldOf_5 (by decide) (fun _ => ?_) (fun c27 => absurd ((by rw [eR]; exact nI_le (a := 1) (by omega) (by omega))) c27)
  refine tw_iload_n 1 dX0_goldOf_12 rfl rfl ?_
  refine tw_i2l dX0_goldOf_13 ?_
  refine tw_nml (fun v28 ev28 => ?_)
  refine tw_ldc2 (v := 10) dX0_goldOf_14 w_307 ?_
  refine tw_lmul dX0_goldOf_17 ?_
  refine tw_nml (fun v29 ev29 => ?_)
  refine tw_aload_n 0 dX0_goldOf_18 rfl rfl ?_
  refine tw_get (v := .int (g.1 (160 + 64 * j))) rfl in_4 1 dX0_goldOf_19 w_503 rfl (by decide) f2 rfl ?_
  refine tw_i2l dX0_goldOf_22 ?_
  refine tw_nml (fun v30 ev30 => ?_)
  refine tw_ldiv dX0_goldOf_23 (tw_nzl ev30 (by rw [eR]; exact nI_le (a := 1) (by omega) (by omega))) ?_
  refine tw_nml (fun v31 ev31 => ?_)
  refine tw_l2i dX0_goldOf_24 ?_
  refine tw_nmi (fun v32 ev32 => ?_)
  exact tw_iret dX0_goldOf_25 rfl (Or.inl ⟨_, rfl, rfl, by rw [ev32, ev31, ev29, ev28, ev30, ea, eR]; exact tw_gol_i hA h1R h2R⟩)

set_option maxHeartbeats 4000000 in
set_option maxRecDepth 100000 in
theorem c3_X0_minted (d : tw_D) (g : tw_G) (τ : tw_K) (h : tw_H) (hw : tw_wt d g τ h) (x : Nat) (kx : τ x = 2) (j : Nat) (hj : j < 4) (hb : g.2 (4096 + x) = 160 + 64 * j) (k : Nat) (hk : k < 2) (a : Int32) (A R : Nat) (ea : a = nI A) (eR : g.1 (160 + 64 * j) = nI R) (h1R : 100 ≤ R) (h2R : R ≤ 200) (hA : A ≤ 4000000) (C : Nat) (eC : g.1 (160 + 64 * j + 1) = nI C) (hC : C ≤ 50) : tw_Ct d mX0_minted 0 0 [.ref x, .int (nI k), .int a] h (tw_qi (fun r h1 => h1 = h ∧ r = nI (tw_gv k R C A)) tw_nx) := by
  rcases (show k = 0 ∨ k = 1 by omega) with rfl | rfl
  · skip
    refine tw_of (by decide +kernel) (Nat.le_of_ble_eq_true rfl) ?_
    show tw_W d mX0_minted _ 0 [(0, .ref x), (1, .int (nI 0)), (2, .int a)] [] h 0 0
    have sp0 := tw_sp.rf hw
    refine tw_iload_n 1 dX0_minted_0 rfl rfl ?_
    refine tw_if_ne 12 dX0_minted_1 (by decide) (fun c1 => absurd (rfl) c1) (fun _ => ?_)
    refine tw_aload_n 0 dX0_minted_4 rfl rfl ?_
    refine tw_iload_n 2 dX0_minted_5 rfl rfl ?_
    obtain ⟨e2, f3, n_4, r_5, c_6, go_7, so_8, v_9, rd_10, rf_11, t_12, rfl, k13, k14, k15, k16, k17, k18, k19, k20, k21⟩ := sp0.1 x 2 kx (by decide)
    obtain ⟨j22, ow23, fn9, fr9, fc9, fg9, fs9, q24, q25, q26, q27⟩ := k21
    obtain rfl : j = j22 := by have z := ow23.b hb; omega
    subst fn9 fr9 fc9 fg9 fs9
    refine tw_bi (tw_callV (M := mX0_minted) (pc := 6) okX0_silverFor dX0_minted_6 w_303 rfl f3 [.int a] [] rfl rfl ⟨by decide, by decide⟩ (Nat.le_of_ble_eq_true rfl) (c3_X0_silverFor d g τ h sp0.1 x kx j hj hb a A R ea eR h1R h2R hA) 0 0 (Nat.le_of_ble_eq_true rfl) (Nat.le_of_ble_eq_true rfl)) (fun r30 h29 q28 => ?_) (fun E h1 q => q.elim)
    obtain ⟨q28e, q28v⟩ := q28
    rw [q28e]
    refine tw_goto 17 dX0_minted_9 (by decide) ?_
    refine tw_istore_n [(3, .int r30), (0, .ref x), (1, .int (nI 0)), (2, .int a)] dX0_minted_17 rfl (by decide) rfl ?_
    refine tw_iload_n 0 dX0_minted_18 rfl rfl ?_
    refine tw_iload_n 0 dX0_minted_19 rfl rfl ?_
    refine tw_aload_n 1 dX0_minted_20 rfl rfl ?_
    refine tw_get (v := .int (g.1 (160 + 64 * j + 1))) rfl in_4 2 dX0_minted_21 w_505 rfl (by decide) f3 rfl ?_
    have wl : (A * R / 10) ≤ 20 * A := tw_sil_le h2R
    refine tw_bi (tw_callSN (M := mX0_minted) (pc := 24) okX5_thousandthsRoundedUp dX0_minted_24 w_312 [.int r30, .int (g.1 (160 + 64 * j + 1))] [.int r30] rfl rfl ⟨by decide, by decide⟩ (Nat.le_of_ble_eq_true rfl) (c3_X5_thousandthsRoundedUp d g τ h sp0.1 r30 (g.1 (160 + 64 * j + 1)) (A * R / 10) C q28v eC (by omega) (by omega)) 0 0 (Nat.le_of_ble_eq_true rfl) (Nat.le_of_ble_eq_true rfl)) (fun r33 h32 q31 => ?_) (fun E h1 q => q.elim)
    obtain ⟨q31e, q31v⟩ := q31
    rw [q31e]
    refine tw_isub dX0_minted_27 ?_
    refine tw_nmi (fun v34 ev34 => ?_)
    exact tw_iret dX0_minted_28 rfl (Or.inl ⟨_, rfl, rfl, by rw [ev34, q28v, q31v]; exact tw_I_sub (by omega) (tw_up3_le (by omega))⟩)
  · skip
    refine tw_of (by decide +kernel) (Nat.le_of_ble_eq_true rfl) ?_
    show tw_W d mX0_minted _ 0 [(0, .ref x), (1, .int (nI 1)), (2, .int a)] [] h 0 0
    have sp0 := tw_sp.rf hw
    refine tw_iload_n 1 dX0_minted_0 rfl rfl ?_
    refine tw_if_ne 12 dX0_minted_1 (by decide) (fun _ => ?_) (fun c1 => absurd c1 ((by decide)))
    refine tw_aload_n 0 dX0_minted_12 rfl rfl ?_
    refine tw_iload_n 2 dX0_minted_13 rfl rfl ?_
    obtain ⟨e2, f3, n_4, r_5, c_6, go_7, so_8, v_9, rd_10, rf_11, t_12, rfl, k13, k14, k15, k16, k17, k18, k19, k20, k21⟩ := sp0.1 x 2 kx (by decide)
    obtain ⟨j22, ow23, fn9, fr9, fc9, fg9, fs9, q24, q25, q26, q27⟩ := k21
    obtain rfl : j = j22 := by have z := ow23.b hb; omega
    subst fn9 fr9 fc9 fg9 fs9
    refine tw_bi (tw_callV (M := mX0_minted) (pc := 14) okX0_goldOf dX0_minted_14 w_308 rfl f3 [.int a] [] rfl rfl ⟨by decide, by decide⟩ (Nat.le_of_ble_eq_true rfl) (c3_X0_goldOf d g τ h sp0.1 x kx j hj hb a A R ea eR h1R h2R hA) 0 0 (Nat.le_of_ble_eq_true rfl) (Nat.le_of_ble_eq_true rfl)) (fun r30 h29 q28 => ?_) (fun E h1 q => q.elim)
    obtain ⟨q28e, q28v⟩ := q28
    rw [q28e]
    refine tw_istore_n [(3, .int r30), (0, .ref x), (1, .int (nI 1)), (2, .int a)] dX0_minted_17 rfl (by decide) rfl ?_
    refine tw_iload_n 0 dX0_minted_18 rfl rfl ?_
    refine tw_iload_n 0 dX0_minted_19 rfl rfl ?_
    refine tw_aload_n 1 dX0_minted_20 rfl rfl ?_
    refine tw_get (v := .int (g.1 (160 + 64 * j + 1))) rfl in_4 2 dX0_minted_21 w_505 rfl (by decide) f3 rfl ?_
    have wl : (A * 10 / R) ≤ 20 * A := Nat.le_trans (tw_gol_le h1R) (by omega)
    refine tw_bi (tw_callSN (M := mX0_minted) (pc := 24) okX5_thousandthsRoundedUp dX0_minted_24 w_312 [.int r30, .int (g.1 (160 + 64 * j + 1))] [.int r30] rfl rfl ⟨by decide, by decide⟩ (Nat.le_of_ble_eq_true rfl) (c3_X5_thousandthsRoundedUp d g τ h sp0.1 r30 (g.1 (160 + 64 * j + 1)) (A * 10 / R) C q28v eC (by omega) (by omega)) 0 0 (Nat.le_of_ble_eq_true rfl) (Nat.le_of_ble_eq_true rfl)) (fun r33 h32 q31 => ?_) (fun E h1 q => q.elim)
    obtain ⟨q31e, q31v⟩ := q31
    rw [q31e]
    refine tw_isub dX0_minted_27 ?_
    refine tw_nmi (fun v34 ev34 => ?_)
    exact tw_iret dX0_minted_28 rfl (Or.inl ⟨_, rfl, rfl, by rw [ev34, q28v, q31v]; exact tw_I_sub (by omega) (tw_up3_le (by omega))⟩)

set_option maxHeartbeats 4000000 in
set_option maxRecDepth 100000 in
theorem c3_X5_otherMetal (d : tw_D) (g : tw_G) (τ : tw_K) (h : tw_H) (hw : tw_wt d g τ h) (k : Nat) (hk : k < 2) : tw_Ct d mX5_otherMetal 0 0 [.int (nI k)] h (tw_qi (fun r h1 => h1 = h ∧ r = nI (1 - k)) tw_nx) := by
  rcases (show k = 0 ∨ k = 1 by omega) with rfl | rfl
  · skip
    refine tw_of (by decide +kernel) (Nat.le_of_ble_eq_true rfl) ?_
    show tw_W d mX5_otherMetal _ 0 [(0, .int (nI 0))] [] h 0 0
    have sp0 := tw_sp.rf hw
    refine tw_iload_n 0 dX5_otherMetal_0 rfl rfl ?_
    refine tw_if_ne 8 dX5_otherMetal_1 (by decide) (fun c1 => absurd (rfl) c1) (fun _ => ?_)
    refine tw_iconst (v := 1) dX5_otherMetal_4 (by decide) ?_
    refine tw_goto 9 dX5_otherMetal_5 (by decide) ?_
    exact tw_iret dX5_otherMetal_9 rfl (Or.inl ⟨_, rfl, rfl, rfl⟩)
  · skip
    refine tw_of (by decide +kernel) (Nat.le_of_ble_eq_true rfl) ?_
    show tw_W d mX5_otherMetal _ 0 [(0, .int (nI 1))] [] h 0 0
    have sp0 := tw_sp.rf hw
    refine tw_iload_n 0 dX5_otherMetal_0 rfl rfl ?_
    refine tw_if_ne 8 dX5_otherMetal_1 (by decide) (fun _ => ?_) (fun c1 => absurd c1 ((by decide)))
    refine tw_iconst (v := 0) dX5_otherMetal_8 (by decide) ?_
    exact tw_iret dX5_otherMetal_9 rfl (Or.inl ⟨_, rfl, rfl, rfl⟩)

set_option maxHeartbeats 4000000 in
set_option maxRecDepth 100000 in
theorem c3_X5_comesOfTrip (d : tw_D) (g : tw_G) (τ : tw_K) (h : tw_H) (hw : tw_wt d g τ h) (a : Nat) (ka : τ a = 2) (ja : Nat) (hja : ja < 4) (hba : g.2 (4096 + a) = 160 + 64 * ja) (b : Nat) (kb : τ b = 2) (jb : Nat) (hjb : jb < 4) (hbb : g.2 (4096 + b) = 160 + 64 * jb) (k : Nat) (hk : k < 2) (gr : Int32) (n : Nat) (en : gr = nI n) (hn : n ≤ 99999) (Ra Ca : Nat) (eRa : g.1 (160 + 64 * ja) = nI Ra) (h1Ra : 100 ≤ Ra) (h2Ra : Ra ≤ 200) (eCa : g.1 (160 + 64 * ja + 1) = nI Ca) (hCa : Ca ≤ 50) (Rb Cb : Nat) (eRb : g.1 (160 + 64 * jb) = nI Rb) (h1Rb : 100 ≤ Rb) (h2Rb : Rb ≤ 200) (eCb : g.1 (160 + 64 * jb + 1) = nI Cb) (hCb : Cb ≤ 50) (F : Nat) (eF : g.1 (160 + 64 * ja + 16 + jb) = nI F) (hF : F ≤ 100) : tw_Ct d mX5_comesOfTrip 0 0 [.ref a, .ref b, .int (nI k), .int gr] h (tw_qi (fun r h1 => h1 = h ∧ r = nI (tw_tp k n Ra Ca Rb Cb F F)) tw_nx) := by
  refine tw_of (by decide +kernel) (Nat.le_of_ble_eq_true rfl) ?_
  show tw_W d mX5_comesOfTrip _ 0 [(0, .ref a), (1, .ref b), (2, .int (nI k)), (3, .int gr)] [] h 0 0
  have sp0 := tw_sp.rf hw
  refine tw_aload_n 0 dX5_comesOfTrip_0 rfl rfl ?_
  refine tw_aload_n 1 dX5_comesOfTrip_1 rfl rfl ?_
  obtain ⟨e1, f2, n_3, r_4, c_5, go_6, so_7, v_8, rd_9, rf_10, t_11, rfl, k12, k13, k14, k15, k16, k17, k18, k19, k20⟩ := sp0.1 b 2 kb (by decide)
  obtain ⟨j21, ow22, fn9, fr9, fc9, fg9, fs9, q23, q24, q25, q26⟩ := k20
  obtain rfl : jb = j21 := by have z := ow22.b hbb; omega
  subst fn9 fr9 fc9 fg9 fs9
  refine tw_getN (v := .int (nI jb)) rfl in_4 0 dX5_comesOfTrip_2 w_502 rfl (by decide) f2 rfl ?_
  obtain ⟨e27, f28, n_29, r_30, c_31, go_32, so_33, v_34, rd_35, rf_36, t_37, rfl, k38, k39, k40, k41, k42, k43, k44, k45, k46⟩ := sp0.1 a 2 ka (by decide)
  obtain ⟨j47, ow48, fn9, fr9, fc9, fg9, fs9, q49, q50, q51, q52⟩ := k46
  obtain rfl : ja = j47 := by have z := ow48.b hba; omega
  subst fn9 fr9 fc9 fg9 fs9
  refine tw_bi (tw_callVN (M := mX5_comesOfTrip) (pc := 5) okX0_freightTo dX5_comesOfTrip_5 w_231 rfl f28 [.int (nI jb)] [] rfl rfl ⟨by decide, by decide⟩ (Nat.le_of_ble_eq_true rfl) (c2_X0_freightTo d g τ h sp0.1 a ka ja hja hba jb hjb) 0 0 (Nat.le_of_ble_eq_true rfl) (Nat.le_of_ble_eq_true rfl)) (fun r55 h54 q53 => ?_) (fun E h1 q => q.elim)
  obtain ⟨q53e, q53v⟩ := q53
  rw [q53e]
  have fr9 := q53v.trans eF
  refine tw_istore [(4, .int r55), (0, .ref a), (1, .ref b), (2, .int (nI k)), (3, .int gr)] dX5_comesOfTrip_8 (by decide) rfl ?_
  refine tw_aload_n 1 dX5_comesOfTrip_10 rfl rfl ?_
  refine tw_iload_n 3 dX5_comesOfTrip_11 rfl rfl ?_
  refine tw_iload_n 4 dX5_comesOfTrip_12 rfl rfl ?_
  refine tw_bi (tw_callVN (M := mX5_comesOfTrip) (pc := 13) okX0_minted dX5_comesOfTrip_13 w_299 rfl f28 [.int (nI k), .int gr] [] rfl rfl ⟨by decide, by decide⟩ (Nat.le_of_ble_eq_true rfl) (c3_X0_minted d g τ h sp0.1 a ka ja hja hba k (by omega) gr n Ra en eRa h1Ra h2Ra (by omega) Ca eCa hCa) 0 0 (Nat.le_of_ble_eq_true rfl) (Nat.le_of_ble_eq_true rfl)) (fun r58 h57 q56 => ?_) (fun E h1 q => q.elim)
  obtain ⟨q56e, q56v⟩ := q56
  rw [q56e]
  have gla := tw_gv_le (k := k) (r := Ra) (c := Ca) (a := n) h1Ra h2Ra
  refine tw_istore [(5, .int r58), (4, .int r55), (0, .ref a), (1, .ref b), (2, .int (nI k)), (3, .int gr)] dX5_comesOfTrip_16 (by decide) rfl ?_
  refine tw_iload 0 dX5_comesOfTrip_18 rfl ?_
  refine tw_iload 0 dX5_comesOfTrip_20 rfl ?_
  refine tw_iload 1 dX5_comesOfTrip_22 rfl ?_
  refine tw_bi (tw_callS (M := mX5_comesOfTrip) (pc := 24) okX5_thousandthsRoundedUp dX5_comesOfTrip_24 w_317 [.int r58, .int r55] [.int r58] rfl rfl ⟨by decide, by decide⟩ (Nat.le_of_ble_eq_true rfl) (c3_X5_thousandthsRoundedUp d g τ h sp0.1 r58 r55 (tw_gv k Ra Ca n) F q56v fr9 (by omega) (by omega)) 0 0 (Nat.le_of_ble_eq_true rfl) (Nat.le_of_ble_eq_true rfl)) (fun r61 h60 q59 => ?_) (fun E h1 q => q.elim)
  obtain ⟨q59e, q59v⟩ := q59
  rw [q59e]
  refine tw_isub dX5_comesOfTrip_27 ?_
  refine tw_nmi (fun v62 ev62 => ?_)
  refine tw_istore [(6, .int v62), (5, .int r58), (4, .int r55), (0, .ref a), (1, .ref b), (2, .int (nI k)), (3, .int gr)] dX5_comesOfTrip_28 (by decide) rfl ?_
  refine tw_aload_n 4 dX5_comesOfTrip_30 rfl rfl ?_
  refine tw_iload_n 5 dX5_comesOfTrip_31 rfl rfl ?_
  refine tw_bi (tw_callS (M := mX5_comesOfTrip) (pc := 32) okX5_otherMetal dX5_comesOfTrip_32 w_318 [.int (nI k)] [.ref b] rfl rfl ⟨by decide, by decide⟩ (Nat.le_of_ble_eq_true rfl) (c3_X5_otherMetal d g τ h sp0.1 k hk) 0 0 (Nat.le_of_ble_eq_true rfl) (Nat.le_of_ble_eq_true rfl)) (fun r65 h64 q63 => ?_) (fun E h1 q => q.elim)
  obtain ⟨q63e, q63v⟩ := q63
  rw [q63e, q63v]
  have ar9 : v62 = nI ((tw_gv k Ra Ca n) - tw_up3 (tw_gv k Ra Ca n) F) := by rw [ev62, q56v, q59v]; exact tw_I_sub (by omega) (tw_up3_le (by omega))
  have al9 : ((tw_gv k Ra Ca n) - tw_up3 (tw_gv k Ra Ca n) F) ≤ (tw_gv k Ra Ca n) := Nat.sub_le _ _
  refine tw_iload 0 dX5_comesOfTrip_35 rfl ?_
  refine tw_bi (tw_callVN (M := mX5_comesOfTrip) (pc := 37) okX0_minted dX5_comesOfTrip_37 w_299 rfl f2 [.int (nI (1 - k)), .int v62] [] rfl rfl ⟨by decide, by decide⟩ (Nat.le_of_ble_eq_true rfl) (c3_X0_minted d g τ h sp0.1 b kb jb hjb hbb (1 - k) (by omega) v62 ((tw_gv k Ra Ca n) - tw_up3 (tw_gv k Ra Ca n) F) Rb ar9 eRb h1Rb h2Rb (by omega) Cb eCb hCb) 0 0 (Nat.le_of_ble_eq_true rfl) (Nat.le_of_ble_eq_true rfl)) (fun r68 h67 q66 => ?_) (fun E h1 q => q.elim)
  obtain ⟨q66e, q66v⟩ := q66
  rw [q66e]
  have glb := tw_gv_le (k := (1 - k)) (r := Rb) (c := Cb) (a := ((tw_gv k Ra Ca n) - tw_up3 (tw_gv k Ra Ca n) F)) h1Rb h2Rb
  refine tw_istore [(7, .int r68), (6, .int v62), (5, .int r58), (4, .int r55), (0, .ref a), (1, .ref b), (2, .int (nI k)), (3, .int gr)] dX5_comesOfTrip_40 (by decide) rfl ?_
  refine tw_iload 0 dX5_comesOfTrip_42 rfl ?_
  refine tw_iload 0 dX5_comesOfTrip_44 rfl ?_
  refine tw_iload 3 dX5_comesOfTrip_46 rfl ?_
  refine tw_bi (tw_callS (M := mX5_comesOfTrip) (pc := 48) okX5_thousandthsRoundedUp dX5_comesOfTrip_48 w_317 [.int r68, .int r55] [.int r68] rfl rfl ⟨by decide, by decide⟩ (Nat.le_of_ble_eq_true rfl) (c3_X5_thousandthsRoundedUp d g τ h sp0.1 r68 r55 (tw_gv (1 - k) Rb Cb ((tw_gv k Ra Ca n) - tw_up3 (tw_gv k Ra Ca n) F)) F q66v fr9 (by omega) (by omega)) 0 0 (Nat.le_of_ble_eq_true rfl) (Nat.le_of_ble_eq_true rfl)) (fun r71 h70 q69 => ?_) (fun E h1 q => q.elim)
  obtain ⟨q69e, q69v⟩ := q69
  rw [q69e]
  refine tw_isub dX5_comesOfTrip_51 ?_
  refine tw_nmi (fun v72 ev72 => ?_)
  exact tw_iret dX5_comesOfTrip_52 rfl (Or.inl ⟨_, rfl, rfl, by rw [ev72, q66v, q69v]; exact tw_I_sub (by omega) (tw_up3_le (by omega))⟩)

set_option maxHeartbeats 4000000 in
set_option maxRecDepth 100000 in
theorem c3_X10_up (d : tw_D) (g : tw_G) (τ : tw_K) (h : tw_H) (hw : tw_wt d g τ h) (a b : Int64) (A D : Nat) (ea : a = tw_L A) (eb : b = tw_L D) (hD : 1 ≤ D) (h9 : A + D < 2 ^ 63) : tw_Ct d mX10_up 0 0 [.long a, .long b] h (tw_ql (fun r h1 => h1 = h ∧ r = tw_L ((A + D - 1) / D)) tw_nx) := by
  refine tw_of (by decide +kernel) (Nat.le_of_ble_eq_true rfl) ?_
  show tw_W d mX10_up _ 0 [(0, .long a), (2, .long b)] [] h 0 0
  have sp0 := tw_sp.rf hw
  refine tw_lload_n 0 dX10_up_0 rfl rfl ?_
  refine tw_lload_n 1 dX10_up_1 rfl rfl ?_
  refine tw_ladd dX10_up_2 ?_
  refine tw_nml (fun v1 ev1 => ?_)
  refine tw_lconst (v := 1) dX10_up_3 (by decide) ?_
  refine tw_lsub dX10_up_4 ?_
  refine tw_nml (fun v2 ev2 => ?_)
  refine tw_lload_n 1 dX10_up_5 rfl rfl ?_
  refine tw_ldiv dX10_up_6 (fun z => by rw [eb] at z; have z2 := congrArg Int64.toInt z; rw [tw_L_toInt (by omega)] at z2; have z3 : (0 : Int64).toInt = 0 := rfl; omega) ?_
  refine tw_nml (fun v3 ev3 => ?_)
  exact tw_lret dX10_up_7 rfl (Or.inl ⟨_, rfl, rfl, by rw [ev3, ev2, ev1, ea, eb]; exact tw_upL hD h9⟩)

set_option maxHeartbeats 4000000 in
set_option maxRecDepth 100000 in
theorem c3_X10_given (d : tw_D) (g : tw_G) (τ : tw_K) (h : tw_H) (hw : tw_wt d g τ h) (c : Nat) (kc : τ c = 21) (j : Nat) (hj : j < 4) (hb : g.2 (4096 + c) = 480 + 64 * j) (k : Nat) (hk : k < 2) (a : Int64) (A : Nat) (ea : a = tw_L A) (hA : A ≤ 4000000) (R C : Nat) (eR : g.1 (480 + 64 * j) = nI R) (h1R : 100 ≤ R) (h2R : R ≤ 200) (eC : g.1 (480 + 64 * j + 1) = nI C) (hC : C ≤ 50) : tw_Ct d mX10_given 0 0 [.ref c, .int (nI k), .long a] h (tw_ql (fun r h1 => h1 = h ∧ r = tw_L (tw_gv k R C A)) tw_nx) := by
  rcases (show k = 0 ∨ k = 1 by omega) with rfl | rfl
  · skip
    refine tw_of (by decide +kernel) (Nat.le_of_ble_eq_true rfl) ?_
    show tw_W d mX10_given _ 0 [(0, .ref c), (1, .int (nI 0)), (2, .long a)] [] h 0 0
    have sp0 := tw_sp.rf hw
    refine tw_iload_n 1 dX10_given_0 rfl rfl ?_
    refine tw_if_ne 18 dX10_given_1 (by decide) (fun c1 => absurd (rfl) c1) (fun _ => ?_)
    refine tw_lload_n 2 dX10_given_4 rfl rfl ?_
    refine tw_aload_n 0 dX10_given_5 rfl rfl ?_
    obtain ⟨e2, f3, r_4, c_5, v_6, o_7, t_8, rfl, k9, k10, k11, k12, k13, k14⟩ := sp0.1 c 21 kc (by decide)
    obtain ⟨j15, ow16, fr9, fc9, q17, q18, q19⟩ := k14
    obtain rfl : j = j15 := by have z := ow16.b hb; omega
    subst fr9 fc9
    refine tw_get (v := .int (g.1 (480 + 64 * j))) rfl in_11 0 dX10_given_6 w_1214 rfl (by decide) f3 rfl ?_
    refine tw_i2l dX10_given_9 ?_
    refine tw_nml (fun v20 ev20 => ?_)
    refine tw_lmul dX10_given_10 ?_
    refine tw_nml (fun v21 ev21 => ?_)
    refine tw_ldc2 (v := 10) dX10_given_11 w_1369 ?_
    refine tw_ldiv dX10_given_14 (by decide) ?_
    refine tw_nml (fun v22 ev22 => ?_)
    refine tw_goto 29 dX10_given_15 (by decide) ?_
    refine tw_lstore [(4, .long v22), (0, .ref c), (1, .int (nI 0)), (2, .long a)] dX10_given_29 (by decide) rfl ?_
    refine tw_lload 0 dX10_given_31 rfl ?_
    refine tw_lload 0 dX10_given_33 rfl ?_
    refine tw_aload_n 1 dX10_given_35 rfl rfl ?_
    refine tw_get (v := .int (g.1 (480 + 64 * j + 1))) rfl in_11 1 dX10_given_36 w_1215 rfl (by decide) f3 rfl ?_
    refine tw_i2l dX10_given_39 ?_
    refine tw_nml (fun v23 ev23 => ?_)
    refine tw_lmul dX10_given_40 ?_
    refine tw_nml (fun v24 ev24 => ?_)
    refine tw_ldc2 (v := 1000) dX10_given_41 w_1370 ?_
    have wl : (A * R / 10) ≤ 20 * A := tw_sil_le h2R
    have we : v22 = tw_L (A * R / 10) := by rw [ev22, ev21, ev20, ea, eR]; exact tw_silL hA h2R
    have zC : (A * R / 10) * C ≤ 80000000 * 1000 := tw_mul_lt (by omega) (by omega)
    have ue : v24 = tw_L ((A * R / 10) * C) := by rw [ev24, we, ev23, eC, tw_L_i (by omega)]; exact tw_L_mul (by omega) (by omega) (by omega)
    refine tw_bl (tw_callS (M := mX10_given) (pc := 44) okX10_up dX10_given_44 w_1371 [.long v24, .long 1000] [.long v22] rfl rfl ⟨by decide, by decide⟩ (Nat.le_of_ble_eq_true rfl) (c3_X10_up d g τ h sp0.1 v24 1000 ((A * R / 10) * C) 1000 ue rfl (by decide) (by omega)) 0 0 (Nat.le_of_ble_eq_true rfl) (Nat.le_of_ble_eq_true rfl)) (fun r27 h26 q25 => ?_) (fun E h1 q => q.elim)
    obtain ⟨q25e, q25v⟩ := q25
    rw [q25e]
    refine tw_lsub dX10_given_47 ?_
    refine tw_nml (fun v28 ev28 => ?_)
    exact tw_lret dX10_given_48 rfl (Or.inl ⟨_, rfl, rfl, by rw [ev28, we, q25v]; exact tw_up3_L (by omega) (by omega)⟩)
  · skip
    refine tw_of (by decide +kernel) (Nat.le_of_ble_eq_true rfl) ?_
    show tw_W d mX10_given _ 0 [(0, .ref c), (1, .int (nI 1)), (2, .long a)] [] h 0 0
    have sp0 := tw_sp.rf hw
    refine tw_iload_n 1 dX10_given_0 rfl rfl ?_
    refine tw_if_ne 18 dX10_given_1 (by decide) (fun _ => ?_) (fun c1 => absurd c1 ((by decide)))
    refine tw_lload_n 2 dX10_given_18 rfl rfl ?_
    refine tw_ldc2 (v := 10) dX10_given_19 w_1369 ?_
    refine tw_lmul dX10_given_22 ?_
    refine tw_nml (fun v2 ev2 => ?_)
    refine tw_aload_n 0 dX10_given_23 rfl rfl ?_
    obtain ⟨e3, f4, r_5, c_6, v_7, o_8, t_9, rfl, k10, k11, k12, k13, k14, k15⟩ := sp0.1 c 21 kc (by decide)
    obtain ⟨j16, ow17, fr9, fc9, q18, q19, q20⟩ := k15
    obtain rfl : j = j16 := by have z := ow17.b hb; omega
    subst fr9 fc9
    refine tw_get (v := .int (g.1 (480 + 64 * j))) rfl in_11 0 dX10_given_24 w_1214 rfl (by decide) f4 rfl ?_
    refine tw_i2l dX10_given_27 ?_
    refine tw_nml (fun v21 ev21 => ?_)
    refine tw_ldiv dX10_given_28 (tw_nzl ev21 (by rw [eR]; exact nI_le (a := 1) (by omega) (by omega))) ?_
    refine tw_nml (fun v22 ev22 => ?_)
    refine tw_lstore [(4, .long v22), (0, .ref c), (1, .int (nI 1)), (2, .long a)] dX10_given_29 (by decide) rfl ?_
    refine tw_lload 0 dX10_given_31 rfl ?_
    refine tw_lload 0 dX10_given_33 rfl ?_
    refine tw_aload_n 1 dX10_given_35 rfl rfl ?_
    refine tw_get (v := .int (g.1 (480 + 64 * j + 1))) rfl in_11 1 dX10_given_36 w_1215 rfl (by decide) f4 rfl ?_
    refine tw_i2l dX10_given_39 ?_
    refine tw_nml (fun v23 ev23 => ?_)
    refine tw_lmul dX10_given_40 ?_
    refine tw_nml (fun v24 ev24 => ?_)
    refine tw_ldc2 (v := 1000) dX10_given_41 w_1370 ?_
    have wl : (A * 10 / R) ≤ 20 * A := Nat.le_trans (tw_gol_le h1R) (by omega)
    have we : v22 = tw_L (A * 10 / R) := by rw [ev22, ev2, ev21, ea, eR]; exact tw_golL hA h2R
    have zC : (A * 10 / R) * C ≤ 80000000 * 1000 := tw_mul_lt (by omega) (by omega)
    have ue : v24 = tw_L ((A * 10 / R) * C) := by rw [ev24, we, ev23, eC, tw_L_i (by omega)]; exact tw_L_mul (by omega) (by omega) (by omega)
    refine tw_bl (tw_callS (M := mX10_given) (pc := 44) okX10_up dX10_given_44 w_1371 [.long v24, .long 1000] [.long v22] rfl rfl ⟨by decide, by decide⟩ (Nat.le_of_ble_eq_true rfl) (c3_X10_up d g τ h sp0.1 v24 1000 ((A * 10 / R) * C) 1000 ue rfl (by decide) (by omega)) 0 0 (Nat.le_of_ble_eq_true rfl) (Nat.le_of_ble_eq_true rfl)) (fun r27 h26 q25 => ?_) (fun E h1 q => q.elim)
    obtain ⟨q25e, q25v⟩ := q25
    rw [q25e]
    refine tw_lsub dX10_given_47 ?_
    refine tw_nml (fun v28 ev28 => ?_)
    exact tw_lret dX10_given_48 rfl (Or.inl ⟨_, rfl, rfl, by rw [ev28, we, q25v]; exact tw_up3_L (by omega) (by omega)⟩)

theorem tw_tp_lt {k n r1 c1 r2 c2 f1 f2 : Nat} (h1 : 100 ≤ r1) (h2 : r1 ≤ 200) (h3 : 100 ≤ r2) (h4 : r2 ≤ 200) (hn : n ≤ 99999) : tw_tp k n r1 c1 r2 c2 f1 f2 < 2 ^ 31 := by
  have a := tw_gv_le (k := k) (r := r1) (c := c1) (a := n) h1 h2
  have b := tw_gv_le (k := 1 - k) (r := r2) (c := c2) (a := tw_gv k r1 c1 n - tw_up3 (tw_gv k r1 c1 n) f1) h3 h4
  unfold tw_tp
  omega
theorem tw_grm {gr : Int32} (h1 : 0 ≤ gr) (h2 : gr ≤ 99999) : ∃ n, n ≤ 99999 ∧ gr = nI n := by
  obtain ⟨n, -, h, e⟩ := tw_I_rng (a := 0) (b := 99999) h1 h2 (by decide) (by decide)
  exact ⟨n, h, e⟩
theorem tw_1k {k : Nat} (hk : k < 2) : (1 : Int32) - nI k = nI (1 - k) := by
  rcases (show k = 0 ∨ k = 1 by omega) with rfl | rfl <;> rfl
set_option maxHeartbeats 4000000 in
set_option maxRecDepth 100000 in
theorem c3_X10_tripNow (d : tw_D) (g : tw_G) (τ : tw_K) (h : tw_H) (hw : tw_wt d g τ h) (x : Nat) (kx : τ x = 36) (a b : Nat) (ha : a < g.2 3) (hb : b < g.2 3) (k : Nat) (hk : k < 2) (gr : Int64) (n : Nat) (en : gr = tw_L n) (hn : n ≤ 99999) (he : tw_EM g) : tw_Ct d mX10_tripNow 0 0 [.ref x, .int (nI a), .int (nI b), .int (nI k), .long gr] h (tw_ql (fun r h1 => h1 = h ∧ r = tw_L (tw_tM g a b k n)) tw_nx) := by
  refine tw_of (by decide +kernel) (Nat.le_of_ble_eq_true rfl) ?_
  show tw_W d mX10_tripNow _ 0 [(0, .ref x), (1, .int (nI a)), (2, .int (nI b)), (3, .int (nI k)), (4, .long gr)] [] h 0 0
  have sp0 := tw_sp.rf hw
  have b9 := tw_b3 hw kx
  have Ea := he a ha
  have Eb := he b hb
  refine tw_aload_n 0 dX10_tripNow_0 rfl rfl ?_
  obtain ⟨e1, f2, th_3, td_4, ds_5, fr_6, ca_7, us_8, wo_9, cm_10, lc_11, lh_12, ld_13, rfl, k14, k15, k16, k17, k18, k19, k20, k21, k22, k23, k24, k25, k26, k27, k28, k29, k30, k31, k32, k33, k34, k35⟩ := sp0.1 x 36 kx (by decide)
  refine tw_get (v := .ref lc_11) rfl in_14 9 dX10_tripNow_1 w_1160 rfl (by decide) f2 rfl ?_
  refine tw_iload_n 1 dX10_tripNow_4 rfl rfl ?_
  obtain ⟨e36, f37, ⟨el38, rfl, k39⟩, k40⟩ := sp0.1 lc_11 24 k20 (by decide)
  refine tw_br (tw_callV (M := mX10_tripNow) (pc := 5) okJx4a65c_get_915e3 dX10_tripNow_5 w_1292 rfl f37 [.int (nI a)] [] rfl rfl ⟨by decide, by decide⟩ (Nat.le_of_ble_eq_true rfl) (c24_get d g τ h sp0.1 lc_11 k20 a (by omega) (by omega)) 0 0 (Nat.le_of_ble_eq_true rfl) (Nat.le_of_ble_eq_true rfl)) (fun r43 h42 q41 => ?_) (fun E h1 q => q.elim)
  obtain ⟨q41e, q41k⟩ := q41
  rw [q41e]
  have el44 : tw_el h (g.2 12) a = r43 := by rw [← k40]; exact q41k.2.symm
  have kl45 : τ (g.2 12) = 24 := by rw [← k40]; exact k20
  have id46 : g.2 (4096 + r43) = 480 + 64 * a := by rw [← el44]; exact tw_eli24 sp0.1 kl45 (by omega)
  obtain ⟨e47, f48, r_49, c_50, v_51, o_52, t_53, rfl, k54, k55, k56, k57, k58, k59⟩ := sp0.1 r43 21 q41k.1 (by decide)
  obtain ⟨j60, ow61, fr9, fc9, q62, q63, q64⟩ := k59
  obtain rfl : a = j60 := by have z := ow61.b id46; omega
  subst fr9 fc9
  refine tw_castS (ci := 11) rfl dX10_tripNow_8 w_1208 f48 ?_
  refine tw_iload_n 3 dX10_tripNow_11 rfl rfl ?_
  refine tw_lload 4 dX10_tripNow_12 rfl ?_
  refine tw_bl (tw_callS (M := mX10_tripNow) (pc := 14) okX10_given dX10_tripNow_14 w_1366 [.ref r43, .int (nI k), .long gr] [] rfl rfl ⟨by decide, by decide⟩ (Nat.le_of_ble_eq_true rfl) (c3_X10_given d g τ h sp0.1 r43 q41k.1 a (by omega) id46 k (by omega) gr n en (by omega) _ _ Ea.1.2.2 Ea.1.1 Ea.1.2.1 Ea.2.1.2 Ea.2.1.1) 0 0 (Nat.le_of_ble_eq_true rfl) (Nat.le_of_ble_eq_true rfl)) (fun r67 h66 q65 => ?_) (fun E h1 q => q.elim)
  obtain ⟨q65e, q65v⟩ := q65
  rw [q65e]
  have gla := tw_gv_le (k := k) (r := (tw_DN (g.1 (480 + 64 * a)))) (c := (tw_DN (g.1 (480 + 64 * a + 1)))) (a := n) Ea.1.1 Ea.1.2.1
  refine tw_lstore [(6, .long r67), (0, .ref x), (1, .int (nI a)), (2, .int (nI b)), (3, .int (nI k)), (4, .long gr)] dX10_tripNow_17 (by decide) rfl ?_
  refine tw_lload 0 dX10_tripNow_19 rfl ?_
  refine tw_lload 0 dX10_tripNow_21 rfl ?_
  refine tw_aload_n 1 dX10_tripNow_23 rfl rfl ?_
  refine tw_get (v := .ref fr_6) rfl in_14 4 dX10_tripNow_24 w_1155 rfl (by decide) f2 rfl ?_
  refine tw_iload_n 2 dX10_tripNow_27 rfl rfl ?_
  obtain ⟨e70, f71, F68, rfl, k69⟩ := sp0.1 fr_6 34 k15 (by decide)
  obtain ⟨q72, k73, k74, iq75⟩ := k69 ((nI a)).toNatClampNeg (by rw [nI_clamp (by omega)]; omega)
  refine tw_aald (v := .ref q72) 8 rfl rfl dX10_tripNow_28 f71 (vp_in_nI (by omega) (by decide)) (by rw [k73]; rfl) ?_
  have id76 : g.2 (4096 + q72) = 448 + 8 * a := by have z := iq75; rw [nI_clamp (by omega), k31] at z; exact z
  refine tw_iload_n 3 dX10_tripNow_29 rfl rfl ?_
  obtain ⟨e77, f78, F79, rfl, ⟨b81, ow82, wv83⟩⟩ := sp0.1 q72 6 k74 (by decide)
  obtain rfl : b81 = (448 + 8 * a) := ow82.b id76
  have ev84 : F79 ((nI b)).toNatClampNeg = (g.1 ((448 + 8 * a) + b)) := by rw [nI_clamp (by omega)]; exact wv83 b (by omega)
  refine tw_iald (v := (g.1 ((448 + 8 * a) + b))) dX10_tripNow_30 f78 (vp_in_nI (by omega) (by decide)) ev84 ?_
  refine tw_i2l dX10_tripNow_31 ?_
  refine tw_nml (fun v85 ev85 => ?_)
  refine tw_lmul dX10_tripNow_32 ?_
  refine tw_nml (fun v86 ev86 => ?_)
  refine tw_ldc2 (v := 1000) dX10_tripNow_33 w_1370 ?_
  have fa := (Ea.2.2 b (by omega))
  have za : (tw_gv k (tw_DN (g.1 (480 + 64 * a))) (tw_DN (g.1 (480 + 64 * a + 1))) n) * (tw_DN (g.1 (448 + 8 * a + b))) ≤ 80000000 * 1000 := tw_mul_lt (by omega) (by omega)
  have ua : v86 = tw_L ((tw_gv k (tw_DN (g.1 (480 + 64 * a))) (tw_DN (g.1 (480 + 64 * a + 1))) n) * (tw_DN (g.1 (448 + 8 * a + b)))) := by rw [ev86, q65v, ev85, fa.2, tw_L_i (by have := fa.1; omega), ← fa.2]; exact tw_L_mul (by omega) (by omega) (by omega)
  refine tw_bl (tw_callS (M := mX10_tripNow) (pc := 36) okX10_up dX10_tripNow_36 w_1371 [.long v86, .long 1000] [.long r67] rfl rfl ⟨by decide, by decide⟩ (Nat.le_of_ble_eq_true rfl) (c3_X10_up d g τ h sp0.1 v86 1000 ((tw_gv k (tw_DN (g.1 (480 + 64 * a))) (tw_DN (g.1 (480 + 64 * a + 1))) n) * (tw_DN (g.1 (448 + 8 * a + b)))) 1000 ua rfl (by decide) (by omega)) 0 0 (Nat.le_of_ble_eq_true rfl) (Nat.le_of_ble_eq_true rfl)) (fun r89 h88 q87 => ?_) (fun E h1 q => q.elim)
  obtain ⟨q87e, q87v⟩ := q87
  rw [q87e]
  refine tw_lsub dX10_tripNow_39 ?_
  refine tw_nml (fun v90 ev90 => ?_)
  have ar9 : v90 = tw_L ((tw_gv k (tw_DN (g.1 (480 + 64 * a))) (tw_DN (g.1 (480 + 64 * a + 1))) n) - tw_up3 (tw_gv k (tw_DN (g.1 (480 + 64 * a))) (tw_DN (g.1 (480 + 64 * a + 1))) n) (tw_DN (g.1 (448 + 8 * a + b)))) := by rw [ev90, q65v, q87v]; exact tw_up3_L (by omega) (by omega)
  have al9 : ((tw_gv k (tw_DN (g.1 (480 + 64 * a))) (tw_DN (g.1 (480 + 64 * a + 1))) n) - tw_up3 (tw_gv k (tw_DN (g.1 (480 + 64 * a))) (tw_DN (g.1 (480 + 64 * a + 1))) n) (tw_DN (g.1 (448 + 8 * a + b)))) ≤ (tw_gv k (tw_DN (g.1 (480 + 64 * a))) (tw_DN (g.1 (480 + 64 * a + 1))) n) := Nat.sub_le _ _
  refine tw_lstore [(6, .long v90), (0, .ref x), (1, .int (nI a)), (2, .int (nI b)), (3, .int (nI k)), (4, .long gr)] dX10_tripNow_40 (by decide) rfl ?_
  refine tw_aload_n 1 dX10_tripNow_42 rfl rfl ?_
  refine tw_get (v := .ref lc_11) rfl in_14 9 dX10_tripNow_43 w_1160 rfl (by decide) f2 rfl ?_
  refine tw_iload_n 3 dX10_tripNow_46 rfl rfl ?_
  refine tw_br (tw_callV (M := mX10_tripNow) (pc := 47) okJx4a65c_get_915e3 dX10_tripNow_47 w_1292 rfl f37 [.int (nI b)] [] rfl rfl ⟨by decide, by decide⟩ (Nat.le_of_ble_eq_true rfl) (c24_get d g τ h sp0.1 lc_11 k20 b (by omega) (by omega)) 0 0 (Nat.le_of_ble_eq_true rfl) (Nat.le_of_ble_eq_true rfl)) (fun r93 h92 q91 => ?_) (fun E h1 q => q.elim)
  obtain ⟨q91e, q91k⟩ := q91
  rw [q91e]
  have el94 : tw_el h (g.2 12) b = r93 := by rw [← k40]; exact q91k.2.symm
  have kl95 : τ (g.2 12) = 24 := by rw [← k40]; exact k20
  have id96 : g.2 (4096 + r93) = 480 + 64 * b := by rw [← el94]; exact tw_eli24 sp0.1 kl95 (by omega)
  obtain ⟨e97, f98, r_99, c_100, v_101, o_102, t_103, rfl, k104, k105, k106, k107, k108, k109⟩ := sp0.1 r93 21 q91k.1 (by decide)
  obtain ⟨j110, ow111, fr9, fc9, q112, q113, q114⟩ := k109
  obtain rfl : b = j110 := by have z := ow111.b id96; omega
  subst fr9 fc9
  refine tw_castS (ci := 11) rfl dX10_tripNow_50 w_1208 f98 ?_
  refine tw_iconst (v := 1) dX10_tripNow_53 (by decide) ?_
  refine tw_iload_n 4 dX10_tripNow_54 rfl rfl ?_
  refine tw_isub dX10_tripNow_55 ?_
  refine tw_nmi (fun v115 ev115 => ?_)
  refine tw_lload 0 dX10_tripNow_56 rfl ?_
  have m1 : v115 = nI (1 - k) := by rw [ev115]; exact tw_1k hk
  rw [m1]
  refine tw_bl (tw_callS (M := mX10_tripNow) (pc := 58) okX10_given dX10_tripNow_58 w_1366 [.ref r93, .int (nI (1 - k)), .long v90] [] rfl rfl ⟨by decide, by decide⟩ (Nat.le_of_ble_eq_true rfl) (c3_X10_given d g τ h sp0.1 r93 q91k.1 b (by omega) id96 (1 - k) (by omega) v90 ((tw_gv k (tw_DN (g.1 (480 + 64 * a))) (tw_DN (g.1 (480 + 64 * a + 1))) n) - tw_up3 (tw_gv k (tw_DN (g.1 (480 + 64 * a))) (tw_DN (g.1 (480 + 64 * a + 1))) n) (tw_DN (g.1 (448 + 8 * a + b)))) ar9 (by omega) _ _ Eb.1.2.2 Eb.1.1 Eb.1.2.1 Eb.2.1.2 Eb.2.1.1) 0 0 (Nat.le_of_ble_eq_true rfl) (Nat.le_of_ble_eq_true rfl)) (fun r118 h117 q116 => ?_) (fun E h1 q => q.elim)
  obtain ⟨q116e, q116v⟩ := q116
  rw [q116e]
  have glb := tw_gv_le (k := (1 - k)) (r := (tw_DN (g.1 (480 + 64 * b)))) (c := (tw_DN (g.1 (480 + 64 * b + 1)))) (a := ((tw_gv k (tw_DN (g.1 (480 + 64 * a))) (tw_DN (g.1 (480 + 64 * a + 1))) n) - tw_up3 (tw_gv k (tw_DN (g.1 (480 + 64 * a))) (tw_DN (g.1 (480 + 64 * a + 1))) n) (tw_DN (g.1 (448 + 8 * a + b))))) Eb.1.1 Eb.1.2.1
  refine tw_lstore [(8, .long r118), (6, .long v90), (0, .ref x), (1, .int (nI a)), (2, .int (nI b)), (3, .int (nI k)), (4, .long gr)] dX10_tripNow_61 (by decide) rfl ?_
  refine tw_lload 0 dX10_tripNow_63 rfl ?_
  refine tw_lload 0 dX10_tripNow_65 rfl ?_
  refine tw_aload_n 2 dX10_tripNow_67 rfl rfl ?_
  refine tw_get (v := .ref fr_6) rfl in_14 4 dX10_tripNow_68 w_1155 rfl (by decide) f2 rfl ?_
  refine tw_iload_n 4 dX10_tripNow_71 rfl rfl ?_
  obtain ⟨q119, k120, k121, iq122⟩ := k69 ((nI b)).toNatClampNeg (by rw [nI_clamp (by omega)]; omega)
  refine tw_aald (v := .ref q119) 8 rfl rfl dX10_tripNow_72 f71 (vp_in_nI (by omega) (by decide)) (by rw [k120]; rfl) ?_
  have id123 : g.2 (4096 + q119) = 448 + 8 * b := by have z := iq122; rw [nI_clamp (by omega), k31] at z; exact z
  refine tw_iload_n 3 dX10_tripNow_73 rfl rfl ?_
  obtain ⟨e124, f125, F126, rfl, ⟨b128, ow129, wv130⟩⟩ := sp0.1 q119 6 k121 (by decide)
  obtain rfl : b128 = (448 + 8 * b) := ow129.b id123
  have ev131 : F126 ((nI a)).toNatClampNeg = (g.1 ((448 + 8 * b) + a)) := by rw [nI_clamp (by omega)]; exact wv130 a (by omega)
  refine tw_iald (v := (g.1 ((448 + 8 * b) + a))) dX10_tripNow_74 f125 (vp_in_nI (by omega) (by decide)) ev131 ?_
  refine tw_i2l dX10_tripNow_75 ?_
  refine tw_nml (fun v132 ev132 => ?_)
  refine tw_lmul dX10_tripNow_76 ?_
  refine tw_nml (fun v133 ev133 => ?_)
  refine tw_ldc2 (v := 1000) dX10_tripNow_77 w_1370 ?_
  have fb := (Eb.2.2 a (by omega))
  have zb : (tw_gv (1 - k) (tw_DN (g.1 (480 + 64 * b))) (tw_DN (g.1 (480 + 64 * b + 1))) ((tw_gv k (tw_DN (g.1 (480 + 64 * a))) (tw_DN (g.1 (480 + 64 * a + 1))) n) - tw_up3 (tw_gv k (tw_DN (g.1 (480 + 64 * a))) (tw_DN (g.1 (480 + 64 * a + 1))) n) (tw_DN (g.1 (448 + 8 * a + b))))) * (tw_DN (g.1 (448 + 8 * b + a))) ≤ 80000000 * 1000 := tw_mul_lt (by omega) (by omega)
  have ub : v133 = tw_L ((tw_gv (1 - k) (tw_DN (g.1 (480 + 64 * b))) (tw_DN (g.1 (480 + 64 * b + 1))) ((tw_gv k (tw_DN (g.1 (480 + 64 * a))) (tw_DN (g.1 (480 + 64 * a + 1))) n) - tw_up3 (tw_gv k (tw_DN (g.1 (480 + 64 * a))) (tw_DN (g.1 (480 + 64 * a + 1))) n) (tw_DN (g.1 (448 + 8 * a + b))))) * (tw_DN (g.1 (448 + 8 * b + a)))) := by rw [ev133, q116v, ev132, fb.2, tw_L_i (by have := fb.1; omega), ← fb.2]; exact tw_L_mul (by omega) (by omega) (by omega)
  refine tw_bl (tw_callS (M := mX10_tripNow) (pc := 80) okX10_up dX10_tripNow_80 w_1371 [.long v133, .long 1000] [.long r118] rfl rfl ⟨by decide, by decide⟩ (Nat.le_of_ble_eq_true rfl) (c3_X10_up d g τ h sp0.1 v133 1000 ((tw_gv (1 - k) (tw_DN (g.1 (480 + 64 * b))) (tw_DN (g.1 (480 + 64 * b + 1))) ((tw_gv k (tw_DN (g.1 (480 + 64 * a))) (tw_DN (g.1 (480 + 64 * a + 1))) n) - tw_up3 (tw_gv k (tw_DN (g.1 (480 + 64 * a))) (tw_DN (g.1 (480 + 64 * a + 1))) n) (tw_DN (g.1 (448 + 8 * a + b))))) * (tw_DN (g.1 (448 + 8 * b + a)))) 1000 ub rfl (by decide) (by omega)) 0 0 (Nat.le_of_ble_eq_true rfl) (Nat.le_of_ble_eq_true rfl)) (fun r136 h135 q134 => ?_) (fun E h1 q => q.elim)
  obtain ⟨q134e, q134v⟩ := q134
  rw [q134e]
  refine tw_lsub dX10_tripNow_83 ?_
  refine tw_nml (fun v137 ev137 => ?_)
  exact tw_lret dX10_tripNow_84 rfl (Or.inl ⟨_, rfl, rfl, by rw [ev137, q116v, q134v]; exact tw_up3_L (by omega) (by omega)⟩)

/-! the best trip: what the loops have found so far -/
def tw_bs (T : Nat → Nat) (f n : Nat) : Nat → Option Nat × Nat
  | 0 => (none, n)
  | j + 1 => if j ≠ f ∧ (tw_bs T f n j).2 < T j then (some j, T j) else tw_bs T f n j
def tw_bno (o : Option Nat) : Int32 := match o with
  | some j => nI j
  | none => -1
theorem tw_bs_skip {T : Nat → Nat} {f n j : Nat} (h : j = f ∨ ¬ (tw_bs T f n j).2 < T j) : tw_bs T f n (j + 1) = tw_bs T f n j := if_neg (fun z => h.elim z.1 (fun q => q z.2))
theorem tw_bs_take {T : Nat → Nat} {f n j : Nat} (h1 : j ≠ f) (h2 : (tw_bs T f n j).2 < T j) : tw_bs T f n (j + 1) = (some j, T j) := if_pos ⟨h1, h2⟩
theorem tw_bs_congr {T T' : Nat → Nat} {f n : Nat} : ∀ j, (∀ i, i < j → T i = T' i) → tw_bs T f n j = tw_bs T' f n j
  | 0, _ => rfl
  | j + 1, h => by
    show (if j ≠ f ∧ (tw_bs T f n j).2 < T j then _ else _) = if j ≠ f ∧ (tw_bs T' f n j).2 < T' j then _ else _
    rw [tw_bs_congr j (fun i hi => h i (by omega)), h j (by omega)]
theorem tw_bs_lt {T : Nat → Nat} {f n m : Nat} (hn : n < m) : ∀ j, (∀ i, i < j → T i < m) → (tw_bs T f n j).2 < m
  | 0, _ => hn
  | j + 1, h => by
    show (if j ≠ f ∧ (tw_bs T f n j).2 < T j then (some j, T j) else tw_bs T f n j).2 < m
    split
    · exact h j (by omega)
    · exact tw_bs_lt hn j (fun i hi => h i (by omega))
theorem tw_bs_none {T : Nat → Nat} {f n : Nat} : ∀ j, (tw_bs T f n j).1 = none → (tw_bs T f n j).2 = n
  | 0, _ => rfl
  | j + 1, h => by
    by_cases q : j ≠ f ∧ (tw_bs T f n j).2 < T j
    · rw [tw_bs_take q.1 q.2] at h; cases h
    · have e : tw_bs T f n (j + 1) = tw_bs T f n j := if_neg q
      rw [e] at h ⊢
      exact tw_bs_none j h
theorem tw_bs_some {T : Nat → Nat} {f n b : Nat} : ∀ j, (tw_bs T f n j).1 = some b → b < j ∧ (tw_bs T f n j).2 = T b ∧ n < T b
  | 0, h => by cases h
  | j + 1, h => by
    by_cases q : j ≠ f ∧ (tw_bs T f n j).2 < T j
    · rw [tw_bs_take q.1 q.2] at h ⊢
      have e := Option.some.inj h
      rw [← e]
      refine ⟨by omega, rfl, ?_⟩
      have l := q.2
      cases z : (tw_bs T f n j).1 with
      | none => rw [tw_bs_none j z] at l; exact l
      | some c => have s := tw_bs_some j z; omega
    · have e : tw_bs T f n (j + 1) = tw_bs T f n j := if_neg q
      rw [e] at h ⊢
      have s := tw_bs_some j h
      exact ⟨by omega, s.2⟩
theorem tw_bno_no {o : Option Nat} (h : tw_bno o = -1) (hb : ∀ b, o = some b → b < 10) : o = none := by
  cases o with
  | none => rfl
  | some b =>
    have l := hb b rfl
    have z := congrArg Int32.toInt h
    rw [show tw_bno (some b) = nI b from rfl, nI_toInt (by omega), show (-1 : Int32).toInt = -1 by decide] at z
    omega
/-- over the class's numbers, over the reference's -/
def tw_bC (g : tw_G) (f k n j : Nat) : Option Nat × Nat := tw_bs (fun i => tw_tC g f i k n) f n j
def tw_bM (g : tw_G) (f k n j : Nat) : Option Nat × Nat := tw_bs (fun i => tw_tM g f i k n) f n j
theorem tw_tC_lt {g : tw_G} {a b k n : Nat} (he : tw_EC g) (ha : a < g.2 6) (hb : b < g.2 6) (hn : n ≤ 99999) : tw_tC g a b k n < 2 ^ 31 := tw_tp_lt (he a ha).1.1 (he a ha).1.2.1 (he b hb).1.1 (he b hb).1.2.1 hn
theorem tw_tM_lt {g : tw_G} {a b k n : Nat} (he : tw_EM g) (ha : a < g.2 3) (hb : b < g.2 3) (hn : n ≤ 99999) : tw_tM g a b k n < 2 ^ 31 := tw_tp_lt (he a ha).1.1 (he a ha).1.2.1 (he b hb).1.1 (he b hb).1.2.1 hn
theorem tw_bC_lt {g : tw_G} {f k n j : Nat} (he : tw_EC g) (hf : f < g.2 6) (hj : j ≤ g.2 6) (hn : n ≤ 99999) : (tw_bC g f k n j).2 < 2 ^ 31 := tw_bs_lt (by omega) j (fun i hi => tw_tC_lt he hf (by omega) hn)
theorem tw_own2 {d : tw_D} {g : tw_G} {τ : tw_K} {h : tw_H} {a b : Nat} (hw : tw_wt d g τ h) (ka : τ a = 2) (kb : τ b = 2) (e : g.2 (4096 + a) = g.2 (4096 + b)) : a = b := by
  obtain ⟨_, _, _, _, _, _, _, _, _, _, _, _, _, _, _, _, _, _, _, _, _, oa, _⟩ := hw a 2 ka (by decide)
  obtain ⟨_, _, _, _, _, _, _, _, _, _, _, _, _, _, _, _, _, _, _, _, _, ob, _⟩ := hw b 2 kb (by decide)
  have ea := oa.2.2.2.2
  have eb := ob.2.2.2.2
  rw [oa.2.2.2.1, ob.2.2.2.1, ← ea, ← eb, e]
theorem tw_cmp_gt {a b : Nat} (ha : a < 2 ^ 63) (hb : b < 2 ^ 63) : 0 < lg_cmp (tw_L a) (tw_L b) ↔ b < a := by
  unfold lg_cmp
  have e : tw_L a > tw_L b ↔ b < a := by
    show tw_L b < tw_L a ↔ _
    rw [Int64.lt_iff_toInt_lt, tw_L_toInt ha, tw_L_toInt hb]
    omega
  by_cases q : b < a
  · rw [if_pos (e.mpr q)]
    exact ⟨fun _ => q, fun _ => by decide⟩
  · rw [if_neg (fun z => q (e.mp z))]
    split
    · exact ⟨fun z => absurd z (by decide), fun z => absurd z q⟩
    · exact ⟨fun z => absurd z (by decide), fun z => absurd z q⟩
theorem tw_nIle {a b : Nat} (ha : a < 2 ^ 31) (hb : b < 2 ^ 31) : nI a ≤ nI b ↔ a ≤ b := by
  rw [Int32.le_iff_toInt_le, nI_toInt ha, nI_toInt hb]
  omega
theorem tw_bs_up {T : Nat → Nat} {f n : Nat} (j : Nat) {m : Nat} (h : (tw_bs T f n j).2 < m) : n < m := by
  cases z : (tw_bs T f n j).1 with
  | none => rw [tw_bs_none j z] at h; exact h
  | some b => have s := tw_bs_some j z; omega
/-! rest: no trip from anywhere brings more -/
def tw_rb (B : Nat → Nat → Option Nat) : Nat → Bool
  | 0 => true
  | j + 1 => tw_rb B j && (B j 0).isNone && (B j 1).isNone
def tw_rbi (b : Bool) : Int32 := if b then 1 else 0
theorem tw_rb_s {B : Nat → Nat → Option Nat} {j : Nat} (h : tw_rb B j = true) (h0 : B j 0 = none) (h1 : B j 1 = none) : tw_rb B (j + 1) = true := by
  show (tw_rb B j && (B j 0).isNone && (B j 1).isNone) = true
  rw [h, h0, h1]
  rfl
theorem tw_rb_f {B : Nat → Nat → Option Nat} {i k : Nat} (hk : k < 2) (h : B i k ≠ none) : ∀ j, i < j → tw_rb B j = false
  | 0, z => absurd z (Nat.not_lt_zero _)
  | j + 1, z => by
    show (tw_rb B j && (B j 0).isNone && (B j 1).isNone) = false
    by_cases q : i = j
    · subst q
      rcases (show k = 0 ∨ k = 1 by omega) with rfl | rfl
      · cases y : B i 0 with
        | none => exact absurd y h
        | some w => simp
      · cases y : B i 1 with
        | none => exact absurd y h
        | some w => simp
    · rw [tw_rb_f hk h j (by omega)]
      rfl
theorem tw_rb_congr {B C : Nat → Nat → Option Nat} : ∀ j, (∀ i, i < j → ∀ k, k < 2 → B i k = C i k) → tw_rb B j = tw_rb C j
  | 0, _ => rfl
  | j + 1, h => by
    show (tw_rb B j && (B j 0).isNone && (B j 1).isNone) = (tw_rb C j && (C j 0).isNone && (C j 1).isNone)
    rw [tw_rb_congr j (fun i hi => h i (by omega)), h j (by omega) 0 (by decide), h j (by omega) 1 (by decide)]
def tw_rC (g : tw_G) (n j : Nat) : Bool := tw_rb (fun i k => (tw_bC g i k n (g.2 6)).1) j
def tw_rM (g : tw_G) (n j : Nat) : Bool := tw_rb (fun i k => (tw_bM g i k n (g.2 3)).1) j
theorem tw_bC_no {g : tw_G} {f k n : Nat} {r : Int32} (h4 : g.2 6 ≤ 4) (e : r = tw_bno (tw_bC g f k n (g.2 6)).1) (h : r = -1) : (tw_bC g f k n (g.2 6)).1 = none := tw_bno_no (e ▸ h) (fun b z => by have y := tw_bs_some _ z; omega)
theorem tw_bC_so {g : tw_G} {f k n : Nat} {r : Int32} (e : r = tw_bno (tw_bC g f k n (g.2 6)).1) (h : ¬ r = -1) : (tw_bC g f k n (g.2 6)).1 ≠ none := fun z => h (by rw [e, z]; rfl)
theorem tw_bM_no {g : tw_G} {f k n : Nat} {r : Int32} (h4 : g.2 3 ≤ 4) (e : r = tw_bno (tw_bM g f k n (g.2 3)).1) (h : r = -1) : (tw_bM g f k n (g.2 3)).1 = none := tw_bno_no (e ▸ h) (fun b z => by have y := tw_bs_some _ z; omega)
theorem tw_bM_so {g : tw_G} {f k n : Nat} {r : Int32} (e : r = tw_bno (tw_bM g f k n (g.2 3)).1) (h : ¬ r = -1) : (tw_bM g f k n (g.2 3)).1 ≠ none := fun z => h (by rw [e, z]; rfl)
set_option maxHeartbeats 4000000 in
set_option maxRecDepth 100000 in
theorem c3_X5_bestOver (d : tw_D) (g : tw_G) (τ : tw_K) (h : tw_H) (hw : tw_wt d g τ h) (x : Nat) (kx : τ x = 11) (a : Nat) (ka : τ a = 2) (ja : Nat) (hja : ja < g.2 6) (hba : g.2 (4096 + a) = 160 + 64 * ja) (k : Nat) (hk : k < 2) (gr : Int32) (n : Nat) (en : gr = nI n) (hn : n ≤ 99999) (he : tw_EC g) : tw_Ct d mX5_bestOver 0 0 [.ref x, .ref a, .int (nI k), .int gr] h (tw_qi (fun r h1 => h1 = h ∧ r = tw_bno (tw_bC g ja k n (g.2 6)).1) tw_nx) := by
  refine tw_of (by decide +kernel) (Nat.le_of_ble_eq_true rfl) ?_
  show tw_W d mX5_bestOver _ 0 [(0, .ref x), (1, .ref a), (2, .int (nI k)), (3, .int gr)] [] h 0 0
  have sp0 := tw_sp.rf hw
  have b9 := (tw_b678 hw kx).1
  refine tw_iconst (v := -1) dX5_bestOver_0 (by decide) ?_
  refine tw_istore [(4, .int (-1)), (0, .ref x), (1, .ref a), (2, .int (nI k)), (3, .int gr)] dX5_bestOver_1 (by decide) rfl ?_
  refine tw_iload_n 4 dX5_bestOver_3 rfl rfl ?_
  refine tw_istore [(5, .int gr), (4, .int (-1)), (0, .ref x), (1, .ref a), (2, .int (nI k)), (3, .int gr)] dX5_bestOver_4 (by decide) rfl ?_
  refine tw_aload_n 2 dX5_bestOver_6 rfl rfl ?_
  obtain ⟨e1, f2, td_3, ca_4, ha_5, da_6, c1_7, c2_8, c3_9, c4_10, rfl, k11, k12, k13, k14, k15, k16, k17, k18, k19, k20, k21, k22, k23, k24, k25, k26, k27⟩ := sp0.1 x 11 kx (by decide)
  refine tw_get (v := .ref ca_4) rfl in_9 2 dX5_bestOver_7 w_142 rfl (by decide) f2 rfl ?_
  refine tw_astore [(6, .ref ca_4), (5, .int gr), (4, .int (-1)), (0, .ref x), (1, .ref a), (2, .int (nI k)), (3, .int gr)] dX5_bestOver_10 (by decide) rfl ?_
  refine tw_aload 0 dX5_bestOver_12 rfl ?_
  obtain ⟨e28, f29, F30, rfl, k31, pn32, pb33, px34, pf35⟩ := sp0.1 ca_4 8 k11 (by decide)
  refine tw_alen (v := nI 4) 4 rfl dX5_bestOver_14 f29 rfl ?_
  refine tw_istore [(7, .int (nI 4)), (6, .ref ca_4), (5, .int gr), (4, .int (-1)), (0, .ref x), (1, .ref a), (2, .int (nI k)), (3, .int gr)] dX5_bestOver_15 (by decide) rfl ?_
  refine tw_iconst (v := 0) dX5_bestOver_17 (by decide) ?_
  refine tw_istore [(8, .int 0), (7, .int (nI 4)), (6, .ref ca_4), (5, .int gr), (4, .int (-1)), (0, .ref x), (1, .ref a), (2, .int (nI k)), (3, .int gr)] dX5_bestOver_18 (by decide) rfl ?_
  have L41 : ∀ (r39 k38 : Nat) (x36 : Int32) (x37 : Int32) (li45 : x36 = tw_bno (tw_bC g ja k n (min k38 (g.2 6))).1 ∧ x37 = nI (tw_bC g ja k n (min k38 (g.2 6))).2), 4 + 1 ≤ k38 + r39 → k38 ≤ 4 → tw_W d mX5_bestOver (tw_qi (fun r h1 => h1 = h ∧ r = tw_bno (tw_bC g ja k n (g.2 6)).1) tw_nx) 20 [(0, .ref x), (1, .ref a), (2, .int (nI k)), (3, .int gr), (4, .int x36), (5, .int x37), (6, .ref ca_4), (7, .int (nI 4)), (8, .int (nI k38))] [] h 0 0 := by
    intro r39
    induction r39 with
    | zero => intro k38 x36 x37 li45 hk46 hk47; exact absurd hk46 (by omega)
    | succ r39 ih40 =>
      intro k38 x36 x37 li45 hk46 hk47
      refine tw_iload 8 dX5_bestOver_20 rfl ?_
      refine tw_iload 7 dX5_bestOver_22 rfl ?_
      refine tw_icmp_ge 79 dX5_bestOver_24 (by decide) (fun c48 => ?_) (fun c48 => ?_)
      · refine tw_iload 4 dX5_bestOver_79 rfl ?_
        exact tw_iret dX5_bestOver_81 rfl (Or.inl ⟨_, rfl, rfl, by have z := tw_kge c48 (by omega); have z2 := li45.1; rw [show min k38 (g.2 6) = g.2 6 by omega] at z2; exact z2⟩)
      · have kl49 := tw_klt (N := 4) c48 hk47 (by decide)
        refine tw_aload 6 dX5_bestOver_27 rfl ?_
        refine tw_iload 8 dX5_bestOver_29 rfl ?_
        cases k50 : F30 ((nI k38)).toNatClampNeg with
        | none =>
          refine tw_aald (v := .null) 4 rfl rfl dX5_bestOver_31 f29 (vp_in_nI (by omega) (by decide)) (by rw [k50]; rfl) ?_
          refine tw_astoreN [(9, .null), (0, .ref x), (1, .ref a), (2, .int (nI k)), (3, .int gr), (4, .int x36), (5, .int x37), (6, .ref ca_4), (7, .int (nI 4)), (8, .int (nI k38))] dX5_bestOver_32 (by decide) rfl ?_
          have hv9 := k50
          rw [nI_clamp (by omega)] at hv9
          have pn9 := pn32 k38 (by omega)
          have hk9 : g.2 6 ≤ k38 := pn9.mp hv9
          have mn9 : min (k38 + 1) (g.2 6) = min k38 (g.2 6) := by omega
          refine tw_aloadN 0 dX5_bestOver_34 rfl ?_
          refine tw_ifnullN 73 dX5_bestOver_36 (by decide) ?_
          obtain ⟨v52, ev52⟩ : ∃ y : Int32, y = (nI k38) + 1 := ⟨_, rfl⟩
          refine tw_iinc [(8, .int v52), (9, .null), (0, .ref x), (1, .ref a), (2, .int (nI k)), (3, .int gr), (4, .int x36), (5, .int x37), (6, .ref ca_4), (7, .int (nI 4))] 9 dX5_bestOver_73 rfl (by rw [ev52]; rfl) (by decide) rfl ?_
          refine tw_goto 20 dX5_bestOver_76 (by decide) ?_
          have qv52 := tw_nI3 ev52
          rw [qv52]
          refine tw_lv [2, 3, 4, 5, 6, 7, 8, 9, 0] rfl ?_
          exact ih40 (k38 + 1) x36 x37 (⟨by rw [mn9]; exact li45.1, by rw [mn9]; exact li45.2⟩) (by omega) (by omega)
        | some q51 =>
          have k53 := k31 _ _ k50
          refine tw_aald (v := .ref q51) 4 rfl rfl dX5_bestOver_31 f29 (vp_in_nI (by omega) (by decide)) (by rw [k50]; rfl) ?_
          refine tw_astore [(9, .ref q51), (0, .ref x), (1, .ref a), (2, .int (nI k)), (3, .int gr), (4, .int x36), (5, .int x37), (6, .ref ca_4), (7, .int (nI 4)), (8, .int (nI k38))] dX5_bestOver_32 (by decide) rfl ?_
          have hv9 := k50
          rw [nI_clamp (by omega)] at hv9
          have pn9 := pn32 k38 (by omega)
          have hk9 : k38 < g.2 6 := by rcases Nat.lt_or_ge k38 (g.2 6) with z | z; exact z; rw [pn9.mpr z] at hv9; cases hv9
          have bq9 : g.2 (4096 + q51) = 160 + 64 * k38 := pf35 _ _ hv9
          have m09 : min k38 (g.2 6) = k38 := by omega
          have m19 : min (k38 + 1) (g.2 6) = k38 + 1 := by omega
          refine tw_aload 0 dX5_bestOver_34 rfl ?_
          refine tw_ifnull dX5_bestOver_36 ?_
          refine tw_aload 0 dX5_bestOver_39 rfl ?_
          refine tw_aload_n 2 dX5_bestOver_41 rfl rfl ?_
          refine tw_acmp_eq (rx := (some q51)) (ry := (some a)) 73 dX5_bestOver_42 (by decide) (fun c54 => ?_) (fun c54 => ?_)
          · have ej9 : k38 = ja := by have z := Option.some.inj c54; have z2 := bq9; rw [z, hba] at z2; omega
            have st9 : (tw_bC g ja k n (min (k38 + 1) (g.2 6))) = (tw_bC g ja k n (min k38 (g.2 6))) := by rw [m09, m19]; exact tw_bs_skip (Or.inl ej9)
            obtain ⟨v55, ev55⟩ : ∃ y : Int32, y = (nI k38) + 1 := ⟨_, rfl⟩
            refine tw_iinc [(8, .int v55), (9, .ref q51), (0, .ref x), (1, .ref a), (2, .int (nI k)), (3, .int gr), (4, .int x36), (5, .int x37), (6, .ref ca_4), (7, .int (nI 4))] 9 dX5_bestOver_73 rfl (by rw [ev55]; rfl) (by decide) rfl ?_
            refine tw_goto 20 dX5_bestOver_76 (by decide) ?_
            have qv55 := tw_nI3 ev55
            rw [qv55]
            refine tw_lv [2, 3, 4, 5, 6, 7, 8, 9, 0] rfl ?_
            exact ih40 (k38 + 1) x36 x37 (⟨by rw [st9]; exact li45.1, by rw [st9]; exact li45.2⟩) (by omega) (by omega)
          · have nj9 : k38 ≠ ja := fun z => c54 (congrArg some (tw_own2 sp0.1 k53 ka (by rw [bq9, hba, z])))
            refine tw_aload_n 2 dX5_bestOver_45 rfl rfl ?_
            refine tw_aload 0 dX5_bestOver_46 rfl ?_
            refine tw_iload_n 3 dX5_bestOver_48 rfl rfl ?_
            refine tw_iload_n 4 dX5_bestOver_49 rfl rfl ?_
            have Ea := he ja hja
            have Eb := he k38 hk9
            have Ef := Ea.2.2 k38 (by omega)
            refine tw_bi (tw_callS (M := mX5_bestOver) (pc := 50) okX5_comesOfTrip dX5_bestOver_50 w_296 [.ref a, .ref q51, .int (nI k), .int gr] [] rfl rfl ⟨by decide, by decide⟩ (Nat.le_of_ble_eq_true rfl) (c3_X5_comesOfTrip d g τ h sp0.1 a ka ja (by omega) hba q51 k53 k38 (by omega) bq9 k hk gr n en hn _ _ Ea.1.2.2 Ea.1.1 Ea.1.2.1 Ea.2.1.2 Ea.2.1.1 _ _ Eb.1.2.2 Eb.1.1 Eb.1.2.1 Eb.2.1.2 Eb.2.1.1 _ Ef.2 Ef.1) 0 0 (Nat.le_of_ble_eq_true rfl) (Nat.le_of_ble_eq_true rfl)) (fun r58 h57 q56 => ?_) (fun E h1 q => q.elim)
            obtain ⟨q56e, q56v⟩ := q56
            rw [q56e]
            have rv9 : r58 = nI (tw_tC g ja k38 k n) := q56v
            refine tw_istore [(10, .int r58), (9, .ref q51), (0, .ref x), (1, .ref a), (2, .int (nI k)), (3, .int gr), (4, .int x36), (5, .int x37), (6, .ref ca_4), (7, .int (nI 4)), (8, .int (nI k38))] dX5_bestOver_53 (by decide) rfl ?_
            refine tw_iload 0 dX5_bestOver_55 rfl ?_
            refine tw_iload 7 dX5_bestOver_57 rfl ?_
            refine tw_icmp_le 73 dX5_bestOver_59 (by decide) (fun c59 => ?_) (fun c59 => ?_)
            · have bl9 := tw_bC_lt (j := k38) (k := k) he hja (by omega) hn
              have tl9 := tw_tC_lt (k := k) he hja hk9 hn
              have h29 := li45.2
              rw [m09] at h29
              have st9 : (tw_bC g ja k n (min (k38 + 1) (g.2 6))) = (tw_bC g ja k n (min k38 (g.2 6))) := by rw [m09, m19]; exact tw_bs_skip (Or.inr (Nat.not_lt.mpr ((tw_nIle tl9 bl9).mp (by rw [← h29, ← rv9]; exact c59))))
              obtain ⟨v60, ev60⟩ : ∃ y : Int32, y = (nI k38) + 1 := ⟨_, rfl⟩
              refine tw_iinc [(8, .int v60), (10, .int r58), (9, .ref q51), (0, .ref x), (1, .ref a), (2, .int (nI k)), (3, .int gr), (4, .int x36), (5, .int x37), (6, .ref ca_4), (7, .int (nI 4))] 10 dX5_bestOver_73 rfl (by rw [ev60]; rfl) (by decide) rfl ?_
              refine tw_goto 20 dX5_bestOver_76 (by decide) ?_
              have qv60 := tw_nI3 ev60
              rw [qv60]
              refine tw_lv [3, 4, 5, 6, 7, 8, 9, 10, 0] rfl ?_
              exact ih40 (k38 + 1) x36 x37 (⟨by rw [st9]; exact li45.1, by rw [st9]; exact li45.2⟩) (by omega) (by omega)
            · have bl9 := tw_bC_lt (j := k38) (k := k) he hja (by omega) hn
              have tl9 := tw_tC_lt (k := k) he hja hk9 hn
              have h29 := li45.2
              rw [m09] at h29
              have st9 : (tw_bC g ja k n (min (k38 + 1) (g.2 6))) = (some k38, tw_tC g ja k38 k n) := by rw [m19]; exact tw_bs_take nj9 (Nat.not_le.mp (fun z => c59 (by rw [h29, rv9]; exact (tw_nIle tl9 bl9).mpr z)))
              refine tw_iload 0 dX5_bestOver_62 rfl ?_
              refine tw_istore [(5, .int r58), (10, .int r58), (9, .ref q51), (0, .ref x), (1, .ref a), (2, .int (nI k)), (3, .int gr), (4, .int x36), (6, .ref ca_4), (7, .int (nI 4)), (8, .int (nI k38))] dX5_bestOver_64 (by decide) rfl ?_
              refine tw_aload 2 dX5_bestOver_66 rfl ?_
              obtain ⟨e61, f62, n_63, r_64, c_65, go_66, so_67, v_68, rd_69, rf_70, t_71, rfl, k72, k73, k74, k75, k76, k77, k78, k79, k80⟩ := sp0.1 q51 2 k53 (by decide)
              obtain ⟨j81, ow82, fn9, fr9, fc9, fg9, fs9, q83, q84, q85, q86⟩ := k80
              obtain rfl : k38 = j81 := by have z := ow82.b bq9; omega
              subst fn9 fr9 fc9 fg9 fs9
              refine tw_getN (v := .int (nI k38)) rfl in_4 0 dX5_bestOver_68 w_502 rfl (by decide) f62 rfl ?_
              refine tw_istore [(4, .int (nI k38)), (5, .int r58), (10, .int r58), (9, .ref q51), (0, .ref x), (1, .ref a), (2, .int (nI k)), (3, .int gr), (6, .ref ca_4), (7, .int (nI 4)), (8, .int (nI k38))] dX5_bestOver_71 (by decide) rfl ?_
              obtain ⟨v87, ev87⟩ : ∃ y : Int32, y = (nI k38) + 1 := ⟨_, rfl⟩
              refine tw_iinc [(8, .int v87), (4, .int (nI k38)), (5, .int r58), (10, .int r58), (9, .ref q51), (0, .ref x), (1, .ref a), (2, .int (nI k)), (3, .int gr), (6, .ref ca_4), (7, .int (nI 4))] 10 dX5_bestOver_73 rfl (by rw [ev87]; rfl) (by decide) rfl ?_
              refine tw_goto 20 dX5_bestOver_76 (by decide) ?_
              have qv87 := tw_nI3 ev87
              rw [qv87]
              refine tw_lv [5, 6, 7, 8, 1, 2, 9, 10, 0] rfl ?_
              exact ih40 (k38 + 1) (nI k38) r58 (⟨by rw [st9]; rfl, by rw [st9]; exact rv9⟩) (by omega) (by omega)
  refine tw_lv [5, 6, 7, 8, 4, 3, 2, 1, 0] rfl ?_
  exact L41 (4 + 1) 0 (-1) gr (⟨rfl, en⟩) (by omega) (by omega)

set_option maxHeartbeats 4000000 in
set_option maxRecDepth 100000 in
theorem c3_X10_bestTripNow (d : tw_D) (g : tw_G) (τ : tw_K) (h : tw_H) (hw : tw_wt d g τ h) (x : Nat) (kx : τ x = 36) (a : Nat) (ha : a < g.2 3) (k : Nat) (hk : k < 2) (gr : Int32) (n : Nat) (en : gr = nI n) (hn : n ≤ 99999) (he : tw_EM g) : tw_Ct d mX10_bestTripNow 0 0 [.ref x, .int (nI a), .int (nI k), .int gr] h (tw_qi (fun r h1 => h1 = h ∧ r = tw_bno (tw_bM g a k n (g.2 3)).1) tw_nx) := by
  refine tw_of (by decide +kernel) (Nat.le_of_ble_eq_true rfl) ?_
  show tw_W d mX10_bestTripNow _ 0 [(0, .ref x), (1, .int (nI a)), (2, .int (nI k)), (3, .int gr)] [] h 0 0
  have sp0 := tw_sp.rf hw
  have b9 := tw_b3 hw kx
  refine tw_iconst (v := -1) dX10_bestTripNow_0 (by decide) ?_
  refine tw_istore [(4, .int (-1)), (0, .ref x), (1, .int (nI a)), (2, .int (nI k)), (3, .int gr)] dX10_bestTripNow_1 (by decide) rfl ?_
  refine tw_iconst (v := 0) dX10_bestTripNow_3 (by decide) ?_
  refine tw_istore [(5, .int 0), (4, .int (-1)), (0, .ref x), (1, .int (nI a)), (2, .int (nI k)), (3, .int gr)] dX10_bestTripNow_4 (by decide) rfl ?_
  have L5 : ∀ (r3 k2 : Nat) (x1 : Int32) (li8 : x1 = tw_bno (tw_bM g a k n k2).1), (g.2 3) + 1 ≤ k2 + r3 → k2 ≤ (g.2 3) → tw_W d mX10_bestTripNow (tw_qi (fun r h1 => h1 = h ∧ r = tw_bno (tw_bM g a k n (g.2 3)).1) tw_nx) 6 [(0, .ref x), (1, .int (nI a)), (2, .int (nI k)), (3, .int gr), (4, .int x1), (5, .int (nI k2))] [] h 0 0 := by
    intro r3
    induction r3 with
    | zero => intro k2 x1 li8 hk9 hk10; exact absurd hk9 (by omega)
    | succ r3 ih4 =>
      intro k2 x1 li8 hk9 hk10
      refine tw_iload 5 dX10_bestTripNow_6 rfl ?_
      refine tw_aload_n 0 dX10_bestTripNow_8 rfl rfl ?_
      obtain ⟨e11, f12, th_13, td_14, ds_15, fr_16, ca_17, us_18, wo_19, cm_20, lc_21, lh_22, ld_23, rfl, k24, k25, k26, k27, k28, k29, k30, k31, k32, k33, k34, k35, k36, k37, k38, k39, k40, k41, k42, k43, k44, k45⟩ := sp0.1 x 36 kx (by decide)
      refine tw_get (v := .ref lc_21) rfl in_14 9 dX10_bestTripNow_9 w_1160 rfl (by decide) f12 rfl ?_
      obtain ⟨e46, f47, ⟨el48, rfl, k49⟩, k50⟩ := sp0.1 lc_21 24 k30 (by decide)
      refine tw_bi (tw_callV (M := mX10_bestTripNow) (pc := 12) okJx4a65c_size_8abf5 dX10_bestTripNow_12 w_1204 rfl f47 [] [.int (nI k2)] rfl rfl ⟨by decide, by decide⟩ (Nat.le_of_ble_eq_true rfl) (c24_size d g τ h sp0.1 lc_21 k30) 0 0 (Nat.le_of_ble_eq_true rfl) (Nat.le_of_ble_eq_true rfl)) (fun r53 h52 q51 => ?_) (fun E h1 q => q.elim)
      obtain ⟨q51e, q51r⟩ := q51
      rw [q51e, q51r]
      refine tw_icmp_ge 83 dX10_bestTripNow_15 (by decide) (fun c54 => ?_) (fun c54 => ?_)
      · refine tw_iload 4 dX10_bestTripNow_83 rfl ?_
        exact tw_iret dX10_bestTripNow_85 rfl (Or.inl ⟨_, rfl, rfl, by have z := tw_kge c54 (by omega); have z2 := li8; rw [show k2 = g.2 3 by omega] at z2; exact z2⟩)
      · have kl55 : k2 < (g.2 3) := tw_klt (N := (g.2 3)) c54 hk10 (by omega)
        refine tw_iload 5 dX10_bestTripNow_18 rfl ?_
        refine tw_iload_n 1 dX10_bestTripNow_20 rfl rfl ?_
        refine tw_icmp_eq 77 dX10_bestTripNow_21 (by decide) (fun c56 => ?_) (fun c56 => ?_)
        · have st9 : (tw_bM g a k n (k2 + 1)) = (tw_bM g a k n k2) := tw_bs_skip (Or.inl (tw_nIj c56 (by omega) (by omega)))
          obtain ⟨v57, ev57⟩ : ∃ y : Int32, y = (nI k2) + 1 := ⟨_, rfl⟩
          refine tw_iinc [(5, .int v57), (0, .ref x), (1, .int (nI a)), (2, .int (nI k)), (3, .int gr), (4, .int x1)] 5 dX10_bestTripNow_77 rfl (by rw [ev57]; rfl) (by decide) rfl ?_
          refine tw_goto 6 dX10_bestTripNow_80 (by decide) ?_
          have qv57 := tw_nI3 ev57
          rw [qv57]
          refine tw_lv [1, 2, 3, 4, 5, 0] rfl ?_
          exact ih4 (k2 + 1) x1 (by rw [st9]; exact li8) (by omega) (by omega)
        · have nj9 : k2 ≠ a := fun z => c56 (by rw [z])
          have tl9 := tw_tM_lt (k := k) he ha (show k2 < g.2 3 by omega) hn
          refine tw_aload_n 0 dX10_bestTripNow_24 rfl rfl ?_
          refine tw_iload_n 1 dX10_bestTripNow_25 rfl rfl ?_
          refine tw_iload 5 dX10_bestTripNow_26 rfl ?_
          refine tw_iload_n 2 dX10_bestTripNow_28 rfl rfl ?_
          refine tw_iload_n 3 dX10_bestTripNow_29 rfl rfl ?_
          refine tw_i2l dX10_bestTripNow_30 ?_
          refine tw_nml (fun v58 ev58 => ?_)
          have wL59 : v58 = tw_L n := by rw [ev58, en]; exact tw_L_i (by omega)
          refine tw_bl (tw_callV (M := mX10_bestTripNow) (pc := 31) okX10_tripNow dX10_bestTripNow_31 w_1553 rfl f12 [.int (nI a), .int (nI k2), .int (nI k), .long v58] [] rfl rfl ⟨by decide, by decide⟩ (Nat.le_of_ble_eq_true rfl) (c3_X10_tripNow d g τ h sp0.1 x kx a k2 (by omega) (by omega) k hk v58 n wL59 hn he) 0 0 (Nat.le_of_ble_eq_true rfl) (Nat.le_of_ble_eq_true rfl)) (fun r62 h61 q60 => ?_) (fun E h1 q => q.elim)
          obtain ⟨q60e, q60v⟩ := q60
          rw [q60e]
          refine tw_iload_n 3 dX10_bestTripNow_34 rfl rfl ?_
          refine tw_i2l dX10_bestTripNow_35 ?_
          refine tw_nml (fun v63 ev63 => ?_)
          have nn64 : v63 = tw_L n := by rw [ev63, en]; exact tw_L_i (by omega)
          refine tw_lcmp dX10_bestTripNow_36 ?_
          refine tw_nmi (fun v65 ev65 => ?_)
          refine tw_if_gt 43 dX10_bestTripNow_37 (by decide) (fun c66 => ?_) (fun c66 => ?_)
          · have gt9 : n < tw_tM g a k2 k n := (tw_cmp_gt (by omega) (by omega)).mp (by rw [← q60v, ← nn64, ← ev65]; exact c66)
            refine tw_iload 4 dX10_bestTripNow_43 rfl ?_
            refine tw_iconst (v := -1) dX10_bestTripNow_45 (by decide) ?_
            refine tw_icmp_eq 73 dX10_bestTripNow_46 (by decide) (fun c67 => ?_) (fun c67 => ?_)
            · have bb9 : ∀ b, (tw_bM g a k n k2).1 = some b → b < 10 := fun b z => by have y := tw_bs_some _ z; omega
              have no9 := tw_bno_no (by rw [← li8]; exact c67) bb9
              have st9 : (tw_bM g a k n (k2 + 1)) = (some k2, tw_tM g a k2 k n) := tw_bs_take nj9 (by have y := tw_bs_none _ no9; rw [y]; exact gt9)
              refine tw_iload 5 dX10_bestTripNow_73 rfl ?_
              refine tw_istore [(4, .int (nI k2)), (0, .ref x), (1, .int (nI a)), (2, .int (nI k)), (3, .int gr), (5, .int (nI k2))] dX10_bestTripNow_75 (by decide) rfl ?_
              obtain ⟨v68, ev68⟩ : ∃ y : Int32, y = (nI k2) + 1 := ⟨_, rfl⟩
              refine tw_iinc [(5, .int v68), (4, .int (nI k2)), (0, .ref x), (1, .int (nI a)), (2, .int (nI k)), (3, .int gr)] 5 dX10_bestTripNow_77 rfl (by rw [ev68]; rfl) (by decide) rfl ?_
              refine tw_goto 6 dX10_bestTripNow_80 (by decide) ?_
              have qv68 := tw_nI3 ev68
              rw [qv68]
              refine tw_lv [2, 3, 4, 5, 1, 0] rfl ?_
              exact ih4 (k2 + 1) (nI k2) (by rw [st9]; rfl) (by omega) (by omega)
            · have bb9 : ∀ b, (tw_bM g a k n k2).1 = some b → b < 10 := fun b z => by have y := tw_bs_some _ z; omega
              obtain ⟨b, hb9⟩ : ∃ b, (tw_bM g a k n k2).1 = some b := by cases z : (tw_bM g a k n k2).1 with | none => exact absurd (by rw [li8, z]; rfl) c67 | some b => exact ⟨b, rfl⟩
              have hli9 := li8
              have sb9 := tw_bs_some _ hb9
              have xb9 : x1 = nI b := by rw [hli9, hb9]; rfl
              have bl9 : b < g.2 3 := by omega
              subst xb9
              refine tw_aload_n 0 dX10_bestTripNow_49 rfl rfl ?_
              refine tw_iload_n 1 dX10_bestTripNow_50 rfl rfl ?_
              refine tw_iload 5 dX10_bestTripNow_51 rfl ?_
              refine tw_iload_n 2 dX10_bestTripNow_53 rfl rfl ?_
              refine tw_iload_n 3 dX10_bestTripNow_54 rfl rfl ?_
              refine tw_i2l dX10_bestTripNow_55 ?_
              refine tw_nml (fun v69 ev69 => ?_)
              have wL70 : v69 = tw_L n := by rw [ev69, en]; exact tw_L_i (by omega)
              refine tw_bl (tw_callV (M := mX10_bestTripNow) (pc := 56) okX10_tripNow dX10_bestTripNow_56 w_1553 rfl f12 [.int (nI a), .int (nI k2), .int (nI k), .long v69] [] rfl rfl ⟨by decide, by decide⟩ (Nat.le_of_ble_eq_true rfl) (c3_X10_tripNow d g τ h sp0.1 x kx a k2 (by omega) (by omega) k hk v69 n wL70 hn he) 0 0 (Nat.le_of_ble_eq_true rfl) (Nat.le_of_ble_eq_true rfl)) (fun r73 h72 q71 => ?_) (fun E h1 q => q.elim)
              obtain ⟨q71e, q71v⟩ := q71
              rw [q71e]
              refine tw_aload_n 0 dX10_bestTripNow_59 rfl rfl ?_
              refine tw_iload_n 1 dX10_bestTripNow_60 rfl rfl ?_
              refine tw_iload 4 dX10_bestTripNow_61 rfl ?_
              refine tw_iload_n 2 dX10_bestTripNow_63 rfl rfl ?_
              refine tw_iload_n 3 dX10_bestTripNow_64 rfl rfl ?_
              refine tw_i2l dX10_bestTripNow_65 ?_
              refine tw_nml (fun v74 ev74 => ?_)
              have wL75 : v74 = tw_L n := by rw [ev74, en]; exact tw_L_i (by omega)
              refine tw_bl (tw_callV (M := mX10_bestTripNow) (pc := 66) okX10_tripNow dX10_bestTripNow_66 w_1553 rfl f12 [.int (nI a), .int (nI b), .int (nI k), .long v74] [.long r73] rfl rfl ⟨by decide, by decide⟩ (Nat.le_of_ble_eq_true rfl) (c3_X10_tripNow d g τ h sp0.1 x kx a b (by omega) (by omega) k hk v74 n wL75 hn he) 0 0 (Nat.le_of_ble_eq_true rfl) (Nat.le_of_ble_eq_true rfl)) (fun r78 h77 q76 => ?_) (fun E h1 q => q.elim)
              obtain ⟨q76e, q76v⟩ := q76
              rw [q76e]
              refine tw_lcmp dX10_bestTripNow_69 ?_
              refine tw_nmi (fun v79 ev79 => ?_)
              refine tw_if_le 77 dX10_bestTripNow_70 (by decide) (fun c80 => ?_) (fun c80 => ?_)
              · have tb9 := tw_tM_lt (k := k) he ha bl9 hn
                have iff9 := tw_cmp_gt (a := tw_tM g a k2 k n) (b := tw_tM g a b k n) (by omega) (by omega)
                rw [← q71v, ← q76v, ← ev79] at iff9
                have st9 : (tw_bM g a k n (k2 + 1)) = (tw_bM g a k n k2) := tw_bs_skip (Or.inr (fun z => absurd (iff9.mpr (by rw [sb9.2.1] at z; exact z)) (Int32.not_lt.mpr c80)))
                obtain ⟨v81, ev81⟩ : ∃ y : Int32, y = (nI k2) + 1 := ⟨_, rfl⟩
                refine tw_iinc [(5, .int v81), (0, .ref x), (1, .int (nI a)), (2, .int (nI k)), (3, .int gr), (4, .int (nI b))] 5 dX10_bestTripNow_77 rfl (by rw [ev81]; rfl) (by decide) rfl ?_
                refine tw_goto 6 dX10_bestTripNow_80 (by decide) ?_
                have qv81 := tw_nI3 ev81
                rw [qv81]
                refine tw_lv [1, 2, 3, 4, 5, 0] rfl ?_
                exact ih4 (k2 + 1) (nI b) (by rw [st9]; exact hli9) (by omega) (by omega)
              · have tb9 := tw_tM_lt (k := k) he ha bl9 hn
                have iff9 := tw_cmp_gt (a := tw_tM g a k2 k n) (b := tw_tM g a b k n) (by omega) (by omega)
                rw [← q71v, ← q76v, ← ev79] at iff9
                have st9 : (tw_bM g a k n (k2 + 1)) = (some k2, tw_tM g a k2 k n) := tw_bs_take nj9 (by rw [sb9.2.1]; exact iff9.mp (Int32.not_le.mp c80))
                refine tw_iload 5 dX10_bestTripNow_73 rfl ?_
                refine tw_istore [(4, .int (nI k2)), (0, .ref x), (1, .int (nI a)), (2, .int (nI k)), (3, .int gr), (5, .int (nI k2))] dX10_bestTripNow_75 (by decide) rfl ?_
                obtain ⟨v82, ev82⟩ : ∃ y : Int32, y = (nI k2) + 1 := ⟨_, rfl⟩
                refine tw_iinc [(5, .int v82), (4, .int (nI k2)), (0, .ref x), (1, .int (nI a)), (2, .int (nI k)), (3, .int gr)] 5 dX10_bestTripNow_77 rfl (by rw [ev82]; rfl) (by decide) rfl ?_
                refine tw_goto 6 dX10_bestTripNow_80 (by decide) ?_
                have qv82 := tw_nI3 ev82
                rw [qv82]
                refine tw_lv [2, 3, 4, 5, 1, 0] rfl ?_
                exact ih4 (k2 + 1) (nI k2) (by rw [st9]; rfl) (by omega) (by omega)
          · have ng9 : ¬ n < tw_tM g a k2 k n := fun z => c66 (by rw [ev65, q60v, nn64]; exact (tw_cmp_gt (by omega) (by omega)).mpr z)
            have st9 : (tw_bM g a k n (k2 + 1)) = (tw_bM g a k n k2) := tw_bs_skip (Or.inr (fun z => ng9 (tw_bs_up _ z)))
            refine tw_goto 77 dX10_bestTripNow_40 (by decide) ?_
            obtain ⟨v83, ev83⟩ : ∃ y : Int32, y = (nI k2) + 1 := ⟨_, rfl⟩
            refine tw_iinc [(5, .int v83), (0, .ref x), (1, .int (nI a)), (2, .int (nI k)), (3, .int gr), (4, .int x1)] 5 dX10_bestTripNow_77 rfl (by rw [ev83]; rfl) (by decide) rfl ?_
            refine tw_goto 6 dX10_bestTripNow_80 (by decide) ?_
            have qv83 := tw_nI3 ev83
            rw [qv83]
            refine tw_lv [1, 2, 3, 4, 5, 0] rfl ?_
            exact ih4 (k2 + 1) x1 (by rw [st9]; exact li8) (by omega) (by omega)
  refine tw_lv [2, 3, 4, 5, 1, 0] rfl ?_
  exact L5 ((g.2 3) + 1) 0 (-1) (rfl) (by omega) (by omega)

set_option maxHeartbeats 4000000 in
set_option maxRecDepth 100000 in
theorem c3_X5_isRest (d : tw_D) (g : tw_G) (τ : tw_K) (h : tw_H) (hw : tw_wt d g τ h) (x : Nat) (kx : τ x = 11) (gr : Int32) (n : Nat) (en : gr = nI n) (hn : n ≤ 99999) (he : tw_EC g) : tw_Ct d mX5_isRest 0 0 [.ref x, .int gr] h (tw_qi (fun r h1 => h1 = h ∧ r = tw_rbi (tw_rC g n (g.2 6))) tw_nx) := by
  refine tw_of (by decide +kernel) (Nat.le_of_ble_eq_true rfl) ?_
  show tw_W d mX5_isRest _ 0 [(0, .ref x), (1, .int gr)] [] h 0 0
  have sp0 := tw_sp.rf hw
  have b9 := (tw_b678 hw kx).1
  refine tw_aload_n 0 dX5_isRest_0 rfl rfl ?_
  obtain ⟨e1, f2, td_3, ca_4, ha_5, da_6, c1_7, c2_8, c3_9, c4_10, rfl, k11, k12, k13, k14, k15, k16, k17, k18, k19, k20, k21, k22, k23, k24, k25, k26, k27⟩ := sp0.1 x 11 kx (by decide)
  refine tw_get (v := .ref ca_4) rfl in_9 2 dX5_isRest_1 w_142 rfl (by decide) f2 rfl ?_
  refine tw_astore_n [(2, .ref ca_4), (0, .ref x), (1, .int gr)] dX5_isRest_4 rfl (by decide) rfl ?_
  refine tw_aload_n 0 dX5_isRest_5 rfl rfl ?_
  obtain ⟨e28, f29, F30, rfl, k31, pn32, pb33, px34, pf35⟩ := sp0.1 ca_4 8 k11 (by decide)
  refine tw_alen (v := nI 4) 4 rfl dX5_isRest_6 f29 rfl ?_
  refine tw_istore_n [(3, .int (nI 4)), (2, .ref ca_4), (0, .ref x), (1, .int gr)] dX5_isRest_7 rfl (by decide) rfl ?_
  refine tw_iconst (v := 0) dX5_isRest_8 (by decide) ?_
  refine tw_istore [(4, .int 0), (3, .int (nI 4)), (2, .ref ca_4), (0, .ref x), (1, .int gr)] dX5_isRest_9 (by decide) rfl ?_
  have L39 : ∀ (r37 k36 : Nat) (li43 : tw_rC g n (min k36 (g.2 6)) = true), 4 + 1 ≤ k36 + r37 → k36 ≤ 4 → tw_W d mX5_isRest (tw_qi (fun r h1 => h1 = h ∧ r = tw_rbi (tw_rC g n (g.2 6))) tw_nx) 11 [(0, .ref x), (1, .int gr), (2, .ref ca_4), (3, .int (nI 4)), (4, .int (nI k36))] [] h 0 0 := by
    intro r37
    induction r37 with
    | zero => intro k36 li43 hk44 hk45; exact absurd hk44 (by omega)
    | succ r37 ih38 =>
      intro k36 li43 hk44 hk45
      refine tw_iload 4 dX5_isRest_11 rfl ?_
      refine tw_iload_n 3 dX5_isRest_13 rfl rfl ?_
      refine tw_icmp_ge 60 dX5_isRest_14 (by decide) (fun c46 => ?_) (fun c46 => ?_)
      · refine tw_iconst (v := 1) dX5_isRest_60 (by decide) ?_
        exact tw_zret dX5_isRest_61 rfl rfl (Or.inl ⟨_, rfl, rfl, by have z := tw_kge c46 (by omega); have z2 := li43; rw [show min k36 (g.2 6) = g.2 6 by omega] at z2; rw [z2]; rfl⟩)
      · have kl47 := tw_klt (N := 4) c46 hk45 (by decide)
        refine tw_aload_n 2 dX5_isRest_17 rfl rfl ?_
        refine tw_iload 4 dX5_isRest_18 rfl ?_
        cases k48 : F30 ((nI k36)).toNatClampNeg with
        | none =>
          refine tw_aald (v := .null) 4 rfl rfl dX5_isRest_20 f29 (vp_in_nI (by omega) (by decide)) (by rw [k48]; rfl) ?_
          refine tw_astoreN [(5, .null), (0, .ref x), (1, .int gr), (2, .ref ca_4), (3, .int (nI 4)), (4, .int (nI k36))] dX5_isRest_21 (by decide) rfl ?_
          have hv9 := k48
          rw [nI_clamp (by omega)] at hv9
          have pn9 := pn32 k36 (by omega)
          have hk9 : g.2 6 ≤ k36 := pn9.mp hv9
          have mn9 : min (k36 + 1) (g.2 6) = min k36 (g.2 6) := by omega
          refine tw_aloadN 0 dX5_isRest_23 rfl ?_
          refine tw_ifnullN 54 dX5_isRest_25 (by decide) ?_
          obtain ⟨v50, ev50⟩ : ∃ y : Int32, y = (nI k36) + 1 := ⟨_, rfl⟩
          refine tw_iinc [(4, .int v50), (5, .null), (0, .ref x), (1, .int gr), (2, .ref ca_4), (3, .int (nI 4))] 5 dX5_isRest_54 rfl (by rw [ev50]; rfl) (by decide) rfl ?_
          refine tw_goto 11 dX5_isRest_57 (by decide) ?_
          have qv50 := tw_nI3 ev50
          rw [qv50]
          refine tw_lv [2, 3, 4, 5, 0] rfl ?_
          exact ih38 (k36 + 1)  (by rw [mn9]; exact li43) (by omega) (by omega)
        | some q49 =>
          have k51 := k31 _ _ k48
          refine tw_aald (v := .ref q49) 4 rfl rfl dX5_isRest_20 f29 (vp_in_nI (by omega) (by decide)) (by rw [k48]; rfl) ?_
          refine tw_astore [(5, .ref q49), (0, .ref x), (1, .int gr), (2, .ref ca_4), (3, .int (nI 4)), (4, .int (nI k36))] dX5_isRest_21 (by decide) rfl ?_
          have hv9 := k48
          rw [nI_clamp (by omega)] at hv9
          have pn9 := pn32 k36 (by omega)
          have hk9 : k36 < g.2 6 := by rcases Nat.lt_or_ge k36 (g.2 6) with z | z; exact z; rw [pn9.mpr z] at hv9; cases hv9
          have bq9 : g.2 (4096 + q49) = 160 + 64 * k36 := pf35 _ _ hv9
          have m09 : min k36 (g.2 6) = k36 := by omega
          have m19 : min (k36 + 1) (g.2 6) = k36 + 1 := by omega
          refine tw_aload 0 dX5_isRest_23 rfl ?_
          refine tw_ifnull dX5_isRest_25 ?_
          refine tw_aload_n 1 dX5_isRest_28 rfl rfl ?_
          refine tw_aload 0 dX5_isRest_29 rfl ?_
          refine tw_iconst (v := 0) dX5_isRest_31 (by decide) ?_
          refine tw_iload_n 2 dX5_isRest_32 rfl rfl ?_
          refine tw_bi (tw_callV (M := mX5_isRest) (pc := 33) okX5_bestOver dX5_isRest_33 w_292 rfl f2 [.ref q49, .int 0, .int gr] [] rfl rfl ⟨by decide, by decide⟩ (Nat.le_of_ble_eq_true rfl) (c3_X5_bestOver d g τ h sp0.1 x kx q49 k51 k36 hk9 bq9 0 (by decide) gr n en hn he) 0 0 (Nat.le_of_ble_eq_true rfl) (Nat.le_of_ble_eq_true rfl)) (fun r54 h53 q52 => ?_) (fun E h1 q => q.elim)
          obtain ⟨q52e, q52v⟩ := q52
          rw [q52e]
          refine tw_iconst (v := -1) dX5_isRest_36 (by decide) ?_
          refine tw_icmp_ne 52 dX5_isRest_37 (by decide) (fun c55 => ?_) (fun c55 => ?_)
          · refine tw_iconst (v := 0) dX5_isRest_52 (by decide) ?_
            exact tw_zret dX5_isRest_53 rfl rfl (Or.inl ⟨_, rfl, rfl, by unfold tw_rC; rw [tw_rb_f (B := fun i k => (tw_bC g i k n (g.2 6)).1) (i := k36) (k := 0) (by decide) (tw_bC_so q52v c55) _ hk9]; rfl⟩)
          · have no0 := tw_bC_no b9 q52v c55
            refine tw_aload_n 1 dX5_isRest_40 rfl rfl ?_
            refine tw_aload 0 dX5_isRest_41 rfl ?_
            refine tw_iconst (v := 1) dX5_isRest_43 (by decide) ?_
            refine tw_iload_n 2 dX5_isRest_44 rfl rfl ?_
            refine tw_bi (tw_callV (M := mX5_isRest) (pc := 45) okX5_bestOver dX5_isRest_45 w_292 rfl f2 [.ref q49, .int 1, .int gr] [] rfl rfl ⟨by decide, by decide⟩ (Nat.le_of_ble_eq_true rfl) (c3_X5_bestOver d g τ h sp0.1 x kx q49 k51 k36 hk9 bq9 1 (by decide) gr n en hn he) 0 0 (Nat.le_of_ble_eq_true rfl) (Nat.le_of_ble_eq_true rfl)) (fun r58 h57 q56 => ?_) (fun E h1 q => q.elim)
            obtain ⟨q56e, q56v⟩ := q56
            rw [q56e]
            refine tw_iconst (v := -1) dX5_isRest_48 (by decide) ?_
            refine tw_icmp_eq 54 dX5_isRest_49 (by decide) (fun c59 => ?_) (fun c59 => ?_)
            · have no1 := tw_bC_no b9 q56v c59
              obtain ⟨v60, ev60⟩ : ∃ y : Int32, y = (nI k36) + 1 := ⟨_, rfl⟩
              refine tw_iinc [(4, .int v60), (5, .ref q49), (0, .ref x), (1, .int gr), (2, .ref ca_4), (3, .int (nI 4))] 5 dX5_isRest_54 rfl (by rw [ev60]; rfl) (by decide) rfl ?_
              refine tw_goto 11 dX5_isRest_57 (by decide) ?_
              have qv60 := tw_nI3 ev60
              rw [qv60]
              refine tw_lv [2, 3, 4, 5, 0] rfl ?_
              exact ih38 (k36 + 1)  (by have z := li43; rw [m09] at z; rw [m19]; exact tw_rb_s z no0 no1) (by omega) (by omega)
            · refine tw_iconst (v := 0) dX5_isRest_52 (by decide) ?_
              exact tw_zret dX5_isRest_53 rfl rfl (Or.inl ⟨_, rfl, rfl, by unfold tw_rC; rw [tw_rb_f (B := fun i k => (tw_bC g i k n (g.2 6)).1) (i := k36) (k := 1) (by decide) (tw_bC_so q56v c59) _ hk9]; rfl⟩)
  refine tw_lv [3, 4, 2, 1, 0] rfl ?_
  exact L39 (4 + 1) 0  (by rw [Nat.zero_min]; rfl) (by omega) (by omega)

set_option maxHeartbeats 4000000 in
set_option maxRecDepth 100000 in
theorem c3_X10_restNow (d : tw_D) (g : tw_G) (τ : tw_K) (h : tw_H) (hw : tw_wt d g τ h) (x : Nat) (kx : τ x = 36) (gr : Int32) (n : Nat) (en : gr = nI n) (hn : n ≤ 99999) (he : tw_EM g) : tw_Ct d mX10_restNow 0 0 [.ref x, .int gr] h (tw_qi (fun r h1 => h1 = h ∧ r = tw_rbi (tw_rM g n (g.2 3))) tw_nx) := by
  refine tw_of (by decide +kernel) (Nat.le_of_ble_eq_true rfl) ?_
  show tw_W d mX10_restNow _ 0 [(0, .ref x), (1, .int gr)] [] h 0 0
  have sp0 := tw_sp.rf hw
  have b9 := tw_b3 hw kx
  refine tw_iconst (v := 0) dX10_restNow_0 (by decide) ?_
  refine tw_istore_n [(2, .int 0), (0, .ref x), (1, .int gr)] dX10_restNow_1 rfl (by decide) rfl ?_
  have L4 : ∀ (r2 k1 : Nat) (li7 : tw_rM g n k1 = true), (g.2 3) + 1 ≤ k1 + r2 → k1 ≤ (g.2 3) → tw_W d mX10_restNow (tw_qi (fun r h1 => h1 = h ∧ r = tw_rbi (tw_rM g n (g.2 3))) tw_nx) 2 [(0, .ref x), (1, .int gr), (2, .int (nI k1))] [] h 0 0 := by
    intro r2
    induction r2 with
    | zero => intro k1 li7 hk8 hk9; exact absurd hk8 (by omega)
    | succ r2 ih3 =>
      intro k1 li7 hk8 hk9
      refine tw_iload_n 2 dX10_restNow_2 rfl rfl ?_
      refine tw_aload_n 0 dX10_restNow_3 rfl rfl ?_
      obtain ⟨e10, f11, th_12, td_13, ds_14, fr_15, ca_16, us_17, wo_18, cm_19, lc_20, lh_21, ld_22, rfl, k23, k24, k25, k26, k27, k28, k29, k30, k31, k32, k33, k34, k35, k36, k37, k38, k39, k40, k41, k42, k43, k44⟩ := sp0.1 x 36 kx (by decide)
      refine tw_get (v := .ref lc_20) rfl in_14 9 dX10_restNow_4 w_1160 rfl (by decide) f11 rfl ?_
      obtain ⟨e45, f46, ⟨el47, rfl, k48⟩, k49⟩ := sp0.1 lc_20 24 k29 (by decide)
      refine tw_bi (tw_callV (M := mX10_restNow) (pc := 7) okJx4a65c_size_8abf5 dX10_restNow_7 w_1204 rfl f46 [] [.int (nI k1)] rfl rfl ⟨by decide, by decide⟩ (Nat.le_of_ble_eq_true rfl) (c24_size d g τ h sp0.1 lc_20 k29) 0 0 (Nat.le_of_ble_eq_true rfl) (Nat.le_of_ble_eq_true rfl)) (fun r52 h51 q50 => ?_) (fun E h1 q => q.elim)
      obtain ⟨q50e, q50r⟩ := q50
      rw [q50e, q50r]
      refine tw_icmp_ge 45 dX10_restNow_10 (by decide) (fun c53 => ?_) (fun c53 => ?_)
      · refine tw_iconst (v := 1) dX10_restNow_45 (by decide) ?_
        exact tw_zret dX10_restNow_46 rfl rfl (Or.inl ⟨_, rfl, rfl, by have z := tw_kge c53 (by omega); have z2 := li7; rw [show k1 = g.2 3 by omega] at z2; rw [z2]; rfl⟩)
      · have kl54 : k1 < (g.2 3) := tw_klt (N := (g.2 3)) c53 hk9 (by omega)
        refine tw_iconst (v := 0) dX10_restNow_13 (by decide) ?_
        refine tw_istore_n [(3, .int 0), (0, .ref x), (1, .int gr), (2, .int (nI k1))] dX10_restNow_14 rfl (by decide) rfl ?_
        have L58 : ∀ (r56 k55 : Nat) (li61 : k1 < g.2 3 ∧ ∀ k9, k9 < k55 → (tw_bM g k1 k9 n (g.2 3)).1 = none), 2 + 1 ≤ k55 + r56 → k55 ≤ 2 → tw_W d mX10_restNow (tw_qi (fun r h1 => h1 = h ∧ r = tw_rbi (tw_rM g n (g.2 3))) tw_nx) 15 [(0, .ref x), (1, .int gr), (2, .int (nI k1)), (3, .int (nI k55))] [] h 0 0 := by
          intro r56
          induction r56 with
          | zero => intro k55 li61 hk62 hk63; exact absurd hk62 (by omega)
          | succ r56 ih57 =>
            intro k55 li61 hk62 hk63
            refine tw_iload_n 3 dX10_restNow_15 rfl rfl ?_
            refine tw_iconst (v := 2) dX10_restNow_16 (by decide) ?_
            refine tw_icmp_ge 39 dX10_restNow_17 (by decide) (fun c64 => ?_) (fun c64 => ?_)
            · obtain ⟨v65, ev65⟩ : ∃ y : Int32, y = (nI k1) + 1 := ⟨_, rfl⟩
              refine tw_iinc [(2, .int v65), (0, .ref x), (1, .int gr), (3, .int (nI k55))] 2 dX10_restNow_39 rfl (by rw [ev65]; rfl) (by decide) rfl ?_
              refine tw_goto 2 dX10_restNow_42 (by decide) ?_
              have qv65 := tw_nI3 ev65
              rw [qv65]
              refine tw_lv [1, 2, 0] rfl ?_
              exact ih3 (k1 + 1)  (tw_rb_s li7 (li61.2 0 (by have z := tw_kge (k := k55) (N := 2) c64 (by omega); omega)) (li61.2 1 (by have z := tw_kge (k := k55) (N := 2) c64 (by omega); omega))) (by omega) (by omega)
            · have kl66 := tw_klt (N := 2) c64 hk63 (by decide)
              refine tw_aload_n 0 dX10_restNow_20 rfl rfl ?_
              refine tw_iload_n 2 dX10_restNow_21 rfl rfl ?_
              refine tw_iload_n 3 dX10_restNow_22 rfl rfl ?_
              refine tw_iload_n 1 dX10_restNow_23 rfl rfl ?_
              refine tw_bi (tw_callV (M := mX10_restNow) (pc := 24) okX10_bestTripNow dX10_restNow_24 w_1561 rfl f11 [.int (nI k1), .int (nI k55), .int gr] [] rfl rfl ⟨by decide, by decide⟩ (Nat.le_of_ble_eq_true rfl) (c3_X10_bestTripNow d g τ h sp0.1 x kx k1 (by omega) k55 (by omega) gr n en hn he) 0 0 (Nat.le_of_ble_eq_true rfl) (Nat.le_of_ble_eq_true rfl)) (fun r69 h68 q67 => ?_) (fun E h1 q => q.elim)
              obtain ⟨q67e, q67v⟩ := q67
              rw [q67e]
              refine tw_iconst (v := -1) dX10_restNow_27 (by decide) ?_
              refine tw_icmp_eq 33 dX10_restNow_28 (by decide) (fun c70 => ?_) (fun c70 => ?_)
              · have no9 := tw_bM_no b9 q67v c70
                obtain ⟨v71, ev71⟩ : ∃ y : Int32, y = (nI k55) + 1 := ⟨_, rfl⟩
                refine tw_iinc [(3, .int v71), (0, .ref x), (1, .int gr), (2, .int (nI k1))] 3 dX10_restNow_33 rfl (by rw [ev71]; rfl) (by decide) rfl ?_
                refine tw_goto 15 dX10_restNow_36 (by decide) ?_
                have qv71 := tw_nI3 ev71
                rw [qv71]
                refine tw_lv [1, 2, 3, 0] rfl ?_
                exact ih57 (k55 + 1)  (⟨li61.1, fun k9 hk9 => by rcases Nat.lt_or_ge k9 k55 with z | z; exact li61.2 k9 z; rw [show k9 = k55 by omega]; exact no9⟩) (by omega) (by omega)
              · refine tw_iconst (v := 0) dX10_restNow_31 (by decide) ?_
                exact tw_zret dX10_restNow_32 rfl rfl (Or.inl ⟨_, rfl, rfl, by unfold tw_rM; rw [tw_rb_f (B := fun i k => (tw_bM g i k n (g.2 3)).1) (i := k1) (k := k55) (by omega) (tw_bM_so q67v c70) _ (by omega)]; rfl⟩)
        refine tw_lv [1, 2, 3, 0] rfl ?_
        exact L58 (2 + 1) 0  (⟨by omega, fun k9 hk9 => absurd hk9 (Nat.not_lt_zero _)⟩) (by omega) (by omega)
  refine tw_lv [1, 2, 0] rfl ?_
  exact L4 ((g.2 3) + 1) 0  (rfl) (by omega) (by omega)

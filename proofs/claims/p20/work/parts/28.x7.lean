/-! the class's methods over the typed heap. Laid by wip/p5/mkclass.py. -/
/-! what is asked, the class -/
def tw_isum (F : Nat → Int32) : Nat → Int32
  | 0 => 0
  | n + 1 => tw_isum F n + F n
theorem tw_isum_c {F G : Nat → Int32} : ∀ n, (∀ j, j < n → F j = G j) → tw_isum F n = tw_isum G n
  | 0, _ => rfl
  | n + 1, h => by
    show tw_isum F n + F n = tw_isum G n + G n
    rw [tw_isum_c n (fun j hj => h j (by omega)), h n (by omega)]
theorem tw_isum_n {F : Nat → Int32} {f : Nat → Nat} : ∀ n, (∀ j, j < n → F j = nI (f j)) → tw_isum F n = nI (tw_sum f n)
  | 0, _ => rfl
  | n + 1, h => by
    show tw_isum F n + F n = nI (tw_sum f n + f n)
    rw [tw_isum_n n (fun j hj => h j (by omega)), h n (by omega)]
    exact tw_niadd
def tw_wC (g : tw_G) (k : Nat) : Nat → Int32
  | 0 => tw_isum (fun j => g.1 (160 + 64 * j + 24 + k)) (g.2 6)
  | 1 => tw_isum (fun j => g.1 (768 + 32 * j + 8 + k)) (g.2 7)
  | w + 2 => g.1 (1312 + 8 * w + k)
def tw_RW (m wh : Int32) : Prop := tw_RM m ∧ 0 ≤ wh ∧ wh ≤ 5
theorem tw_ic {w j : Nat} (h : w < 2 ^ 31) (e : (nI w).toInt = (j : Int)) : w = j := by
  rw [nI_toInt h] at e
  omega
theorem tw_io {w lo hi : Nat} (h : w < 2 ^ 31) (e : (nI w).toInt < (lo : Int) ∨ (hi : Int) < (nI w).toInt) : w < lo ∨ hi < w := by
  rw [nI_toInt h] at e
  omega
set_option maxHeartbeats 4000000 in
set_option maxRecDepth 100000 in
theorem c2_X5_market (d : tw_D) (g : tw_G) (τ : tw_K) (h : tw_H) (hw : tw_wt d g τ h) (x : Nat) (kx : τ x = 11) (m : Int32) : tw_Ct d mX5_market 20 120 [.ref x, .int m] h (tw_qi (fun r9 h1 => r9 = g.1 0 ∧ (100 ≤ m ∧ m ≤ 200) ∧ ∃ τ1, tw_sp d τ h (tw_g1 g 0 m) τ1 h1) (fun E h1 => (E = tw_IAE ∧ ¬ (100 ≤ m ∧ m ≤ 200)) ∧ ∃ τ1, tw_sp d τ h g τ1 h1)) := by
  refine tw_of (by decide +kernel) (Nat.le_of_ble_eq_true rfl) ?_
  show tw_W d mX5_market _ 0 [(0, .ref x), (1, .int m)] [] h 20 120
  have sp0 := tw_sp.rf hw
  refine tw_iload_n 1 dX5_market_0 rfl rfl ?_
  refine tw_bipush (v := 100) dX5_market_1 (by decide) ?_
  refine tw_sipush (v := 200) dX5_market_3 (by decide) ?_
  refine tw_bv (tw_callS (M := mX5_market) (pc := 6) okX5_needRange dX5_market_6 w_399 [.int m, .int 100, .int 200] [] rfl rfl ⟨by decide, by decide⟩ (Nat.le_of_ble_eq_true rfl) (c2_X5_needRange d g τ h sp0.1 m 100 200) 19 114 (Nat.le_of_ble_eq_true rfl) (Nat.le_of_ble_eq_true rfl)) (fun h2 q => ?_) (fun E h2 q => Or.inr ⟨E, rfl, ⟨q.1, q.2.2⟩, τ, by rw [q.2.1]; exact sp0⟩)
  obtain ⟨qe, ql⟩ := q
  rw [qe]
  refine tw_aload_n 0 dX5_market_9 rfl rfl ?_
  obtain ⟨e1, f2, td_3, ca_4, ha_5, da_6, c1_7, c2_8, c3_9, c4_10, rfl, k11, k12, k13, k14, k15, k16, k17, k18, k19, k20, k21, k22, k23, k24, k25, k26, k27⟩ := sp0.1 x 11 kx (by decide)
  refine tw_get (v := .int (g.1 0)) rfl in_9 1 dX5_market_10 w_141 rfl (by decide) f2 rfl ?_
  refine tw_istore_n [(2, .int (g.1 0)), (0, .ref x), (1, .int m)] dX5_market_13 rfl (by decide) rfl ?_
  refine tw_aload_n 1 dX5_market_14 rfl rfl ?_
  refine tw_iload_n 2 dX5_market_15 rfl rfl ?_
  obtain ⟨g5, eg5⟩ : ∃ z : tw_G, z = tw_g1 g 0 m := ⟨_, rfl⟩
  have qm : m = g5.1 0 := by rw [eg5]; rfl
  refine tw_put rfl in_9 tyX5 tyX5_ok nmX5 1 dX5_market_16 w_141 rfl (by decide) f2 rfl rfl rfl rfl (Nat.le_of_ble_eq_true rfl) [.int td_3, .int m, .ref ca_4, .int (nI (g.2 0)), .ref ha_5, .int (nI (g.2 1)), .ref da_6, .int (nI (g.2 2)), .ref c1_7, .ref c2_8, .ref c3_9, .ref c4_10] rfl ?_
  obtain ⟨h28, eh28⟩ : ∃ z : tw_H, z = tw_up h x (.inr (9, [.int td_3, .int m, .ref ca_4, .int (nI (g.2 0)), .ref ha_5, .int (nI (g.2 1)), .ref da_6, .int (nI (g.2 2)), .ref c1_7, .ref c2_8, .ref c3_9, .ref c4_10])) := ⟨_, rfl⟩
  rw [← eh28]
  have sp29 : tw_sp d τ h g5 τ h28 := by rw [eh28]; exact sp0.g11 kx ⟨td_3, ca_4, ha_5, da_6, c1_7, c2_8, c3_9, c4_10, (by rw [eg5]; rfl), k11, k12, k13, k14, k15, k16, k17, (by rw [eg5]; exact k18), (by rw [eg5]; exact k19), (by rw [eg5]; exact k20), (by rw [eg5]; exact k21), (by rw [eg5]; exact k22), (by rw [eg5]; exact k23), (by rw [eg5]; exact k24), (by rw [eg5]; exact k25), (by rw [eg5]; exact k26), (by rw [eg5]; exact k27)⟩ (by rw [eg5]; intro i hi; exact if_neg hi) (by rw [eg5]; intro i hi hj; rfl)
  refine tw_iload_n 0 dX5_market_19 rfl rfl ?_
  exact tw_iret dX5_market_20 rfl (Or.inl ⟨_, rfl, rfl, ql, _, by rw [← eg5]; exact sp29⟩)

def tw_lw (T k D L : Nat) : Nat := if k = 1 ∧ T < D ∧ D % 30 = 0 then L - L / 10000 else L
/-- fuel, day, what is left -/
def tw_ld (T k n : Nat) : Nat → Nat → Nat → Int32
  | 0, _, _ => -1
  | f + 1, D, L => if tw_lw T k D L < n then nI D else tw_ld T k n f (D + 1) (tw_lw T k D L - n)
def tw_CV (g : tw_G) : Prop := ∀ j, j < g.2 6 → ∀ k, k < 2 → g.1 (160 + 64 * j + 24 + k) = nI (tw_DN (g.1 (160 + 64 * j + 24 + k))) ∧ tw_DN (g.1 (160 + 64 * j + 24 + k)) ≤ 59000000
theorem tw_L_ad (a b : Nat) : tw_L a + tw_L b = tw_L (a + b) := (Int64.ofNat_add a b).symm
set_option maxHeartbeats 4000000 in
set_option maxRecDepth 100000 in
theorem c4_X5_worthOf (d : tw_D) (g : tw_G) (τ : tw_K) (h : tw_H) (hw : tw_wt d g τ h)  (a b r : Int32) (A Bn R : Nat) (ea : a = nI A) (eb : b = nI Bn) (er : r = nI R) (hA : A ≤ 59000000) (hB : Bn ≤ 59000000) (hR : R ≤ 200) : tw_Ct d mX5_worthOf 0 0 [.int a, .int b, .int r] h (tw_qi (fun r9 h1 => h1 = h ∧ r9 = nI (Bn + A * R / 10)) tw_nx) := by
  refine tw_of (by decide +kernel) (Nat.le_of_ble_eq_true rfl) ?_
  show tw_W d mX5_worthOf _ 0 [(0, .int a), (1, .int b), (2, .int r)] [] h 0 0
  have sp0 := tw_sp.rf hw
  have m9 : A * R ≤ 59000000 * 200 := Nat.mul_le_mul hA hR
  refine tw_iload_n 1 dX5_worthOf_0 rfl rfl ?_
  refine tw_i2l dX5_worthOf_1 ?_
  refine tw_nml (fun v1 ev1 => ?_)
  refine tw_iload_n 0 dX5_worthOf_2 rfl rfl ?_
  refine tw_i2l dX5_worthOf_3 ?_
  refine tw_nml (fun v2 ev2 => ?_)
  refine tw_iload_n 2 dX5_worthOf_4 rfl rfl ?_
  refine tw_i2l dX5_worthOf_5 ?_
  refine tw_nml (fun v3 ev3 => ?_)
  refine tw_lmul dX5_worthOf_6 ?_
  refine tw_nml (fun v4 ev4 => ?_)
  refine tw_ldc2 (v := 10) dX5_worthOf_7 w_272 ?_
  refine tw_ldiv dX5_worthOf_10 (by decide) ?_
  refine tw_nml (fun v5 ev5 => ?_)
  refine tw_ladd dX5_worthOf_11 ?_
  refine tw_nml (fun v6 ev6 => ?_)
  refine tw_l2i dX5_worthOf_12 ?_
  refine tw_nmi (fun v7 ev7 => ?_)
  exact tw_iret dX5_worthOf_13 rfl (Or.inl ⟨_, rfl, rfl, by rw [ev7, ev6, ev1, ev5, ev4, ev2, ev3, ea, eb, er, tw_L_i (by omega), tw_L_i (by omega), tw_L_i (by omega), show (10 : Int64) = tw_L 10 from rfl, tw_L_mul (by omega) (by omega) (by omega), tw_L_div (by omega) (by decide), tw_L_ad]; exact tw_L_32 (by omega)⟩)

/-- grams' worth -/
def tw_wo (G Sv M : Int32) : Int32 := nI (tw_DN Sv + tw_DN G * tw_DN M / 10)
def tw_hC (g : tw_G) (a : Nat) : Nat → Int32
  | 0 => g.1 (768 + 32 * a + 1)
  | 1 => g.1 (768 + 32 * a + 2)
  | 2 => g.1 (768 + 32 * a + 0)
  | 3 => g.1 (768 + 32 * a + 8 + 0)
  | 4 => g.1 (768 + 32 * a + 8 + 1)
  | 5 => tw_wo (g.1 (768 + 32 * a + 8 + 0)) (g.1 (768 + 32 * a + 8 + 1)) (g.1 0)
  | 6 => tw_isum (fun j => if g.1 (1152 + 8 * j + 2) = 0 ∧ g.1 (1152 + 8 * j + 3) = nI a then 1 else 0) (g.2 8)
  | _ + 7 => tw_isum (fun j => if g.1 (1152 + 8 * j + 2) = 0 ∧ g.1 (1152 + 8 * j + 4) = nI a then 1 else 0) (g.2 8)
/-- the class's purses and vaults are numbers, the market too -/
def tw_CW (g : tw_G) : Prop := tw_CV g ∧ (∀ j, j < g.2 7 → ∀ k, k < 2 → g.1 (768 + 32 * j + 8 + k) = nI (tw_DN (g.1 (768 + 32 * j + 8 + k))) ∧ tw_DN (g.1 (768 + 32 * j + 8 + k)) ≤ 59000000) ∧ g.1 0 = nI (tw_DN (g.1 0)) ∧ tw_DN (g.1 0) ≤ 200
def tw_ck (G Du M : Nat) : Int32 := if G * M / 10 < Du then 0 else 1
def tw_dC (g : tw_G) (a : Nat) : Nat → Int32
  | 0 => g.1 (1152 + 8 * a + 3)
  | 1 => g.1 (1152 + 8 * a + 4)
  | 2 => g.1 (1152 + 8 * a + 0)
  | 3 => g.1 (1152 + 8 * a + 1)
  | 4 => if g.1 (1152 + 8 * a + 2) = 0 then nI (tw_sd g a) else 0
  | 5 => if g.1 (1152 + 8 * a + 2) = 0 then 0 else 1
  | _ + 6 => if g.1 (1152 + 8 * a + 2) = 0 ∧ g.1 (768 + 32 * tw_dF g a + 1) ≠ -1 then tw_ck (tw_sg g a 0) (tw_sd g a) (tw_DN (g.1 0)) else -1
def tw_CX (g : tw_G) : Prop := tw_CH g ∧ g.1 0 = nI (tw_DN (g.1 0)) ∧ tw_DN (g.1 0) ≤ 200
theorem tw_gf_b {a r : Nat} (ha : a ≤ 40000) (h1 : 100 ≤ r) : tw_gf a r ≤ 59000000 := Nat.le_trans (tw_gf_le h1 ha) (by decide)
theorem tw_wl2 {A M : Nat} (hA : A ≤ 59000000) (hM : M ≤ 200) : 0 + A * M / 10 < 2 ^ 31 := by
  have m9 : A * M ≤ 59000000 * 200 := Nat.mul_le_mul hA hM
  omega
set_option maxHeartbeats 4000000 in
set_option maxRecDepth 100000 in
theorem c4_X5_cheaperMetal (d : tw_D) (g : tw_G) (τ : tw_K) (h : tw_H) (hw : tw_wt d g τ h)  (x : Nat) (kx : τ x = 11) (a : Nat) (ka : τ a = 4) (ja : Nat) (hja : ja < g.2 8) (hba : g.2 (4096 + a) = 1152 + 8 * ja) (he : tw_CX g) : tw_Ct d mX5_cheaperMetal 0 0 [.ref x, .ref a] h (tw_qi (fun r h1 => h1 = h ∧ r = tw_dC g ja 6) tw_nx) := by
  refine tw_of (by decide +kernel) (Nat.le_of_ble_eq_true rfl) ?_
  show tw_W d mX5_cheaperMetal _ 0 [(0, .ref x), (1, .ref a)] [] h 0 0
  have sp0 := tw_sp.rf hw
  obtain ⟨b96, b97, b98⟩ := tw_b678 hw kx
  refine tw_aload_n 1 dX5_cheaperMetal_0 rfl rfl ?_
  obtain ⟨e1, f2, v_3, dy_4, pd_5, a_6, b_7, rfl, k8, k9, k10, k11⟩ := sp0.1 a 4 ka (by decide)
  obtain ⟨j12, ow13, fv9, fd9, fp9, ⟨i14, hi15, ei16, bi17⟩, i18, hi19, ei20, bi21⟩ := k11
  obtain rfl : ja = j12 := by have z := ow13.b hba; omega
  subst fv9 fd9 fp9
  refine tw_getN (v := .ref a_6) rfl in_5 0 dX5_cheaperMetal_1 w_720 rfl (by decide) f2 rfl ?_
  obtain ⟨e22, f23, n_24, ar_25, p_26, pl_27, go_28, rfl, k29, k30, k31, k32⟩ := sp0.1 a_6 3 k8 (by decide)
  obtain ⟨j33, ow34, fn9, fa9, pc35, pc36, lp37⟩ := k32
  obtain rfl : i14 = j33 := by have z := ow34.b bi17; omega
  subst fn9 fa9
  cases pl_27 with
  | none =>
    have pe39 := pc35.n
    refine tw_getN (v := .null) rfl in_6 2 dX5_cheaperMetal_4 w_641 rfl (by decide) f23 rfl ?_
    refine tw_astore_nN [(2, .null), (0, .ref x), (1, .ref a)] dX5_cheaperMetal_7 rfl (by decide) rfl ?_
    refine tw_aload_n 2 dX5_cheaperMetal_8 rfl rfl ?_
    refine tw_getN (v := .int (g.1 (1152 + 8 * ja + 2))) rfl in_5 4 dX5_cheaperMetal_9 w_728 rfl (by decide) f2 rfl ?_
    refine tw_if_ne 19 dX5_cheaperMetal_12 (by decide) (fun c40 => ?_) (fun c40 => ?_)
    · refine tw_iconst (v := -1) dX5_cheaperMetal_19 (by decide) ?_
      exact tw_iret dX5_cheaperMetal_20 rfl (Or.inl ⟨_, rfl, rfl, (if_neg (fun z => c40 z.1)).symm⟩)
    · refine tw_aload_nN 0 dX5_cheaperMetal_15 rfl rfl ?_
      refine tw_ifnonnullN dX5_cheaperMetal_16 ?_
      refine tw_iconst (v := -1) dX5_cheaperMetal_19 (by decide) ?_
      exact tw_iret dX5_cheaperMetal_20 rfl (Or.inl ⟨_, rfl, rfl, (if_neg (fun z => z.2 (by rw [show tw_dF g ja = i14 from tw_dN_e ei16 (by omega)]; exact pe39))).symm⟩)
  | some q38 =>
    obtain ⟨i41, hi42, ei43, bi44⟩ := pc35.s
    refine tw_getN (v := .ref q38) rfl in_6 2 dX5_cheaperMetal_4 w_641 rfl (by decide) f23 rfl ?_
    refine tw_astore_n [(2, .ref q38), (0, .ref x), (1, .ref a)] dX5_cheaperMetal_7 rfl (by decide) rfl ?_
    refine tw_aload_n 2 dX5_cheaperMetal_8 rfl rfl ?_
    refine tw_getN (v := .int (g.1 (1152 + 8 * ja + 2))) rfl in_5 4 dX5_cheaperMetal_9 w_728 rfl (by decide) f2 rfl ?_
    refine tw_if_ne 19 dX5_cheaperMetal_12 (by decide) (fun c45 => ?_) (fun c45 => ?_)
    · refine tw_iconst (v := -1) dX5_cheaperMetal_19 (by decide) ?_
      exact tw_iret dX5_cheaperMetal_20 rfl (Or.inl ⟨_, rfl, rfl, (if_neg (fun z => c45 z.1)).symm⟩)
    · refine tw_aload_n 0 dX5_cheaperMetal_15 rfl rfl ?_
      refine tw_ifnonnull 21 dX5_cheaperMetal_16 (by decide) ?_
      refine tw_aload_n 2 dX5_cheaperMetal_21 rfl rfl ?_
      refine tw_aload_n 1 dX5_cheaperMetal_22 rfl rfl ?_
      obtain ⟨e46, f47, td_48, ca_49, ha_50, da_51, c1_52, c2_53, c3_54, c4_55, rfl, k56, k57, k58, k59, k60, k61, k62, k63, k64, k65, k66, k67, k68, k69, k70, k71, k72⟩ := sp0.1 x 11 kx (by decide)
      refine tw_get (v := .int td_48) rfl in_9 0 dX5_cheaperMetal_23 w_140 rfl (by decide) f47 rfl ?_
      obtain ⟨⟨V9, hV9, eV9⟩, ⟨D9, hD9, eD9⟩, -⟩ := he.1.2.2 ja hja
      have T9 := k68
      rw [k67]
      refine tw_bi (tw_callVN (M := mX5_cheaperMetal) (pc := 26) okX1_dueOn dX5_cheaperMetal_26 w_355 rfl f2 [.int (nI (g.2 21))] [] rfl rfl ⟨by decide, by decide⟩ (Nat.le_of_ble_eq_true rfl) (c4_X1_dueOn d g τ h sp0.1 a ka ja (by omega) hba (g.2 21) V9 D9 eV9 eD9 hV9 (by omega) hD9) 0 0 (Nat.le_of_ble_eq_true rfl) (Nat.le_of_ble_eq_true rfl)) (fun r75 h74 q73 => ?_) (fun E h1 q => q.elim)
      obtain ⟨q73e, q73v⟩ := q73
      rw [q73e]
      have dv9 : r75 = nI (tw_sd g ja) := by unfold tw_sd; rw [eV9, eD9, tw_DN_nI (by omega), tw_DN_nI (by omega)]; exact q73v
      have dl9 : tw_sd g ja ≤ 40000 := by unfold tw_sd; rw [eV9, eD9, tw_DN_nI (by omega), tw_DN_nI (by omega)]; exact tw_dueI hV9 (by omega)
      subst dv9
      refine tw_istore_n [(3, .int (nI (tw_sd g ja))), (2, .ref q38), (0, .ref x), (1, .ref a)] dX5_cheaperMetal_29 rfl (by decide) rfl ?_
      refine tw_aload_n 1 dX5_cheaperMetal_30 rfl rfl ?_
      refine tw_iload_n 0 dX5_cheaperMetal_31 rfl rfl ?_
      have e39 : tw_dF g ja = i14 := tw_dN_e ei16 (by omega)
      have hf9 := he.1.d hja (by omega) b97 (Or.inl rfl) ei16
      have hp9 := he.1.p hf9 (by omega) b96 ei43
      have E9 := he.1.1 i41 hp9
      obtain ⟨e79, f80, n_81, r_82, c_83, go_84, so_85, v_86, rd_87, rf_88, t_89, rfl, k90, k91, k92, k93, k94, k95, k96, k97, k98⟩ := sp0.1 q38 2 (k30 _ rfl) (by decide)
      obtain ⟨j99, ow100, fn9, fr9, fc9, fg9, fs9, q101, q102, q103, q104⟩ := k98
      obtain rfl : i41 = j99 := by have z := ow100.b bi44; omega
      subst fn9 fr9 fc9 fg9 fs9
      refine tw_bi (tw_callVN (M := mX5_cheaperMetal) (pc := 32) okX0_goldFor dX5_cheaperMetal_32 w_364 rfl f80 [.int (nI (tw_sd g ja))] [] rfl rfl ⟨by decide, by decide⟩ (Nat.le_of_ble_eq_true rfl) (c4_X0_goldFor d g τ h sp0.1 q38 (k30 _ rfl) i41 (by omega) bi44 (nI (tw_sd g ja)) _ _ rfl E9.1.2.2 E9.1.1 E9.1.2.1 dl9) 0 0 (Nat.le_of_ble_eq_true rfl) (Nat.le_of_ble_eq_true rfl)) (fun r78 h77 q76 => ?_) (fun E h1 q => q.elim)
      obtain ⟨q76e, q76v⟩ := q76
      rw [q76e]
      have gs9 : r78 = nI (tw_sg g ja 0) := by unfold tw_sg; rw [if_pos rfl, e39, tw_cP_e ei43 (by omega)]; exact q76v
      have gb9 : tw_sg g ja 0 ≤ 59000000 := by unfold tw_sg; rw [if_pos rfl, e39, tw_cP_e ei43 (by omega)]; exact tw_gf_b dl9 E9.1.1
      refine tw_iconst (v := 0) dX5_cheaperMetal_35 (by decide) ?_
      refine tw_aload_n 2 dX5_cheaperMetal_36 rfl rfl ?_
      refine tw_get (v := .int (g.1 0)) rfl in_9 1 dX5_cheaperMetal_37 w_141 rfl (by decide) f47 rfl ?_
      refine tw_bi (tw_callS (M := mX5_cheaperMetal) (pc := 40) okX5_worthOf dX5_cheaperMetal_40 w_368 [.int r78, .int 0, .int (g.1 0)] [] rfl rfl ⟨by decide, by decide⟩ (Nat.le_of_ble_eq_true rfl) (c4_X5_worthOf d g τ h sp0.1 r78 0 (g.1 0) (tw_sg g ja 0) 0 (tw_DN (g.1 0)) gs9 rfl he.2.1 gb9 (by decide) he.2.2) 0 0 (Nat.le_of_ble_eq_true rfl) (Nat.le_of_ble_eq_true rfl)) (fun r107 h106 q105 => ?_) (fun E h1 q => q.elim)
      obtain ⟨q105e, q105v⟩ := q105
      rw [q105e]
      refine tw_iload_n 0 dX5_cheaperMetal_43 rfl rfl ?_
      refine tw_icmp_ge 51 dX5_cheaperMetal_44 (by decide) (fun c108 => ?_) (fun c108 => ?_)
      · have wb9 : 0 + tw_sg g ja 0 * tw_DN (g.1 0) / 10 < 2 ^ 31 := tw_wl2 gb9 he.2.2
        have ck9 : ¬ tw_sg g ja 0 * tw_DN (g.1 0) / 10 < tw_sd g ja := by have z := c108; rw [q105v] at z; have y := (tw_nIle (by omega) wb9).mp z; omega
        refine tw_iconst (v := 1) dX5_cheaperMetal_51 (by decide) ?_
        exact tw_iret dX5_cheaperMetal_52 rfl (Or.inl ⟨_, rfl, rfl, ((if_pos ⟨c45, by rw [e39, ei43]; exact tw_nm1 (by omega)⟩).trans (if_neg ck9)).symm⟩)
      · have wb9 : 0 + tw_sg g ja 0 * tw_DN (g.1 0) / 10 < 2 ^ 31 := tw_wl2 gb9 he.2.2
        have ck9 : tw_sg g ja 0 * tw_DN (g.1 0) / 10 < tw_sd g ja := by have z := c108; rw [q105v] at z; rcases Nat.lt_or_ge (0 + tw_sg g ja 0 * tw_DN (g.1 0) / 10) (tw_sd g ja) with y | y; omega; exact absurd ((tw_nIle (by omega) wb9).mpr y) z
        refine tw_iconst (v := 0) dX5_cheaperMetal_47 (by decide) ?_
        refine tw_goto 52 dX5_cheaperMetal_48 (by decide) ?_
        exact tw_iret dX5_cheaperMetal_52 rfl (Or.inl ⟨_, rfl, rfl, ((if_pos ⟨c45, by rw [e39, ei43]; exact tw_nm1 (by omega)⟩).trans (if_pos ck9)).symm⟩)

set_option maxHeartbeats 4000000 in
set_option maxRecDepth 100000 in
theorem c4_X5_debtFact (d : tw_D) (g : tw_G) (τ : tw_K) (h : tw_H) (hw : tw_wt d g τ h)  (x : Nat) (kx : τ x = 11) (a : Nat) (ka : τ a = 4) (ja : Nat) (hja : ja < g.2 8) (hba : g.2 (4096 + a) = 1152 + 8 * ja) (w : Nat) (hw9 : w ≤ 6) (he : tw_CX g) : tw_Ct d mX5_debtFact 0 0 [.ref x, .ref a, .int (nI w)] h (tw_qi (fun r h1 => h1 = h ∧ r = tw_dC g ja w) tw_nx) := by
  refine tw_of (by decide +kernel) (Nat.le_of_ble_eq_true rfl) ?_
  show tw_W d mX5_debtFact _ 0 [(0, .ref x), (1, .ref a), (2, .int (nI w))] [] h 0 0
  have sp0 := tw_sp.rf hw
  have b9 := tw_b678 hw kx
  refine tw_iload_n 2 dX5_debtFact_0 rfl rfl ?_
  by_cases cs0 : ((nI w)).toInt < 0 ∨ 5 < ((nI w)).toInt
  · refine tw_tabOut 99 dX5_debtFact_1 cs0 (by decide) ?_
    refine tw_aload_n 0 dX5_debtFact_99 rfl rfl ?_
    refine tw_aload_n 1 dX5_debtFact_100 rfl rfl ?_
    obtain ⟨e4, f5, td_6, ca_7, ha_8, da_9, c1_10, c2_11, c3_12, c4_13, rfl, k14, k15, k16, k17, k18, k19, k20, k21, k22, k23, k24, k25, k26, k27, k28, k29, k30⟩ := sp0.1 x 11 kx (by decide)
    refine tw_bi (tw_callV (M := mX5_debtFact) (pc := 101) okX5_cheaperMetal dX5_debtFact_101 w_360 rfl f5 [.ref a] [] rfl rfl ⟨by decide, by decide⟩ (Nat.le_of_ble_eq_true rfl) (c4_X5_cheaperMetal d g τ h sp0.1 x kx a ka ja hja hba he) 0 0 (Nat.le_of_ble_eq_true rfl) (Nat.le_of_ble_eq_true rfl)) (fun r3 h2 q1 => ?_) (fun E h1 q => q.elim)
    obtain ⟨q1e, q1v⟩ := q1
    rw [q1e]
    exact tw_iret dX5_debtFact_104 rfl (Or.inl ⟨_, rfl, rfl, by rw [show w = 6 from (by have z := tw_io (w := w) (lo := 0) (hi := 5) (by omega) cs0; omega)]; exact q1v⟩)
  · have csl : ¬ ((nI w)).toInt < 0 := fun q => cs0 (Or.inl q)
    have csh : ¬ 5 < ((nI w)).toInt := fun q => cs0 (Or.inr q)
    rcases (show ((nI w)).toInt = 0 ∨ ((nI w)).toInt = 1 ∨ ((nI w)).toInt = 2 ∨ ((nI w)).toInt = 3 ∨ ((nI w)).toInt = 4 ∨ ((nI w)).toInt = 5 by omega) with cs1 | cs1 | cs1 | cs1 | cs1 | cs1
    · refine tw_tabIn (off := 39) 40 dX5_debtFact_1 csl csh (by rw [cs1]; rfl) (by decide) ?_
      refine tw_aload_n 1 dX5_debtFact_40 rfl rfl ?_
      obtain ⟨e31, f32, v_33, dy_34, pd_35, a_36, b_37, rfl, k38, k39, k40, k41⟩ := sp0.1 a 4 ka (by decide)
      obtain ⟨j42, ow43, fv9, fd9, fp9, ⟨i44, hi45, ei46, bi47⟩, i48, hi49, ei50, bi51⟩ := k41
      obtain rfl : ja = j42 := by have z := ow43.b hba; omega
      subst fv9 fd9 fp9
      refine tw_getN (v := .ref a_36) rfl in_5 0 dX5_debtFact_41 w_720 rfl (by decide) f32 rfl ?_
      obtain ⟨e52, f53, n_54, ar_55, p_56, pl_57, go_58, rfl, k59, k60, k61, k62⟩ := sp0.1 a_36 3 k38 (by decide)
      obtain ⟨j63, ow64, fn9, fa9, pc65, pc66, lp67⟩ := k62
      obtain rfl : i44 = j63 := by have z := ow64.b bi47; omega
      subst fn9 fa9
      refine tw_getN (v := .int (nI i44)) rfl in_6 0 dX5_debtFact_44 w_637 rfl (by decide) f53 rfl ?_
      exact tw_iret dX5_debtFact_47 rfl (Or.inl ⟨_, rfl, rfl, by rw [show w = 0 from tw_ic (w := w) (j := 0) (by omega) cs1]; exact ei46.symm⟩)
    · refine tw_tabIn (off := 47) 48 dX5_debtFact_1 csl csh (by rw [cs1]; rfl) (by decide) ?_
      refine tw_aload_n 1 dX5_debtFact_48 rfl rfl ?_
      obtain ⟨e68, f69, v_70, dy_71, pd_72, a_73, b_74, rfl, k75, k76, k77, k78⟩ := sp0.1 a 4 ka (by decide)
      obtain ⟨j79, ow80, fv9, fd9, fp9, ⟨i81, hi82, ei83, bi84⟩, i85, hi86, ei87, bi88⟩ := k78
      obtain rfl : ja = j79 := by have z := ow80.b hba; omega
      subst fv9 fd9 fp9
      refine tw_getN (v := .ref b_74) rfl in_5 1 dX5_debtFact_49 w_722 rfl (by decide) f69 rfl ?_
      obtain ⟨e89, f90, n_91, ar_92, p_93, pl_94, go_95, rfl, k96, k97, k98, k99⟩ := sp0.1 b_74 3 k76 (by decide)
      obtain ⟨j100, ow101, fn9, fa9, pc102, pc103, lp104⟩ := k99
      obtain rfl : i85 = j100 := by have z := ow101.b bi88; omega
      subst fn9 fa9
      refine tw_getN (v := .int (nI i85)) rfl in_6 0 dX5_debtFact_52 w_637 rfl (by decide) f90 rfl ?_
      exact tw_iret dX5_debtFact_55 rfl (Or.inl ⟨_, rfl, rfl, by rw [show w = 1 from tw_ic (w := w) (j := 1) (by omega) cs1]; exact ei87.symm⟩)
    · refine tw_tabIn (off := 55) 56 dX5_debtFact_1 csl csh (by rw [cs1]; rfl) (by decide) ?_
      refine tw_aload_n 1 dX5_debtFact_56 rfl rfl ?_
      obtain ⟨e105, f106, v_107, dy_108, pd_109, a_110, b_111, rfl, k112, k113, k114, k115⟩ := sp0.1 a 4 ka (by decide)
      obtain ⟨j116, ow117, fv9, fd9, fp9, ⟨i118, hi119, ei120, bi121⟩, i122, hi123, ei124, bi125⟩ := k115
      obtain rfl : ja = j116 := by have z := ow117.b hba; omega
      subst fv9 fd9 fp9
      refine tw_getN (v := .int (g.1 (1152 + 8 * ja + 0))) rfl in_5 2 dX5_debtFact_57 w_724 rfl (by decide) f106 rfl ?_
      exact tw_iret dX5_debtFact_60 rfl (Or.inl ⟨_, rfl, rfl, by rw [show w = 2 from tw_ic (w := w) (j := 2) (by omega) cs1]; exact rfl⟩)
    · refine tw_tabIn (off := 60) 61 dX5_debtFact_1 csl csh (by rw [cs1]; rfl) (by decide) ?_
      refine tw_aload_n 1 dX5_debtFact_61 rfl rfl ?_
      obtain ⟨e126, f127, v_128, dy_129, pd_130, a_131, b_132, rfl, k133, k134, k135, k136⟩ := sp0.1 a 4 ka (by decide)
      obtain ⟨j137, ow138, fv9, fd9, fp9, ⟨i139, hi140, ei141, bi142⟩, i143, hi144, ei145, bi146⟩ := k136
      obtain rfl : ja = j137 := by have z := ow138.b hba; omega
      subst fv9 fd9 fp9
      refine tw_getN (v := .int (g.1 (1152 + 8 * ja + 1))) rfl in_5 3 dX5_debtFact_62 w_726 rfl (by decide) f127 rfl ?_
      exact tw_iret dX5_debtFact_65 rfl (Or.inl ⟨_, rfl, rfl, by rw [show w = 3 from tw_ic (w := w) (j := 3) (by omega) cs1]; exact rfl⟩)
    · refine tw_tabIn (off := 65) 66 dX5_debtFact_1 csl csh (by rw [cs1]; rfl) (by decide) ?_
      refine tw_aload_n 1 dX5_debtFact_66 rfl rfl ?_
      obtain ⟨e147, f148, v_149, dy_150, pd_151, a_152, b_153, rfl, k154, k155, k156, k157⟩ := sp0.1 a 4 ka (by decide)
      obtain ⟨j158, ow159, fv9, fd9, fp9, ⟨i160, hi161, ei162, bi163⟩, i164, hi165, ei166, bi167⟩ := k157
      obtain rfl : ja = j158 := by have z := ow159.b hba; omega
      subst fv9 fd9 fp9
      refine tw_getN (v := .int (g.1 (1152 + 8 * ja + 2))) rfl in_5 4 dX5_debtFact_67 w_728 rfl (by decide) f148 rfl ?_
      refine tw_if_eq 77 dX5_debtFact_70 (by decide) (fun c168 => ?_) (fun c168 => ?_)
      · refine tw_aload_n 1 dX5_debtFact_77 rfl rfl ?_
        refine tw_aload_n 0 dX5_debtFact_78 rfl rfl ?_
        obtain ⟨e169, f170, td_171, ca_172, ha_173, da_174, c1_175, c2_176, c3_177, c4_178, rfl, k179, k180, k181, k182, k183, k184, k185, k186, k187, k188, k189, k190, k191, k192, k193, k194, k195⟩ := sp0.1 x 11 kx (by decide)
        refine tw_get (v := .int td_171) rfl in_9 0 dX5_debtFact_79 w_140 rfl (by decide) f170 rfl ?_
        obtain ⟨⟨V9, hV9, eV9⟩, ⟨D9, hD9, eD9⟩, -⟩ := he.1.2.2 ja hja
        have T9 := k191
        rw [k190]
        refine tw_bi (tw_callVN (M := mX5_debtFact) (pc := 82) okX1_dueOn dX5_debtFact_82 w_355 rfl f148 [.int (nI (g.2 21))] [] rfl rfl ⟨by decide, by decide⟩ (Nat.le_of_ble_eq_true rfl) (c4_X1_dueOn d g τ h sp0.1 a ka ja (by omega) hba (g.2 21) V9 D9 eV9 eD9 hV9 (by omega) hD9) 0 0 (Nat.le_of_ble_eq_true rfl) (Nat.le_of_ble_eq_true rfl)) (fun r198 h197 q196 => ?_) (fun E h1 q => q.elim)
        obtain ⟨q196e, q196v⟩ := q196
        rw [q196e]
        have dv9 : r198 = nI (tw_sd g ja) := by unfold tw_sd; rw [eV9, eD9, tw_DN_nI (by omega), tw_DN_nI (by omega)]; exact q196v
        have dl9 : tw_sd g ja ≤ 40000 := by unfold tw_sd; rw [eV9, eD9, tw_DN_nI (by omega), tw_DN_nI (by omega)]; exact tw_dueI hV9 (by omega)
        subst dv9
        exact tw_iret dX5_debtFact_85 rfl (Or.inl ⟨_, rfl, rfl, by rw [show w = 4 from tw_ic (w := w) (j := 4) (by omega) cs1]; exact (if_pos c168).symm⟩)
      · refine tw_iconst (v := 0) dX5_debtFact_73 (by decide) ?_
        refine tw_goto 85 dX5_debtFact_74 (by decide) ?_
        exact tw_iret dX5_debtFact_85 rfl (Or.inl ⟨_, rfl, rfl, by rw [show w = 4 from tw_ic (w := w) (j := 4) (by omega) cs1]; exact (if_neg c168).symm⟩)
    · refine tw_tabIn (off := 85) 86 dX5_debtFact_1 csl csh (by rw [cs1]; rfl) (by decide) ?_
      refine tw_aload_n 1 dX5_debtFact_86 rfl rfl ?_
      obtain ⟨e199, f200, v_201, dy_202, pd_203, a_204, b_205, rfl, k206, k207, k208, k209⟩ := sp0.1 a 4 ka (by decide)
      obtain ⟨j210, ow211, fv9, fd9, fp9, ⟨i212, hi213, ei214, bi215⟩, i216, hi217, ei218, bi219⟩ := k209
      obtain rfl : ja = j210 := by have z := ow211.b hba; omega
      subst fv9 fd9 fp9
      refine tw_getN (v := .int (g.1 (1152 + 8 * ja + 2))) rfl in_5 4 dX5_debtFact_87 w_728 rfl (by decide) f200 rfl ?_
      refine tw_if_eq 97 dX5_debtFact_90 (by decide) (fun c220 => ?_) (fun c220 => ?_)
      · refine tw_iconst (v := 0) dX5_debtFact_97 (by decide) ?_
        exact tw_iret dX5_debtFact_98 rfl (Or.inl ⟨_, rfl, rfl, by rw [show w = 5 from tw_ic (w := w) (j := 5) (by omega) cs1]; exact (if_pos c220).symm⟩)
      · refine tw_iconst (v := 1) dX5_debtFact_93 (by decide) ?_
        refine tw_goto 98 dX5_debtFact_94 (by decide) ?_
        exact tw_iret dX5_debtFact_98 rfl (Or.inl ⟨_, rfl, rfl, by rw [show w = 5 from tw_ic (w := w) (j := 5) (by omega) cs1]; exact (if_neg c220).symm⟩)

set_option maxHeartbeats 4000000 in
set_option maxRecDepth 100000 in
theorem c2_X5_ofDebt (d : tw_D) (g : tw_G) (τ : tw_K) (h : tw_H) (hw : tw_wt d g τ h) (x : Nat) (kx : τ x = 11) (a : Int32) (wh : Int32) (he : tw_CX g) : tw_Ct d mX5_ofDebt 20 120 [.ref x, .int a, .int wh] h (tw_qi (fun r9 h1 => r9 = tw_dC g (tw_DN a) (tw_DN wh) ∧ (tw_ix (g.2 8) a) ∧ (0 ≤ wh ∧ wh ≤ 6) ∧ ∃ τ1, tw_sp d τ h (g) τ1 h1) (fun E h1 => (E = tw_IOE ∧ ¬ (tw_ix (g.2 8) a) ∨ E = tw_IAE ∧ tw_ix (g.2 8) a ∧ ¬ (0 ≤ wh ∧ wh ≤ 6)) ∧ ∃ τ1, tw_sp d τ h g τ1 h1)) := by
  refine tw_of (by decide +kernel) (Nat.le_of_ble_eq_true rfl) ?_
  show tw_W d mX5_ofDebt _ 0 [(0, .ref x), (1, .int a), (2, .int wh)] [] h 20 120
  have sp0 := tw_sp.rf hw
  obtain ⟨b96, b97, b98⟩ := tw_b678 hw kx
  refine tw_aload_n 0 dX5_ofDebt_0 rfl rfl ?_
  refine tw_iload_n 1 dX5_ofDebt_1 rfl rfl ?_
  obtain ⟨e4, f5, td_6, ca_7, ha_8, da_9, c1_10, c2_11, c3_12, c4_13, rfl, k14, k15, k16, k17, k18, k19, k20, k21, k22, k23, k24, k25, k26, k27, k28, k29, k30⟩ := sp0.1 x 11 kx (by decide)
  refine tw_br (tw_callV (M := mX5_ofDebt) (pc := 2) okX5_debtAt dX5_ofDebt_2 w_747 rfl f5 [.int a] [] rfl rfl ⟨by decide, by decide⟩ (Nat.le_of_ble_eq_true rfl) (c4_X5_debtAt d g τ h sp0.1 x kx a) 19 114 (Nat.le_of_ble_eq_true rfl) (Nat.le_of_ble_eq_true rfl)) (fun r3 h2 q1 => ?_) (fun E h1 q1 => Or.inr ⟨E, rfl, (Or.inl ⟨q1.1, q1.2.2⟩), τ, by rw [q1.2.1]; exact sp0⟩)
  obtain ⟨q1e, q1k, ja, hja, q1n, q1b⟩ := q1
  rw [q1e]
  subst q1n
  have cDa : tw_DN (nI ja) = ja := nI_clamp (by omega)
  have ixa : tw_ix (g.2 8) (nI ja) := ⟨ja, hja, rfl⟩
  have ix0 := ixa
  refine tw_astore_n [(3, .ref r3), (0, .ref x), (1, .int (nI ja)), (2, .int wh)] dX5_ofDebt_5 rfl (by decide) rfl ?_
  refine tw_iload_n 3 dX5_ofDebt_6 rfl rfl ?_
  refine tw_iconst (v := 0) dX5_ofDebt_7 (by decide) ?_
  refine tw_bipush (v := 6) dX5_ofDebt_8 (by decide) ?_
  refine tw_bv (tw_callS (M := mX5_ofDebt) (pc := 10) okX5_needRange dX5_ofDebt_10 w_399 [.int wh, .int 0, .int 6] [] rfl rfl ⟨by decide, by decide⟩ (Nat.le_of_ble_eq_true rfl) (c2_X5_needRange d g τ h sp0.1 wh 0 6) 18 108 (Nat.le_of_ble_eq_true rfl) (Nat.le_of_ble_eq_true rfl)) (fun h32 q31 => ?_) (fun E h1 q31 => Or.inr ⟨E, rfl, (Or.inr (⟨q31.1, ix0, q31.2.2⟩)), τ, by rw [q31.2.1]; exact sp0⟩)
  obtain ⟨q31e, rlwh⟩ := q31
  rw [q31e]
  have rc0 : 0 ≤ wh ∧ wh ≤ 6 := rlwh
  obtain ⟨w9, -, hw9, ew⟩ := tw_I_rng (a := 0) (b := 6) rlwh.1 rlwh.2 (by decide) (by decide)
  subst ew
  have cDwh : tw_DN (nI w9) = w9 := nI_clamp (by omega)
  refine tw_aload_n 1 dX5_ofDebt_13 rfl rfl ?_
  refine tw_aload_n 0 dX5_ofDebt_14 rfl rfl ?_
  refine tw_iload_n 3 dX5_ofDebt_15 rfl rfl ?_
  refine tw_bi (tw_callV (M := mX5_ofDebt) (pc := 16) okX5_debtFact dX5_ofDebt_16 w_351 rfl f5 [.ref r3, .int (nI w9)] [] rfl rfl ⟨by decide, by decide⟩ (Nat.le_of_ble_eq_true rfl) (c4_X5_debtFact d g τ h sp0.1 x kx r3 q1k ja hja q1b w9 hw9 he) 18 108 (Nat.le_of_ble_eq_true rfl) (Nat.le_of_ble_eq_true rfl)) (fun r36 h35 q34 => ?_) (fun E h1 q => q.elim)
  obtain ⟨q34e, q34v⟩ := q34
  rw [q34e]
  exact tw_iret dX5_ofDebt_19 rfl (Or.inl ⟨_, rfl, (by (try rw [cDa]); (try rw [cDwh]); first | done | exact q34v), ix0, rc0, _, (by (try rw [cDa]); (try rw [cDwh]); first | done | exact sp0)⟩)

def tw_oS (go so : Int32) : Int32 := (if go = 0 then 0 else 1) + (if so = 0 then 0 else 2)
def tw_pn (f : Nat → Int32) : Int32 := 20 * f 0 + 10 * f 1 + 5 * f 2 + 2 * f 3 + f 4
def tw_oC (g : tw_G) (a : Nat) : Nat → Int32
  | 0 => g.1 (160 + 64 * a)
  | 1 => g.1 (160 + 64 * a + 1)
  | 2 => g.1 (160 + 64 * a + 24 + 0)
  | 3 => g.1 (160 + 64 * a + 24 + 1)
  | 4 => tw_oS (g.1 (160 + 64 * a + 2)) (g.1 (160 + 64 * a + 3))
  | 5 => tw_isum (fun j => if g.1 (768 + 32 * j + 1) = nI a then 1 else 0) (g.2 7)
  | 6 => tw_wo (g.1 (160 + 64 * a + 24 + 0)) (g.1 (160 + 64 * a + 24 + 1)) (g.1 0)
  | 7 => tw_pn (fun k => g.1 (160 + 64 * a + 32 + k))
  | _ + 8 => tw_isum (fun j => if g.1 (160 + 64 * j) = g.1 (160 + 64 * a) then 1 else 0) (g.2 6)
def tw_SO (g : tw_G) : Prop := (∀ k, k < 2 → tw_wC g k 0 + tw_wC g k 1 + tw_wC g k 2 + tw_wC g k 3 + tw_wC g k 4 = tw_wC g k 5) ∧ (∀ j, j < g.2 6 → (0 ≤ g.1 (160 + 64 * j + 24 + 0) ∧ 0 ≤ g.1 (160 + 64 * j + 24 + 1)) ∧ ∀ k, k < 5 → 0 ≤ g.1 (160 + 64 * j + 32 + k)) ∧ (∀ j, j < g.2 7 → (0 ≤ g.1 (768 + 32 * j + 8 + 0) ∧ 0 ≤ g.1 (768 + 32 * j + 8 + 1)) ∧ (g.1 (768 + 32 * j + 2) ≠ -1 → nI (g.2 21) < g.1 (768 + 32 * j + 0))) ∧ ∀ a b, a < g.2 6 → b < g.2 6 → g.1 (160 + 64 * a + 8 + b) = g.1 (160 + 64 * b + 8 + a) ∧ g.1 (160 + 64 * a + 16 + b) = g.1 (160 + 64 * b + 16 + a)
/-! the class's methods over the typed heap. Laid by wip/p5/mkclass.py. -/
/-! what is asked, the reference -/
theorem tw_sum_s {f : Nat → Nat} (a : Nat) : ∀ m, tw_sum f (a + m) = tw_sum f a + tw_sum (fun j => f (a + j)) m
  | 0 => rfl
  | m + 1 => by
    show tw_sum f (a + m) + f (a + m) = tw_sum f a + (tw_sum (fun j => f (a + j)) m + f (a + m))
    rw [tw_sum_s a m, Nat.add_assoc]
theorem tw_sum_m {f : Nat → Nat} {m : Nat} : ∀ n, m ≤ n → tw_sum f m ≤ tw_sum f n
  | 0, h => by rw [show m = 0 by omega]; exact Nat.le_refl _
  | n + 1, h => by
    show tw_sum f m ≤ tw_sum f n + f n
    by_cases q : m = n + 1
    · rw [q]
      exact Nat.le_refl _
    · exact Nat.le_trans (tw_sum_m n (by omega)) (Nat.le_add_right _ _)
def tw_wM (g : tw_G) (k : Nat) : Nat → Nat
  | 0 => tw_sum (fun j => tw_DN (g.1 (480 + 64 * j + 16 + k))) (g.2 3)
  | 1 => tw_sum (fun j => tw_DN (g.1 (960 + 32 * j + 8 + k))) (g.2 4)
  | w + 2 => tw_DN (g.1 (1344 + 8 * w + k))
theorem tw_AM.w0 {B : Nat} {g : tw_G} (h : tw_AM B g) {k m : Nat} (hk : k < 2) (hm : m ≤ 4) : tw_sum (fun j => tw_DN (g.1 (480 + 64 * j + 16 + k))) m ≤ B := by
  have e : tw_sum (fun j => tw_DN (g.1 (480 + 64 * j + 16 + k))) m = tw_sum (fun i => tw_am g i k) m := tw_sum_c m (fun j hj => by unfold tw_am; rw [tw_ac_v (by omega), show 496 + 64 * j + k = 480 + 64 * j + 16 + k by omega])
  have l := tw_sum_m (f := fun i => tw_am g i k) (m := m) 13 (by omega)
  have z := h.2 k hk
  omega
theorem tw_AM.w1 {B : Nat} {g : tw_G} (h : tw_AM B g) {k m : Nat} (hk : k < 2) (hm : m ≤ 6) : tw_sum (fun j => tw_DN (g.1 (960 + 32 * j + 8 + k))) m ≤ B := by
  have e : tw_sum (fun j => tw_DN (g.1 (960 + 32 * j + 8 + k))) m = tw_sum (fun j => tw_am g (4 + j) k) m := tw_sum_c m (fun j hj => by unfold tw_am; rw [tw_ac_h (by omega) (by omega), show 840 + 32 * (4 + j) + k = 960 + 32 * j + 8 + k by omega])
  have l := tw_sum_m (f := fun i => tw_am g i k) (m := 4 + m) 13 (by omega)
  have s := tw_sum_s (f := fun i => tw_am g i k) 4 m
  have z := h.2 k hk
  omega
set_option maxHeartbeats 4000000 in
set_option maxRecDepth 100000 in
theorem c2_X10_market (d : tw_D) (g : tw_G) (τ : tw_K) (h : tw_H) (hw : tw_wt d g τ h) (x : Nat) (kx : τ x = 36) (m : Int32) (o : Nat) (ko : τ o = 12) : tw_Ct d mX10_market 0 0 [.ref x, .int m] h (tw_qi (fun r9 h1 => ∃ g1 τ1, tw_sp d τ h g1 τ1 h1 ∧ h1 o = h o ∧ ((¬ (100 ≤ m ∧ m ≤ 200) ∧ tw_th (h1 x) = 1 ∧ g1 = g) ∨ ((100 ≤ m ∧ m ≤ 200) ∧ r9 = g.1 1 ∧ tw_th (h1 x) = 0 ∧ g1 = tw_g1 g 1 m))) tw_nx) := by
  refine tw_of (by decide +kernel) (Nat.le_of_ble_eq_true rfl) ?_
  show tw_W d mX10_market _ 0 [(0, .ref x), (1, .int m)] [] h 0 0
  have sp0 := tw_sp.rf hw
  refine tw_aload_n 0 dX10_market_0 rfl rfl ?_
  refine tw_iload_n 1 dX10_market_1 rfl rfl ?_
  refine tw_bipush (v := 100) dX10_market_2 (by decide) ?_
  refine tw_sipush (v := 200) dX10_market_4 (by decide) ?_
  refine tw_bi (tw_callS (M := mX10_market) (pc := 7) okX10_isIn dX10_market_7 w_1196 [.int m, .int 100, .int 200] [.ref x] rfl rfl ⟨by decide, by decide⟩ (Nat.le_of_ble_eq_true rfl) (c_X10_isIn d g τ h sp0.1 m 100 200) 0 0 (Nat.le_of_ble_eq_true rfl) (Nat.le_of_ble_eq_true rfl)) (fun r3 h2 q1 => ?_) (fun E h1 q => q.elim)
  obtain ⟨q1e, q1d⟩ := q1
  rw [q1e]
  rcases q1d with ⟨q1r, q1n⟩ | ⟨q1r, q1a, q1b⟩
  · rw [q1r]
    refine tw_if_ne 17 dX10_market_10 (by decide) (fun c4 => absurd (by decide) c4) (fun _ => ?_)
    refine tw_iconst (v := 1) dX10_market_13 (by decide) ?_
    refine tw_goto 18 dX10_market_14 (by decide) ?_
    refine tw_iconst (v := 1) dX10_market_18 (by decide) ?_
    obtain ⟨e5, f6, th_7, td_8, ds_9, fr_10, ca_11, us_12, wo_13, cm_14, lc_15, lh_16, ld_17, rfl, k18, k19, k20, k21, k22, k23, k24, k25, k26, k27, k28, k29, k30, k31, k32, k33, k34, k35, k36, k37, k38, k39⟩ := sp0.1 x 36 kx (by decide)
    refine tw_bi (tw_callV (M := mX10_market) (pc := 19) okX10_start dX10_market_19 w_1200 rfl f6 [.int 1, .int 1] [] rfl rfl ⟨by decide, by decide⟩ (Nat.le_of_ble_eq_true rfl) (c_X10_start d g τ h sp0.1 x kx 1 1 (by decide)) 0 0 (Nat.le_of_ble_eq_true rfl) (Nat.le_of_ble_eq_true rfl)) (fun r h1 q => ?_) (fun E h1 q => q.elim)
    obtain ⟨e, he, hs, hr, h3a, h3b⟩ := q
    have sp1 : tw_sp d τ h g τ h1 := by rw [he]; exact sp0.set kx (by decide) hs
    obtain ⟨r1, t1⟩ := h3b rfl
    rw [r1]
    refine tw_if_eq 27 dX10_market_22 (by decide) (fun c40 => absurd c40 (by decide)) (fun _ => ?_)
    refine tw_iconst (v := 0) dX10_market_25 (by decide) ?_
    exact tw_iret dX10_market_26 rfl (Or.inl ⟨_, rfl, _, _, sp1, by rw [he, tw_up_n (tw_nk ko kx (by decide))], Or.inl ⟨q1n, by rw [he, tw_up_s]; exact t1, rfl⟩⟩)
  · rw [q1r]
    refine tw_if_ne 17 dX10_market_10 (by decide) (fun _ => ?_) (fun c41 => absurd c41 (by decide))
    refine tw_iconst (v := 0) dX10_market_17 (by decide) ?_
    refine tw_iconst (v := 1) dX10_market_18 (by decide) ?_
    obtain ⟨e42, f43, th_44, td_45, ds_46, fr_47, ca_48, us_49, wo_50, cm_51, lc_52, lh_53, ld_54, rfl, k55, k56, k57, k58, k59, k60, k61, k62, k63, k64, k65, k66, k67, k68, k69, k70, k71, k72, k73, k74, k75, k76⟩ := sp0.1 x 36 kx (by decide)
    refine tw_bi (tw_callV (M := mX10_market) (pc := 19) okX10_start dX10_market_19 w_1200 rfl f43 [.int 0, .int 1] [] rfl rfl ⟨by decide, by decide⟩ (Nat.le_of_ble_eq_true rfl) (c_X10_start d g τ h sp0.1 x kx 0 1 (by decide)) 0 0 (Nat.le_of_ble_eq_true rfl) (Nat.le_of_ble_eq_true rfl)) (fun r h1 q => ?_) (fun E h1 q => q.elim)
    obtain ⟨e, he, hs, hr, h3a, h3b⟩ := q
    have sp1 : tw_sp d τ h g τ h1 := by rw [he]; exact sp0.set kx (by decide) hs
    obtain ⟨r1, t1⟩ := h3a rfl
    rw [r1]
    refine tw_if_eq 27 dX10_market_22 (by decide) (fun _ => ?_) (fun c77 => absurd (by decide) c77)
    refine tw_aload_n 0 dX10_market_27 rfl rfl ?_
    obtain ⟨e78, f79, th_80, td_81, ds_82, fr_83, ca_84, us_85, wo_86, cm_87, lc_88, lh_89, ld_90, rfl, k91, k92, k93, k94, k95, k96, k97, k98, k99, k100, k101, k102, k103, k104, k105, k106, k107, k108, k109, k110, k111, k112⟩ := sp1.1 x 36 kx (by decide)
    refine tw_get (v := .int (g.1 1)) rfl in_14 2 dX10_market_28 w_1153 rfl (by decide) f79 rfl ?_
    refine tw_istore_n [(2, .int (g.1 1)), (0, .ref x), (1, .int m)] dX10_market_31 rfl (by decide) rfl ?_
    refine tw_aload_n 1 dX10_market_32 rfl rfl ?_
    refine tw_iload_n 2 dX10_market_33 rfl rfl ?_
    have z0 : tw_th (h1 x) = 0 := by rw [he, tw_up_s]; exact t1
    rw [f79] at z0
    have q0 : th_80 = 0 := z0
    refine tw_put rfl in_14 tyX10 tyX10_ok nmX10 2 dX10_market_34 w_1153 rfl (by decide) f79 rfl rfl rfl rfl (Nat.le_of_ble_eq_true rfl) [.int th_80, .int td_81, .int m, .ref ds_82, .ref fr_83, .ref ca_84, .ref us_85, .ref wo_86, .ref cm_87, .ref lc_88, .ref lh_89, .ref ld_90] rfl ?_
    obtain ⟨h113, eh113⟩ : ∃ z : tw_H, z = tw_up h1 x (.inr (14, [.int th_80, .int td_81, .int m, .ref ds_82, .ref fr_83, .ref ca_84, .ref us_85, .ref wo_86, .ref cm_87, .ref lc_88, .ref lh_89, .ref ld_90])) := ⟨_, rfl⟩
    rw [← eh113]
    have f114 : h113 x = some (.inr (14, [.int th_80, .int td_81, .int m, .ref ds_82, .ref fr_83, .ref ca_84, .ref us_85, .ref wo_86, .ref cm_87, .ref lc_88, .ref lh_89, .ref ld_90])) := by rw [eh113]; exact tw_up_s
    have sp2 : tw_sp d τ h (tw_g1 g 1 m) τ h113 := by rw [eh113]; exact sp1.m36 kx ⟨th_80, td_81, ds_82, fr_83, ca_84, us_85, wo_86, cm_87, lc_88, lh_89, ld_90, rfl, k91, k92, k93, k94, k95, k96, k97, k98, k99, k100, k101, k102, k103, k104, k105, k106, k107, k108, k109, k110, k111, k112⟩
    refine tw_iload_n 0 dX10_market_37 rfl rfl ?_
    exact tw_iret dX10_market_38 rfl (Or.inl ⟨_, rfl, _, _, sp2, by rw [eh113, tw_up_n (tw_nk ko kx (by decide)), he, tw_up_n (tw_nk ko kx (by decide))], Or.inr ⟨⟨q1a, q1b⟩, rfl, by rw [f114]; exact q0, rfl⟩⟩)

set_option maxHeartbeats 4000000 in
set_option maxRecDepth 100000 in
theorem c4_X10_worth (d : tw_D) (g : tw_G) (τ : tw_K) (h : tw_H) (hw : tw_wt d g τ h)  (x : Nat) (kx : τ x = 36) (p : Nat) (kp : τ p = 31) (b : Nat) (hb : g.2 (4096 + p) = b) (A Bn R : Nat) (ea : g.1 (b + 0) = nI A) (eb : g.1 (b + 1) = nI Bn) (er : g.1 1 = nI R) (hA : A ≤ 59000000) (hB : Bn ≤ 59000000) (hR : R ≤ 200) : tw_Ct d mX10_worth 0 0 [.ref x, .ref p] h (tw_ql (fun r h1 => h1 = h ∧ r = tw_L (Bn + A * R / 10)) tw_nx) := by
  refine tw_of (by decide +kernel) (Nat.le_of_ble_eq_true rfl) ?_
  show tw_W d mX10_worth _ 0 [(0, .ref x), (1, .ref p)] [] h 0 0
  have sp0 := tw_sp.rf hw
  have m9 : A * R ≤ 59000000 * 200 := Nat.mul_le_mul hA hR
  refine tw_aload_n 1 dX10_worth_0 rfl rfl ?_
  refine tw_iconst (v := 1) dX10_worth_1 (by decide) ?_
  obtain ⟨e1, f2, F3, rfl, ⟨b5, ow6, wv7⟩⟩ := sp0.1 p 31 kp (by decide)
  obtain rfl : b = b5 := (ow6.b hb).symm
  have ev8 : F3 (1 : Int32).toNatClampNeg = (g.1 (b + 1)).toInt64 := by rw [show (1 : Int32).toNatClampNeg = 1 by decide]; exact wv7 1 (by omega)
  refine tw_lald (v := (g.1 (b + 1)).toInt64) dX10_worth_2 f2 (vp_in_nI (n := 1) (by decide) (by decide)) ev8 ?_
  refine tw_aload_n 1 dX10_worth_3 rfl rfl ?_
  refine tw_iconst (v := 0) dX10_worth_4 (by decide) ?_
  have ev9 : F3 (0 : Int32).toNatClampNeg = (g.1 (b + 0)).toInt64 := by rw [show (0 : Int32).toNatClampNeg = 0 by decide]; exact wv7 0 (by omega)
  refine tw_lald (v := (g.1 (b + 0)).toInt64) dX10_worth_5 f2 (vp_in_nI (n := 0) (by decide) (by decide)) ev9 ?_
  refine tw_aload_n 0 dX10_worth_6 rfl rfl ?_
  obtain ⟨e10, f11, th_12, td_13, ds_14, fr_15, ca_16, us_17, wo_18, cm_19, lc_20, lh_21, ld_22, rfl, k23, k24, k25, k26, k27, k28, k29, k30, k31, k32, k33, k34, k35, k36, k37, k38, k39, k40, k41, k42, k43, k44⟩ := sp0.1 x 36 kx (by decide)
  refine tw_get (v := .int (g.1 1)) rfl in_14 2 dX10_worth_7 w_1153 rfl (by decide) f11 rfl ?_
  refine tw_i2l dX10_worth_10 ?_
  refine tw_nml (fun v45 ev45 => ?_)
  refine tw_lmul dX10_worth_11 ?_
  refine tw_nml (fun v46 ev46 => ?_)
  refine tw_ldc2 (v := 10) dX10_worth_12 w_1373 ?_
  refine tw_ldiv dX10_worth_15 (by decide) ?_
  refine tw_nml (fun v47 ev47 => ?_)
  refine tw_ladd dX10_worth_16 ?_
  refine tw_nml (fun v48 ev48 => ?_)
  exact tw_lret dX10_worth_17 rfl (Or.inl ⟨_, rfl, rfl, by rw [ev48, ev47, ev46, ev45, ea, eb, er, tw_L_i (by omega), tw_L_i (by omega), tw_L_i (by omega), show (10 : Int64) = tw_L 10 from rfl, tw_L_mul (by omega) (by omega) (by omega), tw_L_div (by omega) (by decide), tw_L_ad]⟩)

def tw_hM (g : tw_G) (a : Nat) : Nat → Int32
  | 0 => g.1 (960 + 32 * a + 1)
  | 1 => g.1 (960 + 32 * a + 2)
  | 2 => g.1 (960 + 32 * a + 0)
  | 3 => g.1 (960 + 32 * a + 8 + 0)
  | 4 => g.1 (960 + 32 * a + 8 + 1)
  | 5 => tw_wo (g.1 (960 + 32 * a + 8 + 0)) (g.1 (960 + 32 * a + 8 + 1)) (g.1 1)
  | 6 => tw_isum (fun j => if g.1 (1232 + 8 * j + 2) = 0 ∧ g.1 (1232 + 8 * j + 3) = nI a then 1 else 0) (g.2 5)
  | _ + 7 => tw_isum (fun j => if g.1 (1232 + 8 * j + 2) = 0 ∧ g.1 (1232 + 8 * j + 4) = nI a then 1 else 0) (g.2 5)
def tw_MW (g : tw_G) : Prop := g.1 1 = nI (tw_DN (g.1 1)) ∧ tw_DN (g.1 1) ≤ 200
theorem tw_wo_lt {A Bn M : Nat} (hA : A ≤ 59000000) (hB : Bn ≤ 59000000) (hM : M ≤ 200) : Bn + A * M / 10 < 2 ^ 31 := by
  have m9 : A * M ≤ 59000000 * 200 := Nat.mul_le_mul hA hM
  omega
set_option maxHeartbeats 4000000 in
set_option maxRecDepth 100000 in
theorem c4_X10_ofHouseNow (d : tw_D) (g : tw_G) (τ : tw_K) (h : tw_H) (hw : tw_wt d g τ h) (x : Nat) (kx : τ x = 36) (a : Nat) (ha : a < g.2 4) (w : Nat) (hw9 : w ≤ 7) (o : Nat) (ko : τ o = 12) (he : tw_AM 59000000 g) (hk9 : tw_MW g) : tw_Ct d mX10_ofHouseNow 2 12 [.ref x, .int (nI a), .int (nI w)] h (tw_qi (fun r h1 => tw_sp d τ h g τ h1 ∧ tw_th (h1 x) = tw_th (h x) ∧ h1 o = h o ∧ r = tw_hM g a w) tw_nx) := by
  refine tw_of (by decide +kernel) (Nat.le_of_ble_eq_true rfl) ?_
  show tw_W d mX10_ofHouseNow _ 0 [(0, .ref x), (1, .int (nI a)), (2, .int (nI w))] [] h 2 12
  have sp0 := tw_sp.rf hw
  have th0 : tw_th (h x) = tw_th (h x) := rfl
  have oq0 : h o = h o := rfl
  have b93 := tw_b3 hw kx
  have b94 := tw_b4 hw kx
  refine tw_aload_n 0 dX10_ofHouseNow_0 rfl rfl ?_
  obtain ⟨e1, f2, th_3, td_4, ds_5, fr_6, ca_7, us_8, wo_9, cm_10, lc_11, lh_12, ld_13, rfl, k14, k15, k16, k17, k18, k19, k20, k21, k22, k23, k24, k25, k26, k27, k28, k29, k30, k31, k32, k33, k34, k35⟩ := sp0.1 x 36 kx (by decide)
  refine tw_get (v := .ref lh_12) rfl in_14 10 dX10_ofHouseNow_1 w_1161 rfl (by decide) f2 rfl ?_
  refine tw_iload_n 1 dX10_ofHouseNow_4 rfl rfl ?_
  obtain ⟨e36, f37, ⟨el38, rfl, k39⟩, k40⟩ := sp0.1 lh_12 25 k21 (by decide)
  refine tw_br (tw_callV (M := mX10_ofHouseNow) (pc := 5) okJx4a65c_get_915e3 dX10_ofHouseNow_5 w_1296 rfl f37 [.int (nI a)] [] rfl rfl ⟨by decide, by decide⟩ (Nat.le_of_ble_eq_true rfl) (c25_get d g τ h sp0.1 lh_12 k21 a (by omega) (by omega)) 2 12 (Nat.le_of_ble_eq_true rfl) (Nat.le_of_ble_eq_true rfl)) (fun r43 h42 q41 => ?_) (fun E h1 q => q.elim)
  obtain ⟨q41e, q41k⟩ := q41
  rw [q41e]
  have el44 : tw_el h (g.2 13) a = r43 := by rw [← k40]; exact q41k.2.symm
  have kl45 : τ (g.2 13) = 25 := by rw [← k40]; exact k21
  have id46 : g.2 (4096 + r43) = 960 + 32 * a := by rw [← el44]; exact tw_eli25 sp0.1 kl45 (by omega)
  obtain ⟨e47, f48, x_49, y_50, dy_51, p_52, rfl, k53, k54, k55, k56⟩ := sp0.1 r43 23 q41k.1 (by decide)
  obtain ⟨j57, ow58, fd9, fa9, ft9, lp59⟩ := k56
  obtain rfl : a = j57 := by have z := ow58.b id46; omega
  subst fd9 fa9 ft9
  refine tw_castS (ci := 13) rfl dX10_ofHouseNow_8 w_1336 f48 ?_
  refine tw_astore_n [(3, .ref r43), (0, .ref x), (1, .int (nI a)), (2, .int (nI w))] dX10_ofHouseNow_11 rfl (by decide) rfl ?_
  refine tw_iconst (v := 0) dX10_ofHouseNow_12 (by decide) ?_
  refine tw_istore [(4, .int 0), (3, .ref r43), (0, .ref x), (1, .int (nI a)), (2, .int (nI w))] dX10_ofHouseNow_13 (by decide) rfl ?_
  refine tw_iconst (v := 0) dX10_ofHouseNow_15 (by decide) ?_
  refine tw_istore [(5, .int 0), (4, .int 0), (3, .ref r43), (0, .ref x), (1, .int (nI a)), (2, .int (nI w))] dX10_ofHouseNow_16 (by decide) rfl ?_
  refine tw_aload_n 3 dX10_ofHouseNow_18 rfl rfl ?_
  refine tw_get (v := .ref ld_13) rfl in_14 11 dX10_ofHouseNow_19 w_1162 rfl (by decide) f2 rfl ?_
  obtain ⟨e60, f61, ⟨el62, rfl, k63⟩, k64⟩ := sp0.1 ld_13 26 k22 (by decide)
  refine tw_br (tw_callV (M := mX10_ofHouseNow) (pc := 22) okJx4a65c_iterator_32c93 dX10_ofHouseNow_22 w_1386 rfl f61 [] [] rfl rfl ⟨by decide, by decide⟩ (Nat.le_of_ble_eq_true rfl) (c_iterator d h ld_13 el62 (g.1 5) (nI (g.2 5)) f61) 1 8 (Nat.le_of_ble_eq_true rfl) (Nat.le_of_ble_eq_true rfl)) (fun it65 h66 q67 => ?_) (fun E h1 q => q.elim)
  obtain ⟨q67n, q67e⟩ := q67
  rw [q67e]
  have n68 := sp0.nn q67n
  have z69 := sp0.1.none q67n
  obtain ⟨h70, eh70⟩ : ∃ z : tw_H, z = tw_up h it65 (.inr (2, [.int 0, .int (-1), .int (g.1 5), .ref ld_13])) := ⟨_, rfl⟩
  rw [← eh70]
  have th71 : tw_th (h70 x) = tw_th (h x) := by rw [eh70, tw_up_n (tw_kF sp0.1 kx (by decide) q67n)] <;> exact th0
  have oq72 : h70 o = h o := by rw [eh70, tw_up_n (tw_kF sp0.1 ko (by decide) q67n)] <;> exact oq0
  have sp73 : tw_sp d τ h g τ h70 := by rw [eh70]; exact sp0.mk q67n
  have f74 : h70 it65 = some (.inr (2, [.int 0, .int (-1), .int (g.1 5), .ref ld_13])) := by rw [eh70]; exact tw_up_s
  refine tw_astore [(6, .ref it65), (5, .int 0), (4, .int 0), (3, .ref r43), (0, .ref x), (1, .int (nI a)), (2, .int (nI w))] dX10_ofHouseNow_25 (by decide) rfl ?_
  have L81 : ∀ (r77 j78 : Nat) (l79 : Int32) (x75 : Int32) (x76 : Int32) (h82 : tw_H) (sp83 : tw_sp d τ (tw_rm h70 it65) g τ h82) (ft84 : h82 it65 = some (.inr (2, [.int (nI j78), .int l79, .int (g.1 5), .ref ld_13]))) (zt85 : τ it65 = 0) (th86 : tw_th (h82 x) = tw_th (h x)) (oq87 : h82 o = h o) (li88 : x75 = tw_isum (fun j => if g.1 (1232 + 8 * j + 2) = 0 ∧ g.1 (1232 + 8 * j + 3) = nI a then 1 else 0) j78 ∧ x76 = tw_isum (fun j => if g.1 (1232 + 8 * j + 2) = 0 ∧ g.1 (1232 + 8 * j + 4) = nI a then 1 else 0) j78), g.2 5 + 1 ≤ j78 + r77 → j78 ≤ g.2 5 → tw_W d mX10_ofHouseNow (tw_qi (fun r h1 => tw_sp d τ h g τ h1 ∧ tw_th (h1 x) = tw_th (h x) ∧ h1 o = h o ∧ r = tw_hM g a w) tw_nx) 27 [(0, .ref x), (1, .int (nI a)), (2, .int (nI w)), (3, .ref r43), (4, .int x75), (5, .int x76), (6, .ref it65)] [] h82 1 8 := by
    intro r77
    induction r77 with
    | zero => intro j78 l79 x75 x76 h82 sp83 ft84 zt85 th86 oq87 li88 hk89 hk90; exact absurd hk89 (by omega)
    | succ r77 ih80 =>
      intro j78 l79 x75 x76 h82 sp83 ft84 zt85 th86 oq87 li88 hk89 hk90
      refine tw_aload 6 dX10_ofHouseNow_27 rfl ?_
      obtain ⟨e91, f92, ⟨el93, rfl, k94⟩, k95⟩ := sp83.1 ld_13 26 k22 (by decide)
      refine tw_bi (tw_callF (M := mX10_ofHouseNow) (pc := 29) (n9 := 0) (ci := 2) tw_hasNext ok_itHas w_1416 w_1414 (fun s H z => z.2.2.2.2.2.2.2.2.1) (by decide +kernel) dX10_ofHouseNow_29 w_1410 rfl ft84 [] [] rfl rfl ⟨by decide, by decide⟩ (Nat.le_of_ble_eq_true rfl) (c_hasNext d h82 it65 ld_13 el93 j78 (g.2 5) l79 (g.1 5) (g.1 5) ft84 f92 (by omega) (tw_lim26 sp83.1 k22)) 1 8 (Nat.le_of_ble_eq_true rfl) (Nat.le_of_ble_eq_true rfl)) (fun r98 h97 q96 => ?_) (fun E h1 q => q.elim)
      obtain ⟨q96e, q96q⟩ := q96
      rw [q96e]
      rcases q96q with ⟨q96r, q96j⟩ | ⟨q96r, q96j⟩
      · rw [q96r]
        refine tw_if_eq 106 dX10_ofHouseNow_34 (by decide) (fun _ => ?_) (fun c99 => absurd (by decide) c99)
        have s69 := li88
        rw [show j78 = g.2 5 by have z := q96j; omega] at s69
        refine tw_bipush (v := 8) dX10_ofHouseNow_106 (by decide) ?_
        refine tw_newa (a0 := (8, .inr (.inl (fun _ => 0)))) 1 rfl dX10_ofHouseNow_108 rfl w_1150 (fun _ => rfl) (by decide) (by decide) (by decide) 0 0 (Nat.le_of_ble_eq_true rfl) (Nat.le_of_ble_eq_true rfl) (fun q100 hq101 hA102 => ?_)
        have n103 := sp83.nn hq101
        have z104 := sp83.1.none hq101
        have ne105 := tw_neF ft84 hq101
        obtain ⟨h106, eh106⟩ : ∃ z : tw_H, z = tw_up h82 q100 (.inl (d.2 1, 8, .inr (.inl (fun _ => 0)))) := ⟨_, rfl⟩
        rw [← eh106]
        have th107 : tw_th (h106 x) = tw_th (h x) := by rw [eh106, tw_up_n (tw_kF sp83.1 kx (by decide) hq101)] <;> exact th86
        have oq108 : h106 o = h o := by rw [eh106, tw_up_n (tw_kF sp83.1 ko (by decide) hq101)] <;> exact oq87
        have sp109 : tw_sp d τ (tw_rm h70 it65) g τ h106 := by rw [eh106]; exact sp83.mk hq101
        have f110 : h106 it65 = some (.inr (2, [.int (nI j78), .int l79, .int (g.1 5), .ref ld_13])) := by rw [eh106, tw_up_n ne105]; exact ft84
        have f111 : h106 q100 = some (.inl (d.2 1, 8, .inr (.inl (fun _ => 0)))) := by rw [eh106]; exact tw_up_s
        refine tw_dup dX10_ofHouseNow_110 rfl ?_
        refine tw_iconst (v := 0) dX10_ofHouseNow_111 (by decide) ?_
        refine tw_aload_n 3 dX10_ofHouseNow_112 rfl rfl ?_
        obtain ⟨e112, f113, x_114, y_115, dy_116, p_117, rfl, k118, k119, k120, k121⟩ := sp109.1 r43 23 q41k.1 (by decide)
        obtain ⟨j122, ow123, fd9, fa9, ft9, lp124⟩ := k121
        obtain rfl : a = j122 := by have z := ow123.b id46; omega
        subst fd9 fa9 ft9
        refine tw_get (v := .int (g.1 (960 + 32 * a + 1))) rfl in_13 0 dX10_ofHouseNow_113 w_1342 rfl (by decide) f113 rfl ?_
        refine tw_i2l dX10_ofHouseNow_116 ?_
        refine tw_nml (fun v125 ev125 => ?_)
        refine tw_last dX10_ofHouseNow_117 f111 (vp_in_nI (n := 0) (by decide) (by decide)) ?_
        obtain ⟨F126, eF126⟩ : ∃ z : Nat → Int64, z = vp_updL (fun _ => 0) (0 : Int32).toNatClampNeg v125 := ⟨_, rfl⟩
        rw [← eF126]
        obtain ⟨h127, eh127⟩ : ∃ z : tw_H, z = tw_up h106 q100 (.inl (d.2 1, 8, .inr (.inl F126))) := ⟨_, rfl⟩
        rw [← eh127]
        have th128 : tw_th (h127 x) = tw_th (h x) := by rw [eh127, tw_up_n (tw_nk kx z104 (by decide))] <;> exact th107
        have oq129 : h127 o = h o := by rw [eh127, tw_up_n (tw_nk ko z104 (by decide))] <;> exact oq108
        have sp130 : tw_sp d τ (tw_rm h70 it65) g τ h127 := by rw [eh127]; exact sp109.wl n103 z104
        have f131 : h127 it65 = some (.inr (2, [.int (nI j78), .int l79, .int (g.1 5), .ref ld_13])) := by rw [eh127, tw_up_n ne105]; exact f110
        have f132 : h127 q100 = some (.inl (d.2 1, 8, .inr (.inl F126))) := by rw [eh127]; exact tw_up_s
        refine tw_dup dX10_ofHouseNow_118 rfl ?_
        refine tw_iconst (v := 1) dX10_ofHouseNow_119 (by decide) ?_
        refine tw_aload_n 3 dX10_ofHouseNow_120 rfl rfl ?_
        obtain ⟨e133, f134, x_135, y_136, dy_137, p_138, rfl, k139, k140, k141, k142⟩ := sp130.1 r43 23 q41k.1 (by decide)
        obtain ⟨j143, ow144, fd9, fa9, ft9, lp145⟩ := k142
        obtain rfl : a = j143 := by have z := ow144.b id46; omega
        subst fd9 fa9 ft9
        refine tw_get (v := .int (g.1 (960 + 32 * a + 2))) rfl in_13 1 dX10_ofHouseNow_121 w_1344 rfl (by decide) f134 rfl ?_
        refine tw_i2l dX10_ofHouseNow_124 ?_
        refine tw_nml (fun v146 ev146 => ?_)
        refine tw_last dX10_ofHouseNow_125 f132 (vp_in_nI (n := 1) (by decide) (by decide)) ?_
        obtain ⟨F147, eF147⟩ : ∃ z : Nat → Int64, z = vp_updL F126 (1 : Int32).toNatClampNeg v146 := ⟨_, rfl⟩
        rw [← eF147]
        obtain ⟨h148, eh148⟩ : ∃ z : tw_H, z = tw_up h127 q100 (.inl (d.2 1, 8, .inr (.inl F147))) := ⟨_, rfl⟩
        rw [← eh148]
        have th149 : tw_th (h148 x) = tw_th (h x) := by rw [eh148, tw_up_n (tw_nk kx z104 (by decide))] <;> exact th128
        have oq150 : h148 o = h o := by rw [eh148, tw_up_n (tw_nk ko z104 (by decide))] <;> exact oq129
        have sp151 : tw_sp d τ (tw_rm h70 it65) g τ h148 := by rw [eh148]; exact sp130.wl n103 z104
        have f152 : h148 it65 = some (.inr (2, [.int (nI j78), .int l79, .int (g.1 5), .ref ld_13])) := by rw [eh148, tw_up_n ne105]; exact f131
        have f153 : h148 q100 = some (.inl (d.2 1, 8, .inr (.inl F147))) := by rw [eh148]; exact tw_up_s
        refine tw_dup dX10_ofHouseNow_126 rfl ?_
        refine tw_iconst (v := 2) dX10_ofHouseNow_127 (by decide) ?_
        refine tw_aload_n 3 dX10_ofHouseNow_128 rfl rfl ?_
        obtain ⟨e154, f155, x_156, y_157, dy_158, p_159, rfl, k160, k161, k162, k163⟩ := sp151.1 r43 23 q41k.1 (by decide)
        obtain ⟨j164, ow165, fd9, fa9, ft9, lp166⟩ := k163
        obtain rfl : a = j164 := by have z := ow165.b id46; omega
        subst fd9 fa9 ft9
        refine tw_get (v := .int (g.1 (960 + 32 * a + 0))) rfl in_13 2 dX10_ofHouseNow_129 w_1346 rfl (by decide) f155 rfl ?_
        refine tw_i2l dX10_ofHouseNow_132 ?_
        refine tw_nml (fun v167 ev167 => ?_)
        refine tw_last dX10_ofHouseNow_133 f153 (vp_in_nI (n := 2) (by decide) (by decide)) ?_
        obtain ⟨F168, eF168⟩ : ∃ z : Nat → Int64, z = vp_updL F147 (2 : Int32).toNatClampNeg v167 := ⟨_, rfl⟩
        rw [← eF168]
        obtain ⟨h169, eh169⟩ : ∃ z : tw_H, z = tw_up h148 q100 (.inl (d.2 1, 8, .inr (.inl F168))) := ⟨_, rfl⟩
        rw [← eh169]
        have th170 : tw_th (h169 x) = tw_th (h x) := by rw [eh169, tw_up_n (tw_nk kx z104 (by decide))] <;> exact th149
        have oq171 : h169 o = h o := by rw [eh169, tw_up_n (tw_nk ko z104 (by decide))] <;> exact oq150
        have sp172 : tw_sp d τ (tw_rm h70 it65) g τ h169 := by rw [eh169]; exact sp151.wl n103 z104
        have f173 : h169 it65 = some (.inr (2, [.int (nI j78), .int l79, .int (g.1 5), .ref ld_13])) := by rw [eh169, tw_up_n ne105]; exact f152
        have f174 : h169 q100 = some (.inl (d.2 1, 8, .inr (.inl F168))) := by rw [eh169]; exact tw_up_s
        refine tw_dup dX10_ofHouseNow_134 rfl ?_
        refine tw_iconst (v := 3) dX10_ofHouseNow_135 (by decide) ?_
        refine tw_aload_n 3 dX10_ofHouseNow_136 rfl rfl ?_
        obtain ⟨e175, f176, x_177, y_178, dy_179, p_180, rfl, k181, k182, k183, k184⟩ := sp172.1 r43 23 q41k.1 (by decide)
        obtain ⟨j185, ow186, fd9, fa9, ft9, lp187⟩ := k184
        obtain rfl : a = j185 := by have z := ow186.b id46; omega
        subst fd9 fa9 ft9
        refine tw_get (v := .ref p_180) rfl in_13 3 dX10_ofHouseNow_137 w_1348 rfl (by decide) f176 rfl ?_
        refine tw_iconst (v := 0) dX10_ofHouseNow_140 (by decide) ?_
        obtain ⟨e188, f189, F190, rfl, ⟨b192, ow193, wv194⟩⟩ := sp172.1 p_180 31 k181 (by decide)
        obtain rfl : (960 + 32 * a + 8) = b192 := (ow193.b lp187).symm
        have ev195 : F190 (0 : Int32).toNatClampNeg = (g.1 ((960 + 32 * a + 8) + 0)).toInt64 := by rw [show (0 : Int32).toNatClampNeg = 0 by decide]; exact wv194 0 (by omega)
        refine tw_lald (v := (g.1 ((960 + 32 * a + 8) + 0)).toInt64) dX10_ofHouseNow_141 f189 (vp_in_nI (n := 0) (by decide) (by decide)) ev195 ?_
        refine tw_last dX10_ofHouseNow_142 f174 (vp_in_nI (n := 3) (by decide) (by decide)) ?_
        obtain ⟨F196, eF196⟩ : ∃ z : Nat → Int64, z = vp_updL F168 (3 : Int32).toNatClampNeg ((g.1 ((960 + 32 * a + 8) + 0)).toInt64) := ⟨_, rfl⟩
        rw [← eF196]
        obtain ⟨h197, eh197⟩ : ∃ z : tw_H, z = tw_up h169 q100 (.inl (d.2 1, 8, .inr (.inl F196))) := ⟨_, rfl⟩
        rw [← eh197]
        have th198 : tw_th (h197 x) = tw_th (h x) := by rw [eh197, tw_up_n (tw_nk kx z104 (by decide))] <;> exact th170
        have oq199 : h197 o = h o := by rw [eh197, tw_up_n (tw_nk ko z104 (by decide))] <;> exact oq171
        have sp200 : tw_sp d τ (tw_rm h70 it65) g τ h197 := by rw [eh197]; exact sp172.wl n103 z104
        have f201 : h197 it65 = some (.inr (2, [.int (nI j78), .int l79, .int (g.1 5), .ref ld_13])) := by rw [eh197, tw_up_n ne105]; exact f173
        have f202 : h197 q100 = some (.inl (d.2 1, 8, .inr (.inl F196))) := by rw [eh197]; exact tw_up_s
        refine tw_dup dX10_ofHouseNow_143 rfl ?_
        refine tw_iconst (v := 4) dX10_ofHouseNow_144 (by decide) ?_
        refine tw_aload_n 3 dX10_ofHouseNow_145 rfl rfl ?_
        obtain ⟨e203, f204, x_205, y_206, dy_207, p_208, rfl, k209, k210, k211, k212⟩ := sp200.1 r43 23 q41k.1 (by decide)
        obtain ⟨j213, ow214, fd9, fa9, ft9, lp215⟩ := k212
        obtain rfl : a = j213 := by have z := ow214.b id46; omega
        subst fd9 fa9 ft9
        refine tw_get (v := .ref p_208) rfl in_13 3 dX10_ofHouseNow_146 w_1348 rfl (by decide) f204 rfl ?_
        refine tw_iconst (v := 1) dX10_ofHouseNow_149 (by decide) ?_
        obtain ⟨e216, f217, F218, rfl, ⟨b220, ow221, wv222⟩⟩ := sp200.1 p_208 31 k209 (by decide)
        obtain rfl : (960 + 32 * a + 8) = b220 := (ow221.b lp215).symm
        have ev223 : F218 (1 : Int32).toNatClampNeg = (g.1 ((960 + 32 * a + 8) + 1)).toInt64 := by rw [show (1 : Int32).toNatClampNeg = 1 by decide]; exact wv222 1 (by omega)
        refine tw_lald (v := (g.1 ((960 + 32 * a + 8) + 1)).toInt64) dX10_ofHouseNow_150 f217 (vp_in_nI (n := 1) (by decide) (by decide)) ev223 ?_
        refine tw_last dX10_ofHouseNow_151 f202 (vp_in_nI (n := 4) (by decide) (by decide)) ?_
        obtain ⟨F224, eF224⟩ : ∃ z : Nat → Int64, z = vp_updL F196 (4 : Int32).toNatClampNeg ((g.1 ((960 + 32 * a + 8) + 1)).toInt64) := ⟨_, rfl⟩
        rw [← eF224]
        obtain ⟨h225, eh225⟩ : ∃ z : tw_H, z = tw_up h197 q100 (.inl (d.2 1, 8, .inr (.inl F224))) := ⟨_, rfl⟩
        rw [← eh225]
        have th226 : tw_th (h225 x) = tw_th (h x) := by rw [eh225, tw_up_n (tw_nk kx z104 (by decide))] <;> exact th198
        have oq227 : h225 o = h o := by rw [eh225, tw_up_n (tw_nk ko z104 (by decide))] <;> exact oq199
        have sp228 : tw_sp d τ (tw_rm h70 it65) g τ h225 := by rw [eh225]; exact sp200.wl n103 z104
        have f229 : h225 it65 = some (.inr (2, [.int (nI j78), .int l79, .int (g.1 5), .ref ld_13])) := by rw [eh225, tw_up_n ne105]; exact f201
        have f230 : h225 q100 = some (.inl (d.2 1, 8, .inr (.inl F224))) := by rw [eh225]; exact tw_up_s
        refine tw_dup dX10_ofHouseNow_152 rfl ?_
        refine tw_iconst (v := 5) dX10_ofHouseNow_153 (by decide) ?_
        refine tw_aload_n 0 dX10_ofHouseNow_154 rfl rfl ?_
        refine tw_aload_n 3 dX10_ofHouseNow_155 rfl rfl ?_
        obtain ⟨e231, f232, x_233, y_234, dy_235, p_236, rfl, k237, k238, k239, k240⟩ := sp228.1 r43 23 q41k.1 (by decide)
        obtain ⟨j241, ow242, fd9, fa9, ft9, lp243⟩ := k240
        obtain rfl : a = j241 := by have z := ow242.b id46; omega
        subst fd9 fa9 ft9
        refine tw_get (v := .ref p_236) rfl in_13 3 dX10_ofHouseNow_156 w_1348 rfl (by decide) f232 rfl ?_
        obtain ⟨e247, f248, th_249, td_250, ds_251, fr_252, ca_253, us_254, wo_255, cm_256, lc_257, lh_258, ld_259, rfl, k260, k261, k262, k263, k264, k265, k266, k267, k268, k269, k270, k271, k272, k273, k274, k275, k276, k277, k278, k279, k280, k281⟩ := sp228.1 x 36 kx (by decide)
        refine tw_bl (tw_callV (M := mX10_ofHouseNow) (pc := 159) okX10_worth dX10_ofHouseNow_159 w_1509 rfl f248 [.ref p_236] [.int 5, .ref q100, .ref q100] rfl rfl ⟨by decide, by decide⟩ (Nat.le_of_ble_eq_true rfl) (c4_X10_worth d g τ h225 sp228.1 x kx p_236 k237 (960 + 32 * a + 8) lp243 _ _ _ (he.p (j := a) (k := 0) (by omega) (by decide)).1 (he.p (j := a) (k := 1) (by omega) (by decide)).1 hk9.1 (he.p (j := a) (k := 0) (by omega) (by decide)).2 (he.p (j := a) (k := 1) (by omega) (by decide)).2 hk9.2) 0 0 (Nat.le_of_ble_eq_true rfl) (Nat.le_of_ble_eq_true rfl)) (fun r246 h245 q244 => ?_) (fun E h1 q => q.elim)
        obtain ⟨q244e, q244v⟩ := q244
        rw [q244e]
        refine tw_last dX10_ofHouseNow_162 f230 (vp_in_nI (n := 5) (by decide) (by decide)) ?_
        obtain ⟨F282, eF282⟩ : ∃ z : Nat → Int64, z = vp_updL F224 (5 : Int32).toNatClampNeg r246 := ⟨_, rfl⟩
        rw [← eF282]
        obtain ⟨h283, eh283⟩ : ∃ z : tw_H, z = tw_up h225 q100 (.inl (d.2 1, 8, .inr (.inl F282))) := ⟨_, rfl⟩
        rw [← eh283]
        have th284 : tw_th (h283 x) = tw_th (h x) := by rw [eh283, tw_up_n (tw_nk kx z104 (by decide))] <;> exact th226
        have oq285 : h283 o = h o := by rw [eh283, tw_up_n (tw_nk ko z104 (by decide))] <;> exact oq227
        have sp286 : tw_sp d τ (tw_rm h70 it65) g τ h283 := by rw [eh283]; exact sp228.wl n103 z104
        have f287 : h283 it65 = some (.inr (2, [.int (nI j78), .int l79, .int (g.1 5), .ref ld_13])) := by rw [eh283, tw_up_n ne105]; exact f229
        have f288 : h283 q100 = some (.inl (d.2 1, 8, .inr (.inl F282))) := by rw [eh283]; exact tw_up_s
        refine tw_dup dX10_ofHouseNow_163 rfl ?_
        refine tw_bipush (v := 6) dX10_ofHouseNow_164 (by decide) ?_
        refine tw_iload 4 dX10_ofHouseNow_166 rfl ?_
        refine tw_i2l dX10_ofHouseNow_168 ?_
        refine tw_nml (fun v289 ev289 => ?_)
        refine tw_last dX10_ofHouseNow_169 f288 (vp_in_nI (n := 6) (by decide) (by decide)) ?_
        obtain ⟨F290, eF290⟩ : ∃ z : Nat → Int64, z = vp_updL F282 (6 : Int32).toNatClampNeg v289 := ⟨_, rfl⟩
        rw [← eF290]
        obtain ⟨h291, eh291⟩ : ∃ z : tw_H, z = tw_up h283 q100 (.inl (d.2 1, 8, .inr (.inl F290))) := ⟨_, rfl⟩
        rw [← eh291]
        have th292 : tw_th (h291 x) = tw_th (h x) := by rw [eh291, tw_up_n (tw_nk kx z104 (by decide))] <;> exact th284
        have oq293 : h291 o = h o := by rw [eh291, tw_up_n (tw_nk ko z104 (by decide))] <;> exact oq285
        have sp294 : tw_sp d τ (tw_rm h70 it65) g τ h291 := by rw [eh291]; exact sp286.wl n103 z104
        have f295 : h291 it65 = some (.inr (2, [.int (nI j78), .int l79, .int (g.1 5), .ref ld_13])) := by rw [eh291, tw_up_n ne105]; exact f287
        have f296 : h291 q100 = some (.inl (d.2 1, 8, .inr (.inl F290))) := by rw [eh291]; exact tw_up_s
        refine tw_dup dX10_ofHouseNow_170 rfl ?_
        refine tw_bipush (v := 7) dX10_ofHouseNow_171 (by decide) ?_
        refine tw_iload 5 dX10_ofHouseNow_173 rfl ?_
        refine tw_i2l dX10_ofHouseNow_175 ?_
        refine tw_nml (fun v297 ev297 => ?_)
        refine tw_last dX10_ofHouseNow_176 f296 (vp_in_nI (n := 7) (by decide) (by decide)) ?_
        obtain ⟨F298, eF298⟩ : ∃ z : Nat → Int64, z = vp_updL F290 (7 : Int32).toNatClampNeg v297 := ⟨_, rfl⟩
        rw [← eF298]
        obtain ⟨h299, eh299⟩ : ∃ z : tw_H, z = tw_up h291 q100 (.inl (d.2 1, 8, .inr (.inl F298))) := ⟨_, rfl⟩
        rw [← eh299]
        have th300 : tw_th (h299 x) = tw_th (h x) := by rw [eh299, tw_up_n (tw_nk kx z104 (by decide))] <;> exact th292
        have oq301 : h299 o = h o := by rw [eh299, tw_up_n (tw_nk ko z104 (by decide))] <;> exact oq293
        have sp302 : tw_sp d τ (tw_rm h70 it65) g τ h299 := by rw [eh299]; exact sp294.wl n103 z104
        have f303 : h299 it65 = some (.inr (2, [.int (nI j78), .int l79, .int (g.1 5), .ref ld_13])) := by rw [eh299, tw_up_n ne105]; exact f295
        have f304 : h299 q100 = some (.inl (d.2 1, 8, .inr (.inl F298))) := by rw [eh299]; exact tw_up_s
        refine tw_astore [(6, .ref q100), (0, .ref x), (1, .int (nI a)), (2, .int (nI w)), (3, .ref r43), (4, .int x75), (5, .int x76)] dX10_ofHouseNow_177 (by decide) rfl ?_
        refine tw_aload 0 dX10_ofHouseNow_179 rfl ?_
        refine tw_iload_n 3 dX10_ofHouseNow_181 rfl rfl ?_
        obtain ⟨v305, ev305⟩ : ∃ y : Int64, F298 ((nI w)).toNatClampNeg = y := ⟨_, rfl⟩
        refine tw_lald (v := v305) dX10_ofHouseNow_182 f304 (vp_in_nI (by omega) (by decide)) ev305 ?_
        refine tw_l2i dX10_ofHouseNow_183 ?_
        refine tw_nmi (fun v306 ev306 => ?_)
        have rv9 : v306 = tw_hM g a w := by
          rw [ev306, ← ev305, nI_clamp (by omega), eF298, eF290, eF282, eF224, eF196, eF168, eF147, eF126]
          rw [show ((0 : Int32)).toNatClampNeg = 0 by decide]
          rw [show ((1 : Int32)).toNatClampNeg = 1 by decide]
          rw [show ((2 : Int32)).toNatClampNeg = 2 by decide]
          rw [show ((3 : Int32)).toNatClampNeg = 3 by decide]
          rw [show ((4 : Int32)).toNatClampNeg = 4 by decide]
          rw [show ((5 : Int32)).toNatClampNeg = 5 by decide]
          rw [show ((6 : Int32)).toNatClampNeg = 6 by decide]
          rw [show ((7 : Int32)).toNatClampNeg = 7 by decide]
          rcases (show w = 0 ∨ w = 1 ∨ w = 2 ∨ w = 3 ∨ w = 4 ∨ w = 5 ∨ w = 6 ∨ w = 7 by omega) with rfl | rfl | rfl | rfl | rfl | rfl | rfl | rfl
          · exact (congrArg Int64.toInt32 ev125).trans (Int32.toInt32_toInt64 _)
          · exact (congrArg Int64.toInt32 ev146).trans (Int32.toInt32_toInt64 _)
          · exact (congrArg Int64.toInt32 ev167).trans (Int32.toInt32_toInt64 _)
          · exact Int32.toInt32_toInt64 _
          · exact Int32.toInt32_toInt64 _
          · exact (congrArg Int64.toInt32 q244v).trans (tw_L_32 (tw_wo_lt (he.p (j := a) (k := 0) (by omega) (by decide)).2 (he.p (j := a) (k := 1) (by omega) (by decide)).2 hk9.2))
          · exact ((congrArg Int64.toInt32 ev289).trans (Int32.toInt32_toInt64 _)).trans s69.1
          · exact ((congrArg Int64.toInt32 ev297).trans (Int32.toInt32_toInt64 _)).trans s69.2
        exact tw_iret dX10_ofHouseNow_184 rfl (Or.inl ⟨_, rfl, (sp73.trm n68 sp302), th300, oq301, rv9⟩)
      · rw [q96r]
        refine tw_if_eq 106 dX10_ofHouseNow_34 (by decide) (fun c307 => absurd c307 (by decide)) (fun _ => ?_)
        refine tw_aload 6 dX10_ofHouseNow_37 rfl ?_
        have k308 : τ el93 = 29 := k94.resolve_left (fun q => absurd q96j (by rw [q.2.1]; exact Nat.not_lt_zero _))
        obtain ⟨e309, f310, ⟨F311, rfl, hc312, hc313⟩, un314⟩ := sp83.1 el93 29 k308 (by decide)
        obtain ⟨y315, hy316, ky317⟩ := hc313 j78 q96j
        refine tw_br (tw_callF (M := mX10_ofHouseNow) (pc := 39) (n9 := 0) (ci := 2) tw_next ok_itNext w_1425 w_1423 (fun s H z => z.2.2.2.2.2.2.2.2.2) (by decide +kernel) dX10_ofHouseNow_39 w_1420 rfl ft84 [] [] rfl rfl ⟨by decide, by decide⟩ (Nat.le_of_ble_eq_true rfl) (c_next d h82 it65 ld_13 el93 j78 (g.2 5) y315 l79 (g.1 5) F311 ft84 f92 f310 q96j hc312 hy316) 1 8 (Nat.le_of_ble_eq_true rfl) (Nat.le_of_ble_eq_true rfl)) (fun r320 h319 q318 => ?_) (fun E h1 q => q.elim)
        obtain ⟨q318r, q318e⟩ := q318
        rw [q318r]
        have sp321 : tw_sp d τ (tw_rm h70 it65) g τ h319 := by rw [q318e]; exact sp83.wl tw_rm_s zt85
        have id322 : g.2 (4096 + y315) = 1232 + 8 * j78 := un314.2.2 _ _ F311 rfl j78 y315 q96j hy316
        have th323 : tw_th (h319 x) = tw_th (h x) := by rw [q318e, tw_up_n (tw_nk kx zt85 (by decide))] <;> exact th86
        have oq324 : h319 o = h o := by rw [q318e, tw_up_n (tw_nk ko zt85 (by decide))] <;> exact oq87
        have f325 : h319 it65 = some (.inr (2, [.int (nI (j78 + 1)), .int (nI j78), .int (g.1 5), .ref ld_13])) := by rw [q318e]; exact tw_up_s
        obtain ⟨e326, f327, v_328, dy_329, pd_330, i_331, j_332, rfl, k333, k334, k335, k336⟩ := sp321.1 y315 22 ky317 (by decide)
        obtain ⟨j337, ow338, fv9, fd9, fp9, ei339, ej340⟩ := k336
        obtain rfl : j78 = j337 := by have z := ow338.b id322; omega
        subst fv9 fd9 fp9
        refine tw_castS (ci := 12) rfl dX10_ofHouseNow_44 w_1437 f327 ?_
        refine tw_astore [(7, .ref y315), (0, .ref x), (1, .int (nI a)), (2, .int (nI w)), (3, .ref r43), (4, .int x75), (5, .int x76), (6, .ref it65)] dX10_ofHouseNow_47 (by decide) rfl ?_
        refine tw_iload 5 dX10_ofHouseNow_49 rfl ?_
        refine tw_aload 0 dX10_ofHouseNow_51 rfl ?_
        refine tw_get (v := .int (g.1 (1232 + 8 * j78 + 2))) rfl in_12 4 dX10_ofHouseNow_53 w_1447 rfl (by decide) f327 rfl ?_
        refine tw_if_ne 72 dX10_ofHouseNow_56 (by decide) (fun c341 => ?_) (fun c341 => ?_)
        · have f39 : (if g.1 (1232 + 8 * j78 + 2) = 0 ∧ g.1 (1232 + 8 * j78 + 3) = nI a then 1 else 0 : Int32) = 0 := if_neg (fun z => c341 z.1)
          have f49 : (if g.1 (1232 + 8 * j78 + 2) = 0 ∧ g.1 (1232 + 8 * j78 + 4) = nI a then 1 else 0 : Int32) = 0 := if_neg (fun z => c341 z.1)
          refine tw_iconst (v := 0) dX10_ofHouseNow_72 (by decide) ?_
          refine tw_iadd dX10_ofHouseNow_73 ?_
          refine tw_nmi (fun v342 ev342 => ?_)
          refine tw_istore [(4, .int v342), (7, .ref y315), (0, .ref x), (1, .int (nI a)), (2, .int (nI w)), (3, .ref r43), (5, .int x76), (6, .ref it65)] dX10_ofHouseNow_74 (by decide) rfl ?_
          refine tw_iload 6 dX10_ofHouseNow_76 rfl ?_
          refine tw_aload 1 dX10_ofHouseNow_78 rfl ?_
          refine tw_get (v := .int (g.1 (1232 + 8 * j78 + 2))) rfl in_12 4 dX10_ofHouseNow_80 w_1447 rfl (by decide) f327 rfl ?_
          refine tw_if_ne 99 dX10_ofHouseNow_83 (by decide) (fun _ => ?_) (fun c343 => absurd c343 (c341))
          refine tw_iconst (v := 0) dX10_ofHouseNow_99 (by decide) ?_
          refine tw_iadd dX10_ofHouseNow_100 ?_
          refine tw_nmi (fun v344 ev344 => ?_)
          refine tw_istore [(5, .int v344), (4, .int v342), (7, .ref y315), (0, .ref x), (1, .int (nI a)), (2, .int (nI w)), (3, .ref r43), (6, .ref it65)] dX10_ofHouseNow_101 (by decide) rfl ?_
          refine tw_goto 27 dX10_ofHouseNow_103 (by decide) ?_
          refine tw_lv [3, 4, 5, 6, 1, 0, 7] rfl ?_
          exact ih80 ((j78 + 1)) (nI j78) v342 v344 _ sp321 f325 zt85 th323 oq324 (⟨by show v342 = tw_isum (fun j => if g.1 (1232 + 8 * j + 2) = 0 ∧ g.1 (1232 + 8 * j + 3) = nI a then 1 else 0) j78 + (if g.1 (1232 + 8 * j78 + 2) = 0 ∧ g.1 (1232 + 8 * j78 + 3) = nI a then 1 else 0 : Int32); rw [ev342, f39, li88.1], by show v344 = tw_isum (fun j => if g.1 (1232 + 8 * j + 2) = 0 ∧ g.1 (1232 + 8 * j + 4) = nI a then 1 else 0) j78 + (if g.1 (1232 + 8 * j78 + 2) = 0 ∧ g.1 (1232 + 8 * j78 + 4) = nI a then 1 else 0 : Int32); rw [ev344, f49, li88.2]⟩) (by omega) (by omega)
        · refine tw_aload 0 dX10_ofHouseNow_59 rfl ?_
          refine tw_get (v := .int (nI i_331)) rfl in_12 0 dX10_ofHouseNow_61 w_1443 rfl (by decide) f327 rfl ?_
          refine tw_iload_n 2 dX10_ofHouseNow_64 rfl rfl ?_
          refine tw_icmp_ne 72 dX10_ofHouseNow_65 (by decide) (fun c345 => ?_) (fun c345 => ?_)
          · have f39 : (if g.1 (1232 + 8 * j78 + 2) = 0 ∧ g.1 (1232 + 8 * j78 + 3) = nI a then 1 else 0 : Int32) = 0 := if_neg (fun z => c345 (ei339.trans z.2))
            refine tw_iconst (v := 0) dX10_ofHouseNow_72 (by decide) ?_
            refine tw_iadd dX10_ofHouseNow_73 ?_
            refine tw_nmi (fun v346 ev346 => ?_)
            refine tw_istore [(4, .int v346), (7, .ref y315), (0, .ref x), (1, .int (nI a)), (2, .int (nI w)), (3, .ref r43), (5, .int x76), (6, .ref it65)] dX10_ofHouseNow_74 (by decide) rfl ?_
            refine tw_iload 6 dX10_ofHouseNow_76 rfl ?_
            refine tw_aload 1 dX10_ofHouseNow_78 rfl ?_
            refine tw_get (v := .int (g.1 (1232 + 8 * j78 + 2))) rfl in_12 4 dX10_ofHouseNow_80 w_1447 rfl (by decide) f327 rfl ?_
            refine tw_if_ne 99 dX10_ofHouseNow_83 (by decide) (fun c347 => absurd (c341) c347) (fun _ => ?_)
            refine tw_aload 1 dX10_ofHouseNow_86 rfl ?_
            refine tw_get (v := .int (nI j_332)) rfl in_12 1 dX10_ofHouseNow_88 w_1444 rfl (by decide) f327 rfl ?_
            refine tw_iload_n 3 dX10_ofHouseNow_91 rfl rfl ?_
            refine tw_icmp_ne 99 dX10_ofHouseNow_92 (by decide) (fun c348 => ?_) (fun c348 => ?_)
            · have f49 : (if g.1 (1232 + 8 * j78 + 2) = 0 ∧ g.1 (1232 + 8 * j78 + 4) = nI a then 1 else 0 : Int32) = 0 := if_neg (fun z => c348 (ej340.trans z.2))
              refine tw_iconst (v := 0) dX10_ofHouseNow_99 (by decide) ?_
              refine tw_iadd dX10_ofHouseNow_100 ?_
              refine tw_nmi (fun v349 ev349 => ?_)
              refine tw_istore [(5, .int v349), (4, .int v346), (7, .ref y315), (0, .ref x), (1, .int (nI a)), (2, .int (nI w)), (3, .ref r43), (6, .ref it65)] dX10_ofHouseNow_101 (by decide) rfl ?_
              refine tw_goto 27 dX10_ofHouseNow_103 (by decide) ?_
              refine tw_lv [3, 4, 5, 6, 1, 0, 7] rfl ?_
              exact ih80 ((j78 + 1)) (nI j78) v346 v349 _ sp321 f325 zt85 th323 oq324 (⟨by show v346 = tw_isum (fun j => if g.1 (1232 + 8 * j + 2) = 0 ∧ g.1 (1232 + 8 * j + 3) = nI a then 1 else 0) j78 + (if g.1 (1232 + 8 * j78 + 2) = 0 ∧ g.1 (1232 + 8 * j78 + 3) = nI a then 1 else 0 : Int32); rw [ev346, f39, li88.1], by show v349 = tw_isum (fun j => if g.1 (1232 + 8 * j + 2) = 0 ∧ g.1 (1232 + 8 * j + 4) = nI a then 1 else 0) j78 + (if g.1 (1232 + 8 * j78 + 2) = 0 ∧ g.1 (1232 + 8 * j78 + 4) = nI a then 1 else 0 : Int32); rw [ev349, f49, li88.2]⟩) (by omega) (by omega)
            · have f49 : (if g.1 (1232 + 8 * j78 + 2) = 0 ∧ g.1 (1232 + 8 * j78 + 4) = nI a then 1 else 0 : Int32) = 1 := if_pos ⟨c341, ej340.symm.trans c348⟩
              refine tw_iconst (v := 1) dX10_ofHouseNow_95 (by decide) ?_
              refine tw_goto 100 dX10_ofHouseNow_96 (by decide) ?_
              refine tw_iadd dX10_ofHouseNow_100 ?_
              refine tw_nmi (fun v350 ev350 => ?_)
              refine tw_istore [(5, .int v350), (4, .int v346), (7, .ref y315), (0, .ref x), (1, .int (nI a)), (2, .int (nI w)), (3, .ref r43), (6, .ref it65)] dX10_ofHouseNow_101 (by decide) rfl ?_
              refine tw_goto 27 dX10_ofHouseNow_103 (by decide) ?_
              refine tw_lv [3, 4, 5, 6, 1, 0, 7] rfl ?_
              exact ih80 ((j78 + 1)) (nI j78) v346 v350 _ sp321 f325 zt85 th323 oq324 (⟨by show v346 = tw_isum (fun j => if g.1 (1232 + 8 * j + 2) = 0 ∧ g.1 (1232 + 8 * j + 3) = nI a then 1 else 0) j78 + (if g.1 (1232 + 8 * j78 + 2) = 0 ∧ g.1 (1232 + 8 * j78 + 3) = nI a then 1 else 0 : Int32); rw [ev346, f39, li88.1], by show v350 = tw_isum (fun j => if g.1 (1232 + 8 * j + 2) = 0 ∧ g.1 (1232 + 8 * j + 4) = nI a then 1 else 0) j78 + (if g.1 (1232 + 8 * j78 + 2) = 0 ∧ g.1 (1232 + 8 * j78 + 4) = nI a then 1 else 0 : Int32); rw [ev350, f49, li88.2]⟩) (by omega) (by omega)
          · have f39 : (if g.1 (1232 + 8 * j78 + 2) = 0 ∧ g.1 (1232 + 8 * j78 + 3) = nI a then 1 else 0 : Int32) = 1 := if_pos ⟨c341, ei339.symm.trans c345⟩
            refine tw_iconst (v := 1) dX10_ofHouseNow_68 (by decide) ?_
            refine tw_goto 73 dX10_ofHouseNow_69 (by decide) ?_
            refine tw_iadd dX10_ofHouseNow_73 ?_
            refine tw_nmi (fun v351 ev351 => ?_)
            refine tw_istore [(4, .int v351), (7, .ref y315), (0, .ref x), (1, .int (nI a)), (2, .int (nI w)), (3, .ref r43), (5, .int x76), (6, .ref it65)] dX10_ofHouseNow_74 (by decide) rfl ?_
            refine tw_iload 6 dX10_ofHouseNow_76 rfl ?_
            refine tw_aload 1 dX10_ofHouseNow_78 rfl ?_
            refine tw_get (v := .int (g.1 (1232 + 8 * j78 + 2))) rfl in_12 4 dX10_ofHouseNow_80 w_1447 rfl (by decide) f327 rfl ?_
            refine tw_if_ne 99 dX10_ofHouseNow_83 (by decide) (fun c352 => absurd (c341) c352) (fun _ => ?_)
            refine tw_aload 1 dX10_ofHouseNow_86 rfl ?_
            refine tw_get (v := .int (nI j_332)) rfl in_12 1 dX10_ofHouseNow_88 w_1444 rfl (by decide) f327 rfl ?_
            refine tw_iload_n 3 dX10_ofHouseNow_91 rfl rfl ?_
            refine tw_icmp_ne 99 dX10_ofHouseNow_92 (by decide) (fun c353 => ?_) (fun c353 => ?_)
            · have f49 : (if g.1 (1232 + 8 * j78 + 2) = 0 ∧ g.1 (1232 + 8 * j78 + 4) = nI a then 1 else 0 : Int32) = 0 := if_neg (fun z => c353 (ej340.trans z.2))
              refine tw_iconst (v := 0) dX10_ofHouseNow_99 (by decide) ?_
              refine tw_iadd dX10_ofHouseNow_100 ?_
              refine tw_nmi (fun v354 ev354 => ?_)
              refine tw_istore [(5, .int v354), (4, .int v351), (7, .ref y315), (0, .ref x), (1, .int (nI a)), (2, .int (nI w)), (3, .ref r43), (6, .ref it65)] dX10_ofHouseNow_101 (by decide) rfl ?_
              refine tw_goto 27 dX10_ofHouseNow_103 (by decide) ?_
              refine tw_lv [3, 4, 5, 6, 1, 0, 7] rfl ?_
              exact ih80 ((j78 + 1)) (nI j78) v351 v354 _ sp321 f325 zt85 th323 oq324 (⟨by show v351 = tw_isum (fun j => if g.1 (1232 + 8 * j + 2) = 0 ∧ g.1 (1232 + 8 * j + 3) = nI a then 1 else 0) j78 + (if g.1 (1232 + 8 * j78 + 2) = 0 ∧ g.1 (1232 + 8 * j78 + 3) = nI a then 1 else 0 : Int32); rw [ev351, f39, li88.1], by show v354 = tw_isum (fun j => if g.1 (1232 + 8 * j + 2) = 0 ∧ g.1 (1232 + 8 * j + 4) = nI a then 1 else 0) j78 + (if g.1 (1232 + 8 * j78 + 2) = 0 ∧ g.1 (1232 + 8 * j78 + 4) = nI a then 1 else 0 : Int32); rw [ev354, f49, li88.2]⟩) (by omega) (by omega)
            · have f49 : (if g.1 (1232 + 8 * j78 + 2) = 0 ∧ g.1 (1232 + 8 * j78 + 4) = nI a then 1 else 0 : Int32) = 1 := if_pos ⟨c341, ej340.symm.trans c353⟩
              refine tw_iconst (v := 1) dX10_ofHouseNow_95 (by decide) ?_
              refine tw_goto 100 dX10_ofHouseNow_96 (by decide) ?_
              refine tw_iadd dX10_ofHouseNow_100 ?_
              refine tw_nmi (fun v355 ev355 => ?_)
              refine tw_istore [(5, .int v355), (4, .int v351), (7, .ref y315), (0, .ref x), (1, .int (nI a)), (2, .int (nI w)), (3, .ref r43), (6, .ref it65)] dX10_ofHouseNow_101 (by decide) rfl ?_
              refine tw_goto 27 dX10_ofHouseNow_103 (by decide) ?_
              refine tw_lv [3, 4, 5, 6, 1, 0, 7] rfl ?_
              exact ih80 ((j78 + 1)) (nI j78) v351 v355 _ sp321 f325 zt85 th323 oq324 (⟨by show v351 = tw_isum (fun j => if g.1 (1232 + 8 * j + 2) = 0 ∧ g.1 (1232 + 8 * j + 3) = nI a then 1 else 0) j78 + (if g.1 (1232 + 8 * j78 + 2) = 0 ∧ g.1 (1232 + 8 * j78 + 3) = nI a then 1 else 0 : Int32); rw [ev351, f39, li88.1], by show v355 = tw_isum (fun j => if g.1 (1232 + 8 * j + 2) = 0 ∧ g.1 (1232 + 8 * j + 4) = nI a then 1 else 0) j78 + (if g.1 (1232 + 8 * j78 + 2) = 0 ∧ g.1 (1232 + 8 * j78 + 4) = nI a then 1 else 0 : Int32); rw [ev355, f49, li88.2]⟩) (by omega) (by omega)
  refine tw_lv [4, 5, 6, 3, 2, 1, 0] rfl ?_
  exact L81 (g.2 5 + 1) 0 (-1) 0 0 _ (tw_sp.rm sp73.1 it65) f74 z69 th71 oq72 (⟨rfl, rfl⟩) (by omega) (Nat.zero_le _)

set_option maxHeartbeats 4000000 in
set_option maxRecDepth 100000 in
theorem c2_X10_ofHouse (d : tw_D) (g : tw_G) (τ : tw_K) (h : tw_H) (hw : tw_wt d g τ h) (x : Nat) (kx : τ x = 36) (a : Int32) (wh : Int32) (o : Nat) (ko : τ o = 12) (he : tw_AM 59000000 g) (hk9 : tw_MW g) : tw_Ct d mX10_ofHouse 2 12 [.ref x, .int a, .int wh] h (tw_qi (fun r9 h1 => ∃ g1 τ1, tw_sp d τ h g1 τ1 h1 ∧ h1 o = h o ∧ ((¬ (tw_ix (g.2 4) a) ∧ tw_th (h1 x) = 1 ∧ g1 = g) ∨ ((tw_ix (g.2 4) a) ∧ ¬ (0 ≤ wh ∧ wh ≤ 7) ∧ tw_th (h1 x) = 2 ∧ g1 = g) ∨ ((tw_ix (g.2 4) a) ∧ (0 ≤ wh ∧ wh ≤ 7) ∧ r9 = tw_hM g (tw_DN a) (tw_DN wh) ∧ tw_th (h1 x) = 0 ∧ g1 = g))) tw_nx) := by
  refine tw_of (by decide +kernel) (Nat.le_of_ble_eq_true rfl) ?_
  show tw_W d mX10_ofHouse _ 0 [(0, .ref x), (1, .int a), (2, .int wh)] [] h 2 12
  have sp0 := tw_sp.rf hw
  have oq0 : h o = h o := rfl
  have b93 := tw_b3 hw kx
  refine tw_aload_n 0 dX10_ofHouse_0 rfl rfl ?_
  refine tw_aload_n 0 dX10_ofHouse_1 rfl rfl ?_
  refine tw_iload_n 1 dX10_ofHouse_2 rfl rfl ?_
  obtain ⟨e4, f5, th_6, td_7, ds_8, fr_9, ca_10, us_11, wo_12, cm_13, lc_14, lh_15, ld_16, rfl, k17, k18, k19, k20, k21, k22, k23, k24, k25, k26, k27, k28, k29, k30, k31, k32, k33, k34, k35, k36, k37, k38⟩ := sp0.1 x 36 kx (by decide)
  refine tw_bi (tw_callV (M := mX10_ofHouse) (pc := 3) okX10_isNoHouse dX10_ofHouse_3 w_1362 rfl f5 [.int a] [.ref x] rfl rfl ⟨by decide, by decide⟩ (Nat.le_of_ble_eq_true rfl) (c2_X10_isNoHouse d g τ h sp0.1 x kx a) 2 12 (Nat.le_of_ble_eq_true rfl) (Nat.le_of_ble_eq_true rfl)) (fun r3 h2 q1 => ?_) (fun E h1 q => q.elim)
  obtain ⟨q1e, q1d⟩ := q1
  rw [q1e]
  rcases q1d with ⟨q1r, q1n⟩ | ⟨q1r, q1i⟩
  · rw [q1r]
    refine tw_iconst (v := 1) dX10_ofHouse_6 (by decide) ?_
    refine tw_bi (tw_callV (M := mX10_ofHouse) (pc := 7) okX10_start dX10_ofHouse_7 w_1200 rfl f5 [.int 1, .int 1] [] rfl rfl ⟨by decide, by decide⟩ (Nat.le_of_ble_eq_true rfl) (c_X10_start d g τ h sp0.1 x kx 1 1 (by decide)) 2 12 (Nat.le_of_ble_eq_true rfl) (Nat.le_of_ble_eq_true rfl)) (fun r44 h43 q42 => ?_) (fun E h1 q => q.elim)
    obtain ⟨e45, he46, hs47, hr48, hc49⟩ := q42
    obtain ⟨rz50, tz51⟩ := hc49.2 rfl
    have th52 : tw_th (h43 x) = 1 := by rw [he46, tw_up_s]; exact tz51
    have sp53 : tw_sp d τ h g τ h43 := by rw [he46]; exact sp0.set kx (by decide) hs47
    rw [rz50]
    have oq54 : h43 o = h o := by rw [he46, tw_up_n (tw_nk ko kx (by decide))] <;> exact oq0
    refine tw_if_ne 36 dX10_ofHouse_10 (by decide) (fun _ => ?_) (fun c55 => absurd c55 (by decide))
    refine tw_iconst (v := 0) dX10_ofHouse_36 (by decide) ?_
    refine tw_goto 46 dX10_ofHouse_37 (by decide) ?_
    exact tw_iret dX10_ofHouse_46 rfl (Or.inl ⟨_, rfl, _, _, sp53, oq54, Or.inl ⟨q1n, th52, rfl⟩⟩)
  · rw [q1r]
    have q1x := q1i
    obtain ⟨ja, q1j, q1k⟩ := q1i
    subst q1k
    have cDa : tw_DN (nI ja) = ja := nI_clamp (by omega)
    have ix0 := q1x
    refine tw_iconst (v := 1) dX10_ofHouse_6 (by decide) ?_
    refine tw_bi (tw_callV (M := mX10_ofHouse) (pc := 7) okX10_start dX10_ofHouse_7 w_1200 rfl f5 [.int 0, .int 1] [] rfl rfl ⟨by decide, by decide⟩ (Nat.le_of_ble_eq_true rfl) (c_X10_start d g τ h sp0.1 x kx 0 1 (by decide)) 2 12 (Nat.le_of_ble_eq_true rfl) (Nat.le_of_ble_eq_true rfl)) (fun r61 h60 q59 => ?_) (fun E h1 q => q.elim)
    obtain ⟨e62, he63, hs64, hr65, hc66⟩ := q59
    obtain ⟨rz67, tz68⟩ := hc66.1 rfl
    have th69 : tw_th (h60 x) = 0 := by rw [he63, tw_up_s]; exact tz68
    have sp70 : tw_sp d τ h g τ h60 := by rw [he63]; exact sp0.set kx (by decide) hs64
    rw [rz67]
    have oq71 : h60 o = h o := by rw [he63, tw_up_n (tw_nk ko kx (by decide))] <;> exact oq0
    refine tw_if_ne 36 dX10_ofHouse_10 (by decide) (fun c72 => absurd (by decide) c72) (fun _ => ?_)
    refine tw_aload_n 0 dX10_ofHouse_13 rfl rfl ?_
    refine tw_iload_n 2 dX10_ofHouse_14 rfl rfl ?_
    refine tw_iconst (v := 0) dX10_ofHouse_15 (by decide) ?_
    refine tw_bipush (v := 7) dX10_ofHouse_16 (by decide) ?_
    refine tw_bi (tw_callS (M := mX10_ofHouse) (pc := 18) okX10_isIn dX10_ofHouse_18 w_1196 [.int wh, .int 0, .int 7] [.ref x] rfl rfl ⟨by decide, by decide⟩ (Nat.le_of_ble_eq_true rfl) (c_X10_isIn d g τ h60 sp70.1 wh 0 7) 2 12 (Nat.le_of_ble_eq_true rfl) (Nat.le_of_ble_eq_true rfl)) (fun r75 h74 q73 => ?_) (fun E h1 q => q.elim)
    obtain ⟨q73e, q73d⟩ := q73
    rw [q73e]
    rcases q73d with ⟨q73r, q73n⟩ | ⟨q73r, rlwh⟩
    · rw [q73r]
      refine tw_if_ne 28 dX10_ofHouse_21 (by decide) (fun c76 => absurd (by decide) c76) (fun _ => ?_)
      refine tw_iconst (v := 1) dX10_ofHouse_24 (by decide) ?_
      refine tw_goto 29 dX10_ofHouse_25 (by decide) ?_
      refine tw_iconst (v := 2) dX10_ofHouse_29 (by decide) ?_
      obtain ⟨e80, f81, th_82, td_83, ds_84, fr_85, ca_86, us_87, wo_88, cm_89, lc_90, lh_91, ld_92, rfl, k93, k94, k95, k96, k97, k98, k99, k100, k101, k102, k103, k104, k105, k106, k107, k108, k109, k110, k111, k112, k113, k114⟩ := sp70.1 x 36 kx (by decide)
      refine tw_bi (tw_callV (M := mX10_ofHouse) (pc := 30) okX10_refuse dX10_ofHouse_30 w_1204 rfl f81 [.int 1, .int 2] [] rfl rfl ⟨by decide, by decide⟩ (Nat.le_of_ble_eq_true rfl) (c_X10_refuse d g τ h60 sp70.1 x kx 1 2 (by decide)) 2 12 (Nat.le_of_ble_eq_true rfl) (Nat.le_of_ble_eq_true rfl)) (fun r117 h116 q115 => ?_) (fun E h1 q => q.elim)
      obtain ⟨e118, he119, hs120, hr121, hc122⟩ := q115
      obtain ⟨rz123, tz124⟩ := (hc122 th69).2 rfl
      have th125 : tw_th (h116 x) = 2 := by rw [he119, tw_up_s]; exact tz124
      have sp126 : tw_sp d τ h g τ h116 := by rw [he119]; exact sp70.set kx (by decide) hs120
      rw [rz123]
      have oq127 : h116 o = h o := by rw [he119, tw_up_n (tw_nk ko kx (by decide))] <;> exact oq71
      refine tw_if_eq 40 dX10_ofHouse_33 (by decide) (fun c128 => absurd c128 (by decide)) (fun _ => ?_)
      refine tw_iconst (v := 0) dX10_ofHouse_36 (by decide) ?_
      refine tw_goto 46 dX10_ofHouse_37 (by decide) ?_
      exact tw_iret dX10_ofHouse_46 rfl (Or.inl ⟨_, rfl, _, _, sp126, oq127, Or.inr (Or.inl ⟨ix0, q73n, th125, rfl⟩)⟩)
    · rw [q73r]
      have rc9 : 0 ≤ wh ∧ wh ≤ 7 := rlwh
      obtain ⟨w9, -, hw9, ew⟩ := tw_I_rng (a := 0) (b := 7) rlwh.1 rlwh.2 (by decide) (by decide)
      subst ew
      have cDwh : tw_DN (nI w9) = w9 := nI_clamp (by omega)
      refine tw_if_ne 28 dX10_ofHouse_21 (by decide) (fun _ => ?_) (fun c129 => absurd c129 (by decide))
      refine tw_iconst (v := 0) dX10_ofHouse_28 (by decide) ?_
      refine tw_iconst (v := 2) dX10_ofHouse_29 (by decide) ?_
      obtain ⟨e133, f134, th_135, td_136, ds_137, fr_138, ca_139, us_140, wo_141, cm_142, lc_143, lh_144, ld_145, rfl, k146, k147, k148, k149, k150, k151, k152, k153, k154, k155, k156, k157, k158, k159, k160, k161, k162, k163, k164, k165, k166, k167⟩ := sp70.1 x 36 kx (by decide)
      refine tw_bi (tw_callV (M := mX10_ofHouse) (pc := 30) okX10_refuse dX10_ofHouse_30 w_1204 rfl f134 [.int 0, .int 2] [] rfl rfl ⟨by decide, by decide⟩ (Nat.le_of_ble_eq_true rfl) (c_X10_refuse d g τ h60 sp70.1 x kx 0 2 (by decide)) 2 12 (Nat.le_of_ble_eq_true rfl) (Nat.le_of_ble_eq_true rfl)) (fun r170 h169 q168 => ?_) (fun E h1 q => q.elim)
      obtain ⟨e171, he172, hs173, hr174, hc175⟩ := q168
      obtain ⟨rz176, tz177⟩ := (hc175 th69).1 rfl
      have th178 : tw_th (h169 x) = 0 := by rw [he172, tw_up_s]; exact tz177
      have sp179 : tw_sp d τ h g τ h169 := by rw [he172]; exact sp70.set kx (by decide) hs173
      rw [rz176]
      have oq180 : h169 o = h o := by rw [he172, tw_up_n (tw_nk ko kx (by decide))] <;> exact oq71
      refine tw_if_eq 40 dX10_ofHouse_33 (by decide) (fun _ => ?_) (fun c181 => absurd (by decide) c181)
      refine tw_aload_n 0 dX10_ofHouse_40 rfl rfl ?_
      refine tw_iload_n 1 dX10_ofHouse_41 rfl rfl ?_
      refine tw_iload_n 2 dX10_ofHouse_42 rfl rfl ?_
      obtain ⟨e185, f186, th_187, td_188, ds_189, fr_190, ca_191, us_192, wo_193, cm_194, lc_195, lh_196, ld_197, rfl, k198, k199, k200, k201, k202, k203, k204, k205, k206, k207, k208, k209, k210, k211, k212, k213, k214, k215, k216, k217, k218, k219⟩ := sp179.1 x 36 kx (by decide)
      refine tw_bi (tw_callV (M := mX10_ofHouse) (pc := 43) okX10_ofHouseNow dX10_ofHouse_43 w_1517 rfl f186 [.int (nI ja), .int (nI w9)] [] rfl rfl ⟨by decide, by decide⟩ (Nat.le_of_ble_eq_true rfl) (c4_X10_ofHouseNow d g τ h169 sp179.1 x kx ja (by omega) w9 hw9 o ko he hk9) 0 0 (Nat.le_of_ble_eq_true rfl) (Nat.le_of_ble_eq_true rfl)) (fun r184 h183 q182 => ?_) (fun E h1 q => q.elim)
      obtain ⟨q182s, q182t, q182o, q182v⟩ := q182
      have sp220 := sp179.tr q182s
      have th221 := q182t.trans th178
      have oq222 := q182o.trans oq180
      exact tw_iret dX10_ofHouse_46 rfl (Or.inl ⟨_, rfl, _, _, sp220, oq222, Or.inr (Or.inr (⟨ix0, rc9, (by (try rw [cDa]); (try rw [cDwh]); first | done | exact q182v), th221, (by (try rw [cDa]); (try rw [cDwh]); first | done | exact rfl)⟩))⟩)

def tw_dM (g : tw_G) (a : Nat) : Nat → Int32
  | 0 => g.1 (1232 + 8 * a + 3)
  | 1 => g.1 (1232 + 8 * a + 4)
  | 2 => g.1 (1232 + 8 * a + 0)
  | 3 => g.1 (1232 + 8 * a + 1)
  | 4 => if g.1 (1232 + 8 * a + 2) = 0 then nI (tw_md g a) else 0
  | 5 => if g.1 (1232 + 8 * a + 2) = 0 then 0 else 1
  | _ + 6 => if g.1 (1232 + 8 * a + 2) = 0 ∧ g.1 (960 + 32 * tw_eF g a + 1) ≠ -1 then tw_ck (tw_ms g a 0) (tw_md g a) (tw_DN (g.1 1)) else -1
def tw_oM (g : tw_G) (a : Nat) : Nat → Int32
  | 0 => g.1 (480 + 64 * a)
  | 1 => g.1 (480 + 64 * a + 1)
  | 2 => g.1 (480 + 64 * a + 16 + 0)
  | 3 => g.1 (480 + 64 * a + 16 + 1)
  | 4 => tw_oS (g.1 (480 + 64 * a + 8 + 0)) (g.1 (480 + 64 * a + 8 + 1))
  | 5 => tw_isum (fun j => if g.1 (960 + 32 * j + 1) = nI a then 1 else 0) (g.2 4)
  | 6 => tw_wo (g.1 (480 + 64 * a + 16 + 0)) (g.1 (480 + 64 * a + 16 + 1)) (g.1 1)
  | 7 => tw_pn (fun k => g.1 (480 + 64 * a + 24 + k))
  | _ + 8 => tw_isum (fun j => if g.1 (480 + 64 * j) = g.1 (480 + 64 * a) then 1 else 0) (g.2 3)
def tw_SQ (g : tw_G) : Prop := (∀ k, k < 2 → nI (tw_wM g k 0) + nI (tw_wM g k 1) + nI (tw_wM g k 2) + nI (tw_wM g k 3) + nI (tw_wM g k 4) = nI (tw_wM g k 5)) ∧ (∀ j, j < g.2 4 → g.1 (960 + 32 * j + 1) = -1 → nI (g.2 22) < g.1 (960 + 32 * j + 0)) ∧ (∀ j, j < g.2 3 → ∀ k, k < 5 → 0 ≤ g.1 (480 + 64 * j + 24 + k)) ∧ ∀ a b, a < 4 → b < 4 → g.1 (416 + 8 * a + b) = g.1 (416 + 8 * b + a) ∧ g.1 (448 + 8 * a + b) = g.1 (448 + 8 * b + a)
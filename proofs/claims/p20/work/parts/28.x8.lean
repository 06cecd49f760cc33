/-! the class's methods over the typed heap. Laid by wip/p5/mkclass.py. -/
/-! what is asked, the reference -/
theorem tw_sum_s {f : Nat → Nat} (a : Nat) : ∀ m, tw_sum f (a + m) = tw_sum f a + tw_sum (fun j => f (a + j)) m
  | 0 => rfl
  | m + 1 => by
    show tw_sum f (a + m) + f (a + m) = tw_sum f a + (tw_sum (fun j => f (a + j)) m + f (a + m))
    rw [tw_sum_s a m, Nat.add_assoc]
theorem tw_sum_m {f : Nat → Nat} {m : Nat} : ∀ n, m ≤ n → tw_sum f m ≤ tw_sum f n
  | 0, h => by rw [show m = 0 by omega]; exact Nat.le_refl _
  | n + 1, h => by
    show tw_sum f m ≤ tw_sum f n + f n
    by_cases q : m = n + 1
    · rw [q]
      exact Nat.le_refl _
    · exact Nat.le_trans (tw_sum_m n (by omega)) (Nat.le_add_right _ _)
def tw_wM (g : tw_G) (k : Nat) : Nat → Nat
  | 0 => tw_sum (fun j => tw_DN (g.1 (480 + 64 * j + 16 + k))) (g.2 3)
  | 1 => tw_sum (fun j => tw_DN (g.1 (960 + 32 * j + 8 + k))) (g.2 4)
  | w + 2 => tw_DN (g.1 (1344 + 8 * w + k))
theorem tw_AM.w0 {B : Nat} {g : tw_G} (h : tw_AM B g) {k m : Nat} (hk : k < 2) (hm : m ≤ 4) : tw_sum (fun j => tw_DN (g.1 (480 + 64 * j + 16 + k))) m ≤ B := by
  have e : tw_sum (fun j => tw_DN (g.1 (480 + 64 * j + 16 + k))) m = tw_sum (fun i => tw_am g i k) m := tw_sum_c m (fun j hj => by unfold tw_am; rw [tw_ac_v (by omega), show 496 + 64 * j + k = 480 + 64 * j + 16 + k by omega])
  have l := tw_sum_m (f := fun i => tw_am g i k) (m := m) 13 (by omega)
  have z := h.2 k hk
  omega
theorem tw_AM.w1 {B : Nat} {g : tw_G} (h : tw_AM B g) {k m : Nat} (hk : k < 2) (hm : m ≤ 6) : tw_sum (fun j => tw_DN (g.1 (960 + 32 * j + 8 + k))) m ≤ B := by
  have e : tw_sum (fun j => tw_DN (g.1 (960 + 32 * j + 8 + k))) m = tw_sum (fun j => tw_am g (4 + j) k) m := tw_sum_c m (fun j hj => by unfold tw_am; rw [tw_ac_h (by omega) (by omega), show 840 + 32 * (4 + j) + k = 960 + 32 * j + 8 + k by omega])
  have l := tw_sum_m (f := fun i => tw_am g i k) (m := 4 + m) 13 (by omega)
  have s := tw_sum_s (f := fun i => tw_am g i k) 4 m
  have z := h.2 k hk
  omega
set_option maxHeartbeats 4000000 in
set_option maxRecDepth 100000 in
theorem c2_X10_market (d : tw_D) (g : tw_G) (τ : tw_K) (h : tw_H) (hw : tw_wt d g τ h) (x : Nat) (kx : τ x = 36) (m : Int32) (o : Nat) (ko : τ o = 12) : tw_Ct d mX10_market 0 0 [.ref x, .int m] h (tw_qi (fun r9 h1 => ∃ g1 τ1, tw_sp d τ h g1 τ1 h1 ∧ h1 o = h o ∧ ((¬ (100 ≤ m ∧ m ≤ 200) ∧ tw_th (h1 x) = 1 ∧ g1 = g) ∨ ((100 ≤ m ∧ m ≤ 200) ∧ r9 = g.1 1 ∧ tw_th (h1 x) = 0 ∧ g1 = tw_g1 g 1 m))) tw_nx) := by
  refine tw_of (by decide +kernel) (Nat.le_of_ble_eq_true rfl) ?_
  show tw_W d mX10_market _ 0 [(0, .ref x), (1, .int m)] [] h 0 0
  have sp0 := tw_sp.rf hw
  refine tw_aload_n 0 dX10_market_0 rfl rfl ?_
  refine tw_iload_n 1 dX10_market_1 rfl rfl ?_
  refine tw_bipush (v := 100) dX10_market_2 (by decide) ?_
  refine tw_sipush (v := 200) dX10_market_4 (by decide) ?_
  refine tw_bi (tw_callS (M := mX10_market) (pc := 7) okX10_isIn dX10_market_7 w_1196 [.int m, .int 100, .int 200] [.ref x] rfl rfl ⟨by decide, by decide⟩ (Nat.le_of_ble_eq_true rfl) (c_X10_isIn d g τ h sp0.1 m 100 200) 0 0 (Nat.le_of_ble_eq_true rfl) (Nat.le_of_ble_eq_true rfl)) (fun r3 h2 q1 => ?_) (fun E h1 q => q.elim)
  obtain ⟨q1e, q1d⟩ := q1
  rw [q1e]
  rcases q1d with ⟨q1r, q1n⟩ | ⟨q1r, q1a, q1b⟩
  · rw [q1r]
    refine tw_if_ne 17 dX10_market_10 (by decide) (fun c4 => absurd (by decide) c4) (fun _ => ?_)
    refine tw_iconst (v := 1) dX10_market_13 (by decide) ?_
    refine tw_goto 18 dX10_market_14 (by decide) ?_
    refine tw_iconst (v := 1) dX10_market_18 (by decide) ?_
    obtain ⟨e5, f6, th_7, td_8, ds_9, fr_10, ca_11, us_12, wo_13, cm_14, lc_15, lh_16, ld_17, rfl, k18, k19, k20, k21, k22, k23, k24, k25, k26, k27, k28, k29, k30, k31, k32, k33, k34, k35, k36, k37, k38, k39⟩ := sp0.1 x 36 kx (by decide)
    refine tw_bi (tw_callV (M := mX10_market) (pc := 19) okX10_start dX10_market_19 w_1200 rfl f6 [.int 1, .int 1] [] rfl rfl ⟨by decide, by decide⟩ (Nat.le_of_ble_eq_true rfl) (c_X10_start d g τ h sp0.1 x kx 1 1 (by decide)) 0 0 (Nat.le_of_ble_eq_true rfl) (Nat.le_of_ble_eq_true rfl)) (fun r h1 q => ?_) (fun E h1 q => q.elim)
    obtain ⟨e, he, hs, hr, h3a, h3b⟩ := q
    have sp1 : tw_sp d τ h g τ h1 := by rw [he]; exact sp0.set kx (by decide) hs
    obtain ⟨r1, t1⟩ := h3b rfl
    rw [r1]
    refine tw_if_eq 27 dX10_market_22 (by decide) (fun c40 => absurd c40 (by decide)) (fun _ => ?_)
    refine tw_iconst (v := 0) dX10_market_25 (by decide) ?_
    exact tw_iret dX10_market_26 rfl (Or.inl ⟨_, rfl, _, _, sp1, by rw [he, tw_up_n (tw_nk ko kx (by decide))], Or.inl ⟨q1n, by rw [he, tw_up_s]; exact t1, rfl⟩⟩)
  · rw [q1r]
    refine tw_if_ne 17 dX10_market_10 (by decide) (fun _ => ?_) (fun c41 => absurd c41 (by decide))
    refine tw_iconst (v := 0) dX10_market_17 (by decide) ?_
    refine tw_iconst (v := 1) dX10_market_18 (by decide) ?_
    obtain ⟨e42, f43, th_44, td_45, ds_46, fr_47, ca_48, us_49, wo_50, cm_51, lc_52, lh_53, ld_54, rfl, k55, k56, k57, k58, k59, k60, k61, k62, k63, k64, k65, k66, k67, k68, k69, k70, k71, k72, k73, k74, k75, k76⟩ := sp0.1 x 36 kx (by decide)
    refine tw_bi (tw_callV (M := mX10_market) (pc := 19) okX10_start dX10_market_19 w_1200 rfl f43 [.int 0, .int 1] [] rfl rfl ⟨by decide, by decide⟩ (Nat.le_of_ble_eq_true rfl) (c_X10_start d g τ h sp0.1 x kx 0 1 (by decide)) 0 0 (Nat.le_of_ble_eq_true rfl) (Nat.le_of_ble_eq_true rfl)) (fun r h1 q => ?_) (fun E h1 q => q.elim)
    obtain ⟨e, he, hs, hr, h3a, h3b⟩ := q
    have sp1 : tw_sp d τ h g τ h1 := by rw [he]; exact sp0.set kx (by decide) hs
    obtain ⟨r1, t1⟩ := h3a rfl
    rw [r1]
    refine tw_if_eq 27 dX10_market_22 (by decide) (fun _ => ?_) (fun c77 => absurd (by decide) c77)
    refine tw_aload_n 0 dX10_market_27 rfl rfl ?_
    obtain ⟨e78, f79, th_80, td_81, ds_82, fr_83, ca_84, us_85, wo_86, cm_87, lc_88, lh_89, ld_90, rfl, k91, k92, k93, k94, k95, k96, k97, k98, k99, k100, k101, k102, k103, k104, k105, k106, k107, k108, k109, k110, k111, k112⟩ := sp1.1 x 36 kx (by decide)
    refine tw_get (v := .int (g.1 1)) rfl in_14 2 dX10_market_28 w_1153 rfl (by decide) f79 rfl ?_
    refine tw_istore_n [(2, .int (g.1 1)), (0, .ref x), (1, .int m)] dX10_market_31 rfl (by decide) rfl ?_
    refine tw_aload_n 1 dX10_market_32 rfl rfl ?_
    refine tw_iload_n 2 dX10_market_33 rfl rfl ?_
    have z0 : tw_th (h1 x) = 0 := by rw [he, tw_up_s]; exact t1
    rw [f79] at z0
    have q0 : th_80 = 0 := z0
    refine tw_put rfl in_14 tyX10 tyX10_ok nmX10 2 dX10_market_34 w_1153 rfl (by decide) f79 rfl rfl rfl rfl (Nat.le_of_ble_eq_true rfl) [.int th_80, .int td_81, .int m, .ref ds_82, .ref fr_83, .ref ca_84, .ref us_85, .ref wo_86, .ref cm_87, .ref lc_88, .ref lh_89, .ref ld_90] rfl ?_
    obtain ⟨h113, eh113⟩ : ∃ z : tw_H, z = tw_up h1 x (.inr (14, [.int th_80, .int td_81, .int m, .ref ds_82, .ref fr_83, .ref ca_84, .ref us_85, .ref wo_86, .ref cm_87, .ref lc_88, .ref lh_89, .ref ld_90])) := ⟨_, rfl⟩
    rw [← eh113]
    have f114 : h113 x = some (.inr (14, [.int th_80, .int td_81, .int m, .ref ds_82, .ref fr_83, .ref ca_84, .ref us_85, .ref wo_86, .ref cm_87, .ref lc_88, .ref lh_89, .ref ld_90])) := by rw [eh113]; exact tw_up_s
    have sp2 : tw_sp d τ h (tw_g1 g 1 m) τ h113 := by rw [eh113]; exact sp1.m36 kx ⟨th_80, td_81, ds_82, fr_83, ca_84, us_85, wo_86, cm_87, lc_88, lh_89, ld_90, rfl, k91, k92, k93, k94, k95, k96, k97, k98, k99, k100, k101, k102, k103, k104, k105, k106, k107, k108, k109, k110, k111, k112⟩
    refine tw_iload_n 0 dX10_market_37 rfl rfl ?_
    exact tw_iret dX10_market_38 rfl (Or.inl ⟨_, rfl, _, _, sp2, by rw [eh113, tw_up_n (tw_nk ko kx (by decide)), he, tw_up_n (tw_nk ko kx (by decide))], Or.inr ⟨⟨q1a, q1b⟩, rfl, by rw [f114]; exact q0, rfl⟩⟩)

def tw_hM (g : tw_G) (a : Nat) : Nat → Int32
  | 0 => g.1 (960 + 32 * a + 1)
  | 1 => g.1 (960 + 32 * a + 2)
  | 2 => g.1 (960 + 32 * a + 0)
  | 3 => g.1 (960 + 32 * a + 8 + 0)
  | 4 => g.1 (960 + 32 * a + 8 + 1)
  | 5 => tw_wo (g.1 (960 + 32 * a + 8 + 0)) (g.1 (960 + 32 * a + 8 + 1)) (g.1 1)
  | 6 => tw_isum (fun j => if g.1 (1232 + 8 * j + 2) = 0 ∧ g.1 (1232 + 8 * j + 3) = nI a then 1 else 0) (g.2 5)
  | _ + 7 => tw_isum (fun j => if g.1 (1232 + 8 * j + 2) = 0 ∧ g.1 (1232 + 8 * j + 4) = nI a then 1 else 0) (g.2 5)
def tw_MW (g : tw_G) : Prop := g.1 1 = nI (tw_DN (g.1 1)) ∧ tw_DN (g.1 1) ≤ 200
set_option maxHeartbeats 4000000 in
set_option maxRecDepth 100000 in
theorem c5n_X10_due (d : tw_D) (g : tw_G) (τ : tw_K) (h : tw_H) (hw : tw_wt d g τ h) (x : Nat) (kx : τ x = 36) (y : Nat) (ky : τ y = 22) (j : Nat) (hj : j < g.2 5) (hj9 : j < 10) (hb : g.2 (4096 + y) = 1232 + 8 * j) (hp : ¬ g.1 (1232 + 8 * j + 2) = 0) : tw_Ct d mX10_due 0 0 [.ref x, .ref y] h (tw_qi (fun r h1 => h1 = h ∧ r = 0) tw_nx) := by
  refine tw_of (by decide +kernel) (Nat.le_of_ble_eq_true rfl) ?_
  show tw_W d mX10_due _ 0 [(0, .ref x), (1, .ref y)] [] h 0 0
  have sp0 := tw_sp.rf hw
  refine tw_aload_n 1 dX10_due_0 rfl rfl ?_
  obtain ⟨e1, f2, v_3, dy_4, pd_5, i_6, j_7, rfl, k8, k9, k10, k11⟩ := sp0.1 y 22 ky (by decide)
  obtain ⟨j12, ow13, fv9, fd9, fp9, ei14, ej15⟩ := k11
  obtain rfl : j = j12 := by have z := ow13.b hb; omega
  subst fv9 fd9 fp9
  refine tw_get (v := .int (g.1 (1232 + 8 * j + 2))) rfl in_12 4 dX10_due_1 w_1447 rfl (by decide) f2 rfl ?_
  refine tw_if_eq 11 dX10_due_4 (by decide) (fun c16 => absurd c16 (hp)) (fun _ => ?_)
  refine tw_iconst (v := 0) dX10_due_7 (by decide) ?_
  refine tw_goto 40 dX10_due_8 (by decide) ?_
  exact tw_iret dX10_due_40 rfl (Or.inl ⟨_, rfl, rfl, rfl⟩)

theorem c5_X10_due (d : tw_D) (g : tw_G) (τ : tw_K) (h : tw_H) (hw : tw_wt d g τ h) (x : Nat) (kx : τ x = 36) (y : Nat) (ky : τ y = 22) (j : Nat) (hj : j < g.2 5) (hj9 : j < 10) (hb : g.2 (4096 + y) = 1232 + 8 * j) (he : tw_MH g) : tw_Ct d mX10_due 0 0 [.ref x, .ref y] h (tw_qi (fun r h1 => h1 = h ∧ r = if g.1 (1232 + 8 * j + 2) = 0 then nI (tw_md g j) else 0) tw_nx) := by
  by_cases hp : g.1 (1232 + 8 * j + 2) = 0
  · simp only [if_pos hp]
    exact c4_X10_due d g τ h hw x kx y ky j hj hj9 hb hp he
  · simp only [if_neg hp]
    exact c5n_X10_due d g τ h hw x kx y ky j hj hj9 hb hp
def tw_dM (g : tw_G) (a : Nat) : Nat → Int32
  | 0 => g.1 (1232 + 8 * a + 3)
  | 1 => g.1 (1232 + 8 * a + 4)
  | 2 => g.1 (1232 + 8 * a + 0)
  | 3 => g.1 (1232 + 8 * a + 1)
  | 4 => if g.1 (1232 + 8 * a + 2) = 0 then nI (tw_md g a) else 0
  | 5 => if g.1 (1232 + 8 * a + 2) = 0 then 0 else 1
  | _ + 6 => if g.1 (1232 + 8 * a + 2) = 0 ∧ g.1 (960 + 32 * tw_eF g a + 1) ≠ -1 then tw_ck (tw_ms g a 0) (tw_md g a) (tw_DN (g.1 1)) else -1
theorem tw_msb {g : tw_G} {j k : Nat} (he : tw_MH g) (hm : tw_EM g) (hj : j < g.2 5) (hT : g.2 22 ≤ 3000) (h3 : tw_mP g (tw_eF g j) < g.2 3) (_ : g.1 (960 + 32 * tw_eF g j + 1) ≠ -1) : tw_ms g j k ≤ 40000 := tw_ms_le he hj hT (hm _ h3).1.1
set_option maxHeartbeats 4000000 in
set_option maxRecDepth 100000 in
theorem c4_X10_cheaper (d : tw_D) (g : tw_G) (τ : tw_K) (h : tw_H) (hw : tw_wt d g τ h) (x : Nat) (kx : τ x = 36) (y : Nat) (ky : τ y = 22) (j : Nat) (hj : j < g.2 5) (hj9 : j < 10) (hb : g.2 (4096 + y) = 1232 + 8 * j) (he9 : tw_MH g) (hm : tw_EM g) (hT9 : g.2 22 ≤ 3000) (hk9 : tw_MW g) (hs9 : ∀ i, i < g.2 4 → g.1 (960 + 32 * i + 1) ≠ -1 → tw_mP g i < g.2 3) : tw_Ct d mX10_cheaper 0 0 [.ref x, .ref y] h (tw_qi (fun r h1 => h1 = h ∧ r = tw_dM g j 6) tw_nx) := by
  refine tw_of (by decide +kernel) (Nat.le_of_ble_eq_true rfl) ?_
  show tw_W d mX10_cheaper _ 0 [(0, .ref x), (1, .ref y)] [] h 0 0
  have sp0 := tw_sp.rf hw
  have b9 := tw_b3 hw kx
  have b94 := tw_b4 hw kx
  refine tw_aload_n 1 dX10_cheaper_0 rfl rfl ?_
  obtain ⟨e1, f2, v_3, dy_4, pd_5, i_6, j_7, rfl, k8, k9, k10, k11⟩ := sp0.1 y 22 ky (by decide)
  obtain ⟨j12, ow13, fv9, fd9, fp9, ei14, ej15⟩ := k11
  obtain rfl : j = j12 := by have z := ow13.b hb; omega
  subst fv9 fd9 fp9
  refine tw_get (v := .int (g.1 (1232 + 8 * j + 2))) rfl in_12 4 dX10_cheaper_1 w_1447 rfl (by decide) f2 rfl ?_
  refine tw_if_ne 28 dX10_cheaper_4 (by decide) (fun c16 => ?_) (fun c16 => ?_)
  · refine tw_iconst (v := -1) dX10_cheaper_28 (by decide) ?_
    exact tw_iret dX10_cheaper_29 rfl (Or.inl ⟨_, rfl, rfl, (if_neg (fun z => c16 z.1)).symm⟩)
  · have pd9 := c16
    refine tw_aload_n 0 dX10_cheaper_7 rfl rfl ?_
    obtain ⟨e17, f18, th_19, td_20, ds_21, fr_22, ca_23, us_24, wo_25, cm_26, lc_27, lh_28, ld_29, rfl, k30, k31, k32, k33, k34, k35, k36, k37, k38, k39, k40, k41, k42, k43, k44, k45, k46, k47, k48, k49, k50, k51⟩ := sp0.1 x 36 kx (by decide)
    refine tw_get (v := .ref lh_28) rfl in_14 10 dX10_cheaper_8 w_1161 rfl (by decide) f18 rfl ?_
    refine tw_aload_n 1 dX10_cheaper_11 rfl rfl ?_
    refine tw_get (v := .int (nI i_6)) rfl in_12 0 dX10_cheaper_12 w_1443 rfl (by decide) f2 rfl ?_
    obtain ⟨e52, f53, ⟨el54, rfl, k55⟩, k56⟩ := sp0.1 lh_28 25 k37 (by decide)
    refine tw_br (tw_callV (M := mX10_cheaper) (pc := 15) okJx4a65c_get_915e3 dX10_cheaper_15 w_1296 rfl f53 [.int (nI i_6)] [] rfl rfl ⟨by decide, by decide⟩ (Nat.le_of_ble_eq_true rfl) (c25_get d g τ h sp0.1 lh_28 k37 i_6 (by omega) (by omega)) 0 0 (Nat.le_of_ble_eq_true rfl) (Nat.le_of_ble_eq_true rfl)) (fun r59 h58 q57 => ?_) (fun E h1 q => q.elim)
    obtain ⟨q57e, q57k⟩ := q57
    rw [q57e]
    have el60 : tw_el h (g.2 13) i_6 = r59 := by rw [← k56]; exact q57k.2.symm
    have kl61 : τ (g.2 13) = 25 := by rw [← k56]; exact k37
    have id62 : g.2 (4096 + r59) = 960 + 32 * i_6 := by rw [← el60]; exact tw_eli25 sp0.1 kl61 (by omega)
    obtain ⟨e63, f64, x_65, y_66, dy_67, p_68, rfl, k69, k70, k71, k72⟩ := sp0.1 r59 23 q57k.1 (by decide)
    obtain ⟨j73, ow74, fd9, fa9, ft9, lp75⟩ := k72
    obtain rfl : i_6 = j73 := by have z := ow74.b id62; omega
    subst fd9 fa9 ft9
    refine tw_castS (ci := 13) rfl dX10_cheaper_18 w_1336 f64 ?_
    refine tw_get (v := .int (g.1 (960 + 32 * i_6 + 1))) rfl in_13 0 dX10_cheaper_21 w_1342 rfl (by decide) f64 rfl ?_
    refine tw_iconst (v := -1) dX10_cheaper_24 (by decide) ?_
    refine tw_icmp_ne 30 dX10_cheaper_25 (by decide) (fun c76 => ?_) (fun c76 => ?_)
    · have ef9 : tw_eF g j = _ := tw_eN_e (c := 3) ei14 (by omega)
      have hF9 : g.1 (960 + 32 * tw_eF g j + 1) ≠ -1 := by rw [ef9]; exact c76
      refine tw_aload_n 0 dX10_cheaper_30 rfl rfl ?_
      refine tw_aload_n 1 dX10_cheaper_31 rfl rfl ?_
      refine tw_iconst (v := 0) dX10_cheaper_32 (by decide) ?_
      refine tw_bl (tw_callV (M := mX10_cheaper) (pc := 33) okX10_toPay dX10_cheaper_33 w_1467 rfl f18 [.ref y, .int 0] [] rfl rfl ⟨by decide, by decide⟩ (Nat.le_of_ble_eq_true rfl) (c4_X10_toPay d g τ h sp0.1 x kx y ky j hj hj9 hb 0 (by decide) pd9 hF9 he9 hm hT9) 0 0 (Nat.le_of_ble_eq_true rfl) (Nat.le_of_ble_eq_true rfl)) (fun r79 h78 q77 => ?_) (fun E h1 q => q.elim)
      obtain ⟨q77e, tp0⟩ := q77
      rw [q77e]
      refine tw_aload_n 0 dX10_cheaper_36 rfl rfl ?_
      refine tw_get (v := .int (g.1 1)) rfl in_14 2 dX10_cheaper_37 w_1153 rfl (by decide) f18 rfl ?_
      refine tw_i2l dX10_cheaper_40 ?_
      refine tw_nml (fun v80 ev80 => ?_)
      refine tw_lmul dX10_cheaper_41 ?_
      refine tw_nml (fun v81 ev81 => ?_)
      refine tw_ldc2 (v := 10) dX10_cheaper_42 w_1373 ?_
      refine tw_ldiv dX10_cheaper_45 (by decide) ?_
      refine tw_nml (fun v82 ev82 => ?_)
      refine tw_aload_n 0 dX10_cheaper_46 rfl rfl ?_
      refine tw_aload_n 1 dX10_cheaper_47 rfl rfl ?_
      refine tw_iconst (v := 1) dX10_cheaper_48 (by decide) ?_
      refine tw_bl (tw_callV (M := mX10_cheaper) (pc := 49) okX10_toPay dX10_cheaper_49 w_1467 rfl f18 [.ref y, .int 1] [.long v82] rfl rfl ⟨by decide, by decide⟩ (Nat.le_of_ble_eq_true rfl) (c4_X10_toPay d g τ h sp0.1 x kx y ky j hj hj9 hb 1 (by decide) pd9 hF9 he9 hm hT9) 0 0 (Nat.le_of_ble_eq_true rfl) (Nat.le_of_ble_eq_true rfl)) (fun r85 h84 q83 => ?_) (fun E h1 q => q.elim)
      obtain ⟨q83e, tp1⟩ := q83
      rw [q83e]
      refine tw_lcmp dX10_cheaper_52 ?_
      refine tw_nmi (fun v86 ev86 => ?_)
      refine tw_if_ge 60 dX10_cheaper_53 (by decide) (fun c87 => ?_) (fun c87 => ?_)
      · have bb9 := tw_msb (k := 0) he9 hm hj hT9 (hs9 _ (by rw [ef9]; omega) hF9) hF9
        have ml9 : tw_ms g j 0 * tw_DN (g.1 1) ≤ 40000 * 200 := Nat.mul_le_mul bb9 hk9.2
        have hm2 := hk9.2
        have cv9 := c87
        rw [ev86, ev82, ev81, ev80, tp0, tp1, hk9.1, tw_L_i (by omega), show (10 : Int64) = tw_L 10 from rfl, tw_L_mul (by omega) (by omega) (by omega), tw_L_div (by omega) (by decide)] at cv9
        have ck9 : ¬ tw_ms g j 0 * tw_DN (g.1 1) / 10 < tw_md g j := by have z := (tw_cmp_ge (by omega) (tw_ms_lt he9 hj hT9)).mp cv9; rw [show tw_ms g j 1 = tw_md g j from rfl] at z; omega
        refine tw_iconst (v := 1) dX10_cheaper_60 (by decide) ?_
        exact tw_iret dX10_cheaper_61 rfl (Or.inl ⟨_, rfl, rfl, ((if_pos ⟨pd9, hF9⟩).trans (if_neg ck9)).symm⟩)
      · have bb9 := tw_msb (k := 0) he9 hm hj hT9 (hs9 _ (by rw [ef9]; omega) hF9) hF9
        have ml9 : tw_ms g j 0 * tw_DN (g.1 1) ≤ 40000 * 200 := Nat.mul_le_mul bb9 hk9.2
        have hm2 := hk9.2
        have cv9 := c87
        rw [ev86, ev82, ev81, ev80, tp0, tp1, hk9.1, tw_L_i (by omega), show (10 : Int64) = tw_L 10 from rfl, tw_L_mul (by omega) (by omega) (by omega), tw_L_div (by omega) (by decide)] at cv9
        have ck9 : tw_ms g j 0 * tw_DN (g.1 1) / 10 < tw_md g j := by rcases Nat.lt_or_ge (tw_ms g j 0 * tw_DN (g.1 1) / 10) (tw_md g j) with y | y; exact y; exact absurd ((tw_cmp_ge (by omega) (tw_ms_lt he9 hj hT9)).mpr y) cv9
        refine tw_iconst (v := 0) dX10_cheaper_56 (by decide) ?_
        refine tw_goto 61 dX10_cheaper_57 (by decide) ?_
        exact tw_iret dX10_cheaper_61 rfl (Or.inl ⟨_, rfl, rfl, ((if_pos ⟨pd9, hF9⟩).trans (if_pos ck9)).symm⟩)
    · have ef9 : tw_eF g j = _ := tw_eN_e (c := 3) ei14 (by omega)
      have nF9 : g.1 (960 + 32 * tw_eF g j + 1) = -1 := by rw [ef9]; exact c76
      refine tw_iconst (v := -1) dX10_cheaper_28 (by decide) ?_
      exact tw_iret dX10_cheaper_29 rfl (Or.inl ⟨_, rfl, rfl, (if_neg (fun z => z.2 nF9)).symm⟩)

set_option maxHeartbeats 4000000 in
set_option maxRecDepth 100000 in
theorem c4_X10_ofDebtNow (d : tw_D) (g : tw_G) (τ : tw_K) (h : tw_H) (hw : tw_wt d g τ h) (x : Nat) (kx : τ x = 36) (y : Nat) (ky : τ y = 22) (j : Nat) (hj : j < g.2 5) (hj9 : j < 10) (hb : g.2 (4096 + y) = 1232 + 8 * j) (w : Nat) (hw9 : w ≤ 6) (o : Nat) (ko : τ o = 12) (he9 : tw_MH g) (hm : tw_EM g) (hT9 : g.2 22 ≤ 3000) (hk9 : tw_MW g) (hs9 : ∀ i, i < g.2 4 → g.1 (960 + 32 * i + 1) ≠ -1 → tw_mP g i < g.2 3) : tw_Ct d mX10_ofDebtNow 1 7 [.ref x, .ref y, .int (nI w)] h (tw_qi (fun r h1 => tw_sp d τ h g τ h1 ∧ tw_th (h1 x) = tw_th (h x) ∧ h1 o = h o ∧ r = tw_dM g j w) tw_nx) := by
  refine tw_of (by decide +kernel) (Nat.le_of_ble_eq_true rfl) ?_
  show tw_W d mX10_ofDebtNow _ 0 [(0, .ref x), (1, .ref y), (2, .int (nI w))] [] h 1 7
  have sp0 := tw_sp.rf hw
  have th0 : tw_th (h x) = tw_th (h x) := rfl
  have oq0 : h o = h o := rfl
  have b93 := tw_b3 hw kx
  have b94 := tw_b4 hw kx
  refine tw_bipush (v := 7) dX10_ofDebtNow_0 (by decide) ?_
  refine tw_newa (a0 := (7, .inl (fun _ => 0))) 0 rfl dX10_ofDebtNow_2 rfl w_500 (fun _ => rfl) (by decide) (by decide) (by decide) 0 0 (Nat.le_of_ble_eq_true rfl) (Nat.le_of_ble_eq_true rfl) (fun q1 hq2 hA3 => ?_)
  have n4 := sp0.nn hq2
  have z5 := sp0.1.none hq2
  obtain ⟨h6, eh6⟩ : ∃ z : tw_H, z = tw_up h q1 (.inl (d.2 0, 7, .inl (fun _ => 0))) := ⟨_, rfl⟩
  rw [← eh6]
  have th7 : tw_th (h6 x) = tw_th (h x) := by rw [eh6, tw_up_n (tw_kF sp0.1 kx (by decide) hq2)] <;> exact th0
  have oq8 : h6 o = h o := by rw [eh6, tw_up_n (tw_kF sp0.1 ko (by decide) hq2)] <;> exact oq0
  have sp9 : tw_sp d τ h g τ h6 := by rw [eh6]; exact sp0.mk hq2
  have f10 : h6 q1 = some (.inl (d.2 0, 7, .inl (fun _ => 0))) := by rw [eh6]; exact tw_up_s
  refine tw_dup dX10_ofDebtNow_4 rfl ?_
  refine tw_iconst (v := 0) dX10_ofDebtNow_5 (by decide) ?_
  refine tw_aload_n 1 dX10_ofDebtNow_6 rfl rfl ?_
  obtain ⟨e11, f12, v_13, dy_14, pd_15, i_16, j_17, rfl, k18, k19, k20, k21⟩ := sp9.1 y 22 ky (by decide)
  obtain ⟨j22, ow23, fv9, fd9, fp9, ei24, ej25⟩ := k21
  obtain rfl : j = j22 := by have z := ow23.b hb; omega
  subst fv9 fd9 fp9
  refine tw_get (v := .int (nI i_16)) rfl in_12 0 dX10_ofDebtNow_7 w_1443 rfl (by decide) f12 rfl ?_
  refine tw_iast dX10_ofDebtNow_10 f10 (vp_in_nI (n := 0) (by decide) (by decide)) ?_
  obtain ⟨F26, eF26⟩ : ∃ z : Nat → Int32, z = upd (fun _ => 0) (0 : Int32).toNatClampNeg (nI i_16) := ⟨_, rfl⟩
  rw [← eF26]
  obtain ⟨h27, eh27⟩ : ∃ z : tw_H, z = tw_up h6 q1 (.inl (d.2 0, 7, .inl F26)) := ⟨_, rfl⟩
  rw [← eh27]
  have th28 : tw_th (h27 x) = tw_th (h x) := by rw [eh27, tw_up_n (tw_nk kx z5 (by decide))] <;> exact th7
  have oq29 : h27 o = h o := by rw [eh27, tw_up_n (tw_nk ko z5 (by decide))] <;> exact oq8
  have sp30 : tw_sp d τ h g τ h27 := by rw [eh27]; exact sp9.wl n4 z5
  have f31 : h27 q1 = some (.inl (d.2 0, 7, .inl F26)) := by rw [eh27]; exact tw_up_s
  refine tw_dup dX10_ofDebtNow_11 rfl ?_
  refine tw_iconst (v := 1) dX10_ofDebtNow_12 (by decide) ?_
  refine tw_aload_n 1 dX10_ofDebtNow_13 rfl rfl ?_
  obtain ⟨e32, f33, v_34, dy_35, pd_36, i_37, j_38, rfl, k39, k40, k41, k42⟩ := sp30.1 y 22 ky (by decide)
  obtain ⟨j43, ow44, fv9, fd9, fp9, ei45, ej46⟩ := k42
  obtain rfl : j = j43 := by have z := ow44.b hb; omega
  subst fv9 fd9 fp9
  obtain rfl : i_16 = i_37 := by have y := ei45; (repeat (first | rw [tw_ad_ne (by omega)] at y | rw [tw_g1_ne (by omega)] at y)); have z := tw_b4 sp30.1 kx; exact tw_nIj (ei24.trans y.symm) (by omega) (by omega)
  obtain rfl : j_17 = j_38 := by have y := ej46; (repeat (first | rw [tw_ad_ne (by omega)] at y | rw [tw_g1_ne (by omega)] at y)); have z := tw_b4 sp30.1 kx; exact tw_nIj (ej25.trans y.symm) (by omega) (by omega)
  refine tw_get (v := .int (nI j_17)) rfl in_12 1 dX10_ofDebtNow_14 w_1444 rfl (by decide) f33 rfl ?_
  refine tw_iast dX10_ofDebtNow_17 f31 (vp_in_nI (n := 1) (by decide) (by decide)) ?_
  obtain ⟨F47, eF47⟩ : ∃ z : Nat → Int32, z = upd F26 (1 : Int32).toNatClampNeg (nI j_17) := ⟨_, rfl⟩
  rw [← eF47]
  obtain ⟨h48, eh48⟩ : ∃ z : tw_H, z = tw_up h27 q1 (.inl (d.2 0, 7, .inl F47)) := ⟨_, rfl⟩
  rw [← eh48]
  have th49 : tw_th (h48 x) = tw_th (h x) := by rw [eh48, tw_up_n (tw_nk kx z5 (by decide))] <;> exact th28
  have oq50 : h48 o = h o := by rw [eh48, tw_up_n (tw_nk ko z5 (by decide))] <;> exact oq29
  have sp51 : tw_sp d τ h g τ h48 := by rw [eh48]; exact sp30.wl n4 z5
  have f52 : h48 q1 = some (.inl (d.2 0, 7, .inl F47)) := by rw [eh48]; exact tw_up_s
  refine tw_dup dX10_ofDebtNow_18 rfl ?_
  refine tw_iconst (v := 2) dX10_ofDebtNow_19 (by decide) ?_
  refine tw_aload_n 1 dX10_ofDebtNow_20 rfl rfl ?_
  obtain ⟨e53, f54, v_55, dy_56, pd_57, i_58, j_59, rfl, k60, k61, k62, k63⟩ := sp51.1 y 22 ky (by decide)
  obtain ⟨j64, ow65, fv9, fd9, fp9, ei66, ej67⟩ := k63
  obtain rfl : j = j64 := by have z := ow65.b hb; omega
  subst fv9 fd9 fp9
  obtain rfl : i_16 = i_58 := by have y := ei66; (repeat (first | rw [tw_ad_ne (by omega)] at y | rw [tw_g1_ne (by omega)] at y)); have z := tw_b4 sp51.1 kx; exact tw_nIj (ei24.trans y.symm) (by omega) (by omega)
  obtain rfl : j_17 = j_59 := by have y := ej67; (repeat (first | rw [tw_ad_ne (by omega)] at y | rw [tw_g1_ne (by omega)] at y)); have z := tw_b4 sp51.1 kx; exact tw_nIj (ej25.trans y.symm) (by omega) (by omega)
  refine tw_get (v := .int (g.1 (1232 + 8 * j + 0))) rfl in_12 2 dX10_ofDebtNow_21 w_1445 rfl (by decide) f54 rfl ?_
  refine tw_iast dX10_ofDebtNow_24 f52 (vp_in_nI (n := 2) (by decide) (by decide)) ?_
  obtain ⟨F68, eF68⟩ : ∃ z : Nat → Int32, z = upd F47 (2 : Int32).toNatClampNeg (g.1 (1232 + 8 * j + 0)) := ⟨_, rfl⟩
  rw [← eF68]
  obtain ⟨h69, eh69⟩ : ∃ z : tw_H, z = tw_up h48 q1 (.inl (d.2 0, 7, .inl F68)) := ⟨_, rfl⟩
  rw [← eh69]
  have th70 : tw_th (h69 x) = tw_th (h x) := by rw [eh69, tw_up_n (tw_nk kx z5 (by decide))] <;> exact th49
  have oq71 : h69 o = h o := by rw [eh69, tw_up_n (tw_nk ko z5 (by decide))] <;> exact oq50
  have sp72 : tw_sp d τ h g τ h69 := by rw [eh69]; exact sp51.wl n4 z5
  have f73 : h69 q1 = some (.inl (d.2 0, 7, .inl F68)) := by rw [eh69]; exact tw_up_s
  refine tw_dup dX10_ofDebtNow_25 rfl ?_
  refine tw_iconst (v := 3) dX10_ofDebtNow_26 (by decide) ?_
  refine tw_aload_n 1 dX10_ofDebtNow_27 rfl rfl ?_
  obtain ⟨e74, f75, v_76, dy_77, pd_78, i_79, j_80, rfl, k81, k82, k83, k84⟩ := sp72.1 y 22 ky (by decide)
  obtain ⟨j85, ow86, fv9, fd9, fp9, ei87, ej88⟩ := k84
  obtain rfl : j = j85 := by have z := ow86.b hb; omega
  subst fv9 fd9 fp9
  obtain rfl : i_16 = i_79 := by have y := ei87; (repeat (first | rw [tw_ad_ne (by omega)] at y | rw [tw_g1_ne (by omega)] at y)); have z := tw_b4 sp72.1 kx; exact tw_nIj (ei24.trans y.symm) (by omega) (by omega)
  obtain rfl : j_17 = j_80 := by have y := ej88; (repeat (first | rw [tw_ad_ne (by omega)] at y | rw [tw_g1_ne (by omega)] at y)); have z := tw_b4 sp72.1 kx; exact tw_nIj (ej25.trans y.symm) (by omega) (by omega)
  refine tw_get (v := .int (g.1 (1232 + 8 * j + 1))) rfl in_12 3 dX10_ofDebtNow_28 w_1446 rfl (by decide) f75 rfl ?_
  refine tw_iast dX10_ofDebtNow_31 f73 (vp_in_nI (n := 3) (by decide) (by decide)) ?_
  obtain ⟨F89, eF89⟩ : ∃ z : Nat → Int32, z = upd F68 (3 : Int32).toNatClampNeg (g.1 (1232 + 8 * j + 1)) := ⟨_, rfl⟩
  rw [← eF89]
  obtain ⟨h90, eh90⟩ : ∃ z : tw_H, z = tw_up h69 q1 (.inl (d.2 0, 7, .inl F89)) := ⟨_, rfl⟩
  rw [← eh90]
  have th91 : tw_th (h90 x) = tw_th (h x) := by rw [eh90, tw_up_n (tw_nk kx z5 (by decide))] <;> exact th70
  have oq92 : h90 o = h o := by rw [eh90, tw_up_n (tw_nk ko z5 (by decide))] <;> exact oq71
  have sp93 : tw_sp d τ h g τ h90 := by rw [eh90]; exact sp72.wl n4 z5
  have f94 : h90 q1 = some (.inl (d.2 0, 7, .inl F89)) := by rw [eh90]; exact tw_up_s
  refine tw_dup dX10_ofDebtNow_32 rfl ?_
  refine tw_iconst (v := 4) dX10_ofDebtNow_33 (by decide) ?_
  refine tw_aload_n 0 dX10_ofDebtNow_34 rfl rfl ?_
  refine tw_aload_n 1 dX10_ofDebtNow_35 rfl rfl ?_
  obtain ⟨e98, f99, th_100, td_101, ds_102, fr_103, ca_104, us_105, wo_106, cm_107, lc_108, lh_109, ld_110, rfl, k111, k112, k113, k114, k115, k116, k117, k118, k119, k120, k121, k122, k123, k124, k125, k126, k127, k128, k129, k130, k131, k132⟩ := sp93.1 x 36 kx (by decide)
  refine tw_bi (tw_callV (M := mX10_ofDebtNow) (pc := 36) okX10_due dX10_ofDebtNow_36 w_1471 rfl f99 [.ref y] [.int 4, .ref q1, .ref q1] rfl rfl ⟨by decide, by decide⟩ (Nat.le_of_ble_eq_true rfl) (c5_X10_due d g τ h90 sp93.1 x kx y ky j hj hj9 hb he9) 0 0 (Nat.le_of_ble_eq_true rfl) (Nat.le_of_ble_eq_true rfl)) (fun r97 h96 q95 => ?_) (fun E h1 q => q.elim)
  obtain ⟨q95e, q95v⟩ := q95
  rw [q95e]
  refine tw_iast dX10_ofDebtNow_39 f94 (vp_in_nI (n := 4) (by decide) (by decide)) ?_
  obtain ⟨F133, eF133⟩ : ∃ z : Nat → Int32, z = upd F89 (4 : Int32).toNatClampNeg r97 := ⟨_, rfl⟩
  rw [← eF133]
  obtain ⟨h134, eh134⟩ : ∃ z : tw_H, z = tw_up h90 q1 (.inl (d.2 0, 7, .inl F133)) := ⟨_, rfl⟩
  rw [← eh134]
  have th135 : tw_th (h134 x) = tw_th (h x) := by rw [eh134, tw_up_n (tw_nk kx z5 (by decide))] <;> exact th91
  have oq136 : h134 o = h o := by rw [eh134, tw_up_n (tw_nk ko z5 (by decide))] <;> exact oq92
  have sp137 : tw_sp d τ h g τ h134 := by rw [eh134]; exact sp93.wl n4 z5
  have f138 : h134 q1 = some (.inl (d.2 0, 7, .inl F133)) := by rw [eh134]; exact tw_up_s
  refine tw_dup dX10_ofDebtNow_40 rfl ?_
  refine tw_iconst (v := 5) dX10_ofDebtNow_41 (by decide) ?_
  refine tw_aload_n 1 dX10_ofDebtNow_42 rfl rfl ?_
  obtain ⟨e139, f140, v_141, dy_142, pd_143, i_144, j_145, rfl, k146, k147, k148, k149⟩ := sp137.1 y 22 ky (by decide)
  obtain ⟨j150, ow151, fv9, fd9, fp9, ei152, ej153⟩ := k149
  obtain rfl : j = j150 := by have z := ow151.b hb; omega
  subst fv9 fd9 fp9
  obtain rfl : i_16 = i_144 := by have y := ei152; (repeat (first | rw [tw_ad_ne (by omega)] at y | rw [tw_g1_ne (by omega)] at y)); have z := tw_b4 sp137.1 kx; exact tw_nIj (ei24.trans y.symm) (by omega) (by omega)
  obtain rfl : j_17 = j_145 := by have y := ej153; (repeat (first | rw [tw_ad_ne (by omega)] at y | rw [tw_g1_ne (by omega)] at y)); have z := tw_b4 sp137.1 kx; exact tw_nIj (ej25.trans y.symm) (by omega) (by omega)
  refine tw_get (v := .int (g.1 (1232 + 8 * j + 2))) rfl in_12 4 dX10_ofDebtNow_43 w_1447 rfl (by decide) f140 rfl ?_
  refine tw_if_eq 53 dX10_ofDebtNow_46 (by decide) (fun c154 => ?_) (fun c154 => ?_)
  · refine tw_iconst (v := 0) dX10_ofDebtNow_53 (by decide) ?_
    refine tw_iast dX10_ofDebtNow_54 f138 (vp_in_nI (n := 5) (by decide) (by decide)) ?_
    obtain ⟨F155, eF155⟩ : ∃ z : Nat → Int32, z = upd F133 (5 : Int32).toNatClampNeg 0 := ⟨_, rfl⟩
    rw [← eF155]
    obtain ⟨h156, eh156⟩ : ∃ z : tw_H, z = tw_up h134 q1 (.inl (d.2 0, 7, .inl F155)) := ⟨_, rfl⟩
    rw [← eh156]
    have th157 : tw_th (h156 x) = tw_th (h x) := by rw [eh156, tw_up_n (tw_nk kx z5 (by decide))] <;> exact th135
    have oq158 : h156 o = h o := by rw [eh156, tw_up_n (tw_nk ko z5 (by decide))] <;> exact oq136
    have sp159 : tw_sp d τ h g τ h156 := by rw [eh156]; exact sp137.wl n4 z5
    have f160 : h156 q1 = some (.inl (d.2 0, 7, .inl F155)) := by rw [eh156]; exact tw_up_s
    refine tw_dup dX10_ofDebtNow_55 rfl ?_
    refine tw_bipush (v := 6) dX10_ofDebtNow_56 (by decide) ?_
    refine tw_aload_n 0 dX10_ofDebtNow_58 rfl rfl ?_
    refine tw_aload_n 1 dX10_ofDebtNow_59 rfl rfl ?_
    obtain ⟨e164, f165, th_166, td_167, ds_168, fr_169, ca_170, us_171, wo_172, cm_173, lc_174, lh_175, ld_176, rfl, k177, k178, k179, k180, k181, k182, k183, k184, k185, k186, k187, k188, k189, k190, k191, k192, k193, k194, k195, k196, k197, k198⟩ := sp159.1 x 36 kx (by decide)
    refine tw_bi (tw_callV (M := mX10_ofDebtNow) (pc := 60) okX10_cheaper dX10_ofDebtNow_60 w_1529 rfl f165 [.ref y] [.int 6, .ref q1, .ref q1] rfl rfl ⟨by decide, by decide⟩ (Nat.le_of_ble_eq_true rfl) (c4_X10_cheaper d g τ h156 sp159.1 x kx y ky j hj hj9 hb he9 hm hT9 hk9 hs9) 0 0 (Nat.le_of_ble_eq_true rfl) (Nat.le_of_ble_eq_true rfl)) (fun r163 h162 q161 => ?_) (fun E h1 q => q.elim)
    obtain ⟨q161e, q161v⟩ := q161
    rw [q161e]
    refine tw_iast dX10_ofDebtNow_63 f160 (vp_in_nI (n := 6) (by decide) (by decide)) ?_
    obtain ⟨F199, eF199⟩ : ∃ z : Nat → Int32, z = upd F155 (6 : Int32).toNatClampNeg r163 := ⟨_, rfl⟩
    rw [← eF199]
    obtain ⟨h200, eh200⟩ : ∃ z : tw_H, z = tw_up h156 q1 (.inl (d.2 0, 7, .inl F199)) := ⟨_, rfl⟩
    rw [← eh200]
    have th201 : tw_th (h200 x) = tw_th (h x) := by rw [eh200, tw_up_n (tw_nk kx z5 (by decide))] <;> exact th157
    have oq202 : h200 o = h o := by rw [eh200, tw_up_n (tw_nk ko z5 (by decide))] <;> exact oq158
    have sp203 : tw_sp d τ h g τ h200 := by rw [eh200]; exact sp159.wl n4 z5
    have f204 : h200 q1 = some (.inl (d.2 0, 7, .inl F199)) := by rw [eh200]; exact tw_up_s
    refine tw_astore_n [(3, .ref q1), (0, .ref x), (1, .ref y), (2, .int (nI w))] dX10_ofDebtNow_64 rfl (by decide) rfl ?_
    refine tw_aload_n 0 dX10_ofDebtNow_65 rfl rfl ?_
    refine tw_iload_n 3 dX10_ofDebtNow_66 rfl rfl ?_
    obtain ⟨v205, ev205⟩ : ∃ y : Int32, F199 ((nI w)).toNatClampNeg = y := ⟨_, rfl⟩
    refine tw_iald (v := v205) dX10_ofDebtNow_67 f204 (vp_in_nI (by omega) (by decide)) ev205 ?_
    have rv9 : v205 = tw_dM g j w := by
      rw [← ev205, nI_clamp (by omega), eF199, eF155, eF133, eF89, eF68, eF47, eF26]
      rw [show ((0 : Int32)).toNatClampNeg = 0 by decide]
      rw [show ((1 : Int32)).toNatClampNeg = 1 by decide]
      rw [show ((2 : Int32)).toNatClampNeg = 2 by decide]
      rw [show ((3 : Int32)).toNatClampNeg = 3 by decide]
      rw [show ((4 : Int32)).toNatClampNeg = 4 by decide]
      rw [show ((5 : Int32)).toNatClampNeg = 5 by decide]
      rw [show ((6 : Int32)).toNatClampNeg = 6 by decide]
      rcases (show w = 0 ∨ w = 1 ∨ w = 2 ∨ w = 3 ∨ w = 4 ∨ w = 5 ∨ w = 6 by omega) with rfl | rfl | rfl | rfl | rfl | rfl | rfl
      · exact ei152
      · exact ej153
      · exact rfl
      · exact rfl
      · exact q95v
      · exact (if_pos c154).symm
      · exact q161v
    exact tw_iret dX10_ofDebtNow_68 rfl (Or.inl ⟨_, rfl, sp203, th201, oq202, rv9⟩)
  · refine tw_iconst (v := 1) dX10_ofDebtNow_49 (by decide) ?_
    refine tw_goto 54 dX10_ofDebtNow_50 (by decide) ?_
    refine tw_iast dX10_ofDebtNow_54 f138 (vp_in_nI (n := 5) (by decide) (by decide)) ?_
    obtain ⟨F206, eF206⟩ : ∃ z : Nat → Int32, z = upd F133 (5 : Int32).toNatClampNeg 1 := ⟨_, rfl⟩
    rw [← eF206]
    obtain ⟨h207, eh207⟩ : ∃ z : tw_H, z = tw_up h134 q1 (.inl (d.2 0, 7, .inl F206)) := ⟨_, rfl⟩
    rw [← eh207]
    have th208 : tw_th (h207 x) = tw_th (h x) := by rw [eh207, tw_up_n (tw_nk kx z5 (by decide))] <;> exact th135
    have oq209 : h207 o = h o := by rw [eh207, tw_up_n (tw_nk ko z5 (by decide))] <;> exact oq136
    have sp210 : tw_sp d τ h g τ h207 := by rw [eh207]; exact sp137.wl n4 z5
    have f211 : h207 q1 = some (.inl (d.2 0, 7, .inl F206)) := by rw [eh207]; exact tw_up_s
    refine tw_dup dX10_ofDebtNow_55 rfl ?_
    refine tw_bipush (v := 6) dX10_ofDebtNow_56 (by decide) ?_
    refine tw_aload_n 0 dX10_ofDebtNow_58 rfl rfl ?_
    refine tw_aload_n 1 dX10_ofDebtNow_59 rfl rfl ?_
    obtain ⟨e215, f216, th_217, td_218, ds_219, fr_220, ca_221, us_222, wo_223, cm_224, lc_225, lh_226, ld_227, rfl, k228, k229, k230, k231, k232, k233, k234, k235, k236, k237, k238, k239, k240, k241, k242, k243, k244, k245, k246, k247, k248, k249⟩ := sp210.1 x 36 kx (by decide)
    refine tw_bi (tw_callV (M := mX10_ofDebtNow) (pc := 60) okX10_cheaper dX10_ofDebtNow_60 w_1529 rfl f216 [.ref y] [.int 6, .ref q1, .ref q1] rfl rfl ⟨by decide, by decide⟩ (Nat.le_of_ble_eq_true rfl) (c4_X10_cheaper d g τ h207 sp210.1 x kx y ky j hj hj9 hb he9 hm hT9 hk9 hs9) 0 0 (Nat.le_of_ble_eq_true rfl) (Nat.le_of_ble_eq_true rfl)) (fun r214 h213 q212 => ?_) (fun E h1 q => q.elim)
    obtain ⟨q212e, q212v⟩ := q212
    rw [q212e]
    refine tw_iast dX10_ofDebtNow_63 f211 (vp_in_nI (n := 6) (by decide) (by decide)) ?_
    obtain ⟨F250, eF250⟩ : ∃ z : Nat → Int32, z = upd F206 (6 : Int32).toNatClampNeg r214 := ⟨_, rfl⟩
    rw [← eF250]
    obtain ⟨h251, eh251⟩ : ∃ z : tw_H, z = tw_up h207 q1 (.inl (d.2 0, 7, .inl F250)) := ⟨_, rfl⟩
    rw [← eh251]
    have th252 : tw_th (h251 x) = tw_th (h x) := by rw [eh251, tw_up_n (tw_nk kx z5 (by decide))] <;> exact th208
    have oq253 : h251 o = h o := by rw [eh251, tw_up_n (tw_nk ko z5 (by decide))] <;> exact oq209
    have sp254 : tw_sp d τ h g τ h251 := by rw [eh251]; exact sp210.wl n4 z5
    have f255 : h251 q1 = some (.inl (d.2 0, 7, .inl F250)) := by rw [eh251]; exact tw_up_s
    refine tw_astore_n [(3, .ref q1), (0, .ref x), (1, .ref y), (2, .int (nI w))] dX10_ofDebtNow_64 rfl (by decide) rfl ?_
    refine tw_aload_n 0 dX10_ofDebtNow_65 rfl rfl ?_
    refine tw_iload_n 3 dX10_ofDebtNow_66 rfl rfl ?_
    obtain ⟨v256, ev256⟩ : ∃ y : Int32, F250 ((nI w)).toNatClampNeg = y := ⟨_, rfl⟩
    refine tw_iald (v := v256) dX10_ofDebtNow_67 f255 (vp_in_nI (by omega) (by decide)) ev256 ?_
    have rv9 : v256 = tw_dM g j w := by
      rw [← ev256, nI_clamp (by omega), eF250, eF206, eF133, eF89, eF68, eF47, eF26]
      rw [show ((0 : Int32)).toNatClampNeg = 0 by decide]
      rw [show ((1 : Int32)).toNatClampNeg = 1 by decide]
      rw [show ((2 : Int32)).toNatClampNeg = 2 by decide]
      rw [show ((3 : Int32)).toNatClampNeg = 3 by decide]
      rw [show ((4 : Int32)).toNatClampNeg = 4 by decide]
      rw [show ((5 : Int32)).toNatClampNeg = 5 by decide]
      rw [show ((6 : Int32)).toNatClampNeg = 6 by decide]
      rcases (show w = 0 ∨ w = 1 ∨ w = 2 ∨ w = 3 ∨ w = 4 ∨ w = 5 ∨ w = 6 by omega) with rfl | rfl | rfl | rfl | rfl | rfl | rfl
      · exact ei152
      · exact ej153
      · exact rfl
      · exact rfl
      · exact q95v
      · exact (if_neg c154).symm
      · exact q212v
    exact tw_iret dX10_ofDebtNow_68 rfl (Or.inl ⟨_, rfl, sp254, th252, oq253, rv9⟩)

set_option maxHeartbeats 4000000 in
set_option maxRecDepth 100000 in
theorem c2_X10_ofDebt (d : tw_D) (g : tw_G) (τ : tw_K) (h : tw_H) (hw : tw_wt d g τ h) (x : Nat) (kx : τ x = 36) (a : Int32) (wh : Int32) (o : Nat) (ko : τ o = 12) (he9 : tw_MH g) (hm : tw_EM g) (hT9 : g.2 22 ≤ 3000) (hk9 : tw_MW g) (hs9 : ∀ i, i < g.2 4 → g.1 (960 + 32 * i + 1) ≠ -1 → tw_mP g i < g.2 3) : tw_Ct d mX10_ofDebt 1 7 [.ref x, .int a, .int wh] h (tw_qi (fun r9 h1 => ∃ g1 τ1, tw_sp d τ h g1 τ1 h1 ∧ h1 o = h o ∧ ((¬ (tw_ix (g.2 5) a) ∧ tw_th (h1 x) = 1 ∧ g1 = g) ∨ ((tw_ix (g.2 5) a) ∧ ¬ (0 ≤ wh ∧ wh ≤ 6) ∧ tw_th (h1 x) = 2 ∧ g1 = g) ∨ ((tw_ix (g.2 5) a) ∧ (0 ≤ wh ∧ wh ≤ 6) ∧ r9 = tw_dM g (tw_DN a) (tw_DN wh) ∧ tw_th (h1 x) = 0 ∧ g1 = g))) tw_nx) := by
  refine tw_of (by decide +kernel) (Nat.le_of_ble_eq_true rfl) ?_
  show tw_W d mX10_ofDebt _ 0 [(0, .ref x), (1, .int a), (2, .int wh)] [] h 1 7
  have sp0 := tw_sp.rf hw
  have oq0 : h o = h o := rfl
  have b93 := tw_b3 hw kx
  refine tw_aload_n 0 dX10_ofDebt_0 rfl rfl ?_
  refine tw_iload_n 1 dX10_ofDebt_1 rfl rfl ?_
  refine tw_iconst (v := 0) dX10_ofDebt_2 (by decide) ?_
  refine tw_aload_n 0 dX10_ofDebt_3 rfl rfl ?_
  obtain ⟨e1, f2, th_3, td_4, ds_5, fr_6, ca_7, us_8, wo_9, cm_10, lc_11, lh_12, ld_13, rfl, k14, k15, k16, k17, k18, k19, k20, k21, k22, k23, k24, k25, k26, k27, k28, k29, k30, k31, k32, k33, k34, k35⟩ := sp0.1 x 36 kx (by decide)
  refine tw_get (v := .ref ld_13) rfl in_14 11 dX10_ofDebt_4 w_1162 rfl (by decide) f2 rfl ?_
  obtain ⟨e39, f40, ⟨el41, rfl, k42⟩, k43⟩ := sp0.1 ld_13 26 k22 (by decide)
  refine tw_bi (tw_callV (M := mX10_ofDebt) (pc := 7) okJx4a65c_size_8abf5 dX10_ofDebt_7 w_1208 rfl f40 [] [.int 0, .int a, .ref x] rfl rfl ⟨by decide, by decide⟩ (Nat.le_of_ble_eq_true rfl) (c26_size d g τ h sp0.1 ld_13 k22) 1 7 (Nat.le_of_ble_eq_true rfl) (Nat.le_of_ble_eq_true rfl)) (fun r46 h45 q44 => ?_) (fun E h1 q => q.elim)
  obtain ⟨q44e, q44r⟩ := q44
  rw [q44e, q44r]
  refine tw_iconst (v := 1) dX10_ofDebt_10 (by decide) ?_
  refine tw_isub dX10_ofDebt_11 ?_
  refine tw_nmi (fun v47 ev47 => ?_)
  refine tw_bi (tw_callS (M := mX10_ofDebt) (pc := 12) okX10_isIn dX10_ofDebt_12 w_1196 [.int a, .int 0, .int v47] [.ref x] rfl rfl ⟨by decide, by decide⟩ (Nat.le_of_ble_eq_true rfl) (c_X10_isIn d g τ h sp0.1 a 0 v47) 1 7 (Nat.le_of_ble_eq_true rfl) (Nat.le_of_ble_eq_true rfl)) (fun r50 h49 q48 => ?_) (fun E h1 q => q.elim)
  obtain ⟨q48e, q48d⟩ := q48
  rw [q48e]
  rcases q48d with ⟨q48r, q48n⟩ | ⟨q48r, q48a, q48b⟩
  · rw [q48r]
    refine tw_if_ne 22 dX10_ofDebt_15 (by decide) (fun c51 => absurd (by decide) c51) (fun _ => ?_)
    refine tw_iconst (v := 1) dX10_ofDebt_18 (by decide) ?_
    refine tw_goto 23 dX10_ofDebt_19 (by decide) ?_
    refine tw_iconst (v := 1) dX10_ofDebt_23 (by decide) ?_
    refine tw_bi (tw_callV (M := mX10_ofDebt) (pc := 24) okX10_start dX10_ofDebt_24 w_1200 rfl f2 [.int 1, .int 1] [] rfl rfl ⟨by decide, by decide⟩ (Nat.le_of_ble_eq_true rfl) (c_X10_start d g τ h sp0.1 x kx 1 1 (by decide)) 1 7 (Nat.le_of_ble_eq_true rfl) (Nat.le_of_ble_eq_true rfl)) (fun r57 h56 q55 => ?_) (fun E h1 q => q.elim)
    obtain ⟨e58, he59, hs60, hr61, hc62⟩ := q55
    obtain ⟨rz63, tz64⟩ := hc62.2 rfl
    have th65 : tw_th (h56 x) = 1 := by rw [he59, tw_up_s]; exact tz64
    have sp66 : tw_sp d τ h g τ h56 := by rw [he59]; exact sp0.set kx (by decide) hs60
    rw [rz63]
    have oq67 : h56 o = h o := by rw [he59, tw_up_n (tw_nk ko kx (by decide))] <;> exact oq0
    refine tw_if_ne 53 dX10_ofDebt_27 (by decide) (fun _ => ?_) (fun c68 => absurd c68 (by decide))
    refine tw_iconst (v := 0) dX10_ofDebt_53 (by decide) ?_
    refine tw_goto 73 dX10_ofDebt_54 (by decide) ?_
    exact tw_iret dX10_ofDebt_73 rfl (Or.inl ⟨_, rfl, _, _, sp66, oq67, Or.inl ⟨(tw_nsc q48n ev47 (by omega)), th65, rfl⟩⟩)
  · rw [q48r]
    have ix0 : tw_ix (g.2 5) a := tw_isc q48a q48b ev47 (by omega)
    obtain ⟨ja, hja, en⟩ := id ix0
    subst en
    have cDa : tw_DN (nI ja) = ja := nI_clamp (by omega)
    refine tw_if_ne 22 dX10_ofDebt_15 (by decide) (fun _ => ?_) (fun c69 => absurd c69 (by decide))
    refine tw_iconst (v := 0) dX10_ofDebt_22 (by decide) ?_
    refine tw_iconst (v := 1) dX10_ofDebt_23 (by decide) ?_
    refine tw_bi (tw_callV (M := mX10_ofDebt) (pc := 24) okX10_start dX10_ofDebt_24 w_1200 rfl f2 [.int 0, .int 1] [] rfl rfl ⟨by decide, by decide⟩ (Nat.le_of_ble_eq_true rfl) (c_X10_start d g τ h sp0.1 x kx 0 1 (by decide)) 1 7 (Nat.le_of_ble_eq_true rfl) (Nat.le_of_ble_eq_true rfl)) (fun r75 h74 q73 => ?_) (fun E h1 q => q.elim)
    obtain ⟨e76, he77, hs78, hr79, hc80⟩ := q73
    obtain ⟨rz81, tz82⟩ := hc80.1 rfl
    have th83 : tw_th (h74 x) = 0 := by rw [he77, tw_up_s]; exact tz82
    have sp84 : tw_sp d τ h g τ h74 := by rw [he77]; exact sp0.set kx (by decide) hs78
    rw [rz81]
    have oq85 : h74 o = h o := by rw [he77, tw_up_n (tw_nk ko kx (by decide))] <;> exact oq0
    refine tw_if_ne 53 dX10_ofDebt_27 (by decide) (fun c86 => absurd (by decide) c86) (fun _ => ?_)
    refine tw_aload_n 0 dX10_ofDebt_30 rfl rfl ?_
    refine tw_iload_n 2 dX10_ofDebt_31 rfl rfl ?_
    refine tw_iconst (v := 0) dX10_ofDebt_32 (by decide) ?_
    refine tw_bipush (v := 6) dX10_ofDebt_33 (by decide) ?_
    refine tw_bi (tw_callS (M := mX10_ofDebt) (pc := 35) okX10_isIn dX10_ofDebt_35 w_1196 [.int wh, .int 0, .int 6] [.ref x] rfl rfl ⟨by decide, by decide⟩ (Nat.le_of_ble_eq_true rfl) (c_X10_isIn d g τ h74 sp84.1 wh 0 6) 1 7 (Nat.le_of_ble_eq_true rfl) (Nat.le_of_ble_eq_true rfl)) (fun r89 h88 q87 => ?_) (fun E h1 q => q.elim)
    obtain ⟨q87e, q87d⟩ := q87
    rw [q87e]
    rcases q87d with ⟨q87r, q87n⟩ | ⟨q87r, rlwh⟩
    · rw [q87r]
      refine tw_if_ne 45 dX10_ofDebt_38 (by decide) (fun c90 => absurd (by decide) c90) (fun _ => ?_)
      refine tw_iconst (v := 1) dX10_ofDebt_41 (by decide) ?_
      refine tw_goto 46 dX10_ofDebt_42 (by decide) ?_
      refine tw_iconst (v := 2) dX10_ofDebt_46 (by decide) ?_
      obtain ⟨e94, f95, th_96, td_97, ds_98, fr_99, ca_100, us_101, wo_102, cm_103, lc_104, lh_105, ld_106, rfl, k107, k108, k109, k110, k111, k112, k113, k114, k115, k116, k117, k118, k119, k120, k121, k122, k123, k124, k125, k126, k127, k128⟩ := sp84.1 x 36 kx (by decide)
      refine tw_bi (tw_callV (M := mX10_ofDebt) (pc := 47) okX10_refuse dX10_ofDebt_47 w_1204 rfl f95 [.int 1, .int 2] [] rfl rfl ⟨by decide, by decide⟩ (Nat.le_of_ble_eq_true rfl) (c_X10_refuse d g τ h74 sp84.1 x kx 1 2 (by decide)) 1 7 (Nat.le_of_ble_eq_true rfl) (Nat.le_of_ble_eq_true rfl)) (fun r131 h130 q129 => ?_) (fun E h1 q => q.elim)
      obtain ⟨e132, he133, hs134, hr135, hc136⟩ := q129
      obtain ⟨rz137, tz138⟩ := (hc136 th83).2 rfl
      have th139 : tw_th (h130 x) = 2 := by rw [he133, tw_up_s]; exact tz138
      have sp140 : tw_sp d τ h g τ h130 := by rw [he133]; exact sp84.set kx (by decide) hs134
      rw [rz137]
      have oq141 : h130 o = h o := by rw [he133, tw_up_n (tw_nk ko kx (by decide))] <;> exact oq85
      refine tw_if_eq 57 dX10_ofDebt_50 (by decide) (fun c142 => absurd c142 (by decide)) (fun _ => ?_)
      refine tw_iconst (v := 0) dX10_ofDebt_53 (by decide) ?_
      refine tw_goto 73 dX10_ofDebt_54 (by decide) ?_
      exact tw_iret dX10_ofDebt_73 rfl (Or.inl ⟨_, rfl, _, _, sp140, oq141, Or.inr (Or.inl ⟨ix0, q87n, th139, rfl⟩)⟩)
    · rw [q87r]
      have rc9 : 0 ≤ wh ∧ wh ≤ 6 := rlwh
      obtain ⟨w9, -, hw9, ew⟩ := tw_I_rng (a := 0) (b := 6) rlwh.1 rlwh.2 (by decide) (by decide)
      subst ew
      have cDwh : tw_DN (nI w9) = w9 := nI_clamp (by omega)
      refine tw_if_ne 45 dX10_ofDebt_38 (by decide) (fun _ => ?_) (fun c143 => absurd c143 (by decide))
      refine tw_iconst (v := 0) dX10_ofDebt_45 (by decide) ?_
      refine tw_iconst (v := 2) dX10_ofDebt_46 (by decide) ?_
      obtain ⟨e147, f148, th_149, td_150, ds_151, fr_152, ca_153, us_154, wo_155, cm_156, lc_157, lh_158, ld_159, rfl, k160, k161, k162, k163, k164, k165, k166, k167, k168, k169, k170, k171, k172, k173, k174, k175, k176, k177, k178, k179, k180, k181⟩ := sp84.1 x 36 kx (by decide)
      refine tw_bi (tw_callV (M := mX10_ofDebt) (pc := 47) okX10_refuse dX10_ofDebt_47 w_1204 rfl f148 [.int 0, .int 2] [] rfl rfl ⟨by decide, by decide⟩ (Nat.le_of_ble_eq_true rfl) (c_X10_refuse d g τ h74 sp84.1 x kx 0 2 (by decide)) 1 7 (Nat.le_of_ble_eq_true rfl) (Nat.le_of_ble_eq_true rfl)) (fun r184 h183 q182 => ?_) (fun E h1 q => q.elim)
      obtain ⟨e185, he186, hs187, hr188, hc189⟩ := q182
      obtain ⟨rz190, tz191⟩ := (hc189 th83).1 rfl
      have th192 : tw_th (h183 x) = 0 := by rw [he186, tw_up_s]; exact tz191
      have sp193 : tw_sp d τ h g τ h183 := by rw [he186]; exact sp84.set kx (by decide) hs187
      rw [rz190]
      have oq194 : h183 o = h o := by rw [he186, tw_up_n (tw_nk ko kx (by decide))] <;> exact oq85
      refine tw_if_eq 57 dX10_ofDebt_50 (by decide) (fun _ => ?_) (fun c195 => absurd (by decide) c195)
      refine tw_aload_n 0 dX10_ofDebt_57 rfl rfl ?_
      refine tw_aload_n 0 dX10_ofDebt_58 rfl rfl ?_
      obtain ⟨e196, f197, th_198, td_199, ds_200, fr_201, ca_202, us_203, wo_204, cm_205, lc_206, lh_207, ld_208, rfl, k209, k210, k211, k212, k213, k214, k215, k216, k217, k218, k219, k220, k221, k222, k223, k224, k225, k226, k227, k228, k229, k230⟩ := sp193.1 x 36 kx (by decide)
      refine tw_get (v := .ref ld_208) rfl in_14 11 dX10_ofDebt_59 w_1162 rfl (by decide) f197 rfl ?_
      refine tw_iload_n 1 dX10_ofDebt_62 rfl rfl ?_
      obtain ⟨e234, f235, ⟨el236, rfl, k237⟩, k238⟩ := sp193.1 ld_208 26 k217 (by decide)
      refine tw_br (tw_callV (M := mX10_ofDebt) (pc := 63) okJx4a65c_get_915e3 dX10_ofDebt_63 w_1296 rfl f235 [.int (nI ja)] [.ref x] rfl rfl ⟨by decide, by decide⟩ (Nat.le_of_ble_eq_true rfl) (c26_get d g τ h183 sp193.1 ld_208 k217 ja (by omega) (by omega)) 1 7 (Nat.le_of_ble_eq_true rfl) (Nat.le_of_ble_eq_true rfl)) (fun r241 h240 q239 => ?_) (fun E h1 q => q.elim)
      obtain ⟨q239e, q239k⟩ := q239
      rw [q239e]
      have el242 : tw_el h183 (g.2 14) ja = r241 := by rw [← k238]; exact q239k.2.symm
      have kl243 : τ (g.2 14) = 26 := by rw [← k238]; exact k217
      have id244 : g.2 (4096 + r241) = 1232 + 8 * ja := by rw [← el242]; exact tw_eli26 sp193.1 kl243 (by omega)
      obtain ⟨e245, f246, v_247, dy_248, pd_249, i_250, j_251, rfl, k252, k253, k254, k255⟩ := sp193.1 r241 22 q239k.1 (by decide)
      obtain ⟨j256, ow257, fv9, fd9, fp9, ei258, ej259⟩ := k255
      obtain rfl : ja = j256 := by have z := ow257.b id244; omega
      subst fv9 fd9 fp9
      refine tw_castS (ci := 12) rfl dX10_ofDebt_66 w_1437 f246 ?_
      refine tw_iload_n 2 dX10_ofDebt_69 rfl rfl ?_
      refine tw_bi (tw_callV (M := mX10_ofDebt) (pc := 70) okX10_ofDebtNow dX10_ofDebt_70 w_1525 rfl f197 [.ref r241, .int (nI w9)] [] rfl rfl ⟨by decide, by decide⟩ (Nat.le_of_ble_eq_true rfl) (c4_X10_ofDebtNow d g τ h183 sp193.1 x kx r241 q239k.1 ja hja (by omega) id244 w9 hw9 o ko he9 hm hT9 hk9 hs9) 0 0 (Nat.le_of_ble_eq_true rfl) (Nat.le_of_ble_eq_true rfl)) (fun r262 h261 q260 => ?_) (fun E h1 q => q.elim)
      obtain ⟨q260s, q260t, q260o, q260v⟩ := q260
      have sp263 := sp193.tr q260s
      have th264 := q260t.trans th192
      have oq265 := q260o.trans oq194
      exact tw_iret dX10_ofDebt_73 rfl (Or.inl ⟨_, rfl, _, _, sp263, oq265, Or.inr (Or.inr (⟨ix0, rc9, (by (try rw [cDa]); (try rw [cDwh]); first | done | exact q260v), th264, (by (try rw [cDa]); (try rw [cDwh]); first | done | exact rfl)⟩))⟩)

def tw_oM (g : tw_G) (a : Nat) : Nat → Int32
  | 0 => g.1 (480 + 64 * a)
  | 1 => g.1 (480 + 64 * a + 1)
  | 2 => g.1 (480 + 64 * a + 16 + 0)
  | 3 => g.1 (480 + 64 * a + 16 + 1)
  | 4 => tw_oS (g.1 (480 + 64 * a + 8 + 0)) (g.1 (480 + 64 * a + 8 + 1))
  | 5 => tw_isum (fun j => if g.1 (960 + 32 * j + 1) = nI a then 1 else 0) (g.2 4)
  | 6 => tw_wo (g.1 (480 + 64 * a + 16 + 0)) (g.1 (480 + 64 * a + 16 + 1)) (g.1 1)
  | 7 => tw_pn (fun k => g.1 (480 + 64 * a + 24 + k))
  | _ + 8 => tw_isum (fun j => if g.1 (480 + 64 * j) = g.1 (480 + 64 * a) then 1 else 0) (g.2 3)
def tw_SQ (g : tw_G) : Prop := (∀ k, k < 2 → nI (tw_wM g k 0) + nI (tw_wM g k 1) + nI (tw_wM g k 2) + nI (tw_wM g k 3) + nI (tw_wM g k 4) = nI (tw_wM g k 5)) ∧ (∀ j, j < g.2 4 → g.1 (960 + 32 * j + 1) = -1 → nI (g.2 22) < g.1 (960 + 32 * j + 0)) ∧ (∀ j, j < g.2 3 → ∀ k, k < 5 → 0 ≤ g.1 (480 + 64 * j + 24 + k)) ∧ ∀ a b, a < 4 → b < 4 → g.1 (416 + 8 * a + b) = g.1 (416 + 8 * b + a) ∧ g.1 (448 + 8 * a + b) = g.1 (448 + 8 * b + a)
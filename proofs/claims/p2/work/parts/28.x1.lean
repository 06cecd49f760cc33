/-! the class's methods over the typed heap. Laid by wip/p5/mkclass.py. -/
def tw_RC (r ct go si : Int32) : Prop := (100 ≤ r ∧ r ≤ 200) ∧ (0 ≤ ct ∧ ct ≤ 50) ∧ (0 ≤ go ∧ go ≤ 99999) ∧ 0 ≤ si ∧ si ≤ 99999
def tw_RL (r ct : Int32) : Prop := (100 ≤ r ∧ r ≤ 200) ∧ (0 ≤ ct ∧ ct ≤ 50)
theorem tw_thF {d : tw_D} {g : tw_G} {τ : tw_K} {h : tw_H} {x q : Nat} (hw : tw_wt d g τ h) (kx : τ x = 36) (hq : h q = none) : x ≠ q := fun z => by
  have := hw.none hq
  rw [← z, kx] at this
  cases this
theorem tw_nz {τ : tw_K} {x a k : Nat} (kx : τ x = 36) (ka : τ a = k) (n : k ≠ 36) : x ≠ a := fun z => n (by rw [← ka, ← z, kx])
theorem tw_nk {τ : tw_K} {o a k j : Nat} (ko : τ o = j) (ka : τ a = k) (n : k ≠ j) : o ≠ a := fun z => n (by rw [← ka, ← z, ko])
theorem tw_kF {d : tw_D} {g : tw_G} {τ : tw_K} {h : tw_H} {o q j : Nat} (hw : tw_wt d g τ h) (ko : τ o = j) (n : j ≠ 0) (hq : h q = none) : o ≠ q := fun z => n (by rw [← ko, z]; exact hw.none hq)
theorem tw_some {d : tw_D} {g : tw_G} {τ : tw_K} {h : tw_H} {o j : Nat} (hw : tw_wt d g τ h) (ko : τ o = j) (n : j ≠ 0) : h o ≠ none := fun z => by obtain ⟨e, y, -⟩ := hw o j ko n; rw [z] at y; cases y
theorem tw_rmN {h : tw_H} {x q b : Nat} (w : tw_rm h x q = none) (z : b = q) (n1 : b ≠ x) : h b = none := by
  subst z
  exact (if_neg n1).symm.trans w
/-- one list has grown by one -/
def tw_gk (k : Nat) (g g1 : tw_G) : Prop := tw_ga g g1 ∧ g1.2 k = g.2 k + 1 ∧ ∀ i, i < 6 → i ≠ k → g1.2 i = g.2 i
set_option maxHeartbeats 4000000 in
set_option maxRecDepth 100000 in
theorem c2_X5_needLaw (d : tw_D) (g : tw_G) (τ : tw_K) (h : tw_H) (hw : tw_wt d g τ h) (r ct : Int32) : tw_Ct d mX5_needLaw 2 12 [.int r, .int ct] h (tw_qv (fun h1 => h1 = h ∧ tw_RL r ct) (fun E h1 => E = tw_IAE ∧ h1 = h ∧ ¬ tw_RL r ct)) := by
  refine tw_of (by decide +kernel) (Nat.le_of_ble_eq_true rfl) ?_
  show tw_W d mX5_needLaw _ 0 [(0, .int r), (1, .int ct)] [] h 2 12
  have sp0 := tw_sp.rf hw
  refine tw_iload_n 0 dX5_needLaw_0 rfl rfl ?_
  refine tw_bipush (v := 100) dX5_needLaw_1 (by decide) ?_
  refine tw_sipush (v := 200) dX5_needLaw_3 (by decide) ?_
  refine tw_bv (tw_callS (M := mX5_needLaw) (pc := 6) okX5_needRange dX5_needLaw_6 w_399 [.int r, .int 100, .int 200] [] rfl rfl ⟨by decide, by decide⟩ (Nat.le_of_ble_eq_true rfl) (c2_X5_needRange d g τ h sp0.1 r 100 200) 1 6 (Nat.le_of_ble_eq_true rfl) (Nat.le_of_ble_eq_true rfl)) (fun h2 q1 => ?_) (fun E h1 q => Or.inr ⟨E, rfl, q.1, q.2.1, fun z => q.2.2 z.1⟩)
  obtain ⟨q1e, q1l⟩ := q1
  rw [q1e]
  refine tw_iload_n 1 dX5_needLaw_9 rfl rfl ?_
  refine tw_iconst (v := 0) dX5_needLaw_10 (by decide) ?_
  refine tw_bipush (v := 50) dX5_needLaw_11 (by decide) ?_
  refine tw_bv (tw_callS (M := mX5_needLaw) (pc := 13) okX5_needRange dX5_needLaw_13 w_399 [.int ct, .int 0, .int 50] [] rfl rfl ⟨by decide, by decide⟩ (Nat.le_of_ble_eq_true rfl) (c2_X5_needRange d g τ h sp0.1 ct 0 50) 0 0 (Nat.le_of_ble_eq_true rfl) (Nat.le_of_ble_eq_true rfl)) (fun h4 q3 => ?_) (fun E h1 q => Or.inr ⟨E, rfl, q.1, q.2.1, fun z => q.2.2 z.2⟩)
  obtain ⟨q3e, q3l⟩ := q3
  rw [q3e]
  exact tw_vret dX5_needLaw_16 rfl (Or.inl ⟨rfl, rfl, q1l, q3l⟩)

set_option maxHeartbeats 4000000 in
set_option maxRecDepth 100000 in
theorem c2_X5_country (d : tw_D) (g : tw_G) (τ : tw_K) (h : tw_H) (hw : tw_wt d g τ h) (x : Nat) (kx : τ x = 11) (r ct go si : Int32) : tw_Ct d mX5_country 20 120 [.ref x, .int r, .int ct, .int go, .int si] h (tw_qi (fun r9 h1 => r9 = nI (g.2 0) ∧ tw_RC r ct go si ∧ g.2 0 < 4 ∧ ∃ τ1, tw_sp d τ h (tw_g2 g 0 (g.2 0 + 1)) τ1 h1) (fun E h1 => (E = tw_IAE ∧ ¬ tw_RC r ct go si ∨ E = tw_ISE ∧ tw_RC r ct go si ∧ ¬ g.2 0 < 4) ∧ ∃ τ1, tw_sp d τ h g τ1 h1)) := by
  refine tw_of (by decide +kernel) (Nat.le_of_ble_eq_true rfl) ?_
  show tw_W d mX5_country _ 0 [(0, .ref x), (1, .int r), (2, .int ct), (3, .int go), (4, .int si)] [] h 20 120
  have sp0 := tw_sp.rf hw
  refine tw_iload_n 1 dX5_country_0 rfl rfl ?_
  refine tw_iload_n 2 dX5_country_1 rfl rfl ?_
  refine tw_bv (tw_callS (M := mX5_country) (pc := 2) okX5_needLaw dX5_country_2 w_396 [.int r, .int ct] [] rfl rfl ⟨by decide, by decide⟩ (Nat.le_of_ble_eq_true rfl) (c2_X5_needLaw d g τ h sp0.1 r ct) 18 108 (Nat.le_of_ble_eq_true rfl) (Nat.le_of_ble_eq_true rfl)) (fun h2 q1 => ?_) (fun E h1 q => Or.inr ⟨E, rfl, Or.inl ⟨q.1, fun z => q.2.2 ⟨z.1, z.2.1⟩⟩, τ, by rw [q.2.1]; exact sp0⟩)
  obtain ⟨q1e, q1l⟩ := q1
  rw [q1e]
  refine tw_iload_n 3 dX5_country_5 rfl rfl ?_
  refine tw_iconst (v := 0) dX5_country_6 (by decide) ?_
  refine tw_ldc (v := 99999) dX5_country_7 w_470 ?_
  refine tw_bv (tw_callS (M := mX5_country) (pc := 9) okX5_needRange dX5_country_9 w_399 [.int go, .int 0, .int 99999] [] rfl rfl ⟨by decide, by decide⟩ (Nat.le_of_ble_eq_true rfl) (c2_X5_needRange d g τ h sp0.1 go 0 99999) 17 102 (Nat.le_of_ble_eq_true rfl) (Nat.le_of_ble_eq_true rfl)) (fun h4 q3 => ?_) (fun E h1 q => Or.inr ⟨E, rfl, Or.inl ⟨q.1, fun z => q.2.2 z.2.2.1⟩, τ, by rw [q.2.1]; exact sp0⟩)
  obtain ⟨q3e, q3l⟩ := q3
  rw [q3e]
  refine tw_iload 4 dX5_country_12 rfl ?_
  refine tw_iconst (v := 0) dX5_country_14 (by decide) ?_
  refine tw_ldc (v := 99999) dX5_country_15 w_470 ?_
  refine tw_bv (tw_callS (M := mX5_country) (pc := 17) okX5_needRange dX5_country_17 w_399 [.int si, .int 0, .int 99999] [] rfl rfl ⟨by decide, by decide⟩ (Nat.le_of_ble_eq_true rfl) (c2_X5_needRange d g τ h sp0.1 si 0 99999) 16 96 (Nat.le_of_ble_eq_true rfl) (Nat.le_of_ble_eq_true rfl)) (fun h6 q5 => ?_) (fun E h1 q => Or.inr ⟨E, rfl, Or.inl ⟨q.1, fun z => q.2.2 z.2.2.2⟩, τ, by rw [q.2.1]; exact sp0⟩)
  obtain ⟨q5e, q5l⟩ := q5
  rw [q5e]
  have rc : tw_RC r ct go si := ⟨q1l.1, q1l.2, q3l, q5l⟩
  refine tw_aload_n 0 dX5_country_20 rfl rfl ?_
  obtain ⟨e7, f8, td_9, ca_10, ha_11, da_12, c1_13, c2_14, c3_15, c4_16, rfl, k17, k18, k19, k20, k21, k22, k23, k24, k25, k26, k27⟩ := sp0.1 x 11 kx (by decide)
  refine tw_get (v := .int (nI (g.2 0))) rfl in_9 3 dX5_country_21 w_143 rfl (by decide) f8 rfl ?_
  refine tw_aload_n 0 dX5_country_24 rfl rfl ?_
  refine tw_get (v := .ref ca_10) rfl in_9 2 dX5_country_25 w_142 rfl (by decide) f8 rfl ?_
  obtain ⟨e28, f29, F30, rfl, k31⟩ := sp0.1 ca_10 8 k17 (by decide)
  refine tw_alen (v := nI 4) 4 rfl dX5_country_28 f29 rfl ?_
  refine tw_icmp_lt 42 dX5_country_29 (by decide) (fun c32 => ?_) (fun c32 => ?_)
  · refine tw_aload_n 0 dX5_country_42 rfl rfl ?_
    refine tw_get (v := .int (nI (g.2 0))) rfl in_9 3 dX5_country_43 w_143 rfl (by decide) f8 rfl ?_
    refine tw_istore [(5, .int (nI (g.2 0))), (0, .ref x), (1, .int r), (2, .int ct), (3, .int go), (4, .int si)] dX5_country_46 (by decide) rfl ?_
    refine tw_aload_n 1 dX5_country_48 rfl rfl ?_
    refine tw_get (v := .ref ca_10) rfl in_9 2 dX5_country_49 w_142 rfl (by decide) f8 rfl ?_
    refine tw_iload 0 dX5_country_52 rfl ?_
    refine tw_new (ci := 4) rfl in_4 tyX0 tyX0_ok dX5_country_54 w_119 w_229 w_89 (fs := [.int 0, .int 0, .int 0, .null, .int 0, .int 0, .null, .null, .null]) (fun j hj => by rcases (show j = 0 ∨ j = 1 ∨ j = 2 ∨ j = 3 ∨ j = 4 ∨ j = 5 ∨ j = 6 ∨ j = 7 ∨ j = 8 by omega) with rfl | rfl | rfl | rfl | rfl | rfl | rfl | rfl | rfl <;> rfl) 15 87 (Nat.le_of_ble_eq_true rfl) (Nat.le_of_ble_eq_true rfl) (fun q33 hq34 hA35 => ?_)
    have n36 := sp0.nn hq34
    have z37 := sp0.1.none hq34
    obtain ⟨h38, eh38⟩ : ∃ z : tw_H, z = tw_up h q33 (.inr (4, [.int 0, .int 0, .int 0, .null, .int 0, .int 0, .null, .null, .null])) := ⟨_, rfl⟩
    rw [← eh38]
    have sp39 : tw_sp d τ h g τ h38 := by rw [eh38]; exact sp0.mk hq34
    have f40 : h38 q33 = some (.inr (4, [.int 0, .int 0, .int 0, .null, .int 0, .int 0, .null, .null, .null])) := by rw [eh38]; exact tw_up_s
    refine tw_dup dX5_country_57 rfl ?_
    refine tw_iload 0 dX5_country_58 rfl ?_
    refine tw_iload_n 2 dX5_country_60 rfl rfl ?_
    refine tw_iload_n 3 dX5_country_61 rfl rfl ?_
    refine tw_new (ci := 7) rfl in_7 tyX3 tyX3_ok dX5_country_62 w_125 w_126 w_78 (fs := [.int 0, .int 0]) (fun j hj => by rcases (show j = 0 ∨ j = 1 by omega) with rfl | rfl <;> rfl) 14 85 (Nat.le_of_ble_eq_true rfl) (Nat.le_of_ble_eq_true rfl) (fun q41 hq42 hA43 => ?_)
    have n44 := sp39.nn hq42
    have z45 := sp39.1.none hq42
    have ne46 := tw_neF f40 hq42
    obtain ⟨h47, eh47⟩ : ∃ z : tw_H, z = tw_up h38 q41 (.inr (7, [.int 0, .int 0])) := ⟨_, rfl⟩
    rw [← eh47]
    have sp48 : tw_sp d τ h g τ h47 := by rw [eh47]; exact sp39.mk hq42
    have f49 : h47 q33 = some (.inr (4, [.int 0, .int 0, .int 0, .null, .int 0, .int 0, .null, .null, .null])) := by rw [eh47, tw_up_n ne46]; exact f40
    have f50 : h47 q41 = some (.inr (7, [.int 0, .int 0])) := by rw [eh47]; exact tw_up_s
    refine tw_dup dX5_country_65 rfl ?_
    refine tw_iload_n 4 dX5_country_66 rfl rfl ?_
    refine tw_iload 5 dX5_country_67 rfl ?_
    refine tw_bv (tw_callIN (M := mX5_country) (pc := 69) okX3_init dX5_country_69 w_127 rfl [.int go, .int si] [.ref q41, .int ct, .int r, .int (nI (g.2 0)), .ref q33, .ref q33, .int (nI (g.2 0)), .ref ca_10] rfl rfl ⟨by decide, by decide⟩ (Nat.le_of_ble_eq_true rfl) (c_X3_init d g τ h47 sp48.1 q41 z45 f50 go si) 14 85 (Nat.le_of_ble_eq_true rfl) (Nat.le_of_ble_eq_true rfl)) (fun h52 q51 => ?_) (fun E h1 q => q.elim)
    obtain ⟨τ53, qi54⟩ := q51
    have sp55 := sp48.ini n44 qi54
    have k56 : τ53 x = 11 := qi54.2.1.k kx (by decide)
    have k57 : τ53 ca_10 = 8 := qi54.2.1.k k17 (by decide)
    have k58 : τ53 ha_11 = 9 := qi54.2.1.k k18 (by decide)
    have k59 : τ53 da_12 = 10 := qi54.2.1.k k19 (by decide)
    have k60 : τ53 c1_13 = 1 := qi54.2.1.k k20 (by decide)
    have k61 : τ53 c2_14 = 1 := qi54.2.1.k k21 (by decide)
    have k62 : τ53 c3_15 = 1 := qi54.2.1.k k22 (by decide)
    have k63 : τ53 c4_16 = 1 := qi54.2.1.k k23 (by decide)
    have k64 : τ53 q41 = 1 := qi54.2.2.1
    have f65 := (qi54.2.2.2 _ _ ne46 f49 z37).1
    have z66 := (qi54.2.2.2 _ _ ne46 f49 z37).2
    refine tw_bv (tw_callIN (M := mX5_country) (pc := 72) okX0_init dX5_country_72 w_487 rfl [.int (nI (g.2 0)), .int r, .int ct, .ref q41] [.ref q33, .int (nI (g.2 0)), .ref ca_10] rfl rfl ⟨by decide, by decide⟩ (Nat.le_of_ble_eq_true rfl) (c_X0_init d g τ53 h52 sp55.1 q33 z66 f65 (nI (g.2 0)) r ct q41 k64 q1l.1) 8 55 (Nat.le_of_ble_eq_true rfl) (Nat.le_of_ble_eq_true rfl)) (fun h68 q67 => ?_) (fun E h1 q => q.elim)
    obtain ⟨τ69, qi70⟩ := q67
    have sp71 := sp55.ini n36 qi70
    have k72 : τ69 x = 11 := qi70.2.1.k k56 (by decide)
    have k73 : τ69 ca_10 = 8 := qi70.2.1.k k57 (by decide)
    have k74 : τ69 ha_11 = 9 := qi70.2.1.k k58 (by decide)
    have k75 : τ69 da_12 = 10 := qi70.2.1.k k59 (by decide)
    have k76 : τ69 c1_13 = 1 := qi70.2.1.k k60 (by decide)
    have k77 : τ69 c2_14 = 1 := qi70.2.1.k k61 (by decide)
    have k78 : τ69 c3_15 = 1 := qi70.2.1.k k62 (by decide)
    have k79 : τ69 c4_16 = 1 := qi70.2.1.k k63 (by decide)
    have k80 : τ69 q41 = 1 := qi70.2.1.k k64 (by decide)
    have k81 : τ69 q33 = 2 := qi70.2.2.1
    obtain ⟨e82, f83, F84, rfl, k85⟩ := sp71.1 ca_10 8 k73 (by decide)
    obtain ⟨e86, f87, n_88, r_89, c_90, go_91, so_92, v_93, rd_94, rf_95, t_96, rfl, k97, k98, k99, k100, k101, k102, k103, k104⟩ := sp71.1 q33 2 k81 (by decide)
    refine tw_aast (ci := 4) 4 rfl rfl dX5_country_75 f83 f87 (vp_in_nI (tw_klt2 c32 k24 (by decide)) (by decide)) ?_
    obtain ⟨h105, eh105⟩ : ∃ z : tw_H, z = tw_up h68 ca_10 (.inl (d.2 4, 4, .inr (.inr (.inr (.inr (va_up F84 ((nI (g.2 0))).toNatClampNeg (some q33))))))) := ⟨_, rfl⟩
    rw [← eh105]
    have sp106 : tw_sp d τ h g τ69 h105 := by rw [eh105]; exact sp71.set k73 (by decide) ⟨_, rfl, tw_okup k85 k81⟩
    refine tw_aload_n 1 dX5_country_76 rfl rfl ?_
    refine tw_iload 0 dX5_country_77 rfl ?_
    refine tw_iconst (v := 1) dX5_country_79 (by decide) ?_
    refine tw_iadd dX5_country_80 ?_
    refine tw_nmi (fun v107 ev107 => ?_)
    obtain ⟨e108, f109, td_110, ca_111, ha_112, da_113, c1_114, c2_115, c3_116, c4_117, rfl, k118, k119, k120, k121, k122, k123, k124, k125, k126, k127, k128⟩ := sp106.1 x 11 k72 (by decide)
    have lt0 : g.2 0 < 4 := tw_klt2 c32 k125 (by decide)
    obtain ⟨g129, eg129⟩ : ∃ z : tw_G, z = tw_g2 g 0 (g.2 0 + 1) := ⟨_, rfl⟩
    have q130 : v107 = nI (g129.2 0) := by rw [ev107, nI_1, eg129]; rfl
    subst q130
    refine tw_put rfl in_9 tyX5 tyX5_ok nmX5 3 dX5_country_81 w_143 rfl (by decide) f109 rfl rfl rfl rfl (Nat.le_of_ble_eq_true rfl) [.int td_110, .int (g.1 0), .ref ca_111, .int (nI (g129.2 0)), .ref ha_112, .int (nI (g.2 1)), .ref da_113, .int (nI (g.2 2)), .ref c1_114, .ref c2_115, .ref c3_116, .ref c4_117] rfl ?_
    obtain ⟨h131, eh131⟩ : ∃ z : tw_H, z = tw_up h105 x (.inr (9, [.int td_110, .int (g.1 0), .ref ca_111, .int (nI (g129.2 0)), .ref ha_112, .int (nI (g.2 1)), .ref da_113, .int (nI (g.2 2)), .ref c1_114, .ref c2_115, .ref c3_116, .ref c4_117])) := ⟨_, rfl⟩
    rw [← eh131]
    have sp132 : tw_sp d τ h g129 τ69 h131 := by rw [eh131]; exact sp106.g11 k72 ⟨td_110, ca_111, ha_112, da_113, c1_114, c2_115, c3_116, c4_117, (by rw [eg129]; rfl), k118, k119, k120, k121, k122, k123, k124, (by rw [eg129]; exact (tw_klt2 c32 k125 (by decide))), (by rw [eg129]; exact k126), (by rw [eg129]; exact k127), (by rw [eg129]; exact k128)⟩ (by rw [eg129]; intro i hi; rfl) (by rw [eg129]; intro i hi; exact if_neg (by omega))
    refine tw_aload_n 1 dX5_country_84 rfl rfl ?_
    obtain ⟨e133, f134, td_135, ca_136, ha_137, da_138, c1_139, c2_140, c3_141, c4_142, rfl, k143, k144, k145, k146, k147, k148, k149, k150, k151, k152, k153⟩ := sp132.1 x 11 k72 (by decide)
    refine tw_get (v := .ref c4_142) rfl in_9 11 dX5_country_85 w_151 rfl (by decide) f134 rfl ?_
    refine tw_iconst (v := 0) dX5_country_88 (by decide) ?_
    refine tw_iload_n 4 dX5_country_89 rfl rfl ?_
    obtain ⟨e154, f155, a_156, b_157, rfl⟩ := sp132.1 c4_142 1 k149 (by decide)
    refine tw_bv (tw_callVN (M := mX5_country) (pc := 90) okX3_add dX5_country_90 w_534 rfl f155 [.int 0, .int go] [] rfl rfl ⟨by decide, by decide⟩ (Nat.le_of_ble_eq_true rfl) (c_X3_add d g129 τ69 h131 sp132.1 c4_142 k149 0 go) 8 55 (Nat.le_of_ble_eq_true rfl) (Nat.le_of_ble_eq_true rfl)) (fun h159 q158 => ?_) (fun E h1 q => q.elim)
    have q158s := q158
    have sp161 := sp132.tr q158s
    refine tw_aload_n 1 dX5_country_93 rfl rfl ?_
    obtain ⟨e163, f164, td_165, ca_166, ha_167, da_168, c1_169, c2_170, c3_171, c4_172, rfl, k173, k174, k175, k176, k177, k178, k179, k180, k181, k182, k183⟩ := sp161.1 x 11 k72 (by decide)
    refine tw_get (v := .ref c4_172) rfl in_9 11 dX5_country_94 w_151 rfl (by decide) f164 rfl ?_
    refine tw_iconst (v := 1) dX5_country_97 (by decide) ?_
    refine tw_iload 5 dX5_country_98 rfl ?_
    obtain ⟨e184, f185, a_186, b_187, rfl⟩ := sp161.1 c4_172 1 k179 (by decide)
    refine tw_bv (tw_callVN (M := mX5_country) (pc := 100) okX3_add dX5_country_100 w_534 rfl f185 [.int 1, .int si] [] rfl rfl ⟨by decide, by decide⟩ (Nat.le_of_ble_eq_true rfl) (c_X3_add d g129 τ69 h159 sp161.1 c4_172 k179 1 si) 8 55 (Nat.le_of_ble_eq_true rfl) (Nat.le_of_ble_eq_true rfl)) (fun h189 q188 => ?_) (fun E h1 q => q.elim)
    have q188s := q188
    have sp191 := sp161.tr q188s
    refine tw_iload 0 dX5_country_103 rfl ?_
    exact tw_iret dX5_country_105 rfl (Or.inl ⟨_, rfl, rfl, rc, lt0, _, by rw [← eg129]; exact sp191⟩)
  · exact tw_throwS (i := 1) (by decide +kernel) w_471 w_88 rfl at_ISE dX5_country_32 dX5_country_35 dX5_country_36 dX5_country_38 dX5_country_41 ⟨by decide, Nat.le_of_ble_eq_true rfl⟩ (Nat.le_of_ble_eq_true rfl) (Nat.le_of_ble_eq_true rfl) (Or.inr ⟨_, rfl, Or.inr ⟨rfl, rc, fun z => c32 (nI_lt z (by decide))⟩, _, sp0⟩)

set_option maxHeartbeats 4000000 in
set_option maxRecDepth 100000 in
theorem c2_X5_house (d : tw_D) (g : tw_G) (τ : tw_K) (h : tw_H) (hw : tw_wt d g τ h) (x : Nat) (kx : τ x = 11) (a : Int32) (go : Int32) (si : Int32) : tw_Ct d mX5_house 20 120 [.ref x, .int a, .int go, .int si] h (tw_qi (fun r h1 => ∃ τ1, tw_sp d τ h (tw_g2 g 1 (g.2 1 + 1)) τ1 h1) (fun E h1 => (E = tw_IOE ∨ E = tw_IAE ∨ E = tw_ISE) ∧ ∃ τ1, tw_sp d τ h g τ1 h1)) := by
  refine tw_of (by decide +kernel) (Nat.le_of_ble_eq_true rfl) ?_
  show tw_W d mX5_house _ 0 [(0, .ref x), (1, .int a), (2, .int go), (3, .int si)] [] h 20 120
  have sp0 := tw_sp.rf hw
  refine tw_aload_n 0 dX5_house_0 rfl rfl ?_
  refine tw_iload_n 1 dX5_house_1 rfl rfl ?_
  obtain ⟨e1, f2, td_3, ca_4, ha_5, da_6, c1_7, c2_8, c3_9, c4_10, rfl, k11, k12, k13, k14, k15, k16, k17, k18, k19, k20, k21⟩ := sp0.1 x 11 kx (by decide)
  refine tw_br (tw_callV (M := mX5_house) (pc := 2) okX5_countryAt dX5_house_2 w_546 rfl f2 [.int a] [] rfl rfl ⟨by decide, by decide⟩ (Nat.le_of_ble_eq_true rfl) (c_X5_countryAt d g τ h sp0.1 x kx a) 19 114 (Nat.le_of_ble_eq_true rfl) (Nat.le_of_ble_eq_true rfl)) (fun r24 h23 q22 => ?_) (fun E h1 q => Or.inr ⟨E, rfl, (Or.inl q.1), ⟨τ, by rw [q.2]; exact sp0⟩⟩)
  obtain ⟨q22e, p25⟩ := q22
  rw [q22e]
  refine tw_astore [(4, .ref r24), (0, .ref x), (1, .int a), (2, .int go), (3, .int si)] dX5_house_5 (by decide) rfl ?_
  refine tw_iload_n 3 dX5_house_7 rfl rfl ?_
  refine tw_iconst (v := 0) dX5_house_8 (by decide) ?_
  refine tw_ldc (v := 99999) dX5_house_9 w_470 ?_
  refine tw_bv (tw_callS (M := mX5_house) (pc := 11) okX5_needRange dX5_house_11 w_399 [.int go, .int 0, .int 99999] [] rfl rfl ⟨by decide, by decide⟩ (Nat.le_of_ble_eq_true rfl) (c_X5_needRange d g τ h sp0.1 go 0 99999) 18 108 (Nat.le_of_ble_eq_true rfl) (Nat.le_of_ble_eq_true rfl)) (fun h27 q26 => ?_) (fun E h1 q => Or.inr ⟨E, rfl, (Or.inr (Or.inl q.1)), ⟨τ, by rw [q.2]; exact sp0⟩⟩)
  obtain ⟨q26e, p29⟩ := q26
  rw [q26e]
  refine tw_iload_n 4 dX5_house_14 rfl rfl ?_
  refine tw_iconst (v := 0) dX5_house_15 (by decide) ?_
  refine tw_ldc (v := 99999) dX5_house_16 w_470 ?_
  refine tw_bv (tw_callS (M := mX5_house) (pc := 18) okX5_needRange dX5_house_18 w_399 [.int si, .int 0, .int 99999] [] rfl rfl ⟨by decide, by decide⟩ (Nat.le_of_ble_eq_true rfl) (c_X5_needRange d g τ h sp0.1 si 0 99999) 17 102 (Nat.le_of_ble_eq_true rfl) (Nat.le_of_ble_eq_true rfl)) (fun h31 q30 => ?_) (fun E h1 q => Or.inr ⟨E, rfl, (Or.inr (Or.inl q.1)), ⟨τ, by rw [q.2]; exact sp0⟩⟩)
  obtain ⟨q30e, p33⟩ := q30
  rw [q30e]
  refine tw_aload_n 1 dX5_house_21 rfl rfl ?_
  refine tw_get (v := .int (nI (g.2 1))) rfl in_9 5 dX5_house_22 w_145 rfl (by decide) f2 rfl ?_
  refine tw_aload_n 1 dX5_house_25 rfl rfl ?_
  refine tw_get (v := .ref ha_5) rfl in_9 4 dX5_house_26 w_144 rfl (by decide) f2 rfl ?_
  obtain ⟨e34, f35, F36, rfl, k37⟩ := sp0.1 ha_5 9 k12 (by decide)
  refine tw_alen (v := nI 6) 5 rfl dX5_house_29 f35 rfl ?_
  refine tw_icmp_lt 43 dX5_house_30 (by decide) (fun c38 => ?_) (fun c38 => ?_)
  · refine tw_aload_n 1 dX5_house_43 rfl rfl ?_
    refine tw_get (v := .int (nI (g.2 1))) rfl in_9 5 dX5_house_44 w_145 rfl (by decide) f2 rfl ?_
    refine tw_istore [(5, .int (nI (g.2 1))), (4, .ref r24), (0, .ref x), (1, .int a), (2, .int go), (3, .int si)] dX5_house_47 (by decide) rfl ?_
    refine tw_aload_n 2 dX5_house_49 rfl rfl ?_
    refine tw_get (v := .ref ha_5) rfl in_9 4 dX5_house_50 w_144 rfl (by decide) f2 rfl ?_
    refine tw_iload 0 dX5_house_53 rfl ?_
    refine tw_new (ci := 6) rfl in_6 tyX2 tyX2_ok dX5_house_55 w_121 w_217 w_99 (fs := [.int 0, .null, .null, .null, .int 0]) (fun j hj => by rcases (show j = 0 ∨ j = 1 ∨ j = 2 ∨ j = 3 ∨ j = 4 by omega) with rfl | rfl | rfl | rfl | rfl <;> rfl) 16 97 (Nat.le_of_ble_eq_true rfl) (Nat.le_of_ble_eq_true rfl) (fun q39 hq40 hA41 => ?_)
    have n42 := sp0.nn hq40
    have z43 := sp0.1.none hq40
    obtain ⟨h44, eh44⟩ : ∃ z : tw_H, z = tw_up h q39 (.inr (6, [.int 0, .null, .null, .null, .int 0])) := ⟨_, rfl⟩
    rw [← eh44]
    have sp45 : tw_sp d τ h g τ h44 := by rw [eh44]; exact sp0.mk hq40
    have f46 : h44 q39 = some (.inr (6, [.int 0, .null, .null, .null, .int 0])) := by rw [eh44]; exact tw_up_s
    refine tw_dup dX5_house_58 rfl ?_
    refine tw_iload 0 dX5_house_59 rfl ?_
    refine tw_aload 1 dX5_house_61 rfl ?_
    refine tw_new (ci := 7) rfl in_7 tyX3 tyX3_ok dX5_house_63 w_125 w_126 w_78 (fs := [.int 0, .int 0]) (fun j hj => by rcases (show j = 0 ∨ j = 1 by omega) with rfl | rfl <;> rfl) 15 95 (Nat.le_of_ble_eq_true rfl) (Nat.le_of_ble_eq_true rfl) (fun q47 hq48 hA49 => ?_)
    have n50 := sp45.nn hq48
    have z51 := sp45.1.none hq48
    have ne52 := tw_neF f46 hq48
    obtain ⟨h53, eh53⟩ : ∃ z : tw_H, z = tw_up h44 q47 (.inr (7, [.int 0, .int 0])) := ⟨_, rfl⟩
    rw [← eh53]
    have sp54 : tw_sp d τ h g τ h53 := by rw [eh53]; exact sp45.mk hq48
    have f55 : h53 q39 = some (.inr (6, [.int 0, .null, .null, .null, .int 0])) := by rw [eh53, tw_up_n ne52]; exact f46
    have f56 : h53 q47 = some (.inr (7, [.int 0, .int 0])) := by rw [eh53]; exact tw_up_s
    refine tw_dup dX5_house_66 rfl ?_
    refine tw_iload_n 4 dX5_house_67 rfl rfl ?_
    refine tw_iload_n 5 dX5_house_68 rfl rfl ?_
    refine tw_bv (tw_callIN (M := mX5_house) (pc := 69) okX3_init dX5_house_69 w_127 rfl [.int go, .int si] [.ref q47, .ref r24, .int (nI (g.2 1)), .ref q39, .ref q39, .int (nI (g.2 1)), .ref ha_5] rfl rfl ⟨by decide, by decide⟩ (Nat.le_of_ble_eq_true rfl) (c_X3_init d g τ h53 sp54.1 q47 z51 f56 go si) 15 95 (Nat.le_of_ble_eq_true rfl) (Nat.le_of_ble_eq_true rfl)) (fun h58 q57 => ?_) (fun E h1 q => q.elim)
    obtain ⟨τ59, qi60⟩ := q57
    have sp61 := sp54.ini n50 qi60
    have k62 : τ59 x = 11 := qi60.2.1.k kx (by decide)
    have k63 : τ59 ca_4 = 8 := qi60.2.1.k k11 (by decide)
    have k64 : τ59 ha_5 = 9 := qi60.2.1.k k12 (by decide)
    have k65 : τ59 da_6 = 10 := qi60.2.1.k k13 (by decide)
    have k66 : τ59 c1_7 = 1 := qi60.2.1.k k14 (by decide)
    have k67 : τ59 c2_8 = 1 := qi60.2.1.k k15 (by decide)
    have k68 : τ59 c3_9 = 1 := qi60.2.1.k k16 (by decide)
    have k69 : τ59 c4_10 = 1 := qi60.2.1.k k17 (by decide)
    have k70 : τ59 r24 = 2 := qi60.2.1.k p25 (by decide)
    have k71 : τ59 q47 = 1 := qi60.2.2.1
    have f72 := (qi60.2.2.2 _ _ ne52 f55 z43).1
    have z73 := (qi60.2.2.2 _ _ ne52 f55 z43).2
    refine tw_bv (tw_callIN (M := mX5_house) (pc := 72) okX2_init dX5_house_72 w_632 rfl [.int (nI (g.2 1)), .ref r24, .ref q47] [.ref q39, .int (nI (g.2 1)), .ref ha_5] rfl rfl ⟨by decide, by decide⟩ (Nat.le_of_ble_eq_true rfl) (c_X2_init d g τ59 h58 sp61.1 q39 z73 f72 (nI (g.2 1)) r24 k70 q47 k71) 15 95 (Nat.le_of_ble_eq_true rfl) (Nat.le_of_ble_eq_true rfl)) (fun h75 q74 => ?_) (fun E h1 q => q.elim)
    obtain ⟨τ76, qi77⟩ := q74
    have sp78 := sp61.ini n42 qi77
    have k79 : τ76 x = 11 := qi77.2.1.k k62 (by decide)
    have k80 : τ76 ca_4 = 8 := qi77.2.1.k k63 (by decide)
    have k81 : τ76 ha_5 = 9 := qi77.2.1.k k64 (by decide)
    have k82 : τ76 da_6 = 10 := qi77.2.1.k k65 (by decide)
    have k83 : τ76 c1_7 = 1 := qi77.2.1.k k66 (by decide)
    have k84 : τ76 c2_8 = 1 := qi77.2.1.k k67 (by decide)
    have k85 : τ76 c3_9 = 1 := qi77.2.1.k k68 (by decide)
    have k86 : τ76 c4_10 = 1 := qi77.2.1.k k69 (by decide)
    have k87 : τ76 r24 = 2 := qi77.2.1.k k70 (by decide)
    have k88 : τ76 q47 = 1 := qi77.2.1.k k71 (by decide)
    have k89 : τ76 q39 = 3 := qi77.2.2.1
    obtain ⟨e90, f91, F92, rfl, k93⟩ := sp78.1 ha_5 9 k81 (by decide)
    obtain ⟨e94, f95, n_96, ar_97, p_98, pl_99, go_100, rfl, k101, k102, k103⟩ := sp78.1 q39 3 k89 (by decide)
    refine tw_aast (ci := 6) 5 rfl rfl dX5_house_75 f91 f95 (vp_in_nI (tw_klt2 c38 k19 (by decide)) (by decide)) ?_
    obtain ⟨h104, eh104⟩ : ∃ z : tw_H, z = tw_up h75 ha_5 (.inl (d.2 5, 6, .inr (.inr (.inr (.inr (va_up F92 ((nI (g.2 1))).toNatClampNeg (some q39))))))) := ⟨_, rfl⟩
    rw [← eh104]
    have sp105 : tw_sp d τ h g τ76 h104 := by rw [eh104]; exact sp78.set k81 (by decide) ⟨_, rfl, tw_okup k93 k89⟩
    refine tw_aload_n 2 dX5_house_76 rfl rfl ?_
    refine tw_iload 0 dX5_house_77 rfl ?_
    refine tw_iconst (v := 1) dX5_house_79 (by decide) ?_
    refine tw_iadd dX5_house_80 ?_
    refine tw_nmi (fun v106 ev106 => ?_)
    obtain ⟨e107, f108, td_109, ca_110, ha_111, da_112, c1_113, c2_114, c3_115, c4_116, rfl, k117, k118, k119, k120, k121, k122, k123, k124, k125, k126, k127⟩ := sp105.1 x 11 k79 (by decide)
    obtain ⟨g128, eg128⟩ : ∃ z : tw_G, z = tw_g2 g 1 (g.2 1 + 1) := ⟨_, rfl⟩
    have q129 : v106 = nI (g128.2 1) := by rw [ev106, nI_1, eg128]; rfl
    subst q129
    refine tw_put rfl in_9 tyX5 tyX5_ok nmX5 5 dX5_house_81 w_145 rfl (by decide) f108 rfl rfl rfl rfl (Nat.le_of_ble_eq_true rfl) [.int td_109, .int (g.1 0), .ref ca_110, .int (nI (g.2 0)), .ref ha_111, .int (nI (g128.2 1)), .ref da_112, .int (nI (g.2 2)), .ref c1_113, .ref c2_114, .ref c3_115, .ref c4_116] rfl ?_
    obtain ⟨h130, eh130⟩ : ∃ z : tw_H, z = tw_up h104 x (.inr (9, [.int td_109, .int (g.1 0), .ref ca_110, .int (nI (g.2 0)), .ref ha_111, .int (nI (g128.2 1)), .ref da_112, .int (nI (g.2 2)), .ref c1_113, .ref c2_114, .ref c3_115, .ref c4_116])) := ⟨_, rfl⟩
    rw [← eh130]
    have sp131 : tw_sp d τ h g128 τ76 h130 := by rw [eh130]; exact sp105.g11 k79 ⟨td_109, ca_110, ha_111, da_112, c1_113, c2_114, c3_115, c4_116, (by rw [eg128]; rfl), k117, k118, k119, k120, k121, k122, k123, (by rw [eg128]; exact k124), (by rw [eg128]; exact (tw_klt2 c38 k125 (by decide))), (by rw [eg128]; exact k126), (by rw [eg128]; exact k127)⟩ (by rw [eg128]; intro i hi; rfl) (by rw [eg128]; intro i hi; exact if_neg (by omega))
    refine tw_aload_n 2 dX5_house_84 rfl rfl ?_
    obtain ⟨e132, f133, td_134, ca_135, ha_136, da_137, c1_138, c2_139, c3_140, c4_141, rfl, k142, k143, k144, k145, k146, k147, k148, k149, k150, k151, k152⟩ := sp131.1 x 11 k79 (by decide)
    refine tw_get (v := .ref c4_141) rfl in_9 11 dX5_house_85 w_151 rfl (by decide) f133 rfl ?_
    refine tw_iconst (v := 0) dX5_house_88 (by decide) ?_
    refine tw_iload_n 4 dX5_house_89 rfl rfl ?_
    obtain ⟨e153, f154, a_155, b_156, rfl⟩ := sp131.1 c4_141 1 k148 (by decide)
    refine tw_bv (tw_callVN (M := mX5_house) (pc := 90) okX3_add dX5_house_90 w_534 rfl f154 [.int 0, .int go] [] rfl rfl ⟨by decide, by decide⟩ (Nat.le_of_ble_eq_true rfl) (c_X3_add d g128 τ76 h130 sp131.1 c4_141 k148 0 go) 15 95 (Nat.le_of_ble_eq_true rfl) (Nat.le_of_ble_eq_true rfl)) (fun h158 q157 => ?_) (fun E h1 q => q.elim)
    have q157s := q157
    have sp160 := sp131.tr q157s
    refine tw_aload_n 2 dX5_house_93 rfl rfl ?_
    obtain ⟨e162, f163, td_164, ca_165, ha_166, da_167, c1_168, c2_169, c3_170, c4_171, rfl, k172, k173, k174, k175, k176, k177, k178, k179, k180, k181, k182⟩ := sp160.1 x 11 k79 (by decide)
    refine tw_get (v := .ref c4_171) rfl in_9 11 dX5_house_94 w_151 rfl (by decide) f163 rfl ?_
    refine tw_iconst (v := 1) dX5_house_97 (by decide) ?_
    refine tw_iload_n 5 dX5_house_98 rfl rfl ?_
    obtain ⟨e183, f184, a_185, b_186, rfl⟩ := sp160.1 c4_171 1 k178 (by decide)
    refine tw_bv (tw_callVN (M := mX5_house) (pc := 99) okX3_add dX5_house_99 w_534 rfl f184 [.int 1, .int si] [] rfl rfl ⟨by decide, by decide⟩ (Nat.le_of_ble_eq_true rfl) (c_X3_add d g128 τ76 h158 sp160.1 c4_171 k178 1 si) 15 95 (Nat.le_of_ble_eq_true rfl) (Nat.le_of_ble_eq_true rfl)) (fun h188 q187 => ?_) (fun E h1 q => q.elim)
    have q187s := q187
    have sp190 := sp160.tr q187s
    refine tw_iload 0 dX5_house_102 rfl ?_
    exact tw_iret dX5_house_104 rfl (Or.inl ⟨_, rfl, _, by rw [← eg128]; exact sp190⟩)
  · exact tw_throwS (i := 7) (by decide +kernel) w_471 w_88 rfl at_ISE dX5_house_33 dX5_house_36 dX5_house_37 dX5_house_39 dX5_house_42 ⟨by decide, Nat.le_of_ble_eq_true rfl⟩ (Nat.le_of_ble_eq_true rfl) (Nat.le_of_ble_eq_true rfl) (Or.inr ⟨_, rfl, (Or.inr (Or.inr (rfl))), _, sp0⟩)

set_option maxHeartbeats 4000000 in
set_option maxRecDepth 100000 in
theorem c2_X5_owe (d : tw_D) (g : tw_G) (τ : tw_K) (h : tw_H) (hw : tw_wt d g τ h) (x : Nat) (kx : τ x = 11) (a : Int32) (b : Int32) (v : Int32) (dy : Int32) : tw_Ct d mX5_owe 20 120 [.ref x, .int a, .int b, .int v, .int dy] h (tw_qi (fun r h1 => ∃ τ1, tw_sp d τ h (tw_g2 g 2 (g.2 2 + 1)) τ1 h1) (fun E h1 => (E = tw_IOE ∨ E = tw_IAE ∨ E = tw_ISE) ∧ ∃ τ1, tw_sp d τ h g τ1 h1)) := by
  refine tw_of (by decide +kernel) (Nat.le_of_ble_eq_true rfl) ?_
  show tw_W d mX5_owe _ 0 [(0, .ref x), (1, .int a), (2, .int b), (3, .int v), (4, .int dy)] [] h 20 120
  have sp0 := tw_sp.rf hw
  refine tw_aload_n 0 dX5_owe_0 rfl rfl ?_
  refine tw_iload_n 1 dX5_owe_1 rfl rfl ?_
  obtain ⟨e1, f2, td_3, ca_4, ha_5, da_6, c1_7, c2_8, c3_9, c4_10, rfl, k11, k12, k13, k14, k15, k16, k17, k18, k19, k20, k21⟩ := sp0.1 x 11 kx (by decide)
  refine tw_br (tw_callV (M := mX5_owe) (pc := 2) okX5_houseAt dX5_owe_2 w_664 rfl f2 [.int a] [] rfl rfl ⟨by decide, by decide⟩ (Nat.le_of_ble_eq_true rfl) (c_X5_houseAt d g τ h sp0.1 x kx a) 19 114 (Nat.le_of_ble_eq_true rfl) (Nat.le_of_ble_eq_true rfl)) (fun r24 h23 q22 => ?_) (fun E h1 q => Or.inr ⟨E, rfl, (Or.inl q.1), ⟨τ, by rw [q.2]; exact sp0⟩⟩)
  obtain ⟨q22e, p25⟩ := q22
  rw [q22e]
  refine tw_astore [(5, .ref r24), (0, .ref x), (1, .int a), (2, .int b), (3, .int v), (4, .int dy)] dX5_owe_5 (by decide) rfl ?_
  refine tw_aload_n 1 dX5_owe_7 rfl rfl ?_
  refine tw_iload_n 3 dX5_owe_8 rfl rfl ?_
  refine tw_br (tw_callV (M := mX5_owe) (pc := 9) okX5_houseAt dX5_owe_9 w_664 rfl f2 [.int b] [] rfl rfl ⟨by decide, by decide⟩ (Nat.le_of_ble_eq_true rfl) (c_X5_houseAt d g τ h sp0.1 x kx b) 18 108 (Nat.le_of_ble_eq_true rfl) (Nat.le_of_ble_eq_true rfl)) (fun r28 h27 q26 => ?_) (fun E h1 q => Or.inr ⟨E, rfl, (Or.inl q.1), ⟨τ, by rw [q.2]; exact sp0⟩⟩)
  obtain ⟨q26e, p29⟩ := q26
  rw [q26e]
  refine tw_astore [(6, .ref r28), (5, .ref r24), (0, .ref x), (1, .int a), (2, .int b), (3, .int v), (4, .int dy)] dX5_owe_12 (by decide) rfl ?_
  refine tw_iload_n 3 dX5_owe_14 rfl rfl ?_
  refine tw_iload_n 4 dX5_owe_15 rfl rfl ?_
  refine tw_bv (tw_callS (M := mX5_owe) (pc := 16) okX5_needDifferent dX5_owe_16 w_599 [.int a, .int b] [] rfl rfl ⟨by decide, by decide⟩ (Nat.le_of_ble_eq_true rfl) (c_X5_needDifferent d g τ h sp0.1 a b) 17 102 (Nat.le_of_ble_eq_true rfl) (Nat.le_of_ble_eq_true rfl)) (fun h31 q30 => ?_) (fun E h1 q => Or.inr ⟨E, rfl, (Or.inr (Or.inl q.1)), ⟨τ, by rw [q.2]; exact sp0⟩⟩)
  rw [q30]
  refine tw_iload_n 5 dX5_owe_19 rfl rfl ?_
  refine tw_iconst (v := 1) dX5_owe_20 (by decide) ?_
  refine tw_sipush (v := 9999) dX5_owe_21 (by decide) ?_
  refine tw_bv (tw_callS (M := mX5_owe) (pc := 24) okX5_needRange dX5_owe_24 w_399 [.int v, .int 1, .int 9999] [] rfl rfl ⟨by decide, by decide⟩ (Nat.le_of_ble_eq_true rfl) (c_X5_needRange d g τ h sp0.1 v 1 9999) 16 96 (Nat.le_of_ble_eq_true rfl) (Nat.le_of_ble_eq_true rfl)) (fun h34 q33 => ?_) (fun E h1 q => Or.inr ⟨E, rfl, (Or.inr (Or.inl q.1)), ⟨τ, by rw [q.2]; exact sp0⟩⟩)
  obtain ⟨q33e, p36⟩ := q33
  rw [q33e]
  refine tw_iload 6 dX5_owe_27 rfl ?_
  refine tw_iconst (v := 0) dX5_owe_29 (by decide) ?_
  refine tw_sipush (v := 1000) dX5_owe_30 (by decide) ?_
  refine tw_bv (tw_callS (M := mX5_owe) (pc := 33) okX5_needRange dX5_owe_33 w_399 [.int dy, .int 0, .int 1000] [] rfl rfl ⟨by decide, by decide⟩ (Nat.le_of_ble_eq_true rfl) (c_X5_needRange d g τ h sp0.1 dy 0 1000) 15 90 (Nat.le_of_ble_eq_true rfl) (Nat.le_of_ble_eq_true rfl)) (fun h38 q37 => ?_) (fun E h1 q => Or.inr ⟨E, rfl, (Or.inr (Or.inl q.1)), ⟨τ, by rw [q.2]; exact sp0⟩⟩)
  obtain ⟨q37e, p40⟩ := q37
  rw [q37e]
  refine tw_aload_n 2 dX5_owe_36 rfl rfl ?_
  refine tw_get (v := .int (nI (g.2 2))) rfl in_9 7 dX5_owe_37 w_147 rfl (by decide) f2 rfl ?_
  refine tw_aload_n 2 dX5_owe_40 rfl rfl ?_
  refine tw_get (v := .ref da_6) rfl in_9 6 dX5_owe_41 w_146 rfl (by decide) f2 rfl ?_
  obtain ⟨e41, f42, F43, rfl, k44⟩ := sp0.1 da_6 10 k13 (by decide)
  refine tw_alen (v := nI 10) 6 rfl dX5_owe_44 f42 rfl ?_
  refine tw_icmp_lt 58 dX5_owe_45 (by decide) (fun c45 => ?_) (fun c45 => ?_)
  · refine tw_aload_n 2 dX5_owe_58 rfl rfl ?_
    refine tw_get (v := .int (nI (g.2 2))) rfl in_9 7 dX5_owe_59 w_147 rfl (by decide) f2 rfl ?_
    refine tw_istore [(7, .int (nI (g.2 2))), (6, .ref r28), (5, .ref r24), (0, .ref x), (1, .int a), (2, .int b), (3, .int v), (4, .int dy)] dX5_owe_62 (by decide) rfl ?_
    refine tw_aload_n 3 dX5_owe_64 rfl rfl ?_
    refine tw_get (v := .ref da_6) rfl in_9 6 dX5_owe_65 w_146 rfl (by decide) f2 rfl ?_
    refine tw_iload 0 dX5_owe_68 rfl ?_
    refine tw_new (ci := 5) rfl in_5 tyX1 tyX1_ok dX5_owe_70 w_123 w_358 w_102 (fs := [.null, .null, .int 0, .int 0, .int 0]) (fun j hj => by rcases (show j = 0 ∨ j = 1 ∨ j = 2 ∨ j = 3 ∨ j = 4 by omega) with rfl | rfl | rfl | rfl | rfl <;> rfl) 14 85 (Nat.le_of_ble_eq_true rfl) (Nat.le_of_ble_eq_true rfl) (fun q46 hq47 hA48 => ?_)
    have n49 := sp0.nn hq47
    have z50 := sp0.1.none hq47
    obtain ⟨h51, eh51⟩ : ∃ z : tw_H, z = tw_up h q46 (.inr (5, [.null, .null, .int 0, .int 0, .int 0])) := ⟨_, rfl⟩
    rw [← eh51]
    have sp52 : tw_sp d τ h g τ h51 := by rw [eh51]; exact sp0.mk hq47
    have f53 : h51 q46 = some (.inr (5, [.null, .null, .int 0, .int 0, .int 0])) := by rw [eh51]; exact tw_up_s
    refine tw_dup dX5_owe_73 rfl ?_
    refine tw_aload 2 dX5_owe_74 rfl ?_
    refine tw_aload 1 dX5_owe_76 rfl ?_
    refine tw_iload_n 6 dX5_owe_78 rfl rfl ?_
    refine tw_aload_n 3 dX5_owe_79 rfl rfl ?_
    obtain ⟨e54, f55, td_56, ca_57, ha_58, da_59, c1_60, c2_61, c3_62, c4_63, rfl, k64, k65, k66, k67, k68, k69, k70, k71, k72, k73, k74⟩ := sp52.1 x 11 kx (by decide)
    refine tw_get (v := .int td_56) rfl in_9 0 dX5_owe_80 w_140 rfl (by decide) f55 rfl ?_
    refine tw_iload 7 dX5_owe_83 rfl ?_
    refine tw_iadd dX5_owe_85 ?_
    refine tw_nmi (fun v75 ev75 => ?_)
    refine tw_bv (tw_callIN (M := mX5_owe) (pc := 86) okX1_init dX5_owe_86 w_715 rfl [.ref r24, .ref r28, .int v, .int v75] [.ref q46, .int (nI (g.2 2)), .ref da_6] rfl rfl ⟨by decide, by decide⟩ (Nat.le_of_ble_eq_true rfl) (c_X1_init d g τ h51 sp52.1 q46 z50 f53 r24 p25 r28 p29 v v75) 14 85 (Nat.le_of_ble_eq_true rfl) (Nat.le_of_ble_eq_true rfl)) (fun h77 q76 => ?_) (fun E h1 q => q.elim)
    obtain ⟨τ78, qi79⟩ := q76
    have sp80 := sp52.ini n49 qi79
    have k81 : τ78 x = 11 := qi79.2.1.k kx (by decide)
    have k82 : τ78 ca_4 = 8 := qi79.2.1.k k11 (by decide)
    have k83 : τ78 ha_5 = 9 := qi79.2.1.k k12 (by decide)
    have k84 : τ78 da_6 = 10 := qi79.2.1.k k13 (by decide)
    have k85 : τ78 c1_7 = 1 := qi79.2.1.k k14 (by decide)
    have k86 : τ78 c2_8 = 1 := qi79.2.1.k k15 (by decide)
    have k87 : τ78 c3_9 = 1 := qi79.2.1.k k16 (by decide)
    have k88 : τ78 c4_10 = 1 := qi79.2.1.k k17 (by decide)
    have k89 : τ78 r24 = 3 := qi79.2.1.k p25 (by decide)
    have k90 : τ78 r28 = 3 := qi79.2.1.k p29 (by decide)
    have k91 : τ78 ca_57 = 8 := qi79.2.1.k k64 (by decide)
    have k92 : τ78 ha_58 = 9 := qi79.2.1.k k65 (by decide)
    have k93 : τ78 da_59 = 10 := qi79.2.1.k k66 (by decide)
    have k94 : τ78 c1_60 = 1 := qi79.2.1.k k67 (by decide)
    have k95 : τ78 c2_61 = 1 := qi79.2.1.k k68 (by decide)
    have k96 : τ78 c3_62 = 1 := qi79.2.1.k k69 (by decide)
    have k97 : τ78 c4_63 = 1 := qi79.2.1.k k70 (by decide)
    have k98 : τ78 q46 = 4 := qi79.2.2.1
    obtain ⟨e99, f100, F101, rfl, k102⟩ := sp80.1 da_6 10 k84 (by decide)
    obtain ⟨e103, f104, v_105, dy_106, pd_107, a_108, b_109, rfl, k110, k111, k112⟩ := sp80.1 q46 4 k98 (by decide)
    refine tw_aast (ci := 5) 6 rfl rfl dX5_owe_89 f100 f104 (vp_in_nI (tw_klt2 c45 k73 (by decide)) (by decide)) ?_
    obtain ⟨h113, eh113⟩ : ∃ z : tw_H, z = tw_up h77 da_6 (.inl (d.2 6, 10, .inr (.inr (.inr (.inr (va_up F101 ((nI (g.2 2))).toNatClampNeg (some q46))))))) := ⟨_, rfl⟩
    rw [← eh113]
    have sp114 : tw_sp d τ h g τ78 h113 := by rw [eh113]; exact sp80.set k84 (by decide) ⟨_, rfl, tw_okup k102 k98⟩
    refine tw_aload_n 3 dX5_owe_90 rfl rfl ?_
    refine tw_iload 0 dX5_owe_91 rfl ?_
    refine tw_iconst (v := 1) dX5_owe_93 (by decide) ?_
    refine tw_iadd dX5_owe_94 ?_
    refine tw_nmi (fun v115 ev115 => ?_)
    obtain ⟨e116, f117, td_118, ca_119, ha_120, da_121, c1_122, c2_123, c3_124, c4_125, rfl, k126, k127, k128, k129, k130, k131, k132, k133, k134, k135, k136⟩ := sp114.1 x 11 k81 (by decide)
    obtain ⟨g137, eg137⟩ : ∃ z : tw_G, z = tw_g2 g 2 (g.2 2 + 1) := ⟨_, rfl⟩
    have q138 : v115 = nI (g137.2 2) := by rw [ev115, nI_1, eg137]; rfl
    subst q138
    refine tw_put rfl in_9 tyX5 tyX5_ok nmX5 7 dX5_owe_95 w_147 rfl (by decide) f117 rfl rfl rfl rfl (Nat.le_of_ble_eq_true rfl) [.int td_118, .int (g.1 0), .ref ca_119, .int (nI (g.2 0)), .ref ha_120, .int (nI (g.2 1)), .ref da_121, .int (nI (g137.2 2)), .ref c1_122, .ref c2_123, .ref c3_124, .ref c4_125] rfl ?_
    obtain ⟨h139, eh139⟩ : ∃ z : tw_H, z = tw_up h113 x (.inr (9, [.int td_118, .int (g.1 0), .ref ca_119, .int (nI (g.2 0)), .ref ha_120, .int (nI (g.2 1)), .ref da_121, .int (nI (g137.2 2)), .ref c1_122, .ref c2_123, .ref c3_124, .ref c4_125])) := ⟨_, rfl⟩
    rw [← eh139]
    have sp140 : tw_sp d τ h g137 τ78 h139 := by rw [eh139]; exact sp114.g11 k81 ⟨td_118, ca_119, ha_120, da_121, c1_122, c2_123, c3_124, c4_125, (by rw [eg137]; rfl), k126, k127, k128, k129, k130, k131, k132, (by rw [eg137]; exact k133), (by rw [eg137]; exact k134), (by rw [eg137]; exact (tw_klt2 c45 k135 (by decide))), (by rw [eg137]; exact k136)⟩ (by rw [eg137]; intro i hi; rfl) (by rw [eg137]; intro i hi; exact if_neg (by omega))
    refine tw_iload 0 dX5_owe_98 rfl ?_
    exact tw_iret dX5_owe_100 rfl (Or.inl ⟨_, rfl, _, by rw [← eg137]; exact sp140⟩)
  · exact tw_throwS (i := 13) (by decide +kernel) w_471 w_88 rfl at_ISE dX5_owe_48 dX5_owe_51 dX5_owe_52 dX5_owe_54 dX5_owe_57 ⟨by decide, Nat.le_of_ble_eq_true rfl⟩ (Nat.le_of_ble_eq_true rfl) (Nat.le_of_ble_eq_true rfl) (Or.inr ⟨_, rfl, (Or.inr (Or.inr (rfl))), _, sp0⟩)

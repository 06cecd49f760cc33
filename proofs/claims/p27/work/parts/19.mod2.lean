/-! the class's methods over the typed heap. Laid by wip/p5/mkclass.py. -/
set_option maxHeartbeats 4000000 in
set_option maxRecDepth 100000 in
theorem c_X10_isNoChange (d : tw_D) (g : tw_G) (τ : tw_K) (h : tw_H) (hw : tw_wt d g τ h) (x : Nat) (kx : τ x = 36) (y : Nat) (ky : τ y = 23) (m : Int32) (gr : Int32) (hm : m = 0 ∨ m = 1) : tw_Ct d mX10_isNoChange 0 0 [.ref x, .ref y, .int m, .int gr] h (tw_qi (fun r h1 => h1 = h ∧ (r = 1 ∨ r = 0 ∧ ∃ i, i < g.2 3 ∧ tw_th (h y) = nI i)) tw_nx) := by
  refine tw_of (by decide +kernel) (Nat.le_of_ble_eq_true rfl) ?_
  show tw_W d mX10_isNoChange _ 0 [(0, .ref x), (1, .ref y), (2, .int m), (3, .int gr)] [] h 0 0
  have sp0 := tw_sp.rf hw
  refine tw_aload_n 1 dX10_isNoChange_0 rfl rfl ?_
  obtain ⟨e1, f2, x_3, y_4, dy_5, p_6, rfl, k7, k8, k9, k10⟩ := sp0.1 y 23 ky (by decide)
  refine tw_get (v := .int x_3) rfl in_13 0 dX10_isNoChange_1 w_1338 rfl (by decide) f2 rfl ?_
  refine tw_iconst (v := -1) dX10_isNoChange_4 (by decide) ?_
  refine tw_icmp_eq 20 dX10_isNoChange_5 (by decide) (fun c11 => ?_) (fun c11 => ?_)
  · refine tw_iconst (v := 1) dX10_isNoChange_20 (by decide) ?_
    exact tw_zret dX10_isNoChange_21 rfl rfl (Or.inl ⟨_, rfl, ⟨rfl, (Or.inl rfl)⟩⟩)
  · refine tw_aload_n 1 dX10_isNoChange_8 rfl rfl ?_
    refine tw_get (v := .ref p_6) rfl in_13 3 dX10_isNoChange_9 w_1344 rfl (by decide) f2 rfl ?_
    refine tw_iload_n 2 dX10_isNoChange_12 rfl rfl ?_
    obtain ⟨e12, f13, F14, rfl, pf15⟩ := sp0.1 p_6 31 k7 (by decide)
    obtain ⟨v16, ev16⟩ : ∃ y : Int64, F14 (m).toNatClampNeg = y := ⟨_, rfl⟩
    refine tw_lald (v := v16) dX10_isNoChange_13 f13 (tw_in01 hm (by decide)) ev16 ?_
    refine tw_iload_n 3 dX10_isNoChange_14 rfl rfl ?_
    refine tw_i2l dX10_isNoChange_15 ?_
    refine tw_nml (fun v17 ev17 => ?_)
    refine tw_lcmp dX10_isNoChange_16 ?_
    refine tw_nmi (fun v18 ev18 => ?_)
    refine tw_if_ge 22 dX10_isNoChange_17 (by decide) (fun c19 => ?_) (fun c19 => ?_)
    · refine tw_aload_n 0 dX10_isNoChange_22 rfl rfl ?_
      obtain ⟨e20, f21, th_22, td_23, ds_24, fr_25, ca_26, us_27, wo_28, cm_29, lc_30, lh_31, ld_32, rfl, k33, k34, k35, k36, k37, k38, k39, k40, k41, k42, k43, k44, k45, k46, k47, k48, k49, k50, k51, k52, k53, k54⟩ := sp0.1 x 36 kx (by decide)
      refine tw_get (v := .ref lc_30) rfl in_14 9 dX10_isNoChange_23 w_1160 rfl (by decide) f21 rfl ?_
      refine tw_aload_n 1 dX10_isNoChange_26 rfl rfl ?_
      refine tw_get (v := .int x_3) rfl in_13 0 dX10_isNoChange_27 w_1338 rfl (by decide) f2 rfl ?_
      obtain ⟨j55, hj56, ej57⟩ := k8.resolve_left c11
      subst ej57
      obtain ⟨e58, f59, ⟨el60, rfl, k61⟩, k62⟩ := sp0.1 lc_30 24 k39 (by decide)
      refine tw_br (tw_callV (M := mX10_isNoChange) (pc := 30) okJx4a65c_get_915e3 dX10_isNoChange_30 w_1292 rfl f59 [.int (nI j55)] [] rfl rfl ⟨by decide, by decide⟩ (Nat.le_of_ble_eq_true rfl) (c24_get d g τ h sp0.1 lc_30 k39 j55 (by omega) (by omega)) 0 0 (Nat.le_of_ble_eq_true rfl) (Nat.le_of_ble_eq_true rfl)) (fun r65 h64 q63 => ?_) (fun E h1 q => q.elim)
      obtain ⟨q63e, q63k⟩ := q63
      rw [q63e]
      have el66 : tw_el h (g.2 12) j55 = r65 := by rw [← k62]; exact q63k.2.symm
      have kl67 : τ (g.2 12) = 24 := by rw [← k62]; exact k39
      obtain ⟨e68, f69, r_70, c_71, v_72, o_73, t_74, rfl, k75, k76, k77, k78, k79, k80⟩ := sp0.1 r65 21 q63k.1 (by decide)
      refine tw_castS (ci := 11) rfl dX10_isNoChange_33 w_1208 f69 ?_
      refine tw_astore [(4, .ref r65), (0, .ref x), (1, .ref y), (2, .int m), (3, .int gr)] dX10_isNoChange_36 (by decide) rfl ?_
      refine tw_aload 0 dX10_isNoChange_38 rfl ?_
      refine tw_get (v := .ref o_73) rfl in_11 3 dX10_isNoChange_40 w_1219 rfl (by decide) f69 rfl ?_
      refine tw_iload_n 3 dX10_isNoChange_43 rfl rfl ?_
      obtain ⟨e81, f82, F83, rfl, k85, pf84⟩ := sp0.1 o_73 32 k76 (by decide)
      obtain ⟨v86, ev86⟩ : ∃ y : Int32, F83 (m).toNatClampNeg = y := ⟨_, rfl⟩
      refine tw_zald (v := v86) dX10_isNoChange_44 f82 (tw_in01 hm (by decide)) ev86 ?_
      refine tw_if_eq 69 dX10_isNoChange_45 (by decide) (fun c87 => ?_) (fun c87 => ?_)
      · refine tw_iconst (v := 1) dX10_isNoChange_69 (by decide) ?_
        refine tw_goto 74 dX10_isNoChange_70 (by decide) ?_
        exact tw_zret dX10_isNoChange_74 rfl rfl (Or.inl ⟨_, rfl, ⟨rfl, (Or.inl rfl)⟩⟩)
      · refine tw_aload 0 dX10_isNoChange_48 rfl ?_
        refine tw_get (v := .ref v_72) rfl in_11 2 dX10_isNoChange_50 w_1217 rfl (by decide) f69 rfl ?_
        refine tw_iconst (v := 1) dX10_isNoChange_53 (by decide) ?_
        refine tw_iload_n 3 dX10_isNoChange_54 rfl rfl ?_
        refine tw_isub dX10_isNoChange_55 ?_
        refine tw_nmi (fun v88 ev88 => ?_)
        obtain ⟨e89, f90, F91, rfl, pf92⟩ := sp0.1 v_72 31 k75 (by decide)
        obtain ⟨v93, ev93⟩ : ∃ y : Int64, F91 (v88).toNatClampNeg = y := ⟨_, rfl⟩
        refine tw_lald (v := v93) dX10_isNoChange_56 f90 (tw_in01 (tw_1m hm ev88) (by decide)) ev93 ?_
        refine tw_aload 0 dX10_isNoChange_57 rfl ?_
        refine tw_iload_n 3 dX10_isNoChange_59 rfl rfl ?_
        refine tw_iload_n 4 dX10_isNoChange_60 rfl rfl ?_
        refine tw_i2l dX10_isNoChange_61 ?_
        refine tw_nml (fun v94 ev94 => ?_)
        refine tw_bl (tw_callS (M := mX10_isNoChange) (pc := 62) okX10_given dX10_isNoChange_62 w_1366 [.ref r65, .int m, .long v94] [.long v93] rfl rfl ⟨by decide, by decide⟩ (Nat.le_of_ble_eq_true rfl) (c_X10_given d g τ h sp0.1 r65 q63k.1 m v94) 0 0 (Nat.le_of_ble_eq_true rfl) (Nat.le_of_ble_eq_true rfl)) (fun r97 h96 q95 => ?_) (fun E h1 q => q.elim)
        rw [q95]
        refine tw_lcmp dX10_isNoChange_65 ?_
        refine tw_nmi (fun v98 ev98 => ?_)
        refine tw_if_ge 73 dX10_isNoChange_66 (by decide) (fun c99 => ?_) (fun c99 => ?_)
        · refine tw_iconst (v := 0) dX10_isNoChange_73 (by decide) ?_
          exact tw_zret dX10_isNoChange_74 rfl rfl (Or.inl ⟨_, rfl, ⟨rfl, (Or.inr ⟨rfl, j55, by omega, by rw [f2]; rfl⟩)⟩⟩)
        · refine tw_iconst (v := 1) dX10_isNoChange_69 (by decide) ?_
          refine tw_goto 74 dX10_isNoChange_70 (by decide) ?_
          exact tw_zret dX10_isNoChange_74 rfl rfl (Or.inl ⟨_, rfl, ⟨rfl, (Or.inl rfl)⟩⟩)
    · refine tw_iconst (v := 1) dX10_isNoChange_20 (by decide) ?_
      exact tw_zret dX10_isNoChange_21 rfl rfl (Or.inl ⟨_, rfl, ⟨rfl, (Or.inl rfl)⟩⟩)

set_option maxHeartbeats 4000000 in
set_option maxRecDepth 100000 in
theorem c_X10_due (d : tw_D) (g : tw_G) (τ : tw_K) (h : tw_H) (hw : tw_wt d g τ h) (x : Nat) (kx : τ x = 36) (y : Nat) (ky : τ y = 22) : tw_Ct d mX10_due 0 0 [.ref x, .ref y] h (tw_qi (fun r h1 => h1 = h) tw_nx) := by
  refine tw_of (by decide +kernel) (Nat.le_of_ble_eq_true rfl) ?_
  show tw_W d mX10_due _ 0 [(0, .ref x), (1, .ref y)] [] h 0 0
  have sp0 := tw_sp.rf hw
  refine tw_aload_n 1 dX10_due_0 rfl rfl ?_
  obtain ⟨e1, f2, v_3, dy_4, pd_5, i_6, j_7, rfl, k8, k9, k10, k11⟩ := sp0.1 y 22 ky (by decide)
  refine tw_get (v := .int pd_5) rfl in_12 4 dX10_due_1 w_1443 rfl (by decide) f2 rfl ?_
  refine tw_if_eq 11 dX10_due_4 (by decide) (fun c12 => ?_) (fun c12 => ?_)
  · refine tw_aload_n 1 dX10_due_11 rfl rfl ?_
    refine tw_get (v := .int v_3) rfl in_12 2 dX10_due_12 w_1441 rfl (by decide) f2 rfl ?_
    refine tw_aload_n 1 dX10_due_15 rfl rfl ?_
    refine tw_get (v := .int v_3) rfl in_12 2 dX10_due_16 w_1441 rfl (by decide) f2 rfl ?_
    refine tw_bipush (v := 100) dX10_due_19 (by decide) ?_
    refine tw_idiv dX10_due_21 (by decide) ?_
    refine tw_nmi (fun v13 ev13 => ?_)
    refine tw_iconst (v := 0) dX10_due_22 (by decide) ?_
    refine tw_aload_n 0 dX10_due_23 rfl rfl ?_
    obtain ⟨e14, f15, th_16, td_17, ds_18, fr_19, ca_20, us_21, wo_22, cm_23, lc_24, lh_25, ld_26, rfl, k27, k28, k29, k30, k31, k32, k33, k34, k35, k36, k37, k38, k39, k40, k41, k42, k43, k44, k45, k46, k47, k48⟩ := sp0.1 x 36 kx (by decide)
    refine tw_get (v := .int td_17) rfl in_14 1 dX10_due_24 w_1152 rfl (by decide) f15 rfl ?_
    refine tw_aload_n 1 dX10_due_27 rfl rfl ?_
    refine tw_get (v := .int dy_4) rfl in_12 3 dX10_due_28 w_1442 rfl (by decide) f2 rfl ?_
    refine tw_isub dX10_due_31 ?_
    refine tw_nmi (fun v49 ev49 => ?_)
    refine tw_mmax dX10_due_32 w_1471 w_875 w_93 w_876 ⟨by decide, Nat.le_of_ble_eq_true rfl⟩ ?_
    refine tw_nmi (fun v50 ev50 => ?_)
    refine tw_bipush (v := 10) dX10_due_35 (by decide) ?_
    refine tw_idiv dX10_due_37 (by decide) ?_
    refine tw_nmi (fun v51 ev51 => ?_)
    refine tw_imul dX10_due_38 ?_
    refine tw_nmi (fun v52 ev52 => ?_)
    refine tw_iadd dX10_due_39 ?_
    refine tw_nmi (fun v53 ev53 => ?_)
    exact tw_iret dX10_due_40 rfl (Or.inl ⟨_, rfl, rfl⟩)
  · refine tw_iconst (v := 0) dX10_due_7 (by decide) ?_
    refine tw_goto 40 dX10_due_8 (by decide) ?_
    exact tw_iret dX10_due_40 rfl (Or.inl ⟨_, rfl, rfl⟩)

set_option maxHeartbeats 4000000 in
set_option maxRecDepth 100000 in
theorem c_X10_toPay (d : tw_D) (g : tw_G) (τ : tw_K) (h : tw_H) (hw : tw_wt d g τ h) (x : Nat) (kx : τ x = 36) (y : Nat) (ky : τ y = 22) (m : Int32) (a i : Nat) (ha : a < g.2 4) (hd1 : tw_th (h y) = nI a) (hi : i < g.2 3) (hd2 : tw_th (h (tw_el h (g.2 13) a)) = nI i) : tw_Ct d mX10_toPay 0 0 [.ref x, .ref y, .int m] h (tw_ql (fun r h1 => h1 = h) tw_nx) := by
  refine tw_of (by decide +kernel) (Nat.le_of_ble_eq_true rfl) ?_
  show tw_W d mX10_toPay _ 0 [(0, .ref x), (1, .ref y), (2, .int m)] [] h 0 0
  have sp0 := tw_sp.rf hw
  refine tw_iload_n 2 dX10_toPay_0 rfl rfl ?_
  refine tw_iconst (v := 1) dX10_toPay_1 (by decide) ?_
  refine tw_icmp_ne 14 dX10_toPay_2 (by decide) (fun c1 => ?_) (fun c1 => ?_)
  · refine tw_ldc2 (v := 10) dX10_toPay_14 w_1369 ?_
    refine tw_aload_n 0 dX10_toPay_17 rfl rfl ?_
    refine tw_aload_n 1 dX10_toPay_18 rfl rfl ?_
    obtain ⟨e2, f3, th_4, td_5, ds_6, fr_7, ca_8, us_9, wo_10, cm_11, lc_12, lh_13, ld_14, rfl, k15, k16, k17, k18, k19, k20, k21, k22, k23, k24, k25, k26, k27, k28, k29, k30, k31, k32, k33, k34, k35, k36⟩ := sp0.1 x 36 kx (by decide)
    refine tw_bi (tw_callV (M := mX10_toPay) (pc := 19) okX10_due dX10_toPay_19 w_1467 rfl f3 [.ref y] [.long 10] rfl rfl ⟨by decide, by decide⟩ (Nat.le_of_ble_eq_true rfl) (c_X10_due d g τ h sp0.1 x kx y ky) 0 0 (Nat.le_of_ble_eq_true rfl) (Nat.le_of_ble_eq_true rfl)) (fun r39 h38 q37 => ?_) (fun E h1 q => q.elim)
    rw [q37]
    refine tw_i2l dX10_toPay_22 ?_
    refine tw_nml (fun v40 ev40 => ?_)
    refine tw_lmul dX10_toPay_23 ?_
    refine tw_nml (fun v41 ev41 => ?_)
    refine tw_aload_n 0 dX10_toPay_24 rfl rfl ?_
    refine tw_get (v := .ref lc_12) rfl in_14 9 dX10_toPay_25 w_1160 rfl (by decide) f3 rfl ?_
    refine tw_aload_n 0 dX10_toPay_28 rfl rfl ?_
    refine tw_get (v := .ref lh_13) rfl in_14 10 dX10_toPay_29 w_1161 rfl (by decide) f3 rfl ?_
    refine tw_aload_n 1 dX10_toPay_32 rfl rfl ?_
    obtain ⟨e42, f43, v_44, dy_45, pd_46, i_47, j_48, rfl, k49, k50, k51, k52⟩ := sp0.1 y 22 ky (by decide)
    refine tw_get (v := .int (nI i_47)) rfl in_12 0 dX10_toPay_33 w_1439 rfl (by decide) f43 rfl ?_
    obtain ⟨e53, f54, ⟨el55, rfl, k56⟩, k57⟩ := sp0.1 lh_13 25 k22 (by decide)
    refine tw_br (tw_callV (M := mX10_toPay) (pc := 36) okJx4a65c_get_915e3 dX10_toPay_36 w_1292 rfl f54 [.int (nI i_47)] [.ref lc_12, .long v41] rfl rfl ⟨by decide, by decide⟩ (Nat.le_of_ble_eq_true rfl) (c25_get d g τ h sp0.1 lh_13 k22 i_47 (by omega) (by omega)) 0 0 (Nat.le_of_ble_eq_true rfl) (Nat.le_of_ble_eq_true rfl)) (fun r60 h59 q58 => ?_) (fun E h1 q => q.elim)
    obtain ⟨q58e, q58k⟩ := q58
    rw [q58e]
    have el61 : tw_el h (g.2 13) i_47 = r60 := by rw [← k57]; exact q58k.2.symm
    have kl62 : τ (g.2 13) = 25 := by rw [← k57]; exact k22
    obtain ⟨e63, f64, x_65, y_66, dy_67, p_68, rfl, k69, k70, k71, k72⟩ := sp0.1 r60 23 q58k.1 (by decide)
    refine tw_castS (ci := 13) rfl dX10_toPay_39 w_1332 f64 ?_
    refine tw_get (v := .int x_65) rfl in_13 0 dX10_toPay_42 w_1338 rfl (by decide) f64 rfl ?_
    have q73 : i_47 = a := tw_nIj (by have z := hd1; rw [f43] at z; exact z) (by omega) (by omega)
    have q74 : x_65 = nI i := by have z := hd2; rw [← q73, el61, f64] at z; exact z
    subst q74
    obtain ⟨e75, f76, ⟨el77, rfl, k78⟩, k79⟩ := sp0.1 lc_12 24 k21 (by decide)
    refine tw_br (tw_callV (M := mX10_toPay) (pc := 45) okJx4a65c_get_915e3 dX10_toPay_45 w_1292 rfl f76 [.int (nI i)] [.long v41] rfl rfl ⟨by decide, by decide⟩ (Nat.le_of_ble_eq_true rfl) (c24_get d g τ h sp0.1 lc_12 k21 i (by omega) (by omega)) 0 0 (Nat.le_of_ble_eq_true rfl) (Nat.le_of_ble_eq_true rfl)) (fun r82 h81 q80 => ?_) (fun E h1 q => q.elim)
    obtain ⟨q80e, q80k⟩ := q80
    rw [q80e]
    have el83 : tw_el h (g.2 12) i = r82 := by rw [← k79]; exact q80k.2.symm
    have kl84 : τ (g.2 12) = 24 := by rw [← k79]; exact k21
    obtain ⟨e85, f86, r_87, c_88, v_89, o_90, t_91, rfl, k92, k93, k94, k95, k96, k97⟩ := sp0.1 r82 21 q80k.1 (by decide)
    refine tw_castS (ci := 11) rfl dX10_toPay_48 w_1208 f86 ?_
    refine tw_get (v := .int r_87) rfl in_11 0 dX10_toPay_51 w_1214 rfl (by decide) f86 rfl ?_
    refine tw_i2l dX10_toPay_54 ?_
    refine tw_nml (fun v98 ev98 => ?_)
    refine tw_bl (tw_callS (M := mX10_toPay) (pc := 55) okX10_up dX10_toPay_55 w_1371 [.long v41, .long v98] [] rfl rfl ⟨by decide, by decide⟩ (Nat.le_of_ble_eq_true rfl) (c_X10_up d g τ h sp0.1 v41 v98 (tw_nzl ev98 (tw_1le k95))) 0 0 (Nat.le_of_ble_eq_true rfl) (Nat.le_of_ble_eq_true rfl)) (fun r101 h100 q99 => ?_) (fun E h1 q => q.elim)
    rw [q99]
    exact tw_lret dX10_toPay_58 rfl (Or.inl ⟨_, rfl, rfl⟩)
  · refine tw_aload_n 0 dX10_toPay_5 rfl rfl ?_
    refine tw_aload_n 1 dX10_toPay_6 rfl rfl ?_
    obtain ⟨e102, f103, th_104, td_105, ds_106, fr_107, ca_108, us_109, wo_110, cm_111, lc_112, lh_113, ld_114, rfl, k115, k116, k117, k118, k119, k120, k121, k122, k123, k124, k125, k126, k127, k128, k129, k130, k131, k132, k133, k134, k135, k136⟩ := sp0.1 x 36 kx (by decide)
    refine tw_bi (tw_callV (M := mX10_toPay) (pc := 7) okX10_due dX10_toPay_7 w_1467 rfl f103 [.ref y] [] rfl rfl ⟨by decide, by decide⟩ (Nat.le_of_ble_eq_true rfl) (c_X10_due d g τ h sp0.1 x kx y ky) 0 0 (Nat.le_of_ble_eq_true rfl) (Nat.le_of_ble_eq_true rfl)) (fun r139 h138 q137 => ?_) (fun E h1 q => q.elim)
    rw [q137]
    refine tw_i2l dX10_toPay_10 ?_
    refine tw_nml (fun v140 ev140 => ?_)
    refine tw_goto 58 dX10_toPay_11 (by decide) ?_
    exact tw_lret dX10_toPay_58 rfl (Or.inl ⟨_, rfl, rfl⟩)

set_option maxHeartbeats 4000000 in
set_option maxRecDepth 100000 in
theorem c_X10_isNoPay (d : tw_D) (g : tw_G) (τ : tw_K) (h : tw_H) (hw : tw_wt d g τ h) (x : Nat) (kx : τ x = 36) (y : Nat) (ky : τ y = 22) (m : Int32) (hm : m = 0 ∨ m = 1) : tw_Ct d mX10_isNoPay 0 0 [.ref x, .ref y, .int m] h (tw_qi (fun r h1 => h1 = h ∧ (r = 1 ∨ r = 0 ∧ ∃ a i, a < g.2 4 ∧ tw_th (h y) = nI a ∧ i < g.2 3 ∧ tw_th (h (tw_el h (g.2 13) a)) = nI i)) tw_nx) := by
  refine tw_of (by decide +kernel) (Nat.le_of_ble_eq_true rfl) ?_
  show tw_W d mX10_isNoPay _ 0 [(0, .ref x), (1, .ref y), (2, .int m)] [] h 0 0
  have sp0 := tw_sp.rf hw
  refine tw_aload_n 0 dX10_isNoPay_0 rfl rfl ?_
  obtain ⟨e1, f2, th_3, td_4, ds_5, fr_6, ca_7, us_8, wo_9, cm_10, lc_11, lh_12, ld_13, rfl, k14, k15, k16, k17, k18, k19, k20, k21, k22, k23, k24, k25, k26, k27, k28, k29, k30, k31, k32, k33, k34, k35⟩ := sp0.1 x 36 kx (by decide)
  refine tw_get (v := .ref lh_12) rfl in_14 10 dX10_isNoPay_1 w_1161 rfl (by decide) f2 rfl ?_
  refine tw_aload_n 1 dX10_isNoPay_4 rfl rfl ?_
  obtain ⟨e36, f37, v_38, dy_39, pd_40, i_41, j_42, rfl, k43, k44, k45, k46⟩ := sp0.1 y 22 ky (by decide)
  refine tw_get (v := .int (nI i_41)) rfl in_12 0 dX10_isNoPay_5 w_1439 rfl (by decide) f37 rfl ?_
  obtain ⟨e47, f48, ⟨el49, rfl, k50⟩, k51⟩ := sp0.1 lh_12 25 k21 (by decide)
  refine tw_br (tw_callV (M := mX10_isNoPay) (pc := 8) okJx4a65c_get_915e3 dX10_isNoPay_8 w_1292 rfl f48 [.int (nI i_41)] [] rfl rfl ⟨by decide, by decide⟩ (Nat.le_of_ble_eq_true rfl) (c25_get d g τ h sp0.1 lh_12 k21 i_41 (by omega) (by omega)) 0 0 (Nat.le_of_ble_eq_true rfl) (Nat.le_of_ble_eq_true rfl)) (fun r54 h53 q52 => ?_) (fun E h1 q => q.elim)
  obtain ⟨q52e, q52k⟩ := q52
  rw [q52e]
  have el55 : tw_el h (g.2 13) i_41 = r54 := by rw [← k51]; exact q52k.2.symm
  have kl56 : τ (g.2 13) = 25 := by rw [← k51]; exact k21
  obtain ⟨e57, f58, x_59, y_60, dy_61, p_62, rfl, k63, k64, k65, k66⟩ := sp0.1 r54 23 q52k.1 (by decide)
  refine tw_castS (ci := 13) rfl dX10_isNoPay_11 w_1332 f58 ?_
  refine tw_astore_n [(3, .ref r54), (0, .ref x), (1, .ref y), (2, .int m)] dX10_isNoPay_14 rfl (by decide) rfl ?_
  refine tw_aload_n 2 dX10_isNoPay_15 rfl rfl ?_
  refine tw_get (v := .int pd_40) rfl in_12 4 dX10_isNoPay_16 w_1443 rfl (by decide) f37 rfl ?_
  refine tw_if_ne 67 dX10_isNoPay_19 (by decide) (fun c67 => ?_) (fun c67 => ?_)
  · refine tw_iconst (v := 1) dX10_isNoPay_67 (by decide) ?_
    refine tw_goto 72 dX10_isNoPay_68 (by decide) ?_
    exact tw_zret dX10_isNoPay_72 rfl rfl (Or.inl ⟨_, rfl, ⟨rfl, (Or.inl rfl)⟩⟩)
  · refine tw_aload_n 0 dX10_isNoPay_22 rfl rfl ?_
    refine tw_get (v := .int x_59) rfl in_13 0 dX10_isNoPay_23 w_1338 rfl (by decide) f58 rfl ?_
    refine tw_iconst (v := -1) dX10_isNoPay_26 (by decide) ?_
    refine tw_icmp_eq 67 dX10_isNoPay_27 (by decide) (fun c68 => ?_) (fun c68 => ?_)
    · refine tw_iconst (v := 1) dX10_isNoPay_67 (by decide) ?_
      refine tw_goto 72 dX10_isNoPay_68 (by decide) ?_
      exact tw_zret dX10_isNoPay_72 rfl rfl (Or.inl ⟨_, rfl, ⟨rfl, (Or.inl rfl)⟩⟩)
    · refine tw_aload_n 1 dX10_isNoPay_30 rfl rfl ?_
      refine tw_get (v := .ref lh_12) rfl in_14 10 dX10_isNoPay_31 w_1161 rfl (by decide) f2 rfl ?_
      refine tw_aload_n 2 dX10_isNoPay_34 rfl rfl ?_
      refine tw_get (v := .int (nI j_42)) rfl in_12 1 dX10_isNoPay_35 w_1440 rfl (by decide) f37 rfl ?_
      refine tw_br (tw_callV (M := mX10_isNoPay) (pc := 38) okJx4a65c_get_915e3 dX10_isNoPay_38 w_1292 rfl f48 [.int (nI j_42)] [] rfl rfl ⟨by decide, by decide⟩ (Nat.le_of_ble_eq_true rfl) (c25_get d g τ h sp0.1 lh_12 k21 j_42 (by omega) (by omega)) 0 0 (Nat.le_of_ble_eq_true rfl) (Nat.le_of_ble_eq_true rfl)) (fun r71 h70 q69 => ?_) (fun E h1 q => q.elim)
      obtain ⟨q69e, q69k⟩ := q69
      rw [q69e]
      have el72 : tw_el h (g.2 13) j_42 = r71 := by rw [← k51]; exact q69k.2.symm
      have kl73 : τ (g.2 13) = 25 := by rw [← k51]; exact k21
      obtain ⟨e74, f75, x_76, y_77, dy_78, p_79, rfl, k80, k81, k82, k83⟩ := sp0.1 r71 23 q69k.1 (by decide)
      refine tw_castS (ci := 13) rfl dX10_isNoPay_41 w_1332 f75 ?_
      refine tw_get (v := .int x_76) rfl in_13 0 dX10_isNoPay_44 w_1338 rfl (by decide) f75 rfl ?_
      refine tw_iconst (v := -1) dX10_isNoPay_47 (by decide) ?_
      refine tw_icmp_eq 67 dX10_isNoPay_48 (by decide) (fun c84 => ?_) (fun c84 => ?_)
      · refine tw_iconst (v := 1) dX10_isNoPay_67 (by decide) ?_
        refine tw_goto 72 dX10_isNoPay_68 (by decide) ?_
        exact tw_zret dX10_isNoPay_72 rfl rfl (Or.inl ⟨_, rfl, ⟨rfl, (Or.inl rfl)⟩⟩)
      · refine tw_aload_n 0 dX10_isNoPay_51 rfl rfl ?_
        refine tw_get (v := .ref p_62) rfl in_13 3 dX10_isNoPay_52 w_1344 rfl (by decide) f58 rfl ?_
        refine tw_iload_n 3 dX10_isNoPay_55 rfl rfl ?_
        obtain ⟨e85, f86, F87, rfl, pf88⟩ := sp0.1 p_62 31 k63 (by decide)
        obtain ⟨v89, ev89⟩ : ∃ y : Int64, F87 (m).toNatClampNeg = y := ⟨_, rfl⟩
        refine tw_lald (v := v89) dX10_isNoPay_56 f86 (tw_in01 hm (by decide)) ev89 ?_
        refine tw_aload_n 1 dX10_isNoPay_57 rfl rfl ?_
        refine tw_aload_n 2 dX10_isNoPay_58 rfl rfl ?_
        refine tw_iload_n 3 dX10_isNoPay_59 rfl rfl ?_
        obtain ⟨j90, hj91, ej92⟩ := k64.resolve_left c68
        subst ej92
        refine tw_bl (tw_callV (M := mX10_isNoPay) (pc := 60) okX10_toPay dX10_isNoPay_60 w_1463 rfl f2 [.ref y, .int m] [.long v89] rfl rfl ⟨by decide, by decide⟩ (Nat.le_of_ble_eq_true rfl) (c_X10_toPay d g τ h sp0.1 x kx y ky m i_41 j90 (by omega) (by rw [f37]; rfl) (by omega) (by rw [el55, f58]; rfl)) 0 0 (Nat.le_of_ble_eq_true rfl) (Nat.le_of_ble_eq_true rfl)) (fun r95 h94 q93 => ?_) (fun E h1 q => q.elim)
        rw [q93]
        refine tw_lcmp dX10_isNoPay_63 ?_
        refine tw_nmi (fun v96 ev96 => ?_)
        refine tw_if_ge 71 dX10_isNoPay_64 (by decide) (fun c97 => ?_) (fun c97 => ?_)
        · refine tw_iconst (v := 0) dX10_isNoPay_71 (by decide) ?_
          exact tw_zret dX10_isNoPay_72 rfl rfl (Or.inl ⟨_, rfl, ⟨rfl, (Or.inr ⟨rfl, i_41, j90, by omega, by rw [f37]; rfl, by omega, by rw [el55, f58]; rfl⟩)⟩⟩)
        · refine tw_iconst (v := 1) dX10_isNoPay_67 (by decide) ?_
          refine tw_goto 72 dX10_isNoPay_68 (by decide) ?_
          exact tw_zret dX10_isNoPay_72 rfl rfl (Or.inl ⟨_, rfl, ⟨rfl, (Or.inl rfl)⟩⟩)

set_option maxHeartbeats 4000000 in
set_option maxRecDepth 100000 in
theorem c_X10_cheaper (d : tw_D) (g : tw_G) (τ : tw_K) (h : tw_H) (hw : tw_wt d g τ h) (x : Nat) (kx : τ x = 36) (y : Nat) (ky : τ y = 22) : tw_Ct d mX10_cheaper 0 0 [.ref x, .ref y] h (tw_qi (fun r h1 => h1 = h) tw_nx) := by
  refine tw_of (by decide +kernel) (Nat.le_of_ble_eq_true rfl) ?_
  show tw_W d mX10_cheaper _ 0 [(0, .ref x), (1, .ref y)] [] h 0 0
  have sp0 := tw_sp.rf hw
  refine tw_aload_n 1 dX10_cheaper_0 rfl rfl ?_
  obtain ⟨e1, f2, v_3, dy_4, pd_5, i_6, j_7, rfl, k8, k9, k10, k11⟩ := sp0.1 y 22 ky (by decide)
  refine tw_get (v := .int pd_5) rfl in_12 4 dX10_cheaper_1 w_1443 rfl (by decide) f2 rfl ?_
  refine tw_if_ne 28 dX10_cheaper_4 (by decide) (fun c12 => ?_) (fun c12 => ?_)
  · refine tw_iconst (v := -1) dX10_cheaper_28 (by decide) ?_
    exact tw_iret dX10_cheaper_29 rfl (Or.inl ⟨_, rfl, rfl⟩)
  · refine tw_aload_n 0 dX10_cheaper_7 rfl rfl ?_
    obtain ⟨e13, f14, th_15, td_16, ds_17, fr_18, ca_19, us_20, wo_21, cm_22, lc_23, lh_24, ld_25, rfl, k26, k27, k28, k29, k30, k31, k32, k33, k34, k35, k36, k37, k38, k39, k40, k41, k42, k43, k44, k45, k46, k47⟩ := sp0.1 x 36 kx (by decide)
    refine tw_get (v := .ref lh_24) rfl in_14 10 dX10_cheaper_8 w_1161 rfl (by decide) f14 rfl ?_
    refine tw_aload_n 1 dX10_cheaper_11 rfl rfl ?_
    refine tw_get (v := .int (nI i_6)) rfl in_12 0 dX10_cheaper_12 w_1439 rfl (by decide) f2 rfl ?_
    obtain ⟨e48, f49, ⟨el50, rfl, k51⟩, k52⟩ := sp0.1 lh_24 25 k33 (by decide)
    refine tw_br (tw_callV (M := mX10_cheaper) (pc := 15) okJx4a65c_get_915e3 dX10_cheaper_15 w_1292 rfl f49 [.int (nI i_6)] [] rfl rfl ⟨by decide, by decide⟩ (Nat.le_of_ble_eq_true rfl) (c25_get d g τ h sp0.1 lh_24 k33 i_6 (by omega) (by omega)) 0 0 (Nat.le_of_ble_eq_true rfl) (Nat.le_of_ble_eq_true rfl)) (fun r55 h54 q53 => ?_) (fun E h1 q => q.elim)
    obtain ⟨q53e, q53k⟩ := q53
    rw [q53e]
    have el56 : tw_el h (g.2 13) i_6 = r55 := by rw [← k52]; exact q53k.2.symm
    have kl57 : τ (g.2 13) = 25 := by rw [← k52]; exact k33
    obtain ⟨e58, f59, x_60, y_61, dy_62, p_63, rfl, k64, k65, k66, k67⟩ := sp0.1 r55 23 q53k.1 (by decide)
    refine tw_castS (ci := 13) rfl dX10_cheaper_18 w_1332 f59 ?_
    refine tw_get (v := .int x_60) rfl in_13 0 dX10_cheaper_21 w_1338 rfl (by decide) f59 rfl ?_
    refine tw_iconst (v := -1) dX10_cheaper_24 (by decide) ?_
    refine tw_icmp_ne 30 dX10_cheaper_25 (by decide) (fun c68 => ?_) (fun c68 => ?_)
    · refine tw_aload_n 0 dX10_cheaper_30 rfl rfl ?_
      refine tw_aload_n 1 dX10_cheaper_31 rfl rfl ?_
      refine tw_iconst (v := 0) dX10_cheaper_32 (by decide) ?_
      obtain ⟨j69, hj70, ej71⟩ := k65.resolve_left c68
      subst ej71
      refine tw_bl (tw_callV (M := mX10_cheaper) (pc := 33) okX10_toPay dX10_cheaper_33 w_1463 rfl f14 [.ref y, .int 0] [] rfl rfl ⟨by decide, by decide⟩ (Nat.le_of_ble_eq_true rfl) (c_X10_toPay d g τ h sp0.1 x kx y ky 0 i_6 j69 (by omega) (by rw [f2]; rfl) (by omega) (by rw [el56, f59]; rfl)) 0 0 (Nat.le_of_ble_eq_true rfl) (Nat.le_of_ble_eq_true rfl)) (fun r74 h73 q72 => ?_) (fun E h1 q => q.elim)
      rw [q72]
      refine tw_aload_n 0 dX10_cheaper_36 rfl rfl ?_
      refine tw_get (v := .int (g.1 1)) rfl in_14 2 dX10_cheaper_37 w_1153 rfl (by decide) f14 rfl ?_
      refine tw_i2l dX10_cheaper_40 ?_
      refine tw_nml (fun v75 ev75 => ?_)
      refine tw_lmul dX10_cheaper_41 ?_
      refine tw_nml (fun v76 ev76 => ?_)
      refine tw_ldc2 (v := 10) dX10_cheaper_42 w_1369 ?_
      refine tw_ldiv dX10_cheaper_45 (by decide) ?_
      refine tw_nml (fun v77 ev77 => ?_)
      refine tw_aload_n 0 dX10_cheaper_46 rfl rfl ?_
      refine tw_aload_n 1 dX10_cheaper_47 rfl rfl ?_
      refine tw_iconst (v := 1) dX10_cheaper_48 (by decide) ?_
      refine tw_bl (tw_callV (M := mX10_cheaper) (pc := 49) okX10_toPay dX10_cheaper_49 w_1463 rfl f14 [.ref y, .int 1] [.long v77] rfl rfl ⟨by decide, by decide⟩ (Nat.le_of_ble_eq_true rfl) (c_X10_toPay d g τ h sp0.1 x kx y ky 1 i_6 j69 (by omega) (by rw [f2]; rfl) (by omega) (by rw [el56, f59]; rfl)) 0 0 (Nat.le_of_ble_eq_true rfl) (Nat.le_of_ble_eq_true rfl)) (fun r80 h79 q78 => ?_) (fun E h1 q => q.elim)
      rw [q78]
      refine tw_lcmp dX10_cheaper_52 ?_
      refine tw_nmi (fun v81 ev81 => ?_)
      refine tw_if_ge 60 dX10_cheaper_53 (by decide) (fun c82 => ?_) (fun c82 => ?_)
      · refine tw_iconst (v := 1) dX10_cheaper_60 (by decide) ?_
        exact tw_iret dX10_cheaper_61 rfl (Or.inl ⟨_, rfl, rfl⟩)
      · refine tw_iconst (v := 0) dX10_cheaper_56 (by decide) ?_
        refine tw_goto 61 dX10_cheaper_57 (by decide) ?_
        exact tw_iret dX10_cheaper_61 rfl (Or.inl ⟨_, rfl, rfl⟩)
    · refine tw_iconst (v := -1) dX10_cheaper_28 (by decide) ?_
      exact tw_iret dX10_cheaper_29 rfl (Or.inl ⟨_, rfl, rfl⟩)

set_option maxHeartbeats 4000000 in
set_option maxRecDepth 100000 in
theorem c_X10_tripNow (d : tw_D) (g : tw_G) (τ : tw_K) (h : tw_H) (hw : tw_wt d g τ h) (x : Nat) (kx : τ x = 36) (m : Int32) (gr : Int64) (a b : Nat) (ha : a < g.2 3) (hb : b < g.2 3) : tw_Ct d mX10_tripNow 0 0 [.ref x, .int (nI a), .int (nI b), .int m, .long gr] h (tw_ql (fun r h1 => h1 = h) tw_nx) := by
  refine tw_of (by decide +kernel) (Nat.le_of_ble_eq_true rfl) ?_
  show tw_W d mX10_tripNow _ 0 [(0, .ref x), (1, .int (nI a)), (2, .int (nI b)), (3, .int m), (4, .long gr)] [] h 0 0
  have sp0 := tw_sp.rf hw
  refine tw_aload_n 0 dX10_tripNow_0 rfl rfl ?_
  obtain ⟨e1, f2, th_3, td_4, ds_5, fr_6, ca_7, us_8, wo_9, cm_10, lc_11, lh_12, ld_13, rfl, k14, k15, k16, k17, k18, k19, k20, k21, k22, k23, k24, k25, k26, k27, k28, k29, k30, k31, k32, k33, k34, k35⟩ := sp0.1 x 36 kx (by decide)
  refine tw_get (v := .ref lc_11) rfl in_14 9 dX10_tripNow_1 w_1160 rfl (by decide) f2 rfl ?_
  refine tw_iload_n 1 dX10_tripNow_4 rfl rfl ?_
  obtain ⟨e36, f37, ⟨el38, rfl, k39⟩, k40⟩ := sp0.1 lc_11 24 k20 (by decide)
  refine tw_br (tw_callV (M := mX10_tripNow) (pc := 5) okJx4a65c_get_915e3 dX10_tripNow_5 w_1292 rfl f37 [.int (nI a)] [] rfl rfl ⟨by decide, by decide⟩ (Nat.le_of_ble_eq_true rfl) (c24_get d g τ h sp0.1 lc_11 k20 a (by omega) (by omega)) 0 0 (Nat.le_of_ble_eq_true rfl) (Nat.le_of_ble_eq_true rfl)) (fun r43 h42 q41 => ?_) (fun E h1 q => q.elim)
  obtain ⟨q41e, q41k⟩ := q41
  rw [q41e]
  have el44 : tw_el h (g.2 12) a = r43 := by rw [← k40]; exact q41k.2.symm
  have kl45 : τ (g.2 12) = 24 := by rw [← k40]; exact k20
  obtain ⟨e46, f47, r_48, c_49, v_50, o_51, t_52, rfl, k53, k54, k55, k56, k57, k58⟩ := sp0.1 r43 21 q41k.1 (by decide)
  refine tw_castS (ci := 11) rfl dX10_tripNow_8 w_1208 f47 ?_
  refine tw_iload_n 3 dX10_tripNow_11 rfl rfl ?_
  refine tw_lload 4 dX10_tripNow_12 rfl ?_
  refine tw_bl (tw_callS (M := mX10_tripNow) (pc := 14) okX10_given dX10_tripNow_14 w_1366 [.ref r43, .int m, .long gr] [] rfl rfl ⟨by decide, by decide⟩ (Nat.le_of_ble_eq_true rfl) (c_X10_given d g τ h sp0.1 r43 q41k.1 m gr) 0 0 (Nat.le_of_ble_eq_true rfl) (Nat.le_of_ble_eq_true rfl)) (fun r61 h60 q59 => ?_) (fun E h1 q => q.elim)
  rw [q59]
  refine tw_lstore [(6, .long r61), (0, .ref x), (1, .int (nI a)), (2, .int (nI b)), (3, .int m), (4, .long gr)] dX10_tripNow_17 (by decide) rfl ?_
  refine tw_lload 0 dX10_tripNow_19 rfl ?_
  refine tw_lload 0 dX10_tripNow_21 rfl ?_
  refine tw_aload_n 1 dX10_tripNow_23 rfl rfl ?_
  refine tw_get (v := .ref fr_6) rfl in_14 4 dX10_tripNow_24 w_1155 rfl (by decide) f2 rfl ?_
  refine tw_iload_n 2 dX10_tripNow_27 rfl rfl ?_
  obtain ⟨e64, f65, F62, rfl, k63⟩ := sp0.1 fr_6 34 k15 (by decide)
  obtain ⟨q66, k67, k68, iq69⟩ := k63 ((nI a)).toNatClampNeg (by rw [nI_clamp (by omega)]; omega)
  refine tw_aald (v := .ref q66) 8 rfl rfl dX10_tripNow_28 f65 (vp_in_nI (by omega) (by decide)) (by rw [k67]; rfl) ?_
  refine tw_iload_n 3 dX10_tripNow_29 rfl rfl ?_
  obtain ⟨e70, f71, F72, rfl, pf73⟩ := sp0.1 q66 6 k68 (by decide)
  obtain ⟨v74, ev74⟩ : ∃ y : Int32, F72 ((nI b)).toNatClampNeg = y := ⟨_, rfl⟩
  refine tw_iald (v := v74) dX10_tripNow_30 f71 (vp_in_nI (by omega) (by decide)) ev74 ?_
  refine tw_i2l dX10_tripNow_31 ?_
  refine tw_nml (fun v75 ev75 => ?_)
  refine tw_lmul dX10_tripNow_32 ?_
  refine tw_nml (fun v76 ev76 => ?_)
  refine tw_ldc2 (v := 1000) dX10_tripNow_33 w_1370 ?_
  refine tw_bl (tw_callS (M := mX10_tripNow) (pc := 36) okX10_up dX10_tripNow_36 w_1371 [.long v76, .long 1000] [.long r61] rfl rfl ⟨by decide, by decide⟩ (Nat.le_of_ble_eq_true rfl) (c_X10_up d g τ h sp0.1 v76 1000 (by decide)) 0 0 (Nat.le_of_ble_eq_true rfl) (Nat.le_of_ble_eq_true rfl)) (fun r79 h78 q77 => ?_) (fun E h1 q => q.elim)
  rw [q77]
  refine tw_lsub dX10_tripNow_39 ?_
  refine tw_nml (fun v80 ev80 => ?_)
  refine tw_lstore [(6, .long v80), (0, .ref x), (1, .int (nI a)), (2, .int (nI b)), (3, .int m), (4, .long gr)] dX10_tripNow_40 (by decide) rfl ?_
  refine tw_aload_n 1 dX10_tripNow_42 rfl rfl ?_
  refine tw_get (v := .ref lc_11) rfl in_14 9 dX10_tripNow_43 w_1160 rfl (by decide) f2 rfl ?_
  refine tw_iload_n 3 dX10_tripNow_46 rfl rfl ?_
  refine tw_br (tw_callV (M := mX10_tripNow) (pc := 47) okJx4a65c_get_915e3 dX10_tripNow_47 w_1292 rfl f37 [.int (nI b)] [] rfl rfl ⟨by decide, by decide⟩ (Nat.le_of_ble_eq_true rfl) (c24_get d g τ h sp0.1 lc_11 k20 b (by omega) (by omega)) 0 0 (Nat.le_of_ble_eq_true rfl) (Nat.le_of_ble_eq_true rfl)) (fun r83 h82 q81 => ?_) (fun E h1 q => q.elim)
  obtain ⟨q81e, q81k⟩ := q81
  rw [q81e]
  have el84 : tw_el h (g.2 12) b = r83 := by rw [← k40]; exact q81k.2.symm
  have kl85 : τ (g.2 12) = 24 := by rw [← k40]; exact k20
  obtain ⟨e86, f87, r_88, c_89, v_90, o_91, t_92, rfl, k93, k94, k95, k96, k97, k98⟩ := sp0.1 r83 21 q81k.1 (by decide)
  refine tw_castS (ci := 11) rfl dX10_tripNow_50 w_1208 f87 ?_
  refine tw_iconst (v := 1) dX10_tripNow_53 (by decide) ?_
  refine tw_iload_n 4 dX10_tripNow_54 rfl rfl ?_
  refine tw_isub dX10_tripNow_55 ?_
  refine tw_nmi (fun v99 ev99 => ?_)
  refine tw_lload 0 dX10_tripNow_56 rfl ?_
  refine tw_bl (tw_callS (M := mX10_tripNow) (pc := 58) okX10_given dX10_tripNow_58 w_1366 [.ref r83, .int v99, .long v80] [] rfl rfl ⟨by decide, by decide⟩ (Nat.le_of_ble_eq_true rfl) (c_X10_given d g τ h sp0.1 r83 q81k.1 v99 v80) 0 0 (Nat.le_of_ble_eq_true rfl) (Nat.le_of_ble_eq_true rfl)) (fun r102 h101 q100 => ?_) (fun E h1 q => q.elim)
  rw [q100]
  refine tw_lstore [(8, .long r102), (6, .long v80), (0, .ref x), (1, .int (nI a)), (2, .int (nI b)), (3, .int m), (4, .long gr)] dX10_tripNow_61 (by decide) rfl ?_
  refine tw_lload 0 dX10_tripNow_63 rfl ?_
  refine tw_lload 0 dX10_tripNow_65 rfl ?_
  refine tw_aload_n 2 dX10_tripNow_67 rfl rfl ?_
  refine tw_get (v := .ref fr_6) rfl in_14 4 dX10_tripNow_68 w_1155 rfl (by decide) f2 rfl ?_
  refine tw_iload_n 4 dX10_tripNow_71 rfl rfl ?_
  obtain ⟨q103, k104, k105, iq106⟩ := k63 ((nI b)).toNatClampNeg (by rw [nI_clamp (by omega)]; omega)
  refine tw_aald (v := .ref q103) 8 rfl rfl dX10_tripNow_72 f65 (vp_in_nI (by omega) (by decide)) (by rw [k104]; rfl) ?_
  refine tw_iload_n 3 dX10_tripNow_73 rfl rfl ?_
  obtain ⟨e107, f108, F109, rfl, pf110⟩ := sp0.1 q103 6 k105 (by decide)
  obtain ⟨v111, ev111⟩ : ∃ y : Int32, F109 ((nI a)).toNatClampNeg = y := ⟨_, rfl⟩
  refine tw_iald (v := v111) dX10_tripNow_74 f108 (vp_in_nI (by omega) (by decide)) ev111 ?_
  refine tw_i2l dX10_tripNow_75 ?_
  refine tw_nml (fun v112 ev112 => ?_)
  refine tw_lmul dX10_tripNow_76 ?_
  refine tw_nml (fun v113 ev113 => ?_)
  refine tw_ldc2 (v := 1000) dX10_tripNow_77 w_1370 ?_
  refine tw_bl (tw_callS (M := mX10_tripNow) (pc := 80) okX10_up dX10_tripNow_80 w_1371 [.long v113, .long 1000] [.long r102] rfl rfl ⟨by decide, by decide⟩ (Nat.le_of_ble_eq_true rfl) (c_X10_up d g τ h sp0.1 v113 1000 (by decide)) 0 0 (Nat.le_of_ble_eq_true rfl) (Nat.le_of_ble_eq_true rfl)) (fun r116 h115 q114 => ?_) (fun E h1 q => q.elim)
  rw [q114]
  refine tw_lsub dX10_tripNow_83 ?_
  refine tw_nml (fun v117 ev117 => ?_)
  exact tw_lret dX10_tripNow_84 rfl (Or.inl ⟨_, rfl, rfl⟩)

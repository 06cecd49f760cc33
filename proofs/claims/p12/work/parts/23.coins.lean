/-! the class's methods over the typed heap. Laid by wip/p5/mkclass.py. -/
set_option maxHeartbeats 4000000 in
set_option maxRecDepth 100000 in
theorem c_X10_coinsNow (d : tw_D) (g : tw_G) (τ : tw_K) (h : tw_H) (hw : tw_wt d g τ h) (x : Nat) (kx : τ x = 36) (a l : Nat) (ha : a < g.2 3) (hl : l ≤ 400) : tw_Ct d mX10_coinsNow (tw_wy 5 l) (5 * tw_wy 5 l) [.ref x, .int (nI a), .int (nI l)] h (tw_qi (fun r h1 => tw_sp d τ h g τ h1) tw_nx) := by
  refine tw_of (by decide +kernel) (Nat.le_of_ble_eq_true rfl) ?_
  show tw_W d mX10_coinsNow _ 0 [(0, .ref x), (1, .int (nI a)), (2, .int (nI l))] [] h (tw_wy 5 l) (5 * tw_wy 5 l)
  have sp0 := tw_sp.rf hw
  refine tw_aload_n 0 dX10_coinsNow_0 rfl rfl ?_
  obtain ⟨e1, f2, th_3, td_4, ds_5, fr_6, ca_7, us_8, wo_9, cm_10, lc_11, lh_12, ld_13, rfl, k14, k15, k16, k17, k18, k19, k20, k21, k22, k23, k24, k25, k26, k27, k28, k29⟩ := sp0.1 x 36 kx (by decide)
  refine tw_get (v := .ref lc_11) rfl in_14 9 dX10_coinsNow_1 w_1160 rfl (by decide) f2 rfl ?_
  refine tw_iload_n 1 dX10_coinsNow_4 rfl rfl ?_
  obtain ⟨e30, f31, ⟨el32, rfl, k33⟩, k34⟩ := sp0.1 lc_11 24 k20 (by decide)
  refine tw_br (tw_callV (M := mX10_coinsNow) (pc := 5) okJx4a65c_get_915e3 dX10_coinsNow_5 w_1296 rfl f31 [.int (nI a)] [] rfl rfl ⟨by decide, by decide⟩ (Nat.le_of_ble_eq_true rfl) (c24_get d g τ h sp0.1 lc_11 k20 a (by omega) (by omega)) (tw_wy 5 l) (5 * tw_wy 5 l) (by omega) (by omega)) (fun r37 h36 q35 => ?_) (fun E h1 q => q.elim)
  obtain ⟨q35e, q35k⟩ := q35
  rw [q35e]
  have el38 : tw_el h (g.2 12) a = r37 := by rw [← k34]; exact q35k.2.symm
  have kl39 : τ (g.2 12) = 24 := by rw [← k34]; exact k20
  obtain ⟨e40, f41, r_42, c_43, v_44, o_45, t_46, rfl, k47, k48, k49, k50, k51⟩ := sp0.1 r37 21 q35k.1 (by decide)
  refine tw_castS (ci := 11) rfl dX10_coinsNow_8 w_1212 f41 ?_
  refine tw_get (v := .ref t_46) rfl in_11 4 dX10_coinsNow_11 w_1225 rfl (by decide) f41 rfl ?_
  refine tw_iconst (v := 0) dX10_coinsNow_14 (by decide) ?_
  refine tw_iload_n 2 dX10_coinsNow_15 rfl rfl ?_
  obtain ⟨e52, f53, F54, rfl, k55⟩ := sp0.1 t_46 33 k49 (by decide)
  refine tw_bq (tw_callS (okX10_best 5) dX10_coinsNow_16 w_1484 [.ref t_46, .int 0, .int (nI l)] [] rfl rfl ⟨by decide, by decide⟩ (Nat.le_of_ble_eq_true rfl) (c_best d 5 5 (Nat.le_refl _) (Nat.le_refl _) h t_46 l F54 f53 k55 hl) ((tw_wy 5 l) - (tw_wy 5 l)) ((5 * tw_wy 5 l) - (5 * tw_wy 5 l)) (by have := hl; omega) (by have := hl; omega)) (fun r58 h57 q56 => ?_) (fun E h1 q => q.elim)
  obtain ⟨q56g, q56r⟩ := q56
  have sp59 := sp0.tr (q56g.sp sp0.1)
  have f60 := q56g _ _ f2
  have f61 := q56g _ _ f31
  have f62 := q56g _ _ f41
  have f63 := q56g _ _ f53
  have el64 := (tw_el_gw sp0.1 q56g kl39 (by omega)).trans el38
  cases r58 with
  | none =>
    refine tw_astore_nN [(3, .null), (0, .ref x), (1, .int (nI a)), (2, .int (nI l))] dX10_coinsNow_19 rfl (by decide) rfl ?_
    refine tw_aload_nN 0 dX10_coinsNow_20 rfl rfl ?_
    refine tw_ifnonnullN dX10_coinsNow_21 ?_
    refine tw_iconst (v := -1) dX10_coinsNow_24 (by decide) ?_
    exact tw_iret dX10_coinsNow_25 rfl (Or.inl ⟨_, rfl, sp59⟩)
  | some b65 =>
    obtain ⟨hq66, G67, hG68, hGb69⟩ := q56r b65 rfl
    have n70 := sp0.nn hq66
    have z71 := sp0.1.none hq66
    refine tw_astore_n [(3, .ref b65), (0, .ref x), (1, .int (nI a)), (2, .int (nI l))] dX10_coinsNow_19 rfl (by decide) rfl ?_
    refine tw_aload_n 0 dX10_coinsNow_20 rfl rfl ?_
    refine tw_ifnonnull 26 dX10_coinsNow_21 (by decide) ?_
    refine tw_iconst (v := 0) dX10_coinsNow_26 (by decide) ?_
    refine tw_istore [(4, .int 0), (3, .ref b65), (0, .ref x), (1, .int (nI a)), (2, .int (nI l))] dX10_coinsNow_27 (by decide) rfl ?_
    refine tw_aload_n 1 dX10_coinsNow_29 rfl rfl ?_
    refine tw_astore [(5, .ref b65), (4, .int 0), (3, .ref b65), (0, .ref x), (1, .int (nI a)), (2, .int (nI l))] dX10_coinsNow_30 (by decide) rfl ?_
    refine tw_aload 0 dX10_coinsNow_32 rfl ?_
    refine tw_alen (v := nI 5) 0 rfl dX10_coinsNow_34 hG68 rfl ?_
    refine tw_istore [(6, .int (nI 5)), (5, .ref b65), (4, .int 0), (3, .ref b65), (0, .ref x), (1, .int (nI a)), (2, .int (nI l))] dX10_coinsNow_35 (by decide) rfl ?_
    refine tw_iconst (v := 0) dX10_coinsNow_37 (by decide) ?_
    refine tw_istore [(7, .int 0), (6, .int (nI 5)), (5, .ref b65), (4, .int 0), (3, .ref b65), (0, .ref x), (1, .int (nI a)), (2, .int (nI l))] dX10_coinsNow_38 (by decide) rfl ?_
    have L76 : ∀ (r74 k73 : Nat) (x72 : Int32), 5 + 1 ≤ k73 + r74 → k73 ≤ 5 → tw_W d mX10_coinsNow (tw_qi (fun r h1 => tw_sp d τ h g τ h1) tw_nx) 40 [(0, .ref x), (1, .int (nI a)), (2, .int (nI l)), (3, .ref b65), (4, .int x72), (5, .ref b65), (6, .int (nI 5)), (7, .int (nI k73))] [] h57 ((tw_wy 5 l) - (tw_wy 5 l)) ((5 * tw_wy 5 l) - (5 * tw_wy 5 l)) := by
      intro r74
      induction r74 with
      | zero => intro k73 x72 hk80 hk81; exact absurd hk80 (by omega)
      | succ r74 ih75 =>
        intro k73 x72 hk80 hk81
        refine tw_iload 7 dX10_coinsNow_40 rfl ?_
        refine tw_iload 6 dX10_coinsNow_42 rfl ?_
        refine tw_icmp_ge 70 dX10_coinsNow_44 (by decide) (fun c82 => ?_) (fun c82 => ?_)
        · refine tw_iload 4 dX10_coinsNow_70 rfl ?_
          exact tw_iret dX10_coinsNow_72 rfl (Or.inl ⟨_, rfl, sp59⟩)
        · have kl83 := tw_klt (N := 5) c82 hk81 (by decide)
          refine tw_aload 5 dX10_coinsNow_47 rfl ?_
          refine tw_iload 7 dX10_coinsNow_49 rfl ?_
          obtain ⟨v84, ev84⟩ : ∃ y : Int32, G67 ((nI k73)).toNatClampNeg = y := ⟨_, rfl⟩
          refine tw_iald (v := v84) dX10_coinsNow_51 hG68 (vp_in_nI (by omega) (by decide)) ev84 ?_
          refine tw_istore [(8, .int v84), (0, .ref x), (1, .int (nI a)), (2, .int (nI l)), (3, .ref b65), (4, .int x72), (5, .ref b65), (6, .int (nI 5)), (7, .int (nI k73))] dX10_coinsNow_52 (by decide) rfl ?_
          refine tw_bipush (v := 10) dX10_coinsNow_54 (by decide) ?_
          refine tw_iload 5 dX10_coinsNow_56 rfl ?_
          refine tw_imul dX10_coinsNow_58 ?_
          refine tw_nmi (fun v85 ev85 => ?_)
          refine tw_iload 0 dX10_coinsNow_59 rfl ?_
          refine tw_iadd dX10_coinsNow_61 ?_
          refine tw_nmi (fun v86 ev86 => ?_)
          refine tw_istore [(4, .int v86), (8, .int v84), (0, .ref x), (1, .int (nI a)), (2, .int (nI l)), (3, .ref b65), (5, .ref b65), (6, .int (nI 5)), (7, .int (nI k73))] dX10_coinsNow_62 (by decide) rfl ?_
          obtain ⟨v87, ev87⟩ : ∃ y : Int32, y = (nI k73) + 1 := ⟨_, rfl⟩
          refine tw_iinc [(7, .int v87), (4, .int v86), (8, .int v84), (0, .ref x), (1, .int (nI a)), (2, .int (nI l)), (3, .ref b65), (5, .ref b65), (6, .int (nI 5))] 8 dX10_coinsNow_64 rfl (by rw [ev87]; rfl) (by decide) rfl ?_
          refine tw_goto 40 dX10_coinsNow_67 (by decide) ?_
          have qv87 := tw_nI3 ev87
          rw [qv87]
          refine tw_lv [3, 4, 5, 6, 1, 7, 8, 0] rfl ?_
          exact ih75 (k73 + 1) v86 (by omega) (by omega)
    refine tw_lv [5, 6, 7, 4, 3, 2, 1, 0] rfl ?_
    exact L76 (5 + 1) 0 0 (by omega) (by omega)

set_option maxHeartbeats 4000000 in
set_option maxRecDepth 100000 in
theorem c_X10_coins (d : tw_D) (g : tw_G) (τ : tw_K) (h : tw_H) (hw : tw_wt d g τ h) (x : Nat) (kx : τ x = 36) (n : Int32) (am : Int32) : tw_Ct d mX10_coins 500 2500 [.ref x, .int n, .int am] h (tw_qi (fun r h1 => tw_sp d τ h g τ h1) tw_nx) := by
  refine tw_of (by decide +kernel) (Nat.le_of_ble_eq_true rfl) ?_
  show tw_W d mX10_coins _ 0 [(0, .ref x), (1, .int n), (2, .int am)] [] h 500 2500
  have sp0 := tw_sp.rf hw
  refine tw_aload_n 0 dX10_coins_0 rfl rfl ?_
  refine tw_aload_n 0 dX10_coins_1 rfl rfl ?_
  refine tw_iload_n 1 dX10_coins_2 rfl rfl ?_
  obtain ⟨e1, f2, th_3, td_4, ds_5, fr_6, ca_7, us_8, wo_9, cm_10, lc_11, lh_12, ld_13, rfl, k14, k15, k16, k17, k18, k19, k20, k21, k22, k23, k24, k25, k26, k27, k28, k29⟩ := sp0.1 x 36 kx (by decide)
  refine tw_bi (tw_callV (M := mX10_coins) (pc := 3) okX10_isNoCountry dX10_coins_3 w_1292 rfl f2 [.int n] [.ref x] rfl rfl ⟨by decide, by decide⟩ (Nat.le_of_ble_eq_true rfl) (c_X10_isNoCountry d g τ h sp0.1 x kx n) 500 2500 (Nat.le_of_ble_eq_true rfl) (Nat.le_of_ble_eq_true rfl)) (fun r32 h31 q30 => ?_) (fun E h1 q => q.elim)
  obtain ⟨q30e, q30d⟩ := q30
  rw [q30e]
  rcases q30d with q30r | ⟨q30r, j33, q30j, q30k⟩
  · rw [q30r]
    refine tw_iconst (v := 1) dX10_coins_6 (by decide) ?_
    refine tw_bi (tw_callV (M := mX10_coins) (pc := 7) okX10_start dX10_coins_7 w_1200 rfl f2 [.int 1, .int 1] [] rfl rfl ⟨by decide, by decide⟩ (Nat.le_of_ble_eq_true rfl) (c_X10_start d g τ h sp0.1 x kx 1 1 (by decide)) 500 2500 (Nat.le_of_ble_eq_true rfl) (Nat.le_of_ble_eq_true rfl)) (fun r36 h35 q34 => ?_) (fun E h1 q => q.elim)
    obtain ⟨e37, he38, hs39, hr40, h341⟩ := q34
    have sp42 : tw_sp d τ h g τ h35 := by rw [he38]; exact sp0.set kx (by decide) hs39
    rcases hr40 with ei43 | ⟨ei43, ei43b⟩
    · rw [ei43]
      refine tw_if_ne 37 dX10_coins_10 (by decide) (fun _ => ?_) (fun c44 => absurd c44 (by decide))
      refine tw_iconst (v := 0) dX10_coins_37 (by decide) ?_
      refine tw_goto 47 dX10_coins_38 (by decide) ?_
      exact tw_iret dX10_coins_47 rfl (Or.inl ⟨_, rfl, sp42⟩)
    · exact absurd ei43b (by decide)
  · rw [q30r]
    subst q30k
    refine tw_iconst (v := 1) dX10_coins_6 (by decide) ?_
    refine tw_bi (tw_callV (M := mX10_coins) (pc := 7) okX10_start dX10_coins_7 w_1200 rfl f2 [.int 0, .int 1] [] rfl rfl ⟨by decide, by decide⟩ (Nat.le_of_ble_eq_true rfl) (c_X10_start d g τ h sp0.1 x kx 0 1 (by decide)) 500 2500 (Nat.le_of_ble_eq_true rfl) (Nat.le_of_ble_eq_true rfl)) (fun r47 h46 q45 => ?_) (fun E h1 q => q.elim)
    obtain ⟨e48, he49, hs50, hr51, h352⟩ := q45
    have sp53 : tw_sp d τ h g τ h46 := by rw [he49]; exact sp0.set kx (by decide) hs50
    rcases hr51 with ei54 | ⟨ei54, ei54b⟩
    · rw [ei54]
      refine tw_if_ne 37 dX10_coins_10 (by decide) (fun _ => ?_) (fun c55 => absurd c55 (by decide))
      refine tw_iconst (v := 0) dX10_coins_37 (by decide) ?_
      refine tw_goto 47 dX10_coins_38 (by decide) ?_
      exact tw_iret dX10_coins_47 rfl (Or.inl ⟨_, rfl, sp53⟩)
    · rw [ei54]
      refine tw_if_ne 37 dX10_coins_10 (by decide) (fun c56 => absurd (by decide) c56) (fun _ => ?_)
      refine tw_aload_n 0 dX10_coins_13 rfl rfl ?_
      refine tw_iload_n 2 dX10_coins_14 rfl rfl ?_
      refine tw_iconst (v := 1) dX10_coins_15 (by decide) ?_
      refine tw_sipush (v := 400) dX10_coins_16 (by decide) ?_
      refine tw_bi (tw_callS (M := mX10_coins) (pc := 19) okX10_isIn dX10_coins_19 w_1196 [.int am, .int 1, .int 400] [.ref x] rfl rfl ⟨by decide, by decide⟩ (Nat.le_of_ble_eq_true rfl) (c_X10_isIn d g τ h46 sp53.1 am 1 400) 500 2500 (Nat.le_of_ble_eq_true rfl) (Nat.le_of_ble_eq_true rfl)) (fun r59 h58 q57 => ?_) (fun E h1 q => q.elim)
      obtain ⟨q57e, q57d⟩ := q57
      rw [q57e]
      rcases q57d with ⟨q57r, q57n⟩ | ⟨q57r, q57a, q57b⟩
      · rw [q57r]
        refine tw_if_ne 29 dX10_coins_22 (by decide) (fun c60 => absurd (by decide) c60) (fun _ => ?_)
        refine tw_iconst (v := 1) dX10_coins_25 (by decide) ?_
        refine tw_goto 30 dX10_coins_26 (by decide) ?_
        refine tw_iconst (v := 2) dX10_coins_30 (by decide) ?_
        obtain ⟨e61, f62, th_63, td_64, ds_65, fr_66, ca_67, us_68, wo_69, cm_70, lc_71, lh_72, ld_73, rfl, k74, k75, k76, k77, k78, k79, k80, k81, k82, k83, k84, k85, k86, k87, k88, k89⟩ := sp53.1 x 36 kx (by decide)
        refine tw_bi (tw_callV (M := mX10_coins) (pc := 31) okX10_refuse dX10_coins_31 w_1204 rfl f62 [.int 1, .int 2] [] rfl rfl ⟨by decide, by decide⟩ (Nat.le_of_ble_eq_true rfl) (c_X10_refuse d g τ h46 sp53.1 x kx 1 2 (by decide)) 500 2500 (Nat.le_of_ble_eq_true rfl) (Nat.le_of_ble_eq_true rfl)) (fun r92 h91 q90 => ?_) (fun E h1 q => q.elim)
        obtain ⟨e93, he94, hs95, hr96, h397⟩ := q90
        have sp98 : tw_sp d τ h g τ h91 := by rw [he94]; exact sp53.set kx (by decide) hs95
        rcases hr96 with ei99 | ⟨ei99, ei99b⟩
        · rw [ei99]
          refine tw_if_eq 41 dX10_coins_34 (by decide) (fun c100 => absurd c100 (by decide)) (fun _ => ?_)
          refine tw_iconst (v := 0) dX10_coins_37 (by decide) ?_
          refine tw_goto 47 dX10_coins_38 (by decide) ?_
          exact tw_iret dX10_coins_47 rfl (Or.inl ⟨_, rfl, sp98⟩)
        · exact absurd ei99b (by decide)
      · rw [q57r]
        refine tw_if_ne 29 dX10_coins_22 (by decide) (fun _ => ?_) (fun c101 => absurd c101 (by decide))
        refine tw_iconst (v := 0) dX10_coins_29 (by decide) ?_
        refine tw_iconst (v := 2) dX10_coins_30 (by decide) ?_
        obtain ⟨e102, f103, th_104, td_105, ds_106, fr_107, ca_108, us_109, wo_110, cm_111, lc_112, lh_113, ld_114, rfl, k115, k116, k117, k118, k119, k120, k121, k122, k123, k124, k125, k126, k127, k128, k129, k130⟩ := sp53.1 x 36 kx (by decide)
        refine tw_bi (tw_callV (M := mX10_coins) (pc := 31) okX10_refuse dX10_coins_31 w_1204 rfl f103 [.int 0, .int 2] [] rfl rfl ⟨by decide, by decide⟩ (Nat.le_of_ble_eq_true rfl) (c_X10_refuse d g τ h46 sp53.1 x kx 0 2 (by decide)) 500 2500 (Nat.le_of_ble_eq_true rfl) (Nat.le_of_ble_eq_true rfl)) (fun r133 h132 q131 => ?_) (fun E h1 q => q.elim)
        obtain ⟨e134, he135, hs136, hr137, h3138⟩ := q131
        have sp139 : tw_sp d τ h g τ h132 := by rw [he135]; exact sp53.set kx (by decide) hs136
        rcases hr137 with ei140 | ⟨ei140, ei140b⟩
        · rw [ei140]
          refine tw_if_eq 41 dX10_coins_34 (by decide) (fun c141 => absurd c141 (by decide)) (fun _ => ?_)
          refine tw_iconst (v := 0) dX10_coins_37 (by decide) ?_
          refine tw_goto 47 dX10_coins_38 (by decide) ?_
          exact tw_iret dX10_coins_47 rfl (Or.inl ⟨_, rfl, sp139⟩)
        · rw [ei140]
          refine tw_if_eq 41 dX10_coins_34 (by decide) (fun _ => ?_) (fun c142 => absurd (by decide) c142)
          refine tw_aload_n 0 dX10_coins_41 rfl rfl ?_
          refine tw_iload_n 1 dX10_coins_42 rfl rfl ?_
          refine tw_iload_n 2 dX10_coins_43 rfl rfl ?_
          obtain ⟨l143, hl144, el145⟩ := tw_l400 q57a q57b
          subst el145
          obtain ⟨e146, f147, th_148, td_149, ds_150, fr_151, ca_152, us_153, wo_154, cm_155, lc_156, lh_157, ld_158, rfl, k159, k160, k161, k162, k163, k164, k165, k166, k167, k168, k169, k170, k171, k172, k173, k174⟩ := sp139.1 x 36 kx (by decide)
          refine tw_bi (tw_callV okX10_coinsNow dX10_coins_44 w_1497 rfl f147 [.int (nI j33), .int (nI l143)] [] rfl rfl ⟨by decide, by decide⟩ (Nat.le_of_ble_eq_true rfl) (c_X10_coinsNow d g τ h132 sp139.1 x kx j33 l143 (by omega) hl144) 0 0 (by have := tw_w5 hl144; omega) (by have := tw_w5 hl144; omega)) (fun r177 h176 q175 => ?_) (fun E h1 q => q.elim)
          have sp178 := sp139.tr q175
          exact tw_iret dX10_coins_47 rfl (Or.inl ⟨_, rfl, sp178⟩)

set_option maxHeartbeats 4000000 in
set_option maxRecDepth 100000 in
theorem c_X10_digest (d : tw_D) (g : tw_G) (τ : tw_K) (h : tw_H) (hw : tw_wt d g τ h) (x : Nat) (kx : τ x = 36) : tw_Ct d mX10_digest 866 4596 [.ref x] h (tw_ql (fun r h1 => tw_sp d τ h g τ h1) tw_nx) := by
  refine tw_of (by decide +kernel) (Nat.le_of_ble_eq_true rfl) ?_
  show tw_W d mX10_digest _ 0 [(0, .ref x)] [] h 866 4596
  have sp0 := tw_sp.rf hw
  refine tw_aload_n 0 dX10_digest_0 rfl rfl ?_
  refine tw_iconst (v := 0) dX10_digest_1 (by decide) ?_
  obtain ⟨e1, f2, th_3, td_4, ds_5, fr_6, ca_7, us_8, wo_9, cm_10, lc_11, lh_12, ld_13, rfl, k14, k15, k16, k17, k18, k19, k20, k21, k22, k23, k24, k25, k26, k27, k28, k29⟩ := sp0.1 x 36 kx (by decide)
  refine tw_put rfl in_14 tyX10 tyX10_ok nmX10 0 dX10_digest_2 w_1151 rfl (by decide) f2 rfl rfl rfl rfl (Nat.le_of_ble_eq_true rfl) [.int 0, .int td_4, .int (g.1 1), .ref ds_5, .ref fr_6, .ref ca_7, .ref us_8, .ref wo_9, .ref cm_10, .ref lc_11, .ref lh_12, .ref ld_13] rfl ?_
  obtain ⟨h30, eh30⟩ : ∃ z : tw_H, z = tw_up h x (.inr (14, [.int 0, .int td_4, .int (g.1 1), .ref ds_5, .ref fr_6, .ref ca_7, .ref us_8, .ref wo_9, .ref cm_10, .ref lc_11, .ref lh_12, .ref ld_13])) := ⟨_, rfl⟩
  rw [← eh30]
  have sp31 : tw_sp d τ h g τ h30 := by rw [eh30]; exact sp0.set kx (by decide) ⟨0, td_4, ds_5, fr_6, ca_7, us_8, wo_9, cm_10, lc_11, lh_12, ld_13, rfl, k14, k15, k16, k17, k18, k19, k20, k21, k22, k23, k24, k25, k26, (by decide), k28, k29⟩
  have f32 : h30 x = some (.inr (14, [.int 0, .int td_4, .int (g.1 1), .ref ds_5, .ref fr_6, .ref ca_7, .ref us_8, .ref wo_9, .ref cm_10, .ref lc_11, .ref lh_12, .ref ld_13])) := by rw [eh30]; exact tw_up_s
  refine tw_ldc2 (v := 5573) dX10_digest_5 w_1597 ?_
  refine tw_lstore_n [(1, .long 5573), (0, .ref x)] dX10_digest_8 rfl (by decide) rfl ?_
  refine tw_lload_n 0 dX10_digest_9 rfl rfl ?_
  refine tw_ldc2 (v := 31) dX10_digest_10 w_1598 ?_
  refine tw_lmul dX10_digest_13 ?_
  refine tw_nml (fun v33 ev33 => ?_)
  refine tw_aload_n 1 dX10_digest_14 rfl rfl ?_
  refine tw_get (v := .int td_4) rfl in_14 1 dX10_digest_15 w_1152 rfl (by decide) f32 rfl ?_
  refine tw_i2l dX10_digest_18 ?_
  refine tw_nml (fun v34 ev34 => ?_)
  refine tw_ladd dX10_digest_19 ?_
  refine tw_nml (fun v35 ev35 => ?_)
  refine tw_lstore_n [(1, .long v35), (0, .ref x)] dX10_digest_20 rfl (by decide) rfl ?_
  refine tw_lload_n 0 dX10_digest_21 rfl rfl ?_
  refine tw_ldc2 (v := 31) dX10_digest_22 w_1598 ?_
  refine tw_lmul dX10_digest_25 ?_
  refine tw_nml (fun v36 ev36 => ?_)
  refine tw_aload_n 1 dX10_digest_26 rfl rfl ?_
  refine tw_get (v := .int (g.1 1)) rfl in_14 2 dX10_digest_27 w_1153 rfl (by decide) f32 rfl ?_
  refine tw_i2l dX10_digest_30 ?_
  refine tw_nml (fun v37 ev37 => ?_)
  refine tw_ladd dX10_digest_31 ?_
  refine tw_nml (fun v38 ev38 => ?_)
  refine tw_lstore_n [(1, .long v38), (0, .ref x)] dX10_digest_32 rfl (by decide) rfl ?_
  refine tw_iconst (v := 0) dX10_digest_33 (by decide) ?_
  refine tw_istore_n [(3, .int 0), (1, .long v38), (0, .ref x)] dX10_digest_34 rfl (by decide) rfl ?_
  have L43 : ∀ (r41 k40 : Nat) (x39 : Int64) (h44 : tw_H) (sp45 : tw_sp d τ h30 g τ h44), 2 + 1 ≤ k40 + r41 → k40 ≤ 2 → tw_W d mX10_digest (tw_ql (fun r h1 => tw_sp d τ h g τ h1) tw_nx) 35 [(0, .ref x), (1, .long x39), (3, .int (nI k40))] [] h44 (803 + 21 * r41) (4302 + 98 * r41) := by
    intro r41
    induction r41 with
    | zero => intro k40 x39 h44 sp45 hk47 hk48; exact absurd hk47 (by omega)
    | succ r41 ih42 =>
      intro k40 x39 h44 sp45 hk47 hk48
      refine tw_iload_n 2 dX10_digest_35 rfl rfl ?_
      refine tw_iconst (v := 2) dX10_digest_36 (by decide) ?_
      refine tw_icmp_ge 76 dX10_digest_37 (by decide) (fun c49 => ?_) (fun c49 => ?_)
      · refine tw_iconst (v := 0) dX10_digest_76 (by decide) ?_
        refine tw_istore_n [(3, .int 0), (0, .ref x), (1, .long x39)] dX10_digest_77 rfl (by decide) rfl ?_
        have L54 : ∀ (r52 k51 : Nat) (x50 : Int64) (h55 : tw_H) (sp56 : tw_sp d τ h44 g τ h55), (g.2 3) + 1 ≤ k51 + r52 → k51 ≤ (g.2 3) → tw_W d mX10_digest (tw_ql (fun r h1 => tw_sp d τ h g τ h1) tw_nx) 78 [(0, .ref x), (1, .long x50), (3, .int (nI k51))] [] h55 (((803 + 21 * (r41 + 1)) - 570) + 114 * r52) (((4302 + 98 * (r41 + 1)) - 2950) + 590 * r52) := by
          intro r52
          induction r52 with
          | zero => intro k51 x50 h55 sp56 hk58 hk59; exact absurd hk58 (by omega)
          | succ r52 ih53 =>
            intro k51 x50 h55 sp56 hk58 hk59
            refine tw_iload_n 2 dX10_digest_78 rfl rfl ?_
            refine tw_aload_n 0 dX10_digest_79 rfl rfl ?_
            obtain ⟨e60, f61, th_62, td_63, ds_64, fr_65, ca_66, us_67, wo_68, cm_69, lc_70, lh_71, ld_72, rfl, k73, k74, k75, k76, k77, k78, k79, k80, k81, k82, k83, k84, k85, k86, k87, k88⟩ := sp56.1 x 36 kx (by decide)
            refine tw_get (v := .ref lc_70) rfl in_14 9 dX10_digest_80 w_1160 rfl (by decide) f61 rfl ?_
            obtain ⟨e89, f90, ⟨el91, rfl, k92⟩, k93⟩ := sp56.1 lc_70 24 k79 (by decide)
            refine tw_bi (tw_callV (M := mX10_digest) (pc := 83) okJx4a65c_size_8abf5 dX10_digest_83 w_1208 rfl f90 [] [.int (nI k51)] rfl rfl ⟨by decide, by decide⟩ (Nat.le_of_ble_eq_true rfl) (c24_size d g τ h55 sp56.1 lc_70 k79) (((803 + 21 * (r41 + 1)) - 570) + 114 * (r52 + 1)) (((4302 + 98 * (r41 + 1)) - 2950) + 590 * (r52 + 1)) (by omega) (by omega)) (fun r96 h95 q94 => ?_) (fun E h1 q => q.elim)
            obtain ⟨q94e, q94r⟩ := q94
            rw [q94e, q94r]
            refine tw_icmp_ge 206 dX10_digest_86 (by decide) (fun c97 => ?_) (fun c97 => ?_)
            · refine tw_iconst (v := 0) dX10_digest_206 (by decide) ?_
              refine tw_istore_n [(3, .int 0), (0, .ref x), (1, .long x50)] dX10_digest_207 rfl (by decide) rfl ?_
              have L102 : ∀ (r100 k99 : Nat) (x98 : Int64) (h103 : tw_H) (sp104 : tw_sp d τ h55 g τ h103), (g.2 4) + 1 ≤ k99 + r100 → k99 ≤ (g.2 4) → tw_W d mX10_digest (tw_ql (fun r h1 => tw_sp d τ h g τ h1) tw_nx) 208 [(0, .ref x), (1, .long x98), (3, .int (nI k99))] [] h103 (((((803 + 21 * (r41 + 1)) - 570) + 114 * (r52 + 1)) - 126) + 18 * r100) (((((4302 + 98 * (r41 + 1)) - 2950) + 590 * (r52 + 1)) - 756) + 108 * r100) := by
                intro r100
                induction r100 with
                | zero => intro k99 x98 h103 sp104 hk106 hk107; exact absurd hk106 (by omega)
                | succ r100 ih101 =>
                  intro k99 x98 h103 sp104 hk106 hk107
                  refine tw_iload_n 2 dX10_digest_208 rfl rfl ?_
                  refine tw_aload_n 0 dX10_digest_209 rfl rfl ?_
                  obtain ⟨e108, f109, th_110, td_111, ds_112, fr_113, ca_114, us_115, wo_116, cm_117, lc_118, lh_119, ld_120, rfl, k121, k122, k123, k124, k125, k126, k127, k128, k129, k130, k131, k132, k133, k134, k135, k136⟩ := sp104.1 x 36 kx (by decide)
                  refine tw_get (v := .ref lh_119) rfl in_14 10 dX10_digest_210 w_1161 rfl (by decide) f109 rfl ?_
                  obtain ⟨e137, f138, ⟨el139, rfl, k140⟩, k141⟩ := sp104.1 lh_119 25 k128 (by decide)
                  refine tw_bi (tw_callV (M := mX10_digest) (pc := 213) okJx4a65c_size_8abf5 dX10_digest_213 w_1208 rfl f138 [] [.int (nI k99)] rfl rfl ⟨by decide, by decide⟩ (Nat.le_of_ble_eq_true rfl) (c25_size d g τ h103 sp104.1 lh_119 k128) (((((803 + 21 * (r41 + 1)) - 570) + 114 * (r52 + 1)) - 126) + 18 * (r100 + 1)) (((((4302 + 98 * (r41 + 1)) - 2950) + 590 * (r52 + 1)) - 756) + 108 * (r100 + 1)) (by omega) (by omega)) (fun r144 h143 q142 => ?_) (fun E h1 q => q.elim)
                  obtain ⟨q142e, q142r⟩ := q142
                  rw [q142e, q142r]
                  refine tw_icmp_ge 256 dX10_digest_216 (by decide) (fun c145 => ?_) (fun c145 => ?_)
                  · refine tw_aload_n 0 dX10_digest_256 rfl rfl ?_
                    refine tw_get (v := .ref ld_120) rfl in_14 11 dX10_digest_257 w_1162 rfl (by decide) f109 rfl ?_
                    obtain ⟨e146, f147, ⟨el148, rfl, k149⟩, k150⟩ := sp104.1 ld_120 26 k129 (by decide)
                    refine tw_br (tw_callV (M := mX10_digest) (pc := 260) okJx4a65c_iterator_32c93 dX10_digest_260 w_1386 rfl f147 [] [] rfl rfl ⟨by decide, by decide⟩ (Nat.le_of_ble_eq_true rfl) (c_iterator d h103 ld_120 el148 (g.1 5) (nI (g.2 5)) f147) ((((((803 + 21 * (r41 + 1)) - 570) + 114 * (r52 + 1)) - 126) + 18 * (r100 + 1)) - 1) ((((((4302 + 98 * (r41 + 1)) - 2950) + 590 * (r52 + 1)) - 756) + 108 * (r100 + 1)) - 4) (by omega) (by omega)) (fun it151 h152 q153 => ?_) (fun E h1 q => q.elim)
                    obtain ⟨q153n, q153e⟩ := q153
                    rw [q153e]
                    have n154 := sp104.nn q153n
                    have z155 := sp104.1.none q153n
                    obtain ⟨h156, eh156⟩ : ∃ z : tw_H, z = tw_up h103 it151 (.inr (2, [.int 0, .int (-1), .int (g.1 5), .ref ld_120])) := ⟨_, rfl⟩
                    rw [← eh156]
                    have sp157 : tw_sp d τ h55 g τ h156 := by rw [eh156]; exact sp104.mk q153n
                    have f158 : h156 it151 = some (.inr (2, [.int 0, .int (-1), .int (g.1 5), .ref ld_120])) := by rw [eh156]; exact tw_up_s
                    refine tw_astore_n [(3, .ref it151), (0, .ref x), (1, .long x98)] dX10_digest_263 rfl (by decide) rfl ?_
                    have L164 : ∀ (r160 j161 : Nat) (l162 : Int32) (x159 : Int64) (h165 : tw_H) (sp166 : tw_sp d τ (tw_rm h156 it151) g τ h165) (ft167 : h165 it151 = some (.inr (2, [.int (nI j161), .int l162, .int (g.1 5), .ref ld_120]))) (zt168 : τ it151 = 0), g.2 5 + 1 ≤ j161 + r160 → j161 ≤ g.2 5 → tw_W d mX10_digest (tw_ql (fun r h1 => tw_sp d τ h g τ h1) tw_nx) 264 [(0, .ref x), (1, .long x159), (3, .ref it151)] [] h165 ((((((((803 + 21 * (r41 + 1)) - 570) + 114 * (r52 + 1)) - 126) + 18 * (r100 + 1)) - 1) - 44) + 4 * r160) ((((((((4302 + 98 * (r41 + 1)) - 2950) + 590 * (r52 + 1)) - 756) + 108 * (r100 + 1)) - 4) - 308) + 28 * r160) := by
                      intro r160
                      induction r160 with
                      | zero => intro j161 l162 x159 h165 sp166 ft167 zt168 hk169 hk170; exact absurd hk169 (by omega)
                      | succ r160 ih163 =>
                        intro j161 l162 x159 h165 sp166 ft167 zt168 hk169 hk170
                        refine tw_aload_n 2 dX10_digest_264 rfl rfl ?_
                        obtain ⟨e171, f172, ⟨el173, rfl, k174⟩, k175⟩ := sp166.1 ld_120 26 k129 (by decide)
                        refine tw_bi (tw_callF (M := mX10_digest) (pc := 265) (n9 := 0) (ci := 2) tw_hasNext ok_itHas w_1416 w_1414 (fun s H z => z.2.2.2.2.2.2.2.2.1) (by decide +kernel) dX10_digest_265 w_1410 rfl ft167 [] [] rfl rfl ⟨by decide, by decide⟩ (Nat.le_of_ble_eq_true rfl) (c_hasNext d h165 it151 ld_120 el173 j161 (g.2 5) l162 (g.1 5) (g.1 5) ft167 f172 (by omega) (tw_lim26 sp166.1 k129)) ((((((((803 + 21 * (r41 + 1)) - 570) + 114 * (r52 + 1)) - 126) + 18 * (r100 + 1)) - 1) - 44) + 4 * (r160 + 1)) ((((((((4302 + 98 * (r41 + 1)) - 2950) + 590 * (r52 + 1)) - 756) + 108 * (r100 + 1)) - 4) - 308) + 28 * (r160 + 1)) (by omega) (by omega)) (fun r178 h177 q176 => ?_) (fun E h1 q => q.elim)
                        obtain ⟨q176e, q176q⟩ := q176
                        rw [q176e]
                        rcases q176q with ⟨q176r, q176j⟩ | ⟨q176r, q176j⟩
                        · rw [q176r]
                          refine tw_if_eq 319 dX10_digest_270 (by decide) (fun _ => ?_) (fun c179 => absurd (by decide) c179)
                          refine tw_lload_n 1 dX10_digest_319 rfl rfl ?_
                          refine tw_ldc2 (v := 31) dX10_digest_320 w_1598 ?_
                          refine tw_lmul dX10_digest_323 ?_
                          refine tw_nml (fun v180 ev180 => ?_)
                          refine tw_aload_n 0 dX10_digest_324 rfl rfl ?_
                          refine tw_sipush (v := 1000) dX10_digest_325 (by decide) ?_
                          obtain ⟨e181, f182, th_183, td_184, ds_185, fr_186, ca_187, us_188, wo_189, cm_190, lc_191, lh_192, ld_193, rfl, k194, k195, k196, k197, k198, k199, k200, k201, k202, k203, k204, k205, k206, k207, k208, k209⟩ := sp166.1 x 36 kx (by decide)
                          refine tw_bi (tw_callV (M := mX10_digest) (pc := 328) okX10_restNow dX10_digest_328 w_1573 rfl f182 [.int 1000] [.long v180] rfl rfl ⟨by decide, by decide⟩ (Nat.le_of_ble_eq_true rfl) (c_X10_restNow d g τ h165 sp166.1 x kx 1000) ((((((((803 + 21 * (r41 + 1)) - 570) + 114 * (r52 + 1)) - 126) + 18 * (r100 + 1)) - 1) - 44) + 4 * (r160 + 1)) ((((((((4302 + 98 * (r41 + 1)) - 2950) + 590 * (r52 + 1)) - 756) + 108 * (r100 + 1)) - 4) - 308) + 28 * (r160 + 1)) (by omega) (by omega)) (fun r212 h211 q210 => ?_) (fun E h1 q => q.elim)
                          obtain ⟨q210e, p213⟩ := q210
                          rw [q210e]
                          refine tw_if_eq 338 dX10_digest_331 (by decide) (fun c214 => ?_) (fun c214 => ?_)
                          · refine tw_iconst (v := 0) dX10_digest_338 (by decide) ?_
                            refine tw_i2l dX10_digest_339 ?_
                            refine tw_nml (fun v215 ev215 => ?_)
                            refine tw_ladd dX10_digest_340 ?_
                            refine tw_nml (fun v216 ev216 => ?_)
                            refine tw_lstore_n [(1, .long v216), (0, .ref x), (3, .ref it151)] dX10_digest_341 rfl (by decide) rfl ?_
                            refine tw_lload_n 0 dX10_digest_342 rfl rfl ?_
                            refine tw_ldc2 (v := 31) dX10_digest_343 w_1598 ?_
                            refine tw_lmul dX10_digest_346 ?_
                            refine tw_nml (fun v217 ev217 => ?_)
                            refine tw_aload_n 1 dX10_digest_347 rfl rfl ?_
                            refine tw_bi (tw_callV (M := mX10_digest) (pc := 348) okX10_isSoundNow dX10_digest_348 w_1589 rfl f182 [] [.long v217] rfl rfl ⟨by decide, by decide⟩ (Nat.le_of_ble_eq_true rfl) (c_X10_isSoundNow d g τ h165 sp166.1 x kx) (((((((((803 + 21 * (r41 + 1)) - 570) + 114 * (r52 + 1)) - 126) + 18 * (r100 + 1)) - 1) - 44) + 4 * (r160 + 1)) - 62) (((((((((4302 + 98 * (r41 + 1)) - 2950) + 590 * (r52 + 1)) - 756) + 108 * (r100 + 1)) - 4) - 308) + 28 * (r160 + 1)) - 284) (by omega) (by omega)) (fun r220 h219 q218 => ?_) (fun E h1 q => q.elim)
                            obtain ⟨q218s, p222⟩ := q218
                            have sp221 := sp166.tr q218s
                            have f223 := (q218s.2.2 _ _ ft167 zt168).1
                            refine tw_if_eq 358 dX10_digest_351 (by decide) (fun c224 => ?_) (fun c224 => ?_)
                            · refine tw_iconst (v := 0) dX10_digest_358 (by decide) ?_
                              refine tw_i2l dX10_digest_359 ?_
                              refine tw_nml (fun v225 ev225 => ?_)
                              refine tw_ladd dX10_digest_360 ?_
                              refine tw_nml (fun v226 ev226 => ?_)
                              exact tw_lret dX10_digest_361 rfl (Or.inl ⟨_, rfl, (sp31.tr (sp45.tr (sp56.tr (sp157.trm n154 sp221))))⟩)
                            · refine tw_iconst (v := 1) dX10_digest_354 (by decide) ?_
                              refine tw_goto 359 dX10_digest_355 (by decide) ?_
                              refine tw_i2l dX10_digest_359 ?_
                              refine tw_nml (fun v227 ev227 => ?_)
                              refine tw_ladd dX10_digest_360 ?_
                              refine tw_nml (fun v228 ev228 => ?_)
                              exact tw_lret dX10_digest_361 rfl (Or.inl ⟨_, rfl, (sp31.tr (sp45.tr (sp56.tr (sp157.trm n154 sp221))))⟩)
                          · refine tw_iconst (v := 1) dX10_digest_334 (by decide) ?_
                            refine tw_goto 339 dX10_digest_335 (by decide) ?_
                            refine tw_i2l dX10_digest_339 ?_
                            refine tw_nml (fun v229 ev229 => ?_)
                            refine tw_ladd dX10_digest_340 ?_
                            refine tw_nml (fun v230 ev230 => ?_)
                            refine tw_lstore_n [(1, .long v230), (0, .ref x), (3, .ref it151)] dX10_digest_341 rfl (by decide) rfl ?_
                            refine tw_lload_n 0 dX10_digest_342 rfl rfl ?_
                            refine tw_ldc2 (v := 31) dX10_digest_343 w_1598 ?_
                            refine tw_lmul dX10_digest_346 ?_
                            refine tw_nml (fun v231 ev231 => ?_)
                            refine tw_aload_n 1 dX10_digest_347 rfl rfl ?_
                            refine tw_bi (tw_callV (M := mX10_digest) (pc := 348) okX10_isSoundNow dX10_digest_348 w_1589 rfl f182 [] [.long v231] rfl rfl ⟨by decide, by decide⟩ (Nat.le_of_ble_eq_true rfl) (c_X10_isSoundNow d g τ h165 sp166.1 x kx) (((((((((803 + 21 * (r41 + 1)) - 570) + 114 * (r52 + 1)) - 126) + 18 * (r100 + 1)) - 1) - 44) + 4 * (r160 + 1)) - 62) (((((((((4302 + 98 * (r41 + 1)) - 2950) + 590 * (r52 + 1)) - 756) + 108 * (r100 + 1)) - 4) - 308) + 28 * (r160 + 1)) - 284) (by omega) (by omega)) (fun r234 h233 q232 => ?_) (fun E h1 q => q.elim)
                            obtain ⟨q232s, p236⟩ := q232
                            have sp235 := sp166.tr q232s
                            have f237 := (q232s.2.2 _ _ ft167 zt168).1
                            refine tw_if_eq 358 dX10_digest_351 (by decide) (fun c238 => ?_) (fun c238 => ?_)
                            · refine tw_iconst (v := 0) dX10_digest_358 (by decide) ?_
                              refine tw_i2l dX10_digest_359 ?_
                              refine tw_nml (fun v239 ev239 => ?_)
                              refine tw_ladd dX10_digest_360 ?_
                              refine tw_nml (fun v240 ev240 => ?_)
                              exact tw_lret dX10_digest_361 rfl (Or.inl ⟨_, rfl, (sp31.tr (sp45.tr (sp56.tr (sp157.trm n154 sp235))))⟩)
                            · refine tw_iconst (v := 1) dX10_digest_354 (by decide) ?_
                              refine tw_goto 359 dX10_digest_355 (by decide) ?_
                              refine tw_i2l dX10_digest_359 ?_
                              refine tw_nml (fun v241 ev241 => ?_)
                              refine tw_ladd dX10_digest_360 ?_
                              refine tw_nml (fun v242 ev242 => ?_)
                              exact tw_lret dX10_digest_361 rfl (Or.inl ⟨_, rfl, (sp31.tr (sp45.tr (sp56.tr (sp157.trm n154 sp235))))⟩)
                        · rw [q176r]
                          refine tw_if_eq 319 dX10_digest_270 (by decide) (fun c243 => absurd c243 (by decide)) (fun _ => ?_)
                          refine tw_aload_n 2 dX10_digest_273 rfl rfl ?_
                          have k244 : τ el173 = 29 := k174.resolve_left (fun q => absurd q176j (by rw [q.2.1]; exact Nat.not_lt_zero _))
                          obtain ⟨e245, f246, ⟨F247, rfl, hc248, hc249⟩, un250⟩ := sp166.1 el173 29 k244 (by decide)
                          obtain ⟨y251, hy252, ky253⟩ := hc249 j161 q176j
                          refine tw_br (tw_callF (M := mX10_digest) (pc := 274) (n9 := 0) (ci := 2) tw_next ok_itNext w_1425 w_1423 (fun s H z => z.2.2.2.2.2.2.2.2.2) (by decide +kernel) dX10_digest_274 w_1420 rfl ft167 [] [] rfl rfl ⟨by decide, by decide⟩ (Nat.le_of_ble_eq_true rfl) (c_next d h165 it151 ld_120 el173 j161 (g.2 5) y251 l162 (g.1 5) F247 ft167 f172 f246 q176j hc248 hy252) ((((((((803 + 21 * (r41 + 1)) - 570) + 114 * (r52 + 1)) - 126) + 18 * (r100 + 1)) - 1) - 44) + 4 * (r160 + 1)) ((((((((4302 + 98 * (r41 + 1)) - 2950) + 590 * (r52 + 1)) - 756) + 108 * (r100 + 1)) - 4) - 308) + 28 * (r160 + 1)) (by omega) (by omega)) (fun r256 h255 q254 => ?_) (fun E h1 q => q.elim)
                          obtain ⟨q254r, q254e⟩ := q254
                          rw [q254r]
                          have sp257 : tw_sp d τ (tw_rm h156 it151) g τ h255 := by rw [q254e]; exact sp166.wl tw_rm_s zt168
                          have f258 : h255 it151 = some (.inr (2, [.int (nI (j161 + 1)), .int (nI j161), .int (g.1 5), .ref ld_120])) := by rw [q254e]; exact tw_up_s
                          obtain ⟨e259, f260, v_261, dy_262, pd_263, i_264, j_265, rfl, k266, k267, k268⟩ := sp257.1 y251 22 ky253 (by decide)
                          refine tw_castS (ci := 12) rfl dX10_digest_279 w_1437 f260 ?_
                          refine tw_astore [(4, .ref y251), (0, .ref x), (1, .long x159), (3, .ref it151)] dX10_digest_282 (by decide) rfl ?_
                          refine tw_iconst (v := 4) dX10_digest_284 (by decide) ?_
                          refine tw_istore [(5, .int 4), (4, .ref y251), (0, .ref x), (1, .long x159), (3, .ref it151)] dX10_digest_285 (by decide) rfl ?_
                          have L273 : ∀ (r271 k270 : Nat) (x269 : Int64) (h274 : tw_H) (sp275 : tw_sp d τ h255 g τ h274), 7 + 1 ≤ k270 + r271 → k270 ≤ 7 → tw_W d mX10_digest (tw_ql (fun r h1 => tw_sp d τ h g τ h1) tw_nx) 287 [(0, .ref x), (1, .long x269), (3, .ref it151), (4, .ref y251), (5, .int (nI k270))] [] h274 ((((((((((803 + 21 * (r41 + 1)) - 570) + 114 * (r52 + 1)) - 126) + 18 * (r100 + 1)) - 1) - 44) + 4 * (r160 + 1)) - 4) + 1 * r271) ((((((((((4302 + 98 * (r41 + 1)) - 2950) + 590 * (r52 + 1)) - 756) + 108 * (r100 + 1)) - 4) - 308) + 28 * (r160 + 1)) - 28) + 7 * r271) := by
                            intro r271
                            induction r271 with
                            | zero => intro k270 x269 h274 sp275 hk277 hk278; exact absurd hk277 (by omega)
                            | succ r271 ih272 =>
                              intro k270 x269 h274 sp275 hk277 hk278
                              have f279 := (sp275.2.2 _ _ f258 zt168).1
                              have z280 := (sp275.2.2 _ _ f258 zt168).2
                              refine tw_iload 4 dX10_digest_287 rfl ?_
                              refine tw_bipush (v := 6) dX10_digest_289 (by decide) ?_
                              refine tw_icmp_gt 316 dX10_digest_291 (by decide) (fun c281 => ?_) (fun c281 => ?_)
                              · refine tw_goto 264 dX10_digest_316 (by decide) ?_
                                refine tw_lv [0, 1, 2] rfl ?_
                                refine tw_less (c2 := (((((((803 + 21 * (r41 + 1)) - 570) + 114 * (r52 + 1)) - 126) + 18 * (r100 + 1)) - 1) - 44) + 4 * r160) (n2 := (((((((4302 + 98 * (r41 + 1)) - 2950) + 590 * (r52 + 1)) - 756) + 108 * (r100 + 1)) - 4) - 308) + 28 * r160) (by omega) (by omega) ?_
                                exact ih163 ((j161 + 1)) (nI j161) x269 _ (sp257.tr sp275) f279 z280  (by omega) (by omega)
                              · have kl282 : k270 < 7 := tw_kle (N := 7) c281 hk278 (by decide)
                                refine tw_lload_n 1 dX10_digest_294 rfl rfl ?_
                                refine tw_ldc2 (v := 31) dX10_digest_295 w_1598 ?_
                                refine tw_lmul dX10_digest_298 ?_
                                refine tw_nml (fun v283 ev283 => ?_)
                                refine tw_aload_n 0 dX10_digest_299 rfl rfl ?_
                                refine tw_aload 3 dX10_digest_300 rfl ?_
                                refine tw_iload 4 dX10_digest_302 rfl ?_
                                obtain ⟨e284, f285, th_286, td_287, ds_288, fr_289, ca_290, us_291, wo_292, cm_293, lc_294, lh_295, ld_296, rfl, k297, k298, k299, k300, k301, k302, k303, k304, k305, k306, k307, k308, k309, k310, k311, k312⟩ := sp275.1 x 36 kx (by decide)
                                refine tw_bi (tw_callV (M := mX10_digest) (pc := 304) okX10_ofDebtNow dX10_digest_304 w_1525 rfl f285 [.ref y251, .int (nI k270)] [.long v283] rfl rfl ⟨by decide, by decide⟩ (Nat.le_of_ble_eq_true rfl) (c_X10_ofDebtNow d g τ h274 sp275.1 x kx y251 ky253 (nI k270) (vp_in_nI (by omega) (by decide))) (((((((((((803 + 21 * (r41 + 1)) - 570) + 114 * (r52 + 1)) - 126) + 18 * (r100 + 1)) - 1) - 44) + 4 * (r160 + 1)) - 4) + 1 * (r271 + 1)) - 1) (((((((((((4302 + 98 * (r41 + 1)) - 2950) + 590 * (r52 + 1)) - 756) + 108 * (r100 + 1)) - 4) - 308) + 28 * (r160 + 1)) - 28) + 7 * (r271 + 1)) - 7) (by omega) (by omega)) (fun r315 h314 q313 => ?_) (fun E h1 q => q.elim)
                                have sp316 := sp275.tr q313
                                have f317 := (q313.2.2 _ _ f279 z280).1
                                refine tw_i2l dX10_digest_307 ?_
                                refine tw_nml (fun v319 ev319 => ?_)
                                refine tw_ladd dX10_digest_308 ?_
                                refine tw_nml (fun v320 ev320 => ?_)
                                refine tw_lstore_n [(1, .long v320), (0, .ref x), (3, .ref it151), (4, .ref y251), (5, .int (nI k270))] dX10_digest_309 rfl (by decide) rfl ?_
                                obtain ⟨v321, ev321⟩ : ∃ y : Int32, y = (nI k270) + 1 := ⟨_, rfl⟩
                                refine tw_iinc [(5, .int v321), (1, .long v320), (0, .ref x), (3, .ref it151), (4, .ref y251)] 4 dX10_digest_310 rfl (by rw [ev321]; rfl) (by decide) rfl ?_
                                refine tw_goto 287 dX10_digest_313 (by decide) ?_
                                have qv321 := tw_nI3 ev321
                                rw [qv321]
                                refine tw_lv [2, 1, 3, 4, 0] rfl ?_
                                refine tw_less (c2 := (((((((((803 + 21 * (r41 + 1)) - 570) + 114 * (r52 + 1)) - 126) + 18 * (r100 + 1)) - 1) - 44) + 4 * (r160 + 1)) - 4) + 1 * r271) (n2 := (((((((((4302 + 98 * (r41 + 1)) - 2950) + 590 * (r52 + 1)) - 756) + 108 * (r100 + 1)) - 4) - 308) + 28 * (r160 + 1)) - 28) + 7 * r271) (by omega) (by omega) ?_
                                exact ih272 (k270 + 1) v320 _ sp316 (by omega) (by omega)
                          refine tw_lv [2, 3, 4, 1, 0] rfl ?_
                          refine tw_less (c2 := (((((((((803 + 21 * (r41 + 1)) - 570) + 114 * (r52 + 1)) - 126) + 18 * (r100 + 1)) - 1) - 44) + 4 * (r160 + 1)) - 4) + 1 * 4) (n2 := (((((((((4302 + 98 * (r41 + 1)) - 2950) + 590 * (r52 + 1)) - 756) + 108 * (r100 + 1)) - 4) - 308) + 28 * (r160 + 1)) - 28) + 7 * 4) (by omega) (by omega) ?_
                          exact L273 4 4 x159 _ (tw_sp.rf sp257.1) (by omega) (by omega)
                    refine tw_lv [1, 2, 0] rfl ?_
                    refine tw_less (c2 := (((((((803 + 21 * (r41 + 1)) - 570) + 114 * (r52 + 1)) - 126) + 18 * (r100 + 1)) - 1) - 44) + 4 * 11) (n2 := (((((((4302 + 98 * (r41 + 1)) - 2950) + 590 * (r52 + 1)) - 756) + 108 * (r100 + 1)) - 4) - 308) + 28 * 11) (by omega) (by omega) ?_
                    exact L164 11 0 (-1) x98 _ (tw_sp.rm sp157.1 it151) f158 z155  (by omega) (Nat.zero_le _)
                  · have kl322 : k99 < (g.2 4) := tw_klt (N := (g.2 4)) c145 hk107 (by omega)
                    refine tw_iconst (v := 0) dX10_digest_219 (by decide) ?_
                    refine tw_istore [(4, .int 0), (0, .ref x), (1, .long x98), (3, .int (nI k99))] dX10_digest_220 (by decide) rfl ?_
                    have L327 : ∀ (r325 k324 : Nat) (x323 : Int64) (h328 : tw_H) (sp329 : tw_sp d τ h103 g τ h328), 8 + 1 ≤ k324 + r325 → k324 ≤ 8 → tw_W d mX10_digest (tw_ql (fun r h1 => tw_sp d τ h g τ h1) tw_nx) 222 [(0, .ref x), (1, .long x323), (3, .int (nI k99)), (4, .int (nI k324))] [] h328 (((((((803 + 21 * (r41 + 1)) - 570) + 114 * (r52 + 1)) - 126) + 18 * (r100 + 1)) - 18) + 2 * r325) (((((((4302 + 98 * (r41 + 1)) - 2950) + 590 * (r52 + 1)) - 756) + 108 * (r100 + 1)) - 108) + 12 * r325) := by
                      intro r325
                      induction r325 with
                      | zero => intro k324 x323 h328 sp329 hk331 hk332; exact absurd hk331 (by omega)
                      | succ r325 ih326 =>
                        intro k324 x323 h328 sp329 hk331 hk332
                        refine tw_iload 3 dX10_digest_222 rfl ?_
                        refine tw_bipush (v := 7) dX10_digest_224 (by decide) ?_
                        refine tw_icmp_gt 250 dX10_digest_226 (by decide) (fun c333 => ?_) (fun c333 => ?_)
                        · obtain ⟨v334, ev334⟩ : ∃ y : Int32, y = (nI k99) + 1 := ⟨_, rfl⟩
                          refine tw_iinc [(3, .int v334), (0, .ref x), (1, .long x323), (4, .int (nI k324))] 2 dX10_digest_250 rfl (by rw [ev334]; rfl) (by decide) rfl ?_
                          refine tw_goto 208 dX10_digest_253 (by decide) ?_
                          have qv334 := tw_nI3 ev334
                          rw [qv334]
                          refine tw_lv [1, 2, 0] rfl ?_
                          refine tw_less (c2 := ((((803 + 21 * (r41 + 1)) - 570) + 114 * (r52 + 1)) - 126) + 18 * r100) (n2 := ((((4302 + 98 * (r41 + 1)) - 2950) + 590 * (r52 + 1)) - 756) + 108 * r100) (by omega) (by omega) ?_
                          exact ih101 (k99 + 1) x323 _ (sp104.tr sp329) (by omega) (by omega)
                        · have kl335 : k324 < 8 := tw_kle (N := 8) c333 hk332 (by decide)
                          refine tw_lload_n 1 dX10_digest_229 rfl rfl ?_
                          refine tw_ldc2 (v := 31) dX10_digest_230 w_1598 ?_
                          refine tw_lmul dX10_digest_233 ?_
                          refine tw_nml (fun v336 ev336 => ?_)
                          refine tw_aload_n 0 dX10_digest_234 rfl rfl ?_
                          refine tw_iload_n 2 dX10_digest_235 rfl rfl ?_
                          refine tw_iload 3 dX10_digest_236 rfl ?_
                          obtain ⟨e337, f338, th_339, td_340, ds_341, fr_342, ca_343, us_344, wo_345, cm_346, lc_347, lh_348, ld_349, rfl, k350, k351, k352, k353, k354, k355, k356, k357, k358, k359, k360, k361, k362, k363, k364, k365⟩ := sp329.1 x 36 kx (by decide)
                          refine tw_bi (tw_callV (M := mX10_digest) (pc := 238) okX10_ofHouseNow dX10_digest_238 w_1517 rfl f338 [.int (nI k99), .int (nI k324)] [.long v336] rfl rfl ⟨by decide, by decide⟩ (Nat.le_of_ble_eq_true rfl) (c_X10_ofHouseNow d g τ h328 sp329.1 x kx (nI k324) k99 (by omega) (vp_in_nI (by omega) (by decide))) ((((((((803 + 21 * (r41 + 1)) - 570) + 114 * (r52 + 1)) - 126) + 18 * (r100 + 1)) - 18) + 2 * (r325 + 1)) - 2) ((((((((4302 + 98 * (r41 + 1)) - 2950) + 590 * (r52 + 1)) - 756) + 108 * (r100 + 1)) - 108) + 12 * (r325 + 1)) - 12) (by omega) (by omega)) (fun r368 h367 q366 => ?_) (fun E h1 q => q.elim)
                          have sp369 := sp329.tr q366
                          refine tw_i2l dX10_digest_241 ?_
                          refine tw_nml (fun v370 ev370 => ?_)
                          refine tw_ladd dX10_digest_242 ?_
                          refine tw_nml (fun v371 ev371 => ?_)
                          refine tw_lstore_n [(1, .long v371), (0, .ref x), (3, .int (nI k99)), (4, .int (nI k324))] dX10_digest_243 rfl (by decide) rfl ?_
                          obtain ⟨v372, ev372⟩ : ∃ y : Int32, y = (nI k324) + 1 := ⟨_, rfl⟩
                          refine tw_iinc [(4, .int v372), (1, .long v371), (0, .ref x), (3, .int (nI k99))] 3 dX10_digest_244 rfl (by rw [ev372]; rfl) (by decide) rfl ?_
                          refine tw_goto 222 dX10_digest_247 (by decide) ?_
                          have qv372 := tw_nI3 ev372
                          rw [qv372]
                          refine tw_lv [2, 1, 3, 0] rfl ?_
                          refine tw_less (c2 := ((((((803 + 21 * (r41 + 1)) - 570) + 114 * (r52 + 1)) - 126) + 18 * (r100 + 1)) - 18) + 2 * r325) (n2 := ((((((4302 + 98 * (r41 + 1)) - 2950) + 590 * (r52 + 1)) - 756) + 108 * (r100 + 1)) - 108) + 12 * r325) (by omega) (by omega) ?_
                          exact ih326 (k324 + 1) v371 _ sp369 (by omega) (by omega)
                    refine tw_lv [1, 2, 3, 0] rfl ?_
                    refine tw_less (c2 := ((((((803 + 21 * (r41 + 1)) - 570) + 114 * (r52 + 1)) - 126) + 18 * (r100 + 1)) - 18) + 2 * 9) (n2 := ((((((4302 + 98 * (r41 + 1)) - 2950) + 590 * (r52 + 1)) - 756) + 108 * (r100 + 1)) - 108) + 12 * 9) (by omega) (by omega) ?_
                    exact L327 9 0 x98 _ (tw_sp.rf sp104.1) (by omega) (by omega)
              refine tw_lv [1, 2, 0] rfl ?_
              refine tw_less (c2 := ((((803 + 21 * (r41 + 1)) - 570) + 114 * (r52 + 1)) - 126) + 18 * 7) (n2 := ((((4302 + 98 * (r41 + 1)) - 2950) + 590 * (r52 + 1)) - 756) + 108 * 7) (by omega) (by omega) ?_
              exact L102 7 0 x50 _ (tw_sp.rf sp56.1) (by omega) (by omega)
            · have kl373 : k51 < (g.2 3) := tw_klt (N := (g.2 3)) c97 hk59 (by omega)
              refine tw_iconst (v := 0) dX10_digest_89 (by decide) ?_
              refine tw_istore [(4, .int 0), (0, .ref x), (1, .long x50), (3, .int (nI k51))] dX10_digest_90 (by decide) rfl ?_
              have L378 : ∀ (r376 k375 : Nat) (x374 : Int64) (h379 : tw_H) (sp380 : tw_sp d τ h55 g τ h379), 9 + 1 ≤ k375 + r376 → k375 ≤ 9 → tw_W d mX10_digest (tw_ql (fun r h1 => tw_sp d τ h g τ h1) tw_nx) 92 [(0, .ref x), (1, .long x374), (3, .int (nI k51)), (4, .int (nI k375))] [] h379 (((((803 + 21 * (r41 + 1)) - 570) + 114 * (r52 + 1)) - 30) + 3 * r376) (((((4302 + 98 * (r41 + 1)) - 2950) + 590 * (r52 + 1)) - 170) + 17 * r376) := by
                intro r376
                induction r376 with
                | zero => intro k375 x374 h379 sp380 hk382 hk383; exact absurd hk382 (by omega)
                | succ r376 ih377 =>
                  intro k375 x374 h379 sp380 hk382 hk383
                  refine tw_iload 3 dX10_digest_92 rfl ?_
                  refine tw_bipush (v := 8) dX10_digest_94 (by decide) ?_
                  refine tw_icmp_gt 120 dX10_digest_96 (by decide) (fun c384 => ?_) (fun c384 => ?_)
                  · refine tw_lload_n 1 dX10_digest_120 rfl rfl ?_
                    refine tw_ldc2 (v := 31) dX10_digest_121 w_1598 ?_
                    refine tw_lmul dX10_digest_124 ?_
                    refine tw_nml (fun v385 ev385 => ?_)
                    refine tw_aload_n 0 dX10_digest_125 rfl rfl ?_
                    refine tw_iload_n 2 dX10_digest_126 rfl rfl ?_
                    refine tw_bipush (v := 37) dX10_digest_127 (by decide) ?_
                    obtain ⟨e386, f387, th_388, td_389, ds_390, fr_391, ca_392, us_393, wo_394, cm_395, lc_396, lh_397, ld_398, rfl, k399, k400, k401, k402, k403, k404, k405, k406, k407, k408, k409, k410, k411, k412, k413, k414⟩ := sp380.1 x 36 kx (by decide)
                    refine tw_bi (tw_callV okX10_coinsNow dX10_digest_129 w_1497 rfl f387 [.int (nI k51), .int (nI 37)] [.long v385] rfl rfl ⟨by decide, by decide⟩ (Nat.le_of_ble_eq_true rfl) (c_X10_coinsNow d g τ h379 sp380.1 x kx k51 37 (by omega) (by decide)) ((((((803 + 21 * (r41 + 1)) - 570) + 114 * (r52 + 1)) - 30) + 3 * (r376 + 1)) - 84) ((((((4302 + 98 * (r41 + 1)) - 2950) + 590 * (r52 + 1)) - 170) + 17 * (r376 + 1)) - 420) (by have := tw_w37; omega) (by have := tw_w37; omega)) (fun r417 h416 q415 => ?_) (fun E h1 q => q.elim)
                    have sp418 := sp380.tr q415
                    refine tw_i2l dX10_digest_132 ?_
                    refine tw_nml (fun v419 ev419 => ?_)
                    refine tw_ladd dX10_digest_133 ?_
                    refine tw_nml (fun v420 ev420 => ?_)
                    refine tw_lstore_n [(1, .long v420), (0, .ref x), (3, .int (nI k51)), (4, .int (nI k375))] dX10_digest_134 rfl (by decide) rfl ?_
                    refine tw_iconst (v := 0) dX10_digest_135 (by decide) ?_
                    refine tw_istore [(4, .int 0), (1, .long v420), (0, .ref x), (3, .int (nI k51))] dX10_digest_136 (by decide) rfl ?_
                    have L425 : ∀ (r423 k422 : Nat) (x421 : Int64), 2 + 1 ≤ k422 + r423 → k422 ≤ 2 → tw_W d mX10_digest (tw_ql (fun r h1 => tw_sp d τ h g τ h1) tw_nx) 138 [(0, .ref x), (1, .long x421), (3, .int (nI k51)), (4, .int (nI k422))] [] h416 ((((((803 + 21 * (r41 + 1)) - 570) + 114 * (r52 + 1)) - 30) + 3 * (r376 + 1)) - 84) ((((((4302 + 98 * (r41 + 1)) - 2950) + 590 * (r52 + 1)) - 170) + 17 * (r376 + 1)) - 420) := by
                      intro r423
                      induction r423 with
                      | zero => intro k422 x421 hk429 hk430; exact absurd hk429 (by omega)
                      | succ r423 ih424 =>
                        intro k422 x421 hk429 hk430
                        refine tw_iload 3 dX10_digest_138 rfl ?_
                        refine tw_iconst (v := 2) dX10_digest_140 (by decide) ?_
                        refine tw_icmp_ge 168 dX10_digest_141 (by decide) (fun c431 => ?_) (fun c431 => ?_)
                        · refine tw_iconst (v := 0) dX10_digest_168 (by decide) ?_
                          refine tw_istore [(4, .int 0), (0, .ref x), (1, .long x421), (3, .int (nI k51))] dX10_digest_169 (by decide) rfl ?_
                          have L436 : ∀ (r434 k433 : Nat) (x432 : Int64), 2 + 1 ≤ k433 + r434 → k433 ≤ 2 → tw_W d mX10_digest (tw_ql (fun r h1 => tw_sp d τ h g τ h1) tw_nx) 171 [(0, .ref x), (1, .long x432), (3, .int (nI k51)), (4, .int (nI k433))] [] h416 ((((((803 + 21 * (r41 + 1)) - 570) + 114 * (r52 + 1)) - 30) + 3 * (r376 + 1)) - 84) ((((((4302 + 98 * (r41 + 1)) - 2950) + 590 * (r52 + 1)) - 170) + 17 * (r376 + 1)) - 420) := by
                            intro r434
                            induction r434 with
                            | zero => intro k433 x432 hk440 hk441; exact absurd hk440 (by omega)
                            | succ r434 ih435 =>
                              intro k433 x432 hk440 hk441
                              refine tw_iload 3 dX10_digest_171 rfl ?_
                              refine tw_iconst (v := 2) dX10_digest_173 (by decide) ?_
                              refine tw_icmp_ge 200 dX10_digest_174 (by decide) (fun c442 => ?_) (fun c442 => ?_)
                              · obtain ⟨v443, ev443⟩ : ∃ y : Int32, y = (nI k51) + 1 := ⟨_, rfl⟩
                                refine tw_iinc [(3, .int v443), (0, .ref x), (1, .long x432), (4, .int (nI k433))] 2 dX10_digest_200 rfl (by rw [ev443]; rfl) (by decide) rfl ?_
                                refine tw_goto 78 dX10_digest_203 (by decide) ?_
                                have qv443 := tw_nI3 ev443
                                rw [qv443]
                                refine tw_lv [1, 2, 0] rfl ?_
                                refine tw_less (c2 := ((803 + 21 * (r41 + 1)) - 570) + 114 * r52) (n2 := ((4302 + 98 * (r41 + 1)) - 2950) + 590 * r52) (by omega) (by omega) ?_
                                exact ih53 (k51 + 1) x432 _ (sp56.tr sp418) (by omega) (by omega)
                              · have kl444 := tw_klt (N := 2) c442 hk441 (by decide)
                                refine tw_lload_n 1 dX10_digest_177 rfl rfl ?_
                                refine tw_ldc2 (v := 31) dX10_digest_178 w_1598 ?_
                                refine tw_lmul dX10_digest_181 ?_
                                refine tw_nml (fun v445 ev445 => ?_)
                                refine tw_aload_n 0 dX10_digest_182 rfl rfl ?_
                                refine tw_iload_n 2 dX10_digest_183 rfl rfl ?_
                                refine tw_iload 3 dX10_digest_184 rfl ?_
                                refine tw_bipush (v := 10) dX10_digest_186 (by decide) ?_
                                obtain ⟨e446, f447, th_448, td_449, ds_450, fr_451, ca_452, us_453, wo_454, cm_455, lc_456, lh_457, ld_458, rfl, k459, k460, k461, k462, k463, k464, k465, k466, k467, k468, k469, k470, k471, k472, k473, k474⟩ := sp418.1 x 36 kx (by decide)
                                refine tw_bi (tw_callV (M := mX10_digest) (pc := 188) okX10_lastNow dX10_digest_188 w_1581 rfl f447 [.int (nI k51), .int (nI k433), .int 10] [.long v445] rfl rfl ⟨by decide, by decide⟩ (Nat.le_of_ble_eq_true rfl) (c_X10_lastNow d g τ h416 sp418.1 x kx (nI k433) 10 k51 (by omega) (tw_m2 (by omega))) ((((((803 + 21 * (r41 + 1)) - 570) + 114 * (r52 + 1)) - 30) + 3 * (r376 + 1)) - 84) ((((((4302 + 98 * (r41 + 1)) - 2950) + 590 * (r52 + 1)) - 170) + 17 * (r376 + 1)) - 420) (by omega) (by omega)) (fun r477 h476 q475 => ?_) (fun E h1 q => q.elim)
                                rw [q475]
                                refine tw_i2l dX10_digest_191 ?_
                                refine tw_nml (fun v478 ev478 => ?_)
                                refine tw_ladd dX10_digest_192 ?_
                                refine tw_nml (fun v479 ev479 => ?_)
                                refine tw_lstore_n [(1, .long v479), (0, .ref x), (3, .int (nI k51)), (4, .int (nI k433))] dX10_digest_193 rfl (by decide) rfl ?_
                                obtain ⟨v480, ev480⟩ : ∃ y : Int32, y = (nI k433) + 1 := ⟨_, rfl⟩
                                refine tw_iinc [(4, .int v480), (1, .long v479), (0, .ref x), (3, .int (nI k51))] 3 dX10_digest_194 rfl (by rw [ev480]; rfl) (by decide) rfl ?_
                                refine tw_goto 171 dX10_digest_197 (by decide) ?_
                                have qv480 := tw_nI3 ev480
                                rw [qv480]
                                refine tw_lv [2, 1, 3, 0] rfl ?_
                                exact ih435 (k433 + 1) v479 (by omega) (by omega)
                          refine tw_lv [1, 2, 3, 0] rfl ?_
                          exact L436 (2 + 1) 0 x421 (by omega) (by omega)
                        · have kl481 := tw_klt (N := 2) c431 hk430 (by decide)
                          refine tw_lload_n 1 dX10_digest_144 rfl rfl ?_
                          refine tw_ldc2 (v := 31) dX10_digest_145 w_1598 ?_
                          refine tw_lmul dX10_digest_148 ?_
                          refine tw_nml (fun v482 ev482 => ?_)
                          refine tw_aload_n 0 dX10_digest_149 rfl rfl ?_
                          refine tw_iload_n 2 dX10_digest_150 rfl rfl ?_
                          refine tw_iload 3 dX10_digest_151 rfl ?_
                          refine tw_sipush (v := 1000) dX10_digest_153 (by decide) ?_
                          obtain ⟨e483, f484, th_485, td_486, ds_487, fr_488, ca_489, us_490, wo_491, cm_492, lc_493, lh_494, ld_495, rfl, k496, k497, k498, k499, k500, k501, k502, k503, k504, k505, k506, k507, k508, k509, k510, k511⟩ := sp418.1 x 36 kx (by decide)
                          refine tw_bi (tw_callV (M := mX10_digest) (pc := 156) okX10_bestTripNow dX10_digest_156 w_1565 rfl f484 [.int (nI k51), .int (nI k422), .int 1000] [.long v482] rfl rfl ⟨by decide, by decide⟩ (Nat.le_of_ble_eq_true rfl) (c_X10_bestTripNow d g τ h416 sp418.1 x kx (nI k422) 1000 k51 (by omega) ) ((((((803 + 21 * (r41 + 1)) - 570) + 114 * (r52 + 1)) - 30) + 3 * (r376 + 1)) - 84) ((((((4302 + 98 * (r41 + 1)) - 2950) + 590 * (r52 + 1)) - 170) + 17 * (r376 + 1)) - 420) (by omega) (by omega)) (fun r514 h513 q512 => ?_) (fun E h1 q => q.elim)
                          rw [q512]
                          refine tw_i2l dX10_digest_159 ?_
                          refine tw_nml (fun v515 ev515 => ?_)
                          refine tw_ladd dX10_digest_160 ?_
                          refine tw_nml (fun v516 ev516 => ?_)
                          refine tw_lstore_n [(1, .long v516), (0, .ref x), (3, .int (nI k51)), (4, .int (nI k422))] dX10_digest_161 rfl (by decide) rfl ?_
                          obtain ⟨v517, ev517⟩ : ∃ y : Int32, y = (nI k422) + 1 := ⟨_, rfl⟩
                          refine tw_iinc [(4, .int v517), (1, .long v516), (0, .ref x), (3, .int (nI k51))] 3 dX10_digest_162 rfl (by rw [ev517]; rfl) (by decide) rfl ?_
                          refine tw_goto 138 dX10_digest_165 (by decide) ?_
                          have qv517 := tw_nI3 ev517
                          rw [qv517]
                          refine tw_lv [2, 1, 3, 0] rfl ?_
                          exact ih424 (k422 + 1) v516 (by omega) (by omega)
                    refine tw_lv [2, 1, 3, 0] rfl ?_
                    exact L425 (2 + 1) 0 v420 (by omega) (by omega)
                  · have kl518 : k375 < 9 := tw_kle (N := 9) c384 hk383 (by decide)
                    refine tw_lload_n 1 dX10_digest_99 rfl rfl ?_
                    refine tw_ldc2 (v := 31) dX10_digest_100 w_1598 ?_
                    refine tw_lmul dX10_digest_103 ?_
                    refine tw_nml (fun v519 ev519 => ?_)
                    refine tw_aload_n 0 dX10_digest_104 rfl rfl ?_
                    refine tw_iload_n 2 dX10_digest_105 rfl rfl ?_
                    refine tw_iload 3 dX10_digest_106 rfl ?_
                    obtain ⟨e520, f521, th_522, td_523, ds_524, fr_525, ca_526, us_527, wo_528, cm_529, lc_530, lh_531, ld_532, rfl, k533, k534, k535, k536, k537, k538, k539, k540, k541, k542, k543, k544, k545, k546, k547, k548⟩ := sp380.1 x 36 kx (by decide)
                    refine tw_bi (tw_callV (M := mX10_digest) (pc := 108) okX10_ofCountryNow dX10_digest_108 w_1505 rfl f521 [.int (nI k51), .int (nI k375)] [.long v519] rfl rfl ⟨by decide, by decide⟩ (Nat.le_of_ble_eq_true rfl) (c_X10_ofCountryNow d g τ h379 sp380.1 x kx (nI k375) k51 (by omega) (vp_in_nI (by omega) (by decide))) ((((((803 + 21 * (r41 + 1)) - 570) + 114 * (r52 + 1)) - 30) + 3 * (r376 + 1)) - 3) ((((((4302 + 98 * (r41 + 1)) - 2950) + 590 * (r52 + 1)) - 170) + 17 * (r376 + 1)) - 17) (by omega) (by omega)) (fun r551 h550 q549 => ?_) (fun E h1 q => q.elim)
                    have sp552 := sp380.tr q549
                    refine tw_i2l dX10_digest_111 ?_
                    refine tw_nml (fun v553 ev553 => ?_)
                    refine tw_ladd dX10_digest_112 ?_
                    refine tw_nml (fun v554 ev554 => ?_)
                    refine tw_lstore_n [(1, .long v554), (0, .ref x), (3, .int (nI k51)), (4, .int (nI k375))] dX10_digest_113 rfl (by decide) rfl ?_
                    obtain ⟨v555, ev555⟩ : ∃ y : Int32, y = (nI k375) + 1 := ⟨_, rfl⟩
                    refine tw_iinc [(4, .int v555), (1, .long v554), (0, .ref x), (3, .int (nI k51))] 3 dX10_digest_114 rfl (by rw [ev555]; rfl) (by decide) rfl ?_
                    refine tw_goto 92 dX10_digest_117 (by decide) ?_
                    have qv555 := tw_nI3 ev555
                    rw [qv555]
                    refine tw_lv [2, 1, 3, 0] rfl ?_
                    refine tw_less (c2 := ((((803 + 21 * (r41 + 1)) - 570) + 114 * (r52 + 1)) - 30) + 3 * r376) (n2 := ((((4302 + 98 * (r41 + 1)) - 2950) + 590 * (r52 + 1)) - 170) + 17 * r376) (by omega) (by omega) ?_
                    exact ih377 (k375 + 1) v554 _ sp552 (by omega) (by omega)
              refine tw_lv [1, 2, 3, 0] rfl ?_
              refine tw_less (c2 := ((((803 + 21 * (r41 + 1)) - 570) + 114 * (r52 + 1)) - 30) + 3 * 10) (n2 := ((((4302 + 98 * (r41 + 1)) - 2950) + 590 * (r52 + 1)) - 170) + 17 * 10) (by omega) (by omega) ?_
              exact L378 10 0 x50 _ (tw_sp.rf sp56.1) (by omega) (by omega)
        refine tw_lv [1, 2, 0] rfl ?_
        refine tw_less (c2 := ((803 + 21 * (r41 + 1)) - 570) + 114 * 5) (n2 := ((4302 + 98 * (r41 + 1)) - 2950) + 590 * 5) (by omega) (by omega) ?_
        exact L54 5 0 x39 _ (tw_sp.rf sp45.1) (by omega) (by omega)
      · have kl556 := tw_klt (N := 2) c49 hk48 (by decide)
        refine tw_iconst (v := 0) dX10_digest_40 (by decide) ?_
        refine tw_istore [(4, .int 0), (0, .ref x), (1, .long x39), (3, .int (nI k40))] dX10_digest_41 (by decide) rfl ?_
        have L561 : ∀ (r559 k558 : Nat) (x557 : Int64) (h562 : tw_H) (sp563 : tw_sp d τ h44 g τ h562), 6 + 1 ≤ k558 + r559 → k558 ≤ 6 → tw_W d mX10_digest (tw_ql (fun r h1 => tw_sp d τ h g τ h1) tw_nx) 43 [(0, .ref x), (1, .long x557), (3, .int (nI k40)), (4, .int (nI k558))] [] h562 (((803 + 21 * (r41 + 1)) - 21) + 3 * r559) (((4302 + 98 * (r41 + 1)) - 98) + 14 * r559) := by
          intro r559
          induction r559 with
          | zero => intro k558 x557 h562 sp563 hk565 hk566; exact absurd hk565 (by omega)
          | succ r559 ih560 =>
            intro k558 x557 h562 sp563 hk565 hk566
            refine tw_iload 3 dX10_digest_43 rfl ?_
            refine tw_iconst (v := 5) dX10_digest_45 (by decide) ?_
            refine tw_icmp_gt 70 dX10_digest_46 (by decide) (fun c567 => ?_) (fun c567 => ?_)
            · obtain ⟨v568, ev568⟩ : ∃ y : Int32, y = (nI k40) + 1 := ⟨_, rfl⟩
              refine tw_iinc [(3, .int v568), (0, .ref x), (1, .long x557), (4, .int (nI k558))] 2 dX10_digest_70 rfl (by rw [ev568]; rfl) (by decide) rfl ?_
              refine tw_goto 35 dX10_digest_73 (by decide) ?_
              have qv568 := tw_nI3 ev568
              rw [qv568]
              refine tw_lv [1, 2, 0] rfl ?_
              refine tw_less (c2 := 803 + 21 * r41) (n2 := 4302 + 98 * r41) (by omega) (by omega) ?_
              exact ih42 (k40 + 1) x557 _ (sp45.tr sp563) (by omega) (by omega)
            · have kl569 : k558 < 6 := tw_kle (N := 6) c567 hk566 (by decide)
              refine tw_lload_n 1 dX10_digest_49 rfl rfl ?_
              refine tw_ldc2 (v := 31) dX10_digest_50 w_1598 ?_
              refine tw_lmul dX10_digest_53 ?_
              refine tw_nml (fun v570 ev570 => ?_)
              refine tw_aload_n 0 dX10_digest_54 rfl rfl ?_
              refine tw_iload_n 2 dX10_digest_55 rfl rfl ?_
              refine tw_iload 3 dX10_digest_56 rfl ?_
              obtain ⟨e571, f572, th_573, td_574, ds_575, fr_576, ca_577, us_578, wo_579, cm_580, lc_581, lh_582, ld_583, rfl, k584, k585, k586, k587, k588, k589, k590, k591, k592, k593, k594, k595, k596, k597, k598, k599⟩ := sp563.1 x 36 kx (by decide)
              refine tw_bi (tw_callV (M := mX10_digest) (pc := 58) okX10_worldNow dX10_digest_58 w_1537 rfl f572 [.int (nI k40), .int (nI k558)] [.long v570] rfl rfl ⟨by decide, by decide⟩ (Nat.le_of_ble_eq_true rfl) (c_X10_worldNow d g τ h562 sp563.1 x kx (nI k40) (nI k558) (vp_in_nI (by omega) (by decide)) (vp_in_nI (by omega) (by decide))) ((((803 + 21 * (r41 + 1)) - 21) + 3 * (r559 + 1)) - 3) ((((4302 + 98 * (r41 + 1)) - 98) + 14 * (r559 + 1)) - 14) (by omega) (by omega)) (fun r602 h601 q600 => ?_) (fun E h1 q => q.elim)
              have sp603 := sp563.tr q600
              refine tw_i2l dX10_digest_61 ?_
              refine tw_nml (fun v604 ev604 => ?_)
              refine tw_ladd dX10_digest_62 ?_
              refine tw_nml (fun v605 ev605 => ?_)
              refine tw_lstore_n [(1, .long v605), (0, .ref x), (3, .int (nI k40)), (4, .int (nI k558))] dX10_digest_63 rfl (by decide) rfl ?_
              obtain ⟨v606, ev606⟩ : ∃ y : Int32, y = (nI k558) + 1 := ⟨_, rfl⟩
              refine tw_iinc [(4, .int v606), (1, .long v605), (0, .ref x), (3, .int (nI k40))] 3 dX10_digest_64 rfl (by rw [ev606]; rfl) (by decide) rfl ?_
              refine tw_goto 43 dX10_digest_67 (by decide) ?_
              have qv606 := tw_nI3 ev606
              rw [qv606]
              refine tw_lv [2, 1, 3, 0] rfl ?_
              refine tw_less (c2 := ((803 + 21 * (r41 + 1)) - 21) + 3 * r559) (n2 := ((4302 + 98 * (r41 + 1)) - 98) + 14 * r559) (by omega) (by omega) ?_
              exact ih560 (k558 + 1) v605 _ sp603 (by omega) (by omega)
        refine tw_lv [1, 2, 3, 0] rfl ?_
        refine tw_less (c2 := ((803 + 21 * (r41 + 1)) - 21) + 3 * 7) (n2 := ((4302 + 98 * (r41 + 1)) - 98) + 14 * 7) (by omega) (by omega) ?_
        exact L561 7 0 x39 _ (tw_sp.rf sp45.1) (by omega) (by omega)
  refine tw_lv [2, 1, 0] rfl ?_
  refine tw_less (c2 := 803 + 21 * 3) (n2 := 4302 + 98 * 3) (by omega) (by omega) ?_
  exact L43 3 0 v38 _ (tw_sp.rf sp31.1) (by omega) (by omega)

set_option maxHeartbeats 4000000 in
set_option maxRecDepth 100000 in
theorem c_X10_give (d : tw_D) (g : tw_G) (τ : tw_K) (h : tw_H) (hw : tw_wt d g τ h) (x : Nat) (kx : τ x = 36) (n : Int32) (am : Int32) : tw_Ct d mX10_give 500 2500 [.ref x, .int n, .int am] h (tw_qi (fun r h1 => tw_sp d τ h g τ h1) tw_nx) := by
  refine tw_of (by decide +kernel) (Nat.le_of_ble_eq_true rfl) ?_
  show tw_W d mX10_give _ 0 [(0, .ref x), (1, .int n), (2, .int am)] [] h 500 2500
  have sp0 := tw_sp.rf hw
  refine tw_aload_n 0 dX10_give_0 rfl rfl ?_
  refine tw_aload_n 0 dX10_give_1 rfl rfl ?_
  refine tw_iload_n 1 dX10_give_2 rfl rfl ?_
  obtain ⟨e1, f2, th_3, td_4, ds_5, fr_6, ca_7, us_8, wo_9, cm_10, lc_11, lh_12, ld_13, rfl, k14, k15, k16, k17, k18, k19, k20, k21, k22, k23, k24, k25, k26, k27, k28, k29⟩ := sp0.1 x 36 kx (by decide)
  refine tw_bi (tw_callV (M := mX10_give) (pc := 3) okX10_isNoCountry dX10_give_3 w_1292 rfl f2 [.int n] [.ref x] rfl rfl ⟨by decide, by decide⟩ (Nat.le_of_ble_eq_true rfl) (c_X10_isNoCountry d g τ h sp0.1 x kx n) 500 2500 (Nat.le_of_ble_eq_true rfl) (Nat.le_of_ble_eq_true rfl)) (fun r32 h31 q30 => ?_) (fun E h1 q => q.elim)
  obtain ⟨q30e, q30d⟩ := q30
  rw [q30e]
  rcases q30d with q30r | ⟨q30r, j33, q30j, q30k⟩
  · rw [q30r]
    refine tw_iconst (v := 1) dX10_give_6 (by decide) ?_
    refine tw_bi (tw_callV (M := mX10_give) (pc := 7) okX10_start dX10_give_7 w_1200 rfl f2 [.int 1, .int 1] [] rfl rfl ⟨by decide, by decide⟩ (Nat.le_of_ble_eq_true rfl) (c_X10_start d g τ h sp0.1 x kx 1 1 (by decide)) 500 2500 (Nat.le_of_ble_eq_true rfl) (Nat.le_of_ble_eq_true rfl)) (fun r36 h35 q34 => ?_) (fun E h1 q => q.elim)
    obtain ⟨e37, he38, hs39, hr40, h341⟩ := q34
    have sp42 : tw_sp d τ h g τ h35 := by rw [he38]; exact sp0.set kx (by decide) hs39
    rcases hr40 with ei43 | ⟨ei43, ei43b⟩
    · rw [ei43]
      refine tw_if_ne 37 dX10_give_10 (by decide) (fun _ => ?_) (fun c44 => absurd c44 (by decide))
      refine tw_iconst (v := 0) dX10_give_37 (by decide) ?_
      exact tw_iret dX10_give_38 rfl (Or.inl ⟨_, rfl, sp42⟩)
    · exact absurd ei43b (by decide)
  · rw [q30r]
    subst q30k
    refine tw_iconst (v := 1) dX10_give_6 (by decide) ?_
    refine tw_bi (tw_callV (M := mX10_give) (pc := 7) okX10_start dX10_give_7 w_1200 rfl f2 [.int 0, .int 1] [] rfl rfl ⟨by decide, by decide⟩ (Nat.le_of_ble_eq_true rfl) (c_X10_start d g τ h sp0.1 x kx 0 1 (by decide)) 500 2500 (Nat.le_of_ble_eq_true rfl) (Nat.le_of_ble_eq_true rfl)) (fun r47 h46 q45 => ?_) (fun E h1 q => q.elim)
    obtain ⟨e48, he49, hs50, hr51, h352⟩ := q45
    have sp53 : tw_sp d τ h g τ h46 := by rw [he49]; exact sp0.set kx (by decide) hs50
    rcases hr51 with ei54 | ⟨ei54, ei54b⟩
    · rw [ei54]
      refine tw_if_ne 37 dX10_give_10 (by decide) (fun _ => ?_) (fun c55 => absurd c55 (by decide))
      refine tw_iconst (v := 0) dX10_give_37 (by decide) ?_
      exact tw_iret dX10_give_38 rfl (Or.inl ⟨_, rfl, sp53⟩)
    · rw [ei54]
      refine tw_if_ne 37 dX10_give_10 (by decide) (fun c56 => absurd (by decide) c56) (fun _ => ?_)
      refine tw_aload_n 0 dX10_give_13 rfl rfl ?_
      refine tw_iload_n 2 dX10_give_14 rfl rfl ?_
      refine tw_iconst (v := 1) dX10_give_15 (by decide) ?_
      refine tw_sipush (v := 400) dX10_give_16 (by decide) ?_
      refine tw_bi (tw_callS (M := mX10_give) (pc := 19) okX10_isIn dX10_give_19 w_1196 [.int am, .int 1, .int 400] [.ref x] rfl rfl ⟨by decide, by decide⟩ (Nat.le_of_ble_eq_true rfl) (c_X10_isIn d g τ h46 sp53.1 am 1 400) 500 2500 (Nat.le_of_ble_eq_true rfl) (Nat.le_of_ble_eq_true rfl)) (fun r59 h58 q57 => ?_) (fun E h1 q => q.elim)
      obtain ⟨q57e, q57d⟩ := q57
      rw [q57e]
      rcases q57d with ⟨q57r, q57n⟩ | ⟨q57r, q57a, q57b⟩
      · rw [q57r]
        refine tw_if_ne 29 dX10_give_22 (by decide) (fun c60 => absurd (by decide) c60) (fun _ => ?_)
        refine tw_iconst (v := 1) dX10_give_25 (by decide) ?_
        refine tw_goto 30 dX10_give_26 (by decide) ?_
        refine tw_iconst (v := 2) dX10_give_30 (by decide) ?_
        obtain ⟨e61, f62, th_63, td_64, ds_65, fr_66, ca_67, us_68, wo_69, cm_70, lc_71, lh_72, ld_73, rfl, k74, k75, k76, k77, k78, k79, k80, k81, k82, k83, k84, k85, k86, k87, k88, k89⟩ := sp53.1 x 36 kx (by decide)
        refine tw_bi (tw_callV (M := mX10_give) (pc := 31) okX10_refuse dX10_give_31 w_1204 rfl f62 [.int 1, .int 2] [] rfl rfl ⟨by decide, by decide⟩ (Nat.le_of_ble_eq_true rfl) (c_X10_refuse d g τ h46 sp53.1 x kx 1 2 (by decide)) 500 2500 (Nat.le_of_ble_eq_true rfl) (Nat.le_of_ble_eq_true rfl)) (fun r92 h91 q90 => ?_) (fun E h1 q => q.elim)
        obtain ⟨e93, he94, hs95, hr96, h397⟩ := q90
        have sp98 : tw_sp d τ h g τ h91 := by rw [he94]; exact sp53.set kx (by decide) hs95
        rcases hr96 with ei99 | ⟨ei99, ei99b⟩
        · rw [ei99]
          refine tw_if_eq 39 dX10_give_34 (by decide) (fun c100 => absurd c100 (by decide)) (fun _ => ?_)
          refine tw_iconst (v := 0) dX10_give_37 (by decide) ?_
          exact tw_iret dX10_give_38 rfl (Or.inl ⟨_, rfl, sp98⟩)
        · exact absurd ei99b (by decide)
      · rw [q57r]
        refine tw_if_ne 29 dX10_give_22 (by decide) (fun _ => ?_) (fun c101 => absurd c101 (by decide))
        refine tw_iconst (v := 0) dX10_give_29 (by decide) ?_
        refine tw_iconst (v := 2) dX10_give_30 (by decide) ?_
        obtain ⟨e102, f103, th_104, td_105, ds_106, fr_107, ca_108, us_109, wo_110, cm_111, lc_112, lh_113, ld_114, rfl, k115, k116, k117, k118, k119, k120, k121, k122, k123, k124, k125, k126, k127, k128, k129, k130⟩ := sp53.1 x 36 kx (by decide)
        refine tw_bi (tw_callV (M := mX10_give) (pc := 31) okX10_refuse dX10_give_31 w_1204 rfl f103 [.int 0, .int 2] [] rfl rfl ⟨by decide, by decide⟩ (Nat.le_of_ble_eq_true rfl) (c_X10_refuse d g τ h46 sp53.1 x kx 0 2 (by decide)) 500 2500 (Nat.le_of_ble_eq_true rfl) (Nat.le_of_ble_eq_true rfl)) (fun r133 h132 q131 => ?_) (fun E h1 q => q.elim)
        obtain ⟨e134, he135, hs136, hr137, h3138⟩ := q131
        have sp139 : tw_sp d τ h g τ h132 := by rw [he135]; exact sp53.set kx (by decide) hs136
        rcases hr137 with ei140 | ⟨ei140, ei140b⟩
        · rw [ei140]
          refine tw_if_eq 39 dX10_give_34 (by decide) (fun c141 => absurd c141 (by decide)) (fun _ => ?_)
          refine tw_iconst (v := 0) dX10_give_37 (by decide) ?_
          exact tw_iret dX10_give_38 rfl (Or.inl ⟨_, rfl, sp139⟩)
        · rw [ei140]
          refine tw_if_eq 39 dX10_give_34 (by decide) (fun _ => ?_) (fun c142 => absurd (by decide) c142)
          refine tw_aload_n 0 dX10_give_39 rfl rfl ?_
          obtain ⟨e143, f144, th_145, td_146, ds_147, fr_148, ca_149, us_150, wo_151, cm_152, lc_153, lh_154, ld_155, rfl, k156, k157, k158, k159, k160, k161, k162, k163, k164, k165, k166, k167, k168, k169, k170, k171⟩ := sp139.1 x 36 kx (by decide)
          refine tw_get (v := .ref lc_153) rfl in_14 9 dX10_give_40 w_1160 rfl (by decide) f144 rfl ?_
          refine tw_iload_n 1 dX10_give_43 rfl rfl ?_
          obtain ⟨e172, f173, ⟨el174, rfl, k175⟩, k176⟩ := sp139.1 lc_153 24 k162 (by decide)
          refine tw_br (tw_callV (M := mX10_give) (pc := 44) okJx4a65c_get_915e3 dX10_give_44 w_1296 rfl f173 [.int (nI j33)] [] rfl rfl ⟨by decide, by decide⟩ (Nat.le_of_ble_eq_true rfl) (c24_get d g τ h132 sp139.1 lc_153 k162 j33 (by omega) (by omega)) 500 2500 (Nat.le_of_ble_eq_true rfl) (Nat.le_of_ble_eq_true rfl)) (fun r179 h178 q177 => ?_) (fun E h1 q => q.elim)
          obtain ⟨q177e, q177k⟩ := q177
          rw [q177e]
          have el180 : tw_el h132 (g.2 12) j33 = r179 := by rw [← k176]; exact q177k.2.symm
          have kl181 : τ (g.2 12) = 24 := by rw [← k176]; exact k162
          obtain ⟨e182, f183, r_184, c_185, v_186, o_187, t_188, rfl, k189, k190, k191, k192, k193⟩ := sp139.1 r179 21 q177k.1 (by decide)
          refine tw_castS (ci := 11) rfl dX10_give_47 w_1212 f183 ?_
          refine tw_get (v := .ref t_188) rfl in_11 4 dX10_give_50 w_1225 rfl (by decide) f183 rfl ?_
          refine tw_iconst (v := 0) dX10_give_53 (by decide) ?_
          refine tw_iload_n 2 dX10_give_54 rfl rfl ?_
          obtain ⟨l194, hl195, el196⟩ := tw_l400 q57a q57b
          subst el196
          obtain ⟨e197, f198, F199, rfl, k200⟩ := sp139.1 t_188 33 k191 (by decide)
          refine tw_bq (tw_callS (okX10_best 5) dX10_give_55 w_1484 [.ref t_188, .int 0, .int (nI l194)] [] rfl rfl ⟨by decide, by decide⟩ (Nat.le_of_ble_eq_true rfl) (c_best d 5 5 (Nat.le_refl _) (Nat.le_refl _) h132 t_188 l194 F199 f198 k200 hl195) 0 0 (by have := tw_w5 hl195; omega) (by have := tw_w5 hl195; omega)) (fun r203 h202 q201 => ?_) (fun E h1 q => q.elim)
          obtain ⟨q201g, q201r⟩ := q201
          have sp204 := sp139.tr (q201g.sp sp139.1)
          have f205 := q201g _ _ f144
          have f206 := q201g _ _ f173
          have f207 := q201g _ _ f183
          have f208 := q201g _ _ f198
          have el209 := (tw_el_gw sp139.1 q201g kl181 (by omega)).trans el180
          cases r203 with
          | none =>
            refine tw_astore_nN [(3, .null), (0, .ref x), (1, .int (nI j33)), (2, .int (nI l194))] dX10_give_58 rfl (by decide) rfl ?_
            refine tw_aload_n 1 dX10_give_59 rfl rfl ?_
            refine tw_aload_nN 0 dX10_give_60 rfl rfl ?_
            refine tw_ifnonnullN dX10_give_61 ?_
            refine tw_iconst (v := 1) dX10_give_64 (by decide) ?_
            refine tw_goto 69 dX10_give_65 (by decide) ?_
            refine tw_iconst (v := 3) dX10_give_69 (by decide) ?_
            refine tw_bi (tw_callV (M := mX10_give) (pc := 70) okX10_refuse dX10_give_70 w_1204 rfl f205 [.int 1, .int 3] [] rfl rfl ⟨by decide, by decide⟩ (Nat.le_of_ble_eq_true rfl) (c_X10_refuse d g τ h202 sp204.1 x kx 1 3 (by decide)) 0 0 (Nat.le_of_ble_eq_true rfl) (Nat.le_of_ble_eq_true rfl)) (fun r213 h212 q211 => ?_) (fun E h1 q => q.elim)
            obtain ⟨e214, he215, hs216, hr217, h3218⟩ := q211
            have sp219 : tw_sp d τ h g τ h212 := by rw [he215]; exact sp204.set kx (by decide) hs216
            have f220 : h212 lc_153 = some (.inr (3, [.int (g.1 3), .ref el174, .int (nI (g.2 3))])) := by rw [he215, tw_up_n (fun q => absurd (k162) (by rw [q, kx]; decide))]; exact f206
            have f221 : h212 r179 = some (.inr (11, [.int r_184, .int c_185, .ref v_186, .ref o_187, .ref t_188])) := by rw [he215, tw_up_n (fun q => absurd (q177k.1) (by rw [q, kx]; decide))]; exact f207
            have f222 : h212 t_188 = some (.inl (d.2 0, 5, .inl F199)) := by rw [he215, tw_up_n (fun q => absurd (k191) (by rw [q, kx]; decide))]; exact f208
            have el223 : tw_el h212 (g.2 12) j33 = r179 := by rw [he215]; exact (tw_el24_up sp204.1 kl181 (by omega) (by rw [kx]; decide) (by rw [kx]; decide)).trans el209
            rcases hr217 with ei224 | ⟨ei224, ei224b⟩
            · rw [ei224]
              refine tw_if_eq 78 dX10_give_73 (by decide) (fun c225 => absurd c225 (by decide)) (fun _ => ?_)
              refine tw_iconst (v := 0) dX10_give_76 (by decide) ?_
              exact tw_iret dX10_give_77 rfl (Or.inl ⟨_, rfl, sp219⟩)
            · exact absurd ei224b (by decide)
          | some b210 =>
            obtain ⟨hq226, G227, hG228, hGb229⟩ := q201r b210 rfl
            have n230 := sp139.nn hq226
            have z231 := sp139.1.none hq226
            refine tw_astore_n [(3, .ref b210), (0, .ref x), (1, .int (nI j33)), (2, .int (nI l194))] dX10_give_58 rfl (by decide) rfl ?_
            refine tw_aload_n 1 dX10_give_59 rfl rfl ?_
            refine tw_aload_n 0 dX10_give_60 rfl rfl ?_
            refine tw_ifnonnull 68 dX10_give_61 (by decide) ?_
            refine tw_iconst (v := 0) dX10_give_68 (by decide) ?_
            refine tw_iconst (v := 3) dX10_give_69 (by decide) ?_
            refine tw_bi (tw_callV (M := mX10_give) (pc := 70) okX10_refuse dX10_give_70 w_1204 rfl f205 [.int 0, .int 3] [] rfl rfl ⟨by decide, by decide⟩ (Nat.le_of_ble_eq_true rfl) (c_X10_refuse d g τ h202 sp204.1 x kx 0 3 (by decide)) 0 0 (Nat.le_of_ble_eq_true rfl) (Nat.le_of_ble_eq_true rfl)) (fun r234 h233 q232 => ?_) (fun E h1 q => q.elim)
            obtain ⟨e235, he236, hs237, hr238, h3239⟩ := q232
            have sp240 : tw_sp d τ h g τ h233 := by rw [he236]; exact sp204.set kx (by decide) hs237
            have f241 : h233 lc_153 = some (.inr (3, [.int (g.1 3), .ref el174, .int (nI (g.2 3))])) := by rw [he236, tw_up_n (fun q => absurd (k162) (by rw [q, kx]; decide))]; exact f206
            have f242 : h233 r179 = some (.inr (11, [.int r_184, .int c_185, .ref v_186, .ref o_187, .ref t_188])) := by rw [he236, tw_up_n (fun q => absurd (q177k.1) (by rw [q, kx]; decide))]; exact f207
            have f243 : h233 t_188 = some (.inl (d.2 0, 5, .inl F199)) := by rw [he236, tw_up_n (fun q => absurd (k191) (by rw [q, kx]; decide))]; exact f208
            have f244 : h233 b210 = some (.inl (d.2 0, 5, .inl G227)) := by rw [he236, tw_up_n (fun q => absurd (z231) (by rw [q, kx]; decide))]; exact hG228
            have el245 : tw_el h233 (g.2 12) j33 = r179 := by rw [he236]; exact (tw_el24_up sp204.1 kl181 (by omega) (by rw [kx]; decide) (by rw [kx]; decide)).trans el209
            rcases hr238 with ei246 | ⟨ei246, ei246b⟩
            · rw [ei246]
              refine tw_if_eq 78 dX10_give_73 (by decide) (fun c247 => absurd c247 (by decide)) (fun _ => ?_)
              refine tw_iconst (v := 0) dX10_give_76 (by decide) ?_
              exact tw_iret dX10_give_77 rfl (Or.inl ⟨_, rfl, sp240⟩)
            · rw [ei246]
              refine tw_if_eq 78 dX10_give_73 (by decide) (fun _ => ?_) (fun c248 => absurd (by decide) c248)
              refine tw_iconst (v := 0) dX10_give_78 (by decide) ?_
              refine tw_istore [(4, .int 0), (3, .ref b210), (0, .ref x), (1, .int (nI j33)), (2, .int (nI l194))] dX10_give_79 (by decide) rfl ?_
              have L252 : ∀ (r250 k249 : Nat) (h254 : tw_H) (sp255 : tw_sp d τ h233 g τ h254) (kf253 : h254 r179 = some (.inr (11, [.int r_184, .int c_185, .ref v_186, .ref o_187, .ref t_188]))) (li256 : tw_el h254 (g.2 12) j33 = r179 ∧ ∃ f9 : Nat → Int32, h254 t_188 = some (.inl (d.2 0, 5, .inl f9)) ∧ (∀ j, 0 ≤ f9 j ∧ f9 j ≤ 9) ∧ ∀ j, k249 ≤ j → G227 j ≤ f9 j), 5 + 1 ≤ k249 + r250 → k249 ≤ 5 → tw_W d mX10_give (tw_qi (fun r h1 => tw_sp d τ h g τ h1) tw_nx) 81 [(0, .ref x), (1, .int (nI j33)), (2, .int (nI l194)), (3, .ref b210), (4, .int (nI k249))] [] h254 0 0 := by
                intro r250
                induction r250 with
                | zero => intro k249 h254 sp255 kf253 li256 hk257 hk258; exact absurd hk257 (by omega)
                | succ r250 ih251 =>
                  intro k249 h254 sp255 kf253 li256 hk257 hk258
                  have f259 := (sp255.2.2 _ _ f244 z231).1
                  have z260 := (sp255.2.2 _ _ f244 z231).2
                  obtain ⟨hel, f9, hT, hfb, hfk⟩ := li256
                  refine tw_iload 4 dX10_give_81 rfl ?_
                  refine tw_iconst (v := 5) dX10_give_83 (by decide) ?_
                  refine tw_icmp_ge 117 dX10_give_84 (by decide) (fun c261 => ?_) (fun c261 => ?_)
                  · refine tw_aload_n 3 dX10_give_117 rfl rfl ?_
                    refine tw_bi (tw_callS okX10_all dX10_give_118 w_1490 [.ref b210] [] rfl rfl ⟨by decide, by decide⟩ (Nat.le_of_ble_eq_true rfl) (c_X10_all d h254 b210 G227 f259) 0 0 (Nat.le_of_ble_eq_true rfl) (Nat.le_of_ble_eq_true rfl)) (fun r264 h263 q262 => ?_) (fun E h1 q => q.elim)
                    rw [q262]
                    exact tw_iret dX10_give_121 rfl (Or.inl ⟨_, rfl, (sp240.tr sp255)⟩)
                  · have kl265 := tw_klt (N := 5) c261 hk258 (by decide)
                    refine tw_aload_n 0 dX10_give_87 rfl rfl ?_
                    obtain ⟨e266, f267, th_268, td_269, ds_270, fr_271, ca_272, us_273, wo_274, cm_275, lc_276, lh_277, ld_278, rfl, k279, k280, k281, k282, k283, k284, k285, k286, k287, k288, k289, k290, k291, k292, k293, k294⟩ := sp255.1 x 36 kx (by decide)
                    refine tw_get (v := .ref lc_276) rfl in_14 9 dX10_give_88 w_1160 rfl (by decide) f267 rfl ?_
                    refine tw_iload_n 1 dX10_give_91 rfl rfl ?_
                    obtain ⟨e295, f296, ⟨el297, rfl, k298⟩, k299⟩ := sp255.1 lc_276 24 k285 (by decide)
                    refine tw_br (tw_callV (M := mX10_give) (pc := 92) okJx4a65c_get_915e3 dX10_give_92 w_1296 rfl f296 [.int (nI j33)] [] rfl rfl ⟨by decide, by decide⟩ (Nat.le_of_ble_eq_true rfl) (c24_get d g τ h254 sp255.1 lc_276 k285 j33 (by omega) (by omega)) 0 0 (Nat.le_of_ble_eq_true rfl) (Nat.le_of_ble_eq_true rfl)) (fun r302 h301 q300 => ?_) (fun E h1 q => q.elim)
                    obtain ⟨q300e, q300k⟩ := q300
                    rw [q300e]
                    have q300ky : r302 = r179 := q300k.2.trans (by rw [k299]; exact hel)
                    rw [q300ky]
                    refine tw_castS (ci := 11) rfl dX10_give_95 w_1212 kf253 ?_
                    refine tw_get (v := .ref t_188) rfl in_11 4 dX10_give_98 w_1225 rfl (by decide) kf253 rfl ?_
                    refine tw_iload 4 dX10_give_101 rfl ?_
                    refine tw_dup2 dX10_give_103 rfl rfl ?_
                    obtain ⟨v303, ev303⟩ : ∃ y : Int32, f9 ((nI k249)).toNatClampNeg = y := ⟨_, rfl⟩
                    refine tw_iald (v := v303) dX10_give_104 hT (vp_in_nI (by omega) (by decide)) ev303 ?_
                    refine tw_aload_n 3 dX10_give_105 rfl rfl ?_
                    refine tw_iload 4 dX10_give_106 rfl ?_
                    obtain ⟨v304, ev304⟩ : ∃ y : Int32, G227 ((nI k249)).toNatClampNeg = y := ⟨_, rfl⟩
                    refine tw_iald (v := v304) dX10_give_108 f259 (vp_in_nI (by omega) (by decide)) ev304 ?_
                    refine tw_isub dX10_give_109 ?_
                    refine tw_nmi (fun v305 ev305 => ?_)
                    refine tw_iast dX10_give_110 hT (vp_in_nI (by omega) (by decide)) ?_
                    obtain ⟨h306, eh306⟩ : ∃ z : tw_H, z = tw_up h254 t_188 (.inl (d.2 0, 5, .inl (upd f9 ((nI k249)).toNatClampNeg v305))) := ⟨_, rfl⟩
                    rw [← eh306]
                    have sp307 : tw_sp d τ h233 g τ h306 := by rw [eh306]; exact sp255.set k191 (by decide) ⟨_, rfl, (tw_tk hfb (tw_gsub (by rw [← ev303]; exact (hfb _).1) (by rw [← ev303]; exact (hfb _).2) (by rw [← ev304]; exact (hGb229 _).1) (by rw [← ev304, ← ev303]; exact hfk _ (Nat.le_of_eq (nI_clamp (by omega)).symm)) ev305).1 (tw_gsub (by rw [← ev303]; exact (hfb _).1) (by rw [← ev303]; exact (hfb _).2) (by rw [← ev304]; exact (hGb229 _).1) (by rw [← ev304, ← ev303]; exact hfk _ (Nat.le_of_eq (nI_clamp (by omega)).symm)) ev305).2)⟩
                    have f308 : h306 b210 = some (.inl (d.2 0, 5, .inl G227)) := by rw [eh306, tw_up_n (fun q => absurd (z260) (by rw [q, k191]; decide))]; exact f259
                    have f309 : h306 r179 = some (.inr (11, [.int r_184, .int c_185, .ref v_186, .ref o_187, .ref t_188])) := by rw [eh306, tw_up_n (fun q => absurd (q177k.1) (by rw [q, k191]; decide))]; exact kf253
                    obtain ⟨v310, ev310⟩ : ∃ y : Int32, y = (nI k249) + 1 := ⟨_, rfl⟩
                    refine tw_iinc [(4, .int v310), (0, .ref x), (1, .int (nI j33)), (2, .int (nI l194)), (3, .ref b210)] 4 dX10_give_111 rfl (by rw [ev310]; rfl) (by decide) rfl ?_
                    refine tw_goto 81 dX10_give_114 (by decide) ?_
                    have qv310 := tw_nI3 ev310
                    rw [qv310]
                    refine tw_lv [1, 2, 3, 4, 0] rfl ?_
                    exact ih251 (k249 + 1)  _ sp307 f309 (⟨by rw [eh306]; exact (tw_el24_up sp255.1 kl181 (by omega) (by rw [k191]; decide) (by rw [k191]; decide)).trans hel, _, by rw [eh306]; exact tw_up_s, (tw_tk hfb (tw_gsub (by rw [← ev303]; exact (hfb _).1) (by rw [← ev303]; exact (hfb _).2) (by rw [← ev304]; exact (hGb229 _).1) (by rw [← ev304, ← ev303]; exact hfk _ (Nat.le_of_eq (nI_clamp (by omega)).symm)) ev305).1 (tw_gsub (by rw [← ev303]; exact (hfb _).1) (by rw [← ev303]; exact (hfb _).2) (by rw [← ev304]; exact (hGb229 _).1) (by rw [← ev304, ← ev303]; exact hfk _ (Nat.le_of_eq (nI_clamp (by omega)).symm)) ev305).2), fun j hj => by unfold upd; rw [if_neg (by rw [nI_clamp (by omega)]; omega)]; exact hfk j (by omega)⟩) (by omega) (by omega)
              refine tw_lv [2, 3, 4, 1, 0] rfl ?_
              exact L252 (5 + 1) 0  _ (tw_sp.rf sp240.1) f242 (⟨el245, F199, f243, k200, fun j _ => (hGb229 j).2⟩) (by omega) (by omega)

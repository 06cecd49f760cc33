/-! the class's methods over the typed heap. Laid by wip/p5/mkclass.py. -/
set_option maxHeartbeats 4000000 in
set_option maxRecDepth 100000 in
theorem c_X10_coinsNow (d : tw_D) (g : tw_G) (τ : tw_K) (h : tw_H) (hw : tw_wt d g τ h) (x : Nat) (kx : τ x = 36) (a l : Nat) (ha : a < g.2 3) (hl : l ≤ 400) : tw_Ct d mX10_coinsNow (tw_wy 5 l) (5 * tw_wy 5 l) [.ref x, .int (nI a), .int (nI l)] h (tw_qi (fun r h1 => tw_sp d τ h g τ h1) tw_nx) := by
  refine tw_of (by decide +kernel) (Nat.le_of_ble_eq_true rfl) ?_
  show tw_W d mX10_coinsNow _ 0 [(0, .ref x), (1, .int (nI a)), (2, .int (nI l))] [] h (tw_wy 5 l) (5 * tw_wy 5 l)
  have sp0 := tw_sp.rf hw
  refine tw_aload_n 0 dX10_coinsNow_0 rfl rfl ?_
  obtain ⟨e1, f2, th_3, td_4, ds_5, fr_6, ca_7, us_8, wo_9, cm_10, lc_11, lh_12, ld_13, rfl, k14, k15, k16, k17, k18, k19, k20, k21, k22, k23, k24, k25, k26, k27, k28, k29, k30, k31, k32, k33, k34, k35⟩ := sp0.1 x 36 kx (by decide)
  refine tw_get (v := .ref lc_11) rfl in_14 9 dX10_coinsNow_1 w_1160 rfl (by decide) f2 rfl ?_
  refine tw_iload_n 1 dX10_coinsNow_4 rfl rfl ?_
  obtain ⟨e36, f37, ⟨el38, rfl, k39⟩, k40⟩ := sp0.1 lc_11 24 k20 (by decide)
  refine tw_br (tw_callV (M := mX10_coinsNow) (pc := 5) okJx4a65c_get_915e3 dX10_coinsNow_5 w_1292 rfl f37 [.int (nI a)] [] rfl rfl ⟨by decide, by decide⟩ (Nat.le_of_ble_eq_true rfl) (c24_get d g τ h sp0.1 lc_11 k20 a (by omega) (by omega)) (tw_wy 5 l) (5 * tw_wy 5 l) (by omega) (by omega)) (fun r43 h42 q41 => ?_) (fun E h1 q => q.elim)
  obtain ⟨q41e, q41k⟩ := q41
  rw [q41e]
  have el44 : tw_el h (g.2 12) a = r43 := by rw [← k40]; exact q41k.2.symm
  have kl45 : τ (g.2 12) = 24 := by rw [← k40]; exact k20
  obtain ⟨e46, f47, r_48, c_49, v_50, o_51, t_52, rfl, k53, k54, k55, k56, k57, k58⟩ := sp0.1 r43 21 q41k.1 (by decide)
  refine tw_castS (ci := 11) rfl dX10_coinsNow_8 w_1208 f47 ?_
  refine tw_get (v := .ref t_52) rfl in_11 4 dX10_coinsNow_11 w_1221 rfl (by decide) f47 rfl ?_
  refine tw_iconst (v := 0) dX10_coinsNow_14 (by decide) ?_
  refine tw_iload_n 2 dX10_coinsNow_15 rfl rfl ?_
  obtain ⟨e59, f60, F61, rfl, k63, pf62⟩ := sp0.1 t_52 33 k55 (by decide)
  refine tw_bq (tw_callS (okX10_best 5) dX10_coinsNow_16 w_1480 [.ref t_52, .int 0, .int (nI l)] [] rfl rfl ⟨by decide, by decide⟩ (Nat.le_of_ble_eq_true rfl) (c_best d 5 5 (Nat.le_refl _) (Nat.le_refl _) h t_52 l F61 f60 k63 hl) ((tw_wy 5 l) - (tw_wy 5 l)) ((5 * tw_wy 5 l) - (5 * tw_wy 5 l)) (by have := hl; omega) (by have := hl; omega)) (fun r66 h65 q64 => ?_) (fun E h1 q => q.elim)
  obtain ⟨q64g, q64r⟩ := q64
  have sp67 := sp0.tr (q64g.sp sp0.1)
  have f68 := q64g _ _ f2
  have f69 := q64g _ _ f37
  have f70 := q64g _ _ f47
  have f71 := q64g _ _ f60
  have el72 := (tw_el_gw sp0.1 q64g kl45 (by omega)).trans el44
  cases r66 with
  | none =>
    refine tw_astore_nN [(3, .null), (0, .ref x), (1, .int (nI a)), (2, .int (nI l))] dX10_coinsNow_19 rfl (by decide) rfl ?_
    refine tw_aload_nN 0 dX10_coinsNow_20 rfl rfl ?_
    refine tw_ifnonnullN dX10_coinsNow_21 ?_
    refine tw_iconst (v := -1) dX10_coinsNow_24 (by decide) ?_
    exact tw_iret dX10_coinsNow_25 rfl (Or.inl ⟨_, rfl, sp67⟩)
  | some b73 =>
    obtain ⟨hq74, G75, hG76, hGb77⟩ := q64r b73 rfl
    have n78 := sp0.nn hq74
    have z79 := sp0.1.none hq74
    refine tw_astore_n [(3, .ref b73), (0, .ref x), (1, .int (nI a)), (2, .int (nI l))] dX10_coinsNow_19 rfl (by decide) rfl ?_
    refine tw_aload_n 0 dX10_coinsNow_20 rfl rfl ?_
    refine tw_ifnonnull 26 dX10_coinsNow_21 (by decide) ?_
    refine tw_iconst (v := 0) dX10_coinsNow_26 (by decide) ?_
    refine tw_istore [(4, .int 0), (3, .ref b73), (0, .ref x), (1, .int (nI a)), (2, .int (nI l))] dX10_coinsNow_27 (by decide) rfl ?_
    refine tw_aload_n 1 dX10_coinsNow_29 rfl rfl ?_
    refine tw_astore [(5, .ref b73), (4, .int 0), (3, .ref b73), (0, .ref x), (1, .int (nI a)), (2, .int (nI l))] dX10_coinsNow_30 (by decide) rfl ?_
    refine tw_aload 0 dX10_coinsNow_32 rfl ?_
    refine tw_alen (v := nI 5) 0 rfl dX10_coinsNow_34 hG76 rfl ?_
    refine tw_istore [(6, .int (nI 5)), (5, .ref b73), (4, .int 0), (3, .ref b73), (0, .ref x), (1, .int (nI a)), (2, .int (nI l))] dX10_coinsNow_35 (by decide) rfl ?_
    refine tw_iconst (v := 0) dX10_coinsNow_37 (by decide) ?_
    refine tw_istore [(7, .int 0), (6, .int (nI 5)), (5, .ref b73), (4, .int 0), (3, .ref b73), (0, .ref x), (1, .int (nI a)), (2, .int (nI l))] dX10_coinsNow_38 (by decide) rfl ?_
    have L84 : ∀ (r82 k81 : Nat) (x80 : Int32), 5 + 1 ≤ k81 + r82 → k81 ≤ 5 → tw_W d mX10_coinsNow (tw_qi (fun r h1 => tw_sp d τ h g τ h1) tw_nx) 40 [(0, .ref x), (1, .int (nI a)), (2, .int (nI l)), (3, .ref b73), (4, .int x80), (5, .ref b73), (6, .int (nI 5)), (7, .int (nI k81))] [] h65 ((tw_wy 5 l) - (tw_wy 5 l)) ((5 * tw_wy 5 l) - (5 * tw_wy 5 l)) := by
      intro r82
      induction r82 with
      | zero => intro k81 x80 hk88 hk89; exact absurd hk88 (by omega)
      | succ r82 ih83 =>
        intro k81 x80 hk88 hk89
        refine tw_iload 7 dX10_coinsNow_40 rfl ?_
        refine tw_iload 6 dX10_coinsNow_42 rfl ?_
        refine tw_icmp_ge 70 dX10_coinsNow_44 (by decide) (fun c90 => ?_) (fun c90 => ?_)
        · refine tw_iload 4 dX10_coinsNow_70 rfl ?_
          exact tw_iret dX10_coinsNow_72 rfl (Or.inl ⟨_, rfl, sp67⟩)
        · have kl91 := tw_klt (N := 5) c90 hk89 (by decide)
          refine tw_aload 5 dX10_coinsNow_47 rfl ?_
          refine tw_iload 7 dX10_coinsNow_49 rfl ?_
          obtain ⟨v92, ev92⟩ : ∃ y : Int32, G75 ((nI k81)).toNatClampNeg = y := ⟨_, rfl⟩
          refine tw_iald (v := v92) dX10_coinsNow_51 hG76 (vp_in_nI (by omega) (by decide)) ev92 ?_
          refine tw_istore [(8, .int v92), (0, .ref x), (1, .int (nI a)), (2, .int (nI l)), (3, .ref b73), (4, .int x80), (5, .ref b73), (6, .int (nI 5)), (7, .int (nI k81))] dX10_coinsNow_52 (by decide) rfl ?_
          refine tw_bipush (v := 10) dX10_coinsNow_54 (by decide) ?_
          refine tw_iload 5 dX10_coinsNow_56 rfl ?_
          refine tw_imul dX10_coinsNow_58 ?_
          refine tw_nmi (fun v93 ev93 => ?_)
          refine tw_iload 0 dX10_coinsNow_59 rfl ?_
          refine tw_iadd dX10_coinsNow_61 ?_
          refine tw_nmi (fun v94 ev94 => ?_)
          refine tw_istore [(4, .int v94), (8, .int v92), (0, .ref x), (1, .int (nI a)), (2, .int (nI l)), (3, .ref b73), (5, .ref b73), (6, .int (nI 5)), (7, .int (nI k81))] dX10_coinsNow_62 (by decide) rfl ?_
          obtain ⟨v95, ev95⟩ : ∃ y : Int32, y = (nI k81) + 1 := ⟨_, rfl⟩
          refine tw_iinc [(7, .int v95), (4, .int v94), (8, .int v92), (0, .ref x), (1, .int (nI a)), (2, .int (nI l)), (3, .ref b73), (5, .ref b73), (6, .int (nI 5))] 8 dX10_coinsNow_64 rfl (by rw [ev95]; rfl) (by decide) rfl ?_
          refine tw_goto 40 dX10_coinsNow_67 (by decide) ?_
          have qv95 := tw_nI3 ev95
          rw [qv95]
          refine tw_lv [3, 4, 5, 6, 1, 7, 8, 0] rfl ?_
          exact ih83 (k81 + 1) v94 (by omega) (by omega)
    refine tw_lv [5, 6, 7, 4, 3, 2, 1, 0] rfl ?_
    exact L84 (5 + 1) 0 0 (by omega) (by omega)

set_option maxHeartbeats 4000000 in
set_option maxRecDepth 100000 in
theorem c_X10_coins (d : tw_D) (g : tw_G) (τ : tw_K) (h : tw_H) (hw : tw_wt d g τ h) (x : Nat) (kx : τ x = 36) (n : Int32) (am : Int32) : tw_Ct d mX10_coins 500 2500 [.ref x, .int n, .int am] h (tw_qi (fun r h1 => tw_sp d τ h g τ h1) tw_nx) := by
  refine tw_of (by decide +kernel) (Nat.le_of_ble_eq_true rfl) ?_
  show tw_W d mX10_coins _ 0 [(0, .ref x), (1, .int n), (2, .int am)] [] h 500 2500
  have sp0 := tw_sp.rf hw
  refine tw_aload_n 0 dX10_coins_0 rfl rfl ?_
  refine tw_aload_n 0 dX10_coins_1 rfl rfl ?_
  refine tw_iload_n 1 dX10_coins_2 rfl rfl ?_
  obtain ⟨e1, f2, th_3, td_4, ds_5, fr_6, ca_7, us_8, wo_9, cm_10, lc_11, lh_12, ld_13, rfl, k14, k15, k16, k17, k18, k19, k20, k21, k22, k23, k24, k25, k26, k27, k28, k29, k30, k31, k32, k33, k34, k35⟩ := sp0.1 x 36 kx (by decide)
  refine tw_bi (tw_callV (M := mX10_coins) (pc := 3) okX10_isNoCountry dX10_coins_3 w_1288 rfl f2 [.int n] [.ref x] rfl rfl ⟨by decide, by decide⟩ (Nat.le_of_ble_eq_true rfl) (c_X10_isNoCountry d g τ h sp0.1 x kx n) 500 2500 (Nat.le_of_ble_eq_true rfl) (Nat.le_of_ble_eq_true rfl)) (fun r38 h37 q36 => ?_) (fun E h1 q => q.elim)
  obtain ⟨q36e, q36d⟩ := q36
  rw [q36e]
  rcases q36d with q36r | ⟨q36r, j39, q36j, q36k⟩
  · rw [q36r]
    refine tw_iconst (v := 1) dX10_coins_6 (by decide) ?_
    refine tw_bi (tw_callV (M := mX10_coins) (pc := 7) okX10_start dX10_coins_7 w_1196 rfl f2 [.int 1, .int 1] [] rfl rfl ⟨by decide, by decide⟩ (Nat.le_of_ble_eq_true rfl) (c_X10_start d g τ h sp0.1 x kx 1 1 (by decide)) 500 2500 (Nat.le_of_ble_eq_true rfl) (Nat.le_of_ble_eq_true rfl)) (fun r42 h41 q40 => ?_) (fun E h1 q => q.elim)
    obtain ⟨e43, he44, hs45, hr46, h347⟩ := q40
    have sp48 : tw_sp d τ h g τ h41 := by rw [he44]; exact sp0.set kx (by decide) hs45
    rcases hr46 with ei49 | ⟨ei49, ei49b⟩
    · rw [ei49]
      refine tw_if_ne 37 dX10_coins_10 (by decide) (fun _ => ?_) (fun c50 => absurd c50 (by decide))
      refine tw_iconst (v := 0) dX10_coins_37 (by decide) ?_
      refine tw_goto 47 dX10_coins_38 (by decide) ?_
      exact tw_iret dX10_coins_47 rfl (Or.inl ⟨_, rfl, sp48⟩)
    · exact absurd ei49b (by decide)
  · rw [q36r]
    subst q36k
    refine tw_iconst (v := 1) dX10_coins_6 (by decide) ?_
    refine tw_bi (tw_callV (M := mX10_coins) (pc := 7) okX10_start dX10_coins_7 w_1196 rfl f2 [.int 0, .int 1] [] rfl rfl ⟨by decide, by decide⟩ (Nat.le_of_ble_eq_true rfl) (c_X10_start d g τ h sp0.1 x kx 0 1 (by decide)) 500 2500 (Nat.le_of_ble_eq_true rfl) (Nat.le_of_ble_eq_true rfl)) (fun r53 h52 q51 => ?_) (fun E h1 q => q.elim)
    obtain ⟨e54, he55, hs56, hr57, h358⟩ := q51
    have sp59 : tw_sp d τ h g τ h52 := by rw [he55]; exact sp0.set kx (by decide) hs56
    rcases hr57 with ei60 | ⟨ei60, ei60b⟩
    · rw [ei60]
      refine tw_if_ne 37 dX10_coins_10 (by decide) (fun _ => ?_) (fun c61 => absurd c61 (by decide))
      refine tw_iconst (v := 0) dX10_coins_37 (by decide) ?_
      refine tw_goto 47 dX10_coins_38 (by decide) ?_
      exact tw_iret dX10_coins_47 rfl (Or.inl ⟨_, rfl, sp59⟩)
    · rw [ei60]
      refine tw_if_ne 37 dX10_coins_10 (by decide) (fun c62 => absurd (by decide) c62) (fun _ => ?_)
      refine tw_aload_n 0 dX10_coins_13 rfl rfl ?_
      refine tw_iload_n 2 dX10_coins_14 rfl rfl ?_
      refine tw_iconst (v := 1) dX10_coins_15 (by decide) ?_
      refine tw_sipush (v := 400) dX10_coins_16 (by decide) ?_
      refine tw_bi (tw_callS (M := mX10_coins) (pc := 19) okX10_isIn dX10_coins_19 w_1192 [.int am, .int 1, .int 400] [.ref x] rfl rfl ⟨by decide, by decide⟩ (Nat.le_of_ble_eq_true rfl) (c_X10_isIn d g τ h52 sp59.1 am 1 400) 500 2500 (Nat.le_of_ble_eq_true rfl) (Nat.le_of_ble_eq_true rfl)) (fun r65 h64 q63 => ?_) (fun E h1 q => q.elim)
      obtain ⟨q63e, q63d⟩ := q63
      rw [q63e]
      rcases q63d with ⟨q63r, q63n⟩ | ⟨q63r, q63a, q63b⟩
      · rw [q63r]
        refine tw_if_ne 29 dX10_coins_22 (by decide) (fun c66 => absurd (by decide) c66) (fun _ => ?_)
        refine tw_iconst (v := 1) dX10_coins_25 (by decide) ?_
        refine tw_goto 30 dX10_coins_26 (by decide) ?_
        refine tw_iconst (v := 2) dX10_coins_30 (by decide) ?_
        obtain ⟨e67, f68, th_69, td_70, ds_71, fr_72, ca_73, us_74, wo_75, cm_76, lc_77, lh_78, ld_79, rfl, k80, k81, k82, k83, k84, k85, k86, k87, k88, k89, k90, k91, k92, k93, k94, k95, k96, k97, k98, k99, k100, k101⟩ := sp59.1 x 36 kx (by decide)
        refine tw_bi (tw_callV (M := mX10_coins) (pc := 31) okX10_refuse dX10_coins_31 w_1200 rfl f68 [.int 1, .int 2] [] rfl rfl ⟨by decide, by decide⟩ (Nat.le_of_ble_eq_true rfl) (c_X10_refuse d g τ h52 sp59.1 x kx 1 2 (by decide)) 500 2500 (Nat.le_of_ble_eq_true rfl) (Nat.le_of_ble_eq_true rfl)) (fun r104 h103 q102 => ?_) (fun E h1 q => q.elim)
        obtain ⟨e105, he106, hs107, hr108, h3109⟩ := q102
        have sp110 : tw_sp d τ h g τ h103 := by rw [he106]; exact sp59.set kx (by decide) hs107
        rcases hr108 with ei111 | ⟨ei111, ei111b⟩
        · rw [ei111]
          refine tw_if_eq 41 dX10_coins_34 (by decide) (fun c112 => absurd c112 (by decide)) (fun _ => ?_)
          refine tw_iconst (v := 0) dX10_coins_37 (by decide) ?_
          refine tw_goto 47 dX10_coins_38 (by decide) ?_
          exact tw_iret dX10_coins_47 rfl (Or.inl ⟨_, rfl, sp110⟩)
        · exact absurd ei111b (by decide)
      · rw [q63r]
        refine tw_if_ne 29 dX10_coins_22 (by decide) (fun _ => ?_) (fun c113 => absurd c113 (by decide))
        refine tw_iconst (v := 0) dX10_coins_29 (by decide) ?_
        refine tw_iconst (v := 2) dX10_coins_30 (by decide) ?_
        obtain ⟨e114, f115, th_116, td_117, ds_118, fr_119, ca_120, us_121, wo_122, cm_123, lc_124, lh_125, ld_126, rfl, k127, k128, k129, k130, k131, k132, k133, k134, k135, k136, k137, k138, k139, k140, k141, k142, k143, k144, k145, k146, k147, k148⟩ := sp59.1 x 36 kx (by decide)
        refine tw_bi (tw_callV (M := mX10_coins) (pc := 31) okX10_refuse dX10_coins_31 w_1200 rfl f115 [.int 0, .int 2] [] rfl rfl ⟨by decide, by decide⟩ (Nat.le_of_ble_eq_true rfl) (c_X10_refuse d g τ h52 sp59.1 x kx 0 2 (by decide)) 500 2500 (Nat.le_of_ble_eq_true rfl) (Nat.le_of_ble_eq_true rfl)) (fun r151 h150 q149 => ?_) (fun E h1 q => q.elim)
        obtain ⟨e152, he153, hs154, hr155, h3156⟩ := q149
        have sp157 : tw_sp d τ h g τ h150 := by rw [he153]; exact sp59.set kx (by decide) hs154
        rcases hr155 with ei158 | ⟨ei158, ei158b⟩
        · rw [ei158]
          refine tw_if_eq 41 dX10_coins_34 (by decide) (fun c159 => absurd c159 (by decide)) (fun _ => ?_)
          refine tw_iconst (v := 0) dX10_coins_37 (by decide) ?_
          refine tw_goto 47 dX10_coins_38 (by decide) ?_
          exact tw_iret dX10_coins_47 rfl (Or.inl ⟨_, rfl, sp157⟩)
        · rw [ei158]
          refine tw_if_eq 41 dX10_coins_34 (by decide) (fun _ => ?_) (fun c160 => absurd (by decide) c160)
          refine tw_aload_n 0 dX10_coins_41 rfl rfl ?_
          refine tw_iload_n 1 dX10_coins_42 rfl rfl ?_
          refine tw_iload_n 2 dX10_coins_43 rfl rfl ?_
          obtain ⟨l161, hl162, el163⟩ := tw_l400 q63a q63b
          subst el163
          obtain ⟨e164, f165, th_166, td_167, ds_168, fr_169, ca_170, us_171, wo_172, cm_173, lc_174, lh_175, ld_176, rfl, k177, k178, k179, k180, k181, k182, k183, k184, k185, k186, k187, k188, k189, k190, k191, k192, k193, k194, k195, k196, k197, k198⟩ := sp157.1 x 36 kx (by decide)
          refine tw_bi (tw_callV okX10_coinsNow dX10_coins_44 w_1493 rfl f165 [.int (nI j39), .int (nI l161)] [] rfl rfl ⟨by decide, by decide⟩ (Nat.le_of_ble_eq_true rfl) (c_X10_coinsNow d g τ h150 sp157.1 x kx j39 l161 (by omega) hl162) 0 0 (by have := tw_w5 hl162; omega) (by have := tw_w5 hl162; omega)) (fun r201 h200 q199 => ?_) (fun E h1 q => q.elim)
          have sp202 := sp157.tr q199
          exact tw_iret dX10_coins_47 rfl (Or.inl ⟨_, rfl, sp202⟩)

set_option maxHeartbeats 4000000 in
set_option maxRecDepth 100000 in
theorem c_X10_digest (d : tw_D) (g : tw_G) (τ : tw_K) (h : tw_H) (hw : tw_wt d g τ h) (x : Nat) (kx : τ x = 36) : tw_Ct d mX10_digest 866 4596 [.ref x] h (tw_ql (fun r h1 => tw_sp d τ h g τ h1) tw_nx) := by
  refine tw_of (by decide +kernel) (Nat.le_of_ble_eq_true rfl) ?_
  show tw_W d mX10_digest _ 0 [(0, .ref x)] [] h 866 4596
  have sp0 := tw_sp.rf hw
  refine tw_aload_n 0 dX10_digest_0 rfl rfl ?_
  refine tw_iconst (v := 0) dX10_digest_1 (by decide) ?_
  obtain ⟨e1, f2, th_3, td_4, ds_5, fr_6, ca_7, us_8, wo_9, cm_10, lc_11, lh_12, ld_13, rfl, k14, k15, k16, k17, k18, k19, k20, k21, k22, k23, k24, k25, k26, k27, k28, k29, k30, k31, k32, k33, k34, k35⟩ := sp0.1 x 36 kx (by decide)
  refine tw_put rfl in_14 tyX10 tyX10_ok nmX10 0 dX10_digest_2 w_1151 rfl (by decide) f2 rfl rfl rfl rfl (Nat.le_of_ble_eq_true rfl) [.int 0, .int td_4, .int (g.1 1), .ref ds_5, .ref fr_6, .ref ca_7, .ref us_8, .ref wo_9, .ref cm_10, .ref lc_11, .ref lh_12, .ref ld_13] rfl ?_
  obtain ⟨h36, eh36⟩ : ∃ z : tw_H, z = tw_up h x (.inr (14, [.int 0, .int td_4, .int (g.1 1), .ref ds_5, .ref fr_6, .ref ca_7, .ref us_8, .ref wo_9, .ref cm_10, .ref lc_11, .ref lh_12, .ref ld_13])) := ⟨_, rfl⟩
  rw [← eh36]
  have sp37 : tw_sp d τ h g τ h36 := by rw [eh36]; exact sp0.set kx (by decide) ⟨0, td_4, ds_5, fr_6, ca_7, us_8, wo_9, cm_10, lc_11, lh_12, ld_13, rfl, k14, k15, k16, k17, k18, k19, k20, k21, k22, k23, k24, k25, k26, (by decide), k28, k29, k30, k31, k32, k33, k34, k35⟩
  have f38 : h36 x = some (.inr (14, [.int 0, .int td_4, .int (g.1 1), .ref ds_5, .ref fr_6, .ref ca_7, .ref us_8, .ref wo_9, .ref cm_10, .ref lc_11, .ref lh_12, .ref ld_13])) := by rw [eh36]; exact tw_up_s
  refine tw_ldc2 (v := 5573) dX10_digest_5 w_1593 ?_
  refine tw_lstore_n [(1, .long 5573), (0, .ref x)] dX10_digest_8 rfl (by decide) rfl ?_
  refine tw_lload_n 0 dX10_digest_9 rfl rfl ?_
  refine tw_ldc2 (v := 31) dX10_digest_10 w_1594 ?_
  refine tw_lmul dX10_digest_13 ?_
  refine tw_nml (fun v39 ev39 => ?_)
  refine tw_aload_n 1 dX10_digest_14 rfl rfl ?_
  refine tw_get (v := .int td_4) rfl in_14 1 dX10_digest_15 w_1152 rfl (by decide) f38 rfl ?_
  refine tw_i2l dX10_digest_18 ?_
  refine tw_nml (fun v40 ev40 => ?_)
  refine tw_ladd dX10_digest_19 ?_
  refine tw_nml (fun v41 ev41 => ?_)
  refine tw_lstore_n [(1, .long v41), (0, .ref x)] dX10_digest_20 rfl (by decide) rfl ?_
  refine tw_lload_n 0 dX10_digest_21 rfl rfl ?_
  refine tw_ldc2 (v := 31) dX10_digest_22 w_1594 ?_
  refine tw_lmul dX10_digest_25 ?_
  refine tw_nml (fun v42 ev42 => ?_)
  refine tw_aload_n 1 dX10_digest_26 rfl rfl ?_
  refine tw_get (v := .int (g.1 1)) rfl in_14 2 dX10_digest_27 w_1153 rfl (by decide) f38 rfl ?_
  refine tw_i2l dX10_digest_30 ?_
  refine tw_nml (fun v43 ev43 => ?_)
  refine tw_ladd dX10_digest_31 ?_
  refine tw_nml (fun v44 ev44 => ?_)
  refine tw_lstore_n [(1, .long v44), (0, .ref x)] dX10_digest_32 rfl (by decide) rfl ?_
  refine tw_iconst (v := 0) dX10_digest_33 (by decide) ?_
  refine tw_istore_n [(3, .int 0), (1, .long v44), (0, .ref x)] dX10_digest_34 rfl (by decide) rfl ?_
  have L49 : ∀ (r47 k46 : Nat) (x45 : Int64) (h50 : tw_H) (sp51 : tw_sp d τ h36 g τ h50), 2 + 1 ≤ k46 + r47 → k46 ≤ 2 → tw_W d mX10_digest (tw_ql (fun r h1 => tw_sp d τ h g τ h1) tw_nx) 35 [(0, .ref x), (1, .long x45), (3, .int (nI k46))] [] h50 (803 + 21 * r47) (4302 + 98 * r47) := by
    intro r47
    induction r47 with
    | zero => intro k46 x45 h50 sp51 hk53 hk54; exact absurd hk53 (by omega)
    | succ r47 ih48 =>
      intro k46 x45 h50 sp51 hk53 hk54
      refine tw_iload_n 2 dX10_digest_35 rfl rfl ?_
      refine tw_iconst (v := 2) dX10_digest_36 (by decide) ?_
      refine tw_icmp_ge 76 dX10_digest_37 (by decide) (fun c55 => ?_) (fun c55 => ?_)
      · refine tw_iconst (v := 0) dX10_digest_76 (by decide) ?_
        refine tw_istore_n [(3, .int 0), (0, .ref x), (1, .long x45)] dX10_digest_77 rfl (by decide) rfl ?_
        have L60 : ∀ (r58 k57 : Nat) (x56 : Int64) (h61 : tw_H) (sp62 : tw_sp d τ h50 g τ h61), (g.2 3) + 1 ≤ k57 + r58 → k57 ≤ (g.2 3) → tw_W d mX10_digest (tw_ql (fun r h1 => tw_sp d τ h g τ h1) tw_nx) 78 [(0, .ref x), (1, .long x56), (3, .int (nI k57))] [] h61 (((803 + 21 * (r47 + 1)) - 570) + 114 * r58) (((4302 + 98 * (r47 + 1)) - 2950) + 590 * r58) := by
          intro r58
          induction r58 with
          | zero => intro k57 x56 h61 sp62 hk64 hk65; exact absurd hk64 (by omega)
          | succ r58 ih59 =>
            intro k57 x56 h61 sp62 hk64 hk65
            refine tw_iload_n 2 dX10_digest_78 rfl rfl ?_
            refine tw_aload_n 0 dX10_digest_79 rfl rfl ?_
            obtain ⟨e66, f67, th_68, td_69, ds_70, fr_71, ca_72, us_73, wo_74, cm_75, lc_76, lh_77, ld_78, rfl, k79, k80, k81, k82, k83, k84, k85, k86, k87, k88, k89, k90, k91, k92, k93, k94, k95, k96, k97, k98, k99, k100⟩ := sp62.1 x 36 kx (by decide)
            refine tw_get (v := .ref lc_76) rfl in_14 9 dX10_digest_80 w_1160 rfl (by decide) f67 rfl ?_
            obtain ⟨e101, f102, ⟨el103, rfl, k104⟩, k105⟩ := sp62.1 lc_76 24 k85 (by decide)
            refine tw_bi (tw_callV (M := mX10_digest) (pc := 83) okJx4a65c_size_8abf5 dX10_digest_83 w_1204 rfl f102 [] [.int (nI k57)] rfl rfl ⟨by decide, by decide⟩ (Nat.le_of_ble_eq_true rfl) (c24_size d g τ h61 sp62.1 lc_76 k85) (((803 + 21 * (r47 + 1)) - 570) + 114 * (r58 + 1)) (((4302 + 98 * (r47 + 1)) - 2950) + 590 * (r58 + 1)) (by omega) (by omega)) (fun r108 h107 q106 => ?_) (fun E h1 q => q.elim)
            obtain ⟨q106e, q106r⟩ := q106
            rw [q106e, q106r]
            refine tw_icmp_ge 206 dX10_digest_86 (by decide) (fun c109 => ?_) (fun c109 => ?_)
            · refine tw_iconst (v := 0) dX10_digest_206 (by decide) ?_
              refine tw_istore_n [(3, .int 0), (0, .ref x), (1, .long x56)] dX10_digest_207 rfl (by decide) rfl ?_
              have L114 : ∀ (r112 k111 : Nat) (x110 : Int64) (h115 : tw_H) (sp116 : tw_sp d τ h61 g τ h115), (g.2 4) + 1 ≤ k111 + r112 → k111 ≤ (g.2 4) → tw_W d mX10_digest (tw_ql (fun r h1 => tw_sp d τ h g τ h1) tw_nx) 208 [(0, .ref x), (1, .long x110), (3, .int (nI k111))] [] h115 (((((803 + 21 * (r47 + 1)) - 570) + 114 * (r58 + 1)) - 126) + 18 * r112) (((((4302 + 98 * (r47 + 1)) - 2950) + 590 * (r58 + 1)) - 756) + 108 * r112) := by
                intro r112
                induction r112 with
                | zero => intro k111 x110 h115 sp116 hk118 hk119; exact absurd hk118 (by omega)
                | succ r112 ih113 =>
                  intro k111 x110 h115 sp116 hk118 hk119
                  refine tw_iload_n 2 dX10_digest_208 rfl rfl ?_
                  refine tw_aload_n 0 dX10_digest_209 rfl rfl ?_
                  obtain ⟨e120, f121, th_122, td_123, ds_124, fr_125, ca_126, us_127, wo_128, cm_129, lc_130, lh_131, ld_132, rfl, k133, k134, k135, k136, k137, k138, k139, k140, k141, k142, k143, k144, k145, k146, k147, k148, k149, k150, k151, k152, k153, k154⟩ := sp116.1 x 36 kx (by decide)
                  refine tw_get (v := .ref lh_131) rfl in_14 10 dX10_digest_210 w_1161 rfl (by decide) f121 rfl ?_
                  obtain ⟨e155, f156, ⟨el157, rfl, k158⟩, k159⟩ := sp116.1 lh_131 25 k140 (by decide)
                  refine tw_bi (tw_callV (M := mX10_digest) (pc := 213) okJx4a65c_size_8abf5 dX10_digest_213 w_1204 rfl f156 [] [.int (nI k111)] rfl rfl ⟨by decide, by decide⟩ (Nat.le_of_ble_eq_true rfl) (c25_size d g τ h115 sp116.1 lh_131 k140) (((((803 + 21 * (r47 + 1)) - 570) + 114 * (r58 + 1)) - 126) + 18 * (r112 + 1)) (((((4302 + 98 * (r47 + 1)) - 2950) + 590 * (r58 + 1)) - 756) + 108 * (r112 + 1)) (by omega) (by omega)) (fun r162 h161 q160 => ?_) (fun E h1 q => q.elim)
                  obtain ⟨q160e, q160r⟩ := q160
                  rw [q160e, q160r]
                  refine tw_icmp_ge 256 dX10_digest_216 (by decide) (fun c163 => ?_) (fun c163 => ?_)
                  · refine tw_aload_n 0 dX10_digest_256 rfl rfl ?_
                    refine tw_get (v := .ref ld_132) rfl in_14 11 dX10_digest_257 w_1162 rfl (by decide) f121 rfl ?_
                    obtain ⟨e164, f165, ⟨el166, rfl, k167⟩, k168⟩ := sp116.1 ld_132 26 k141 (by decide)
                    refine tw_br (tw_callV (M := mX10_digest) (pc := 260) okJx4a65c_iterator_32c93 dX10_digest_260 w_1382 rfl f165 [] [] rfl rfl ⟨by decide, by decide⟩ (Nat.le_of_ble_eq_true rfl) (c_iterator d h115 ld_132 el166 (g.1 5) (nI (g.2 5)) f165) ((((((803 + 21 * (r47 + 1)) - 570) + 114 * (r58 + 1)) - 126) + 18 * (r112 + 1)) - 1) ((((((4302 + 98 * (r47 + 1)) - 2950) + 590 * (r58 + 1)) - 756) + 108 * (r112 + 1)) - 4) (by omega) (by omega)) (fun it169 h170 q171 => ?_) (fun E h1 q => q.elim)
                    obtain ⟨q171n, q171e⟩ := q171
                    rw [q171e]
                    have n172 := sp116.nn q171n
                    have z173 := sp116.1.none q171n
                    obtain ⟨h174, eh174⟩ : ∃ z : tw_H, z = tw_up h115 it169 (.inr (2, [.int 0, .int (-1), .int (g.1 5), .ref ld_132])) := ⟨_, rfl⟩
                    rw [← eh174]
                    have sp175 : tw_sp d τ h61 g τ h174 := by rw [eh174]; exact sp116.mk q171n
                    have f176 : h174 it169 = some (.inr (2, [.int 0, .int (-1), .int (g.1 5), .ref ld_132])) := by rw [eh174]; exact tw_up_s
                    refine tw_astore_n [(3, .ref it169), (0, .ref x), (1, .long x110)] dX10_digest_263 rfl (by decide) rfl ?_
                    have L182 : ∀ (r178 j179 : Nat) (l180 : Int32) (x177 : Int64) (h183 : tw_H) (sp184 : tw_sp d τ (tw_rm h174 it169) g τ h183) (ft185 : h183 it169 = some (.inr (2, [.int (nI j179), .int l180, .int (g.1 5), .ref ld_132]))) (zt186 : τ it169 = 0), g.2 5 + 1 ≤ j179 + r178 → j179 ≤ g.2 5 → tw_W d mX10_digest (tw_ql (fun r h1 => tw_sp d τ h g τ h1) tw_nx) 264 [(0, .ref x), (1, .long x177), (3, .ref it169)] [] h183 ((((((((803 + 21 * (r47 + 1)) - 570) + 114 * (r58 + 1)) - 126) + 18 * (r112 + 1)) - 1) - 44) + 4 * r178) ((((((((4302 + 98 * (r47 + 1)) - 2950) + 590 * (r58 + 1)) - 756) + 108 * (r112 + 1)) - 4) - 308) + 28 * r178) := by
                      intro r178
                      induction r178 with
                      | zero => intro j179 l180 x177 h183 sp184 ft185 zt186 hk187 hk188; exact absurd hk187 (by omega)
                      | succ r178 ih181 =>
                        intro j179 l180 x177 h183 sp184 ft185 zt186 hk187 hk188
                        refine tw_aload_n 2 dX10_digest_264 rfl rfl ?_
                        obtain ⟨e189, f190, ⟨el191, rfl, k192⟩, k193⟩ := sp184.1 ld_132 26 k141 (by decide)
                        refine tw_bi (tw_callF (M := mX10_digest) (pc := 265) (n9 := 0) (ci := 2) tw_hasNext ok_itHas w_1412 w_1410 (fun s H z => z.2.2.2.2.2.2.2.2.1) (by decide +kernel) dX10_digest_265 w_1406 rfl ft185 [] [] rfl rfl ⟨by decide, by decide⟩ (Nat.le_of_ble_eq_true rfl) (c_hasNext d h183 it169 ld_132 el191 j179 (g.2 5) l180 (g.1 5) (g.1 5) ft185 f190 (by omega) (tw_lim26 sp184.1 k141)) ((((((((803 + 21 * (r47 + 1)) - 570) + 114 * (r58 + 1)) - 126) + 18 * (r112 + 1)) - 1) - 44) + 4 * (r178 + 1)) ((((((((4302 + 98 * (r47 + 1)) - 2950) + 590 * (r58 + 1)) - 756) + 108 * (r112 + 1)) - 4) - 308) + 28 * (r178 + 1)) (by omega) (by omega)) (fun r196 h195 q194 => ?_) (fun E h1 q => q.elim)
                        obtain ⟨q194e, q194q⟩ := q194
                        rw [q194e]
                        rcases q194q with ⟨q194r, q194j⟩ | ⟨q194r, q194j⟩
                        · rw [q194r]
                          refine tw_if_eq 319 dX10_digest_270 (by decide) (fun _ => ?_) (fun c197 => absurd (by decide) c197)
                          refine tw_lload_n 1 dX10_digest_319 rfl rfl ?_
                          refine tw_ldc2 (v := 31) dX10_digest_320 w_1594 ?_
                          refine tw_lmul dX10_digest_323 ?_
                          refine tw_nml (fun v198 ev198 => ?_)
                          refine tw_aload_n 0 dX10_digest_324 rfl rfl ?_
                          refine tw_sipush (v := 1000) dX10_digest_325 (by decide) ?_
                          obtain ⟨e199, f200, th_201, td_202, ds_203, fr_204, ca_205, us_206, wo_207, cm_208, lc_209, lh_210, ld_211, rfl, k212, k213, k214, k215, k216, k217, k218, k219, k220, k221, k222, k223, k224, k225, k226, k227, k228, k229, k230, k231, k232, k233⟩ := sp184.1 x 36 kx (by decide)
                          refine tw_bi (tw_callV (M := mX10_digest) (pc := 328) okX10_restNow dX10_digest_328 w_1569 rfl f200 [.int 1000] [.long v198] rfl rfl ⟨by decide, by decide⟩ (Nat.le_of_ble_eq_true rfl) (c_X10_restNow d g τ h183 sp184.1 x kx 1000) ((((((((803 + 21 * (r47 + 1)) - 570) + 114 * (r58 + 1)) - 126) + 18 * (r112 + 1)) - 1) - 44) + 4 * (r178 + 1)) ((((((((4302 + 98 * (r47 + 1)) - 2950) + 590 * (r58 + 1)) - 756) + 108 * (r112 + 1)) - 4) - 308) + 28 * (r178 + 1)) (by omega) (by omega)) (fun r236 h235 q234 => ?_) (fun E h1 q => q.elim)
                          obtain ⟨q234e, p237⟩ := q234
                          rw [q234e]
                          refine tw_if_eq 338 dX10_digest_331 (by decide) (fun c238 => ?_) (fun c238 => ?_)
                          · refine tw_iconst (v := 0) dX10_digest_338 (by decide) ?_
                            refine tw_i2l dX10_digest_339 ?_
                            refine tw_nml (fun v239 ev239 => ?_)
                            refine tw_ladd dX10_digest_340 ?_
                            refine tw_nml (fun v240 ev240 => ?_)
                            refine tw_lstore_n [(1, .long v240), (0, .ref x), (3, .ref it169)] dX10_digest_341 rfl (by decide) rfl ?_
                            refine tw_lload_n 0 dX10_digest_342 rfl rfl ?_
                            refine tw_ldc2 (v := 31) dX10_digest_343 w_1594 ?_
                            refine tw_lmul dX10_digest_346 ?_
                            refine tw_nml (fun v241 ev241 => ?_)
                            refine tw_aload_n 1 dX10_digest_347 rfl rfl ?_
                            refine tw_bi (tw_callV (M := mX10_digest) (pc := 348) okX10_isSoundNow dX10_digest_348 w_1585 rfl f200 [] [.long v241] rfl rfl ⟨by decide, by decide⟩ (Nat.le_of_ble_eq_true rfl) (c_X10_isSoundNow d g τ h183 sp184.1 x kx) (((((((((803 + 21 * (r47 + 1)) - 570) + 114 * (r58 + 1)) - 126) + 18 * (r112 + 1)) - 1) - 44) + 4 * (r178 + 1)) - 62) (((((((((4302 + 98 * (r47 + 1)) - 2950) + 590 * (r58 + 1)) - 756) + 108 * (r112 + 1)) - 4) - 308) + 28 * (r178 + 1)) - 284) (by omega) (by omega)) (fun r244 h243 q242 => ?_) (fun E h1 q => q.elim)
                            obtain ⟨q242s, p246⟩ := q242
                            have sp245 := sp184.tr q242s
                            have f247 := (q242s.2.2 _ _ ft185 zt186).1
                            refine tw_if_eq 358 dX10_digest_351 (by decide) (fun c248 => ?_) (fun c248 => ?_)
                            · refine tw_iconst (v := 0) dX10_digest_358 (by decide) ?_
                              refine tw_i2l dX10_digest_359 ?_
                              refine tw_nml (fun v249 ev249 => ?_)
                              refine tw_ladd dX10_digest_360 ?_
                              refine tw_nml (fun v250 ev250 => ?_)
                              exact tw_lret dX10_digest_361 rfl (Or.inl ⟨_, rfl, (sp37.tr (sp51.tr (sp62.tr (sp175.trm n172 sp245))))⟩)
                            · refine tw_iconst (v := 1) dX10_digest_354 (by decide) ?_
                              refine tw_goto 359 dX10_digest_355 (by decide) ?_
                              refine tw_i2l dX10_digest_359 ?_
                              refine tw_nml (fun v251 ev251 => ?_)
                              refine tw_ladd dX10_digest_360 ?_
                              refine tw_nml (fun v252 ev252 => ?_)
                              exact tw_lret dX10_digest_361 rfl (Or.inl ⟨_, rfl, (sp37.tr (sp51.tr (sp62.tr (sp175.trm n172 sp245))))⟩)
                          · refine tw_iconst (v := 1) dX10_digest_334 (by decide) ?_
                            refine tw_goto 339 dX10_digest_335 (by decide) ?_
                            refine tw_i2l dX10_digest_339 ?_
                            refine tw_nml (fun v253 ev253 => ?_)
                            refine tw_ladd dX10_digest_340 ?_
                            refine tw_nml (fun v254 ev254 => ?_)
                            refine tw_lstore_n [(1, .long v254), (0, .ref x), (3, .ref it169)] dX10_digest_341 rfl (by decide) rfl ?_
                            refine tw_lload_n 0 dX10_digest_342 rfl rfl ?_
                            refine tw_ldc2 (v := 31) dX10_digest_343 w_1594 ?_
                            refine tw_lmul dX10_digest_346 ?_
                            refine tw_nml (fun v255 ev255 => ?_)
                            refine tw_aload_n 1 dX10_digest_347 rfl rfl ?_
                            refine tw_bi (tw_callV (M := mX10_digest) (pc := 348) okX10_isSoundNow dX10_digest_348 w_1585 rfl f200 [] [.long v255] rfl rfl ⟨by decide, by decide⟩ (Nat.le_of_ble_eq_true rfl) (c_X10_isSoundNow d g τ h183 sp184.1 x kx) (((((((((803 + 21 * (r47 + 1)) - 570) + 114 * (r58 + 1)) - 126) + 18 * (r112 + 1)) - 1) - 44) + 4 * (r178 + 1)) - 62) (((((((((4302 + 98 * (r47 + 1)) - 2950) + 590 * (r58 + 1)) - 756) + 108 * (r112 + 1)) - 4) - 308) + 28 * (r178 + 1)) - 284) (by omega) (by omega)) (fun r258 h257 q256 => ?_) (fun E h1 q => q.elim)
                            obtain ⟨q256s, p260⟩ := q256
                            have sp259 := sp184.tr q256s
                            have f261 := (q256s.2.2 _ _ ft185 zt186).1
                            refine tw_if_eq 358 dX10_digest_351 (by decide) (fun c262 => ?_) (fun c262 => ?_)
                            · refine tw_iconst (v := 0) dX10_digest_358 (by decide) ?_
                              refine tw_i2l dX10_digest_359 ?_
                              refine tw_nml (fun v263 ev263 => ?_)
                              refine tw_ladd dX10_digest_360 ?_
                              refine tw_nml (fun v264 ev264 => ?_)
                              exact tw_lret dX10_digest_361 rfl (Or.inl ⟨_, rfl, (sp37.tr (sp51.tr (sp62.tr (sp175.trm n172 sp259))))⟩)
                            · refine tw_iconst (v := 1) dX10_digest_354 (by decide) ?_
                              refine tw_goto 359 dX10_digest_355 (by decide) ?_
                              refine tw_i2l dX10_digest_359 ?_
                              refine tw_nml (fun v265 ev265 => ?_)
                              refine tw_ladd dX10_digest_360 ?_
                              refine tw_nml (fun v266 ev266 => ?_)
                              exact tw_lret dX10_digest_361 rfl (Or.inl ⟨_, rfl, (sp37.tr (sp51.tr (sp62.tr (sp175.trm n172 sp259))))⟩)
                        · rw [q194r]
                          refine tw_if_eq 319 dX10_digest_270 (by decide) (fun c267 => absurd c267 (by decide)) (fun _ => ?_)
                          refine tw_aload_n 2 dX10_digest_273 rfl rfl ?_
                          have k268 : τ el191 = 29 := k192.resolve_left (fun q => absurd q194j (by rw [q.2.1]; exact Nat.not_lt_zero _))
                          obtain ⟨e269, f270, ⟨F271, rfl, hc272, hc273⟩, un274⟩ := sp184.1 el191 29 k268 (by decide)
                          obtain ⟨y275, hy276, ky277⟩ := hc273 j179 q194j
                          refine tw_br (tw_callF (M := mX10_digest) (pc := 274) (n9 := 0) (ci := 2) tw_next ok_itNext w_1421 w_1419 (fun s H z => z.2.2.2.2.2.2.2.2.2) (by decide +kernel) dX10_digest_274 w_1416 rfl ft185 [] [] rfl rfl ⟨by decide, by decide⟩ (Nat.le_of_ble_eq_true rfl) (c_next d h183 it169 ld_132 el191 j179 (g.2 5) y275 l180 (g.1 5) F271 ft185 f190 f270 q194j hc272 hy276) ((((((((803 + 21 * (r47 + 1)) - 570) + 114 * (r58 + 1)) - 126) + 18 * (r112 + 1)) - 1) - 44) + 4 * (r178 + 1)) ((((((((4302 + 98 * (r47 + 1)) - 2950) + 590 * (r58 + 1)) - 756) + 108 * (r112 + 1)) - 4) - 308) + 28 * (r178 + 1)) (by omega) (by omega)) (fun r280 h279 q278 => ?_) (fun E h1 q => q.elim)
                          obtain ⟨q278r, q278e⟩ := q278
                          rw [q278r]
                          have sp281 : tw_sp d τ (tw_rm h174 it169) g τ h279 := by rw [q278e]; exact sp184.wl tw_rm_s zt186
                          have f282 : h279 it169 = some (.inr (2, [.int (nI (j179 + 1)), .int (nI j179), .int (g.1 5), .ref ld_132])) := by rw [q278e]; exact tw_up_s
                          obtain ⟨e283, f284, v_285, dy_286, pd_287, i_288, j_289, rfl, k290, k291, k292, k293⟩ := sp281.1 y275 22 ky277 (by decide)
                          refine tw_castS (ci := 12) rfl dX10_digest_279 w_1433 f284 ?_
                          refine tw_astore [(4, .ref y275), (0, .ref x), (1, .long x177), (3, .ref it169)] dX10_digest_282 (by decide) rfl ?_
                          refine tw_iconst (v := 4) dX10_digest_284 (by decide) ?_
                          refine tw_istore [(5, .int 4), (4, .ref y275), (0, .ref x), (1, .long x177), (3, .ref it169)] dX10_digest_285 (by decide) rfl ?_
                          have L298 : ∀ (r296 k295 : Nat) (x294 : Int64) (h299 : tw_H) (sp300 : tw_sp d τ h279 g τ h299), 7 + 1 ≤ k295 + r296 → k295 ≤ 7 → tw_W d mX10_digest (tw_ql (fun r h1 => tw_sp d τ h g τ h1) tw_nx) 287 [(0, .ref x), (1, .long x294), (3, .ref it169), (4, .ref y275), (5, .int (nI k295))] [] h299 ((((((((((803 + 21 * (r47 + 1)) - 570) + 114 * (r58 + 1)) - 126) + 18 * (r112 + 1)) - 1) - 44) + 4 * (r178 + 1)) - 4) + 1 * r296) ((((((((((4302 + 98 * (r47 + 1)) - 2950) + 590 * (r58 + 1)) - 756) + 108 * (r112 + 1)) - 4) - 308) + 28 * (r178 + 1)) - 28) + 7 * r296) := by
                            intro r296
                            induction r296 with
                            | zero => intro k295 x294 h299 sp300 hk302 hk303; exact absurd hk302 (by omega)
                            | succ r296 ih297 =>
                              intro k295 x294 h299 sp300 hk302 hk303
                              have f304 := (sp300.2.2 _ _ f282 zt186).1
                              have z305 := (sp300.2.2 _ _ f282 zt186).2
                              refine tw_iload 4 dX10_digest_287 rfl ?_
                              refine tw_bipush (v := 6) dX10_digest_289 (by decide) ?_
                              refine tw_icmp_gt 316 dX10_digest_291 (by decide) (fun c306 => ?_) (fun c306 => ?_)
                              · refine tw_goto 264 dX10_digest_316 (by decide) ?_
                                refine tw_lv [0, 1, 2] rfl ?_
                                refine tw_less (c2 := (((((((803 + 21 * (r47 + 1)) - 570) + 114 * (r58 + 1)) - 126) + 18 * (r112 + 1)) - 1) - 44) + 4 * r178) (n2 := (((((((4302 + 98 * (r47 + 1)) - 2950) + 590 * (r58 + 1)) - 756) + 108 * (r112 + 1)) - 4) - 308) + 28 * r178) (by omega) (by omega) ?_
                                exact ih181 ((j179 + 1)) (nI j179) x294 _ (sp281.tr sp300) f304 z305  (by omega) (by omega)
                              · have kl307 : k295 < 7 := tw_kle (N := 7) c306 hk303 (by decide)
                                refine tw_lload_n 1 dX10_digest_294 rfl rfl ?_
                                refine tw_ldc2 (v := 31) dX10_digest_295 w_1594 ?_
                                refine tw_lmul dX10_digest_298 ?_
                                refine tw_nml (fun v308 ev308 => ?_)
                                refine tw_aload_n 0 dX10_digest_299 rfl rfl ?_
                                refine tw_aload 3 dX10_digest_300 rfl ?_
                                refine tw_iload 4 dX10_digest_302 rfl ?_
                                obtain ⟨e309, f310, th_311, td_312, ds_313, fr_314, ca_315, us_316, wo_317, cm_318, lc_319, lh_320, ld_321, rfl, k322, k323, k324, k325, k326, k327, k328, k329, k330, k331, k332, k333, k334, k335, k336, k337, k338, k339, k340, k341, k342, k343⟩ := sp300.1 x 36 kx (by decide)
                                refine tw_bi (tw_callV (M := mX10_digest) (pc := 304) okX10_ofDebtNow dX10_digest_304 w_1521 rfl f310 [.ref y275, .int (nI k295)] [.long v308] rfl rfl ⟨by decide, by decide⟩ (Nat.le_of_ble_eq_true rfl) (c_X10_ofDebtNow d g τ h299 sp300.1 x kx y275 ky277 (nI k295) (vp_in_nI (by omega) (by decide))) (((((((((((803 + 21 * (r47 + 1)) - 570) + 114 * (r58 + 1)) - 126) + 18 * (r112 + 1)) - 1) - 44) + 4 * (r178 + 1)) - 4) + 1 * (r296 + 1)) - 1) (((((((((((4302 + 98 * (r47 + 1)) - 2950) + 590 * (r58 + 1)) - 756) + 108 * (r112 + 1)) - 4) - 308) + 28 * (r178 + 1)) - 28) + 7 * (r296 + 1)) - 7) (by omega) (by omega)) (fun r346 h345 q344 => ?_) (fun E h1 q => q.elim)
                                have sp347 := sp300.tr q344
                                have f348 := (q344.2.2 _ _ f304 z305).1
                                refine tw_i2l dX10_digest_307 ?_
                                refine tw_nml (fun v350 ev350 => ?_)
                                refine tw_ladd dX10_digest_308 ?_
                                refine tw_nml (fun v351 ev351 => ?_)
                                refine tw_lstore_n [(1, .long v351), (0, .ref x), (3, .ref it169), (4, .ref y275), (5, .int (nI k295))] dX10_digest_309 rfl (by decide) rfl ?_
                                obtain ⟨v352, ev352⟩ : ∃ y : Int32, y = (nI k295) + 1 := ⟨_, rfl⟩
                                refine tw_iinc [(5, .int v352), (1, .long v351), (0, .ref x), (3, .ref it169), (4, .ref y275)] 4 dX10_digest_310 rfl (by rw [ev352]; rfl) (by decide) rfl ?_
                                refine tw_goto 287 dX10_digest_313 (by decide) ?_
                                have qv352 := tw_nI3 ev352
                                rw [qv352]
                                refine tw_lv [2, 1, 3, 4, 0] rfl ?_
                                refine tw_less (c2 := (((((((((803 + 21 * (r47 + 1)) - 570) + 114 * (r58 + 1)) - 126) + 18 * (r112 + 1)) - 1) - 44) + 4 * (r178 + 1)) - 4) + 1 * r296) (n2 := (((((((((4302 + 98 * (r47 + 1)) - 2950) + 590 * (r58 + 1)) - 756) + 108 * (r112 + 1)) - 4) - 308) + 28 * (r178 + 1)) - 28) + 7 * r296) (by omega) (by omega) ?_
                                exact ih297 (k295 + 1) v351 _ sp347 (by omega) (by omega)
                          refine tw_lv [2, 3, 4, 1, 0] rfl ?_
                          refine tw_less (c2 := (((((((((803 + 21 * (r47 + 1)) - 570) + 114 * (r58 + 1)) - 126) + 18 * (r112 + 1)) - 1) - 44) + 4 * (r178 + 1)) - 4) + 1 * 4) (n2 := (((((((((4302 + 98 * (r47 + 1)) - 2950) + 590 * (r58 + 1)) - 756) + 108 * (r112 + 1)) - 4) - 308) + 28 * (r178 + 1)) - 28) + 7 * 4) (by omega) (by omega) ?_
                          exact L298 4 4 x177 _ (tw_sp.rf sp281.1) (by omega) (by omega)
                    refine tw_lv [1, 2, 0] rfl ?_
                    refine tw_less (c2 := (((((((803 + 21 * (r47 + 1)) - 570) + 114 * (r58 + 1)) - 126) + 18 * (r112 + 1)) - 1) - 44) + 4 * 11) (n2 := (((((((4302 + 98 * (r47 + 1)) - 2950) + 590 * (r58 + 1)) - 756) + 108 * (r112 + 1)) - 4) - 308) + 28 * 11) (by omega) (by omega) ?_
                    exact L182 11 0 (-1) x110 _ (tw_sp.rm sp175.1 it169) f176 z173  (by omega) (Nat.zero_le _)
                  · have kl353 : k111 < (g.2 4) := tw_klt (N := (g.2 4)) c163 hk119 (by omega)
                    refine tw_iconst (v := 0) dX10_digest_219 (by decide) ?_
                    refine tw_istore [(4, .int 0), (0, .ref x), (1, .long x110), (3, .int (nI k111))] dX10_digest_220 (by decide) rfl ?_
                    have L358 : ∀ (r356 k355 : Nat) (x354 : Int64) (h359 : tw_H) (sp360 : tw_sp d τ h115 g τ h359), 8 + 1 ≤ k355 + r356 → k355 ≤ 8 → tw_W d mX10_digest (tw_ql (fun r h1 => tw_sp d τ h g τ h1) tw_nx) 222 [(0, .ref x), (1, .long x354), (3, .int (nI k111)), (4, .int (nI k355))] [] h359 (((((((803 + 21 * (r47 + 1)) - 570) + 114 * (r58 + 1)) - 126) + 18 * (r112 + 1)) - 18) + 2 * r356) (((((((4302 + 98 * (r47 + 1)) - 2950) + 590 * (r58 + 1)) - 756) + 108 * (r112 + 1)) - 108) + 12 * r356) := by
                      intro r356
                      induction r356 with
                      | zero => intro k355 x354 h359 sp360 hk362 hk363; exact absurd hk362 (by omega)
                      | succ r356 ih357 =>
                        intro k355 x354 h359 sp360 hk362 hk363
                        refine tw_iload 3 dX10_digest_222 rfl ?_
                        refine tw_bipush (v := 7) dX10_digest_224 (by decide) ?_
                        refine tw_icmp_gt 250 dX10_digest_226 (by decide) (fun c364 => ?_) (fun c364 => ?_)
                        · obtain ⟨v365, ev365⟩ : ∃ y : Int32, y = (nI k111) + 1 := ⟨_, rfl⟩
                          refine tw_iinc [(3, .int v365), (0, .ref x), (1, .long x354), (4, .int (nI k355))] 2 dX10_digest_250 rfl (by rw [ev365]; rfl) (by decide) rfl ?_
                          refine tw_goto 208 dX10_digest_253 (by decide) ?_
                          have qv365 := tw_nI3 ev365
                          rw [qv365]
                          refine tw_lv [1, 2, 0] rfl ?_
                          refine tw_less (c2 := ((((803 + 21 * (r47 + 1)) - 570) + 114 * (r58 + 1)) - 126) + 18 * r112) (n2 := ((((4302 + 98 * (r47 + 1)) - 2950) + 590 * (r58 + 1)) - 756) + 108 * r112) (by omega) (by omega) ?_
                          exact ih113 (k111 + 1) x354 _ (sp116.tr sp360) (by omega) (by omega)
                        · have kl366 : k355 < 8 := tw_kle (N := 8) c364 hk363 (by decide)
                          refine tw_lload_n 1 dX10_digest_229 rfl rfl ?_
                          refine tw_ldc2 (v := 31) dX10_digest_230 w_1594 ?_
                          refine tw_lmul dX10_digest_233 ?_
                          refine tw_nml (fun v367 ev367 => ?_)
                          refine tw_aload_n 0 dX10_digest_234 rfl rfl ?_
                          refine tw_iload_n 2 dX10_digest_235 rfl rfl ?_
                          refine tw_iload 3 dX10_digest_236 rfl ?_
                          obtain ⟨e368, f369, th_370, td_371, ds_372, fr_373, ca_374, us_375, wo_376, cm_377, lc_378, lh_379, ld_380, rfl, k381, k382, k383, k384, k385, k386, k387, k388, k389, k390, k391, k392, k393, k394, k395, k396, k397, k398, k399, k400, k401, k402⟩ := sp360.1 x 36 kx (by decide)
                          refine tw_bi (tw_callV (M := mX10_digest) (pc := 238) okX10_ofHouseNow dX10_digest_238 w_1513 rfl f369 [.int (nI k111), .int (nI k355)] [.long v367] rfl rfl ⟨by decide, by decide⟩ (Nat.le_of_ble_eq_true rfl) (c_X10_ofHouseNow d g τ h359 sp360.1 x kx (nI k355) k111 (by omega) (vp_in_nI (by omega) (by decide))) ((((((((803 + 21 * (r47 + 1)) - 570) + 114 * (r58 + 1)) - 126) + 18 * (r112 + 1)) - 18) + 2 * (r356 + 1)) - 2) ((((((((4302 + 98 * (r47 + 1)) - 2950) + 590 * (r58 + 1)) - 756) + 108 * (r112 + 1)) - 108) + 12 * (r356 + 1)) - 12) (by omega) (by omega)) (fun r405 h404 q403 => ?_) (fun E h1 q => q.elim)
                          have sp406 := sp360.tr q403
                          refine tw_i2l dX10_digest_241 ?_
                          refine tw_nml (fun v407 ev407 => ?_)
                          refine tw_ladd dX10_digest_242 ?_
                          refine tw_nml (fun v408 ev408 => ?_)
                          refine tw_lstore_n [(1, .long v408), (0, .ref x), (3, .int (nI k111)), (4, .int (nI k355))] dX10_digest_243 rfl (by decide) rfl ?_
                          obtain ⟨v409, ev409⟩ : ∃ y : Int32, y = (nI k355) + 1 := ⟨_, rfl⟩
                          refine tw_iinc [(4, .int v409), (1, .long v408), (0, .ref x), (3, .int (nI k111))] 3 dX10_digest_244 rfl (by rw [ev409]; rfl) (by decide) rfl ?_
                          refine tw_goto 222 dX10_digest_247 (by decide) ?_
                          have qv409 := tw_nI3 ev409
                          rw [qv409]
                          refine tw_lv [2, 1, 3, 0] rfl ?_
                          refine tw_less (c2 := ((((((803 + 21 * (r47 + 1)) - 570) + 114 * (r58 + 1)) - 126) + 18 * (r112 + 1)) - 18) + 2 * r356) (n2 := ((((((4302 + 98 * (r47 + 1)) - 2950) + 590 * (r58 + 1)) - 756) + 108 * (r112 + 1)) - 108) + 12 * r356) (by omega) (by omega) ?_
                          exact ih357 (k355 + 1) v408 _ sp406 (by omega) (by omega)
                    refine tw_lv [1, 2, 3, 0] rfl ?_
                    refine tw_less (c2 := ((((((803 + 21 * (r47 + 1)) - 570) + 114 * (r58 + 1)) - 126) + 18 * (r112 + 1)) - 18) + 2 * 9) (n2 := ((((((4302 + 98 * (r47 + 1)) - 2950) + 590 * (r58 + 1)) - 756) + 108 * (r112 + 1)) - 108) + 12 * 9) (by omega) (by omega) ?_
                    exact L358 9 0 x110 _ (tw_sp.rf sp116.1) (by omega) (by omega)
              refine tw_lv [1, 2, 0] rfl ?_
              refine tw_less (c2 := ((((803 + 21 * (r47 + 1)) - 570) + 114 * (r58 + 1)) - 126) + 18 * 7) (n2 := ((((4302 + 98 * (r47 + 1)) - 2950) + 590 * (r58 + 1)) - 756) + 108 * 7) (by omega) (by omega) ?_
              exact L114 7 0 x56 _ (tw_sp.rf sp62.1) (by omega) (by omega)
            · have kl410 : k57 < (g.2 3) := tw_klt (N := (g.2 3)) c109 hk65 (by omega)
              refine tw_iconst (v := 0) dX10_digest_89 (by decide) ?_
              refine tw_istore [(4, .int 0), (0, .ref x), (1, .long x56), (3, .int (nI k57))] dX10_digest_90 (by decide) rfl ?_
              have L415 : ∀ (r413 k412 : Nat) (x411 : Int64) (h416 : tw_H) (sp417 : tw_sp d τ h61 g τ h416), 9 + 1 ≤ k412 + r413 → k412 ≤ 9 → tw_W d mX10_digest (tw_ql (fun r h1 => tw_sp d τ h g τ h1) tw_nx) 92 [(0, .ref x), (1, .long x411), (3, .int (nI k57)), (4, .int (nI k412))] [] h416 (((((803 + 21 * (r47 + 1)) - 570) + 114 * (r58 + 1)) - 30) + 3 * r413) (((((4302 + 98 * (r47 + 1)) - 2950) + 590 * (r58 + 1)) - 170) + 17 * r413) := by
                intro r413
                induction r413 with
                | zero => intro k412 x411 h416 sp417 hk419 hk420; exact absurd hk419 (by omega)
                | succ r413 ih414 =>
                  intro k412 x411 h416 sp417 hk419 hk420
                  refine tw_iload 3 dX10_digest_92 rfl ?_
                  refine tw_bipush (v := 8) dX10_digest_94 (by decide) ?_
                  refine tw_icmp_gt 120 dX10_digest_96 (by decide) (fun c421 => ?_) (fun c421 => ?_)
                  · refine tw_lload_n 1 dX10_digest_120 rfl rfl ?_
                    refine tw_ldc2 (v := 31) dX10_digest_121 w_1594 ?_
                    refine tw_lmul dX10_digest_124 ?_
                    refine tw_nml (fun v422 ev422 => ?_)
                    refine tw_aload_n 0 dX10_digest_125 rfl rfl ?_
                    refine tw_iload_n 2 dX10_digest_126 rfl rfl ?_
                    refine tw_bipush (v := 37) dX10_digest_127 (by decide) ?_
                    obtain ⟨e423, f424, th_425, td_426, ds_427, fr_428, ca_429, us_430, wo_431, cm_432, lc_433, lh_434, ld_435, rfl, k436, k437, k438, k439, k440, k441, k442, k443, k444, k445, k446, k447, k448, k449, k450, k451, k452, k453, k454, k455, k456, k457⟩ := sp417.1 x 36 kx (by decide)
                    refine tw_bi (tw_callV okX10_coinsNow dX10_digest_129 w_1493 rfl f424 [.int (nI k57), .int (nI 37)] [.long v422] rfl rfl ⟨by decide, by decide⟩ (Nat.le_of_ble_eq_true rfl) (c_X10_coinsNow d g τ h416 sp417.1 x kx k57 37 (by omega) (by decide)) ((((((803 + 21 * (r47 + 1)) - 570) + 114 * (r58 + 1)) - 30) + 3 * (r413 + 1)) - 84) ((((((4302 + 98 * (r47 + 1)) - 2950) + 590 * (r58 + 1)) - 170) + 17 * (r413 + 1)) - 420) (by have := tw_w37; omega) (by have := tw_w37; omega)) (fun r460 h459 q458 => ?_) (fun E h1 q => q.elim)
                    have sp461 := sp417.tr q458
                    refine tw_i2l dX10_digest_132 ?_
                    refine tw_nml (fun v462 ev462 => ?_)
                    refine tw_ladd dX10_digest_133 ?_
                    refine tw_nml (fun v463 ev463 => ?_)
                    refine tw_lstore_n [(1, .long v463), (0, .ref x), (3, .int (nI k57)), (4, .int (nI k412))] dX10_digest_134 rfl (by decide) rfl ?_
                    refine tw_iconst (v := 0) dX10_digest_135 (by decide) ?_
                    refine tw_istore [(4, .int 0), (1, .long v463), (0, .ref x), (3, .int (nI k57))] dX10_digest_136 (by decide) rfl ?_
                    have L468 : ∀ (r466 k465 : Nat) (x464 : Int64), 2 + 1 ≤ k465 + r466 → k465 ≤ 2 → tw_W d mX10_digest (tw_ql (fun r h1 => tw_sp d τ h g τ h1) tw_nx) 138 [(0, .ref x), (1, .long x464), (3, .int (nI k57)), (4, .int (nI k465))] [] h459 ((((((803 + 21 * (r47 + 1)) - 570) + 114 * (r58 + 1)) - 30) + 3 * (r413 + 1)) - 84) ((((((4302 + 98 * (r47 + 1)) - 2950) + 590 * (r58 + 1)) - 170) + 17 * (r413 + 1)) - 420) := by
                      intro r466
                      induction r466 with
                      | zero => intro k465 x464 hk472 hk473; exact absurd hk472 (by omega)
                      | succ r466 ih467 =>
                        intro k465 x464 hk472 hk473
                        refine tw_iload 3 dX10_digest_138 rfl ?_
                        refine tw_iconst (v := 2) dX10_digest_140 (by decide) ?_
                        refine tw_icmp_ge 168 dX10_digest_141 (by decide) (fun c474 => ?_) (fun c474 => ?_)
                        · refine tw_iconst (v := 0) dX10_digest_168 (by decide) ?_
                          refine tw_istore [(4, .int 0), (0, .ref x), (1, .long x464), (3, .int (nI k57))] dX10_digest_169 (by decide) rfl ?_
                          have L479 : ∀ (r477 k476 : Nat) (x475 : Int64), 2 + 1 ≤ k476 + r477 → k476 ≤ 2 → tw_W d mX10_digest (tw_ql (fun r h1 => tw_sp d τ h g τ h1) tw_nx) 171 [(0, .ref x), (1, .long x475), (3, .int (nI k57)), (4, .int (nI k476))] [] h459 ((((((803 + 21 * (r47 + 1)) - 570) + 114 * (r58 + 1)) - 30) + 3 * (r413 + 1)) - 84) ((((((4302 + 98 * (r47 + 1)) - 2950) + 590 * (r58 + 1)) - 170) + 17 * (r413 + 1)) - 420) := by
                            intro r477
                            induction r477 with
                            | zero => intro k476 x475 hk483 hk484; exact absurd hk483 (by omega)
                            | succ r477 ih478 =>
                              intro k476 x475 hk483 hk484
                              refine tw_iload 3 dX10_digest_171 rfl ?_
                              refine tw_iconst (v := 2) dX10_digest_173 (by decide) ?_
                              refine tw_icmp_ge 200 dX10_digest_174 (by decide) (fun c485 => ?_) (fun c485 => ?_)
                              · obtain ⟨v486, ev486⟩ : ∃ y : Int32, y = (nI k57) + 1 := ⟨_, rfl⟩
                                refine tw_iinc [(3, .int v486), (0, .ref x), (1, .long x475), (4, .int (nI k476))] 2 dX10_digest_200 rfl (by rw [ev486]; rfl) (by decide) rfl ?_
                                refine tw_goto 78 dX10_digest_203 (by decide) ?_
                                have qv486 := tw_nI3 ev486
                                rw [qv486]
                                refine tw_lv [1, 2, 0] rfl ?_
                                refine tw_less (c2 := ((803 + 21 * (r47 + 1)) - 570) + 114 * r58) (n2 := ((4302 + 98 * (r47 + 1)) - 2950) + 590 * r58) (by omega) (by omega) ?_
                                exact ih59 (k57 + 1) x475 _ (sp62.tr sp461) (by omega) (by omega)
                              · have kl487 := tw_klt (N := 2) c485 hk484 (by decide)
                                refine tw_lload_n 1 dX10_digest_177 rfl rfl ?_
                                refine tw_ldc2 (v := 31) dX10_digest_178 w_1594 ?_
                                refine tw_lmul dX10_digest_181 ?_
                                refine tw_nml (fun v488 ev488 => ?_)
                                refine tw_aload_n 0 dX10_digest_182 rfl rfl ?_
                                refine tw_iload_n 2 dX10_digest_183 rfl rfl ?_
                                refine tw_iload 3 dX10_digest_184 rfl ?_
                                refine tw_bipush (v := 10) dX10_digest_186 (by decide) ?_
                                obtain ⟨e489, f490, th_491, td_492, ds_493, fr_494, ca_495, us_496, wo_497, cm_498, lc_499, lh_500, ld_501, rfl, k502, k503, k504, k505, k506, k507, k508, k509, k510, k511, k512, k513, k514, k515, k516, k517, k518, k519, k520, k521, k522, k523⟩ := sp461.1 x 36 kx (by decide)
                                refine tw_bi (tw_callV (M := mX10_digest) (pc := 188) okX10_lastNow dX10_digest_188 w_1577 rfl f490 [.int (nI k57), .int (nI k476), .int 10] [.long v488] rfl rfl ⟨by decide, by decide⟩ (Nat.le_of_ble_eq_true rfl) (c_X10_lastNow d g τ h459 sp461.1 x kx (nI k476) 10 k57 (by omega) (tw_m2 (by omega))) ((((((803 + 21 * (r47 + 1)) - 570) + 114 * (r58 + 1)) - 30) + 3 * (r413 + 1)) - 84) ((((((4302 + 98 * (r47 + 1)) - 2950) + 590 * (r58 + 1)) - 170) + 17 * (r413 + 1)) - 420) (by omega) (by omega)) (fun r526 h525 q524 => ?_) (fun E h1 q => q.elim)
                                rw [q524]
                                refine tw_i2l dX10_digest_191 ?_
                                refine tw_nml (fun v527 ev527 => ?_)
                                refine tw_ladd dX10_digest_192 ?_
                                refine tw_nml (fun v528 ev528 => ?_)
                                refine tw_lstore_n [(1, .long v528), (0, .ref x), (3, .int (nI k57)), (4, .int (nI k476))] dX10_digest_193 rfl (by decide) rfl ?_
                                obtain ⟨v529, ev529⟩ : ∃ y : Int32, y = (nI k476) + 1 := ⟨_, rfl⟩
                                refine tw_iinc [(4, .int v529), (1, .long v528), (0, .ref x), (3, .int (nI k57))] 3 dX10_digest_194 rfl (by rw [ev529]; rfl) (by decide) rfl ?_
                                refine tw_goto 171 dX10_digest_197 (by decide) ?_
                                have qv529 := tw_nI3 ev529
                                rw [qv529]
                                refine tw_lv [2, 1, 3, 0] rfl ?_
                                exact ih478 (k476 + 1) v528 (by omega) (by omega)
                          refine tw_lv [1, 2, 3, 0] rfl ?_
                          exact L479 (2 + 1) 0 x464 (by omega) (by omega)
                        · have kl530 := tw_klt (N := 2) c474 hk473 (by decide)
                          refine tw_lload_n 1 dX10_digest_144 rfl rfl ?_
                          refine tw_ldc2 (v := 31) dX10_digest_145 w_1594 ?_
                          refine tw_lmul dX10_digest_148 ?_
                          refine tw_nml (fun v531 ev531 => ?_)
                          refine tw_aload_n 0 dX10_digest_149 rfl rfl ?_
                          refine tw_iload_n 2 dX10_digest_150 rfl rfl ?_
                          refine tw_iload 3 dX10_digest_151 rfl ?_
                          refine tw_sipush (v := 1000) dX10_digest_153 (by decide) ?_
                          obtain ⟨e532, f533, th_534, td_535, ds_536, fr_537, ca_538, us_539, wo_540, cm_541, lc_542, lh_543, ld_544, rfl, k545, k546, k547, k548, k549, k550, k551, k552, k553, k554, k555, k556, k557, k558, k559, k560, k561, k562, k563, k564, k565, k566⟩ := sp461.1 x 36 kx (by decide)
                          refine tw_bi (tw_callV (M := mX10_digest) (pc := 156) okX10_bestTripNow dX10_digest_156 w_1561 rfl f533 [.int (nI k57), .int (nI k465), .int 1000] [.long v531] rfl rfl ⟨by decide, by decide⟩ (Nat.le_of_ble_eq_true rfl) (c_X10_bestTripNow d g τ h459 sp461.1 x kx (nI k465) 1000 k57 (by omega) ) ((((((803 + 21 * (r47 + 1)) - 570) + 114 * (r58 + 1)) - 30) + 3 * (r413 + 1)) - 84) ((((((4302 + 98 * (r47 + 1)) - 2950) + 590 * (r58 + 1)) - 170) + 17 * (r413 + 1)) - 420) (by omega) (by omega)) (fun r569 h568 q567 => ?_) (fun E h1 q => q.elim)
                          rw [q567]
                          refine tw_i2l dX10_digest_159 ?_
                          refine tw_nml (fun v570 ev570 => ?_)
                          refine tw_ladd dX10_digest_160 ?_
                          refine tw_nml (fun v571 ev571 => ?_)
                          refine tw_lstore_n [(1, .long v571), (0, .ref x), (3, .int (nI k57)), (4, .int (nI k465))] dX10_digest_161 rfl (by decide) rfl ?_
                          obtain ⟨v572, ev572⟩ : ∃ y : Int32, y = (nI k465) + 1 := ⟨_, rfl⟩
                          refine tw_iinc [(4, .int v572), (1, .long v571), (0, .ref x), (3, .int (nI k57))] 3 dX10_digest_162 rfl (by rw [ev572]; rfl) (by decide) rfl ?_
                          refine tw_goto 138 dX10_digest_165 (by decide) ?_
                          have qv572 := tw_nI3 ev572
                          rw [qv572]
                          refine tw_lv [2, 1, 3, 0] rfl ?_
                          exact ih467 (k465 + 1) v571 (by omega) (by omega)
                    refine tw_lv [2, 1, 3, 0] rfl ?_
                    exact L468 (2 + 1) 0 v463 (by omega) (by omega)
                  · have kl573 : k412 < 9 := tw_kle (N := 9) c421 hk420 (by decide)
                    refine tw_lload_n 1 dX10_digest_99 rfl rfl ?_
                    refine tw_ldc2 (v := 31) dX10_digest_100 w_1594 ?_
                    refine tw_lmul dX10_digest_103 ?_
                    refine tw_nml (fun v574 ev574 => ?_)
                    refine tw_aload_n 0 dX10_digest_104 rfl rfl ?_
                    refine tw_iload_n 2 dX10_digest_105 rfl rfl ?_
                    refine tw_iload 3 dX10_digest_106 rfl ?_
                    obtain ⟨e575, f576, th_577, td_578, ds_579, fr_580, ca_581, us_582, wo_583, cm_584, lc_585, lh_586, ld_587, rfl, k588, k589, k590, k591, k592, k593, k594, k595, k596, k597, k598, k599, k600, k601, k602, k603, k604, k605, k606, k607, k608, k609⟩ := sp417.1 x 36 kx (by decide)
                    refine tw_bi (tw_callV (M := mX10_digest) (pc := 108) okX10_ofCountryNow dX10_digest_108 w_1501 rfl f576 [.int (nI k57), .int (nI k412)] [.long v574] rfl rfl ⟨by decide, by decide⟩ (Nat.le_of_ble_eq_true rfl) (c_X10_ofCountryNow d g τ h416 sp417.1 x kx (nI k412) k57 (by omega) (vp_in_nI (by omega) (by decide))) ((((((803 + 21 * (r47 + 1)) - 570) + 114 * (r58 + 1)) - 30) + 3 * (r413 + 1)) - 3) ((((((4302 + 98 * (r47 + 1)) - 2950) + 590 * (r58 + 1)) - 170) + 17 * (r413 + 1)) - 17) (by omega) (by omega)) (fun r612 h611 q610 => ?_) (fun E h1 q => q.elim)
                    have sp613 := sp417.tr q610
                    refine tw_i2l dX10_digest_111 ?_
                    refine tw_nml (fun v614 ev614 => ?_)
                    refine tw_ladd dX10_digest_112 ?_
                    refine tw_nml (fun v615 ev615 => ?_)
                    refine tw_lstore_n [(1, .long v615), (0, .ref x), (3, .int (nI k57)), (4, .int (nI k412))] dX10_digest_113 rfl (by decide) rfl ?_
                    obtain ⟨v616, ev616⟩ : ∃ y : Int32, y = (nI k412) + 1 := ⟨_, rfl⟩
                    refine tw_iinc [(4, .int v616), (1, .long v615), (0, .ref x), (3, .int (nI k57))] 3 dX10_digest_114 rfl (by rw [ev616]; rfl) (by decide) rfl ?_
                    refine tw_goto 92 dX10_digest_117 (by decide) ?_
                    have qv616 := tw_nI3 ev616
                    rw [qv616]
                    refine tw_lv [2, 1, 3, 0] rfl ?_
                    refine tw_less (c2 := ((((803 + 21 * (r47 + 1)) - 570) + 114 * (r58 + 1)) - 30) + 3 * r413) (n2 := ((((4302 + 98 * (r47 + 1)) - 2950) + 590 * (r58 + 1)) - 170) + 17 * r413) (by omega) (by omega) ?_
                    exact ih414 (k412 + 1) v615 _ sp613 (by omega) (by omega)
              refine tw_lv [1, 2, 3, 0] rfl ?_
              refine tw_less (c2 := ((((803 + 21 * (r47 + 1)) - 570) + 114 * (r58 + 1)) - 30) + 3 * 10) (n2 := ((((4302 + 98 * (r47 + 1)) - 2950) + 590 * (r58 + 1)) - 170) + 17 * 10) (by omega) (by omega) ?_
              exact L415 10 0 x56 _ (tw_sp.rf sp62.1) (by omega) (by omega)
        refine tw_lv [1, 2, 0] rfl ?_
        refine tw_less (c2 := ((803 + 21 * (r47 + 1)) - 570) + 114 * 5) (n2 := ((4302 + 98 * (r47 + 1)) - 2950) + 590 * 5) (by omega) (by omega) ?_
        exact L60 5 0 x45 _ (tw_sp.rf sp51.1) (by omega) (by omega)
      · have kl617 := tw_klt (N := 2) c55 hk54 (by decide)
        refine tw_iconst (v := 0) dX10_digest_40 (by decide) ?_
        refine tw_istore [(4, .int 0), (0, .ref x), (1, .long x45), (3, .int (nI k46))] dX10_digest_41 (by decide) rfl ?_
        have L622 : ∀ (r620 k619 : Nat) (x618 : Int64) (h623 : tw_H) (sp624 : tw_sp d τ h50 g τ h623), 6 + 1 ≤ k619 + r620 → k619 ≤ 6 → tw_W d mX10_digest (tw_ql (fun r h1 => tw_sp d τ h g τ h1) tw_nx) 43 [(0, .ref x), (1, .long x618), (3, .int (nI k46)), (4, .int (nI k619))] [] h623 (((803 + 21 * (r47 + 1)) - 21) + 3 * r620) (((4302 + 98 * (r47 + 1)) - 98) + 14 * r620) := by
          intro r620
          induction r620 with
          | zero => intro k619 x618 h623 sp624 hk626 hk627; exact absurd hk626 (by omega)
          | succ r620 ih621 =>
            intro k619 x618 h623 sp624 hk626 hk627
            refine tw_iload 3 dX10_digest_43 rfl ?_
            refine tw_iconst (v := 5) dX10_digest_45 (by decide) ?_
            refine tw_icmp_gt 70 dX10_digest_46 (by decide) (fun c628 => ?_) (fun c628 => ?_)
            · obtain ⟨v629, ev629⟩ : ∃ y : Int32, y = (nI k46) + 1 := ⟨_, rfl⟩
              refine tw_iinc [(3, .int v629), (0, .ref x), (1, .long x618), (4, .int (nI k619))] 2 dX10_digest_70 rfl (by rw [ev629]; rfl) (by decide) rfl ?_
              refine tw_goto 35 dX10_digest_73 (by decide) ?_
              have qv629 := tw_nI3 ev629
              rw [qv629]
              refine tw_lv [1, 2, 0] rfl ?_
              refine tw_less (c2 := 803 + 21 * r47) (n2 := 4302 + 98 * r47) (by omega) (by omega) ?_
              exact ih48 (k46 + 1) x618 _ (sp51.tr sp624) (by omega) (by omega)
            · have kl630 : k619 < 6 := tw_kle (N := 6) c628 hk627 (by decide)
              refine tw_lload_n 1 dX10_digest_49 rfl rfl ?_
              refine tw_ldc2 (v := 31) dX10_digest_50 w_1594 ?_
              refine tw_lmul dX10_digest_53 ?_
              refine tw_nml (fun v631 ev631 => ?_)
              refine tw_aload_n 0 dX10_digest_54 rfl rfl ?_
              refine tw_iload_n 2 dX10_digest_55 rfl rfl ?_
              refine tw_iload 3 dX10_digest_56 rfl ?_
              obtain ⟨e632, f633, th_634, td_635, ds_636, fr_637, ca_638, us_639, wo_640, cm_641, lc_642, lh_643, ld_644, rfl, k645, k646, k647, k648, k649, k650, k651, k652, k653, k654, k655, k656, k657, k658, k659, k660, k661, k662, k663, k664, k665, k666⟩ := sp624.1 x 36 kx (by decide)
              refine tw_bi (tw_callV (M := mX10_digest) (pc := 58) okX10_worldNow dX10_digest_58 w_1533 rfl f633 [.int (nI k46), .int (nI k619)] [.long v631] rfl rfl ⟨by decide, by decide⟩ (Nat.le_of_ble_eq_true rfl) (c_X10_worldNow d g τ h623 sp624.1 x kx (nI k46) (nI k619) (vp_in_nI (by omega) (by decide)) (vp_in_nI (by omega) (by decide))) ((((803 + 21 * (r47 + 1)) - 21) + 3 * (r620 + 1)) - 3) ((((4302 + 98 * (r47 + 1)) - 98) + 14 * (r620 + 1)) - 14) (by omega) (by omega)) (fun r669 h668 q667 => ?_) (fun E h1 q => q.elim)
              have sp670 := sp624.tr q667
              refine tw_i2l dX10_digest_61 ?_
              refine tw_nml (fun v671 ev671 => ?_)
              refine tw_ladd dX10_digest_62 ?_
              refine tw_nml (fun v672 ev672 => ?_)
              refine tw_lstore_n [(1, .long v672), (0, .ref x), (3, .int (nI k46)), (4, .int (nI k619))] dX10_digest_63 rfl (by decide) rfl ?_
              obtain ⟨v673, ev673⟩ : ∃ y : Int32, y = (nI k619) + 1 := ⟨_, rfl⟩
              refine tw_iinc [(4, .int v673), (1, .long v672), (0, .ref x), (3, .int (nI k46))] 3 dX10_digest_64 rfl (by rw [ev673]; rfl) (by decide) rfl ?_
              refine tw_goto 43 dX10_digest_67 (by decide) ?_
              have qv673 := tw_nI3 ev673
              rw [qv673]
              refine tw_lv [2, 1, 3, 0] rfl ?_
              refine tw_less (c2 := ((803 + 21 * (r47 + 1)) - 21) + 3 * r620) (n2 := ((4302 + 98 * (r47 + 1)) - 98) + 14 * r620) (by omega) (by omega) ?_
              exact ih621 (k619 + 1) v672 _ sp670 (by omega) (by omega)
        refine tw_lv [1, 2, 3, 0] rfl ?_
        refine tw_less (c2 := ((803 + 21 * (r47 + 1)) - 21) + 3 * 7) (n2 := ((4302 + 98 * (r47 + 1)) - 98) + 14 * 7) (by omega) (by omega) ?_
        exact L622 7 0 x45 _ (tw_sp.rf sp51.1) (by omega) (by omega)
  refine tw_lv [2, 1, 0] rfl ?_
  refine tw_less (c2 := 803 + 21 * 3) (n2 := 4302 + 98 * 3) (by omega) (by omega) ?_
  exact L49 3 0 v44 _ (tw_sp.rf sp37.1) (by omega) (by omega)

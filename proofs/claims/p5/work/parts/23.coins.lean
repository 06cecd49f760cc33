/-! the class's methods over the typed heap. Laid by wip/p5/mkclass.py. -/
set_option maxHeartbeats 4000000 in
set_option maxRecDepth 100000 in
theorem c_X10_coinsNow (d : tw_D) (g : tw_G) (τ : tw_K) (h : tw_H) (hw : tw_wt d g τ h) (x : Nat) (kx : τ x = 36) (a l : Nat) (ha : a < g.2 3) (hl : l ≤ 400) : tw_Ct d mX10_coinsNow (tw_wy 5 l) (5 * tw_wy 5 l) [.ref x, .int (nI a), .int (nI l)] h (tw_qi (fun r h1 => tw_sp d τ h g τ h1) tw_nx) := by
  refine tw_of (by decide +kernel) (Nat.le_of_ble_eq_true rfl) ?_
  show tw_W d mX10_coinsNow _ 0 [(0, .ref x), (1, .int (nI a)), (2, .int (nI l))] [] h (tw_wy 5 l) (5 * tw_wy 5 l)
  have sp0 := tw_sp.rf hw
  refine tw_aload_n 0 dX10_coinsNow_0 rfl rfl ?_
  obtain ⟨e1, f2, th_3, td_4, ds_5, fr_6, ca_7, us_8, wo_9, cm_10, lc_11, lh_12, ld_13, rfl, k14, k15, k16, k17, k18, k19, k20, k21, k22, k23, k24, k25, k26, k27⟩ := sp0.1 x 36 kx (by decide)
  refine tw_get (v := .ref lc_11) rfl in_14 9 dX10_coinsNow_1 w_1160 rfl (by decide) f2 rfl ?_
  refine tw_iload_n 1 dX10_coinsNow_4 rfl rfl ?_
  obtain ⟨e28, f29, ⟨el30, rfl, k31⟩, k32⟩ := sp0.1 lc_11 24 k20 (by decide)
  refine tw_br (tw_callV okJx4a65c_get_915e3 dX10_coinsNow_5 w_1296 rfl f29 [.int (nI a)] [] rfl rfl ⟨by decide, by decide⟩ (Nat.le_of_ble_eq_true rfl) (c24_get d g τ h sp0.1 lc_11 k20 a (by omega) (by omega)) (tw_wy 5 l) (5 * tw_wy 5 l) (by omega) (by omega)) (fun r35 h34 q33 => ?_) (fun E h1 q => q.elim)
  obtain ⟨q33e, q33k⟩ := q33
  rw [q33e]
  have el36 : tw_el h (g.2 12) a = r35 := by rw [← k32]; exact q33k.2.symm
  have kl37 : τ (g.2 12) = 24 := by rw [← k32]; exact k20
  obtain ⟨e38, f39, r_40, c_41, v_42, o_43, t_44, rfl, k45, k46, k47, k48, k49⟩ := sp0.1 r35 21 q33k.1 (by decide)
  refine tw_castS (ci := 11) rfl dX10_coinsNow_8 w_1212 f39 ?_
  refine tw_get (v := .ref t_44) rfl in_11 4 dX10_coinsNow_11 w_1225 rfl (by decide) f39 rfl ?_
  refine tw_iconst (v := 0) dX10_coinsNow_14 (by decide) ?_
  refine tw_iload_n 2 dX10_coinsNow_15 rfl rfl ?_
  obtain ⟨e50, f51, F52, rfl, k53⟩ := sp0.1 t_44 33 k47 (by decide)
  refine tw_bq (tw_callS (okX10_best 5) dX10_coinsNow_16 w_1484 [.ref t_44, .int 0, .int (nI l)] [] rfl rfl ⟨by decide, by decide⟩ (Nat.le_of_ble_eq_true rfl) (c_best d 5 5 (Nat.le_refl _) (Nat.le_refl _) h t_44 l F52 f51 k53 hl) ((tw_wy 5 l) - (tw_wy 5 l)) ((5 * tw_wy 5 l) - (5 * tw_wy 5 l)) (by have := hl; omega) (by have := hl; omega)) (fun r56 h55 q54 => ?_) (fun E h1 q => q.elim)
  obtain ⟨q54g, q54r⟩ := q54
  have sp57 := sp0.tr (q54g.sp sp0.1)
  have f58 := q54g _ _ f2
  have f59 := q54g _ _ f29
  have f60 := q54g _ _ f39
  have f61 := q54g _ _ f51
  have el62 := (tw_el_gw sp0.1 q54g kl37 (by omega)).trans el36
  cases r56 with
  | none =>
    refine tw_astore_nN [(3, .null), (0, .ref x), (1, .int (nI a)), (2, .int (nI l))] dX10_coinsNow_19 rfl (by decide) rfl ?_
    refine tw_aload_nN 0 dX10_coinsNow_20 rfl rfl ?_
    refine tw_ifnonnullN dX10_coinsNow_21 ?_
    refine tw_iconst (v := -1) dX10_coinsNow_24 (by decide) ?_
    exact tw_iret dX10_coinsNow_25 rfl (Or.inl ⟨_, rfl, sp57⟩)
  | some b63 =>
    obtain ⟨hq64, G65, hG66, hGb67⟩ := q54r b63 rfl
    have n68 := sp0.nn hq64
    have z69 := sp0.1.none hq64
    refine tw_astore_n [(3, .ref b63), (0, .ref x), (1, .int (nI a)), (2, .int (nI l))] dX10_coinsNow_19 rfl (by decide) rfl ?_
    refine tw_aload_n 0 dX10_coinsNow_20 rfl rfl ?_
    refine tw_ifnonnull 26 dX10_coinsNow_21 (by decide) ?_
    refine tw_iconst (v := 0) dX10_coinsNow_26 (by decide) ?_
    refine tw_istore [(4, .int 0), (3, .ref b63), (0, .ref x), (1, .int (nI a)), (2, .int (nI l))] dX10_coinsNow_27 (by decide) rfl ?_
    refine tw_aload_n 1 dX10_coinsNow_29 rfl rfl ?_
    refine tw_astore [(5, .ref b63), (4, .int 0), (3, .ref b63), (0, .ref x), (1, .int (nI a)), (2, .int (nI l))] dX10_coinsNow_30 (by decide) rfl ?_
    refine tw_aload 0 dX10_coinsNow_32 rfl ?_
    refine tw_alen (v := nI 5) 0 rfl dX10_coinsNow_34 hG66 rfl ?_
    refine tw_istore [(6, .int (nI 5)), (5, .ref b63), (4, .int 0), (3, .ref b63), (0, .ref x), (1, .int (nI a)), (2, .int (nI l))] dX10_coinsNow_35 (by decide) rfl ?_
    refine tw_iconst (v := 0) dX10_coinsNow_37 (by decide) ?_
    refine tw_istore [(7, .int 0), (6, .int (nI 5)), (5, .ref b63), (4, .int 0), (3, .ref b63), (0, .ref x), (1, .int (nI a)), (2, .int (nI l))] dX10_coinsNow_38 (by decide) rfl ?_
    have L74 : ∀ (r72 k71 : Nat) (x70 : Int32), 5 + 1 ≤ k71 + r72 → k71 ≤ 5 → tw_W d mX10_coinsNow (tw_qi (fun r h1 => tw_sp d τ h g τ h1) tw_nx) 40 [(0, .ref x), (1, .int (nI a)), (2, .int (nI l)), (3, .ref b63), (4, .int x70), (5, .ref b63), (6, .int (nI 5)), (7, .int (nI k71))] [] h55 ((tw_wy 5 l) - (tw_wy 5 l)) ((5 * tw_wy 5 l) - (5 * tw_wy 5 l)) := by
      intro r72
      induction r72 with
      | zero => intro k71 x70 hk78 hk79; exact absurd hk78 (by omega)
      | succ r72 ih73 =>
        intro k71 x70 hk78 hk79
        refine tw_iload 7 dX10_coinsNow_40 rfl ?_
        refine tw_iload 6 dX10_coinsNow_42 rfl ?_
        refine tw_icmp_ge 70 dX10_coinsNow_44 (by decide) (fun c80 => ?_) (fun c80 => ?_)
        · refine tw_iload 4 dX10_coinsNow_70 rfl ?_
          exact tw_iret dX10_coinsNow_72 rfl (Or.inl ⟨_, rfl, sp57⟩)
        · have kl81 := tw_klt (N := 5) c80 hk79 (by decide)
          refine tw_aload 5 dX10_coinsNow_47 rfl ?_
          refine tw_iload 7 dX10_coinsNow_49 rfl ?_
          obtain ⟨v82, ev82⟩ : ∃ y : Int32, G65 ((nI k71)).toNatClampNeg = y := ⟨_, rfl⟩
          refine tw_iald (v := v82) dX10_coinsNow_51 hG66 (vp_in_nI (by omega) (by decide)) ev82 ?_
          refine tw_istore [(8, .int v82), (0, .ref x), (1, .int (nI a)), (2, .int (nI l)), (3, .ref b63), (4, .int x70), (5, .ref b63), (6, .int (nI 5)), (7, .int (nI k71))] dX10_coinsNow_52 (by decide) rfl ?_
          refine tw_bipush (v := 10) dX10_coinsNow_54 (by decide) ?_
          refine tw_iload 5 dX10_coinsNow_56 rfl ?_
          refine tw_imul dX10_coinsNow_58 ?_
          refine tw_nmi (fun v83 ev83 => ?_)
          refine tw_iload 0 dX10_coinsNow_59 rfl ?_
          refine tw_iadd dX10_coinsNow_61 ?_
          refine tw_nmi (fun v84 ev84 => ?_)
          refine tw_istore [(4, .int v84), (8, .int v82), (0, .ref x), (1, .int (nI a)), (2, .int (nI l)), (3, .ref b63), (5, .ref b63), (6, .int (nI 5)), (7, .int (nI k71))] dX10_coinsNow_62 (by decide) rfl ?_
          obtain ⟨v85, ev85⟩ : ∃ y : Int32, y = (nI k71) + 1 := ⟨_, rfl⟩
          refine tw_iinc [(7, .int v85), (4, .int v84), (8, .int v82), (0, .ref x), (1, .int (nI a)), (2, .int (nI l)), (3, .ref b63), (5, .ref b63), (6, .int (nI 5))] 8 dX10_coinsNow_64 rfl (by rw [ev85]; rfl) (by decide) rfl ?_
          refine tw_goto 40 dX10_coinsNow_67 (by decide) ?_
          have qv85 := tw_nI3 ev85
          rw [qv85]
          refine tw_lv [3, 4, 5, 6, 1, 7, 8, 0] rfl ?_
          exact ih73 (k71 + 1) v84 (by omega) (by omega)
    refine tw_lv [5, 6, 7, 4, 3, 2, 1, 0] rfl ?_
    exact L74 (5 + 1) 0 0 (by omega) (by omega)

set_option maxHeartbeats 4000000 in
set_option maxRecDepth 100000 in
theorem c_X10_coins (d : tw_D) (g : tw_G) (τ : tw_K) (h : tw_H) (hw : tw_wt d g τ h) (x : Nat) (kx : τ x = 36) (n : Int32) (am : Int32) : tw_Ct d mX10_coins 500 2500 [.ref x, .int n, .int am] h (tw_qi (fun r h1 => tw_sp d τ h g τ h1) tw_nx) := by
  refine tw_of (by decide +kernel) (Nat.le_of_ble_eq_true rfl) ?_
  show tw_W d mX10_coins _ 0 [(0, .ref x), (1, .int n), (2, .int am)] [] h 500 2500
  have sp0 := tw_sp.rf hw
  refine tw_aload_n 0 dX10_coins_0 rfl rfl ?_
  refine tw_aload_n 0 dX10_coins_1 rfl rfl ?_
  refine tw_iload_n 1 dX10_coins_2 rfl rfl ?_
  obtain ⟨e1, f2, th_3, td_4, ds_5, fr_6, ca_7, us_8, wo_9, cm_10, lc_11, lh_12, ld_13, rfl, k14, k15, k16, k17, k18, k19, k20, k21, k22, k23, k24, k25, k26, k27⟩ := sp0.1 x 36 kx (by decide)
  refine tw_bi (tw_callV okX10_isNoCountry dX10_coins_3 w_1292 rfl f2 [.int n] [.ref x] rfl rfl ⟨by decide, by decide⟩ (Nat.le_of_ble_eq_true rfl) (c_X10_isNoCountry d g τ h sp0.1 x kx n) 500 2500 (Nat.le_of_ble_eq_true rfl) (Nat.le_of_ble_eq_true rfl)) (fun r30 h29 q28 => ?_) (fun E h1 q => q.elim)
  obtain ⟨q28e, q28d⟩ := q28
  rw [q28e]
  rcases q28d with q28r | ⟨q28r, j31, q28j, q28k⟩
  · rw [q28r]
    refine tw_iconst (v := 1) dX10_coins_6 (by decide) ?_
    refine tw_bi (tw_callV okX10_start dX10_coins_7 w_1200 rfl f2 [.int 1, .int 1] [] rfl rfl ⟨by decide, by decide⟩ (Nat.le_of_ble_eq_true rfl) (c_X10_start d g τ h sp0.1 x kx 1 1 (by decide)) 500 2500 (Nat.le_of_ble_eq_true rfl) (Nat.le_of_ble_eq_true rfl)) (fun r34 h33 q32 => ?_) (fun E h1 q => q.elim)
    obtain ⟨e35, he36, hs37, hr38, h339⟩ := q32
    have sp40 : tw_sp d τ h g τ h33 := by rw [he36]; exact sp0.set kx (by decide) hs37
    rcases hr38 with ei41 | ⟨ei41, ei41b⟩
    · rw [ei41]
      refine tw_if_ne 37 dX10_coins_10 (by decide) (fun _ => ?_) (fun c42 => absurd c42 (by decide))
      refine tw_iconst (v := 0) dX10_coins_37 (by decide) ?_
      refine tw_goto 47 dX10_coins_38 (by decide) ?_
      exact tw_iret dX10_coins_47 rfl (Or.inl ⟨_, rfl, sp40⟩)
    · exact absurd ei41b (by decide)
  · rw [q28r]
    subst q28k
    refine tw_iconst (v := 1) dX10_coins_6 (by decide) ?_
    refine tw_bi (tw_callV okX10_start dX10_coins_7 w_1200 rfl f2 [.int 0, .int 1] [] rfl rfl ⟨by decide, by decide⟩ (Nat.le_of_ble_eq_true rfl) (c_X10_start d g τ h sp0.1 x kx 0 1 (by decide)) 500 2500 (Nat.le_of_ble_eq_true rfl) (Nat.le_of_ble_eq_true rfl)) (fun r45 h44 q43 => ?_) (fun E h1 q => q.elim)
    obtain ⟨e46, he47, hs48, hr49, h350⟩ := q43
    have sp51 : tw_sp d τ h g τ h44 := by rw [he47]; exact sp0.set kx (by decide) hs48
    rcases hr49 with ei52 | ⟨ei52, ei52b⟩
    · rw [ei52]
      refine tw_if_ne 37 dX10_coins_10 (by decide) (fun _ => ?_) (fun c53 => absurd c53 (by decide))
      refine tw_iconst (v := 0) dX10_coins_37 (by decide) ?_
      refine tw_goto 47 dX10_coins_38 (by decide) ?_
      exact tw_iret dX10_coins_47 rfl (Or.inl ⟨_, rfl, sp51⟩)
    · rw [ei52]
      refine tw_if_ne 37 dX10_coins_10 (by decide) (fun c54 => absurd (by decide) c54) (fun _ => ?_)
      refine tw_aload_n 0 dX10_coins_13 rfl rfl ?_
      refine tw_iload_n 2 dX10_coins_14 rfl rfl ?_
      refine tw_iconst (v := 1) dX10_coins_15 (by decide) ?_
      refine tw_sipush (v := 400) dX10_coins_16 (by decide) ?_
      refine tw_bi (tw_callS okX10_isIn dX10_coins_19 w_1196 [.int am, .int 1, .int 400] [.ref x] rfl rfl ⟨by decide, by decide⟩ (Nat.le_of_ble_eq_true rfl) (c_X10_isIn d g τ h44 sp51.1 am 1 400) 500 2500 (Nat.le_of_ble_eq_true rfl) (Nat.le_of_ble_eq_true rfl)) (fun r57 h56 q55 => ?_) (fun E h1 q => q.elim)
      obtain ⟨q55e, q55d⟩ := q55
      rw [q55e]
      rcases q55d with ⟨q55r, q55n⟩ | ⟨q55r, q55a, q55b⟩
      · rw [q55r]
        refine tw_if_ne 29 dX10_coins_22 (by decide) (fun c58 => absurd (by decide) c58) (fun _ => ?_)
        refine tw_iconst (v := 1) dX10_coins_25 (by decide) ?_
        refine tw_goto 30 dX10_coins_26 (by decide) ?_
        refine tw_iconst (v := 2) dX10_coins_30 (by decide) ?_
        obtain ⟨e59, f60, th_61, td_62, ds_63, fr_64, ca_65, us_66, wo_67, cm_68, lc_69, lh_70, ld_71, rfl, k72, k73, k74, k75, k76, k77, k78, k79, k80, k81, k82, k83, k84, k85⟩ := sp51.1 x 36 kx (by decide)
        refine tw_bi (tw_callV okX10_refuse dX10_coins_31 w_1204 rfl f60 [.int 1, .int 2] [] rfl rfl ⟨by decide, by decide⟩ (Nat.le_of_ble_eq_true rfl) (c_X10_refuse d g τ h44 sp51.1 x kx 1 2 (by decide)) 500 2500 (Nat.le_of_ble_eq_true rfl) (Nat.le_of_ble_eq_true rfl)) (fun r88 h87 q86 => ?_) (fun E h1 q => q.elim)
        obtain ⟨e89, he90, hs91, hr92, h393⟩ := q86
        have sp94 : tw_sp d τ h g τ h87 := by rw [he90]; exact sp51.set kx (by decide) hs91
        rcases hr92 with ei95 | ⟨ei95, ei95b⟩
        · rw [ei95]
          refine tw_if_eq 41 dX10_coins_34 (by decide) (fun c96 => absurd c96 (by decide)) (fun _ => ?_)
          refine tw_iconst (v := 0) dX10_coins_37 (by decide) ?_
          refine tw_goto 47 dX10_coins_38 (by decide) ?_
          exact tw_iret dX10_coins_47 rfl (Or.inl ⟨_, rfl, sp94⟩)
        · exact absurd ei95b (by decide)
      · rw [q55r]
        refine tw_if_ne 29 dX10_coins_22 (by decide) (fun _ => ?_) (fun c97 => absurd c97 (by decide))
        refine tw_iconst (v := 0) dX10_coins_29 (by decide) ?_
        refine tw_iconst (v := 2) dX10_coins_30 (by decide) ?_
        obtain ⟨e98, f99, th_100, td_101, ds_102, fr_103, ca_104, us_105, wo_106, cm_107, lc_108, lh_109, ld_110, rfl, k111, k112, k113, k114, k115, k116, k117, k118, k119, k120, k121, k122, k123, k124⟩ := sp51.1 x 36 kx (by decide)
        refine tw_bi (tw_callV okX10_refuse dX10_coins_31 w_1204 rfl f99 [.int 0, .int 2] [] rfl rfl ⟨by decide, by decide⟩ (Nat.le_of_ble_eq_true rfl) (c_X10_refuse d g τ h44 sp51.1 x kx 0 2 (by decide)) 500 2500 (Nat.le_of_ble_eq_true rfl) (Nat.le_of_ble_eq_true rfl)) (fun r127 h126 q125 => ?_) (fun E h1 q => q.elim)
        obtain ⟨e128, he129, hs130, hr131, h3132⟩ := q125
        have sp133 : tw_sp d τ h g τ h126 := by rw [he129]; exact sp51.set kx (by decide) hs130
        rcases hr131 with ei134 | ⟨ei134, ei134b⟩
        · rw [ei134]
          refine tw_if_eq 41 dX10_coins_34 (by decide) (fun c135 => absurd c135 (by decide)) (fun _ => ?_)
          refine tw_iconst (v := 0) dX10_coins_37 (by decide) ?_
          refine tw_goto 47 dX10_coins_38 (by decide) ?_
          exact tw_iret dX10_coins_47 rfl (Or.inl ⟨_, rfl, sp133⟩)
        · rw [ei134]
          refine tw_if_eq 41 dX10_coins_34 (by decide) (fun _ => ?_) (fun c136 => absurd (by decide) c136)
          refine tw_aload_n 0 dX10_coins_41 rfl rfl ?_
          refine tw_iload_n 1 dX10_coins_42 rfl rfl ?_
          refine tw_iload_n 2 dX10_coins_43 rfl rfl ?_
          obtain ⟨l137, hl138, el139⟩ := tw_l400 q55a q55b
          subst el139
          obtain ⟨e140, f141, th_142, td_143, ds_144, fr_145, ca_146, us_147, wo_148, cm_149, lc_150, lh_151, ld_152, rfl, k153, k154, k155, k156, k157, k158, k159, k160, k161, k162, k163, k164, k165, k166⟩ := sp133.1 x 36 kx (by decide)
          refine tw_bi (tw_callV okX10_coinsNow dX10_coins_44 w_1497 rfl f141 [.int (nI j31), .int (nI l137)] [] rfl rfl ⟨by decide, by decide⟩ (Nat.le_of_ble_eq_true rfl) (c_X10_coinsNow d g τ h126 sp133.1 x kx j31 l137 (by omega) hl138) 0 0 (by have := tw_w5 hl138; omega) (by have := tw_w5 hl138; omega)) (fun r169 h168 q167 => ?_) (fun E h1 q => q.elim)
          have sp170 := sp133.tr q167
          exact tw_iret dX10_coins_47 rfl (Or.inl ⟨_, rfl, sp170⟩)

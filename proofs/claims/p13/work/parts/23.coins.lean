/-! the class's methods over the typed heap. Laid by wip/p5/mkclass.py. -/
set_option maxHeartbeats 4000000 in
set_option maxRecDepth 100000 in
theorem c_X10_coinsNow (d : tw_D) (g : tw_G) (τ : tw_K) (h : tw_H) (hw : tw_wt d g τ h) (x : Nat) (kx : τ x = 36) (a l : Nat) (ha : a < g.2 3) (hl : l ≤ 400) : tw_Ct d mX10_coinsNow (tw_wy 5 l) (5 * tw_wy 5 l) [.ref x, .int (nI a), .int (nI l)] h (tw_qi (fun r h1 => tw_sp d τ h g τ h1) tw_nx) := by
  refine tw_of (by decide +kernel) (Nat.le_of_ble_eq_true rfl) ?_
  show tw_W d mX10_coinsNow _ 0 [(0, .ref x), (1, .int (nI a)), (2, .int (nI l))] [] h (tw_wy 5 l) (5 * tw_wy 5 l)
  have sp0 := tw_sp.rf hw
  refine tw_aload_n 0 dX10_coinsNow_0 rfl rfl ?_
  obtain ⟨e1, f2, th_3, td_4, ds_5, fr_6, ca_7, us_8, wo_9, cm_10, lc_11, lh_12, ld_13, rfl, k14, k15, k16, k17, k18, k19, k20, k21, k22, k23, k24, k25, k26, k27⟩ := sp0.1 x 36 kx (by decide)
  refine tw_get (v := .ref lc_11) rfl in_14 9 dX10_coinsNow_1 w_1160 rfl (by decide) f2 rfl ?_
  refine tw_iload_n 1 dX10_coinsNow_4 rfl rfl ?_
  obtain ⟨e28, f29, ⟨el30, rfl, k31⟩, k32⟩ := sp0.1 lc_11 24 k20 (by decide)
  refine tw_br (tw_callV (M := mX10_coinsNow) (pc := 5) okJx4a65c_get_915e3 dX10_coinsNow_5 w_1296 rfl f29 [.int (nI a)] [] rfl rfl ⟨by decide, by decide⟩ (Nat.le_of_ble_eq_true rfl) (c24_get d g τ h sp0.1 lc_11 k20 a (by omega) (by omega)) (tw_wy 5 l) (5 * tw_wy 5 l) (by omega) (by omega)) (fun r35 h34 q33 => ?_) (fun E h1 q => q.elim)
  obtain ⟨q33e, q33k⟩ := q33
  rw [q33e]
  have el36 : tw_el h (g.2 12) a = r35 := by rw [← k32]; exact q33k.2.symm
  have kl37 : τ (g.2 12) = 24 := by rw [← k32]; exact k20
  obtain ⟨e38, f39, r_40, c_41, v_42, o_43, t_44, rfl, k45, k46, k47, k48, k49⟩ := sp0.1 r35 21 q33k.1 (by decide)
  refine tw_castS (ci := 11) rfl dX10_coinsNow_8 w_1212 f39 ?_
  refine tw_get (v := .ref t_44) rfl in_11 4 dX10_coinsNow_11 w_1225 rfl (by decide) f39 rfl ?_
  refine tw_iconst (v := 0) dX10_coinsNow_14 (by decide) ?_
  refine tw_iload_n 2 dX10_coinsNow_15 rfl rfl ?_
  obtain ⟨e50, f51, F52, rfl, k53⟩ := sp0.1 t_44 33 k47 (by decide)
  refine tw_bq (tw_callS (okX10_best 5) dX10_coinsNow_16 w_1484 [.ref t_44, .int 0, .int (nI l)] [] rfl rfl ⟨by decide, by decide⟩ (Nat.le_of_ble_eq_true rfl) (c_best d 5 5 (Nat.le_refl _) (Nat.le_refl _) h t_44 l F52 f51 k53 hl) ((tw_wy 5 l) - (tw_wy 5 l)) ((5 * tw_wy 5 l) - (5 * tw_wy 5 l)) (by have := hl; omega) (by have := hl; omega)) (fun r56 h55 q54 => ?_) (fun E h1 q => q.elim)
  obtain ⟨q54g, q54r⟩ := q54
  have sp57 := sp0.tr (q54g.sp sp0.1)
  have f58 := q54g _ _ f2
  have f59 := q54g _ _ f29
  have f60 := q54g _ _ f39
  have f61 := q54g _ _ f51
  have el62 := (tw_el_gw sp0.1 q54g kl37 (by omega)).trans el36
  cases r56 with
  | none =>
    refine tw_astore_nN [(3, .null), (0, .ref x), (1, .int (nI a)), (2, .int (nI l))] dX10_coinsNow_19 rfl (by decide) rfl ?_
    refine tw_aload_nN 0 dX10_coinsNow_20 rfl rfl ?_
    refine tw_ifnonnullN dX10_coinsNow_21 ?_
    refine tw_iconst (v := -1) dX10_coinsNow_24 (by decide) ?_
    exact tw_iret dX10_coinsNow_25 rfl (Or.inl ⟨_, rfl, sp57⟩)
  | some b63 =>
    obtain ⟨hq64, G65, hG66, hGb67⟩ := q54r b63 rfl
    have n68 := sp0.nn hq64
    have z69 := sp0.1.none hq64
    refine tw_astore_n [(3, .ref b63), (0, .ref x), (1, .int (nI a)), (2, .int (nI l))] dX10_coinsNow_19 rfl (by decide) rfl ?_
    refine tw_aload_n 0 dX10_coinsNow_20 rfl rfl ?_
    refine tw_ifnonnull 26 dX10_coinsNow_21 (by decide) ?_
    refine tw_iconst (v := 0) dX10_coinsNow_26 (by decide) ?_
    refine tw_istore [(4, .int 0), (3, .ref b63), (0, .ref x), (1, .int (nI a)), (2, .int (nI l))] dX10_coinsNow_27 (by decide) rfl ?_
    refine tw_aload_n 1 dX10_coinsNow_29 rfl rfl ?_
    refine tw_astore [(5, .ref b63), (4, .int 0), (3, .ref b63), (0, .ref x), (1, .int (nI a)), (2, .int (nI l))] dX10_coinsNow_30 (by decide) rfl ?_
    refine tw_aload 0 dX10_coinsNow_32 rfl ?_
    refine tw_alen (v := nI 5) 0 rfl dX10_coinsNow_34 hG66 rfl ?_
    refine tw_istore [(6, .int (nI 5)), (5, .ref b63), (4, .int 0), (3, .ref b63), (0, .ref x), (1, .int (nI a)), (2, .int (nI l))] dX10_coinsNow_35 (by decide) rfl ?_
    refine tw_iconst (v := 0) dX10_coinsNow_37 (by decide) ?_
    refine tw_istore [(7, .int 0), (6, .int (nI 5)), (5, .ref b63), (4, .int 0), (3, .ref b63), (0, .ref x), (1, .int (nI a)), (2, .int (nI l))] dX10_coinsNow_38 (by decide) rfl ?_
    have L74 : ∀ (r72 k71 : Nat) (x70 : Int32), 5 + 1 ≤ k71 + r72 → k71 ≤ 5 → tw_W d mX10_coinsNow (tw_qi (fun r h1 => tw_sp d τ h g τ h1) tw_nx) 40 [(0, .ref x), (1, .int (nI a)), (2, .int (nI l)), (3, .ref b63), (4, .int x70), (5, .ref b63), (6, .int (nI 5)), (7, .int (nI k71))] [] h55 ((tw_wy 5 l) - (tw_wy 5 l)) ((5 * tw_wy 5 l) - (5 * tw_wy 5 l)) := by
      intro r72
      induction r72 with
      | zero => intro k71 x70 hk78 hk79; exact absurd hk78 (by omega)
      | succ r72 ih73 =>
        intro k71 x70 hk78 hk79
        refine tw_iload 7 dX10_coinsNow_40 rfl ?_
        refine tw_iload 6 dX10_coinsNow_42 rfl ?_
        refine tw_icmp_ge 70 dX10_coinsNow_44 (by decide) (fun c80 => ?_) (fun c80 => ?_)
        · refine tw_iload 4 dX10_coinsNow_70 rfl ?_
          exact tw_iret dX10_coinsNow_72 rfl (Or.inl ⟨_, rfl, sp57⟩)
        · have kl81 := tw_klt (N := 5) c80 hk79 (by decide)
          refine tw_aload 5 dX10_coinsNow_47 rfl ?_
          refine tw_iload 7 dX10_coinsNow_49 rfl ?_
          obtain ⟨v82, ev82⟩ : ∃ y : Int32, G65 ((nI k71)).toNatClampNeg = y := ⟨_, rfl⟩
          refine tw_iald (v := v82) dX10_coinsNow_51 hG66 (vp_in_nI (by omega) (by decide)) ev82 ?_
          refine tw_istore [(8, .int v82), (0, .ref x), (1, .int (nI a)), (2, .int (nI l)), (3, .ref b63), (4, .int x70), (5, .ref b63), (6, .int (nI 5)), (7, .int (nI k71))] dX10_coinsNow_52 (by decide) rfl ?_
          refine tw_bipush (v := 10) dX10_coinsNow_54 (by decide) ?_
          refine tw_iload 5 dX10_coinsNow_56 rfl ?_
          refine tw_imul dX10_coinsNow_58 ?_
          refine tw_nmi (fun v83 ev83 => ?_)
          refine tw_iload 0 dX10_coinsNow_59 rfl ?_
          refine tw_iadd dX10_coinsNow_61 ?_
          refine tw_nmi (fun v84 ev84 => ?_)
          refine tw_istore [(4, .int v84), (8, .int v82), (0, .ref x), (1, .int (nI a)), (2, .int (nI l)), (3, .ref b63), (5, .ref b63), (6, .int (nI 5)), (7, .int (nI k71))] dX10_coinsNow_62 (by decide) rfl ?_
          obtain ⟨v85, ev85⟩ : ∃ y : Int32, y = (nI k71) + 1 := ⟨_, rfl⟩
          refine tw_iinc [(7, .int v85), (4, .int v84), (8, .int v82), (0, .ref x), (1, .int (nI a)), (2, .int (nI l)), (3, .ref b63), (5, .ref b63), (6, .int (nI 5))] 8 dX10_coinsNow_64 rfl (by rw [ev85]; rfl) (by decide) rfl ?_
          refine tw_goto 40 dX10_coinsNow_67 (by decide) ?_
          have qv85 := tw_nI3 ev85
          rw [qv85]
          refine tw_lv [3, 4, 5, 6, 1, 7, 8, 0] rfl ?_
          exact ih73 (k71 + 1) v84 (by omega) (by omega)
    refine tw_lv [5, 6, 7, 4, 3, 2, 1, 0] rfl ?_
    exact L74 (5 + 1) 0 0 (by omega) (by omega)

set_option maxHeartbeats 4000000 in
set_option maxRecDepth 100000 in
theorem c_X10_coins (d : tw_D) (g : tw_G) (τ : tw_K) (h : tw_H) (hw : tw_wt d g τ h) (x : Nat) (kx : τ x = 36) (n : Int32) (am : Int32) : tw_Ct d mX10_coins 500 2500 [.ref x, .int n, .int am] h (tw_qi (fun r h1 => tw_sp d τ h g τ h1) tw_nx) := by
  refine tw_of (by decide +kernel) (Nat.le_of_ble_eq_true rfl) ?_
  show tw_W d mX10_coins _ 0 [(0, .ref x), (1, .int n), (2, .int am)] [] h 500 2500
  have sp0 := tw_sp.rf hw
  refine tw_aload_n 0 dX10_coins_0 rfl rfl ?_
  refine tw_aload_n 0 dX10_coins_1 rfl rfl ?_
  refine tw_iload_n 1 dX10_coins_2 rfl rfl ?_
  obtain ⟨e1, f2, th_3, td_4, ds_5, fr_6, ca_7, us_8, wo_9, cm_10, lc_11, lh_12, ld_13, rfl, k14, k15, k16, k17, k18, k19, k20, k21, k22, k23, k24, k25, k26, k27⟩ := sp0.1 x 36 kx (by decide)
  refine tw_bi (tw_callV (M := mX10_coins) (pc := 3) okX10_isNoCountry dX10_coins_3 w_1292 rfl f2 [.int n] [.ref x] rfl rfl ⟨by decide, by decide⟩ (Nat.le_of_ble_eq_true rfl) (c_X10_isNoCountry d g τ h sp0.1 x kx n) 500 2500 (Nat.le_of_ble_eq_true rfl) (Nat.le_of_ble_eq_true rfl)) (fun r30 h29 q28 => ?_) (fun E h1 q => q.elim)
  obtain ⟨q28e, q28d⟩ := q28
  rw [q28e]
  rcases q28d with q28r | ⟨q28r, j31, q28j, q28k⟩
  · rw [q28r]
    refine tw_iconst (v := 1) dX10_coins_6 (by decide) ?_
    refine tw_bi (tw_callV (M := mX10_coins) (pc := 7) okX10_start dX10_coins_7 w_1200 rfl f2 [.int 1, .int 1] [] rfl rfl ⟨by decide, by decide⟩ (Nat.le_of_ble_eq_true rfl) (c_X10_start d g τ h sp0.1 x kx 1 1 (by decide)) 500 2500 (Nat.le_of_ble_eq_true rfl) (Nat.le_of_ble_eq_true rfl)) (fun r34 h33 q32 => ?_) (fun E h1 q => q.elim)
    obtain ⟨e35, he36, hs37, hr38, h339⟩ := q32
    have sp40 : tw_sp d τ h g τ h33 := by rw [he36]; exact sp0.set kx (by decide) hs37
    rcases hr38 with ei41 | ⟨ei41, ei41b⟩
    · rw [ei41]
      refine tw_if_ne 37 dX10_coins_10 (by decide) (fun _ => ?_) (fun c42 => absurd c42 (by decide))
      refine tw_iconst (v := 0) dX10_coins_37 (by decide) ?_
      refine tw_goto 47 dX10_coins_38 (by decide) ?_
      exact tw_iret dX10_coins_47 rfl (Or.inl ⟨_, rfl, sp40⟩)
    · exact absurd ei41b (by decide)
  · rw [q28r]
    subst q28k
    refine tw_iconst (v := 1) dX10_coins_6 (by decide) ?_
    refine tw_bi (tw_callV (M := mX10_coins) (pc := 7) okX10_start dX10_coins_7 w_1200 rfl f2 [.int 0, .int 1] [] rfl rfl ⟨by decide, by decide⟩ (Nat.le_of_ble_eq_true rfl) (c_X10_start d g τ h sp0.1 x kx 0 1 (by decide)) 500 2500 (Nat.le_of_ble_eq_true rfl) (Nat.le_of_ble_eq_true rfl)) (fun r45 h44 q43 => ?_) (fun E h1 q => q.elim)
    obtain ⟨e46, he47, hs48, hr49, h350⟩ := q43
    have sp51 : tw_sp d τ h g τ h44 := by rw [he47]; exact sp0.set kx (by decide) hs48
    rcases hr49 with ei52 | ⟨ei52, ei52b⟩
    · rw [ei52]
      refine tw_if_ne 37 dX10_coins_10 (by decide) (fun _ => ?_) (fun c53 => absurd c53 (by decide))
      refine tw_iconst (v := 0) dX10_coins_37 (by decide) ?_
      refine tw_goto 47 dX10_coins_38 (by decide) ?_
      exact tw_iret dX10_coins_47 rfl (Or.inl ⟨_, rfl, sp51⟩)
    · rw [ei52]
      refine tw_if_ne 37 dX10_coins_10 (by decide) (fun c54 => absurd (by decide) c54) (fun _ => ?_)
      refine tw_aload_n 0 dX10_coins_13 rfl rfl ?_
      refine tw_iload_n 2 dX10_coins_14 rfl rfl ?_
      refine tw_iconst (v := 1) dX10_coins_15 (by decide) ?_
      refine tw_sipush (v := 400) dX10_coins_16 (by decide) ?_
      refine tw_bi (tw_callS (M := mX10_coins) (pc := 19) okX10_isIn dX10_coins_19 w_1196 [.int am, .int 1, .int 400] [.ref x] rfl rfl ⟨by decide, by decide⟩ (Nat.le_of_ble_eq_true rfl) (c_X10_isIn d g τ h44 sp51.1 am 1 400) 500 2500 (Nat.le_of_ble_eq_true rfl) (Nat.le_of_ble_eq_true rfl)) (fun r57 h56 q55 => ?_) (fun E h1 q => q.elim)
      obtain ⟨q55e, q55d⟩ := q55
      rw [q55e]
      rcases q55d with ⟨q55r, q55n⟩ | ⟨q55r, q55a, q55b⟩
      · rw [q55r]
        refine tw_if_ne 29 dX10_coins_22 (by decide) (fun c58 => absurd (by decide) c58) (fun _ => ?_)
        refine tw_iconst (v := 1) dX10_coins_25 (by decide) ?_
        refine tw_goto 30 dX10_coins_26 (by decide) ?_
        refine tw_iconst (v := 2) dX10_coins_30 (by decide) ?_
        obtain ⟨e59, f60, th_61, td_62, ds_63, fr_64, ca_65, us_66, wo_67, cm_68, lc_69, lh_70, ld_71, rfl, k72, k73, k74, k75, k76, k77, k78, k79, k80, k81, k82, k83, k84, k85⟩ := sp51.1 x 36 kx (by decide)
        refine tw_bi (tw_callV (M := mX10_coins) (pc := 31) okX10_refuse dX10_coins_31 w_1204 rfl f60 [.int 1, .int 2] [] rfl rfl ⟨by decide, by decide⟩ (Nat.le_of_ble_eq_true rfl) (c_X10_refuse d g τ h44 sp51.1 x kx 1 2 (by decide)) 500 2500 (Nat.le_of_ble_eq_true rfl) (Nat.le_of_ble_eq_true rfl)) (fun r88 h87 q86 => ?_) (fun E h1 q => q.elim)
        obtain ⟨e89, he90, hs91, hr92, h393⟩ := q86
        have sp94 : tw_sp d τ h g τ h87 := by rw [he90]; exact sp51.set kx (by decide) hs91
        rcases hr92 with ei95 | ⟨ei95, ei95b⟩
        · rw [ei95]
          refine tw_if_eq 41 dX10_coins_34 (by decide) (fun c96 => absurd c96 (by decide)) (fun _ => ?_)
          refine tw_iconst (v := 0) dX10_coins_37 (by decide) ?_
          refine tw_goto 47 dX10_coins_38 (by decide) ?_
          exact tw_iret dX10_coins_47 rfl (Or.inl ⟨_, rfl, sp94⟩)
        · exact absurd ei95b (by decide)
      · rw [q55r]
        refine tw_if_ne 29 dX10_coins_22 (by decide) (fun _ => ?_) (fun c97 => absurd c97 (by decide))
        refine tw_iconst (v := 0) dX10_coins_29 (by decide) ?_
        refine tw_iconst (v := 2) dX10_coins_30 (by decide) ?_
        obtain ⟨e98, f99, th_100, td_101, ds_102, fr_103, ca_104, us_105, wo_106, cm_107, lc_108, lh_109, ld_110, rfl, k111, k112, k113, k114, k115, k116, k117, k118, k119, k120, k121, k122, k123, k124⟩ := sp51.1 x 36 kx (by decide)
        refine tw_bi (tw_callV (M := mX10_coins) (pc := 31) okX10_refuse dX10_coins_31 w_1204 rfl f99 [.int 0, .int 2] [] rfl rfl ⟨by decide, by decide⟩ (Nat.le_of_ble_eq_true rfl) (c_X10_refuse d g τ h44 sp51.1 x kx 0 2 (by decide)) 500 2500 (Nat.le_of_ble_eq_true rfl) (Nat.le_of_ble_eq_true rfl)) (fun r127 h126 q125 => ?_) (fun E h1 q => q.elim)
        obtain ⟨e128, he129, hs130, hr131, h3132⟩ := q125
        have sp133 : tw_sp d τ h g τ h126 := by rw [he129]; exact sp51.set kx (by decide) hs130
        rcases hr131 with ei134 | ⟨ei134, ei134b⟩
        · rw [ei134]
          refine tw_if_eq 41 dX10_coins_34 (by decide) (fun c135 => absurd c135 (by decide)) (fun _ => ?_)
          refine tw_iconst (v := 0) dX10_coins_37 (by decide) ?_
          refine tw_goto 47 dX10_coins_38 (by decide) ?_
          exact tw_iret dX10_coins_47 rfl (Or.inl ⟨_, rfl, sp133⟩)
        · rw [ei134]
          refine tw_if_eq 41 dX10_coins_34 (by decide) (fun _ => ?_) (fun c136 => absurd (by decide) c136)
          refine tw_aload_n 0 dX10_coins_41 rfl rfl ?_
          refine tw_iload_n 1 dX10_coins_42 rfl rfl ?_
          refine tw_iload_n 2 dX10_coins_43 rfl rfl ?_
          obtain ⟨l137, hl138, el139⟩ := tw_l400 q55a q55b
          subst el139
          obtain ⟨e140, f141, th_142, td_143, ds_144, fr_145, ca_146, us_147, wo_148, cm_149, lc_150, lh_151, ld_152, rfl, k153, k154, k155, k156, k157, k158, k159, k160, k161, k162, k163, k164, k165, k166⟩ := sp133.1 x 36 kx (by decide)
          refine tw_bi (tw_callV okX10_coinsNow dX10_coins_44 w_1497 rfl f141 [.int (nI j31), .int (nI l137)] [] rfl rfl ⟨by decide, by decide⟩ (Nat.le_of_ble_eq_true rfl) (c_X10_coinsNow d g τ h126 sp133.1 x kx j31 l137 (by omega) hl138) 0 0 (by have := tw_w5 hl138; omega) (by have := tw_w5 hl138; omega)) (fun r169 h168 q167 => ?_) (fun E h1 q => q.elim)
          have sp170 := sp133.tr q167
          exact tw_iret dX10_coins_47 rfl (Or.inl ⟨_, rfl, sp170⟩)

set_option maxHeartbeats 4000000 in
set_option maxRecDepth 100000 in
theorem c_X10_digest (d : tw_D) (g : tw_G) (τ : tw_K) (h : tw_H) (hw : tw_wt d g τ h) (x : Nat) (kx : τ x = 36) : tw_Ct d mX10_digest 866 4596 [.ref x] h (tw_ql (fun r h1 => tw_sp d τ h g τ h1) tw_nx) := by
  refine tw_of (by decide +kernel) (Nat.le_of_ble_eq_true rfl) ?_
  show tw_W d mX10_digest _ 0 [(0, .ref x)] [] h 866 4596
  have sp0 := tw_sp.rf hw
  refine tw_aload_n 0 dX10_digest_0 rfl rfl ?_
  refine tw_iconst (v := 0) dX10_digest_1 (by decide) ?_
  obtain ⟨e1, f2, th_3, td_4, ds_5, fr_6, ca_7, us_8, wo_9, cm_10, lc_11, lh_12, ld_13, rfl, k14, k15, k16, k17, k18, k19, k20, k21, k22, k23, k24, k25, k26, k27⟩ := sp0.1 x 36 kx (by decide)
  refine tw_put rfl in_14 tyX10 tyX10_ok nmX10 0 dX10_digest_2 w_1151 rfl (by decide) f2 rfl rfl rfl rfl (Nat.le_of_ble_eq_true rfl) [.int 0, .int td_4, .int (g.1 1), .ref ds_5, .ref fr_6, .ref ca_7, .ref us_8, .ref wo_9, .ref cm_10, .ref lc_11, .ref lh_12, .ref ld_13] rfl ?_
  obtain ⟨h28, eh28⟩ : ∃ z : tw_H, z = tw_up h x (.inr (14, [.int 0, .int td_4, .int (g.1 1), .ref ds_5, .ref fr_6, .ref ca_7, .ref us_8, .ref wo_9, .ref cm_10, .ref lc_11, .ref lh_12, .ref ld_13])) := ⟨_, rfl⟩
  rw [← eh28]
  have sp29 : tw_sp d τ h g τ h28 := by rw [eh28]; exact sp0.set kx (by decide) ⟨0, td_4, ds_5, fr_6, ca_7, us_8, wo_9, cm_10, lc_11, lh_12, ld_13, rfl, k14, k15, k16, k17, k18, k19, k20, k21, k22, k23, k24, k25, k26, (by decide)⟩
  have f30 : h28 x = some (.inr (14, [.int 0, .int td_4, .int (g.1 1), .ref ds_5, .ref fr_6, .ref ca_7, .ref us_8, .ref wo_9, .ref cm_10, .ref lc_11, .ref lh_12, .ref ld_13])) := by rw [eh28]; exact tw_up_s
  refine tw_ldc2 (v := 5573) dX10_digest_5 w_1597 ?_
  refine tw_lstore_n [(1, .long 5573), (0, .ref x)] dX10_digest_8 rfl (by decide) rfl ?_
  refine tw_lload_n 0 dX10_digest_9 rfl rfl ?_
  refine tw_ldc2 (v := 31) dX10_digest_10 w_1598 ?_
  refine tw_lmul dX10_digest_13 ?_
  refine tw_nml (fun v31 ev31 => ?_)
  refine tw_aload_n 1 dX10_digest_14 rfl rfl ?_
  refine tw_get (v := .int td_4) rfl in_14 1 dX10_digest_15 w_1152 rfl (by decide) f30 rfl ?_
  refine tw_i2l dX10_digest_18 ?_
  refine tw_nml (fun v32 ev32 => ?_)
  refine tw_ladd dX10_digest_19 ?_
  refine tw_nml (fun v33 ev33 => ?_)
  refine tw_lstore_n [(1, .long v33), (0, .ref x)] dX10_digest_20 rfl (by decide) rfl ?_
  refine tw_lload_n 0 dX10_digest_21 rfl rfl ?_
  refine tw_ldc2 (v := 31) dX10_digest_22 w_1598 ?_
  refine tw_lmul dX10_digest_25 ?_
  refine tw_nml (fun v34 ev34 => ?_)
  refine tw_aload_n 1 dX10_digest_26 rfl rfl ?_
  refine tw_get (v := .int (g.1 1)) rfl in_14 2 dX10_digest_27 w_1153 rfl (by decide) f30 rfl ?_
  refine tw_i2l dX10_digest_30 ?_
  refine tw_nml (fun v35 ev35 => ?_)
  refine tw_ladd dX10_digest_31 ?_
  refine tw_nml (fun v36 ev36 => ?_)
  refine tw_lstore_n [(1, .long v36), (0, .ref x)] dX10_digest_32 rfl (by decide) rfl ?_
  refine tw_iconst (v := 0) dX10_digest_33 (by decide) ?_
  refine tw_istore_n [(3, .int 0), (1, .long v36), (0, .ref x)] dX10_digest_34 rfl (by decide) rfl ?_
  have L41 : ∀ (r39 k38 : Nat) (x37 : Int64) (h42 : tw_H) (sp43 : tw_sp d τ h28 g τ h42), 2 + 1 ≤ k38 + r39 → k38 ≤ 2 → tw_W d mX10_digest (tw_ql (fun r h1 => tw_sp d τ h g τ h1) tw_nx) 35 [(0, .ref x), (1, .long x37), (3, .int (nI k38))] [] h42 (803 + 21 * r39) (4302 + 98 * r39) := by
    intro r39
    induction r39 with
    | zero => intro k38 x37 h42 sp43 hk45 hk46; exact absurd hk45 (by omega)
    | succ r39 ih40 =>
      intro k38 x37 h42 sp43 hk45 hk46
      refine tw_iload_n 2 dX10_digest_35 rfl rfl ?_
      refine tw_iconst (v := 2) dX10_digest_36 (by decide) ?_
      refine tw_icmp_ge 76 dX10_digest_37 (by decide) (fun c47 => ?_) (fun c47 => ?_)
      · refine tw_iconst (v := 0) dX10_digest_76 (by decide) ?_
        refine tw_istore_n [(3, .int 0), (0, .ref x), (1, .long x37)] dX10_digest_77 rfl (by decide) rfl ?_
        have L52 : ∀ (r50 k49 : Nat) (x48 : Int64) (h53 : tw_H) (sp54 : tw_sp d τ h42 g τ h53), (g.2 3) + 1 ≤ k49 + r50 → k49 ≤ (g.2 3) → tw_W d mX10_digest (tw_ql (fun r h1 => tw_sp d τ h g τ h1) tw_nx) 78 [(0, .ref x), (1, .long x48), (3, .int (nI k49))] [] h53 (((803 + 21 * (r39 + 1)) - 570) + 114 * r50) (((4302 + 98 * (r39 + 1)) - 2950) + 590 * r50) := by
          intro r50
          induction r50 with
          | zero => intro k49 x48 h53 sp54 hk56 hk57; exact absurd hk56 (by omega)
          | succ r50 ih51 =>
            intro k49 x48 h53 sp54 hk56 hk57
            refine tw_iload_n 2 dX10_digest_78 rfl rfl ?_
            refine tw_aload_n 0 dX10_digest_79 rfl rfl ?_
            obtain ⟨e58, f59, th_60, td_61, ds_62, fr_63, ca_64, us_65, wo_66, cm_67, lc_68, lh_69, ld_70, rfl, k71, k72, k73, k74, k75, k76, k77, k78, k79, k80, k81, k82, k83, k84⟩ := sp54.1 x 36 kx (by decide)
            refine tw_get (v := .ref lc_68) rfl in_14 9 dX10_digest_80 w_1160 rfl (by decide) f59 rfl ?_
            obtain ⟨e85, f86, ⟨el87, rfl, k88⟩, k89⟩ := sp54.1 lc_68 24 k77 (by decide)
            refine tw_bi (tw_callV (M := mX10_digest) (pc := 83) okJx4a65c_size_8abf5 dX10_digest_83 w_1208 rfl f86 [] [.int (nI k49)] rfl rfl ⟨by decide, by decide⟩ (Nat.le_of_ble_eq_true rfl) (c24_size d g τ h53 sp54.1 lc_68 k77) (((803 + 21 * (r39 + 1)) - 570) + 114 * (r50 + 1)) (((4302 + 98 * (r39 + 1)) - 2950) + 590 * (r50 + 1)) (by omega) (by omega)) (fun r92 h91 q90 => ?_) (fun E h1 q => q.elim)
            obtain ⟨q90e, q90r⟩ := q90
            rw [q90e, q90r]
            refine tw_icmp_ge 206 dX10_digest_86 (by decide) (fun c93 => ?_) (fun c93 => ?_)
            · refine tw_iconst (v := 0) dX10_digest_206 (by decide) ?_
              refine tw_istore_n [(3, .int 0), (0, .ref x), (1, .long x48)] dX10_digest_207 rfl (by decide) rfl ?_
              have L98 : ∀ (r96 k95 : Nat) (x94 : Int64) (h99 : tw_H) (sp100 : tw_sp d τ h53 g τ h99), (g.2 4) + 1 ≤ k95 + r96 → k95 ≤ (g.2 4) → tw_W d mX10_digest (tw_ql (fun r h1 => tw_sp d τ h g τ h1) tw_nx) 208 [(0, .ref x), (1, .long x94), (3, .int (nI k95))] [] h99 (((((803 + 21 * (r39 + 1)) - 570) + 114 * (r50 + 1)) - 126) + 18 * r96) (((((4302 + 98 * (r39 + 1)) - 2950) + 590 * (r50 + 1)) - 756) + 108 * r96) := by
                intro r96
                induction r96 with
                | zero => intro k95 x94 h99 sp100 hk102 hk103; exact absurd hk102 (by omega)
                | succ r96 ih97 =>
                  intro k95 x94 h99 sp100 hk102 hk103
                  refine tw_iload_n 2 dX10_digest_208 rfl rfl ?_
                  refine tw_aload_n 0 dX10_digest_209 rfl rfl ?_
                  obtain ⟨e104, f105, th_106, td_107, ds_108, fr_109, ca_110, us_111, wo_112, cm_113, lc_114, lh_115, ld_116, rfl, k117, k118, k119, k120, k121, k122, k123, k124, k125, k126, k127, k128, k129, k130⟩ := sp100.1 x 36 kx (by decide)
                  refine tw_get (v := .ref lh_115) rfl in_14 10 dX10_digest_210 w_1161 rfl (by decide) f105 rfl ?_
                  obtain ⟨e131, f132, ⟨el133, rfl, k134⟩, k135⟩ := sp100.1 lh_115 25 k124 (by decide)
                  refine tw_bi (tw_callV (M := mX10_digest) (pc := 213) okJx4a65c_size_8abf5 dX10_digest_213 w_1208 rfl f132 [] [.int (nI k95)] rfl rfl ⟨by decide, by decide⟩ (Nat.le_of_ble_eq_true rfl) (c25_size d g τ h99 sp100.1 lh_115 k124) (((((803 + 21 * (r39 + 1)) - 570) + 114 * (r50 + 1)) - 126) + 18 * (r96 + 1)) (((((4302 + 98 * (r39 + 1)) - 2950) + 590 * (r50 + 1)) - 756) + 108 * (r96 + 1)) (by omega) (by omega)) (fun r138 h137 q136 => ?_) (fun E h1 q => q.elim)
                  obtain ⟨q136e, q136r⟩ := q136
                  rw [q136e, q136r]
                  refine tw_icmp_ge 256 dX10_digest_216 (by decide) (fun c139 => ?_) (fun c139 => ?_)
                  · refine tw_aload_n 0 dX10_digest_256 rfl rfl ?_
                    refine tw_get (v := .ref ld_116) rfl in_14 11 dX10_digest_257 w_1162 rfl (by decide) f105 rfl ?_
                    obtain ⟨e140, f141, ⟨el142, rfl, k143⟩, k144⟩ := sp100.1 ld_116 26 k125 (by decide)
                    refine tw_br (tw_callV (M := mX10_digest) (pc := 260) okJx4a65c_iterator_32c93 dX10_digest_260 w_1386 rfl f141 [] [] rfl rfl ⟨by decide, by decide⟩ (Nat.le_of_ble_eq_true rfl) (c_iterator d h99 ld_116 el142 (g.1 5) (nI (g.2 5)) f141) ((((((803 + 21 * (r39 + 1)) - 570) + 114 * (r50 + 1)) - 126) + 18 * (r96 + 1)) - 1) ((((((4302 + 98 * (r39 + 1)) - 2950) + 590 * (r50 + 1)) - 756) + 108 * (r96 + 1)) - 4) (by omega) (by omega)) (fun it145 h146 q147 => ?_) (fun E h1 q => q.elim)
                    obtain ⟨q147n, q147e⟩ := q147
                    rw [q147e]
                    have n148 := sp100.nn q147n
                    have z149 := sp100.1.none q147n
                    obtain ⟨h150, eh150⟩ : ∃ z : tw_H, z = tw_up h99 it145 (.inr (2, [.int 0, .int (-1), .int (g.1 5), .ref ld_116])) := ⟨_, rfl⟩
                    rw [← eh150]
                    have sp151 : tw_sp d τ h53 g τ h150 := by rw [eh150]; exact sp100.mk q147n
                    have f152 : h150 it145 = some (.inr (2, [.int 0, .int (-1), .int (g.1 5), .ref ld_116])) := by rw [eh150]; exact tw_up_s
                    refine tw_astore_n [(3, .ref it145), (0, .ref x), (1, .long x94)] dX10_digest_263 rfl (by decide) rfl ?_
                    have L158 : ∀ (r154 j155 : Nat) (l156 : Int32) (x153 : Int64) (h159 : tw_H) (sp160 : tw_sp d τ (tw_rm h150 it145) g τ h159) (ft161 : h159 it145 = some (.inr (2, [.int (nI j155), .int l156, .int (g.1 5), .ref ld_116]))) (zt162 : τ it145 = 0), g.2 5 + 1 ≤ j155 + r154 → j155 ≤ g.2 5 → tw_W d mX10_digest (tw_ql (fun r h1 => tw_sp d τ h g τ h1) tw_nx) 264 [(0, .ref x), (1, .long x153), (3, .ref it145)] [] h159 ((((((((803 + 21 * (r39 + 1)) - 570) + 114 * (r50 + 1)) - 126) + 18 * (r96 + 1)) - 1) - 44) + 4 * r154) ((((((((4302 + 98 * (r39 + 1)) - 2950) + 590 * (r50 + 1)) - 756) + 108 * (r96 + 1)) - 4) - 308) + 28 * r154) := by
                      intro r154
                      induction r154 with
                      | zero => intro j155 l156 x153 h159 sp160 ft161 zt162 hk163 hk164; exact absurd hk163 (by omega)
                      | succ r154 ih157 =>
                        intro j155 l156 x153 h159 sp160 ft161 zt162 hk163 hk164
                        refine tw_aload_n 2 dX10_digest_264 rfl rfl ?_
                        obtain ⟨e165, f166, ⟨el167, rfl, k168⟩, k169⟩ := sp160.1 ld_116 26 k125 (by decide)
                        refine tw_bi (tw_callF (M := mX10_digest) (pc := 265) (n9 := 0) (ci := 2) tw_hasNext ok_itHas w_1416 w_1414 (fun s H z => z.2.2.2.2.2.2.2.2.1) (by decide +kernel) dX10_digest_265 w_1410 rfl ft161 [] [] rfl rfl ⟨by decide, by decide⟩ (Nat.le_of_ble_eq_true rfl) (c_hasNext d h159 it145 ld_116 el167 j155 (g.2 5) l156 (g.1 5) (g.1 5) ft161 f166 (by omega) (tw_lim26 sp160.1 k125)) ((((((((803 + 21 * (r39 + 1)) - 570) + 114 * (r50 + 1)) - 126) + 18 * (r96 + 1)) - 1) - 44) + 4 * (r154 + 1)) ((((((((4302 + 98 * (r39 + 1)) - 2950) + 590 * (r50 + 1)) - 756) + 108 * (r96 + 1)) - 4) - 308) + 28 * (r154 + 1)) (by omega) (by omega)) (fun r172 h171 q170 => ?_) (fun E h1 q => q.elim)
                        obtain ⟨q170e, q170q⟩ := q170
                        rw [q170e]
                        rcases q170q with ⟨q170r, q170j⟩ | ⟨q170r, q170j⟩
                        · rw [q170r]
                          refine tw_if_eq 319 dX10_digest_270 (by decide) (fun _ => ?_) (fun c173 => absurd (by decide) c173)
                          refine tw_lload_n 1 dX10_digest_319 rfl rfl ?_
                          refine tw_ldc2 (v := 31) dX10_digest_320 w_1598 ?_
                          refine tw_lmul dX10_digest_323 ?_
                          refine tw_nml (fun v174 ev174 => ?_)
                          refine tw_aload_n 0 dX10_digest_324 rfl rfl ?_
                          refine tw_sipush (v := 1000) dX10_digest_325 (by decide) ?_
                          obtain ⟨e175, f176, th_177, td_178, ds_179, fr_180, ca_181, us_182, wo_183, cm_184, lc_185, lh_186, ld_187, rfl, k188, k189, k190, k191, k192, k193, k194, k195, k196, k197, k198, k199, k200, k201⟩ := sp160.1 x 36 kx (by decide)
                          refine tw_bi (tw_callV (M := mX10_digest) (pc := 328) okX10_restNow dX10_digest_328 w_1573 rfl f176 [.int 1000] [.long v174] rfl rfl ⟨by decide, by decide⟩ (Nat.le_of_ble_eq_true rfl) (c_X10_restNow d g τ h159 sp160.1 x kx 1000) ((((((((803 + 21 * (r39 + 1)) - 570) + 114 * (r50 + 1)) - 126) + 18 * (r96 + 1)) - 1) - 44) + 4 * (r154 + 1)) ((((((((4302 + 98 * (r39 + 1)) - 2950) + 590 * (r50 + 1)) - 756) + 108 * (r96 + 1)) - 4) - 308) + 28 * (r154 + 1)) (by omega) (by omega)) (fun r204 h203 q202 => ?_) (fun E h1 q => q.elim)
                          obtain ⟨q202e, p205⟩ := q202
                          rw [q202e]
                          refine tw_if_eq 338 dX10_digest_331 (by decide) (fun c206 => ?_) (fun c206 => ?_)
                          · refine tw_iconst (v := 0) dX10_digest_338 (by decide) ?_
                            refine tw_i2l dX10_digest_339 ?_
                            refine tw_nml (fun v207 ev207 => ?_)
                            refine tw_ladd dX10_digest_340 ?_
                            refine tw_nml (fun v208 ev208 => ?_)
                            refine tw_lstore_n [(1, .long v208), (0, .ref x), (3, .ref it145)] dX10_digest_341 rfl (by decide) rfl ?_
                            refine tw_lload_n 0 dX10_digest_342 rfl rfl ?_
                            refine tw_ldc2 (v := 31) dX10_digest_343 w_1598 ?_
                            refine tw_lmul dX10_digest_346 ?_
                            refine tw_nml (fun v209 ev209 => ?_)
                            refine tw_aload_n 1 dX10_digest_347 rfl rfl ?_
                            refine tw_bi (tw_callV (M := mX10_digest) (pc := 348) okX10_isSoundNow dX10_digest_348 w_1589 rfl f176 [] [.long v209] rfl rfl ⟨by decide, by decide⟩ (Nat.le_of_ble_eq_true rfl) (c_X10_isSoundNow d g τ h159 sp160.1 x kx) (((((((((803 + 21 * (r39 + 1)) - 570) + 114 * (r50 + 1)) - 126) + 18 * (r96 + 1)) - 1) - 44) + 4 * (r154 + 1)) - 62) (((((((((4302 + 98 * (r39 + 1)) - 2950) + 590 * (r50 + 1)) - 756) + 108 * (r96 + 1)) - 4) - 308) + 28 * (r154 + 1)) - 284) (by omega) (by omega)) (fun r212 h211 q210 => ?_) (fun E h1 q => q.elim)
                            obtain ⟨q210s, p214⟩ := q210
                            have sp213 := sp160.tr q210s
                            have f215 := (q210s.2.2 _ _ ft161 zt162).1
                            refine tw_if_eq 358 dX10_digest_351 (by decide) (fun c216 => ?_) (fun c216 => ?_)
                            · refine tw_iconst (v := 0) dX10_digest_358 (by decide) ?_
                              refine tw_i2l dX10_digest_359 ?_
                              refine tw_nml (fun v217 ev217 => ?_)
                              refine tw_ladd dX10_digest_360 ?_
                              refine tw_nml (fun v218 ev218 => ?_)
                              exact tw_lret dX10_digest_361 rfl (Or.inl ⟨_, rfl, (sp29.tr (sp43.tr (sp54.tr (sp151.trm n148 sp213))))⟩)
                            · refine tw_iconst (v := 1) dX10_digest_354 (by decide) ?_
                              refine tw_goto 359 dX10_digest_355 (by decide) ?_
                              refine tw_i2l dX10_digest_359 ?_
                              refine tw_nml (fun v219 ev219 => ?_)
                              refine tw_ladd dX10_digest_360 ?_
                              refine tw_nml (fun v220 ev220 => ?_)
                              exact tw_lret dX10_digest_361 rfl (Or.inl ⟨_, rfl, (sp29.tr (sp43.tr (sp54.tr (sp151.trm n148 sp213))))⟩)
                          · refine tw_iconst (v := 1) dX10_digest_334 (by decide) ?_
                            refine tw_goto 339 dX10_digest_335 (by decide) ?_
                            refine tw_i2l dX10_digest_339 ?_
                            refine tw_nml (fun v221 ev221 => ?_)
                            refine tw_ladd dX10_digest_340 ?_
                            refine tw_nml (fun v222 ev222 => ?_)
                            refine tw_lstore_n [(1, .long v222), (0, .ref x), (3, .ref it145)] dX10_digest_341 rfl (by decide) rfl ?_
                            refine tw_lload_n 0 dX10_digest_342 rfl rfl ?_
                            refine tw_ldc2 (v := 31) dX10_digest_343 w_1598 ?_
                            refine tw_lmul dX10_digest_346 ?_
                            refine tw_nml (fun v223 ev223 => ?_)
                            refine tw_aload_n 1 dX10_digest_347 rfl rfl ?_
                            refine tw_bi (tw_callV (M := mX10_digest) (pc := 348) okX10_isSoundNow dX10_digest_348 w_1589 rfl f176 [] [.long v223] rfl rfl ⟨by decide, by decide⟩ (Nat.le_of_ble_eq_true rfl) (c_X10_isSoundNow d g τ h159 sp160.1 x kx) (((((((((803 + 21 * (r39 + 1)) - 570) + 114 * (r50 + 1)) - 126) + 18 * (r96 + 1)) - 1) - 44) + 4 * (r154 + 1)) - 62) (((((((((4302 + 98 * (r39 + 1)) - 2950) + 590 * (r50 + 1)) - 756) + 108 * (r96 + 1)) - 4) - 308) + 28 * (r154 + 1)) - 284) (by omega) (by omega)) (fun r226 h225 q224 => ?_) (fun E h1 q => q.elim)
                            obtain ⟨q224s, p228⟩ := q224
                            have sp227 := sp160.tr q224s
                            have f229 := (q224s.2.2 _ _ ft161 zt162).1
                            refine tw_if_eq 358 dX10_digest_351 (by decide) (fun c230 => ?_) (fun c230 => ?_)
                            · refine tw_iconst (v := 0) dX10_digest_358 (by decide) ?_
                              refine tw_i2l dX10_digest_359 ?_
                              refine tw_nml (fun v231 ev231 => ?_)
                              refine tw_ladd dX10_digest_360 ?_
                              refine tw_nml (fun v232 ev232 => ?_)
                              exact tw_lret dX10_digest_361 rfl (Or.inl ⟨_, rfl, (sp29.tr (sp43.tr (sp54.tr (sp151.trm n148 sp227))))⟩)
                            · refine tw_iconst (v := 1) dX10_digest_354 (by decide) ?_
                              refine tw_goto 359 dX10_digest_355 (by decide) ?_
                              refine tw_i2l dX10_digest_359 ?_
                              refine tw_nml (fun v233 ev233 => ?_)
                              refine tw_ladd dX10_digest_360 ?_
                              refine tw_nml (fun v234 ev234 => ?_)
                              exact tw_lret dX10_digest_361 rfl (Or.inl ⟨_, rfl, (sp29.tr (sp43.tr (sp54.tr (sp151.trm n148 sp227))))⟩)
                        · rw [q170r]
                          refine tw_if_eq 319 dX10_digest_270 (by decide) (fun c235 => absurd c235 (by decide)) (fun _ => ?_)
                          refine tw_aload_n 2 dX10_digest_273 rfl rfl ?_
                          have k236 : τ el167 = 29 := k168.resolve_left (fun q => absurd q170j (by rw [q.2.1]; exact Nat.not_lt_zero _))
                          obtain ⟨e237, f238, ⟨F239, rfl, hc240, hc241⟩, un242⟩ := sp160.1 el167 29 k236 (by decide)
                          obtain ⟨y243, hy244, ky245⟩ := hc241 j155 q170j
                          refine tw_br (tw_callF (M := mX10_digest) (pc := 274) (n9 := 0) (ci := 2) tw_next ok_itNext w_1425 w_1423 (fun s H z => z.2.2.2.2.2.2.2.2.2) (by decide +kernel) dX10_digest_274 w_1420 rfl ft161 [] [] rfl rfl ⟨by decide, by decide⟩ (Nat.le_of_ble_eq_true rfl) (c_next d h159 it145 ld_116 el167 j155 (g.2 5) y243 l156 (g.1 5) F239 ft161 f166 f238 q170j hc240 hy244) ((((((((803 + 21 * (r39 + 1)) - 570) + 114 * (r50 + 1)) - 126) + 18 * (r96 + 1)) - 1) - 44) + 4 * (r154 + 1)) ((((((((4302 + 98 * (r39 + 1)) - 2950) + 590 * (r50 + 1)) - 756) + 108 * (r96 + 1)) - 4) - 308) + 28 * (r154 + 1)) (by omega) (by omega)) (fun r248 h247 q246 => ?_) (fun E h1 q => q.elim)
                          obtain ⟨q246r, q246e⟩ := q246
                          rw [q246r]
                          have sp249 : tw_sp d τ (tw_rm h150 it145) g τ h247 := by rw [q246e]; exact sp160.wl tw_rm_s zt162
                          have f250 : h247 it145 = some (.inr (2, [.int (nI (j155 + 1)), .int (nI j155), .int (g.1 5), .ref ld_116])) := by rw [q246e]; exact tw_up_s
                          obtain ⟨e251, f252, v_253, dy_254, pd_255, i_256, j_257, rfl, k258, k259, k260⟩ := sp249.1 y243 22 ky245 (by decide)
                          refine tw_castS (ci := 12) rfl dX10_digest_279 w_1437 f252 ?_
                          refine tw_astore [(4, .ref y243), (0, .ref x), (1, .long x153), (3, .ref it145)] dX10_digest_282 (by decide) rfl ?_
                          refine tw_iconst (v := 4) dX10_digest_284 (by decide) ?_
                          refine tw_istore [(5, .int 4), (4, .ref y243), (0, .ref x), (1, .long x153), (3, .ref it145)] dX10_digest_285 (by decide) rfl ?_
                          have L265 : ∀ (r263 k262 : Nat) (x261 : Int64) (h266 : tw_H) (sp267 : tw_sp d τ h247 g τ h266), 7 + 1 ≤ k262 + r263 → k262 ≤ 7 → tw_W d mX10_digest (tw_ql (fun r h1 => tw_sp d τ h g τ h1) tw_nx) 287 [(0, .ref x), (1, .long x261), (3, .ref it145), (4, .ref y243), (5, .int (nI k262))] [] h266 ((((((((((803 + 21 * (r39 + 1)) - 570) + 114 * (r50 + 1)) - 126) + 18 * (r96 + 1)) - 1) - 44) + 4 * (r154 + 1)) - 4) + 1 * r263) ((((((((((4302 + 98 * (r39 + 1)) - 2950) + 590 * (r50 + 1)) - 756) + 108 * (r96 + 1)) - 4) - 308) + 28 * (r154 + 1)) - 28) + 7 * r263) := by
                            intro r263
                            induction r263 with
                            | zero => intro k262 x261 h266 sp267 hk269 hk270; exact absurd hk269 (by omega)
                            | succ r263 ih264 =>
                              intro k262 x261 h266 sp267 hk269 hk270
                              have f271 := (sp267.2.2 _ _ f250 zt162).1
                              have z272 := (sp267.2.2 _ _ f250 zt162).2
                              refine tw_iload 4 dX10_digest_287 rfl ?_
                              refine tw_bipush (v := 6) dX10_digest_289 (by decide) ?_
                              refine tw_icmp_gt 316 dX10_digest_291 (by decide) (fun c273 => ?_) (fun c273 => ?_)
                              · refine tw_goto 264 dX10_digest_316 (by decide) ?_
                                refine tw_lv [0, 1, 2] rfl ?_
                                refine tw_less (c2 := (((((((803 + 21 * (r39 + 1)) - 570) + 114 * (r50 + 1)) - 126) + 18 * (r96 + 1)) - 1) - 44) + 4 * r154) (n2 := (((((((4302 + 98 * (r39 + 1)) - 2950) + 590 * (r50 + 1)) - 756) + 108 * (r96 + 1)) - 4) - 308) + 28 * r154) (by omega) (by omega) ?_
                                exact ih157 ((j155 + 1)) (nI j155) x261 _ (sp249.tr sp267) f271 z272  (by omega) (by omega)
                              · have kl274 : k262 < 7 := tw_kle (N := 7) c273 hk270 (by decide)
                                refine tw_lload_n 1 dX10_digest_294 rfl rfl ?_
                                refine tw_ldc2 (v := 31) dX10_digest_295 w_1598 ?_
                                refine tw_lmul dX10_digest_298 ?_
                                refine tw_nml (fun v275 ev275 => ?_)
                                refine tw_aload_n 0 dX10_digest_299 rfl rfl ?_
                                refine tw_aload 3 dX10_digest_300 rfl ?_
                                refine tw_iload 4 dX10_digest_302 rfl ?_
                                obtain ⟨e276, f277, th_278, td_279, ds_280, fr_281, ca_282, us_283, wo_284, cm_285, lc_286, lh_287, ld_288, rfl, k289, k290, k291, k292, k293, k294, k295, k296, k297, k298, k299, k300, k301, k302⟩ := sp267.1 x 36 kx (by decide)
                                refine tw_bi (tw_callV (M := mX10_digest) (pc := 304) okX10_ofDebtNow dX10_digest_304 w_1525 rfl f277 [.ref y243, .int (nI k262)] [.long v275] rfl rfl ⟨by decide, by decide⟩ (Nat.le_of_ble_eq_true rfl) (c_X10_ofDebtNow d g τ h266 sp267.1 x kx y243 ky245 (nI k262) (vp_in_nI (by omega) (by decide))) (((((((((((803 + 21 * (r39 + 1)) - 570) + 114 * (r50 + 1)) - 126) + 18 * (r96 + 1)) - 1) - 44) + 4 * (r154 + 1)) - 4) + 1 * (r263 + 1)) - 1) (((((((((((4302 + 98 * (r39 + 1)) - 2950) + 590 * (r50 + 1)) - 756) + 108 * (r96 + 1)) - 4) - 308) + 28 * (r154 + 1)) - 28) + 7 * (r263 + 1)) - 7) (by omega) (by omega)) (fun r305 h304 q303 => ?_) (fun E h1 q => q.elim)
                                have sp306 := sp267.tr q303
                                have f307 := (q303.2.2 _ _ f271 z272).1
                                refine tw_i2l dX10_digest_307 ?_
                                refine tw_nml (fun v309 ev309 => ?_)
                                refine tw_ladd dX10_digest_308 ?_
                                refine tw_nml (fun v310 ev310 => ?_)
                                refine tw_lstore_n [(1, .long v310), (0, .ref x), (3, .ref it145), (4, .ref y243), (5, .int (nI k262))] dX10_digest_309 rfl (by decide) rfl ?_
                                obtain ⟨v311, ev311⟩ : ∃ y : Int32, y = (nI k262) + 1 := ⟨_, rfl⟩
                                refine tw_iinc [(5, .int v311), (1, .long v310), (0, .ref x), (3, .ref it145), (4, .ref y243)] 4 dX10_digest_310 rfl (by rw [ev311]; rfl) (by decide) rfl ?_
                                refine tw_goto 287 dX10_digest_313 (by decide) ?_
                                have qv311 := tw_nI3 ev311
                                rw [qv311]
                                refine tw_lv [2, 1, 3, 4, 0] rfl ?_
                                refine tw_less (c2 := (((((((((803 + 21 * (r39 + 1)) - 570) + 114 * (r50 + 1)) - 126) + 18 * (r96 + 1)) - 1) - 44) + 4 * (r154 + 1)) - 4) + 1 * r263) (n2 := (((((((((4302 + 98 * (r39 + 1)) - 2950) + 590 * (r50 + 1)) - 756) + 108 * (r96 + 1)) - 4) - 308) + 28 * (r154 + 1)) - 28) + 7 * r263) (by omega) (by omega) ?_
                                exact ih264 (k262 + 1) v310 _ sp306 (by omega) (by omega)
                          refine tw_lv [2, 3, 4, 1, 0] rfl ?_
                          refine tw_less (c2 := (((((((((803 + 21 * (r39 + 1)) - 570) + 114 * (r50 + 1)) - 126) + 18 * (r96 + 1)) - 1) - 44) + 4 * (r154 + 1)) - 4) + 1 * 4) (n2 := (((((((((4302 + 98 * (r39 + 1)) - 2950) + 590 * (r50 + 1)) - 756) + 108 * (r96 + 1)) - 4) - 308) + 28 * (r154 + 1)) - 28) + 7 * 4) (by omega) (by omega) ?_
                          exact L265 4 4 x153 _ (tw_sp.rf sp249.1) (by omega) (by omega)
                    refine tw_lv [1, 2, 0] rfl ?_
                    refine tw_less (c2 := (((((((803 + 21 * (r39 + 1)) - 570) + 114 * (r50 + 1)) - 126) + 18 * (r96 + 1)) - 1) - 44) + 4 * 11) (n2 := (((((((4302 + 98 * (r39 + 1)) - 2950) + 590 * (r50 + 1)) - 756) + 108 * (r96 + 1)) - 4) - 308) + 28 * 11) (by omega) (by omega) ?_
                    exact L158 11 0 (-1) x94 _ (tw_sp.rm sp151.1 it145) f152 z149 (by omega) (Nat.zero_le _)
                  · have kl312 : k95 < (g.2 4) := tw_klt (N := (g.2 4)) c139 hk103 (by omega)
                    refine tw_iconst (v := 0) dX10_digest_219 (by decide) ?_
                    refine tw_istore [(4, .int 0), (0, .ref x), (1, .long x94), (3, .int (nI k95))] dX10_digest_220 (by decide) rfl ?_
                    have L317 : ∀ (r315 k314 : Nat) (x313 : Int64) (h318 : tw_H) (sp319 : tw_sp d τ h99 g τ h318), 8 + 1 ≤ k314 + r315 → k314 ≤ 8 → tw_W d mX10_digest (tw_ql (fun r h1 => tw_sp d τ h g τ h1) tw_nx) 222 [(0, .ref x), (1, .long x313), (3, .int (nI k95)), (4, .int (nI k314))] [] h318 (((((((803 + 21 * (r39 + 1)) - 570) + 114 * (r50 + 1)) - 126) + 18 * (r96 + 1)) - 18) + 2 * r315) (((((((4302 + 98 * (r39 + 1)) - 2950) + 590 * (r50 + 1)) - 756) + 108 * (r96 + 1)) - 108) + 12 * r315) := by
                      intro r315
                      induction r315 with
                      | zero => intro k314 x313 h318 sp319 hk321 hk322; exact absurd hk321 (by omega)
                      | succ r315 ih316 =>
                        intro k314 x313 h318 sp319 hk321 hk322
                        refine tw_iload 3 dX10_digest_222 rfl ?_
                        refine tw_bipush (v := 7) dX10_digest_224 (by decide) ?_
                        refine tw_icmp_gt 250 dX10_digest_226 (by decide) (fun c323 => ?_) (fun c323 => ?_)
                        · obtain ⟨v324, ev324⟩ : ∃ y : Int32, y = (nI k95) + 1 := ⟨_, rfl⟩
                          refine tw_iinc [(3, .int v324), (0, .ref x), (1, .long x313), (4, .int (nI k314))] 2 dX10_digest_250 rfl (by rw [ev324]; rfl) (by decide) rfl ?_
                          refine tw_goto 208 dX10_digest_253 (by decide) ?_
                          have qv324 := tw_nI3 ev324
                          rw [qv324]
                          refine tw_lv [1, 2, 0] rfl ?_
                          refine tw_less (c2 := ((((803 + 21 * (r39 + 1)) - 570) + 114 * (r50 + 1)) - 126) + 18 * r96) (n2 := ((((4302 + 98 * (r39 + 1)) - 2950) + 590 * (r50 + 1)) - 756) + 108 * r96) (by omega) (by omega) ?_
                          exact ih97 (k95 + 1) x313 _ (sp100.tr sp319) (by omega) (by omega)
                        · have kl325 : k314 < 8 := tw_kle (N := 8) c323 hk322 (by decide)
                          refine tw_lload_n 1 dX10_digest_229 rfl rfl ?_
                          refine tw_ldc2 (v := 31) dX10_digest_230 w_1598 ?_
                          refine tw_lmul dX10_digest_233 ?_
                          refine tw_nml (fun v326 ev326 => ?_)
                          refine tw_aload_n 0 dX10_digest_234 rfl rfl ?_
                          refine tw_iload_n 2 dX10_digest_235 rfl rfl ?_
                          refine tw_iload 3 dX10_digest_236 rfl ?_
                          obtain ⟨e327, f328, th_329, td_330, ds_331, fr_332, ca_333, us_334, wo_335, cm_336, lc_337, lh_338, ld_339, rfl, k340, k341, k342, k343, k344, k345, k346, k347, k348, k349, k350, k351, k352, k353⟩ := sp319.1 x 36 kx (by decide)
                          refine tw_bi (tw_callV (M := mX10_digest) (pc := 238) okX10_ofHouseNow dX10_digest_238 w_1517 rfl f328 [.int (nI k95), .int (nI k314)] [.long v326] rfl rfl ⟨by decide, by decide⟩ (Nat.le_of_ble_eq_true rfl) (c_X10_ofHouseNow d g τ h318 sp319.1 x kx (nI k314) k95 (by omega) (vp_in_nI (by omega) (by decide))) ((((((((803 + 21 * (r39 + 1)) - 570) + 114 * (r50 + 1)) - 126) + 18 * (r96 + 1)) - 18) + 2 * (r315 + 1)) - 2) ((((((((4302 + 98 * (r39 + 1)) - 2950) + 590 * (r50 + 1)) - 756) + 108 * (r96 + 1)) - 108) + 12 * (r315 + 1)) - 12) (by omega) (by omega)) (fun r356 h355 q354 => ?_) (fun E h1 q => q.elim)
                          have sp357 := sp319.tr q354
                          refine tw_i2l dX10_digest_241 ?_
                          refine tw_nml (fun v358 ev358 => ?_)
                          refine tw_ladd dX10_digest_242 ?_
                          refine tw_nml (fun v359 ev359 => ?_)
                          refine tw_lstore_n [(1, .long v359), (0, .ref x), (3, .int (nI k95)), (4, .int (nI k314))] dX10_digest_243 rfl (by decide) rfl ?_
                          obtain ⟨v360, ev360⟩ : ∃ y : Int32, y = (nI k314) + 1 := ⟨_, rfl⟩
                          refine tw_iinc [(4, .int v360), (1, .long v359), (0, .ref x), (3, .int (nI k95))] 3 dX10_digest_244 rfl (by rw [ev360]; rfl) (by decide) rfl ?_
                          refine tw_goto 222 dX10_digest_247 (by decide) ?_
                          have qv360 := tw_nI3 ev360
                          rw [qv360]
                          refine tw_lv [2, 1, 3, 0] rfl ?_
                          refine tw_less (c2 := ((((((803 + 21 * (r39 + 1)) - 570) + 114 * (r50 + 1)) - 126) + 18 * (r96 + 1)) - 18) + 2 * r315) (n2 := ((((((4302 + 98 * (r39 + 1)) - 2950) + 590 * (r50 + 1)) - 756) + 108 * (r96 + 1)) - 108) + 12 * r315) (by omega) (by omega) ?_
                          exact ih316 (k314 + 1) v359 _ sp357 (by omega) (by omega)
                    refine tw_lv [1, 2, 3, 0] rfl ?_
                    refine tw_less (c2 := ((((((803 + 21 * (r39 + 1)) - 570) + 114 * (r50 + 1)) - 126) + 18 * (r96 + 1)) - 18) + 2 * 9) (n2 := ((((((4302 + 98 * (r39 + 1)) - 2950) + 590 * (r50 + 1)) - 756) + 108 * (r96 + 1)) - 108) + 12 * 9) (by omega) (by omega) ?_
                    exact L317 9 0 x94 _ (tw_sp.rf sp100.1) (by omega) (by omega)
              refine tw_lv [1, 2, 0] rfl ?_
              refine tw_less (c2 := ((((803 + 21 * (r39 + 1)) - 570) + 114 * (r50 + 1)) - 126) + 18 * 7) (n2 := ((((4302 + 98 * (r39 + 1)) - 2950) + 590 * (r50 + 1)) - 756) + 108 * 7) (by omega) (by omega) ?_
              exact L98 7 0 x48 _ (tw_sp.rf sp54.1) (by omega) (by omega)
            · have kl361 : k49 < (g.2 3) := tw_klt (N := (g.2 3)) c93 hk57 (by omega)
              refine tw_iconst (v := 0) dX10_digest_89 (by decide) ?_
              refine tw_istore [(4, .int 0), (0, .ref x), (1, .long x48), (3, .int (nI k49))] dX10_digest_90 (by decide) rfl ?_
              have L366 : ∀ (r364 k363 : Nat) (x362 : Int64) (h367 : tw_H) (sp368 : tw_sp d τ h53 g τ h367), 9 + 1 ≤ k363 + r364 → k363 ≤ 9 → tw_W d mX10_digest (tw_ql (fun r h1 => tw_sp d τ h g τ h1) tw_nx) 92 [(0, .ref x), (1, .long x362), (3, .int (nI k49)), (4, .int (nI k363))] [] h367 (((((803 + 21 * (r39 + 1)) - 570) + 114 * (r50 + 1)) - 30) + 3 * r364) (((((4302 + 98 * (r39 + 1)) - 2950) + 590 * (r50 + 1)) - 170) + 17 * r364) := by
                intro r364
                induction r364 with
                | zero => intro k363 x362 h367 sp368 hk370 hk371; exact absurd hk370 (by omega)
                | succ r364 ih365 =>
                  intro k363 x362 h367 sp368 hk370 hk371
                  refine tw_iload 3 dX10_digest_92 rfl ?_
                  refine tw_bipush (v := 8) dX10_digest_94 (by decide) ?_
                  refine tw_icmp_gt 120 dX10_digest_96 (by decide) (fun c372 => ?_) (fun c372 => ?_)
                  · refine tw_lload_n 1 dX10_digest_120 rfl rfl ?_
                    refine tw_ldc2 (v := 31) dX10_digest_121 w_1598 ?_
                    refine tw_lmul dX10_digest_124 ?_
                    refine tw_nml (fun v373 ev373 => ?_)
                    refine tw_aload_n 0 dX10_digest_125 rfl rfl ?_
                    refine tw_iload_n 2 dX10_digest_126 rfl rfl ?_
                    refine tw_bipush (v := 37) dX10_digest_127 (by decide) ?_
                    obtain ⟨e374, f375, th_376, td_377, ds_378, fr_379, ca_380, us_381, wo_382, cm_383, lc_384, lh_385, ld_386, rfl, k387, k388, k389, k390, k391, k392, k393, k394, k395, k396, k397, k398, k399, k400⟩ := sp368.1 x 36 kx (by decide)
                    refine tw_bi (tw_callV okX10_coinsNow dX10_digest_129 w_1497 rfl f375 [.int (nI k49), .int (nI 37)] [.long v373] rfl rfl ⟨by decide, by decide⟩ (Nat.le_of_ble_eq_true rfl) (c_X10_coinsNow d g τ h367 sp368.1 x kx k49 37 (by omega) (by decide)) ((((((803 + 21 * (r39 + 1)) - 570) + 114 * (r50 + 1)) - 30) + 3 * (r364 + 1)) - 84) ((((((4302 + 98 * (r39 + 1)) - 2950) + 590 * (r50 + 1)) - 170) + 17 * (r364 + 1)) - 420) (by have := tw_w37; omega) (by have := tw_w37; omega)) (fun r403 h402 q401 => ?_) (fun E h1 q => q.elim)
                    have sp404 := sp368.tr q401
                    refine tw_i2l dX10_digest_132 ?_
                    refine tw_nml (fun v405 ev405 => ?_)
                    refine tw_ladd dX10_digest_133 ?_
                    refine tw_nml (fun v406 ev406 => ?_)
                    refine tw_lstore_n [(1, .long v406), (0, .ref x), (3, .int (nI k49)), (4, .int (nI k363))] dX10_digest_134 rfl (by decide) rfl ?_
                    refine tw_iconst (v := 0) dX10_digest_135 (by decide) ?_
                    refine tw_istore [(4, .int 0), (1, .long v406), (0, .ref x), (3, .int (nI k49))] dX10_digest_136 (by decide) rfl ?_
                    have L411 : ∀ (r409 k408 : Nat) (x407 : Int64), 2 + 1 ≤ k408 + r409 → k408 ≤ 2 → tw_W d mX10_digest (tw_ql (fun r h1 => tw_sp d τ h g τ h1) tw_nx) 138 [(0, .ref x), (1, .long x407), (3, .int (nI k49)), (4, .int (nI k408))] [] h402 ((((((803 + 21 * (r39 + 1)) - 570) + 114 * (r50 + 1)) - 30) + 3 * (r364 + 1)) - 84) ((((((4302 + 98 * (r39 + 1)) - 2950) + 590 * (r50 + 1)) - 170) + 17 * (r364 + 1)) - 420) := by
                      intro r409
                      induction r409 with
                      | zero => intro k408 x407 hk415 hk416; exact absurd hk415 (by omega)
                      | succ r409 ih410 =>
                        intro k408 x407 hk415 hk416
                        refine tw_iload 3 dX10_digest_138 rfl ?_
                        refine tw_iconst (v := 2) dX10_digest_140 (by decide) ?_
                        refine tw_icmp_ge 168 dX10_digest_141 (by decide) (fun c417 => ?_) (fun c417 => ?_)
                        · refine tw_iconst (v := 0) dX10_digest_168 (by decide) ?_
                          refine tw_istore [(4, .int 0), (0, .ref x), (1, .long x407), (3, .int (nI k49))] dX10_digest_169 (by decide) rfl ?_
                          have L422 : ∀ (r420 k419 : Nat) (x418 : Int64), 2 + 1 ≤ k419 + r420 → k419 ≤ 2 → tw_W d mX10_digest (tw_ql (fun r h1 => tw_sp d τ h g τ h1) tw_nx) 171 [(0, .ref x), (1, .long x418), (3, .int (nI k49)), (4, .int (nI k419))] [] h402 ((((((803 + 21 * (r39 + 1)) - 570) + 114 * (r50 + 1)) - 30) + 3 * (r364 + 1)) - 84) ((((((4302 + 98 * (r39 + 1)) - 2950) + 590 * (r50 + 1)) - 170) + 17 * (r364 + 1)) - 420) := by
                            intro r420
                            induction r420 with
                            | zero => intro k419 x418 hk426 hk427; exact absurd hk426 (by omega)
                            | succ r420 ih421 =>
                              intro k419 x418 hk426 hk427
                              refine tw_iload 3 dX10_digest_171 rfl ?_
                              refine tw_iconst (v := 2) dX10_digest_173 (by decide) ?_
                              refine tw_icmp_ge 200 dX10_digest_174 (by decide) (fun c428 => ?_) (fun c428 => ?_)
                              · obtain ⟨v429, ev429⟩ : ∃ y : Int32, y = (nI k49) + 1 := ⟨_, rfl⟩
                                refine tw_iinc [(3, .int v429), (0, .ref x), (1, .long x418), (4, .int (nI k419))] 2 dX10_digest_200 rfl (by rw [ev429]; rfl) (by decide) rfl ?_
                                refine tw_goto 78 dX10_digest_203 (by decide) ?_
                                have qv429 := tw_nI3 ev429
                                rw [qv429]
                                refine tw_lv [1, 2, 0] rfl ?_
                                refine tw_less (c2 := ((803 + 21 * (r39 + 1)) - 570) + 114 * r50) (n2 := ((4302 + 98 * (r39 + 1)) - 2950) + 590 * r50) (by omega) (by omega) ?_
                                exact ih51 (k49 + 1) x418 _ (sp54.tr sp404) (by omega) (by omega)
                              · have kl430 := tw_klt (N := 2) c428 hk427 (by decide)
                                refine tw_lload_n 1 dX10_digest_177 rfl rfl ?_
                                refine tw_ldc2 (v := 31) dX10_digest_178 w_1598 ?_
                                refine tw_lmul dX10_digest_181 ?_
                                refine tw_nml (fun v431 ev431 => ?_)
                                refine tw_aload_n 0 dX10_digest_182 rfl rfl ?_
                                refine tw_iload_n 2 dX10_digest_183 rfl rfl ?_
                                refine tw_iload 3 dX10_digest_184 rfl ?_
                                refine tw_bipush (v := 10) dX10_digest_186 (by decide) ?_
                                obtain ⟨e432, f433, th_434, td_435, ds_436, fr_437, ca_438, us_439, wo_440, cm_441, lc_442, lh_443, ld_444, rfl, k445, k446, k447, k448, k449, k450, k451, k452, k453, k454, k455, k456, k457, k458⟩ := sp404.1 x 36 kx (by decide)
                                refine tw_bi (tw_callV (M := mX10_digest) (pc := 188) okX10_lastNow dX10_digest_188 w_1581 rfl f433 [.int (nI k49), .int (nI k419), .int 10] [.long v431] rfl rfl ⟨by decide, by decide⟩ (Nat.le_of_ble_eq_true rfl) (c_X10_lastNow d g τ h402 sp404.1 x kx (nI k419) 10 k49 (by omega) (tw_m2 (by omega))) ((((((803 + 21 * (r39 + 1)) - 570) + 114 * (r50 + 1)) - 30) + 3 * (r364 + 1)) - 84) ((((((4302 + 98 * (r39 + 1)) - 2950) + 590 * (r50 + 1)) - 170) + 17 * (r364 + 1)) - 420) (by omega) (by omega)) (fun r461 h460 q459 => ?_) (fun E h1 q => q.elim)
                                rw [q459]
                                refine tw_i2l dX10_digest_191 ?_
                                refine tw_nml (fun v462 ev462 => ?_)
                                refine tw_ladd dX10_digest_192 ?_
                                refine tw_nml (fun v463 ev463 => ?_)
                                refine tw_lstore_n [(1, .long v463), (0, .ref x), (3, .int (nI k49)), (4, .int (nI k419))] dX10_digest_193 rfl (by decide) rfl ?_
                                obtain ⟨v464, ev464⟩ : ∃ y : Int32, y = (nI k419) + 1 := ⟨_, rfl⟩
                                refine tw_iinc [(4, .int v464), (1, .long v463), (0, .ref x), (3, .int (nI k49))] 3 dX10_digest_194 rfl (by rw [ev464]; rfl) (by decide) rfl ?_
                                refine tw_goto 171 dX10_digest_197 (by decide) ?_
                                have qv464 := tw_nI3 ev464
                                rw [qv464]
                                refine tw_lv [2, 1, 3, 0] rfl ?_
                                exact ih421 (k419 + 1) v463 (by omega) (by omega)
                          refine tw_lv [1, 2, 3, 0] rfl ?_
                          exact L422 (2 + 1) 0 x407 (by omega) (by omega)
                        · have kl465 := tw_klt (N := 2) c417 hk416 (by decide)
                          refine tw_lload_n 1 dX10_digest_144 rfl rfl ?_
                          refine tw_ldc2 (v := 31) dX10_digest_145 w_1598 ?_
                          refine tw_lmul dX10_digest_148 ?_
                          refine tw_nml (fun v466 ev466 => ?_)
                          refine tw_aload_n 0 dX10_digest_149 rfl rfl ?_
                          refine tw_iload_n 2 dX10_digest_150 rfl rfl ?_
                          refine tw_iload 3 dX10_digest_151 rfl ?_
                          refine tw_sipush (v := 1000) dX10_digest_153 (by decide) ?_
                          obtain ⟨e467, f468, th_469, td_470, ds_471, fr_472, ca_473, us_474, wo_475, cm_476, lc_477, lh_478, ld_479, rfl, k480, k481, k482, k483, k484, k485, k486, k487, k488, k489, k490, k491, k492, k493⟩ := sp404.1 x 36 kx (by decide)
                          refine tw_bi (tw_callV (M := mX10_digest) (pc := 156) okX10_bestTripNow dX10_digest_156 w_1565 rfl f468 [.int (nI k49), .int (nI k408), .int 1000] [.long v466] rfl rfl ⟨by decide, by decide⟩ (Nat.le_of_ble_eq_true rfl) (c_X10_bestTripNow d g τ h402 sp404.1 x kx (nI k408) 1000 k49 (by omega) ) ((((((803 + 21 * (r39 + 1)) - 570) + 114 * (r50 + 1)) - 30) + 3 * (r364 + 1)) - 84) ((((((4302 + 98 * (r39 + 1)) - 2950) + 590 * (r50 + 1)) - 170) + 17 * (r364 + 1)) - 420) (by omega) (by omega)) (fun r496 h495 q494 => ?_) (fun E h1 q => q.elim)
                          rw [q494]
                          refine tw_i2l dX10_digest_159 ?_
                          refine tw_nml (fun v497 ev497 => ?_)
                          refine tw_ladd dX10_digest_160 ?_
                          refine tw_nml (fun v498 ev498 => ?_)
                          refine tw_lstore_n [(1, .long v498), (0, .ref x), (3, .int (nI k49)), (4, .int (nI k408))] dX10_digest_161 rfl (by decide) rfl ?_
                          obtain ⟨v499, ev499⟩ : ∃ y : Int32, y = (nI k408) + 1 := ⟨_, rfl⟩
                          refine tw_iinc [(4, .int v499), (1, .long v498), (0, .ref x), (3, .int (nI k49))] 3 dX10_digest_162 rfl (by rw [ev499]; rfl) (by decide) rfl ?_
                          refine tw_goto 138 dX10_digest_165 (by decide) ?_
                          have qv499 := tw_nI3 ev499
                          rw [qv499]
                          refine tw_lv [2, 1, 3, 0] rfl ?_
                          exact ih410 (k408 + 1) v498 (by omega) (by omega)
                    refine tw_lv [2, 1, 3, 0] rfl ?_
                    exact L411 (2 + 1) 0 v406 (by omega) (by omega)
                  · have kl500 : k363 < 9 := tw_kle (N := 9) c372 hk371 (by decide)
                    refine tw_lload_n 1 dX10_digest_99 rfl rfl ?_
                    refine tw_ldc2 (v := 31) dX10_digest_100 w_1598 ?_
                    refine tw_lmul dX10_digest_103 ?_
                    refine tw_nml (fun v501 ev501 => ?_)
                    refine tw_aload_n 0 dX10_digest_104 rfl rfl ?_
                    refine tw_iload_n 2 dX10_digest_105 rfl rfl ?_
                    refine tw_iload 3 dX10_digest_106 rfl ?_
                    obtain ⟨e502, f503, th_504, td_505, ds_506, fr_507, ca_508, us_509, wo_510, cm_511, lc_512, lh_513, ld_514, rfl, k515, k516, k517, k518, k519, k520, k521, k522, k523, k524, k525, k526, k527, k528⟩ := sp368.1 x 36 kx (by decide)
                    refine tw_bi (tw_callV (M := mX10_digest) (pc := 108) okX10_ofCountryNow dX10_digest_108 w_1505 rfl f503 [.int (nI k49), .int (nI k363)] [.long v501] rfl rfl ⟨by decide, by decide⟩ (Nat.le_of_ble_eq_true rfl) (c_X10_ofCountryNow d g τ h367 sp368.1 x kx (nI k363) k49 (by omega) (vp_in_nI (by omega) (by decide))) ((((((803 + 21 * (r39 + 1)) - 570) + 114 * (r50 + 1)) - 30) + 3 * (r364 + 1)) - 3) ((((((4302 + 98 * (r39 + 1)) - 2950) + 590 * (r50 + 1)) - 170) + 17 * (r364 + 1)) - 17) (by omega) (by omega)) (fun r531 h530 q529 => ?_) (fun E h1 q => q.elim)
                    have sp532 := sp368.tr q529
                    refine tw_i2l dX10_digest_111 ?_
                    refine tw_nml (fun v533 ev533 => ?_)
                    refine tw_ladd dX10_digest_112 ?_
                    refine tw_nml (fun v534 ev534 => ?_)
                    refine tw_lstore_n [(1, .long v534), (0, .ref x), (3, .int (nI k49)), (4, .int (nI k363))] dX10_digest_113 rfl (by decide) rfl ?_
                    obtain ⟨v535, ev535⟩ : ∃ y : Int32, y = (nI k363) + 1 := ⟨_, rfl⟩
                    refine tw_iinc [(4, .int v535), (1, .long v534), (0, .ref x), (3, .int (nI k49))] 3 dX10_digest_114 rfl (by rw [ev535]; rfl) (by decide) rfl ?_
                    refine tw_goto 92 dX10_digest_117 (by decide) ?_
                    have qv535 := tw_nI3 ev535
                    rw [qv535]
                    refine tw_lv [2, 1, 3, 0] rfl ?_
                    refine tw_less (c2 := ((((803 + 21 * (r39 + 1)) - 570) + 114 * (r50 + 1)) - 30) + 3 * r364) (n2 := ((((4302 + 98 * (r39 + 1)) - 2950) + 590 * (r50 + 1)) - 170) + 17 * r364) (by omega) (by omega) ?_
                    exact ih365 (k363 + 1) v534 _ sp532 (by omega) (by omega)
              refine tw_lv [1, 2, 3, 0] rfl ?_
              refine tw_less (c2 := ((((803 + 21 * (r39 + 1)) - 570) + 114 * (r50 + 1)) - 30) + 3 * 10) (n2 := ((((4302 + 98 * (r39 + 1)) - 2950) + 590 * (r50 + 1)) - 170) + 17 * 10) (by omega) (by omega) ?_
              exact L366 10 0 x48 _ (tw_sp.rf sp54.1) (by omega) (by omega)
        refine tw_lv [1, 2, 0] rfl ?_
        refine tw_less (c2 := ((803 + 21 * (r39 + 1)) - 570) + 114 * 5) (n2 := ((4302 + 98 * (r39 + 1)) - 2950) + 590 * 5) (by omega) (by omega) ?_
        exact L52 5 0 x37 _ (tw_sp.rf sp43.1) (by omega) (by omega)
      · have kl536 := tw_klt (N := 2) c47 hk46 (by decide)
        refine tw_iconst (v := 0) dX10_digest_40 (by decide) ?_
        refine tw_istore [(4, .int 0), (0, .ref x), (1, .long x37), (3, .int (nI k38))] dX10_digest_41 (by decide) rfl ?_
        have L541 : ∀ (r539 k538 : Nat) (x537 : Int64) (h542 : tw_H) (sp543 : tw_sp d τ h42 g τ h542), 6 + 1 ≤ k538 + r539 → k538 ≤ 6 → tw_W d mX10_digest (tw_ql (fun r h1 => tw_sp d τ h g τ h1) tw_nx) 43 [(0, .ref x), (1, .long x537), (3, .int (nI k38)), (4, .int (nI k538))] [] h542 (((803 + 21 * (r39 + 1)) - 21) + 3 * r539) (((4302 + 98 * (r39 + 1)) - 98) + 14 * r539) := by
          intro r539
          induction r539 with
          | zero => intro k538 x537 h542 sp543 hk545 hk546; exact absurd hk545 (by omega)
          | succ r539 ih540 =>
            intro k538 x537 h542 sp543 hk545 hk546
            refine tw_iload 3 dX10_digest_43 rfl ?_
            refine tw_iconst (v := 5) dX10_digest_45 (by decide) ?_
            refine tw_icmp_gt 70 dX10_digest_46 (by decide) (fun c547 => ?_) (fun c547 => ?_)
            · obtain ⟨v548, ev548⟩ : ∃ y : Int32, y = (nI k38) + 1 := ⟨_, rfl⟩
              refine tw_iinc [(3, .int v548), (0, .ref x), (1, .long x537), (4, .int (nI k538))] 2 dX10_digest_70 rfl (by rw [ev548]; rfl) (by decide) rfl ?_
              refine tw_goto 35 dX10_digest_73 (by decide) ?_
              have qv548 := tw_nI3 ev548
              rw [qv548]
              refine tw_lv [1, 2, 0] rfl ?_
              refine tw_less (c2 := 803 + 21 * r39) (n2 := 4302 + 98 * r39) (by omega) (by omega) ?_
              exact ih40 (k38 + 1) x537 _ (sp43.tr sp543) (by omega) (by omega)
            · have kl549 : k538 < 6 := tw_kle (N := 6) c547 hk546 (by decide)
              refine tw_lload_n 1 dX10_digest_49 rfl rfl ?_
              refine tw_ldc2 (v := 31) dX10_digest_50 w_1598 ?_
              refine tw_lmul dX10_digest_53 ?_
              refine tw_nml (fun v550 ev550 => ?_)
              refine tw_aload_n 0 dX10_digest_54 rfl rfl ?_
              refine tw_iload_n 2 dX10_digest_55 rfl rfl ?_
              refine tw_iload 3 dX10_digest_56 rfl ?_
              obtain ⟨e551, f552, th_553, td_554, ds_555, fr_556, ca_557, us_558, wo_559, cm_560, lc_561, lh_562, ld_563, rfl, k564, k565, k566, k567, k568, k569, k570, k571, k572, k573, k574, k575, k576, k577⟩ := sp543.1 x 36 kx (by decide)
              refine tw_bi (tw_callV (M := mX10_digest) (pc := 58) okX10_worldNow dX10_digest_58 w_1537 rfl f552 [.int (nI k38), .int (nI k538)] [.long v550] rfl rfl ⟨by decide, by decide⟩ (Nat.le_of_ble_eq_true rfl) (c_X10_worldNow d g τ h542 sp543.1 x kx (nI k38) (nI k538) (vp_in_nI (by omega) (by decide)) (vp_in_nI (by omega) (by decide))) ((((803 + 21 * (r39 + 1)) - 21) + 3 * (r539 + 1)) - 3) ((((4302 + 98 * (r39 + 1)) - 98) + 14 * (r539 + 1)) - 14) (by omega) (by omega)) (fun r580 h579 q578 => ?_) (fun E h1 q => q.elim)
              have sp581 := sp543.tr q578
              refine tw_i2l dX10_digest_61 ?_
              refine tw_nml (fun v582 ev582 => ?_)
              refine tw_ladd dX10_digest_62 ?_
              refine tw_nml (fun v583 ev583 => ?_)
              refine tw_lstore_n [(1, .long v583), (0, .ref x), (3, .int (nI k38)), (4, .int (nI k538))] dX10_digest_63 rfl (by decide) rfl ?_
              obtain ⟨v584, ev584⟩ : ∃ y : Int32, y = (nI k538) + 1 := ⟨_, rfl⟩
              refine tw_iinc [(4, .int v584), (1, .long v583), (0, .ref x), (3, .int (nI k38))] 3 dX10_digest_64 rfl (by rw [ev584]; rfl) (by decide) rfl ?_
              refine tw_goto 43 dX10_digest_67 (by decide) ?_
              have qv584 := tw_nI3 ev584
              rw [qv584]
              refine tw_lv [2, 1, 3, 0] rfl ?_
              refine tw_less (c2 := ((803 + 21 * (r39 + 1)) - 21) + 3 * r539) (n2 := ((4302 + 98 * (r39 + 1)) - 98) + 14 * r539) (by omega) (by omega) ?_
              exact ih540 (k538 + 1) v583 _ sp581 (by omega) (by omega)
        refine tw_lv [1, 2, 3, 0] rfl ?_
        refine tw_less (c2 := ((803 + 21 * (r39 + 1)) - 21) + 3 * 7) (n2 := ((4302 + 98 * (r39 + 1)) - 98) + 14 * 7) (by omega) (by omega) ?_
        exact L541 7 0 x37 _ (tw_sp.rf sp43.1) (by omega) (by omega)
  refine tw_lv [2, 1, 0] rfl ?_
  refine tw_less (c2 := 803 + 21 * 3) (n2 := 4302 + 98 * 3) (by omega) (by omega) ?_
  exact L41 3 0 v36 _ (tw_sp.rf sp29.1) (by omega) (by omega)

set_option maxHeartbeats 4000000 in
set_option maxRecDepth 100000 in
theorem c_X10_give (d : tw_D) (g : tw_G) (τ : tw_K) (h : tw_H) (hw : tw_wt d g τ h) (x : Nat) (kx : τ x = 36) (n : Int32) (am : Int32) : tw_Ct d mX10_give 500 2500 [.ref x, .int n, .int am] h (tw_qi (fun r h1 => tw_sp d τ h g τ h1) tw_nx) := by
  refine tw_of (by decide +kernel) (Nat.le_of_ble_eq_true rfl) ?_
  show tw_W d mX10_give _ 0 [(0, .ref x), (1, .int n), (2, .int am)] [] h 500 2500
  have sp0 := tw_sp.rf hw
  refine tw_aload_n 0 dX10_give_0 rfl rfl ?_
  refine tw_aload_n 0 dX10_give_1 rfl rfl ?_
  refine tw_iload_n 1 dX10_give_2 rfl rfl ?_
  obtain ⟨e1, f2, th_3, td_4, ds_5, fr_6, ca_7, us_8, wo_9, cm_10, lc_11, lh_12, ld_13, rfl, k14, k15, k16, k17, k18, k19, k20, k21, k22, k23, k24, k25, k26, k27⟩ := sp0.1 x 36 kx (by decide)
  refine tw_bi (tw_callV (M := mX10_give) (pc := 3) okX10_isNoCountry dX10_give_3 w_1292 rfl f2 [.int n] [.ref x] rfl rfl ⟨by decide, by decide⟩ (Nat.le_of_ble_eq_true rfl) (c_X10_isNoCountry d g τ h sp0.1 x kx n) 500 2500 (Nat.le_of_ble_eq_true rfl) (Nat.le_of_ble_eq_true rfl)) (fun r30 h29 q28 => ?_) (fun E h1 q => q.elim)
  obtain ⟨q28e, q28d⟩ := q28
  rw [q28e]
  rcases q28d with q28r | ⟨q28r, j31, q28j, q28k⟩
  · rw [q28r]
    refine tw_iconst (v := 1) dX10_give_6 (by decide) ?_
    refine tw_bi (tw_callV (M := mX10_give) (pc := 7) okX10_start dX10_give_7 w_1200 rfl f2 [.int 1, .int 1] [] rfl rfl ⟨by decide, by decide⟩ (Nat.le_of_ble_eq_true rfl) (c_X10_start d g τ h sp0.1 x kx 1 1 (by decide)) 500 2500 (Nat.le_of_ble_eq_true rfl) (Nat.le_of_ble_eq_true rfl)) (fun r34 h33 q32 => ?_) (fun E h1 q => q.elim)
    obtain ⟨e35, he36, hs37, hr38, h339⟩ := q32
    have sp40 : tw_sp d τ h g τ h33 := by rw [he36]; exact sp0.set kx (by decide) hs37
    rcases hr38 with ei41 | ⟨ei41, ei41b⟩
    · rw [ei41]
      refine tw_if_ne 37 dX10_give_10 (by decide) (fun _ => ?_) (fun c42 => absurd c42 (by decide))
      refine tw_iconst (v := 0) dX10_give_37 (by decide) ?_
      exact tw_iret dX10_give_38 rfl (Or.inl ⟨_, rfl, sp40⟩)
    · exact absurd ei41b (by decide)
  · rw [q28r]
    subst q28k
    refine tw_iconst (v := 1) dX10_give_6 (by decide) ?_
    refine tw_bi (tw_callV (M := mX10_give) (pc := 7) okX10_start dX10_give_7 w_1200 rfl f2 [.int 0, .int 1] [] rfl rfl ⟨by decide, by decide⟩ (Nat.le_of_ble_eq_true rfl) (c_X10_start d g τ h sp0.1 x kx 0 1 (by decide)) 500 2500 (Nat.le_of_ble_eq_true rfl) (Nat.le_of_ble_eq_true rfl)) (fun r45 h44 q43 => ?_) (fun E h1 q => q.elim)
    obtain ⟨e46, he47, hs48, hr49, h350⟩ := q43
    have sp51 : tw_sp d τ h g τ h44 := by rw [he47]; exact sp0.set kx (by decide) hs48
    rcases hr49 with ei52 | ⟨ei52, ei52b⟩
    · rw [ei52]
      refine tw_if_ne 37 dX10_give_10 (by decide) (fun _ => ?_) (fun c53 => absurd c53 (by decide))
      refine tw_iconst (v := 0) dX10_give_37 (by decide) ?_
      exact tw_iret dX10_give_38 rfl (Or.inl ⟨_, rfl, sp51⟩)
    · rw [ei52]
      refine tw_if_ne 37 dX10_give_10 (by decide) (fun c54 => absurd (by decide) c54) (fun _ => ?_)
      refine tw_aload_n 0 dX10_give_13 rfl rfl ?_
      refine tw_iload_n 2 dX10_give_14 rfl rfl ?_
      refine tw_iconst (v := 1) dX10_give_15 (by decide) ?_
      refine tw_sipush (v := 400) dX10_give_16 (by decide) ?_
      refine tw_bi (tw_callS (M := mX10_give) (pc := 19) okX10_isIn dX10_give_19 w_1196 [.int am, .int 1, .int 400] [.ref x] rfl rfl ⟨by decide, by decide⟩ (Nat.le_of_ble_eq_true rfl) (c_X10_isIn d g τ h44 sp51.1 am 1 400) 500 2500 (Nat.le_of_ble_eq_true rfl) (Nat.le_of_ble_eq_true rfl)) (fun r57 h56 q55 => ?_) (fun E h1 q => q.elim)
      obtain ⟨q55e, q55d⟩ := q55
      rw [q55e]
      rcases q55d with ⟨q55r, q55n⟩ | ⟨q55r, q55a, q55b⟩
      · rw [q55r]
        refine tw_if_ne 29 dX10_give_22 (by decide) (fun c58 => absurd (by decide) c58) (fun _ => ?_)
        refine tw_iconst (v := 1) dX10_give_25 (by decide) ?_
        refine tw_goto 30 dX10_give_26 (by decide) ?_
        refine tw_iconst (v := 2) dX10_give_30 (by decide) ?_
        obtain ⟨e59, f60, th_61, td_62, ds_63, fr_64, ca_65, us_66, wo_67, cm_68, lc_69, lh_70, ld_71, rfl, k72, k73, k74, k75, k76, k77, k78, k79, k80, k81, k82, k83, k84, k85⟩ := sp51.1 x 36 kx (by decide)
        refine tw_bi (tw_callV (M := mX10_give) (pc := 31) okX10_refuse dX10_give_31 w_1204 rfl f60 [.int 1, .int 2] [] rfl rfl ⟨by decide, by decide⟩ (Nat.le_of_ble_eq_true rfl) (c_X10_refuse d g τ h44 sp51.1 x kx 1 2 (by decide)) 500 2500 (Nat.le_of_ble_eq_true rfl) (Nat.le_of_ble_eq_true rfl)) (fun r88 h87 q86 => ?_) (fun E h1 q => q.elim)
        obtain ⟨e89, he90, hs91, hr92, h393⟩ := q86
        have sp94 : tw_sp d τ h g τ h87 := by rw [he90]; exact sp51.set kx (by decide) hs91
        rcases hr92 with ei95 | ⟨ei95, ei95b⟩
        · rw [ei95]
          refine tw_if_eq 39 dX10_give_34 (by decide) (fun c96 => absurd c96 (by decide)) (fun _ => ?_)
          refine tw_iconst (v := 0) dX10_give_37 (by decide) ?_
          exact tw_iret dX10_give_38 rfl (Or.inl ⟨_, rfl, sp94⟩)
        · exact absurd ei95b (by decide)
      · rw [q55r]
        refine tw_if_ne 29 dX10_give_22 (by decide) (fun _ => ?_) (fun c97 => absurd c97 (by decide))
        refine tw_iconst (v := 0) dX10_give_29 (by decide) ?_
        refine tw_iconst (v := 2) dX10_give_30 (by decide) ?_
        obtain ⟨e98, f99, th_100, td_101, ds_102, fr_103, ca_104, us_105, wo_106, cm_107, lc_108, lh_109, ld_110, rfl, k111, k112, k113, k114, k115, k116, k117, k118, k119, k120, k121, k122, k123, k124⟩ := sp51.1 x 36 kx (by decide)
        refine tw_bi (tw_callV (M := mX10_give) (pc := 31) okX10_refuse dX10_give_31 w_1204 rfl f99 [.int 0, .int 2] [] rfl rfl ⟨by decide, by decide⟩ (Nat.le_of_ble_eq_true rfl) (c_X10_refuse d g τ h44 sp51.1 x kx 0 2 (by decide)) 500 2500 (Nat.le_of_ble_eq_true rfl) (Nat.le_of_ble_eq_true rfl)) (fun r127 h126 q125 => ?_) (fun E h1 q => q.elim)
        obtain ⟨e128, he129, hs130, hr131, h3132⟩ := q125
        have sp133 : tw_sp d τ h g τ h126 := by rw [he129]; exact sp51.set kx (by decide) hs130
        rcases hr131 with ei134 | ⟨ei134, ei134b⟩
        · rw [ei134]
          refine tw_if_eq 39 dX10_give_34 (by decide) (fun c135 => absurd c135 (by decide)) (fun _ => ?_)
          refine tw_iconst (v := 0) dX10_give_37 (by decide) ?_
          exact tw_iret dX10_give_38 rfl (Or.inl ⟨_, rfl, sp133⟩)
        · rw [ei134]
          refine tw_if_eq 39 dX10_give_34 (by decide) (fun _ => ?_) (fun c136 => absurd (by decide) c136)
          refine tw_aload_n 0 dX10_give_39 rfl rfl ?_
          obtain ⟨e137, f138, th_139, td_140, ds_141, fr_142, ca_143, us_144, wo_145, cm_146, lc_147, lh_148, ld_149, rfl, k150, k151, k152, k153, k154, k155, k156, k157, k158, k159, k160, k161, k162, k163⟩ := sp133.1 x 36 kx (by decide)
          refine tw_get (v := .ref lc_147) rfl in_14 9 dX10_give_40 w_1160 rfl (by decide) f138 rfl ?_
          refine tw_iload_n 1 dX10_give_43 rfl rfl ?_
          obtain ⟨e164, f165, ⟨el166, rfl, k167⟩, k168⟩ := sp133.1 lc_147 24 k156 (by decide)
          refine tw_br (tw_callV (M := mX10_give) (pc := 44) okJx4a65c_get_915e3 dX10_give_44 w_1296 rfl f165 [.int (nI j31)] [] rfl rfl ⟨by decide, by decide⟩ (Nat.le_of_ble_eq_true rfl) (c24_get d g τ h126 sp133.1 lc_147 k156 j31 (by omega) (by omega)) 500 2500 (Nat.le_of_ble_eq_true rfl) (Nat.le_of_ble_eq_true rfl)) (fun r171 h170 q169 => ?_) (fun E h1 q => q.elim)
          obtain ⟨q169e, q169k⟩ := q169
          rw [q169e]
          have el172 : tw_el h126 (g.2 12) j31 = r171 := by rw [← k168]; exact q169k.2.symm
          have kl173 : τ (g.2 12) = 24 := by rw [← k168]; exact k156
          obtain ⟨e174, f175, r_176, c_177, v_178, o_179, t_180, rfl, k181, k182, k183, k184, k185⟩ := sp133.1 r171 21 q169k.1 (by decide)
          refine tw_castS (ci := 11) rfl dX10_give_47 w_1212 f175 ?_
          refine tw_get (v := .ref t_180) rfl in_11 4 dX10_give_50 w_1225 rfl (by decide) f175 rfl ?_
          refine tw_iconst (v := 0) dX10_give_53 (by decide) ?_
          refine tw_iload_n 2 dX10_give_54 rfl rfl ?_
          obtain ⟨l186, hl187, el188⟩ := tw_l400 q55a q55b
          subst el188
          obtain ⟨e189, f190, F191, rfl, k192⟩ := sp133.1 t_180 33 k183 (by decide)
          refine tw_bq (tw_callS (okX10_best 5) dX10_give_55 w_1484 [.ref t_180, .int 0, .int (nI l186)] [] rfl rfl ⟨by decide, by decide⟩ (Nat.le_of_ble_eq_true rfl) (c_best d 5 5 (Nat.le_refl _) (Nat.le_refl _) h126 t_180 l186 F191 f190 k192 hl187) 0 0 (by have := tw_w5 hl187; omega) (by have := tw_w5 hl187; omega)) (fun r195 h194 q193 => ?_) (fun E h1 q => q.elim)
          obtain ⟨q193g, q193r⟩ := q193
          have sp196 := sp133.tr (q193g.sp sp133.1)
          have f197 := q193g _ _ f138
          have f198 := q193g _ _ f165
          have f199 := q193g _ _ f175
          have f200 := q193g _ _ f190
          have el201 := (tw_el_gw sp133.1 q193g kl173 (by omega)).trans el172
          cases r195 with
          | none =>
            refine tw_astore_nN [(3, .null), (0, .ref x), (1, .int (nI j31)), (2, .int (nI l186))] dX10_give_58 rfl (by decide) rfl ?_
            refine tw_aload_n 1 dX10_give_59 rfl rfl ?_
            refine tw_aload_nN 0 dX10_give_60 rfl rfl ?_
            refine tw_ifnonnullN dX10_give_61 ?_
            refine tw_iconst (v := 1) dX10_give_64 (by decide) ?_
            refine tw_goto 69 dX10_give_65 (by decide) ?_
            refine tw_iconst (v := 3) dX10_give_69 (by decide) ?_
            refine tw_bi (tw_callV (M := mX10_give) (pc := 70) okX10_refuse dX10_give_70 w_1204 rfl f197 [.int 1, .int 3] [] rfl rfl ⟨by decide, by decide⟩ (Nat.le_of_ble_eq_true rfl) (c_X10_refuse d g τ h194 sp196.1 x kx 1 3 (by decide)) 0 0 (Nat.le_of_ble_eq_true rfl) (Nat.le_of_ble_eq_true rfl)) (fun r205 h204 q203 => ?_) (fun E h1 q => q.elim)
            obtain ⟨e206, he207, hs208, hr209, h3210⟩ := q203
            have sp211 : tw_sp d τ h g τ h204 := by rw [he207]; exact sp196.set kx (by decide) hs208
            have f212 : h204 lc_147 = some (.inr (3, [.int (g.1 3), .ref el166, .int (nI (g.2 3))])) := by rw [he207, tw_up_n (fun q => absurd (k156) (by rw [q, kx]; decide))]; exact f198
            have f213 : h204 r171 = some (.inr (11, [.int r_176, .int c_177, .ref v_178, .ref o_179, .ref t_180])) := by rw [he207, tw_up_n (fun q => absurd (q169k.1) (by rw [q, kx]; decide))]; exact f199
            have f214 : h204 t_180 = some (.inl (d.2 0, 5, .inl F191)) := by rw [he207, tw_up_n (fun q => absurd (k183) (by rw [q, kx]; decide))]; exact f200
            have el215 : tw_el h204 (g.2 12) j31 = r171 := by rw [he207]; exact (tw_el24_up sp196.1 kl173 (by omega) (by rw [kx]; decide) (by rw [kx]; decide)).trans el201
            rcases hr209 with ei216 | ⟨ei216, ei216b⟩
            · rw [ei216]
              refine tw_if_eq 78 dX10_give_73 (by decide) (fun c217 => absurd c217 (by decide)) (fun _ => ?_)
              refine tw_iconst (v := 0) dX10_give_76 (by decide) ?_
              exact tw_iret dX10_give_77 rfl (Or.inl ⟨_, rfl, sp211⟩)
            · exact absurd ei216b (by decide)
          | some b202 =>
            obtain ⟨hq218, G219, hG220, hGb221⟩ := q193r b202 rfl
            have n222 := sp133.nn hq218
            have z223 := sp133.1.none hq218
            refine tw_astore_n [(3, .ref b202), (0, .ref x), (1, .int (nI j31)), (2, .int (nI l186))] dX10_give_58 rfl (by decide) rfl ?_
            refine tw_aload_n 1 dX10_give_59 rfl rfl ?_
            refine tw_aload_n 0 dX10_give_60 rfl rfl ?_
            refine tw_ifnonnull 68 dX10_give_61 (by decide) ?_
            refine tw_iconst (v := 0) dX10_give_68 (by decide) ?_
            refine tw_iconst (v := 3) dX10_give_69 (by decide) ?_
            refine tw_bi (tw_callV (M := mX10_give) (pc := 70) okX10_refuse dX10_give_70 w_1204 rfl f197 [.int 0, .int 3] [] rfl rfl ⟨by decide, by decide⟩ (Nat.le_of_ble_eq_true rfl) (c_X10_refuse d g τ h194 sp196.1 x kx 0 3 (by decide)) 0 0 (Nat.le_of_ble_eq_true rfl) (Nat.le_of_ble_eq_true rfl)) (fun r226 h225 q224 => ?_) (fun E h1 q => q.elim)
            obtain ⟨e227, he228, hs229, hr230, h3231⟩ := q224
            have sp232 : tw_sp d τ h g τ h225 := by rw [he228]; exact sp196.set kx (by decide) hs229
            have f233 : h225 lc_147 = some (.inr (3, [.int (g.1 3), .ref el166, .int (nI (g.2 3))])) := by rw [he228, tw_up_n (fun q => absurd (k156) (by rw [q, kx]; decide))]; exact f198
            have f234 : h225 r171 = some (.inr (11, [.int r_176, .int c_177, .ref v_178, .ref o_179, .ref t_180])) := by rw [he228, tw_up_n (fun q => absurd (q169k.1) (by rw [q, kx]; decide))]; exact f199
            have f235 : h225 t_180 = some (.inl (d.2 0, 5, .inl F191)) := by rw [he228, tw_up_n (fun q => absurd (k183) (by rw [q, kx]; decide))]; exact f200
            have f236 : h225 b202 = some (.inl (d.2 0, 5, .inl G219)) := by rw [he228, tw_up_n (fun q => absurd (z223) (by rw [q, kx]; decide))]; exact hG220
            have el237 : tw_el h225 (g.2 12) j31 = r171 := by rw [he228]; exact (tw_el24_up sp196.1 kl173 (by omega) (by rw [kx]; decide) (by rw [kx]; decide)).trans el201
            rcases hr230 with ei238 | ⟨ei238, ei238b⟩
            · rw [ei238]
              refine tw_if_eq 78 dX10_give_73 (by decide) (fun c239 => absurd c239 (by decide)) (fun _ => ?_)
              refine tw_iconst (v := 0) dX10_give_76 (by decide) ?_
              exact tw_iret dX10_give_77 rfl (Or.inl ⟨_, rfl, sp232⟩)
            · rw [ei238]
              refine tw_if_eq 78 dX10_give_73 (by decide) (fun _ => ?_) (fun c240 => absurd (by decide) c240)
              refine tw_iconst (v := 0) dX10_give_78 (by decide) ?_
              refine tw_istore [(4, .int 0), (3, .ref b202), (0, .ref x), (1, .int (nI j31)), (2, .int (nI l186))] dX10_give_79 (by decide) rfl ?_
              have L244 : ∀ (r242 k241 : Nat) (h246 : tw_H) (sp247 : tw_sp d τ h225 g τ h246) (kf245 : h246 r171 = some (.inr (11, [.int r_176, .int c_177, .ref v_178, .ref o_179, .ref t_180]))) (li248 : tw_el h246 (g.2 12) j31 = r171 ∧ ∃ f9 : Nat → Int32, h246 t_180 = some (.inl (d.2 0, 5, .inl f9)) ∧ (∀ j, 0 ≤ f9 j ∧ f9 j ≤ 9) ∧ ∀ j, k241 ≤ j → G219 j ≤ f9 j), 5 + 1 ≤ k241 + r242 → k241 ≤ 5 → tw_W d mX10_give (tw_qi (fun r h1 => tw_sp d τ h g τ h1) tw_nx) 81 [(0, .ref x), (1, .int (nI j31)), (2, .int (nI l186)), (3, .ref b202), (4, .int (nI k241))] [] h246 0 0 := by
                intro r242
                induction r242 with
                | zero => intro k241 h246 sp247 kf245 li248 hk249 hk250; exact absurd hk249 (by omega)
                | succ r242 ih243 =>
                  intro k241 h246 sp247 kf245 li248 hk249 hk250
                  have f251 := (sp247.2.2 _ _ f236 z223).1
                  have z252 := (sp247.2.2 _ _ f236 z223).2
                  obtain ⟨hel, f9, hT, hfb, hfk⟩ := li248
                  refine tw_iload 4 dX10_give_81 rfl ?_
                  refine tw_iconst (v := 5) dX10_give_83 (by decide) ?_
                  refine tw_icmp_ge 117 dX10_give_84 (by decide) (fun c253 => ?_) (fun c253 => ?_)
                  · refine tw_aload_n 3 dX10_give_117 rfl rfl ?_
                    refine tw_bi (tw_callS okX10_all dX10_give_118 w_1490 [.ref b202] [] rfl rfl ⟨by decide, by decide⟩ (Nat.le_of_ble_eq_true rfl) (c_X10_all d h246 b202 G219 f251) 0 0 (Nat.le_of_ble_eq_true rfl) (Nat.le_of_ble_eq_true rfl)) (fun r256 h255 q254 => ?_) (fun E h1 q => q.elim)
                    rw [q254]
                    exact tw_iret dX10_give_121 rfl (Or.inl ⟨_, rfl, (sp232.tr sp247)⟩)
                  · have kl257 := tw_klt (N := 5) c253 hk250 (by decide)
                    refine tw_aload_n 0 dX10_give_87 rfl rfl ?_
                    obtain ⟨e258, f259, th_260, td_261, ds_262, fr_263, ca_264, us_265, wo_266, cm_267, lc_268, lh_269, ld_270, rfl, k271, k272, k273, k274, k275, k276, k277, k278, k279, k280, k281, k282, k283, k284⟩ := sp247.1 x 36 kx (by decide)
                    refine tw_get (v := .ref lc_268) rfl in_14 9 dX10_give_88 w_1160 rfl (by decide) f259 rfl ?_
                    refine tw_iload_n 1 dX10_give_91 rfl rfl ?_
                    obtain ⟨e285, f286, ⟨el287, rfl, k288⟩, k289⟩ := sp247.1 lc_268 24 k277 (by decide)
                    refine tw_br (tw_callV (M := mX10_give) (pc := 92) okJx4a65c_get_915e3 dX10_give_92 w_1296 rfl f286 [.int (nI j31)] [] rfl rfl ⟨by decide, by decide⟩ (Nat.le_of_ble_eq_true rfl) (c24_get d g τ h246 sp247.1 lc_268 k277 j31 (by omega) (by omega)) 0 0 (Nat.le_of_ble_eq_true rfl) (Nat.le_of_ble_eq_true rfl)) (fun r292 h291 q290 => ?_) (fun E h1 q => q.elim)
                    obtain ⟨q290e, q290k⟩ := q290
                    rw [q290e]
                    have q290ky : r292 = r171 := q290k.2.trans (by rw [k289]; exact hel)
                    rw [q290ky]
                    refine tw_castS (ci := 11) rfl dX10_give_95 w_1212 kf245 ?_
                    refine tw_get (v := .ref t_180) rfl in_11 4 dX10_give_98 w_1225 rfl (by decide) kf245 rfl ?_
                    refine tw_iload 4 dX10_give_101 rfl ?_
                    refine tw_dup2 dX10_give_103 rfl rfl ?_
                    obtain ⟨v293, ev293⟩ : ∃ y : Int32, f9 ((nI k241)).toNatClampNeg = y := ⟨_, rfl⟩
                    refine tw_iald (v := v293) dX10_give_104 hT (vp_in_nI (by omega) (by decide)) ev293 ?_
                    refine tw_aload_n 3 dX10_give_105 rfl rfl ?_
                    refine tw_iload 4 dX10_give_106 rfl ?_
                    obtain ⟨v294, ev294⟩ : ∃ y : Int32, G219 ((nI k241)).toNatClampNeg = y := ⟨_, rfl⟩
                    refine tw_iald (v := v294) dX10_give_108 f251 (vp_in_nI (by omega) (by decide)) ev294 ?_
                    refine tw_isub dX10_give_109 ?_
                    refine tw_nmi (fun v295 ev295 => ?_)
                    refine tw_iast dX10_give_110 hT (vp_in_nI (by omega) (by decide)) ?_
                    obtain ⟨h296, eh296⟩ : ∃ z : tw_H, z = tw_up h246 t_180 (.inl (d.2 0, 5, .inl (upd f9 ((nI k241)).toNatClampNeg v295))) := ⟨_, rfl⟩
                    rw [← eh296]
                    have sp297 : tw_sp d τ h225 g τ h296 := by rw [eh296]; exact sp247.set k183 (by decide) ⟨_, rfl, (tw_tk hfb (tw_gsub (by rw [← ev293]; exact (hfb _).1) (by rw [← ev293]; exact (hfb _).2) (by rw [← ev294]; exact (hGb221 _).1) (by rw [← ev294, ← ev293]; exact hfk _ (Nat.le_of_eq (nI_clamp (by omega)).symm)) ev295).1 (tw_gsub (by rw [← ev293]; exact (hfb _).1) (by rw [← ev293]; exact (hfb _).2) (by rw [← ev294]; exact (hGb221 _).1) (by rw [← ev294, ← ev293]; exact hfk _ (Nat.le_of_eq (nI_clamp (by omega)).symm)) ev295).2)⟩
                    have f298 : h296 b202 = some (.inl (d.2 0, 5, .inl G219)) := by rw [eh296, tw_up_n (fun q => absurd (z252) (by rw [q, k183]; decide))]; exact f251
                    have f299 : h296 r171 = some (.inr (11, [.int r_176, .int c_177, .ref v_178, .ref o_179, .ref t_180])) := by rw [eh296, tw_up_n (fun q => absurd (q169k.1) (by rw [q, k183]; decide))]; exact kf245
                    obtain ⟨v300, ev300⟩ : ∃ y : Int32, y = (nI k241) + 1 := ⟨_, rfl⟩
                    refine tw_iinc [(4, .int v300), (0, .ref x), (1, .int (nI j31)), (2, .int (nI l186)), (3, .ref b202)] 4 dX10_give_111 rfl (by rw [ev300]; rfl) (by decide) rfl ?_
                    refine tw_goto 81 dX10_give_114 (by decide) ?_
                    have qv300 := tw_nI3 ev300
                    rw [qv300]
                    refine tw_lv [1, 2, 3, 4, 0] rfl ?_
                    exact ih243 (k241 + 1)  _ sp297 f299 (⟨by rw [eh296]; exact (tw_el24_up sp247.1 kl173 (by omega) (by rw [k183]; decide) (by rw [k183]; decide)).trans hel, _, by rw [eh296]; exact tw_up_s, (tw_tk hfb (tw_gsub (by rw [← ev293]; exact (hfb _).1) (by rw [← ev293]; exact (hfb _).2) (by rw [← ev294]; exact (hGb221 _).1) (by rw [← ev294, ← ev293]; exact hfk _ (Nat.le_of_eq (nI_clamp (by omega)).symm)) ev295).1 (tw_gsub (by rw [← ev293]; exact (hfb _).1) (by rw [← ev293]; exact (hfb _).2) (by rw [← ev294]; exact (hGb221 _).1) (by rw [← ev294, ← ev293]; exact hfk _ (Nat.le_of_eq (nI_clamp (by omega)).symm)) ev295).2), fun j hj => by unfold upd; rw [if_neg (by rw [nI_clamp (by omega)]; omega)]; exact hfk j (by omega)⟩) (by omega) (by omega)
              refine tw_lv [2, 3, 4, 1, 0] rfl ?_
              exact L244 (5 + 1) 0  _ (tw_sp.rf sp232.1) f234 (⟨el237, F191, f235, k192, fun j _ => (hGb221 j).2⟩) (by omega) (by omega)

/-! the class's methods over the typed heap. Laid by wip/p5/mkclass.py. -/
set_option maxHeartbeats 4000000 in
set_option maxRecDepth 100000 in
theorem c_X10_coinsNow (d : tw_D) (g : tw_G) (τ : tw_K) (h : tw_H) (hw : tw_wt d g τ h) (x : Nat) (kx : τ x = 36) (a l : Nat) (ha : a < g.2 3) (hl : l ≤ 400) : tw_Ct d mX10_coinsNow (tw_wy 5 l) (5 * tw_wy 5 l) [.ref x, .int (nI a), .int (nI l)] h (tw_qi (fun r h1 => tw_sp d τ h g τ h1) tw_nx) := by
  refine tw_of (by decide +kernel) (Nat.le_of_ble_eq_true rfl) ?_
  show tw_W d mX10_coinsNow _ 0 [(0, .ref x), (1, .int (nI a)), (2, .int (nI l))] [] h (tw_wy 5 l) (5 * tw_wy 5 l)
  have sp0 := tw_sp.rf hw
  refine tw_aload_n 0 dX10_coinsNow_0 rfl rfl ?_
  obtain ⟨e1, f2, th_3, td_4, ds_5, fr_6, ca_7, us_8, wo_9, cm_10, lc_11, lh_12, ld_13, rfl, k14, k15, k16, k17, k18, k19, k20, k21, k22, k23, k24, k25, k26, k27, k28, k29, k30, k31⟩ := sp0.1 x 36 kx (by decide)
  refine tw_get (v := .ref lc_11) rfl in_14 9 dX10_coinsNow_1 w_1160 rfl (by decide) f2 rfl ?_
  refine tw_iload_n 1 dX10_coinsNow_4 rfl rfl ?_
  obtain ⟨e32, f33, ⟨el34, rfl, k35⟩, k36⟩ := sp0.1 lc_11 24 k20 (by decide)
  refine tw_br (tw_callV (M := mX10_coinsNow) (pc := 5) okJx4a65c_get_915e3 dX10_coinsNow_5 w_1296 rfl f33 [.int (nI a)] [] rfl rfl ⟨by decide, by decide⟩ (Nat.le_of_ble_eq_true rfl) (c24_get d g τ h sp0.1 lc_11 k20 a (by omega) (by omega)) (tw_wy 5 l) (5 * tw_wy 5 l) (by omega) (by omega)) (fun r39 h38 q37 => ?_) (fun E h1 q => q.elim)
  obtain ⟨q37e, q37k⟩ := q37
  rw [q37e]
  have el40 : tw_el h (g.2 12) a = r39 := by rw [← k36]; exact q37k.2.symm
  have kl41 : τ (g.2 12) = 24 := by rw [← k36]; exact k20
  obtain ⟨e42, f43, r_44, c_45, v_46, o_47, t_48, rfl, k49, k50, k51, k52, k53, k54⟩ := sp0.1 r39 21 q37k.1 (by decide)
  refine tw_castS (ci := 11) rfl dX10_coinsNow_8 w_1212 f43 ?_
  refine tw_get (v := .ref t_48) rfl in_11 4 dX10_coinsNow_11 w_1225 rfl (by decide) f43 rfl ?_
  refine tw_iconst (v := 0) dX10_coinsNow_14 (by decide) ?_
  refine tw_iload_n 2 dX10_coinsNow_15 rfl rfl ?_
  obtain ⟨e55, f56, F57, rfl, k59, pf58⟩ := sp0.1 t_48 33 k51 (by decide)
  refine tw_bq (tw_callS (okX10_best 5) dX10_coinsNow_16 w_1484 [.ref t_48, .int 0, .int (nI l)] [] rfl rfl ⟨by decide, by decide⟩ (Nat.le_of_ble_eq_true rfl) (c_best d 5 5 (Nat.le_refl _) (Nat.le_refl _) h t_48 l F57 f56 k59 hl) ((tw_wy 5 l) - (tw_wy 5 l)) ((5 * tw_wy 5 l) - (5 * tw_wy 5 l)) (by have := hl; omega) (by have := hl; omega)) (fun r62 h61 q60 => ?_) (fun E h1 q => q.elim)
  obtain ⟨q60g, q60r⟩ := q60
  have sp63 := sp0.tr (q60g.sp sp0.1)
  have f64 := q60g _ _ f2
  have f65 := q60g _ _ f33
  have f66 := q60g _ _ f43
  have f67 := q60g _ _ f56
  have el68 := (tw_el_gw sp0.1 q60g kl41 (by omega)).trans el40
  cases r62 with
  | none =>
    refine tw_astore_nN [(3, .null), (0, .ref x), (1, .int (nI a)), (2, .int (nI l))] dX10_coinsNow_19 rfl (by decide) rfl ?_
    refine tw_aload_nN 0 dX10_coinsNow_20 rfl rfl ?_
    refine tw_ifnonnullN dX10_coinsNow_21 ?_
    refine tw_iconst (v := -1) dX10_coinsNow_24 (by decide) ?_
    exact tw_iret dX10_coinsNow_25 rfl (Or.inl ⟨_, rfl, sp63⟩)
  | some b69 =>
    obtain ⟨hq70, G71, hG72, hGb73⟩ := q60r b69 rfl
    have n74 := sp0.nn hq70
    have z75 := sp0.1.none hq70
    refine tw_astore_n [(3, .ref b69), (0, .ref x), (1, .int (nI a)), (2, .int (nI l))] dX10_coinsNow_19 rfl (by decide) rfl ?_
    refine tw_aload_n 0 dX10_coinsNow_20 rfl rfl ?_
    refine tw_ifnonnull 26 dX10_coinsNow_21 (by decide) ?_
    refine tw_iconst (v := 0) dX10_coinsNow_26 (by decide) ?_
    refine tw_istore [(4, .int 0), (3, .ref b69), (0, .ref x), (1, .int (nI a)), (2, .int (nI l))] dX10_coinsNow_27 (by decide) rfl ?_
    refine tw_aload_n 1 dX10_coinsNow_29 rfl rfl ?_
    refine tw_astore [(5, .ref b69), (4, .int 0), (3, .ref b69), (0, .ref x), (1, .int (nI a)), (2, .int (nI l))] dX10_coinsNow_30 (by decide) rfl ?_
    refine tw_aload 0 dX10_coinsNow_32 rfl ?_
    refine tw_alen (v := nI 5) 0 rfl dX10_coinsNow_34 hG72 rfl ?_
    refine tw_istore [(6, .int (nI 5)), (5, .ref b69), (4, .int 0), (3, .ref b69), (0, .ref x), (1, .int (nI a)), (2, .int (nI l))] dX10_coinsNow_35 (by decide) rfl ?_
    refine tw_iconst (v := 0) dX10_coinsNow_37 (by decide) ?_
    refine tw_istore [(7, .int 0), (6, .int (nI 5)), (5, .ref b69), (4, .int 0), (3, .ref b69), (0, .ref x), (1, .int (nI a)), (2, .int (nI l))] dX10_coinsNow_38 (by decide) rfl ?_
    have L80 : ∀ (r78 k77 : Nat) (x76 : Int32), 5 + 1 ≤ k77 + r78 → k77 ≤ 5 → tw_W d mX10_coinsNow (tw_qi (fun r h1 => tw_sp d τ h g τ h1) tw_nx) 40 [(0, .ref x), (1, .int (nI a)), (2, .int (nI l)), (3, .ref b69), (4, .int x76), (5, .ref b69), (6, .int (nI 5)), (7, .int (nI k77))] [] h61 ((tw_wy 5 l) - (tw_wy 5 l)) ((5 * tw_wy 5 l) - (5 * tw_wy 5 l)) := by
      intro r78
      induction r78 with
      | zero => intro k77 x76 hk84 hk85; exact absurd hk84 (by omega)
      | succ r78 ih79 =>
        intro k77 x76 hk84 hk85
        refine tw_iload 7 dX10_coinsNow_40 rfl ?_
        refine tw_iload 6 dX10_coinsNow_42 rfl ?_
        refine tw_icmp_ge 70 dX10_coinsNow_44 (by decide) (fun c86 => ?_) (fun c86 => ?_)
        · refine tw_iload 4 dX10_coinsNow_70 rfl ?_
          exact tw_iret dX10_coinsNow_72 rfl (Or.inl ⟨_, rfl, sp63⟩)
        · have kl87 := tw_klt (N := 5) c86 hk85 (by decide)
          refine tw_aload 5 dX10_coinsNow_47 rfl ?_
          refine tw_iload 7 dX10_coinsNow_49 rfl ?_
          obtain ⟨v88, ev88⟩ : ∃ y : Int32, G71 ((nI k77)).toNatClampNeg = y := ⟨_, rfl⟩
          refine tw_iald (v := v88) dX10_coinsNow_51 hG72 (vp_in_nI (by omega) (by decide)) ev88 ?_
          refine tw_istore [(8, .int v88), (0, .ref x), (1, .int (nI a)), (2, .int (nI l)), (3, .ref b69), (4, .int x76), (5, .ref b69), (6, .int (nI 5)), (7, .int (nI k77))] dX10_coinsNow_52 (by decide) rfl ?_
          refine tw_bipush (v := 10) dX10_coinsNow_54 (by decide) ?_
          refine tw_iload 5 dX10_coinsNow_56 rfl ?_
          refine tw_imul dX10_coinsNow_58 ?_
          refine tw_nmi (fun v89 ev89 => ?_)
          refine tw_iload 0 dX10_coinsNow_59 rfl ?_
          refine tw_iadd dX10_coinsNow_61 ?_
          refine tw_nmi (fun v90 ev90 => ?_)
          refine tw_istore [(4, .int v90), (8, .int v88), (0, .ref x), (1, .int (nI a)), (2, .int (nI l)), (3, .ref b69), (5, .ref b69), (6, .int (nI 5)), (7, .int (nI k77))] dX10_coinsNow_62 (by decide) rfl ?_
          obtain ⟨v91, ev91⟩ : ∃ y : Int32, y = (nI k77) + 1 := ⟨_, rfl⟩
          refine tw_iinc [(7, .int v91), (4, .int v90), (8, .int v88), (0, .ref x), (1, .int (nI a)), (2, .int (nI l)), (3, .ref b69), (5, .ref b69), (6, .int (nI 5))] 8 dX10_coinsNow_64 rfl (by rw [ev91]; rfl) (by decide) rfl ?_
          refine tw_goto 40 dX10_coinsNow_67 (by decide) ?_
          have qv91 := tw_nI3 ev91
          rw [qv91]
          refine tw_lv [3, 4, 5, 6, 1, 7, 8, 0] rfl ?_
          exact ih79 (k77 + 1) v90 (by omega) (by omega)
    refine tw_lv [5, 6, 7, 4, 3, 2, 1, 0] rfl ?_
    exact L80 (5 + 1) 0 0 (by omega) (by omega)

set_option maxHeartbeats 4000000 in
set_option maxRecDepth 100000 in
theorem c_X10_coins (d : tw_D) (g : tw_G) (τ : tw_K) (h : tw_H) (hw : tw_wt d g τ h) (x : Nat) (kx : τ x = 36) (n : Int32) (am : Int32) : tw_Ct d mX10_coins 500 2500 [.ref x, .int n, .int am] h (tw_qi (fun r h1 => tw_sp d τ h g τ h1) tw_nx) := by
  refine tw_of (by decide +kernel) (Nat.le_of_ble_eq_true rfl) ?_
  show tw_W d mX10_coins _ 0 [(0, .ref x), (1, .int n), (2, .int am)] [] h 500 2500
  have sp0 := tw_sp.rf hw
  refine tw_aload_n 0 dX10_coins_0 rfl rfl ?_
  refine tw_aload_n 0 dX10_coins_1 rfl rfl ?_
  refine tw_iload_n 1 dX10_coins_2 rfl rfl ?_
  obtain ⟨e1, f2, th_3, td_4, ds_5, fr_6, ca_7, us_8, wo_9, cm_10, lc_11, lh_12, ld_13, rfl, k14, k15, k16, k17, k18, k19, k20, k21, k22, k23, k24, k25, k26, k27, k28, k29, k30, k31⟩ := sp0.1 x 36 kx (by decide)
  refine tw_bi (tw_callV (M := mX10_coins) (pc := 3) okX10_isNoCountry dX10_coins_3 w_1292 rfl f2 [.int n] [.ref x] rfl rfl ⟨by decide, by decide⟩ (Nat.le_of_ble_eq_true rfl) (c_X10_isNoCountry d g τ h sp0.1 x kx n) 500 2500 (Nat.le_of_ble_eq_true rfl) (Nat.le_of_ble_eq_true rfl)) (fun r34 h33 q32 => ?_) (fun E h1 q => q.elim)
  obtain ⟨q32e, q32d⟩ := q32
  rw [q32e]
  rcases q32d with q32r | ⟨q32r, j35, q32j, q32k⟩
  · rw [q32r]
    refine tw_iconst (v := 1) dX10_coins_6 (by decide) ?_
    refine tw_bi (tw_callV (M := mX10_coins) (pc := 7) okX10_start dX10_coins_7 w_1200 rfl f2 [.int 1, .int 1] [] rfl rfl ⟨by decide, by decide⟩ (Nat.le_of_ble_eq_true rfl) (c_X10_start d g τ h sp0.1 x kx 1 1 (by decide)) 500 2500 (Nat.le_of_ble_eq_true rfl) (Nat.le_of_ble_eq_true rfl)) (fun r38 h37 q36 => ?_) (fun E h1 q => q.elim)
    obtain ⟨e39, he40, hs41, hr42, h343⟩ := q36
    have sp44 : tw_sp d τ h g τ h37 := by rw [he40]; exact sp0.set kx (by decide) hs41
    rcases hr42 with ei45 | ⟨ei45, ei45b⟩
    · rw [ei45]
      refine tw_if_ne 37 dX10_coins_10 (by decide) (fun _ => ?_) (fun c46 => absurd c46 (by decide))
      refine tw_iconst (v := 0) dX10_coins_37 (by decide) ?_
      refine tw_goto 47 dX10_coins_38 (by decide) ?_
      exact tw_iret dX10_coins_47 rfl (Or.inl ⟨_, rfl, sp44⟩)
    · exact absurd ei45b (by decide)
  · rw [q32r]
    subst q32k
    refine tw_iconst (v := 1) dX10_coins_6 (by decide) ?_
    refine tw_bi (tw_callV (M := mX10_coins) (pc := 7) okX10_start dX10_coins_7 w_1200 rfl f2 [.int 0, .int 1] [] rfl rfl ⟨by decide, by decide⟩ (Nat.le_of_ble_eq_true rfl) (c_X10_start d g τ h sp0.1 x kx 0 1 (by decide)) 500 2500 (Nat.le_of_ble_eq_true rfl) (Nat.le_of_ble_eq_true rfl)) (fun r49 h48 q47 => ?_) (fun E h1 q => q.elim)
    obtain ⟨e50, he51, hs52, hr53, h354⟩ := q47
    have sp55 : tw_sp d τ h g τ h48 := by rw [he51]; exact sp0.set kx (by decide) hs52
    rcases hr53 with ei56 | ⟨ei56, ei56b⟩
    · rw [ei56]
      refine tw_if_ne 37 dX10_coins_10 (by decide) (fun _ => ?_) (fun c57 => absurd c57 (by decide))
      refine tw_iconst (v := 0) dX10_coins_37 (by decide) ?_
      refine tw_goto 47 dX10_coins_38 (by decide) ?_
      exact tw_iret dX10_coins_47 rfl (Or.inl ⟨_, rfl, sp55⟩)
    · rw [ei56]
      refine tw_if_ne 37 dX10_coins_10 (by decide) (fun c58 => absurd (by decide) c58) (fun _ => ?_)
      refine tw_aload_n 0 dX10_coins_13 rfl rfl ?_
      refine tw_iload_n 2 dX10_coins_14 rfl rfl ?_
      refine tw_iconst (v := 1) dX10_coins_15 (by decide) ?_
      refine tw_sipush (v := 400) dX10_coins_16 (by decide) ?_
      refine tw_bi (tw_callS (M := mX10_coins) (pc := 19) okX10_isIn dX10_coins_19 w_1196 [.int am, .int 1, .int 400] [.ref x] rfl rfl ⟨by decide, by decide⟩ (Nat.le_of_ble_eq_true rfl) (c_X10_isIn d g τ h48 sp55.1 am 1 400) 500 2500 (Nat.le_of_ble_eq_true rfl) (Nat.le_of_ble_eq_true rfl)) (fun r61 h60 q59 => ?_) (fun E h1 q => q.elim)
      obtain ⟨q59e, q59d⟩ := q59
      rw [q59e]
      rcases q59d with ⟨q59r, q59n⟩ | ⟨q59r, q59a, q59b⟩
      · rw [q59r]
        refine tw_if_ne 29 dX10_coins_22 (by decide) (fun c62 => absurd (by decide) c62) (fun _ => ?_)
        refine tw_iconst (v := 1) dX10_coins_25 (by decide) ?_
        refine tw_goto 30 dX10_coins_26 (by decide) ?_
        refine tw_iconst (v := 2) dX10_coins_30 (by decide) ?_
        obtain ⟨e63, f64, th_65, td_66, ds_67, fr_68, ca_69, us_70, wo_71, cm_72, lc_73, lh_74, ld_75, rfl, k76, k77, k78, k79, k80, k81, k82, k83, k84, k85, k86, k87, k88, k89, k90, k91, k92, k93⟩ := sp55.1 x 36 kx (by decide)
        refine tw_bi (tw_callV (M := mX10_coins) (pc := 31) okX10_refuse dX10_coins_31 w_1204 rfl f64 [.int 1, .int 2] [] rfl rfl ⟨by decide, by decide⟩ (Nat.le_of_ble_eq_true rfl) (c_X10_refuse d g τ h48 sp55.1 x kx 1 2 (by decide)) 500 2500 (Nat.le_of_ble_eq_true rfl) (Nat.le_of_ble_eq_true rfl)) (fun r96 h95 q94 => ?_) (fun E h1 q => q.elim)
        obtain ⟨e97, he98, hs99, hr100, h3101⟩ := q94
        have sp102 : tw_sp d τ h g τ h95 := by rw [he98]; exact sp55.set kx (by decide) hs99
        rcases hr100 with ei103 | ⟨ei103, ei103b⟩
        · rw [ei103]
          refine tw_if_eq 41 dX10_coins_34 (by decide) (fun c104 => absurd c104 (by decide)) (fun _ => ?_)
          refine tw_iconst (v := 0) dX10_coins_37 (by decide) ?_
          refine tw_goto 47 dX10_coins_38 (by decide) ?_
          exact tw_iret dX10_coins_47 rfl (Or.inl ⟨_, rfl, sp102⟩)
        · exact absurd ei103b (by decide)
      · rw [q59r]
        refine tw_if_ne 29 dX10_coins_22 (by decide) (fun _ => ?_) (fun c105 => absurd c105 (by decide))
        refine tw_iconst (v := 0) dX10_coins_29 (by decide) ?_
        refine tw_iconst (v := 2) dX10_coins_30 (by decide) ?_
        obtain ⟨e106, f107, th_108, td_109, ds_110, fr_111, ca_112, us_113, wo_114, cm_115, lc_116, lh_117, ld_118, rfl, k119, k120, k121, k122, k123, k124, k125, k126, k127, k128, k129, k130, k131, k132, k133, k134, k135, k136⟩ := sp55.1 x 36 kx (by decide)
        refine tw_bi (tw_callV (M := mX10_coins) (pc := 31) okX10_refuse dX10_coins_31 w_1204 rfl f107 [.int 0, .int 2] [] rfl rfl ⟨by decide, by decide⟩ (Nat.le_of_ble_eq_true rfl) (c_X10_refuse d g τ h48 sp55.1 x kx 0 2 (by decide)) 500 2500 (Nat.le_of_ble_eq_true rfl) (Nat.le_of_ble_eq_true rfl)) (fun r139 h138 q137 => ?_) (fun E h1 q => q.elim)
        obtain ⟨e140, he141, hs142, hr143, h3144⟩ := q137
        have sp145 : tw_sp d τ h g τ h138 := by rw [he141]; exact sp55.set kx (by decide) hs142
        rcases hr143 with ei146 | ⟨ei146, ei146b⟩
        · rw [ei146]
          refine tw_if_eq 41 dX10_coins_34 (by decide) (fun c147 => absurd c147 (by decide)) (fun _ => ?_)
          refine tw_iconst (v := 0) dX10_coins_37 (by decide) ?_
          refine tw_goto 47 dX10_coins_38 (by decide) ?_
          exact tw_iret dX10_coins_47 rfl (Or.inl ⟨_, rfl, sp145⟩)
        · rw [ei146]
          refine tw_if_eq 41 dX10_coins_34 (by decide) (fun _ => ?_) (fun c148 => absurd (by decide) c148)
          refine tw_aload_n 0 dX10_coins_41 rfl rfl ?_
          refine tw_iload_n 1 dX10_coins_42 rfl rfl ?_
          refine tw_iload_n 2 dX10_coins_43 rfl rfl ?_
          obtain ⟨l149, hl150, el151⟩ := tw_l400 q59a q59b
          subst el151
          obtain ⟨e152, f153, th_154, td_155, ds_156, fr_157, ca_158, us_159, wo_160, cm_161, lc_162, lh_163, ld_164, rfl, k165, k166, k167, k168, k169, k170, k171, k172, k173, k174, k175, k176, k177, k178, k179, k180, k181, k182⟩ := sp145.1 x 36 kx (by decide)
          refine tw_bi (tw_callV okX10_coinsNow dX10_coins_44 w_1497 rfl f153 [.int (nI j35), .int (nI l149)] [] rfl rfl ⟨by decide, by decide⟩ (Nat.le_of_ble_eq_true rfl) (c_X10_coinsNow d g τ h138 sp145.1 x kx j35 l149 (by omega) hl150) 0 0 (by have := tw_w5 hl150; omega) (by have := tw_w5 hl150; omega)) (fun r185 h184 q183 => ?_) (fun E h1 q => q.elim)
          have sp186 := sp145.tr q183
          exact tw_iret dX10_coins_47 rfl (Or.inl ⟨_, rfl, sp186⟩)

set_option maxHeartbeats 4000000 in
set_option maxRecDepth 100000 in
theorem c_X10_digest (d : tw_D) (g : tw_G) (τ : tw_K) (h : tw_H) (hw : tw_wt d g τ h) (x : Nat) (kx : τ x = 36) : tw_Ct d mX10_digest 866 4596 [.ref x] h (tw_ql (fun r h1 => tw_sp d τ h g τ h1) tw_nx) := by
  refine tw_of (by decide +kernel) (Nat.le_of_ble_eq_true rfl) ?_
  show tw_W d mX10_digest _ 0 [(0, .ref x)] [] h 866 4596
  have sp0 := tw_sp.rf hw
  refine tw_aload_n 0 dX10_digest_0 rfl rfl ?_
  refine tw_iconst (v := 0) dX10_digest_1 (by decide) ?_
  obtain ⟨e1, f2, th_3, td_4, ds_5, fr_6, ca_7, us_8, wo_9, cm_10, lc_11, lh_12, ld_13, rfl, k14, k15, k16, k17, k18, k19, k20, k21, k22, k23, k24, k25, k26, k27, k28, k29, k30, k31⟩ := sp0.1 x 36 kx (by decide)
  refine tw_put rfl in_14 tyX10 tyX10_ok nmX10 0 dX10_digest_2 w_1151 rfl (by decide) f2 rfl rfl rfl rfl (Nat.le_of_ble_eq_true rfl) [.int 0, .int td_4, .int (g.1 1), .ref ds_5, .ref fr_6, .ref ca_7, .ref us_8, .ref wo_9, .ref cm_10, .ref lc_11, .ref lh_12, .ref ld_13] rfl ?_
  obtain ⟨h32, eh32⟩ : ∃ z : tw_H, z = tw_up h x (.inr (14, [.int 0, .int td_4, .int (g.1 1), .ref ds_5, .ref fr_6, .ref ca_7, .ref us_8, .ref wo_9, .ref cm_10, .ref lc_11, .ref lh_12, .ref ld_13])) := ⟨_, rfl⟩
  rw [← eh32]
  have sp33 : tw_sp d τ h g τ h32 := by rw [eh32]; exact sp0.set kx (by decide) ⟨0, td_4, ds_5, fr_6, ca_7, us_8, wo_9, cm_10, lc_11, lh_12, ld_13, rfl, k14, k15, k16, k17, k18, k19, k20, k21, k22, k23, k24, k25, k26, (by decide), k28, k29, k30, k31⟩
  have f34 : h32 x = some (.inr (14, [.int 0, .int td_4, .int (g.1 1), .ref ds_5, .ref fr_6, .ref ca_7, .ref us_8, .ref wo_9, .ref cm_10, .ref lc_11, .ref lh_12, .ref ld_13])) := by rw [eh32]; exact tw_up_s
  refine tw_ldc2 (v := 5573) dX10_digest_5 w_1597 ?_
  refine tw_lstore_n [(1, .long 5573), (0, .ref x)] dX10_digest_8 rfl (by decide) rfl ?_
  refine tw_lload_n 0 dX10_digest_9 rfl rfl ?_
  refine tw_ldc2 (v := 31) dX10_digest_10 w_1598 ?_
  refine tw_lmul dX10_digest_13 ?_
  refine tw_nml (fun v35 ev35 => ?_)
  refine tw_aload_n 1 dX10_digest_14 rfl rfl ?_
  refine tw_get (v := .int td_4) rfl in_14 1 dX10_digest_15 w_1152 rfl (by decide) f34 rfl ?_
  refine tw_i2l dX10_digest_18 ?_
  refine tw_nml (fun v36 ev36 => ?_)
  refine tw_ladd dX10_digest_19 ?_
  refine tw_nml (fun v37 ev37 => ?_)
  refine tw_lstore_n [(1, .long v37), (0, .ref x)] dX10_digest_20 rfl (by decide) rfl ?_
  refine tw_lload_n 0 dX10_digest_21 rfl rfl ?_
  refine tw_ldc2 (v := 31) dX10_digest_22 w_1598 ?_
  refine tw_lmul dX10_digest_25 ?_
  refine tw_nml (fun v38 ev38 => ?_)
  refine tw_aload_n 1 dX10_digest_26 rfl rfl ?_
  refine tw_get (v := .int (g.1 1)) rfl in_14 2 dX10_digest_27 w_1153 rfl (by decide) f34 rfl ?_
  refine tw_i2l dX10_digest_30 ?_
  refine tw_nml (fun v39 ev39 => ?_)
  refine tw_ladd dX10_digest_31 ?_
  refine tw_nml (fun v40 ev40 => ?_)
  refine tw_lstore_n [(1, .long v40), (0, .ref x)] dX10_digest_32 rfl (by decide) rfl ?_
  refine tw_iconst (v := 0) dX10_digest_33 (by decide) ?_
  refine tw_istore_n [(3, .int 0), (1, .long v40), (0, .ref x)] dX10_digest_34 rfl (by decide) rfl ?_
  have L45 : ∀ (r43 k42 : Nat) (x41 : Int64) (h46 : tw_H) (sp47 : tw_sp d τ h32 g τ h46), 2 + 1 ≤ k42 + r43 → k42 ≤ 2 → tw_W d mX10_digest (tw_ql (fun r h1 => tw_sp d τ h g τ h1) tw_nx) 35 [(0, .ref x), (1, .long x41), (3, .int (nI k42))] [] h46 (803 + 21 * r43) (4302 + 98 * r43) := by
    intro r43
    induction r43 with
    | zero => intro k42 x41 h46 sp47 hk49 hk50; exact absurd hk49 (by omega)
    | succ r43 ih44 =>
      intro k42 x41 h46 sp47 hk49 hk50
      refine tw_iload_n 2 dX10_digest_35 rfl rfl ?_
      refine tw_iconst (v := 2) dX10_digest_36 (by decide) ?_
      refine tw_icmp_ge 76 dX10_digest_37 (by decide) (fun c51 => ?_) (fun c51 => ?_)
      · refine tw_iconst (v := 0) dX10_digest_76 (by decide) ?_
        refine tw_istore_n [(3, .int 0), (0, .ref x), (1, .long x41)] dX10_digest_77 rfl (by decide) rfl ?_
        have L56 : ∀ (r54 k53 : Nat) (x52 : Int64) (h57 : tw_H) (sp58 : tw_sp d τ h46 g τ h57), (g.2 3) + 1 ≤ k53 + r54 → k53 ≤ (g.2 3) → tw_W d mX10_digest (tw_ql (fun r h1 => tw_sp d τ h g τ h1) tw_nx) 78 [(0, .ref x), (1, .long x52), (3, .int (nI k53))] [] h57 (((803 + 21 * (r43 + 1)) - 570) + 114 * r54) (((4302 + 98 * (r43 + 1)) - 2950) + 590 * r54) := by
          intro r54
          induction r54 with
          | zero => intro k53 x52 h57 sp58 hk60 hk61; exact absurd hk60 (by omega)
          | succ r54 ih55 =>
            intro k53 x52 h57 sp58 hk60 hk61
            refine tw_iload_n 2 dX10_digest_78 rfl rfl ?_
            refine tw_aload_n 0 dX10_digest_79 rfl rfl ?_
            obtain ⟨e62, f63, th_64, td_65, ds_66, fr_67, ca_68, us_69, wo_70, cm_71, lc_72, lh_73, ld_74, rfl, k75, k76, k77, k78, k79, k80, k81, k82, k83, k84, k85, k86, k87, k88, k89, k90, k91, k92⟩ := sp58.1 x 36 kx (by decide)
            refine tw_get (v := .ref lc_72) rfl in_14 9 dX10_digest_80 w_1160 rfl (by decide) f63 rfl ?_
            obtain ⟨e93, f94, ⟨el95, rfl, k96⟩, k97⟩ := sp58.1 lc_72 24 k81 (by decide)
            refine tw_bi (tw_callV (M := mX10_digest) (pc := 83) okJx4a65c_size_8abf5 dX10_digest_83 w_1208 rfl f94 [] [.int (nI k53)] rfl rfl ⟨by decide, by decide⟩ (Nat.le_of_ble_eq_true rfl) (c24_size d g τ h57 sp58.1 lc_72 k81) (((803 + 21 * (r43 + 1)) - 570) + 114 * (r54 + 1)) (((4302 + 98 * (r43 + 1)) - 2950) + 590 * (r54 + 1)) (by omega) (by omega)) (fun r100 h99 q98 => ?_) (fun E h1 q => q.elim)
            obtain ⟨q98e, q98r⟩ := q98
            rw [q98e, q98r]
            refine tw_icmp_ge 206 dX10_digest_86 (by decide) (fun c101 => ?_) (fun c101 => ?_)
            · refine tw_iconst (v := 0) dX10_digest_206 (by decide) ?_
              refine tw_istore_n [(3, .int 0), (0, .ref x), (1, .long x52)] dX10_digest_207 rfl (by decide) rfl ?_
              have L106 : ∀ (r104 k103 : Nat) (x102 : Int64) (h107 : tw_H) (sp108 : tw_sp d τ h57 g τ h107), (g.2 4) + 1 ≤ k103 + r104 → k103 ≤ (g.2 4) → tw_W d mX10_digest (tw_ql (fun r h1 => tw_sp d τ h g τ h1) tw_nx) 208 [(0, .ref x), (1, .long x102), (3, .int (nI k103))] [] h107 (((((803 + 21 * (r43 + 1)) - 570) + 114 * (r54 + 1)) - 126) + 18 * r104) (((((4302 + 98 * (r43 + 1)) - 2950) + 590 * (r54 + 1)) - 756) + 108 * r104) := by
                intro r104
                induction r104 with
                | zero => intro k103 x102 h107 sp108 hk110 hk111; exact absurd hk110 (by omega)
                | succ r104 ih105 =>
                  intro k103 x102 h107 sp108 hk110 hk111
                  refine tw_iload_n 2 dX10_digest_208 rfl rfl ?_
                  refine tw_aload_n 0 dX10_digest_209 rfl rfl ?_
                  obtain ⟨e112, f113, th_114, td_115, ds_116, fr_117, ca_118, us_119, wo_120, cm_121, lc_122, lh_123, ld_124, rfl, k125, k126, k127, k128, k129, k130, k131, k132, k133, k134, k135, k136, k137, k138, k139, k140, k141, k142⟩ := sp108.1 x 36 kx (by decide)
                  refine tw_get (v := .ref lh_123) rfl in_14 10 dX10_digest_210 w_1161 rfl (by decide) f113 rfl ?_
                  obtain ⟨e143, f144, ⟨el145, rfl, k146⟩, k147⟩ := sp108.1 lh_123 25 k132 (by decide)
                  refine tw_bi (tw_callV (M := mX10_digest) (pc := 213) okJx4a65c_size_8abf5 dX10_digest_213 w_1208 rfl f144 [] [.int (nI k103)] rfl rfl ⟨by decide, by decide⟩ (Nat.le_of_ble_eq_true rfl) (c25_size d g τ h107 sp108.1 lh_123 k132) (((((803 + 21 * (r43 + 1)) - 570) + 114 * (r54 + 1)) - 126) + 18 * (r104 + 1)) (((((4302 + 98 * (r43 + 1)) - 2950) + 590 * (r54 + 1)) - 756) + 108 * (r104 + 1)) (by omega) (by omega)) (fun r150 h149 q148 => ?_) (fun E h1 q => q.elim)
                  obtain ⟨q148e, q148r⟩ := q148
                  rw [q148e, q148r]
                  refine tw_icmp_ge 256 dX10_digest_216 (by decide) (fun c151 => ?_) (fun c151 => ?_)
                  · refine tw_aload_n 0 dX10_digest_256 rfl rfl ?_
                    refine tw_get (v := .ref ld_124) rfl in_14 11 dX10_digest_257 w_1162 rfl (by decide) f113 rfl ?_
                    obtain ⟨e152, f153, ⟨el154, rfl, k155⟩, k156⟩ := sp108.1 ld_124 26 k133 (by decide)
                    refine tw_br (tw_callV (M := mX10_digest) (pc := 260) okJx4a65c_iterator_32c93 dX10_digest_260 w_1386 rfl f153 [] [] rfl rfl ⟨by decide, by decide⟩ (Nat.le_of_ble_eq_true rfl) (c_iterator d h107 ld_124 el154 (g.1 5) (nI (g.2 5)) f153) ((((((803 + 21 * (r43 + 1)) - 570) + 114 * (r54 + 1)) - 126) + 18 * (r104 + 1)) - 1) ((((((4302 + 98 * (r43 + 1)) - 2950) + 590 * (r54 + 1)) - 756) + 108 * (r104 + 1)) - 4) (by omega) (by omega)) (fun it157 h158 q159 => ?_) (fun E h1 q => q.elim)
                    obtain ⟨q159n, q159e⟩ := q159
                    rw [q159e]
                    have n160 := sp108.nn q159n
                    have z161 := sp108.1.none q159n
                    obtain ⟨h162, eh162⟩ : ∃ z : tw_H, z = tw_up h107 it157 (.inr (2, [.int 0, .int (-1), .int (g.1 5), .ref ld_124])) := ⟨_, rfl⟩
                    rw [← eh162]
                    have sp163 : tw_sp d τ h57 g τ h162 := by rw [eh162]; exact sp108.mk q159n
                    have f164 : h162 it157 = some (.inr (2, [.int 0, .int (-1), .int (g.1 5), .ref ld_124])) := by rw [eh162]; exact tw_up_s
                    refine tw_astore_n [(3, .ref it157), (0, .ref x), (1, .long x102)] dX10_digest_263 rfl (by decide) rfl ?_
                    have L170 : ∀ (r166 j167 : Nat) (l168 : Int32) (x165 : Int64) (h171 : tw_H) (sp172 : tw_sp d τ (tw_rm h162 it157) g τ h171) (ft173 : h171 it157 = some (.inr (2, [.int (nI j167), .int l168, .int (g.1 5), .ref ld_124]))) (zt174 : τ it157 = 0), g.2 5 + 1 ≤ j167 + r166 → j167 ≤ g.2 5 → tw_W d mX10_digest (tw_ql (fun r h1 => tw_sp d τ h g τ h1) tw_nx) 264 [(0, .ref x), (1, .long x165), (3, .ref it157)] [] h171 ((((((((803 + 21 * (r43 + 1)) - 570) + 114 * (r54 + 1)) - 126) + 18 * (r104 + 1)) - 1) - 44) + 4 * r166) ((((((((4302 + 98 * (r43 + 1)) - 2950) + 590 * (r54 + 1)) - 756) + 108 * (r104 + 1)) - 4) - 308) + 28 * r166) := by
                      intro r166
                      induction r166 with
                      | zero => intro j167 l168 x165 h171 sp172 ft173 zt174 hk175 hk176; exact absurd hk175 (by omega)
                      | succ r166 ih169 =>
                        intro j167 l168 x165 h171 sp172 ft173 zt174 hk175 hk176
                        refine tw_aload_n 2 dX10_digest_264 rfl rfl ?_
                        obtain ⟨e177, f178, ⟨el179, rfl, k180⟩, k181⟩ := sp172.1 ld_124 26 k133 (by decide)
                        refine tw_bi (tw_callF (M := mX10_digest) (pc := 265) (n9 := 0) (ci := 2) tw_hasNext ok_itHas w_1416 w_1414 (fun s H z => z.2.2.2.2.2.2.2.2.1) (by decide +kernel) dX10_digest_265 w_1410 rfl ft173 [] [] rfl rfl ⟨by decide, by decide⟩ (Nat.le_of_ble_eq_true rfl) (c_hasNext d h171 it157 ld_124 el179 j167 (g.2 5) l168 (g.1 5) (g.1 5) ft173 f178 (by omega) (tw_lim26 sp172.1 k133)) ((((((((803 + 21 * (r43 + 1)) - 570) + 114 * (r54 + 1)) - 126) + 18 * (r104 + 1)) - 1) - 44) + 4 * (r166 + 1)) ((((((((4302 + 98 * (r43 + 1)) - 2950) + 590 * (r54 + 1)) - 756) + 108 * (r104 + 1)) - 4) - 308) + 28 * (r166 + 1)) (by omega) (by omega)) (fun r184 h183 q182 => ?_) (fun E h1 q => q.elim)
                        obtain ⟨q182e, q182q⟩ := q182
                        rw [q182e]
                        rcases q182q with ⟨q182r, q182j⟩ | ⟨q182r, q182j⟩
                        · rw [q182r]
                          refine tw_if_eq 319 dX10_digest_270 (by decide) (fun _ => ?_) (fun c185 => absurd (by decide) c185)
                          refine tw_lload_n 1 dX10_digest_319 rfl rfl ?_
                          refine tw_ldc2 (v := 31) dX10_digest_320 w_1598 ?_
                          refine tw_lmul dX10_digest_323 ?_
                          refine tw_nml (fun v186 ev186 => ?_)
                          refine tw_aload_n 0 dX10_digest_324 rfl rfl ?_
                          refine tw_sipush (v := 1000) dX10_digest_325 (by decide) ?_
                          obtain ⟨e187, f188, th_189, td_190, ds_191, fr_192, ca_193, us_194, wo_195, cm_196, lc_197, lh_198, ld_199, rfl, k200, k201, k202, k203, k204, k205, k206, k207, k208, k209, k210, k211, k212, k213, k214, k215, k216, k217⟩ := sp172.1 x 36 kx (by decide)
                          refine tw_bi (tw_callV (M := mX10_digest) (pc := 328) okX10_restNow dX10_digest_328 w_1573 rfl f188 [.int 1000] [.long v186] rfl rfl ⟨by decide, by decide⟩ (Nat.le_of_ble_eq_true rfl) (c_X10_restNow d g τ h171 sp172.1 x kx 1000) ((((((((803 + 21 * (r43 + 1)) - 570) + 114 * (r54 + 1)) - 126) + 18 * (r104 + 1)) - 1) - 44) + 4 * (r166 + 1)) ((((((((4302 + 98 * (r43 + 1)) - 2950) + 590 * (r54 + 1)) - 756) + 108 * (r104 + 1)) - 4) - 308) + 28 * (r166 + 1)) (by omega) (by omega)) (fun r220 h219 q218 => ?_) (fun E h1 q => q.elim)
                          obtain ⟨q218e, p221⟩ := q218
                          rw [q218e]
                          refine tw_if_eq 338 dX10_digest_331 (by decide) (fun c222 => ?_) (fun c222 => ?_)
                          · refine tw_iconst (v := 0) dX10_digest_338 (by decide) ?_
                            refine tw_i2l dX10_digest_339 ?_
                            refine tw_nml (fun v223 ev223 => ?_)
                            refine tw_ladd dX10_digest_340 ?_
                            refine tw_nml (fun v224 ev224 => ?_)
                            refine tw_lstore_n [(1, .long v224), (0, .ref x), (3, .ref it157)] dX10_digest_341 rfl (by decide) rfl ?_
                            refine tw_lload_n 0 dX10_digest_342 rfl rfl ?_
                            refine tw_ldc2 (v := 31) dX10_digest_343 w_1598 ?_
                            refine tw_lmul dX10_digest_346 ?_
                            refine tw_nml (fun v225 ev225 => ?_)
                            refine tw_aload_n 1 dX10_digest_347 rfl rfl ?_
                            refine tw_bi (tw_callV (M := mX10_digest) (pc := 348) okX10_isSoundNow dX10_digest_348 w_1589 rfl f188 [] [.long v225] rfl rfl ⟨by decide, by decide⟩ (Nat.le_of_ble_eq_true rfl) (c_X10_isSoundNow d g τ h171 sp172.1 x kx) (((((((((803 + 21 * (r43 + 1)) - 570) + 114 * (r54 + 1)) - 126) + 18 * (r104 + 1)) - 1) - 44) + 4 * (r166 + 1)) - 62) (((((((((4302 + 98 * (r43 + 1)) - 2950) + 590 * (r54 + 1)) - 756) + 108 * (r104 + 1)) - 4) - 308) + 28 * (r166 + 1)) - 284) (by omega) (by omega)) (fun r228 h227 q226 => ?_) (fun E h1 q => q.elim)
                            obtain ⟨q226s, p230⟩ := q226
                            have sp229 := sp172.tr q226s
                            have f231 := (q226s.2.2 _ _ ft173 zt174).1
                            refine tw_if_eq 358 dX10_digest_351 (by decide) (fun c232 => ?_) (fun c232 => ?_)
                            · refine tw_iconst (v := 0) dX10_digest_358 (by decide) ?_
                              refine tw_i2l dX10_digest_359 ?_
                              refine tw_nml (fun v233 ev233 => ?_)
                              refine tw_ladd dX10_digest_360 ?_
                              refine tw_nml (fun v234 ev234 => ?_)
                              exact tw_lret dX10_digest_361 rfl (Or.inl ⟨_, rfl, (sp33.tr (sp47.tr (sp58.tr (sp163.trm n160 sp229))))⟩)
                            · refine tw_iconst (v := 1) dX10_digest_354 (by decide) ?_
                              refine tw_goto 359 dX10_digest_355 (by decide) ?_
                              refine tw_i2l dX10_digest_359 ?_
                              refine tw_nml (fun v235 ev235 => ?_)
                              refine tw_ladd dX10_digest_360 ?_
                              refine tw_nml (fun v236 ev236 => ?_)
                              exact tw_lret dX10_digest_361 rfl (Or.inl ⟨_, rfl, (sp33.tr (sp47.tr (sp58.tr (sp163.trm n160 sp229))))⟩)
                          · refine tw_iconst (v := 1) dX10_digest_334 (by decide) ?_
                            refine tw_goto 339 dX10_digest_335 (by decide) ?_
                            refine tw_i2l dX10_digest_339 ?_
                            refine tw_nml (fun v237 ev237 => ?_)
                            refine tw_ladd dX10_digest_340 ?_
                            refine tw_nml (fun v238 ev238 => ?_)
                            refine tw_lstore_n [(1, .long v238), (0, .ref x), (3, .ref it157)] dX10_digest_341 rfl (by decide) rfl ?_
                            refine tw_lload_n 0 dX10_digest_342 rfl rfl ?_
                            refine tw_ldc2 (v := 31) dX10_digest_343 w_1598 ?_
                            refine tw_lmul dX10_digest_346 ?_
                            refine tw_nml (fun v239 ev239 => ?_)
                            refine tw_aload_n 1 dX10_digest_347 rfl rfl ?_
                            refine tw_bi (tw_callV (M := mX10_digest) (pc := 348) okX10_isSoundNow dX10_digest_348 w_1589 rfl f188 [] [.long v239] rfl rfl ⟨by decide, by decide⟩ (Nat.le_of_ble_eq_true rfl) (c_X10_isSoundNow d g τ h171 sp172.1 x kx) (((((((((803 + 21 * (r43 + 1)) - 570) + 114 * (r54 + 1)) - 126) + 18 * (r104 + 1)) - 1) - 44) + 4 * (r166 + 1)) - 62) (((((((((4302 + 98 * (r43 + 1)) - 2950) + 590 * (r54 + 1)) - 756) + 108 * (r104 + 1)) - 4) - 308) + 28 * (r166 + 1)) - 284) (by omega) (by omega)) (fun r242 h241 q240 => ?_) (fun E h1 q => q.elim)
                            obtain ⟨q240s, p244⟩ := q240
                            have sp243 := sp172.tr q240s
                            have f245 := (q240s.2.2 _ _ ft173 zt174).1
                            refine tw_if_eq 358 dX10_digest_351 (by decide) (fun c246 => ?_) (fun c246 => ?_)
                            · refine tw_iconst (v := 0) dX10_digest_358 (by decide) ?_
                              refine tw_i2l dX10_digest_359 ?_
                              refine tw_nml (fun v247 ev247 => ?_)
                              refine tw_ladd dX10_digest_360 ?_
                              refine tw_nml (fun v248 ev248 => ?_)
                              exact tw_lret dX10_digest_361 rfl (Or.inl ⟨_, rfl, (sp33.tr (sp47.tr (sp58.tr (sp163.trm n160 sp243))))⟩)
                            · refine tw_iconst (v := 1) dX10_digest_354 (by decide) ?_
                              refine tw_goto 359 dX10_digest_355 (by decide) ?_
                              refine tw_i2l dX10_digest_359 ?_
                              refine tw_nml (fun v249 ev249 => ?_)
                              refine tw_ladd dX10_digest_360 ?_
                              refine tw_nml (fun v250 ev250 => ?_)
                              exact tw_lret dX10_digest_361 rfl (Or.inl ⟨_, rfl, (sp33.tr (sp47.tr (sp58.tr (sp163.trm n160 sp243))))⟩)
                        · rw [q182r]
                          refine tw_if_eq 319 dX10_digest_270 (by decide) (fun c251 => absurd c251 (by decide)) (fun _ => ?_)
                          refine tw_aload_n 2 dX10_digest_273 rfl rfl ?_
                          have k252 : τ el179 = 29 := k180.resolve_left (fun q => absurd q182j (by rw [q.2.1]; exact Nat.not_lt_zero _))
                          obtain ⟨e253, f254, ⟨F255, rfl, hc256, hc257⟩, un258⟩ := sp172.1 el179 29 k252 (by decide)
                          obtain ⟨y259, hy260, ky261⟩ := hc257 j167 q182j
                          refine tw_br (tw_callF (M := mX10_digest) (pc := 274) (n9 := 0) (ci := 2) tw_next ok_itNext w_1425 w_1423 (fun s H z => z.2.2.2.2.2.2.2.2.2) (by decide +kernel) dX10_digest_274 w_1420 rfl ft173 [] [] rfl rfl ⟨by decide, by decide⟩ (Nat.le_of_ble_eq_true rfl) (c_next d h171 it157 ld_124 el179 j167 (g.2 5) y259 l168 (g.1 5) F255 ft173 f178 f254 q182j hc256 hy260) ((((((((803 + 21 * (r43 + 1)) - 570) + 114 * (r54 + 1)) - 126) + 18 * (r104 + 1)) - 1) - 44) + 4 * (r166 + 1)) ((((((((4302 + 98 * (r43 + 1)) - 2950) + 590 * (r54 + 1)) - 756) + 108 * (r104 + 1)) - 4) - 308) + 28 * (r166 + 1)) (by omega) (by omega)) (fun r264 h263 q262 => ?_) (fun E h1 q => q.elim)
                          obtain ⟨q262r, q262e⟩ := q262
                          rw [q262r]
                          have sp265 : tw_sp d τ (tw_rm h162 it157) g τ h263 := by rw [q262e]; exact sp172.wl tw_rm_s zt174
                          have f266 : h263 it157 = some (.inr (2, [.int (nI (j167 + 1)), .int (nI j167), .int (g.1 5), .ref ld_124])) := by rw [q262e]; exact tw_up_s
                          obtain ⟨e267, f268, v_269, dy_270, pd_271, i_272, j_273, rfl, k274, k275, k276⟩ := sp265.1 y259 22 ky261 (by decide)
                          refine tw_castS (ci := 12) rfl dX10_digest_279 w_1437 f268 ?_
                          refine tw_astore [(4, .ref y259), (0, .ref x), (1, .long x165), (3, .ref it157)] dX10_digest_282 (by decide) rfl ?_
                          refine tw_iconst (v := 4) dX10_digest_284 (by decide) ?_
                          refine tw_istore [(5, .int 4), (4, .ref y259), (0, .ref x), (1, .long x165), (3, .ref it157)] dX10_digest_285 (by decide) rfl ?_
                          have L281 : ∀ (r279 k278 : Nat) (x277 : Int64) (h282 : tw_H) (sp283 : tw_sp d τ h263 g τ h282), 7 + 1 ≤ k278 + r279 → k278 ≤ 7 → tw_W d mX10_digest (tw_ql (fun r h1 => tw_sp d τ h g τ h1) tw_nx) 287 [(0, .ref x), (1, .long x277), (3, .ref it157), (4, .ref y259), (5, .int (nI k278))] [] h282 ((((((((((803 + 21 * (r43 + 1)) - 570) + 114 * (r54 + 1)) - 126) + 18 * (r104 + 1)) - 1) - 44) + 4 * (r166 + 1)) - 4) + 1 * r279) ((((((((((4302 + 98 * (r43 + 1)) - 2950) + 590 * (r54 + 1)) - 756) + 108 * (r104 + 1)) - 4) - 308) + 28 * (r166 + 1)) - 28) + 7 * r279) := by
                            intro r279
                            induction r279 with
                            | zero => intro k278 x277 h282 sp283 hk285 hk286; exact absurd hk285 (by omega)
                            | succ r279 ih280 =>
                              intro k278 x277 h282 sp283 hk285 hk286
                              have f287 := (sp283.2.2 _ _ f266 zt174).1
                              have z288 := (sp283.2.2 _ _ f266 zt174).2
                              refine tw_iload 4 dX10_digest_287 rfl ?_
                              refine tw_bipush (v := 6) dX10_digest_289 (by decide) ?_
                              refine tw_icmp_gt 316 dX10_digest_291 (by decide) (fun c289 => ?_) (fun c289 => ?_)
                              · refine tw_goto 264 dX10_digest_316 (by decide) ?_
                                refine tw_lv [0, 1, 2] rfl ?_
                                refine tw_less (c2 := (((((((803 + 21 * (r43 + 1)) - 570) + 114 * (r54 + 1)) - 126) + 18 * (r104 + 1)) - 1) - 44) + 4 * r166) (n2 := (((((((4302 + 98 * (r43 + 1)) - 2950) + 590 * (r54 + 1)) - 756) + 108 * (r104 + 1)) - 4) - 308) + 28 * r166) (by omega) (by omega) ?_
                                exact ih169 ((j167 + 1)) (nI j167) x277 _ (sp265.tr sp283) f287 z288  (by omega) (by omega)
                              · have kl290 : k278 < 7 := tw_kle (N := 7) c289 hk286 (by decide)
                                refine tw_lload_n 1 dX10_digest_294 rfl rfl ?_
                                refine tw_ldc2 (v := 31) dX10_digest_295 w_1598 ?_
                                refine tw_lmul dX10_digest_298 ?_
                                refine tw_nml (fun v291 ev291 => ?_)
                                refine tw_aload_n 0 dX10_digest_299 rfl rfl ?_
                                refine tw_aload 3 dX10_digest_300 rfl ?_
                                refine tw_iload 4 dX10_digest_302 rfl ?_
                                obtain ⟨e292, f293, th_294, td_295, ds_296, fr_297, ca_298, us_299, wo_300, cm_301, lc_302, lh_303, ld_304, rfl, k305, k306, k307, k308, k309, k310, k311, k312, k313, k314, k315, k316, k317, k318, k319, k320, k321, k322⟩ := sp283.1 x 36 kx (by decide)
                                refine tw_bi (tw_callV (M := mX10_digest) (pc := 304) okX10_ofDebtNow dX10_digest_304 w_1525 rfl f293 [.ref y259, .int (nI k278)] [.long v291] rfl rfl ⟨by decide, by decide⟩ (Nat.le_of_ble_eq_true rfl) (c_X10_ofDebtNow d g τ h282 sp283.1 x kx y259 ky261 (nI k278) (vp_in_nI (by omega) (by decide))) (((((((((((803 + 21 * (r43 + 1)) - 570) + 114 * (r54 + 1)) - 126) + 18 * (r104 + 1)) - 1) - 44) + 4 * (r166 + 1)) - 4) + 1 * (r279 + 1)) - 1) (((((((((((4302 + 98 * (r43 + 1)) - 2950) + 590 * (r54 + 1)) - 756) + 108 * (r104 + 1)) - 4) - 308) + 28 * (r166 + 1)) - 28) + 7 * (r279 + 1)) - 7) (by omega) (by omega)) (fun r325 h324 q323 => ?_) (fun E h1 q => q.elim)
                                have sp326 := sp283.tr q323
                                have f327 := (q323.2.2 _ _ f287 z288).1
                                refine tw_i2l dX10_digest_307 ?_
                                refine tw_nml (fun v329 ev329 => ?_)
                                refine tw_ladd dX10_digest_308 ?_
                                refine tw_nml (fun v330 ev330 => ?_)
                                refine tw_lstore_n [(1, .long v330), (0, .ref x), (3, .ref it157), (4, .ref y259), (5, .int (nI k278))] dX10_digest_309 rfl (by decide) rfl ?_
                                obtain ⟨v331, ev331⟩ : ∃ y : Int32, y = (nI k278) + 1 := ⟨_, rfl⟩
                                refine tw_iinc [(5, .int v331), (1, .long v330), (0, .ref x), (3, .ref it157), (4, .ref y259)] 4 dX10_digest_310 rfl (by rw [ev331]; rfl) (by decide) rfl ?_
                                refine tw_goto 287 dX10_digest_313 (by decide) ?_
                                have qv331 := tw_nI3 ev331
                                rw [qv331]
                                refine tw_lv [2, 1, 3, 4, 0] rfl ?_
                                refine tw_less (c2 := (((((((((803 + 21 * (r43 + 1)) - 570) + 114 * (r54 + 1)) - 126) + 18 * (r104 + 1)) - 1) - 44) + 4 * (r166 + 1)) - 4) + 1 * r279) (n2 := (((((((((4302 + 98 * (r43 + 1)) - 2950) + 590 * (r54 + 1)) - 756) + 108 * (r104 + 1)) - 4) - 308) + 28 * (r166 + 1)) - 28) + 7 * r279) (by omega) (by omega) ?_
                                exact ih280 (k278 + 1) v330 _ sp326 (by omega) (by omega)
                          refine tw_lv [2, 3, 4, 1, 0] rfl ?_
                          refine tw_less (c2 := (((((((((803 + 21 * (r43 + 1)) - 570) + 114 * (r54 + 1)) - 126) + 18 * (r104 + 1)) - 1) - 44) + 4 * (r166 + 1)) - 4) + 1 * 4) (n2 := (((((((((4302 + 98 * (r43 + 1)) - 2950) + 590 * (r54 + 1)) - 756) + 108 * (r104 + 1)) - 4) - 308) + 28 * (r166 + 1)) - 28) + 7 * 4) (by omega) (by omega) ?_
                          exact L281 4 4 x165 _ (tw_sp.rf sp265.1) (by omega) (by omega)
                    refine tw_lv [1, 2, 0] rfl ?_
                    refine tw_less (c2 := (((((((803 + 21 * (r43 + 1)) - 570) + 114 * (r54 + 1)) - 126) + 18 * (r104 + 1)) - 1) - 44) + 4 * 11) (n2 := (((((((4302 + 98 * (r43 + 1)) - 2950) + 590 * (r54 + 1)) - 756) + 108 * (r104 + 1)) - 4) - 308) + 28 * 11) (by omega) (by omega) ?_
                    exact L170 11 0 (-1) x102 _ (tw_sp.rm sp163.1 it157) f164 z161  (by omega) (Nat.zero_le _)
                  · have kl332 : k103 < (g.2 4) := tw_klt (N := (g.2 4)) c151 hk111 (by omega)
                    refine tw_iconst (v := 0) dX10_digest_219 (by decide) ?_
                    refine tw_istore [(4, .int 0), (0, .ref x), (1, .long x102), (3, .int (nI k103))] dX10_digest_220 (by decide) rfl ?_
                    have L337 : ∀ (r335 k334 : Nat) (x333 : Int64) (h338 : tw_H) (sp339 : tw_sp d τ h107 g τ h338), 8 + 1 ≤ k334 + r335 → k334 ≤ 8 → tw_W d mX10_digest (tw_ql (fun r h1 => tw_sp d τ h g τ h1) tw_nx) 222 [(0, .ref x), (1, .long x333), (3, .int (nI k103)), (4, .int (nI k334))] [] h338 (((((((803 + 21 * (r43 + 1)) - 570) + 114 * (r54 + 1)) - 126) + 18 * (r104 + 1)) - 18) + 2 * r335) (((((((4302 + 98 * (r43 + 1)) - 2950) + 590 * (r54 + 1)) - 756) + 108 * (r104 + 1)) - 108) + 12 * r335) := by
                      intro r335
                      induction r335 with
                      | zero => intro k334 x333 h338 sp339 hk341 hk342; exact absurd hk341 (by omega)
                      | succ r335 ih336 =>
                        intro k334 x333 h338 sp339 hk341 hk342
                        refine tw_iload 3 dX10_digest_222 rfl ?_
                        refine tw_bipush (v := 7) dX10_digest_224 (by decide) ?_
                        refine tw_icmp_gt 250 dX10_digest_226 (by decide) (fun c343 => ?_) (fun c343 => ?_)
                        · obtain ⟨v344, ev344⟩ : ∃ y : Int32, y = (nI k103) + 1 := ⟨_, rfl⟩
                          refine tw_iinc [(3, .int v344), (0, .ref x), (1, .long x333), (4, .int (nI k334))] 2 dX10_digest_250 rfl (by rw [ev344]; rfl) (by decide) rfl ?_
                          refine tw_goto 208 dX10_digest_253 (by decide) ?_
                          have qv344 := tw_nI3 ev344
                          rw [qv344]
                          refine tw_lv [1, 2, 0] rfl ?_
                          refine tw_less (c2 := ((((803 + 21 * (r43 + 1)) - 570) + 114 * (r54 + 1)) - 126) + 18 * r104) (n2 := ((((4302 + 98 * (r43 + 1)) - 2950) + 590 * (r54 + 1)) - 756) + 108 * r104) (by omega) (by omega) ?_
                          exact ih105 (k103 + 1) x333 _ (sp108.tr sp339) (by omega) (by omega)
                        · have kl345 : k334 < 8 := tw_kle (N := 8) c343 hk342 (by decide)
                          refine tw_lload_n 1 dX10_digest_229 rfl rfl ?_
                          refine tw_ldc2 (v := 31) dX10_digest_230 w_1598 ?_
                          refine tw_lmul dX10_digest_233 ?_
                          refine tw_nml (fun v346 ev346 => ?_)
                          refine tw_aload_n 0 dX10_digest_234 rfl rfl ?_
                          refine tw_iload_n 2 dX10_digest_235 rfl rfl ?_
                          refine tw_iload 3 dX10_digest_236 rfl ?_
                          obtain ⟨e347, f348, th_349, td_350, ds_351, fr_352, ca_353, us_354, wo_355, cm_356, lc_357, lh_358, ld_359, rfl, k360, k361, k362, k363, k364, k365, k366, k367, k368, k369, k370, k371, k372, k373, k374, k375, k376, k377⟩ := sp339.1 x 36 kx (by decide)
                          refine tw_bi (tw_callV (M := mX10_digest) (pc := 238) okX10_ofHouseNow dX10_digest_238 w_1517 rfl f348 [.int (nI k103), .int (nI k334)] [.long v346] rfl rfl ⟨by decide, by decide⟩ (Nat.le_of_ble_eq_true rfl) (c_X10_ofHouseNow d g τ h338 sp339.1 x kx (nI k334) k103 (by omega) (vp_in_nI (by omega) (by decide))) ((((((((803 + 21 * (r43 + 1)) - 570) + 114 * (r54 + 1)) - 126) + 18 * (r104 + 1)) - 18) + 2 * (r335 + 1)) - 2) ((((((((4302 + 98 * (r43 + 1)) - 2950) + 590 * (r54 + 1)) - 756) + 108 * (r104 + 1)) - 108) + 12 * (r335 + 1)) - 12) (by omega) (by omega)) (fun r380 h379 q378 => ?_) (fun E h1 q => q.elim)
                          have sp381 := sp339.tr q378
                          refine tw_i2l dX10_digest_241 ?_
                          refine tw_nml (fun v382 ev382 => ?_)
                          refine tw_ladd dX10_digest_242 ?_
                          refine tw_nml (fun v383 ev383 => ?_)
                          refine tw_lstore_n [(1, .long v383), (0, .ref x), (3, .int (nI k103)), (4, .int (nI k334))] dX10_digest_243 rfl (by decide) rfl ?_
                          obtain ⟨v384, ev384⟩ : ∃ y : Int32, y = (nI k334) + 1 := ⟨_, rfl⟩
                          refine tw_iinc [(4, .int v384), (1, .long v383), (0, .ref x), (3, .int (nI k103))] 3 dX10_digest_244 rfl (by rw [ev384]; rfl) (by decide) rfl ?_
                          refine tw_goto 222 dX10_digest_247 (by decide) ?_
                          have qv384 := tw_nI3 ev384
                          rw [qv384]
                          refine tw_lv [2, 1, 3, 0] rfl ?_
                          refine tw_less (c2 := ((((((803 + 21 * (r43 + 1)) - 570) + 114 * (r54 + 1)) - 126) + 18 * (r104 + 1)) - 18) + 2 * r335) (n2 := ((((((4302 + 98 * (r43 + 1)) - 2950) + 590 * (r54 + 1)) - 756) + 108 * (r104 + 1)) - 108) + 12 * r335) (by omega) (by omega) ?_
                          exact ih336 (k334 + 1) v383 _ sp381 (by omega) (by omega)
                    refine tw_lv [1, 2, 3, 0] rfl ?_
                    refine tw_less (c2 := ((((((803 + 21 * (r43 + 1)) - 570) + 114 * (r54 + 1)) - 126) + 18 * (r104 + 1)) - 18) + 2 * 9) (n2 := ((((((4302 + 98 * (r43 + 1)) - 2950) + 590 * (r54 + 1)) - 756) + 108 * (r104 + 1)) - 108) + 12 * 9) (by omega) (by omega) ?_
                    exact L337 9 0 x102 _ (tw_sp.rf sp108.1) (by omega) (by omega)
              refine tw_lv [1, 2, 0] rfl ?_
              refine tw_less (c2 := ((((803 + 21 * (r43 + 1)) - 570) + 114 * (r54 + 1)) - 126) + 18 * 7) (n2 := ((((4302 + 98 * (r43 + 1)) - 2950) + 590 * (r54 + 1)) - 756) + 108 * 7) (by omega) (by omega) ?_
              exact L106 7 0 x52 _ (tw_sp.rf sp58.1) (by omega) (by omega)
            · have kl385 : k53 < (g.2 3) := tw_klt (N := (g.2 3)) c101 hk61 (by omega)
              refine tw_iconst (v := 0) dX10_digest_89 (by decide) ?_
              refine tw_istore [(4, .int 0), (0, .ref x), (1, .long x52), (3, .int (nI k53))] dX10_digest_90 (by decide) rfl ?_
              have L390 : ∀ (r388 k387 : Nat) (x386 : Int64) (h391 : tw_H) (sp392 : tw_sp d τ h57 g τ h391), 9 + 1 ≤ k387 + r388 → k387 ≤ 9 → tw_W d mX10_digest (tw_ql (fun r h1 => tw_sp d τ h g τ h1) tw_nx) 92 [(0, .ref x), (1, .long x386), (3, .int (nI k53)), (4, .int (nI k387))] [] h391 (((((803 + 21 * (r43 + 1)) - 570) + 114 * (r54 + 1)) - 30) + 3 * r388) (((((4302 + 98 * (r43 + 1)) - 2950) + 590 * (r54 + 1)) - 170) + 17 * r388) := by
                intro r388
                induction r388 with
                | zero => intro k387 x386 h391 sp392 hk394 hk395; exact absurd hk394 (by omega)
                | succ r388 ih389 =>
                  intro k387 x386 h391 sp392 hk394 hk395
                  refine tw_iload 3 dX10_digest_92 rfl ?_
                  refine tw_bipush (v := 8) dX10_digest_94 (by decide) ?_
                  refine tw_icmp_gt 120 dX10_digest_96 (by decide) (fun c396 => ?_) (fun c396 => ?_)
                  · refine tw_lload_n 1 dX10_digest_120 rfl rfl ?_
                    refine tw_ldc2 (v := 31) dX10_digest_121 w_1598 ?_
                    refine tw_lmul dX10_digest_124 ?_
                    refine tw_nml (fun v397 ev397 => ?_)
                    refine tw_aload_n 0 dX10_digest_125 rfl rfl ?_
                    refine tw_iload_n 2 dX10_digest_126 rfl rfl ?_
                    refine tw_bipush (v := 37) dX10_digest_127 (by decide) ?_
                    obtain ⟨e398, f399, th_400, td_401, ds_402, fr_403, ca_404, us_405, wo_406, cm_407, lc_408, lh_409, ld_410, rfl, k411, k412, k413, k414, k415, k416, k417, k418, k419, k420, k421, k422, k423, k424, k425, k426, k427, k428⟩ := sp392.1 x 36 kx (by decide)
                    refine tw_bi (tw_callV okX10_coinsNow dX10_digest_129 w_1497 rfl f399 [.int (nI k53), .int (nI 37)] [.long v397] rfl rfl ⟨by decide, by decide⟩ (Nat.le_of_ble_eq_true rfl) (c_X10_coinsNow d g τ h391 sp392.1 x kx k53 37 (by omega) (by decide)) ((((((803 + 21 * (r43 + 1)) - 570) + 114 * (r54 + 1)) - 30) + 3 * (r388 + 1)) - 84) ((((((4302 + 98 * (r43 + 1)) - 2950) + 590 * (r54 + 1)) - 170) + 17 * (r388 + 1)) - 420) (by have := tw_w37; omega) (by have := tw_w37; omega)) (fun r431 h430 q429 => ?_) (fun E h1 q => q.elim)
                    have sp432 := sp392.tr q429
                    refine tw_i2l dX10_digest_132 ?_
                    refine tw_nml (fun v433 ev433 => ?_)
                    refine tw_ladd dX10_digest_133 ?_
                    refine tw_nml (fun v434 ev434 => ?_)
                    refine tw_lstore_n [(1, .long v434), (0, .ref x), (3, .int (nI k53)), (4, .int (nI k387))] dX10_digest_134 rfl (by decide) rfl ?_
                    refine tw_iconst (v := 0) dX10_digest_135 (by decide) ?_
                    refine tw_istore [(4, .int 0), (1, .long v434), (0, .ref x), (3, .int (nI k53))] dX10_digest_136 (by decide) rfl ?_
                    have L439 : ∀ (r437 k436 : Nat) (x435 : Int64), 2 + 1 ≤ k436 + r437 → k436 ≤ 2 → tw_W d mX10_digest (tw_ql (fun r h1 => tw_sp d τ h g τ h1) tw_nx) 138 [(0, .ref x), (1, .long x435), (3, .int (nI k53)), (4, .int (nI k436))] [] h430 ((((((803 + 21 * (r43 + 1)) - 570) + 114 * (r54 + 1)) - 30) + 3 * (r388 + 1)) - 84) ((((((4302 + 98 * (r43 + 1)) - 2950) + 590 * (r54 + 1)) - 170) + 17 * (r388 + 1)) - 420) := by
                      intro r437
                      induction r437 with
                      | zero => intro k436 x435 hk443 hk444; exact absurd hk443 (by omega)
                      | succ r437 ih438 =>
                        intro k436 x435 hk443 hk444
                        refine tw_iload 3 dX10_digest_138 rfl ?_
                        refine tw_iconst (v := 2) dX10_digest_140 (by decide) ?_
                        refine tw_icmp_ge 168 dX10_digest_141 (by decide) (fun c445 => ?_) (fun c445 => ?_)
                        · refine tw_iconst (v := 0) dX10_digest_168 (by decide) ?_
                          refine tw_istore [(4, .int 0), (0, .ref x), (1, .long x435), (3, .int (nI k53))] dX10_digest_169 (by decide) rfl ?_
                          have L450 : ∀ (r448 k447 : Nat) (x446 : Int64), 2 + 1 ≤ k447 + r448 → k447 ≤ 2 → tw_W d mX10_digest (tw_ql (fun r h1 => tw_sp d τ h g τ h1) tw_nx) 171 [(0, .ref x), (1, .long x446), (3, .int (nI k53)), (4, .int (nI k447))] [] h430 ((((((803 + 21 * (r43 + 1)) - 570) + 114 * (r54 + 1)) - 30) + 3 * (r388 + 1)) - 84) ((((((4302 + 98 * (r43 + 1)) - 2950) + 590 * (r54 + 1)) - 170) + 17 * (r388 + 1)) - 420) := by
                            intro r448
                            induction r448 with
                            | zero => intro k447 x446 hk454 hk455; exact absurd hk454 (by omega)
                            | succ r448 ih449 =>
                              intro k447 x446 hk454 hk455
                              refine tw_iload 3 dX10_digest_171 rfl ?_
                              refine tw_iconst (v := 2) dX10_digest_173 (by decide) ?_
                              refine tw_icmp_ge 200 dX10_digest_174 (by decide) (fun c456 => ?_) (fun c456 => ?_)
                              · obtain ⟨v457, ev457⟩ : ∃ y : Int32, y = (nI k53) + 1 := ⟨_, rfl⟩
                                refine tw_iinc [(3, .int v457), (0, .ref x), (1, .long x446), (4, .int (nI k447))] 2 dX10_digest_200 rfl (by rw [ev457]; rfl) (by decide) rfl ?_
                                refine tw_goto 78 dX10_digest_203 (by decide) ?_
                                have qv457 := tw_nI3 ev457
                                rw [qv457]
                                refine tw_lv [1, 2, 0] rfl ?_
                                refine tw_less (c2 := ((803 + 21 * (r43 + 1)) - 570) + 114 * r54) (n2 := ((4302 + 98 * (r43 + 1)) - 2950) + 590 * r54) (by omega) (by omega) ?_
                                exact ih55 (k53 + 1) x446 _ (sp58.tr sp432) (by omega) (by omega)
                              · have kl458 := tw_klt (N := 2) c456 hk455 (by decide)
                                refine tw_lload_n 1 dX10_digest_177 rfl rfl ?_
                                refine tw_ldc2 (v := 31) dX10_digest_178 w_1598 ?_
                                refine tw_lmul dX10_digest_181 ?_
                                refine tw_nml (fun v459 ev459 => ?_)
                                refine tw_aload_n 0 dX10_digest_182 rfl rfl ?_
                                refine tw_iload_n 2 dX10_digest_183 rfl rfl ?_
                                refine tw_iload 3 dX10_digest_184 rfl ?_
                                refine tw_bipush (v := 10) dX10_digest_186 (by decide) ?_
                                obtain ⟨e460, f461, th_462, td_463, ds_464, fr_465, ca_466, us_467, wo_468, cm_469, lc_470, lh_471, ld_472, rfl, k473, k474, k475, k476, k477, k478, k479, k480, k481, k482, k483, k484, k485, k486, k487, k488, k489, k490⟩ := sp432.1 x 36 kx (by decide)
                                refine tw_bi (tw_callV (M := mX10_digest) (pc := 188) okX10_lastNow dX10_digest_188 w_1581 rfl f461 [.int (nI k53), .int (nI k447), .int 10] [.long v459] rfl rfl ⟨by decide, by decide⟩ (Nat.le_of_ble_eq_true rfl) (c_X10_lastNow d g τ h430 sp432.1 x kx (nI k447) 10 k53 (by omega) (tw_m2 (by omega))) ((((((803 + 21 * (r43 + 1)) - 570) + 114 * (r54 + 1)) - 30) + 3 * (r388 + 1)) - 84) ((((((4302 + 98 * (r43 + 1)) - 2950) + 590 * (r54 + 1)) - 170) + 17 * (r388 + 1)) - 420) (by omega) (by omega)) (fun r493 h492 q491 => ?_) (fun E h1 q => q.elim)
                                rw [q491]
                                refine tw_i2l dX10_digest_191 ?_
                                refine tw_nml (fun v494 ev494 => ?_)
                                refine tw_ladd dX10_digest_192 ?_
                                refine tw_nml (fun v495 ev495 => ?_)
                                refine tw_lstore_n [(1, .long v495), (0, .ref x), (3, .int (nI k53)), (4, .int (nI k447))] dX10_digest_193 rfl (by decide) rfl ?_
                                obtain ⟨v496, ev496⟩ : ∃ y : Int32, y = (nI k447) + 1 := ⟨_, rfl⟩
                                refine tw_iinc [(4, .int v496), (1, .long v495), (0, .ref x), (3, .int (nI k53))] 3 dX10_digest_194 rfl (by rw [ev496]; rfl) (by decide) rfl ?_
                                refine tw_goto 171 dX10_digest_197 (by decide) ?_
                                have qv496 := tw_nI3 ev496
                                rw [qv496]
                                refine tw_lv [2, 1, 3, 0] rfl ?_
                                exact ih449 (k447 + 1) v495 (by omega) (by omega)
                          refine tw_lv [1, 2, 3, 0] rfl ?_
                          exact L450 (2 + 1) 0 x435 (by omega) (by omega)
                        · have kl497 := tw_klt (N := 2) c445 hk444 (by decide)
                          refine tw_lload_n 1 dX10_digest_144 rfl rfl ?_
                          refine tw_ldc2 (v := 31) dX10_digest_145 w_1598 ?_
                          refine tw_lmul dX10_digest_148 ?_
                          refine tw_nml (fun v498 ev498 => ?_)
                          refine tw_aload_n 0 dX10_digest_149 rfl rfl ?_
                          refine tw_iload_n 2 dX10_digest_150 rfl rfl ?_
                          refine tw_iload 3 dX10_digest_151 rfl ?_
                          refine tw_sipush (v := 1000) dX10_digest_153 (by decide) ?_
                          obtain ⟨e499, f500, th_501, td_502, ds_503, fr_504, ca_505, us_506, wo_507, cm_508, lc_509, lh_510, ld_511, rfl, k512, k513, k514, k515, k516, k517, k518, k519, k520, k521, k522, k523, k524, k525, k526, k527, k528, k529⟩ := sp432.1 x 36 kx (by decide)
                          refine tw_bi (tw_callV (M := mX10_digest) (pc := 156) okX10_bestTripNow dX10_digest_156 w_1565 rfl f500 [.int (nI k53), .int (nI k436), .int 1000] [.long v498] rfl rfl ⟨by decide, by decide⟩ (Nat.le_of_ble_eq_true rfl) (c_X10_bestTripNow d g τ h430 sp432.1 x kx (nI k436) 1000 k53 (by omega) ) ((((((803 + 21 * (r43 + 1)) - 570) + 114 * (r54 + 1)) - 30) + 3 * (r388 + 1)) - 84) ((((((4302 + 98 * (r43 + 1)) - 2950) + 590 * (r54 + 1)) - 170) + 17 * (r388 + 1)) - 420) (by omega) (by omega)) (fun r532 h531 q530 => ?_) (fun E h1 q => q.elim)
                          rw [q530]
                          refine tw_i2l dX10_digest_159 ?_
                          refine tw_nml (fun v533 ev533 => ?_)
                          refine tw_ladd dX10_digest_160 ?_
                          refine tw_nml (fun v534 ev534 => ?_)
                          refine tw_lstore_n [(1, .long v534), (0, .ref x), (3, .int (nI k53)), (4, .int (nI k436))] dX10_digest_161 rfl (by decide) rfl ?_
                          obtain ⟨v535, ev535⟩ : ∃ y : Int32, y = (nI k436) + 1 := ⟨_, rfl⟩
                          refine tw_iinc [(4, .int v535), (1, .long v534), (0, .ref x), (3, .int (nI k53))] 3 dX10_digest_162 rfl (by rw [ev535]; rfl) (by decide) rfl ?_
                          refine tw_goto 138 dX10_digest_165 (by decide) ?_
                          have qv535 := tw_nI3 ev535
                          rw [qv535]
                          refine tw_lv [2, 1, 3, 0] rfl ?_
                          exact ih438 (k436 + 1) v534 (by omega) (by omega)
                    refine tw_lv [2, 1, 3, 0] rfl ?_
                    exact L439 (2 + 1) 0 v434 (by omega) (by omega)
                  · have kl536 : k387 < 9 := tw_kle (N := 9) c396 hk395 (by decide)
                    refine tw_lload_n 1 dX10_digest_99 rfl rfl ?_
                    refine tw_ldc2 (v := 31) dX10_digest_100 w_1598 ?_
                    refine tw_lmul dX10_digest_103 ?_
                    refine tw_nml (fun v537 ev537 => ?_)
                    refine tw_aload_n 0 dX10_digest_104 rfl rfl ?_
                    refine tw_iload_n 2 dX10_digest_105 rfl rfl ?_
                    refine tw_iload 3 dX10_digest_106 rfl ?_
                    obtain ⟨e538, f539, th_540, td_541, ds_542, fr_543, ca_544, us_545, wo_546, cm_547, lc_548, lh_549, ld_550, rfl, k551, k552, k553, k554, k555, k556, k557, k558, k559, k560, k561, k562, k563, k564, k565, k566, k567, k568⟩ := sp392.1 x 36 kx (by decide)
                    refine tw_bi (tw_callV (M := mX10_digest) (pc := 108) okX10_ofCountryNow dX10_digest_108 w_1505 rfl f539 [.int (nI k53), .int (nI k387)] [.long v537] rfl rfl ⟨by decide, by decide⟩ (Nat.le_of_ble_eq_true rfl) (c_X10_ofCountryNow d g τ h391 sp392.1 x kx (nI k387) k53 (by omega) (vp_in_nI (by omega) (by decide))) ((((((803 + 21 * (r43 + 1)) - 570) + 114 * (r54 + 1)) - 30) + 3 * (r388 + 1)) - 3) ((((((4302 + 98 * (r43 + 1)) - 2950) + 590 * (r54 + 1)) - 170) + 17 * (r388 + 1)) - 17) (by omega) (by omega)) (fun r571 h570 q569 => ?_) (fun E h1 q => q.elim)
                    have sp572 := sp392.tr q569
                    refine tw_i2l dX10_digest_111 ?_
                    refine tw_nml (fun v573 ev573 => ?_)
                    refine tw_ladd dX10_digest_112 ?_
                    refine tw_nml (fun v574 ev574 => ?_)
                    refine tw_lstore_n [(1, .long v574), (0, .ref x), (3, .int (nI k53)), (4, .int (nI k387))] dX10_digest_113 rfl (by decide) rfl ?_
                    obtain ⟨v575, ev575⟩ : ∃ y : Int32, y = (nI k387) + 1 := ⟨_, rfl⟩
                    refine tw_iinc [(4, .int v575), (1, .long v574), (0, .ref x), (3, .int (nI k53))] 3 dX10_digest_114 rfl (by rw [ev575]; rfl) (by decide) rfl ?_
                    refine tw_goto 92 dX10_digest_117 (by decide) ?_
                    have qv575 := tw_nI3 ev575
                    rw [qv575]
                    refine tw_lv [2, 1, 3, 0] rfl ?_
                    refine tw_less (c2 := ((((803 + 21 * (r43 + 1)) - 570) + 114 * (r54 + 1)) - 30) + 3 * r388) (n2 := ((((4302 + 98 * (r43 + 1)) - 2950) + 590 * (r54 + 1)) - 170) + 17 * r388) (by omega) (by omega) ?_
                    exact ih389 (k387 + 1) v574 _ sp572 (by omega) (by omega)
              refine tw_lv [1, 2, 3, 0] rfl ?_
              refine tw_less (c2 := ((((803 + 21 * (r43 + 1)) - 570) + 114 * (r54 + 1)) - 30) + 3 * 10) (n2 := ((((4302 + 98 * (r43 + 1)) - 2950) + 590 * (r54 + 1)) - 170) + 17 * 10) (by omega) (by omega) ?_
              exact L390 10 0 x52 _ (tw_sp.rf sp58.1) (by omega) (by omega)
        refine tw_lv [1, 2, 0] rfl ?_
        refine tw_less (c2 := ((803 + 21 * (r43 + 1)) - 570) + 114 * 5) (n2 := ((4302 + 98 * (r43 + 1)) - 2950) + 590 * 5) (by omega) (by omega) ?_
        exact L56 5 0 x41 _ (tw_sp.rf sp47.1) (by omega) (by omega)
      · have kl576 := tw_klt (N := 2) c51 hk50 (by decide)
        refine tw_iconst (v := 0) dX10_digest_40 (by decide) ?_
        refine tw_istore [(4, .int 0), (0, .ref x), (1, .long x41), (3, .int (nI k42))] dX10_digest_41 (by decide) rfl ?_
        have L581 : ∀ (r579 k578 : Nat) (x577 : Int64) (h582 : tw_H) (sp583 : tw_sp d τ h46 g τ h582), 6 + 1 ≤ k578 + r579 → k578 ≤ 6 → tw_W d mX10_digest (tw_ql (fun r h1 => tw_sp d τ h g τ h1) tw_nx) 43 [(0, .ref x), (1, .long x577), (3, .int (nI k42)), (4, .int (nI k578))] [] h582 (((803 + 21 * (r43 + 1)) - 21) + 3 * r579) (((4302 + 98 * (r43 + 1)) - 98) + 14 * r579) := by
          intro r579
          induction r579 with
          | zero => intro k578 x577 h582 sp583 hk585 hk586; exact absurd hk585 (by omega)
          | succ r579 ih580 =>
            intro k578 x577 h582 sp583 hk585 hk586
            refine tw_iload 3 dX10_digest_43 rfl ?_
            refine tw_iconst (v := 5) dX10_digest_45 (by decide) ?_
            refine tw_icmp_gt 70 dX10_digest_46 (by decide) (fun c587 => ?_) (fun c587 => ?_)
            · obtain ⟨v588, ev588⟩ : ∃ y : Int32, y = (nI k42) + 1 := ⟨_, rfl⟩
              refine tw_iinc [(3, .int v588), (0, .ref x), (1, .long x577), (4, .int (nI k578))] 2 dX10_digest_70 rfl (by rw [ev588]; rfl) (by decide) rfl ?_
              refine tw_goto 35 dX10_digest_73 (by decide) ?_
              have qv588 := tw_nI3 ev588
              rw [qv588]
              refine tw_lv [1, 2, 0] rfl ?_
              refine tw_less (c2 := 803 + 21 * r43) (n2 := 4302 + 98 * r43) (by omega) (by omega) ?_
              exact ih44 (k42 + 1) x577 _ (sp47.tr sp583) (by omega) (by omega)
            · have kl589 : k578 < 6 := tw_kle (N := 6) c587 hk586 (by decide)
              refine tw_lload_n 1 dX10_digest_49 rfl rfl ?_
              refine tw_ldc2 (v := 31) dX10_digest_50 w_1598 ?_
              refine tw_lmul dX10_digest_53 ?_
              refine tw_nml (fun v590 ev590 => ?_)
              refine tw_aload_n 0 dX10_digest_54 rfl rfl ?_
              refine tw_iload_n 2 dX10_digest_55 rfl rfl ?_
              refine tw_iload 3 dX10_digest_56 rfl ?_
              obtain ⟨e591, f592, th_593, td_594, ds_595, fr_596, ca_597, us_598, wo_599, cm_600, lc_601, lh_602, ld_603, rfl, k604, k605, k606, k607, k608, k609, k610, k611, k612, k613, k614, k615, k616, k617, k618, k619, k620, k621⟩ := sp583.1 x 36 kx (by decide)
              refine tw_bi (tw_callV (M := mX10_digest) (pc := 58) okX10_worldNow dX10_digest_58 w_1537 rfl f592 [.int (nI k42), .int (nI k578)] [.long v590] rfl rfl ⟨by decide, by decide⟩ (Nat.le_of_ble_eq_true rfl) (c_X10_worldNow d g τ h582 sp583.1 x kx (nI k42) (nI k578) (vp_in_nI (by omega) (by decide)) (vp_in_nI (by omega) (by decide))) ((((803 + 21 * (r43 + 1)) - 21) + 3 * (r579 + 1)) - 3) ((((4302 + 98 * (r43 + 1)) - 98) + 14 * (r579 + 1)) - 14) (by omega) (by omega)) (fun r624 h623 q622 => ?_) (fun E h1 q => q.elim)
              have sp625 := sp583.tr q622
              refine tw_i2l dX10_digest_61 ?_
              refine tw_nml (fun v626 ev626 => ?_)
              refine tw_ladd dX10_digest_62 ?_
              refine tw_nml (fun v627 ev627 => ?_)
              refine tw_lstore_n [(1, .long v627), (0, .ref x), (3, .int (nI k42)), (4, .int (nI k578))] dX10_digest_63 rfl (by decide) rfl ?_
              obtain ⟨v628, ev628⟩ : ∃ y : Int32, y = (nI k578) + 1 := ⟨_, rfl⟩
              refine tw_iinc [(4, .int v628), (1, .long v627), (0, .ref x), (3, .int (nI k42))] 3 dX10_digest_64 rfl (by rw [ev628]; rfl) (by decide) rfl ?_
              refine tw_goto 43 dX10_digest_67 (by decide) ?_
              have qv628 := tw_nI3 ev628
              rw [qv628]
              refine tw_lv [2, 1, 3, 0] rfl ?_
              refine tw_less (c2 := ((803 + 21 * (r43 + 1)) - 21) + 3 * r579) (n2 := ((4302 + 98 * (r43 + 1)) - 98) + 14 * r579) (by omega) (by omega) ?_
              exact ih580 (k578 + 1) v627 _ sp625 (by omega) (by omega)
        refine tw_lv [1, 2, 3, 0] rfl ?_
        refine tw_less (c2 := ((803 + 21 * (r43 + 1)) - 21) + 3 * 7) (n2 := ((4302 + 98 * (r43 + 1)) - 98) + 14 * 7) (by omega) (by omega) ?_
        exact L581 7 0 x41 _ (tw_sp.rf sp47.1) (by omega) (by omega)
  refine tw_lv [2, 1, 0] rfl ?_
  refine tw_less (c2 := 803 + 21 * 3) (n2 := 4302 + 98 * 3) (by omega) (by omega) ?_
  exact L45 3 0 v40 _ (tw_sp.rf sp33.1) (by omega) (by omega)

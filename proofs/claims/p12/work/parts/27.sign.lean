/-! the class's methods over the typed heap. Laid by wip/p5/mkclass.py. -/
set_option maxHeartbeats 4000000 in
set_option maxRecDepth 100000 in
theorem c_X5_housesIn6 (d : tw_D) (g : tw_G) (τ : tw_K) (h : tw_H) (hw : tw_wt d g τ h) (x : Nat) (kx : τ x = 11) (c : Nat) (kc : τ c = 2) : tw_Ct d mX5_housesIn 0 0 [.ref x, .ref c] h (tw_qi (fun r h1 => h1 = h ∧ ∃ w : Nat, w ≤ 6 ∧ r = nI w) tw_nx) := by
  refine tw_of (by decide +kernel) (Nat.le_of_ble_eq_true rfl) ?_
  show tw_W d mX5_housesIn _ 0 [(0, .ref x), (1, .ref c)] [] h 0 0
  have sp0 := tw_sp.rf hw
  refine tw_iconst (v := 0) dX5_housesIn_0 (by decide) ?_
  refine tw_istore_n [(2, .int 0), (0, .ref x), (1, .ref c)] dX5_housesIn_1 rfl (by decide) rfl ?_
  refine tw_aload_n 1 dX5_housesIn_2 rfl rfl ?_
  obtain ⟨e1, f2, td_3, ca_4, ha_5, da_6, c1_7, c2_8, c3_9, c4_10, rfl, k11, k12, k13, k14, k15, k16, k17, k18, k19, k20, k21, k22, k23⟩ := sp0.1 x 11 kx (by decide)
  refine tw_get (v := .ref ha_5) rfl in_9 4 dX5_housesIn_3 w_144 rfl (by decide) f2 rfl ?_
  refine tw_astore_n [(3, .ref ha_5), (2, .int 0), (0, .ref x), (1, .ref c)] dX5_housesIn_6 rfl (by decide) rfl ?_
  refine tw_aload_n 0 dX5_housesIn_7 rfl rfl ?_
  obtain ⟨e24, f25, F26, rfl, k27, pn28, pb29, px30⟩ := sp0.1 ha_5 9 k12 (by decide)
  refine tw_alen (v := nI 6) 5 rfl dX5_housesIn_8 f25 rfl ?_
  refine tw_istore [(4, .int (nI 6)), (3, .ref ha_5), (2, .int 0), (0, .ref x), (1, .ref c)] dX5_housesIn_9 (by decide) rfl ?_
  refine tw_iconst (v := 0) dX5_housesIn_11 (by decide) ?_
  refine tw_istore [(5, .int 0), (4, .int (nI 6)), (3, .ref ha_5), (2, .int 0), (0, .ref x), (1, .ref c)] dX5_housesIn_12 (by decide) rfl ?_
  have L35 : ∀ (r33 k32 : Nat) (x31 : Int32) (li39 : ∃ w : Nat, w ≤ k32 ∧ x31 = nI w), 6 + 1 ≤ k32 + r33 → k32 ≤ 6 → tw_W d mX5_housesIn (tw_qi (fun r h1 => h1 = h ∧ ∃ w : Nat, w ≤ 6 ∧ r = nI w) tw_nx) 14 [(0, .ref x), (1, .ref c), (2, .int x31), (3, .ref ha_5), (4, .int (nI 6)), (5, .int (nI k32))] [] h 0 0 := by
    intro r33
    induction r33 with
    | zero => intro k32 x31 li39 hk40 hk41; exact absurd hk40 (by omega)
    | succ r33 ih34 =>
      intro k32 x31 li39 hk40 hk41
      refine tw_iload 5 dX5_housesIn_14 rfl ?_
      refine tw_iload 4 dX5_housesIn_16 rfl ?_
      refine tw_icmp_ge 50 dX5_housesIn_18 (by decide) (fun c42 => ?_) (fun c42 => ?_)
      · refine tw_iload_n 2 dX5_housesIn_50 rfl rfl ?_
        exact tw_iret dX5_housesIn_51 rfl (Or.inl ⟨_, rfl, ⟨rfl, by obtain ⟨w, a, b⟩ := li39; exact ⟨w, by omega, b⟩⟩⟩)
      · have kl43 := tw_klt (N := 6) c42 hk41 (by decide)
        refine tw_aload_n 3 dX5_housesIn_21 rfl rfl ?_
        refine tw_iload 5 dX5_housesIn_22 rfl ?_
        cases k44 : F26 ((nI k32)).toNatClampNeg with
        | none =>
          refine tw_aald (v := .null) 5 rfl rfl dX5_housesIn_24 f25 (vp_in_nI (by omega) (by decide)) (by rw [k44]; rfl) ?_
          refine tw_astoreN [(6, .null), (0, .ref x), (1, .ref c), (2, .int x31), (3, .ref ha_5), (4, .int (nI 6)), (5, .int (nI k32))] dX5_housesIn_25 (by decide) rfl ?_
          refine tw_aloadN 0 dX5_housesIn_27 rfl ?_
          refine tw_ifnullN 44 dX5_housesIn_29 (by decide) ?_
          obtain ⟨v46, ev46⟩ : ∃ y : Int32, y = (nI k32) + 1 := ⟨_, rfl⟩
          refine tw_iinc [(5, .int v46), (6, .null), (0, .ref x), (1, .ref c), (2, .int x31), (3, .ref ha_5), (4, .int (nI 6))] 6 dX5_housesIn_44 rfl (by rw [ev46]; rfl) (by decide) rfl ?_
          refine tw_goto 14 dX5_housesIn_47 (by decide) ?_
          have qv46 := tw_nI3 ev46
          rw [qv46]
          refine tw_lv [2, 3, 4, 5, 6, 0] rfl ?_
          exact ih34 (k32 + 1) x31 (by obtain ⟨w, a, b⟩ := li39; exact ⟨w, by omega, b⟩) (by omega) (by omega)
        | some q45 =>
          have k47 := k27 _ _ k44
          refine tw_aald (v := .ref q45) 5 rfl rfl dX5_housesIn_24 f25 (vp_in_nI (by omega) (by decide)) (by rw [k44]; rfl) ?_
          refine tw_astore [(6, .ref q45), (0, .ref x), (1, .ref c), (2, .int x31), (3, .ref ha_5), (4, .int (nI 6)), (5, .int (nI k32))] dX5_housesIn_25 (by decide) rfl ?_
          refine tw_aload 0 dX5_housesIn_27 rfl ?_
          refine tw_ifnull dX5_housesIn_29 ?_
          refine tw_aload 0 dX5_housesIn_32 rfl ?_
          obtain ⟨e48, f49, n_50, ar_51, p_52, pl_53, go_54, rfl, k55, k56, k57⟩ := sp0.1 q45 3 k47 (by decide)
          refine tw_getN (v := va_rf pl_53) rfl in_6 2 dX5_housesIn_34 w_641 rfl (by decide) f49 rfl ?_
          refine tw_aload_n 2 dX5_housesIn_37 rfl rfl ?_
          refine tw_acmp_ne (rx := (pl_53)) (ry := (some c)) 44 dX5_housesIn_38 (by decide) (fun c58 => ?_) (fun c58 => ?_)
          · obtain ⟨v59, ev59⟩ : ∃ y : Int32, y = (nI k32) + 1 := ⟨_, rfl⟩
            refine tw_iinc [(5, .int v59), (6, .ref q45), (0, .ref x), (1, .ref c), (2, .int x31), (3, .ref ha_5), (4, .int (nI 6))] 6 dX5_housesIn_44 rfl (by rw [ev59]; rfl) (by decide) rfl ?_
            refine tw_goto 14 dX5_housesIn_47 (by decide) ?_
            have qv59 := tw_nI3 ev59
            rw [qv59]
            refine tw_lv [2, 3, 4, 5, 6, 0] rfl ?_
            exact ih34 (k32 + 1) x31 (by obtain ⟨w, a, b⟩ := li39; exact ⟨w, by omega, b⟩) (by omega) (by omega)
          · obtain ⟨v60, ev60⟩ : ∃ y : Int32, y = x31 + 1 := ⟨_, rfl⟩
            refine tw_iinc [(2, .int v60), (6, .ref q45), (0, .ref x), (1, .ref c), (3, .ref ha_5), (4, .int (nI 6)), (5, .int (nI k32))] 3 dX5_housesIn_41 rfl (by rw [ev60]; rfl) (by decide) rfl ?_
            obtain ⟨v61, ev61⟩ : ∃ y : Int32, y = (nI k32) + 1 := ⟨_, rfl⟩
            refine tw_iinc [(5, .int v61), (2, .int v60), (6, .ref q45), (0, .ref x), (1, .ref c), (3, .ref ha_5), (4, .int (nI 6))] 6 dX5_housesIn_44 rfl (by rw [ev61]; rfl) (by decide) rfl ?_
            refine tw_goto 14 dX5_housesIn_47 (by decide) ?_
            have qv61 := tw_nI3 ev61
            rw [qv61]
            refine tw_lv [3, 4, 1, 5, 6, 0] rfl ?_
            exact ih34 (k32 + 1) v60 (by obtain ⟨w, a, b⟩ := li39; exact ⟨w + 1, by omega, by rw [ev60, b]; exact nI_1 w⟩) (by omega) (by omega)
  refine tw_lv [4, 5, 3, 2, 1, 0] rfl ?_
  exact L35 (6 + 1) 0 0 (⟨0, Nat.le_refl _, rfl⟩) (by omega) (by omega)

set_option maxHeartbeats 4000000 in
set_option maxRecDepth 100000 in
theorem c_X5_sign (d : tw_D) (g : tw_G) (τ : tw_K) (h : tw_H) (hw : tw_wt d g τ h) (x : Nat) (kx : τ x = 11) (n : Int32) : tw_Ct d mX5_sign 6 64 [.ref x, .int n] h (tw_qr (fun r h1 => tw_sp d τ h g τ h1) (fun E h1 => (E = tw_IOE) ∧ ∃ τ1, tw_sp d τ h g τ1 h1)) := by
  refine tw_of (by decide +kernel) (Nat.le_of_ble_eq_true rfl) ?_
  show tw_W d mX5_sign _ 0 [(0, .ref x), (1, .int n)] [] h 6 64
  have sp0 := tw_sp.rf hw
  refine tw_aload_n 0 dX5_sign_0 rfl rfl ?_
  refine tw_iload_n 1 dX5_sign_1 rfl rfl ?_
  obtain ⟨e1, f2, td_3, ca_4, ha_5, da_6, c1_7, c2_8, c3_9, c4_10, rfl, k11, k12, k13, k14, k15, k16, k17, k18, k19, k20, k21, k22, k23⟩ := sp0.1 x 11 kx (by decide)
  refine tw_br (tw_callV (M := mX5_sign) (pc := 2) okX5_countryAt dX5_sign_2 w_546 rfl f2 [.int n] [] rfl rfl ⟨by decide, by decide⟩ (Nat.le_of_ble_eq_true rfl) (c_X5_countryAt d g τ h sp0.1 x kx n) 5 58 (Nat.le_of_ble_eq_true rfl) (Nat.le_of_ble_eq_true rfl)) (fun r26 h25 q24 => ?_) (fun E h1 q => Or.inr ⟨E, rfl, (q.1), ⟨τ, by rw [q.2]; exact sp0⟩⟩)
  obtain ⟨q24e, p27⟩ := q24
  rw [q24e]
  refine tw_astore_n [(2, .ref r26), (0, .ref x), (1, .int n)] dX5_sign_5 rfl (by decide) rfl ?_
  refine tw_new (ci := 1) rfl in_1 tyJ4 tyJ4_ok dX5_sign_6 w_822 w_823 w_105 (fs := [.null, .int 0, .int 0, .int 0]) (fun j hj => by rcases (show j = 0 ∨ j = 1 ∨ j = 2 ∨ j = 3 by omega) with rfl | rfl | rfl | rfl <;> rfl) 4 54 (Nat.le_of_ble_eq_true rfl) (Nat.le_of_ble_eq_true rfl) (fun q28 hq29 hA30 => ?_)
  have n31 := sp0.nn hq29
  have z32 := sp0.1.none hq29
  obtain ⟨h33, eh33⟩ : ∃ z : tw_H, z = tw_up h q28 (.inr (1, [.null, .int 0, .int 0, .int 0])) := ⟨_, rfl⟩
  rw [← eh33]
  have sp34 : tw_sp d τ h g τ h33 := by rw [eh33]; exact sp0.mk hq29
  have f35 : h33 q28 = some (.inr (1, [.null, .int 0, .int 0, .int 0])) := by rw [eh33]; exact tw_up_s
  refine tw_dup dX5_sign_9 rfl ?_
  refine tw_bv (tw_callI (M := mX5_sign) (pc := 10) okJ4_init_da8c8 dX5_sign_10 w_824 rfl [] [.ref q28] rfl rfl ⟨by decide, by decide⟩ (Nat.le_of_ble_eq_true rfl) (c_sb_n4 d h33 q28 f35) 3 38 (Nat.le_of_ble_eq_true rfl) (Nat.le_of_ble_eq_true rfl)) (fun h37 q36 => ?_) (fun E h1 q => q.elim)
  obtain ⟨v38, nv39, w40⟩ := q36
  have n41 := sp34.nn nv39
  have z42 := sp34.1.none nv39
  have ne43 := tw_neF f35 nv39
  have sp44 := sp34.sb n31 z32 n41 z42 w40
  obtain ⟨F45, f46, fb47⟩ := w40.2.1
  have f48 := w40.1
  refine tw_astore_n [(3, .ref q28), (2, .ref r26), (0, .ref x), (1, .int n)] dX5_sign_13 rfl (by decide) rfl ?_
  refine tw_aload_n 0 dX5_sign_14 rfl rfl ?_
  refine tw_aload_n 1 dX5_sign_15 rfl rfl ?_
  obtain ⟨e49, f50, n_51, r_52, c_53, go_54, so_55, v_56, rd_57, rf_58, t_59, rfl, k60, k61, k62, k63, k64, k65, k66, k67⟩ := sp44.1 r26 2 p27 (by decide)
  refine tw_getN (v := .int r_52) rfl in_4 1 dX5_sign_16 w_504 rfl (by decide) f50 rfl ?_
  refine tw_bipush (v := 10) dX5_sign_19 (by decide) ?_
  refine tw_idiv dX5_sign_21 (by decide) ?_
  refine tw_nmi (fun v68 ev68 => ?_)
  obtain ⟨i69, hi70, ei71⟩ := tw_d10 k66 k67 ev68
  rw [ei71]
  refine tw_br (tw_callV (M := mX5_sign) (pc := 22) okJ4_append_bf812 dX5_sign_22 w_853 rfl f48 [.int (nI i69)] [] rfl rfl ⟨by decide, by decide⟩ (Nat.le_of_ble_eq_true rfl) (c_sb_i4 d h37 q28 v38 0 F45 f48 f46 fb47 (by omega) i69 hi70) 3 38 (Nat.le_of_ble_eq_true rfl) (Nat.le_of_ble_eq_true rfl)) (fun r74 h73 q72 => ?_) (fun E h1 q => q.elim)
  obtain ⟨q72r, k75, q72k, q72w⟩ := q72
  rw [q72r]
  have sp76 := sp44.sb n31 z32 n41 z42 q72w
  obtain ⟨F77, f78, fb79⟩ := q72w.2.1
  have f80 := q72w.1
  refine tw_bipush (v := 46) dX5_sign_25 (by decide) ?_
  refine tw_br (tw_callV (M := mX5_sign) (pc := 27) okJ4_append_cf468 dX5_sign_27 w_939 rfl f80 [.int 46] [] rfl rfl ⟨by decide, by decide⟩ (Nat.le_of_ble_eq_true rfl) (c_sb_c4 d h73 q28 v38 k75 F77 f80 f78 fb79 (by omega) 46 (by decide)) 3 38 (Nat.le_of_ble_eq_true rfl) (Nat.le_of_ble_eq_true rfl)) (fun r83 h82 q81 => ?_) (fun E h1 q => q.elim)
  obtain ⟨q81r, q81w⟩ := q81
  rw [q81r]
  have sp84 := sp76.sb n31 z32 n41 z42 q81w
  obtain ⟨F85, f86, fb87⟩ := q81w.2.1
  have f88 := q81w.1
  refine tw_aload_n 1 dX5_sign_30 rfl rfl ?_
  obtain ⟨e89, f90, n_91, r_92, c_93, go_94, so_95, v_96, rd_97, rf_98, t_99, rfl, k100, k101, k102, k103, k104, k105, k106, k107⟩ := sp84.1 r26 2 p27 (by decide)
  refine tw_getN (v := .int r_92) rfl in_4 1 dX5_sign_31 w_504 rfl (by decide) f90 rfl ?_
  refine tw_bipush (v := 10) dX5_sign_34 (by decide) ?_
  refine tw_irem dX5_sign_36 (by decide) ?_
  refine tw_nmi (fun v108 ev108 => ?_)
  obtain ⟨i109, hi110, ei111⟩ := tw_m10 k106 k107 ev108
  rw [ei111]
  refine tw_br (tw_callV (M := mX5_sign) (pc := 37) okJ4_append_bf812 dX5_sign_37 w_853 rfl f88 [.int (nI i109)] [] rfl rfl ⟨by decide, by decide⟩ (Nat.le_of_ble_eq_true rfl) (c_sb_i4 d h82 q28 v38 (k75 + 1) F85 f88 f86 fb87 (by omega) i109 hi110) 3 38 (Nat.le_of_ble_eq_true rfl) (Nat.le_of_ble_eq_true rfl)) (fun r114 h113 q112 => ?_) (fun E h1 q => q.elim)
  obtain ⟨q112r, k115, q112k, q112w⟩ := q112
  rw [q112r]
  have sp116 := sp84.sb n31 z32 n41 z42 q112w
  obtain ⟨F117, f118, fb119⟩ := q112w.2.1
  have f120 := q112w.1
  refine tw_pop dX5_sign_40 rfl ?_
  refine tw_aload_n 0 dX5_sign_41 rfl rfl ?_
  refine tw_aload_n 1 dX5_sign_42 rfl rfl ?_
  refine tw_iconst (v := 0) dX5_sign_43 (by decide) ?_
  obtain ⟨e121, f122, n_123, r_124, c_125, go_126, so_127, v_128, rd_129, rf_130, t_131, rfl, k132, k133, k134, k135, k136, k137, k138, k139⟩ := sp116.1 r26 2 p27 (by decide)
  refine tw_bi (tw_callVN (M := mX5_sign) (pc := 44) okX0_isOpenFor dX5_sign_44 w_577 rfl f122 [.int 0] [.ref q28] rfl rfl ⟨by decide, by decide⟩ (Nat.le_of_ble_eq_true rfl) (c_X0_isOpenFor d g τ h113 sp116.1 r26 p27 0) 3 38 (Nat.le_of_ble_eq_true rfl) (Nat.le_of_ble_eq_true rfl)) (fun r142 h141 q140 => ?_) (fun E h1 q => q.elim)
  obtain ⟨q140e, p143⟩ := q140
  rw [q140e]
  have J57 : ∀ c91 : Int32, c91 ≤ 255 → tw_W d mX5_sign (tw_qr (fun r h1 => tw_sp d τ h g τ h1) (fun E h1 => (E = tw_IOE) ∧ ∃ τ1, tw_sp d τ h g τ1 h1)) 57 [(3, .ref q28), (2, .ref r26), (0, .ref x), (1, .int n)] [.int c91, .ref q28] h113 3 38 := by
    intro c91 hc91
    refine tw_br (tw_callV (M := mX5_sign) (pc := 57) okJ4_append_cf468 dX5_sign_57 w_939 rfl f120 [.int c91] [] rfl rfl ⟨by decide, by decide⟩ (Nat.le_of_ble_eq_true rfl) (c_sb_c4 d h113 q28 v38 k115 F117 f120 f118 fb119 (by omega) c91 hc91) 3 38 (Nat.le_of_ble_eq_true rfl) (Nat.le_of_ble_eq_true rfl)) (fun r146 h145 q144 => ?_) (fun E h1 q => q.elim)
    obtain ⟨q144r, q144w⟩ := q144
    rw [q144r]
    have sp147 := sp116.sb n31 z32 n41 z42 q144w
    obtain ⟨F148, f149, fb150⟩ := q144w.2.1
    have f151 := q144w.1
    refine tw_pop dX5_sign_60 rfl ?_
    refine tw_aload_n 0 dX5_sign_61 rfl rfl ?_
    refine tw_aload_n 1 dX5_sign_62 rfl rfl ?_
    refine tw_iconst (v := 1) dX5_sign_63 (by decide) ?_
    obtain ⟨e152, f153, n_154, r_155, c_156, go_157, so_158, v_159, rd_160, rf_161, t_162, rfl, k163, k164, k165, k166, k167, k168, k169, k170⟩ := sp147.1 r26 2 p27 (by decide)
    refine tw_bi (tw_callVN (M := mX5_sign) (pc := 64) okX0_isOpenFor dX5_sign_64 w_577 rfl f153 [.int 1] [.ref q28] rfl rfl ⟨by decide, by decide⟩ (Nat.le_of_ble_eq_true rfl) (c_X0_isOpenFor d g τ h145 sp147.1 r26 p27 1) 3 38 (Nat.le_of_ble_eq_true rfl) (Nat.le_of_ble_eq_true rfl)) (fun r173 h172 q171 => ?_) (fun E h1 q => q.elim)
    obtain ⟨q171e, p174⟩ := q171
    rw [q171e]
    have J77 : ∀ c92 : Int32, c92 ≤ 255 → tw_W d mX5_sign (tw_qr (fun r h1 => tw_sp d τ h g τ h1) (fun E h1 => (E = tw_IOE) ∧ ∃ τ1, tw_sp d τ h g τ1 h1)) 77 [(3, .ref q28), (2, .ref r26), (0, .ref x), (1, .int n)] [.int c92, .ref q28] h145 3 38 := by
      intro c92 hc92
      refine tw_br (tw_callV (M := mX5_sign) (pc := 77) okJ4_append_cf468 dX5_sign_77 w_939 rfl f151 [.int c92] [] rfl rfl ⟨by decide, by decide⟩ (Nat.le_of_ble_eq_true rfl) (c_sb_c4 d h145 q28 v38 (k115 + 1) F148 f151 f149 fb150 (by omega) c92 hc92) 3 38 (Nat.le_of_ble_eq_true rfl) (Nat.le_of_ble_eq_true rfl)) (fun r177 h176 q175 => ?_) (fun E h1 q => q.elim)
      obtain ⟨q175r, q175w⟩ := q175
      rw [q175r]
      have sp178 := sp147.sb n31 z32 n41 z42 q175w
      obtain ⟨F179, f180, fb181⟩ := q175w.2.1
      have f182 := q175w.1
      refine tw_pop dX5_sign_80 rfl ?_
      refine tw_aload_n 2 dX5_sign_81 rfl rfl ?_
      refine tw_aload_n 1 dX5_sign_82 rfl rfl ?_
      obtain ⟨e183, f184, td_185, ca_186, ha_187, da_188, c1_189, c2_190, c3_191, c4_192, rfl, k193, k194, k195, k196, k197, k198, k199, k200, k201, k202, k203, k204, k205⟩ := sp178.1 x 11 kx (by decide)
      refine tw_bi (tw_callV (M := mX5_sign) (pc := 83) okX5_housesIn dX5_sign_83 w_261 rfl f184 [.ref r26] [] rfl rfl ⟨by decide, by decide⟩ (Nat.le_of_ble_eq_true rfl) (c_X5_housesIn6 d g τ h176 sp178.1 x kx r26 p27) 3 38 (Nat.le_of_ble_eq_true rfl) (Nat.le_of_ble_eq_true rfl)) (fun r208 h207 q206 => ?_) (fun E h1 q => q.elim)
      obtain ⟨q206e, w209, q206w, q206r⟩ := q206
      rw [q206e, q206r]
      refine tw_istore [(4, .int (nI w209)), (3, .ref q28), (2, .ref r26), (0, .ref x), (1, .int n)] dX5_sign_86 (by decide) rfl ?_
      refine tw_iconst (v := 0) dX5_sign_88 (by decide) ?_
      refine tw_istore [(5, .int 0), (4, .int (nI w209)), (3, .ref q28), (2, .ref r26), (0, .ref x), (1, .int n)] dX5_sign_89 (by decide) rfl ?_
      have L9 : ∀ (r9 j9 k9 : Nat) (h9 : tw_H) (sp9 : tw_sp d τ h g τ h9) (fx9 : h9 q28 = some (.inr (1, [.ref v38, .int 0, .int 0, .int (nI k9)]))) (F9 : Nat → Int32) (fv9 : h9 v38 = some (.inl (d.2 3, 16, .inl F9))) (fb9 : tw_fb F9), j9 + r9 = w209 → k9 ≤ 7 + j9 → tw_W d mX5_sign (tw_qr (fun r h1 => tw_sp d τ h g τ h1) (fun E h1 => (E = tw_IOE) ∧ ∃ τ1, tw_sp d τ h g τ1 h1)) 91 [(0, .ref x), (1, .int n), (2, .ref r26), (3, .ref q28), (4, .int (nI w209)), (5, .int (nI j9))] [] h9 3 38 := by
        intro r9
        induction r9 with
        | zero =>
          intro j9 k9 h9 sp9 fx9 F9 fv9 fb9 h1 h2
          refine tw_iload 5 dX5_sign_91 rfl ?_
          refine tw_iload 4 dX5_sign_93 rfl ?_
          refine tw_icmp_ge 111 dX5_sign_95 (by decide) (fun _ => ?_) (fun c210 => absurd (nI_le (by omega) (by omega)) c210)
          refine tw_aload_n 3 dX5_sign_111 rfl rfl ?_
          refine tw_br (tw_callV (M := mX5_sign) (pc := 112) okJ4_toString_0e30d dX5_sign_112 w_980 rfl fx9 [] [] rfl rfl ⟨by decide, by decide⟩ (Nat.le_of_ble_eq_true rfl) (c_tos d h9 g τ sp9.1 q28 v38 k9 F9 fx9 fv9 fb9 (by omega)) 1 18 (Nat.le_of_ble_eq_true rfl) (Nat.le_of_ble_eq_true rfl)) (fun r213 h212 q211 => ?_) (fun E h1 q => q.elim)
          have sp214 := sp9.tr q211
          exact tw_aret dX5_sign_115 rfl (Or.inl ⟨_, rfl⟩) (Or.inl ⟨_, rfl, sp214⟩)
        | succ r9 ih =>
          intro j9 k9 h9 sp9 fx9 F9 fv9 fb9 h1 h2
          refine tw_iload 5 dX5_sign_91 rfl ?_
          refine tw_iload 4 dX5_sign_93 rfl ?_
          refine tw_icmp_ge 111 dX5_sign_95 (by decide) (fun c215 => absurd c215 (nI_ge (by omega) (by omega))) (fun _ => ?_)
          refine tw_aload_n 3 dX5_sign_98 rfl rfl ?_
          refine tw_bipush (v := 42) dX5_sign_99 (by decide) ?_
          refine tw_br (tw_callV (M := mX5_sign) (pc := 101) okJ4_append_cf468 dX5_sign_101 w_939 rfl fx9 [.int 42] [] rfl rfl ⟨by decide, by decide⟩ (Nat.le_of_ble_eq_true rfl) (c_sb_c4 d h9 q28 v38 k9 F9 fx9 fv9 fb9 (by omega) 42 (by decide)) 3 38 (Nat.le_of_ble_eq_true rfl) (Nat.le_of_ble_eq_true rfl)) (fun r218 h217 q216 => ?_) (fun E h1 q => q.elim)
          obtain ⟨q216r, q216w⟩ := q216
          rw [q216r]
          have sp219 := sp9.sb n31 z32 n41 z42 q216w
          obtain ⟨F220, f221, fb222⟩ := q216w.2.1
          have f223 := q216w.1
          refine tw_pop dX5_sign_104 rfl ?_
          obtain ⟨v224, ev224⟩ : ∃ y : Int32, y = (nI j9) + 1 := ⟨_, rfl⟩
          refine tw_iinc [(5, .int v224), (0, .ref x), (1, .int n), (2, .ref r26), (3, .ref q28), (4, .int (nI w209))] 5 dX5_sign_105 rfl (by rw [ev224]; rfl) (by decide) rfl ?_
          refine tw_goto 91 dX5_sign_108 (by decide) ?_
          have qv224 := tw_nI3 ev224
          rw [qv224]
          refine tw_lv [1, 2, 3, 4, 5, 0] rfl ?_
          exact ih (j9 + 1) _ _ sp219 f223 F220 f221 fb222 (by omega) (by omega)
      refine tw_lv [4, 5, 3, 2, 1, 0] rfl ?_
      exact L9 w209 0 _ _ sp178 f182 F179 f180 fb181 (by omega) (by omega)
    refine tw_if_eq 75 dX5_sign_67 (by decide) (fun c225 => ?_) (fun c225 => ?_)
    · refine tw_bipush (v := 45) dX5_sign_75 (by decide) ?_
      exact J77 45 (by decide)
    · refine tw_bipush (v := 115) dX5_sign_70 (by decide) ?_
      refine tw_goto 77 dX5_sign_72 (by decide) ?_
      exact J77 115 (by decide)
  refine tw_if_eq 55 dX5_sign_47 (by decide) (fun c226 => ?_) (fun c226 => ?_)
  · refine tw_bipush (v := 45) dX5_sign_55 (by decide) ?_
    exact J57 45 (by decide)
  · refine tw_bipush (v := 103) dX5_sign_50 (by decide) ?_
    refine tw_goto 57 dX5_sign_52 (by decide) ?_
    exact J57 103 (by decide)

set_option maxHeartbeats 4000000 in
set_option maxRecDepth 100000 in
theorem c_X10_sign (d : tw_D) (g : tw_G) (τ : tw_K) (h : tw_H) (hw : tw_wt d g τ h) (x : Nat) (kx : τ x = 36) (n : Int32) : tw_Ct d mX10_sign 6 64 [.ref x, .int n] h (tw_qr (fun r h1 => tw_sp d τ h g τ h1) tw_nx) := by
  refine tw_of (by decide +kernel) (Nat.le_of_ble_eq_true rfl) ?_
  show tw_W d mX10_sign _ 0 [(0, .ref x), (1, .int n)] [] h 6 64
  have sp0 := tw_sp.rf hw
  refine tw_aload_n 0 dX10_sign_0 rfl rfl ?_
  refine tw_aload_n 0 dX10_sign_1 rfl rfl ?_
  refine tw_iload_n 1 dX10_sign_2 rfl rfl ?_
  obtain ⟨e1, f2, th_3, td_4, ds_5, fr_6, ca_7, us_8, wo_9, cm_10, lc_11, lh_12, ld_13, rfl, k14, k15, k16, k17, k18, k19, k20, k21, k22, k23, k24, k25, k26, k27, k28, k29⟩ := sp0.1 x 36 kx (by decide)
  refine tw_bi (tw_callV (M := mX10_sign) (pc := 3) okX10_isNoCountry dX10_sign_3 w_1292 rfl f2 [.int n] [.ref x] rfl rfl ⟨by decide, by decide⟩ (Nat.le_of_ble_eq_true rfl) (c_X10_isNoCountry d g τ h sp0.1 x kx n) 6 64 (Nat.le_of_ble_eq_true rfl) (Nat.le_of_ble_eq_true rfl)) (fun r32 h31 q30 => ?_) (fun E h1 q => q.elim)
  obtain ⟨q30e, q30d⟩ := q30
  rw [q30e]
  rcases q30d with q30r | ⟨q30r, j33, q30j, q30k⟩
  · rw [q30r]
    refine tw_iconst (v := 1) dX10_sign_6 (by decide) ?_
    refine tw_bi (tw_callV (M := mX10_sign) (pc := 7) okX10_start dX10_sign_7 w_1200 rfl f2 [.int 1, .int 1] [] rfl rfl ⟨by decide, by decide⟩ (Nat.le_of_ble_eq_true rfl) (c_X10_start d g τ h sp0.1 x kx 1 1 (by decide)) 6 64 (Nat.le_of_ble_eq_true rfl) (Nat.le_of_ble_eq_true rfl)) (fun r36 h35 q34 => ?_) (fun E h1 q => q.elim)
    obtain ⟨e37, he38, hs39, hr40, h341⟩ := q34
    have sp42 : tw_sp d τ h g τ h35 := by rw [he38]; exact sp0.set kx (by decide) hs39
    rcases hr40 with ei43 | ⟨ei43, ei43b⟩
    · rw [ei43]
      refine tw_if_eq 16 dX10_sign_10 (by decide) (fun c44 => absurd c44 (by decide)) (fun _ => ?_)
      refine tw_ldcS (i := 19) dX10_sign_13 rfl ?_
      exact tw_aret dX10_sign_15 rfl (Or.inl ⟨_, rfl⟩) (Or.inl ⟨_, rfl, sp42⟩)
    · exact absurd ei43b (by decide)
  · rw [q30r]
    subst q30k
    refine tw_iconst (v := 1) dX10_sign_6 (by decide) ?_
    refine tw_bi (tw_callV (M := mX10_sign) (pc := 7) okX10_start dX10_sign_7 w_1200 rfl f2 [.int 0, .int 1] [] rfl rfl ⟨by decide, by decide⟩ (Nat.le_of_ble_eq_true rfl) (c_X10_start d g τ h sp0.1 x kx 0 1 (by decide)) 6 64 (Nat.le_of_ble_eq_true rfl) (Nat.le_of_ble_eq_true rfl)) (fun r47 h46 q45 => ?_) (fun E h1 q => q.elim)
    obtain ⟨e48, he49, hs50, hr51, h352⟩ := q45
    have sp53 : tw_sp d τ h g τ h46 := by rw [he49]; exact sp0.set kx (by decide) hs50
    rcases hr51 with ei54 | ⟨ei54, ei54b⟩
    · rw [ei54]
      refine tw_if_eq 16 dX10_sign_10 (by decide) (fun c55 => absurd c55 (by decide)) (fun _ => ?_)
      refine tw_ldcS (i := 19) dX10_sign_13 rfl ?_
      exact tw_aret dX10_sign_15 rfl (Or.inl ⟨_, rfl⟩) (Or.inl ⟨_, rfl, sp53⟩)
    · rw [ei54]
      refine tw_if_eq 16 dX10_sign_10 (by decide) (fun _ => ?_) (fun c56 => absurd (by decide) c56)
      refine tw_aload_n 0 dX10_sign_16 rfl rfl ?_
      obtain ⟨e57, f58, th_59, td_60, ds_61, fr_62, ca_63, us_64, wo_65, cm_66, lc_67, lh_68, ld_69, rfl, k70, k71, k72, k73, k74, k75, k76, k77, k78, k79, k80, k81, k82, k83, k84, k85⟩ := sp53.1 x 36 kx (by decide)
      refine tw_get (v := .ref lc_67) rfl in_14 9 dX10_sign_17 w_1160 rfl (by decide) f58 rfl ?_
      refine tw_iload_n 1 dX10_sign_20 rfl rfl ?_
      obtain ⟨e86, f87, ⟨el88, rfl, k89⟩, k90⟩ := sp53.1 lc_67 24 k76 (by decide)
      refine tw_br (tw_callV (M := mX10_sign) (pc := 21) okJx4a65c_get_915e3 dX10_sign_21 w_1296 rfl f87 [.int (nI j33)] [] rfl rfl ⟨by decide, by decide⟩ (Nat.le_of_ble_eq_true rfl) (c24_get d g τ h46 sp53.1 lc_67 k76 j33 (by omega) (by omega)) 6 64 (Nat.le_of_ble_eq_true rfl) (Nat.le_of_ble_eq_true rfl)) (fun r93 h92 q91 => ?_) (fun E h1 q => q.elim)
      obtain ⟨q91e, q91k⟩ := q91
      rw [q91e]
      have el94 : tw_el h46 (g.2 12) j33 = r93 := by rw [← k90]; exact q91k.2.symm
      have kl95 : τ (g.2 12) = 24 := by rw [← k90]; exact k76
      obtain ⟨e96, f97, r_98, c_99, v_100, o_101, t_102, rfl, k103, k104, k105, k106, k107⟩ := sp53.1 r93 21 q91k.1 (by decide)
      refine tw_castS (ci := 11) rfl dX10_sign_24 w_1212 f97 ?_
      refine tw_astore_n [(2, .ref r93), (0, .ref x), (1, .int (nI j33))] dX10_sign_27 rfl (by decide) rfl ?_
      refine tw_new (ci := 1) rfl in_1 tyJ4 tyJ4_ok dX10_sign_28 w_1546 w_823 w_105 (fs := [.null, .int 0, .int 0, .int 0]) (fun j hj => by rcases (show j = 0 ∨ j = 1 ∨ j = 2 ∨ j = 3 by omega) with rfl | rfl | rfl | rfl <;> rfl) 5 60 (Nat.le_of_ble_eq_true rfl) (Nat.le_of_ble_eq_true rfl) (fun q108 hq109 hA110 => ?_)
      have n111 := sp53.nn hq109
      have z112 := sp53.1.none hq109
      obtain ⟨h113, eh113⟩ : ∃ z : tw_H, z = tw_up h46 q108 (.inr (1, [.null, .int 0, .int 0, .int 0])) := ⟨_, rfl⟩
      rw [← eh113]
      have sp114 : tw_sp d τ h g τ h113 := by rw [eh113]; exact sp53.mk hq109
      have f115 : h113 q108 = some (.inr (1, [.null, .int 0, .int 0, .int 0])) := by rw [eh113]; exact tw_up_s
      refine tw_dup dX10_sign_31 rfl ?_
      refine tw_bv (tw_callI (M := mX10_sign) (pc := 32) okJ4_init_da8c8 dX10_sign_32 w_1547 rfl [] [.ref q108] rfl rfl ⟨by decide, by decide⟩ (Nat.le_of_ble_eq_true rfl) (c_sb_n4 d h113 q108 f115) 4 44 (Nat.le_of_ble_eq_true rfl) (Nat.le_of_ble_eq_true rfl)) (fun h117 q116 => ?_) (fun E h1 q => q.elim)
      obtain ⟨v118, nv119, w120⟩ := q116
      have n121 := sp114.nn nv119
      have z122 := sp114.1.none nv119
      have ne123 := tw_neF f115 nv119
      have sp124 := sp114.sb n111 z112 n121 z122 w120
      obtain ⟨F125, f126, fb127⟩ := w120.2.1
      have f128 := w120.1
      refine tw_astore_n [(3, .ref q108), (2, .ref r93), (0, .ref x), (1, .int (nI j33))] dX10_sign_35 rfl (by decide) rfl ?_
      refine tw_aload_n 0 dX10_sign_36 rfl rfl ?_
      refine tw_aload_n 1 dX10_sign_37 rfl rfl ?_
      obtain ⟨e129, f130, r_131, c_132, v_133, o_134, t_135, rfl, k136, k137, k138, k139, k140⟩ := sp124.1 r93 21 q91k.1 (by decide)
      refine tw_get (v := .int r_131) rfl in_11 0 dX10_sign_38 w_1218 rfl (by decide) f130 rfl ?_
      refine tw_bipush (v := 10) dX10_sign_41 (by decide) ?_
      refine tw_idiv dX10_sign_43 (by decide) ?_
      refine tw_nmi (fun v141 ev141 => ?_)
      obtain ⟨i142, hi143, ei144⟩ := tw_d10 k139 k140 ev141
      rw [ei144]
      refine tw_br (tw_callV (M := mX10_sign) (pc := 44) okJ4_append_bf812 dX10_sign_44 w_1548 rfl f128 [.int (nI i142)] [] rfl rfl ⟨by decide, by decide⟩ (Nat.le_of_ble_eq_true rfl) (c_sb_i4 d h117 q108 v118 0 F125 f128 f126 fb127 (by omega) i142 hi143) 4 44 (Nat.le_of_ble_eq_true rfl) (Nat.le_of_ble_eq_true rfl)) (fun r147 h146 q145 => ?_) (fun E h1 q => q.elim)
      obtain ⟨q145r, k148, q145k, q145w⟩ := q145
      rw [q145r]
      have sp149 := sp124.sb n111 z112 n121 z122 q145w
      obtain ⟨F150, f151, fb152⟩ := q145w.2.1
      have f153 := q145w.1
      refine tw_bipush (v := 46) dX10_sign_47 (by decide) ?_
      refine tw_br (tw_callV (M := mX10_sign) (pc := 49) okJ4_append_cf468 dX10_sign_49 w_1549 rfl f153 [.int 46] [] rfl rfl ⟨by decide, by decide⟩ (Nat.le_of_ble_eq_true rfl) (c_sb_c4 d h146 q108 v118 k148 F150 f153 f151 fb152 (by omega) 46 (by decide)) 4 44 (Nat.le_of_ble_eq_true rfl) (Nat.le_of_ble_eq_true rfl)) (fun r156 h155 q154 => ?_) (fun E h1 q => q.elim)
      obtain ⟨q154r, q154w⟩ := q154
      rw [q154r]
      have sp157 := sp149.sb n111 z112 n121 z122 q154w
      obtain ⟨F158, f159, fb160⟩ := q154w.2.1
      have f161 := q154w.1
      refine tw_aload_n 1 dX10_sign_52 rfl rfl ?_
      obtain ⟨e162, f163, r_164, c_165, v_166, o_167, t_168, rfl, k169, k170, k171, k172, k173⟩ := sp157.1 r93 21 q91k.1 (by decide)
      refine tw_get (v := .int r_164) rfl in_11 0 dX10_sign_53 w_1218 rfl (by decide) f163 rfl ?_
      refine tw_bipush (v := 10) dX10_sign_56 (by decide) ?_
      refine tw_irem dX10_sign_58 (by decide) ?_
      refine tw_nmi (fun v174 ev174 => ?_)
      obtain ⟨i175, hi176, ei177⟩ := tw_m10 k172 k173 ev174
      rw [ei177]
      refine tw_br (tw_callV (M := mX10_sign) (pc := 59) okJ4_append_bf812 dX10_sign_59 w_1548 rfl f161 [.int (nI i175)] [] rfl rfl ⟨by decide, by decide⟩ (Nat.le_of_ble_eq_true rfl) (c_sb_i4 d h155 q108 v118 (k148 + 1) F158 f161 f159 fb160 (by omega) i175 hi176) 4 44 (Nat.le_of_ble_eq_true rfl) (Nat.le_of_ble_eq_true rfl)) (fun r180 h179 q178 => ?_) (fun E h1 q => q.elim)
      obtain ⟨q178r, k181, q178k, q178w⟩ := q178
      rw [q178r]
      have sp182 := sp157.sb n111 z112 n121 z122 q178w
      obtain ⟨F183, f184, fb185⟩ := q178w.2.1
      have f186 := q178w.1
      refine tw_aload_n 1 dX10_sign_62 rfl rfl ?_
      obtain ⟨e187, f188, r_189, c_190, v_191, o_192, t_193, rfl, k194, k195, k196, k197, k198⟩ := sp182.1 r93 21 q91k.1 (by decide)
      refine tw_get (v := .ref o_192) rfl in_11 3 dX10_sign_63 w_1223 rfl (by decide) f188 rfl ?_
      refine tw_iconst (v := 0) dX10_sign_66 (by decide) ?_
      obtain ⟨e199, f200, F201, rfl, k202⟩ := sp182.1 o_192 32 k195 (by decide)
      obtain ⟨v203, ev203⟩ : ∃ y : Int32, F201 (0 : Int32).toNatClampNeg = y := ⟨_, rfl⟩
      refine tw_zald (v := v203) dX10_sign_67 f200 (vp_in_nI (n := 0) (by decide) (by decide)) ev203 ?_
      have J78 : ∀ c91 : Int32, c91 ≤ 255 → tw_W d mX10_sign (tw_qr (fun r h1 => tw_sp d τ h g τ h1) tw_nx) 78 [(3, .ref q108), (2, .ref r93), (0, .ref x), (1, .int (nI j33))] [.int c91, .ref q108] h179 4 44 := by
        intro c91 hc91
        refine tw_br (tw_callV (M := mX10_sign) (pc := 78) okJ4_append_cf468 dX10_sign_78 w_1549 rfl f186 [.int c91] [] rfl rfl ⟨by decide, by decide⟩ (Nat.le_of_ble_eq_true rfl) (c_sb_c4 d h179 q108 v118 k181 F183 f186 f184 fb185 (by omega) c91 hc91) 4 44 (Nat.le_of_ble_eq_true rfl) (Nat.le_of_ble_eq_true rfl)) (fun r206 h205 q204 => ?_) (fun E h1 q => q.elim)
        obtain ⟨q204r, q204w⟩ := q204
        rw [q204r]
        have sp207 := sp182.sb n111 z112 n121 z122 q204w
        obtain ⟨F208, f209, fb210⟩ := q204w.2.1
        have f211 := q204w.1
        refine tw_aload_n 1 dX10_sign_81 rfl rfl ?_
        obtain ⟨e212, f213, r_214, c_215, v_216, o_217, t_218, rfl, k219, k220, k221, k222, k223⟩ := sp207.1 r93 21 q91k.1 (by decide)
        refine tw_get (v := .ref o_217) rfl in_11 3 dX10_sign_82 w_1223 rfl (by decide) f213 rfl ?_
        refine tw_iconst (v := 1) dX10_sign_85 (by decide) ?_
        obtain ⟨e224, f225, F226, rfl, k227⟩ := sp207.1 o_217 32 k220 (by decide)
        obtain ⟨v228, ev228⟩ : ∃ y : Int32, F226 (1 : Int32).toNatClampNeg = y := ⟨_, rfl⟩
        refine tw_zald (v := v228) dX10_sign_86 f225 (vp_in_nI (n := 1) (by decide) (by decide)) ev228 ?_
        have J97 : ∀ c92 : Int32, c92 ≤ 255 → tw_W d mX10_sign (tw_qr (fun r h1 => tw_sp d τ h g τ h1) tw_nx) 97 [(3, .ref q108), (2, .ref r93), (0, .ref x), (1, .int (nI j33))] [.int c92, .ref q108] h205 4 44 := by
          intro c92 hc92
          refine tw_br (tw_callV (M := mX10_sign) (pc := 97) okJ4_append_cf468 dX10_sign_97 w_1549 rfl f211 [.int c92] [] rfl rfl ⟨by decide, by decide⟩ (Nat.le_of_ble_eq_true rfl) (c_sb_c4 d h205 q108 v118 (k181 + 1) F208 f211 f209 fb210 (by omega) c92 hc92) 4 44 (Nat.le_of_ble_eq_true rfl) (Nat.le_of_ble_eq_true rfl)) (fun r231 h230 q229 => ?_) (fun E h1 q => q.elim)
          obtain ⟨q229r, q229w⟩ := q229
          rw [q229r]
          have sp232 := sp207.sb n111 z112 n121 z122 q229w
          obtain ⟨F233, f234, fb235⟩ := q229w.2.1
          have f236 := q229w.1
          refine tw_pop dX10_sign_100 rfl ?_
          refine tw_aload_n 2 dX10_sign_101 rfl rfl ?_
          obtain ⟨e237, f238, th_239, td_240, ds_241, fr_242, ca_243, us_244, wo_245, cm_246, lc_247, lh_248, ld_249, rfl, k250, k251, k252, k253, k254, k255, k256, k257, k258, k259, k260, k261, k262, k263, k264, k265⟩ := sp232.1 x 36 kx (by decide)
          refine tw_get (v := .ref lh_248) rfl in_14 10 dX10_sign_102 w_1161 rfl (by decide) f238 rfl ?_
          obtain ⟨e266, f267, ⟨el268, rfl, k269⟩, k270⟩ := sp232.1 lh_248 25 k257 (by decide)
          refine tw_br (tw_callV (M := mX10_sign) (pc := 105) okJx4a65c_iterator_32c93 dX10_sign_105 w_1386 rfl f267 [] [] rfl rfl ⟨by decide, by decide⟩ (Nat.le_of_ble_eq_true rfl) (c_iterator d h230 lh_248 el268 (g.1 4) (nI (g.2 4)) f267) 3 40 (Nat.le_of_ble_eq_true rfl) (Nat.le_of_ble_eq_true rfl)) (fun it271 h272 q273 => ?_) (fun E h1 q => q.elim)
          obtain ⟨q273n, q273e⟩ := q273
          rw [q273e]
          have n274 := sp232.nn q273n
          have z275 := sp232.1.none q273n
          have ne276 := tw_neF f236 q273n
          have ne277 := tw_neF f234 q273n
          obtain ⟨h278, eh278⟩ : ∃ z : tw_H, z = tw_up h230 it271 (.inr (2, [.int 0, .int (-1), .int (g.1 4), .ref lh_248])) := ⟨_, rfl⟩
          rw [← eh278]
          have sp279 : tw_sp d τ h g τ h278 := by rw [eh278]; exact sp232.mk q273n
          have f280 : h278 q108 = some (.inr (1, [.ref v118, .int 0, .int 0, .int (nI ((k181 + 1) + 1))])) := by rw [eh278, tw_up_n ne276]; exact f236
          have f281 : h278 v118 = some (.inl (d.2 3, 16, .inl F233)) := by rw [eh278, tw_up_n ne277]; exact f234
          have f282 : h278 it271 = some (.inr (2, [.int 0, .int (-1), .int (g.1 4), .ref lh_248])) := by rw [eh278]; exact tw_up_s
          refine tw_astore [(4, .ref it271), (3, .ref q108), (2, .ref r93), (0, .ref x), (1, .int (nI j33))] dX10_sign_108 (by decide) rfl ?_
          have L9 : ∀ (r9 j9 k9 : Nat) (lr9 : Int32) (h9 : tw_H) (sp9 : tw_sp d τ h g τ h9) (fx9 : h9 q108 = some (.inr (1, [.ref v118, .int 0, .int 0, .int (nI k9)]))) (F9 : Nat → Int32) (fv9 : h9 v118 = some (.inl (d.2 3, 16, .inl F9))) (fb9 : tw_fb F9) (fit9 : h9 it271 = some (.inr (2, [.int (nI j9), .int lr9, .int (g.1 4), .ref lh_248]))), g.2 4 + 1 ≤ j9 + r9 → j9 ≤ g.2 4 → k9 ≤ 7 + j9 → tw_W d mX10_sign (tw_qr (fun r h1 => tw_sp d τ h g τ h1) tw_nx) 110 [(0, .ref x), (1, .int (nI j33)), (2, .ref r93), (3, .ref q108), (4, .ref it271)] [] h9 3 40 := by
            intro r9
            induction r9 with
            | zero => intro j9 k9 lr9 h9 sp9 fx9 F9 fv9 fb9 fit9 h1 h1b h2; exact absurd h1 (by omega)
            | succ r9 ih =>
              intro j9 k9 lr9 h9 sp9 fx9 F9 fv9 fb9 fit9 h1 h1b h2
              refine tw_aload 4 dX10_sign_110 rfl ?_
              obtain ⟨e283, f284, ⟨el285, rfl, k286⟩, k287⟩ := sp9.1 lh_248 25 k257 (by decide)
              refine tw_bi (tw_callF (M := mX10_sign) (pc := 112) (n9 := 0) (ci := 2) tw_hasNext ok_itHas w_1416 w_1414 (fun s H z => z.2.2.2.2.2.2.2.2.1) (by decide +kernel) dX10_sign_112 w_1410 rfl fit9 [] [] rfl rfl ⟨by decide, by decide⟩ (Nat.le_of_ble_eq_true rfl) (c_hasNext d h9 it271 lh_248 el285 j9 (g.2 4) lr9 (g.1 4) (g.1 4) fit9 f284 (by omega) (tw_lim25 sp9.1 k257)) 3 40 (Nat.le_of_ble_eq_true rfl) (Nat.le_of_ble_eq_true rfl)) (fun r290 h289 q288 => ?_) (fun E h1 q => q.elim)
              obtain ⟨q288e, q288q⟩ := q288
              rw [q288e]
              rcases q288q with ⟨q288r, q288j⟩ | ⟨q288r, q288j⟩
              · rw [q288r]
                refine tw_if_eq 156 dX10_sign_117 (by decide) (fun _ => ?_) (fun c291 => absurd (by decide) c291)
                refine tw_aload_n 3 dX10_sign_156 rfl rfl ?_
                refine tw_br (tw_callV (M := mX10_sign) (pc := 157) okJ4_toString_0e30d dX10_sign_157 w_1552 rfl fx9 [] [] rfl rfl ⟨by decide, by decide⟩ (Nat.le_of_ble_eq_true rfl) (c_tos d h9 g τ sp9.1 q108 v118 k9 F9 fx9 fv9 fb9 (by omega)) 1 20 (Nat.le_of_ble_eq_true rfl) (Nat.le_of_ble_eq_true rfl)) (fun r294 h293 q292 => ?_) (fun E h1 q => q.elim)
                have sp295 := sp9.tr q292
                exact tw_aret dX10_sign_160 rfl (Or.inl ⟨_, rfl⟩) (Or.inl ⟨_, rfl, sp295⟩)
              · rw [q288r]
                refine tw_if_eq 156 dX10_sign_117 (by decide) (fun c296 => absurd c296 (by decide)) (fun _ => ?_)
                refine tw_aload 4 dX10_sign_120 rfl ?_
                have k297 : τ el285 = 28 := k286.resolve_left (fun q => absurd q288j (by rw [q.2.1]; exact Nat.not_lt_zero _))
                obtain ⟨e298, f299, ⟨F300, rfl, hc301, hc302⟩, un303⟩ := sp9.1 el285 28 k297 (by decide)
                obtain ⟨y304, hy305, ky306⟩ := hc302 j9 q288j
                refine tw_br (tw_callF (M := mX10_sign) (pc := 122) (n9 := 0) (ci := 2) tw_next ok_itNext w_1425 w_1423 (fun s H z => z.2.2.2.2.2.2.2.2.2) (by decide +kernel) dX10_sign_122 w_1420 rfl fit9 [] [] rfl rfl ⟨by decide, by decide⟩ (Nat.le_of_ble_eq_true rfl) (c_next d h9 it271 lh_248 el285 j9 (g.2 4) y304 lr9 (g.1 4) F300 fit9 f284 f299 q288j hc301 hy305) 3 40 (Nat.le_of_ble_eq_true rfl) (Nat.le_of_ble_eq_true rfl)) (fun r309 h308 q307 => ?_) (fun E h1 q => q.elim)
                obtain ⟨q307r, q307e⟩ := q307
                rw [q307r]
                have sp310 : tw_sp d τ h g τ h308 := by rw [q307e]; exact sp9.wl n274 z275
                have f311 : h308 q108 = some (.inr (1, [.ref v118, .int 0, .int 0, .int (nI k9)])) := by rw [q307e, tw_up_n ne276]; exact fx9
                have f312 : h308 v118 = some (.inl (d.2 3, 16, .inl F9)) := by rw [q307e, tw_up_n ne277]; exact fv9
                have f313 : h308 it271 = some (.inr (2, [.int (nI (j9 + 1)), .int (nI j9), .int (g.1 4), .ref lh_248])) := by rw [q307e]; exact tw_up_s
                obtain ⟨e314, f315, x_316, y_317, dy_318, p_319, rfl, k320, k321, k322⟩ := sp310.1 y304 23 ky306 (by decide)
                refine tw_castS (ci := 13) rfl dX10_sign_127 w_1336 f315 ?_
                refine tw_astore [(5, .ref y304), (0, .ref x), (1, .int (nI j33)), (2, .ref r93), (3, .ref q108), (4, .ref it271)] dX10_sign_130 (by decide) rfl ?_
                refine tw_aload_n 4 dX10_sign_132 rfl rfl ?_
                refine tw_aload 0 dX10_sign_133 rfl ?_
                refine tw_get (v := .int x_316) rfl in_13 0 dX10_sign_135 w_1342 rfl (by decide) f315 rfl ?_
                refine tw_iload_n 2 dX10_sign_138 rfl rfl ?_
                refine tw_icmp_ne 147 dX10_sign_139 (by decide) (fun c323 => ?_) (fun c323 => ?_)
                · refine tw_ldcS (i := 19) dX10_sign_147 rfl ?_
                  refine tw_br (tw_callV (M := mX10_sign) (pc := 149) okJ4_append_15ec4 dX10_sign_149 w_1551 rfl f311 [.ref (d.2 (200 + 19))] [] rfl rfl ⟨by decide, by decide⟩ (Nat.le_of_ble_eq_true rfl) (c_sb_s4 d h308 q108 v118 k9 F9 f311 f312 fb9 0 (by decide) (by omega)) 3 40 (Nat.le_of_ble_eq_true rfl) (Nat.le_of_ble_eq_true rfl)) (fun r326 h325 q324 => ?_) (fun E h1 q => q.elim)
                  obtain ⟨q324r, k327, q324k, q324w⟩ := q324
                  rw [q324r]
                  have sp328 := sp310.sb n111 z112 n121 z122 q324w
                  have f329 := (q324w.2.2 it271 (Ne.symm ne276) (Ne.symm ne277)).trans f313
                  obtain ⟨F330, f331, fb332⟩ := q324w.2.1
                  have f333 := q324w.1
                  refine tw_pop dX10_sign_152 rfl ?_
                  refine tw_goto 110 dX10_sign_153 (by decide) ?_
                  refine tw_lv [1, 2, 3, 4, 5] rfl ?_
                  exact ih ((j9 + 1)) _ (nI j9) _ sp328 f333 F330 f331 fb332 f329 (by omega) (by omega) (by omega)
                · refine tw_ldcS (i := 20) dX10_sign_142 rfl ?_
                  refine tw_goto 149 dX10_sign_144 (by decide) ?_
                  refine tw_br (tw_callV (M := mX10_sign) (pc := 149) okJ4_append_15ec4 dX10_sign_149 w_1551 rfl f311 [.ref (d.2 (200 + 20))] [] rfl rfl ⟨by decide, by decide⟩ (Nat.le_of_ble_eq_true rfl) (c_sb_s4 d h308 q108 v118 k9 F9 f311 f312 fb9 1 (by decide) (by omega)) 3 40 (Nat.le_of_ble_eq_true rfl) (Nat.le_of_ble_eq_true rfl)) (fun r336 h335 q334 => ?_) (fun E h1 q => q.elim)
                  obtain ⟨q334r, k337, q334k, q334w⟩ := q334
                  rw [q334r]
                  have sp338 := sp310.sb n111 z112 n121 z122 q334w
                  have f339 := (q334w.2.2 it271 (Ne.symm ne276) (Ne.symm ne277)).trans f313
                  obtain ⟨F340, f341, fb342⟩ := q334w.2.1
                  have f343 := q334w.1
                  refine tw_pop dX10_sign_152 rfl ?_
                  refine tw_goto 110 dX10_sign_153 (by decide) ?_
                  refine tw_lv [1, 2, 3, 4, 5] rfl ?_
                  exact ih ((j9 + 1)) _ (nI j9) _ sp338 f343 F340 f341 fb342 f339 (by omega) (by omega) (by omega)
          refine tw_lv [3, 4, 2, 1, 0] rfl ?_
          exact L9 (g.2 4 + 1) 0 _ (-1) _ sp279 f280 F233 f281 fb235 f282 (by omega) (Nat.zero_le _) (by omega)
        refine tw_if_eq 95 dX10_sign_87 (by decide) (fun c344 => ?_) (fun c344 => ?_)
        · refine tw_bipush (v := 45) dX10_sign_95 (by decide) ?_
          exact J97 45 (by decide)
        · refine tw_bipush (v := 115) dX10_sign_90 (by decide) ?_
          refine tw_goto 97 dX10_sign_92 (by decide) ?_
          exact J97 115 (by decide)
      refine tw_if_eq 76 dX10_sign_68 (by decide) (fun c345 => ?_) (fun c345 => ?_)
      · refine tw_bipush (v := 45) dX10_sign_76 (by decide) ?_
        exact J78 45 (by decide)
      · refine tw_bipush (v := 103) dX10_sign_71 (by decide) ?_
        refine tw_goto 78 dX10_sign_73 (by decide) ?_
        exact J78 103 (by decide)

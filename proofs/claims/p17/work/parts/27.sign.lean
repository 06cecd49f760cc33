/-! the class's methods over the typed heap. Laid by wip/p5/mkclass.py. -/
set_option maxHeartbeats 4000000 in
set_option maxRecDepth 100000 in
theorem c_X5_housesIn6 (d : tw_D) (g : tw_G) (τ : tw_K) (h : tw_H) (hw : tw_wt d g τ h) (x : Nat) (kx : τ x = 11) (c : Nat) (kc : τ c = 2) : tw_Ct d mX5_housesIn 0 0 [.ref x, .ref c] h (tw_qi (fun r h1 => h1 = h ∧ ∃ w : Nat, w ≤ 6 ∧ r = nI w) tw_nx) := by
  refine tw_of (by decide +kernel) (Nat.le_of_ble_eq_true rfl) ?_
  show tw_W d mX5_housesIn _ 0 [(0, .ref x), (1, .ref c)] [] h 0 0
  have sp0 := tw_sp.rf hw
  refine tw_iconst (v := 0) dX5_housesIn_0 (by decide) ?_
  refine tw_istore_n [(2, .int 0), (0, .ref x), (1, .ref c)] dX5_housesIn_1 rfl (by decide) rfl ?_
  refine tw_aload_n 1 dX5_housesIn_2 rfl rfl ?_
  obtain ⟨e1, f2, td_3, ca_4, ha_5, da_6, c1_7, c2_8, c3_9, c4_10, rfl, k11, k12, k13, k14, k15, k16, k17, k18, k19, k20, k21, k22, k23⟩ := sp0.1 x 11 kx (by decide)
  refine tw_get (v := .ref ha_5) rfl in_9 4 dX5_housesIn_3 w_144 rfl (by decide) f2 rfl ?_
  refine tw_astore_n [(3, .ref ha_5), (2, .int 0), (0, .ref x), (1, .ref c)] dX5_housesIn_6 rfl (by decide) rfl ?_
  refine tw_aload_n 0 dX5_housesIn_7 rfl rfl ?_
  obtain ⟨e24, f25, F26, rfl, k27, pn28, pb29, px30⟩ := sp0.1 ha_5 9 k12 (by decide)
  refine tw_alen (v := nI 6) 5 rfl dX5_housesIn_8 f25 rfl ?_
  refine tw_istore [(4, .int (nI 6)), (3, .ref ha_5), (2, .int 0), (0, .ref x), (1, .ref c)] dX5_housesIn_9 (by decide) rfl ?_
  refine tw_iconst (v := 0) dX5_housesIn_11 (by decide) ?_
  refine tw_istore [(5, .int 0), (4, .int (nI 6)), (3, .ref ha_5), (2, .int 0), (0, .ref x), (1, .ref c)] dX5_housesIn_12 (by decide) rfl ?_
  have L35 : ∀ (r33 k32 : Nat) (x31 : Int32) (li39 : ∃ w : Nat, w ≤ k32 ∧ x31 = nI w), 6 + 1 ≤ k32 + r33 → k32 ≤ 6 → tw_W d mX5_housesIn (tw_qi (fun r h1 => h1 = h ∧ ∃ w : Nat, w ≤ 6 ∧ r = nI w) tw_nx) 14 [(0, .ref x), (1, .ref c), (2, .int x31), (3, .ref ha_5), (4, .int (nI 6)), (5, .int (nI k32))] [] h 0 0 := by
    intro r33
    induction r33 with
    | zero => intro k32 x31 li39 hk40 hk41; exact absurd hk40 (by omega)
    | succ r33 ih34 =>
      intro k32 x31 li39 hk40 hk41
      refine tw_iload 5 dX5_housesIn_14 rfl ?_
      refine tw_iload 4 dX5_housesIn_16 rfl ?_
      refine tw_icmp_ge 50 dX5_housesIn_18 (by decide) (fun c42 => ?_) (fun c42 => ?_)
      · refine tw_iload_n 2 dX5_housesIn_50 rfl rfl ?_
        exact tw_iret dX5_housesIn_51 rfl (Or.inl ⟨_, rfl, ⟨rfl, by obtain ⟨w, a, b⟩ := li39; exact ⟨w, by omega, b⟩⟩⟩)
      · have kl43 := tw_klt (N := 6) c42 hk41 (by decide)
        refine tw_aload_n 3 dX5_housesIn_21 rfl rfl ?_
        refine tw_iload 5 dX5_housesIn_22 rfl ?_
        cases k44 : F26 ((nI k32)).toNatClampNeg with
        | none =>
          refine tw_aald (v := .null) 5 rfl rfl dX5_housesIn_24 f25 (vp_in_nI (by omega) (by decide)) (by rw [k44]; rfl) ?_
          refine tw_astoreN [(6, .null), (0, .ref x), (1, .ref c), (2, .int x31), (3, .ref ha_5), (4, .int (nI 6)), (5, .int (nI k32))] dX5_housesIn_25 (by decide) rfl ?_
          refine tw_aloadN 0 dX5_housesIn_27 rfl ?_
          refine tw_ifnullN 44 dX5_housesIn_29 (by decide) ?_
          obtain ⟨v46, ev46⟩ : ∃ y : Int32, y = (nI k32) + 1 := ⟨_, rfl⟩
          refine tw_iinc [(5, .int v46), (6, .null), (0, .ref x), (1, .ref c), (2, .int x31), (3, .ref ha_5), (4, .int (nI 6))] 6 dX5_housesIn_44 rfl (by rw [ev46]; rfl) (by decide) rfl ?_
          refine tw_goto 14 dX5_housesIn_47 (by decide) ?_
          have qv46 := tw_nI3 ev46
          rw [qv46]
          refine tw_lv [2, 3, 4, 5, 6, 0] rfl ?_
          exact ih34 (k32 + 1) x31 (by obtain ⟨w, a, b⟩ := li39; exact ⟨w, by omega, b⟩) (by omega) (by omega)
        | some q45 =>
          have k47 := k27 _ _ k44
          refine tw_aald (v := .ref q45) 5 rfl rfl dX5_housesIn_24 f25 (vp_in_nI (by omega) (by decide)) (by rw [k44]; rfl) ?_
          refine tw_astore [(6, .ref q45), (0, .ref x), (1, .ref c), (2, .int x31), (3, .ref ha_5), (4, .int (nI 6)), (5, .int (nI k32))] dX5_housesIn_25 (by decide) rfl ?_
          refine tw_aload 0 dX5_housesIn_27 rfl ?_
          refine tw_ifnull dX5_housesIn_29 ?_
          refine tw_aload 0 dX5_housesIn_32 rfl ?_
          obtain ⟨e48, f49, n_50, ar_51, p_52, pl_53, go_54, rfl, k55, k56, k57⟩ := sp0.1 q45 3 k47 (by decide)
          refine tw_getN (v := va_rf pl_53) rfl in_6 2 dX5_housesIn_34 w_641 rfl (by decide) f49 rfl ?_
          refine tw_aload_n 2 dX5_housesIn_37 rfl rfl ?_
          refine tw_acmp_ne (rx := (pl_53)) (ry := (some c)) 44 dX5_housesIn_38 (by decide) (fun c58 => ?_) (fun c58 => ?_)
          · obtain ⟨v59, ev59⟩ : ∃ y : Int32, y = (nI k32) + 1 := ⟨_, rfl⟩
            refine tw_iinc [(5, .int v59), (6, .ref q45), (0, .ref x), (1, .ref c), (2, .int x31), (3, .ref ha_5), (4, .int (nI 6))] 6 dX5_housesIn_44 rfl (by rw [ev59]; rfl) (by decide) rfl ?_
            refine tw_goto 14 dX5_housesIn_47 (by decide) ?_
            have qv59 := tw_nI3 ev59
            rw [qv59]
            refine tw_lv [2, 3, 4, 5, 6, 0] rfl ?_
            exact ih34 (k32 + 1) x31 (by obtain ⟨w, a, b⟩ := li39; exact ⟨w, by omega, b⟩) (by omega) (by omega)
          · obtain ⟨v60, ev60⟩ : ∃ y : Int32, y = x31 + 1 := ⟨_, rfl⟩
            refine tw_iinc [(2, .int v60), (6, .ref q45), (0, .ref x), (1, .ref c), (3, .ref ha_5), (4, .int (nI 6)), (5, .int (nI k32))] 3 dX5_housesIn_41 rfl (by rw [ev60]; rfl) (by decide) rfl ?_
            obtain ⟨v61, ev61⟩ : ∃ y : Int32, y = (nI k32) + 1 := ⟨_, rfl⟩
            refine tw_iinc [(5, .int v61), (2, .int v60), (6, .ref q45), (0, .ref x), (1, .ref c), (3, .ref ha_5), (4, .int (nI 6))] 6 dX5_housesIn_44 rfl (by rw [ev61]; rfl) (by decide) rfl ?_
            refine tw_goto 14 dX5_housesIn_47 (by decide) ?_
            have qv61 := tw_nI3 ev61
            rw [qv61]
            refine tw_lv [3, 4, 1, 5, 6, 0] rfl ?_
            exact ih34 (k32 + 1) v60 (by obtain ⟨w, a, b⟩ := li39; exact ⟨w + 1, by omega, by rw [ev60, b]; exact nI_1 w⟩) (by omega) (by omega)
  refine tw_lv [4, 5, 3, 2, 1, 0] rfl ?_
  exact L35 (6 + 1) 0 0 (⟨0, Nat.le_refl _, rfl⟩) (by omega) (by omega)

set_option maxHeartbeats 4000000 in
set_option maxRecDepth 100000 in
theorem c_X5_sign (d : tw_D) (g : tw_G) (τ : tw_K) (h : tw_H) (hw : tw_wt d g τ h) (x : Nat) (kx : τ x = 11) (n : Int32) : tw_Ct d mX5_sign 6 64 [.ref x, .int n] h (tw_qr (fun r h1 => tw_sp d τ h g τ h1) (fun E h1 => (E = tw_IOE) ∧ ∃ τ1, tw_sp d τ h g τ1 h1)) := by
  refine tw_of (by decide +kernel) (Nat.le_of_ble_eq_true rfl) ?_
  show tw_W d mX5_sign _ 0 [(0, .ref x), (1, .int n)] [] h 6 64
  have sp0 := tw_sp.rf hw
  refine tw_aload_n 0 dX5_sign_0 rfl rfl ?_
  refine tw_iload_n 1 dX5_sign_1 rfl rfl ?_
  obtain ⟨e1, f2, td_3, ca_4, ha_5, da_6, c1_7, c2_8, c3_9, c4_10, rfl, k11, k12, k13, k14, k15, k16, k17, k18, k19, k20, k21, k22, k23⟩ := sp0.1 x 11 kx (by decide)
  refine tw_br (tw_callV (M := mX5_sign) (pc := 2) okX5_countryAt dX5_sign_2 w_546 rfl f2 [.int n] [] rfl rfl ⟨by decide, by decide⟩ (Nat.le_of_ble_eq_true rfl) (c_X5_countryAt d g τ h sp0.1 x kx n) 5 58 (Nat.le_of_ble_eq_true rfl) (Nat.le_of_ble_eq_true rfl)) (fun r26 h25 q24 => ?_) (fun E h1 q => Or.inr ⟨E, rfl, (q.1), ⟨τ, by rw [q.2]; exact sp0⟩⟩)
  obtain ⟨q24e, p27⟩ := q24
  rw [q24e]
  refine tw_astore_n [(2, .ref r26), (0, .ref x), (1, .int n)] dX5_sign_5 rfl (by decide) rfl ?_
  refine tw_new (ci := 1) rfl in_1 tyJ4 tyJ4_ok dX5_sign_6 w_822 w_823 w_105 (fs := [.null, .int 0, .int 0, .int 0]) (fun j hj => by rcases (show j = 0 ∨ j = 1 ∨ j = 2 ∨ j = 3 by omega) with rfl | rfl | rfl | rfl <;> rfl) 4 54 (Nat.le_of_ble_eq_true rfl) (Nat.le_of_ble_eq_true rfl) (fun q28 hq29 hA30 => ?_)
  have n31 := sp0.nn hq29
  have z32 := sp0.1.none hq29
  obtain ⟨h33, eh33⟩ : ∃ z : tw_H, z = tw_up h q28 (.inr (1, [.null, .int 0, .int 0, .int 0])) := ⟨_, rfl⟩
  rw [← eh33]
  have sp34 : tw_sp d τ h g τ h33 := by rw [eh33]; exact sp0.mk hq29
  have f35 : h33 q28 = some (.inr (1, [.null, .int 0, .int 0, .int 0])) := by rw [eh33]; exact tw_up_s
  refine tw_dup dX5_sign_9 rfl ?_
  refine tw_bv (tw_callI (M := mX5_sign) (pc := 10) okJ4_init_da8c8 dX5_sign_10 w_824 rfl [] [.ref q28] rfl rfl ⟨by decide, by decide⟩ (Nat.le_of_ble_eq_true rfl) (c_sb_n4 d h33 q28 f35) 3 38 (Nat.le_of_ble_eq_true rfl) (Nat.le_of_ble_eq_true rfl)) (fun h37 q36 => ?_) (fun E h1 q => q.elim)
  obtain ⟨v38, nv39, w40⟩ := q36
  have n41 := sp34.nn nv39
  have z42 := sp34.1.none nv39
  have ne43 := tw_neF f35 nv39
  have sp44 := sp34.sb n31 z32 n41 z42 w40
  obtain ⟨F45, f46, fb47⟩ := w40.2.1
  have f48 := w40.1
  refine tw_astore_n [(3, .ref q28), (2, .ref r26), (0, .ref x), (1, .int n)] dX5_sign_13 rfl (by decide) rfl ?_
  refine tw_aload_n 0 dX5_sign_14 rfl rfl ?_
  refine tw_aload_n 1 dX5_sign_15 rfl rfl ?_
  obtain ⟨e49, f50, n_51, r_52, c_53, go_54, so_55, v_56, rd_57, rf_58, t_59, rfl, k60, k61, k62, k63, k64, k65, k66, k67, k68⟩ := sp44.1 r26 2 p27 (by decide)
  refine tw_getN (v := .int r_52) rfl in_4 1 dX5_sign_16 w_504 rfl (by decide) f50 rfl ?_
  refine tw_bipush (v := 10) dX5_sign_19 (by decide) ?_
  refine tw_idiv dX5_sign_21 (by decide) ?_
  refine tw_nmi (fun v69 ev69 => ?_)
  obtain ⟨i70, hi71, ei72⟩ := tw_d10 k66 k67 ev69
  rw [ei72]
  refine tw_br (tw_callV (M := mX5_sign) (pc := 22) okJ4_append_bf812 dX5_sign_22 w_853 rfl f48 [.int (nI i70)] [] rfl rfl ⟨by decide, by decide⟩ (Nat.le_of_ble_eq_true rfl) (c_sb_i4 d h37 q28 v38 0 F45 f48 f46 fb47 (by omega) i70 hi71) 3 38 (Nat.le_of_ble_eq_true rfl) (Nat.le_of_ble_eq_true rfl)) (fun r75 h74 q73 => ?_) (fun E h1 q => q.elim)
  obtain ⟨q73r, k76, q73k, q73w⟩ := q73
  rw [q73r]
  have sp77 := sp44.sb n31 z32 n41 z42 q73w
  obtain ⟨F78, f79, fb80⟩ := q73w.2.1
  have f81 := q73w.1
  refine tw_bipush (v := 46) dX5_sign_25 (by decide) ?_
  refine tw_br (tw_callV (M := mX5_sign) (pc := 27) okJ4_append_cf468 dX5_sign_27 w_939 rfl f81 [.int 46] [] rfl rfl ⟨by decide, by decide⟩ (Nat.le_of_ble_eq_true rfl) (c_sb_c4 d h74 q28 v38 k76 F78 f81 f79 fb80 (by omega) 46 (by decide)) 3 38 (Nat.le_of_ble_eq_true rfl) (Nat.le_of_ble_eq_true rfl)) (fun r84 h83 q82 => ?_) (fun E h1 q => q.elim)
  obtain ⟨q82r, q82w⟩ := q82
  rw [q82r]
  have sp85 := sp77.sb n31 z32 n41 z42 q82w
  obtain ⟨F86, f87, fb88⟩ := q82w.2.1
  have f89 := q82w.1
  refine tw_aload_n 1 dX5_sign_30 rfl rfl ?_
  obtain ⟨e90, f91, n_92, r_93, c_94, go_95, so_96, v_97, rd_98, rf_99, t_100, rfl, k101, k102, k103, k104, k105, k106, k107, k108, k109⟩ := sp85.1 r26 2 p27 (by decide)
  refine tw_getN (v := .int r_93) rfl in_4 1 dX5_sign_31 w_504 rfl (by decide) f91 rfl ?_
  refine tw_bipush (v := 10) dX5_sign_34 (by decide) ?_
  refine tw_irem dX5_sign_36 (by decide) ?_
  refine tw_nmi (fun v110 ev110 => ?_)
  obtain ⟨i111, hi112, ei113⟩ := tw_m10 k107 k108 ev110
  rw [ei113]
  refine tw_br (tw_callV (M := mX5_sign) (pc := 37) okJ4_append_bf812 dX5_sign_37 w_853 rfl f89 [.int (nI i111)] [] rfl rfl ⟨by decide, by decide⟩ (Nat.le_of_ble_eq_true rfl) (c_sb_i4 d h83 q28 v38 (k76 + 1) F86 f89 f87 fb88 (by omega) i111 hi112) 3 38 (Nat.le_of_ble_eq_true rfl) (Nat.le_of_ble_eq_true rfl)) (fun r116 h115 q114 => ?_) (fun E h1 q => q.elim)
  obtain ⟨q114r, k117, q114k, q114w⟩ := q114
  rw [q114r]
  have sp118 := sp85.sb n31 z32 n41 z42 q114w
  obtain ⟨F119, f120, fb121⟩ := q114w.2.1
  have f122 := q114w.1
  refine tw_pop dX5_sign_40 rfl ?_
  refine tw_aload_n 0 dX5_sign_41 rfl rfl ?_
  refine tw_aload_n 1 dX5_sign_42 rfl rfl ?_
  refine tw_iconst (v := 0) dX5_sign_43 (by decide) ?_
  obtain ⟨e123, f124, n_125, r_126, c_127, go_128, so_129, v_130, rd_131, rf_132, t_133, rfl, k134, k135, k136, k137, k138, k139, k140, k141, k142⟩ := sp118.1 r26 2 p27 (by decide)
  refine tw_bi (tw_callVN (M := mX5_sign) (pc := 44) okX0_isOpenFor dX5_sign_44 w_577 rfl f124 [.int 0] [.ref q28] rfl rfl ⟨by decide, by decide⟩ (Nat.le_of_ble_eq_true rfl) (c_X0_isOpenFor d g τ h115 sp118.1 r26 p27 0) 3 38 (Nat.le_of_ble_eq_true rfl) (Nat.le_of_ble_eq_true rfl)) (fun r145 h144 q143 => ?_) (fun E h1 q => q.elim)
  obtain ⟨q143e, p146⟩ := q143
  rw [q143e]
  have J57 : ∀ c91 : Int32, c91 ≤ 255 → tw_W d mX5_sign (tw_qr (fun r h1 => tw_sp d τ h g τ h1) (fun E h1 => (E = tw_IOE) ∧ ∃ τ1, tw_sp d τ h g τ1 h1)) 57 [(3, .ref q28), (2, .ref r26), (0, .ref x), (1, .int n)] [.int c91, .ref q28] h115 3 38 := by
    intro c91 hc91
    refine tw_br (tw_callV (M := mX5_sign) (pc := 57) okJ4_append_cf468 dX5_sign_57 w_939 rfl f122 [.int c91] [] rfl rfl ⟨by decide, by decide⟩ (Nat.le_of_ble_eq_true rfl) (c_sb_c4 d h115 q28 v38 k117 F119 f122 f120 fb121 (by omega) c91 hc91) 3 38 (Nat.le_of_ble_eq_true rfl) (Nat.le_of_ble_eq_true rfl)) (fun r149 h148 q147 => ?_) (fun E h1 q => q.elim)
    obtain ⟨q147r, q147w⟩ := q147
    rw [q147r]
    have sp150 := sp118.sb n31 z32 n41 z42 q147w
    obtain ⟨F151, f152, fb153⟩ := q147w.2.1
    have f154 := q147w.1
    refine tw_pop dX5_sign_60 rfl ?_
    refine tw_aload_n 0 dX5_sign_61 rfl rfl ?_
    refine tw_aload_n 1 dX5_sign_62 rfl rfl ?_
    refine tw_iconst (v := 1) dX5_sign_63 (by decide) ?_
    obtain ⟨e155, f156, n_157, r_158, c_159, go_160, so_161, v_162, rd_163, rf_164, t_165, rfl, k166, k167, k168, k169, k170, k171, k172, k173, k174⟩ := sp150.1 r26 2 p27 (by decide)
    refine tw_bi (tw_callVN (M := mX5_sign) (pc := 64) okX0_isOpenFor dX5_sign_64 w_577 rfl f156 [.int 1] [.ref q28] rfl rfl ⟨by decide, by decide⟩ (Nat.le_of_ble_eq_true rfl) (c_X0_isOpenFor d g τ h148 sp150.1 r26 p27 1) 3 38 (Nat.le_of_ble_eq_true rfl) (Nat.le_of_ble_eq_true rfl)) (fun r177 h176 q175 => ?_) (fun E h1 q => q.elim)
    obtain ⟨q175e, p178⟩ := q175
    rw [q175e]
    have J77 : ∀ c92 : Int32, c92 ≤ 255 → tw_W d mX5_sign (tw_qr (fun r h1 => tw_sp d τ h g τ h1) (fun E h1 => (E = tw_IOE) ∧ ∃ τ1, tw_sp d τ h g τ1 h1)) 77 [(3, .ref q28), (2, .ref r26), (0, .ref x), (1, .int n)] [.int c92, .ref q28] h148 3 38 := by
      intro c92 hc92
      refine tw_br (tw_callV (M := mX5_sign) (pc := 77) okJ4_append_cf468 dX5_sign_77 w_939 rfl f154 [.int c92] [] rfl rfl ⟨by decide, by decide⟩ (Nat.le_of_ble_eq_true rfl) (c_sb_c4 d h148 q28 v38 (k117 + 1) F151 f154 f152 fb153 (by omega) c92 hc92) 3 38 (Nat.le_of_ble_eq_true rfl) (Nat.le_of_ble_eq_true rfl)) (fun r181 h180 q179 => ?_) (fun E h1 q => q.elim)
      obtain ⟨q179r, q179w⟩ := q179
      rw [q179r]
      have sp182 := sp150.sb n31 z32 n41 z42 q179w
      obtain ⟨F183, f184, fb185⟩ := q179w.2.1
      have f186 := q179w.1
      refine tw_pop dX5_sign_80 rfl ?_
      refine tw_aload_n 2 dX5_sign_81 rfl rfl ?_
      refine tw_aload_n 1 dX5_sign_82 rfl rfl ?_
      obtain ⟨e187, f188, td_189, ca_190, ha_191, da_192, c1_193, c2_194, c3_195, c4_196, rfl, k197, k198, k199, k200, k201, k202, k203, k204, k205, k206, k207, k208, k209⟩ := sp182.1 x 11 kx (by decide)
      refine tw_bi (tw_callV (M := mX5_sign) (pc := 83) okX5_housesIn dX5_sign_83 w_261 rfl f188 [.ref r26] [] rfl rfl ⟨by decide, by decide⟩ (Nat.le_of_ble_eq_true rfl) (c_X5_housesIn6 d g τ h180 sp182.1 x kx r26 p27) 3 38 (Nat.le_of_ble_eq_true rfl) (Nat.le_of_ble_eq_true rfl)) (fun r212 h211 q210 => ?_) (fun E h1 q => q.elim)
      obtain ⟨q210e, w213, q210w, q210r⟩ := q210
      rw [q210e, q210r]
      refine tw_istore [(4, .int (nI w213)), (3, .ref q28), (2, .ref r26), (0, .ref x), (1, .int n)] dX5_sign_86 (by decide) rfl ?_
      refine tw_iconst (v := 0) dX5_sign_88 (by decide) ?_
      refine tw_istore [(5, .int 0), (4, .int (nI w213)), (3, .ref q28), (2, .ref r26), (0, .ref x), (1, .int n)] dX5_sign_89 (by decide) rfl ?_
      have L9 : ∀ (r9 j9 k9 : Nat) (h9 : tw_H) (sp9 : tw_sp d τ h g τ h9) (fx9 : h9 q28 = some (.inr (1, [.ref v38, .int 0, .int 0, .int (nI k9)]))) (F9 : Nat → Int32) (fv9 : h9 v38 = some (.inl (d.2 3, 16, .inl F9))) (fb9 : tw_fb F9), j9 + r9 = w213 → k9 ≤ 7 + j9 → tw_W d mX5_sign (tw_qr (fun r h1 => tw_sp d τ h g τ h1) (fun E h1 => (E = tw_IOE) ∧ ∃ τ1, tw_sp d τ h g τ1 h1)) 91 [(0, .ref x), (1, .int n), (2, .ref r26), (3, .ref q28), (4, .int (nI w213)), (5, .int (nI j9))] [] h9 3 38 := by
        intro r9
        induction r9 with
        | zero =>
          intro j9 k9 h9 sp9 fx9 F9 fv9 fb9 h1 h2
          refine tw_iload 5 dX5_sign_91 rfl ?_
          refine tw_iload 4 dX5_sign_93 rfl ?_
          refine tw_icmp_ge 111 dX5_sign_95 (by decide) (fun _ => ?_) (fun c214 => absurd (nI_le (by omega) (by omega)) c214)
          refine tw_aload_n 3 dX5_sign_111 rfl rfl ?_
          refine tw_br (tw_callV (M := mX5_sign) (pc := 112) okJ4_toString_0e30d dX5_sign_112 w_980 rfl fx9 [] [] rfl rfl ⟨by decide, by decide⟩ (Nat.le_of_ble_eq_true rfl) (c_tos d h9 g τ sp9.1 q28 v38 k9 F9 fx9 fv9 fb9 (by omega)) 1 18 (Nat.le_of_ble_eq_true rfl) (Nat.le_of_ble_eq_true rfl)) (fun r217 h216 q215 => ?_) (fun E h1 q => q.elim)
          have sp218 := sp9.tr q215
          exact tw_aret dX5_sign_115 rfl (Or.inl ⟨_, rfl⟩) (Or.inl ⟨_, rfl, sp218⟩)
        | succ r9 ih =>
          intro j9 k9 h9 sp9 fx9 F9 fv9 fb9 h1 h2
          refine tw_iload 5 dX5_sign_91 rfl ?_
          refine tw_iload 4 dX5_sign_93 rfl ?_
          refine tw_icmp_ge 111 dX5_sign_95 (by decide) (fun c219 => absurd c219 (nI_ge (by omega) (by omega))) (fun _ => ?_)
          refine tw_aload_n 3 dX5_sign_98 rfl rfl ?_
          refine tw_bipush (v := 42) dX5_sign_99 (by decide) ?_
          refine tw_br (tw_callV (M := mX5_sign) (pc := 101) okJ4_append_cf468 dX5_sign_101 w_939 rfl fx9 [.int 42] [] rfl rfl ⟨by decide, by decide⟩ (Nat.le_of_ble_eq_true rfl) (c_sb_c4 d h9 q28 v38 k9 F9 fx9 fv9 fb9 (by omega) 42 (by decide)) 3 38 (Nat.le_of_ble_eq_true rfl) (Nat.le_of_ble_eq_true rfl)) (fun r222 h221 q220 => ?_) (fun E h1 q => q.elim)
          obtain ⟨q220r, q220w⟩ := q220
          rw [q220r]
          have sp223 := sp9.sb n31 z32 n41 z42 q220w
          obtain ⟨F224, f225, fb226⟩ := q220w.2.1
          have f227 := q220w.1
          refine tw_pop dX5_sign_104 rfl ?_
          obtain ⟨v228, ev228⟩ : ∃ y : Int32, y = (nI j9) + 1 := ⟨_, rfl⟩
          refine tw_iinc [(5, .int v228), (0, .ref x), (1, .int n), (2, .ref r26), (3, .ref q28), (4, .int (nI w213))] 5 dX5_sign_105 rfl (by rw [ev228]; rfl) (by decide) rfl ?_
          refine tw_goto 91 dX5_sign_108 (by decide) ?_
          have qv228 := tw_nI3 ev228
          rw [qv228]
          refine tw_lv [1, 2, 3, 4, 5, 0] rfl ?_
          exact ih (j9 + 1) _ _ sp223 f227 F224 f225 fb226 (by omega) (by omega)
      refine tw_lv [4, 5, 3, 2, 1, 0] rfl ?_
      exact L9 w213 0 _ _ sp182 f186 F183 f184 fb185 (by omega) (by omega)
    refine tw_if_eq 75 dX5_sign_67 (by decide) (fun c229 => ?_) (fun c229 => ?_)
    · refine tw_bipush (v := 45) dX5_sign_75 (by decide) ?_
      exact J77 45 (by decide)
    · refine tw_bipush (v := 115) dX5_sign_70 (by decide) ?_
      refine tw_goto 77 dX5_sign_72 (by decide) ?_
      exact J77 115 (by decide)
  refine tw_if_eq 55 dX5_sign_47 (by decide) (fun c230 => ?_) (fun c230 => ?_)
  · refine tw_bipush (v := 45) dX5_sign_55 (by decide) ?_
    exact J57 45 (by decide)
  · refine tw_bipush (v := 103) dX5_sign_50 (by decide) ?_
    refine tw_goto 57 dX5_sign_52 (by decide) ?_
    exact J57 103 (by decide)

set_option maxHeartbeats 4000000 in
set_option maxRecDepth 100000 in
theorem c_X10_sign (d : tw_D) (g : tw_G) (τ : tw_K) (h : tw_H) (hw : tw_wt d g τ h) (x : Nat) (kx : τ x = 36) (n : Int32) : tw_Ct d mX10_sign 6 64 [.ref x, .int n] h (tw_qr (fun r h1 => tw_sp d τ h g τ h1) tw_nx) := by
  refine tw_of (by decide +kernel) (Nat.le_of_ble_eq_true rfl) ?_
  show tw_W d mX10_sign _ 0 [(0, .ref x), (1, .int n)] [] h 6 64
  have sp0 := tw_sp.rf hw
  refine tw_aload_n 0 dX10_sign_0 rfl rfl ?_
  refine tw_aload_n 0 dX10_sign_1 rfl rfl ?_
  refine tw_iload_n 1 dX10_sign_2 rfl rfl ?_
  obtain ⟨e1, f2, th_3, td_4, ds_5, fr_6, ca_7, us_8, wo_9, cm_10, lc_11, lh_12, ld_13, rfl, k14, k15, k16, k17, k18, k19, k20, k21, k22, k23, k24, k25, k26, k27, k28, k29, k30, k31⟩ := sp0.1 x 36 kx (by decide)
  refine tw_bi (tw_callV (M := mX10_sign) (pc := 3) okX10_isNoCountry dX10_sign_3 w_1292 rfl f2 [.int n] [.ref x] rfl rfl ⟨by decide, by decide⟩ (Nat.le_of_ble_eq_true rfl) (c_X10_isNoCountry d g τ h sp0.1 x kx n) 6 64 (Nat.le_of_ble_eq_true rfl) (Nat.le_of_ble_eq_true rfl)) (fun r34 h33 q32 => ?_) (fun E h1 q => q.elim)
  obtain ⟨q32e, q32d⟩ := q32
  rw [q32e]
  rcases q32d with q32r | ⟨q32r, j35, q32j, q32k⟩
  · rw [q32r]
    refine tw_iconst (v := 1) dX10_sign_6 (by decide) ?_
    refine tw_bi (tw_callV (M := mX10_sign) (pc := 7) okX10_start dX10_sign_7 w_1200 rfl f2 [.int 1, .int 1] [] rfl rfl ⟨by decide, by decide⟩ (Nat.le_of_ble_eq_true rfl) (c_X10_start d g τ h sp0.1 x kx 1 1 (by decide)) 6 64 (Nat.le_of_ble_eq_true rfl) (Nat.le_of_ble_eq_true rfl)) (fun r38 h37 q36 => ?_) (fun E h1 q => q.elim)
    obtain ⟨e39, he40, hs41, hr42, h343⟩ := q36
    have sp44 : tw_sp d τ h g τ h37 := by rw [he40]; exact sp0.set kx (by decide) hs41
    rcases hr42 with ei45 | ⟨ei45, ei45b⟩
    · rw [ei45]
      refine tw_if_eq 16 dX10_sign_10 (by decide) (fun c46 => absurd c46 (by decide)) (fun _ => ?_)
      refine tw_ldcS (i := 19) dX10_sign_13 rfl ?_
      exact tw_aret dX10_sign_15 rfl (Or.inl ⟨_, rfl⟩) (Or.inl ⟨_, rfl, sp44⟩)
    · exact absurd ei45b (by decide)
  · rw [q32r]
    subst q32k
    refine tw_iconst (v := 1) dX10_sign_6 (by decide) ?_
    refine tw_bi (tw_callV (M := mX10_sign) (pc := 7) okX10_start dX10_sign_7 w_1200 rfl f2 [.int 0, .int 1] [] rfl rfl ⟨by decide, by decide⟩ (Nat.le_of_ble_eq_true rfl) (c_X10_start d g τ h sp0.1 x kx 0 1 (by decide)) 6 64 (Nat.le_of_ble_eq_true rfl) (Nat.le_of_ble_eq_true rfl)) (fun r49 h48 q47 => ?_) (fun E h1 q => q.elim)
    obtain ⟨e50, he51, hs52, hr53, h354⟩ := q47
    have sp55 : tw_sp d τ h g τ h48 := by rw [he51]; exact sp0.set kx (by decide) hs52
    rcases hr53 with ei56 | ⟨ei56, ei56b⟩
    · rw [ei56]
      refine tw_if_eq 16 dX10_sign_10 (by decide) (fun c57 => absurd c57 (by decide)) (fun _ => ?_)
      refine tw_ldcS (i := 19) dX10_sign_13 rfl ?_
      exact tw_aret dX10_sign_15 rfl (Or.inl ⟨_, rfl⟩) (Or.inl ⟨_, rfl, sp55⟩)
    · rw [ei56]
      refine tw_if_eq 16 dX10_sign_10 (by decide) (fun _ => ?_) (fun c58 => absurd (by decide) c58)
      refine tw_aload_n 0 dX10_sign_16 rfl rfl ?_
      obtain ⟨e59, f60, th_61, td_62, ds_63, fr_64, ca_65, us_66, wo_67, cm_68, lc_69, lh_70, ld_71, rfl, k72, k73, k74, k75, k76, k77, k78, k79, k80, k81, k82, k83, k84, k85, k86, k87, k88, k89⟩ := sp55.1 x 36 kx (by decide)
      refine tw_get (v := .ref lc_69) rfl in_14 9 dX10_sign_17 w_1160 rfl (by decide) f60 rfl ?_
      refine tw_iload_n 1 dX10_sign_20 rfl rfl ?_
      obtain ⟨e90, f91, ⟨el92, rfl, k93⟩, k94⟩ := sp55.1 lc_69 24 k78 (by decide)
      refine tw_br (tw_callV (M := mX10_sign) (pc := 21) okJx4a65c_get_915e3 dX10_sign_21 w_1296 rfl f91 [.int (nI j35)] [] rfl rfl ⟨by decide, by decide⟩ (Nat.le_of_ble_eq_true rfl) (c24_get d g τ h48 sp55.1 lc_69 k78 j35 (by omega) (by omega)) 6 64 (Nat.le_of_ble_eq_true rfl) (Nat.le_of_ble_eq_true rfl)) (fun r97 h96 q95 => ?_) (fun E h1 q => q.elim)
      obtain ⟨q95e, q95k⟩ := q95
      rw [q95e]
      have el98 : tw_el h48 (g.2 12) j35 = r97 := by rw [← k94]; exact q95k.2.symm
      have kl99 : τ (g.2 12) = 24 := by rw [← k94]; exact k78
      obtain ⟨e100, f101, r_102, c_103, v_104, o_105, t_106, rfl, k107, k108, k109, k110, k111, k112⟩ := sp55.1 r97 21 q95k.1 (by decide)
      refine tw_castS (ci := 11) rfl dX10_sign_24 w_1212 f101 ?_
      refine tw_astore_n [(2, .ref r97), (0, .ref x), (1, .int (nI j35))] dX10_sign_27 rfl (by decide) rfl ?_
      refine tw_new (ci := 1) rfl in_1 tyJ4 tyJ4_ok dX10_sign_28 w_1546 w_823 w_105 (fs := [.null, .int 0, .int 0, .int 0]) (fun j hj => by rcases (show j = 0 ∨ j = 1 ∨ j = 2 ∨ j = 3 by omega) with rfl | rfl | rfl | rfl <;> rfl) 5 60 (Nat.le_of_ble_eq_true rfl) (Nat.le_of_ble_eq_true rfl) (fun q113 hq114 hA115 => ?_)
      have n116 := sp55.nn hq114
      have z117 := sp55.1.none hq114
      obtain ⟨h118, eh118⟩ : ∃ z : tw_H, z = tw_up h48 q113 (.inr (1, [.null, .int 0, .int 0, .int 0])) := ⟨_, rfl⟩
      rw [← eh118]
      have sp119 : tw_sp d τ h g τ h118 := by rw [eh118]; exact sp55.mk hq114
      have f120 : h118 q113 = some (.inr (1, [.null, .int 0, .int 0, .int 0])) := by rw [eh118]; exact tw_up_s
      refine tw_dup dX10_sign_31 rfl ?_
      refine tw_bv (tw_callI (M := mX10_sign) (pc := 32) okJ4_init_da8c8 dX10_sign_32 w_1547 rfl [] [.ref q113] rfl rfl ⟨by decide, by decide⟩ (Nat.le_of_ble_eq_true rfl) (c_sb_n4 d h118 q113 f120) 4 44 (Nat.le_of_ble_eq_true rfl) (Nat.le_of_ble_eq_true rfl)) (fun h122 q121 => ?_) (fun E h1 q => q.elim)
      obtain ⟨v123, nv124, w125⟩ := q121
      have n126 := sp119.nn nv124
      have z127 := sp119.1.none nv124
      have ne128 := tw_neF f120 nv124
      have sp129 := sp119.sb n116 z117 n126 z127 w125
      obtain ⟨F130, f131, fb132⟩ := w125.2.1
      have f133 := w125.1
      refine tw_astore_n [(3, .ref q113), (2, .ref r97), (0, .ref x), (1, .int (nI j35))] dX10_sign_35 rfl (by decide) rfl ?_
      refine tw_aload_n 0 dX10_sign_36 rfl rfl ?_
      refine tw_aload_n 1 dX10_sign_37 rfl rfl ?_
      obtain ⟨e134, f135, r_136, c_137, v_138, o_139, t_140, rfl, k141, k142, k143, k144, k145, k146⟩ := sp129.1 r97 21 q95k.1 (by decide)
      refine tw_get (v := .int r_136) rfl in_11 0 dX10_sign_38 w_1218 rfl (by decide) f135 rfl ?_
      refine tw_bipush (v := 10) dX10_sign_41 (by decide) ?_
      refine tw_idiv dX10_sign_43 (by decide) ?_
      refine tw_nmi (fun v147 ev147 => ?_)
      obtain ⟨i148, hi149, ei150⟩ := tw_d10 k144 k145 ev147
      rw [ei150]
      refine tw_br (tw_callV (M := mX10_sign) (pc := 44) okJ4_append_bf812 dX10_sign_44 w_1548 rfl f133 [.int (nI i148)] [] rfl rfl ⟨by decide, by decide⟩ (Nat.le_of_ble_eq_true rfl) (c_sb_i4 d h122 q113 v123 0 F130 f133 f131 fb132 (by omega) i148 hi149) 4 44 (Nat.le_of_ble_eq_true rfl) (Nat.le_of_ble_eq_true rfl)) (fun r153 h152 q151 => ?_) (fun E h1 q => q.elim)
      obtain ⟨q151r, k154, q151k, q151w⟩ := q151
      rw [q151r]
      have sp155 := sp129.sb n116 z117 n126 z127 q151w
      obtain ⟨F156, f157, fb158⟩ := q151w.2.1
      have f159 := q151w.1
      refine tw_bipush (v := 46) dX10_sign_47 (by decide) ?_
      refine tw_br (tw_callV (M := mX10_sign) (pc := 49) okJ4_append_cf468 dX10_sign_49 w_1549 rfl f159 [.int 46] [] rfl rfl ⟨by decide, by decide⟩ (Nat.le_of_ble_eq_true rfl) (c_sb_c4 d h152 q113 v123 k154 F156 f159 f157 fb158 (by omega) 46 (by decide)) 4 44 (Nat.le_of_ble_eq_true rfl) (Nat.le_of_ble_eq_true rfl)) (fun r162 h161 q160 => ?_) (fun E h1 q => q.elim)
      obtain ⟨q160r, q160w⟩ := q160
      rw [q160r]
      have sp163 := sp155.sb n116 z117 n126 z127 q160w
      obtain ⟨F164, f165, fb166⟩ := q160w.2.1
      have f167 := q160w.1
      refine tw_aload_n 1 dX10_sign_52 rfl rfl ?_
      obtain ⟨e168, f169, r_170, c_171, v_172, o_173, t_174, rfl, k175, k176, k177, k178, k179, k180⟩ := sp163.1 r97 21 q95k.1 (by decide)
      refine tw_get (v := .int r_170) rfl in_11 0 dX10_sign_53 w_1218 rfl (by decide) f169 rfl ?_
      refine tw_bipush (v := 10) dX10_sign_56 (by decide) ?_
      refine tw_irem dX10_sign_58 (by decide) ?_
      refine tw_nmi (fun v181 ev181 => ?_)
      obtain ⟨i182, hi183, ei184⟩ := tw_m10 k178 k179 ev181
      rw [ei184]
      refine tw_br (tw_callV (M := mX10_sign) (pc := 59) okJ4_append_bf812 dX10_sign_59 w_1548 rfl f167 [.int (nI i182)] [] rfl rfl ⟨by decide, by decide⟩ (Nat.le_of_ble_eq_true rfl) (c_sb_i4 d h161 q113 v123 (k154 + 1) F164 f167 f165 fb166 (by omega) i182 hi183) 4 44 (Nat.le_of_ble_eq_true rfl) (Nat.le_of_ble_eq_true rfl)) (fun r187 h186 q185 => ?_) (fun E h1 q => q.elim)
      obtain ⟨q185r, k188, q185k, q185w⟩ := q185
      rw [q185r]
      have sp189 := sp163.sb n116 z117 n126 z127 q185w
      obtain ⟨F190, f191, fb192⟩ := q185w.2.1
      have f193 := q185w.1
      refine tw_aload_n 1 dX10_sign_62 rfl rfl ?_
      obtain ⟨e194, f195, r_196, c_197, v_198, o_199, t_200, rfl, k201, k202, k203, k204, k205, k206⟩ := sp189.1 r97 21 q95k.1 (by decide)
      refine tw_get (v := .ref o_199) rfl in_11 3 dX10_sign_63 w_1223 rfl (by decide) f195 rfl ?_
      refine tw_iconst (v := 0) dX10_sign_66 (by decide) ?_
      obtain ⟨e207, f208, F209, rfl, k211, pf210⟩ := sp189.1 o_199 32 k202 (by decide)
      obtain ⟨v212, ev212⟩ : ∃ y : Int32, F209 (0 : Int32).toNatClampNeg = y := ⟨_, rfl⟩
      refine tw_zald (v := v212) dX10_sign_67 f208 (vp_in_nI (n := 0) (by decide) (by decide)) ev212 ?_
      have J78 : ∀ c91 : Int32, c91 ≤ 255 → tw_W d mX10_sign (tw_qr (fun r h1 => tw_sp d τ h g τ h1) tw_nx) 78 [(3, .ref q113), (2, .ref r97), (0, .ref x), (1, .int (nI j35))] [.int c91, .ref q113] h186 4 44 := by
        intro c91 hc91
        refine tw_br (tw_callV (M := mX10_sign) (pc := 78) okJ4_append_cf468 dX10_sign_78 w_1549 rfl f193 [.int c91] [] rfl rfl ⟨by decide, by decide⟩ (Nat.le_of_ble_eq_true rfl) (c_sb_c4 d h186 q113 v123 k188 F190 f193 f191 fb192 (by omega) c91 hc91) 4 44 (Nat.le_of_ble_eq_true rfl) (Nat.le_of_ble_eq_true rfl)) (fun r215 h214 q213 => ?_) (fun E h1 q => q.elim)
        obtain ⟨q213r, q213w⟩ := q213
        rw [q213r]
        have sp216 := sp189.sb n116 z117 n126 z127 q213w
        obtain ⟨F217, f218, fb219⟩ := q213w.2.1
        have f220 := q213w.1
        refine tw_aload_n 1 dX10_sign_81 rfl rfl ?_
        obtain ⟨e221, f222, r_223, c_224, v_225, o_226, t_227, rfl, k228, k229, k230, k231, k232, k233⟩ := sp216.1 r97 21 q95k.1 (by decide)
        refine tw_get (v := .ref o_226) rfl in_11 3 dX10_sign_82 w_1223 rfl (by decide) f222 rfl ?_
        refine tw_iconst (v := 1) dX10_sign_85 (by decide) ?_
        obtain ⟨e234, f235, F236, rfl, k238, pf237⟩ := sp216.1 o_226 32 k229 (by decide)
        obtain ⟨v239, ev239⟩ : ∃ y : Int32, F236 (1 : Int32).toNatClampNeg = y := ⟨_, rfl⟩
        refine tw_zald (v := v239) dX10_sign_86 f235 (vp_in_nI (n := 1) (by decide) (by decide)) ev239 ?_
        have J97 : ∀ c92 : Int32, c92 ≤ 255 → tw_W d mX10_sign (tw_qr (fun r h1 => tw_sp d τ h g τ h1) tw_nx) 97 [(3, .ref q113), (2, .ref r97), (0, .ref x), (1, .int (nI j35))] [.int c92, .ref q113] h214 4 44 := by
          intro c92 hc92
          refine tw_br (tw_callV (M := mX10_sign) (pc := 97) okJ4_append_cf468 dX10_sign_97 w_1549 rfl f220 [.int c92] [] rfl rfl ⟨by decide, by decide⟩ (Nat.le_of_ble_eq_true rfl) (c_sb_c4 d h214 q113 v123 (k188 + 1) F217 f220 f218 fb219 (by omega) c92 hc92) 4 44 (Nat.le_of_ble_eq_true rfl) (Nat.le_of_ble_eq_true rfl)) (fun r242 h241 q240 => ?_) (fun E h1 q => q.elim)
          obtain ⟨q240r, q240w⟩ := q240
          rw [q240r]
          have sp243 := sp216.sb n116 z117 n126 z127 q240w
          obtain ⟨F244, f245, fb246⟩ := q240w.2.1
          have f247 := q240w.1
          refine tw_pop dX10_sign_100 rfl ?_
          refine tw_aload_n 2 dX10_sign_101 rfl rfl ?_
          obtain ⟨e248, f249, th_250, td_251, ds_252, fr_253, ca_254, us_255, wo_256, cm_257, lc_258, lh_259, ld_260, rfl, k261, k262, k263, k264, k265, k266, k267, k268, k269, k270, k271, k272, k273, k274, k275, k276, k277, k278⟩ := sp243.1 x 36 kx (by decide)
          refine tw_get (v := .ref lh_259) rfl in_14 10 dX10_sign_102 w_1161 rfl (by decide) f249 rfl ?_
          obtain ⟨e279, f280, ⟨el281, rfl, k282⟩, k283⟩ := sp243.1 lh_259 25 k268 (by decide)
          refine tw_br (tw_callV (M := mX10_sign) (pc := 105) okJx4a65c_iterator_32c93 dX10_sign_105 w_1386 rfl f280 [] [] rfl rfl ⟨by decide, by decide⟩ (Nat.le_of_ble_eq_true rfl) (c_iterator d h241 lh_259 el281 (g.1 4) (nI (g.2 4)) f280) 3 40 (Nat.le_of_ble_eq_true rfl) (Nat.le_of_ble_eq_true rfl)) (fun it284 h285 q286 => ?_) (fun E h1 q => q.elim)
          obtain ⟨q286n, q286e⟩ := q286
          rw [q286e]
          have n287 := sp243.nn q286n
          have z288 := sp243.1.none q286n
          have ne289 := tw_neF f247 q286n
          have ne290 := tw_neF f245 q286n
          obtain ⟨h291, eh291⟩ : ∃ z : tw_H, z = tw_up h241 it284 (.inr (2, [.int 0, .int (-1), .int (g.1 4), .ref lh_259])) := ⟨_, rfl⟩
          rw [← eh291]
          have sp292 : tw_sp d τ h g τ h291 := by rw [eh291]; exact sp243.mk q286n
          have f293 : h291 q113 = some (.inr (1, [.ref v123, .int 0, .int 0, .int (nI ((k188 + 1) + 1))])) := by rw [eh291, tw_up_n ne289]; exact f247
          have f294 : h291 v123 = some (.inl (d.2 3, 16, .inl F244)) := by rw [eh291, tw_up_n ne290]; exact f245
          have f295 : h291 it284 = some (.inr (2, [.int 0, .int (-1), .int (g.1 4), .ref lh_259])) := by rw [eh291]; exact tw_up_s
          refine tw_astore [(4, .ref it284), (3, .ref q113), (2, .ref r97), (0, .ref x), (1, .int (nI j35))] dX10_sign_108 (by decide) rfl ?_
          have L9 : ∀ (r9 j9 k9 : Nat) (lr9 : Int32) (h9 : tw_H) (sp9 : tw_sp d τ h g τ h9) (fx9 : h9 q113 = some (.inr (1, [.ref v123, .int 0, .int 0, .int (nI k9)]))) (F9 : Nat → Int32) (fv9 : h9 v123 = some (.inl (d.2 3, 16, .inl F9))) (fb9 : tw_fb F9) (fit9 : h9 it284 = some (.inr (2, [.int (nI j9), .int lr9, .int (g.1 4), .ref lh_259]))), g.2 4 + 1 ≤ j9 + r9 → j9 ≤ g.2 4 → k9 ≤ 7 + j9 → tw_W d mX10_sign (tw_qr (fun r h1 => tw_sp d τ h g τ h1) tw_nx) 110 [(0, .ref x), (1, .int (nI j35)), (2, .ref r97), (3, .ref q113), (4, .ref it284)] [] h9 3 40 := by
            intro r9
            induction r9 with
            | zero => intro j9 k9 lr9 h9 sp9 fx9 F9 fv9 fb9 fit9 h1 h1b h2; exact absurd h1 (by omega)
            | succ r9 ih =>
              intro j9 k9 lr9 h9 sp9 fx9 F9 fv9 fb9 fit9 h1 h1b h2
              refine tw_aload 4 dX10_sign_110 rfl ?_
              obtain ⟨e296, f297, ⟨el298, rfl, k299⟩, k300⟩ := sp9.1 lh_259 25 k268 (by decide)
              refine tw_bi (tw_callF (M := mX10_sign) (pc := 112) (n9 := 0) (ci := 2) tw_hasNext ok_itHas w_1416 w_1414 (fun s H z => z.2.2.2.2.2.2.2.2.1) (by decide +kernel) dX10_sign_112 w_1410 rfl fit9 [] [] rfl rfl ⟨by decide, by decide⟩ (Nat.le_of_ble_eq_true rfl) (c_hasNext d h9 it284 lh_259 el298 j9 (g.2 4) lr9 (g.1 4) (g.1 4) fit9 f297 (by omega) (tw_lim25 sp9.1 k268)) 3 40 (Nat.le_of_ble_eq_true rfl) (Nat.le_of_ble_eq_true rfl)) (fun r303 h302 q301 => ?_) (fun E h1 q => q.elim)
              obtain ⟨q301e, q301q⟩ := q301
              rw [q301e]
              rcases q301q with ⟨q301r, q301j⟩ | ⟨q301r, q301j⟩
              · rw [q301r]
                refine tw_if_eq 156 dX10_sign_117 (by decide) (fun _ => ?_) (fun c304 => absurd (by decide) c304)
                refine tw_aload_n 3 dX10_sign_156 rfl rfl ?_
                refine tw_br (tw_callV (M := mX10_sign) (pc := 157) okJ4_toString_0e30d dX10_sign_157 w_1552 rfl fx9 [] [] rfl rfl ⟨by decide, by decide⟩ (Nat.le_of_ble_eq_true rfl) (c_tos d h9 g τ sp9.1 q113 v123 k9 F9 fx9 fv9 fb9 (by omega)) 1 20 (Nat.le_of_ble_eq_true rfl) (Nat.le_of_ble_eq_true rfl)) (fun r307 h306 q305 => ?_) (fun E h1 q => q.elim)
                have sp308 := sp9.tr q305
                exact tw_aret dX10_sign_160 rfl (Or.inl ⟨_, rfl⟩) (Or.inl ⟨_, rfl, sp308⟩)
              · rw [q301r]
                refine tw_if_eq 156 dX10_sign_117 (by decide) (fun c309 => absurd c309 (by decide)) (fun _ => ?_)
                refine tw_aload 4 dX10_sign_120 rfl ?_
                have k310 : τ el298 = 28 := k299.resolve_left (fun q => absurd q301j (by rw [q.2.1]; exact Nat.not_lt_zero _))
                obtain ⟨e311, f312, ⟨F313, rfl, hc314, hc315⟩, un316⟩ := sp9.1 el298 28 k310 (by decide)
                obtain ⟨y317, hy318, ky319⟩ := hc315 j9 q301j
                refine tw_br (tw_callF (M := mX10_sign) (pc := 122) (n9 := 0) (ci := 2) tw_next ok_itNext w_1425 w_1423 (fun s H z => z.2.2.2.2.2.2.2.2.2) (by decide +kernel) dX10_sign_122 w_1420 rfl fit9 [] [] rfl rfl ⟨by decide, by decide⟩ (Nat.le_of_ble_eq_true rfl) (c_next d h9 it284 lh_259 el298 j9 (g.2 4) y317 lr9 (g.1 4) F313 fit9 f297 f312 q301j hc314 hy318) 3 40 (Nat.le_of_ble_eq_true rfl) (Nat.le_of_ble_eq_true rfl)) (fun r322 h321 q320 => ?_) (fun E h1 q => q.elim)
                obtain ⟨q320r, q320e⟩ := q320
                rw [q320r]
                have sp323 : tw_sp d τ h g τ h321 := by rw [q320e]; exact sp9.wl n287 z288
                have f324 : h321 q113 = some (.inr (1, [.ref v123, .int 0, .int 0, .int (nI k9)])) := by rw [q320e, tw_up_n ne289]; exact fx9
                have f325 : h321 v123 = some (.inl (d.2 3, 16, .inl F9)) := by rw [q320e, tw_up_n ne290]; exact fv9
                have f326 : h321 it284 = some (.inr (2, [.int (nI (j9 + 1)), .int (nI j9), .int (g.1 4), .ref lh_259])) := by rw [q320e]; exact tw_up_s
                obtain ⟨e327, f328, x_329, y_330, dy_331, p_332, rfl, k333, k334, k335⟩ := sp323.1 y317 23 ky319 (by decide)
                refine tw_castS (ci := 13) rfl dX10_sign_127 w_1336 f328 ?_
                refine tw_astore [(5, .ref y317), (0, .ref x), (1, .int (nI j35)), (2, .ref r97), (3, .ref q113), (4, .ref it284)] dX10_sign_130 (by decide) rfl ?_
                refine tw_aload_n 4 dX10_sign_132 rfl rfl ?_
                refine tw_aload 0 dX10_sign_133 rfl ?_
                refine tw_get (v := .int x_329) rfl in_13 0 dX10_sign_135 w_1342 rfl (by decide) f328 rfl ?_
                refine tw_iload_n 2 dX10_sign_138 rfl rfl ?_
                refine tw_icmp_ne 147 dX10_sign_139 (by decide) (fun c336 => ?_) (fun c336 => ?_)
                · refine tw_ldcS (i := 19) dX10_sign_147 rfl ?_
                  refine tw_br (tw_callV (M := mX10_sign) (pc := 149) okJ4_append_15ec4 dX10_sign_149 w_1551 rfl f324 [.ref (d.2 (200 + 19))] [] rfl rfl ⟨by decide, by decide⟩ (Nat.le_of_ble_eq_true rfl) (c_sb_s4 d h321 q113 v123 k9 F9 f324 f325 fb9 0 (by decide) (by omega)) 3 40 (Nat.le_of_ble_eq_true rfl) (Nat.le_of_ble_eq_true rfl)) (fun r339 h338 q337 => ?_) (fun E h1 q => q.elim)
                  obtain ⟨q337r, k340, q337k, q337w⟩ := q337
                  rw [q337r]
                  have sp341 := sp323.sb n116 z117 n126 z127 q337w
                  have f342 := (q337w.2.2 it284 (Ne.symm ne289) (Ne.symm ne290)).trans f326
                  obtain ⟨F343, f344, fb345⟩ := q337w.2.1
                  have f346 := q337w.1
                  refine tw_pop dX10_sign_152 rfl ?_
                  refine tw_goto 110 dX10_sign_153 (by decide) ?_
                  refine tw_lv [1, 2, 3, 4, 5] rfl ?_
                  exact ih ((j9 + 1)) _ (nI j9) _ sp341 f346 F343 f344 fb345 f342 (by omega) (by omega) (by omega)
                · refine tw_ldcS (i := 20) dX10_sign_142 rfl ?_
                  refine tw_goto 149 dX10_sign_144 (by decide) ?_
                  refine tw_br (tw_callV (M := mX10_sign) (pc := 149) okJ4_append_15ec4 dX10_sign_149 w_1551 rfl f324 [.ref (d.2 (200 + 20))] [] rfl rfl ⟨by decide, by decide⟩ (Nat.le_of_ble_eq_true rfl) (c_sb_s4 d h321 q113 v123 k9 F9 f324 f325 fb9 1 (by decide) (by omega)) 3 40 (Nat.le_of_ble_eq_true rfl) (Nat.le_of_ble_eq_true rfl)) (fun r349 h348 q347 => ?_) (fun E h1 q => q.elim)
                  obtain ⟨q347r, k350, q347k, q347w⟩ := q347
                  rw [q347r]
                  have sp351 := sp323.sb n116 z117 n126 z127 q347w
                  have f352 := (q347w.2.2 it284 (Ne.symm ne289) (Ne.symm ne290)).trans f326
                  obtain ⟨F353, f354, fb355⟩ := q347w.2.1
                  have f356 := q347w.1
                  refine tw_pop dX10_sign_152 rfl ?_
                  refine tw_goto 110 dX10_sign_153 (by decide) ?_
                  refine tw_lv [1, 2, 3, 4, 5] rfl ?_
                  exact ih ((j9 + 1)) _ (nI j9) _ sp351 f356 F353 f354 fb355 f352 (by omega) (by omega) (by omega)
          refine tw_lv [3, 4, 2, 1, 0] rfl ?_
          exact L9 (g.2 4 + 1) 0 _ (-1) _ sp292 f293 F244 f294 fb246 f295 (by omega) (Nat.zero_le _) (by omega)
        refine tw_if_eq 95 dX10_sign_87 (by decide) (fun c357 => ?_) (fun c357 => ?_)
        · refine tw_bipush (v := 45) dX10_sign_95 (by decide) ?_
          exact J97 45 (by decide)
        · refine tw_bipush (v := 115) dX10_sign_90 (by decide) ?_
          refine tw_goto 97 dX10_sign_92 (by decide) ?_
          exact J97 115 (by decide)
      refine tw_if_eq 76 dX10_sign_68 (by decide) (fun c358 => ?_) (fun c358 => ?_)
      · refine tw_bipush (v := 45) dX10_sign_76 (by decide) ?_
        exact J78 45 (by decide)
      · refine tw_bipush (v := 103) dX10_sign_71 (by decide) ?_
        refine tw_goto 78 dX10_sign_73 (by decide) ?_
        exact J78 103 (by decide)

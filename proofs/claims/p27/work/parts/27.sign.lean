/-! the class's methods over the typed heap. Laid by wip/p5/mkclass.py. -/
set_option maxHeartbeats 4000000 in
set_option maxRecDepth 100000 in
theorem c_X5_housesIn6 (d : tw_D) (g : tw_G) (τ : tw_K) (h : tw_H) (hw : tw_wt d g τ h) (x : Nat) (kx : τ x = 11) (c : Nat) (kc : τ c = 2) : tw_Ct d mX5_housesIn 0 0 [.ref x, .ref c] h (tw_qi (fun r h1 => h1 = h ∧ ∃ w : Nat, w ≤ 6 ∧ r = nI w) tw_nx) := by
  refine tw_of (by decide +kernel) (Nat.le_of_ble_eq_true rfl) ?_
  show tw_W d mX5_housesIn _ 0 [(0, .ref x), (1, .ref c)] [] h 0 0
  have sp0 := tw_sp.rf hw
  refine tw_iconst (v := 0) dX5_housesIn_0 (by decide) ?_
  refine tw_istore_n [(2, .int 0), (0, .ref x), (1, .ref c)] dX5_housesIn_1 rfl (by decide) rfl ?_
  refine tw_aload_n 1 dX5_housesIn_2 rfl rfl ?_
  obtain ⟨e1, f2, td_3, ca_4, ha_5, da_6, c1_7, c2_8, c3_9, c4_10, rfl, k11, k12, k13, k14, k15, k16, k17, k18, k19, k20, k21, k22, k23, k24, k25, k26, k27⟩ := sp0.1 x 11 kx (by decide)
  refine tw_get (v := .ref ha_5) rfl in_9 4 dX5_housesIn_3 w_144 rfl (by decide) f2 rfl ?_
  refine tw_astore_n [(3, .ref ha_5), (2, .int 0), (0, .ref x), (1, .ref c)] dX5_housesIn_6 rfl (by decide) rfl ?_
  refine tw_aload_n 0 dX5_housesIn_7 rfl rfl ?_
  obtain ⟨e28, f29, F30, rfl, k31, pn32, pb33, px34, pf35⟩ := sp0.1 ha_5 9 k12 (by decide)
  refine tw_alen (v := nI 6) 5 rfl dX5_housesIn_8 f29 rfl ?_
  refine tw_istore [(4, .int (nI 6)), (3, .ref ha_5), (2, .int 0), (0, .ref x), (1, .ref c)] dX5_housesIn_9 (by decide) rfl ?_
  refine tw_iconst (v := 0) dX5_housesIn_11 (by decide) ?_
  refine tw_istore [(5, .int 0), (4, .int (nI 6)), (3, .ref ha_5), (2, .int 0), (0, .ref x), (1, .ref c)] dX5_housesIn_12 (by decide) rfl ?_
  have L40 : ∀ (r38 k37 : Nat) (x36 : Int32) (li44 : ∃ w : Nat, w ≤ k37 ∧ x36 = nI w), 6 + 1 ≤ k37 + r38 → k37 ≤ 6 → tw_W d mX5_housesIn (tw_qi (fun r h1 => h1 = h ∧ ∃ w : Nat, w ≤ 6 ∧ r = nI w) tw_nx) 14 [(0, .ref x), (1, .ref c), (2, .int x36), (3, .ref ha_5), (4, .int (nI 6)), (5, .int (nI k37))] [] h 0 0 := by
    intro r38
    induction r38 with
    | zero => intro k37 x36 li44 hk45 hk46; exact absurd hk45 (by omega)
    | succ r38 ih39 =>
      intro k37 x36 li44 hk45 hk46
      refine tw_iload 5 dX5_housesIn_14 rfl ?_
      refine tw_iload 4 dX5_housesIn_16 rfl ?_
      refine tw_icmp_ge 50 dX5_housesIn_18 (by decide) (fun c47 => ?_) (fun c47 => ?_)
      · refine tw_iload_n 2 dX5_housesIn_50 rfl rfl ?_
        exact tw_iret dX5_housesIn_51 rfl (Or.inl ⟨_, rfl, ⟨rfl, by obtain ⟨w, a, b⟩ := li44; exact ⟨w, by omega, b⟩⟩⟩)
      · have kl48 := tw_klt (N := 6) c47 hk46 (by decide)
        refine tw_aload_n 3 dX5_housesIn_21 rfl rfl ?_
        refine tw_iload 5 dX5_housesIn_22 rfl ?_
        cases k49 : F30 ((nI k37)).toNatClampNeg with
        | none =>
          refine tw_aald (v := .null) 5 rfl rfl dX5_housesIn_24 f29 (vp_in_nI (by omega) (by decide)) (by rw [k49]; rfl) ?_
          refine tw_astoreN [(6, .null), (0, .ref x), (1, .ref c), (2, .int x36), (3, .ref ha_5), (4, .int (nI 6)), (5, .int (nI k37))] dX5_housesIn_25 (by decide) rfl ?_
          refine tw_aloadN 0 dX5_housesIn_27 rfl ?_
          refine tw_ifnullN 44 dX5_housesIn_29 (by decide) ?_
          obtain ⟨v51, ev51⟩ : ∃ y : Int32, y = (nI k37) + 1 := ⟨_, rfl⟩
          refine tw_iinc [(5, .int v51), (6, .null), (0, .ref x), (1, .ref c), (2, .int x36), (3, .ref ha_5), (4, .int (nI 6))] 6 dX5_housesIn_44 rfl (by rw [ev51]; rfl) (by decide) rfl ?_
          refine tw_goto 14 dX5_housesIn_47 (by decide) ?_
          have qv51 := tw_nI3 ev51
          rw [qv51]
          refine tw_lv [2, 3, 4, 5, 6, 0] rfl ?_
          exact ih39 (k37 + 1) x36 (by obtain ⟨w, a, b⟩ := li44; exact ⟨w, by omega, b⟩) (by omega) (by omega)
        | some q50 =>
          have k52 := k31 _ _ k49
          refine tw_aald (v := .ref q50) 5 rfl rfl dX5_housesIn_24 f29 (vp_in_nI (by omega) (by decide)) (by rw [k49]; rfl) ?_
          refine tw_astore [(6, .ref q50), (0, .ref x), (1, .ref c), (2, .int x36), (3, .ref ha_5), (4, .int (nI 6)), (5, .int (nI k37))] dX5_housesIn_25 (by decide) rfl ?_
          refine tw_aload 0 dX5_housesIn_27 rfl ?_
          refine tw_ifnull dX5_housesIn_29 ?_
          refine tw_aload 0 dX5_housesIn_32 rfl ?_
          obtain ⟨e53, f54, n_55, ar_56, p_57, pl_58, go_59, rfl, k60, k61, k62, k63⟩ := sp0.1 q50 3 k52 (by decide)
          refine tw_getN (v := va_rf pl_58) rfl in_6 2 dX5_housesIn_34 w_641 rfl (by decide) f54 rfl ?_
          refine tw_aload_n 2 dX5_housesIn_37 rfl rfl ?_
          refine tw_acmp_ne (rx := (pl_58)) (ry := (some c)) 44 dX5_housesIn_38 (by decide) (fun c64 => ?_) (fun c64 => ?_)
          · obtain ⟨v65, ev65⟩ : ∃ y : Int32, y = (nI k37) + 1 := ⟨_, rfl⟩
            refine tw_iinc [(5, .int v65), (6, .ref q50), (0, .ref x), (1, .ref c), (2, .int x36), (3, .ref ha_5), (4, .int (nI 6))] 6 dX5_housesIn_44 rfl (by rw [ev65]; rfl) (by decide) rfl ?_
            refine tw_goto 14 dX5_housesIn_47 (by decide) ?_
            have qv65 := tw_nI3 ev65
            rw [qv65]
            refine tw_lv [2, 3, 4, 5, 6, 0] rfl ?_
            exact ih39 (k37 + 1) x36 (by obtain ⟨w, a, b⟩ := li44; exact ⟨w, by omega, b⟩) (by omega) (by omega)
          · obtain ⟨v66, ev66⟩ : ∃ y : Int32, y = x36 + 1 := ⟨_, rfl⟩
            refine tw_iinc [(2, .int v66), (6, .ref q50), (0, .ref x), (1, .ref c), (3, .ref ha_5), (4, .int (nI 6)), (5, .int (nI k37))] 3 dX5_housesIn_41 rfl (by rw [ev66]; rfl) (by decide) rfl ?_
            obtain ⟨v67, ev67⟩ : ∃ y : Int32, y = (nI k37) + 1 := ⟨_, rfl⟩
            refine tw_iinc [(5, .int v67), (2, .int v66), (6, .ref q50), (0, .ref x), (1, .ref c), (3, .ref ha_5), (4, .int (nI 6))] 6 dX5_housesIn_44 rfl (by rw [ev67]; rfl) (by decide) rfl ?_
            refine tw_goto 14 dX5_housesIn_47 (by decide) ?_
            have qv67 := tw_nI3 ev67
            rw [qv67]
            refine tw_lv [3, 4, 1, 5, 6, 0] rfl ?_
            exact ih39 (k37 + 1) v66 (by obtain ⟨w, a, b⟩ := li44; exact ⟨w + 1, by omega, by rw [ev66, b]; exact nI_1 w⟩) (by omega) (by omega)
  refine tw_lv [4, 5, 3, 2, 1, 0] rfl ?_
  exact L40 (6 + 1) 0 0 (⟨0, Nat.le_refl _, rfl⟩) (by omega) (by omega)

set_option maxHeartbeats 4000000 in
set_option maxRecDepth 100000 in
theorem c_X5_sign (d : tw_D) (g : tw_G) (τ : tw_K) (h : tw_H) (hw : tw_wt d g τ h) (x : Nat) (kx : τ x = 11) (n : Int32) : tw_Ct d mX5_sign 6 64 [.ref x, .int n] h (tw_qr (fun r h1 => tw_sp d τ h g τ h1) (fun E h1 => (E = tw_IOE) ∧ ∃ τ1, tw_sp d τ h g τ1 h1)) := by
  refine tw_of (by decide +kernel) (Nat.le_of_ble_eq_true rfl) ?_
  show tw_W d mX5_sign _ 0 [(0, .ref x), (1, .int n)] [] h 6 64
  have sp0 := tw_sp.rf hw
  refine tw_aload_n 0 dX5_sign_0 rfl rfl ?_
  refine tw_iload_n 1 dX5_sign_1 rfl rfl ?_
  obtain ⟨e1, f2, td_3, ca_4, ha_5, da_6, c1_7, c2_8, c3_9, c4_10, rfl, k11, k12, k13, k14, k15, k16, k17, k18, k19, k20, k21, k22, k23, k24, k25, k26, k27⟩ := sp0.1 x 11 kx (by decide)
  refine tw_br (tw_callV (M := mX5_sign) (pc := 2) okX5_countryAt dX5_sign_2 w_546 rfl f2 [.int n] [] rfl rfl ⟨by decide, by decide⟩ (Nat.le_of_ble_eq_true rfl) (c_X5_countryAt d g τ h sp0.1 x kx n) 5 58 (Nat.le_of_ble_eq_true rfl) (Nat.le_of_ble_eq_true rfl)) (fun r30 h29 q28 => ?_) (fun E h1 q => Or.inr ⟨E, rfl, (q.1), ⟨τ, by rw [q.2]; exact sp0⟩⟩)
  obtain ⟨q28e, p31⟩ := q28
  rw [q28e]
  refine tw_astore_n [(2, .ref r30), (0, .ref x), (1, .int n)] dX5_sign_5 rfl (by decide) rfl ?_
  refine tw_new (ci := 1) rfl in_1 tyJ4 tyJ4_ok dX5_sign_6 w_822 w_823 w_105 (fs := [.null, .int 0, .int 0, .int 0]) (fun j hj => by rcases (show j = 0 ∨ j = 1 ∨ j = 2 ∨ j = 3 by omega) with rfl | rfl | rfl | rfl <;> rfl) 4 54 (Nat.le_of_ble_eq_true rfl) (Nat.le_of_ble_eq_true rfl) (fun q32 hq33 hA34 => ?_)
  have n35 := sp0.nn hq33
  have z36 := sp0.1.none hq33
  obtain ⟨h37, eh37⟩ : ∃ z : tw_H, z = tw_up h q32 (.inr (1, [.null, .int 0, .int 0, .int 0])) := ⟨_, rfl⟩
  rw [← eh37]
  have sp38 : tw_sp d τ h g τ h37 := by rw [eh37]; exact sp0.mk hq33
  have f39 : h37 q32 = some (.inr (1, [.null, .int 0, .int 0, .int 0])) := by rw [eh37]; exact tw_up_s
  refine tw_dup dX5_sign_9 rfl ?_
  refine tw_bv (tw_callI (M := mX5_sign) (pc := 10) okJ4_init_da8c8 dX5_sign_10 w_824 rfl [] [.ref q32] rfl rfl ⟨by decide, by decide⟩ (Nat.le_of_ble_eq_true rfl) (c_sb_n4 d h37 q32 f39) 3 38 (Nat.le_of_ble_eq_true rfl) (Nat.le_of_ble_eq_true rfl)) (fun h41 q40 => ?_) (fun E h1 q => q.elim)
  obtain ⟨v42, nv43, w44⟩ := q40
  have n45 := sp38.nn nv43
  have z46 := sp38.1.none nv43
  have ne47 := tw_neF f39 nv43
  have sp48 := sp38.sb n35 z36 n45 z46 w44
  obtain ⟨F49, f50, fb51⟩ := w44.2.1
  have f52 := w44.1
  refine tw_astore_n [(3, .ref q32), (2, .ref r30), (0, .ref x), (1, .int n)] dX5_sign_13 rfl (by decide) rfl ?_
  refine tw_aload_n 0 dX5_sign_14 rfl rfl ?_
  refine tw_aload_n 1 dX5_sign_15 rfl rfl ?_
  obtain ⟨e53, f54, n_55, r_56, c_57, go_58, so_59, v_60, rd_61, rf_62, t_63, rfl, k64, k65, k66, k67, k68, k69, k70, k71, k72⟩ := sp48.1 r30 2 p31 (by decide)
  refine tw_getN (v := .int r_56) rfl in_4 1 dX5_sign_16 w_504 rfl (by decide) f54 rfl ?_
  refine tw_bipush (v := 10) dX5_sign_19 (by decide) ?_
  refine tw_idiv dX5_sign_21 (by decide) ?_
  refine tw_nmi (fun v73 ev73 => ?_)
  obtain ⟨i74, hi75, ei76⟩ := tw_d10 k70 k71 ev73
  rw [ei76]
  refine tw_br (tw_callV (M := mX5_sign) (pc := 22) okJ4_append_bf812 dX5_sign_22 w_853 rfl f52 [.int (nI i74)] [] rfl rfl ⟨by decide, by decide⟩ (Nat.le_of_ble_eq_true rfl) (c_sb_i4 d h41 q32 v42 0 F49 f52 f50 fb51 (by omega) i74 hi75) 3 38 (Nat.le_of_ble_eq_true rfl) (Nat.le_of_ble_eq_true rfl)) (fun r79 h78 q77 => ?_) (fun E h1 q => q.elim)
  obtain ⟨q77r, k80, q77k, q77w⟩ := q77
  rw [q77r]
  have sp81 := sp48.sb n35 z36 n45 z46 q77w
  obtain ⟨F82, f83, fb84⟩ := q77w.2.1
  have f85 := q77w.1
  refine tw_bipush (v := 46) dX5_sign_25 (by decide) ?_
  refine tw_br (tw_callV (M := mX5_sign) (pc := 27) okJ4_append_cf468 dX5_sign_27 w_939 rfl f85 [.int 46] [] rfl rfl ⟨by decide, by decide⟩ (Nat.le_of_ble_eq_true rfl) (c_sb_c4 d h78 q32 v42 k80 F82 f85 f83 fb84 (by omega) 46 (by decide)) 3 38 (Nat.le_of_ble_eq_true rfl) (Nat.le_of_ble_eq_true rfl)) (fun r88 h87 q86 => ?_) (fun E h1 q => q.elim)
  obtain ⟨q86r, q86w⟩ := q86
  rw [q86r]
  have sp89 := sp81.sb n35 z36 n45 z46 q86w
  obtain ⟨F90, f91, fb92⟩ := q86w.2.1
  have f93 := q86w.1
  refine tw_aload_n 1 dX5_sign_30 rfl rfl ?_
  obtain ⟨e94, f95, n_96, r_97, c_98, go_99, so_100, v_101, rd_102, rf_103, t_104, rfl, k105, k106, k107, k108, k109, k110, k111, k112, k113⟩ := sp89.1 r30 2 p31 (by decide)
  refine tw_getN (v := .int r_97) rfl in_4 1 dX5_sign_31 w_504 rfl (by decide) f95 rfl ?_
  refine tw_bipush (v := 10) dX5_sign_34 (by decide) ?_
  refine tw_irem dX5_sign_36 (by decide) ?_
  refine tw_nmi (fun v114 ev114 => ?_)
  obtain ⟨i115, hi116, ei117⟩ := tw_m10 k111 k112 ev114
  rw [ei117]
  refine tw_br (tw_callV (M := mX5_sign) (pc := 37) okJ4_append_bf812 dX5_sign_37 w_853 rfl f93 [.int (nI i115)] [] rfl rfl ⟨by decide, by decide⟩ (Nat.le_of_ble_eq_true rfl) (c_sb_i4 d h87 q32 v42 (k80 + 1) F90 f93 f91 fb92 (by omega) i115 hi116) 3 38 (Nat.le_of_ble_eq_true rfl) (Nat.le_of_ble_eq_true rfl)) (fun r120 h119 q118 => ?_) (fun E h1 q => q.elim)
  obtain ⟨q118r, k121, q118k, q118w⟩ := q118
  rw [q118r]
  have sp122 := sp89.sb n35 z36 n45 z46 q118w
  obtain ⟨F123, f124, fb125⟩ := q118w.2.1
  have f126 := q118w.1
  refine tw_pop dX5_sign_40 rfl ?_
  refine tw_aload_n 0 dX5_sign_41 rfl rfl ?_
  refine tw_aload_n 1 dX5_sign_42 rfl rfl ?_
  refine tw_iconst (v := 0) dX5_sign_43 (by decide) ?_
  obtain ⟨e127, f128, n_129, r_130, c_131, go_132, so_133, v_134, rd_135, rf_136, t_137, rfl, k138, k139, k140, k141, k142, k143, k144, k145, k146⟩ := sp122.1 r30 2 p31 (by decide)
  refine tw_bi (tw_callVN (M := mX5_sign) (pc := 44) okX0_isOpenFor dX5_sign_44 w_577 rfl f128 [.int 0] [.ref q32] rfl rfl ⟨by decide, by decide⟩ (Nat.le_of_ble_eq_true rfl) (c_X0_isOpenFor d g τ h119 sp122.1 r30 p31 0) 3 38 (Nat.le_of_ble_eq_true rfl) (Nat.le_of_ble_eq_true rfl)) (fun r149 h148 q147 => ?_) (fun E h1 q => q.elim)
  obtain ⟨q147e, p150⟩ := q147
  rw [q147e]
  have J57 : ∀ c91 : Int32, c91 ≤ 255 → tw_W d mX5_sign (tw_qr (fun r h1 => tw_sp d τ h g τ h1) (fun E h1 => (E = tw_IOE) ∧ ∃ τ1, tw_sp d τ h g τ1 h1)) 57 [(3, .ref q32), (2, .ref r30), (0, .ref x), (1, .int n)] [.int c91, .ref q32] h119 3 38 := by
    intro c91 hc91
    refine tw_br (tw_callV (M := mX5_sign) (pc := 57) okJ4_append_cf468 dX5_sign_57 w_939 rfl f126 [.int c91] [] rfl rfl ⟨by decide, by decide⟩ (Nat.le_of_ble_eq_true rfl) (c_sb_c4 d h119 q32 v42 k121 F123 f126 f124 fb125 (by omega) c91 hc91) 3 38 (Nat.le_of_ble_eq_true rfl) (Nat.le_of_ble_eq_true rfl)) (fun r153 h152 q151 => ?_) (fun E h1 q => q.elim)
    obtain ⟨q151r, q151w⟩ := q151
    rw [q151r]
    have sp154 := sp122.sb n35 z36 n45 z46 q151w
    obtain ⟨F155, f156, fb157⟩ := q151w.2.1
    have f158 := q151w.1
    refine tw_pop dX5_sign_60 rfl ?_
    refine tw_aload_n 0 dX5_sign_61 rfl rfl ?_
    refine tw_aload_n 1 dX5_sign_62 rfl rfl ?_
    refine tw_iconst (v := 1) dX5_sign_63 (by decide) ?_
    obtain ⟨e159, f160, n_161, r_162, c_163, go_164, so_165, v_166, rd_167, rf_168, t_169, rfl, k170, k171, k172, k173, k174, k175, k176, k177, k178⟩ := sp154.1 r30 2 p31 (by decide)
    refine tw_bi (tw_callVN (M := mX5_sign) (pc := 64) okX0_isOpenFor dX5_sign_64 w_577 rfl f160 [.int 1] [.ref q32] rfl rfl ⟨by decide, by decide⟩ (Nat.le_of_ble_eq_true rfl) (c_X0_isOpenFor d g τ h152 sp154.1 r30 p31 1) 3 38 (Nat.le_of_ble_eq_true rfl) (Nat.le_of_ble_eq_true rfl)) (fun r181 h180 q179 => ?_) (fun E h1 q => q.elim)
    obtain ⟨q179e, p182⟩ := q179
    rw [q179e]
    have J77 : ∀ c92 : Int32, c92 ≤ 255 → tw_W d mX5_sign (tw_qr (fun r h1 => tw_sp d τ h g τ h1) (fun E h1 => (E = tw_IOE) ∧ ∃ τ1, tw_sp d τ h g τ1 h1)) 77 [(3, .ref q32), (2, .ref r30), (0, .ref x), (1, .int n)] [.int c92, .ref q32] h152 3 38 := by
      intro c92 hc92
      refine tw_br (tw_callV (M := mX5_sign) (pc := 77) okJ4_append_cf468 dX5_sign_77 w_939 rfl f158 [.int c92] [] rfl rfl ⟨by decide, by decide⟩ (Nat.le_of_ble_eq_true rfl) (c_sb_c4 d h152 q32 v42 (k121 + 1) F155 f158 f156 fb157 (by omega) c92 hc92) 3 38 (Nat.le_of_ble_eq_true rfl) (Nat.le_of_ble_eq_true rfl)) (fun r185 h184 q183 => ?_) (fun E h1 q => q.elim)
      obtain ⟨q183r, q183w⟩ := q183
      rw [q183r]
      have sp186 := sp154.sb n35 z36 n45 z46 q183w
      obtain ⟨F187, f188, fb189⟩ := q183w.2.1
      have f190 := q183w.1
      refine tw_pop dX5_sign_80 rfl ?_
      refine tw_aload_n 2 dX5_sign_81 rfl rfl ?_
      refine tw_aload_n 1 dX5_sign_82 rfl rfl ?_
      obtain ⟨e191, f192, td_193, ca_194, ha_195, da_196, c1_197, c2_198, c3_199, c4_200, rfl, k201, k202, k203, k204, k205, k206, k207, k208, k209, k210, k211, k212, k213, k214, k215, k216, k217⟩ := sp186.1 x 11 kx (by decide)
      refine tw_bi (tw_callV (M := mX5_sign) (pc := 83) okX5_housesIn dX5_sign_83 w_261 rfl f192 [.ref r30] [] rfl rfl ⟨by decide, by decide⟩ (Nat.le_of_ble_eq_true rfl) (c_X5_housesIn6 d g τ h184 sp186.1 x kx r30 p31) 3 38 (Nat.le_of_ble_eq_true rfl) (Nat.le_of_ble_eq_true rfl)) (fun r220 h219 q218 => ?_) (fun E h1 q => q.elim)
      obtain ⟨q218e, w221, q218w, q218r⟩ := q218
      rw [q218e, q218r]
      refine tw_istore [(4, .int (nI w221)), (3, .ref q32), (2, .ref r30), (0, .ref x), (1, .int n)] dX5_sign_86 (by decide) rfl ?_
      refine tw_iconst (v := 0) dX5_sign_88 (by decide) ?_
      refine tw_istore [(5, .int 0), (4, .int (nI w221)), (3, .ref q32), (2, .ref r30), (0, .ref x), (1, .int n)] dX5_sign_89 (by decide) rfl ?_
      have L9 : ∀ (r9 j9 k9 : Nat) (h9 : tw_H) (sp9 : tw_sp d τ h g τ h9) (fx9 : h9 q32 = some (.inr (1, [.ref v42, .int 0, .int 0, .int (nI k9)]))) (F9 : Nat → Int32) (fv9 : h9 v42 = some (.inl (d.2 3, 16, .inl F9))) (fb9 : tw_fb F9), j9 + r9 = w221 → k9 ≤ 7 + j9 → tw_W d mX5_sign (tw_qr (fun r h1 => tw_sp d τ h g τ h1) (fun E h1 => (E = tw_IOE) ∧ ∃ τ1, tw_sp d τ h g τ1 h1)) 91 [(0, .ref x), (1, .int n), (2, .ref r30), (3, .ref q32), (4, .int (nI w221)), (5, .int (nI j9))] [] h9 3 38 := by
        intro r9
        induction r9 with
        | zero =>
          intro j9 k9 h9 sp9 fx9 F9 fv9 fb9 h1 h2
          refine tw_iload 5 dX5_sign_91 rfl ?_
          refine tw_iload 4 dX5_sign_93 rfl ?_
          refine tw_icmp_ge 111 dX5_sign_95 (by decide) (fun _ => ?_) (fun c222 => absurd (nI_le (by omega) (by omega)) c222)
          refine tw_aload_n 3 dX5_sign_111 rfl rfl ?_
          refine tw_br (tw_callV (M := mX5_sign) (pc := 112) okJ4_toString_0e30d dX5_sign_112 w_980 rfl fx9 [] [] rfl rfl ⟨by decide, by decide⟩ (Nat.le_of_ble_eq_true rfl) (c_tos d h9 g τ sp9.1 q32 v42 k9 F9 fx9 fv9 fb9 (by omega)) 1 18 (Nat.le_of_ble_eq_true rfl) (Nat.le_of_ble_eq_true rfl)) (fun r225 h224 q223 => ?_) (fun E h1 q => q.elim)
          have sp226 := sp9.tr q223
          exact tw_aret dX5_sign_115 rfl (Or.inl ⟨_, rfl⟩) (Or.inl ⟨_, rfl, sp226⟩)
        | succ r9 ih =>
          intro j9 k9 h9 sp9 fx9 F9 fv9 fb9 h1 h2
          refine tw_iload 5 dX5_sign_91 rfl ?_
          refine tw_iload 4 dX5_sign_93 rfl ?_
          refine tw_icmp_ge 111 dX5_sign_95 (by decide) (fun c227 => absurd c227 (nI_ge (by omega) (by omega))) (fun _ => ?_)
          refine tw_aload_n 3 dX5_sign_98 rfl rfl ?_
          refine tw_bipush (v := 42) dX5_sign_99 (by decide) ?_
          refine tw_br (tw_callV (M := mX5_sign) (pc := 101) okJ4_append_cf468 dX5_sign_101 w_939 rfl fx9 [.int 42] [] rfl rfl ⟨by decide, by decide⟩ (Nat.le_of_ble_eq_true rfl) (c_sb_c4 d h9 q32 v42 k9 F9 fx9 fv9 fb9 (by omega) 42 (by decide)) 3 38 (Nat.le_of_ble_eq_true rfl) (Nat.le_of_ble_eq_true rfl)) (fun r230 h229 q228 => ?_) (fun E h1 q => q.elim)
          obtain ⟨q228r, q228w⟩ := q228
          rw [q228r]
          have sp231 := sp9.sb n35 z36 n45 z46 q228w
          obtain ⟨F232, f233, fb234⟩ := q228w.2.1
          have f235 := q228w.1
          refine tw_pop dX5_sign_104 rfl ?_
          obtain ⟨v236, ev236⟩ : ∃ y : Int32, y = (nI j9) + 1 := ⟨_, rfl⟩
          refine tw_iinc [(5, .int v236), (0, .ref x), (1, .int n), (2, .ref r30), (3, .ref q32), (4, .int (nI w221))] 5 dX5_sign_105 rfl (by rw [ev236]; rfl) (by decide) rfl ?_
          refine tw_goto 91 dX5_sign_108 (by decide) ?_
          have qv236 := tw_nI3 ev236
          rw [qv236]
          refine tw_lv [1, 2, 3, 4, 5, 0] rfl ?_
          exact ih (j9 + 1) _ _ sp231 f235 F232 f233 fb234 (by omega) (by omega)
      refine tw_lv [4, 5, 3, 2, 1, 0] rfl ?_
      exact L9 w221 0 _ _ sp186 f190 F187 f188 fb189 (by omega) (by omega)
    refine tw_if_eq 75 dX5_sign_67 (by decide) (fun c237 => ?_) (fun c237 => ?_)
    · refine tw_bipush (v := 45) dX5_sign_75 (by decide) ?_
      exact J77 45 (by decide)
    · refine tw_bipush (v := 115) dX5_sign_70 (by decide) ?_
      refine tw_goto 77 dX5_sign_72 (by decide) ?_
      exact J77 115 (by decide)
  refine tw_if_eq 55 dX5_sign_47 (by decide) (fun c238 => ?_) (fun c238 => ?_)
  · refine tw_bipush (v := 45) dX5_sign_55 (by decide) ?_
    exact J57 45 (by decide)
  · refine tw_bipush (v := 103) dX5_sign_50 (by decide) ?_
    refine tw_goto 57 dX5_sign_52 (by decide) ?_
    exact J57 103 (by decide)

set_option maxHeartbeats 4000000 in
set_option maxRecDepth 100000 in
theorem c_X10_sign (d : tw_D) (g : tw_G) (τ : tw_K) (h : tw_H) (hw : tw_wt d g τ h) (x : Nat) (kx : τ x = 36) (n : Int32) : tw_Ct d mX10_sign 6 64 [.ref x, .int n] h (tw_qr (fun r h1 => tw_sp d τ h g τ h1) tw_nx) := by
  refine tw_of (by decide +kernel) (Nat.le_of_ble_eq_true rfl) ?_
  show tw_W d mX10_sign _ 0 [(0, .ref x), (1, .int n)] [] h 6 64
  have sp0 := tw_sp.rf hw
  refine tw_aload_n 0 dX10_sign_0 rfl rfl ?_
  refine tw_aload_n 0 dX10_sign_1 rfl rfl ?_
  refine tw_iload_n 1 dX10_sign_2 rfl rfl ?_
  obtain ⟨e1, f2, th_3, td_4, ds_5, fr_6, ca_7, us_8, wo_9, cm_10, lc_11, lh_12, ld_13, rfl, k14, k15, k16, k17, k18, k19, k20, k21, k22, k23, k24, k25, k26, k27, k28, k29, k30, k31, k32, k33, k34, k35⟩ := sp0.1 x 36 kx (by decide)
  refine tw_bi (tw_callV (M := mX10_sign) (pc := 3) okX10_isNoCountry dX10_sign_3 w_1288 rfl f2 [.int n] [.ref x] rfl rfl ⟨by decide, by decide⟩ (Nat.le_of_ble_eq_true rfl) (c_X10_isNoCountry d g τ h sp0.1 x kx n) 6 64 (Nat.le_of_ble_eq_true rfl) (Nat.le_of_ble_eq_true rfl)) (fun r38 h37 q36 => ?_) (fun E h1 q => q.elim)
  obtain ⟨q36e, q36d⟩ := q36
  rw [q36e]
  rcases q36d with q36r | ⟨q36r, j39, q36j, q36k⟩
  · rw [q36r]
    refine tw_iconst (v := 1) dX10_sign_6 (by decide) ?_
    refine tw_bi (tw_callV (M := mX10_sign) (pc := 7) okX10_start dX10_sign_7 w_1196 rfl f2 [.int 1, .int 1] [] rfl rfl ⟨by decide, by decide⟩ (Nat.le_of_ble_eq_true rfl) (c_X10_start d g τ h sp0.1 x kx 1 1 (by decide)) 6 64 (Nat.le_of_ble_eq_true rfl) (Nat.le_of_ble_eq_true rfl)) (fun r42 h41 q40 => ?_) (fun E h1 q => q.elim)
    obtain ⟨e43, he44, hs45, hr46, h347⟩ := q40
    have sp48 : tw_sp d τ h g τ h41 := by rw [he44]; exact sp0.set kx (by decide) hs45
    rcases hr46 with ei49 | ⟨ei49, ei49b⟩
    · rw [ei49]
      refine tw_if_eq 16 dX10_sign_10 (by decide) (fun c50 => absurd c50 (by decide)) (fun _ => ?_)
      refine tw_ldcS (i := 19) dX10_sign_13 rfl ?_
      exact tw_aret dX10_sign_15 rfl (Or.inl ⟨_, rfl⟩) (Or.inl ⟨_, rfl, sp48⟩)
    · exact absurd ei49b (by decide)
  · rw [q36r]
    subst q36k
    refine tw_iconst (v := 1) dX10_sign_6 (by decide) ?_
    refine tw_bi (tw_callV (M := mX10_sign) (pc := 7) okX10_start dX10_sign_7 w_1196 rfl f2 [.int 0, .int 1] [] rfl rfl ⟨by decide, by decide⟩ (Nat.le_of_ble_eq_true rfl) (c_X10_start d g τ h sp0.1 x kx 0 1 (by decide)) 6 64 (Nat.le_of_ble_eq_true rfl) (Nat.le_of_ble_eq_true rfl)) (fun r53 h52 q51 => ?_) (fun E h1 q => q.elim)
    obtain ⟨e54, he55, hs56, hr57, h358⟩ := q51
    have sp59 : tw_sp d τ h g τ h52 := by rw [he55]; exact sp0.set kx (by decide) hs56
    rcases hr57 with ei60 | ⟨ei60, ei60b⟩
    · rw [ei60]
      refine tw_if_eq 16 dX10_sign_10 (by decide) (fun c61 => absurd c61 (by decide)) (fun _ => ?_)
      refine tw_ldcS (i := 19) dX10_sign_13 rfl ?_
      exact tw_aret dX10_sign_15 rfl (Or.inl ⟨_, rfl⟩) (Or.inl ⟨_, rfl, sp59⟩)
    · rw [ei60]
      refine tw_if_eq 16 dX10_sign_10 (by decide) (fun _ => ?_) (fun c62 => absurd (by decide) c62)
      refine tw_aload_n 0 dX10_sign_16 rfl rfl ?_
      obtain ⟨e63, f64, th_65, td_66, ds_67, fr_68, ca_69, us_70, wo_71, cm_72, lc_73, lh_74, ld_75, rfl, k76, k77, k78, k79, k80, k81, k82, k83, k84, k85, k86, k87, k88, k89, k90, k91, k92, k93, k94, k95, k96, k97⟩ := sp59.1 x 36 kx (by decide)
      refine tw_get (v := .ref lc_73) rfl in_14 9 dX10_sign_17 w_1160 rfl (by decide) f64 rfl ?_
      refine tw_iload_n 1 dX10_sign_20 rfl rfl ?_
      obtain ⟨e98, f99, ⟨el100, rfl, k101⟩, k102⟩ := sp59.1 lc_73 24 k82 (by decide)
      refine tw_br (tw_callV (M := mX10_sign) (pc := 21) okJx4a65c_get_915e3 dX10_sign_21 w_1292 rfl f99 [.int (nI j39)] [] rfl rfl ⟨by decide, by decide⟩ (Nat.le_of_ble_eq_true rfl) (c24_get d g τ h52 sp59.1 lc_73 k82 j39 (by omega) (by omega)) 6 64 (Nat.le_of_ble_eq_true rfl) (Nat.le_of_ble_eq_true rfl)) (fun r105 h104 q103 => ?_) (fun E h1 q => q.elim)
      obtain ⟨q103e, q103k⟩ := q103
      rw [q103e]
      have el106 : tw_el h52 (g.2 12) j39 = r105 := by rw [← k102]; exact q103k.2.symm
      have kl107 : τ (g.2 12) = 24 := by rw [← k102]; exact k82
      obtain ⟨e108, f109, r_110, c_111, v_112, o_113, t_114, rfl, k115, k116, k117, k118, k119, k120⟩ := sp59.1 r105 21 q103k.1 (by decide)
      refine tw_castS (ci := 11) rfl dX10_sign_24 w_1208 f109 ?_
      refine tw_astore_n [(2, .ref r105), (0, .ref x), (1, .int (nI j39))] dX10_sign_27 rfl (by decide) rfl ?_
      refine tw_new (ci := 1) rfl in_1 tyJ4 tyJ4_ok dX10_sign_28 w_1542 w_823 w_105 (fs := [.null, .int 0, .int 0, .int 0]) (fun j hj => by rcases (show j = 0 ∨ j = 1 ∨ j = 2 ∨ j = 3 by omega) with rfl | rfl | rfl | rfl <;> rfl) 5 60 (Nat.le_of_ble_eq_true rfl) (Nat.le_of_ble_eq_true rfl) (fun q121 hq122 hA123 => ?_)
      have n124 := sp59.nn hq122
      have z125 := sp59.1.none hq122
      obtain ⟨h126, eh126⟩ : ∃ z : tw_H, z = tw_up h52 q121 (.inr (1, [.null, .int 0, .int 0, .int 0])) := ⟨_, rfl⟩
      rw [← eh126]
      have sp127 : tw_sp d τ h g τ h126 := by rw [eh126]; exact sp59.mk hq122
      have f128 : h126 q121 = some (.inr (1, [.null, .int 0, .int 0, .int 0])) := by rw [eh126]; exact tw_up_s
      refine tw_dup dX10_sign_31 rfl ?_
      refine tw_bv (tw_callI (M := mX10_sign) (pc := 32) okJ4_init_da8c8 dX10_sign_32 w_1543 rfl [] [.ref q121] rfl rfl ⟨by decide, by decide⟩ (Nat.le_of_ble_eq_true rfl) (c_sb_n4 d h126 q121 f128) 4 44 (Nat.le_of_ble_eq_true rfl) (Nat.le_of_ble_eq_true rfl)) (fun h130 q129 => ?_) (fun E h1 q => q.elim)
      obtain ⟨v131, nv132, w133⟩ := q129
      have n134 := sp127.nn nv132
      have z135 := sp127.1.none nv132
      have ne136 := tw_neF f128 nv132
      have sp137 := sp127.sb n124 z125 n134 z135 w133
      obtain ⟨F138, f139, fb140⟩ := w133.2.1
      have f141 := w133.1
      refine tw_astore_n [(3, .ref q121), (2, .ref r105), (0, .ref x), (1, .int (nI j39))] dX10_sign_35 rfl (by decide) rfl ?_
      refine tw_aload_n 0 dX10_sign_36 rfl rfl ?_
      refine tw_aload_n 1 dX10_sign_37 rfl rfl ?_
      obtain ⟨e142, f143, r_144, c_145, v_146, o_147, t_148, rfl, k149, k150, k151, k152, k153, k154⟩ := sp137.1 r105 21 q103k.1 (by decide)
      refine tw_get (v := .int r_144) rfl in_11 0 dX10_sign_38 w_1214 rfl (by decide) f143 rfl ?_
      refine tw_bipush (v := 10) dX10_sign_41 (by decide) ?_
      refine tw_idiv dX10_sign_43 (by decide) ?_
      refine tw_nmi (fun v155 ev155 => ?_)
      obtain ⟨i156, hi157, ei158⟩ := tw_d10 k152 k153 ev155
      rw [ei158]
      refine tw_br (tw_callV (M := mX10_sign) (pc := 44) okJ4_append_bf812 dX10_sign_44 w_1544 rfl f141 [.int (nI i156)] [] rfl rfl ⟨by decide, by decide⟩ (Nat.le_of_ble_eq_true rfl) (c_sb_i4 d h130 q121 v131 0 F138 f141 f139 fb140 (by omega) i156 hi157) 4 44 (Nat.le_of_ble_eq_true rfl) (Nat.le_of_ble_eq_true rfl)) (fun r161 h160 q159 => ?_) (fun E h1 q => q.elim)
      obtain ⟨q159r, k162, q159k, q159w⟩ := q159
      rw [q159r]
      have sp163 := sp137.sb n124 z125 n134 z135 q159w
      obtain ⟨F164, f165, fb166⟩ := q159w.2.1
      have f167 := q159w.1
      refine tw_bipush (v := 46) dX10_sign_47 (by decide) ?_
      refine tw_br (tw_callV (M := mX10_sign) (pc := 49) okJ4_append_cf468 dX10_sign_49 w_1545 rfl f167 [.int 46] [] rfl rfl ⟨by decide, by decide⟩ (Nat.le_of_ble_eq_true rfl) (c_sb_c4 d h160 q121 v131 k162 F164 f167 f165 fb166 (by omega) 46 (by decide)) 4 44 (Nat.le_of_ble_eq_true rfl) (Nat.le_of_ble_eq_true rfl)) (fun r170 h169 q168 => ?_) (fun E h1 q => q.elim)
      obtain ⟨q168r, q168w⟩ := q168
      rw [q168r]
      have sp171 := sp163.sb n124 z125 n134 z135 q168w
      obtain ⟨F172, f173, fb174⟩ := q168w.2.1
      have f175 := q168w.1
      refine tw_aload_n 1 dX10_sign_52 rfl rfl ?_
      obtain ⟨e176, f177, r_178, c_179, v_180, o_181, t_182, rfl, k183, k184, k185, k186, k187, k188⟩ := sp171.1 r105 21 q103k.1 (by decide)
      refine tw_get (v := .int r_178) rfl in_11 0 dX10_sign_53 w_1214 rfl (by decide) f177 rfl ?_
      refine tw_bipush (v := 10) dX10_sign_56 (by decide) ?_
      refine tw_irem dX10_sign_58 (by decide) ?_
      refine tw_nmi (fun v189 ev189 => ?_)
      obtain ⟨i190, hi191, ei192⟩ := tw_m10 k186 k187 ev189
      rw [ei192]
      refine tw_br (tw_callV (M := mX10_sign) (pc := 59) okJ4_append_bf812 dX10_sign_59 w_1544 rfl f175 [.int (nI i190)] [] rfl rfl ⟨by decide, by decide⟩ (Nat.le_of_ble_eq_true rfl) (c_sb_i4 d h169 q121 v131 (k162 + 1) F172 f175 f173 fb174 (by omega) i190 hi191) 4 44 (Nat.le_of_ble_eq_true rfl) (Nat.le_of_ble_eq_true rfl)) (fun r195 h194 q193 => ?_) (fun E h1 q => q.elim)
      obtain ⟨q193r, k196, q193k, q193w⟩ := q193
      rw [q193r]
      have sp197 := sp171.sb n124 z125 n134 z135 q193w
      obtain ⟨F198, f199, fb200⟩ := q193w.2.1
      have f201 := q193w.1
      refine tw_aload_n 1 dX10_sign_62 rfl rfl ?_
      obtain ⟨e202, f203, r_204, c_205, v_206, o_207, t_208, rfl, k209, k210, k211, k212, k213, k214⟩ := sp197.1 r105 21 q103k.1 (by decide)
      refine tw_get (v := .ref o_207) rfl in_11 3 dX10_sign_63 w_1219 rfl (by decide) f203 rfl ?_
      refine tw_iconst (v := 0) dX10_sign_66 (by decide) ?_
      obtain ⟨e215, f216, F217, rfl, k219, pf218⟩ := sp197.1 o_207 32 k210 (by decide)
      obtain ⟨v220, ev220⟩ : ∃ y : Int32, F217 (0 : Int32).toNatClampNeg = y := ⟨_, rfl⟩
      refine tw_zald (v := v220) dX10_sign_67 f216 (vp_in_nI (n := 0) (by decide) (by decide)) ev220 ?_
      have J78 : ∀ c91 : Int32, c91 ≤ 255 → tw_W d mX10_sign (tw_qr (fun r h1 => tw_sp d τ h g τ h1) tw_nx) 78 [(3, .ref q121), (2, .ref r105), (0, .ref x), (1, .int (nI j39))] [.int c91, .ref q121] h194 4 44 := by
        intro c91 hc91
        refine tw_br (tw_callV (M := mX10_sign) (pc := 78) okJ4_append_cf468 dX10_sign_78 w_1545 rfl f201 [.int c91] [] rfl rfl ⟨by decide, by decide⟩ (Nat.le_of_ble_eq_true rfl) (c_sb_c4 d h194 q121 v131 k196 F198 f201 f199 fb200 (by omega) c91 hc91) 4 44 (Nat.le_of_ble_eq_true rfl) (Nat.le_of_ble_eq_true rfl)) (fun r223 h222 q221 => ?_) (fun E h1 q => q.elim)
        obtain ⟨q221r, q221w⟩ := q221
        rw [q221r]
        have sp224 := sp197.sb n124 z125 n134 z135 q221w
        obtain ⟨F225, f226, fb227⟩ := q221w.2.1
        have f228 := q221w.1
        refine tw_aload_n 1 dX10_sign_81 rfl rfl ?_
        obtain ⟨e229, f230, r_231, c_232, v_233, o_234, t_235, rfl, k236, k237, k238, k239, k240, k241⟩ := sp224.1 r105 21 q103k.1 (by decide)
        refine tw_get (v := .ref o_234) rfl in_11 3 dX10_sign_82 w_1219 rfl (by decide) f230 rfl ?_
        refine tw_iconst (v := 1) dX10_sign_85 (by decide) ?_
        obtain ⟨e242, f243, F244, rfl, k246, pf245⟩ := sp224.1 o_234 32 k237 (by decide)
        obtain ⟨v247, ev247⟩ : ∃ y : Int32, F244 (1 : Int32).toNatClampNeg = y := ⟨_, rfl⟩
        refine tw_zald (v := v247) dX10_sign_86 f243 (vp_in_nI (n := 1) (by decide) (by decide)) ev247 ?_
        have J97 : ∀ c92 : Int32, c92 ≤ 255 → tw_W d mX10_sign (tw_qr (fun r h1 => tw_sp d τ h g τ h1) tw_nx) 97 [(3, .ref q121), (2, .ref r105), (0, .ref x), (1, .int (nI j39))] [.int c92, .ref q121] h222 4 44 := by
          intro c92 hc92
          refine tw_br (tw_callV (M := mX10_sign) (pc := 97) okJ4_append_cf468 dX10_sign_97 w_1545 rfl f228 [.int c92] [] rfl rfl ⟨by decide, by decide⟩ (Nat.le_of_ble_eq_true rfl) (c_sb_c4 d h222 q121 v131 (k196 + 1) F225 f228 f226 fb227 (by omega) c92 hc92) 4 44 (Nat.le_of_ble_eq_true rfl) (Nat.le_of_ble_eq_true rfl)) (fun r250 h249 q248 => ?_) (fun E h1 q => q.elim)
          obtain ⟨q248r, q248w⟩ := q248
          rw [q248r]
          have sp251 := sp224.sb n124 z125 n134 z135 q248w
          obtain ⟨F252, f253, fb254⟩ := q248w.2.1
          have f255 := q248w.1
          refine tw_pop dX10_sign_100 rfl ?_
          refine tw_aload_n 2 dX10_sign_101 rfl rfl ?_
          obtain ⟨e256, f257, th_258, td_259, ds_260, fr_261, ca_262, us_263, wo_264, cm_265, lc_266, lh_267, ld_268, rfl, k269, k270, k271, k272, k273, k274, k275, k276, k277, k278, k279, k280, k281, k282, k283, k284, k285, k286, k287, k288, k289, k290⟩ := sp251.1 x 36 kx (by decide)
          refine tw_get (v := .ref lh_267) rfl in_14 10 dX10_sign_102 w_1161 rfl (by decide) f257 rfl ?_
          obtain ⟨e291, f292, ⟨el293, rfl, k294⟩, k295⟩ := sp251.1 lh_267 25 k276 (by decide)
          refine tw_br (tw_callV (M := mX10_sign) (pc := 105) okJx4a65c_iterator_32c93 dX10_sign_105 w_1382 rfl f292 [] [] rfl rfl ⟨by decide, by decide⟩ (Nat.le_of_ble_eq_true rfl) (c_iterator d h249 lh_267 el293 (g.1 4) (nI (g.2 4)) f292) 3 40 (Nat.le_of_ble_eq_true rfl) (Nat.le_of_ble_eq_true rfl)) (fun it296 h297 q298 => ?_) (fun E h1 q => q.elim)
          obtain ⟨q298n, q298e⟩ := q298
          rw [q298e]
          have n299 := sp251.nn q298n
          have z300 := sp251.1.none q298n
          have ne301 := tw_neF f255 q298n
          have ne302 := tw_neF f253 q298n
          obtain ⟨h303, eh303⟩ : ∃ z : tw_H, z = tw_up h249 it296 (.inr (2, [.int 0, .int (-1), .int (g.1 4), .ref lh_267])) := ⟨_, rfl⟩
          rw [← eh303]
          have sp304 : tw_sp d τ h g τ h303 := by rw [eh303]; exact sp251.mk q298n
          have f305 : h303 q121 = some (.inr (1, [.ref v131, .int 0, .int 0, .int (nI ((k196 + 1) + 1))])) := by rw [eh303, tw_up_n ne301]; exact f255
          have f306 : h303 v131 = some (.inl (d.2 3, 16, .inl F252)) := by rw [eh303, tw_up_n ne302]; exact f253
          have f307 : h303 it296 = some (.inr (2, [.int 0, .int (-1), .int (g.1 4), .ref lh_267])) := by rw [eh303]; exact tw_up_s
          refine tw_astore [(4, .ref it296), (3, .ref q121), (2, .ref r105), (0, .ref x), (1, .int (nI j39))] dX10_sign_108 (by decide) rfl ?_
          have L9 : ∀ (r9 j9 k9 : Nat) (lr9 : Int32) (h9 : tw_H) (sp9 : tw_sp d τ h g τ h9) (fx9 : h9 q121 = some (.inr (1, [.ref v131, .int 0, .int 0, .int (nI k9)]))) (F9 : Nat → Int32) (fv9 : h9 v131 = some (.inl (d.2 3, 16, .inl F9))) (fb9 : tw_fb F9) (fit9 : h9 it296 = some (.inr (2, [.int (nI j9), .int lr9, .int (g.1 4), .ref lh_267]))), g.2 4 + 1 ≤ j9 + r9 → j9 ≤ g.2 4 → k9 ≤ 7 + j9 → tw_W d mX10_sign (tw_qr (fun r h1 => tw_sp d τ h g τ h1) tw_nx) 110 [(0, .ref x), (1, .int (nI j39)), (2, .ref r105), (3, .ref q121), (4, .ref it296)] [] h9 3 40 := by
            intro r9
            induction r9 with
            | zero => intro j9 k9 lr9 h9 sp9 fx9 F9 fv9 fb9 fit9 h1 h1b h2; exact absurd h1 (by omega)
            | succ r9 ih =>
              intro j9 k9 lr9 h9 sp9 fx9 F9 fv9 fb9 fit9 h1 h1b h2
              refine tw_aload 4 dX10_sign_110 rfl ?_
              obtain ⟨e308, f309, ⟨el310, rfl, k311⟩, k312⟩ := sp9.1 lh_267 25 k276 (by decide)
              refine tw_bi (tw_callF (M := mX10_sign) (pc := 112) (n9 := 0) (ci := 2) tw_hasNext ok_itHas w_1412 w_1410 (fun s H z => z.2.2.2.2.2.2.2.2.1) (by decide +kernel) dX10_sign_112 w_1406 rfl fit9 [] [] rfl rfl ⟨by decide, by decide⟩ (Nat.le_of_ble_eq_true rfl) (c_hasNext d h9 it296 lh_267 el310 j9 (g.2 4) lr9 (g.1 4) (g.1 4) fit9 f309 (by omega) (tw_lim25 sp9.1 k276)) 3 40 (Nat.le_of_ble_eq_true rfl) (Nat.le_of_ble_eq_true rfl)) (fun r315 h314 q313 => ?_) (fun E h1 q => q.elim)
              obtain ⟨q313e, q313q⟩ := q313
              rw [q313e]
              rcases q313q with ⟨q313r, q313j⟩ | ⟨q313r, q313j⟩
              · rw [q313r]
                refine tw_if_eq 156 dX10_sign_117 (by decide) (fun _ => ?_) (fun c316 => absurd (by decide) c316)
                refine tw_aload_n 3 dX10_sign_156 rfl rfl ?_
                refine tw_br (tw_callV (M := mX10_sign) (pc := 157) okJ4_toString_0e30d dX10_sign_157 w_1548 rfl fx9 [] [] rfl rfl ⟨by decide, by decide⟩ (Nat.le_of_ble_eq_true rfl) (c_tos d h9 g τ sp9.1 q121 v131 k9 F9 fx9 fv9 fb9 (by omega)) 1 20 (Nat.le_of_ble_eq_true rfl) (Nat.le_of_ble_eq_true rfl)) (fun r319 h318 q317 => ?_) (fun E h1 q => q.elim)
                have sp320 := sp9.tr q317
                exact tw_aret dX10_sign_160 rfl (Or.inl ⟨_, rfl⟩) (Or.inl ⟨_, rfl, sp320⟩)
              · rw [q313r]
                refine tw_if_eq 156 dX10_sign_117 (by decide) (fun c321 => absurd c321 (by decide)) (fun _ => ?_)
                refine tw_aload 4 dX10_sign_120 rfl ?_
                have k322 : τ el310 = 28 := k311.resolve_left (fun q => absurd q313j (by rw [q.2.1]; exact Nat.not_lt_zero _))
                obtain ⟨e323, f324, ⟨F325, rfl, hc326, hc327⟩, un328⟩ := sp9.1 el310 28 k322 (by decide)
                obtain ⟨y329, hy330, ky331⟩ := hc327 j9 q313j
                refine tw_br (tw_callF (M := mX10_sign) (pc := 122) (n9 := 0) (ci := 2) tw_next ok_itNext w_1421 w_1419 (fun s H z => z.2.2.2.2.2.2.2.2.2) (by decide +kernel) dX10_sign_122 w_1416 rfl fit9 [] [] rfl rfl ⟨by decide, by decide⟩ (Nat.le_of_ble_eq_true rfl) (c_next d h9 it296 lh_267 el310 j9 (g.2 4) y329 lr9 (g.1 4) F325 fit9 f309 f324 q313j hc326 hy330) 3 40 (Nat.le_of_ble_eq_true rfl) (Nat.le_of_ble_eq_true rfl)) (fun r334 h333 q332 => ?_) (fun E h1 q => q.elim)
                obtain ⟨q332r, q332e⟩ := q332
                rw [q332r]
                have sp335 : tw_sp d τ h g τ h333 := by rw [q332e]; exact sp9.wl n299 z300
                have f336 : h333 q121 = some (.inr (1, [.ref v131, .int 0, .int 0, .int (nI k9)])) := by rw [q332e, tw_up_n ne301]; exact fx9
                have f337 : h333 v131 = some (.inl (d.2 3, 16, .inl F9)) := by rw [q332e, tw_up_n ne302]; exact fv9
                have f338 : h333 it296 = some (.inr (2, [.int (nI (j9 + 1)), .int (nI j9), .int (g.1 4), .ref lh_267])) := by rw [q332e]; exact tw_up_s
                obtain ⟨e339, f340, x_341, y_342, dy_343, p_344, rfl, k345, k346, k347, k348⟩ := sp335.1 y329 23 ky331 (by decide)
                refine tw_castS (ci := 13) rfl dX10_sign_127 w_1332 f340 ?_
                refine tw_astore [(5, .ref y329), (0, .ref x), (1, .int (nI j39)), (2, .ref r105), (3, .ref q121), (4, .ref it296)] dX10_sign_130 (by decide) rfl ?_
                refine tw_aload_n 4 dX10_sign_132 rfl rfl ?_
                refine tw_aload 0 dX10_sign_133 rfl ?_
                refine tw_get (v := .int x_341) rfl in_13 0 dX10_sign_135 w_1338 rfl (by decide) f340 rfl ?_
                refine tw_iload_n 2 dX10_sign_138 rfl rfl ?_
                refine tw_icmp_ne 147 dX10_sign_139 (by decide) (fun c349 => ?_) (fun c349 => ?_)
                · refine tw_ldcS (i := 19) dX10_sign_147 rfl ?_
                  refine tw_br (tw_callV (M := mX10_sign) (pc := 149) okJ4_append_15ec4 dX10_sign_149 w_1547 rfl f336 [.ref (d.2 (200 + 19))] [] rfl rfl ⟨by decide, by decide⟩ (Nat.le_of_ble_eq_true rfl) (c_sb_s4 d h333 q121 v131 k9 F9 f336 f337 fb9 0 (by decide) (by omega)) 3 40 (Nat.le_of_ble_eq_true rfl) (Nat.le_of_ble_eq_true rfl)) (fun r352 h351 q350 => ?_) (fun E h1 q => q.elim)
                  obtain ⟨q350r, k353, q350k, q350w⟩ := q350
                  rw [q350r]
                  have sp354 := sp335.sb n124 z125 n134 z135 q350w
                  have f355 := (q350w.2.2 it296 (Ne.symm ne301) (Ne.symm ne302)).trans f338
                  obtain ⟨F356, f357, fb358⟩ := q350w.2.1
                  have f359 := q350w.1
                  refine tw_pop dX10_sign_152 rfl ?_
                  refine tw_goto 110 dX10_sign_153 (by decide) ?_
                  refine tw_lv [1, 2, 3, 4, 5] rfl ?_
                  exact ih ((j9 + 1)) _ (nI j9) _ sp354 f359 F356 f357 fb358 f355 (by omega) (by omega) (by omega)
                · refine tw_ldcS (i := 20) dX10_sign_142 rfl ?_
                  refine tw_goto 149 dX10_sign_144 (by decide) ?_
                  refine tw_br (tw_callV (M := mX10_sign) (pc := 149) okJ4_append_15ec4 dX10_sign_149 w_1547 rfl f336 [.ref (d.2 (200 + 20))] [] rfl rfl ⟨by decide, by decide⟩ (Nat.le_of_ble_eq_true rfl) (c_sb_s4 d h333 q121 v131 k9 F9 f336 f337 fb9 1 (by decide) (by omega)) 3 40 (Nat.le_of_ble_eq_true rfl) (Nat.le_of_ble_eq_true rfl)) (fun r362 h361 q360 => ?_) (fun E h1 q => q.elim)
                  obtain ⟨q360r, k363, q360k, q360w⟩ := q360
                  rw [q360r]
                  have sp364 := sp335.sb n124 z125 n134 z135 q360w
                  have f365 := (q360w.2.2 it296 (Ne.symm ne301) (Ne.symm ne302)).trans f338
                  obtain ⟨F366, f367, fb368⟩ := q360w.2.1
                  have f369 := q360w.1
                  refine tw_pop dX10_sign_152 rfl ?_
                  refine tw_goto 110 dX10_sign_153 (by decide) ?_
                  refine tw_lv [1, 2, 3, 4, 5] rfl ?_
                  exact ih ((j9 + 1)) _ (nI j9) _ sp364 f369 F366 f367 fb368 f365 (by omega) (by omega) (by omega)
          refine tw_lv [3, 4, 2, 1, 0] rfl ?_
          exact L9 (g.2 4 + 1) 0 _ (-1) _ sp304 f305 F252 f306 fb254 f307 (by omega) (Nat.zero_le _) (by omega)
        refine tw_if_eq 95 dX10_sign_87 (by decide) (fun c370 => ?_) (fun c370 => ?_)
        · refine tw_bipush (v := 45) dX10_sign_95 (by decide) ?_
          exact J97 45 (by decide)
        · refine tw_bipush (v := 115) dX10_sign_90 (by decide) ?_
          refine tw_goto 97 dX10_sign_92 (by decide) ?_
          exact J97 115 (by decide)
      refine tw_if_eq 76 dX10_sign_68 (by decide) (fun c371 => ?_) (fun c371 => ?_)
      · refine tw_bipush (v := 45) dX10_sign_76 (by decide) ?_
        exact J78 45 (by decide)
      · refine tw_bipush (v := 103) dX10_sign_71 (by decide) ?_
        refine tw_goto 78 dX10_sign_73 (by decide) ?_
        exact J78 103 (by decide)

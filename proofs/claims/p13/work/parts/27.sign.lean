/-! the class's methods over the typed heap. Laid by wip/p5/mkclass.py. -/
set_option maxHeartbeats 4000000 in
set_option maxRecDepth 100000 in
theorem c_X5_housesIn6 (d : tw_D) (g : tw_G) (τ : tw_K) (h : tw_H) (hw : tw_wt d g τ h) (x : Nat) (kx : τ x = 11) (c : Nat) (kc : τ c = 2) : tw_Ct d mX5_housesIn 0 0 [.ref x, .ref c] h (tw_qi (fun r h1 => h1 = h ∧ ∃ w : Nat, w ≤ 6 ∧ r = nI w) tw_nx) := by
  refine tw_of (by decide +kernel) (Nat.le_of_ble_eq_true rfl) ?_
  show tw_W d mX5_housesIn _ 0 [(0, .ref x), (1, .ref c)] [] h 0 0
  have sp0 := tw_sp.rf hw
  refine tw_iconst (v := 0) dX5_housesIn_0 (by decide) ?_
  refine tw_istore_n [(2, .int 0), (0, .ref x), (1, .ref c)] dX5_housesIn_1 rfl (by decide) rfl ?_
  refine tw_aload_n 1 dX5_housesIn_2 rfl rfl ?_
  obtain ⟨e1, f2, td_3, ca_4, ha_5, da_6, c1_7, c2_8, c3_9, c4_10, rfl, k11, k12, k13, k14, k15, k16, k17, k18, k19, k20, k21⟩ := sp0.1 x 11 kx (by decide)
  refine tw_get (v := .ref ha_5) rfl in_9 4 dX5_housesIn_3 w_144 rfl (by decide) f2 rfl ?_
  refine tw_astore_n [(3, .ref ha_5), (2, .int 0), (0, .ref x), (1, .ref c)] dX5_housesIn_6 rfl (by decide) rfl ?_
  refine tw_aload_n 0 dX5_housesIn_7 rfl rfl ?_
  obtain ⟨e22, f23, F24, rfl, k25, pn26, pb27, px28⟩ := sp0.1 ha_5 9 k12 (by decide)
  refine tw_alen (v := nI 6) 5 rfl dX5_housesIn_8 f23 rfl ?_
  refine tw_istore [(4, .int (nI 6)), (3, .ref ha_5), (2, .int 0), (0, .ref x), (1, .ref c)] dX5_housesIn_9 (by decide) rfl ?_
  refine tw_iconst (v := 0) dX5_housesIn_11 (by decide) ?_
  refine tw_istore [(5, .int 0), (4, .int (nI 6)), (3, .ref ha_5), (2, .int 0), (0, .ref x), (1, .ref c)] dX5_housesIn_12 (by decide) rfl ?_
  have L33 : ∀ (r31 k30 : Nat) (x29 : Int32) (li37 : ∃ w : Nat, w ≤ k30 ∧ x29 = nI w), 6 + 1 ≤ k30 + r31 → k30 ≤ 6 → tw_W d mX5_housesIn (tw_qi (fun r h1 => h1 = h ∧ ∃ w : Nat, w ≤ 6 ∧ r = nI w) tw_nx) 14 [(0, .ref x), (1, .ref c), (2, .int x29), (3, .ref ha_5), (4, .int (nI 6)), (5, .int (nI k30))] [] h 0 0 := by
    intro r31
    induction r31 with
    | zero => intro k30 x29 li37 hk38 hk39; exact absurd hk38 (by omega)
    | succ r31 ih32 =>
      intro k30 x29 li37 hk38 hk39
      refine tw_iload 5 dX5_housesIn_14 rfl ?_
      refine tw_iload 4 dX5_housesIn_16 rfl ?_
      refine tw_icmp_ge 50 dX5_housesIn_18 (by decide) (fun c40 => ?_) (fun c40 => ?_)
      · refine tw_iload_n 2 dX5_housesIn_50 rfl rfl ?_
        exact tw_iret dX5_housesIn_51 rfl (Or.inl ⟨_, rfl, ⟨rfl, by obtain ⟨w, a, b⟩ := li37; exact ⟨w, by omega, b⟩⟩⟩)
      · have kl41 := tw_klt (N := 6) c40 hk39 (by decide)
        refine tw_aload_n 3 dX5_housesIn_21 rfl rfl ?_
        refine tw_iload 5 dX5_housesIn_22 rfl ?_
        cases k42 : F24 ((nI k30)).toNatClampNeg with
        | none =>
          refine tw_aald (v := .null) 5 rfl rfl dX5_housesIn_24 f23 (vp_in_nI (by omega) (by decide)) (by rw [k42]; rfl) ?_
          refine tw_astoreN [(6, .null), (0, .ref x), (1, .ref c), (2, .int x29), (3, .ref ha_5), (4, .int (nI 6)), (5, .int (nI k30))] dX5_housesIn_25 (by decide) rfl ?_
          refine tw_aloadN 0 dX5_housesIn_27 rfl ?_
          refine tw_ifnullN 44 dX5_housesIn_29 (by decide) ?_
          obtain ⟨v44, ev44⟩ : ∃ y : Int32, y = (nI k30) + 1 := ⟨_, rfl⟩
          refine tw_iinc [(5, .int v44), (6, .null), (0, .ref x), (1, .ref c), (2, .int x29), (3, .ref ha_5), (4, .int (nI 6))] 6 dX5_housesIn_44 rfl (by rw [ev44]; rfl) (by decide) rfl ?_
          refine tw_goto 14 dX5_housesIn_47 (by decide) ?_
          have qv44 := tw_nI3 ev44
          rw [qv44]
          refine tw_lv [2, 3, 4, 5, 6, 0] rfl ?_
          exact ih32 (k30 + 1) x29 (by obtain ⟨w, a, b⟩ := li37; exact ⟨w, by omega, b⟩) (by omega) (by omega)
        | some q43 =>
          have k45 := k25 _ _ k42
          refine tw_aald (v := .ref q43) 5 rfl rfl dX5_housesIn_24 f23 (vp_in_nI (by omega) (by decide)) (by rw [k42]; rfl) ?_
          refine tw_astore [(6, .ref q43), (0, .ref x), (1, .ref c), (2, .int x29), (3, .ref ha_5), (4, .int (nI 6)), (5, .int (nI k30))] dX5_housesIn_25 (by decide) rfl ?_
          refine tw_aload 0 dX5_housesIn_27 rfl ?_
          refine tw_ifnull dX5_housesIn_29 ?_
          refine tw_aload 0 dX5_housesIn_32 rfl ?_
          obtain ⟨e46, f47, n_48, ar_49, p_50, pl_51, go_52, rfl, k53, k54, k55⟩ := sp0.1 q43 3 k45 (by decide)
          refine tw_getN (v := va_rf pl_51) rfl in_6 2 dX5_housesIn_34 w_641 rfl (by decide) f47 rfl ?_
          refine tw_aload_n 2 dX5_housesIn_37 rfl rfl ?_
          refine tw_acmp_ne (rx := (pl_51)) (ry := (some c)) 44 dX5_housesIn_38 (by decide) (fun c56 => ?_) (fun c56 => ?_)
          · obtain ⟨v57, ev57⟩ : ∃ y : Int32, y = (nI k30) + 1 := ⟨_, rfl⟩
            refine tw_iinc [(5, .int v57), (6, .ref q43), (0, .ref x), (1, .ref c), (2, .int x29), (3, .ref ha_5), (4, .int (nI 6))] 6 dX5_housesIn_44 rfl (by rw [ev57]; rfl) (by decide) rfl ?_
            refine tw_goto 14 dX5_housesIn_47 (by decide) ?_
            have qv57 := tw_nI3 ev57
            rw [qv57]
            refine tw_lv [2, 3, 4, 5, 6, 0] rfl ?_
            exact ih32 (k30 + 1) x29 (by obtain ⟨w, a, b⟩ := li37; exact ⟨w, by omega, b⟩) (by omega) (by omega)
          · obtain ⟨v58, ev58⟩ : ∃ y : Int32, y = x29 + 1 := ⟨_, rfl⟩
            refine tw_iinc [(2, .int v58), (6, .ref q43), (0, .ref x), (1, .ref c), (3, .ref ha_5), (4, .int (nI 6)), (5, .int (nI k30))] 3 dX5_housesIn_41 rfl (by rw [ev58]; rfl) (by decide) rfl ?_
            obtain ⟨v59, ev59⟩ : ∃ y : Int32, y = (nI k30) + 1 := ⟨_, rfl⟩
            refine tw_iinc [(5, .int v59), (2, .int v58), (6, .ref q43), (0, .ref x), (1, .ref c), (3, .ref ha_5), (4, .int (nI 6))] 6 dX5_housesIn_44 rfl (by rw [ev59]; rfl) (by decide) rfl ?_
            refine tw_goto 14 dX5_housesIn_47 (by decide) ?_
            have qv59 := tw_nI3 ev59
            rw [qv59]
            refine tw_lv [3, 4, 1, 5, 6, 0] rfl ?_
            exact ih32 (k30 + 1) v58 (by obtain ⟨w, a, b⟩ := li37; exact ⟨w + 1, by omega, by rw [ev58, b]; exact nI_1 w⟩) (by omega) (by omega)
  refine tw_lv [4, 5, 3, 2, 1, 0] rfl ?_
  exact L33 (6 + 1) 0 0 (⟨0, Nat.le_refl _, rfl⟩) (by omega) (by omega)

set_option maxHeartbeats 4000000 in
set_option maxRecDepth 100000 in
theorem c_X5_sign (d : tw_D) (g : tw_G) (τ : tw_K) (h : tw_H) (hw : tw_wt d g τ h) (x : Nat) (kx : τ x = 11) (n : Int32) : tw_Ct d mX5_sign 6 64 [.ref x, .int n] h (tw_qr (fun r h1 => tw_sp d τ h g τ h1) (fun E h1 => (E = tw_IOE) ∧ ∃ τ1, tw_sp d τ h g τ1 h1)) := by
  refine tw_of (by decide +kernel) (Nat.le_of_ble_eq_true rfl) ?_
  show tw_W d mX5_sign _ 0 [(0, .ref x), (1, .int n)] [] h 6 64
  have sp0 := tw_sp.rf hw
  refine tw_aload_n 0 dX5_sign_0 rfl rfl ?_
  refine tw_iload_n 1 dX5_sign_1 rfl rfl ?_
  obtain ⟨e1, f2, td_3, ca_4, ha_5, da_6, c1_7, c2_8, c3_9, c4_10, rfl, k11, k12, k13, k14, k15, k16, k17, k18, k19, k20, k21⟩ := sp0.1 x 11 kx (by decide)
  refine tw_br (tw_callV (M := mX5_sign) (pc := 2) okX5_countryAt dX5_sign_2 w_546 rfl f2 [.int n] [] rfl rfl ⟨by decide, by decide⟩ (Nat.le_of_ble_eq_true rfl) (c_X5_countryAt d g τ h sp0.1 x kx n) 5 58 (Nat.le_of_ble_eq_true rfl) (Nat.le_of_ble_eq_true rfl)) (fun r24 h23 q22 => ?_) (fun E h1 q => Or.inr ⟨E, rfl, (q.1), ⟨τ, by rw [q.2]; exact sp0⟩⟩)
  obtain ⟨q22e, p25⟩ := q22
  rw [q22e]
  refine tw_astore_n [(2, .ref r24), (0, .ref x), (1, .int n)] dX5_sign_5 rfl (by decide) rfl ?_
  refine tw_new (ci := 1) rfl in_1 tyJ4 tyJ4_ok dX5_sign_6 w_822 w_823 w_105 (fs := [.null, .int 0, .int 0, .int 0]) (fun j hj => by rcases (show j = 0 ∨ j = 1 ∨ j = 2 ∨ j = 3 by omega) with rfl | rfl | rfl | rfl <;> rfl) 4 54 (Nat.le_of_ble_eq_true rfl) (Nat.le_of_ble_eq_true rfl) (fun q26 hq27 hA28 => ?_)
  have n29 := sp0.nn hq27
  have z30 := sp0.1.none hq27
  obtain ⟨h31, eh31⟩ : ∃ z : tw_H, z = tw_up h q26 (.inr (1, [.null, .int 0, .int 0, .int 0])) := ⟨_, rfl⟩
  rw [← eh31]
  have sp32 : tw_sp d τ h g τ h31 := by rw [eh31]; exact sp0.mk hq27
  have f33 : h31 q26 = some (.inr (1, [.null, .int 0, .int 0, .int 0])) := by rw [eh31]; exact tw_up_s
  refine tw_dup dX5_sign_9 rfl ?_
  refine tw_bv (tw_callI (M := mX5_sign) (pc := 10) okJ4_init_da8c8 dX5_sign_10 w_824 rfl [] [.ref q26] rfl rfl ⟨by decide, by decide⟩ (Nat.le_of_ble_eq_true rfl) (c_sb_n4 d h31 q26 f33) 3 38 (Nat.le_of_ble_eq_true rfl) (Nat.le_of_ble_eq_true rfl)) (fun h35 q34 => ?_) (fun E h1 q => q.elim)
  obtain ⟨v36, nv37, w38⟩ := q34
  have n39 := sp32.nn nv37
  have z40 := sp32.1.none nv37
  have ne41 := tw_neF f33 nv37
  have sp42 := sp32.sb n29 z30 n39 z40 w38
  obtain ⟨F43, f44, fb45⟩ := w38.2.1
  have f46 := w38.1
  refine tw_astore_n [(3, .ref q26), (2, .ref r24), (0, .ref x), (1, .int n)] dX5_sign_13 rfl (by decide) rfl ?_
  refine tw_aload_n 0 dX5_sign_14 rfl rfl ?_
  refine tw_aload_n 1 dX5_sign_15 rfl rfl ?_
  obtain ⟨e47, f48, n_49, r_50, c_51, go_52, so_53, v_54, rd_55, rf_56, t_57, rfl, k58, k59, k60, k61, k62, k63, k64, k65⟩ := sp42.1 r24 2 p25 (by decide)
  refine tw_getN (v := .int r_50) rfl in_4 1 dX5_sign_16 w_504 rfl (by decide) f48 rfl ?_
  refine tw_bipush (v := 10) dX5_sign_19 (by decide) ?_
  refine tw_idiv dX5_sign_21 (by decide) ?_
  refine tw_nmi (fun v66 ev66 => ?_)
  obtain ⟨i67, hi68, ei69⟩ := tw_d10 k64 k65 ev66
  rw [ei69]
  refine tw_br (tw_callV (M := mX5_sign) (pc := 22) okJ4_append_bf812 dX5_sign_22 w_853 rfl f46 [.int (nI i67)] [] rfl rfl ⟨by decide, by decide⟩ (Nat.le_of_ble_eq_true rfl) (c_sb_i4 d h35 q26 v36 0 F43 f46 f44 fb45 (by omega) i67 hi68) 3 38 (Nat.le_of_ble_eq_true rfl) (Nat.le_of_ble_eq_true rfl)) (fun r72 h71 q70 => ?_) (fun E h1 q => q.elim)
  obtain ⟨q70r, k73, q70k, q70w⟩ := q70
  rw [q70r]
  have sp74 := sp42.sb n29 z30 n39 z40 q70w
  obtain ⟨F75, f76, fb77⟩ := q70w.2.1
  have f78 := q70w.1
  refine tw_bipush (v := 46) dX5_sign_25 (by decide) ?_
  refine tw_br (tw_callV (M := mX5_sign) (pc := 27) okJ4_append_cf468 dX5_sign_27 w_939 rfl f78 [.int 46] [] rfl rfl ⟨by decide, by decide⟩ (Nat.le_of_ble_eq_true rfl) (c_sb_c4 d h71 q26 v36 k73 F75 f78 f76 fb77 (by omega) 46 (by decide)) 3 38 (Nat.le_of_ble_eq_true rfl) (Nat.le_of_ble_eq_true rfl)) (fun r81 h80 q79 => ?_) (fun E h1 q => q.elim)
  obtain ⟨q79r, q79w⟩ := q79
  rw [q79r]
  have sp82 := sp74.sb n29 z30 n39 z40 q79w
  obtain ⟨F83, f84, fb85⟩ := q79w.2.1
  have f86 := q79w.1
  refine tw_aload_n 1 dX5_sign_30 rfl rfl ?_
  obtain ⟨e87, f88, n_89, r_90, c_91, go_92, so_93, v_94, rd_95, rf_96, t_97, rfl, k98, k99, k100, k101, k102, k103, k104, k105⟩ := sp82.1 r24 2 p25 (by decide)
  refine tw_getN (v := .int r_90) rfl in_4 1 dX5_sign_31 w_504 rfl (by decide) f88 rfl ?_
  refine tw_bipush (v := 10) dX5_sign_34 (by decide) ?_
  refine tw_irem dX5_sign_36 (by decide) ?_
  refine tw_nmi (fun v106 ev106 => ?_)
  obtain ⟨i107, hi108, ei109⟩ := tw_m10 k104 k105 ev106
  rw [ei109]
  refine tw_br (tw_callV (M := mX5_sign) (pc := 37) okJ4_append_bf812 dX5_sign_37 w_853 rfl f86 [.int (nI i107)] [] rfl rfl ⟨by decide, by decide⟩ (Nat.le_of_ble_eq_true rfl) (c_sb_i4 d h80 q26 v36 (k73 + 1) F83 f86 f84 fb85 (by omega) i107 hi108) 3 38 (Nat.le_of_ble_eq_true rfl) (Nat.le_of_ble_eq_true rfl)) (fun r112 h111 q110 => ?_) (fun E h1 q => q.elim)
  obtain ⟨q110r, k113, q110k, q110w⟩ := q110
  rw [q110r]
  have sp114 := sp82.sb n29 z30 n39 z40 q110w
  obtain ⟨F115, f116, fb117⟩ := q110w.2.1
  have f118 := q110w.1
  refine tw_pop dX5_sign_40 rfl ?_
  refine tw_aload_n 0 dX5_sign_41 rfl rfl ?_
  refine tw_aload_n 1 dX5_sign_42 rfl rfl ?_
  refine tw_iconst (v := 0) dX5_sign_43 (by decide) ?_
  obtain ⟨e119, f120, n_121, r_122, c_123, go_124, so_125, v_126, rd_127, rf_128, t_129, rfl, k130, k131, k132, k133, k134, k135, k136, k137⟩ := sp114.1 r24 2 p25 (by decide)
  refine tw_bi (tw_callVN (M := mX5_sign) (pc := 44) okX0_isOpenFor dX5_sign_44 w_577 rfl f120 [.int 0] [.ref q26] rfl rfl ⟨by decide, by decide⟩ (Nat.le_of_ble_eq_true rfl) (c_X0_isOpenFor d g τ h111 sp114.1 r24 p25 0) 3 38 (Nat.le_of_ble_eq_true rfl) (Nat.le_of_ble_eq_true rfl)) (fun r140 h139 q138 => ?_) (fun E h1 q => q.elim)
  obtain ⟨q138e, p141⟩ := q138
  rw [q138e]
  have J57 : ∀ c91 : Int32, c91 ≤ 255 → tw_W d mX5_sign (tw_qr (fun r h1 => tw_sp d τ h g τ h1) (fun E h1 => (E = tw_IOE) ∧ ∃ τ1, tw_sp d τ h g τ1 h1)) 57 [(3, .ref q26), (2, .ref r24), (0, .ref x), (1, .int n)] [.int c91, .ref q26] h111 3 38 := by
    intro c91 hc91
    refine tw_br (tw_callV (M := mX5_sign) (pc := 57) okJ4_append_cf468 dX5_sign_57 w_939 rfl f118 [.int c91] [] rfl rfl ⟨by decide, by decide⟩ (Nat.le_of_ble_eq_true rfl) (c_sb_c4 d h111 q26 v36 k113 F115 f118 f116 fb117 (by omega) c91 hc91) 3 38 (Nat.le_of_ble_eq_true rfl) (Nat.le_of_ble_eq_true rfl)) (fun r144 h143 q142 => ?_) (fun E h1 q => q.elim)
    obtain ⟨q142r, q142w⟩ := q142
    rw [q142r]
    have sp145 := sp114.sb n29 z30 n39 z40 q142w
    obtain ⟨F146, f147, fb148⟩ := q142w.2.1
    have f149 := q142w.1
    refine tw_pop dX5_sign_60 rfl ?_
    refine tw_aload_n 0 dX5_sign_61 rfl rfl ?_
    refine tw_aload_n 1 dX5_sign_62 rfl rfl ?_
    refine tw_iconst (v := 1) dX5_sign_63 (by decide) ?_
    obtain ⟨e150, f151, n_152, r_153, c_154, go_155, so_156, v_157, rd_158, rf_159, t_160, rfl, k161, k162, k163, k164, k165, k166, k167, k168⟩ := sp145.1 r24 2 p25 (by decide)
    refine tw_bi (tw_callVN (M := mX5_sign) (pc := 64) okX0_isOpenFor dX5_sign_64 w_577 rfl f151 [.int 1] [.ref q26] rfl rfl ⟨by decide, by decide⟩ (Nat.le_of_ble_eq_true rfl) (c_X0_isOpenFor d g τ h143 sp145.1 r24 p25 1) 3 38 (Nat.le_of_ble_eq_true rfl) (Nat.le_of_ble_eq_true rfl)) (fun r171 h170 q169 => ?_) (fun E h1 q => q.elim)
    obtain ⟨q169e, p172⟩ := q169
    rw [q169e]
    have J77 : ∀ c92 : Int32, c92 ≤ 255 → tw_W d mX5_sign (tw_qr (fun r h1 => tw_sp d τ h g τ h1) (fun E h1 => (E = tw_IOE) ∧ ∃ τ1, tw_sp d τ h g τ1 h1)) 77 [(3, .ref q26), (2, .ref r24), (0, .ref x), (1, .int n)] [.int c92, .ref q26] h143 3 38 := by
      intro c92 hc92
      refine tw_br (tw_callV (M := mX5_sign) (pc := 77) okJ4_append_cf468 dX5_sign_77 w_939 rfl f149 [.int c92] [] rfl rfl ⟨by decide, by decide⟩ (Nat.le_of_ble_eq_true rfl) (c_sb_c4 d h143 q26 v36 (k113 + 1) F146 f149 f147 fb148 (by omega) c92 hc92) 3 38 (Nat.le_of_ble_eq_true rfl) (Nat.le_of_ble_eq_true rfl)) (fun r175 h174 q173 => ?_) (fun E h1 q => q.elim)
      obtain ⟨q173r, q173w⟩ := q173
      rw [q173r]
      have sp176 := sp145.sb n29 z30 n39 z40 q173w
      obtain ⟨F177, f178, fb179⟩ := q173w.2.1
      have f180 := q173w.1
      refine tw_pop dX5_sign_80 rfl ?_
      refine tw_aload_n 2 dX5_sign_81 rfl rfl ?_
      refine tw_aload_n 1 dX5_sign_82 rfl rfl ?_
      obtain ⟨e181, f182, td_183, ca_184, ha_185, da_186, c1_187, c2_188, c3_189, c4_190, rfl, k191, k192, k193, k194, k195, k196, k197, k198, k199, k200, k201⟩ := sp176.1 x 11 kx (by decide)
      refine tw_bi (tw_callV (M := mX5_sign) (pc := 83) okX5_housesIn dX5_sign_83 w_261 rfl f182 [.ref r24] [] rfl rfl ⟨by decide, by decide⟩ (Nat.le_of_ble_eq_true rfl) (c_X5_housesIn6 d g τ h174 sp176.1 x kx r24 p25) 3 38 (Nat.le_of_ble_eq_true rfl) (Nat.le_of_ble_eq_true rfl)) (fun r204 h203 q202 => ?_) (fun E h1 q => q.elim)
      obtain ⟨q202e, w205, q202w, q202r⟩ := q202
      rw [q202e, q202r]
      refine tw_istore [(4, .int (nI w205)), (3, .ref q26), (2, .ref r24), (0, .ref x), (1, .int n)] dX5_sign_86 (by decide) rfl ?_
      refine tw_iconst (v := 0) dX5_sign_88 (by decide) ?_
      refine tw_istore [(5, .int 0), (4, .int (nI w205)), (3, .ref q26), (2, .ref r24), (0, .ref x), (1, .int n)] dX5_sign_89 (by decide) rfl ?_
      have L9 : ∀ (r9 j9 k9 : Nat) (h9 : tw_H) (sp9 : tw_sp d τ h g τ h9) (fx9 : h9 q26 = some (.inr (1, [.ref v36, .int 0, .int 0, .int (nI k9)]))) (F9 : Nat → Int32) (fv9 : h9 v36 = some (.inl (d.2 3, 16, .inl F9))) (fb9 : tw_fb F9), j9 + r9 = w205 → k9 ≤ 7 + j9 → tw_W d mX5_sign (tw_qr (fun r h1 => tw_sp d τ h g τ h1) (fun E h1 => (E = tw_IOE) ∧ ∃ τ1, tw_sp d τ h g τ1 h1)) 91 [(0, .ref x), (1, .int n), (2, .ref r24), (3, .ref q26), (4, .int (nI w205)), (5, .int (nI j9))] [] h9 3 38 := by
        intro r9
        induction r9 with
        | zero =>
          intro j9 k9 h9 sp9 fx9 F9 fv9 fb9 h1 h2
          refine tw_iload 5 dX5_sign_91 rfl ?_
          refine tw_iload 4 dX5_sign_93 rfl ?_
          refine tw_icmp_ge 111 dX5_sign_95 (by decide) (fun _ => ?_) (fun c206 => absurd (nI_le (by omega) (by omega)) c206)
          refine tw_aload_n 3 dX5_sign_111 rfl rfl ?_
          refine tw_br (tw_callV (M := mX5_sign) (pc := 112) okJ4_toString_0e30d dX5_sign_112 w_980 rfl fx9 [] [] rfl rfl ⟨by decide, by decide⟩ (Nat.le_of_ble_eq_true rfl) (c_tos d h9 g τ sp9.1 q26 v36 k9 F9 fx9 fv9 fb9 (by omega)) 1 18 (Nat.le_of_ble_eq_true rfl) (Nat.le_of_ble_eq_true rfl)) (fun r209 h208 q207 => ?_) (fun E h1 q => q.elim)
          have sp210 := sp9.tr q207
          exact tw_aret dX5_sign_115 rfl (Or.inl ⟨_, rfl⟩) (Or.inl ⟨_, rfl, sp210⟩)
        | succ r9 ih =>
          intro j9 k9 h9 sp9 fx9 F9 fv9 fb9 h1 h2
          refine tw_iload 5 dX5_sign_91 rfl ?_
          refine tw_iload 4 dX5_sign_93 rfl ?_
          refine tw_icmp_ge 111 dX5_sign_95 (by decide) (fun c211 => absurd c211 (nI_ge (by omega) (by omega))) (fun _ => ?_)
          refine tw_aload_n 3 dX5_sign_98 rfl rfl ?_
          refine tw_bipush (v := 42) dX5_sign_99 (by decide) ?_
          refine tw_br (tw_callV (M := mX5_sign) (pc := 101) okJ4_append_cf468 dX5_sign_101 w_939 rfl fx9 [.int 42] [] rfl rfl ⟨by decide, by decide⟩ (Nat.le_of_ble_eq_true rfl) (c_sb_c4 d h9 q26 v36 k9 F9 fx9 fv9 fb9 (by omega) 42 (by decide)) 3 38 (Nat.le_of_ble_eq_true rfl) (Nat.le_of_ble_eq_true rfl)) (fun r214 h213 q212 => ?_) (fun E h1 q => q.elim)
          obtain ⟨q212r, q212w⟩ := q212
          rw [q212r]
          have sp215 := sp9.sb n29 z30 n39 z40 q212w
          obtain ⟨F216, f217, fb218⟩ := q212w.2.1
          have f219 := q212w.1
          refine tw_pop dX5_sign_104 rfl ?_
          obtain ⟨v220, ev220⟩ : ∃ y : Int32, y = (nI j9) + 1 := ⟨_, rfl⟩
          refine tw_iinc [(5, .int v220), (0, .ref x), (1, .int n), (2, .ref r24), (3, .ref q26), (4, .int (nI w205))] 5 dX5_sign_105 rfl (by rw [ev220]; rfl) (by decide) rfl ?_
          refine tw_goto 91 dX5_sign_108 (by decide) ?_
          have qv220 := tw_nI3 ev220
          rw [qv220]
          refine tw_lv [1, 2, 3, 4, 5, 0] rfl ?_
          exact ih (j9 + 1) _ _ sp215 f219 F216 f217 fb218 (by omega) (by omega)
      refine tw_lv [4, 5, 3, 2, 1, 0] rfl ?_
      exact L9 w205 0 _ _ sp176 f180 F177 f178 fb179 (by omega) (by omega)
    refine tw_if_eq 75 dX5_sign_67 (by decide) (fun c221 => ?_) (fun c221 => ?_)
    · refine tw_bipush (v := 45) dX5_sign_75 (by decide) ?_
      exact J77 45 (by decide)
    · refine tw_bipush (v := 115) dX5_sign_70 (by decide) ?_
      refine tw_goto 77 dX5_sign_72 (by decide) ?_
      exact J77 115 (by decide)
  refine tw_if_eq 55 dX5_sign_47 (by decide) (fun c222 => ?_) (fun c222 => ?_)
  · refine tw_bipush (v := 45) dX5_sign_55 (by decide) ?_
    exact J57 45 (by decide)
  · refine tw_bipush (v := 103) dX5_sign_50 (by decide) ?_
    refine tw_goto 57 dX5_sign_52 (by decide) ?_
    exact J57 103 (by decide)

set_option maxHeartbeats 4000000 in
set_option maxRecDepth 100000 in
theorem c_X10_sign (d : tw_D) (g : tw_G) (τ : tw_K) (h : tw_H) (hw : tw_wt d g τ h) (x : Nat) (kx : τ x = 36) (n : Int32) : tw_Ct d mX10_sign 6 64 [.ref x, .int n] h (tw_qr (fun r h1 => tw_sp d τ h g τ h1) tw_nx) := by
  refine tw_of (by decide +kernel) (Nat.le_of_ble_eq_true rfl) ?_
  show tw_W d mX10_sign _ 0 [(0, .ref x), (1, .int n)] [] h 6 64
  have sp0 := tw_sp.rf hw
  refine tw_aload_n 0 dX10_sign_0 rfl rfl ?_
  refine tw_aload_n 0 dX10_sign_1 rfl rfl ?_
  refine tw_iload_n 1 dX10_sign_2 rfl rfl ?_
  obtain ⟨e1, f2, th_3, td_4, ds_5, fr_6, ca_7, us_8, wo_9, cm_10, lc_11, lh_12, ld_13, rfl, k14, k15, k16, k17, k18, k19, k20, k21, k22, k23, k24, k25, k26, k27⟩ := sp0.1 x 36 kx (by decide)
  refine tw_bi (tw_callV (M := mX10_sign) (pc := 3) okX10_isNoCountry dX10_sign_3 w_1292 rfl f2 [.int n] [.ref x] rfl rfl ⟨by decide, by decide⟩ (Nat.le_of_ble_eq_true rfl) (c_X10_isNoCountry d g τ h sp0.1 x kx n) 6 64 (Nat.le_of_ble_eq_true rfl) (Nat.le_of_ble_eq_true rfl)) (fun r30 h29 q28 => ?_) (fun E h1 q => q.elim)
  obtain ⟨q28e, q28d⟩ := q28
  rw [q28e]
  rcases q28d with q28r | ⟨q28r, j31, q28j, q28k⟩
  · rw [q28r]
    refine tw_iconst (v := 1) dX10_sign_6 (by decide) ?_
    refine tw_bi (tw_callV (M := mX10_sign) (pc := 7) okX10_start dX10_sign_7 w_1200 rfl f2 [.int 1, .int 1] [] rfl rfl ⟨by decide, by decide⟩ (Nat.le_of_ble_eq_true rfl) (c_X10_start d g τ h sp0.1 x kx 1 1 (by decide)) 6 64 (Nat.le_of_ble_eq_true rfl) (Nat.le_of_ble_eq_true rfl)) (fun r34 h33 q32 => ?_) (fun E h1 q => q.elim)
    obtain ⟨e35, he36, hs37, hr38, h339⟩ := q32
    have sp40 : tw_sp d τ h g τ h33 := by rw [he36]; exact sp0.set kx (by decide) hs37
    rcases hr38 with ei41 | ⟨ei41, ei41b⟩
    · rw [ei41]
      refine tw_if_eq 16 dX10_sign_10 (by decide) (fun c42 => absurd c42 (by decide)) (fun _ => ?_)
      refine tw_ldcS (i := 19) dX10_sign_13 rfl ?_
      exact tw_aret dX10_sign_15 rfl (Or.inl ⟨_, rfl⟩) (Or.inl ⟨_, rfl, sp40⟩)
    · exact absurd ei41b (by decide)
  · rw [q28r]
    subst q28k
    refine tw_iconst (v := 1) dX10_sign_6 (by decide) ?_
    refine tw_bi (tw_callV (M := mX10_sign) (pc := 7) okX10_start dX10_sign_7 w_1200 rfl f2 [.int 0, .int 1] [] rfl rfl ⟨by decide, by decide⟩ (Nat.le_of_ble_eq_true rfl) (c_X10_start d g τ h sp0.1 x kx 0 1 (by decide)) 6 64 (Nat.le_of_ble_eq_true rfl) (Nat.le_of_ble_eq_true rfl)) (fun r45 h44 q43 => ?_) (fun E h1 q => q.elim)
    obtain ⟨e46, he47, hs48, hr49, h350⟩ := q43
    have sp51 : tw_sp d τ h g τ h44 := by rw [he47]; exact sp0.set kx (by decide) hs48
    rcases hr49 with ei52 | ⟨ei52, ei52b⟩
    · rw [ei52]
      refine tw_if_eq 16 dX10_sign_10 (by decide) (fun c53 => absurd c53 (by decide)) (fun _ => ?_)
      refine tw_ldcS (i := 19) dX10_sign_13 rfl ?_
      exact tw_aret dX10_sign_15 rfl (Or.inl ⟨_, rfl⟩) (Or.inl ⟨_, rfl, sp51⟩)
    · rw [ei52]
      refine tw_if_eq 16 dX10_sign_10 (by decide) (fun _ => ?_) (fun c54 => absurd (by decide) c54)
      refine tw_aload_n 0 dX10_sign_16 rfl rfl ?_
      obtain ⟨e55, f56, th_57, td_58, ds_59, fr_60, ca_61, us_62, wo_63, cm_64, lc_65, lh_66, ld_67, rfl, k68, k69, k70, k71, k72, k73, k74, k75, k76, k77, k78, k79, k80, k81⟩ := sp51.1 x 36 kx (by decide)
      refine tw_get (v := .ref lc_65) rfl in_14 9 dX10_sign_17 w_1160 rfl (by decide) f56 rfl ?_
      refine tw_iload_n 1 dX10_sign_20 rfl rfl ?_
      obtain ⟨e82, f83, ⟨el84, rfl, k85⟩, k86⟩ := sp51.1 lc_65 24 k74 (by decide)
      refine tw_br (tw_callV (M := mX10_sign) (pc := 21) okJx4a65c_get_915e3 dX10_sign_21 w_1296 rfl f83 [.int (nI j31)] [] rfl rfl ⟨by decide, by decide⟩ (Nat.le_of_ble_eq_true rfl) (c24_get d g τ h44 sp51.1 lc_65 k74 j31 (by omega) (by omega)) 6 64 (Nat.le_of_ble_eq_true rfl) (Nat.le_of_ble_eq_true rfl)) (fun r89 h88 q87 => ?_) (fun E h1 q => q.elim)
      obtain ⟨q87e, q87k⟩ := q87
      rw [q87e]
      have el90 : tw_el h44 (g.2 12) j31 = r89 := by rw [← k86]; exact q87k.2.symm
      have kl91 : τ (g.2 12) = 24 := by rw [← k86]; exact k74
      obtain ⟨e92, f93, r_94, c_95, v_96, o_97, t_98, rfl, k99, k100, k101, k102, k103⟩ := sp51.1 r89 21 q87k.1 (by decide)
      refine tw_castS (ci := 11) rfl dX10_sign_24 w_1212 f93 ?_
      refine tw_astore_n [(2, .ref r89), (0, .ref x), (1, .int (nI j31))] dX10_sign_27 rfl (by decide) rfl ?_
      refine tw_new (ci := 1) rfl in_1 tyJ4 tyJ4_ok dX10_sign_28 w_1546 w_823 w_105 (fs := [.null, .int 0, .int 0, .int 0]) (fun j hj => by rcases (show j = 0 ∨ j = 1 ∨ j = 2 ∨ j = 3 by omega) with rfl | rfl | rfl | rfl <;> rfl) 5 60 (Nat.le_of_ble_eq_true rfl) (Nat.le_of_ble_eq_true rfl) (fun q104 hq105 hA106 => ?_)
      have n107 := sp51.nn hq105
      have z108 := sp51.1.none hq105
      obtain ⟨h109, eh109⟩ : ∃ z : tw_H, z = tw_up h44 q104 (.inr (1, [.null, .int 0, .int 0, .int 0])) := ⟨_, rfl⟩
      rw [← eh109]
      have sp110 : tw_sp d τ h g τ h109 := by rw [eh109]; exact sp51.mk hq105
      have f111 : h109 q104 = some (.inr (1, [.null, .int 0, .int 0, .int 0])) := by rw [eh109]; exact tw_up_s
      refine tw_dup dX10_sign_31 rfl ?_
      refine tw_bv (tw_callI (M := mX10_sign) (pc := 32) okJ4_init_da8c8 dX10_sign_32 w_1547 rfl [] [.ref q104] rfl rfl ⟨by decide, by decide⟩ (Nat.le_of_ble_eq_true rfl) (c_sb_n4 d h109 q104 f111) 4 44 (Nat.le_of_ble_eq_true rfl) (Nat.le_of_ble_eq_true rfl)) (fun h113 q112 => ?_) (fun E h1 q => q.elim)
      obtain ⟨v114, nv115, w116⟩ := q112
      have n117 := sp110.nn nv115
      have z118 := sp110.1.none nv115
      have ne119 := tw_neF f111 nv115
      have sp120 := sp110.sb n107 z108 n117 z118 w116
      obtain ⟨F121, f122, fb123⟩ := w116.2.1
      have f124 := w116.1
      refine tw_astore_n [(3, .ref q104), (2, .ref r89), (0, .ref x), (1, .int (nI j31))] dX10_sign_35 rfl (by decide) rfl ?_
      refine tw_aload_n 0 dX10_sign_36 rfl rfl ?_
      refine tw_aload_n 1 dX10_sign_37 rfl rfl ?_
      obtain ⟨e125, f126, r_127, c_128, v_129, o_130, t_131, rfl, k132, k133, k134, k135, k136⟩ := sp120.1 r89 21 q87k.1 (by decide)
      refine tw_get (v := .int r_127) rfl in_11 0 dX10_sign_38 w_1218 rfl (by decide) f126 rfl ?_
      refine tw_bipush (v := 10) dX10_sign_41 (by decide) ?_
      refine tw_idiv dX10_sign_43 (by decide) ?_
      refine tw_nmi (fun v137 ev137 => ?_)
      obtain ⟨i138, hi139, ei140⟩ := tw_d10 k135 k136 ev137
      rw [ei140]
      refine tw_br (tw_callV (M := mX10_sign) (pc := 44) okJ4_append_bf812 dX10_sign_44 w_1548 rfl f124 [.int (nI i138)] [] rfl rfl ⟨by decide, by decide⟩ (Nat.le_of_ble_eq_true rfl) (c_sb_i4 d h113 q104 v114 0 F121 f124 f122 fb123 (by omega) i138 hi139) 4 44 (Nat.le_of_ble_eq_true rfl) (Nat.le_of_ble_eq_true rfl)) (fun r143 h142 q141 => ?_) (fun E h1 q => q.elim)
      obtain ⟨q141r, k144, q141k, q141w⟩ := q141
      rw [q141r]
      have sp145 := sp120.sb n107 z108 n117 z118 q141w
      obtain ⟨F146, f147, fb148⟩ := q141w.2.1
      have f149 := q141w.1
      refine tw_bipush (v := 46) dX10_sign_47 (by decide) ?_
      refine tw_br (tw_callV (M := mX10_sign) (pc := 49) okJ4_append_cf468 dX10_sign_49 w_1549 rfl f149 [.int 46] [] rfl rfl ⟨by decide, by decide⟩ (Nat.le_of_ble_eq_true rfl) (c_sb_c4 d h142 q104 v114 k144 F146 f149 f147 fb148 (by omega) 46 (by decide)) 4 44 (Nat.le_of_ble_eq_true rfl) (Nat.le_of_ble_eq_true rfl)) (fun r152 h151 q150 => ?_) (fun E h1 q => q.elim)
      obtain ⟨q150r, q150w⟩ := q150
      rw [q150r]
      have sp153 := sp145.sb n107 z108 n117 z118 q150w
      obtain ⟨F154, f155, fb156⟩ := q150w.2.1
      have f157 := q150w.1
      refine tw_aload_n 1 dX10_sign_52 rfl rfl ?_
      obtain ⟨e158, f159, r_160, c_161, v_162, o_163, t_164, rfl, k165, k166, k167, k168, k169⟩ := sp153.1 r89 21 q87k.1 (by decide)
      refine tw_get (v := .int r_160) rfl in_11 0 dX10_sign_53 w_1218 rfl (by decide) f159 rfl ?_
      refine tw_bipush (v := 10) dX10_sign_56 (by decide) ?_
      refine tw_irem dX10_sign_58 (by decide) ?_
      refine tw_nmi (fun v170 ev170 => ?_)
      obtain ⟨i171, hi172, ei173⟩ := tw_m10 k168 k169 ev170
      rw [ei173]
      refine tw_br (tw_callV (M := mX10_sign) (pc := 59) okJ4_append_bf812 dX10_sign_59 w_1548 rfl f157 [.int (nI i171)] [] rfl rfl ⟨by decide, by decide⟩ (Nat.le_of_ble_eq_true rfl) (c_sb_i4 d h151 q104 v114 (k144 + 1) F154 f157 f155 fb156 (by omega) i171 hi172) 4 44 (Nat.le_of_ble_eq_true rfl) (Nat.le_of_ble_eq_true rfl)) (fun r176 h175 q174 => ?_) (fun E h1 q => q.elim)
      obtain ⟨q174r, k177, q174k, q174w⟩ := q174
      rw [q174r]
      have sp178 := sp153.sb n107 z108 n117 z118 q174w
      obtain ⟨F179, f180, fb181⟩ := q174w.2.1
      have f182 := q174w.1
      refine tw_aload_n 1 dX10_sign_62 rfl rfl ?_
      obtain ⟨e183, f184, r_185, c_186, v_187, o_188, t_189, rfl, k190, k191, k192, k193, k194⟩ := sp178.1 r89 21 q87k.1 (by decide)
      refine tw_get (v := .ref o_188) rfl in_11 3 dX10_sign_63 w_1223 rfl (by decide) f184 rfl ?_
      refine tw_iconst (v := 0) dX10_sign_66 (by decide) ?_
      obtain ⟨e195, f196, F197, rfl, k198⟩ := sp178.1 o_188 32 k191 (by decide)
      obtain ⟨v199, ev199⟩ : ∃ y : Int32, F197 (0 : Int32).toNatClampNeg = y := ⟨_, rfl⟩
      refine tw_zald (v := v199) dX10_sign_67 f196 (vp_in_nI (n := 0) (by decide) (by decide)) ev199 ?_
      have J78 : ∀ c91 : Int32, c91 ≤ 255 → tw_W d mX10_sign (tw_qr (fun r h1 => tw_sp d τ h g τ h1) tw_nx) 78 [(3, .ref q104), (2, .ref r89), (0, .ref x), (1, .int (nI j31))] [.int c91, .ref q104] h175 4 44 := by
        intro c91 hc91
        refine tw_br (tw_callV (M := mX10_sign) (pc := 78) okJ4_append_cf468 dX10_sign_78 w_1549 rfl f182 [.int c91] [] rfl rfl ⟨by decide, by decide⟩ (Nat.le_of_ble_eq_true rfl) (c_sb_c4 d h175 q104 v114 k177 F179 f182 f180 fb181 (by omega) c91 hc91) 4 44 (Nat.le_of_ble_eq_true rfl) (Nat.le_of_ble_eq_true rfl)) (fun r202 h201 q200 => ?_) (fun E h1 q => q.elim)
        obtain ⟨q200r, q200w⟩ := q200
        rw [q200r]
        have sp203 := sp178.sb n107 z108 n117 z118 q200w
        obtain ⟨F204, f205, fb206⟩ := q200w.2.1
        have f207 := q200w.1
        refine tw_aload_n 1 dX10_sign_81 rfl rfl ?_
        obtain ⟨e208, f209, r_210, c_211, v_212, o_213, t_214, rfl, k215, k216, k217, k218, k219⟩ := sp203.1 r89 21 q87k.1 (by decide)
        refine tw_get (v := .ref o_213) rfl in_11 3 dX10_sign_82 w_1223 rfl (by decide) f209 rfl ?_
        refine tw_iconst (v := 1) dX10_sign_85 (by decide) ?_
        obtain ⟨e220, f221, F222, rfl, k223⟩ := sp203.1 o_213 32 k216 (by decide)
        obtain ⟨v224, ev224⟩ : ∃ y : Int32, F222 (1 : Int32).toNatClampNeg = y := ⟨_, rfl⟩
        refine tw_zald (v := v224) dX10_sign_86 f221 (vp_in_nI (n := 1) (by decide) (by decide)) ev224 ?_
        have J97 : ∀ c92 : Int32, c92 ≤ 255 → tw_W d mX10_sign (tw_qr (fun r h1 => tw_sp d τ h g τ h1) tw_nx) 97 [(3, .ref q104), (2, .ref r89), (0, .ref x), (1, .int (nI j31))] [.int c92, .ref q104] h201 4 44 := by
          intro c92 hc92
          refine tw_br (tw_callV (M := mX10_sign) (pc := 97) okJ4_append_cf468 dX10_sign_97 w_1549 rfl f207 [.int c92] [] rfl rfl ⟨by decide, by decide⟩ (Nat.le_of_ble_eq_true rfl) (c_sb_c4 d h201 q104 v114 (k177 + 1) F204 f207 f205 fb206 (by omega) c92 hc92) 4 44 (Nat.le_of_ble_eq_true rfl) (Nat.le_of_ble_eq_true rfl)) (fun r227 h226 q225 => ?_) (fun E h1 q => q.elim)
          obtain ⟨q225r, q225w⟩ := q225
          rw [q225r]
          have sp228 := sp203.sb n107 z108 n117 z118 q225w
          obtain ⟨F229, f230, fb231⟩ := q225w.2.1
          have f232 := q225w.1
          refine tw_pop dX10_sign_100 rfl ?_
          refine tw_aload_n 2 dX10_sign_101 rfl rfl ?_
          obtain ⟨e233, f234, th_235, td_236, ds_237, fr_238, ca_239, us_240, wo_241, cm_242, lc_243, lh_244, ld_245, rfl, k246, k247, k248, k249, k250, k251, k252, k253, k254, k255, k256, k257, k258, k259⟩ := sp228.1 x 36 kx (by decide)
          refine tw_get (v := .ref lh_244) rfl in_14 10 dX10_sign_102 w_1161 rfl (by decide) f234 rfl ?_
          obtain ⟨e260, f261, ⟨el262, rfl, k263⟩, k264⟩ := sp228.1 lh_244 25 k253 (by decide)
          refine tw_br (tw_callV (M := mX10_sign) (pc := 105) okJx4a65c_iterator_32c93 dX10_sign_105 w_1386 rfl f261 [] [] rfl rfl ⟨by decide, by decide⟩ (Nat.le_of_ble_eq_true rfl) (c_iterator d h226 lh_244 el262 (g.1 4) (nI (g.2 4)) f261) 3 40 (Nat.le_of_ble_eq_true rfl) (Nat.le_of_ble_eq_true rfl)) (fun it265 h266 q267 => ?_) (fun E h1 q => q.elim)
          obtain ⟨q267n, q267e⟩ := q267
          rw [q267e]
          have n268 := sp228.nn q267n
          have z269 := sp228.1.none q267n
          have ne270 := tw_neF f232 q267n
          have ne271 := tw_neF f230 q267n
          obtain ⟨h272, eh272⟩ : ∃ z : tw_H, z = tw_up h226 it265 (.inr (2, [.int 0, .int (-1), .int (g.1 4), .ref lh_244])) := ⟨_, rfl⟩
          rw [← eh272]
          have sp273 : tw_sp d τ h g τ h272 := by rw [eh272]; exact sp228.mk q267n
          have f274 : h272 q104 = some (.inr (1, [.ref v114, .int 0, .int 0, .int (nI ((k177 + 1) + 1))])) := by rw [eh272, tw_up_n ne270]; exact f232
          have f275 : h272 v114 = some (.inl (d.2 3, 16, .inl F229)) := by rw [eh272, tw_up_n ne271]; exact f230
          have f276 : h272 it265 = some (.inr (2, [.int 0, .int (-1), .int (g.1 4), .ref lh_244])) := by rw [eh272]; exact tw_up_s
          refine tw_astore [(4, .ref it265), (3, .ref q104), (2, .ref r89), (0, .ref x), (1, .int (nI j31))] dX10_sign_108 (by decide) rfl ?_
          have L9 : ∀ (r9 j9 k9 : Nat) (lr9 : Int32) (h9 : tw_H) (sp9 : tw_sp d τ h g τ h9) (fx9 : h9 q104 = some (.inr (1, [.ref v114, .int 0, .int 0, .int (nI k9)]))) (F9 : Nat → Int32) (fv9 : h9 v114 = some (.inl (d.2 3, 16, .inl F9))) (fb9 : tw_fb F9) (fit9 : h9 it265 = some (.inr (2, [.int (nI j9), .int lr9, .int (g.1 4), .ref lh_244]))), g.2 4 + 1 ≤ j9 + r9 → j9 ≤ g.2 4 → k9 ≤ 7 + j9 → tw_W d mX10_sign (tw_qr (fun r h1 => tw_sp d τ h g τ h1) tw_nx) 110 [(0, .ref x), (1, .int (nI j31)), (2, .ref r89), (3, .ref q104), (4, .ref it265)] [] h9 3 40 := by
            intro r9
            induction r9 with
            | zero => intro j9 k9 lr9 h9 sp9 fx9 F9 fv9 fb9 fit9 h1 h1b h2; exact absurd h1 (by omega)
            | succ r9 ih =>
              intro j9 k9 lr9 h9 sp9 fx9 F9 fv9 fb9 fit9 h1 h1b h2
              refine tw_aload 4 dX10_sign_110 rfl ?_
              obtain ⟨e277, f278, ⟨el279, rfl, k280⟩, k281⟩ := sp9.1 lh_244 25 k253 (by decide)
              refine tw_bi (tw_callF (M := mX10_sign) (pc := 112) (n9 := 0) (ci := 2) tw_hasNext ok_itHas w_1416 w_1414 (fun s H z => z.2.2.2.2.2.2.2.2.1) (by decide +kernel) dX10_sign_112 w_1410 rfl fit9 [] [] rfl rfl ⟨by decide, by decide⟩ (Nat.le_of_ble_eq_true rfl) (c_hasNext d h9 it265 lh_244 el279 j9 (g.2 4) lr9 (g.1 4) (g.1 4) fit9 f278 (by omega) (tw_lim25 sp9.1 k253)) 3 40 (Nat.le_of_ble_eq_true rfl) (Nat.le_of_ble_eq_true rfl)) (fun r284 h283 q282 => ?_) (fun E h1 q => q.elim)
              obtain ⟨q282e, q282q⟩ := q282
              rw [q282e]
              rcases q282q with ⟨q282r, q282j⟩ | ⟨q282r, q282j⟩
              · rw [q282r]
                refine tw_if_eq 156 dX10_sign_117 (by decide) (fun _ => ?_) (fun c285 => absurd (by decide) c285)
                refine tw_aload_n 3 dX10_sign_156 rfl rfl ?_
                refine tw_br (tw_callV (M := mX10_sign) (pc := 157) okJ4_toString_0e30d dX10_sign_157 w_1552 rfl fx9 [] [] rfl rfl ⟨by decide, by decide⟩ (Nat.le_of_ble_eq_true rfl) (c_tos d h9 g τ sp9.1 q104 v114 k9 F9 fx9 fv9 fb9 (by omega)) 1 20 (Nat.le_of_ble_eq_true rfl) (Nat.le_of_ble_eq_true rfl)) (fun r288 h287 q286 => ?_) (fun E h1 q => q.elim)
                have sp289 := sp9.tr q286
                exact tw_aret dX10_sign_160 rfl (Or.inl ⟨_, rfl⟩) (Or.inl ⟨_, rfl, sp289⟩)
              · rw [q282r]
                refine tw_if_eq 156 dX10_sign_117 (by decide) (fun c290 => absurd c290 (by decide)) (fun _ => ?_)
                refine tw_aload 4 dX10_sign_120 rfl ?_
                have k291 : τ el279 = 28 := k280.resolve_left (fun q => absurd q282j (by rw [q.2.1]; exact Nat.not_lt_zero _))
                obtain ⟨e292, f293, ⟨F294, rfl, hc295, hc296⟩, un297⟩ := sp9.1 el279 28 k291 (by decide)
                obtain ⟨y298, hy299, ky300⟩ := hc296 j9 q282j
                refine tw_br (tw_callF (M := mX10_sign) (pc := 122) (n9 := 0) (ci := 2) tw_next ok_itNext w_1425 w_1423 (fun s H z => z.2.2.2.2.2.2.2.2.2) (by decide +kernel) dX10_sign_122 w_1420 rfl fit9 [] [] rfl rfl ⟨by decide, by decide⟩ (Nat.le_of_ble_eq_true rfl) (c_next d h9 it265 lh_244 el279 j9 (g.2 4) y298 lr9 (g.1 4) F294 fit9 f278 f293 q282j hc295 hy299) 3 40 (Nat.le_of_ble_eq_true rfl) (Nat.le_of_ble_eq_true rfl)) (fun r303 h302 q301 => ?_) (fun E h1 q => q.elim)
                obtain ⟨q301r, q301e⟩ := q301
                rw [q301r]
                have sp304 : tw_sp d τ h g τ h302 := by rw [q301e]; exact sp9.wl n268 z269
                have f305 : h302 q104 = some (.inr (1, [.ref v114, .int 0, .int 0, .int (nI k9)])) := by rw [q301e, tw_up_n ne270]; exact fx9
                have f306 : h302 v114 = some (.inl (d.2 3, 16, .inl F9)) := by rw [q301e, tw_up_n ne271]; exact fv9
                have f307 : h302 it265 = some (.inr (2, [.int (nI (j9 + 1)), .int (nI j9), .int (g.1 4), .ref lh_244])) := by rw [q301e]; exact tw_up_s
                obtain ⟨e308, f309, x_310, y_311, dy_312, p_313, rfl, k314, k315, k316⟩ := sp304.1 y298 23 ky300 (by decide)
                refine tw_castS (ci := 13) rfl dX10_sign_127 w_1336 f309 ?_
                refine tw_astore [(5, .ref y298), (0, .ref x), (1, .int (nI j31)), (2, .ref r89), (3, .ref q104), (4, .ref it265)] dX10_sign_130 (by decide) rfl ?_
                refine tw_aload_n 4 dX10_sign_132 rfl rfl ?_
                refine tw_aload 0 dX10_sign_133 rfl ?_
                refine tw_get (v := .int x_310) rfl in_13 0 dX10_sign_135 w_1342 rfl (by decide) f309 rfl ?_
                refine tw_iload_n 2 dX10_sign_138 rfl rfl ?_
                refine tw_icmp_ne 147 dX10_sign_139 (by decide) (fun c317 => ?_) (fun c317 => ?_)
                · refine tw_ldcS (i := 19) dX10_sign_147 rfl ?_
                  refine tw_br (tw_callV (M := mX10_sign) (pc := 149) okJ4_append_15ec4 dX10_sign_149 w_1551 rfl f305 [.ref (d.2 (200 + 19))] [] rfl rfl ⟨by decide, by decide⟩ (Nat.le_of_ble_eq_true rfl) (c_sb_s4 d h302 q104 v114 k9 F9 f305 f306 fb9 0 (by decide) (by omega)) 3 40 (Nat.le_of_ble_eq_true rfl) (Nat.le_of_ble_eq_true rfl)) (fun r320 h319 q318 => ?_) (fun E h1 q => q.elim)
                  obtain ⟨q318r, k321, q318k, q318w⟩ := q318
                  rw [q318r]
                  have sp322 := sp304.sb n107 z108 n117 z118 q318w
                  have f323 := (q318w.2.2 it265 (Ne.symm ne270) (Ne.symm ne271)).trans f307
                  obtain ⟨F324, f325, fb326⟩ := q318w.2.1
                  have f327 := q318w.1
                  refine tw_pop dX10_sign_152 rfl ?_
                  refine tw_goto 110 dX10_sign_153 (by decide) ?_
                  refine tw_lv [1, 2, 3, 4, 5] rfl ?_
                  exact ih ((j9 + 1)) _ (nI j9) _ sp322 f327 F324 f325 fb326 f323 (by omega) (by omega) (by omega)
                · refine tw_ldcS (i := 20) dX10_sign_142 rfl ?_
                  refine tw_goto 149 dX10_sign_144 (by decide) ?_
                  refine tw_br (tw_callV (M := mX10_sign) (pc := 149) okJ4_append_15ec4 dX10_sign_149 w_1551 rfl f305 [.ref (d.2 (200 + 20))] [] rfl rfl ⟨by decide, by decide⟩ (Nat.le_of_ble_eq_true rfl) (c_sb_s4 d h302 q104 v114 k9 F9 f305 f306 fb9 1 (by decide) (by omega)) 3 40 (Nat.le_of_ble_eq_true rfl) (Nat.le_of_ble_eq_true rfl)) (fun r330 h329 q328 => ?_) (fun E h1 q => q.elim)
                  obtain ⟨q328r, k331, q328k, q328w⟩ := q328
                  rw [q328r]
                  have sp332 := sp304.sb n107 z108 n117 z118 q328w
                  have f333 := (q328w.2.2 it265 (Ne.symm ne270) (Ne.symm ne271)).trans f307
                  obtain ⟨F334, f335, fb336⟩ := q328w.2.1
                  have f337 := q328w.1
                  refine tw_pop dX10_sign_152 rfl ?_
                  refine tw_goto 110 dX10_sign_153 (by decide) ?_
                  refine tw_lv [1, 2, 3, 4, 5] rfl ?_
                  exact ih ((j9 + 1)) _ (nI j9) _ sp332 f337 F334 f335 fb336 f333 (by omega) (by omega) (by omega)
          refine tw_lv [3, 4, 2, 1, 0] rfl ?_
          exact L9 (g.2 4 + 1) 0 _ (-1) _ sp273 f274 F229 f275 fb231 f276 (by omega) (Nat.zero_le _) (by omega)
        refine tw_if_eq 95 dX10_sign_87 (by decide) (fun c338 => ?_) (fun c338 => ?_)
        · refine tw_bipush (v := 45) dX10_sign_95 (by decide) ?_
          exact J97 45 (by decide)
        · refine tw_bipush (v := 115) dX10_sign_90 (by decide) ?_
          refine tw_goto 97 dX10_sign_92 (by decide) ?_
          exact J97 115 (by decide)
      refine tw_if_eq 76 dX10_sign_68 (by decide) (fun c339 => ?_) (fun c339 => ?_)
      · refine tw_bipush (v := 45) dX10_sign_76 (by decide) ?_
        exact J78 45 (by decide)
      · refine tw_bipush (v := 103) dX10_sign_71 (by decide) ?_
        refine tw_goto 78 dX10_sign_73 (by decide) ?_
        exact J78 103 (by decide)

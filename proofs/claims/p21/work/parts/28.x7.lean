/-! the class's methods over the typed heap. Laid by wip/p5/mkclass.py. -/
/-! what is asked, the class -/
def tw_isum (F : Nat → Int32) : Nat → Int32
  | 0 => 0
  | n + 1 => tw_isum F n + F n
theorem tw_isum_c {F G : Nat → Int32} : ∀ n, (∀ j, j < n → F j = G j) → tw_isum F n = tw_isum G n
  | 0, _ => rfl
  | n + 1, h => by
    show tw_isum F n + F n = tw_isum G n + G n
    rw [tw_isum_c n (fun j hj => h j (by omega)), h n (by omega)]
theorem tw_isum_n {F : Nat → Int32} {f : Nat → Nat} : ∀ n, (∀ j, j < n → F j = nI (f j)) → tw_isum F n = nI (tw_sum f n)
  | 0, _ => rfl
  | n + 1, h => by
    show tw_isum F n + F n = nI (tw_sum f n + f n)
    rw [tw_isum_n n (fun j hj => h j (by omega)), h n (by omega)]
    exact tw_niadd
set_option maxHeartbeats 4000000 in
set_option maxRecDepth 100000 in
theorem c4_X5_inVaults (d : tw_D) (g : tw_G) (τ : tw_K) (h : tw_H) (hw : tw_wt d g τ h) (x : Nat) (kx : τ x = 11) (k : Nat) (hk : k < 2) : tw_Ct d mX5_inVaults 0 0 [.ref x, .int (nI k)] h (tw_qi (fun r h1 => h1 = h ∧ r = tw_isum (fun j => g.1 (160 + 64 * j + 24 + k)) (g.2 6)) tw_nx) := by
  refine tw_of (by decide +kernel) (Nat.le_of_ble_eq_true rfl) ?_
  show tw_W d mX5_inVaults _ 0 [(0, .ref x), (1, .int (nI k))] [] h 0 0
  have sp0 := tw_sp.rf hw
  have b9 := tw_b678 hw kx
  refine tw_iconst (v := 0) dX5_inVaults_0 (by decide) ?_
  refine tw_istore_n [(2, .int 0), (0, .ref x), (1, .int (nI k))] dX5_inVaults_1 rfl (by decide) rfl ?_
  refine tw_aload_n 1 dX5_inVaults_2 rfl rfl ?_
  obtain ⟨e1, f2, td_3, ca_4, ha_5, da_6, c1_7, c2_8, c3_9, c4_10, rfl, k11, k12, k13, k14, k15, k16, k17, k18, k19, k20, k21, k22, k23, k24, k25, k26, k27⟩ := sp0.1 x 11 kx (by decide)
  refine tw_get (v := .ref ca_4) rfl in_9 2 dX5_inVaults_3 w_142 rfl (by decide) f2 rfl ?_
  refine tw_astore_n [(3, .ref ca_4), (2, .int 0), (0, .ref x), (1, .int (nI k))] dX5_inVaults_6 rfl (by decide) rfl ?_
  refine tw_aload_n 0 dX5_inVaults_7 rfl rfl ?_
  obtain ⟨e28, f29, F30, rfl, k31, pn32, pb33, px34, pf35⟩ := sp0.1 ca_4 8 k11 (by decide)
  refine tw_alen (v := nI 4) 4 rfl dX5_inVaults_8 f29 rfl ?_
  refine tw_istore [(4, .int (nI 4)), (3, .ref ca_4), (2, .int 0), (0, .ref x), (1, .int (nI k))] dX5_inVaults_9 (by decide) rfl ?_
  refine tw_iconst (v := 0) dX5_inVaults_11 (by decide) ?_
  refine tw_istore [(5, .int 0), (4, .int (nI 4)), (3, .ref ca_4), (2, .int 0), (0, .ref x), (1, .int (nI k))] dX5_inVaults_12 (by decide) rfl ?_
  have L40 : ∀ (r38 k37 : Nat) (x36 : Int32) (li44 : x36 = tw_isum (fun j => g.1 (160 + 64 * j + 24 + k)) (min k37 (g.2 6))), 4 + 1 ≤ k37 + r38 → k37 ≤ 4 → tw_W d mX5_inVaults (tw_qi (fun r h1 => h1 = h ∧ r = tw_isum (fun j => g.1 (160 + 64 * j + 24 + k)) (g.2 6)) tw_nx) 14 [(0, .ref x), (1, .int (nI k)), (2, .int x36), (3, .ref ca_4), (4, .int (nI 4)), (5, .int (nI k37))] [] h 0 0 := by
    intro r38
    induction r38 with
    | zero => intro k37 x36 li44 hk45 hk46; exact absurd hk45 (by omega)
    | succ r38 ih39 =>
      intro k37 x36 li44 hk45 hk46
      refine tw_iload 5 dX5_inVaults_14 rfl ?_
      refine tw_iload 4 dX5_inVaults_16 rfl ?_
      refine tw_icmp_ge 50 dX5_inVaults_18 (by decide) (fun c47 => ?_) (fun c47 => ?_)
      · refine tw_iload_n 2 dX5_inVaults_50 rfl rfl ?_
        exact tw_iret dX5_inVaults_51 rfl (Or.inl ⟨_, rfl, rfl, by have z := tw_kge (N := 4) c47 (by omega); have z2 := li44; rw [show min k37 (g.2 6) = g.2 6 by omega] at z2; exact z2⟩)
      · have kl48 := tw_klt (N := 4) c47 hk46 (by decide)
        refine tw_aload_n 3 dX5_inVaults_21 rfl rfl ?_
        refine tw_iload 5 dX5_inVaults_22 rfl ?_
        cases k49 : F30 ((nI k37)).toNatClampNeg with
        | none =>
          refine tw_aald (v := .null) 4 rfl rfl dX5_inVaults_24 f29 (vp_in_nI (by omega) (by decide)) (by rw [k49]; rfl) ?_
          refine tw_astoreN [(6, .null), (0, .ref x), (1, .int (nI k)), (2, .int x36), (3, .ref ca_4), (4, .int (nI 4)), (5, .int (nI k37))] dX5_inVaults_25 (by decide) rfl ?_
          have hv9 := k49
          rw [nI_clamp (by omega)] at hv9
          have pn9 := pn32 k37 (by omega)
          have hk9 : g.2 6 ≤ k37 := pn9.mp hv9
          have mn9 : min (k37 + 1) (g.2 6) = min k37 (g.2 6) := by omega
          refine tw_aloadN 0 dX5_inVaults_27 rfl ?_
          refine tw_ifnullN 44 dX5_inVaults_29 (by decide) ?_
          obtain ⟨v51, ev51⟩ : ∃ y : Int32, y = (nI k37) + 1 := ⟨_, rfl⟩
          refine tw_iinc [(5, .int v51), (6, .null), (0, .ref x), (1, .int (nI k)), (2, .int x36), (3, .ref ca_4), (4, .int (nI 4))] 6 dX5_inVaults_44 rfl (by rw [ev51]; rfl) (by decide) rfl ?_
          refine tw_goto 14 dX5_inVaults_47 (by decide) ?_
          have qv51 := tw_nI3 ev51
          rw [qv51]
          refine tw_lv [2, 3, 4, 5, 6, 0] rfl ?_
          exact ih39 (k37 + 1) x36 (by rw [mn9]; exact li44) (by omega) (by omega)
        | some q50 =>
          have k52 := k31 _ _ k49
          refine tw_aald (v := .ref q50) 4 rfl rfl dX5_inVaults_24 f29 (vp_in_nI (by omega) (by decide)) (by rw [k49]; rfl) ?_
          refine tw_astore [(6, .ref q50), (0, .ref x), (1, .int (nI k)), (2, .int x36), (3, .ref ca_4), (4, .int (nI 4)), (5, .int (nI k37))] dX5_inVaults_25 (by decide) rfl ?_
          have hv9 := k49
          rw [nI_clamp (by omega)] at hv9
          have pn9 := pn32 k37 (by omega)
          have hk9 : k37 < g.2 6 := by rcases Nat.lt_or_ge k37 (g.2 6) with z | z; exact z; rw [pn9.mpr z] at hv9; cases hv9
          have bq9 : g.2 (4096 + q50) = 160 + 64 * k37 := pf35 _ _ hv9
          have m09 : min k37 (g.2 6) = k37 := by omega
          have m19 : min (k37 + 1) (g.2 6) = k37 + 1 := by omega
          have hl9 := li44
          rw [m09] at hl9
          refine tw_aload 0 dX5_inVaults_27 rfl ?_
          refine tw_ifnull dX5_inVaults_29 ?_
          refine tw_iload_n 3 dX5_inVaults_32 rfl rfl ?_
          refine tw_aload 0 dX5_inVaults_33 rfl ?_
          obtain ⟨e53, f54, n_55, r_56, c_57, go_58, so_59, v_60, rd_61, rf_62, t_63, rfl, k64, k65, k66, k67, k68, k69, k70, k71, k72⟩ := sp0.1 q50 2 k52 (by decide)
          obtain ⟨j73, ow74, fn9, fr9, fc9, fg9, fs9, q75, q76, q77, q78⟩ := k72
          obtain rfl : k37 = j73 := by have z := ow74.b bq9; omega
          subst fn9 fr9 fc9 fg9 fs9
          refine tw_getN (v := .ref v_60) rfl in_4 3 dX5_inVaults_35 w_508 rfl (by decide) f54 rfl ?_
          refine tw_iload_n 2 dX5_inVaults_38 rfl rfl ?_
          obtain ⟨e82, f83, a_84, b_85, rfl, k86⟩ := sp0.1 v_60 1 k64 (by decide)
          obtain ⟨b87, ow88, fa9, fb9⟩ := k86
          obtain rfl : (160 + 64 * k37 + 24) = b87 := (ow88.b q78).symm
          subst fa9 fb9
          refine tw_bi (tw_callVN (M := mX5_inVaults) (pc := 39) okX3_of dX5_inVaults_39 w_189 rfl f83 [.int (nI k)] [.int x36] rfl rfl ⟨by decide, by decide⟩ (Nat.le_of_ble_eq_true rfl) (c4_X3_of d g τ h sp0.1 v_60 k64 (160 + 64 * k37 + 24) q78 k (by omega)) 0 0 (Nat.le_of_ble_eq_true rfl) (Nat.le_of_ble_eq_true rfl)) (fun r81 h80 q79 => ?_) (fun E h1 q => q.elim)
          obtain ⟨q79e, q79v⟩ := q79
          rw [q79e]
          refine tw_iadd dX5_inVaults_42 ?_
          refine tw_nmi (fun v89 ev89 => ?_)
          refine tw_istore_n [(2, .int v89), (6, .ref q50), (0, .ref x), (1, .int (nI k)), (3, .ref ca_4), (4, .int (nI 4)), (5, .int (nI k37))] dX5_inVaults_43 rfl (by decide) rfl ?_
          obtain ⟨v90, ev90⟩ : ∃ y : Int32, y = (nI k37) + 1 := ⟨_, rfl⟩
          refine tw_iinc [(5, .int v90), (2, .int v89), (6, .ref q50), (0, .ref x), (1, .int (nI k)), (3, .ref ca_4), (4, .int (nI 4))] 6 dX5_inVaults_44 rfl (by rw [ev90]; rfl) (by decide) rfl ?_
          refine tw_goto 14 dX5_inVaults_47 (by decide) ?_
          have qv90 := tw_nI3 ev90
          rw [qv90]
          refine tw_lv [3, 4, 1, 5, 6, 0] rfl ?_
          exact ih39 (k37 + 1) v89 (by rw [m19]; show v89 = tw_isum (fun j => g.1 (160 + 64 * j + 24 + k)) k37 + (g.1 (160 + 64 * k37 + 24 + k) : Int32); rw [ev89, q79v, hl9]) (by omega) (by omega)
  refine tw_lv [4, 5, 3, 2, 1, 0] rfl ?_
  exact L40 (4 + 1) 0 0 (by rw [Nat.zero_min]; rfl) (by omega) (by omega)

set_option maxHeartbeats 4000000 in
set_option maxRecDepth 100000 in
theorem c4_X5_inPurses (d : tw_D) (g : tw_G) (τ : tw_K) (h : tw_H) (hw : tw_wt d g τ h) (x : Nat) (kx : τ x = 11) (k : Nat) (hk : k < 2) : tw_Ct d mX5_inPurses 0 0 [.ref x, .int (nI k)] h (tw_qi (fun r h1 => h1 = h ∧ r = tw_isum (fun j => g.1 (768 + 32 * j + 8 + k)) (g.2 7)) tw_nx) := by
  refine tw_of (by decide +kernel) (Nat.le_of_ble_eq_true rfl) ?_
  show tw_W d mX5_inPurses _ 0 [(0, .ref x), (1, .int (nI k))] [] h 0 0
  have sp0 := tw_sp.rf hw
  have b9 := tw_b678 hw kx
  refine tw_iconst (v := 0) dX5_inPurses_0 (by decide) ?_
  refine tw_istore_n [(2, .int 0), (0, .ref x), (1, .int (nI k))] dX5_inPurses_1 rfl (by decide) rfl ?_
  refine tw_aload_n 1 dX5_inPurses_2 rfl rfl ?_
  obtain ⟨e1, f2, td_3, ca_4, ha_5, da_6, c1_7, c2_8, c3_9, c4_10, rfl, k11, k12, k13, k14, k15, k16, k17, k18, k19, k20, k21, k22, k23, k24, k25, k26, k27⟩ := sp0.1 x 11 kx (by decide)
  refine tw_get (v := .ref ha_5) rfl in_9 4 dX5_inPurses_3 w_144 rfl (by decide) f2 rfl ?_
  refine tw_astore_n [(3, .ref ha_5), (2, .int 0), (0, .ref x), (1, .int (nI k))] dX5_inPurses_6 rfl (by decide) rfl ?_
  refine tw_aload_n 0 dX5_inPurses_7 rfl rfl ?_
  obtain ⟨e28, f29, F30, rfl, k31, pn32, pb33, px34, pf35⟩ := sp0.1 ha_5 9 k12 (by decide)
  refine tw_alen (v := nI 6) 5 rfl dX5_inPurses_8 f29 rfl ?_
  refine tw_istore [(4, .int (nI 6)), (3, .ref ha_5), (2, .int 0), (0, .ref x), (1, .int (nI k))] dX5_inPurses_9 (by decide) rfl ?_
  refine tw_iconst (v := 0) dX5_inPurses_11 (by decide) ?_
  refine tw_istore [(5, .int 0), (4, .int (nI 6)), (3, .ref ha_5), (2, .int 0), (0, .ref x), (1, .int (nI k))] dX5_inPurses_12 (by decide) rfl ?_
  have L40 : ∀ (r38 k37 : Nat) (x36 : Int32) (li44 : x36 = tw_isum (fun j => g.1 (768 + 32 * j + 8 + k)) (min k37 (g.2 7))), 6 + 1 ≤ k37 + r38 → k37 ≤ 6 → tw_W d mX5_inPurses (tw_qi (fun r h1 => h1 = h ∧ r = tw_isum (fun j => g.1 (768 + 32 * j + 8 + k)) (g.2 7)) tw_nx) 14 [(0, .ref x), (1, .int (nI k)), (2, .int x36), (3, .ref ha_5), (4, .int (nI 6)), (5, .int (nI k37))] [] h 0 0 := by
    intro r38
    induction r38 with
    | zero => intro k37 x36 li44 hk45 hk46; exact absurd hk45 (by omega)
    | succ r38 ih39 =>
      intro k37 x36 li44 hk45 hk46
      refine tw_iload 5 dX5_inPurses_14 rfl ?_
      refine tw_iload 4 dX5_inPurses_16 rfl ?_
      refine tw_icmp_ge 50 dX5_inPurses_18 (by decide) (fun c47 => ?_) (fun c47 => ?_)
      · refine tw_iload_n 2 dX5_inPurses_50 rfl rfl ?_
        exact tw_iret dX5_inPurses_51 rfl (Or.inl ⟨_, rfl, rfl, by have z := tw_kge (N := 6) c47 (by omega); have z2 := li44; rw [show min k37 (g.2 7) = g.2 7 by omega] at z2; exact z2⟩)
      · have kl48 := tw_klt (N := 6) c47 hk46 (by decide)
        refine tw_aload_n 3 dX5_inPurses_21 rfl rfl ?_
        refine tw_iload 5 dX5_inPurses_22 rfl ?_
        cases k49 : F30 ((nI k37)).toNatClampNeg with
        | none =>
          refine tw_aald (v := .null) 5 rfl rfl dX5_inPurses_24 f29 (vp_in_nI (by omega) (by decide)) (by rw [k49]; rfl) ?_
          refine tw_astoreN [(6, .null), (0, .ref x), (1, .int (nI k)), (2, .int x36), (3, .ref ha_5), (4, .int (nI 6)), (5, .int (nI k37))] dX5_inPurses_25 (by decide) rfl ?_
          have hv9 := k49
          rw [nI_clamp (by omega)] at hv9
          have pn9 := pn32 k37 (by omega)
          have hk9 : g.2 7 ≤ k37 := pn9.mp hv9
          have mn9 : min (k37 + 1) (g.2 7) = min k37 (g.2 7) := by omega
          refine tw_aloadN 0 dX5_inPurses_27 rfl ?_
          refine tw_ifnullN 44 dX5_inPurses_29 (by decide) ?_
          obtain ⟨v51, ev51⟩ : ∃ y : Int32, y = (nI k37) + 1 := ⟨_, rfl⟩
          refine tw_iinc [(5, .int v51), (6, .null), (0, .ref x), (1, .int (nI k)), (2, .int x36), (3, .ref ha_5), (4, .int (nI 6))] 6 dX5_inPurses_44 rfl (by rw [ev51]; rfl) (by decide) rfl ?_
          refine tw_goto 14 dX5_inPurses_47 (by decide) ?_
          have qv51 := tw_nI3 ev51
          rw [qv51]
          refine tw_lv [2, 3, 4, 5, 6, 0] rfl ?_
          exact ih39 (k37 + 1) x36 (by rw [mn9]; exact li44) (by omega) (by omega)
        | some q50 =>
          have k52 := k31 _ _ k49
          refine tw_aald (v := .ref q50) 5 rfl rfl dX5_inPurses_24 f29 (vp_in_nI (by omega) (by decide)) (by rw [k49]; rfl) ?_
          refine tw_astore [(6, .ref q50), (0, .ref x), (1, .int (nI k)), (2, .int x36), (3, .ref ha_5), (4, .int (nI 6)), (5, .int (nI k37))] dX5_inPurses_25 (by decide) rfl ?_
          have hv9 := k49
          rw [nI_clamp (by omega)] at hv9
          have pn9 := pn32 k37 (by omega)
          have hk9 : k37 < g.2 7 := by rcases Nat.lt_or_ge k37 (g.2 7) with z | z; exact z; rw [pn9.mpr z] at hv9; cases hv9
          have bq9 : g.2 (4096 + q50) = 768 + 32 * k37 := pf35 _ _ hv9
          have m09 : min k37 (g.2 7) = k37 := by omega
          have m19 : min (k37 + 1) (g.2 7) = k37 + 1 := by omega
          have hl9 := li44
          rw [m09] at hl9
          refine tw_aload 0 dX5_inPurses_27 rfl ?_
          refine tw_ifnull dX5_inPurses_29 ?_
          refine tw_iload_n 3 dX5_inPurses_32 rfl rfl ?_
          refine tw_aload 0 dX5_inPurses_33 rfl ?_
          obtain ⟨e53, f54, n_55, ar_56, p_57, pl_58, go_59, rfl, k60, k61, k62, k63⟩ := sp0.1 q50 3 k52 (by decide)
          obtain ⟨j64, ow65, fn9, fa9, pc66, pc67, lp68⟩ := k63
          obtain rfl : k37 = j64 := by have z := ow65.b bq9; omega
          subst fn9 fa9
          refine tw_getN (v := .ref p_57) rfl in_6 1 dX5_inPurses_35 w_639 rfl (by decide) f54 rfl ?_
          refine tw_iload_n 2 dX5_inPurses_38 rfl rfl ?_
          obtain ⟨e72, f73, a_74, b_75, rfl, k76⟩ := sp0.1 p_57 1 k60 (by decide)
          obtain ⟨b77, ow78, fa9, fb9⟩ := k76
          obtain rfl : (768 + 32 * k37 + 8) = b77 := (ow78.b lp68).symm
          subst fa9 fb9
          refine tw_bi (tw_callVN (M := mX5_inPurses) (pc := 39) okX3_of dX5_inPurses_39 w_189 rfl f73 [.int (nI k)] [.int x36] rfl rfl ⟨by decide, by decide⟩ (Nat.le_of_ble_eq_true rfl) (c4_X3_of d g τ h sp0.1 p_57 k60 (768 + 32 * k37 + 8) lp68 k (by omega)) 0 0 (Nat.le_of_ble_eq_true rfl) (Nat.le_of_ble_eq_true rfl)) (fun r71 h70 q69 => ?_) (fun E h1 q => q.elim)
          obtain ⟨q69e, q69v⟩ := q69
          rw [q69e]
          refine tw_iadd dX5_inPurses_42 ?_
          refine tw_nmi (fun v79 ev79 => ?_)
          refine tw_istore_n [(2, .int v79), (6, .ref q50), (0, .ref x), (1, .int (nI k)), (3, .ref ha_5), (4, .int (nI 6)), (5, .int (nI k37))] dX5_inPurses_43 rfl (by decide) rfl ?_
          obtain ⟨v80, ev80⟩ : ∃ y : Int32, y = (nI k37) + 1 := ⟨_, rfl⟩
          refine tw_iinc [(5, .int v80), (2, .int v79), (6, .ref q50), (0, .ref x), (1, .int (nI k)), (3, .ref ha_5), (4, .int (nI 6))] 6 dX5_inPurses_44 rfl (by rw [ev80]; rfl) (by decide) rfl ?_
          refine tw_goto 14 dX5_inPurses_47 (by decide) ?_
          have qv80 := tw_nI3 ev80
          rw [qv80]
          refine tw_lv [3, 4, 1, 5, 6, 0] rfl ?_
          exact ih39 (k37 + 1) v79 (by rw [m19]; show v79 = tw_isum (fun j => g.1 (768 + 32 * j + 8 + k)) k37 + (g.1 (768 + 32 * k37 + 8 + k) : Int32); rw [ev79, q69v, hl9]) (by omega) (by omega)
  refine tw_lv [4, 5, 3, 2, 1, 0] rfl ?_
  exact L40 (6 + 1) 0 0 (by rw [Nat.zero_min]; rfl) (by omega) (by omega)

def tw_wC (g : tw_G) (k : Nat) : Nat → Int32
  | 0 => tw_isum (fun j => g.1 (160 + 64 * j + 24 + k)) (g.2 6)
  | 1 => tw_isum (fun j => g.1 (768 + 32 * j + 8 + k)) (g.2 7)
  | w + 2 => g.1 (1312 + 8 * w + k)
def tw_RW (m wh : Int32) : Prop := tw_RM m ∧ 0 ≤ wh ∧ wh ≤ 5
theorem tw_ic {w j : Nat} (h : w < 2 ^ 31) (e : (nI w).toInt = (j : Int)) : w = j := by
  rw [nI_toInt h] at e
  omega
theorem tw_io {w lo hi : Nat} (h : w < 2 ^ 31) (e : (nI w).toInt < (lo : Int) ∨ (hi : Int) < (nI w).toInt) : w < lo ∨ hi < w := by
  rw [nI_toInt h] at e
  omega
set_option maxHeartbeats 4000000 in
set_option maxRecDepth 100000 in
theorem c2_X5_market (d : tw_D) (g : tw_G) (τ : tw_K) (h : tw_H) (hw : tw_wt d g τ h) (x : Nat) (kx : τ x = 11) (m : Int32) : tw_Ct d mX5_market 20 120 [.ref x, .int m] h (tw_qi (fun r9 h1 => r9 = g.1 0 ∧ (100 ≤ m ∧ m ≤ 200) ∧ ∃ τ1, tw_sp d τ h (tw_g1 g 0 m) τ1 h1) (fun E h1 => (E = tw_IAE ∧ ¬ (100 ≤ m ∧ m ≤ 200)) ∧ ∃ τ1, tw_sp d τ h g τ1 h1)) := by
  refine tw_of (by decide +kernel) (Nat.le_of_ble_eq_true rfl) ?_
  show tw_W d mX5_market _ 0 [(0, .ref x), (1, .int m)] [] h 20 120
  have sp0 := tw_sp.rf hw
  refine tw_iload_n 1 dX5_market_0 rfl rfl ?_
  refine tw_bipush (v := 100) dX5_market_1 (by decide) ?_
  refine tw_sipush (v := 200) dX5_market_3 (by decide) ?_
  refine tw_bv (tw_callS (M := mX5_market) (pc := 6) okX5_needRange dX5_market_6 w_399 [.int m, .int 100, .int 200] [] rfl rfl ⟨by decide, by decide⟩ (Nat.le_of_ble_eq_true rfl) (c2_X5_needRange d g τ h sp0.1 m 100 200) 19 114 (Nat.le_of_ble_eq_true rfl) (Nat.le_of_ble_eq_true rfl)) (fun h2 q => ?_) (fun E h2 q => Or.inr ⟨E, rfl, ⟨q.1, q.2.2⟩, τ, by rw [q.2.1]; exact sp0⟩)
  obtain ⟨qe, ql⟩ := q
  rw [qe]
  refine tw_aload_n 0 dX5_market_9 rfl rfl ?_
  obtain ⟨e1, f2, td_3, ca_4, ha_5, da_6, c1_7, c2_8, c3_9, c4_10, rfl, k11, k12, k13, k14, k15, k16, k17, k18, k19, k20, k21, k22, k23, k24, k25, k26, k27⟩ := sp0.1 x 11 kx (by decide)
  refine tw_get (v := .int (g.1 0)) rfl in_9 1 dX5_market_10 w_141 rfl (by decide) f2 rfl ?_
  refine tw_istore_n [(2, .int (g.1 0)), (0, .ref x), (1, .int m)] dX5_market_13 rfl (by decide) rfl ?_
  refine tw_aload_n 1 dX5_market_14 rfl rfl ?_
  refine tw_iload_n 2 dX5_market_15 rfl rfl ?_
  obtain ⟨g5, eg5⟩ : ∃ z : tw_G, z = tw_g1 g 0 m := ⟨_, rfl⟩
  have qm : m = g5.1 0 := by rw [eg5]; rfl
  refine tw_put rfl in_9 tyX5 tyX5_ok nmX5 1 dX5_market_16 w_141 rfl (by decide) f2 rfl rfl rfl rfl (Nat.le_of_ble_eq_true rfl) [.int td_3, .int m, .ref ca_4, .int (nI (g.2 0)), .ref ha_5, .int (nI (g.2 1)), .ref da_6, .int (nI (g.2 2)), .ref c1_7, .ref c2_8, .ref c3_9, .ref c4_10] rfl ?_
  obtain ⟨h28, eh28⟩ : ∃ z : tw_H, z = tw_up h x (.inr (9, [.int td_3, .int m, .ref ca_4, .int (nI (g.2 0)), .ref ha_5, .int (nI (g.2 1)), .ref da_6, .int (nI (g.2 2)), .ref c1_7, .ref c2_8, .ref c3_9, .ref c4_10])) := ⟨_, rfl⟩
  rw [← eh28]
  have sp29 : tw_sp d τ h g5 τ h28 := by rw [eh28]; exact sp0.g11 kx ⟨td_3, ca_4, ha_5, da_6, c1_7, c2_8, c3_9, c4_10, (by rw [eg5]; rfl), k11, k12, k13, k14, k15, k16, k17, (by rw [eg5]; exact k18), (by rw [eg5]; exact k19), (by rw [eg5]; exact k20), (by rw [eg5]; exact k21), (by rw [eg5]; exact k22), (by rw [eg5]; exact k23), (by rw [eg5]; exact k24), (by rw [eg5]; exact k25), (by rw [eg5]; exact k26), (by rw [eg5]; exact k27)⟩ (by rw [eg5]; intro i hi; exact if_neg hi) (by rw [eg5]; intro i hi hj; rfl)
  refine tw_iload_n 0 dX5_market_19 rfl rfl ?_
  exact tw_iret dX5_market_20 rfl (Or.inl ⟨_, rfl, rfl, ql, _, by rw [← eg5]; exact sp29⟩)

set_option maxHeartbeats 4000000 in
set_option maxRecDepth 100000 in
theorem c4_X5_worldFact (d : tw_D) (g : tw_G) (τ : tw_K) (h : tw_H) (hw : tw_wt d g τ h)  (x : Nat) (kx : τ x = 11) (k : Nat) (hk : k < 2) (w : Nat) (hw9 : w ≤ 5) : tw_Ct d mX5_worldFact 0 0 [.ref x, .int (nI k), .int (nI w)] h (tw_qi (fun r h1 => h1 = h ∧ r = tw_wC g k w) tw_nx) := by
  refine tw_of (by decide +kernel) (Nat.le_of_ble_eq_true rfl) ?_
  show tw_W d mX5_worldFact _ 0 [(0, .ref x), (1, .int (nI k)), (2, .int (nI w))] [] h 0 0
  have sp0 := tw_sp.rf hw
  refine tw_iload_n 2 dX5_worldFact_0 rfl rfl ?_
  by_cases cs0 : ((nI w)).toInt < 0 ∨ 4 < ((nI w)).toInt
  · refine tw_tabOut 75 dX5_worldFact_1 cs0 (by decide) ?_
    refine tw_aload_n 0 dX5_worldFact_75 rfl rfl ?_
    obtain ⟨e1, f2, td_3, ca_4, ha_5, da_6, c1_7, c2_8, c3_9, c4_10, rfl, k11, k12, k13, k14, k15, k16, k17, k18, k19, k20, k21, k22, k23, k24, k25, k26, k27⟩ := sp0.1 x 11 kx (by decide)
    refine tw_get (v := .ref c4_10) rfl in_9 11 dX5_worldFact_76 w_151 rfl (by decide) f2 rfl ?_
    refine tw_iload_n 1 dX5_worldFact_79 rfl rfl ?_
    obtain ⟨e31, f32, a_33, b_34, rfl, k35⟩ := sp0.1 c4_10 1 k17 (by decide)
    obtain ⟨b36, ow37, fa9, fb9⟩ := k35
    obtain rfl : 1336 = b36 := (ow37.b k27).symm
    subst fa9 fb9
    refine tw_bi (tw_callVN (M := mX5_worldFact) (pc := 80) okX3_of dX5_worldFact_80 w_189 rfl f32 [.int (nI k)] [] rfl rfl ⟨by decide, by decide⟩ (Nat.le_of_ble_eq_true rfl) (c4_X3_of d g τ h sp0.1 c4_10 k17 1336 k27 k (by omega)) 0 0 (Nat.le_of_ble_eq_true rfl) (Nat.le_of_ble_eq_true rfl)) (fun r30 h29 q28 => ?_) (fun E h1 q => q.elim)
    obtain ⟨q28e, q28v⟩ := q28
    rw [q28e]
    exact tw_iret dX5_worldFact_83 rfl (Or.inl ⟨_, rfl, rfl, by rw [show w = 5 from (by have z := tw_io (w := w) (lo := 0) (hi := 4) (by omega) cs0; omega)]; exact q28v⟩)
  · have csl : ¬ ((nI w)).toInt < 0 := fun q => cs0 (Or.inl q)
    have csh : ¬ 4 < ((nI w)).toInt := fun q => cs0 (Or.inr q)
    rcases (show ((nI w)).toInt = 0 ∨ ((nI w)).toInt = 1 ∨ ((nI w)).toInt = 2 ∨ ((nI w)).toInt = 3 ∨ ((nI w)).toInt = 4 by omega) with cs1 | cs1 | cs1 | cs1 | cs1
    · refine tw_tabIn (off := 35) 36 dX5_worldFact_1 csl csh (by rw [cs1]; rfl) (by decide) ?_
      refine tw_aload_n 0 dX5_worldFact_36 rfl rfl ?_
      refine tw_iload_n 1 dX5_worldFact_37 rfl rfl ?_
      obtain ⟨e41, f42, td_43, ca_44, ha_45, da_46, c1_47, c2_48, c3_49, c4_50, rfl, k51, k52, k53, k54, k55, k56, k57, k58, k59, k60, k61, k62, k63, k64, k65, k66, k67⟩ := sp0.1 x 11 kx (by decide)
      refine tw_bi (tw_callV (M := mX5_worldFact) (pc := 38) okX5_inVaults dX5_worldFact_38 w_185 rfl f42 [.int (nI k)] [] rfl rfl ⟨by decide, by decide⟩ (Nat.le_of_ble_eq_true rfl) (c4_X5_inVaults d g τ h sp0.1 x kx k hk) 0 0 (Nat.le_of_ble_eq_true rfl) (Nat.le_of_ble_eq_true rfl)) (fun r40 h39 q38 => ?_) (fun E h1 q => q.elim)
      obtain ⟨q38e, q38v⟩ := q38
      rw [q38e]
      exact tw_iret dX5_worldFact_41 rfl (Or.inl ⟨_, rfl, rfl, by rw [show w = 0 from tw_ic (w := w) (j := 0) (by omega) cs1]; exact q38v⟩)
    · refine tw_tabIn (off := 41) 42 dX5_worldFact_1 csl csh (by rw [cs1]; rfl) (by decide) ?_
      refine tw_aload_n 0 dX5_worldFact_42 rfl rfl ?_
      refine tw_iload_n 1 dX5_worldFact_43 rfl rfl ?_
      obtain ⟨e71, f72, td_73, ca_74, ha_75, da_76, c1_77, c2_78, c3_79, c4_80, rfl, k81, k82, k83, k84, k85, k86, k87, k88, k89, k90, k91, k92, k93, k94, k95, k96, k97⟩ := sp0.1 x 11 kx (by decide)
      refine tw_bi (tw_callV (M := mX5_worldFact) (pc := 44) okX5_inPurses dX5_worldFact_44 w_193 rfl f72 [.int (nI k)] [] rfl rfl ⟨by decide, by decide⟩ (Nat.le_of_ble_eq_true rfl) (c4_X5_inPurses d g τ h sp0.1 x kx k hk) 0 0 (Nat.le_of_ble_eq_true rfl) (Nat.le_of_ble_eq_true rfl)) (fun r70 h69 q68 => ?_) (fun E h1 q => q.elim)
      obtain ⟨q68e, q68v⟩ := q68
      rw [q68e]
      exact tw_iret dX5_worldFact_47 rfl (Or.inl ⟨_, rfl, rfl, by rw [show w = 1 from tw_ic (w := w) (j := 1) (by omega) cs1]; exact q68v⟩)
    · refine tw_tabIn (off := 47) 48 dX5_worldFact_1 csl csh (by rw [cs1]; rfl) (by decide) ?_
      refine tw_aload_n 0 dX5_worldFact_48 rfl rfl ?_
      obtain ⟨e98, f99, td_100, ca_101, ha_102, da_103, c1_104, c2_105, c3_106, c4_107, rfl, k108, k109, k110, k111, k112, k113, k114, k115, k116, k117, k118, k119, k120, k121, k122, k123, k124⟩ := sp0.1 x 11 kx (by decide)
      refine tw_get (v := .ref c1_104) rfl in_9 8 dX5_worldFact_49 w_148 rfl (by decide) f99 rfl ?_
      refine tw_iload_n 1 dX5_worldFact_52 rfl rfl ?_
      obtain ⟨e128, f129, a_130, b_131, rfl, k132⟩ := sp0.1 c1_104 1 k111 (by decide)
      obtain ⟨b133, ow134, fa9, fb9⟩ := k132
      obtain rfl : 1312 = b133 := (ow134.b k121).symm
      subst fa9 fb9
      refine tw_bi (tw_callVN (M := mX5_worldFact) (pc := 53) okX3_of dX5_worldFact_53 w_189 rfl f129 [.int (nI k)] [] rfl rfl ⟨by decide, by decide⟩ (Nat.le_of_ble_eq_true rfl) (c4_X3_of d g τ h sp0.1 c1_104 k111 1312 k121 k (by omega)) 0 0 (Nat.le_of_ble_eq_true rfl) (Nat.le_of_ble_eq_true rfl)) (fun r127 h126 q125 => ?_) (fun E h1 q => q.elim)
      obtain ⟨q125e, q125v⟩ := q125
      rw [q125e]
      exact tw_iret dX5_worldFact_56 rfl (Or.inl ⟨_, rfl, rfl, by rw [show w = 2 from tw_ic (w := w) (j := 2) (by omega) cs1]; exact q125v⟩)
    · refine tw_tabIn (off := 56) 57 dX5_worldFact_1 csl csh (by rw [cs1]; rfl) (by decide) ?_
      refine tw_aload_n 0 dX5_worldFact_57 rfl rfl ?_
      obtain ⟨e135, f136, td_137, ca_138, ha_139, da_140, c1_141, c2_142, c3_143, c4_144, rfl, k145, k146, k147, k148, k149, k150, k151, k152, k153, k154, k155, k156, k157, k158, k159, k160, k161⟩ := sp0.1 x 11 kx (by decide)
      refine tw_get (v := .ref c2_142) rfl in_9 9 dX5_worldFact_58 w_149 rfl (by decide) f136 rfl ?_
      refine tw_iload_n 1 dX5_worldFact_61 rfl rfl ?_
      obtain ⟨e165, f166, a_167, b_168, rfl, k169⟩ := sp0.1 c2_142 1 k149 (by decide)
      obtain ⟨b170, ow171, fa9, fb9⟩ := k169
      obtain rfl : 1320 = b170 := (ow171.b k159).symm
      subst fa9 fb9
      refine tw_bi (tw_callVN (M := mX5_worldFact) (pc := 62) okX3_of dX5_worldFact_62 w_189 rfl f166 [.int (nI k)] [] rfl rfl ⟨by decide, by decide⟩ (Nat.le_of_ble_eq_true rfl) (c4_X3_of d g τ h sp0.1 c2_142 k149 1320 k159 k (by omega)) 0 0 (Nat.le_of_ble_eq_true rfl) (Nat.le_of_ble_eq_true rfl)) (fun r164 h163 q162 => ?_) (fun E h1 q => q.elim)
      obtain ⟨q162e, q162v⟩ := q162
      rw [q162e]
      exact tw_iret dX5_worldFact_65 rfl (Or.inl ⟨_, rfl, rfl, by rw [show w = 3 from tw_ic (w := w) (j := 3) (by omega) cs1]; exact q162v⟩)
    · refine tw_tabIn (off := 65) 66 dX5_worldFact_1 csl csh (by rw [cs1]; rfl) (by decide) ?_
      refine tw_aload_n 0 dX5_worldFact_66 rfl rfl ?_
      obtain ⟨e172, f173, td_174, ca_175, ha_176, da_177, c1_178, c2_179, c3_180, c4_181, rfl, k182, k183, k184, k185, k186, k187, k188, k189, k190, k191, k192, k193, k194, k195, k196, k197, k198⟩ := sp0.1 x 11 kx (by decide)
      refine tw_get (v := .ref c3_180) rfl in_9 10 dX5_worldFact_67 w_150 rfl (by decide) f173 rfl ?_
      refine tw_iload_n 1 dX5_worldFact_70 rfl rfl ?_
      obtain ⟨e202, f203, a_204, b_205, rfl, k206⟩ := sp0.1 c3_180 1 k187 (by decide)
      obtain ⟨b207, ow208, fa9, fb9⟩ := k206
      obtain rfl : 1328 = b207 := (ow208.b k197).symm
      subst fa9 fb9
      refine tw_bi (tw_callVN (M := mX5_worldFact) (pc := 71) okX3_of dX5_worldFact_71 w_189 rfl f203 [.int (nI k)] [] rfl rfl ⟨by decide, by decide⟩ (Nat.le_of_ble_eq_true rfl) (c4_X3_of d g τ h sp0.1 c3_180 k187 1328 k197 k (by omega)) 0 0 (Nat.le_of_ble_eq_true rfl) (Nat.le_of_ble_eq_true rfl)) (fun r201 h200 q199 => ?_) (fun E h1 q => q.elim)
      obtain ⟨q199e, q199v⟩ := q199
      rw [q199e]
      exact tw_iret dX5_worldFact_74 rfl (Or.inl ⟨_, rfl, rfl, by rw [show w = 4 from tw_ic (w := w) (j := 4) (by omega) cs1]; exact q199v⟩)

set_option maxHeartbeats 4000000 in
set_option maxRecDepth 100000 in
theorem c2_X5_world (d : tw_D) (g : tw_G) (τ : tw_K) (h : tw_H) (hw : tw_wt d g τ h) (x : Nat) (kx : τ x = 11) (m : Int32) (wh : Int32) : tw_Ct d mX5_world 20 120 [.ref x, .int m, .int wh] h (tw_qi (fun r9 h1 => r9 = tw_wC g (tw_DN m) (tw_DN wh) ∧ (tw_RW m wh) ∧ ∃ τ1, tw_sp d τ h (g) τ1 h1) (fun E h1 => (E = tw_IAE ∧ ¬ (tw_RW m wh)) ∧ ∃ τ1, tw_sp d τ h g τ1 h1)) := by
  refine tw_of (by decide +kernel) (Nat.le_of_ble_eq_true rfl) ?_
  show tw_W d mX5_world _ 0 [(0, .ref x), (1, .int m), (2, .int wh)] [] h 20 120
  have sp0 := tw_sp.rf hw
  obtain ⟨b96, b97, b98⟩ := tw_b678 hw kx
  refine tw_iload_n 1 dX5_world_0 rfl rfl ?_
  refine tw_bv (tw_callS (M := mX5_world) (pc := 1) okX5_needMetal dX5_world_1 w_573 [.int m] [] rfl rfl ⟨by decide, by decide⟩ (Nat.le_of_ble_eq_true rfl) (c2_X5_needMetal d g τ h sp0.1 m) 19 114 (Nat.le_of_ble_eq_true rfl) (Nat.le_of_ble_eq_true rfl)) (fun h2 q1 => ?_) (fun E h1 q1 => Or.inr ⟨E, rfl, (⟨q1.1, fun z => q1.2.2 z.1⟩), τ, by rw [q1.2.1]; exact sp0⟩)
  obtain ⟨q1e, rcm⟩ := q1
  rw [q1e]
  have rcm0 := rcm
  obtain ⟨k, hk, km⟩ := rcm.k
  subst km
  have cDm : tw_DN (nI k) = k := nI_clamp (by omega)
  refine tw_iload_n 2 dX5_world_4 rfl rfl ?_
  refine tw_iconst (v := 0) dX5_world_5 (by decide) ?_
  refine tw_iconst (v := 5) dX5_world_6 (by decide) ?_
  refine tw_bv (tw_callS (M := mX5_world) (pc := 7) okX5_needRange dX5_world_7 w_399 [.int wh, .int 0, .int 5] [] rfl rfl ⟨by decide, by decide⟩ (Nat.le_of_ble_eq_true rfl) (c2_X5_needRange d g τ h sp0.1 wh 0 5) 18 108 (Nat.le_of_ble_eq_true rfl) (Nat.le_of_ble_eq_true rfl)) (fun h5 q4 => ?_) (fun E h1 q4 => Or.inr ⟨E, rfl, (⟨q4.1, fun z => q4.2.2 z.2⟩), τ, by rw [q4.2.1]; exact sp0⟩)
  obtain ⟨q4e, rlwh⟩ := q4
  rw [q4e]
  have rc0 : tw_RW (nI k) wh := ⟨rcm0, rlwh⟩
  obtain ⟨w9, -, hw9, ew⟩ := tw_I_rng (a := 0) (b := 5) rlwh.1 rlwh.2 (by decide) (by decide)
  subst ew
  have cDwh : tw_DN (nI w9) = w9 := nI_clamp (by omega)
  refine tw_aload_n 0 dX5_world_10 rfl rfl ?_
  refine tw_iload_n 1 dX5_world_11 rfl rfl ?_
  refine tw_iload_n 2 dX5_world_12 rfl rfl ?_
  obtain ⟨e10, f11, td_12, ca_13, ha_14, da_15, c1_16, c2_17, c3_18, c4_19, rfl, k20, k21, k22, k23, k24, k25, k26, k27, k28, k29, k30, k31, k32, k33, k34, k35, k36⟩ := sp0.1 x 11 kx (by decide)
  refine tw_bi (tw_callV (M := mX5_world) (pc := 13) okX5_worldFact dX5_world_13 w_245 rfl f11 [.int (nI k), .int (nI w9)] [] rfl rfl ⟨by decide, by decide⟩ (Nat.le_of_ble_eq_true rfl) (c4_X5_worldFact d g τ h sp0.1 x kx k hk w9 hw9) 18 108 (Nat.le_of_ble_eq_true rfl) (Nat.le_of_ble_eq_true rfl)) (fun r9 h8 q7 => ?_) (fun E h1 q => q.elim)
  obtain ⟨q7e, q7v⟩ := q7
  rw [q7e]
  exact tw_iret dX5_world_16 rfl (Or.inl ⟨_, rfl, (by (try rw [cDm]); (try rw [cDwh]); first | done | exact q7v), rc0, _, (by (try rw [cDm]); (try rw [cDwh]); first | done | exact sp0)⟩)

def tw_lw (T k D L : Nat) : Nat := if k = 1 ∧ T < D ∧ D % 30 = 0 then L - L / 10000 else L
/-- fuel, day, what is left -/
def tw_ld (T k n : Nat) : Nat → Nat → Nat → Int32
  | 0, _, _ => -1
  | f + 1, D, L => if tw_lw T k D L < n then nI D else tw_ld T k n f (D + 1) (tw_lw T k D L - n)
def tw_CV (g : tw_G) : Prop := ∀ j, j < g.2 6 → ∀ k, k < 2 → g.1 (160 + 64 * j + 24 + k) = nI (tw_DN (g.1 (160 + 64 * j + 24 + k))) ∧ tw_DN (g.1 (160 + 64 * j + 24 + k)) ≤ 59000000
theorem tw_L_ad (a b : Nat) : tw_L a + tw_L b = tw_L (a + b) := (Int64.ofNat_add a b).symm
/-- grams' worth -/
def tw_wo (G Sv M : Int32) : Int32 := nI (tw_DN Sv + tw_DN G * tw_DN M / 10)
def tw_hC (g : tw_G) (a : Nat) : Nat → Int32
  | 0 => g.1 (768 + 32 * a + 1)
  | 1 => g.1 (768 + 32 * a + 2)
  | 2 => g.1 (768 + 32 * a + 0)
  | 3 => g.1 (768 + 32 * a + 8 + 0)
  | 4 => g.1 (768 + 32 * a + 8 + 1)
  | 5 => tw_wo (g.1 (768 + 32 * a + 8 + 0)) (g.1 (768 + 32 * a + 8 + 1)) (g.1 0)
  | 6 => tw_isum (fun j => if g.1 (1152 + 8 * j + 2) = 0 ∧ g.1 (1152 + 8 * j + 3) = nI a then 1 else 0) (g.2 8)
  | _ + 7 => tw_isum (fun j => if g.1 (1152 + 8 * j + 2) = 0 ∧ g.1 (1152 + 8 * j + 4) = nI a then 1 else 0) (g.2 8)
/-- the class's purses and vaults are numbers, the market too -/
def tw_CW (g : tw_G) : Prop := tw_CV g ∧ (∀ j, j < g.2 7 → ∀ k, k < 2 → g.1 (768 + 32 * j + 8 + k) = nI (tw_DN (g.1 (768 + 32 * j + 8 + k))) ∧ tw_DN (g.1 (768 + 32 * j + 8 + k)) ≤ 59000000) ∧ g.1 0 = nI (tw_DN (g.1 0)) ∧ tw_DN (g.1 0) ≤ 200
def tw_ck (G Du M : Nat) : Int32 := if G * M / 10 < Du then 0 else 1
def tw_dC (g : tw_G) (a : Nat) : Nat → Int32
  | 0 => g.1 (1152 + 8 * a + 3)
  | 1 => g.1 (1152 + 8 * a + 4)
  | 2 => g.1 (1152 + 8 * a + 0)
  | 3 => g.1 (1152 + 8 * a + 1)
  | 4 => if g.1 (1152 + 8 * a + 2) = 0 then nI (tw_sd g a) else 0
  | 5 => if g.1 (1152 + 8 * a + 2) = 0 then 0 else 1
  | _ + 6 => if g.1 (1152 + 8 * a + 2) = 0 ∧ g.1 (768 + 32 * tw_dF g a + 1) ≠ -1 then tw_ck (tw_sg g a 0) (tw_sd g a) (tw_DN (g.1 0)) else -1
def tw_CX (g : tw_G) : Prop := tw_CH g ∧ g.1 0 = nI (tw_DN (g.1 0)) ∧ tw_DN (g.1 0) ≤ 200
def tw_oS (go so : Int32) : Int32 := (if go = 0 then 0 else 1) + (if so = 0 then 0 else 2)
def tw_pn (f : Nat → Int32) : Int32 := 20 * f 0 + 10 * f 1 + 5 * f 2 + 2 * f 3 + f 4
def tw_oC (g : tw_G) (a : Nat) : Nat → Int32
  | 0 => g.1 (160 + 64 * a)
  | 1 => g.1 (160 + 64 * a + 1)
  | 2 => g.1 (160 + 64 * a + 24 + 0)
  | 3 => g.1 (160 + 64 * a + 24 + 1)
  | 4 => tw_oS (g.1 (160 + 64 * a + 2)) (g.1 (160 + 64 * a + 3))
  | 5 => tw_isum (fun j => if g.1 (768 + 32 * j + 1) = nI a then 1 else 0) (g.2 7)
  | 6 => tw_wo (g.1 (160 + 64 * a + 24 + 0)) (g.1 (160 + 64 * a + 24 + 1)) (g.1 0)
  | 7 => tw_pn (fun k => g.1 (160 + 64 * a + 32 + k))
  | _ + 8 => tw_isum (fun j => if g.1 (160 + 64 * j) = g.1 (160 + 64 * a) then 1 else 0) (g.2 6)
def tw_SO (g : tw_G) : Prop := (∀ k, k < 2 → tw_wC g k 0 + tw_wC g k 1 + tw_wC g k 2 + tw_wC g k 3 + tw_wC g k 4 = tw_wC g k 5) ∧ (∀ j, j < g.2 6 → (0 ≤ g.1 (160 + 64 * j + 24 + 0) ∧ 0 ≤ g.1 (160 + 64 * j + 24 + 1)) ∧ ∀ k, k < 5 → 0 ≤ g.1 (160 + 64 * j + 32 + k)) ∧ (∀ j, j < g.2 7 → (0 ≤ g.1 (768 + 32 * j + 8 + 0) ∧ 0 ≤ g.1 (768 + 32 * j + 8 + 1)) ∧ (g.1 (768 + 32 * j + 2) ≠ -1 → nI (g.2 21) < g.1 (768 + 32 * j + 0))) ∧ ∀ a b, a < g.2 6 → b < g.2 6 → g.1 (160 + 64 * a + 8 + b) = g.1 (160 + 64 * b + 8 + a) ∧ g.1 (160 + 64 * a + 16 + b) = g.1 (160 + 64 * b + 16 + a)
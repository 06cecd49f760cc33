/-! the class's methods over the typed heap. Laid by wip/p5/mkclass.py. -/
/-! what is asked, the class -/
def tw_isum (F : Nat → Int32) : Nat → Int32
  | 0 => 0
  | n + 1 => tw_isum F n + F n
theorem tw_isum_c {F G : Nat → Int32} : ∀ n, (∀ j, j < n → F j = G j) → tw_isum F n = tw_isum G n
  | 0, _ => rfl
  | n + 1, h => by
    show tw_isum F n + F n = tw_isum G n + G n
    rw [tw_isum_c n (fun j hj => h j (by omega)), h n (by omega)]
theorem tw_isum_n {F : Nat → Int32} {f : Nat → Nat} : ∀ n, (∀ j, j < n → F j = nI (f j)) → tw_isum F n = nI (tw_sum f n)
  | 0, _ => rfl
  | n + 1, h => by
    show tw_isum F n + F n = nI (tw_sum f n + f n)
    rw [tw_isum_n n (fun j hj => h j (by omega)), h n (by omega)]
    exact tw_niadd
set_option maxHeartbeats 4000000 in
set_option maxRecDepth 100000 in
theorem c4_X5_inVaults (d : tw_D) (g : tw_G) (τ : tw_K) (h : tw_H) (hw : tw_wt d g τ h) (x : Nat) (kx : τ x = 11) (k : Nat) (hk : k < 2) : tw_Ct d mX5_inVaults 0 0 [.ref x, .int (nI k)] h (tw_qi (fun r h1 => h1 = h ∧ r = tw_isum (fun j => g.1 (160 + 64 * j + 24 + k)) (g.2 6)) tw_nx) := by
  refine tw_of (by decide +kernel) (Nat.le_of_ble_eq_true rfl) ?_
  show tw_W d mX5_inVaults _ 0 [(0, .ref x), (1, .int (nI k))] [] h 0 0
  have sp0 := tw_sp.rf hw
  have b9 := tw_b678 hw kx
  refine tw_iconst (v := 0) dX5_inVaults_0 (by decide) ?_
  refine tw_istore_n [(2, .int 0), (0, .ref x), (1, .int (nI k))] dX5_inVaults_1 rfl (by decide) rfl ?_
  refine tw_aload_n 1 dX5_inVaults_2 rfl rfl ?_
  obtain ⟨e1, f2, td_3, ca_4, ha_5, da_6, c1_7, c2_8, c3_9, c4_10, rfl, k11, k12, k13, k14, k15, k16, k17, k18, k19, k20, k21, k22, k23, k24, k25, k26, k27⟩ := sp0.1 x 11 kx (by decide)
  refine tw_get (v := .ref ca_4) rfl in_9 2 dX5_inVaults_3 w_142 rfl (by decide) f2 rfl ?_
  refine tw_astore_n [(3, .ref ca_4), (2, .int 0), (0, .ref x), (1, .int (nI k))] dX5_inVaults_6 rfl (by decide) rfl ?_
  refine tw_aload_n 0 dX5_inVaults_7 rfl rfl ?_
  obtain ⟨e28, f29, F30, rfl, k31, pn32, pb33, px34, pf35⟩ := sp0.1 ca_4 8 k11 (by decide)
  refine tw_alen (v := nI 4) 4 rfl dX5_inVaults_8 f29 rfl ?_
  refine tw_istore [(4, .int (nI 4)), (3, .ref ca_4), (2, .int 0), (0, .ref x), (1, .int (nI k))] dX5_inVaults_9 (by decide) rfl ?_
  refine tw_iconst (v := 0) dX5_inVaults_11 (by decide) ?_
  refine tw_istore [(5, .int 0), (4, .int (nI 4)), (3, .ref ca_4), (2, .int 0), (0, .ref x), (1, .int (nI k))] dX5_inVaults_12 (by decide) rfl ?_
  have L40 : ∀ (r38 k37 : Nat) (x36 : Int32) (li44 : x36 = tw_isum (fun j => g.1 (160 + 64 * j + 24 + k)) (min k37 (g.2 6))), 4 + 1 ≤ k37 + r38 → k37 ≤ 4 → tw_W d mX5_inVaults (tw_qi (fun r h1 => h1 = h ∧ r = tw_isum (fun j => g.1 (160 + 64 * j + 24 + k)) (g.2 6)) tw_nx) 14 [(0, .ref x), (1, .int (nI k)), (2, .int x36), (3, .ref ca_4), (4, .int (nI 4)), (5, .int (nI k37))] [] h 0 0 := by
    intro r38
    induction r38 with
    | zero => intro k37 x36 li44 hk45 hk46; exact absurd hk45 (by omega)
    | succ r38 ih39 =>
      intro k37 x36 li44 hk45 hk46
      refine tw_iload 5 dX5_inVaults_14 rfl ?_
      refine tw_iload 4 dX5_inVaults_16 rfl ?_
      refine tw_icmp_ge 50 dX5_inVaults_18 (by decide) (fun c47 => ?_) (fun c47 => ?_)
      · refine tw_iload_n 2 dX5_inVaults_50 rfl rfl ?_
        exact tw_iret dX5_inVaults_51 rfl (Or.inl ⟨_, rfl, rfl, by have z := tw_kge (N := 4) c47 (by omega); have z2 := li44; rw [show min k37 (g.2 6) = g.2 6 by omega] at z2; exact z2⟩)
      · have kl48 := tw_klt (N := 4) c47 hk46 (by decide)
        refine tw_aload_n 3 dX5_inVaults_21 rfl rfl ?_
        refine tw_iload 5 dX5_inVaults_22 rfl ?_
        cases k49 : F30 ((nI k37)).toNatClampNeg with
        | none =>
          refine tw_aald (v := .null) 4 rfl rfl dX5_inVaults_24 f29 (vp_in_nI (by omega) (by decide)) (by rw [k49]; rfl) ?_
          refine tw_astoreN [(6, .null), (0, .ref x), (1, .int (nI k)), (2, .int x36), (3, .ref ca_4), (4, .int (nI 4)), (5, .int (nI k37))] dX5_inVaults_25 (by decide) rfl ?_
          have hv9 := k49
          rw [nI_clamp (by omega)] at hv9
          have pn9 := pn32 k37 (by omega)
          have hk9 : g.2 6 ≤ k37 := pn9.mp hv9
          have mn9 : min (k37 + 1) (g.2 6) = min k37 (g.2 6) := by omega
          refine tw_aloadN 0 dX5_inVaults_27 rfl ?_
          refine tw_ifnullN 44 dX5_inVaults_29 (by decide) ?_
          obtain ⟨v51, ev51⟩ : ∃ y : Int32, y = (nI k37) + 1 := ⟨_, rfl⟩
          refine tw_iinc [(5, .int v51), (6, .null), (0, .ref x), (1, .int (nI k)), (2, .int x36), (3, .ref ca_4), (4, .int (nI 4))] 6 dX5_inVaults_44 rfl (by rw [ev51]; rfl) (by decide) rfl ?_
          refine tw_goto 14 dX5_inVaults_47 (by decide) ?_
          have qv51 := tw_nI3 ev51
          rw [qv51]
          refine tw_lv [2, 3, 4, 5, 6, 0] rfl ?_
          exact ih39 (k37 + 1) x36 (by rw [mn9]; exact li44) (by omega) (by omega)
        | some q50 =>
          have k52 := k31 _ _ k49
          refine tw_aald (v := .ref q50) 4 rfl rfl dX5_inVaults_24 f29 (vp_in_nI (by omega) (by decide)) (by rw [k49]; rfl) ?_
          refine tw_astore [(6, .ref q50), (0, .ref x), (1, .int (nI k)), (2, .int x36), (3, .ref ca_4), (4, .int (nI 4)), (5, .int (nI k37))] dX5_inVaults_25 (by decide) rfl ?_
          have hv9 := k49
          rw [nI_clamp (by omega)] at hv9
          have pn9 := pn32 k37 (by omega)
          have hk9 : k37 < g.2 6 := by rcases Nat.lt_or_ge k37 (g.2 6) with z | z; exact z; rw [pn9.mpr z] at hv9; cases hv9
          have bq9 : g.2 (4096 + q50) = 160 + 64 * k37 := pf35 _ _ hv9
          have m09 : min k37 (g.2 6) = k37 := by omega
          have m19 : min (k37 + 1) (g.2 6) = k37 + 1 := by omega
          have hl9 := li44
          rw [m09] at hl9
          refine tw_aload 0 dX5_inVaults_27 rfl ?_
          refine tw_ifnull dX5_inVaults_29 ?_
          refine tw_iload_n 3 dX5_inVaults_32 rfl rfl ?_
          refine tw_aload 0 dX5_inVaults_33 rfl ?_
          obtain ⟨e53, f54, n_55, r_56, c_57, go_58, so_59, v_60, rd_61, rf_62, t_63, rfl, k64, k65, k66, k67, k68, k69, k70, k71, k72⟩ := sp0.1 q50 2 k52 (by decide)
          obtain ⟨j73, ow74, fn9, fr9, fc9, fg9, fs9, q75, q76, q77, q78⟩ := k72
          obtain rfl : k37 = j73 := by have z := ow74.b bq9; omega
          subst fn9 fr9 fc9 fg9 fs9
          refine tw_getN (v := .ref v_60) rfl in_4 3 dX5_inVaults_35 w_508 rfl (by decide) f54 rfl ?_
          refine tw_iload_n 2 dX5_inVaults_38 rfl rfl ?_
          obtain ⟨e82, f83, a_84, b_85, rfl, k86⟩ := sp0.1 v_60 1 k64 (by decide)
          obtain ⟨b87, ow88, fa9, fb9⟩ := k86
          obtain rfl : (160 + 64 * k37 + 24) = b87 := (ow88.b q78).symm
          subst fa9 fb9
          refine tw_bi (tw_callVN (M := mX5_inVaults) (pc := 39) okX3_of dX5_inVaults_39 w_189 rfl f83 [.int (nI k)] [.int x36] rfl rfl ⟨by decide, by decide⟩ (Nat.le_of_ble_eq_true rfl) (c4_X3_of d g τ h sp0.1 v_60 k64 (160 + 64 * k37 + 24) q78 k (by omega)) 0 0 (Nat.le_of_ble_eq_true rfl) (Nat.le_of_ble_eq_true rfl)) (fun r81 h80 q79 => ?_) (fun E h1 q => q.elim)
          obtain ⟨q79e, q79v⟩ := q79
          rw [q79e]
          refine tw_iadd dX5_inVaults_42 ?_
          refine tw_nmi (fun v89 ev89 => ?_)
          refine tw_istore_n [(2, .int v89), (6, .ref q50), (0, .ref x), (1, .int (nI k)), (3, .ref ca_4), (4, .int (nI 4)), (5, .int (nI k37))] dX5_inVaults_43 rfl (by decide) rfl ?_
          obtain ⟨v90, ev90⟩ : ∃ y : Int32, y = (nI k37) + 1 := ⟨_, rfl⟩
          refine tw_iinc [(5, .int v90), (2, .int v89), (6, .ref q50), (0, .ref x), (1, .int (nI k)), (3, .ref ca_4), (4, .int (nI 4))] 6 dX5_inVaults_44 rfl (by rw [ev90]; rfl) (by decide) rfl ?_
          refine tw_goto 14 dX5_inVaults_47 (by decide) ?_
          have qv90 := tw_nI3 ev90
          rw [qv90]
          refine tw_lv [3, 4, 1, 5, 6, 0] rfl ?_
          exact ih39 (k37 + 1) v89 (by rw [m19]; show v89 = tw_isum (fun j => g.1 (160 + 64 * j + 24 + k)) k37 + (g.1 (160 + 64 * k37 + 24 + k) : Int32); rw [ev89, q79v, hl9]) (by omega) (by omega)
  refine tw_lv [4, 5, 3, 2, 1, 0] rfl ?_
  exact L40 (4 + 1) 0 0 (by rw [Nat.zero_min]; rfl) (by omega) (by omega)

set_option maxHeartbeats 4000000 in
set_option maxRecDepth 100000 in
theorem c4_X5_inPurses (d : tw_D) (g : tw_G) (τ : tw_K) (h : tw_H) (hw : tw_wt d g τ h) (x : Nat) (kx : τ x = 11) (k : Nat) (hk : k < 2) : tw_Ct d mX5_inPurses 0 0 [.ref x, .int (nI k)] h (tw_qi (fun r h1 => h1 = h ∧ r = tw_isum (fun j => g.1 (768 + 32 * j + 8 + k)) (g.2 7)) tw_nx) := by
  refine tw_of (by decide +kernel) (Nat.le_of_ble_eq_true rfl) ?_
  show tw_W d mX5_inPurses _ 0 [(0, .ref x), (1, .int (nI k))] [] h 0 0
  have sp0 := tw_sp.rf hw
  have b9 := tw_b678 hw kx
  refine tw_iconst (v := 0) dX5_inPurses_0 (by decide) ?_
  refine tw_istore_n [(2, .int 0), (0, .ref x), (1, .int (nI k))] dX5_inPurses_1 rfl (by decide) rfl ?_
  refine tw_aload_n 1 dX5_inPurses_2 rfl rfl ?_
  obtain ⟨e1, f2, td_3, ca_4, ha_5, da_6, c1_7, c2_8, c3_9, c4_10, rfl, k11, k12, k13, k14, k15, k16, k17, k18, k19, k20, k21, k22, k23, k24, k25, k26, k27⟩ := sp0.1 x 11 kx (by decide)
  refine tw_get (v := .ref ha_5) rfl in_9 4 dX5_inPurses_3 w_144 rfl (by decide) f2 rfl ?_
  refine tw_astore_n [(3, .ref ha_5), (2, .int 0), (0, .ref x), (1, .int (nI k))] dX5_inPurses_6 rfl (by decide) rfl ?_
  refine tw_aload_n 0 dX5_inPurses_7 rfl rfl ?_
  obtain ⟨e28, f29, F30, rfl, k31, pn32, pb33, px34, pf35⟩ := sp0.1 ha_5 9 k12 (by decide)
  refine tw_alen (v := nI 6) 5 rfl dX5_inPurses_8 f29 rfl ?_
  refine tw_istore [(4, .int (nI 6)), (3, .ref ha_5), (2, .int 0), (0, .ref x), (1, .int (nI k))] dX5_inPurses_9 (by decide) rfl ?_
  refine tw_iconst (v := 0) dX5_inPurses_11 (by decide) ?_
  refine tw_istore [(5, .int 0), (4, .int (nI 6)), (3, .ref ha_5), (2, .int 0), (0, .ref x), (1, .int (nI k))] dX5_inPurses_12 (by decide) rfl ?_
  have L40 : ∀ (r38 k37 : Nat) (x36 : Int32) (li44 : x36 = tw_isum (fun j => g.1 (768 + 32 * j + 8 + k)) (min k37 (g.2 7))), 6 + 1 ≤ k37 + r38 → k37 ≤ 6 → tw_W d mX5_inPurses (tw_qi (fun r h1 => h1 = h ∧ r = tw_isum (fun j => g.1 (768 + 32 * j + 8 + k)) (g.2 7)) tw_nx) 14 [(0, .ref x), (1, .int (nI k)), (2, .int x36), (3, .ref ha_5), (4, .int (nI 6)), (5, .int (nI k37))] [] h 0 0 := by
    intro r38
    induction r38 with
    | zero => intro k37 x36 li44 hk45 hk46; exact absurd hk45 (by omega)
    | succ r38 ih39 =>
      intro k37 x36 li44 hk45 hk46
      refine tw_iload 5 dX5_inPurses_14 rfl ?_
      refine tw_iload 4 dX5_inPurses_16 rfl ?_
      refine tw_icmp_ge 50 dX5_inPurses_18 (by decide) (fun c47 => ?_) (fun c47 => ?_)
      · refine tw_iload_n 2 dX5_inPurses_50 rfl rfl ?_
        exact tw_iret dX5_inPurses_51 rfl (Or.inl ⟨_, rfl, rfl, by have z := tw_kge (N := 6) c47 (by omega); have z2 := li44; rw [show min k37 (g.2 7) = g.2 7 by omega] at z2; exact z2⟩)
      · have kl48 := tw_klt (N := 6) c47 hk46 (by decide)
        refine tw_aload_n 3 dX5_inPurses_21 rfl rfl ?_
        refine tw_iload 5 dX5_inPurses_22 rfl ?_
        cases k49 : F30 ((nI k37)).toNatClampNeg with
        | none =>
          refine tw_aald (v := .null) 5 rfl rfl dX5_inPurses_24 f29 (vp_in_nI (by omega) (by decide)) (by rw [k49]; rfl) ?_
          refine tw_astoreN [(6, .null), (0, .ref x), (1, .int (nI k)), (2, .int x36), (3, .ref ha_5), (4, .int (nI 6)), (5, .int (nI k37))] dX5_inPurses_25 (by decide) rfl ?_
          have hv9 := k49
          rw [nI_clamp (by omega)] at hv9
          have pn9 := pn32 k37 (by omega)
          have hk9 : g.2 7 ≤ k37 := pn9.mp hv9
          have mn9 : min (k37 + 1) (g.2 7) = min k37 (g.2 7) := by omega
          refine tw_aloadN 0 dX5_inPurses_27 rfl ?_
          refine tw_ifnullN 44 dX5_inPurses_29 (by decide) ?_
          obtain ⟨v51, ev51⟩ : ∃ y : Int32, y = (nI k37) + 1 := ⟨_, rfl⟩
          refine tw_iinc [(5, .int v51), (6, .null), (0, .ref x), (1, .int (nI k)), (2, .int x36), (3, .ref ha_5), (4, .int (nI 6))] 6 dX5_inPurses_44 rfl (by rw [ev51]; rfl) (by decide) rfl ?_
          refine tw_goto 14 dX5_inPurses_47 (by decide) ?_
          have qv51 := tw_nI3 ev51
          rw [qv51]
          refine tw_lv [2, 3, 4, 5, 6, 0] rfl ?_
          exact ih39 (k37 + 1) x36 (by rw [mn9]; exact li44) (by omega) (by omega)
        | some q50 =>
          have k52 := k31 _ _ k49
          refine tw_aald (v := .ref q50) 5 rfl rfl dX5_inPurses_24 f29 (vp_in_nI (by omega) (by decide)) (by rw [k49]; rfl) ?_
          refine tw_astore [(6, .ref q50), (0, .ref x), (1, .int (nI k)), (2, .int x36), (3, .ref ha_5), (4, .int (nI 6)), (5, .int (nI k37))] dX5_inPurses_25 (by decide) rfl ?_
          have hv9 := k49
          rw [nI_clamp (by omega)] at hv9
          have pn9 := pn32 k37 (by omega)
          have hk9 : k37 < g.2 7 := by rcases Nat.lt_or_ge k37 (g.2 7) with z | z; exact z; rw [pn9.mpr z] at hv9; cases hv9
          have bq9 : g.2 (4096 + q50) = 768 + 32 * k37 := pf35 _ _ hv9
          have m09 : min k37 (g.2 7) = k37 := by omega
          have m19 : min (k37 + 1) (g.2 7) = k37 + 1 := by omega
          have hl9 := li44
          rw [m09] at hl9
          refine tw_aload 0 dX5_inPurses_27 rfl ?_
          refine tw_ifnull dX5_inPurses_29 ?_
          refine tw_iload_n 3 dX5_inPurses_32 rfl rfl ?_
          refine tw_aload 0 dX5_inPurses_33 rfl ?_
          obtain ⟨e53, f54, n_55, ar_56, p_57, pl_58, go_59, rfl, k60, k61, k62, k63⟩ := sp0.1 q50 3 k52 (by decide)
          obtain ⟨j64, ow65, fn9, fa9, pc66, pc67, lp68⟩ := k63
          obtain rfl : k37 = j64 := by have z := ow65.b bq9; omega
          subst fn9 fa9
          refine tw_getN (v := .ref p_57) rfl in_6 1 dX5_inPurses_35 w_639 rfl (by decide) f54 rfl ?_
          refine tw_iload_n 2 dX5_inPurses_38 rfl rfl ?_
          obtain ⟨e72, f73, a_74, b_75, rfl, k76⟩ := sp0.1 p_57 1 k60 (by decide)
          obtain ⟨b77, ow78, fa9, fb9⟩ := k76
          obtain rfl : (768 + 32 * k37 + 8) = b77 := (ow78.b lp68).symm
          subst fa9 fb9
          refine tw_bi (tw_callVN (M := mX5_inPurses) (pc := 39) okX3_of dX5_inPurses_39 w_189 rfl f73 [.int (nI k)] [.int x36] rfl rfl ⟨by decide, by decide⟩ (Nat.le_of_ble_eq_true rfl) (c4_X3_of d g τ h sp0.1 p_57 k60 (768 + 32 * k37 + 8) lp68 k (by omega)) 0 0 (Nat.le_of_ble_eq_true rfl) (Nat.le_of_ble_eq_true rfl)) (fun r71 h70 q69 => ?_) (fun E h1 q => q.elim)
          obtain ⟨q69e, q69v⟩ := q69
          rw [q69e]
          refine tw_iadd dX5_inPurses_42 ?_
          refine tw_nmi (fun v79 ev79 => ?_)
          refine tw_istore_n [(2, .int v79), (6, .ref q50), (0, .ref x), (1, .int (nI k)), (3, .ref ha_5), (4, .int (nI 6)), (5, .int (nI k37))] dX5_inPurses_43 rfl (by decide) rfl ?_
          obtain ⟨v80, ev80⟩ : ∃ y : Int32, y = (nI k37) + 1 := ⟨_, rfl⟩
          refine tw_iinc [(5, .int v80), (2, .int v79), (6, .ref q50), (0, .ref x), (1, .int (nI k)), (3, .ref ha_5), (4, .int (nI 6))] 6 dX5_inPurses_44 rfl (by rw [ev80]; rfl) (by decide) rfl ?_
          refine tw_goto 14 dX5_inPurses_47 (by decide) ?_
          have qv80 := tw_nI3 ev80
          rw [qv80]
          refine tw_lv [3, 4, 1, 5, 6, 0] rfl ?_
          exact ih39 (k37 + 1) v79 (by rw [m19]; show v79 = tw_isum (fun j => g.1 (768 + 32 * j + 8 + k)) k37 + (g.1 (768 + 32 * k37 + 8 + k) : Int32); rw [ev79, q69v, hl9]) (by omega) (by omega)
  refine tw_lv [4, 5, 3, 2, 1, 0] rfl ?_
  exact L40 (6 + 1) 0 0 (by rw [Nat.zero_min]; rfl) (by omega) (by omega)

def tw_wC (g : tw_G) (k : Nat) : Nat → Int32
  | 0 => tw_isum (fun j => g.1 (160 + 64 * j + 24 + k)) (g.2 6)
  | 1 => tw_isum (fun j => g.1 (768 + 32 * j + 8 + k)) (g.2 7)
  | w + 2 => g.1 (1312 + 8 * w + k)
def tw_RW (m wh : Int32) : Prop := tw_RM m ∧ 0 ≤ wh ∧ wh ≤ 5
set_option maxHeartbeats 4000000 in
set_option maxRecDepth 100000 in
theorem c2_X5_market (d : tw_D) (g : tw_G) (τ : tw_K) (h : tw_H) (hw : tw_wt d g τ h) (x : Nat) (kx : τ x = 11) (m : Int32) : tw_Ct d mX5_market 20 120 [.ref x, .int m] h (tw_qi (fun r9 h1 => r9 = g.1 0 ∧ (100 ≤ m ∧ m ≤ 200) ∧ ∃ τ1, tw_sp d τ h (tw_g1 g 0 m) τ1 h1) (fun E h1 => (E = tw_IAE ∧ ¬ (100 ≤ m ∧ m ≤ 200)) ∧ ∃ τ1, tw_sp d τ h g τ1 h1)) := by
  refine tw_of (by decide +kernel) (Nat.le_of_ble_eq_true rfl) ?_
  show tw_W d mX5_market _ 0 [(0, .ref x), (1, .int m)] [] h 20 120
  have sp0 := tw_sp.rf hw
  refine tw_iload_n 1 dX5_market_0 rfl rfl ?_
  refine tw_bipush (v := 100) dX5_market_1 (by decide) ?_
  refine tw_sipush (v := 200) dX5_market_3 (by decide) ?_
  refine tw_bv (tw_callS (M := mX5_market) (pc := 6) okX5_needRange dX5_market_6 w_399 [.int m, .int 100, .int 200] [] rfl rfl ⟨by decide, by decide⟩ (Nat.le_of_ble_eq_true rfl) (c2_X5_needRange d g τ h sp0.1 m 100 200) 19 114 (Nat.le_of_ble_eq_true rfl) (Nat.le_of_ble_eq_true rfl)) (fun h2 q => ?_) (fun E h2 q => Or.inr ⟨E, rfl, ⟨q.1, q.2.2⟩, τ, by rw [q.2.1]; exact sp0⟩)
  obtain ⟨qe, ql⟩ := q
  rw [qe]
  refine tw_aload_n 0 dX5_market_9 rfl rfl ?_
  obtain ⟨e1, f2, td_3, ca_4, ha_5, da_6, c1_7, c2_8, c3_9, c4_10, rfl, k11, k12, k13, k14, k15, k16, k17, k18, k19, k20, k21, k22, k23, k24, k25, k26, k27⟩ := sp0.1 x 11 kx (by decide)
  refine tw_get (v := .int (g.1 0)) rfl in_9 1 dX5_market_10 w_141 rfl (by decide) f2 rfl ?_
  refine tw_istore_n [(2, .int (g.1 0)), (0, .ref x), (1, .int m)] dX5_market_13 rfl (by decide) rfl ?_
  refine tw_aload_n 1 dX5_market_14 rfl rfl ?_
  refine tw_iload_n 2 dX5_market_15 rfl rfl ?_
  obtain ⟨g5, eg5⟩ : ∃ z : tw_G, z = tw_g1 g 0 m := ⟨_, rfl⟩
  have qm : m = g5.1 0 := by rw [eg5]; rfl
  refine tw_put rfl in_9 tyX5 tyX5_ok nmX5 1 dX5_market_16 w_141 rfl (by decide) f2 rfl rfl rfl rfl (Nat.le_of_ble_eq_true rfl) [.int td_3, .int m, .ref ca_4, .int (nI (g.2 0)), .ref ha_5, .int (nI (g.2 1)), .ref da_6, .int (nI (g.2 2)), .ref c1_7, .ref c2_8, .ref c3_9, .ref c4_10] rfl ?_
  obtain ⟨h28, eh28⟩ : ∃ z : tw_H, z = tw_up h x (.inr (9, [.int td_3, .int m, .ref ca_4, .int (nI (g.2 0)), .ref ha_5, .int (nI (g.2 1)), .ref da_6, .int (nI (g.2 2)), .ref c1_7, .ref c2_8, .ref c3_9, .ref c4_10])) := ⟨_, rfl⟩
  rw [← eh28]
  have sp29 : tw_sp d τ h g5 τ h28 := by rw [eh28]; exact sp0.g11 kx ⟨td_3, ca_4, ha_5, da_6, c1_7, c2_8, c3_9, c4_10, (by rw [eg5]; rfl), k11, k12, k13, k14, k15, k16, k17, (by rw [eg5]; exact k18), (by rw [eg5]; exact k19), (by rw [eg5]; exact k20), (by rw [eg5]; exact k21), (by rw [eg5]; exact k22), (by rw [eg5]; exact k23), (by rw [eg5]; exact k24), (by rw [eg5]; exact k25), (by rw [eg5]; exact k26), (by rw [eg5]; exact k27)⟩ (by rw [eg5]; intro i hi; exact if_neg hi) (by rw [eg5]; intro i hi hj; rfl)
  refine tw_iload_n 0 dX5_market_19 rfl rfl ?_
  exact tw_iret dX5_market_20 rfl (Or.inl ⟨_, rfl, rfl, ql, _, by rw [← eg5]; exact sp29⟩)

def tw_lw (T k D L : Nat) : Nat := if k = 1 ∧ T < D ∧ D % 30 = 0 then L - L / 10000 else L
/-- fuel, day, what is left -/
def tw_ld (T k n : Nat) : Nat → Nat → Nat → Int32
  | 0, _, _ => -1
  | f + 1, D, L => if tw_lw T k D L < n then nI D else tw_ld T k n f (D + 1) (tw_lw T k D L - n)
def tw_CV (g : tw_G) : Prop := ∀ j, j < g.2 6 → ∀ k, k < 2 → g.1 (160 + 64 * j + 24 + k) = nI (tw_DN (g.1 (160 + 64 * j + 24 + k))) ∧ tw_DN (g.1 (160 + 64 * j + 24 + k)) ≤ 59000000
theorem tw_L_ad (a b : Nat) : tw_L a + tw_L b = tw_L (a + b) := (Int64.ofNat_add a b).symm
/-- grams' worth -/
def tw_wo (G Sv M : Int32) : Int32 := nI (tw_DN Sv + tw_DN G * tw_DN M / 10)
def tw_hC (g : tw_G) (a : Nat) : Nat → Int32
  | 0 => g.1 (768 + 32 * a + 1)
  | 1 => g.1 (768 + 32 * a + 2)
  | 2 => g.1 (768 + 32 * a + 0)
  | 3 => g.1 (768 + 32 * a + 8 + 0)
  | 4 => g.1 (768 + 32 * a + 8 + 1)
  | 5 => tw_wo (g.1 (768 + 32 * a + 8 + 0)) (g.1 (768 + 32 * a + 8 + 1)) (g.1 0)
  | 6 => tw_isum (fun j => if g.1 (1152 + 8 * j + 2) = 0 ∧ g.1 (1152 + 8 * j + 3) = nI a then 1 else 0) (g.2 8)
  | _ + 7 => tw_isum (fun j => if g.1 (1152 + 8 * j + 2) = 0 ∧ g.1 (1152 + 8 * j + 4) = nI a then 1 else 0) (g.2 8)
/-- the class's purses and vaults are numbers, the market too -/
def tw_CW (g : tw_G) : Prop := tw_CV g ∧ (∀ j, j < g.2 7 → ∀ k, k < 2 → g.1 (768 + 32 * j + 8 + k) = nI (tw_DN (g.1 (768 + 32 * j + 8 + k))) ∧ tw_DN (g.1 (768 + 32 * j + 8 + k)) ≤ 59000000) ∧ g.1 0 = nI (tw_DN (g.1 0)) ∧ tw_DN (g.1 0) ≤ 200
def tw_ck (G Du M : Nat) : Int32 := if G * M / 10 < Du then 0 else 1
def tw_dC (g : tw_G) (a : Nat) : Nat → Int32
  | 0 => g.1 (1152 + 8 * a + 3)
  | 1 => g.1 (1152 + 8 * a + 4)
  | 2 => g.1 (1152 + 8 * a + 0)
  | 3 => g.1 (1152 + 8 * a + 1)
  | 4 => if g.1 (1152 + 8 * a + 2) = 0 then nI (tw_sd g a) else 0
  | 5 => if g.1 (1152 + 8 * a + 2) = 0 then 0 else 1
  | _ + 6 => if g.1 (1152 + 8 * a + 2) = 0 ∧ g.1 (768 + 32 * tw_dF g a + 1) ≠ -1 then tw_ck (tw_sg g a 0) (tw_sd g a) (tw_DN (g.1 0)) else -1
def tw_CX (g : tw_G) : Prop := tw_CH g ∧ g.1 0 = nI (tw_DN (g.1 0)) ∧ tw_DN (g.1 0) ≤ 200
def tw_oS (go so : Int32) : Int32 := (if go = 0 then 0 else 1) + (if so = 0 then 0 else 2)
def tw_pn (f : Nat → Int32) : Int32 := 20 * f 0 + 10 * f 1 + 5 * f 2 + 2 * f 3 + f 4
def tw_oC (g : tw_G) (a : Nat) : Nat → Int32
  | 0 => g.1 (160 + 64 * a)
  | 1 => g.1 (160 + 64 * a + 1)
  | 2 => g.1 (160 + 64 * a + 24 + 0)
  | 3 => g.1 (160 + 64 * a + 24 + 1)
  | 4 => tw_oS (g.1 (160 + 64 * a + 2)) (g.1 (160 + 64 * a + 3))
  | 5 => tw_isum (fun j => if g.1 (768 + 32 * j + 1) = nI a then 1 else 0) (g.2 7)
  | 6 => tw_wo (g.1 (160 + 64 * a + 24 + 0)) (g.1 (160 + 64 * a + 24 + 1)) (g.1 0)
  | 7 => tw_pn (fun k => g.1 (160 + 64 * a + 32 + k))
  | _ + 8 => tw_isum (fun j => if g.1 (160 + 64 * j) = g.1 (160 + 64 * a) then 1 else 0) (g.2 6)
def tw_SO (g : tw_G) : Prop := (∀ k, k < 2 → tw_wC g k 0 + tw_wC g k 1 + tw_wC g k 2 + tw_wC g k 3 + tw_wC g k 4 = tw_wC g k 5) ∧ (∀ j, j < g.2 6 → (0 ≤ g.1 (160 + 64 * j + 24 + 0) ∧ 0 ≤ g.1 (160 + 64 * j + 24 + 1)) ∧ ∀ k, k < 5 → 0 ≤ g.1 (160 + 64 * j + 32 + k)) ∧ (∀ j, j < g.2 7 → (0 ≤ g.1 (768 + 32 * j + 8 + 0) ∧ 0 ≤ g.1 (768 + 32 * j + 8 + 1)) ∧ (g.1 (768 + 32 * j + 2) ≠ -1 → nI (g.2 21) < g.1 (768 + 32 * j + 0))) ∧ ∀ a b, a < g.2 6 → b < g.2 6 → g.1 (160 + 64 * a + 8 + b) = g.1 (160 + 64 * b + 8 + a) ∧ g.1 (160 + 64 * a + 16 + b) = g.1 (160 + 64 * b + 16 + a)
set_option maxHeartbeats 4000000 in
set_option maxRecDepth 100000 in
theorem c4_X3_isBelowZero (d : tw_D) (g : tw_G) (τ : tw_K) (h : tw_H) (hw : tw_wt d g τ h)  (x : Nat) (kx : τ x = 1) (b : Nat) (hb : g.2 (4096 + x) = b) (h0 : 0 ≤ g.1 (b + 0)) (h19 : 0 ≤ g.1 (b + 1)) : tw_Ct d mX3_isBelowZero 0 0 [.ref x] h (tw_qi (fun r h1 => h1 = h ∧ r = 0) tw_nx) := by
  refine tw_of (by decide +kernel) (Nat.le_of_ble_eq_true rfl) ?_
  show tw_W d mX3_isBelowZero _ 0 [(0, .ref x)] [] h 0 0
  have sp0 := tw_sp.rf hw
  refine tw_aload_n 0 dX3_isBelowZero_0 rfl rfl ?_
  obtain ⟨e1, f2, a_3, b_4, rfl, k5⟩ := sp0.1 x 1 kx (by decide)
  obtain ⟨b6, ow7, fa9, fb9⟩ := k5
  obtain rfl : b = b6 := (ow7.b hb).symm
  subst fa9 fb9
  refine tw_get (v := .int (g.1 (b + 0))) rfl in_7 0 dX3_isBelowZero_1 w_131 rfl (by decide) f2 rfl ?_
  refine tw_if_lt 14 dX3_isBelowZero_4 (by decide) (fun c8 => absurd c8 ((Int32.not_lt.mpr h0))) (fun _ => ?_)
  refine tw_aload_n 0 dX3_isBelowZero_7 rfl rfl ?_
  refine tw_get (v := .int (g.1 (b + 1))) rfl in_7 1 dX3_isBelowZero_8 w_133 rfl (by decide) f2 rfl ?_
  refine tw_if_ge 18 dX3_isBelowZero_11 (by decide) (fun _ => ?_) (fun c9 => absurd (h19) c9)
  refine tw_iconst (v := 0) dX3_isBelowZero_18 (by decide) ?_
  exact tw_zret dX3_isBelowZero_19 rfl rfl (Or.inl ⟨_, rfl, rfl, rfl⟩)

set_option maxHeartbeats 4000000 in
set_option maxRecDepth 100000 in
theorem c4_X4_isBelowZero (d : tw_D) (g : tw_G) (τ : tw_K) (h : tw_H) (hw : tw_wt d g τ h) (x : Nat) (kx : τ x = 5) (j : Nat) (hj : j < 4) (hb : g.2 (4096 + x) = 160 + 64 * j + 32) (ht9 : ∀ k, k < 5 → 0 ≤ g.1 (160 + 64 * j + 32 + k)) : tw_Ct d mX4_isBelowZero 0 0 [.ref x] h (tw_qi (fun r h1 => h1 = h ∧ r = 0) tw_nx) := by
  refine tw_of (by decide +kernel) (Nat.le_of_ble_eq_true rfl) ?_
  show tw_W d mX4_isBelowZero _ 0 [(0, .ref x)] [] h 0 0
  have sp0 := tw_sp.rf hw
  refine tw_aload_n 0 dX4_isBelowZero_0 rfl rfl ?_
  obtain ⟨e1, f2, m_3, rfl, k4, k5⟩ := sp0.1 x 5 kx (by decide)
  refine tw_get (v := .ref m_3) rfl in_8 0 dX4_isBelowZero_1 w_496 rfl (by decide) f2 rfl ?_
  refine tw_astore_n [(1, .ref m_3), (0, .ref x)] dX4_isBelowZero_4 rfl (by decide) rfl ?_
  refine tw_aload_n 0 dX4_isBelowZero_5 rfl rfl ?_
  obtain ⟨e6, f7, F8, rfl, ⟨b10, ow11, wv12⟩⟩ := sp0.1 m_3 7 k4 (by decide)
  obtain rfl : b10 = (160 + 64 * j + 32) := ow11.b (k5.trans hb)
  refine tw_alen (v := nI 5) 0 rfl dX4_isBelowZero_6 f7 rfl ?_
  refine tw_istore_n [(2, .int (nI 5)), (1, .ref m_3), (0, .ref x)] dX4_isBelowZero_7 rfl (by decide) rfl ?_
  refine tw_iconst (v := 0) dX4_isBelowZero_8 (by decide) ?_
  refine tw_istore_n [(3, .int 0), (2, .int (nI 5)), (1, .ref m_3), (0, .ref x)] dX4_isBelowZero_9 rfl (by decide) rfl ?_
  have L16 : ∀ (r14 k13 : Nat), 5 + 1 ≤ k13 + r14 → k13 ≤ 5 → tw_W d mX4_isBelowZero (tw_qi (fun r h1 => h1 = h ∧ r = 0) tw_nx) 10 [(0, .ref x), (1, .ref m_3), (2, .int (nI 5)), (3, .int (nI k13))] [] h 0 0 := by
    intro r14
    induction r14 with
    | zero => intro k13  hk21 hk22; exact absurd hk21 (by omega)
    | succ r14 ih15 =>
      intro k13  hk21 hk22
      refine tw_iload_n 3 dX4_isBelowZero_10 rfl rfl ?_
      refine tw_iload_n 2 dX4_isBelowZero_11 rfl rfl ?_
      refine tw_icmp_ge 33 dX4_isBelowZero_12 (by decide) (fun c23 => ?_) (fun c23 => ?_)
      · refine tw_iconst (v := 0) dX4_isBelowZero_33 (by decide) ?_
        exact tw_zret dX4_isBelowZero_34 rfl rfl (Or.inl ⟨_, rfl, rfl, rfl⟩)
      · have kl24 := tw_klt (N := 5) c23 hk22 (by decide)
        refine tw_aload_n 1 dX4_isBelowZero_15 rfl rfl ?_
        refine tw_iload_n 3 dX4_isBelowZero_16 rfl rfl ?_
        have ev25 : F8 ((nI k13)).toNatClampNeg = (g.1 ((160 + 64 * j + 32) + k13)) := by rw [nI_clamp (by omega)]; exact wv12 k13 (by omega)
        refine tw_iald (v := (g.1 ((160 + 64 * j + 32) + k13))) dX4_isBelowZero_17 f7 (vp_in_nI (by omega) (by decide)) ev25 ?_
        refine tw_istore [(4, .int (g.1 ((160 + 64 * j + 32) + k13))), (0, .ref x), (1, .ref m_3), (2, .int (nI 5)), (3, .int (nI k13))] dX4_isBelowZero_18 (by decide) rfl ?_
        refine tw_iload 0 dX4_isBelowZero_20 rfl ?_
        refine tw_if_ge 27 dX4_isBelowZero_22 (by decide) (fun _ => ?_) (fun c26 => absurd ((ht9 k13 (by omega))) c26)
        obtain ⟨v27, ev27⟩ : ∃ y : Int32, y = (nI k13) + 1 := ⟨_, rfl⟩
        refine tw_iinc [(3, .int v27), (4, .int (g.1 ((160 + 64 * j + 32) + k13))), (0, .ref x), (1, .ref m_3), (2, .int (nI 5))] 4 dX4_isBelowZero_27 rfl (by rw [ev27]; rfl) (by decide) rfl ?_
        refine tw_goto 10 dX4_isBelowZero_30 (by decide) ?_
        have qv27 := tw_nI3 ev27
        rw [qv27]
        refine tw_lv [2, 3, 4, 0] rfl ?_
        exact ih15 (k13 + 1)  (by omega) (by omega)
  refine tw_lv [3, 2, 1, 0] rfl ?_
  exact L16 (5 + 1) 0  (by omega) (by omega)

set_option maxHeartbeats 4000000 in
set_option maxRecDepth 100000 in
theorem c4_X2_isLateOn (d : tw_D) (g : tw_G) (τ : tw_K) (h : tw_H) (hw : tw_wt d g τ h)  (x : Nat) (kx : τ x = 3) (j : Nat) (hj : j < 6) (hb : g.2 (4096 + x) = 768 + 32 * j) (T : Nat) (hl9 : g.1 (768 + 32 * j + 2) ≠ -1 → nI T < g.1 (768 + 32 * j + 0)) : tw_Ct d mX2_isLateOn 0 0 [.ref x, .int (nI T)] h (tw_qi (fun r h1 => h1 = h ∧ r = 0) tw_nx) := by
  refine tw_of (by decide +kernel) (Nat.le_of_ble_eq_true rfl) ?_
  show tw_W d mX2_isLateOn _ 0 [(0, .ref x), (1, .int (nI T))] [] h 0 0
  have sp0 := tw_sp.rf hw
  refine tw_aload_n 0 dX2_isLateOn_0 rfl rfl ?_
  obtain ⟨e1, f2, n_3, ar_4, p_5, pl_6, go_7, rfl, k8, k9, k10, k11⟩ := sp0.1 x 3 kx (by decide)
  obtain ⟨j12, ow13, fn9, fa9, pc14, pc15, lp16⟩ := k11
  obtain rfl : j = j12 := by have z := ow13.b hb; omega
  subst fn9 fa9
  cases go_7 with
  | none =>
    have pe18 := pc15.n
    refine tw_get (v := .null) rfl in_6 3 dX2_isLateOn_1 w_642 rfl (by decide) f2 rfl ?_
    refine tw_ifnullN 19 dX2_isLateOn_4 (by decide) ?_
    refine tw_iconst (v := 0) dX2_isLateOn_19 (by decide) ?_
    exact tw_zret dX2_isLateOn_20 rfl rfl (Or.inl ⟨_, rfl, rfl, rfl⟩)
  | some q17 =>
    obtain ⟨i19, hi20, ei21, bi22⟩ := pc15.s
    refine tw_get (v := .ref q17) rfl in_6 3 dX2_isLateOn_1 w_642 rfl (by decide) f2 rfl ?_
    refine tw_ifnull dX2_isLateOn_4 ?_
    refine tw_aload_n 0 dX2_isLateOn_7 rfl rfl ?_
    refine tw_get (v := .int (g.1 (768 + 32 * j + 0))) rfl in_6 4 dX2_isLateOn_8 w_644 rfl (by decide) f2 rfl ?_
    refine tw_iload_n 1 dX2_isLateOn_11 rfl rfl ?_
    refine tw_icmp_gt 19 dX2_isLateOn_12 (by decide) (fun _ => ?_) (fun c23 => absurd ((hl9 (by rw [ei21]; exact tw_nm1 (by omega)))) c23)
    refine tw_iconst (v := 0) dX2_isLateOn_19 (by decide) ?_
    exact tw_zret dX2_isLateOn_20 rfl rfl (Or.inl ⟨_, rfl, rfl, rfl⟩)

set_option maxHeartbeats 4000000 in
set_option maxRecDepth 100000 in
theorem c4_X5_isKept (d : tw_D) (g : tw_G) (τ : tw_K) (h : tw_H) (hw : tw_wt d g τ h)  (x : Nat) (kx : τ x = 11) (k : Nat) (hk : k < 2) (he : tw_SO g) : tw_Ct d mX5_isKept 0 0 [.ref x, .int (nI k)] h (tw_qi (fun r h1 => h1 = h ∧ r = 1) tw_nx) := by
  refine tw_of (by decide +kernel) (Nat.le_of_ble_eq_true rfl) ?_
  show tw_W d mX5_isKept _ 0 [(0, .ref x), (1, .int (nI k))] [] h 0 0
  have sp0 := tw_sp.rf hw
  have b9 := tw_b678 hw kx
  refine tw_aload_n 0 dX5_isKept_0 rfl rfl ?_
  refine tw_iload_n 1 dX5_isKept_1 rfl rfl ?_
  obtain ⟨e4, f5, td_6, ca_7, ha_8, da_9, c1_10, c2_11, c3_12, c4_13, rfl, k14, k15, k16, k17, k18, k19, k20, k21, k22, k23, k24, k25, k26, k27, k28, k29, k30⟩ := sp0.1 x 11 kx (by decide)
  refine tw_bi (tw_callV (M := mX5_isKept) (pc := 2) okX5_inVaults dX5_isKept_2 w_185 rfl f5 [.int (nI k)] [] rfl rfl ⟨by decide, by decide⟩ (Nat.le_of_ble_eq_true rfl) (c4_X5_inVaults d g τ h sp0.1 x kx k hk) 0 0 (Nat.le_of_ble_eq_true rfl) (Nat.le_of_ble_eq_true rfl)) (fun r3 h2 q1 => ?_) (fun E h1 q => q.elim)
  obtain ⟨q1e, q1v⟩ := q1
  rw [q1e]
  refine tw_aload_n 0 dX5_isKept_5 rfl rfl ?_
  refine tw_iload_n 1 dX5_isKept_6 rfl rfl ?_
  refine tw_bi (tw_callV (M := mX5_isKept) (pc := 7) okX5_inPurses dX5_isKept_7 w_193 rfl f5 [.int (nI k)] [.int r3] rfl rfl ⟨by decide, by decide⟩ (Nat.le_of_ble_eq_true rfl) (c4_X5_inPurses d g τ h sp0.1 x kx k hk) 0 0 (Nat.le_of_ble_eq_true rfl) (Nat.le_of_ble_eq_true rfl)) (fun r33 h32 q31 => ?_) (fun E h1 q => q.elim)
  obtain ⟨q31e, q31v⟩ := q31
  rw [q31e]
  refine tw_iadd dX5_isKept_10 ?_
  refine tw_nmi (fun v34 ev34 => ?_)
  refine tw_aload_n 0 dX5_isKept_11 rfl rfl ?_
  refine tw_get (v := .ref c1_10) rfl in_9 8 dX5_isKept_12 w_148 rfl (by decide) f5 rfl ?_
  refine tw_iload_n 1 dX5_isKept_15 rfl rfl ?_
  obtain ⟨e38, f39, a_40, b_41, rfl, k42⟩ := sp0.1 c1_10 1 k17 (by decide)
  obtain ⟨b43, ow44, fa9, fb9⟩ := k42
  obtain rfl : 1312 = b43 := (ow44.b k27).symm
  subst fa9 fb9
  refine tw_bi (tw_callVN (M := mX5_isKept) (pc := 16) okX3_of dX5_isKept_16 w_189 rfl f39 [.int (nI k)] [.int v34] rfl rfl ⟨by decide, by decide⟩ (Nat.le_of_ble_eq_true rfl) (c4_X3_of d g τ h sp0.1 c1_10 k17 1312 k27 k (by omega)) 0 0 (Nat.le_of_ble_eq_true rfl) (Nat.le_of_ble_eq_true rfl)) (fun r37 h36 q35 => ?_) (fun E h1 q => q.elim)
  obtain ⟨q35e, q35v⟩ := q35
  rw [q35e]
  refine tw_iadd dX5_isKept_19 ?_
  refine tw_nmi (fun v45 ev45 => ?_)
  refine tw_aload_n 0 dX5_isKept_20 rfl rfl ?_
  refine tw_get (v := .ref c2_11) rfl in_9 9 dX5_isKept_21 w_149 rfl (by decide) f5 rfl ?_
  refine tw_iload_n 1 dX5_isKept_24 rfl rfl ?_
  obtain ⟨e49, f50, a_51, b_52, rfl, k53⟩ := sp0.1 c2_11 1 k18 (by decide)
  obtain ⟨b54, ow55, fa9, fb9⟩ := k53
  obtain rfl : 1320 = b54 := (ow55.b k28).symm
  subst fa9 fb9
  refine tw_bi (tw_callVN (M := mX5_isKept) (pc := 25) okX3_of dX5_isKept_25 w_189 rfl f50 [.int (nI k)] [.int v45] rfl rfl ⟨by decide, by decide⟩ (Nat.le_of_ble_eq_true rfl) (c4_X3_of d g τ h sp0.1 c2_11 k18 1320 k28 k (by omega)) 0 0 (Nat.le_of_ble_eq_true rfl) (Nat.le_of_ble_eq_true rfl)) (fun r48 h47 q46 => ?_) (fun E h1 q => q.elim)
  obtain ⟨q46e, q46v⟩ := q46
  rw [q46e]
  refine tw_iadd dX5_isKept_28 ?_
  refine tw_nmi (fun v56 ev56 => ?_)
  refine tw_aload_n 0 dX5_isKept_29 rfl rfl ?_
  refine tw_get (v := .ref c3_12) rfl in_9 10 dX5_isKept_30 w_150 rfl (by decide) f5 rfl ?_
  refine tw_iload_n 1 dX5_isKept_33 rfl rfl ?_
  obtain ⟨e60, f61, a_62, b_63, rfl, k64⟩ := sp0.1 c3_12 1 k19 (by decide)
  obtain ⟨b65, ow66, fa9, fb9⟩ := k64
  obtain rfl : 1328 = b65 := (ow66.b k29).symm
  subst fa9 fb9
  refine tw_bi (tw_callVN (M := mX5_isKept) (pc := 34) okX3_of dX5_isKept_34 w_189 rfl f61 [.int (nI k)] [.int v56] rfl rfl ⟨by decide, by decide⟩ (Nat.le_of_ble_eq_true rfl) (c4_X3_of d g τ h sp0.1 c3_12 k19 1328 k29 k (by omega)) 0 0 (Nat.le_of_ble_eq_true rfl) (Nat.le_of_ble_eq_true rfl)) (fun r59 h58 q57 => ?_) (fun E h1 q => q.elim)
  obtain ⟨q57e, q57v⟩ := q57
  rw [q57e]
  refine tw_iadd dX5_isKept_37 ?_
  refine tw_nmi (fun v67 ev67 => ?_)
  refine tw_istore_n [(2, .int v67), (0, .ref x), (1, .int (nI k))] dX5_isKept_38 rfl (by decide) rfl ?_
  refine tw_iload_n 0 dX5_isKept_39 rfl rfl ?_
  refine tw_aload_n 1 dX5_isKept_40 rfl rfl ?_
  refine tw_get (v := .ref c4_13) rfl in_9 11 dX5_isKept_41 w_151 rfl (by decide) f5 rfl ?_
  refine tw_iload_n 2 dX5_isKept_44 rfl rfl ?_
  obtain ⟨e71, f72, a_73, b_74, rfl, k75⟩ := sp0.1 c4_13 1 k20 (by decide)
  obtain ⟨b76, ow77, fa9, fb9⟩ := k75
  obtain rfl : 1336 = b76 := (ow77.b k30).symm
  subst fa9 fb9
  refine tw_bi (tw_callVN (M := mX5_isKept) (pc := 45) okX3_of dX5_isKept_45 w_189 rfl f72 [.int (nI k)] [.int v67] rfl rfl ⟨by decide, by decide⟩ (Nat.le_of_ble_eq_true rfl) (c4_X3_of d g τ h sp0.1 c4_13 k20 1336 k30 k (by omega)) 0 0 (Nat.le_of_ble_eq_true rfl) (Nat.le_of_ble_eq_true rfl)) (fun r70 h69 q68 => ?_) (fun E h1 q => q.elim)
  obtain ⟨q68e, q68v⟩ := q68
  rw [q68e]
  refine tw_icmp_ne 55 dX5_isKept_48 (by decide) (fun c78 => absurd ((by rw [ev67, ev56, ev45, ev34, q1v, q31v, q35v, q46v, q57v, q68v]; exact he.1 k hk)) c78) (fun _ => ?_)
  refine tw_iconst (v := 1) dX5_isKept_51 (by decide) ?_
  refine tw_goto 56 dX5_isKept_52 (by decide) ?_
  exact tw_zret dX5_isKept_56 rfl rfl (Or.inl ⟨_, rfl, rfl, rfl⟩)

set_option maxHeartbeats 4000000 in
set_option maxRecDepth 100000 in
theorem c4_X5_areCountriesSound (d : tw_D) (g : tw_G) (τ : tw_K) (h : tw_H) (hw : tw_wt d g τ h)  (x : Nat) (kx : τ x = 11) (he : tw_SO g) : tw_Ct d mX5_areCountriesSound 0 0 [.ref x] h (tw_qi (fun r h1 => h1 = h ∧ r = 1) tw_nx) := by
  refine tw_of (by decide +kernel) (Nat.le_of_ble_eq_true rfl) ?_
  show tw_W d mX5_areCountriesSound _ 0 [(0, .ref x)] [] h 0 0
  have sp0 := tw_sp.rf hw
  have b9 := tw_b678 hw kx
  refine tw_aload_n 0 dX5_areCountriesSound_0 rfl rfl ?_
  obtain ⟨e1, f2, td_3, ca_4, ha_5, da_6, c1_7, c2_8, c3_9, c4_10, rfl, k11, k12, k13, k14, k15, k16, k17, k18, k19, k20, k21, k22, k23, k24, k25, k26, k27⟩ := sp0.1 x 11 kx (by decide)
  refine tw_get (v := .ref ca_4) rfl in_9 2 dX5_areCountriesSound_1 w_142 rfl (by decide) f2 rfl ?_
  refine tw_astore_n [(1, .ref ca_4), (0, .ref x)] dX5_areCountriesSound_4 rfl (by decide) rfl ?_
  refine tw_aload_n 0 dX5_areCountriesSound_5 rfl rfl ?_
  obtain ⟨e28, f29, F30, rfl, k31, pn32, pb33, px34, pf35⟩ := sp0.1 ca_4 8 k11 (by decide)
  refine tw_alen (v := nI 4) 4 rfl dX5_areCountriesSound_6 f29 rfl ?_
  refine tw_istore_n [(2, .int (nI 4)), (1, .ref ca_4), (0, .ref x)] dX5_areCountriesSound_7 rfl (by decide) rfl ?_
  refine tw_iconst (v := 0) dX5_areCountriesSound_8 (by decide) ?_
  refine tw_istore_n [(3, .int 0), (2, .int (nI 4)), (1, .ref ca_4), (0, .ref x)] dX5_areCountriesSound_9 rfl (by decide) rfl ?_
  have L39 : ∀ (r37 k36 : Nat), 4 + 1 ≤ k36 + r37 → k36 ≤ 4 → tw_W d mX5_areCountriesSound (tw_qi (fun r h1 => h1 = h ∧ r = 1) tw_nx) 10 [(0, .ref x), (1, .ref ca_4), (2, .int (nI 4)), (3, .int (nI k36))] [] h 0 0 := by
    intro r37
    induction r37 with
    | zero => intro k36  hk44 hk45; exact absurd hk44 (by omega)
    | succ r37 ih38 =>
      intro k36  hk44 hk45
      refine tw_iload_n 3 dX5_areCountriesSound_10 rfl rfl ?_
      refine tw_iload_n 2 dX5_areCountriesSound_11 rfl rfl ?_
      refine tw_icmp_ge 55 dX5_areCountriesSound_12 (by decide) (fun c46 => ?_) (fun c46 => ?_)
      · refine tw_iconst (v := 1) dX5_areCountriesSound_55 (by decide) ?_
        exact tw_zret dX5_areCountriesSound_56 rfl rfl (Or.inl ⟨_, rfl, rfl, rfl⟩)
      · have kl47 := tw_klt (N := 4) c46 hk45 (by decide)
        refine tw_aload_n 1 dX5_areCountriesSound_15 rfl rfl ?_
        refine tw_iload_n 3 dX5_areCountriesSound_16 rfl rfl ?_
        cases k48 : F30 ((nI k36)).toNatClampNeg with
        | none =>
          refine tw_aald (v := .null) 4 rfl rfl dX5_areCountriesSound_17 f29 (vp_in_nI (by omega) (by decide)) (by rw [k48]; rfl) ?_
          refine tw_astoreN [(4, .null), (0, .ref x), (1, .ref ca_4), (2, .int (nI 4)), (3, .int (nI k36))] dX5_areCountriesSound_18 (by decide) rfl ?_
          refine tw_aloadN 0 dX5_areCountriesSound_20 rfl ?_
          refine tw_ifnullN 49 dX5_areCountriesSound_22 (by decide) ?_
          obtain ⟨v50, ev50⟩ : ∃ y : Int32, y = (nI k36) + 1 := ⟨_, rfl⟩
          refine tw_iinc [(3, .int v50), (4, .null), (0, .ref x), (1, .ref ca_4), (2, .int (nI 4))] 4 dX5_areCountriesSound_49 rfl (by rw [ev50]; rfl) (by decide) rfl ?_
          refine tw_goto 10 dX5_areCountriesSound_52 (by decide) ?_
          have qv50 := tw_nI3 ev50
          rw [qv50]
          refine tw_lv [2, 3, 4, 0] rfl ?_
          exact ih38 (k36 + 1)  (by omega) (by omega)
        | some q49 =>
          have k51 := k31 _ _ k48
          refine tw_aald (v := .ref q49) 4 rfl rfl dX5_areCountriesSound_17 f29 (vp_in_nI (by omega) (by decide)) (by rw [k48]; rfl) ?_
          refine tw_astore [(4, .ref q49), (0, .ref x), (1, .ref ca_4), (2, .int (nI 4)), (3, .int (nI k36))] dX5_areCountriesSound_18 (by decide) rfl ?_
          have hv52 := k48
          rw [nI_clamp (by omega)] at hv52
          have pn53 := pn32 k36 (by omega)
          have hk9 : k36 < g.2 6 := by rcases Nat.lt_or_ge k36 (g.2 6) with z | z; exact z; rw [pn53.mpr z] at hv52; cases hv52
          have bq9 : g.2 (4096 + q49) = 160 + 64 * k36 := pf35 _ _ hv52
          refine tw_aload 0 dX5_areCountriesSound_20 rfl ?_
          refine tw_ifnull dX5_areCountriesSound_22 ?_
          refine tw_aload 0 dX5_areCountriesSound_25 rfl ?_
          obtain ⟨e54, f55, n_56, r_57, c_58, go_59, so_60, v_61, rd_62, rf_63, t_64, rfl, k65, k66, k67, k68, k69, k70, k71, k72, k73⟩ := sp0.1 q49 2 k51 (by decide)
          obtain ⟨j74, ow75, fn9, fr9, fc9, fg9, fs9, q76, q77, q78, q79⟩ := k73
          obtain rfl : k36 = j74 := by have z := ow75.b bq9; omega
          subst fn9 fr9 fc9 fg9 fs9
          refine tw_getN (v := .ref v_61) rfl in_4 3 dX5_areCountriesSound_27 w_508 rfl (by decide) f55 rfl ?_
          obtain ⟨e80, f81, a_82, b_83, rfl, k84⟩ := sp0.1 v_61 1 k65 (by decide)
          obtain ⟨b85, ow86, fa9, fb9⟩ := k84
          obtain rfl : (160 + 64 * k36 + 24) = b85 := (ow86.b q79).symm
          subst fa9 fb9
          refine tw_bi (tw_callVN (M := mX5_areCountriesSound) (pc := 30) okX3_isBelowZero dX5_areCountriesSound_30 w_201 rfl f81 [] [] rfl rfl ⟨by decide, by decide⟩ (Nat.le_of_ble_eq_true rfl) (c4_X3_isBelowZero d g τ h sp0.1 v_61 k65 (160 + 64 * k36 + 24) q79 (he.2.1 k36 hk9).1.1 (he.2.1 k36 hk9).1.2) 0 0 (Nat.le_of_ble_eq_true rfl) (Nat.le_of_ble_eq_true rfl)) (fun r89 h88 q87 => ?_) (fun E h1 q => q.elim)
          obtain ⟨q87e, q87v⟩ := q87
          rw [q87e, q87v]
          refine tw_if_ne 47 dX5_areCountriesSound_33 (by decide) (fun c90 => absurd (by decide) c90) (fun _ => ?_)
          refine tw_aload 0 dX5_areCountriesSound_36 rfl ?_
          refine tw_getN (v := .ref t_64) rfl in_4 8 dX5_areCountriesSound_38 w_514 rfl (by decide) f55 rfl ?_
          obtain ⟨e91, f92, m_93, rfl, k94, k95⟩ := sp0.1 t_64 5 k68 (by decide)
          refine tw_bi (tw_callVN (M := mX5_areCountriesSound) (pc := 41) okX4_isBelowZero dX5_areCountriesSound_41 w_205 rfl f92 [] [] rfl rfl ⟨by decide, by decide⟩ (Nat.le_of_ble_eq_true rfl) (c4_X4_isBelowZero d g τ h sp0.1 t_64 k68 k36 (by omega) q78 (he.2.1 k36 hk9).2) 0 0 (Nat.le_of_ble_eq_true rfl) (Nat.le_of_ble_eq_true rfl)) (fun r98 h97 q96 => ?_) (fun E h1 q => q.elim)
          obtain ⟨q96e, q96v⟩ := q96
          rw [q96e, q96v]
          refine tw_if_eq 49 dX5_areCountriesSound_44 (by decide) (fun _ => ?_) (fun c99 => absurd (by decide) c99)
          obtain ⟨v100, ev100⟩ : ∃ y : Int32, y = (nI k36) + 1 := ⟨_, rfl⟩
          refine tw_iinc [(3, .int v100), (4, .ref q49), (0, .ref x), (1, .ref ca_4), (2, .int (nI 4))] 4 dX5_areCountriesSound_49 rfl (by rw [ev100]; rfl) (by decide) rfl ?_
          refine tw_goto 10 dX5_areCountriesSound_52 (by decide) ?_
          have qv100 := tw_nI3 ev100
          rw [qv100]
          refine tw_lv [2, 3, 4, 0] rfl ?_
          exact ih38 (k36 + 1)  (by omega) (by omega)
  refine tw_lv [3, 2, 1, 0] rfl ?_
  exact L39 (4 + 1) 0  (by omega) (by omega)

set_option maxHeartbeats 4000000 in
set_option maxRecDepth 100000 in
theorem c4_X5_areHousesSound (d : tw_D) (g : tw_G) (τ : tw_K) (h : tw_H) (hw : tw_wt d g τ h)  (x : Nat) (kx : τ x = 11) (he : tw_SO g) : tw_Ct d mX5_areHousesSound 0 0 [.ref x] h (tw_qi (fun r h1 => h1 = h ∧ r = 1) tw_nx) := by
  refine tw_of (by decide +kernel) (Nat.le_of_ble_eq_true rfl) ?_
  show tw_W d mX5_areHousesSound _ 0 [(0, .ref x)] [] h 0 0
  have sp0 := tw_sp.rf hw
  have b9 := tw_b678 hw kx
  refine tw_aload_n 0 dX5_areHousesSound_0 rfl rfl ?_
  obtain ⟨e1, f2, td_3, ca_4, ha_5, da_6, c1_7, c2_8, c3_9, c4_10, rfl, k11, k12, k13, k14, k15, k16, k17, k18, k19, k20, k21, k22, k23, k24, k25, k26, k27⟩ := sp0.1 x 11 kx (by decide)
  refine tw_get (v := .ref ha_5) rfl in_9 4 dX5_areHousesSound_1 w_144 rfl (by decide) f2 rfl ?_
  refine tw_astore_n [(1, .ref ha_5), (0, .ref x)] dX5_areHousesSound_4 rfl (by decide) rfl ?_
  refine tw_aload_n 0 dX5_areHousesSound_5 rfl rfl ?_
  obtain ⟨e28, f29, F30, rfl, k31, pn32, pb33, px34, pf35⟩ := sp0.1 ha_5 9 k12 (by decide)
  refine tw_alen (v := nI 6) 5 rfl dX5_areHousesSound_6 f29 rfl ?_
  refine tw_istore_n [(2, .int (nI 6)), (1, .ref ha_5), (0, .ref x)] dX5_areHousesSound_7 rfl (by decide) rfl ?_
  refine tw_iconst (v := 0) dX5_areHousesSound_8 (by decide) ?_
  refine tw_istore_n [(3, .int 0), (2, .int (nI 6)), (1, .ref ha_5), (0, .ref x)] dX5_areHousesSound_9 rfl (by decide) rfl ?_
  have L39 : ∀ (r37 k36 : Nat), 6 + 1 ≤ k36 + r37 → k36 ≤ 6 → tw_W d mX5_areHousesSound (tw_qi (fun r h1 => h1 = h ∧ r = 1) tw_nx) 10 [(0, .ref x), (1, .ref ha_5), (2, .int (nI 6)), (3, .int (nI k36))] [] h 0 0 := by
    intro r37
    induction r37 with
    | zero => intro k36  hk44 hk45; exact absurd hk44 (by omega)
    | succ r37 ih38 =>
      intro k36  hk44 hk45
      refine tw_iload_n 3 dX5_areHousesSound_10 rfl rfl ?_
      refine tw_iload_n 2 dX5_areHousesSound_11 rfl rfl ?_
      refine tw_icmp_ge 56 dX5_areHousesSound_12 (by decide) (fun c46 => ?_) (fun c46 => ?_)
      · refine tw_iconst (v := 1) dX5_areHousesSound_56 (by decide) ?_
        exact tw_zret dX5_areHousesSound_57 rfl rfl (Or.inl ⟨_, rfl, rfl, rfl⟩)
      · have kl47 := tw_klt (N := 6) c46 hk45 (by decide)
        refine tw_aload_n 1 dX5_areHousesSound_15 rfl rfl ?_
        refine tw_iload_n 3 dX5_areHousesSound_16 rfl rfl ?_
        cases k48 : F30 ((nI k36)).toNatClampNeg with
        | none =>
          refine tw_aald (v := .null) 5 rfl rfl dX5_areHousesSound_17 f29 (vp_in_nI (by omega) (by decide)) (by rw [k48]; rfl) ?_
          refine tw_astoreN [(4, .null), (0, .ref x), (1, .ref ha_5), (2, .int (nI 6)), (3, .int (nI k36))] dX5_areHousesSound_18 (by decide) rfl ?_
          refine tw_aloadN 0 dX5_areHousesSound_20 rfl ?_
          refine tw_ifnullN 50 dX5_areHousesSound_22 (by decide) ?_
          obtain ⟨v50, ev50⟩ : ∃ y : Int32, y = (nI k36) + 1 := ⟨_, rfl⟩
          refine tw_iinc [(3, .int v50), (4, .null), (0, .ref x), (1, .ref ha_5), (2, .int (nI 6))] 4 dX5_areHousesSound_50 rfl (by rw [ev50]; rfl) (by decide) rfl ?_
          refine tw_goto 10 dX5_areHousesSound_53 (by decide) ?_
          have qv50 := tw_nI3 ev50
          rw [qv50]
          refine tw_lv [2, 3, 4, 0] rfl ?_
          exact ih38 (k36 + 1)  (by omega) (by omega)
        | some q49 =>
          have k51 := k31 _ _ k48
          refine tw_aald (v := .ref q49) 5 rfl rfl dX5_areHousesSound_17 f29 (vp_in_nI (by omega) (by decide)) (by rw [k48]; rfl) ?_
          refine tw_astore [(4, .ref q49), (0, .ref x), (1, .ref ha_5), (2, .int (nI 6)), (3, .int (nI k36))] dX5_areHousesSound_18 (by decide) rfl ?_
          have hv52 := k48
          rw [nI_clamp (by omega)] at hv52
          have pn53 := pn32 k36 (by omega)
          have hk9 : k36 < g.2 7 := by rcases Nat.lt_or_ge k36 (g.2 7) with z | z; exact z; rw [pn53.mpr z] at hv52; cases hv52
          have bq9 : g.2 (4096 + q49) = 768 + 32 * k36 := pf35 _ _ hv52
          refine tw_aload 0 dX5_areHousesSound_20 rfl ?_
          refine tw_ifnull dX5_areHousesSound_22 ?_
          refine tw_aload 0 dX5_areHousesSound_25 rfl ?_
          obtain ⟨e54, f55, n_56, ar_57, p_58, pl_59, go_60, rfl, k61, k62, k63, k64⟩ := sp0.1 q49 3 k51 (by decide)
          obtain ⟨j65, ow66, fn9, fa9, pc67, pc68, lp69⟩ := k64
          obtain rfl : k36 = j65 := by have z := ow66.b bq9; omega
          subst fn9 fa9
          refine tw_getN (v := .ref p_58) rfl in_6 1 dX5_areHousesSound_27 w_639 rfl (by decide) f55 rfl ?_
          obtain ⟨e70, f71, a_72, b_73, rfl, k74⟩ := sp0.1 p_58 1 k61 (by decide)
          obtain ⟨b75, ow76, fa9, fb9⟩ := k74
          obtain rfl : (768 + 32 * k36 + 8) = b75 := (ow76.b lp69).symm
          subst fa9 fb9
          refine tw_bi (tw_callVN (M := mX5_areHousesSound) (pc := 30) okX3_isBelowZero dX5_areHousesSound_30 w_201 rfl f71 [] [] rfl rfl ⟨by decide, by decide⟩ (Nat.le_of_ble_eq_true rfl) (c4_X3_isBelowZero d g τ h sp0.1 p_58 k61 (768 + 32 * k36 + 8) lp69 (he.2.2.1 k36 hk9).1.1 (he.2.2.1 k36 hk9).1.2) 0 0 (Nat.le_of_ble_eq_true rfl) (Nat.le_of_ble_eq_true rfl)) (fun r79 h78 q77 => ?_) (fun E h1 q => q.elim)
          obtain ⟨q77e, q77v⟩ := q77
          rw [q77e, q77v]
          refine tw_if_ne 48 dX5_areHousesSound_33 (by decide) (fun c80 => absurd (by decide) c80) (fun _ => ?_)
          refine tw_aload 0 dX5_areHousesSound_36 rfl ?_
          refine tw_aload_n 1 dX5_areHousesSound_38 rfl rfl ?_
          refine tw_get (v := .int td_3) rfl in_9 0 dX5_areHousesSound_39 w_140 rfl (by decide) f2 rfl ?_
          rw [k22]
          refine tw_bi (tw_callVN (M := mX5_areHousesSound) (pc := 42) okX2_isLateOn dX5_areHousesSound_42 w_214 rfl f55 [.int (nI (g.2 21))] [] rfl rfl ⟨by decide, by decide⟩ (Nat.le_of_ble_eq_true rfl) (c4_X2_isLateOn d g τ h sp0.1 q49 k51 k36 (by omega) bq9 (g.2 21) (he.2.2.1 k36 hk9).2) 0 0 (Nat.le_of_ble_eq_true rfl) (Nat.le_of_ble_eq_true rfl)) (fun r83 h82 q81 => ?_) (fun E h1 q => q.elim)
          obtain ⟨q81e, q81v⟩ := q81
          rw [q81e, q81v]
          refine tw_if_eq 50 dX5_areHousesSound_45 (by decide) (fun _ => ?_) (fun c84 => absurd (by decide) c84)
          obtain ⟨v85, ev85⟩ : ∃ y : Int32, y = (nI k36) + 1 := ⟨_, rfl⟩
          refine tw_iinc [(3, .int v85), (4, .ref q49), (0, .ref x), (1, .ref ha_5), (2, .int (nI 6))] 4 dX5_areHousesSound_50 rfl (by rw [ev85]; rfl) (by decide) rfl ?_
          refine tw_goto 10 dX5_areHousesSound_53 (by decide) ?_
          have qv85 := tw_nI3 ev85
          rw [qv85]
          refine tw_lv [2, 3, 4, 0] rfl ?_
          exact ih38 (k36 + 1)  (by omega) (by omega)
  refine tw_lv [3, 2, 1, 0] rfl ?_
  exact L39 (6 + 1) 0  (by omega) (by omega)

set_option maxHeartbeats 4000000 in
set_option maxRecDepth 100000 in
theorem c4_X5_hasSameRoads (d : tw_D) (g : tw_G) (τ : tw_K) (h : tw_H) (hw : tw_wt d g τ h)  (a : Nat) (ka : τ a = 2) (ja : Nat) (hja : ja < 4) (hba : g.2 (4096 + a) = 160 + 64 * ja) (b : Nat) (kb : τ b = 2) (jb : Nat) (hjb : jb < 4) (hbb : g.2 (4096 + b) = 160 + 64 * jb) (he : g.1 (160 + 64 * ja + 8 + jb) = g.1 (160 + 64 * jb + 8 + ja) ∧ g.1 (160 + 64 * ja + 16 + jb) = g.1 (160 + 64 * jb + 16 + ja)) : tw_Ct d mX5_hasSameRoads 0 0 [.ref a, .ref b] h (tw_qi (fun r h1 => h1 = h ∧ r = 1) tw_nx) := by
  refine tw_of (by decide +kernel) (Nat.le_of_ble_eq_true rfl) ?_
  show tw_W d mX5_hasSameRoads _ 0 [(0, .ref a), (1, .ref b)] [] h 0 0
  have sp0 := tw_sp.rf hw
  refine tw_aload_n 0 dX5_hasSameRoads_0 rfl rfl ?_
  refine tw_aload_n 1 dX5_hasSameRoads_1 rfl rfl ?_
  obtain ⟨e1, f2, n_3, r_4, c_5, go_6, so_7, v_8, rd_9, rf_10, t_11, rfl, k12, k13, k14, k15, k16, k17, k18, k19, k20⟩ := sp0.1 b 2 kb (by decide)
  obtain ⟨j21, ow22, fn9, fr9, fc9, fg9, fs9, q23, q24, q25, q26⟩ := k20
  obtain rfl : jb = j21 := by have z := ow22.b hbb; omega
  subst fn9 fr9 fc9 fg9 fs9
  refine tw_getN (v := .int (nI jb)) rfl in_4 0 dX5_hasSameRoads_2 w_502 rfl (by decide) f2 rfl ?_
  obtain ⟨e30, f31, n_32, r_33, c_34, go_35, so_36, v_37, rd_38, rf_39, t_40, rfl, k41, k42, k43, k44, k45, k46, k47, k48, k49⟩ := sp0.1 a 2 ka (by decide)
  obtain ⟨j50, ow51, fn9, fr9, fc9, fg9, fs9, q52, q53, q54, q55⟩ := k49
  obtain rfl : ja = j50 := by have z := ow51.b hba; omega
  subst fn9 fr9 fc9 fg9 fs9
  refine tw_bi (tw_callVN (M := mX5_hasSameRoads) (pc := 5) okX0_daysTo dX5_hasSameRoads_5 w_226 rfl f31 [.int (nI jb)] [] rfl rfl ⟨by decide, by decide⟩ (Nat.le_of_ble_eq_true rfl) (c2_X0_daysTo d g τ h sp0.1 a ka ja (by omega) hba jb (by omega)) 0 0 (Nat.le_of_ble_eq_true rfl) (Nat.le_of_ble_eq_true rfl)) (fun r29 h28 q27 => ?_) (fun E h1 q => q.elim)
  obtain ⟨q27e, q27v⟩ := q27
  rw [q27e]
  refine tw_aload_n 1 dX5_hasSameRoads_8 rfl rfl ?_
  refine tw_aload_n 0 dX5_hasSameRoads_9 rfl rfl ?_
  refine tw_getN (v := .int (nI ja)) rfl in_4 0 dX5_hasSameRoads_10 w_502 rfl (by decide) f31 rfl ?_
  refine tw_bi (tw_callVN (M := mX5_hasSameRoads) (pc := 13) okX0_daysTo dX5_hasSameRoads_13 w_226 rfl f2 [.int (nI ja)] [.int r29] rfl rfl ⟨by decide, by decide⟩ (Nat.le_of_ble_eq_true rfl) (c2_X0_daysTo d g τ h sp0.1 b kb jb (by omega) hbb ja (by omega)) 0 0 (Nat.le_of_ble_eq_true rfl) (Nat.le_of_ble_eq_true rfl)) (fun r58 h57 q56 => ?_) (fun E h1 q => q.elim)
  obtain ⟨q56e, q56v⟩ := q56
  rw [q56e]
  refine tw_icmp_ne 42 dX5_hasSameRoads_16 (by decide) (fun c59 => absurd ((by rw [q27v, q56v]; exact he.1)) c59) (fun _ => ?_)
  refine tw_aload_n 0 dX5_hasSameRoads_19 rfl rfl ?_
  refine tw_aload_n 1 dX5_hasSameRoads_20 rfl rfl ?_
  refine tw_getN (v := .int (nI jb)) rfl in_4 0 dX5_hasSameRoads_21 w_502 rfl (by decide) f2 rfl ?_
  refine tw_bi (tw_callVN (M := mX5_hasSameRoads) (pc := 24) okX0_freightTo dX5_hasSameRoads_24 w_231 rfl f31 [.int (nI jb)] [] rfl rfl ⟨by decide, by decide⟩ (Nat.le_of_ble_eq_true rfl) (c2_X0_freightTo d g τ h sp0.1 a ka ja (by omega) hba jb (by omega)) 0 0 (Nat.le_of_ble_eq_true rfl) (Nat.le_of_ble_eq_true rfl)) (fun r62 h61 q60 => ?_) (fun E h1 q => q.elim)
  obtain ⟨q60e, q60v⟩ := q60
  rw [q60e]
  refine tw_aload_n 1 dX5_hasSameRoads_27 rfl rfl ?_
  refine tw_aload_n 0 dX5_hasSameRoads_28 rfl rfl ?_
  refine tw_getN (v := .int (nI ja)) rfl in_4 0 dX5_hasSameRoads_29 w_502 rfl (by decide) f31 rfl ?_
  refine tw_bi (tw_callVN (M := mX5_hasSameRoads) (pc := 32) okX0_freightTo dX5_hasSameRoads_32 w_231 rfl f2 [.int (nI ja)] [.int r62] rfl rfl ⟨by decide, by decide⟩ (Nat.le_of_ble_eq_true rfl) (c2_X0_freightTo d g τ h sp0.1 b kb jb (by omega) hbb ja (by omega)) 0 0 (Nat.le_of_ble_eq_true rfl) (Nat.le_of_ble_eq_true rfl)) (fun r65 h64 q63 => ?_) (fun E h1 q => q.elim)
  obtain ⟨q63e, q63v⟩ := q63
  rw [q63e]
  refine tw_icmp_ne 42 dX5_hasSameRoads_35 (by decide) (fun c66 => absurd ((by rw [q60v, q63v]; exact he.2)) c66) (fun _ => ?_)
  refine tw_iconst (v := 1) dX5_hasSameRoads_38 (by decide) ?_
  refine tw_goto 43 dX5_hasSameRoads_39 (by decide) ?_
  exact tw_zret dX5_hasSameRoads_43 rfl rfl (Or.inl ⟨_, rfl, rfl, rfl⟩)

set_option maxHeartbeats 4000000 in
set_option maxRecDepth 100000 in
theorem c4_X5_areRoadsTheSame (d : tw_D) (g : tw_G) (τ : tw_K) (h : tw_H) (hw : tw_wt d g τ h)  (x : Nat) (kx : τ x = 11) (he : tw_SO g) : tw_Ct d mX5_areRoadsTheSame 0 0 [.ref x] h (tw_qi (fun r h1 => h1 = h ∧ r = 1) tw_nx) := by
  refine tw_of (by decide +kernel) (Nat.le_of_ble_eq_true rfl) ?_
  show tw_W d mX5_areRoadsTheSame _ 0 [(0, .ref x)] [] h 0 0
  have sp0 := tw_sp.rf hw
  have b9 := tw_b678 hw kx
  refine tw_aload_n 0 dX5_areRoadsTheSame_0 rfl rfl ?_
  obtain ⟨e1, f2, td_3, ca_4, ha_5, da_6, c1_7, c2_8, c3_9, c4_10, rfl, k11, k12, k13, k14, k15, k16, k17, k18, k19, k20, k21, k22, k23, k24, k25, k26, k27⟩ := sp0.1 x 11 kx (by decide)
  refine tw_get (v := .ref ca_4) rfl in_9 2 dX5_areRoadsTheSame_1 w_142 rfl (by decide) f2 rfl ?_
  refine tw_astore_n [(1, .ref ca_4), (0, .ref x)] dX5_areRoadsTheSame_4 rfl (by decide) rfl ?_
  refine tw_aload_n 0 dX5_areRoadsTheSame_5 rfl rfl ?_
  obtain ⟨e28, f29, F30, rfl, k31, pn32, pb33, px34, pf35⟩ := sp0.1 ca_4 8 k11 (by decide)
  refine tw_alen (v := nI 4) 4 rfl dX5_areRoadsTheSame_6 f29 rfl ?_
  refine tw_istore_n [(2, .int (nI 4)), (1, .ref ca_4), (0, .ref x)] dX5_areRoadsTheSame_7 rfl (by decide) rfl ?_
  refine tw_iconst (v := 0) dX5_areRoadsTheSame_8 (by decide) ?_
  refine tw_istore_n [(3, .int 0), (2, .int (nI 4)), (1, .ref ca_4), (0, .ref x)] dX5_areRoadsTheSame_9 rfl (by decide) rfl ?_
  have L39 : ∀ (r37 k36 : Nat), 4 + 1 ≤ k36 + r37 → k36 ≤ 4 → tw_W d mX5_areRoadsTheSame (tw_qi (fun r h1 => h1 = h ∧ r = 1) tw_nx) 10 [(0, .ref x), (1, .ref ca_4), (2, .int (nI 4)), (3, .int (nI k36))] [] h 0 0 := by
    intro r37
    induction r37 with
    | zero => intro k36  hk44 hk45; exact absurd hk44 (by omega)
    | succ r37 ih38 =>
      intro k36  hk44 hk45
      refine tw_iload_n 3 dX5_areRoadsTheSame_10 rfl rfl ?_
      refine tw_iload_n 2 dX5_areRoadsTheSame_11 rfl rfl ?_
      refine tw_icmp_ge 82 dX5_areRoadsTheSame_12 (by decide) (fun c46 => ?_) (fun c46 => ?_)
      · refine tw_iconst (v := 1) dX5_areRoadsTheSame_82 (by decide) ?_
        exact tw_zret dX5_areRoadsTheSame_83 rfl rfl (Or.inl ⟨_, rfl, rfl, rfl⟩)
      · have kl47 := tw_klt (N := 4) c46 hk45 (by decide)
        refine tw_aload_n 1 dX5_areRoadsTheSame_15 rfl rfl ?_
        refine tw_iload_n 3 dX5_areRoadsTheSame_16 rfl rfl ?_
        cases k48 : F30 ((nI k36)).toNatClampNeg with
        | none =>
          refine tw_aald (v := .null) 4 rfl rfl dX5_areRoadsTheSame_17 f29 (vp_in_nI (by omega) (by decide)) (by rw [k48]; rfl) ?_
          refine tw_astoreN [(4, .null), (0, .ref x), (1, .ref ca_4), (2, .int (nI 4)), (3, .int (nI k36))] dX5_areRoadsTheSame_18 (by decide) rfl ?_
          refine tw_aload_n 1 dX5_areRoadsTheSame_20 rfl rfl ?_
          refine tw_get (v := .ref ca_4) rfl in_9 2 dX5_areRoadsTheSame_21 w_142 rfl (by decide) f2 rfl ?_
          refine tw_astore [(5, .ref ca_4), (4, .null), (0, .ref x), (1, .ref ca_4), (2, .int (nI 4)), (3, .int (nI k36))] dX5_areRoadsTheSame_24 (by decide) rfl ?_
          refine tw_aload 0 dX5_areRoadsTheSame_26 rfl ?_
          refine tw_alen (v := nI 4) 4 rfl dX5_areRoadsTheSame_28 f29 rfl ?_
          refine tw_istore [(6, .int (nI 4)), (5, .ref ca_4), (4, .null), (0, .ref x), (1, .ref ca_4), (2, .int (nI 4)), (3, .int (nI k36))] dX5_areRoadsTheSame_29 (by decide) rfl ?_
          refine tw_iconst (v := 0) dX5_areRoadsTheSame_31 (by decide) ?_
          refine tw_istore [(7, .int 0), (6, .int (nI 4)), (5, .ref ca_4), (4, .null), (0, .ref x), (1, .ref ca_4), (2, .int (nI 4)), (3, .int (nI k36))] dX5_areRoadsTheSame_32 (by decide) rfl ?_
          have L53 : ∀ (r51 k50 : Nat), 4 + 1 ≤ k50 + r51 → k50 ≤ 4 → tw_W d mX5_areRoadsTheSame (tw_qi (fun r h1 => h1 = h ∧ r = 1) tw_nx) 34 [(0, .ref x), (1, .ref ca_4), (2, .int (nI 4)), (3, .int (nI k36)), (4, .null), (5, .ref ca_4), (6, .int (nI 4)), (7, .int (nI k50))] [] h 0 0 := by
            intro r51
            induction r51 with
            | zero => intro k50  hk58 hk59; exact absurd hk58 (by omega)
            | succ r51 ih52 =>
              intro k50  hk58 hk59
              refine tw_iload 7 dX5_areRoadsTheSame_34 rfl ?_
              refine tw_iload 6 dX5_areRoadsTheSame_36 rfl ?_
              refine tw_icmp_ge 76 dX5_areRoadsTheSame_38 (by decide) (fun c60 => ?_) (fun c60 => ?_)
              · obtain ⟨v61, ev61⟩ : ∃ y : Int32, y = (nI k36) + 1 := ⟨_, rfl⟩
                refine tw_iinc [(3, .int v61), (0, .ref x), (1, .ref ca_4), (2, .int (nI 4)), (4, .null), (5, .ref ca_4), (6, .int (nI 4)), (7, .int (nI k50))] 3 dX5_areRoadsTheSame_76 rfl (by rw [ev61]; rfl) (by decide) rfl ?_
                refine tw_goto 10 dX5_areRoadsTheSame_79 (by decide) ?_
                have qv61 := tw_nI3 ev61
                rw [qv61]
                refine tw_lv [1, 2, 3, 0] rfl ?_
                exact ih38 (k36 + 1)  (by omega) (by omega)
              · have kl62 := tw_klt (N := 4) c60 hk59 (by decide)
                refine tw_aload 5 dX5_areRoadsTheSame_41 rfl ?_
                refine tw_iload 7 dX5_areRoadsTheSame_43 rfl ?_
                cases k63 : F30 ((nI k50)).toNatClampNeg with
                | none =>
                  refine tw_aald (v := .null) 4 rfl rfl dX5_areRoadsTheSame_45 f29 (vp_in_nI (by omega) (by decide)) (by rw [k63]; rfl) ?_
                  refine tw_astoreN [(8, .null), (0, .ref x), (1, .ref ca_4), (2, .int (nI 4)), (3, .int (nI k36)), (4, .null), (5, .ref ca_4), (6, .int (nI 4)), (7, .int (nI k50))] dX5_areRoadsTheSame_46 (by decide) rfl ?_
                  refine tw_aloadN 5 dX5_areRoadsTheSame_48 rfl ?_
                  refine tw_ifnullN 70 dX5_areRoadsTheSame_50 (by decide) ?_
                  obtain ⟨v65, ev65⟩ : ∃ y : Int32, y = (nI k50) + 1 := ⟨_, rfl⟩
                  refine tw_iinc [(7, .int v65), (8, .null), (0, .ref x), (1, .ref ca_4), (2, .int (nI 4)), (3, .int (nI k36)), (4, .null), (5, .ref ca_4), (6, .int (nI 4))] 8 dX5_areRoadsTheSame_70 rfl (by rw [ev65]; rfl) (by decide) rfl ?_
                  refine tw_goto 34 dX5_areRoadsTheSame_73 (by decide) ?_
                  have qv65 := tw_nI3 ev65
                  rw [qv65]
                  refine tw_lv [2, 3, 4, 5, 6, 7, 8, 0] rfl ?_
                  exact ih52 (k50 + 1)  (by omega) (by omega)
                | some q64 =>
                  have k66 := k31 _ _ k63
                  refine tw_aald (v := .ref q64) 4 rfl rfl dX5_areRoadsTheSame_45 f29 (vp_in_nI (by omega) (by decide)) (by rw [k63]; rfl) ?_
                  refine tw_astore [(8, .ref q64), (0, .ref x), (1, .ref ca_4), (2, .int (nI 4)), (3, .int (nI k36)), (4, .null), (5, .ref ca_4), (6, .int (nI 4)), (7, .int (nI k50))] dX5_areRoadsTheSame_46 (by decide) rfl ?_
                  have hv67 := k63
                  rw [nI_clamp (by omega)] at hv67
                  have pn68 := pn32 k50 (by omega)
                  have hkb : k50 < g.2 6 := by rcases Nat.lt_or_ge k50 (g.2 6) with z | z; exact z; rw [pn68.mpr z] at hv67; cases hv67
                  have bqb : g.2 (4096 + q64) = 160 + 64 * k50 := pf35 _ _ hv67
                  refine tw_aloadN 5 dX5_areRoadsTheSame_48 rfl ?_
                  refine tw_ifnullN 70 dX5_areRoadsTheSame_50 (by decide) ?_
                  obtain ⟨v69, ev69⟩ : ∃ y : Int32, y = (nI k50) + 1 := ⟨_, rfl⟩
                  refine tw_iinc [(7, .int v69), (8, .ref q64), (0, .ref x), (1, .ref ca_4), (2, .int (nI 4)), (3, .int (nI k36)), (4, .null), (5, .ref ca_4), (6, .int (nI 4))] 8 dX5_areRoadsTheSame_70 rfl (by rw [ev69]; rfl) (by decide) rfl ?_
                  refine tw_goto 34 dX5_areRoadsTheSame_73 (by decide) ?_
                  have qv69 := tw_nI3 ev69
                  rw [qv69]
                  refine tw_lv [2, 3, 4, 5, 6, 7, 8, 0] rfl ?_
                  exact ih52 (k50 + 1)  (by omega) (by omega)
          refine tw_lv [4, 5, 6, 7, 3, 2, 1, 0] rfl ?_
          exact L53 (4 + 1) 0  (by omega) (by omega)
        | some q49 =>
          have k70 := k31 _ _ k48
          refine tw_aald (v := .ref q49) 4 rfl rfl dX5_areRoadsTheSame_17 f29 (vp_in_nI (by omega) (by decide)) (by rw [k48]; rfl) ?_
          refine tw_astore [(4, .ref q49), (0, .ref x), (1, .ref ca_4), (2, .int (nI 4)), (3, .int (nI k36))] dX5_areRoadsTheSame_18 (by decide) rfl ?_
          have hv71 := k48
          rw [nI_clamp (by omega)] at hv71
          have pn72 := pn32 k36 (by omega)
          have hk9 : k36 < g.2 6 := by rcases Nat.lt_or_ge k36 (g.2 6) with z | z; exact z; rw [pn72.mpr z] at hv71; cases hv71
          have bq9 : g.2 (4096 + q49) = 160 + 64 * k36 := pf35 _ _ hv71
          refine tw_aload_n 1 dX5_areRoadsTheSame_20 rfl rfl ?_
          refine tw_get (v := .ref ca_4) rfl in_9 2 dX5_areRoadsTheSame_21 w_142 rfl (by decide) f2 rfl ?_
          refine tw_astore [(5, .ref ca_4), (4, .ref q49), (0, .ref x), (1, .ref ca_4), (2, .int (nI 4)), (3, .int (nI k36))] dX5_areRoadsTheSame_24 (by decide) rfl ?_
          refine tw_aload 0 dX5_areRoadsTheSame_26 rfl ?_
          refine tw_alen (v := nI 4) 4 rfl dX5_areRoadsTheSame_28 f29 rfl ?_
          refine tw_istore [(6, .int (nI 4)), (5, .ref ca_4), (4, .ref q49), (0, .ref x), (1, .ref ca_4), (2, .int (nI 4)), (3, .int (nI k36))] dX5_areRoadsTheSame_29 (by decide) rfl ?_
          refine tw_iconst (v := 0) dX5_areRoadsTheSame_31 (by decide) ?_
          refine tw_istore [(7, .int 0), (6, .int (nI 4)), (5, .ref ca_4), (4, .ref q49), (0, .ref x), (1, .ref ca_4), (2, .int (nI 4)), (3, .int (nI k36))] dX5_areRoadsTheSame_32 (by decide) rfl ?_
          have L76 : ∀ (r74 k73 : Nat), 4 + 1 ≤ k73 + r74 → k73 ≤ 4 → tw_W d mX5_areRoadsTheSame (tw_qi (fun r h1 => h1 = h ∧ r = 1) tw_nx) 34 [(0, .ref x), (1, .ref ca_4), (2, .int (nI 4)), (3, .int (nI k36)), (4, .ref q49), (5, .ref ca_4), (6, .int (nI 4)), (7, .int (nI k73))] [] h 0 0 := by
            intro r74
            induction r74 with
            | zero => intro k73  hk81 hk82; exact absurd hk81 (by omega)
            | succ r74 ih75 =>
              intro k73  hk81 hk82
              refine tw_iload 7 dX5_areRoadsTheSame_34 rfl ?_
              refine tw_iload 6 dX5_areRoadsTheSame_36 rfl ?_
              refine tw_icmp_ge 76 dX5_areRoadsTheSame_38 (by decide) (fun c83 => ?_) (fun c83 => ?_)
              · obtain ⟨v84, ev84⟩ : ∃ y : Int32, y = (nI k36) + 1 := ⟨_, rfl⟩
                refine tw_iinc [(3, .int v84), (0, .ref x), (1, .ref ca_4), (2, .int (nI 4)), (4, .ref q49), (5, .ref ca_4), (6, .int (nI 4)), (7, .int (nI k73))] 3 dX5_areRoadsTheSame_76 rfl (by rw [ev84]; rfl) (by decide) rfl ?_
                refine tw_goto 10 dX5_areRoadsTheSame_79 (by decide) ?_
                have qv84 := tw_nI3 ev84
                rw [qv84]
                refine tw_lv [1, 2, 3, 0] rfl ?_
                exact ih38 (k36 + 1)  (by omega) (by omega)
              · have kl85 := tw_klt (N := 4) c83 hk82 (by decide)
                refine tw_aload 5 dX5_areRoadsTheSame_41 rfl ?_
                refine tw_iload 7 dX5_areRoadsTheSame_43 rfl ?_
                cases k86 : F30 ((nI k73)).toNatClampNeg with
                | none =>
                  refine tw_aald (v := .null) 4 rfl rfl dX5_areRoadsTheSame_45 f29 (vp_in_nI (by omega) (by decide)) (by rw [k86]; rfl) ?_
                  refine tw_astoreN [(8, .null), (0, .ref x), (1, .ref ca_4), (2, .int (nI 4)), (3, .int (nI k36)), (4, .ref q49), (5, .ref ca_4), (6, .int (nI 4)), (7, .int (nI k73))] dX5_areRoadsTheSame_46 (by decide) rfl ?_
                  refine tw_aload 5 dX5_areRoadsTheSame_48 rfl ?_
                  refine tw_ifnull dX5_areRoadsTheSame_50 ?_
                  refine tw_aloadN 0 dX5_areRoadsTheSame_53 rfl ?_
                  refine tw_ifnullN 70 dX5_areRoadsTheSame_55 (by decide) ?_
                  obtain ⟨v88, ev88⟩ : ∃ y : Int32, y = (nI k73) + 1 := ⟨_, rfl⟩
                  refine tw_iinc [(7, .int v88), (8, .null), (0, .ref x), (1, .ref ca_4), (2, .int (nI 4)), (3, .int (nI k36)), (4, .ref q49), (5, .ref ca_4), (6, .int (nI 4))] 8 dX5_areRoadsTheSame_70 rfl (by rw [ev88]; rfl) (by decide) rfl ?_
                  refine tw_goto 34 dX5_areRoadsTheSame_73 (by decide) ?_
                  have qv88 := tw_nI3 ev88
                  rw [qv88]
                  refine tw_lv [2, 3, 4, 5, 6, 7, 8, 0] rfl ?_
                  exact ih75 (k73 + 1)  (by omega) (by omega)
                | some q87 =>
                  have k89 := k31 _ _ k86
                  refine tw_aald (v := .ref q87) 4 rfl rfl dX5_areRoadsTheSame_45 f29 (vp_in_nI (by omega) (by decide)) (by rw [k86]; rfl) ?_
                  refine tw_astore [(8, .ref q87), (0, .ref x), (1, .ref ca_4), (2, .int (nI 4)), (3, .int (nI k36)), (4, .ref q49), (5, .ref ca_4), (6, .int (nI 4)), (7, .int (nI k73))] dX5_areRoadsTheSame_46 (by decide) rfl ?_
                  have hv90 := k86
                  rw [nI_clamp (by omega)] at hv90
                  have pn91 := pn32 k73 (by omega)
                  have hkb : k73 < g.2 6 := by rcases Nat.lt_or_ge k73 (g.2 6) with z | z; exact z; rw [pn91.mpr z] at hv90; cases hv90
                  have bqb : g.2 (4096 + q87) = 160 + 64 * k73 := pf35 _ _ hv90
                  refine tw_aload 5 dX5_areRoadsTheSame_48 rfl ?_
                  refine tw_ifnull dX5_areRoadsTheSame_50 ?_
                  refine tw_aload 0 dX5_areRoadsTheSame_53 rfl ?_
                  refine tw_ifnull dX5_areRoadsTheSame_55 ?_
                  refine tw_aload 5 dX5_areRoadsTheSame_58 rfl ?_
                  refine tw_aload 0 dX5_areRoadsTheSame_60 rfl ?_
                  refine tw_bi (tw_callS (M := mX5_areRoadsTheSame) (pc := 62) okX5_hasSameRoads dX5_areRoadsTheSame_62 w_223 [.ref q49, .ref q87] [] rfl rfl ⟨by decide, by decide⟩ (Nat.le_of_ble_eq_true rfl) (c4_X5_hasSameRoads d g τ h sp0.1 q49 k70 k36 (by omega) bq9 q87 k89 k73 (by omega) bqb (he.2.2.2 k36 k73 hk9 hkb)) 0 0 (Nat.le_of_ble_eq_true rfl) (Nat.le_of_ble_eq_true rfl)) (fun r94 h93 q92 => ?_) (fun E h1 q => q.elim)
                  obtain ⟨q92e, q92v⟩ := q92
                  rw [q92e, q92v]
                  refine tw_if_ne 70 dX5_areRoadsTheSame_65 (by decide) (fun _ => ?_) (fun c95 => absurd c95 (by decide))
                  obtain ⟨v96, ev96⟩ : ∃ y : Int32, y = (nI k73) + 1 := ⟨_, rfl⟩
                  refine tw_iinc [(7, .int v96), (8, .ref q87), (0, .ref x), (1, .ref ca_4), (2, .int (nI 4)), (3, .int (nI k36)), (4, .ref q49), (5, .ref ca_4), (6, .int (nI 4))] 8 dX5_areRoadsTheSame_70 rfl (by rw [ev96]; rfl) (by decide) rfl ?_
                  refine tw_goto 34 dX5_areRoadsTheSame_73 (by decide) ?_
                  have qv96 := tw_nI3 ev96
                  rw [qv96]
                  refine tw_lv [2, 3, 4, 5, 6, 7, 8, 0] rfl ?_
                  exact ih75 (k73 + 1)  (by omega) (by omega)
          refine tw_lv [4, 5, 6, 7, 3, 2, 1, 0] rfl ?_
          exact L76 (4 + 1) 0  (by omega) (by omega)
  refine tw_lv [3, 2, 1, 0] rfl ?_
  exact L39 (4 + 1) 0  (by omega) (by omega)

set_option maxHeartbeats 4000000 in
set_option maxRecDepth 100000 in
theorem c4_X5_isSound (d : tw_D) (g : tw_G) (τ : tw_K) (h : tw_H) (hw : tw_wt d g τ h)  (x : Nat) (kx : τ x = 11) (he : tw_SO g) : tw_Ct d mX5_isSound 0 0 [.ref x] h (tw_qi (fun r h1 => h1 = h ∧ r = 1) tw_nx) := by
  refine tw_of (by decide +kernel) (Nat.le_of_ble_eq_true rfl) ?_
  show tw_W d mX5_isSound _ 0 [(0, .ref x)] [] h 0 0
  have sp0 := tw_sp.rf hw
  refine tw_aload_n 0 dX5_isSound_0 rfl rfl ?_
  refine tw_iconst (v := 0) dX5_isSound_1 (by decide) ?_
  obtain ⟨e1, f2, td_3, ca_4, ha_5, da_6, c1_7, c2_8, c3_9, c4_10, rfl, k11, k12, k13, k14, k15, k16, k17, k18, k19, k20, k21, k22, k23, k24, k25, k26, k27⟩ := sp0.1 x 11 kx (by decide)
  refine tw_bi (tw_callV (M := mX5_isSound) (pc := 2) okX5_isKept dX5_isSound_2 w_181 rfl f2 [.int 0] [] rfl rfl ⟨by decide, by decide⟩ (Nat.le_of_ble_eq_true rfl) (c4_X5_isKept d g τ h sp0.1 x kx 0 (by decide) he) 0 0 (Nat.le_of_ble_eq_true rfl) (Nat.le_of_ble_eq_true rfl)) (fun r30 h29 q28 => ?_) (fun E h1 q => q.elim)
  obtain ⟨q28e, q28v⟩ := q28
  rw [q28e, q28v]
  refine tw_if_eq 41 dX5_isSound_5 (by decide) (fun c31 => absurd c31 (by decide)) (fun _ => ?_)
  refine tw_aload_n 0 dX5_isSound_8 rfl rfl ?_
  refine tw_iconst (v := 1) dX5_isSound_9 (by decide) ?_
  refine tw_bi (tw_callV (M := mX5_isSound) (pc := 10) okX5_isKept dX5_isSound_10 w_181 rfl f2 [.int 1] [] rfl rfl ⟨by decide, by decide⟩ (Nat.le_of_ble_eq_true rfl) (c4_X5_isKept d g τ h sp0.1 x kx 1 (by decide) he) 0 0 (Nat.le_of_ble_eq_true rfl) (Nat.le_of_ble_eq_true rfl)) (fun r34 h33 q32 => ?_) (fun E h1 q => q.elim)
  obtain ⟨q32e, q32v⟩ := q32
  rw [q32e, q32v]
  refine tw_if_eq 41 dX5_isSound_13 (by decide) (fun c35 => absurd c35 (by decide)) (fun _ => ?_)
  refine tw_aload_n 0 dX5_isSound_16 rfl rfl ?_
  refine tw_bi (tw_callV (M := mX5_isSound) (pc := 17) okX5_areCountriesSound dX5_isSound_17 w_197 rfl f2 [] [] rfl rfl ⟨by decide, by decide⟩ (Nat.le_of_ble_eq_true rfl) (c4_X5_areCountriesSound d g τ h sp0.1 x kx he) 0 0 (Nat.le_of_ble_eq_true rfl) (Nat.le_of_ble_eq_true rfl)) (fun r38 h37 q36 => ?_) (fun E h1 q => q.elim)
  obtain ⟨q36e, q36v⟩ := q36
  rw [q36e, q36v]
  refine tw_if_eq 41 dX5_isSound_20 (by decide) (fun c39 => absurd c39 (by decide)) (fun _ => ?_)
  refine tw_aload_n 0 dX5_isSound_23 rfl rfl ?_
  refine tw_bi (tw_callV (M := mX5_isSound) (pc := 24) okX5_areHousesSound dX5_isSound_24 w_210 rfl f2 [] [] rfl rfl ⟨by decide, by decide⟩ (Nat.le_of_ble_eq_true rfl) (c4_X5_areHousesSound d g τ h sp0.1 x kx he) 0 0 (Nat.le_of_ble_eq_true rfl) (Nat.le_of_ble_eq_true rfl)) (fun r42 h41 q40 => ?_) (fun E h1 q => q.elim)
  obtain ⟨q40e, q40v⟩ := q40
  rw [q40e, q40v]
  refine tw_if_eq 41 dX5_isSound_27 (by decide) (fun c43 => absurd c43 (by decide)) (fun _ => ?_)
  refine tw_aload_n 0 dX5_isSound_30 rfl rfl ?_
  refine tw_bi (tw_callV (M := mX5_isSound) (pc := 31) okX5_areRoadsTheSame dX5_isSound_31 w_219 rfl f2 [] [] rfl rfl ⟨by decide, by decide⟩ (Nat.le_of_ble_eq_true rfl) (c4_X5_areRoadsTheSame d g τ h sp0.1 x kx he) 0 0 (Nat.le_of_ble_eq_true rfl) (Nat.le_of_ble_eq_true rfl)) (fun r46 h45 q44 => ?_) (fun E h1 q => q.elim)
  obtain ⟨q44e, q44v⟩ := q44
  rw [q44e, q44v]
  refine tw_if_eq 41 dX5_isSound_34 (by decide) (fun c47 => absurd c47 (by decide)) (fun _ => ?_)
  refine tw_iconst (v := 1) dX5_isSound_37 (by decide) ?_
  refine tw_goto 42 dX5_isSound_38 (by decide) ?_
  exact tw_zret dX5_isSound_42 rfl rfl (Or.inl ⟨_, rfl, rfl, rfl⟩)

/-! the class's methods over the typed heap. Laid by wip/p5/mkclass.py. -/
/-! what is asked, the class -/
def tw_isum (F : Nat → Int32) : Nat → Int32
  | 0 => 0
  | n + 1 => tw_isum F n + F n
theorem tw_isum_c {F G : Nat → Int32} : ∀ n, (∀ j, j < n → F j = G j) → tw_isum F n = tw_isum G n
  | 0, _ => rfl
  | n + 1, h => by
    show tw_isum F n + F n = tw_isum G n + G n
    rw [tw_isum_c n (fun j hj => h j (by omega)), h n (by omega)]
theorem tw_isum_n {F : Nat → Int32} {f : Nat → Nat} : ∀ n, (∀ j, j < n → F j = nI (f j)) → tw_isum F n = nI (tw_sum f n)
  | 0, _ => rfl
  | n + 1, h => by
    show tw_isum F n + F n = nI (tw_sum f n + f n)
    rw [tw_isum_n n (fun j hj => h j (by omega)), h n (by omega)]
    exact tw_niadd
set_option maxHeartbeats 4000000 in
set_option maxRecDepth 100000 in
theorem c4_X5_inVaults (d : tw_D) (g : tw_G) (τ : tw_K) (h : tw_H) (hw : tw_wt d g τ h) (x : Nat) (kx : τ x = 11) (k : Nat) (hk : k < 2) : tw_Ct d mX5_inVaults 0 0 [.ref x, .int (nI k)] h (tw_qi (fun r h1 => h1 = h ∧ r = tw_isum (fun j => g.1 (160 + 64 * j + 24 + k)) (g.2 6)) tw_nx) := by
  refine tw_of (by decide +kernel) (Nat.le_of_ble_eq_true rfl) ?_
  show tw_W d mX5_inVaults _ 0 [(0, .ref x), (1, .int (nI k))] [] h 0 0
  have sp0 := tw_sp.rf hw
  have b9 := tw_b678 hw kx
  refine tw_iconst (v := 0) dX5_inVaults_0 (by decide) ?_
  refine tw_istore_n [(2, .int 0), (0, .ref x), (1, .int (nI k))] dX5_inVaults_1 rfl (by decide) rfl ?_
  refine tw_aload_n 1 dX5_inVaults_2 rfl rfl ?_
  obtain ⟨e1, f2, td_3, ca_4, ha_5, da_6, c1_7, c2_8, c3_9, c4_10, rfl, k11, k12, k13, k14, k15, k16, k17, k18, k19, k20, k21, k22, k23, k24, k25, k26, k27⟩ := sp0.1 x 11 kx (by decide)
  refine tw_get (v := .ref ca_4) rfl in_9 2 dX5_inVaults_3 w_142 rfl (by decide) f2 rfl ?_
  refine tw_astore_n [(3, .ref ca_4), (2, .int 0), (0, .ref x), (1, .int (nI k))] dX5_inVaults_6 rfl (by decide) rfl ?_
  refine tw_aload_n 0 dX5_inVaults_7 rfl rfl ?_
  obtain ⟨e28, f29, F30, rfl, k31, pn32, pb33, px34, pf35⟩ := sp0.1 ca_4 8 k11 (by decide)
  refine tw_alen (v := nI 4) 4 rfl dX5_inVaults_8 f29 rfl ?_
  refine tw_istore [(4, .int (nI 4)), (3, .ref ca_4), (2, .int 0), (0, .ref x), (1, .int (nI k))] dX5_inVaults_9 (by decide) rfl ?_
  refine tw_iconst (v := 0) dX5_inVaults_11 (by decide) ?_
  refine tw_istore [(5, .int 0), (4, .int (nI 4)), (3, .ref ca_4), (2, .int 0), (0, .ref x), (1, .int (nI k))] dX5_inVaults_12 (by decide) rfl ?_
  have L40 : ∀ (r38 k37 : Nat) (x36 : Int32) (li44 : x36 = tw_isum (fun j => g.1 (160 + 64 * j + 24 + k)) (min k37 (g.2 6))), 4 + 1 ≤ k37 + r38 → k37 ≤ 4 → tw_W d mX5_inVaults (tw_qi (fun r h1 => h1 = h ∧ r = tw_isum (fun j => g.1 (160 + 64 * j + 24 + k)) (g.2 6)) tw_nx) 14 [(0, .ref x), (1, .int (nI k)), (2, .int x36), (3, .ref ca_4), (4, .int (nI 4)), (5, .int (nI k37))] [] h 0 0 := by
    intro r38
    induction r38 with
    | zero => intro k37 x36 li44 hk45 hk46; exact absurd hk45 (by omega)
    | succ r38 ih39 =>
      intro k37 x36 li44 hk45 hk46
      refine tw_iload 5 dX5_inVaults_14 rfl ?_
      refine tw_iload 4 dX5_inVaults_16 rfl ?_
      refine tw_icmp_ge 50 dX5_inVaults_18 (by decide) (fun c47 => ?_) (fun c47 => ?_)
      · refine tw_iload_n 2 dX5_inVaults_50 rfl rfl ?_
        exact tw_iret dX5_inVaults_51 rfl (Or.inl ⟨_, rfl, rfl, by have z := tw_kge (N := 4) c47 (by omega); have z2 := li44; rw [show min k37 (g.2 6) = g.2 6 by omega] at z2; exact z2⟩)
      · have kl48 := tw_klt (N := 4) c47 hk46 (by decide)
        refine tw_aload_n 3 dX5_inVaults_21 rfl rfl ?_
        refine tw_iload 5 dX5_inVaults_22 rfl ?_
        cases k49 : F30 ((nI k37)).toNatClampNeg with
        | none =>
          refine tw_aald (v := .null) 4 rfl rfl dX5_inVaults_24 f29 (vp_in_nI (by omega) (by decide)) (by rw [k49]; rfl) ?_
          refine tw_astoreN [(6, .null), (0, .ref x), (1, .int (nI k)), (2, .int x36), (3, .ref ca_4), (4, .int (nI 4)), (5, .int (nI k37))] dX5_inVaults_25 (by decide) rfl ?_
          have hv9 := k49
          rw [nI_clamp (by omega)] at hv9
          have pn9 := pn32 k37 (by omega)
          have hk9 : g.2 6 ≤ k37 := pn9.mp hv9
          have mn9 : min (k37 + 1) (g.2 6) = min k37 (g.2 6) := by omega
          refine tw_aloadN 0 dX5_inVaults_27 rfl ?_
          refine tw_ifnullN 44 dX5_inVaults_29 (by decide) ?_
          obtain ⟨v51, ev51⟩ : ∃ y : Int32, y = (nI k37) + 1 := ⟨_, rfl⟩
          refine tw_iinc [(5, .int v51), (6, .null), (0, .ref x), (1, .int (nI k)), (2, .int x36), (3, .ref ca_4), (4, .int (nI 4))] 6 dX5_inVaults_44 rfl (by rw [ev51]; rfl) (by decide) rfl ?_
          refine tw_goto 14 dX5_inVaults_47 (by decide) ?_
          have qv51 := tw_nI3 ev51
          rw [qv51]
          refine tw_lv [2, 3, 4, 5, 6, 0] rfl ?_
          exact ih39 (k37 + 1) x36 (by rw [mn9]; exact li44) (by omega) (by omega)
        | some q50 =>
          have k52 := k31 _ _ k49
          refine tw_aald (v := .ref q50) 4 rfl rfl dX5_inVaults_24 f29 (vp_in_nI (by omega) (by decide)) (by rw [k49]; rfl) ?_
          refine tw_astore [(6, .ref q50), (0, .ref x), (1, .int (nI k)), (2, .int x36), (3, .ref ca_4), (4, .int (nI 4)), (5, .int (nI k37))] dX5_inVaults_25 (by decide) rfl ?_
          have hv9 := k49
          rw [nI_clamp (by omega)] at hv9
          have pn9 := pn32 k37 (by omega)
          have hk9 : k37 < g.2 6 := by rcases Nat.lt_or_ge k37 (g.2 6) with z | z; exact z; rw [pn9.mpr z] at hv9; cases hv9
          have bq9 : g.2 (4096 + q50) = 160 + 64 * k37 := pf35 _ _ hv9
          have m09 : min k37 (g.2 6) = k37 := by omega
          have m19 : min (k37 + 1) (g.2 6) = k37 + 1 := by omega
          have hl9 := li44
          rw [m09] at hl9
          refine tw_aload 0 dX5_inVaults_27 rfl ?_
          refine tw_ifnull dX5_inVaults_29 ?_
          refine tw_iload_n 3 dX5_inVaults_32 rfl rfl ?_
          refine tw_aload 0 dX5_inVaults_33 rfl ?_
          obtain ⟨e53, f54, n_55, r_56, c_57, go_58, so_59, v_60, rd_61, rf_62, t_63, rfl, k64, k65, k66, k67, k68, k69, k70, k71, k72⟩ := sp0.1 q50 2 k52 (by decide)
          obtain ⟨j73, ow74, fn9, fr9, fc9, fg9, fs9, q75, q76, q77, q78⟩ := k72
          obtain rfl : k37 = j73 := by have z := ow74.b bq9; omega
          subst fn9 fr9 fc9 fg9 fs9
          refine tw_getN (v := .ref v_60) rfl in_4 3 dX5_inVaults_35 w_508 rfl (by decide) f54 rfl ?_
          refine tw_iload_n 2 dX5_inVaults_38 rfl rfl ?_
          obtain ⟨e82, f83, a_84, b_85, rfl, k86⟩ := sp0.1 v_60 1 k64 (by decide)
          obtain ⟨b87, ow88, fa9, fb9⟩ := k86
          obtain rfl : (160 + 64 * k37 + 24) = b87 := (ow88.b q78).symm
          subst fa9 fb9
          refine tw_bi (tw_callVN (M := mX5_inVaults) (pc := 39) okX3_of dX5_inVaults_39 w_189 rfl f83 [.int (nI k)] [.int x36] rfl rfl ⟨by decide, by decide⟩ (Nat.le_of_ble_eq_true rfl) (c4_X3_of d g τ h sp0.1 v_60 k64 (160 + 64 * k37 + 24) q78 k (by omega)) 0 0 (Nat.le_of_ble_eq_true rfl) (Nat.le_of_ble_eq_true rfl)) (fun r81 h80 q79 => ?_) (fun E h1 q => q.elim)
          obtain ⟨q79e, q79v⟩ := q79
          rw [q79e]
          refine tw_iadd dX5_inVaults_42 ?_
          refine tw_nmi (fun v89 ev89 => ?_)
          refine tw_istore_n [(2, .int v89), (6, .ref q50), (0, .ref x), (1, .int (nI k)), (3, .ref ca_4), (4, .int (nI 4)), (5, .int (nI k37))] dX5_inVaults_43 rfl (by decide) rfl ?_
          obtain ⟨v90, ev90⟩ : ∃ y : Int32, y = (nI k37) + 1 := ⟨_, rfl⟩
          refine tw_iinc [(5, .int v90), (2, .int v89), (6, .ref q50), (0, .ref x), (1, .int (nI k)), (3, .ref ca_4), (4, .int (nI 4))] 6 dX5_inVaults_44 rfl (by rw [ev90]; rfl) (by decide) rfl ?_
          refine tw_goto 14 dX5_inVaults_47 (by decide) ?_
          have qv90 := tw_nI3 ev90
          rw [qv90]
          refine tw_lv [3, 4, 1, 5, 6, 0] rfl ?_
          exact ih39 (k37 + 1) v89 (by rw [m19]; show v89 = tw_isum (fun j => g.1 (160 + 64 * j + 24 + k)) k37 + (g.1 (160 + 64 * k37 + 24 + k) : Int32); rw [ev89, q79v, hl9]) (by omega) (by omega)
  refine tw_lv [4, 5, 3, 2, 1, 0] rfl ?_
  exact L40 (4 + 1) 0 0 (by rw [Nat.zero_min]; rfl) (by omega) (by omega)

set_option maxHeartbeats 4000000 in
set_option maxRecDepth 100000 in
theorem c4_X5_inPurses (d : tw_D) (g : tw_G) (τ : tw_K) (h : tw_H) (hw : tw_wt d g τ h) (x : Nat) (kx : τ x = 11) (k : Nat) (hk : k < 2) : tw_Ct d mX5_inPurses 0 0 [.ref x, .int (nI k)] h (tw_qi (fun r h1 => h1 = h ∧ r = tw_isum (fun j => g.1 (768 + 32 * j + 8 + k)) (g.2 7)) tw_nx) := by
  refine tw_of (by decide +kernel) (Nat.le_of_ble_eq_true rfl) ?_
  show tw_W d mX5_inPurses _ 0 [(0, .ref x), (1, .int (nI k))] [] h 0 0
  have sp0 := tw_sp.rf hw
  have b9 := tw_b678 hw kx
  refine tw_iconst (v := 0) dX5_inPurses_0 (by decide) ?_
  refine tw_istore_n [(2, .int 0), (0, .ref x), (1, .int (nI k))] dX5_inPurses_1 rfl (by decide) rfl ?_
  refine tw_aload_n 1 dX5_inPurses_2 rfl rfl ?_
  obtain ⟨e1, f2, td_3, ca_4, ha_5, da_6, c1_7, c2_8, c3_9, c4_10, rfl, k11, k12, k13, k14, k15, k16, k17, k18, k19, k20, k21, k22, k23, k24, k25, k26, k27⟩ := sp0.1 x 11 kx (by decide)
  refine tw_get (v := .ref ha_5) rfl in_9 4 dX5_inPurses_3 w_144 rfl (by decide) f2 rfl ?_
  refine tw_astore_n [(3, .ref ha_5), (2, .int 0), (0, .ref x), (1, .int (nI k))] dX5_inPurses_6 rfl (by decide) rfl ?_
  refine tw_aload_n 0 dX5_inPurses_7 rfl rfl ?_
  obtain ⟨e28, f29, F30, rfl, k31, pn32, pb33, px34, pf35⟩ := sp0.1 ha_5 9 k12 (by decide)
  refine tw_alen (v := nI 6) 5 rfl dX5_inPurses_8 f29 rfl ?_
  refine tw_istore [(4, .int (nI 6)), (3, .ref ha_5), (2, .int 0), (0, .ref x), (1, .int (nI k))] dX5_inPurses_9 (by decide) rfl ?_
  refine tw_iconst (v := 0) dX5_inPurses_11 (by decide) ?_
  refine tw_istore [(5, .int 0), (4, .int (nI 6)), (3, .ref ha_5), (2, .int 0), (0, .ref x), (1, .int (nI k))] dX5_inPurses_12 (by decide) rfl ?_
  have L40 : ∀ (r38 k37 : Nat) (x36 : Int32) (li44 : x36 = tw_isum (fun j => g.1 (768 + 32 * j + 8 + k)) (min k37 (g.2 7))), 6 + 1 ≤ k37 + r38 → k37 ≤ 6 → tw_W d mX5_inPurses (tw_qi (fun r h1 => h1 = h ∧ r = tw_isum (fun j => g.1 (768 + 32 * j + 8 + k)) (g.2 7)) tw_nx) 14 [(0, .ref x), (1, .int (nI k)), (2, .int x36), (3, .ref ha_5), (4, .int (nI 6)), (5, .int (nI k37))] [] h 0 0 := by
    intro r38
    induction r38 with
    | zero => intro k37 x36 li44 hk45 hk46; exact absurd hk45 (by omega)
    | succ r38 ih39 =>
      intro k37 x36 li44 hk45 hk46
      refine tw_iload 5 dX5_inPurses_14 rfl ?_
      refine tw_iload 4 dX5_inPurses_16 rfl ?_
      refine tw_icmp_ge 50 dX5_inPurses_18 (by decide) (fun c47 => ?_) (fun c47 => ?_)
      · refine tw_iload_n 2 dX5_inPurses_50 rfl rfl ?_
        exact tw_iret dX5_inPurses_51 rfl (Or.inl ⟨_, rfl, rfl, by have z := tw_kge (N := 6) c47 (by omega); have z2 := li44; rw [show min k37 (g.2 7) = g.2 7 by omega] at z2; exact z2⟩)
      · have kl48 := tw_klt (N := 6) c47 hk46 (by decide)
        refine tw_aload_n 3 dX5_inPurses_21 rfl rfl ?_
        refine tw_iload 5 dX5_inPurses_22 rfl ?_
        cases k49 : F30 ((nI k37)).toNatClampNeg with
        | none =>
          refine tw_aald (v := .null) 5 rfl rfl dX5_inPurses_24 f29 (vp_in_nI (by omega) (by decide)) (by rw [k49]; rfl) ?_
          refine tw_astoreN [(6, .null), (0, .ref x), (1, .int (nI k)), (2, .int x36), (3, .ref ha_5), (4, .int (nI 6)), (5, .int (nI k37))] dX5_inPurses_25 (by decide) rfl ?_
          have hv9 := k49
          rw [nI_clamp (by omega)] at hv9
          have pn9 := pn32 k37 (by omega)
          have hk9 : g.2 7 ≤ k37 := pn9.mp hv9
          have mn9 : min (k37 + 1) (g.2 7) = min k37 (g.2 7) := by omega
          refine tw_aloadN 0 dX5_inPurses_27 rfl ?_
          refine tw_ifnullN 44 dX5_inPurses_29 (by decide) ?_
          obtain ⟨v51, ev51⟩ : ∃ y : Int32, y = (nI k37) + 1 := ⟨_, rfl⟩
          refine tw_iinc [(5, .int v51), (6, .null), (0, .ref x), (1, .int (nI k)), (2, .int x36), (3, .ref ha_5), (4, .int (nI 6))] 6 dX5_inPurses_44 rfl (by rw [ev51]; rfl) (by decide) rfl ?_
          refine tw_goto 14 dX5_inPurses_47 (by decide) ?_
          have qv51 := tw_nI3 ev51
          rw [qv51]
          refine tw_lv [2, 3, 4, 5, 6, 0] rfl ?_
          exact ih39 (k37 + 1) x36 (by rw [mn9]; exact li44) (by omega) (by omega)
        | some q50 =>
          have k52 := k31 _ _ k49
          refine tw_aald (v := .ref q50) 5 rfl rfl dX5_inPurses_24 f29 (vp_in_nI (by omega) (by decide)) (by rw [k49]; rfl) ?_
          refine tw_astore [(6, .ref q50), (0, .ref x), (1, .int (nI k)), (2, .int x36), (3, .ref ha_5), (4, .int (nI 6)), (5, .int (nI k37))] dX5_inPurses_25 (by decide) rfl ?_
          have hv9 := k49
          rw [nI_clamp (by omega)] at hv9
          have pn9 := pn32 k37 (by omega)
          have hk9 : k37 < g.2 7 := by rcases Nat.lt_or_ge k37 (g.2 7) with z | z; exact z; rw [pn9.mpr z] at hv9; cases hv9
          have bq9 : g.2 (4096 + q50) = 768 + 32 * k37 := pf35 _ _ hv9
          have m09 : min k37 (g.2 7) = k37 := by omega
          have m19 : min (k37 + 1) (g.2 7) = k37 + 1 := by omega
          have hl9 := li44
          rw [m09] at hl9
          refine tw_aload 0 dX5_inPurses_27 rfl ?_
          refine tw_ifnull dX5_inPurses_29 ?_
          refine tw_iload_n 3 dX5_inPurses_32 rfl rfl ?_
          refine tw_aload 0 dX5_inPurses_33 rfl ?_
          obtain ⟨e53, f54, n_55, ar_56, p_57, pl_58, go_59, rfl, k60, k61, k62, k63⟩ := sp0.1 q50 3 k52 (by decide)
          obtain ⟨j64, ow65, fn9, fa9, pc66, pc67, lp68⟩ := k63
          obtain rfl : k37 = j64 := by have z := ow65.b bq9; omega
          subst fn9 fa9
          refine tw_getN (v := .ref p_57) rfl in_6 1 dX5_inPurses_35 w_639 rfl (by decide) f54 rfl ?_
          refine tw_iload_n 2 dX5_inPurses_38 rfl rfl ?_
          obtain ⟨e72, f73, a_74, b_75, rfl, k76⟩ := sp0.1 p_57 1 k60 (by decide)
          obtain ⟨b77, ow78, fa9, fb9⟩ := k76
          obtain rfl : (768 + 32 * k37 + 8) = b77 := (ow78.b lp68).symm
          subst fa9 fb9
          refine tw_bi (tw_callVN (M := mX5_inPurses) (pc := 39) okX3_of dX5_inPurses_39 w_189 rfl f73 [.int (nI k)] [.int x36] rfl rfl ⟨by decide, by decide⟩ (Nat.le_of_ble_eq_true rfl) (c4_X3_of d g τ h sp0.1 p_57 k60 (768 + 32 * k37 + 8) lp68 k (by omega)) 0 0 (Nat.le_of_ble_eq_true rfl) (Nat.le_of_ble_eq_true rfl)) (fun r71 h70 q69 => ?_) (fun E h1 q => q.elim)
          obtain ⟨q69e, q69v⟩ := q69
          rw [q69e]
          refine tw_iadd dX5_inPurses_42 ?_
          refine tw_nmi (fun v79 ev79 => ?_)
          refine tw_istore_n [(2, .int v79), (6, .ref q50), (0, .ref x), (1, .int (nI k)), (3, .ref ha_5), (4, .int (nI 6)), (5, .int (nI k37))] dX5_inPurses_43 rfl (by decide) rfl ?_
          obtain ⟨v80, ev80⟩ : ∃ y : Int32, y = (nI k37) + 1 := ⟨_, rfl⟩
          refine tw_iinc [(5, .int v80), (2, .int v79), (6, .ref q50), (0, .ref x), (1, .int (nI k)), (3, .ref ha_5), (4, .int (nI 6))] 6 dX5_inPurses_44 rfl (by rw [ev80]; rfl) (by decide) rfl ?_
          refine tw_goto 14 dX5_inPurses_47 (by decide) ?_
          have qv80 := tw_nI3 ev80
          rw [qv80]
          refine tw_lv [3, 4, 1, 5, 6, 0] rfl ?_
          exact ih39 (k37 + 1) v79 (by rw [m19]; show v79 = tw_isum (fun j => g.1 (768 + 32 * j + 8 + k)) k37 + (g.1 (768 + 32 * k37 + 8 + k) : Int32); rw [ev79, q69v, hl9]) (by omega) (by omega)
  refine tw_lv [4, 5, 3, 2, 1, 0] rfl ?_
  exact L40 (6 + 1) 0 0 (by rw [Nat.zero_min]; rfl) (by omega) (by omega)

theorem tw_pc_a {d : tw_D} {g : tw_G} {τ : tw_K} {h : tw_H} {pl : Option Nat} {c : Int32} {a ja : Nat} (hw : tw_wt d g τ h) (p : tw_pc g pl c) (ok : ∀ q, pl = some q → τ q = 2) (ka : τ a = 2) (hba : g.2 (4096 + a) = 160 + 64 * ja) (hj : ja < 4) : c = nI ja ↔ pl = some a := by
  rcases p with ⟨e, ec⟩ | ⟨q, i, e, hi, ec, hb⟩
  · rw [e, ec]
    exact ⟨fun z => absurd z.symm (tw_nm1 (by omega)), fun z => by cases z⟩
  · rw [e, ec]
    constructor
    · intro z
      rw [tw_own2 hw (ok q e) ka (by rw [hb, hba, tw_nIj z (by omega) (by omega)])]
    · intro z
      have y := Option.some.inj z
      rw [y, hba] at hb
      rw [show i = ja by omega]
set_option maxHeartbeats 4000000 in
set_option maxRecDepth 100000 in
theorem c4_X5_housesIn (d : tw_D) (g : tw_G) (τ : tw_K) (h : tw_H) (hw : tw_wt d g τ h) (x : Nat) (kx : τ x = 11) (a : Nat) (ka : τ a = 2) (ja : Nat) (hja : ja < g.2 6) (hba : g.2 (4096 + a) = 160 + 64 * ja) : tw_Ct d mX5_housesIn 0 0 [.ref x, .ref a] h (tw_qi (fun r h1 => h1 = h ∧ r = tw_isum (fun j => if g.1 (768 + 32 * j + 1) = nI ja then 1 else 0) (g.2 7)) tw_nx) := by
  refine tw_of (by decide +kernel) (Nat.le_of_ble_eq_true rfl) ?_
  show tw_W d mX5_housesIn _ 0 [(0, .ref x), (1, .ref a)] [] h 0 0
  have sp0 := tw_sp.rf hw
  have b9 := tw_b678 hw kx
  refine tw_iconst (v := 0) dX5_housesIn_0 (by decide) ?_
  refine tw_istore_n [(2, .int 0), (0, .ref x), (1, .ref a)] dX5_housesIn_1 rfl (by decide) rfl ?_
  refine tw_aload_n 1 dX5_housesIn_2 rfl rfl ?_
  obtain ⟨e1, f2, td_3, ca_4, ha_5, da_6, c1_7, c2_8, c3_9, c4_10, rfl, k11, k12, k13, k14, k15, k16, k17, k18, k19, k20, k21, k22, k23, k24, k25, k26, k27⟩ := sp0.1 x 11 kx (by decide)
  refine tw_get (v := .ref ha_5) rfl in_9 4 dX5_housesIn_3 w_144 rfl (by decide) f2 rfl ?_
  refine tw_astore_n [(3, .ref ha_5), (2, .int 0), (0, .ref x), (1, .ref a)] dX5_housesIn_6 rfl (by decide) rfl ?_
  refine tw_aload_n 0 dX5_housesIn_7 rfl rfl ?_
  obtain ⟨e28, f29, F30, rfl, k31, pn32, pb33, px34, pf35⟩ := sp0.1 ha_5 9 k12 (by decide)
  refine tw_alen (v := nI 6) 5 rfl dX5_housesIn_8 f29 rfl ?_
  refine tw_istore [(4, .int (nI 6)), (3, .ref ha_5), (2, .int 0), (0, .ref x), (1, .ref a)] dX5_housesIn_9 (by decide) rfl ?_
  refine tw_iconst (v := 0) dX5_housesIn_11 (by decide) ?_
  refine tw_istore [(5, .int 0), (4, .int (nI 6)), (3, .ref ha_5), (2, .int 0), (0, .ref x), (1, .ref a)] dX5_housesIn_12 (by decide) rfl ?_
  have L40 : ∀ (r38 k37 : Nat) (x36 : Int32) (li44 : x36 = tw_isum (fun j => if g.1 (768 + 32 * j + 1) = nI ja then 1 else 0) (min k37 (g.2 7))), 6 + 1 ≤ k37 + r38 → k37 ≤ 6 → tw_W d mX5_housesIn (tw_qi (fun r h1 => h1 = h ∧ r = tw_isum (fun j => if g.1 (768 + 32 * j + 1) = nI ja then 1 else 0) (g.2 7)) tw_nx) 14 [(0, .ref x), (1, .ref a), (2, .int x36), (3, .ref ha_5), (4, .int (nI 6)), (5, .int (nI k37))] [] h 0 0 := by
    intro r38
    induction r38 with
    | zero => intro k37 x36 li44 hk45 hk46; exact absurd hk45 (by omega)
    | succ r38 ih39 =>
      intro k37 x36 li44 hk45 hk46
      refine tw_iload 5 dX5_housesIn_14 rfl ?_
      refine tw_iload 4 dX5_housesIn_16 rfl ?_
      refine tw_icmp_ge 50 dX5_housesIn_18 (by decide) (fun c47 => ?_) (fun c47 => ?_)
      · refine tw_iload_n 2 dX5_housesIn_50 rfl rfl ?_
        exact tw_iret dX5_housesIn_51 rfl (Or.inl ⟨_, rfl, rfl, by have z := tw_kge (N := 6) c47 (by omega); have z2 := li44; rw [show min k37 (g.2 7) = g.2 7 by omega] at z2; exact z2⟩)
      · have kl48 := tw_klt (N := 6) c47 hk46 (by decide)
        refine tw_aload_n 3 dX5_housesIn_21 rfl rfl ?_
        refine tw_iload 5 dX5_housesIn_22 rfl ?_
        cases k49 : F30 ((nI k37)).toNatClampNeg with
        | none =>
          refine tw_aald (v := .null) 5 rfl rfl dX5_housesIn_24 f29 (vp_in_nI (by omega) (by decide)) (by rw [k49]; rfl) ?_
          refine tw_astoreN [(6, .null), (0, .ref x), (1, .ref a), (2, .int x36), (3, .ref ha_5), (4, .int (nI 6)), (5, .int (nI k37))] dX5_housesIn_25 (by decide) rfl ?_
          have hv9 := k49
          rw [nI_clamp (by omega)] at hv9
          have pn9 := pn32 k37 (by omega)
          have hk9 : g.2 7 ≤ k37 := pn9.mp hv9
          have mn9 : min (k37 + 1) (g.2 7) = min k37 (g.2 7) := by omega
          refine tw_aloadN 0 dX5_housesIn_27 rfl ?_
          refine tw_ifnullN 44 dX5_housesIn_29 (by decide) ?_
          obtain ⟨v51, ev51⟩ : ∃ y : Int32, y = (nI k37) + 1 := ⟨_, rfl⟩
          refine tw_iinc [(5, .int v51), (6, .null), (0, .ref x), (1, .ref a), (2, .int x36), (3, .ref ha_5), (4, .int (nI 6))] 6 dX5_housesIn_44 rfl (by rw [ev51]; rfl) (by decide) rfl ?_
          refine tw_goto 14 dX5_housesIn_47 (by decide) ?_
          have qv51 := tw_nI3 ev51
          rw [qv51]
          refine tw_lv [2, 3, 4, 5, 6, 0] rfl ?_
          exact ih39 (k37 + 1) x36 (by rw [mn9]; exact li44) (by omega) (by omega)
        | some q50 =>
          have k52 := k31 _ _ k49
          refine tw_aald (v := .ref q50) 5 rfl rfl dX5_housesIn_24 f29 (vp_in_nI (by omega) (by decide)) (by rw [k49]; rfl) ?_
          refine tw_astore [(6, .ref q50), (0, .ref x), (1, .ref a), (2, .int x36), (3, .ref ha_5), (4, .int (nI 6)), (5, .int (nI k37))] dX5_housesIn_25 (by decide) rfl ?_
          have hv9 := k49
          rw [nI_clamp (by omega)] at hv9
          have pn9 := pn32 k37 (by omega)
          have hk9 : k37 < g.2 7 := by rcases Nat.lt_or_ge k37 (g.2 7) with z | z; exact z; rw [pn9.mpr z] at hv9; cases hv9
          have bq9 : g.2 (4096 + q50) = 768 + 32 * k37 := pf35 _ _ hv9
          have m09 : min k37 (g.2 7) = k37 := by omega
          have m19 : min (k37 + 1) (g.2 7) = k37 + 1 := by omega
          have hl9 := li44
          rw [m09] at hl9
          refine tw_aload 0 dX5_housesIn_27 rfl ?_
          refine tw_ifnull dX5_housesIn_29 ?_
          refine tw_aload 0 dX5_housesIn_32 rfl ?_
          obtain ⟨e53, f54, n_55, ar_56, p_57, pl_58, go_59, rfl, k60, k61, k62, k63⟩ := sp0.1 q50 3 k52 (by decide)
          obtain ⟨j64, ow65, fn9, fa9, pc66, pc67, lp68⟩ := k63
          obtain rfl : k37 = j64 := by have z := ow65.b bq9; omega
          subst fn9 fa9
          refine tw_getN (v := va_rf pl_58) rfl in_6 2 dX5_housesIn_34 w_641 rfl (by decide) f54 rfl ?_
          refine tw_aload_n 2 dX5_housesIn_37 rfl rfl ?_
          refine tw_acmp_ne (rx := (pl_58)) (ry := (some a)) 44 dX5_housesIn_38 (by decide) (fun c69 => ?_) (fun c69 => ?_)
          · have pa9 := tw_pc_a sp0.1 pc66 k61 ka hba (by omega)
            have fz9 : (if g.1 (768 + 32 * k37 + 1) = nI ja then 1 else 0 : Int32) = 0 := if_neg (fun z => c69 (pa9.mp z))
            obtain ⟨v70, ev70⟩ : ∃ y : Int32, y = (nI k37) + 1 := ⟨_, rfl⟩
            refine tw_iinc [(5, .int v70), (6, .ref q50), (0, .ref x), (1, .ref a), (2, .int x36), (3, .ref ha_5), (4, .int (nI 6))] 6 dX5_housesIn_44 rfl (by rw [ev70]; rfl) (by decide) rfl ?_
            refine tw_goto 14 dX5_housesIn_47 (by decide) ?_
            have qv70 := tw_nI3 ev70
            rw [qv70]
            refine tw_lv [2, 3, 4, 5, 6, 0] rfl ?_
            exact ih39 (k37 + 1) x36 (by rw [m19]; show x36 = tw_isum (fun j => if g.1 (768 + 32 * j + 1) = nI ja then 1 else 0) k37 + (if g.1 (768 + 32 * k37 + 1) = nI ja then 1 else 0 : Int32); rw [fz9, Int32.add_zero]; exact hl9) (by omega) (by omega)
          · have pa9 := tw_pc_a sp0.1 pc66 k61 ka hba (by omega)
            have fo9 : (if g.1 (768 + 32 * k37 + 1) = nI ja then 1 else 0 : Int32) = 1 := if_pos (pa9.mpr c69)
            obtain ⟨v71, ev71⟩ : ∃ y : Int32, y = x36 + 1 := ⟨_, rfl⟩
            refine tw_iinc [(2, .int v71), (6, .ref q50), (0, .ref x), (1, .ref a), (3, .ref ha_5), (4, .int (nI 6)), (5, .int (nI k37))] 3 dX5_housesIn_41 rfl (by rw [ev71]; rfl) (by decide) rfl ?_
            obtain ⟨v72, ev72⟩ : ∃ y : Int32, y = (nI k37) + 1 := ⟨_, rfl⟩
            refine tw_iinc [(5, .int v72), (2, .int v71), (6, .ref q50), (0, .ref x), (1, .ref a), (3, .ref ha_5), (4, .int (nI 6))] 6 dX5_housesIn_44 rfl (by rw [ev72]; rfl) (by decide) rfl ?_
            refine tw_goto 14 dX5_housesIn_47 (by decide) ?_
            have qv72 := tw_nI3 ev72
            rw [qv72]
            refine tw_lv [3, 4, 1, 5, 6, 0] rfl ?_
            exact ih39 (k37 + 1) v71 (by rw [m19]; show v71 = tw_isum (fun j => if g.1 (768 + 32 * j + 1) = nI ja then 1 else 0) k37 + (if g.1 (768 + 32 * k37 + 1) = nI ja then 1 else 0 : Int32); rw [ev71, fo9, hl9]) (by omega) (by omega)
  refine tw_lv [4, 5, 3, 2, 1, 0] rfl ?_
  exact L40 (6 + 1) 0 0 (by rw [Nat.zero_min]; rfl) (by omega) (by omega)

set_option maxHeartbeats 4000000 in
set_option maxRecDepth 100000 in
theorem c4_X5_countriesWithRate (d : tw_D) (g : tw_G) (τ : tw_K) (h : tw_H) (hw : tw_wt d g τ h) (x : Nat) (kx : τ x = 11) (rt : Int32) : tw_Ct d mX5_countriesWithRate 0 0 [.ref x, .int rt] h (tw_qi (fun r h1 => h1 = h ∧ r = tw_isum (fun j => if g.1 (160 + 64 * j) = rt then 1 else 0) (g.2 6)) tw_nx) := by
  refine tw_of (by decide +kernel) (Nat.le_of_ble_eq_true rfl) ?_
  show tw_W d mX5_countriesWithRate _ 0 [(0, .ref x), (1, .int rt)] [] h 0 0
  have sp0 := tw_sp.rf hw
  have b9 := tw_b678 hw kx
  refine tw_iconst (v := 0) dX5_countriesWithRate_0 (by decide) ?_
  refine tw_istore_n [(2, .int 0), (0, .ref x), (1, .int rt)] dX5_countriesWithRate_1 rfl (by decide) rfl ?_
  refine tw_aload_n 1 dX5_countriesWithRate_2 rfl rfl ?_
  obtain ⟨e1, f2, td_3, ca_4, ha_5, da_6, c1_7, c2_8, c3_9, c4_10, rfl, k11, k12, k13, k14, k15, k16, k17, k18, k19, k20, k21, k22, k23, k24, k25, k26, k27⟩ := sp0.1 x 11 kx (by decide)
  refine tw_get (v := .ref ca_4) rfl in_9 2 dX5_countriesWithRate_3 w_142 rfl (by decide) f2 rfl ?_
  refine tw_astore_n [(3, .ref ca_4), (2, .int 0), (0, .ref x), (1, .int rt)] dX5_countriesWithRate_6 rfl (by decide) rfl ?_
  refine tw_aload_n 0 dX5_countriesWithRate_7 rfl rfl ?_
  obtain ⟨e28, f29, F30, rfl, k31, pn32, pb33, px34, pf35⟩ := sp0.1 ca_4 8 k11 (by decide)
  refine tw_alen (v := nI 4) 4 rfl dX5_countriesWithRate_8 f29 rfl ?_
  refine tw_istore [(4, .int (nI 4)), (3, .ref ca_4), (2, .int 0), (0, .ref x), (1, .int rt)] dX5_countriesWithRate_9 (by decide) rfl ?_
  refine tw_iconst (v := 0) dX5_countriesWithRate_11 (by decide) ?_
  refine tw_istore [(5, .int 0), (4, .int (nI 4)), (3, .ref ca_4), (2, .int 0), (0, .ref x), (1, .int rt)] dX5_countriesWithRate_12 (by decide) rfl ?_
  have L40 : ∀ (r38 k37 : Nat) (x36 : Int32) (li44 : x36 = tw_isum (fun j => if g.1 (160 + 64 * j) = rt then 1 else 0) (min k37 (g.2 6))), 4 + 1 ≤ k37 + r38 → k37 ≤ 4 → tw_W d mX5_countriesWithRate (tw_qi (fun r h1 => h1 = h ∧ r = tw_isum (fun j => if g.1 (160 + 64 * j) = rt then 1 else 0) (g.2 6)) tw_nx) 14 [(0, .ref x), (1, .int rt), (2, .int x36), (3, .ref ca_4), (4, .int (nI 4)), (5, .int (nI k37))] [] h 0 0 := by
    intro r38
    induction r38 with
    | zero => intro k37 x36 li44 hk45 hk46; exact absurd hk45 (by omega)
    | succ r38 ih39 =>
      intro k37 x36 li44 hk45 hk46
      refine tw_iload 5 dX5_countriesWithRate_14 rfl ?_
      refine tw_iload 4 dX5_countriesWithRate_16 rfl ?_
      refine tw_icmp_ge 50 dX5_countriesWithRate_18 (by decide) (fun c47 => ?_) (fun c47 => ?_)
      · refine tw_iload_n 2 dX5_countriesWithRate_50 rfl rfl ?_
        exact tw_iret dX5_countriesWithRate_51 rfl (Or.inl ⟨_, rfl, rfl, by have z := tw_kge (N := 4) c47 (by omega); have z2 := li44; rw [show min k37 (g.2 6) = g.2 6 by omega] at z2; exact z2⟩)
      · have kl48 := tw_klt (N := 4) c47 hk46 (by decide)
        refine tw_aload_n 3 dX5_countriesWithRate_21 rfl rfl ?_
        refine tw_iload 5 dX5_countriesWithRate_22 rfl ?_
        cases k49 : F30 ((nI k37)).toNatClampNeg with
        | none =>
          refine tw_aald (v := .null) 4 rfl rfl dX5_countriesWithRate_24 f29 (vp_in_nI (by omega) (by decide)) (by rw [k49]; rfl) ?_
          refine tw_astoreN [(6, .null), (0, .ref x), (1, .int rt), (2, .int x36), (3, .ref ca_4), (4, .int (nI 4)), (5, .int (nI k37))] dX5_countriesWithRate_25 (by decide) rfl ?_
          have hv9 := k49
          rw [nI_clamp (by omega)] at hv9
          have pn9 := pn32 k37 (by omega)
          have hk9 : g.2 6 ≤ k37 := pn9.mp hv9
          have mn9 : min (k37 + 1) (g.2 6) = min k37 (g.2 6) := by omega
          refine tw_aloadN 0 dX5_countriesWithRate_27 rfl ?_
          refine tw_ifnullN 44 dX5_countriesWithRate_29 (by decide) ?_
          obtain ⟨v51, ev51⟩ : ∃ y : Int32, y = (nI k37) + 1 := ⟨_, rfl⟩
          refine tw_iinc [(5, .int v51), (6, .null), (0, .ref x), (1, .int rt), (2, .int x36), (3, .ref ca_4), (4, .int (nI 4))] 6 dX5_countriesWithRate_44 rfl (by rw [ev51]; rfl) (by decide) rfl ?_
          refine tw_goto 14 dX5_countriesWithRate_47 (by decide) ?_
          have qv51 := tw_nI3 ev51
          rw [qv51]
          refine tw_lv [2, 3, 4, 5, 6, 0] rfl ?_
          exact ih39 (k37 + 1) x36 (by rw [mn9]; exact li44) (by omega) (by omega)
        | some q50 =>
          have k52 := k31 _ _ k49
          refine tw_aald (v := .ref q50) 4 rfl rfl dX5_countriesWithRate_24 f29 (vp_in_nI (by omega) (by decide)) (by rw [k49]; rfl) ?_
          refine tw_astore [(6, .ref q50), (0, .ref x), (1, .int rt), (2, .int x36), (3, .ref ca_4), (4, .int (nI 4)), (5, .int (nI k37))] dX5_countriesWithRate_25 (by decide) rfl ?_
          have hv9 := k49
          rw [nI_clamp (by omega)] at hv9
          have pn9 := pn32 k37 (by omega)
          have hk9 : k37 < g.2 6 := by rcases Nat.lt_or_ge k37 (g.2 6) with z | z; exact z; rw [pn9.mpr z] at hv9; cases hv9
          have bq9 : g.2 (4096 + q50) = 160 + 64 * k37 := pf35 _ _ hv9
          have m09 : min k37 (g.2 6) = k37 := by omega
          have m19 : min (k37 + 1) (g.2 6) = k37 + 1 := by omega
          have hl9 := li44
          rw [m09] at hl9
          refine tw_aload 0 dX5_countriesWithRate_27 rfl ?_
          refine tw_ifnull dX5_countriesWithRate_29 ?_
          refine tw_aload 0 dX5_countriesWithRate_32 rfl ?_
          obtain ⟨e53, f54, n_55, r_56, c_57, go_58, so_59, v_60, rd_61, rf_62, t_63, rfl, k64, k65, k66, k67, k68, k69, k70, k71, k72⟩ := sp0.1 q50 2 k52 (by decide)
          obtain ⟨j73, ow74, fn9, fr9, fc9, fg9, fs9, q75, q76, q77, q78⟩ := k72
          obtain rfl : k37 = j73 := by have z := ow74.b bq9; omega
          subst fn9 fr9 fc9 fg9 fs9
          refine tw_getN (v := .int (g.1 (160 + 64 * k37))) rfl in_4 1 dX5_countriesWithRate_34 w_504 rfl (by decide) f54 rfl ?_
          refine tw_iload_n 2 dX5_countriesWithRate_37 rfl rfl ?_
          refine tw_icmp_ne 44 dX5_countriesWithRate_38 (by decide) (fun c79 => ?_) (fun c79 => ?_)
          · have fz9 : (if g.1 (160 + 64 * k37) = rt then 1 else 0 : Int32) = 0 := if_neg c79
            obtain ⟨v80, ev80⟩ : ∃ y : Int32, y = (nI k37) + 1 := ⟨_, rfl⟩
            refine tw_iinc [(5, .int v80), (6, .ref q50), (0, .ref x), (1, .int rt), (2, .int x36), (3, .ref ca_4), (4, .int (nI 4))] 6 dX5_countriesWithRate_44 rfl (by rw [ev80]; rfl) (by decide) rfl ?_
            refine tw_goto 14 dX5_countriesWithRate_47 (by decide) ?_
            have qv80 := tw_nI3 ev80
            rw [qv80]
            refine tw_lv [2, 3, 4, 5, 6, 0] rfl ?_
            exact ih39 (k37 + 1) x36 (by rw [m19]; show x36 = tw_isum (fun j => if g.1 (160 + 64 * j) = rt then 1 else 0) k37 + (if g.1 (160 + 64 * k37) = rt then 1 else 0 : Int32); rw [fz9, Int32.add_zero]; exact hl9) (by omega) (by omega)
          · have fo9 : (if g.1 (160 + 64 * k37) = rt then 1 else 0 : Int32) = 1 := if_pos c79
            obtain ⟨v81, ev81⟩ : ∃ y : Int32, y = x36 + 1 := ⟨_, rfl⟩
            refine tw_iinc [(2, .int v81), (6, .ref q50), (0, .ref x), (1, .int rt), (3, .ref ca_4), (4, .int (nI 4)), (5, .int (nI k37))] 3 dX5_countriesWithRate_41 rfl (by rw [ev81]; rfl) (by decide) rfl ?_
            obtain ⟨v82, ev82⟩ : ∃ y : Int32, y = (nI k37) + 1 := ⟨_, rfl⟩
            refine tw_iinc [(5, .int v82), (2, .int v81), (6, .ref q50), (0, .ref x), (1, .int rt), (3, .ref ca_4), (4, .int (nI 4))] 6 dX5_countriesWithRate_44 rfl (by rw [ev82]; rfl) (by decide) rfl ?_
            refine tw_goto 14 dX5_countriesWithRate_47 (by decide) ?_
            have qv82 := tw_nI3 ev82
            rw [qv82]
            refine tw_lv [3, 4, 1, 5, 6, 0] rfl ?_
            exact ih39 (k37 + 1) v81 (by rw [m19]; show v81 = tw_isum (fun j => if g.1 (160 + 64 * j) = rt then 1 else 0) k37 + (if g.1 (160 + 64 * k37) = rt then 1 else 0 : Int32); rw [ev81, fo9, hl9]) (by omega) (by omega)
  refine tw_lv [4, 5, 3, 2, 1, 0] rfl ?_
  exact L40 (4 + 1) 0 0 (by rw [Nat.zero_min]; rfl) (by omega) (by omega)

theorem tw_own3 {d : tw_D} {g : tw_G} {τ : tw_K} {h : tw_H} {a b : Nat} (hw : tw_wt d g τ h) (ka : τ a = 3) (kb : τ b = 3) (e : g.2 (4096 + a) = g.2 (4096 + b)) : a = b := by
  obtain ⟨e1, he1, n1, ar1, p1, pl1, go1, eq1, _, _, _, j1, oa, _⟩ := hw a 3 ka (by decide)
  obtain ⟨e2, he2, n2, ar2, p2, pl2, go2, eq2, _, _, _, j2, ob, _⟩ := hw b 3 kb (by decide)
  have ea := oa.2.2.2.2
  have eb := ob.2.2.2.2
  rw [oa.2.2.2.1, ob.2.2.2.1, ← ea, ← eb, e]
set_option maxHeartbeats 4000000 in
set_option maxRecDepth 100000 in
theorem c4_X5_unpaidDebtsOf (d : tw_D) (g : tw_G) (τ : tw_K) (h : tw_H) (hw : tw_wt d g τ h) (x : Nat) (kx : τ x = 11) (a : Nat) (ka : τ a = 3) (ja : Nat) (hja : ja < g.2 7) (hba : g.2 (4096 + a) = 768 + 32 * ja) : tw_Ct d mX5_unpaidDebtsOf 0 0 [.ref x, .ref a] h (tw_qi (fun r h1 => h1 = h ∧ r = tw_isum (fun j => if g.1 (1152 + 8 * j + 2) = 0 ∧ g.1 (1152 + 8 * j + 3) = nI ja then 1 else 0) (g.2 8)) tw_nx) := by
  refine tw_of (by decide +kernel) (Nat.le_of_ble_eq_true rfl) ?_
  show tw_W d mX5_unpaidDebtsOf _ 0 [(0, .ref x), (1, .ref a)] [] h 0 0
  have sp0 := tw_sp.rf hw
  have b9 := tw_b678 hw kx
  refine tw_iconst (v := 0) dX5_unpaidDebtsOf_0 (by decide) ?_
  refine tw_istore_n [(2, .int 0), (0, .ref x), (1, .ref a)] dX5_unpaidDebtsOf_1 rfl (by decide) rfl ?_
  refine tw_aload_n 1 dX5_unpaidDebtsOf_2 rfl rfl ?_
  obtain ⟨e1, f2, td_3, ca_4, ha_5, da_6, c1_7, c2_8, c3_9, c4_10, rfl, k11, k12, k13, k14, k15, k16, k17, k18, k19, k20, k21, k22, k23, k24, k25, k26, k27⟩ := sp0.1 x 11 kx (by decide)
  refine tw_get (v := .ref da_6) rfl in_9 6 dX5_unpaidDebtsOf_3 w_146 rfl (by decide) f2 rfl ?_
  refine tw_astore_n [(3, .ref da_6), (2, .int 0), (0, .ref x), (1, .ref a)] dX5_unpaidDebtsOf_6 rfl (by decide) rfl ?_
  refine tw_aload_n 0 dX5_unpaidDebtsOf_7 rfl rfl ?_
  obtain ⟨e28, f29, F30, rfl, k31, pn32, pb33, px34, pf35⟩ := sp0.1 da_6 10 k13 (by decide)
  refine tw_alen (v := nI 10) 6 rfl dX5_unpaidDebtsOf_8 f29 rfl ?_
  refine tw_istore [(4, .int (nI 10)), (3, .ref da_6), (2, .int 0), (0, .ref x), (1, .ref a)] dX5_unpaidDebtsOf_9 (by decide) rfl ?_
  refine tw_iconst (v := 0) dX5_unpaidDebtsOf_11 (by decide) ?_
  refine tw_istore [(5, .int 0), (4, .int (nI 10)), (3, .ref da_6), (2, .int 0), (0, .ref x), (1, .ref a)] dX5_unpaidDebtsOf_12 (by decide) rfl ?_
  have L40 : ∀ (r38 k37 : Nat) (x36 : Int32) (li44 : x36 = tw_isum (fun j => if g.1 (1152 + 8 * j + 2) = 0 ∧ g.1 (1152 + 8 * j + 3) = nI ja then 1 else 0) (min k37 (g.2 8))), 10 + 1 ≤ k37 + r38 → k37 ≤ 10 → tw_W d mX5_unpaidDebtsOf (tw_qi (fun r h1 => h1 = h ∧ r = tw_isum (fun j => if g.1 (1152 + 8 * j + 2) = 0 ∧ g.1 (1152 + 8 * j + 3) = nI ja then 1 else 0) (g.2 8)) tw_nx) 14 [(0, .ref x), (1, .ref a), (2, .int x36), (3, .ref da_6), (4, .int (nI 10)), (5, .int (nI k37))] [] h 0 0 := by
    intro r38
    induction r38 with
    | zero => intro k37 x36 li44 hk45 hk46; exact absurd hk45 (by omega)
    | succ r38 ih39 =>
      intro k37 x36 li44 hk45 hk46
      refine tw_iload 5 dX5_unpaidDebtsOf_14 rfl ?_
      refine tw_iload 4 dX5_unpaidDebtsOf_16 rfl ?_
      refine tw_icmp_ge 58 dX5_unpaidDebtsOf_18 (by decide) (fun c47 => ?_) (fun c47 => ?_)
      · refine tw_iload_n 2 dX5_unpaidDebtsOf_58 rfl rfl ?_
        exact tw_iret dX5_unpaidDebtsOf_59 rfl (Or.inl ⟨_, rfl, rfl, by have z := tw_kge (N := 10) c47 (by omega); have z2 := li44; rw [show min k37 (g.2 8) = g.2 8 by omega] at z2; exact z2⟩)
      · have kl48 := tw_klt (N := 10) c47 hk46 (by decide)
        refine tw_aload_n 3 dX5_unpaidDebtsOf_21 rfl rfl ?_
        refine tw_iload 5 dX5_unpaidDebtsOf_22 rfl ?_
        cases k49 : F30 ((nI k37)).toNatClampNeg with
        | none =>
          refine tw_aald (v := .null) 6 rfl rfl dX5_unpaidDebtsOf_24 f29 (vp_in_nI (by omega) (by decide)) (by rw [k49]; rfl) ?_
          refine tw_astoreN [(6, .null), (0, .ref x), (1, .ref a), (2, .int x36), (3, .ref da_6), (4, .int (nI 10)), (5, .int (nI k37))] dX5_unpaidDebtsOf_25 (by decide) rfl ?_
          have hv9 := k49
          rw [nI_clamp (by omega)] at hv9
          have pn9 := pn32 k37 (by omega)
          have hk9 : g.2 8 ≤ k37 := pn9.mp hv9
          have mn9 : min (k37 + 1) (g.2 8) = min k37 (g.2 8) := by omega
          refine tw_aloadN 0 dX5_unpaidDebtsOf_27 rfl ?_
          refine tw_ifnullN 52 dX5_unpaidDebtsOf_29 (by decide) ?_
          obtain ⟨v51, ev51⟩ : ∃ y : Int32, y = (nI k37) + 1 := ⟨_, rfl⟩
          refine tw_iinc [(5, .int v51), (6, .null), (0, .ref x), (1, .ref a), (2, .int x36), (3, .ref da_6), (4, .int (nI 10))] 6 dX5_unpaidDebtsOf_52 rfl (by rw [ev51]; rfl) (by decide) rfl ?_
          refine tw_goto 14 dX5_unpaidDebtsOf_55 (by decide) ?_
          have qv51 := tw_nI3 ev51
          rw [qv51]
          refine tw_lv [2, 3, 4, 5, 6, 0] rfl ?_
          exact ih39 (k37 + 1) x36 (by rw [mn9]; exact li44) (by omega) (by omega)
        | some q50 =>
          have k52 := k31 _ _ k49
          refine tw_aald (v := .ref q50) 6 rfl rfl dX5_unpaidDebtsOf_24 f29 (vp_in_nI (by omega) (by decide)) (by rw [k49]; rfl) ?_
          refine tw_astore [(6, .ref q50), (0, .ref x), (1, .ref a), (2, .int x36), (3, .ref da_6), (4, .int (nI 10)), (5, .int (nI k37))] dX5_unpaidDebtsOf_25 (by decide) rfl ?_
          have hv9 := k49
          rw [nI_clamp (by omega)] at hv9
          have pn9 := pn32 k37 (by omega)
          have hk9 : k37 < g.2 8 := by rcases Nat.lt_or_ge k37 (g.2 8) with z | z; exact z; rw [pn9.mpr z] at hv9; cases hv9
          have bq9 : g.2 (4096 + q50) = 1152 + 8 * k37 := pf35 _ _ hv9
          have m09 : min k37 (g.2 8) = k37 := by omega
          have m19 : min (k37 + 1) (g.2 8) = k37 + 1 := by omega
          have hl9 := li44
          rw [m09] at hl9
          refine tw_aload 0 dX5_unpaidDebtsOf_27 rfl ?_
          refine tw_ifnull dX5_unpaidDebtsOf_29 ?_
          refine tw_aload 0 dX5_unpaidDebtsOf_32 rfl ?_
          obtain ⟨e53, f54, v_55, dy_56, pd_57, a_58, b_59, rfl, k60, k61, k62, k63⟩ := sp0.1 q50 4 k52 (by decide)
          obtain ⟨j64, ow65, fv9, fd9, fp9, ⟨i66, hi67, ei68, bi69⟩, i70, hi71, ei72, bi73⟩ := k63
          obtain rfl : k37 = j64 := by have z := ow65.b bq9; omega
          subst fv9 fd9 fp9
          refine tw_getN (v := .int (g.1 (1152 + 8 * k37 + 2))) rfl in_5 4 dX5_unpaidDebtsOf_34 w_728 rfl (by decide) f54 rfl ?_
          refine tw_if_ne 52 dX5_unpaidDebtsOf_37 (by decide) (fun c74 => ?_) (fun c74 => ?_)
          · have fz9 : (if g.1 (1152 + 8 * k37 + 2) = 0 ∧ g.1 (1152 + 8 * k37 + 3) = nI ja then 1 else 0 : Int32) = 0 := if_neg (fun z => c74 z.1)
            obtain ⟨v75, ev75⟩ : ∃ y : Int32, y = (nI k37) + 1 := ⟨_, rfl⟩
            refine tw_iinc [(5, .int v75), (6, .ref q50), (0, .ref x), (1, .ref a), (2, .int x36), (3, .ref da_6), (4, .int (nI 10))] 6 dX5_unpaidDebtsOf_52 rfl (by rw [ev75]; rfl) (by decide) rfl ?_
            refine tw_goto 14 dX5_unpaidDebtsOf_55 (by decide) ?_
            have qv75 := tw_nI3 ev75
            rw [qv75]
            refine tw_lv [2, 3, 4, 5, 6, 0] rfl ?_
            exact ih39 (k37 + 1) x36 (by rw [m19]; show x36 = tw_isum (fun j => if g.1 (1152 + 8 * j + 2) = 0 ∧ g.1 (1152 + 8 * j + 3) = nI ja then 1 else 0) k37 + (if g.1 (1152 + 8 * k37 + 2) = 0 ∧ g.1 (1152 + 8 * k37 + 3) = nI ja then 1 else 0 : Int32); rw [fz9, Int32.add_zero]; exact hl9) (by omega) (by omega)
          · have pd9 := c74
            refine tw_aload 0 dX5_unpaidDebtsOf_40 rfl ?_
            refine tw_getN (v := .ref a_58) rfl in_5 0 dX5_unpaidDebtsOf_42 w_720 rfl (by decide) f54 rfl ?_
            refine tw_aload_n 2 dX5_unpaidDebtsOf_45 rfl rfl ?_
            refine tw_acmp_ne (rx := (some a_58)) (ry := (some a)) 52 dX5_unpaidDebtsOf_46 (by decide) (fun c76 => ?_) (fun c76 => ?_)
            · have fz9 : (if g.1 (1152 + 8 * k37 + 2) = 0 ∧ g.1 (1152 + 8 * k37 + 3) = nI ja then 1 else 0 : Int32) = 0 := if_neg (fun z => c76 (congrArg some (tw_own3 sp0.1 k60 ka (by rw [bi69, hba, tw_nIj (ei68.symm.trans z.2) (by omega) (by omega)]))))
              obtain ⟨v77, ev77⟩ : ∃ y : Int32, y = (nI k37) + 1 := ⟨_, rfl⟩
              refine tw_iinc [(5, .int v77), (6, .ref q50), (0, .ref x), (1, .ref a), (2, .int x36), (3, .ref da_6), (4, .int (nI 10))] 6 dX5_unpaidDebtsOf_52 rfl (by rw [ev77]; rfl) (by decide) rfl ?_
              refine tw_goto 14 dX5_unpaidDebtsOf_55 (by decide) ?_
              have qv77 := tw_nI3 ev77
              rw [qv77]
              refine tw_lv [2, 3, 4, 5, 6, 0] rfl ?_
              exact ih39 (k37 + 1) x36 (by rw [m19]; show x36 = tw_isum (fun j => if g.1 (1152 + 8 * j + 2) = 0 ∧ g.1 (1152 + 8 * j + 3) = nI ja then 1 else 0) k37 + (if g.1 (1152 + 8 * k37 + 2) = 0 ∧ g.1 (1152 + 8 * k37 + 3) = nI ja then 1 else 0 : Int32); rw [fz9, Int32.add_zero]; exact hl9) (by omega) (by omega)
            · have ej9 : i66 = ja := by have z := Option.some.inj c76; have z2 := bi69; rw [z, hba] at z2; omega
              have fo9 : (if g.1 (1152 + 8 * k37 + 2) = 0 ∧ g.1 (1152 + 8 * k37 + 3) = nI ja then 1 else 0 : Int32) = 1 := if_pos ⟨pd9, by rw [ei68, ej9]⟩
              obtain ⟨v78, ev78⟩ : ∃ y : Int32, y = x36 + 1 := ⟨_, rfl⟩
              refine tw_iinc [(2, .int v78), (6, .ref q50), (0, .ref x), (1, .ref a), (3, .ref da_6), (4, .int (nI 10)), (5, .int (nI k37))] 3 dX5_unpaidDebtsOf_49 rfl (by rw [ev78]; rfl) (by decide) rfl ?_
              obtain ⟨v79, ev79⟩ : ∃ y : Int32, y = (nI k37) + 1 := ⟨_, rfl⟩
              refine tw_iinc [(5, .int v79), (2, .int v78), (6, .ref q50), (0, .ref x), (1, .ref a), (3, .ref da_6), (4, .int (nI 10))] 6 dX5_unpaidDebtsOf_52 rfl (by rw [ev79]; rfl) (by decide) rfl ?_
              refine tw_goto 14 dX5_unpaidDebtsOf_55 (by decide) ?_
              have qv79 := tw_nI3 ev79
              rw [qv79]
              refine tw_lv [3, 4, 1, 5, 6, 0] rfl ?_
              exact ih39 (k37 + 1) v78 (by rw [m19]; show v78 = tw_isum (fun j => if g.1 (1152 + 8 * j + 2) = 0 ∧ g.1 (1152 + 8 * j + 3) = nI ja then 1 else 0) k37 + (if g.1 (1152 + 8 * k37 + 2) = 0 ∧ g.1 (1152 + 8 * k37 + 3) = nI ja then 1 else 0 : Int32); rw [ev78, fo9, hl9]) (by omega) (by omega)
  refine tw_lv [4, 5, 3, 2, 1, 0] rfl ?_
  exact L40 (10 + 1) 0 0 (by rw [Nat.zero_min]; rfl) (by omega) (by omega)

set_option maxHeartbeats 4000000 in
set_option maxRecDepth 100000 in
theorem c4_X5_unpaidDebtsTo (d : tw_D) (g : tw_G) (τ : tw_K) (h : tw_H) (hw : tw_wt d g τ h) (x : Nat) (kx : τ x = 11) (a : Nat) (ka : τ a = 3) (ja : Nat) (hja : ja < g.2 7) (hba : g.2 (4096 + a) = 768 + 32 * ja) : tw_Ct d mX5_unpaidDebtsTo 0 0 [.ref x, .ref a] h (tw_qi (fun r h1 => h1 = h ∧ r = tw_isum (fun j => if g.1 (1152 + 8 * j + 2) = 0 ∧ g.1 (1152 + 8 * j + 4) = nI ja then 1 else 0) (g.2 8)) tw_nx) := by
  refine tw_of (by decide +kernel) (Nat.le_of_ble_eq_true rfl) ?_
  show tw_W d mX5_unpaidDebtsTo _ 0 [(0, .ref x), (1, .ref a)] [] h 0 0
  have sp0 := tw_sp.rf hw
  have b9 := tw_b678 hw kx
  refine tw_iconst (v := 0) dX5_unpaidDebtsTo_0 (by decide) ?_
  refine tw_istore_n [(2, .int 0), (0, .ref x), (1, .ref a)] dX5_unpaidDebtsTo_1 rfl (by decide) rfl ?_
  refine tw_aload_n 1 dX5_unpaidDebtsTo_2 rfl rfl ?_
  obtain ⟨e1, f2, td_3, ca_4, ha_5, da_6, c1_7, c2_8, c3_9, c4_10, rfl, k11, k12, k13, k14, k15, k16, k17, k18, k19, k20, k21, k22, k23, k24, k25, k26, k27⟩ := sp0.1 x 11 kx (by decide)
  refine tw_get (v := .ref da_6) rfl in_9 6 dX5_unpaidDebtsTo_3 w_146 rfl (by decide) f2 rfl ?_
  refine tw_astore_n [(3, .ref da_6), (2, .int 0), (0, .ref x), (1, .ref a)] dX5_unpaidDebtsTo_6 rfl (by decide) rfl ?_
  refine tw_aload_n 0 dX5_unpaidDebtsTo_7 rfl rfl ?_
  obtain ⟨e28, f29, F30, rfl, k31, pn32, pb33, px34, pf35⟩ := sp0.1 da_6 10 k13 (by decide)
  refine tw_alen (v := nI 10) 6 rfl dX5_unpaidDebtsTo_8 f29 rfl ?_
  refine tw_istore [(4, .int (nI 10)), (3, .ref da_6), (2, .int 0), (0, .ref x), (1, .ref a)] dX5_unpaidDebtsTo_9 (by decide) rfl ?_
  refine tw_iconst (v := 0) dX5_unpaidDebtsTo_11 (by decide) ?_
  refine tw_istore [(5, .int 0), (4, .int (nI 10)), (3, .ref da_6), (2, .int 0), (0, .ref x), (1, .ref a)] dX5_unpaidDebtsTo_12 (by decide) rfl ?_
  have L40 : ∀ (r38 k37 : Nat) (x36 : Int32) (li44 : x36 = tw_isum (fun j => if g.1 (1152 + 8 * j + 2) = 0 ∧ g.1 (1152 + 8 * j + 4) = nI ja then 1 else 0) (min k37 (g.2 8))), 10 + 1 ≤ k37 + r38 → k37 ≤ 10 → tw_W d mX5_unpaidDebtsTo (tw_qi (fun r h1 => h1 = h ∧ r = tw_isum (fun j => if g.1 (1152 + 8 * j + 2) = 0 ∧ g.1 (1152 + 8 * j + 4) = nI ja then 1 else 0) (g.2 8)) tw_nx) 14 [(0, .ref x), (1, .ref a), (2, .int x36), (3, .ref da_6), (4, .int (nI 10)), (5, .int (nI k37))] [] h 0 0 := by
    intro r38
    induction r38 with
    | zero => intro k37 x36 li44 hk45 hk46; exact absurd hk45 (by omega)
    | succ r38 ih39 =>
      intro k37 x36 li44 hk45 hk46
      refine tw_iload 5 dX5_unpaidDebtsTo_14 rfl ?_
      refine tw_iload 4 dX5_unpaidDebtsTo_16 rfl ?_
      refine tw_icmp_ge 58 dX5_unpaidDebtsTo_18 (by decide) (fun c47 => ?_) (fun c47 => ?_)
      · refine tw_iload_n 2 dX5_unpaidDebtsTo_58 rfl rfl ?_
        exact tw_iret dX5_unpaidDebtsTo_59 rfl (Or.inl ⟨_, rfl, rfl, by have z := tw_kge (N := 10) c47 (by omega); have z2 := li44; rw [show min k37 (g.2 8) = g.2 8 by omega] at z2; exact z2⟩)
      · have kl48 := tw_klt (N := 10) c47 hk46 (by decide)
        refine tw_aload_n 3 dX5_unpaidDebtsTo_21 rfl rfl ?_
        refine tw_iload 5 dX5_unpaidDebtsTo_22 rfl ?_
        cases k49 : F30 ((nI k37)).toNatClampNeg with
        | none =>
          refine tw_aald (v := .null) 6 rfl rfl dX5_unpaidDebtsTo_24 f29 (vp_in_nI (by omega) (by decide)) (by rw [k49]; rfl) ?_
          refine tw_astoreN [(6, .null), (0, .ref x), (1, .ref a), (2, .int x36), (3, .ref da_6), (4, .int (nI 10)), (5, .int (nI k37))] dX5_unpaidDebtsTo_25 (by decide) rfl ?_
          have hv9 := k49
          rw [nI_clamp (by omega)] at hv9
          have pn9 := pn32 k37 (by omega)
          have hk9 : g.2 8 ≤ k37 := pn9.mp hv9
          have mn9 : min (k37 + 1) (g.2 8) = min k37 (g.2 8) := by omega
          refine tw_aloadN 0 dX5_unpaidDebtsTo_27 rfl ?_
          refine tw_ifnullN 52 dX5_unpaidDebtsTo_29 (by decide) ?_
          obtain ⟨v51, ev51⟩ : ∃ y : Int32, y = (nI k37) + 1 := ⟨_, rfl⟩
          refine tw_iinc [(5, .int v51), (6, .null), (0, .ref x), (1, .ref a), (2, .int x36), (3, .ref da_6), (4, .int (nI 10))] 6 dX5_unpaidDebtsTo_52 rfl (by rw [ev51]; rfl) (by decide) rfl ?_
          refine tw_goto 14 dX5_unpaidDebtsTo_55 (by decide) ?_
          have qv51 := tw_nI3 ev51
          rw [qv51]
          refine tw_lv [2, 3, 4, 5, 6, 0] rfl ?_
          exact ih39 (k37 + 1) x36 (by rw [mn9]; exact li44) (by omega) (by omega)
        | some q50 =>
          have k52 := k31 _ _ k49
          refine tw_aald (v := .ref q50) 6 rfl rfl dX5_unpaidDebtsTo_24 f29 (vp_in_nI (by omega) (by decide)) (by rw [k49]; rfl) ?_
          refine tw_astore [(6, .ref q50), (0, .ref x), (1, .ref a), (2, .int x36), (3, .ref da_6), (4, .int (nI 10)), (5, .int (nI k37))] dX5_unpaidDebtsTo_25 (by decide) rfl ?_
          have hv9 := k49
          rw [nI_clamp (by omega)] at hv9
          have pn9 := pn32 k37 (by omega)
          have hk9 : k37 < g.2 8 := by rcases Nat.lt_or_ge k37 (g.2 8) with z | z; exact z; rw [pn9.mpr z] at hv9; cases hv9
          have bq9 : g.2 (4096 + q50) = 1152 + 8 * k37 := pf35 _ _ hv9
          have m09 : min k37 (g.2 8) = k37 := by omega
          have m19 : min (k37 + 1) (g.2 8) = k37 + 1 := by omega
          have hl9 := li44
          rw [m09] at hl9
          refine tw_aload 0 dX5_unpaidDebtsTo_27 rfl ?_
          refine tw_ifnull dX5_unpaidDebtsTo_29 ?_
          refine tw_aload 0 dX5_unpaidDebtsTo_32 rfl ?_
          obtain ⟨e53, f54, v_55, dy_56, pd_57, a_58, b_59, rfl, k60, k61, k62, k63⟩ := sp0.1 q50 4 k52 (by decide)
          obtain ⟨j64, ow65, fv9, fd9, fp9, ⟨i66, hi67, ei68, bi69⟩, i70, hi71, ei72, bi73⟩ := k63
          obtain rfl : k37 = j64 := by have z := ow65.b bq9; omega
          subst fv9 fd9 fp9
          refine tw_getN (v := .int (g.1 (1152 + 8 * k37 + 2))) rfl in_5 4 dX5_unpaidDebtsTo_34 w_728 rfl (by decide) f54 rfl ?_
          refine tw_if_ne 52 dX5_unpaidDebtsTo_37 (by decide) (fun c74 => ?_) (fun c74 => ?_)
          · have fz9 : (if g.1 (1152 + 8 * k37 + 2) = 0 ∧ g.1 (1152 + 8 * k37 + 4) = nI ja then 1 else 0 : Int32) = 0 := if_neg (fun z => c74 z.1)
            obtain ⟨v75, ev75⟩ : ∃ y : Int32, y = (nI k37) + 1 := ⟨_, rfl⟩
            refine tw_iinc [(5, .int v75), (6, .ref q50), (0, .ref x), (1, .ref a), (2, .int x36), (3, .ref da_6), (4, .int (nI 10))] 6 dX5_unpaidDebtsTo_52 rfl (by rw [ev75]; rfl) (by decide) rfl ?_
            refine tw_goto 14 dX5_unpaidDebtsTo_55 (by decide) ?_
            have qv75 := tw_nI3 ev75
            rw [qv75]
            refine tw_lv [2, 3, 4, 5, 6, 0] rfl ?_
            exact ih39 (k37 + 1) x36 (by rw [m19]; show x36 = tw_isum (fun j => if g.1 (1152 + 8 * j + 2) = 0 ∧ g.1 (1152 + 8 * j + 4) = nI ja then 1 else 0) k37 + (if g.1 (1152 + 8 * k37 + 2) = 0 ∧ g.1 (1152 + 8 * k37 + 4) = nI ja then 1 else 0 : Int32); rw [fz9, Int32.add_zero]; exact hl9) (by omega) (by omega)
          · have pd9 := c74
            refine tw_aload 0 dX5_unpaidDebtsTo_40 rfl ?_
            refine tw_getN (v := .ref b_59) rfl in_5 1 dX5_unpaidDebtsTo_42 w_722 rfl (by decide) f54 rfl ?_
            refine tw_aload_n 2 dX5_unpaidDebtsTo_45 rfl rfl ?_
            refine tw_acmp_ne (rx := (some b_59)) (ry := (some a)) 52 dX5_unpaidDebtsTo_46 (by decide) (fun c76 => ?_) (fun c76 => ?_)
            · have fz9 : (if g.1 (1152 + 8 * k37 + 2) = 0 ∧ g.1 (1152 + 8 * k37 + 4) = nI ja then 1 else 0 : Int32) = 0 := if_neg (fun z => c76 (congrArg some (tw_own3 sp0.1 k61 ka (by rw [bi73, hba, tw_nIj (ei72.symm.trans z.2) (by omega) (by omega)]))))
              obtain ⟨v77, ev77⟩ : ∃ y : Int32, y = (nI k37) + 1 := ⟨_, rfl⟩
              refine tw_iinc [(5, .int v77), (6, .ref q50), (0, .ref x), (1, .ref a), (2, .int x36), (3, .ref da_6), (4, .int (nI 10))] 6 dX5_unpaidDebtsTo_52 rfl (by rw [ev77]; rfl) (by decide) rfl ?_
              refine tw_goto 14 dX5_unpaidDebtsTo_55 (by decide) ?_
              have qv77 := tw_nI3 ev77
              rw [qv77]
              refine tw_lv [2, 3, 4, 5, 6, 0] rfl ?_
              exact ih39 (k37 + 1) x36 (by rw [m19]; show x36 = tw_isum (fun j => if g.1 (1152 + 8 * j + 2) = 0 ∧ g.1 (1152 + 8 * j + 4) = nI ja then 1 else 0) k37 + (if g.1 (1152 + 8 * k37 + 2) = 0 ∧ g.1 (1152 + 8 * k37 + 4) = nI ja then 1 else 0 : Int32); rw [fz9, Int32.add_zero]; exact hl9) (by omega) (by omega)
            · have ej9 : i70 = ja := by have z := Option.some.inj c76; have z2 := bi73; rw [z, hba] at z2; omega
              have fo9 : (if g.1 (1152 + 8 * k37 + 2) = 0 ∧ g.1 (1152 + 8 * k37 + 4) = nI ja then 1 else 0 : Int32) = 1 := if_pos ⟨pd9, by rw [ei72, ej9]⟩
              obtain ⟨v78, ev78⟩ : ∃ y : Int32, y = x36 + 1 := ⟨_, rfl⟩
              refine tw_iinc [(2, .int v78), (6, .ref q50), (0, .ref x), (1, .ref a), (3, .ref da_6), (4, .int (nI 10)), (5, .int (nI k37))] 3 dX5_unpaidDebtsTo_49 rfl (by rw [ev78]; rfl) (by decide) rfl ?_
              obtain ⟨v79, ev79⟩ : ∃ y : Int32, y = (nI k37) + 1 := ⟨_, rfl⟩
              refine tw_iinc [(5, .int v79), (2, .int v78), (6, .ref q50), (0, .ref x), (1, .ref a), (3, .ref da_6), (4, .int (nI 10))] 6 dX5_unpaidDebtsTo_52 rfl (by rw [ev79]; rfl) (by decide) rfl ?_
              refine tw_goto 14 dX5_unpaidDebtsTo_55 (by decide) ?_
              have qv79 := tw_nI3 ev79
              rw [qv79]
              refine tw_lv [3, 4, 1, 5, 6, 0] rfl ?_
              exact ih39 (k37 + 1) v78 (by rw [m19]; show v78 = tw_isum (fun j => if g.1 (1152 + 8 * j + 2) = 0 ∧ g.1 (1152 + 8 * j + 4) = nI ja then 1 else 0) k37 + (if g.1 (1152 + 8 * k37 + 2) = 0 ∧ g.1 (1152 + 8 * k37 + 4) = nI ja then 1 else 0 : Int32); rw [ev78, fo9, hl9]) (by omega) (by omega)
  refine tw_lv [4, 5, 3, 2, 1, 0] rfl ?_
  exact L40 (10 + 1) 0 0 (by rw [Nat.zero_min]; rfl) (by omega) (by omega)

def tw_wC (g : tw_G) (k : Nat) : Nat → Int32
  | 0 => tw_isum (fun j => g.1 (160 + 64 * j + 24 + k)) (g.2 6)
  | 1 => tw_isum (fun j => g.1 (768 + 32 * j + 8 + k)) (g.2 7)
  | w + 2 => g.1 (1312 + 8 * w + k)
def tw_RW (m wh : Int32) : Prop := tw_RM m ∧ 0 ≤ wh ∧ wh ≤ 5
theorem tw_ic {w j : Nat} (h : w < 2 ^ 31) (e : (nI w).toInt = (j : Int)) : w = j := by
  rw [nI_toInt h] at e
  omega
theorem tw_io {w lo hi : Nat} (h : w < 2 ^ 31) (e : (nI w).toInt < (lo : Int) ∨ (hi : Int) < (nI w).toInt) : w < lo ∨ hi < w := by
  rw [nI_toInt h] at e
  omega
set_option maxHeartbeats 4000000 in
set_option maxRecDepth 100000 in
theorem c2_X5_market (d : tw_D) (g : tw_G) (τ : tw_K) (h : tw_H) (hw : tw_wt d g τ h) (x : Nat) (kx : τ x = 11) (m : Int32) : tw_Ct d mX5_market 20 120 [.ref x, .int m] h (tw_qi (fun r9 h1 => r9 = g.1 0 ∧ (100 ≤ m ∧ m ≤ 200) ∧ ∃ τ1, tw_sp d τ h (tw_g1 g 0 m) τ1 h1) (fun E h1 => (E = tw_IAE ∧ ¬ (100 ≤ m ∧ m ≤ 200)) ∧ ∃ τ1, tw_sp d τ h g τ1 h1)) := by
  refine tw_of (by decide +kernel) (Nat.le_of_ble_eq_true rfl) ?_
  show tw_W d mX5_market _ 0 [(0, .ref x), (1, .int m)] [] h 20 120
  have sp0 := tw_sp.rf hw
  refine tw_iload_n 1 dX5_market_0 rfl rfl ?_
  refine tw_bipush (v := 100) dX5_market_1 (by decide) ?_
  refine tw_sipush (v := 200) dX5_market_3 (by decide) ?_
  refine tw_bv (tw_callS (M := mX5_market) (pc := 6) okX5_needRange dX5_market_6 w_399 [.int m, .int 100, .int 200] [] rfl rfl ⟨by decide, by decide⟩ (Nat.le_of_ble_eq_true rfl) (c2_X5_needRange d g τ h sp0.1 m 100 200) 19 114 (Nat.le_of_ble_eq_true rfl) (Nat.le_of_ble_eq_true rfl)) (fun h2 q => ?_) (fun E h2 q => Or.inr ⟨E, rfl, ⟨q.1, q.2.2⟩, τ, by rw [q.2.1]; exact sp0⟩)
  obtain ⟨qe, ql⟩ := q
  rw [qe]
  refine tw_aload_n 0 dX5_market_9 rfl rfl ?_
  obtain ⟨e1, f2, td_3, ca_4, ha_5, da_6, c1_7, c2_8, c3_9, c4_10, rfl, k11, k12, k13, k14, k15, k16, k17, k18, k19, k20, k21, k22, k23, k24, k25, k26, k27⟩ := sp0.1 x 11 kx (by decide)
  refine tw_get (v := .int (g.1 0)) rfl in_9 1 dX5_market_10 w_141 rfl (by decide) f2 rfl ?_
  refine tw_istore_n [(2, .int (g.1 0)), (0, .ref x), (1, .int m)] dX5_market_13 rfl (by decide) rfl ?_
  refine tw_aload_n 1 dX5_market_14 rfl rfl ?_
  refine tw_iload_n 2 dX5_market_15 rfl rfl ?_
  obtain ⟨g5, eg5⟩ : ∃ z : tw_G, z = tw_g1 g 0 m := ⟨_, rfl⟩
  have qm : m = g5.1 0 := by rw [eg5]; rfl
  refine tw_put rfl in_9 tyX5 tyX5_ok nmX5 1 dX5_market_16 w_141 rfl (by decide) f2 rfl rfl rfl rfl (Nat.le_of_ble_eq_true rfl) [.int td_3, .int m, .ref ca_4, .int (nI (g.2 0)), .ref ha_5, .int (nI (g.2 1)), .ref da_6, .int (nI (g.2 2)), .ref c1_7, .ref c2_8, .ref c3_9, .ref c4_10] rfl ?_
  obtain ⟨h28, eh28⟩ : ∃ z : tw_H, z = tw_up h x (.inr (9, [.int td_3, .int m, .ref ca_4, .int (nI (g.2 0)), .ref ha_5, .int (nI (g.2 1)), .ref da_6, .int (nI (g.2 2)), .ref c1_7, .ref c2_8, .ref c3_9, .ref c4_10])) := ⟨_, rfl⟩
  rw [← eh28]
  have sp29 : tw_sp d τ h g5 τ h28 := by rw [eh28]; exact sp0.g11 kx ⟨td_3, ca_4, ha_5, da_6, c1_7, c2_8, c3_9, c4_10, (by rw [eg5]; rfl), k11, k12, k13, k14, k15, k16, k17, (by rw [eg5]; exact k18), (by rw [eg5]; exact k19), (by rw [eg5]; exact k20), (by rw [eg5]; exact k21), (by rw [eg5]; exact k22), (by rw [eg5]; exact k23), (by rw [eg5]; exact k24), (by rw [eg5]; exact k25), (by rw [eg5]; exact k26), (by rw [eg5]; exact k27)⟩ (by rw [eg5]; intro i hi; exact if_neg hi) (by rw [eg5]; intro i hi hj; rfl)
  refine tw_iload_n 0 dX5_market_19 rfl rfl ?_
  exact tw_iret dX5_market_20 rfl (Or.inl ⟨_, rfl, rfl, ql, _, by rw [← eg5]; exact sp29⟩)

set_option maxHeartbeats 4000000 in
set_option maxRecDepth 100000 in
theorem c4_X5_worldFact (d : tw_D) (g : tw_G) (τ : tw_K) (h : tw_H) (hw : tw_wt d g τ h)  (x : Nat) (kx : τ x = 11) (k : Nat) (hk : k < 2) (w : Nat) (hw9 : w ≤ 5) : tw_Ct d mX5_worldFact 0 0 [.ref x, .int (nI k), .int (nI w)] h (tw_qi (fun r h1 => h1 = h ∧ r = tw_wC g k w) tw_nx) := by
  refine tw_of (by decide +kernel) (Nat.le_of_ble_eq_true rfl) ?_
  show tw_W d mX5_worldFact _ 0 [(0, .ref x), (1, .int (nI k)), (2, .int (nI w))] [] h 0 0
  have sp0 := tw_sp.rf hw
  refine tw_iload_n 2 dX5_worldFact_0 rfl rfl ?_
  by_cases cs0 : ((nI w)).toInt < 0 ∨ 4 < ((nI w)).toInt
  · refine tw_tabOut 75 dX5_worldFact_1 cs0 (by decide) ?_
    refine tw_aload_n 0 dX5_worldFact_75 rfl rfl ?_
    obtain ⟨e1, f2, td_3, ca_4, ha_5, da_6, c1_7, c2_8, c3_9, c4_10, rfl, k11, k12, k13, k14, k15, k16, k17, k18, k19, k20, k21, k22, k23, k24, k25, k26, k27⟩ := sp0.1 x 11 kx (by decide)
    refine tw_get (v := .ref c4_10) rfl in_9 11 dX5_worldFact_76 w_151 rfl (by decide) f2 rfl ?_
    refine tw_iload_n 1 dX5_worldFact_79 rfl rfl ?_
    obtain ⟨e31, f32, a_33, b_34, rfl, k35⟩ := sp0.1 c4_10 1 k17 (by decide)
    obtain ⟨b36, ow37, fa9, fb9⟩ := k35
    obtain rfl : 1336 = b36 := (ow37.b k27).symm
    subst fa9 fb9
    refine tw_bi (tw_callVN (M := mX5_worldFact) (pc := 80) okX3_of dX5_worldFact_80 w_189 rfl f32 [.int (nI k)] [] rfl rfl ⟨by decide, by decide⟩ (Nat.le_of_ble_eq_true rfl) (c4_X3_of d g τ h sp0.1 c4_10 k17 1336 k27 k (by omega)) 0 0 (Nat.le_of_ble_eq_true rfl) (Nat.le_of_ble_eq_true rfl)) (fun r30 h29 q28 => ?_) (fun E h1 q => q.elim)
    obtain ⟨q28e, q28v⟩ := q28
    rw [q28e]
    exact tw_iret dX5_worldFact_83 rfl (Or.inl ⟨_, rfl, rfl, by rw [show w = 5 from (by have z := tw_io (w := w) (lo := 0) (hi := 4) (by omega) cs0; omega)]; exact q28v⟩)
  · have csl : ¬ ((nI w)).toInt < 0 := fun q => cs0 (Or.inl q)
    have csh : ¬ 4 < ((nI w)).toInt := fun q => cs0 (Or.inr q)
    rcases (show ((nI w)).toInt = 0 ∨ ((nI w)).toInt = 1 ∨ ((nI w)).toInt = 2 ∨ ((nI w)).toInt = 3 ∨ ((nI w)).toInt = 4 by omega) with cs1 | cs1 | cs1 | cs1 | cs1
    · refine tw_tabIn (off := 35) 36 dX5_worldFact_1 csl csh (by rw [cs1]; rfl) (by decide) ?_
      refine tw_aload_n 0 dX5_worldFact_36 rfl rfl ?_
      refine tw_iload_n 1 dX5_worldFact_37 rfl rfl ?_
      obtain ⟨e41, f42, td_43, ca_44, ha_45, da_46, c1_47, c2_48, c3_49, c4_50, rfl, k51, k52, k53, k54, k55, k56, k57, k58, k59, k60, k61, k62, k63, k64, k65, k66, k67⟩ := sp0.1 x 11 kx (by decide)
      refine tw_bi (tw_callV (M := mX5_worldFact) (pc := 38) okX5_inVaults dX5_worldFact_38 w_185 rfl f42 [.int (nI k)] [] rfl rfl ⟨by decide, by decide⟩ (Nat.le_of_ble_eq_true rfl) (c4_X5_inVaults d g τ h sp0.1 x kx k hk) 0 0 (Nat.le_of_ble_eq_true rfl) (Nat.le_of_ble_eq_true rfl)) (fun r40 h39 q38 => ?_) (fun E h1 q => q.elim)
      obtain ⟨q38e, q38v⟩ := q38
      rw [q38e]
      exact tw_iret dX5_worldFact_41 rfl (Or.inl ⟨_, rfl, rfl, by rw [show w = 0 from tw_ic (w := w) (j := 0) (by omega) cs1]; exact q38v⟩)
    · refine tw_tabIn (off := 41) 42 dX5_worldFact_1 csl csh (by rw [cs1]; rfl) (by decide) ?_
      refine tw_aload_n 0 dX5_worldFact_42 rfl rfl ?_
      refine tw_iload_n 1 dX5_worldFact_43 rfl rfl ?_
      obtain ⟨e71, f72, td_73, ca_74, ha_75, da_76, c1_77, c2_78, c3_79, c4_80, rfl, k81, k82, k83, k84, k85, k86, k87, k88, k89, k90, k91, k92, k93, k94, k95, k96, k97⟩ := sp0.1 x 11 kx (by decide)
      refine tw_bi (tw_callV (M := mX5_worldFact) (pc := 44) okX5_inPurses dX5_worldFact_44 w_193 rfl f72 [.int (nI k)] [] rfl rfl ⟨by decide, by decide⟩ (Nat.le_of_ble_eq_true rfl) (c4_X5_inPurses d g τ h sp0.1 x kx k hk) 0 0 (Nat.le_of_ble_eq_true rfl) (Nat.le_of_ble_eq_true rfl)) (fun r70 h69 q68 => ?_) (fun E h1 q => q.elim)
      obtain ⟨q68e, q68v⟩ := q68
      rw [q68e]
      exact tw_iret dX5_worldFact_47 rfl (Or.inl ⟨_, rfl, rfl, by rw [show w = 1 from tw_ic (w := w) (j := 1) (by omega) cs1]; exact q68v⟩)
    · refine tw_tabIn (off := 47) 48 dX5_worldFact_1 csl csh (by rw [cs1]; rfl) (by decide) ?_
      refine tw_aload_n 0 dX5_worldFact_48 rfl rfl ?_
      obtain ⟨e98, f99, td_100, ca_101, ha_102, da_103, c1_104, c2_105, c3_106, c4_107, rfl, k108, k109, k110, k111, k112, k113, k114, k115, k116, k117, k118, k119, k120, k121, k122, k123, k124⟩ := sp0.1 x 11 kx (by decide)
      refine tw_get (v := .ref c1_104) rfl in_9 8 dX5_worldFact_49 w_148 rfl (by decide) f99 rfl ?_
      refine tw_iload_n 1 dX5_worldFact_52 rfl rfl ?_
      obtain ⟨e128, f129, a_130, b_131, rfl, k132⟩ := sp0.1 c1_104 1 k111 (by decide)
      obtain ⟨b133, ow134, fa9, fb9⟩ := k132
      obtain rfl : 1312 = b133 := (ow134.b k121).symm
      subst fa9 fb9
      refine tw_bi (tw_callVN (M := mX5_worldFact) (pc := 53) okX3_of dX5_worldFact_53 w_189 rfl f129 [.int (nI k)] [] rfl rfl ⟨by decide, by decide⟩ (Nat.le_of_ble_eq_true rfl) (c4_X3_of d g τ h sp0.1 c1_104 k111 1312 k121 k (by omega)) 0 0 (Nat.le_of_ble_eq_true rfl) (Nat.le_of_ble_eq_true rfl)) (fun r127 h126 q125 => ?_) (fun E h1 q => q.elim)
      obtain ⟨q125e, q125v⟩ := q125
      rw [q125e]
      exact tw_iret dX5_worldFact_56 rfl (Or.inl ⟨_, rfl, rfl, by rw [show w = 2 from tw_ic (w := w) (j := 2) (by omega) cs1]; exact q125v⟩)
    · refine tw_tabIn (off := 56) 57 dX5_worldFact_1 csl csh (by rw [cs1]; rfl) (by decide) ?_
      refine tw_aload_n 0 dX5_worldFact_57 rfl rfl ?_
      obtain ⟨e135, f136, td_137, ca_138, ha_139, da_140, c1_141, c2_142, c3_143, c4_144, rfl, k145, k146, k147, k148, k149, k150, k151, k152, k153, k154, k155, k156, k157, k158, k159, k160, k161⟩ := sp0.1 x 11 kx (by decide)
      refine tw_get (v := .ref c2_142) rfl in_9 9 dX5_worldFact_58 w_149 rfl (by decide) f136 rfl ?_
      refine tw_iload_n 1 dX5_worldFact_61 rfl rfl ?_
      obtain ⟨e165, f166, a_167, b_168, rfl, k169⟩ := sp0.1 c2_142 1 k149 (by decide)
      obtain ⟨b170, ow171, fa9, fb9⟩ := k169
      obtain rfl : 1320 = b170 := (ow171.b k159).symm
      subst fa9 fb9
      refine tw_bi (tw_callVN (M := mX5_worldFact) (pc := 62) okX3_of dX5_worldFact_62 w_189 rfl f166 [.int (nI k)] [] rfl rfl ⟨by decide, by decide⟩ (Nat.le_of_ble_eq_true rfl) (c4_X3_of d g τ h sp0.1 c2_142 k149 1320 k159 k (by omega)) 0 0 (Nat.le_of_ble_eq_true rfl) (Nat.le_of_ble_eq_true rfl)) (fun r164 h163 q162 => ?_) (fun E h1 q => q.elim)
      obtain ⟨q162e, q162v⟩ := q162
      rw [q162e]
      exact tw_iret dX5_worldFact_65 rfl (Or.inl ⟨_, rfl, rfl, by rw [show w = 3 from tw_ic (w := w) (j := 3) (by omega) cs1]; exact q162v⟩)
    · refine tw_tabIn (off := 65) 66 dX5_worldFact_1 csl csh (by rw [cs1]; rfl) (by decide) ?_
      refine tw_aload_n 0 dX5_worldFact_66 rfl rfl ?_
      obtain ⟨e172, f173, td_174, ca_175, ha_176, da_177, c1_178, c2_179, c3_180, c4_181, rfl, k182, k183, k184, k185, k186, k187, k188, k189, k190, k191, k192, k193, k194, k195, k196, k197, k198⟩ := sp0.1 x 11 kx (by decide)
      refine tw_get (v := .ref c3_180) rfl in_9 10 dX5_worldFact_67 w_150 rfl (by decide) f173 rfl ?_
      refine tw_iload_n 1 dX5_worldFact_70 rfl rfl ?_
      obtain ⟨e202, f203, a_204, b_205, rfl, k206⟩ := sp0.1 c3_180 1 k187 (by decide)
      obtain ⟨b207, ow208, fa9, fb9⟩ := k206
      obtain rfl : 1328 = b207 := (ow208.b k197).symm
      subst fa9 fb9
      refine tw_bi (tw_callVN (M := mX5_worldFact) (pc := 71) okX3_of dX5_worldFact_71 w_189 rfl f203 [.int (nI k)] [] rfl rfl ⟨by decide, by decide⟩ (Nat.le_of_ble_eq_true rfl) (c4_X3_of d g τ h sp0.1 c3_180 k187 1328 k197 k (by omega)) 0 0 (Nat.le_of_ble_eq_true rfl) (Nat.le_of_ble_eq_true rfl)) (fun r201 h200 q199 => ?_) (fun E h1 q => q.elim)
      obtain ⟨q199e, q199v⟩ := q199
      rw [q199e]
      exact tw_iret dX5_worldFact_74 rfl (Or.inl ⟨_, rfl, rfl, by rw [show w = 4 from tw_ic (w := w) (j := 4) (by omega) cs1]; exact q199v⟩)

def tw_lw (T k D L : Nat) : Nat := if k = 1 ∧ T < D ∧ D % 30 = 0 then L - L / 10000 else L
/-- fuel, day, what is left -/
def tw_ld (T k n : Nat) : Nat → Nat → Nat → Int32
  | 0, _, _ => -1
  | f + 1, D, L => if tw_lw T k D L < n then nI D else tw_ld T k n f (D + 1) (tw_lw T k D L - n)
theorem tw_lw_le (T k D L : Nat) : tw_lw T k D L ≤ L := by
  unfold tw_lw
  split
  · exact Nat.sub_le _ _
  · exact Nat.le_refl _
theorem tw_ld_s {T k n D L L9 : Nat} (hD : D ≤ 3000) (e : tw_lw T k D L = L9) : tw_ld T k n (3001 - D) D L = if L9 < n then nI D else tw_ld T k n (3001 - (D + 1)) (D + 1) (L9 - n) := by
  rw [show 3001 - D = (3000 - D) + 1 by omega, show 3001 - (D + 1) = 3000 - D by omega]
  show (if tw_lw T k D L < n then nI D else tw_ld T k n (3000 - D) (D + 1) (tw_lw T k D L - n)) = _
  rw [e]
set_option maxHeartbeats 4000000 in
set_option maxRecDepth 100000 in
theorem c4_X5_firstDayShort (d : tw_D) (g : tw_G) (τ : tw_K) (h : tw_H) (hw : tw_wt d g τ h)  (x : Nat) (kx : τ x = 11) (v : Nat) (kv : τ v = 1) (j : Nat) (hj : j < 4) (hb : g.2 (4096 + v) = 160 + 64 * j + 24) (k : Nat) (hk : k < 2) (n : Nat) (hn : n ≤ 99999) (L0 : Nat) (eL : g.1 (160 + 64 * j + 24 + k) = nI L0) (hL : L0 ≤ 59000000) : tw_Ct d mX5_firstDayShort 0 0 [.ref x, .ref v, .int (nI k), .int (nI n)] h (tw_qi (fun r h1 => h1 = h ∧ r = tw_ld (g.2 21) k n (3001 - g.2 21) (g.2 21) L0) tw_nx) := by
  refine tw_of (by decide +kernel) (Nat.le_of_ble_eq_true rfl) ?_
  show tw_W d mX5_firstDayShort _ 0 [(0, .ref x), (1, .ref v), (2, .int (nI k)), (3, .int (nI n))] [] h 0 0
  have sp0 := tw_sp.rf hw
  refine tw_aload_n 1 dX5_firstDayShort_0 rfl rfl ?_
  refine tw_iload_n 2 dX5_firstDayShort_1 rfl rfl ?_
  obtain ⟨e4, f5, a_6, b_7, rfl, k8⟩ := sp0.1 v 1 kv (by decide)
  obtain ⟨b9, ow10, fa9, fb9⟩ := k8
  obtain rfl : (160 + 64 * j + 24) = b9 := (ow10.b hb).symm
  subst fa9 fb9
  refine tw_bi (tw_callVN (M := mX5_firstDayShort) (pc := 2) okX3_of dX5_firstDayShort_2 w_189 rfl f5 [.int (nI k)] [] rfl rfl ⟨by decide, by decide⟩ (Nat.le_of_ble_eq_true rfl) (c4_X3_of d g τ h sp0.1 v kv (160 + 64 * j + 24) hb k (by omega)) 0 0 (Nat.le_of_ble_eq_true rfl) (Nat.le_of_ble_eq_true rfl)) (fun r3 h2 q1 => ?_) (fun E h1 q => q.elim)
  obtain ⟨q1e, q1v⟩ := q1
  rw [q1e]
  refine tw_istore [(4, .int r3), (0, .ref x), (1, .ref v), (2, .int (nI k)), (3, .int (nI n))] dX5_firstDayShort_5 (by decide) rfl ?_
  refine tw_aload_n 1 dX5_firstDayShort_7 rfl rfl ?_
  obtain ⟨e11, f12, td_13, ca_14, ha_15, da_16, c1_17, c2_18, c3_19, c4_20, rfl, k21, k22, k23, k24, k25, k26, k27, k28, k29, k30, k31, k32, k33, k34, k35, k36, k37⟩ := sp0.1 x 11 kx (by decide)
  refine tw_get (v := .int td_13) rfl in_9 0 dX5_firstDayShort_8 w_140 rfl (by decide) f12 rfl ?_
  refine tw_istore [(5, .int td_13), (4, .int r3), (0, .ref x), (1, .ref v), (2, .int (nI k)), (3, .int (nI n))] dX5_firstDayShort_11 (by decide) rfl ?_
  have L42 : ∀ (r40 : Nat) (x38 : Int32) (x39 : Int32), (∃ D L, x39 = nI D ∧ x38 = nI L ∧ g.2 21 ≤ D ∧ D ≤ 3001 ∧ L ≤ 59000000 ∧ tw_ld (g.2 21) k n (3001 - g.2 21) (g.2 21) L0 = tw_ld (g.2 21) k n (3001 - D) D L) → ((3001 : Int) - x39.toInt).toNat < r40 → tw_W d mX5_firstDayShort (tw_qi (fun r h1 => h1 = h ∧ r = tw_ld (g.2 21) k n (3001 - g.2 21) (g.2 21) L0) tw_nx) 13 [(0, .ref x), (1, .ref v), (2, .int (nI k)), (3, .int (nI n)), (4, .int x38), (5, .int x39)] [] h 0 0 := by
    intro r40
    induction r40 with
    | zero => intro x38 x39 hi47 hk46; exact absurd hk46 (Nat.not_lt_zero _)
    | succ r40 ih41 =>
      intro x38 x39 hi47 hk46
      refine tw_iload 5 dX5_firstDayShort_13 rfl ?_
      obtain ⟨D, L, eD, eL9, hT9, hD31, hL9, eq9⟩ := hi47
      subst eD
      subst eL9
      refine tw_sipush (v := 3000) dX5_firstDayShort_15 (by decide) ?_
      refine tw_icmp_gt 75 dX5_firstDayShort_18 (by decide) (fun c48 => ?_) (fun c48 => ?_)
      · have hD9 : D = 3001 := by have z := c48; rw [show (3000 : Int32) = nI 3000 from rfl] at z; have y := (nI_ltI (by decide) (by omega)).mp z; omega
        refine tw_iconst (v := -1) dX5_firstDayShort_75 (by decide) ?_
        exact tw_iret dX5_firstDayShort_76 rfl (Or.inl ⟨_, rfl, rfl, by rw [eq9, hD9]; rfl⟩)
      · have hD9 : D ≤ 3000 := by have z := c48; rw [show (3000 : Int32) = nI 3000 from rfl] at z; rcases Nat.lt_or_ge 3000 D with y | y; exact absurd ((nI_ltI (by decide) (by omega)).mpr y) z; exact y
        refine tw_iload_n 2 dX5_firstDayShort_21 rfl rfl ?_
        refine tw_iconst (v := 1) dX5_firstDayShort_22 (by decide) ?_
        refine tw_icmp_ne 54 dX5_firstDayShort_23 (by decide) (fun c49 => ?_) (fun c49 => ?_)
        · obtain ⟨L9, eL9⟩ : ∃ z, z = L := ⟨_, rfl⟩
          have lw9 : tw_lw (g.2 21) k D L = L9 := by rw [eL9]; exact if_neg (fun z => c49 (by rw [z.1]; rfl))
          have l9b : L9 ≤ L := by rw [← lw9]; exact tw_lw_le _ _ _ _
          have lv9 : (nI L) = nI L9 := by rw [eL9]
          rw [lv9]
          refine tw_iload 4 dX5_firstDayShort_54 rfl ?_
          refine tw_iload_n 3 dX5_firstDayShort_56 rfl rfl ?_
          refine tw_icmp_ge 63 dX5_firstDayShort_57 (by decide) (fun c50 => ?_) (fun c50 => ?_)
          · have ge9 : ¬ L9 < n := by have z := (tw_nIle (by omega) (by omega)).mp c50; omega
            refine tw_iload 4 dX5_firstDayShort_63 rfl ?_
            refine tw_iload_n 3 dX5_firstDayShort_65 rfl rfl ?_
            refine tw_isub dX5_firstDayShort_66 ?_
            refine tw_nmi (fun v51 ev51 => ?_)
            refine tw_istore [(4, .int v51), (0, .ref x), (1, .ref v), (2, .int (nI k)), (3, .int (nI n)), (5, .int (nI D))] dX5_firstDayShort_67 (by decide) rfl ?_
            obtain ⟨v52, ev52⟩ : ∃ y : Int32, y = (nI D) + 1 := ⟨_, rfl⟩
            refine tw_iinc [(5, .int v52), (4, .int v51), (0, .ref x), (1, .ref v), (2, .int (nI k)), (3, .int (nI n))] 5 dX5_firstDayShort_69 rfl (by rw [ev52]; rfl) (by decide) rfl ?_
            refine tw_goto 13 dX5_firstDayShort_72 (by decide) ?_
            refine tw_lv [2, 3, 4, 5, 1, 0] rfl ?_
            exact ih41 v51 v52 (⟨D + 1, L9 - n, by rw [ev52]; exact nI_1 D, by rw [ev51]; exact tw_I_sub (by omega) (by omega), by omega, by omega, by omega, by rw [eq9, tw_ld_s hD9 lw9, if_neg ge9]⟩) (tw_mle ev52 c48 hk46)
          · have lt9 : L9 < n := by rcases Nat.lt_or_ge L9 n with y | y; exact y; exact absurd ((tw_nIle (by omega) (by omega)).mpr y) c50
            refine tw_iload 5 dX5_firstDayShort_60 rfl ?_
            exact tw_iret dX5_firstDayShort_62 rfl (Or.inl ⟨_, rfl, rfl, by rw [eq9, tw_ld_s hD9 lw9, if_pos lt9]⟩)
        · refine tw_iload 5 dX5_firstDayShort_26 rfl ?_
          refine tw_aload_n 0 dX5_firstDayShort_28 rfl rfl ?_
          refine tw_get (v := .int td_13) rfl in_9 0 dX5_firstDayShort_29 w_140 rfl (by decide) f12 rfl ?_
          refine tw_icmp_le 54 dX5_firstDayShort_32 (by decide) (fun c53 => ?_) (fun c53 => ?_)
          · obtain ⟨L9, eL9⟩ : ∃ z, z = L := ⟨_, rfl⟩
            have lw9 : tw_lw (g.2 21) k D L = L9 := by rw [eL9]; exact if_neg (fun z => by have y := c53; rw [k32] at y; have y2 := (tw_nIle (by omega) (by omega)).mp y; omega)
            have l9b : L9 ≤ L := by rw [← lw9]; exact tw_lw_le _ _ _ _
            have lv9 : (nI L) = nI L9 := by rw [eL9]
            rw [lv9]
            refine tw_iload 4 dX5_firstDayShort_54 rfl ?_
            refine tw_iload_n 3 dX5_firstDayShort_56 rfl rfl ?_
            refine tw_icmp_ge 63 dX5_firstDayShort_57 (by decide) (fun c54 => ?_) (fun c54 => ?_)
            · have ge9 : ¬ L9 < n := by have z := (tw_nIle (by omega) (by omega)).mp c54; omega
              refine tw_iload 4 dX5_firstDayShort_63 rfl ?_
              refine tw_iload_n 3 dX5_firstDayShort_65 rfl rfl ?_
              refine tw_isub dX5_firstDayShort_66 ?_
              refine tw_nmi (fun v55 ev55 => ?_)
              refine tw_istore [(4, .int v55), (0, .ref x), (1, .ref v), (2, .int (nI k)), (3, .int (nI n)), (5, .int (nI D))] dX5_firstDayShort_67 (by decide) rfl ?_
              obtain ⟨v56, ev56⟩ : ∃ y : Int32, y = (nI D) + 1 := ⟨_, rfl⟩
              refine tw_iinc [(5, .int v56), (4, .int v55), (0, .ref x), (1, .ref v), (2, .int (nI k)), (3, .int (nI n))] 5 dX5_firstDayShort_69 rfl (by rw [ev56]; rfl) (by decide) rfl ?_
              refine tw_goto 13 dX5_firstDayShort_72 (by decide) ?_
              refine tw_lv [2, 3, 4, 5, 1, 0] rfl ?_
              exact ih41 v55 v56 (⟨D + 1, L9 - n, by rw [ev56]; exact nI_1 D, by rw [ev55]; exact tw_I_sub (by omega) (by omega), by omega, by omega, by omega, by rw [eq9, tw_ld_s hD9 lw9, if_neg ge9]⟩) (tw_mle ev56 c48 hk46)
            · have lt9 : L9 < n := by rcases Nat.lt_or_ge L9 n with y | y; exact y; exact absurd ((tw_nIle (by omega) (by omega)).mpr y) c54
              refine tw_iload 5 dX5_firstDayShort_60 rfl ?_
              exact tw_iret dX5_firstDayShort_62 rfl (Or.inl ⟨_, rfl, rfl, by rw [eq9, tw_ld_s hD9 lw9, if_pos lt9]⟩)
          · refine tw_iload 5 dX5_firstDayShort_35 rfl ?_
            refine tw_bi (tw_callS (M := mX5_firstDayShort) (pc := 37) okX5_isWearDay dX5_firstDayShort_37 w_325 [.int (nI D)] [] rfl rfl ⟨by decide, by decide⟩ (Nat.le_of_ble_eq_true rfl) (c4_X5_isWearDay d g τ h sp0.1 D (by omega)) 0 0 (Nat.le_of_ble_eq_true rfl) (Nat.le_of_ble_eq_true rfl)) (fun r59 h58 q57 => ?_) (fun E h1 q => q.elim)
            obtain ⟨q57e, q57d⟩ := q57
            rw [q57e]
            rcases q57d with ⟨q57r, wd9⟩ | ⟨q57r, wd9⟩
            · rw [q57r]
              refine tw_if_eq 54 dX5_firstDayShort_40 (by decide) (fun c60 => absurd c60 (by decide)) (fun _ => ?_)
              refine tw_iload 4 dX5_firstDayShort_43 rfl ?_
              refine tw_iload 4 dX5_firstDayShort_45 rfl ?_
              refine tw_sipush (v := 10000) dX5_firstDayShort_47 (by decide) ?_
              refine tw_idiv dX5_firstDayShort_50 (by decide) ?_
              refine tw_nmi (fun v61 ev61 => ?_)
              refine tw_isub dX5_firstDayShort_51 ?_
              refine tw_nmi (fun v62 ev62 => ?_)
              refine tw_istore [(4, .int v62), (0, .ref x), (1, .ref v), (2, .int (nI k)), (3, .int (nI n)), (5, .int (nI D))] dX5_firstDayShort_52 (by decide) rfl ?_
              obtain ⟨L9, eL9⟩ : ∃ z, z = (L - L / 10000) := ⟨_, rfl⟩
              have lw9 : tw_lw (g.2 21) k D L = L9 := by rw [eL9]; exact if_pos ⟨tw_nIj (b := 1) c49 (by omega) (by decide), by rcases Nat.lt_or_ge (g.2 21) D with y | y; exact y; exact absurd (by rw [k32]; exact (tw_nIle (by omega) (by omega)).mpr y) c53, wd9⟩
              have l9b : L9 ≤ L := by rw [← lw9]; exact tw_lw_le _ _ _ _
              have lv9 : v62 = nI L9 := by rw [ev62, ev61, eL9, show (10000 : Int32) = nI 10000 from rfl, tw_I_div (by omega) (by decide)]; exact tw_I_sub (by omega) (Nat.div_le_self _ _)
              subst lv9
              refine tw_iload 0 dX5_firstDayShort_54 rfl ?_
              refine tw_iload_n 4 dX5_firstDayShort_56 rfl rfl ?_
              refine tw_icmp_ge 63 dX5_firstDayShort_57 (by decide) (fun c63 => ?_) (fun c63 => ?_)
              · have ge9 : ¬ L9 < n := by have z := (tw_nIle (by omega) (by omega)).mp c63; omega
                refine tw_iload 0 dX5_firstDayShort_63 rfl ?_
                refine tw_iload_n 4 dX5_firstDayShort_65 rfl rfl ?_
                refine tw_isub dX5_firstDayShort_66 ?_
                refine tw_nmi (fun v64 ev64 => ?_)
                refine tw_istore [(4, .int v64), (0, .ref x), (1, .ref v), (2, .int (nI k)), (3, .int (nI n)), (5, .int (nI D))] dX5_firstDayShort_67 (by decide) rfl ?_
                obtain ⟨v65, ev65⟩ : ∃ y : Int32, y = (nI D) + 1 := ⟨_, rfl⟩
                refine tw_iinc [(5, .int v65), (4, .int v64), (0, .ref x), (1, .ref v), (2, .int (nI k)), (3, .int (nI n))] 5 dX5_firstDayShort_69 rfl (by rw [ev65]; rfl) (by decide) rfl ?_
                refine tw_goto 13 dX5_firstDayShort_72 (by decide) ?_
                refine tw_lv [2, 3, 4, 5, 1, 0] rfl ?_
                exact ih41 v64 v65 (⟨D + 1, L9 - n, by rw [ev65]; exact nI_1 D, by rw [ev64]; exact tw_I_sub (by omega) (by omega), by omega, by omega, by omega, by rw [eq9, tw_ld_s hD9 lw9, if_neg ge9]⟩) (tw_mle ev65 c48 hk46)
              · have lt9 : L9 < n := by rcases Nat.lt_or_ge L9 n with y | y; exact y; exact absurd ((tw_nIle (by omega) (by omega)).mpr y) c63
                refine tw_iload 5 dX5_firstDayShort_60 rfl ?_
                exact tw_iret dX5_firstDayShort_62 rfl (Or.inl ⟨_, rfl, rfl, by rw [eq9, tw_ld_s hD9 lw9, if_pos lt9]⟩)
            · rw [q57r]
              refine tw_if_eq 54 dX5_firstDayShort_40 (by decide) (fun _ => ?_) (fun c66 => absurd (by decide) c66)
              obtain ⟨L9, eL9⟩ : ∃ z, z = L := ⟨_, rfl⟩
              have lw9 : tw_lw (g.2 21) k D L = L9 := by rw [eL9]; exact if_neg (fun z => wd9 z.2.2)
              have l9b : L9 ≤ L := by rw [← lw9]; exact tw_lw_le _ _ _ _
              have lv9 : (nI L) = nI L9 := by rw [eL9]
              rw [lv9]
              refine tw_iload 4 dX5_firstDayShort_54 rfl ?_
              refine tw_iload_n 3 dX5_firstDayShort_56 rfl rfl ?_
              refine tw_icmp_ge 63 dX5_firstDayShort_57 (by decide) (fun c67 => ?_) (fun c67 => ?_)
              · have ge9 : ¬ L9 < n := by have z := (tw_nIle (by omega) (by omega)).mp c67; omega
                refine tw_iload 4 dX5_firstDayShort_63 rfl ?_
                refine tw_iload_n 3 dX5_firstDayShort_65 rfl rfl ?_
                refine tw_isub dX5_firstDayShort_66 ?_
                refine tw_nmi (fun v68 ev68 => ?_)
                refine tw_istore [(4, .int v68), (0, .ref x), (1, .ref v), (2, .int (nI k)), (3, .int (nI n)), (5, .int (nI D))] dX5_firstDayShort_67 (by decide) rfl ?_
                obtain ⟨v69, ev69⟩ : ∃ y : Int32, y = (nI D) + 1 := ⟨_, rfl⟩
                refine tw_iinc [(5, .int v69), (4, .int v68), (0, .ref x), (1, .ref v), (2, .int (nI k)), (3, .int (nI n))] 5 dX5_firstDayShort_69 rfl (by rw [ev69]; rfl) (by decide) rfl ?_
                refine tw_goto 13 dX5_firstDayShort_72 (by decide) ?_
                refine tw_lv [2, 3, 4, 5, 1, 0] rfl ?_
                exact ih41 v68 v69 (⟨D + 1, L9 - n, by rw [ev69]; exact nI_1 D, by rw [ev68]; exact tw_I_sub (by omega) (by omega), by omega, by omega, by omega, by rw [eq9, tw_ld_s hD9 lw9, if_neg ge9]⟩) (tw_mle ev69 c48 hk46)
              · have lt9 : L9 < n := by rcases Nat.lt_or_ge L9 n with y | y; exact y; exact absurd ((tw_nIle (by omega) (by omega)).mpr y) c67
                refine tw_iload 5 dX5_firstDayShort_60 rfl ?_
                exact tw_iret dX5_firstDayShort_62 rfl (Or.inl ⟨_, rfl, rfl, by rw [eq9, tw_ld_s hD9 lw9, if_pos lt9]⟩)
  refine tw_lv [2, 3, 4, 5, 1, 0] rfl ?_
  exact L42 _ r3 td_13 (⟨g.2 21, L0, k32, by rw [q1v]; exact eL, Nat.le_refl _, by have z := k33; omega, hL, rfl⟩) (Nat.lt_succ_self _)

def tw_CV (g : tw_G) : Prop := ∀ j, j < g.2 6 → ∀ k, k < 2 → g.1 (160 + 64 * j + 24 + k) = nI (tw_DN (g.1 (160 + 64 * j + 24 + k))) ∧ tw_DN (g.1 (160 + 64 * j + 24 + k)) ≤ 59000000
theorem tw_L_ad (a b : Nat) : tw_L a + tw_L b = tw_L (a + b) := (Int64.ofNat_add a b).symm
set_option maxHeartbeats 4000000 in
set_option maxRecDepth 100000 in
theorem c4_X5_worthOf (d : tw_D) (g : tw_G) (τ : tw_K) (h : tw_H) (hw : tw_wt d g τ h)  (a b r : Int32) (A Bn R : Nat) (ea : a = nI A) (eb : b = nI Bn) (er : r = nI R) (hA : A ≤ 59000000) (hB : Bn ≤ 59000000) (hR : R ≤ 200) : tw_Ct d mX5_worthOf 0 0 [.int a, .int b, .int r] h (tw_qi (fun r9 h1 => h1 = h ∧ r9 = nI (Bn + A * R / 10)) tw_nx) := by
  refine tw_of (by decide +kernel) (Nat.le_of_ble_eq_true rfl) ?_
  show tw_W d mX5_worthOf _ 0 [(0, .int a), (1, .int b), (2, .int r)] [] h 0 0
  have sp0 := tw_sp.rf hw
  have m9 : A * R ≤ 59000000 * 200 := Nat.mul_le_mul hA hR
  refine tw_iload_n 1 dX5_worthOf_0 rfl rfl ?_
  refine tw_i2l dX5_worthOf_1 ?_
  refine tw_nml (fun v1 ev1 => ?_)
  refine tw_iload_n 0 dX5_worthOf_2 rfl rfl ?_
  refine tw_i2l dX5_worthOf_3 ?_
  refine tw_nml (fun v2 ev2 => ?_)
  refine tw_iload_n 2 dX5_worthOf_4 rfl rfl ?_
  refine tw_i2l dX5_worthOf_5 ?_
  refine tw_nml (fun v3 ev3 => ?_)
  refine tw_lmul dX5_worthOf_6 ?_
  refine tw_nml (fun v4 ev4 => ?_)
  refine tw_ldc2 (v := 10) dX5_worthOf_7 w_272 ?_
  refine tw_ldiv dX5_worthOf_10 (by decide) ?_
  refine tw_nml (fun v5 ev5 => ?_)
  refine tw_ladd dX5_worthOf_11 ?_
  refine tw_nml (fun v6 ev6 => ?_)
  refine tw_l2i dX5_worthOf_12 ?_
  refine tw_nmi (fun v7 ev7 => ?_)
  exact tw_iret dX5_worthOf_13 rfl (Or.inl ⟨_, rfl, rfl, by rw [ev7, ev6, ev1, ev5, ev4, ev2, ev3, ea, eb, er, tw_L_i (by omega), tw_L_i (by omega), tw_L_i (by omega), show (10 : Int64) = tw_L 10 from rfl, tw_L_mul (by omega) (by omega) (by omega), tw_L_div (by omega) (by decide), tw_L_ad]; exact tw_L_32 (by omega)⟩)

set_option maxHeartbeats 4000000 in
set_option maxRecDepth 100000 in
theorem c4_X3_worth (d : tw_D) (g : tw_G) (τ : tw_K) (h : tw_H) (hw : tw_wt d g τ h)  (x : Nat) (kx : τ x = 1) (b : Nat) (hb : g.2 (4096 + x) = b) (r : Int32) (A Bn R : Nat) (ea : g.1 (b + 0) = nI A) (eb : g.1 (b + 1) = nI Bn) (er : r = nI R) (hA : A ≤ 59000000) (hB : Bn ≤ 59000000) (hR : R ≤ 200) : tw_Ct d mX3_worth 0 0 [.ref x, .int r] h (tw_qi (fun r9 h1 => h1 = h ∧ r9 = nI (Bn + A * R / 10)) tw_nx) := by
  refine tw_of (by decide +kernel) (Nat.le_of_ble_eq_true rfl) ?_
  show tw_W d mX3_worth _ 0 [(0, .ref x), (1, .int r)] [] h 0 0
  have sp0 := tw_sp.rf hw
  refine tw_aload_n 0 dX3_worth_0 rfl rfl ?_
  obtain ⟨e1, f2, a_3, b_4, rfl, k5⟩ := sp0.1 x 1 kx (by decide)
  obtain ⟨b6, ow7, fa9, fb9⟩ := k5
  obtain rfl : b = b6 := (ow7.b hb).symm
  subst fa9 fb9
  refine tw_get (v := .int (g.1 (b + 0))) rfl in_7 0 dX3_worth_1 w_131 rfl (by decide) f2 rfl ?_
  refine tw_aload_n 0 dX3_worth_4 rfl rfl ?_
  refine tw_get (v := .int (g.1 (b + 1))) rfl in_7 1 dX3_worth_5 w_133 rfl (by decide) f2 rfl ?_
  refine tw_iload_n 1 dX3_worth_8 rfl rfl ?_
  refine tw_bi (tw_callSN (M := mX3_worth) (pc := 9) okX5_worthOf dX3_worth_9 w_269 [.int (g.1 (b + 0)), .int (g.1 (b + 1)), .int r] [] rfl rfl ⟨by decide, by decide⟩ (Nat.le_of_ble_eq_true rfl) (c4_X5_worthOf d g τ h sp0.1 (g.1 (b + 0)) (g.1 (b + 1)) r A Bn R ea eb er hA hB hR) 0 0 (Nat.le_of_ble_eq_true rfl) (Nat.le_of_ble_eq_true rfl)) (fun r10 h9 q8 => ?_) (fun E h1 q => q.elim)
  obtain ⟨q8e, q8v⟩ := q8
  rw [q8e]
  exact tw_iret dX3_worth_12 rfl (Or.inl ⟨_, rfl, rfl, q8v⟩)

set_option maxHeartbeats 4000000 in
set_option maxRecDepth 100000 in
theorem c4_X5_numberOf (d : tw_D) (g : tw_G) (τ : tw_K) (h : tw_H) (hw : tw_wt d g τ h) (p : Option Nat) (c : Int32) (hp : tw_pc g p c) (ok : ∀ q, p = some q → τ q = 2) : tw_Ct d mX5_numberOf 0 0 [va_rf p] h (tw_qi (fun r h1 => h1 = h ∧ r = c) tw_nx) := by
  cases p with
  | none =>
    refine tw_of (by decide +kernel) (Nat.le_of_ble_eq_true rfl) ?_
    show tw_W d mX5_numberOf _ 0 [(0, .null)] [] h 0 0
    refine tw_aload_nN 0 dX5_numberOf_0 rfl rfl ?_
    refine tw_ifnonnullN dX5_numberOf_1 ?_
    refine tw_iconst (v := -1) dX5_numberOf_4 (by decide) ?_
    refine tw_goto 12 dX5_numberOf_5 (by decide) ?_
    exact tw_iret dX5_numberOf_12 rfl (Or.inl ⟨_, rfl, rfl, hp.n.symm⟩)
  | some q =>
    refine tw_of (by decide +kernel) (Nat.le_of_ble_eq_true rfl) ?_
    show tw_W d mX5_numberOf _ 0 [(0, .ref q)] [] h 0 0
    have sp0 := tw_sp.rf hw
    have kq := ok q rfl
    obtain ⟨i, hi, ei, bi⟩ := hp.s
    refine tw_aload_n 0 dX5_numberOf_0 rfl rfl ?_
    refine tw_ifnonnull 8 dX5_numberOf_1 (by decide) ?_
    refine tw_aload_n 0 dX5_numberOf_8 rfl rfl ?_
    obtain ⟨e1, f2, n_3, r_4, c_5, go_6, so_7, v_8, rd_9, rf_10, t_11, rfl, k12, k13, k14, k15, k16, k17, k18, k19, k20⟩ := sp0.1 q 2 kq (by decide)
    obtain ⟨j21, ow22, fn9, fr9, fc9, fg9, fs9, q23, q24, q25, q26⟩ := k20
    obtain rfl : i = j21 := by have z := ow22.b bi; omega
    subst fn9 fr9 fc9 fg9 fs9
    refine tw_getN (v := .int (nI i)) rfl in_4 0 dX5_numberOf_9 w_502 rfl (by decide) f2 rfl ?_
    exact tw_iret dX5_numberOf_12 rfl (Or.inl ⟨_, rfl, rfl, ei.symm⟩)

/-- grams' worth -/
def tw_wo (G Sv M : Int32) : Int32 := nI (tw_DN Sv + tw_DN G * tw_DN M / 10)
def tw_hC (g : tw_G) (a : Nat) : Nat → Int32
  | 0 => g.1 (768 + 32 * a + 1)
  | 1 => g.1 (768 + 32 * a + 2)
  | 2 => g.1 (768 + 32 * a + 0)
  | 3 => g.1 (768 + 32 * a + 8 + 0)
  | 4 => g.1 (768 + 32 * a + 8 + 1)
  | 5 => tw_wo (g.1 (768 + 32 * a + 8 + 0)) (g.1 (768 + 32 * a + 8 + 1)) (g.1 0)
  | 6 => tw_isum (fun j => if g.1 (1152 + 8 * j + 2) = 0 ∧ g.1 (1152 + 8 * j + 3) = nI a then 1 else 0) (g.2 8)
  | _ + 7 => tw_isum (fun j => if g.1 (1152 + 8 * j + 2) = 0 ∧ g.1 (1152 + 8 * j + 4) = nI a then 1 else 0) (g.2 8)
/-- the class's purses and vaults are numbers, the market too -/
def tw_CW (g : tw_G) : Prop := tw_CV g ∧ (∀ j, j < g.2 7 → ∀ k, k < 2 → g.1 (768 + 32 * j + 8 + k) = nI (tw_DN (g.1 (768 + 32 * j + 8 + k))) ∧ tw_DN (g.1 (768 + 32 * j + 8 + k)) ≤ 59000000) ∧ g.1 0 = nI (tw_DN (g.1 0)) ∧ tw_DN (g.1 0) ≤ 200
set_option maxHeartbeats 4000000 in
set_option maxRecDepth 100000 in
theorem c4_X5_houseFact (d : tw_D) (g : tw_G) (τ : tw_K) (h : tw_H) (hw : tw_wt d g τ h)  (x : Nat) (kx : τ x = 11) (a : Nat) (ka : τ a = 3) (ja : Nat) (hja : ja < g.2 7) (hba : g.2 (4096 + a) = 768 + 32 * ja) (w : Nat) (hw9 : w ≤ 7) (he : tw_CW g) : tw_Ct d mX5_houseFact 0 0 [.ref x, .ref a, .int (nI w)] h (tw_qi (fun r h1 => h1 = h ∧ r = tw_hC g ja w) tw_nx) := by
  refine tw_of (by decide +kernel) (Nat.le_of_ble_eq_true rfl) ?_
  show tw_W d mX5_houseFact _ 0 [(0, .ref x), (1, .ref a), (2, .int (nI w))] [] h 0 0
  have sp0 := tw_sp.rf hw
  have b9 := tw_b678 hw kx
  refine tw_iload_n 2 dX5_houseFact_0 rfl rfl ?_
  by_cases cs0 : ((nI w)).toInt < 0 ∨ 6 < ((nI w)).toInt
  · refine tw_tabOut 99 dX5_houseFact_1 cs0 (by decide) ?_
    refine tw_aload_n 0 dX5_houseFact_99 rfl rfl ?_
    refine tw_aload_n 1 dX5_houseFact_100 rfl rfl ?_
    obtain ⟨e4, f5, td_6, ca_7, ha_8, da_9, c1_10, c2_11, c3_12, c4_13, rfl, k14, k15, k16, k17, k18, k19, k20, k21, k22, k23, k24, k25, k26, k27, k28, k29, k30⟩ := sp0.1 x 11 kx (by decide)
    refine tw_bi (tw_callV (M := mX5_houseFact) (pc := 101) okX5_unpaidDebtsTo dX5_houseFact_101 w_343 rfl f5 [.ref a] [] rfl rfl ⟨by decide, by decide⟩ (Nat.le_of_ble_eq_true rfl) (c4_X5_unpaidDebtsTo d g τ h sp0.1 x kx a ka ja hja hba) 0 0 (Nat.le_of_ble_eq_true rfl) (Nat.le_of_ble_eq_true rfl)) (fun r3 h2 q1 => ?_) (fun E h1 q => q.elim)
    obtain ⟨q1e, q1v⟩ := q1
    rw [q1e]
    exact tw_iret dX5_houseFact_104 rfl (Or.inl ⟨_, rfl, rfl, by rw [show w = 7 from (by have z := tw_io (w := w) (lo := 0) (hi := 6) (by omega) cs0; omega)]; exact q1v⟩)
  · have csl : ¬ ((nI w)).toInt < 0 := fun q => cs0 (Or.inl q)
    have csh : ¬ 6 < ((nI w)).toInt := fun q => cs0 (Or.inr q)
    rcases (show ((nI w)).toInt = 0 ∨ ((nI w)).toInt = 1 ∨ ((nI w)).toInt = 2 ∨ ((nI w)).toInt = 3 ∨ ((nI w)).toInt = 4 ∨ ((nI w)).toInt = 5 ∨ ((nI w)).toInt = 6 by omega) with cs1 | cs1 | cs1 | cs1 | cs1 | cs1 | cs1
    · refine tw_tabIn (off := 43) 44 dX5_houseFact_1 csl csh (by rw [cs1]; rfl) (by decide) ?_
      refine tw_aload_n 1 dX5_houseFact_44 rfl rfl ?_
      obtain ⟨e31, f32, n_33, ar_34, p_35, pl_36, go_37, rfl, k38, k39, k40, k41⟩ := sp0.1 a 3 ka (by decide)
      obtain ⟨j42, ow43, fn9, fa9, pc44, pc45, lp46⟩ := k41
      obtain rfl : ja = j42 := by have z := ow43.b hba; omega
      subst fn9 fa9
      refine tw_getN (v := va_rf pl_36) rfl in_6 2 dX5_houseFact_45 w_641 rfl (by decide) f32 rfl ?_
      refine tw_bi (tw_callS (M := mX5_houseFact) (pc := 48) okX5_numberOf dX5_houseFact_48 w_336 [va_rf pl_36] [] rfl rfl ⟨by decide, by decide⟩ (Nat.le_of_ble_eq_true rfl) (c4_X5_numberOf d g τ h sp0.1 pl_36 _ pc44 k39) 0 0 (Nat.le_of_ble_eq_true rfl) (Nat.le_of_ble_eq_true rfl)) (fun r49 h48 q47 => ?_) (fun E h1 q => q.elim)
      obtain ⟨q47e, q47v⟩ := q47
      rw [q47e]
      exact tw_iret dX5_houseFact_51 rfl (Or.inl ⟨_, rfl, rfl, by rw [show w = 0 from tw_ic (w := w) (j := 0) (by omega) cs1]; exact q47v⟩)
    · refine tw_tabIn (off := 51) 52 dX5_houseFact_1 csl csh (by rw [cs1]; rfl) (by decide) ?_
      refine tw_aload_n 1 dX5_houseFact_52 rfl rfl ?_
      obtain ⟨e50, f51, n_52, ar_53, p_54, pl_55, go_56, rfl, k57, k58, k59, k60⟩ := sp0.1 a 3 ka (by decide)
      obtain ⟨j61, ow62, fn9, fa9, pc63, pc64, lp65⟩ := k60
      obtain rfl : ja = j61 := by have z := ow62.b hba; omega
      subst fn9 fa9
      refine tw_getN (v := va_rf go_56) rfl in_6 3 dX5_houseFact_53 w_643 rfl (by decide) f51 rfl ?_
      refine tw_bi (tw_callS (M := mX5_houseFact) (pc := 56) okX5_numberOf dX5_houseFact_56 w_336 [va_rf go_56] [] rfl rfl ⟨by decide, by decide⟩ (Nat.le_of_ble_eq_true rfl) (c4_X5_numberOf d g τ h sp0.1 go_56 _ pc64 k59) 0 0 (Nat.le_of_ble_eq_true rfl) (Nat.le_of_ble_eq_true rfl)) (fun r68 h67 q66 => ?_) (fun E h1 q => q.elim)
      obtain ⟨q66e, q66v⟩ := q66
      rw [q66e]
      exact tw_iret dX5_houseFact_59 rfl (Or.inl ⟨_, rfl, rfl, by rw [show w = 1 from tw_ic (w := w) (j := 1) (by omega) cs1]; exact q66v⟩)
    · refine tw_tabIn (off := 59) 60 dX5_houseFact_1 csl csh (by rw [cs1]; rfl) (by decide) ?_
      refine tw_aload_n 1 dX5_houseFact_60 rfl rfl ?_
      obtain ⟨e69, f70, n_71, ar_72, p_73, pl_74, go_75, rfl, k76, k77, k78, k79⟩ := sp0.1 a 3 ka (by decide)
      obtain ⟨j80, ow81, fn9, fa9, pc82, pc83, lp84⟩ := k79
      obtain rfl : ja = j80 := by have z := ow81.b hba; omega
      subst fn9 fa9
      refine tw_getN (v := .int (g.1 (768 + 32 * ja + 0))) rfl in_6 4 dX5_houseFact_61 w_645 rfl (by decide) f70 rfl ?_
      exact tw_iret dX5_houseFact_64 rfl (Or.inl ⟨_, rfl, rfl, by rw [show w = 2 from tw_ic (w := w) (j := 2) (by omega) cs1]; exact rfl⟩)
    · refine tw_tabIn (off := 64) 65 dX5_houseFact_1 csl csh (by rw [cs1]; rfl) (by decide) ?_
      refine tw_aload_n 1 dX5_houseFact_65 rfl rfl ?_
      obtain ⟨e85, f86, n_87, ar_88, p_89, pl_90, go_91, rfl, k92, k93, k94, k95⟩ := sp0.1 a 3 ka (by decide)
      obtain ⟨j96, ow97, fn9, fa9, pc98, pc99, lp100⟩ := k95
      obtain rfl : ja = j96 := by have z := ow97.b hba; omega
      subst fn9 fa9
      refine tw_getN (v := .ref p_89) rfl in_6 1 dX5_houseFact_66 w_639 rfl (by decide) f86 rfl ?_
      obtain ⟨e101, f102, a_103, b_104, rfl, k105⟩ := sp0.1 p_89 1 k92 (by decide)
      obtain ⟨b106, ow107, fa9, fb9⟩ := k105
      obtain rfl : (768 + 32 * ja + 8) = b106 := (ow107.b lp100).symm
      subst fa9 fb9
      refine tw_getN (v := .int (g.1 ((768 + 32 * ja + 8) + 0))) rfl in_7 0 dX5_houseFact_69 w_132 rfl (by decide) f102 rfl ?_
      exact tw_iret dX5_houseFact_72 rfl (Or.inl ⟨_, rfl, rfl, by rw [show w = 3 from tw_ic (w := w) (j := 3) (by omega) cs1]; exact rfl⟩)
    · refine tw_tabIn (off := 72) 73 dX5_houseFact_1 csl csh (by rw [cs1]; rfl) (by decide) ?_
      refine tw_aload_n 1 dX5_houseFact_73 rfl rfl ?_
      obtain ⟨e108, f109, n_110, ar_111, p_112, pl_113, go_114, rfl, k115, k116, k117, k118⟩ := sp0.1 a 3 ka (by decide)
      obtain ⟨j119, ow120, fn9, fa9, pc121, pc122, lp123⟩ := k118
      obtain rfl : ja = j119 := by have z := ow120.b hba; omega
      subst fn9 fa9
      refine tw_getN (v := .ref p_112) rfl in_6 1 dX5_houseFact_74 w_639 rfl (by decide) f109 rfl ?_
      obtain ⟨e124, f125, a_126, b_127, rfl, k128⟩ := sp0.1 p_112 1 k115 (by decide)
      obtain ⟨b129, ow130, fa9, fb9⟩ := k128
      obtain rfl : (768 + 32 * ja + 8) = b129 := (ow130.b lp123).symm
      subst fa9 fb9
      refine tw_getN (v := .int (g.1 ((768 + 32 * ja + 8) + 1))) rfl in_7 1 dX5_houseFact_77 w_134 rfl (by decide) f125 rfl ?_
      exact tw_iret dX5_houseFact_80 rfl (Or.inl ⟨_, rfl, rfl, by rw [show w = 4 from tw_ic (w := w) (j := 4) (by omega) cs1]; exact rfl⟩)
    · refine tw_tabIn (off := 80) 81 dX5_houseFact_1 csl csh (by rw [cs1]; rfl) (by decide) ?_
      refine tw_aload_n 1 dX5_houseFact_81 rfl rfl ?_
      obtain ⟨e131, f132, n_133, ar_134, p_135, pl_136, go_137, rfl, k138, k139, k140, k141⟩ := sp0.1 a 3 ka (by decide)
      obtain ⟨j142, ow143, fn9, fa9, pc144, pc145, lp146⟩ := k141
      obtain rfl : ja = j142 := by have z := ow143.b hba; omega
      subst fn9 fa9
      refine tw_getN (v := .ref p_135) rfl in_6 1 dX5_houseFact_82 w_639 rfl (by decide) f132 rfl ?_
      refine tw_aload_n 0 dX5_houseFact_85 rfl rfl ?_
      obtain ⟨e147, f148, td_149, ca_150, ha_151, da_152, c1_153, c2_154, c3_155, c4_156, rfl, k157, k158, k159, k160, k161, k162, k163, k164, k165, k166, k167, k168, k169, k170, k171, k172, k173⟩ := sp0.1 x 11 kx (by decide)
      refine tw_get (v := .int (g.1 0)) rfl in_9 1 dX5_houseFact_86 w_141 rfl (by decide) f148 rfl ?_
      obtain ⟨e177, f178, a_179, b_180, rfl, k181⟩ := sp0.1 p_135 1 k138 (by decide)
      obtain ⟨b182, ow183, fa9, fb9⟩ := k181
      obtain rfl : (768 + 32 * ja + 8) = b182 := (ow183.b lp146).symm
      subst fa9 fb9
      refine tw_bi (tw_callVN (M := mX5_houseFact) (pc := 89) okX3_worth dX5_houseFact_89 w_265 rfl f178 [.int (g.1 0)] [] rfl rfl ⟨by decide, by decide⟩ (Nat.le_of_ble_eq_true rfl) (c4_X3_worth d g τ h sp0.1 p_135 k138 (768 + 32 * ja + 8) lp146 (g.1 0) _ _ _ (he.2.1 ja hja 0 (by decide)).1 (he.2.1 ja hja 1 (by decide)).1 he.2.2.1 (he.2.1 ja hja 0 (by decide)).2 (he.2.1 ja hja 1 (by decide)).2 he.2.2.2) 0 0 (Nat.le_of_ble_eq_true rfl) (Nat.le_of_ble_eq_true rfl)) (fun r176 h175 q174 => ?_) (fun E h1 q => q.elim)
      obtain ⟨q174e, q174v⟩ := q174
      rw [q174e]
      exact tw_iret dX5_houseFact_92 rfl (Or.inl ⟨_, rfl, rfl, by rw [show w = 5 from tw_ic (w := w) (j := 5) (by omega) cs1]; exact q174v⟩)
    · refine tw_tabIn (off := 92) 93 dX5_houseFact_1 csl csh (by rw [cs1]; rfl) (by decide) ?_
      refine tw_aload_n 0 dX5_houseFact_93 rfl rfl ?_
      refine tw_aload_n 1 dX5_houseFact_94 rfl rfl ?_
      obtain ⟨e187, f188, td_189, ca_190, ha_191, da_192, c1_193, c2_194, c3_195, c4_196, rfl, k197, k198, k199, k200, k201, k202, k203, k204, k205, k206, k207, k208, k209, k210, k211, k212, k213⟩ := sp0.1 x 11 kx (by decide)
      refine tw_bi (tw_callV (M := mX5_houseFact) (pc := 95) okX5_unpaidDebtsOf dX5_houseFact_95 w_339 rfl f188 [.ref a] [] rfl rfl ⟨by decide, by decide⟩ (Nat.le_of_ble_eq_true rfl) (c4_X5_unpaidDebtsOf d g τ h sp0.1 x kx a ka ja hja hba) 0 0 (Nat.le_of_ble_eq_true rfl) (Nat.le_of_ble_eq_true rfl)) (fun r186 h185 q184 => ?_) (fun E h1 q => q.elim)
      obtain ⟨q184e, q184v⟩ := q184
      rw [q184e]
      exact tw_iret dX5_houseFact_98 rfl (Or.inl ⟨_, rfl, rfl, by rw [show w = 6 from tw_ic (w := w) (j := 6) (by omega) cs1]; exact q184v⟩)

def tw_ck (G Du M : Nat) : Int32 := if G * M / 10 < Du then 0 else 1
def tw_dC (g : tw_G) (a : Nat) : Nat → Int32
  | 0 => g.1 (1152 + 8 * a + 3)
  | 1 => g.1 (1152 + 8 * a + 4)
  | 2 => g.1 (1152 + 8 * a + 0)
  | 3 => g.1 (1152 + 8 * a + 1)
  | 4 => if g.1 (1152 + 8 * a + 2) = 0 then nI (tw_sd g a) else 0
  | 5 => if g.1 (1152 + 8 * a + 2) = 0 then 0 else 1
  | _ + 6 => if g.1 (1152 + 8 * a + 2) = 0 ∧ g.1 (768 + 32 * tw_dF g a + 1) ≠ -1 then tw_ck (tw_sg g a 0) (tw_sd g a) (tw_DN (g.1 0)) else -1
def tw_CX (g : tw_G) : Prop := tw_CH g ∧ g.1 0 = nI (tw_DN (g.1 0)) ∧ tw_DN (g.1 0) ≤ 200
theorem tw_gf_b {a r : Nat} (ha : a ≤ 40000) (h1 : 100 ≤ r) : tw_gf a r ≤ 59000000 := Nat.le_trans (tw_gf_le h1 ha) (by decide)
theorem tw_wl2 {A M : Nat} (hA : A ≤ 59000000) (hM : M ≤ 200) : 0 + A * M / 10 < 2 ^ 31 := by
  have m9 : A * M ≤ 59000000 * 200 := Nat.mul_le_mul hA hM
  omega
set_option maxHeartbeats 4000000 in
set_option maxRecDepth 100000 in
theorem c4_X5_cheaperMetal (d : tw_D) (g : tw_G) (τ : tw_K) (h : tw_H) (hw : tw_wt d g τ h)  (x : Nat) (kx : τ x = 11) (a : Nat) (ka : τ a = 4) (ja : Nat) (hja : ja < g.2 8) (hba : g.2 (4096 + a) = 1152 + 8 * ja) (he : tw_CX g) : tw_Ct d mX5_cheaperMetal 0 0 [.ref x, .ref a] h (tw_qi (fun r h1 => h1 = h ∧ r = tw_dC g ja 6) tw_nx) := by
  refine tw_of (by decide +kernel) (Nat.le_of_ble_eq_true rfl) ?_
  show tw_W d mX5_cheaperMetal _ 0 [(0, .ref x), (1, .ref a)] [] h 0 0
  have sp0 := tw_sp.rf hw
  obtain ⟨b96, b97, b98⟩ := tw_b678 hw kx
  refine tw_aload_n 1 dX5_cheaperMetal_0 rfl rfl ?_
  obtain ⟨e1, f2, v_3, dy_4, pd_5, a_6, b_7, rfl, k8, k9, k10, k11⟩ := sp0.1 a 4 ka (by decide)
  obtain ⟨j12, ow13, fv9, fd9, fp9, ⟨i14, hi15, ei16, bi17⟩, i18, hi19, ei20, bi21⟩ := k11
  obtain rfl : ja = j12 := by have z := ow13.b hba; omega
  subst fv9 fd9 fp9
  refine tw_getN (v := .ref a_6) rfl in_5 0 dX5_cheaperMetal_1 w_720 rfl (by decide) f2 rfl ?_
  obtain ⟨e22, f23, n_24, ar_25, p_26, pl_27, go_28, rfl, k29, k30, k31, k32⟩ := sp0.1 a_6 3 k8 (by decide)
  obtain ⟨j33, ow34, fn9, fa9, pc35, pc36, lp37⟩ := k32
  obtain rfl : i14 = j33 := by have z := ow34.b bi17; omega
  subst fn9 fa9
  cases pl_27 with
  | none =>
    have pe39 := pc35.n
    refine tw_getN (v := .null) rfl in_6 2 dX5_cheaperMetal_4 w_641 rfl (by decide) f23 rfl ?_
    refine tw_astore_nN [(2, .null), (0, .ref x), (1, .ref a)] dX5_cheaperMetal_7 rfl (by decide) rfl ?_
    refine tw_aload_n 2 dX5_cheaperMetal_8 rfl rfl ?_
    refine tw_getN (v := .int (g.1 (1152 + 8 * ja + 2))) rfl in_5 4 dX5_cheaperMetal_9 w_728 rfl (by decide) f2 rfl ?_
    refine tw_if_ne 19 dX5_cheaperMetal_12 (by decide) (fun c40 => ?_) (fun c40 => ?_)
    · refine tw_iconst (v := -1) dX5_cheaperMetal_19 (by decide) ?_
      exact tw_iret dX5_cheaperMetal_20 rfl (Or.inl ⟨_, rfl, rfl, (if_neg (fun z => c40 z.1)).symm⟩)
    · refine tw_aload_nN 0 dX5_cheaperMetal_15 rfl rfl ?_
      refine tw_ifnonnullN dX5_cheaperMetal_16 ?_
      refine tw_iconst (v := -1) dX5_cheaperMetal_19 (by decide) ?_
      exact tw_iret dX5_cheaperMetal_20 rfl (Or.inl ⟨_, rfl, rfl, (if_neg (fun z => z.2 (by rw [show tw_dF g ja = i14 from tw_dN_e ei16 (by omega)]; exact pe39))).symm⟩)
  | some q38 =>
    obtain ⟨i41, hi42, ei43, bi44⟩ := pc35.s
    refine tw_getN (v := .ref q38) rfl in_6 2 dX5_cheaperMetal_4 w_641 rfl (by decide) f23 rfl ?_
    refine tw_astore_n [(2, .ref q38), (0, .ref x), (1, .ref a)] dX5_cheaperMetal_7 rfl (by decide) rfl ?_
    refine tw_aload_n 2 dX5_cheaperMetal_8 rfl rfl ?_
    refine tw_getN (v := .int (g.1 (1152 + 8 * ja + 2))) rfl in_5 4 dX5_cheaperMetal_9 w_728 rfl (by decide) f2 rfl ?_
    refine tw_if_ne 19 dX5_cheaperMetal_12 (by decide) (fun c45 => ?_) (fun c45 => ?_)
    · refine tw_iconst (v := -1) dX5_cheaperMetal_19 (by decide) ?_
      exact tw_iret dX5_cheaperMetal_20 rfl (Or.inl ⟨_, rfl, rfl, (if_neg (fun z => c45 z.1)).symm⟩)
    · refine tw_aload_n 0 dX5_cheaperMetal_15 rfl rfl ?_
      refine tw_ifnonnull 21 dX5_cheaperMetal_16 (by decide) ?_
      refine tw_aload_n 2 dX5_cheaperMetal_21 rfl rfl ?_
      refine tw_aload_n 1 dX5_cheaperMetal_22 rfl rfl ?_
      obtain ⟨e46, f47, td_48, ca_49, ha_50, da_51, c1_52, c2_53, c3_54, c4_55, rfl, k56, k57, k58, k59, k60, k61, k62, k63, k64, k65, k66, k67, k68, k69, k70, k71, k72⟩ := sp0.1 x 11 kx (by decide)
      refine tw_get (v := .int td_48) rfl in_9 0 dX5_cheaperMetal_23 w_140 rfl (by decide) f47 rfl ?_
      obtain ⟨⟨V9, hV9, eV9⟩, ⟨D9, hD9, eD9⟩, -⟩ := he.1.2.2 ja hja
      have T9 := k68
      rw [k67]
      refine tw_bi (tw_callVN (M := mX5_cheaperMetal) (pc := 26) okX1_dueOn dX5_cheaperMetal_26 w_355 rfl f2 [.int (nI (g.2 21))] [] rfl rfl ⟨by decide, by decide⟩ (Nat.le_of_ble_eq_true rfl) (c4_X1_dueOn d g τ h sp0.1 a ka ja (by omega) hba (g.2 21) V9 D9 eV9 eD9 hV9 (by omega) hD9) 0 0 (Nat.le_of_ble_eq_true rfl) (Nat.le_of_ble_eq_true rfl)) (fun r75 h74 q73 => ?_) (fun E h1 q => q.elim)
      obtain ⟨q73e, q73v⟩ := q73
      rw [q73e]
      have dv9 : r75 = nI (tw_sd g ja) := by unfold tw_sd; rw [eV9, eD9, tw_DN_nI (by omega), tw_DN_nI (by omega)]; exact q73v
      have dl9 : tw_sd g ja ≤ 40000 := by unfold tw_sd; rw [eV9, eD9, tw_DN_nI (by omega), tw_DN_nI (by omega)]; exact tw_dueI hV9 (by omega)
      subst dv9
      refine tw_istore_n [(3, .int (nI (tw_sd g ja))), (2, .ref q38), (0, .ref x), (1, .ref a)] dX5_cheaperMetal_29 rfl (by decide) rfl ?_
      refine tw_aload_n 1 dX5_cheaperMetal_30 rfl rfl ?_
      refine tw_iload_n 0 dX5_cheaperMetal_31 rfl rfl ?_
      have e39 : tw_dF g ja = i14 := tw_dN_e ei16 (by omega)
      have hf9 := he.1.d hja (by omega) b97 (Or.inl rfl) ei16
      have hp9 := he.1.p hf9 (by omega) b96 ei43
      have E9 := he.1.1 i41 hp9
      obtain ⟨e79, f80, n_81, r_82, c_83, go_84, so_85, v_86, rd_87, rf_88, t_89, rfl, k90, k91, k92, k93, k94, k95, k96, k97, k98⟩ := sp0.1 q38 2 (k30 _ rfl) (by decide)
      obtain ⟨j99, ow100, fn9, fr9, fc9, fg9, fs9, q101, q102, q103, q104⟩ := k98
      obtain rfl : i41 = j99 := by have z := ow100.b bi44; omega
      subst fn9 fr9 fc9 fg9 fs9
      refine tw_bi (tw_callVN (M := mX5_cheaperMetal) (pc := 32) okX0_goldFor dX5_cheaperMetal_32 w_364 rfl f80 [.int (nI (tw_sd g ja))] [] rfl rfl ⟨by decide, by decide⟩ (Nat.le_of_ble_eq_true rfl) (c4_X0_goldFor d g τ h sp0.1 q38 (k30 _ rfl) i41 (by omega) bi44 (nI (tw_sd g ja)) _ _ rfl E9.1.2.2 E9.1.1 E9.1.2.1 dl9) 0 0 (Nat.le_of_ble_eq_true rfl) (Nat.le_of_ble_eq_true rfl)) (fun r78 h77 q76 => ?_) (fun E h1 q => q.elim)
      obtain ⟨q76e, q76v⟩ := q76
      rw [q76e]
      have gs9 : r78 = nI (tw_sg g ja 0) := by unfold tw_sg; rw [if_pos rfl, e39, tw_cP_e ei43 (by omega)]; exact q76v
      have gb9 : tw_sg g ja 0 ≤ 59000000 := by unfold tw_sg; rw [if_pos rfl, e39, tw_cP_e ei43 (by omega)]; exact tw_gf_b dl9 E9.1.1
      refine tw_iconst (v := 0) dX5_cheaperMetal_35 (by decide) ?_
      refine tw_aload_n 2 dX5_cheaperMetal_36 rfl rfl ?_
      refine tw_get (v := .int (g.1 0)) rfl in_9 1 dX5_cheaperMetal_37 w_141 rfl (by decide) f47 rfl ?_
      refine tw_bi (tw_callS (M := mX5_cheaperMetal) (pc := 40) okX5_worthOf dX5_cheaperMetal_40 w_368 [.int r78, .int 0, .int (g.1 0)] [] rfl rfl ⟨by decide, by decide⟩ (Nat.le_of_ble_eq_true rfl) (c4_X5_worthOf d g τ h sp0.1 r78 0 (g.1 0) (tw_sg g ja 0) 0 (tw_DN (g.1 0)) gs9 rfl he.2.1 gb9 (by decide) he.2.2) 0 0 (Nat.le_of_ble_eq_true rfl) (Nat.le_of_ble_eq_true rfl)) (fun r107 h106 q105 => ?_) (fun E h1 q => q.elim)
      obtain ⟨q105e, q105v⟩ := q105
      rw [q105e]
      refine tw_iload_n 0 dX5_cheaperMetal_43 rfl rfl ?_
      refine tw_icmp_ge 51 dX5_cheaperMetal_44 (by decide) (fun c108 => ?_) (fun c108 => ?_)
      · have wb9 : 0 + tw_sg g ja 0 * tw_DN (g.1 0) / 10 < 2 ^ 31 := tw_wl2 gb9 he.2.2
        have ck9 : ¬ tw_sg g ja 0 * tw_DN (g.1 0) / 10 < tw_sd g ja := by have z := c108; rw [q105v] at z; have y := (tw_nIle (by omega) wb9).mp z; omega
        refine tw_iconst (v := 1) dX5_cheaperMetal_51 (by decide) ?_
        exact tw_iret dX5_cheaperMetal_52 rfl (Or.inl ⟨_, rfl, rfl, ((if_pos ⟨c45, by rw [e39, ei43]; exact tw_nm1 (by omega)⟩).trans (if_neg ck9)).symm⟩)
      · have wb9 : 0 + tw_sg g ja 0 * tw_DN (g.1 0) / 10 < 2 ^ 31 := tw_wl2 gb9 he.2.2
        have ck9 : tw_sg g ja 0 * tw_DN (g.1 0) / 10 < tw_sd g ja := by have z := c108; rw [q105v] at z; rcases Nat.lt_or_ge (0 + tw_sg g ja 0 * tw_DN (g.1 0) / 10) (tw_sd g ja) with y | y; omega; exact absurd ((tw_nIle (by omega) wb9).mpr y) z
        refine tw_iconst (v := 0) dX5_cheaperMetal_47 (by decide) ?_
        refine tw_goto 52 dX5_cheaperMetal_48 (by decide) ?_
        exact tw_iret dX5_cheaperMetal_52 rfl (Or.inl ⟨_, rfl, rfl, ((if_pos ⟨c45, by rw [e39, ei43]; exact tw_nm1 (by omega)⟩).trans (if_pos ck9)).symm⟩)

set_option maxHeartbeats 4000000 in
set_option maxRecDepth 100000 in
theorem c4_X5_debtFact (d : tw_D) (g : tw_G) (τ : tw_K) (h : tw_H) (hw : tw_wt d g τ h)  (x : Nat) (kx : τ x = 11) (a : Nat) (ka : τ a = 4) (ja : Nat) (hja : ja < g.2 8) (hba : g.2 (4096 + a) = 1152 + 8 * ja) (w : Nat) (hw9 : w ≤ 6) (he : tw_CX g) : tw_Ct d mX5_debtFact 0 0 [.ref x, .ref a, .int (nI w)] h (tw_qi (fun r h1 => h1 = h ∧ r = tw_dC g ja w) tw_nx) := by
  refine tw_of (by decide +kernel) (Nat.le_of_ble_eq_true rfl) ?_
  show tw_W d mX5_debtFact _ 0 [(0, .ref x), (1, .ref a), (2, .int (nI w))] [] h 0 0
  have sp0 := tw_sp.rf hw
  have b9 := tw_b678 hw kx
  refine tw_iload_n 2 dX5_debtFact_0 rfl rfl ?_
  by_cases cs0 : ((nI w)).toInt < 0 ∨ 5 < ((nI w)).toInt
  · refine tw_tabOut 99 dX5_debtFact_1 cs0 (by decide) ?_
    refine tw_aload_n 0 dX5_debtFact_99 rfl rfl ?_
    refine tw_aload_n 1 dX5_debtFact_100 rfl rfl ?_
    obtain ⟨e4, f5, td_6, ca_7, ha_8, da_9, c1_10, c2_11, c3_12, c4_13, rfl, k14, k15, k16, k17, k18, k19, k20, k21, k22, k23, k24, k25, k26, k27, k28, k29, k30⟩ := sp0.1 x 11 kx (by decide)
    refine tw_bi (tw_callV (M := mX5_debtFact) (pc := 101) okX5_cheaperMetal dX5_debtFact_101 w_360 rfl f5 [.ref a] [] rfl rfl ⟨by decide, by decide⟩ (Nat.le_of_ble_eq_true rfl) (c4_X5_cheaperMetal d g τ h sp0.1 x kx a ka ja hja hba he) 0 0 (Nat.le_of_ble_eq_true rfl) (Nat.le_of_ble_eq_true rfl)) (fun r3 h2 q1 => ?_) (fun E h1 q => q.elim)
    obtain ⟨q1e, q1v⟩ := q1
    rw [q1e]
    exact tw_iret dX5_debtFact_104 rfl (Or.inl ⟨_, rfl, rfl, by rw [show w = 6 from (by have z := tw_io (w := w) (lo := 0) (hi := 5) (by omega) cs0; omega)]; exact q1v⟩)
  · have csl : ¬ ((nI w)).toInt < 0 := fun q => cs0 (Or.inl q)
    have csh : ¬ 5 < ((nI w)).toInt := fun q => cs0 (Or.inr q)
    rcases (show ((nI w)).toInt = 0 ∨ ((nI w)).toInt = 1 ∨ ((nI w)).toInt = 2 ∨ ((nI w)).toInt = 3 ∨ ((nI w)).toInt = 4 ∨ ((nI w)).toInt = 5 by omega) with cs1 | cs1 | cs1 | cs1 | cs1 | cs1
    · refine tw_tabIn (off := 39) 40 dX5_debtFact_1 csl csh (by rw [cs1]; rfl) (by decide) ?_
      refine tw_aload_n 1 dX5_debtFact_40 rfl rfl ?_
      obtain ⟨e31, f32, v_33, dy_34, pd_35, a_36, b_37, rfl, k38, k39, k40, k41⟩ := sp0.1 a 4 ka (by decide)
      obtain ⟨j42, ow43, fv9, fd9, fp9, ⟨i44, hi45, ei46, bi47⟩, i48, hi49, ei50, bi51⟩ := k41
      obtain rfl : ja = j42 := by have z := ow43.b hba; omega
      subst fv9 fd9 fp9
      refine tw_getN (v := .ref a_36) rfl in_5 0 dX5_debtFact_41 w_720 rfl (by decide) f32 rfl ?_
      obtain ⟨e52, f53, n_54, ar_55, p_56, pl_57, go_58, rfl, k59, k60, k61, k62⟩ := sp0.1 a_36 3 k38 (by decide)
      obtain ⟨j63, ow64, fn9, fa9, pc65, pc66, lp67⟩ := k62
      obtain rfl : i44 = j63 := by have z := ow64.b bi47; omega
      subst fn9 fa9
      refine tw_getN (v := .int (nI i44)) rfl in_6 0 dX5_debtFact_44 w_637 rfl (by decide) f53 rfl ?_
      exact tw_iret dX5_debtFact_47 rfl (Or.inl ⟨_, rfl, rfl, by rw [show w = 0 from tw_ic (w := w) (j := 0) (by omega) cs1]; exact ei46.symm⟩)
    · refine tw_tabIn (off := 47) 48 dX5_debtFact_1 csl csh (by rw [cs1]; rfl) (by decide) ?_
      refine tw_aload_n 1 dX5_debtFact_48 rfl rfl ?_
      obtain ⟨e68, f69, v_70, dy_71, pd_72, a_73, b_74, rfl, k75, k76, k77, k78⟩ := sp0.1 a 4 ka (by decide)
      obtain ⟨j79, ow80, fv9, fd9, fp9, ⟨i81, hi82, ei83, bi84⟩, i85, hi86, ei87, bi88⟩ := k78
      obtain rfl : ja = j79 := by have z := ow80.b hba; omega
      subst fv9 fd9 fp9
      refine tw_getN (v := .ref b_74) rfl in_5 1 dX5_debtFact_49 w_722 rfl (by decide) f69 rfl ?_
      obtain ⟨e89, f90, n_91, ar_92, p_93, pl_94, go_95, rfl, k96, k97, k98, k99⟩ := sp0.1 b_74 3 k76 (by decide)
      obtain ⟨j100, ow101, fn9, fa9, pc102, pc103, lp104⟩ := k99
      obtain rfl : i85 = j100 := by have z := ow101.b bi88; omega
      subst fn9 fa9
      refine tw_getN (v := .int (nI i85)) rfl in_6 0 dX5_debtFact_52 w_637 rfl (by decide) f90 rfl ?_
      exact tw_iret dX5_debtFact_55 rfl (Or.inl ⟨_, rfl, rfl, by rw [show w = 1 from tw_ic (w := w) (j := 1) (by omega) cs1]; exact ei87.symm⟩)
    · refine tw_tabIn (off := 55) 56 dX5_debtFact_1 csl csh (by rw [cs1]; rfl) (by decide) ?_
      refine tw_aload_n 1 dX5_debtFact_56 rfl rfl ?_
      obtain ⟨e105, f106, v_107, dy_108, pd_109, a_110, b_111, rfl, k112, k113, k114, k115⟩ := sp0.1 a 4 ka (by decide)
      obtain ⟨j116, ow117, fv9, fd9, fp9, ⟨i118, hi119, ei120, bi121⟩, i122, hi123, ei124, bi125⟩ := k115
      obtain rfl : ja = j116 := by have z := ow117.b hba; omega
      subst fv9 fd9 fp9
      refine tw_getN (v := .int (g.1 (1152 + 8 * ja + 0))) rfl in_5 2 dX5_debtFact_57 w_724 rfl (by decide) f106 rfl ?_
      exact tw_iret dX5_debtFact_60 rfl (Or.inl ⟨_, rfl, rfl, by rw [show w = 2 from tw_ic (w := w) (j := 2) (by omega) cs1]; exact rfl⟩)
    · refine tw_tabIn (off := 60) 61 dX5_debtFact_1 csl csh (by rw [cs1]; rfl) (by decide) ?_
      refine tw_aload_n 1 dX5_debtFact_61 rfl rfl ?_
      obtain ⟨e126, f127, v_128, dy_129, pd_130, a_131, b_132, rfl, k133, k134, k135, k136⟩ := sp0.1 a 4 ka (by decide)
      obtain ⟨j137, ow138, fv9, fd9, fp9, ⟨i139, hi140, ei141, bi142⟩, i143, hi144, ei145, bi146⟩ := k136
      obtain rfl : ja = j137 := by have z := ow138.b hba; omega
      subst fv9 fd9 fp9
      refine tw_getN (v := .int (g.1 (1152 + 8 * ja + 1))) rfl in_5 3 dX5_debtFact_62 w_726 rfl (by decide) f127 rfl ?_
      exact tw_iret dX5_debtFact_65 rfl (Or.inl ⟨_, rfl, rfl, by rw [show w = 3 from tw_ic (w := w) (j := 3) (by omega) cs1]; exact rfl⟩)
    · refine tw_tabIn (off := 65) 66 dX5_debtFact_1 csl csh (by rw [cs1]; rfl) (by decide) ?_
      refine tw_aload_n 1 dX5_debtFact_66 rfl rfl ?_
      obtain ⟨e147, f148, v_149, dy_150, pd_151, a_152, b_153, rfl, k154, k155, k156, k157⟩ := sp0.1 a 4 ka (by decide)
      obtain ⟨j158, ow159, fv9, fd9, fp9, ⟨i160, hi161, ei162, bi163⟩, i164, hi165, ei166, bi167⟩ := k157
      obtain rfl : ja = j158 := by have z := ow159.b hba; omega
      subst fv9 fd9 fp9
      refine tw_getN (v := .int (g.1 (1152 + 8 * ja + 2))) rfl in_5 4 dX5_debtFact_67 w_728 rfl (by decide) f148 rfl ?_
      refine tw_if_eq 77 dX5_debtFact_70 (by decide) (fun c168 => ?_) (fun c168 => ?_)
      · refine tw_aload_n 1 dX5_debtFact_77 rfl rfl ?_
        refine tw_aload_n 0 dX5_debtFact_78 rfl rfl ?_
        obtain ⟨e169, f170, td_171, ca_172, ha_173, da_174, c1_175, c2_176, c3_177, c4_178, rfl, k179, k180, k181, k182, k183, k184, k185, k186, k187, k188, k189, k190, k191, k192, k193, k194, k195⟩ := sp0.1 x 11 kx (by decide)
        refine tw_get (v := .int td_171) rfl in_9 0 dX5_debtFact_79 w_140 rfl (by decide) f170 rfl ?_
        obtain ⟨⟨V9, hV9, eV9⟩, ⟨D9, hD9, eD9⟩, -⟩ := he.1.2.2 ja hja
        have T9 := k191
        rw [k190]
        refine tw_bi (tw_callVN (M := mX5_debtFact) (pc := 82) okX1_dueOn dX5_debtFact_82 w_355 rfl f148 [.int (nI (g.2 21))] [] rfl rfl ⟨by decide, by decide⟩ (Nat.le_of_ble_eq_true rfl) (c4_X1_dueOn d g τ h sp0.1 a ka ja (by omega) hba (g.2 21) V9 D9 eV9 eD9 hV9 (by omega) hD9) 0 0 (Nat.le_of_ble_eq_true rfl) (Nat.le_of_ble_eq_true rfl)) (fun r198 h197 q196 => ?_) (fun E h1 q => q.elim)
        obtain ⟨q196e, q196v⟩ := q196
        rw [q196e]
        have dv9 : r198 = nI (tw_sd g ja) := by unfold tw_sd; rw [eV9, eD9, tw_DN_nI (by omega), tw_DN_nI (by omega)]; exact q196v
        have dl9 : tw_sd g ja ≤ 40000 := by unfold tw_sd; rw [eV9, eD9, tw_DN_nI (by omega), tw_DN_nI (by omega)]; exact tw_dueI hV9 (by omega)
        subst dv9
        exact tw_iret dX5_debtFact_85 rfl (Or.inl ⟨_, rfl, rfl, by rw [show w = 4 from tw_ic (w := w) (j := 4) (by omega) cs1]; exact (if_pos c168).symm⟩)
      · refine tw_iconst (v := 0) dX5_debtFact_73 (by decide) ?_
        refine tw_goto 85 dX5_debtFact_74 (by decide) ?_
        exact tw_iret dX5_debtFact_85 rfl (Or.inl ⟨_, rfl, rfl, by rw [show w = 4 from tw_ic (w := w) (j := 4) (by omega) cs1]; exact (if_neg c168).symm⟩)
    · refine tw_tabIn (off := 85) 86 dX5_debtFact_1 csl csh (by rw [cs1]; rfl) (by decide) ?_
      refine tw_aload_n 1 dX5_debtFact_86 rfl rfl ?_
      obtain ⟨e199, f200, v_201, dy_202, pd_203, a_204, b_205, rfl, k206, k207, k208, k209⟩ := sp0.1 a 4 ka (by decide)
      obtain ⟨j210, ow211, fv9, fd9, fp9, ⟨i212, hi213, ei214, bi215⟩, i216, hi217, ei218, bi219⟩ := k209
      obtain rfl : ja = j210 := by have z := ow211.b hba; omega
      subst fv9 fd9 fp9
      refine tw_getN (v := .int (g.1 (1152 + 8 * ja + 2))) rfl in_5 4 dX5_debtFact_87 w_728 rfl (by decide) f200 rfl ?_
      refine tw_if_eq 97 dX5_debtFact_90 (by decide) (fun c220 => ?_) (fun c220 => ?_)
      · refine tw_iconst (v := 0) dX5_debtFact_97 (by decide) ?_
        exact tw_iret dX5_debtFact_98 rfl (Or.inl ⟨_, rfl, rfl, by rw [show w = 5 from tw_ic (w := w) (j := 5) (by omega) cs1]; exact (if_pos c220).symm⟩)
      · refine tw_iconst (v := 1) dX5_debtFact_93 (by decide) ?_
        refine tw_goto 98 dX5_debtFact_94 (by decide) ?_
        exact tw_iret dX5_debtFact_98 rfl (Or.inl ⟨_, rfl, rfl, by rw [show w = 5 from tw_ic (w := w) (j := 5) (by omega) cs1]; exact (if_neg c220).symm⟩)

def tw_oS (go so : Int32) : Int32 := (if go = 0 then 0 else 1) + (if so = 0 then 0 else 2)
def tw_pn (f : Nat → Int32) : Int32 := 20 * f 0 + 10 * f 1 + 5 * f 2 + 2 * f 3 + f 4
def tw_oC (g : tw_G) (a : Nat) : Nat → Int32
  | 0 => g.1 (160 + 64 * a)
  | 1 => g.1 (160 + 64 * a + 1)
  | 2 => g.1 (160 + 64 * a + 24 + 0)
  | 3 => g.1 (160 + 64 * a + 24 + 1)
  | 4 => tw_oS (g.1 (160 + 64 * a + 2)) (g.1 (160 + 64 * a + 3))
  | 5 => tw_isum (fun j => if g.1 (768 + 32 * j + 1) = nI a then 1 else 0) (g.2 7)
  | 6 => tw_wo (g.1 (160 + 64 * a + 24 + 0)) (g.1 (160 + 64 * a + 24 + 1)) (g.1 0)
  | 7 => tw_pn (fun k => g.1 (160 + 64 * a + 32 + k))
  | _ + 8 => tw_isum (fun j => if g.1 (160 + 64 * j) = g.1 (160 + 64 * a) then 1 else 0) (g.2 6)
set_option maxHeartbeats 4000000 in
set_option maxRecDepth 100000 in
theorem c4_X0_openSet (d : tw_D) (g : tw_G) (τ : tw_K) (h : tw_H) (hw : tw_wt d g τ h) (x : Nat) (kx : τ x = 2) (j : Nat) (hj : j < 4) (hb : g.2 (4096 + x) = 160 + 64 * j) : tw_Ct d mX0_openSet 0 0 [.ref x] h (tw_qi (fun r h1 => h1 = h ∧ r = tw_oS (g.1 (160 + 64 * j + 2)) (g.1 (160 + 64 * j + 3))) tw_nx) := by
  refine tw_of (by decide +kernel) (Nat.le_of_ble_eq_true rfl) ?_
  show tw_W d mX0_openSet _ 0 [(0, .ref x)] [] h 0 0
  have sp0 := tw_sp.rf hw
  refine tw_aload_n 0 dX0_openSet_0 rfl rfl ?_
  obtain ⟨e1, f2, n_3, r_4, c_5, go_6, so_7, v_8, rd_9, rf_10, t_11, rfl, k12, k13, k14, k15, k16, k17, k18, k19, k20⟩ := sp0.1 x 2 kx (by decide)
  obtain ⟨j21, ow22, fn9, fr9, fc9, fg9, fs9, q23, q24, q25, q26⟩ := k20
  obtain rfl : j = j21 := by have z := ow22.b hb; omega
  subst fn9 fr9 fc9 fg9 fs9
  refine tw_get (v := .int (g.1 (160 + 64 * j + 2))) rfl in_4 4 dX0_openSet_1 w_509 rfl (by decide) f2 rfl ?_
  refine tw_if_eq 11 dX0_openSet_4 (by decide) (fun c27 => ?_) (fun c27 => ?_)
  · refine tw_iconst (v := 0) dX0_openSet_11 (by decide) ?_
    refine tw_aload_n 0 dX0_openSet_12 rfl rfl ?_
    refine tw_get (v := .int (g.1 (160 + 64 * j + 3))) rfl in_4 5 dX0_openSet_13 w_510 rfl (by decide) f2 rfl ?_
    refine tw_if_eq 23 dX0_openSet_16 (by decide) (fun c28 => ?_) (fun c28 => ?_)
    · refine tw_iconst (v := 0) dX0_openSet_23 (by decide) ?_
      refine tw_iadd dX0_openSet_24 ?_
      refine tw_nmi (fun v29 ev29 => ?_)
      exact tw_iret dX0_openSet_25 rfl (Or.inl ⟨_, rfl, rfl, by unfold tw_oS; rw [if_pos c27, if_pos c28, ev29]⟩)
    · refine tw_iconst (v := 2) dX0_openSet_19 (by decide) ?_
      refine tw_goto 24 dX0_openSet_20 (by decide) ?_
      refine tw_iadd dX0_openSet_24 ?_
      refine tw_nmi (fun v30 ev30 => ?_)
      exact tw_iret dX0_openSet_25 rfl (Or.inl ⟨_, rfl, rfl, by unfold tw_oS; rw [if_pos c27, if_neg c28, ev30]⟩)
  · refine tw_iconst (v := 1) dX0_openSet_7 (by decide) ?_
    refine tw_goto 12 dX0_openSet_8 (by decide) ?_
    refine tw_aload_n 0 dX0_openSet_12 rfl rfl ?_
    refine tw_get (v := .int (g.1 (160 + 64 * j + 3))) rfl in_4 5 dX0_openSet_13 w_510 rfl (by decide) f2 rfl ?_
    refine tw_if_eq 23 dX0_openSet_16 (by decide) (fun c31 => ?_) (fun c31 => ?_)
    · refine tw_iconst (v := 0) dX0_openSet_23 (by decide) ?_
      refine tw_iadd dX0_openSet_24 ?_
      refine tw_nmi (fun v32 ev32 => ?_)
      exact tw_iret dX0_openSet_25 rfl (Or.inl ⟨_, rfl, rfl, by unfold tw_oS; rw [if_neg c27, if_pos c31, ev32]⟩)
    · refine tw_iconst (v := 2) dX0_openSet_19 (by decide) ?_
      refine tw_goto 24 dX0_openSet_20 (by decide) ?_
      refine tw_iadd dX0_openSet_24 ?_
      refine tw_nmi (fun v33 ev33 => ?_)
      exact tw_iret dX0_openSet_25 rfl (Or.inl ⟨_, rfl, rfl, by unfold tw_oS; rw [if_neg c27, if_neg c31, ev33]⟩)

set_option maxHeartbeats 4000000 in
set_option maxRecDepth 100000 in
theorem c4_X4_pounds (d : tw_D) (g : tw_G) (τ : tw_K) (h : tw_H) (hw : tw_wt d g τ h) (x : Nat) (kx : τ x = 5) (j : Nat) (hj : j < 4) (hb : g.2 (4096 + x) = 160 + 64 * j + 32) : tw_Ct d mX4_pounds 0 0 [.ref x] h (tw_qi (fun r h1 => h1 = h ∧ r = tw_pn (fun k => g.1 (160 + 64 * j + 32 + k))) tw_nx) := by
  refine tw_of (by decide +kernel) (Nat.le_of_ble_eq_true rfl) ?_
  show tw_W d mX4_pounds _ 0 [(0, .ref x)] [] h 0 0
  have sp0 := tw_sp.rf hw
  refine tw_bipush (v := 20) dX4_pounds_0 (by decide) ?_
  refine tw_aload_n 0 dX4_pounds_2 rfl rfl ?_
  refine tw_iconst (v := 0) dX4_pounds_3 (by decide) ?_
  obtain ⟨e4, f5, m_6, rfl, k7, k8⟩ := sp0.1 x 5 kx (by decide)
  refine tw_bi (tw_callV (M := mX4_pounds) (pc := 4) okX4_manyOf dX4_pounds_4 w_277 rfl f5 [.int 0] [.int 20] rfl rfl ⟨by decide, by decide⟩ (Nat.le_of_ble_eq_true rfl) (c2_X4_manyOf d g τ h sp0.1 x kx j hj hb 0 (by decide)) 0 0 (Nat.le_of_ble_eq_true rfl) (Nat.le_of_ble_eq_true rfl)) (fun r3 h2 q1 => ?_) (fun E h1 q => q.elim)
  obtain ⟨q1e, mo0⟩ := q1
  rw [q1e]
  refine tw_imul dX4_pounds_7 ?_
  refine tw_nmi (fun v9 ev9 => ?_)
  refine tw_bipush (v := 10) dX4_pounds_8 (by decide) ?_
  refine tw_aload_n 0 dX4_pounds_10 rfl rfl ?_
  refine tw_iconst (v := 1) dX4_pounds_11 (by decide) ?_
  refine tw_bi (tw_callV (M := mX4_pounds) (pc := 12) okX4_manyOf dX4_pounds_12 w_277 rfl f5 [.int 1] [.int 10, .int v9] rfl rfl ⟨by decide, by decide⟩ (Nat.le_of_ble_eq_true rfl) (c2_X4_manyOf d g τ h sp0.1 x kx j hj hb 1 (by decide)) 0 0 (Nat.le_of_ble_eq_true rfl) (Nat.le_of_ble_eq_true rfl)) (fun r12 h11 q10 => ?_) (fun E h1 q => q.elim)
  obtain ⟨q10e, mo1⟩ := q10
  rw [q10e]
  refine tw_imul dX4_pounds_15 ?_
  refine tw_nmi (fun v13 ev13 => ?_)
  refine tw_iadd dX4_pounds_16 ?_
  refine tw_nmi (fun v14 ev14 => ?_)
  refine tw_iconst (v := 5) dX4_pounds_17 (by decide) ?_
  refine tw_aload_n 0 dX4_pounds_18 rfl rfl ?_
  refine tw_iconst (v := 2) dX4_pounds_19 (by decide) ?_
  refine tw_bi (tw_callV (M := mX4_pounds) (pc := 20) okX4_manyOf dX4_pounds_20 w_277 rfl f5 [.int 2] [.int 5, .int v14] rfl rfl ⟨by decide, by decide⟩ (Nat.le_of_ble_eq_true rfl) (c2_X4_manyOf d g τ h sp0.1 x kx j hj hb 2 (by decide)) 0 0 (Nat.le_of_ble_eq_true rfl) (Nat.le_of_ble_eq_true rfl)) (fun r17 h16 q15 => ?_) (fun E h1 q => q.elim)
  obtain ⟨q15e, mo2⟩ := q15
  rw [q15e]
  refine tw_imul dX4_pounds_23 ?_
  refine tw_nmi (fun v18 ev18 => ?_)
  refine tw_iadd dX4_pounds_24 ?_
  refine tw_nmi (fun v19 ev19 => ?_)
  refine tw_iconst (v := 2) dX4_pounds_25 (by decide) ?_
  refine tw_aload_n 0 dX4_pounds_26 rfl rfl ?_
  refine tw_iconst (v := 3) dX4_pounds_27 (by decide) ?_
  refine tw_bi (tw_callV (M := mX4_pounds) (pc := 28) okX4_manyOf dX4_pounds_28 w_277 rfl f5 [.int 3] [.int 2, .int v19] rfl rfl ⟨by decide, by decide⟩ (Nat.le_of_ble_eq_true rfl) (c2_X4_manyOf d g τ h sp0.1 x kx j hj hb 3 (by decide)) 0 0 (Nat.le_of_ble_eq_true rfl) (Nat.le_of_ble_eq_true rfl)) (fun r22 h21 q20 => ?_) (fun E h1 q => q.elim)
  obtain ⟨q20e, mo3⟩ := q20
  rw [q20e]
  refine tw_imul dX4_pounds_31 ?_
  refine tw_nmi (fun v23 ev23 => ?_)
  refine tw_iadd dX4_pounds_32 ?_
  refine tw_nmi (fun v24 ev24 => ?_)
  refine tw_aload_n 0 dX4_pounds_33 rfl rfl ?_
  refine tw_iconst (v := 4) dX4_pounds_34 (by decide) ?_
  refine tw_bi (tw_callV (M := mX4_pounds) (pc := 35) okX4_manyOf dX4_pounds_35 w_277 rfl f5 [.int 4] [.int v24] rfl rfl ⟨by decide, by decide⟩ (Nat.le_of_ble_eq_true rfl) (c2_X4_manyOf d g τ h sp0.1 x kx j hj hb 4 (by decide)) 0 0 (Nat.le_of_ble_eq_true rfl) (Nat.le_of_ble_eq_true rfl)) (fun r27 h26 q25 => ?_) (fun E h1 q => q.elim)
  obtain ⟨q25e, mo4⟩ := q25
  rw [q25e]
  refine tw_iadd dX4_pounds_38 ?_
  refine tw_nmi (fun v28 ev28 => ?_)
  exact tw_iret dX4_pounds_39 rfl (Or.inl ⟨_, rfl, rfl, by rw [ev28, ev24, ev19, ev14, ev9, ev13, ev18, ev23, mo0, mo1, mo2, mo3, mo4]; rfl⟩)

set_option maxHeartbeats 4000000 in
set_option maxRecDepth 100000 in
theorem c4_X5_countryFact (d : tw_D) (g : tw_G) (τ : tw_K) (h : tw_H) (hw : tw_wt d g τ h)  (x : Nat) (kx : τ x = 11) (a : Nat) (ka : τ a = 2) (ja : Nat) (hja : ja < g.2 6) (hba : g.2 (4096 + a) = 160 + 64 * ja) (w : Nat) (hw9 : w ≤ 8) (he : tw_CW g) : tw_Ct d mX5_countryFact 0 0 [.ref x, .ref a, .int (nI w)] h (tw_qi (fun r h1 => h1 = h ∧ r = tw_oC g ja w) tw_nx) := by
  refine tw_of (by decide +kernel) (Nat.le_of_ble_eq_true rfl) ?_
  show tw_W d mX5_countryFact _ 0 [(0, .ref x), (1, .ref a), (2, .int (nI w))] [] h 0 0
  have sp0 := tw_sp.rf hw
  have b9 := tw_b678 hw kx
  refine tw_iload_n 2 dX5_countryFact_0 rfl rfl ?_
  by_cases cs0 : ((nI w)).toInt < 0 ∨ 7 < ((nI w)).toInt
  · refine tw_tabOut 105 dX5_countryFact_1 cs0 (by decide) ?_
    refine tw_aload_n 0 dX5_countryFact_105 rfl rfl ?_
    refine tw_aload_n 1 dX5_countryFact_106 rfl rfl ?_
    obtain ⟨e1, f2, n_3, r_4, c_5, go_6, so_7, v_8, rd_9, rf_10, t_11, rfl, k12, k13, k14, k15, k16, k17, k18, k19, k20⟩ := sp0.1 a 2 ka (by decide)
    obtain ⟨j21, ow22, fn9, fr9, fc9, fg9, fs9, q23, q24, q25, q26⟩ := k20
    obtain rfl : ja = j21 := by have z := ow22.b hba; omega
    subst fn9 fr9 fc9 fg9 fs9
    refine tw_getN (v := .int (g.1 (160 + 64 * ja))) rfl in_4 1 dX5_countryFact_107 w_504 rfl (by decide) f2 rfl ?_
    obtain ⟨e30, f31, td_32, ca_33, ha_34, da_35, c1_36, c2_37, c3_38, c4_39, rfl, k40, k41, k42, k43, k44, k45, k46, k47, k48, k49, k50, k51, k52, k53, k54, k55, k56⟩ := sp0.1 x 11 kx (by decide)
    refine tw_bi (tw_callV (M := mX5_countryFact) (pc := 110) okX5_countriesWithRate dX5_countryFact_110 w_281 rfl f31 [.int (g.1 (160 + 64 * ja))] [] rfl rfl ⟨by decide, by decide⟩ (Nat.le_of_ble_eq_true rfl) (c4_X5_countriesWithRate d g τ h sp0.1 x kx (g.1 (160 + 64 * ja))) 0 0 (Nat.le_of_ble_eq_true rfl) (Nat.le_of_ble_eq_true rfl)) (fun r29 h28 q27 => ?_) (fun E h1 q => q.elim)
    obtain ⟨q27e, q27v⟩ := q27
    rw [q27e]
    exact tw_iret dX5_countryFact_113 rfl (Or.inl ⟨_, rfl, rfl, by rw [show w = 8 from (by have z := tw_io (w := w) (lo := 0) (hi := 7) (by omega) cs0; omega)]; exact q27v⟩)
  · have csl : ¬ ((nI w)).toInt < 0 := fun q => cs0 (Or.inl q)
    have csh : ¬ 7 < ((nI w)).toInt := fun q => cs0 (Or.inr q)
    rcases (show ((nI w)).toInt = 0 ∨ ((nI w)).toInt = 1 ∨ ((nI w)).toInt = 2 ∨ ((nI w)).toInt = 3 ∨ ((nI w)).toInt = 4 ∨ ((nI w)).toInt = 5 ∨ ((nI w)).toInt = 6 ∨ ((nI w)).toInt = 7 by omega) with cs1 | cs1 | cs1 | cs1 | cs1 | cs1 | cs1 | cs1
    · refine tw_tabIn (off := 47) 48 dX5_countryFact_1 csl csh (by rw [cs1]; rfl) (by decide) ?_
      refine tw_aload_n 1 dX5_countryFact_48 rfl rfl ?_
      obtain ⟨e57, f58, n_59, r_60, c_61, go_62, so_63, v_64, rd_65, rf_66, t_67, rfl, k68, k69, k70, k71, k72, k73, k74, k75, k76⟩ := sp0.1 a 2 ka (by decide)
      obtain ⟨j77, ow78, fn9, fr9, fc9, fg9, fs9, q79, q80, q81, q82⟩ := k76
      obtain rfl : ja = j77 := by have z := ow78.b hba; omega
      subst fn9 fr9 fc9 fg9 fs9
      refine tw_getN (v := .int (g.1 (160 + 64 * ja))) rfl in_4 1 dX5_countryFact_49 w_504 rfl (by decide) f58 rfl ?_
      exact tw_iret dX5_countryFact_52 rfl (Or.inl ⟨_, rfl, rfl, by rw [show w = 0 from tw_ic (w := w) (j := 0) (by omega) cs1]; exact rfl⟩)
    · refine tw_tabIn (off := 52) 53 dX5_countryFact_1 csl csh (by rw [cs1]; rfl) (by decide) ?_
      refine tw_aload_n 1 dX5_countryFact_53 rfl rfl ?_
      obtain ⟨e83, f84, n_85, r_86, c_87, go_88, so_89, v_90, rd_91, rf_92, t_93, rfl, k94, k95, k96, k97, k98, k99, k100, k101, k102⟩ := sp0.1 a 2 ka (by decide)
      obtain ⟨j103, ow104, fn9, fr9, fc9, fg9, fs9, q105, q106, q107, q108⟩ := k102
      obtain rfl : ja = j103 := by have z := ow104.b hba; omega
      subst fn9 fr9 fc9 fg9 fs9
      refine tw_getN (v := .int (g.1 (160 + 64 * ja + 1))) rfl in_4 2 dX5_countryFact_54 w_506 rfl (by decide) f84 rfl ?_
      exact tw_iret dX5_countryFact_57 rfl (Or.inl ⟨_, rfl, rfl, by rw [show w = 1 from tw_ic (w := w) (j := 1) (by omega) cs1]; exact rfl⟩)
    · refine tw_tabIn (off := 57) 58 dX5_countryFact_1 csl csh (by rw [cs1]; rfl) (by decide) ?_
      refine tw_aload_n 1 dX5_countryFact_58 rfl rfl ?_
      obtain ⟨e109, f110, n_111, r_112, c_113, go_114, so_115, v_116, rd_117, rf_118, t_119, rfl, k120, k121, k122, k123, k124, k125, k126, k127, k128⟩ := sp0.1 a 2 ka (by decide)
      obtain ⟨j129, ow130, fn9, fr9, fc9, fg9, fs9, q131, q132, q133, q134⟩ := k128
      obtain rfl : ja = j129 := by have z := ow130.b hba; omega
      subst fn9 fr9 fc9 fg9 fs9
      refine tw_getN (v := .ref v_116) rfl in_4 3 dX5_countryFact_59 w_508 rfl (by decide) f110 rfl ?_
      obtain ⟨e135, f136, a_137, b_138, rfl, k139⟩ := sp0.1 v_116 1 k120 (by decide)
      obtain ⟨b140, ow141, fa9, fb9⟩ := k139
      obtain rfl : (160 + 64 * ja + 24) = b140 := (ow141.b q134).symm
      subst fa9 fb9
      refine tw_getN (v := .int (g.1 ((160 + 64 * ja + 24) + 0))) rfl in_7 0 dX5_countryFact_62 w_132 rfl (by decide) f136 rfl ?_
      exact tw_iret dX5_countryFact_65 rfl (Or.inl ⟨_, rfl, rfl, by rw [show w = 2 from tw_ic (w := w) (j := 2) (by omega) cs1]; exact rfl⟩)
    · refine tw_tabIn (off := 65) 66 dX5_countryFact_1 csl csh (by rw [cs1]; rfl) (by decide) ?_
      refine tw_aload_n 1 dX5_countryFact_66 rfl rfl ?_
      obtain ⟨e142, f143, n_144, r_145, c_146, go_147, so_148, v_149, rd_150, rf_151, t_152, rfl, k153, k154, k155, k156, k157, k158, k159, k160, k161⟩ := sp0.1 a 2 ka (by decide)
      obtain ⟨j162, ow163, fn9, fr9, fc9, fg9, fs9, q164, q165, q166, q167⟩ := k161
      obtain rfl : ja = j162 := by have z := ow163.b hba; omega
      subst fn9 fr9 fc9 fg9 fs9
      refine tw_getN (v := .ref v_149) rfl in_4 3 dX5_countryFact_67 w_508 rfl (by decide) f143 rfl ?_
      obtain ⟨e168, f169, a_170, b_171, rfl, k172⟩ := sp0.1 v_149 1 k153 (by decide)
      obtain ⟨b173, ow174, fa9, fb9⟩ := k172
      obtain rfl : (160 + 64 * ja + 24) = b173 := (ow174.b q167).symm
      subst fa9 fb9
      refine tw_getN (v := .int (g.1 ((160 + 64 * ja + 24) + 1))) rfl in_7 1 dX5_countryFact_70 w_134 rfl (by decide) f169 rfl ?_
      exact tw_iret dX5_countryFact_73 rfl (Or.inl ⟨_, rfl, rfl, by rw [show w = 3 from tw_ic (w := w) (j := 3) (by omega) cs1]; exact rfl⟩)
    · refine tw_tabIn (off := 73) 74 dX5_countryFact_1 csl csh (by rw [cs1]; rfl) (by decide) ?_
      refine tw_aload_n 1 dX5_countryFact_74 rfl rfl ?_
      obtain ⟨e178, f179, n_180, r_181, c_182, go_183, so_184, v_185, rd_186, rf_187, t_188, rfl, k189, k190, k191, k192, k193, k194, k195, k196, k197⟩ := sp0.1 a 2 ka (by decide)
      obtain ⟨j198, ow199, fn9, fr9, fc9, fg9, fs9, q200, q201, q202, q203⟩ := k197
      obtain rfl : ja = j198 := by have z := ow199.b hba; omega
      subst fn9 fr9 fc9 fg9 fs9
      refine tw_bi (tw_callVN (M := mX5_countryFact) (pc := 75) okX0_openSet dX5_countryFact_75 w_257 rfl f179 [] [] rfl rfl ⟨by decide, by decide⟩ (Nat.le_of_ble_eq_true rfl) (c4_X0_openSet d g τ h sp0.1 a ka ja (by omega) hba) 0 0 (Nat.le_of_ble_eq_true rfl) (Nat.le_of_ble_eq_true rfl)) (fun r177 h176 q175 => ?_) (fun E h1 q => q.elim)
      obtain ⟨q175e, q175v⟩ := q175
      rw [q175e]
      exact tw_iret dX5_countryFact_78 rfl (Or.inl ⟨_, rfl, rfl, by rw [show w = 4 from tw_ic (w := w) (j := 4) (by omega) cs1]; exact q175v⟩)
    · refine tw_tabIn (off := 78) 79 dX5_countryFact_1 csl csh (by rw [cs1]; rfl) (by decide) ?_
      refine tw_aload_n 0 dX5_countryFact_79 rfl rfl ?_
      refine tw_aload_n 1 dX5_countryFact_80 rfl rfl ?_
      obtain ⟨e207, f208, td_209, ca_210, ha_211, da_212, c1_213, c2_214, c3_215, c4_216, rfl, k217, k218, k219, k220, k221, k222, k223, k224, k225, k226, k227, k228, k229, k230, k231, k232, k233⟩ := sp0.1 x 11 kx (by decide)
      refine tw_bi (tw_callV (M := mX5_countryFact) (pc := 81) okX5_housesIn dX5_countryFact_81 w_261 rfl f208 [.ref a] [] rfl rfl ⟨by decide, by decide⟩ (Nat.le_of_ble_eq_true rfl) (c4_X5_housesIn d g τ h sp0.1 x kx a ka ja hja hba) 0 0 (Nat.le_of_ble_eq_true rfl) (Nat.le_of_ble_eq_true rfl)) (fun r206 h205 q204 => ?_) (fun E h1 q => q.elim)
      obtain ⟨q204e, q204v⟩ := q204
      rw [q204e]
      exact tw_iret dX5_countryFact_84 rfl (Or.inl ⟨_, rfl, rfl, by rw [show w = 5 from tw_ic (w := w) (j := 5) (by omega) cs1]; exact q204v⟩)
    · refine tw_tabIn (off := 84) 85 dX5_countryFact_1 csl csh (by rw [cs1]; rfl) (by decide) ?_
      refine tw_aload_n 1 dX5_countryFact_85 rfl rfl ?_
      obtain ⟨e234, f235, n_236, r_237, c_238, go_239, so_240, v_241, rd_242, rf_243, t_244, rfl, k245, k246, k247, k248, k249, k250, k251, k252, k253⟩ := sp0.1 a 2 ka (by decide)
      obtain ⟨j254, ow255, fn9, fr9, fc9, fg9, fs9, q256, q257, q258, q259⟩ := k253
      obtain rfl : ja = j254 := by have z := ow255.b hba; omega
      subst fn9 fr9 fc9 fg9 fs9
      refine tw_getN (v := .ref v_241) rfl in_4 3 dX5_countryFact_86 w_508 rfl (by decide) f235 rfl ?_
      refine tw_aload_n 0 dX5_countryFact_89 rfl rfl ?_
      obtain ⟨e260, f261, td_262, ca_263, ha_264, da_265, c1_266, c2_267, c3_268, c4_269, rfl, k270, k271, k272, k273, k274, k275, k276, k277, k278, k279, k280, k281, k282, k283, k284, k285, k286⟩ := sp0.1 x 11 kx (by decide)
      refine tw_get (v := .int (g.1 0)) rfl in_9 1 dX5_countryFact_90 w_141 rfl (by decide) f261 rfl ?_
      obtain ⟨e290, f291, a_292, b_293, rfl, k294⟩ := sp0.1 v_241 1 k245 (by decide)
      obtain ⟨b295, ow296, fa9, fb9⟩ := k294
      obtain rfl : (160 + 64 * ja + 24) = b295 := (ow296.b q259).symm
      subst fa9 fb9
      refine tw_bi (tw_callVN (M := mX5_countryFact) (pc := 93) okX3_worth dX5_countryFact_93 w_265 rfl f291 [.int (g.1 0)] [] rfl rfl ⟨by decide, by decide⟩ (Nat.le_of_ble_eq_true rfl) (c4_X3_worth d g τ h sp0.1 v_241 k245 (160 + 64 * ja + 24) q259 (g.1 0) _ _ _ (he.1 ja hja 0 (by decide)).1 (he.1 ja hja 1 (by decide)).1 he.2.2.1 (he.1 ja hja 0 (by decide)).2 (he.1 ja hja 1 (by decide)).2 he.2.2.2) 0 0 (Nat.le_of_ble_eq_true rfl) (Nat.le_of_ble_eq_true rfl)) (fun r289 h288 q287 => ?_) (fun E h1 q => q.elim)
      obtain ⟨q287e, q287v⟩ := q287
      rw [q287e]
      exact tw_iret dX5_countryFact_96 rfl (Or.inl ⟨_, rfl, rfl, by rw [show w = 6 from tw_ic (w := w) (j := 6) (by omega) cs1]; exact q287v⟩)
    · refine tw_tabIn (off := 96) 97 dX5_countryFact_1 csl csh (by rw [cs1]; rfl) (by decide) ?_
      refine tw_aload_n 1 dX5_countryFact_97 rfl rfl ?_
      obtain ⟨e297, f298, n_299, r_300, c_301, go_302, so_303, v_304, rd_305, rf_306, t_307, rfl, k308, k309, k310, k311, k312, k313, k314, k315, k316⟩ := sp0.1 a 2 ka (by decide)
      obtain ⟨j317, ow318, fn9, fr9, fc9, fg9, fs9, q319, q320, q321, q322⟩ := k316
      obtain rfl : ja = j317 := by have z := ow318.b hba; omega
      subst fn9 fr9 fc9 fg9 fs9
      refine tw_getN (v := .ref t_307) rfl in_4 8 dX5_countryFact_98 w_514 rfl (by decide) f298 rfl ?_
      obtain ⟨e326, f327, m_328, rfl, k329, k330⟩ := sp0.1 t_307 5 k311 (by decide)
      refine tw_bi (tw_callVN (M := mX5_countryFact) (pc := 101) okX4_pounds dX5_countryFact_101 w_273 rfl f327 [] [] rfl rfl ⟨by decide, by decide⟩ (Nat.le_of_ble_eq_true rfl) (c4_X4_pounds d g τ h sp0.1 t_307 k311 ja (by omega) q321) 0 0 (Nat.le_of_ble_eq_true rfl) (Nat.le_of_ble_eq_true rfl)) (fun r325 h324 q323 => ?_) (fun E h1 q => q.elim)
      obtain ⟨q323e, q323v⟩ := q323
      rw [q323e]
      exact tw_iret dX5_countryFact_104 rfl (Or.inl ⟨_, rfl, rfl, by rw [show w = 7 from tw_ic (w := w) (j := 7) (by omega) cs1]; exact q323v⟩)

def tw_SO (g : tw_G) : Prop := (∀ k, k < 2 → tw_wC g k 0 + tw_wC g k 1 + tw_wC g k 2 + tw_wC g k 3 + tw_wC g k 4 = tw_wC g k 5) ∧ (∀ j, j < g.2 6 → (0 ≤ g.1 (160 + 64 * j + 24 + 0) ∧ 0 ≤ g.1 (160 + 64 * j + 24 + 1)) ∧ ∀ k, k < 5 → 0 ≤ g.1 (160 + 64 * j + 32 + k)) ∧ (∀ j, j < g.2 7 → (0 ≤ g.1 (768 + 32 * j + 8 + 0) ∧ 0 ≤ g.1 (768 + 32 * j + 8 + 1)) ∧ (g.1 (768 + 32 * j + 2) ≠ -1 → nI (g.2 21) < g.1 (768 + 32 * j + 0))) ∧ ∀ a b, a < g.2 6 → b < g.2 6 → g.1 (160 + 64 * a + 8 + b) = g.1 (160 + 64 * b + 8 + a) ∧ g.1 (160 + 64 * a + 16 + b) = g.1 (160 + 64 * b + 16 + a)
set_option maxHeartbeats 4000000 in
set_option maxRecDepth 100000 in
theorem c4_X3_isBelowZero (d : tw_D) (g : tw_G) (τ : tw_K) (h : tw_H) (hw : tw_wt d g τ h)  (x : Nat) (kx : τ x = 1) (b : Nat) (hb : g.2 (4096 + x) = b) (h0 : 0 ≤ g.1 (b + 0)) (h19 : 0 ≤ g.1 (b + 1)) : tw_Ct d mX3_isBelowZero 0 0 [.ref x] h (tw_qi (fun r h1 => h1 = h ∧ r = 0) tw_nx) := by
  refine tw_of (by decide +kernel) (Nat.le_of_ble_eq_true rfl) ?_
  show tw_W d mX3_isBelowZero _ 0 [(0, .ref x)] [] h 0 0
  have sp0 := tw_sp.rf hw
  refine tw_aload_n 0 dX3_isBelowZero_0 rfl rfl ?_
  obtain ⟨e1, f2, a_3, b_4, rfl, k5⟩ := sp0.1 x 1 kx (by decide)
  obtain ⟨b6, ow7, fa9, fb9⟩ := k5
  obtain rfl : b = b6 := (ow7.b hb).symm
  subst fa9 fb9
  refine tw_get (v := .int (g.1 (b + 0))) rfl in_7 0 dX3_isBelowZero_1 w_131 rfl (by decide) f2 rfl ?_
  refine tw_if_lt 14 dX3_isBelowZero_4 (by decide) (fun c8 => absurd c8 ((Int32.not_lt.mpr h0))) (fun _ => ?_)
  refine tw_aload_n 0 dX3_isBelowZero_7 rfl rfl ?_
  refine tw_get (v := .int (g.1 (b + 1))) rfl in_7 1 dX3_isBelowZero_8 w_133 rfl (by decide) f2 rfl ?_
  refine tw_if_ge 18 dX3_isBelowZero_11 (by decide) (fun _ => ?_) (fun c9 => absurd (h19) c9)
  refine tw_iconst (v := 0) dX3_isBelowZero_18 (by decide) ?_
  exact tw_zret dX3_isBelowZero_19 rfl rfl (Or.inl ⟨_, rfl, rfl, rfl⟩)

set_option maxHeartbeats 4000000 in
set_option maxRecDepth 100000 in
theorem c4_X4_isBelowZero (d : tw_D) (g : tw_G) (τ : tw_K) (h : tw_H) (hw : tw_wt d g τ h) (x : Nat) (kx : τ x = 5) (j : Nat) (hj : j < 4) (hb : g.2 (4096 + x) = 160 + 64 * j + 32) (ht9 : ∀ k, k < 5 → 0 ≤ g.1 (160 + 64 * j + 32 + k)) : tw_Ct d mX4_isBelowZero 0 0 [.ref x] h (tw_qi (fun r h1 => h1 = h ∧ r = 0) tw_nx) := by
  refine tw_of (by decide +kernel) (Nat.le_of_ble_eq_true rfl) ?_
  show tw_W d mX4_isBelowZero _ 0 [(0, .ref x)] [] h 0 0
  have sp0 := tw_sp.rf hw
  refine tw_aload_n 0 dX4_isBelowZero_0 rfl rfl ?_
  obtain ⟨e1, f2, m_3, rfl, k4, k5⟩ := sp0.1 x 5 kx (by decide)
  refine tw_get (v := .ref m_3) rfl in_8 0 dX4_isBelowZero_1 w_496 rfl (by decide) f2 rfl ?_
  refine tw_astore_n [(1, .ref m_3), (0, .ref x)] dX4_isBelowZero_4 rfl (by decide) rfl ?_
  refine tw_aload_n 0 dX4_isBelowZero_5 rfl rfl ?_
  obtain ⟨e6, f7, F8, rfl, ⟨b10, ow11, wv12⟩⟩ := sp0.1 m_3 7 k4 (by decide)
  obtain rfl : b10 = (160 + 64 * j + 32) := ow11.b (k5.trans hb)
  refine tw_alen (v := nI 5) 0 rfl dX4_isBelowZero_6 f7 rfl ?_
  refine tw_istore_n [(2, .int (nI 5)), (1, .ref m_3), (0, .ref x)] dX4_isBelowZero_7 rfl (by decide) rfl ?_
  refine tw_iconst (v := 0) dX4_isBelowZero_8 (by decide) ?_
  refine tw_istore_n [(3, .int 0), (2, .int (nI 5)), (1, .ref m_3), (0, .ref x)] dX4_isBelowZero_9 rfl (by decide) rfl ?_
  have L16 : ∀ (r14 k13 : Nat), 5 + 1 ≤ k13 + r14 → k13 ≤ 5 → tw_W d mX4_isBelowZero (tw_qi (fun r h1 => h1 = h ∧ r = 0) tw_nx) 10 [(0, .ref x), (1, .ref m_3), (2, .int (nI 5)), (3, .int (nI k13))] [] h 0 0 := by
    intro r14
    induction r14 with
    | zero => intro k13  hk21 hk22; exact absurd hk21 (by omega)
    | succ r14 ih15 =>
      intro k13  hk21 hk22
      refine tw_iload_n 3 dX4_isBelowZero_10 rfl rfl ?_
      refine tw_iload_n 2 dX4_isBelowZero_11 rfl rfl ?_
      refine tw_icmp_ge 33 dX4_isBelowZero_12 (by decide) (fun c23 => ?_) (fun c23 => ?_)
      · refine tw_iconst (v := 0) dX4_isBelowZero_33 (by decide) ?_
        exact tw_zret dX4_isBelowZero_34 rfl rfl (Or.inl ⟨_, rfl, rfl, rfl⟩)
      · have kl24 := tw_klt (N := 5) c23 hk22 (by decide)
        refine tw_aload_n 1 dX4_isBelowZero_15 rfl rfl ?_
        refine tw_iload_n 3 dX4_isBelowZero_16 rfl rfl ?_
        have ev25 : F8 ((nI k13)).toNatClampNeg = (g.1 ((160 + 64 * j + 32) + k13)) := by rw [nI_clamp (by omega)]; exact wv12 k13 (by omega)
        refine tw_iald (v := (g.1 ((160 + 64 * j + 32) + k13))) dX4_isBelowZero_17 f7 (vp_in_nI (by omega) (by decide)) ev25 ?_
        refine tw_istore [(4, .int (g.1 ((160 + 64 * j + 32) + k13))), (0, .ref x), (1, .ref m_3), (2, .int (nI 5)), (3, .int (nI k13))] dX4_isBelowZero_18 (by decide) rfl ?_
        refine tw_iload 0 dX4_isBelowZero_20 rfl ?_
        refine tw_if_ge 27 dX4_isBelowZero_22 (by decide) (fun _ => ?_) (fun c26 => absurd ((ht9 k13 (by omega))) c26)
        obtain ⟨v27, ev27⟩ : ∃ y : Int32, y = (nI k13) + 1 := ⟨_, rfl⟩
        refine tw_iinc [(3, .int v27), (4, .int (g.1 ((160 + 64 * j + 32) + k13))), (0, .ref x), (1, .ref m_3), (2, .int (nI 5))] 4 dX4_isBelowZero_27 rfl (by rw [ev27]; rfl) (by decide) rfl ?_
        refine tw_goto 10 dX4_isBelowZero_30 (by decide) ?_
        have qv27 := tw_nI3 ev27
        rw [qv27]
        refine tw_lv [2, 3, 4, 0] rfl ?_
        exact ih15 (k13 + 1)  (by omega) (by omega)
  refine tw_lv [3, 2, 1, 0] rfl ?_
  exact L16 (5 + 1) 0  (by omega) (by omega)

set_option maxHeartbeats 4000000 in
set_option maxRecDepth 100000 in
theorem c4_X2_isLateOn (d : tw_D) (g : tw_G) (τ : tw_K) (h : tw_H) (hw : tw_wt d g τ h)  (x : Nat) (kx : τ x = 3) (j : Nat) (hj : j < 6) (hb : g.2 (4096 + x) = 768 + 32 * j) (T : Nat) (hl9 : g.1 (768 + 32 * j + 2) ≠ -1 → nI T < g.1 (768 + 32 * j + 0)) : tw_Ct d mX2_isLateOn 0 0 [.ref x, .int (nI T)] h (tw_qi (fun r h1 => h1 = h ∧ r = 0) tw_nx) := by
  refine tw_of (by decide +kernel) (Nat.le_of_ble_eq_true rfl) ?_
  show tw_W d mX2_isLateOn _ 0 [(0, .ref x), (1, .int (nI T))] [] h 0 0
  have sp0 := tw_sp.rf hw
  refine tw_aload_n 0 dX2_isLateOn_0 rfl rfl ?_
  obtain ⟨e1, f2, n_3, ar_4, p_5, pl_6, go_7, rfl, k8, k9, k10, k11⟩ := sp0.1 x 3 kx (by decide)
  obtain ⟨j12, ow13, fn9, fa9, pc14, pc15, lp16⟩ := k11
  obtain rfl : j = j12 := by have z := ow13.b hb; omega
  subst fn9 fa9
  cases go_7 with
  | none =>
    have pe18 := pc15.n
    refine tw_get (v := .null) rfl in_6 3 dX2_isLateOn_1 w_642 rfl (by decide) f2 rfl ?_
    refine tw_ifnullN 19 dX2_isLateOn_4 (by decide) ?_
    refine tw_iconst (v := 0) dX2_isLateOn_19 (by decide) ?_
    exact tw_zret dX2_isLateOn_20 rfl rfl (Or.inl ⟨_, rfl, rfl, rfl⟩)
  | some q17 =>
    obtain ⟨i19, hi20, ei21, bi22⟩ := pc15.s
    refine tw_get (v := .ref q17) rfl in_6 3 dX2_isLateOn_1 w_642 rfl (by decide) f2 rfl ?_
    refine tw_ifnull dX2_isLateOn_4 ?_
    refine tw_aload_n 0 dX2_isLateOn_7 rfl rfl ?_
    refine tw_get (v := .int (g.1 (768 + 32 * j + 0))) rfl in_6 4 dX2_isLateOn_8 w_644 rfl (by decide) f2 rfl ?_
    refine tw_iload_n 1 dX2_isLateOn_11 rfl rfl ?_
    refine tw_icmp_gt 19 dX2_isLateOn_12 (by decide) (fun _ => ?_) (fun c23 => absurd ((hl9 (by rw [ei21]; exact tw_nm1 (by omega)))) c23)
    refine tw_iconst (v := 0) dX2_isLateOn_19 (by decide) ?_
    exact tw_zret dX2_isLateOn_20 rfl rfl (Or.inl ⟨_, rfl, rfl, rfl⟩)

set_option maxHeartbeats 4000000 in
set_option maxRecDepth 100000 in
theorem c4_X5_isKept (d : tw_D) (g : tw_G) (τ : tw_K) (h : tw_H) (hw : tw_wt d g τ h)  (x : Nat) (kx : τ x = 11) (k : Nat) (hk : k < 2) (he : tw_SO g) : tw_Ct d mX5_isKept 0 0 [.ref x, .int (nI k)] h (tw_qi (fun r h1 => h1 = h ∧ r = 1) tw_nx) := by
  refine tw_of (by decide +kernel) (Nat.le_of_ble_eq_true rfl) ?_
  show tw_W d mX5_isKept _ 0 [(0, .ref x), (1, .int (nI k))] [] h 0 0
  have sp0 := tw_sp.rf hw
  have b9 := tw_b678 hw kx
  refine tw_aload_n 0 dX5_isKept_0 rfl rfl ?_
  refine tw_iload_n 1 dX5_isKept_1 rfl rfl ?_
  obtain ⟨e4, f5, td_6, ca_7, ha_8, da_9, c1_10, c2_11, c3_12, c4_13, rfl, k14, k15, k16, k17, k18, k19, k20, k21, k22, k23, k24, k25, k26, k27, k28, k29, k30⟩ := sp0.1 x 11 kx (by decide)
  refine tw_bi (tw_callV (M := mX5_isKept) (pc := 2) okX5_inVaults dX5_isKept_2 w_185 rfl f5 [.int (nI k)] [] rfl rfl ⟨by decide, by decide⟩ (Nat.le_of_ble_eq_true rfl) (c4_X5_inVaults d g τ h sp0.1 x kx k hk) 0 0 (Nat.le_of_ble_eq_true rfl) (Nat.le_of_ble_eq_true rfl)) (fun r3 h2 q1 => ?_) (fun E h1 q => q.elim)
  obtain ⟨q1e, q1v⟩ := q1
  rw [q1e]
  refine tw_aload_n 0 dX5_isKept_5 rfl rfl ?_
  refine tw_iload_n 1 dX5_isKept_6 rfl rfl ?_
  refine tw_bi (tw_callV (M := mX5_isKept) (pc := 7) okX5_inPurses dX5_isKept_7 w_193 rfl f5 [.int (nI k)] [.int r3] rfl rfl ⟨by decide, by decide⟩ (Nat.le_of_ble_eq_true rfl) (c4_X5_inPurses d g τ h sp0.1 x kx k hk) 0 0 (Nat.le_of_ble_eq_true rfl) (Nat.le_of_ble_eq_true rfl)) (fun r33 h32 q31 => ?_) (fun E h1 q => q.elim)
  obtain ⟨q31e, q31v⟩ := q31
  rw [q31e]
  refine tw_iadd dX5_isKept_10 ?_
  refine tw_nmi (fun v34 ev34 => ?_)
  refine tw_aload_n 0 dX5_isKept_11 rfl rfl ?_
  refine tw_get (v := .ref c1_10) rfl in_9 8 dX5_isKept_12 w_148 rfl (by decide) f5 rfl ?_
  refine tw_iload_n 1 dX5_isKept_15 rfl rfl ?_
  obtain ⟨e38, f39, a_40, b_41, rfl, k42⟩ := sp0.1 c1_10 1 k17 (by decide)
  obtain ⟨b43, ow44, fa9, fb9⟩ := k42
  obtain rfl : 1312 = b43 := (ow44.b k27).symm
  subst fa9 fb9
  refine tw_bi (tw_callVN (M := mX5_isKept) (pc := 16) okX3_of dX5_isKept_16 w_189 rfl f39 [.int (nI k)] [.int v34] rfl rfl ⟨by decide, by decide⟩ (Nat.le_of_ble_eq_true rfl) (c4_X3_of d g τ h sp0.1 c1_10 k17 1312 k27 k (by omega)) 0 0 (Nat.le_of_ble_eq_true rfl) (Nat.le_of_ble_eq_true rfl)) (fun r37 h36 q35 => ?_) (fun E h1 q => q.elim)
  obtain ⟨q35e, q35v⟩ := q35
  rw [q35e]
  refine tw_iadd dX5_isKept_19 ?_
  refine tw_nmi (fun v45 ev45 => ?_)
  refine tw_aload_n 0 dX5_isKept_20 rfl rfl ?_
  refine tw_get (v := .ref c2_11) rfl in_9 9 dX5_isKept_21 w_149 rfl (by decide) f5 rfl ?_
  refine tw_iload_n 1 dX5_isKept_24 rfl rfl ?_
  obtain ⟨e49, f50, a_51, b_52, rfl, k53⟩ := sp0.1 c2_11 1 k18 (by decide)
  obtain ⟨b54, ow55, fa9, fb9⟩ := k53
  obtain rfl : 1320 = b54 := (ow55.b k28).symm
  subst fa9 fb9
  refine tw_bi (tw_callVN (M := mX5_isKept) (pc := 25) okX3_of dX5_isKept_25 w_189 rfl f50 [.int (nI k)] [.int v45] rfl rfl ⟨by decide, by decide⟩ (Nat.le_of_ble_eq_true rfl) (c4_X3_of d g τ h sp0.1 c2_11 k18 1320 k28 k (by omega)) 0 0 (Nat.le_of_ble_eq_true rfl) (Nat.le_of_ble_eq_true rfl)) (fun r48 h47 q46 => ?_) (fun E h1 q => q.elim)
  obtain ⟨q46e, q46v⟩ := q46
  rw [q46e]
  refine tw_iadd dX5_isKept_28 ?_
  refine tw_nmi (fun v56 ev56 => ?_)
  refine tw_aload_n 0 dX5_isKept_29 rfl rfl ?_
  refine tw_get (v := .ref c3_12) rfl in_9 10 dX5_isKept_30 w_150 rfl (by decide) f5 rfl ?_
  refine tw_iload_n 1 dX5_isKept_33 rfl rfl ?_
  obtain ⟨e60, f61, a_62, b_63, rfl, k64⟩ := sp0.1 c3_12 1 k19 (by decide)
  obtain ⟨b65, ow66, fa9, fb9⟩ := k64
  obtain rfl : 1328 = b65 := (ow66.b k29).symm
  subst fa9 fb9
  refine tw_bi (tw_callVN (M := mX5_isKept) (pc := 34) okX3_of dX5_isKept_34 w_189 rfl f61 [.int (nI k)] [.int v56] rfl rfl ⟨by decide, by decide⟩ (Nat.le_of_ble_eq_true rfl) (c4_X3_of d g τ h sp0.1 c3_12 k19 1328 k29 k (by omega)) 0 0 (Nat.le_of_ble_eq_true rfl) (Nat.le_of_ble_eq_true rfl)) (fun r59 h58 q57 => ?_) (fun E h1 q => q.elim)
  obtain ⟨q57e, q57v⟩ := q57
  rw [q57e]
  refine tw_iadd dX5_isKept_37 ?_
  refine tw_nmi (fun v67 ev67 => ?_)
  refine tw_istore_n [(2, .int v67), (0, .ref x), (1, .int (nI k))] dX5_isKept_38 rfl (by decide) rfl ?_
  refine tw_iload_n 0 dX5_isKept_39 rfl rfl ?_
  refine tw_aload_n 1 dX5_isKept_40 rfl rfl ?_
  refine tw_get (v := .ref c4_13) rfl in_9 11 dX5_isKept_41 w_151 rfl (by decide) f5 rfl ?_
  refine tw_iload_n 2 dX5_isKept_44 rfl rfl ?_
  obtain ⟨e71, f72, a_73, b_74, rfl, k75⟩ := sp0.1 c4_13 1 k20 (by decide)
  obtain ⟨b76, ow77, fa9, fb9⟩ := k75
  obtain rfl : 1336 = b76 := (ow77.b k30).symm
  subst fa9 fb9
  refine tw_bi (tw_callVN (M := mX5_isKept) (pc := 45) okX3_of dX5_isKept_45 w_189 rfl f72 [.int (nI k)] [.int v67] rfl rfl ⟨by decide, by decide⟩ (Nat.le_of_ble_eq_true rfl) (c4_X3_of d g τ h sp0.1 c4_13 k20 1336 k30 k (by omega)) 0 0 (Nat.le_of_ble_eq_true rfl) (Nat.le_of_ble_eq_true rfl)) (fun r70 h69 q68 => ?_) (fun E h1 q => q.elim)
  obtain ⟨q68e, q68v⟩ := q68
  rw [q68e]
  refine tw_icmp_ne 55 dX5_isKept_48 (by decide) (fun c78 => absurd ((by rw [ev67, ev56, ev45, ev34, q1v, q31v, q35v, q46v, q57v, q68v]; exact he.1 k hk)) c78) (fun _ => ?_)
  refine tw_iconst (v := 1) dX5_isKept_51 (by decide) ?_
  refine tw_goto 56 dX5_isKept_52 (by decide) ?_
  exact tw_zret dX5_isKept_56 rfl rfl (Or.inl ⟨_, rfl, rfl, rfl⟩)

set_option maxHeartbeats 4000000 in
set_option maxRecDepth 100000 in
theorem c4_X5_areCountriesSound (d : tw_D) (g : tw_G) (τ : tw_K) (h : tw_H) (hw : tw_wt d g τ h)  (x : Nat) (kx : τ x = 11) (he : tw_SO g) : tw_Ct d mX5_areCountriesSound 0 0 [.ref x] h (tw_qi (fun r h1 => h1 = h ∧ r = 1) tw_nx) := by
  refine tw_of (by decide +kernel) (Nat.le_of_ble_eq_true rfl) ?_
  show tw_W d mX5_areCountriesSound _ 0 [(0, .ref x)] [] h 0 0
  have sp0 := tw_sp.rf hw
  have b9 := tw_b678 hw kx
  refine tw_aload_n 0 dX5_areCountriesSound_0 rfl rfl ?_
  obtain ⟨e1, f2, td_3, ca_4, ha_5, da_6, c1_7, c2_8, c3_9, c4_10, rfl, k11, k12, k13, k14, k15, k16, k17, k18, k19, k20, k21, k22, k23, k24, k25, k26, k27⟩ := sp0.1 x 11 kx (by decide)
  refine tw_get (v := .ref ca_4) rfl in_9 2 dX5_areCountriesSound_1 w_142 rfl (by decide) f2 rfl ?_
  refine tw_astore_n [(1, .ref ca_4), (0, .ref x)] dX5_areCountriesSound_4 rfl (by decide) rfl ?_
  refine tw_aload_n 0 dX5_areCountriesSound_5 rfl rfl ?_
  obtain ⟨e28, f29, F30, rfl, k31, pn32, pb33, px34, pf35⟩ := sp0.1 ca_4 8 k11 (by decide)
  refine tw_alen (v := nI 4) 4 rfl dX5_areCountriesSound_6 f29 rfl ?_
  refine tw_istore_n [(2, .int (nI 4)), (1, .ref ca_4), (0, .ref x)] dX5_areCountriesSound_7 rfl (by decide) rfl ?_
  refine tw_iconst (v := 0) dX5_areCountriesSound_8 (by decide) ?_
  refine tw_istore_n [(3, .int 0), (2, .int (nI 4)), (1, .ref ca_4), (0, .ref x)] dX5_areCountriesSound_9 rfl (by decide) rfl ?_
  have L39 : ∀ (r37 k36 : Nat), 4 + 1 ≤ k36 + r37 → k36 ≤ 4 → tw_W d mX5_areCountriesSound (tw_qi (fun r h1 => h1 = h ∧ r = 1) tw_nx) 10 [(0, .ref x), (1, .ref ca_4), (2, .int (nI 4)), (3, .int (nI k36))] [] h 0 0 := by
    intro r37
    induction r37 with
    | zero => intro k36  hk44 hk45; exact absurd hk44 (by omega)
    | succ r37 ih38 =>
      intro k36  hk44 hk45
      refine tw_iload_n 3 dX5_areCountriesSound_10 rfl rfl ?_
      refine tw_iload_n 2 dX5_areCountriesSound_11 rfl rfl ?_
      refine tw_icmp_ge 55 dX5_areCountriesSound_12 (by decide) (fun c46 => ?_) (fun c46 => ?_)
      · refine tw_iconst (v := 1) dX5_areCountriesSound_55 (by decide) ?_
        exact tw_zret dX5_areCountriesSound_56 rfl rfl (Or.inl ⟨_, rfl, rfl, rfl⟩)
      · have kl47 := tw_klt (N := 4) c46 hk45 (by decide)
        refine tw_aload_n 1 dX5_areCountriesSound_15 rfl rfl ?_
        refine tw_iload_n 3 dX5_areCountriesSound_16 rfl rfl ?_
        cases k48 : F30 ((nI k36)).toNatClampNeg with
        | none =>
          refine tw_aald (v := .null) 4 rfl rfl dX5_areCountriesSound_17 f29 (vp_in_nI (by omega) (by decide)) (by rw [k48]; rfl) ?_
          refine tw_astoreN [(4, .null), (0, .ref x), (1, .ref ca_4), (2, .int (nI 4)), (3, .int (nI k36))] dX5_areCountriesSound_18 (by decide) rfl ?_
          refine tw_aloadN 0 dX5_areCountriesSound_20 rfl ?_
          refine tw_ifnullN 49 dX5_areCountriesSound_22 (by decide) ?_
          obtain ⟨v50, ev50⟩ : ∃ y : Int32, y = (nI k36) + 1 := ⟨_, rfl⟩
          refine tw_iinc [(3, .int v50), (4, .null), (0, .ref x), (1, .ref ca_4), (2, .int (nI 4))] 4 dX5_areCountriesSound_49 rfl (by rw [ev50]; rfl) (by decide) rfl ?_
          refine tw_goto 10 dX5_areCountriesSound_52 (by decide) ?_
          have qv50 := tw_nI3 ev50
          rw [qv50]
          refine tw_lv [2, 3, 4, 0] rfl ?_
          exact ih38 (k36 + 1)  (by omega) (by omega)
        | some q49 =>
          have k51 := k31 _ _ k48
          refine tw_aald (v := .ref q49) 4 rfl rfl dX5_areCountriesSound_17 f29 (vp_in_nI (by omega) (by decide)) (by rw [k48]; rfl) ?_
          refine tw_astore [(4, .ref q49), (0, .ref x), (1, .ref ca_4), (2, .int (nI 4)), (3, .int (nI k36))] dX5_areCountriesSound_18 (by decide) rfl ?_
          have hv52 := k48
          rw [nI_clamp (by omega)] at hv52
          have pn53 := pn32 k36 (by omega)
          have hk9 : k36 < g.2 6 := by rcases Nat.lt_or_ge k36 (g.2 6) with z | z; exact z; rw [pn53.mpr z] at hv52; cases hv52
          have bq9 : g.2 (4096 + q49) = 160 + 64 * k36 := pf35 _ _ hv52
          refine tw_aload 0 dX5_areCountriesSound_20 rfl ?_
          refine tw_ifnull dX5_areCountriesSound_22 ?_
          refine tw_aload 0 dX5_areCountriesSound_25 rfl ?_
          obtain ⟨e54, f55, n_56, r_57, c_58, go_59, so_60, v_61, rd_62, rf_63, t_64, rfl, k65, k66, k67, k68, k69, k70, k71, k72, k73⟩ := sp0.1 q49 2 k51 (by decide)
          obtain ⟨j74, ow75, fn9, fr9, fc9, fg9, fs9, q76, q77, q78, q79⟩ := k73
          obtain rfl : k36 = j74 := by have z := ow75.b bq9; omega
          subst fn9 fr9 fc9 fg9 fs9
          refine tw_getN (v := .ref v_61) rfl in_4 3 dX5_areCountriesSound_27 w_508 rfl (by decide) f55 rfl ?_
          obtain ⟨e80, f81, a_82, b_83, rfl, k84⟩ := sp0.1 v_61 1 k65 (by decide)
          obtain ⟨b85, ow86, fa9, fb9⟩ := k84
          obtain rfl : (160 + 64 * k36 + 24) = b85 := (ow86.b q79).symm
          subst fa9 fb9
          refine tw_bi (tw_callVN (M := mX5_areCountriesSound) (pc := 30) okX3_isBelowZero dX5_areCountriesSound_30 w_201 rfl f81 [] [] rfl rfl ⟨by decide, by decide⟩ (Nat.le_of_ble_eq_true rfl) (c4_X3_isBelowZero d g τ h sp0.1 v_61 k65 (160 + 64 * k36 + 24) q79 (he.2.1 k36 hk9).1.1 (he.2.1 k36 hk9).1.2) 0 0 (Nat.le_of_ble_eq_true rfl) (Nat.le_of_ble_eq_true rfl)) (fun r89 h88 q87 => ?_) (fun E h1 q => q.elim)
          obtain ⟨q87e, q87v⟩ := q87
          rw [q87e, q87v]
          refine tw_if_ne 47 dX5_areCountriesSound_33 (by decide) (fun c90 => absurd (by decide) c90) (fun _ => ?_)
          refine tw_aload 0 dX5_areCountriesSound_36 rfl ?_
          refine tw_getN (v := .ref t_64) rfl in_4 8 dX5_areCountriesSound_38 w_514 rfl (by decide) f55 rfl ?_
          obtain ⟨e91, f92, m_93, rfl, k94, k95⟩ := sp0.1 t_64 5 k68 (by decide)
          refine tw_bi (tw_callVN (M := mX5_areCountriesSound) (pc := 41) okX4_isBelowZero dX5_areCountriesSound_41 w_205 rfl f92 [] [] rfl rfl ⟨by decide, by decide⟩ (Nat.le_of_ble_eq_true rfl) (c4_X4_isBelowZero d g τ h sp0.1 t_64 k68 k36 (by omega) q78 (he.2.1 k36 hk9).2) 0 0 (Nat.le_of_ble_eq_true rfl) (Nat.le_of_ble_eq_true rfl)) (fun r98 h97 q96 => ?_) (fun E h1 q => q.elim)
          obtain ⟨q96e, q96v⟩ := q96
          rw [q96e, q96v]
          refine tw_if_eq 49 dX5_areCountriesSound_44 (by decide) (fun _ => ?_) (fun c99 => absurd (by decide) c99)
          obtain ⟨v100, ev100⟩ : ∃ y : Int32, y = (nI k36) + 1 := ⟨_, rfl⟩
          refine tw_iinc [(3, .int v100), (4, .ref q49), (0, .ref x), (1, .ref ca_4), (2, .int (nI 4))] 4 dX5_areCountriesSound_49 rfl (by rw [ev100]; rfl) (by decide) rfl ?_
          refine tw_goto 10 dX5_areCountriesSound_52 (by decide) ?_
          have qv100 := tw_nI3 ev100
          rw [qv100]
          refine tw_lv [2, 3, 4, 0] rfl ?_
          exact ih38 (k36 + 1)  (by omega) (by omega)
  refine tw_lv [3, 2, 1, 0] rfl ?_
  exact L39 (4 + 1) 0  (by omega) (by omega)

set_option maxHeartbeats 4000000 in
set_option maxRecDepth 100000 in
theorem c4_X5_areHousesSound (d : tw_D) (g : tw_G) (τ : tw_K) (h : tw_H) (hw : tw_wt d g τ h)  (x : Nat) (kx : τ x = 11) (he : tw_SO g) : tw_Ct d mX5_areHousesSound 0 0 [.ref x] h (tw_qi (fun r h1 => h1 = h ∧ r = 1) tw_nx) := by
  refine tw_of (by decide +kernel) (Nat.le_of_ble_eq_true rfl) ?_
  show tw_W d mX5_areHousesSound _ 0 [(0, .ref x)] [] h 0 0
  have sp0 := tw_sp.rf hw
  have b9 := tw_b678 hw kx
  refine tw_aload_n 0 dX5_areHousesSound_0 rfl rfl ?_
  obtain ⟨e1, f2, td_3, ca_4, ha_5, da_6, c1_7, c2_8, c3_9, c4_10, rfl, k11, k12, k13, k14, k15, k16, k17, k18, k19, k20, k21, k22, k23, k24, k25, k26, k27⟩ := sp0.1 x 11 kx (by decide)
  refine tw_get (v := .ref ha_5) rfl in_9 4 dX5_areHousesSound_1 w_144 rfl (by decide) f2 rfl ?_
  refine tw_astore_n [(1, .ref ha_5), (0, .ref x)] dX5_areHousesSound_4 rfl (by decide) rfl ?_
  refine tw_aload_n 0 dX5_areHousesSound_5 rfl rfl ?_
  obtain ⟨e28, f29, F30, rfl, k31, pn32, pb33, px34, pf35⟩ := sp0.1 ha_5 9 k12 (by decide)
  refine tw_alen (v := nI 6) 5 rfl dX5_areHousesSound_6 f29 rfl ?_
  refine tw_istore_n [(2, .int (nI 6)), (1, .ref ha_5), (0, .ref x)] dX5_areHousesSound_7 rfl (by decide) rfl ?_
  refine tw_iconst (v := 0) dX5_areHousesSound_8 (by decide) ?_
  refine tw_istore_n [(3, .int 0), (2, .int (nI 6)), (1, .ref ha_5), (0, .ref x)] dX5_areHousesSound_9 rfl (by decide) rfl ?_
  have L39 : ∀ (r37 k36 : Nat), 6 + 1 ≤ k36 + r37 → k36 ≤ 6 → tw_W d mX5_areHousesSound (tw_qi (fun r h1 => h1 = h ∧ r = 1) tw_nx) 10 [(0, .ref x), (1, .ref ha_5), (2, .int (nI 6)), (3, .int (nI k36))] [] h 0 0 := by
    intro r37
    induction r37 with
    | zero => intro k36  hk44 hk45; exact absurd hk44 (by omega)
    | succ r37 ih38 =>
      intro k36  hk44 hk45
      refine tw_iload_n 3 dX5_areHousesSound_10 rfl rfl ?_
      refine tw_iload_n 2 dX5_areHousesSound_11 rfl rfl ?_
      refine tw_icmp_ge 56 dX5_areHousesSound_12 (by decide) (fun c46 => ?_) (fun c46 => ?_)
      · refine tw_iconst (v := 1) dX5_areHousesSound_56 (by decide) ?_
        exact tw_zret dX5_areHousesSound_57 rfl rfl (Or.inl ⟨_, rfl, rfl, rfl⟩)
      · have kl47 := tw_klt (N := 6) c46 hk45 (by decide)
        refine tw_aload_n 1 dX5_areHousesSound_15 rfl rfl ?_
        refine tw_iload_n 3 dX5_areHousesSound_16 rfl rfl ?_
        cases k48 : F30 ((nI k36)).toNatClampNeg with
        | none =>
          refine tw_aald (v := .null) 5 rfl rfl dX5_areHousesSound_17 f29 (vp_in_nI (by omega) (by decide)) (by rw [k48]; rfl) ?_
          refine tw_astoreN [(4, .null), (0, .ref x), (1, .ref ha_5), (2, .int (nI 6)), (3, .int (nI k36))] dX5_areHousesSound_18 (by decide) rfl ?_
          refine tw_aloadN 0 dX5_areHousesSound_20 rfl ?_
          refine tw_ifnullN 50 dX5_areHousesSound_22 (by decide) ?_
          obtain ⟨v50, ev50⟩ : ∃ y : Int32, y = (nI k36) + 1 := ⟨_, rfl⟩
          refine tw_iinc [(3, .int v50), (4, .null), (0, .ref x), (1, .ref ha_5), (2, .int (nI 6))] 4 dX5_areHousesSound_50 rfl (by rw [ev50]; rfl) (by decide) rfl ?_
          refine tw_goto 10 dX5_areHousesSound_53 (by decide) ?_
          have qv50 := tw_nI3 ev50
          rw [qv50]
          refine tw_lv [2, 3, 4, 0] rfl ?_
          exact ih38 (k36 + 1)  (by omega) (by omega)
        | some q49 =>
          have k51 := k31 _ _ k48
          refine tw_aald (v := .ref q49) 5 rfl rfl dX5_areHousesSound_17 f29 (vp_in_nI (by omega) (by decide)) (by rw [k48]; rfl) ?_
          refine tw_astore [(4, .ref q49), (0, .ref x), (1, .ref ha_5), (2, .int (nI 6)), (3, .int (nI k36))] dX5_areHousesSound_18 (by decide) rfl ?_
          have hv52 := k48
          rw [nI_clamp (by omega)] at hv52
          have pn53 := pn32 k36 (by omega)
          have hk9 : k36 < g.2 7 := by rcases Nat.lt_or_ge k36 (g.2 7) with z | z; exact z; rw [pn53.mpr z] at hv52; cases hv52
          have bq9 : g.2 (4096 + q49) = 768 + 32 * k36 := pf35 _ _ hv52
          refine tw_aload 0 dX5_areHousesSound_20 rfl ?_
          refine tw_ifnull dX5_areHousesSound_22 ?_
          refine tw_aload 0 dX5_areHousesSound_25 rfl ?_
          obtain ⟨e54, f55, n_56, ar_57, p_58, pl_59, go_60, rfl, k61, k62, k63, k64⟩ := sp0.1 q49 3 k51 (by decide)
          obtain ⟨j65, ow66, fn9, fa9, pc67, pc68, lp69⟩ := k64
          obtain rfl : k36 = j65 := by have z := ow66.b bq9; omega
          subst fn9 fa9
          refine tw_getN (v := .ref p_58) rfl in_6 1 dX5_areHousesSound_27 w_639 rfl (by decide) f55 rfl ?_
          obtain ⟨e70, f71, a_72, b_73, rfl, k74⟩ := sp0.1 p_58 1 k61 (by decide)
          obtain ⟨b75, ow76, fa9, fb9⟩ := k74
          obtain rfl : (768 + 32 * k36 + 8) = b75 := (ow76.b lp69).symm
          subst fa9 fb9
          refine tw_bi (tw_callVN (M := mX5_areHousesSound) (pc := 30) okX3_isBelowZero dX5_areHousesSound_30 w_201 rfl f71 [] [] rfl rfl ⟨by decide, by decide⟩ (Nat.le_of_ble_eq_true rfl) (c4_X3_isBelowZero d g τ h sp0.1 p_58 k61 (768 + 32 * k36 + 8) lp69 (he.2.2.1 k36 hk9).1.1 (he.2.2.1 k36 hk9).1.2) 0 0 (Nat.le_of_ble_eq_true rfl) (Nat.le_of_ble_eq_true rfl)) (fun r79 h78 q77 => ?_) (fun E h1 q => q.elim)
          obtain ⟨q77e, q77v⟩ := q77
          rw [q77e, q77v]
          refine tw_if_ne 48 dX5_areHousesSound_33 (by decide) (fun c80 => absurd (by decide) c80) (fun _ => ?_)
          refine tw_aload 0 dX5_areHousesSound_36 rfl ?_
          refine tw_aload_n 1 dX5_areHousesSound_38 rfl rfl ?_
          refine tw_get (v := .int td_3) rfl in_9 0 dX5_areHousesSound_39 w_140 rfl (by decide) f2 rfl ?_
          rw [k22]
          refine tw_bi (tw_callVN (M := mX5_areHousesSound) (pc := 42) okX2_isLateOn dX5_areHousesSound_42 w_214 rfl f55 [.int (nI (g.2 21))] [] rfl rfl ⟨by decide, by decide⟩ (Nat.le_of_ble_eq_true rfl) (c4_X2_isLateOn d g τ h sp0.1 q49 k51 k36 (by omega) bq9 (g.2 21) (he.2.2.1 k36 hk9).2) 0 0 (Nat.le_of_ble_eq_true rfl) (Nat.le_of_ble_eq_true rfl)) (fun r83 h82 q81 => ?_) (fun E h1 q => q.elim)
          obtain ⟨q81e, q81v⟩ := q81
          rw [q81e, q81v]
          refine tw_if_eq 50 dX5_areHousesSound_45 (by decide) (fun _ => ?_) (fun c84 => absurd (by decide) c84)
          obtain ⟨v85, ev85⟩ : ∃ y : Int32, y = (nI k36) + 1 := ⟨_, rfl⟩
          refine tw_iinc [(3, .int v85), (4, .ref q49), (0, .ref x), (1, .ref ha_5), (2, .int (nI 6))] 4 dX5_areHousesSound_50 rfl (by rw [ev85]; rfl) (by decide) rfl ?_
          refine tw_goto 10 dX5_areHousesSound_53 (by decide) ?_
          have qv85 := tw_nI3 ev85
          rw [qv85]
          refine tw_lv [2, 3, 4, 0] rfl ?_
          exact ih38 (k36 + 1)  (by omega) (by omega)
  refine tw_lv [3, 2, 1, 0] rfl ?_
  exact L39 (6 + 1) 0  (by omega) (by omega)

set_option maxHeartbeats 4000000 in
set_option maxRecDepth 100000 in
theorem c4_X5_hasSameRoads (d : tw_D) (g : tw_G) (τ : tw_K) (h : tw_H) (hw : tw_wt d g τ h)  (a : Nat) (ka : τ a = 2) (ja : Nat) (hja : ja < 4) (hba : g.2 (4096 + a) = 160 + 64 * ja) (b : Nat) (kb : τ b = 2) (jb : Nat) (hjb : jb < 4) (hbb : g.2 (4096 + b) = 160 + 64 * jb) (he : g.1 (160 + 64 * ja + 8 + jb) = g.1 (160 + 64 * jb + 8 + ja) ∧ g.1 (160 + 64 * ja + 16 + jb) = g.1 (160 + 64 * jb + 16 + ja)) : tw_Ct d mX5_hasSameRoads 0 0 [.ref a, .ref b] h (tw_qi (fun r h1 => h1 = h ∧ r = 1) tw_nx) := by
  refine tw_of (by decide +kernel) (Nat.le_of_ble_eq_true rfl) ?_
  show tw_W d mX5_hasSameRoads _ 0 [(0, .ref a), (1, .ref b)] [] h 0 0
  have sp0 := tw_sp.rf hw
  refine tw_aload_n 0 dX5_hasSameRoads_0 rfl rfl ?_
  refine tw_aload_n 1 dX5_hasSameRoads_1 rfl rfl ?_
  obtain ⟨e1, f2, n_3, r_4, c_5, go_6, so_7, v_8, rd_9, rf_10, t_11, rfl, k12, k13, k14, k15, k16, k17, k18, k19, k20⟩ := sp0.1 b 2 kb (by decide)
  obtain ⟨j21, ow22, fn9, fr9, fc9, fg9, fs9, q23, q24, q25, q26⟩ := k20
  obtain rfl : jb = j21 := by have z := ow22.b hbb; omega
  subst fn9 fr9 fc9 fg9 fs9
  refine tw_getN (v := .int (nI jb)) rfl in_4 0 dX5_hasSameRoads_2 w_502 rfl (by decide) f2 rfl ?_
  obtain ⟨e30, f31, n_32, r_33, c_34, go_35, so_36, v_37, rd_38, rf_39, t_40, rfl, k41, k42, k43, k44, k45, k46, k47, k48, k49⟩ := sp0.1 a 2 ka (by decide)
  obtain ⟨j50, ow51, fn9, fr9, fc9, fg9, fs9, q52, q53, q54, q55⟩ := k49
  obtain rfl : ja = j50 := by have z := ow51.b hba; omega
  subst fn9 fr9 fc9 fg9 fs9
  refine tw_bi (tw_callVN (M := mX5_hasSameRoads) (pc := 5) okX0_daysTo dX5_hasSameRoads_5 w_226 rfl f31 [.int (nI jb)] [] rfl rfl ⟨by decide, by decide⟩ (Nat.le_of_ble_eq_true rfl) (c2_X0_daysTo d g τ h sp0.1 a ka ja (by omega) hba jb (by omega)) 0 0 (Nat.le_of_ble_eq_true rfl) (Nat.le_of_ble_eq_true rfl)) (fun r29 h28 q27 => ?_) (fun E h1 q => q.elim)
  obtain ⟨q27e, q27v⟩ := q27
  rw [q27e]
  refine tw_aload_n 1 dX5_hasSameRoads_8 rfl rfl ?_
  refine tw_aload_n 0 dX5_hasSameRoads_9 rfl rfl ?_
  refine tw_getN (v := .int (nI ja)) rfl in_4 0 dX5_hasSameRoads_10 w_502 rfl (by decide) f31 rfl ?_
  refine tw_bi (tw_callVN (M := mX5_hasSameRoads) (pc := 13) okX0_daysTo dX5_hasSameRoads_13 w_226 rfl f2 [.int (nI ja)] [.int r29] rfl rfl ⟨by decide, by decide⟩ (Nat.le_of_ble_eq_true rfl) (c2_X0_daysTo d g τ h sp0.1 b kb jb (by omega) hbb ja (by omega)) 0 0 (Nat.le_of_ble_eq_true rfl) (Nat.le_of_ble_eq_true rfl)) (fun r58 h57 q56 => ?_) (fun E h1 q => q.elim)
  obtain ⟨q56e, q56v⟩ := q56
  rw [q56e]
  refine tw_icmp_ne 42 dX5_hasSameRoads_16 (by decide) (fun c59 => absurd ((by rw [q27v, q56v]; exact he.1)) c59) (fun _ => ?_)
  refine tw_aload_n 0 dX5_hasSameRoads_19 rfl rfl ?_
  refine tw_aload_n 1 dX5_hasSameRoads_20 rfl rfl ?_
  refine tw_getN (v := .int (nI jb)) rfl in_4 0 dX5_hasSameRoads_21 w_502 rfl (by decide) f2 rfl ?_
  refine tw_bi (tw_callVN (M := mX5_hasSameRoads) (pc := 24) okX0_freightTo dX5_hasSameRoads_24 w_231 rfl f31 [.int (nI jb)] [] rfl rfl ⟨by decide, by decide⟩ (Nat.le_of_ble_eq_true rfl) (c2_X0_freightTo d g τ h sp0.1 a ka ja (by omega) hba jb (by omega)) 0 0 (Nat.le_of_ble_eq_true rfl) (Nat.le_of_ble_eq_true rfl)) (fun r62 h61 q60 => ?_) (fun E h1 q => q.elim)
  obtain ⟨q60e, q60v⟩ := q60
  rw [q60e]
  refine tw_aload_n 1 dX5_hasSameRoads_27 rfl rfl ?_
  refine tw_aload_n 0 dX5_hasSameRoads_28 rfl rfl ?_
  refine tw_getN (v := .int (nI ja)) rfl in_4 0 dX5_hasSameRoads_29 w_502 rfl (by decide) f31 rfl ?_
  refine tw_bi (tw_callVN (M := mX5_hasSameRoads) (pc := 32) okX0_freightTo dX5_hasSameRoads_32 w_231 rfl f2 [.int (nI ja)] [.int r62] rfl rfl ⟨by decide, by decide⟩ (Nat.le_of_ble_eq_true rfl) (c2_X0_freightTo d g τ h sp0.1 b kb jb (by omega) hbb ja (by omega)) 0 0 (Nat.le_of_ble_eq_true rfl) (Nat.le_of_ble_eq_true rfl)) (fun r65 h64 q63 => ?_) (fun E h1 q => q.elim)
  obtain ⟨q63e, q63v⟩ := q63
  rw [q63e]
  refine tw_icmp_ne 42 dX5_hasSameRoads_35 (by decide) (fun c66 => absurd ((by rw [q60v, q63v]; exact he.2)) c66) (fun _ => ?_)
  refine tw_iconst (v := 1) dX5_hasSameRoads_38 (by decide) ?_
  refine tw_goto 43 dX5_hasSameRoads_39 (by decide) ?_
  exact tw_zret dX5_hasSameRoads_43 rfl rfl (Or.inl ⟨_, rfl, rfl, rfl⟩)

set_option maxHeartbeats 4000000 in
set_option maxRecDepth 100000 in
theorem c4_X5_areRoadsTheSame (d : tw_D) (g : tw_G) (τ : tw_K) (h : tw_H) (hw : tw_wt d g τ h)  (x : Nat) (kx : τ x = 11) (he : tw_SO g) : tw_Ct d mX5_areRoadsTheSame 0 0 [.ref x] h (tw_qi (fun r h1 => h1 = h ∧ r = 1) tw_nx) := by
  refine tw_of (by decide +kernel) (Nat.le_of_ble_eq_true rfl) ?_
  show tw_W d mX5_areRoadsTheSame _ 0 [(0, .ref x)] [] h 0 0
  have sp0 := tw_sp.rf hw
  have b9 := tw_b678 hw kx
  refine tw_aload_n 0 dX5_areRoadsTheSame_0 rfl rfl ?_
  obtain ⟨e1, f2, td_3, ca_4, ha_5, da_6, c1_7, c2_8, c3_9, c4_10, rfl, k11, k12, k13, k14, k15, k16, k17, k18, k19, k20, k21, k22, k23, k24, k25, k26, k27⟩ := sp0.1 x 11 kx (by decide)
  refine tw_get (v := .ref ca_4) rfl in_9 2 dX5_areRoadsTheSame_1 w_142 rfl (by decide) f2 rfl ?_
  refine tw_astore_n [(1, .ref ca_4), (0, .ref x)] dX5_areRoadsTheSame_4 rfl (by decide) rfl ?_
  refine tw_aload_n 0 dX5_areRoadsTheSame_5 rfl rfl ?_
  obtain ⟨e28, f29, F30, rfl, k31, pn32, pb33, px34, pf35⟩ := sp0.1 ca_4 8 k11 (by decide)
  refine tw_alen (v := nI 4) 4 rfl dX5_areRoadsTheSame_6 f29 rfl ?_
  refine tw_istore_n [(2, .int (nI 4)), (1, .ref ca_4), (0, .ref x)] dX5_areRoadsTheSame_7 rfl (by decide) rfl ?_
  refine tw_iconst (v := 0) dX5_areRoadsTheSame_8 (by decide) ?_
  refine tw_istore_n [(3, .int 0), (2, .int (nI 4)), (1, .ref ca_4), (0, .ref x)] dX5_areRoadsTheSame_9 rfl (by decide) rfl ?_
  have L39 : ∀ (r37 k36 : Nat), 4 + 1 ≤ k36 + r37 → k36 ≤ 4 → tw_W d mX5_areRoadsTheSame (tw_qi (fun r h1 => h1 = h ∧ r = 1) tw_nx) 10 [(0, .ref x), (1, .ref ca_4), (2, .int (nI 4)), (3, .int (nI k36))] [] h 0 0 := by
    intro r37
    induction r37 with
    | zero => intro k36  hk44 hk45; exact absurd hk44 (by omega)
    | succ r37 ih38 =>
      intro k36  hk44 hk45
      refine tw_iload_n 3 dX5_areRoadsTheSame_10 rfl rfl ?_
      refine tw_iload_n 2 dX5_areRoadsTheSame_11 rfl rfl ?_
      refine tw_icmp_ge 82 dX5_areRoadsTheSame_12 (by decide) (fun c46 => ?_) (fun c46 => ?_)
      · refine tw_iconst (v := 1) dX5_areRoadsTheSame_82 (by decide) ?_
        exact tw_zret dX5_areRoadsTheSame_83 rfl rfl (Or.inl ⟨_, rfl, rfl, rfl⟩)
      · have kl47 := tw_klt (N := 4) c46 hk45 (by decide)
        refine tw_aload_n 1 dX5_areRoadsTheSame_15 rfl rfl ?_
        refine tw_iload_n 3 dX5_areRoadsTheSame_16 rfl rfl ?_
        cases k48 : F30 ((nI k36)).toNatClampNeg with
        | none =>
          refine tw_aald (v := .null) 4 rfl rfl dX5_areRoadsTheSame_17 f29 (vp_in_nI (by omega) (by decide)) (by rw [k48]; rfl) ?_
          refine tw_astoreN [(4, .null), (0, .ref x), (1, .ref ca_4), (2, .int (nI 4)), (3, .int (nI k36))] dX5_areRoadsTheSame_18 (by decide) rfl ?_
          refine tw_aload_n 1 dX5_areRoadsTheSame_20 rfl rfl ?_
          refine tw_get (v := .ref ca_4) rfl in_9 2 dX5_areRoadsTheSame_21 w_142 rfl (by decide) f2 rfl ?_
          refine tw_astore [(5, .ref ca_4), (4, .null), (0, .ref x), (1, .ref ca_4), (2, .int (nI 4)), (3, .int (nI k36))] dX5_areRoadsTheSame_24 (by decide) rfl ?_
          refine tw_aload 0 dX5_areRoadsTheSame_26 rfl ?_
          refine tw_alen (v := nI 4) 4 rfl dX5_areRoadsTheSame_28 f29 rfl ?_
          refine tw_istore [(6, .int (nI 4)), (5, .ref ca_4), (4, .null), (0, .ref x), (1, .ref ca_4), (2, .int (nI 4)), (3, .int (nI k36))] dX5_areRoadsTheSame_29 (by decide) rfl ?_
          refine tw_iconst (v := 0) dX5_areRoadsTheSame_31 (by decide) ?_
          refine tw_istore [(7, .int 0), (6, .int (nI 4)), (5, .ref ca_4), (4, .null), (0, .ref x), (1, .ref ca_4), (2, .int (nI 4)), (3, .int (nI k36))] dX5_areRoadsTheSame_32 (by decide) rfl ?_
          have L53 : ∀ (r51 k50 : Nat), 4 + 1 ≤ k50 + r51 → k50 ≤ 4 → tw_W d mX5_areRoadsTheSame (tw_qi (fun r h1 => h1 = h ∧ r = 1) tw_nx) 34 [(0, .ref x), (1, .ref ca_4), (2, .int (nI 4)), (3, .int (nI k36)), (4, .null), (5, .ref ca_4), (6, .int (nI 4)), (7, .int (nI k50))] [] h 0 0 := by
            intro r51
            induction r51 with
            | zero => intro k50  hk58 hk59; exact absurd hk58 (by omega)
            | succ r51 ih52 =>
              intro k50  hk58 hk59
              refine tw_iload 7 dX5_areRoadsTheSame_34 rfl ?_
              refine tw_iload 6 dX5_areRoadsTheSame_36 rfl ?_
              refine tw_icmp_ge 76 dX5_areRoadsTheSame_38 (by decide) (fun c60 => ?_) (fun c60 => ?_)
              · obtain ⟨v61, ev61⟩ : ∃ y : Int32, y = (nI k36) + 1 := ⟨_, rfl⟩
                refine tw_iinc [(3, .int v61), (0, .ref x), (1, .ref ca_4), (2, .int (nI 4)), (4, .null), (5, .ref ca_4), (6, .int (nI 4)), (7, .int (nI k50))] 3 dX5_areRoadsTheSame_76 rfl (by rw [ev61]; rfl) (by decide) rfl ?_
                refine tw_goto 10 dX5_areRoadsTheSame_79 (by decide) ?_
                have qv61 := tw_nI3 ev61
                rw [qv61]
                refine tw_lv [1, 2, 3, 0] rfl ?_
                exact ih38 (k36 + 1)  (by omega) (by omega)
              · have kl62 := tw_klt (N := 4) c60 hk59 (by decide)
                refine tw_aload 5 dX5_areRoadsTheSame_41 rfl ?_
                refine tw_iload 7 dX5_areRoadsTheSame_43 rfl ?_
                cases k63 : F30 ((nI k50)).toNatClampNeg with
                | none =>
                  refine tw_aald (v := .null) 4 rfl rfl dX5_areRoadsTheSame_45 f29 (vp_in_nI (by omega) (by decide)) (by rw [k63]; rfl) ?_
                  refine tw_astoreN [(8, .null), (0, .ref x), (1, .ref ca_4), (2, .int (nI 4)), (3, .int (nI k36)), (4, .null), (5, .ref ca_4), (6, .int (nI 4)), (7, .int (nI k50))] dX5_areRoadsTheSame_46 (by decide) rfl ?_
                  refine tw_aloadN 5 dX5_areRoadsTheSame_48 rfl ?_
                  refine tw_ifnullN 70 dX5_areRoadsTheSame_50 (by decide) ?_
                  obtain ⟨v65, ev65⟩ : ∃ y : Int32, y = (nI k50) + 1 := ⟨_, rfl⟩
                  refine tw_iinc [(7, .int v65), (8, .null), (0, .ref x), (1, .ref ca_4), (2, .int (nI 4)), (3, .int (nI k36)), (4, .null), (5, .ref ca_4), (6, .int (nI 4))] 8 dX5_areRoadsTheSame_70 rfl (by rw [ev65]; rfl) (by decide) rfl ?_
                  refine tw_goto 34 dX5_areRoadsTheSame_73 (by decide) ?_
                  have qv65 := tw_nI3 ev65
                  rw [qv65]
                  refine tw_lv [2, 3, 4, 5, 6, 7, 8, 0] rfl ?_
                  exact ih52 (k50 + 1)  (by omega) (by omega)
                | some q64 =>
                  have k66 := k31 _ _ k63
                  refine tw_aald (v := .ref q64) 4 rfl rfl dX5_areRoadsTheSame_45 f29 (vp_in_nI (by omega) (by decide)) (by rw [k63]; rfl) ?_
                  refine tw_astore [(8, .ref q64), (0, .ref x), (1, .ref ca_4), (2, .int (nI 4)), (3, .int (nI k36)), (4, .null), (5, .ref ca_4), (6, .int (nI 4)), (7, .int (nI k50))] dX5_areRoadsTheSame_46 (by decide) rfl ?_
                  have hv67 := k63
                  rw [nI_clamp (by omega)] at hv67
                  have pn68 := pn32 k50 (by omega)
                  have hkb : k50 < g.2 6 := by rcases Nat.lt_or_ge k50 (g.2 6) with z | z; exact z; rw [pn68.mpr z] at hv67; cases hv67
                  have bqb : g.2 (4096 + q64) = 160 + 64 * k50 := pf35 _ _ hv67
                  refine tw_aloadN 5 dX5_areRoadsTheSame_48 rfl ?_
                  refine tw_ifnullN 70 dX5_areRoadsTheSame_50 (by decide) ?_
                  obtain ⟨v69, ev69⟩ : ∃ y : Int32, y = (nI k50) + 1 := ⟨_, rfl⟩
                  refine tw_iinc [(7, .int v69), (8, .ref q64), (0, .ref x), (1, .ref ca_4), (2, .int (nI 4)), (3, .int (nI k36)), (4, .null), (5, .ref ca_4), (6, .int (nI 4))] 8 dX5_areRoadsTheSame_70 rfl (by rw [ev69]; rfl) (by decide) rfl ?_
                  refine tw_goto 34 dX5_areRoadsTheSame_73 (by decide) ?_
                  have qv69 := tw_nI3 ev69
                  rw [qv69]
                  refine tw_lv [2, 3, 4, 5, 6, 7, 8, 0] rfl ?_
                  exact ih52 (k50 + 1)  (by omega) (by omega)
          refine tw_lv [4, 5, 6, 7, 3, 2, 1, 0] rfl ?_
          exact L53 (4 + 1) 0  (by omega) (by omega)
        | some q49 =>
          have k70 := k31 _ _ k48
          refine tw_aald (v := .ref q49) 4 rfl rfl dX5_areRoadsTheSame_17 f29 (vp_in_nI (by omega) (by decide)) (by rw [k48]; rfl) ?_
          refine tw_astore [(4, .ref q49), (0, .ref x), (1, .ref ca_4), (2, .int (nI 4)), (3, .int (nI k36))] dX5_areRoadsTheSame_18 (by decide) rfl ?_
          have hv71 := k48
          rw [nI_clamp (by omega)] at hv71
          have pn72 := pn32 k36 (by omega)
          have hk9 : k36 < g.2 6 := by rcases Nat.lt_or_ge k36 (g.2 6) with z | z; exact z; rw [pn72.mpr z] at hv71; cases hv71
          have bq9 : g.2 (4096 + q49) = 160 + 64 * k36 := pf35 _ _ hv71
          refine tw_aload_n 1 dX5_areRoadsTheSame_20 rfl rfl ?_
          refine tw_get (v := .ref ca_4) rfl in_9 2 dX5_areRoadsTheSame_21 w_142 rfl (by decide) f2 rfl ?_
          refine tw_astore [(5, .ref ca_4), (4, .ref q49), (0, .ref x), (1, .ref ca_4), (2, .int (nI 4)), (3, .int (nI k36))] dX5_areRoadsTheSame_24 (by decide) rfl ?_
          refine tw_aload 0 dX5_areRoadsTheSame_26 rfl ?_
          refine tw_alen (v := nI 4) 4 rfl dX5_areRoadsTheSame_28 f29 rfl ?_
          refine tw_istore [(6, .int (nI 4)), (5, .ref ca_4), (4, .ref q49), (0, .ref x), (1, .ref ca_4), (2, .int (nI 4)), (3, .int (nI k36))] dX5_areRoadsTheSame_29 (by decide) rfl ?_
          refine tw_iconst (v := 0) dX5_areRoadsTheSame_31 (by decide) ?_
          refine tw_istore [(7, .int 0), (6, .int (nI 4)), (5, .ref ca_4), (4, .ref q49), (0, .ref x), (1, .ref ca_4), (2, .int (nI 4)), (3, .int (nI k36))] dX5_areRoadsTheSame_32 (by decide) rfl ?_
          have L76 : ∀ (r74 k73 : Nat), 4 + 1 ≤ k73 + r74 → k73 ≤ 4 → tw_W d mX5_areRoadsTheSame (tw_qi (fun r h1 => h1 = h ∧ r = 1) tw_nx) 34 [(0, .ref x), (1, .ref ca_4), (2, .int (nI 4)), (3, .int (nI k36)), (4, .ref q49), (5, .ref ca_4), (6, .int (nI 4)), (7, .int (nI k73))] [] h 0 0 := by
            intro r74
            induction r74 with
            | zero => intro k73  hk81 hk82; exact absurd hk81 (by omega)
            | succ r74 ih75 =>
              intro k73  hk81 hk82
              refine tw_iload 7 dX5_areRoadsTheSame_34 rfl ?_
              refine tw_iload 6 dX5_areRoadsTheSame_36 rfl ?_
              refine tw_icmp_ge 76 dX5_areRoadsTheSame_38 (by decide) (fun c83 => ?_) (fun c83 => ?_)
              · obtain ⟨v84, ev84⟩ : ∃ y : Int32, y = (nI k36) + 1 := ⟨_, rfl⟩
                refine tw_iinc [(3, .int v84), (0, .ref x), (1, .ref ca_4), (2, .int (nI 4)), (4, .ref q49), (5, .ref ca_4), (6, .int (nI 4)), (7, .int (nI k73))] 3 dX5_areRoadsTheSame_76 rfl (by rw [ev84]; rfl) (by decide) rfl ?_
                refine tw_goto 10 dX5_areRoadsTheSame_79 (by decide) ?_
                have qv84 := tw_nI3 ev84
                rw [qv84]
                refine tw_lv [1, 2, 3, 0] rfl ?_
                exact ih38 (k36 + 1)  (by omega) (by omega)
              · have kl85 := tw_klt (N := 4) c83 hk82 (by decide)
                refine tw_aload 5 dX5_areRoadsTheSame_41 rfl ?_
                refine tw_iload 7 dX5_areRoadsTheSame_43 rfl ?_
                cases k86 : F30 ((nI k73)).toNatClampNeg with
                | none =>
                  refine tw_aald (v := .null) 4 rfl rfl dX5_areRoadsTheSame_45 f29 (vp_in_nI (by omega) (by decide)) (by rw [k86]; rfl) ?_
                  refine tw_astoreN [(8, .null), (0, .ref x), (1, .ref ca_4), (2, .int (nI 4)), (3, .int (nI k36)), (4, .ref q49), (5, .ref ca_4), (6, .int (nI 4)), (7, .int (nI k73))] dX5_areRoadsTheSame_46 (by decide) rfl ?_
                  refine tw_aload 5 dX5_areRoadsTheSame_48 rfl ?_
                  refine tw_ifnull dX5_areRoadsTheSame_50 ?_
                  refine tw_aloadN 0 dX5_areRoadsTheSame_53 rfl ?_
                  refine tw_ifnullN 70 dX5_areRoadsTheSame_55 (by decide) ?_
                  obtain ⟨v88, ev88⟩ : ∃ y : Int32, y = (nI k73) + 1 := ⟨_, rfl⟩
                  refine tw_iinc [(7, .int v88), (8, .null), (0, .ref x), (1, .ref ca_4), (2, .int (nI 4)), (3, .int (nI k36)), (4, .ref q49), (5, .ref ca_4), (6, .int (nI 4))] 8 dX5_areRoadsTheSame_70 rfl (by rw [ev88]; rfl) (by decide) rfl ?_
                  refine tw_goto 34 dX5_areRoadsTheSame_73 (by decide) ?_
                  have qv88 := tw_nI3 ev88
                  rw [qv88]
                  refine tw_lv [2, 3, 4, 5, 6, 7, 8, 0] rfl ?_
                  exact ih75 (k73 + 1)  (by omega) (by omega)
                | some q87 =>
                  have k89 := k31 _ _ k86
                  refine tw_aald (v := .ref q87) 4 rfl rfl dX5_areRoadsTheSame_45 f29 (vp_in_nI (by omega) (by decide)) (by rw [k86]; rfl) ?_
                  refine tw_astore [(8, .ref q87), (0, .ref x), (1, .ref ca_4), (2, .int (nI 4)), (3, .int (nI k36)), (4, .ref q49), (5, .ref ca_4), (6, .int (nI 4)), (7, .int (nI k73))] dX5_areRoadsTheSame_46 (by decide) rfl ?_
                  have hv90 := k86
                  rw [nI_clamp (by omega)] at hv90
                  have pn91 := pn32 k73 (by omega)
                  have hkb : k73 < g.2 6 := by rcases Nat.lt_or_ge k73 (g.2 6) with z | z; exact z; rw [pn91.mpr z] at hv90; cases hv90
                  have bqb : g.2 (4096 + q87) = 160 + 64 * k73 := pf35 _ _ hv90
                  refine tw_aload 5 dX5_areRoadsTheSame_48 rfl ?_
                  refine tw_ifnull dX5_areRoadsTheSame_50 ?_
                  refine tw_aload 0 dX5_areRoadsTheSame_53 rfl ?_
                  refine tw_ifnull dX5_areRoadsTheSame_55 ?_
                  refine tw_aload 5 dX5_areRoadsTheSame_58 rfl ?_
                  refine tw_aload 0 dX5_areRoadsTheSame_60 rfl ?_
                  refine tw_bi (tw_callS (M := mX5_areRoadsTheSame) (pc := 62) okX5_hasSameRoads dX5_areRoadsTheSame_62 w_223 [.ref q49, .ref q87] [] rfl rfl ⟨by decide, by decide⟩ (Nat.le_of_ble_eq_true rfl) (c4_X5_hasSameRoads d g τ h sp0.1 q49 k70 k36 (by omega) bq9 q87 k89 k73 (by omega) bqb (he.2.2.2 k36 k73 hk9 hkb)) 0 0 (Nat.le_of_ble_eq_true rfl) (Nat.le_of_ble_eq_true rfl)) (fun r94 h93 q92 => ?_) (fun E h1 q => q.elim)
                  obtain ⟨q92e, q92v⟩ := q92
                  rw [q92e, q92v]
                  refine tw_if_ne 70 dX5_areRoadsTheSame_65 (by decide) (fun _ => ?_) (fun c95 => absurd c95 (by decide))
                  obtain ⟨v96, ev96⟩ : ∃ y : Int32, y = (nI k73) + 1 := ⟨_, rfl⟩
                  refine tw_iinc [(7, .int v96), (8, .ref q87), (0, .ref x), (1, .ref ca_4), (2, .int (nI 4)), (3, .int (nI k36)), (4, .ref q49), (5, .ref ca_4), (6, .int (nI 4))] 8 dX5_areRoadsTheSame_70 rfl (by rw [ev96]; rfl) (by decide) rfl ?_
                  refine tw_goto 34 dX5_areRoadsTheSame_73 (by decide) ?_
                  have qv96 := tw_nI3 ev96
                  rw [qv96]
                  refine tw_lv [2, 3, 4, 5, 6, 7, 8, 0] rfl ?_
                  exact ih75 (k73 + 1)  (by omega) (by omega)
          refine tw_lv [4, 5, 6, 7, 3, 2, 1, 0] rfl ?_
          exact L76 (4 + 1) 0  (by omega) (by omega)
  refine tw_lv [3, 2, 1, 0] rfl ?_
  exact L39 (4 + 1) 0  (by omega) (by omega)

set_option maxHeartbeats 4000000 in
set_option maxRecDepth 100000 in
theorem c4_X5_isSound (d : tw_D) (g : tw_G) (τ : tw_K) (h : tw_H) (hw : tw_wt d g τ h)  (x : Nat) (kx : τ x = 11) (he : tw_SO g) : tw_Ct d mX5_isSound 0 0 [.ref x] h (tw_qi (fun r h1 => h1 = h ∧ r = 1) tw_nx) := by
  refine tw_of (by decide +kernel) (Nat.le_of_ble_eq_true rfl) ?_
  show tw_W d mX5_isSound _ 0 [(0, .ref x)] [] h 0 0
  have sp0 := tw_sp.rf hw
  refine tw_aload_n 0 dX5_isSound_0 rfl rfl ?_
  refine tw_iconst (v := 0) dX5_isSound_1 (by decide) ?_
  obtain ⟨e1, f2, td_3, ca_4, ha_5, da_6, c1_7, c2_8, c3_9, c4_10, rfl, k11, k12, k13, k14, k15, k16, k17, k18, k19, k20, k21, k22, k23, k24, k25, k26, k27⟩ := sp0.1 x 11 kx (by decide)
  refine tw_bi (tw_callV (M := mX5_isSound) (pc := 2) okX5_isKept dX5_isSound_2 w_181 rfl f2 [.int 0] [] rfl rfl ⟨by decide, by decide⟩ (Nat.le_of_ble_eq_true rfl) (c4_X5_isKept d g τ h sp0.1 x kx 0 (by decide) he) 0 0 (Nat.le_of_ble_eq_true rfl) (Nat.le_of_ble_eq_true rfl)) (fun r30 h29 q28 => ?_) (fun E h1 q => q.elim)
  obtain ⟨q28e, q28v⟩ := q28
  rw [q28e, q28v]
  refine tw_if_eq 41 dX5_isSound_5 (by decide) (fun c31 => absurd c31 (by decide)) (fun _ => ?_)
  refine tw_aload_n 0 dX5_isSound_8 rfl rfl ?_
  refine tw_iconst (v := 1) dX5_isSound_9 (by decide) ?_
  refine tw_bi (tw_callV (M := mX5_isSound) (pc := 10) okX5_isKept dX5_isSound_10 w_181 rfl f2 [.int 1] [] rfl rfl ⟨by decide, by decide⟩ (Nat.le_of_ble_eq_true rfl) (c4_X5_isKept d g τ h sp0.1 x kx 1 (by decide) he) 0 0 (Nat.le_of_ble_eq_true rfl) (Nat.le_of_ble_eq_true rfl)) (fun r34 h33 q32 => ?_) (fun E h1 q => q.elim)
  obtain ⟨q32e, q32v⟩ := q32
  rw [q32e, q32v]
  refine tw_if_eq 41 dX5_isSound_13 (by decide) (fun c35 => absurd c35 (by decide)) (fun _ => ?_)
  refine tw_aload_n 0 dX5_isSound_16 rfl rfl ?_
  refine tw_bi (tw_callV (M := mX5_isSound) (pc := 17) okX5_areCountriesSound dX5_isSound_17 w_197 rfl f2 [] [] rfl rfl ⟨by decide, by decide⟩ (Nat.le_of_ble_eq_true rfl) (c4_X5_areCountriesSound d g τ h sp0.1 x kx he) 0 0 (Nat.le_of_ble_eq_true rfl) (Nat.le_of_ble_eq_true rfl)) (fun r38 h37 q36 => ?_) (fun E h1 q => q.elim)
  obtain ⟨q36e, q36v⟩ := q36
  rw [q36e, q36v]
  refine tw_if_eq 41 dX5_isSound_20 (by decide) (fun c39 => absurd c39 (by decide)) (fun _ => ?_)
  refine tw_aload_n 0 dX5_isSound_23 rfl rfl ?_
  refine tw_bi (tw_callV (M := mX5_isSound) (pc := 24) okX5_areHousesSound dX5_isSound_24 w_210 rfl f2 [] [] rfl rfl ⟨by decide, by decide⟩ (Nat.le_of_ble_eq_true rfl) (c4_X5_areHousesSound d g τ h sp0.1 x kx he) 0 0 (Nat.le_of_ble_eq_true rfl) (Nat.le_of_ble_eq_true rfl)) (fun r42 h41 q40 => ?_) (fun E h1 q => q.elim)
  obtain ⟨q40e, q40v⟩ := q40
  rw [q40e, q40v]
  refine tw_if_eq 41 dX5_isSound_27 (by decide) (fun c43 => absurd c43 (by decide)) (fun _ => ?_)
  refine tw_aload_n 0 dX5_isSound_30 rfl rfl ?_
  refine tw_bi (tw_callV (M := mX5_isSound) (pc := 31) okX5_areRoadsTheSame dX5_isSound_31 w_219 rfl f2 [] [] rfl rfl ⟨by decide, by decide⟩ (Nat.le_of_ble_eq_true rfl) (c4_X5_areRoadsTheSame d g τ h sp0.1 x kx he) 0 0 (Nat.le_of_ble_eq_true rfl) (Nat.le_of_ble_eq_true rfl)) (fun r46 h45 q44 => ?_) (fun E h1 q => q.elim)
  obtain ⟨q44e, q44v⟩ := q44
  rw [q44e, q44v]
  refine tw_if_eq 41 dX5_isSound_34 (by decide) (fun c47 => absurd c47 (by decide)) (fun _ => ?_)
  refine tw_iconst (v := 1) dX5_isSound_37 (by decide) ?_
  refine tw_goto 42 dX5_isSound_38 (by decide) ?_
  exact tw_zret dX5_isSound_42 rfl rfl (Or.inl ⟨_, rfl, rfl, rfl⟩)

/-! the class's methods over the typed heap. Laid by wip/p5/mkclass.py. -/
/-! what is asked, the class -/
def tw_isum (F : Nat → Int32) : Nat → Int32
  | 0 => 0
  | n + 1 => tw_isum F n + F n
theorem tw_isum_c {F G : Nat → Int32} : ∀ n, (∀ j, j < n → F j = G j) → tw_isum F n = tw_isum G n
  | 0, _ => rfl
  | n + 1, h => by
    show tw_isum F n + F n = tw_isum G n + G n
    rw [tw_isum_c n (fun j hj => h j (by omega)), h n (by omega)]
theorem tw_isum_n {F : Nat → Int32} {f : Nat → Nat} : ∀ n, (∀ j, j < n → F j = nI (f j)) → tw_isum F n = nI (tw_sum f n)
  | 0, _ => rfl
  | n + 1, h => by
    show tw_isum F n + F n = nI (tw_sum f n + f n)
    rw [tw_isum_n n (fun j hj => h j (by omega)), h n (by omega)]
    exact tw_niadd
theorem tw_own3 {d : tw_D} {g : tw_G} {τ : tw_K} {h : tw_H} {a b : Nat} (hw : tw_wt d g τ h) (ka : τ a = 3) (kb : τ b = 3) (e : g.2 (4096 + a) = g.2 (4096 + b)) : a = b := by
  obtain ⟨e1, he1, n1, ar1, p1, pl1, go1, eq1, _, _, _, j1, oa, _⟩ := hw a 3 ka (by decide)
  obtain ⟨e2, he2, n2, ar2, p2, pl2, go2, eq2, _, _, _, j2, ob, _⟩ := hw b 3 kb (by decide)
  have ea := oa.2.2.2.2
  have eb := ob.2.2.2.2
  rw [oa.2.2.2.1, ob.2.2.2.1, ← ea, ← eb, e]
set_option maxHeartbeats 4000000 in
set_option maxRecDepth 100000 in
theorem c4_X5_unpaidDebtsOf (d : tw_D) (g : tw_G) (τ : tw_K) (h : tw_H) (hw : tw_wt d g τ h) (x : Nat) (kx : τ x = 11) (a : Nat) (ka : τ a = 3) (ja : Nat) (hja : ja < g.2 7) (hba : g.2 (4096 + a) = 768 + 32 * ja) : tw_Ct d mX5_unpaidDebtsOf 0 0 [.ref x, .ref a] h (tw_qi (fun r h1 => h1 = h ∧ r = tw_isum (fun j => if g.1 (1152 + 8 * j + 2) = 0 ∧ g.1 (1152 + 8 * j + 3) = nI ja then 1 else 0) (g.2 8)) tw_nx) := by
  refine tw_of (by decide +kernel) (Nat.le_of_ble_eq_true rfl) ?_
  show tw_W d mX5_unpaidDebtsOf _ 0 [(0, .ref x), (1, .ref a)] [] h 0 0
  have sp0 := tw_sp.rf hw
  have b9 := tw_b678 hw kx
  refine tw_iconst (v := 0) dX5_unpaidDebtsOf_0 (by decide) ?_
  refine tw_istore_n [(2, .int 0), (0, .ref x), (1, .ref a)] dX5_unpaidDebtsOf_1 rfl (by decide) rfl ?_
  refine tw_aload_n 1 dX5_unpaidDebtsOf_2 rfl rfl ?_
  obtain ⟨e1, f2, td_3, ca_4, ha_5, da_6, c1_7, c2_8, c3_9, c4_10, rfl, k11, k12, k13, k14, k15, k16, k17, k18, k19, k20, k21, k22, k23, k24, k25, k26, k27⟩ := sp0.1 x 11 kx (by decide)
  refine tw_get (v := .ref da_6) rfl in_9 6 dX5_unpaidDebtsOf_3 w_146 rfl (by decide) f2 rfl ?_
  refine tw_astore_n [(3, .ref da_6), (2, .int 0), (0, .ref x), (1, .ref a)] dX5_unpaidDebtsOf_6 rfl (by decide) rfl ?_
  refine tw_aload_n 0 dX5_unpaidDebtsOf_7 rfl rfl ?_
  obtain ⟨e28, f29, F30, rfl, k31, pn32, pb33, px34, pf35⟩ := sp0.1 da_6 10 k13 (by decide)
  refine tw_alen (v := nI 10) 6 rfl dX5_unpaidDebtsOf_8 f29 rfl ?_
  refine tw_istore [(4, .int (nI 10)), (3, .ref da_6), (2, .int 0), (0, .ref x), (1, .ref a)] dX5_unpaidDebtsOf_9 (by decide) rfl ?_
  refine tw_iconst (v := 0) dX5_unpaidDebtsOf_11 (by decide) ?_
  refine tw_istore [(5, .int 0), (4, .int (nI 10)), (3, .ref da_6), (2, .int 0), (0, .ref x), (1, .ref a)] dX5_unpaidDebtsOf_12 (by decide) rfl ?_
  have L40 : ∀ (r38 k37 : Nat) (x36 : Int32) (li44 : x36 = tw_isum (fun j => if g.1 (1152 + 8 * j + 2) = 0 ∧ g.1 (1152 + 8 * j + 3) = nI ja then 1 else 0) (min k37 (g.2 8))), 10 + 1 ≤ k37 + r38 → k37 ≤ 10 → tw_W d mX5_unpaidDebtsOf (tw_qi (fun r h1 => h1 = h ∧ r = tw_isum (fun j => if g.1 (1152 + 8 * j + 2) = 0 ∧ g.1 (1152 + 8 * j + 3) = nI ja then 1 else 0) (g.2 8)) tw_nx) 14 [(0, .ref x), (1, .ref a), (2, .int x36), (3, .ref da_6), (4, .int (nI 10)), (5, .int (nI k37))] [] h 0 0 := by
    intro r38
    induction r38 with
    | zero => intro k37 x36 li44 hk45 hk46; exact absurd hk45 (by omega)
    | succ r38 ih39 =>
      intro k37 x36 li44 hk45 hk46
      refine tw_iload 5 dX5_unpaidDebtsOf_14 rfl ?_
      refine tw_iload 4 dX5_unpaidDebtsOf_16 rfl ?_
      refine tw_icmp_ge 58 dX5_unpaidDebtsOf_18 (by decide) (fun c47 => ?_) (fun c47 => ?_)
      · refine tw_iload_n 2 dX5_unpaidDebtsOf_58 rfl rfl ?_
        exact tw_iret dX5_unpaidDebtsOf_59 rfl (Or.inl ⟨_, rfl, rfl, by have z := tw_kge (N := 10) c47 (by omega); have z2 := li44; rw [show min k37 (g.2 8) = g.2 8 by omega] at z2; exact z2⟩)
      · have kl48 := tw_klt (N := 10) c47 hk46 (by decide)
        refine tw_aload_n 3 dX5_unpaidDebtsOf_21 rfl rfl ?_
        refine tw_iload 5 dX5_unpaidDebtsOf_22 rfl ?_
        cases k49 : F30 ((nI k37)).toNatClampNeg with
        | none =>
          refine tw_aald (v := .null) 6 rfl rfl dX5_unpaidDebtsOf_24 f29 (vp_in_nI (by omega) (by decide)) (by rw [k49]; rfl) ?_
          refine tw_astoreN [(6, .null), (0, .ref x), (1, .ref a), (2, .int x36), (3, .ref da_6), (4, .int (nI 10)), (5, .int (nI k37))] dX5_unpaidDebtsOf_25 (by decide) rfl ?_
          have hv9 := k49
          rw [nI_clamp (by omega)] at hv9
          have pn9 := pn32 k37 (by omega)
          have hk9 : g.2 8 ≤ k37 := pn9.mp hv9
          have mn9 : min (k37 + 1) (g.2 8) = min k37 (g.2 8) := by omega
          refine tw_aloadN 0 dX5_unpaidDebtsOf_27 rfl ?_
          refine tw_ifnullN 52 dX5_unpaidDebtsOf_29 (by decide) ?_
          obtain ⟨v51, ev51⟩ : ∃ y : Int32, y = (nI k37) + 1 := ⟨_, rfl⟩
          refine tw_iinc [(5, .int v51), (6, .null), (0, .ref x), (1, .ref a), (2, .int x36), (3, .ref da_6), (4, .int (nI 10))] 6 dX5_unpaidDebtsOf_52 rfl (by rw [ev51]; rfl) (by decide) rfl ?_
          refine tw_goto 14 dX5_unpaidDebtsOf_55 (by decide) ?_
          have qv51 := tw_nI3 ev51
          rw [qv51]
          refine tw_lv [2, 3, 4, 5, 6, 0] rfl ?_
          exact ih39 (k37 + 1) x36 (by rw [mn9]; exact li44) (by omega) (by omega)
        | some q50 =>
          have k52 := k31 _ _ k49
          refine tw_aald (v := .ref q50) 6 rfl rfl dX5_unpaidDebtsOf_24 f29 (vp_in_nI (by omega) (by decide)) (by rw [k49]; rfl) ?_
          refine tw_astore [(6, .ref q50), (0, .ref x), (1, .ref a), (2, .int x36), (3, .ref da_6), (4, .int (nI 10)), (5, .int (nI k37))] dX5_unpaidDebtsOf_25 (by decide) rfl ?_
          have hv9 := k49
          rw [nI_clamp (by omega)] at hv9
          have pn9 := pn32 k37 (by omega)
          have hk9 : k37 < g.2 8 := by rcases Nat.lt_or_ge k37 (g.2 8) with z | z; exact z; rw [pn9.mpr z] at hv9; cases hv9
          have bq9 : g.2 (4096 + q50) = 1152 + 8 * k37 := pf35 _ _ hv9
          have m09 : min k37 (g.2 8) = k37 := by omega
          have m19 : min (k37 + 1) (g.2 8) = k37 + 1 := by omega
          have hl9 := li44
          rw [m09] at hl9
          refine tw_aload 0 dX5_unpaidDebtsOf_27 rfl ?_
          refine tw_ifnull dX5_unpaidDebtsOf_29 ?_
          refine tw_aload 0 dX5_unpaidDebtsOf_32 rfl ?_
          obtain ⟨e53, f54, v_55, dy_56, pd_57, a_58, b_59, rfl, k60, k61, k62, k63⟩ := sp0.1 q50 4 k52 (by decide)
          obtain ⟨j64, ow65, fv9, fd9, fp9, ⟨i66, hi67, ei68, bi69⟩, i70, hi71, ei72, bi73⟩ := k63
          obtain rfl : k37 = j64 := by have z := ow65.b bq9; omega
          subst fv9 fd9 fp9
          refine tw_getN (v := .int (g.1 (1152 + 8 * k37 + 2))) rfl in_5 4 dX5_unpaidDebtsOf_34 w_728 rfl (by decide) f54 rfl ?_
          refine tw_if_ne 52 dX5_unpaidDebtsOf_37 (by decide) (fun c74 => ?_) (fun c74 => ?_)
          · have fz9 : (if g.1 (1152 + 8 * k37 + 2) = 0 ∧ g.1 (1152 + 8 * k37 + 3) = nI ja then 1 else 0 : Int32) = 0 := if_neg (fun z => c74 z.1)
            obtain ⟨v75, ev75⟩ : ∃ y : Int32, y = (nI k37) + 1 := ⟨_, rfl⟩
            refine tw_iinc [(5, .int v75), (6, .ref q50), (0, .ref x), (1, .ref a), (2, .int x36), (3, .ref da_6), (4, .int (nI 10))] 6 dX5_unpaidDebtsOf_52 rfl (by rw [ev75]; rfl) (by decide) rfl ?_
            refine tw_goto 14 dX5_unpaidDebtsOf_55 (by decide) ?_
            have qv75 := tw_nI3 ev75
            rw [qv75]
            refine tw_lv [2, 3, 4, 5, 6, 0] rfl ?_
            exact ih39 (k37 + 1) x36 (by rw [m19]; show x36 = tw_isum (fun j => if g.1 (1152 + 8 * j + 2) = 0 ∧ g.1 (1152 + 8 * j + 3) = nI ja then 1 else 0) k37 + (if g.1 (1152 + 8 * k37 + 2) = 0 ∧ g.1 (1152 + 8 * k37 + 3) = nI ja then 1 else 0 : Int32); rw [fz9, Int32.add_zero]; exact hl9) (by omega) (by omega)
          · have pd9 := c74
            refine tw_aload 0 dX5_unpaidDebtsOf_40 rfl ?_
            refine tw_getN (v := .ref a_58) rfl in_5 0 dX5_unpaidDebtsOf_42 w_720 rfl (by decide) f54 rfl ?_
            refine tw_aload_n 2 dX5_unpaidDebtsOf_45 rfl rfl ?_
            refine tw_acmp_ne (rx := (some a_58)) (ry := (some a)) 52 dX5_unpaidDebtsOf_46 (by decide) (fun c76 => ?_) (fun c76 => ?_)
            · have fz9 : (if g.1 (1152 + 8 * k37 + 2) = 0 ∧ g.1 (1152 + 8 * k37 + 3) = nI ja then 1 else 0 : Int32) = 0 := if_neg (fun z => c76 (congrArg some (tw_own3 sp0.1 k60 ka (by rw [bi69, hba, tw_nIj (ei68.symm.trans z.2) (by omega) (by omega)]))))
              obtain ⟨v77, ev77⟩ : ∃ y : Int32, y = (nI k37) + 1 := ⟨_, rfl⟩
              refine tw_iinc [(5, .int v77), (6, .ref q50), (0, .ref x), (1, .ref a), (2, .int x36), (3, .ref da_6), (4, .int (nI 10))] 6 dX5_unpaidDebtsOf_52 rfl (by rw [ev77]; rfl) (by decide) rfl ?_
              refine tw_goto 14 dX5_unpaidDebtsOf_55 (by decide) ?_
              have qv77 := tw_nI3 ev77
              rw [qv77]
              refine tw_lv [2, 3, 4, 5, 6, 0] rfl ?_
              exact ih39 (k37 + 1) x36 (by rw [m19]; show x36 = tw_isum (fun j => if g.1 (1152 + 8 * j + 2) = 0 ∧ g.1 (1152 + 8 * j + 3) = nI ja then 1 else 0) k37 + (if g.1 (1152 + 8 * k37 + 2) = 0 ∧ g.1 (1152 + 8 * k37 + 3) = nI ja then 1 else 0 : Int32); rw [fz9, Int32.add_zero]; exact hl9) (by omega) (by omega)
            · have ej9 : i66 = ja := by have z := Option.some.inj c76; have z2 := bi69; rw [z, hba] at z2; omega
              have fo9 : (if g.1 (1152 + 8 * k37 + 2) = 0 ∧ g.1 (1152 + 8 * k37 + 3) = nI ja then 1 else 0 : Int32) = 1 := if_pos ⟨pd9, by rw [ei68, ej9]⟩
              obtain ⟨v78, ev78⟩ : ∃ y : Int32, y = x36 + 1 := ⟨_, rfl⟩
              refine tw_iinc [(2, .int v78), (6, .ref q50), (0, .ref x), (1, .ref a), (3, .ref da_6), (4, .int (nI 10)), (5, .int (nI k37))] 3 dX5_unpaidDebtsOf_49 rfl (by rw [ev78]; rfl) (by decide) rfl ?_
              obtain ⟨v79, ev79⟩ : ∃ y : Int32, y = (nI k37) + 1 := ⟨_, rfl⟩
              refine tw_iinc [(5, .int v79), (2, .int v78), (6, .ref q50), (0, .ref x), (1, .ref a), (3, .ref da_6), (4, .int (nI 10))] 6 dX5_unpaidDebtsOf_52 rfl (by rw [ev79]; rfl) (by decide) rfl ?_
              refine tw_goto 14 dX5_unpaidDebtsOf_55 (by decide) ?_
              have qv79 := tw_nI3 ev79
              rw [qv79]
              refine tw_lv [3, 4, 1, 5, 6, 0] rfl ?_
              exact ih39 (k37 + 1) v78 (by rw [m19]; show v78 = tw_isum (fun j => if g.1 (1152 + 8 * j + 2) = 0 ∧ g.1 (1152 + 8 * j + 3) = nI ja then 1 else 0) k37 + (if g.1 (1152 + 8 * k37 + 2) = 0 ∧ g.1 (1152 + 8 * k37 + 3) = nI ja then 1 else 0 : Int32); rw [ev78, fo9, hl9]) (by omega) (by omega)
  refine tw_lv [4, 5, 3, 2, 1, 0] rfl ?_
  exact L40 (10 + 1) 0 0 (by rw [Nat.zero_min]; rfl) (by omega) (by omega)

set_option maxHeartbeats 4000000 in
set_option maxRecDepth 100000 in
theorem c4_X5_unpaidDebtsTo (d : tw_D) (g : tw_G) (τ : tw_K) (h : tw_H) (hw : tw_wt d g τ h) (x : Nat) (kx : τ x = 11) (a : Nat) (ka : τ a = 3) (ja : Nat) (hja : ja < g.2 7) (hba : g.2 (4096 + a) = 768 + 32 * ja) : tw_Ct d mX5_unpaidDebtsTo 0 0 [.ref x, .ref a] h (tw_qi (fun r h1 => h1 = h ∧ r = tw_isum (fun j => if g.1 (1152 + 8 * j + 2) = 0 ∧ g.1 (1152 + 8 * j + 4) = nI ja then 1 else 0) (g.2 8)) tw_nx) := by
  refine tw_of (by decide +kernel) (Nat.le_of_ble_eq_true rfl) ?_
  show tw_W d mX5_unpaidDebtsTo _ 0 [(0, .ref x), (1, .ref a)] [] h 0 0
  have sp0 := tw_sp.rf hw
  have b9 := tw_b678 hw kx
  refine tw_iconst (v := 0) dX5_unpaidDebtsTo_0 (by decide) ?_
  refine tw_istore_n [(2, .int 0), (0, .ref x), (1, .ref a)] dX5_unpaidDebtsTo_1 rfl (by decide) rfl ?_
  refine tw_aload_n 1 dX5_unpaidDebtsTo_2 rfl rfl ?_
  obtain ⟨e1, f2, td_3, ca_4, ha_5, da_6, c1_7, c2_8, c3_9, c4_10, rfl, k11, k12, k13, k14, k15, k16, k17, k18, k19, k20, k21, k22, k23, k24, k25, k26, k27⟩ := sp0.1 x 11 kx (by decide)
  refine tw_get (v := .ref da_6) rfl in_9 6 dX5_unpaidDebtsTo_3 w_146 rfl (by decide) f2 rfl ?_
  refine tw_astore_n [(3, .ref da_6), (2, .int 0), (0, .ref x), (1, .ref a)] dX5_unpaidDebtsTo_6 rfl (by decide) rfl ?_
  refine tw_aload_n 0 dX5_unpaidDebtsTo_7 rfl rfl ?_
  obtain ⟨e28, f29, F30, rfl, k31, pn32, pb33, px34, pf35⟩ := sp0.1 da_6 10 k13 (by decide)
  refine tw_alen (v := nI 10) 6 rfl dX5_unpaidDebtsTo_8 f29 rfl ?_
  refine tw_istore [(4, .int (nI 10)), (3, .ref da_6), (2, .int 0), (0, .ref x), (1, .ref a)] dX5_unpaidDebtsTo_9 (by decide) rfl ?_
  refine tw_iconst (v := 0) dX5_unpaidDebtsTo_11 (by decide) ?_
  refine tw_istore [(5, .int 0), (4, .int (nI 10)), (3, .ref da_6), (2, .int 0), (0, .ref x), (1, .ref a)] dX5_unpaidDebtsTo_12 (by decide) rfl ?_
  have L40 : ∀ (r38 k37 : Nat) (x36 : Int32) (li44 : x36 = tw_isum (fun j => if g.1 (1152 + 8 * j + 2) = 0 ∧ g.1 (1152 + 8 * j + 4) = nI ja then 1 else 0) (min k37 (g.2 8))), 10 + 1 ≤ k37 + r38 → k37 ≤ 10 → tw_W d mX5_unpaidDebtsTo (tw_qi (fun r h1 => h1 = h ∧ r = tw_isum (fun j => if g.1 (1152 + 8 * j + 2) = 0 ∧ g.1 (1152 + 8 * j + 4) = nI ja then 1 else 0) (g.2 8)) tw_nx) 14 [(0, .ref x), (1, .ref a), (2, .int x36), (3, .ref da_6), (4, .int (nI 10)), (5, .int (nI k37))] [] h 0 0 := by
    intro r38
    induction r38 with
    | zero => intro k37 x36 li44 hk45 hk46; exact absurd hk45 (by omega)
    | succ r38 ih39 =>
      intro k37 x36 li44 hk45 hk46
      refine tw_iload 5 dX5_unpaidDebtsTo_14 rfl ?_
      refine tw_iload 4 dX5_unpaidDebtsTo_16 rfl ?_
      refine tw_icmp_ge 58 dX5_unpaidDebtsTo_18 (by decide) (fun c47 => ?_) (fun c47 => ?_)
      · refine tw_iload_n 2 dX5_unpaidDebtsTo_58 rfl rfl ?_
        exact tw_iret dX5_unpaidDebtsTo_59 rfl (Or.inl ⟨_, rfl, rfl, by have z := tw_kge (N := 10) c47 (by omega); have z2 := li44; rw [show min k37 (g.2 8) = g.2 8 by omega] at z2; exact z2⟩)
      · have kl48 := tw_klt (N := 10) c47 hk46 (by decide)
        refine tw_aload_n 3 dX5_unpaidDebtsTo_21 rfl rfl ?_
        refine tw_iload 5 dX5_unpaidDebtsTo_22 rfl ?_
        cases k49 : F30 ((nI k37)).toNatClampNeg with
        | none =>
          refine tw_aald (v := .null) 6 rfl rfl dX5_unpaidDebtsTo_24 f29 (vp_in_nI (by omega) (by decide)) (by rw [k49]; rfl) ?_
          refine tw_astoreN [(6, .null), (0, .ref x), (1, .ref a), (2, .int x36), (3, .ref da_6), (4, .int (nI 10)), (5, .int (nI k37))] dX5_unpaidDebtsTo_25 (by decide) rfl ?_
          have hv9 := k49
          rw [nI_clamp (by omega)] at hv9
          have pn9 := pn32 k37 (by omega)
          have hk9 : g.2 8 ≤ k37 := pn9.mp hv9
          have mn9 : min (k37 + 1) (g.2 8) = min k37 (g.2 8) := by omega
          refine tw_aloadN 0 dX5_unpaidDebtsTo_27 rfl ?_
          refine tw_ifnullN 52 dX5_unpaidDebtsTo_29 (by decide) ?_
          obtain ⟨v51, ev51⟩ : ∃ y : Int32, y = (nI k37) + 1 := ⟨_, rfl⟩
          refine tw_iinc [(5, .int v51), (6, .null), (0, .ref x), (1, .ref a), (2, .int x36), (3, .ref da_6), (4, .int (nI 10))] 6 dX5_unpaidDebtsTo_52 rfl (by rw [ev51]; rfl) (by decide) rfl ?_
          refine tw_goto 14 dX5_unpaidDebtsTo_55 (by decide) ?_
          have qv51 := tw_nI3 ev51
          rw [qv51]
          refine tw_lv [2, 3, 4, 5, 6, 0] rfl ?_
          exact ih39 (k37 + 1) x36 (by rw [mn9]; exact li44) (by omega) (by omega)
        | some q50 =>
          have k52 := k31 _ _ k49
          refine tw_aald (v := .ref q50) 6 rfl rfl dX5_unpaidDebtsTo_24 f29 (vp_in_nI (by omega) (by decide)) (by rw [k49]; rfl) ?_
          refine tw_astore [(6, .ref q50), (0, .ref x), (1, .ref a), (2, .int x36), (3, .ref da_6), (4, .int (nI 10)), (5, .int (nI k37))] dX5_unpaidDebtsTo_25 (by decide) rfl ?_
          have hv9 := k49
          rw [nI_clamp (by omega)] at hv9
          have pn9 := pn32 k37 (by omega)
          have hk9 : k37 < g.2 8 := by rcases Nat.lt_or_ge k37 (g.2 8) with z | z; exact z; rw [pn9.mpr z] at hv9; cases hv9
          have bq9 : g.2 (4096 + q50) = 1152 + 8 * k37 := pf35 _ _ hv9
          have m09 : min k37 (g.2 8) = k37 := by omega
          have m19 : min (k37 + 1) (g.2 8) = k37 + 1 := by omega
          have hl9 := li44
          rw [m09] at hl9
          refine tw_aload 0 dX5_unpaidDebtsTo_27 rfl ?_
          refine tw_ifnull dX5_unpaidDebtsTo_29 ?_
          refine tw_aload 0 dX5_unpaidDebtsTo_32 rfl ?_
          obtain ⟨e53, f54, v_55, dy_56, pd_57, a_58, b_59, rfl, k60, k61, k62, k63⟩ := sp0.1 q50 4 k52 (by decide)
          obtain ⟨j64, ow65, fv9, fd9, fp9, ⟨i66, hi67, ei68, bi69⟩, i70, hi71, ei72, bi73⟩ := k63
          obtain rfl : k37 = j64 := by have z := ow65.b bq9; omega
          subst fv9 fd9 fp9
          refine tw_getN (v := .int (g.1 (1152 + 8 * k37 + 2))) rfl in_5 4 dX5_unpaidDebtsTo_34 w_728 rfl (by decide) f54 rfl ?_
          refine tw_if_ne 52 dX5_unpaidDebtsTo_37 (by decide) (fun c74 => ?_) (fun c74 => ?_)
          · have fz9 : (if g.1 (1152 + 8 * k37 + 2) = 0 ∧ g.1 (1152 + 8 * k37 + 4) = nI ja then 1 else 0 : Int32) = 0 := if_neg (fun z => c74 z.1)
            obtain ⟨v75, ev75⟩ : ∃ y : Int32, y = (nI k37) + 1 := ⟨_, rfl⟩
            refine tw_iinc [(5, .int v75), (6, .ref q50), (0, .ref x), (1, .ref a), (2, .int x36), (3, .ref da_6), (4, .int (nI 10))] 6 dX5_unpaidDebtsTo_52 rfl (by rw [ev75]; rfl) (by decide) rfl ?_
            refine tw_goto 14 dX5_unpaidDebtsTo_55 (by decide) ?_
            have qv75 := tw_nI3 ev75
            rw [qv75]
            refine tw_lv [2, 3, 4, 5, 6, 0] rfl ?_
            exact ih39 (k37 + 1) x36 (by rw [m19]; show x36 = tw_isum (fun j => if g.1 (1152 + 8 * j + 2) = 0 ∧ g.1 (1152 + 8 * j + 4) = nI ja then 1 else 0) k37 + (if g.1 (1152 + 8 * k37 + 2) = 0 ∧ g.1 (1152 + 8 * k37 + 4) = nI ja then 1 else 0 : Int32); rw [fz9, Int32.add_zero]; exact hl9) (by omega) (by omega)
          · have pd9 := c74
            refine tw_aload 0 dX5_unpaidDebtsTo_40 rfl ?_
            refine tw_getN (v := .ref b_59) rfl in_5 1 dX5_unpaidDebtsTo_42 w_722 rfl (by decide) f54 rfl ?_
            refine tw_aload_n 2 dX5_unpaidDebtsTo_45 rfl rfl ?_
            refine tw_acmp_ne (rx := (some b_59)) (ry := (some a)) 52 dX5_unpaidDebtsTo_46 (by decide) (fun c76 => ?_) (fun c76 => ?_)
            · have fz9 : (if g.1 (1152 + 8 * k37 + 2) = 0 ∧ g.1 (1152 + 8 * k37 + 4) = nI ja then 1 else 0 : Int32) = 0 := if_neg (fun z => c76 (congrArg some (tw_own3 sp0.1 k61 ka (by rw [bi73, hba, tw_nIj (ei72.symm.trans z.2) (by omega) (by omega)]))))
              obtain ⟨v77, ev77⟩ : ∃ y : Int32, y = (nI k37) + 1 := ⟨_, rfl⟩
              refine tw_iinc [(5, .int v77), (6, .ref q50), (0, .ref x), (1, .ref a), (2, .int x36), (3, .ref da_6), (4, .int (nI 10))] 6 dX5_unpaidDebtsTo_52 rfl (by rw [ev77]; rfl) (by decide) rfl ?_
              refine tw_goto 14 dX5_unpaidDebtsTo_55 (by decide) ?_
              have qv77 := tw_nI3 ev77
              rw [qv77]
              refine tw_lv [2, 3, 4, 5, 6, 0] rfl ?_
              exact ih39 (k37 + 1) x36 (by rw [m19]; show x36 = tw_isum (fun j => if g.1 (1152 + 8 * j + 2) = 0 ∧ g.1 (1152 + 8 * j + 4) = nI ja then 1 else 0) k37 + (if g.1 (1152 + 8 * k37 + 2) = 0 ∧ g.1 (1152 + 8 * k37 + 4) = nI ja then 1 else 0 : Int32); rw [fz9, Int32.add_zero]; exact hl9) (by omega) (by omega)
            · have ej9 : i70 = ja := by have z := Option.some.inj c76; have z2 := bi73; rw [z, hba] at z2; omega
              have fo9 : (if g.1 (1152 + 8 * k37 + 2) = 0 ∧ g.1 (1152 + 8 * k37 + 4) = nI ja then 1 else 0 : Int32) = 1 := if_pos ⟨pd9, by rw [ei72, ej9]⟩
              obtain ⟨v78, ev78⟩ : ∃ y : Int32, y = x36 + 1 := ⟨_, rfl⟩
              refine tw_iinc [(2, .int v78), (6, .ref q50), (0, .ref x), (1, .ref a), (3, .ref da_6), (4, .int (nI 10)), (5, .int (nI k37))] 3 dX5_unpaidDebtsTo_49 rfl (by rw [ev78]; rfl) (by decide) rfl ?_
              obtain ⟨v79, ev79⟩ : ∃ y : Int32, y = (nI k37) + 1 := ⟨_, rfl⟩
              refine tw_iinc [(5, .int v79), (2, .int v78), (6, .ref q50), (0, .ref x), (1, .ref a), (3, .ref da_6), (4, .int (nI 10))] 6 dX5_unpaidDebtsTo_52 rfl (by rw [ev79]; rfl) (by decide) rfl ?_
              refine tw_goto 14 dX5_unpaidDebtsTo_55 (by decide) ?_
              have qv79 := tw_nI3 ev79
              rw [qv79]
              refine tw_lv [3, 4, 1, 5, 6, 0] rfl ?_
              exact ih39 (k37 + 1) v78 (by rw [m19]; show v78 = tw_isum (fun j => if g.1 (1152 + 8 * j + 2) = 0 ∧ g.1 (1152 + 8 * j + 4) = nI ja then 1 else 0) k37 + (if g.1 (1152 + 8 * k37 + 2) = 0 ∧ g.1 (1152 + 8 * k37 + 4) = nI ja then 1 else 0 : Int32); rw [ev78, fo9, hl9]) (by omega) (by omega)
  refine tw_lv [4, 5, 3, 2, 1, 0] rfl ?_
  exact L40 (10 + 1) 0 0 (by rw [Nat.zero_min]; rfl) (by omega) (by omega)

def tw_wC (g : tw_G) (k : Nat) : Nat → Int32
  | 0 => tw_isum (fun j => g.1 (160 + 64 * j + 24 + k)) (g.2 6)
  | 1 => tw_isum (fun j => g.1 (768 + 32 * j + 8 + k)) (g.2 7)
  | w + 2 => g.1 (1312 + 8 * w + k)
def tw_RW (m wh : Int32) : Prop := tw_RM m ∧ 0 ≤ wh ∧ wh ≤ 5
theorem tw_ic {w j : Nat} (h : w < 2 ^ 31) (e : (nI w).toInt = (j : Int)) : w = j := by
  rw [nI_toInt h] at e
  omega
theorem tw_io {w lo hi : Nat} (h : w < 2 ^ 31) (e : (nI w).toInt < (lo : Int) ∨ (hi : Int) < (nI w).toInt) : w < lo ∨ hi < w := by
  rw [nI_toInt h] at e
  omega
set_option maxHeartbeats 4000000 in
set_option maxRecDepth 100000 in
theorem c2_X5_market (d : tw_D) (g : tw_G) (τ : tw_K) (h : tw_H) (hw : tw_wt d g τ h) (x : Nat) (kx : τ x = 11) (m : Int32) : tw_Ct d mX5_market 20 120 [.ref x, .int m] h (tw_qi (fun r9 h1 => r9 = g.1 0 ∧ (100 ≤ m ∧ m ≤ 200) ∧ ∃ τ1, tw_sp d τ h (tw_g1 g 0 m) τ1 h1) (fun E h1 => (E = tw_IAE ∧ ¬ (100 ≤ m ∧ m ≤ 200)) ∧ ∃ τ1, tw_sp d τ h g τ1 h1)) := by
  refine tw_of (by decide +kernel) (Nat.le_of_ble_eq_true rfl) ?_
  show tw_W d mX5_market _ 0 [(0, .ref x), (1, .int m)] [] h 20 120
  have sp0 := tw_sp.rf hw
  refine tw_iload_n 1 dX5_market_0 rfl rfl ?_
  refine tw_bipush (v := 100) dX5_market_1 (by decide) ?_
  refine tw_sipush (v := 200) dX5_market_3 (by decide) ?_
  refine tw_bv (tw_callS (M := mX5_market) (pc := 6) okX5_needRange dX5_market_6 w_399 [.int m, .int 100, .int 200] [] rfl rfl ⟨by decide, by decide⟩ (Nat.le_of_ble_eq_true rfl) (c2_X5_needRange d g τ h sp0.1 m 100 200) 19 114 (Nat.le_of_ble_eq_true rfl) (Nat.le_of_ble_eq_true rfl)) (fun h2 q => ?_) (fun E h2 q => Or.inr ⟨E, rfl, ⟨q.1, q.2.2⟩, τ, by rw [q.2.1]; exact sp0⟩)
  obtain ⟨qe, ql⟩ := q
  rw [qe]
  refine tw_aload_n 0 dX5_market_9 rfl rfl ?_
  obtain ⟨e1, f2, td_3, ca_4, ha_5, da_6, c1_7, c2_8, c3_9, c4_10, rfl, k11, k12, k13, k14, k15, k16, k17, k18, k19, k20, k21, k22, k23, k24, k25, k26, k27⟩ := sp0.1 x 11 kx (by decide)
  refine tw_get (v := .int (g.1 0)) rfl in_9 1 dX5_market_10 w_141 rfl (by decide) f2 rfl ?_
  refine tw_istore_n [(2, .int (g.1 0)), (0, .ref x), (1, .int m)] dX5_market_13 rfl (by decide) rfl ?_
  refine tw_aload_n 1 dX5_market_14 rfl rfl ?_
  refine tw_iload_n 2 dX5_market_15 rfl rfl ?_
  obtain ⟨g5, eg5⟩ : ∃ z : tw_G, z = tw_g1 g 0 m := ⟨_, rfl⟩
  have qm : m = g5.1 0 := by rw [eg5]; rfl
  refine tw_put rfl in_9 tyX5 tyX5_ok nmX5 1 dX5_market_16 w_141 rfl (by decide) f2 rfl rfl rfl rfl (Nat.le_of_ble_eq_true rfl) [.int td_3, .int m, .ref ca_4, .int (nI (g.2 0)), .ref ha_5, .int (nI (g.2 1)), .ref da_6, .int (nI (g.2 2)), .ref c1_7, .ref c2_8, .ref c3_9, .ref c4_10] rfl ?_
  obtain ⟨h28, eh28⟩ : ∃ z : tw_H, z = tw_up h x (.inr (9, [.int td_3, .int m, .ref ca_4, .int (nI (g.2 0)), .ref ha_5, .int (nI (g.2 1)), .ref da_6, .int (nI (g.2 2)), .ref c1_7, .ref c2_8, .ref c3_9, .ref c4_10])) := ⟨_, rfl⟩
  rw [← eh28]
  have sp29 : tw_sp d τ h g5 τ h28 := by rw [eh28]; exact sp0.g11 kx ⟨td_3, ca_4, ha_5, da_6, c1_7, c2_8, c3_9, c4_10, (by rw [eg5]; rfl), k11, k12, k13, k14, k15, k16, k17, (by rw [eg5]; exact k18), (by rw [eg5]; exact k19), (by rw [eg5]; exact k20), (by rw [eg5]; exact k21), (by rw [eg5]; exact k22), (by rw [eg5]; exact k23), (by rw [eg5]; exact k24), (by rw [eg5]; exact k25), (by rw [eg5]; exact k26), (by rw [eg5]; exact k27)⟩ (by rw [eg5]; intro i hi; exact if_neg hi) (by rw [eg5]; intro i hi hj; rfl)
  refine tw_iload_n 0 dX5_market_19 rfl rfl ?_
  exact tw_iret dX5_market_20 rfl (Or.inl ⟨_, rfl, rfl, ql, _, by rw [← eg5]; exact sp29⟩)

def tw_lw (T k D L : Nat) : Nat := if k = 1 ∧ T < D ∧ D % 30 = 0 then L - L / 10000 else L
/-- fuel, day, what is left -/
def tw_ld (T k n : Nat) : Nat → Nat → Nat → Int32
  | 0, _, _ => -1
  | f + 1, D, L => if tw_lw T k D L < n then nI D else tw_ld T k n f (D + 1) (tw_lw T k D L - n)
def tw_CV (g : tw_G) : Prop := ∀ j, j < g.2 6 → ∀ k, k < 2 → g.1 (160 + 64 * j + 24 + k) = nI (tw_DN (g.1 (160 + 64 * j + 24 + k))) ∧ tw_DN (g.1 (160 + 64 * j + 24 + k)) ≤ 59000000
theorem tw_L_ad (a b : Nat) : tw_L a + tw_L b = tw_L (a + b) := (Int64.ofNat_add a b).symm
set_option maxHeartbeats 4000000 in
set_option maxRecDepth 100000 in
theorem c4_X5_worthOf (d : tw_D) (g : tw_G) (τ : tw_K) (h : tw_H) (hw : tw_wt d g τ h)  (a b r : Int32) (A Bn R : Nat) (ea : a = nI A) (eb : b = nI Bn) (er : r = nI R) (hA : A ≤ 59000000) (hB : Bn ≤ 59000000) (hR : R ≤ 200) : tw_Ct d mX5_worthOf 0 0 [.int a, .int b, .int r] h (tw_qi (fun r9 h1 => h1 = h ∧ r9 = nI (Bn + A * R / 10)) tw_nx) := by
  refine tw_of (by decide +kernel) (Nat.le_of_ble_eq_true rfl) ?_
  show tw_W d mX5_worthOf _ 0 [(0, .int a), (1, .int b), (2, .int r)] [] h 0 0
  have sp0 := tw_sp.rf hw
  have m9 : A * R ≤ 59000000 * 200 := Nat.mul_le_mul hA hR
  refine tw_iload_n 1 dX5_worthOf_0 rfl rfl ?_
  refine tw_i2l dX5_worthOf_1 ?_
  refine tw_nml (fun v1 ev1 => ?_)
  refine tw_iload_n 0 dX5_worthOf_2 rfl rfl ?_
  refine tw_i2l dX5_worthOf_3 ?_
  refine tw_nml (fun v2 ev2 => ?_)
  refine tw_iload_n 2 dX5_worthOf_4 rfl rfl ?_
  refine tw_i2l dX5_worthOf_5 ?_
  refine tw_nml (fun v3 ev3 => ?_)
  refine tw_lmul dX5_worthOf_6 ?_
  refine tw_nml (fun v4 ev4 => ?_)
  refine tw_ldc2 (v := 10) dX5_worthOf_7 w_272 ?_
  refine tw_ldiv dX5_worthOf_10 (by decide) ?_
  refine tw_nml (fun v5 ev5 => ?_)
  refine tw_ladd dX5_worthOf_11 ?_
  refine tw_nml (fun v6 ev6 => ?_)
  refine tw_l2i dX5_worthOf_12 ?_
  refine tw_nmi (fun v7 ev7 => ?_)
  exact tw_iret dX5_worthOf_13 rfl (Or.inl ⟨_, rfl, rfl, by rw [ev7, ev6, ev1, ev5, ev4, ev2, ev3, ea, eb, er, tw_L_i (by omega), tw_L_i (by omega), tw_L_i (by omega), show (10 : Int64) = tw_L 10 from rfl, tw_L_mul (by omega) (by omega) (by omega), tw_L_div (by omega) (by decide), tw_L_ad]; exact tw_L_32 (by omega)⟩)

set_option maxHeartbeats 4000000 in
set_option maxRecDepth 100000 in
theorem c4_X3_worth (d : tw_D) (g : tw_G) (τ : tw_K) (h : tw_H) (hw : tw_wt d g τ h)  (x : Nat) (kx : τ x = 1) (b : Nat) (hb : g.2 (4096 + x) = b) (r : Int32) (A Bn R : Nat) (ea : g.1 (b + 0) = nI A) (eb : g.1 (b + 1) = nI Bn) (er : r = nI R) (hA : A ≤ 59000000) (hB : Bn ≤ 59000000) (hR : R ≤ 200) : tw_Ct d mX3_worth 0 0 [.ref x, .int r] h (tw_qi (fun r9 h1 => h1 = h ∧ r9 = nI (Bn + A * R / 10)) tw_nx) := by
  refine tw_of (by decide +kernel) (Nat.le_of_ble_eq_true rfl) ?_
  show tw_W d mX3_worth _ 0 [(0, .ref x), (1, .int r)] [] h 0 0
  have sp0 := tw_sp.rf hw
  refine tw_aload_n 0 dX3_worth_0 rfl rfl ?_
  obtain ⟨e1, f2, a_3, b_4, rfl, k5⟩ := sp0.1 x 1 kx (by decide)
  obtain ⟨b6, ow7, fa9, fb9⟩ := k5
  obtain rfl : b = b6 := (ow7.b hb).symm
  subst fa9 fb9
  refine tw_get (v := .int (g.1 (b + 0))) rfl in_7 0 dX3_worth_1 w_131 rfl (by decide) f2 rfl ?_
  refine tw_aload_n 0 dX3_worth_4 rfl rfl ?_
  refine tw_get (v := .int (g.1 (b + 1))) rfl in_7 1 dX3_worth_5 w_133 rfl (by decide) f2 rfl ?_
  refine tw_iload_n 1 dX3_worth_8 rfl rfl ?_
  refine tw_bi (tw_callSN (M := mX3_worth) (pc := 9) okX5_worthOf dX3_worth_9 w_269 [.int (g.1 (b + 0)), .int (g.1 (b + 1)), .int r] [] rfl rfl ⟨by decide, by decide⟩ (Nat.le_of_ble_eq_true rfl) (c4_X5_worthOf d g τ h sp0.1 (g.1 (b + 0)) (g.1 (b + 1)) r A Bn R ea eb er hA hB hR) 0 0 (Nat.le_of_ble_eq_true rfl) (Nat.le_of_ble_eq_true rfl)) (fun r10 h9 q8 => ?_) (fun E h1 q => q.elim)
  obtain ⟨q8e, q8v⟩ := q8
  rw [q8e]
  exact tw_iret dX3_worth_12 rfl (Or.inl ⟨_, rfl, rfl, q8v⟩)

set_option maxHeartbeats 4000000 in
set_option maxRecDepth 100000 in
theorem c4_X5_numberOf (d : tw_D) (g : tw_G) (τ : tw_K) (h : tw_H) (hw : tw_wt d g τ h) (p : Option Nat) (c : Int32) (hp : tw_pc g p c) (ok : ∀ q, p = some q → τ q = 2) : tw_Ct d mX5_numberOf 0 0 [va_rf p] h (tw_qi (fun r h1 => h1 = h ∧ r = c) tw_nx) := by
  cases p with
  | none =>
    refine tw_of (by decide +kernel) (Nat.le_of_ble_eq_true rfl) ?_
    show tw_W d mX5_numberOf _ 0 [(0, .null)] [] h 0 0
    refine tw_aload_nN 0 dX5_numberOf_0 rfl rfl ?_
    refine tw_ifnonnullN dX5_numberOf_1 ?_
    refine tw_iconst (v := -1) dX5_numberOf_4 (by decide) ?_
    refine tw_goto 12 dX5_numberOf_5 (by decide) ?_
    exact tw_iret dX5_numberOf_12 rfl (Or.inl ⟨_, rfl, rfl, hp.n.symm⟩)
  | some q =>
    refine tw_of (by decide +kernel) (Nat.le_of_ble_eq_true rfl) ?_
    show tw_W d mX5_numberOf _ 0 [(0, .ref q)] [] h 0 0
    have sp0 := tw_sp.rf hw
    have kq := ok q rfl
    obtain ⟨i, hi, ei, bi⟩ := hp.s
    refine tw_aload_n 0 dX5_numberOf_0 rfl rfl ?_
    refine tw_ifnonnull 8 dX5_numberOf_1 (by decide) ?_
    refine tw_aload_n 0 dX5_numberOf_8 rfl rfl ?_
    obtain ⟨e1, f2, n_3, r_4, c_5, go_6, so_7, v_8, rd_9, rf_10, t_11, rfl, k12, k13, k14, k15, k16, k17, k18, k19, k20⟩ := sp0.1 q 2 kq (by decide)
    obtain ⟨j21, ow22, fn9, fr9, fc9, fg9, fs9, q23, q24, q25, q26⟩ := k20
    obtain rfl : i = j21 := by have z := ow22.b bi; omega
    subst fn9 fr9 fc9 fg9 fs9
    refine tw_getN (v := .int (nI i)) rfl in_4 0 dX5_numberOf_9 w_502 rfl (by decide) f2 rfl ?_
    exact tw_iret dX5_numberOf_12 rfl (Or.inl ⟨_, rfl, rfl, ei.symm⟩)

/-- grams' worth -/
def tw_wo (G Sv M : Int32) : Int32 := nI (tw_DN Sv + tw_DN G * tw_DN M / 10)
def tw_hC (g : tw_G) (a : Nat) : Nat → Int32
  | 0 => g.1 (768 + 32 * a + 1)
  | 1 => g.1 (768 + 32 * a + 2)
  | 2 => g.1 (768 + 32 * a + 0)
  | 3 => g.1 (768 + 32 * a + 8 + 0)
  | 4 => g.1 (768 + 32 * a + 8 + 1)
  | 5 => tw_wo (g.1 (768 + 32 * a + 8 + 0)) (g.1 (768 + 32 * a + 8 + 1)) (g.1 0)
  | 6 => tw_isum (fun j => if g.1 (1152 + 8 * j + 2) = 0 ∧ g.1 (1152 + 8 * j + 3) = nI a then 1 else 0) (g.2 8)
  | _ + 7 => tw_isum (fun j => if g.1 (1152 + 8 * j + 2) = 0 ∧ g.1 (1152 + 8 * j + 4) = nI a then 1 else 0) (g.2 8)
/-- the class's purses and vaults are numbers, the market too -/
def tw_CW (g : tw_G) : Prop := tw_CV g ∧ (∀ j, j < g.2 7 → ∀ k, k < 2 → g.1 (768 + 32 * j + 8 + k) = nI (tw_DN (g.1 (768 + 32 * j + 8 + k))) ∧ tw_DN (g.1 (768 + 32 * j + 8 + k)) ≤ 59000000) ∧ g.1 0 = nI (tw_DN (g.1 0)) ∧ tw_DN (g.1 0) ≤ 200
set_option maxHeartbeats 4000000 in
set_option maxRecDepth 100000 in
theorem c4_X5_houseFact (d : tw_D) (g : tw_G) (τ : tw_K) (h : tw_H) (hw : tw_wt d g τ h)  (x : Nat) (kx : τ x = 11) (a : Nat) (ka : τ a = 3) (ja : Nat) (hja : ja < g.2 7) (hba : g.2 (4096 + a) = 768 + 32 * ja) (w : Nat) (hw9 : w ≤ 7) (he : tw_CW g) : tw_Ct d mX5_houseFact 0 0 [.ref x, .ref a, .int (nI w)] h (tw_qi (fun r h1 => h1 = h ∧ r = tw_hC g ja w) tw_nx) := by
  refine tw_of (by decide +kernel) (Nat.le_of_ble_eq_true rfl) ?_
  show tw_W d mX5_houseFact _ 0 [(0, .ref x), (1, .ref a), (2, .int (nI w))] [] h 0 0
  have sp0 := tw_sp.rf hw
  have b9 := tw_b678 hw kx
  refine tw_iload_n 2 dX5_houseFact_0 rfl rfl ?_
  by_cases cs0 : ((nI w)).toInt < 0 ∨ 6 < ((nI w)).toInt
  · refine tw_tabOut 99 dX5_houseFact_1 cs0 (by decide) ?_
    refine tw_aload_n 0 dX5_houseFact_99 rfl rfl ?_
    refine tw_aload_n 1 dX5_houseFact_100 rfl rfl ?_
    obtain ⟨e4, f5, td_6, ca_7, ha_8, da_9, c1_10, c2_11, c3_12, c4_13, rfl, k14, k15, k16, k17, k18, k19, k20, k21, k22, k23, k24, k25, k26, k27, k28, k29, k30⟩ := sp0.1 x 11 kx (by decide)
    refine tw_bi (tw_callV (M := mX5_houseFact) (pc := 101) okX5_unpaidDebtsTo dX5_houseFact_101 w_343 rfl f5 [.ref a] [] rfl rfl ⟨by decide, by decide⟩ (Nat.le_of_ble_eq_true rfl) (c4_X5_unpaidDebtsTo d g τ h sp0.1 x kx a ka ja hja hba) 0 0 (Nat.le_of_ble_eq_true rfl) (Nat.le_of_ble_eq_true rfl)) (fun r3 h2 q1 => ?_) (fun E h1 q => q.elim)
    obtain ⟨q1e, q1v⟩ := q1
    rw [q1e]
    exact tw_iret dX5_houseFact_104 rfl (Or.inl ⟨_, rfl, rfl, by rw [show w = 7 from (by have z := tw_io (w := w) (lo := 0) (hi := 6) (by omega) cs0; omega)]; exact q1v⟩)
  · have csl : ¬ ((nI w)).toInt < 0 := fun q => cs0 (Or.inl q)
    have csh : ¬ 6 < ((nI w)).toInt := fun q => cs0 (Or.inr q)
    rcases (show ((nI w)).toInt = 0 ∨ ((nI w)).toInt = 1 ∨ ((nI w)).toInt = 2 ∨ ((nI w)).toInt = 3 ∨ ((nI w)).toInt = 4 ∨ ((nI w)).toInt = 5 ∨ ((nI w)).toInt = 6 by omega) with cs1 | cs1 | cs1 | cs1 | cs1 | cs1 | cs1
    · refine tw_tabIn (off := 43) 44 dX5_houseFact_1 csl csh (by rw [cs1]; rfl) (by decide) ?_
      refine tw_aload_n 1 dX5_houseFact_44 rfl rfl ?_
      obtain ⟨e31, f32, n_33, ar_34, p_35, pl_36, go_37, rfl, k38, k39, k40, k41⟩ := sp0.1 a 3 ka (by decide)
      obtain ⟨j42, ow43, fn9, fa9, pc44, pc45, lp46⟩ := k41
      obtain rfl : ja = j42 := by have z := ow43.b hba; omega
      subst fn9 fa9
      refine tw_getN (v := va_rf pl_36) rfl in_6 2 dX5_houseFact_45 w_641 rfl (by decide) f32 rfl ?_
      refine tw_bi (tw_callS (M := mX5_houseFact) (pc := 48) okX5_numberOf dX5_houseFact_48 w_336 [va_rf pl_36] [] rfl rfl ⟨by decide, by decide⟩ (Nat.le_of_ble_eq_true rfl) (c4_X5_numberOf d g τ h sp0.1 pl_36 _ pc44 k39) 0 0 (Nat.le_of_ble_eq_true rfl) (Nat.le_of_ble_eq_true rfl)) (fun r49 h48 q47 => ?_) (fun E h1 q => q.elim)
      obtain ⟨q47e, q47v⟩ := q47
      rw [q47e]
      exact tw_iret dX5_houseFact_51 rfl (Or.inl ⟨_, rfl, rfl, by rw [show w = 0 from tw_ic (w := w) (j := 0) (by omega) cs1]; exact q47v⟩)
    · refine tw_tabIn (off := 51) 52 dX5_houseFact_1 csl csh (by rw [cs1]; rfl) (by decide) ?_
      refine tw_aload_n 1 dX5_houseFact_52 rfl rfl ?_
      obtain ⟨e50, f51, n_52, ar_53, p_54, pl_55, go_56, rfl, k57, k58, k59, k60⟩ := sp0.1 a 3 ka (by decide)
      obtain ⟨j61, ow62, fn9, fa9, pc63, pc64, lp65⟩ := k60
      obtain rfl : ja = j61 := by have z := ow62.b hba; omega
      subst fn9 fa9
      refine tw_getN (v := va_rf go_56) rfl in_6 3 dX5_houseFact_53 w_643 rfl (by decide) f51 rfl ?_
      refine tw_bi (tw_callS (M := mX5_houseFact) (pc := 56) okX5_numberOf dX5_houseFact_56 w_336 [va_rf go_56] [] rfl rfl ⟨by decide, by decide⟩ (Nat.le_of_ble_eq_true rfl) (c4_X5_numberOf d g τ h sp0.1 go_56 _ pc64 k59) 0 0 (Nat.le_of_ble_eq_true rfl) (Nat.le_of_ble_eq_true rfl)) (fun r68 h67 q66 => ?_) (fun E h1 q => q.elim)
      obtain ⟨q66e, q66v⟩ := q66
      rw [q66e]
      exact tw_iret dX5_houseFact_59 rfl (Or.inl ⟨_, rfl, rfl, by rw [show w = 1 from tw_ic (w := w) (j := 1) (by omega) cs1]; exact q66v⟩)
    · refine tw_tabIn (off := 59) 60 dX5_houseFact_1 csl csh (by rw [cs1]; rfl) (by decide) ?_
      refine tw_aload_n 1 dX5_houseFact_60 rfl rfl ?_
      obtain ⟨e69, f70, n_71, ar_72, p_73, pl_74, go_75, rfl, k76, k77, k78, k79⟩ := sp0.1 a 3 ka (by decide)
      obtain ⟨j80, ow81, fn9, fa9, pc82, pc83, lp84⟩ := k79
      obtain rfl : ja = j80 := by have z := ow81.b hba; omega
      subst fn9 fa9
      refine tw_getN (v := .int (g.1 (768 + 32 * ja + 0))) rfl in_6 4 dX5_houseFact_61 w_645 rfl (by decide) f70 rfl ?_
      exact tw_iret dX5_houseFact_64 rfl (Or.inl ⟨_, rfl, rfl, by rw [show w = 2 from tw_ic (w := w) (j := 2) (by omega) cs1]; exact rfl⟩)
    · refine tw_tabIn (off := 64) 65 dX5_houseFact_1 csl csh (by rw [cs1]; rfl) (by decide) ?_
      refine tw_aload_n 1 dX5_houseFact_65 rfl rfl ?_
      obtain ⟨e85, f86, n_87, ar_88, p_89, pl_90, go_91, rfl, k92, k93, k94, k95⟩ := sp0.1 a 3 ka (by decide)
      obtain ⟨j96, ow97, fn9, fa9, pc98, pc99, lp100⟩ := k95
      obtain rfl : ja = j96 := by have z := ow97.b hba; omega
      subst fn9 fa9
      refine tw_getN (v := .ref p_89) rfl in_6 1 dX5_houseFact_66 w_639 rfl (by decide) f86 rfl ?_
      obtain ⟨e101, f102, a_103, b_104, rfl, k105⟩ := sp0.1 p_89 1 k92 (by decide)
      obtain ⟨b106, ow107, fa9, fb9⟩ := k105
      obtain rfl : (768 + 32 * ja + 8) = b106 := (ow107.b lp100).symm
      subst fa9 fb9
      refine tw_getN (v := .int (g.1 ((768 + 32 * ja + 8) + 0))) rfl in_7 0 dX5_houseFact_69 w_132 rfl (by decide) f102 rfl ?_
      exact tw_iret dX5_houseFact_72 rfl (Or.inl ⟨_, rfl, rfl, by rw [show w = 3 from tw_ic (w := w) (j := 3) (by omega) cs1]; exact rfl⟩)
    · refine tw_tabIn (off := 72) 73 dX5_houseFact_1 csl csh (by rw [cs1]; rfl) (by decide) ?_
      refine tw_aload_n 1 dX5_houseFact_73 rfl rfl ?_
      obtain ⟨e108, f109, n_110, ar_111, p_112, pl_113, go_114, rfl, k115, k116, k117, k118⟩ := sp0.1 a 3 ka (by decide)
      obtain ⟨j119, ow120, fn9, fa9, pc121, pc122, lp123⟩ := k118
      obtain rfl : ja = j119 := by have z := ow120.b hba; omega
      subst fn9 fa9
      refine tw_getN (v := .ref p_112) rfl in_6 1 dX5_houseFact_74 w_639 rfl (by decide) f109 rfl ?_
      obtain ⟨e124, f125, a_126, b_127, rfl, k128⟩ := sp0.1 p_112 1 k115 (by decide)
      obtain ⟨b129, ow130, fa9, fb9⟩ := k128
      obtain rfl : (768 + 32 * ja + 8) = b129 := (ow130.b lp123).symm
      subst fa9 fb9
      refine tw_getN (v := .int (g.1 ((768 + 32 * ja + 8) + 1))) rfl in_7 1 dX5_houseFact_77 w_134 rfl (by decide) f125 rfl ?_
      exact tw_iret dX5_houseFact_80 rfl (Or.inl ⟨_, rfl, rfl, by rw [show w = 4 from tw_ic (w := w) (j := 4) (by omega) cs1]; exact rfl⟩)
    · refine tw_tabIn (off := 80) 81 dX5_houseFact_1 csl csh (by rw [cs1]; rfl) (by decide) ?_
      refine tw_aload_n 1 dX5_houseFact_81 rfl rfl ?_
      obtain ⟨e131, f132, n_133, ar_134, p_135, pl_136, go_137, rfl, k138, k139, k140, k141⟩ := sp0.1 a 3 ka (by decide)
      obtain ⟨j142, ow143, fn9, fa9, pc144, pc145, lp146⟩ := k141
      obtain rfl : ja = j142 := by have z := ow143.b hba; omega
      subst fn9 fa9
      refine tw_getN (v := .ref p_135) rfl in_6 1 dX5_houseFact_82 w_639 rfl (by decide) f132 rfl ?_
      refine tw_aload_n 0 dX5_houseFact_85 rfl rfl ?_
      obtain ⟨e147, f148, td_149, ca_150, ha_151, da_152, c1_153, c2_154, c3_155, c4_156, rfl, k157, k158, k159, k160, k161, k162, k163, k164, k165, k166, k167, k168, k169, k170, k171, k172, k173⟩ := sp0.1 x 11 kx (by decide)
      refine tw_get (v := .int (g.1 0)) rfl in_9 1 dX5_houseFact_86 w_141 rfl (by decide) f148 rfl ?_
      obtain ⟨e177, f178, a_179, b_180, rfl, k181⟩ := sp0.1 p_135 1 k138 (by decide)
      obtain ⟨b182, ow183, fa9, fb9⟩ := k181
      obtain rfl : (768 + 32 * ja + 8) = b182 := (ow183.b lp146).symm
      subst fa9 fb9
      refine tw_bi (tw_callVN (M := mX5_houseFact) (pc := 89) okX3_worth dX5_houseFact_89 w_265 rfl f178 [.int (g.1 0)] [] rfl rfl ⟨by decide, by decide⟩ (Nat.le_of_ble_eq_true rfl) (c4_X3_worth d g τ h sp0.1 p_135 k138 (768 + 32 * ja + 8) lp146 (g.1 0) _ _ _ (he.2.1 ja hja 0 (by decide)).1 (he.2.1 ja hja 1 (by decide)).1 he.2.2.1 (he.2.1 ja hja 0 (by decide)).2 (he.2.1 ja hja 1 (by decide)).2 he.2.2.2) 0 0 (Nat.le_of_ble_eq_true rfl) (Nat.le_of_ble_eq_true rfl)) (fun r176 h175 q174 => ?_) (fun E h1 q => q.elim)
      obtain ⟨q174e, q174v⟩ := q174
      rw [q174e]
      exact tw_iret dX5_houseFact_92 rfl (Or.inl ⟨_, rfl, rfl, by rw [show w = 5 from tw_ic (w := w) (j := 5) (by omega) cs1]; exact q174v⟩)
    · refine tw_tabIn (off := 92) 93 dX5_houseFact_1 csl csh (by rw [cs1]; rfl) (by decide) ?_
      refine tw_aload_n 0 dX5_houseFact_93 rfl rfl ?_
      refine tw_aload_n 1 dX5_houseFact_94 rfl rfl ?_
      obtain ⟨e187, f188, td_189, ca_190, ha_191, da_192, c1_193, c2_194, c3_195, c4_196, rfl, k197, k198, k199, k200, k201, k202, k203, k204, k205, k206, k207, k208, k209, k210, k211, k212, k213⟩ := sp0.1 x 11 kx (by decide)
      refine tw_bi (tw_callV (M := mX5_houseFact) (pc := 95) okX5_unpaidDebtsOf dX5_houseFact_95 w_339 rfl f188 [.ref a] [] rfl rfl ⟨by decide, by decide⟩ (Nat.le_of_ble_eq_true rfl) (c4_X5_unpaidDebtsOf d g τ h sp0.1 x kx a ka ja hja hba) 0 0 (Nat.le_of_ble_eq_true rfl) (Nat.le_of_ble_eq_true rfl)) (fun r186 h185 q184 => ?_) (fun E h1 q => q.elim)
      obtain ⟨q184e, q184v⟩ := q184
      rw [q184e]
      exact tw_iret dX5_houseFact_98 rfl (Or.inl ⟨_, rfl, rfl, by rw [show w = 6 from tw_ic (w := w) (j := 6) (by omega) cs1]; exact q184v⟩)

set_option maxHeartbeats 4000000 in
set_option maxRecDepth 100000 in
theorem c2_X5_ofHouse (d : tw_D) (g : tw_G) (τ : tw_K) (h : tw_H) (hw : tw_wt d g τ h) (x : Nat) (kx : τ x = 11) (a : Int32) (wh : Int32) (he : tw_CW g) : tw_Ct d mX5_ofHouse 20 120 [.ref x, .int a, .int wh] h (tw_qi (fun r9 h1 => r9 = tw_hC g (tw_DN a) (tw_DN wh) ∧ (tw_ix (g.2 7) a) ∧ (0 ≤ wh ∧ wh ≤ 7) ∧ ∃ τ1, tw_sp d τ h (g) τ1 h1) (fun E h1 => (E = tw_IOE ∧ ¬ (tw_ix (g.2 7) a) ∨ E = tw_IAE ∧ tw_ix (g.2 7) a ∧ ¬ (0 ≤ wh ∧ wh ≤ 7)) ∧ ∃ τ1, tw_sp d τ h g τ1 h1)) := by
  refine tw_of (by decide +kernel) (Nat.le_of_ble_eq_true rfl) ?_
  show tw_W d mX5_ofHouse _ 0 [(0, .ref x), (1, .int a), (2, .int wh)] [] h 20 120
  have sp0 := tw_sp.rf hw
  obtain ⟨b96, b97, b98⟩ := tw_b678 hw kx
  refine tw_aload_n 0 dX5_ofHouse_0 rfl rfl ?_
  refine tw_iload_n 1 dX5_ofHouse_1 rfl rfl ?_
  obtain ⟨e4, f5, td_6, ca_7, ha_8, da_9, c1_10, c2_11, c3_12, c4_13, rfl, k14, k15, k16, k17, k18, k19, k20, k21, k22, k23, k24, k25, k26, k27, k28, k29, k30⟩ := sp0.1 x 11 kx (by decide)
  refine tw_br (tw_callV (M := mX5_ofHouse) (pc := 2) okX5_houseAt dX5_ofHouse_2 w_664 rfl f5 [.int a] [] rfl rfl ⟨by decide, by decide⟩ (Nat.le_of_ble_eq_true rfl) (c4_X5_houseAt d g τ h sp0.1 x kx a) 19 114 (Nat.le_of_ble_eq_true rfl) (Nat.le_of_ble_eq_true rfl)) (fun r3 h2 q1 => ?_) (fun E h1 q1 => Or.inr ⟨E, rfl, (Or.inl ⟨q1.1, q1.2.2⟩), τ, by rw [q1.2.1]; exact sp0⟩)
  obtain ⟨q1e, q1k, ja, hja, q1n, q1b⟩ := q1
  rw [q1e]
  subst q1n
  have cDa : tw_DN (nI ja) = ja := nI_clamp (by omega)
  have ixa : tw_ix (g.2 7) (nI ja) := ⟨ja, hja, rfl⟩
  have ix0 := ixa
  refine tw_astore_n [(3, .ref r3), (0, .ref x), (1, .int (nI ja)), (2, .int wh)] dX5_ofHouse_5 rfl (by decide) rfl ?_
  refine tw_iload_n 3 dX5_ofHouse_6 rfl rfl ?_
  refine tw_iconst (v := 0) dX5_ofHouse_7 (by decide) ?_
  refine tw_bipush (v := 7) dX5_ofHouse_8 (by decide) ?_
  refine tw_bv (tw_callS (M := mX5_ofHouse) (pc := 10) okX5_needRange dX5_ofHouse_10 w_399 [.int wh, .int 0, .int 7] [] rfl rfl ⟨by decide, by decide⟩ (Nat.le_of_ble_eq_true rfl) (c2_X5_needRange d g τ h sp0.1 wh 0 7) 18 108 (Nat.le_of_ble_eq_true rfl) (Nat.le_of_ble_eq_true rfl)) (fun h32 q31 => ?_) (fun E h1 q31 => Or.inr ⟨E, rfl, (Or.inr (⟨q31.1, ix0, q31.2.2⟩)), τ, by rw [q31.2.1]; exact sp0⟩)
  obtain ⟨q31e, rlwh⟩ := q31
  rw [q31e]
  have rc0 : 0 ≤ wh ∧ wh ≤ 7 := rlwh
  obtain ⟨w9, -, hw9, ew⟩ := tw_I_rng (a := 0) (b := 7) rlwh.1 rlwh.2 (by decide) (by decide)
  subst ew
  have cDwh : tw_DN (nI w9) = w9 := nI_clamp (by omega)
  refine tw_aload_n 1 dX5_ofHouse_13 rfl rfl ?_
  refine tw_aload_n 0 dX5_ofHouse_14 rfl rfl ?_
  refine tw_iload_n 3 dX5_ofHouse_15 rfl rfl ?_
  refine tw_bi (tw_callV (M := mX5_ofHouse) (pc := 16) okX5_houseFact dX5_ofHouse_16 w_332 rfl f5 [.ref r3, .int (nI w9)] [] rfl rfl ⟨by decide, by decide⟩ (Nat.le_of_ble_eq_true rfl) (c4_X5_houseFact d g τ h sp0.1 x kx r3 q1k ja hja q1b w9 hw9 he) 18 108 (Nat.le_of_ble_eq_true rfl) (Nat.le_of_ble_eq_true rfl)) (fun r36 h35 q34 => ?_) (fun E h1 q => q.elim)
  obtain ⟨q34e, q34v⟩ := q34
  rw [q34e]
  exact tw_iret dX5_ofHouse_19 rfl (Or.inl ⟨_, rfl, (by (try rw [cDa]); (try rw [cDwh]); first | done | exact q34v), ix0, rc0, _, (by (try rw [cDa]); (try rw [cDwh]); first | done | exact sp0)⟩)

def tw_ck (G Du M : Nat) : Int32 := if G * M / 10 < Du then 0 else 1
def tw_dC (g : tw_G) (a : Nat) : Nat → Int32
  | 0 => g.1 (1152 + 8 * a + 3)
  | 1 => g.1 (1152 + 8 * a + 4)
  | 2 => g.1 (1152 + 8 * a + 0)
  | 3 => g.1 (1152 + 8 * a + 1)
  | 4 => if g.1 (1152 + 8 * a + 2) = 0 then nI (tw_sd g a) else 0
  | 5 => if g.1 (1152 + 8 * a + 2) = 0 then 0 else 1
  | _ + 6 => if g.1 (1152 + 8 * a + 2) = 0 ∧ g.1 (768 + 32 * tw_dF g a + 1) ≠ -1 then tw_ck (tw_sg g a 0) (tw_sd g a) (tw_DN (g.1 0)) else -1
def tw_CX (g : tw_G) : Prop := tw_CH g ∧ g.1 0 = nI (tw_DN (g.1 0)) ∧ tw_DN (g.1 0) ≤ 200
def tw_oS (go so : Int32) : Int32 := (if go = 0 then 0 else 1) + (if so = 0 then 0 else 2)
def tw_pn (f : Nat → Int32) : Int32 := 20 * f 0 + 10 * f 1 + 5 * f 2 + 2 * f 3 + f 4
def tw_oC (g : tw_G) (a : Nat) : Nat → Int32
  | 0 => g.1 (160 + 64 * a)
  | 1 => g.1 (160 + 64 * a + 1)
  | 2 => g.1 (160 + 64 * a + 24 + 0)
  | 3 => g.1 (160 + 64 * a + 24 + 1)
  | 4 => tw_oS (g.1 (160 + 64 * a + 2)) (g.1 (160 + 64 * a + 3))
  | 5 => tw_isum (fun j => if g.1 (768 + 32 * j + 1) = nI a then 1 else 0) (g.2 7)
  | 6 => tw_wo (g.1 (160 + 64 * a + 24 + 0)) (g.1 (160 + 64 * a + 24 + 1)) (g.1 0)
  | 7 => tw_pn (fun k => g.1 (160 + 64 * a + 32 + k))
  | _ + 8 => tw_isum (fun j => if g.1 (160 + 64 * j) = g.1 (160 + 64 * a) then 1 else 0) (g.2 6)
def tw_SO (g : tw_G) : Prop := (∀ k, k < 2 → tw_wC g k 0 + tw_wC g k 1 + tw_wC g k 2 + tw_wC g k 3 + tw_wC g k 4 = tw_wC g k 5) ∧ (∀ j, j < g.2 6 → (0 ≤ g.1 (160 + 64 * j + 24 + 0) ∧ 0 ≤ g.1 (160 + 64 * j + 24 + 1)) ∧ ∀ k, k < 5 → 0 ≤ g.1 (160 + 64 * j + 32 + k)) ∧ (∀ j, j < g.2 7 → (0 ≤ g.1 (768 + 32 * j + 8 + 0) ∧ 0 ≤ g.1 (768 + 32 * j + 8 + 1)) ∧ (g.1 (768 + 32 * j + 2) ≠ -1 → nI (g.2 21) < g.1 (768 + 32 * j + 0))) ∧ ∀ a b, a < g.2 6 → b < g.2 6 → g.1 (160 + 64 * a + 8 + b) = g.1 (160 + 64 * b + 8 + a) ∧ g.1 (160 + 64 * a + 16 + b) = g.1 (160 + 64 * b + 16 + a)
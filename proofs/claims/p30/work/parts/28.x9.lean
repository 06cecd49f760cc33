/-! the class's methods over the typed heap. Laid by wip/p5/mkclass.py. -/
/-! the digest -/
def tw_dgx (v : Int64) (x : Int32) : Int64 := v * 31 + x.toInt64
def tw_dgf (f : Nat → Int32) : Nat → Int64 → Int64
  | 0, v => v
  | n + 1, v => tw_dgx (tw_dgf f n v) (f n)
def tw_dgs (F : Nat → Int64 → Int64) : Nat → Int64 → Int64
  | 0, v => v
  | n + 1, v => F n (tw_dgs F n v)
theorem tw_dgf_c {f f' : Nat → Int32} {v : Int64} : ∀ n, (∀ j, j < n → f' j = f j) → tw_dgf f' n v = tw_dgf f n v
  | 0, _ => rfl
  | n + 1, h => by
    show tw_dgx (tw_dgf f' n v) (f' n) = tw_dgx (tw_dgf f n v) (f n)
    rw [tw_dgf_c n (fun j hj => h j (by omega)), h n (by omega)]
theorem tw_dgs_c {F F' : Nat → Int64 → Int64} {v : Int64} : ∀ n, (∀ j u, j < n → F' j u = F j u) → tw_dgs F' n v = tw_dgs F n v
  | 0, _ => rfl
  | n + 1, h => by
    show F' n (tw_dgs F' n v) = F n (tw_dgs F n v)
    rw [tw_dgs_c n (fun j u hj => h j u (by omega)), h n _ (by omega)]
theorem tw_gt5 {k n : Nat} (c : nI k > nI n) (hk : k < 2 ^ 31) (hn : n < 2 ^ 31) : n < k := (nI_ltI hn hk).mp c
def tw_dgK (g : tw_G) (j : Nat) (v : Int64) : Int64 := tw_dgf (fun k => tw_ld (g.2 21) k 10 (3001 - g.2 21) (g.2 21) (tw_DN (g.1 (160 + 64 * j + 24 + k)))) 2 (tw_dgf (fun k => tw_bno (tw_bC g j k 1000 (g.2 6)).1) 2 (tw_dgx (tw_dgf (tw_oC g j) 9 v) (tw_cd (tw_ch (tw_tl g (160 + 64 * j + 32)) 5 37))))
def tw_dg1 (g : tw_G) : Int64 := tw_dgs (fun k => tw_dgf (tw_wC g k) 6) 2 (tw_dgx (tw_dgx 5573 (nI (g.2 21))) (g.1 0))
def tw_dg2 (g : tw_G) : Int64 := tw_dgs (tw_dgK g) (g.2 6) (tw_dg1 g)
def tw_dg3 (g : tw_G) : Int64 := tw_dgs (fun j => tw_dgf (tw_hC g j) 8) (g.2 7) (tw_dg2 g)
def tw_dg4 (g : tw_G) : Int64 := tw_dgs (fun j => tw_dgf (fun w => tw_dC g j (4 + w)) 3) (g.2 8) (tw_dg3 g)
def tw_dgC (g : tw_G) : Int64 := tw_dgx (tw_dgx (tw_dg4 g) (tw_rbi (tw_rC g 1000 (g.2 6)))) 1
theorem tw_rbi_1 {b : Bool} {x : Int32} (e : x = tw_rbi b) (c : x ≠ 0) : tw_rbi b = 1 := by
  cases b
  · exact absurd e c
  · rfl
theorem tw_rbi_0 {b : Bool} {x : Int32} (e : x = tw_rbi b) (c : x = 0) : tw_rbi b = 0 := by rw [← e, c]
set_option maxHeartbeats 4000000 in
set_option maxRecDepth 100000 in
theorem c4_X5_digestWorld (d : tw_D) (g : tw_G) (τ : tw_K) (h : tw_H) (hw : tw_wt d g τ h)  (x : Nat) (kx : τ x = 11) (v : Int64) (k : Nat) (hk : k < 2) : tw_Ct d mX5_digestWorld 0 0 [.ref x, .long v, .int (nI k)] h (tw_ql (fun r h1 => h1 = h ∧ r = tw_dgf (tw_wC g k) 6 v) tw_nx) := by
  refine tw_of (by decide +kernel) (Nat.le_of_ble_eq_true rfl) ?_
  show tw_W d mX5_digestWorld _ 0 [(0, .ref x), (1, .long v), (3, .int (nI k))] [] h 0 0
  have sp0 := tw_sp.rf hw
  have b9 := tw_b678 hw kx
  refine tw_lload_n 1 dX5_digestWorld_0 rfl rfl ?_
  refine tw_lstore [(4, .long v), (0, .ref x), (1, .long v), (3, .int (nI k))] dX5_digestWorld_1 (by decide) rfl ?_
  refine tw_iconst (v := 0) dX5_digestWorld_3 (by decide) ?_
  refine tw_istore [(6, .int 0), (4, .long v), (0, .ref x), (1, .long v), (3, .int (nI k))] dX5_digestWorld_4 (by decide) rfl ?_
  have L5 : ∀ (r3 k2 : Nat) (x1 : Int64) (li9 : x1 = tw_dgf (fun w => tw_wC g k w) k2 v), 6 + 1 ≤ k2 + r3 → k2 ≤ 6 → tw_W d mX5_digestWorld (tw_ql (fun r h1 => h1 = h ∧ r = tw_dgf (tw_wC g k) 6 v) tw_nx) 6 [(0, .ref x), (1, .long v), (3, .int (nI k)), (4, .long x1), (6, .int (nI k2))] [] h 0 0 := by
    intro r3
    induction r3 with
    | zero => intro k2 x1 li9 hk10 hk11; exact absurd hk10 (by omega)
    | succ r3 ih4 =>
      intro k2 x1 li9 hk10 hk11
      refine tw_iload 4 dX5_digestWorld_6 rfl ?_
      refine tw_bipush (v := 6) dX5_digestWorld_8 (by decide) ?_
      refine tw_icmp_ge 36 dX5_digestWorld_10 (by decide) (fun c12 => ?_) (fun c12 => ?_)
      · refine tw_lload 3 dX5_digestWorld_36 rfl ?_
        exact tw_lret dX5_digestWorld_38 rfl (Or.inl ⟨_, rfl, rfl, by have z := tw_kge (N := 6) c12 (by omega); have z2 := li9; rw [show k2 = 6 by omega] at z2; exact z2⟩)
      · have kl13 := tw_klt (N := 6) c12 hk11 (by decide)
        refine tw_lload 3 dX5_digestWorld_13 rfl ?_
        refine tw_ldc2 (v := 31) dX5_digestWorld_15 w_620 ?_
        refine tw_lmul dX5_digestWorld_18 ?_
        refine tw_nml (fun v14 ev14 => ?_)
        refine tw_aload_n 0 dX5_digestWorld_19 rfl rfl ?_
        refine tw_iload_n 2 dX5_digestWorld_20 rfl rfl ?_
        refine tw_iload 4 dX5_digestWorld_21 rfl ?_
        obtain ⟨e15, f16, td_17, ca_18, ha_19, da_20, c1_21, c2_22, c3_23, c4_24, rfl, k25, k26, k27, k28, k29, k30, k31, k32, k33, k34, k35, k36, k37, k38, k39, k40, k41⟩ := sp0.1 x 11 kx (by decide)
        refine tw_bi (tw_callV (M := mX5_digestWorld) (pc := 23) okX5_worldFact dX5_digestWorld_23 w_537 rfl f16 [.int (nI k), .int (nI k2)] [.long v14] rfl rfl ⟨by decide, by decide⟩ (Nat.le_of_ble_eq_true rfl) (c4_X5_worldFact d g τ h sp0.1 x kx k hk k2 (by omega)) 0 0 (Nat.le_of_ble_eq_true rfl) (Nat.le_of_ble_eq_true rfl)) (fun r44 h43 q42 => ?_) (fun E h1 q => q.elim)
        obtain ⟨q42e, q42v⟩ := q42
        rw [q42e]
        refine tw_i2l dX5_digestWorld_26 ?_
        refine tw_nml (fun v45 ev45 => ?_)
        refine tw_ladd dX5_digestWorld_27 ?_
        refine tw_nml (fun v46 ev46 => ?_)
        refine tw_lstore [(4, .long v46), (0, .ref x), (1, .long v), (3, .int (nI k)), (6, .int (nI k2))] dX5_digestWorld_28 (by decide) rfl ?_
        obtain ⟨v47, ev47⟩ : ∃ y : Int32, y = (nI k2) + 1 := ⟨_, rfl⟩
        refine tw_iinc [(6, .int v47), (4, .long v46), (0, .ref x), (1, .long v), (3, .int (nI k))] 4 dX5_digestWorld_30 rfl (by rw [ev47]; rfl) (by decide) rfl ?_
        refine tw_goto 6 dX5_digestWorld_33 (by decide) ?_
        have qv47 := tw_nI3 ev47
        rw [qv47]
        refine tw_lv [2, 3, 4, 1, 0] rfl ?_
        exact ih4 (k2 + 1) v46 (by rw [ev46, ev14, ev45, q42v, li9]; rfl) (by omega) (by omega)
  refine tw_lv [2, 3, 4, 1, 0] rfl ?_
  exact L5 (6 + 1) 0 v (rfl) (by omega) (by omega)

set_option maxHeartbeats 4000000 in
set_option maxRecDepth 100000 in
theorem c4_X5_digestHouse (d : tw_D) (g : tw_G) (τ : tw_K) (h : tw_H) (hw : tw_wt d g τ h)  (x : Nat) (kx : τ x = 11) (v : Int64) (a : Nat) (ka : τ a = 3) (ja : Nat) (hja : ja < g.2 7) (hba : g.2 (4096 + a) = 768 + 32 * ja) (he : tw_CW g) : tw_Ct d mX5_digestHouse 0 0 [.ref x, .long v, .ref a] h (tw_ql (fun r h1 => h1 = h ∧ r = tw_dgf (tw_hC g ja) 8 v) tw_nx) := by
  refine tw_of (by decide +kernel) (Nat.le_of_ble_eq_true rfl) ?_
  show tw_W d mX5_digestHouse _ 0 [(0, .ref x), (1, .long v), (3, .ref a)] [] h 0 0
  have sp0 := tw_sp.rf hw
  have b9 := tw_b678 hw kx
  refine tw_lload_n 1 dX5_digestHouse_0 rfl rfl ?_
  refine tw_lstore [(4, .long v), (0, .ref x), (1, .long v), (3, .ref a)] dX5_digestHouse_1 (by decide) rfl ?_
  refine tw_iconst (v := 0) dX5_digestHouse_3 (by decide) ?_
  refine tw_istore [(6, .int 0), (4, .long v), (0, .ref x), (1, .long v), (3, .ref a)] dX5_digestHouse_4 (by decide) rfl ?_
  have L5 : ∀ (r3 k2 : Nat) (x1 : Int64) (li9 : x1 = tw_dgf (fun w => tw_hC g ja w) k2 v), 8 + 1 ≤ k2 + r3 → k2 ≤ 8 → tw_W d mX5_digestHouse (tw_ql (fun r h1 => h1 = h ∧ r = tw_dgf (tw_hC g ja) 8 v) tw_nx) 6 [(0, .ref x), (1, .long v), (3, .ref a), (4, .long x1), (6, .int (nI k2))] [] h 0 0 := by
    intro r3
    induction r3 with
    | zero => intro k2 x1 li9 hk10 hk11; exact absurd hk10 (by omega)
    | succ r3 ih4 =>
      intro k2 x1 li9 hk10 hk11
      refine tw_iload 4 dX5_digestHouse_6 rfl ?_
      refine tw_bipush (v := 8) dX5_digestHouse_8 (by decide) ?_
      refine tw_icmp_ge 36 dX5_digestHouse_10 (by decide) (fun c12 => ?_) (fun c12 => ?_)
      · refine tw_lload 3 dX5_digestHouse_36 rfl ?_
        exact tw_lret dX5_digestHouse_38 rfl (Or.inl ⟨_, rfl, rfl, by have z := tw_kge (N := 8) c12 (by omega); have z2 := li9; rw [show k2 = 8 by omega] at z2; exact z2⟩)
      · have kl13 := tw_klt (N := 8) c12 hk11 (by decide)
        refine tw_lload 3 dX5_digestHouse_13 rfl ?_
        refine tw_ldc2 (v := 31) dX5_digestHouse_15 w_620 ?_
        refine tw_lmul dX5_digestHouse_18 ?_
        refine tw_nml (fun v14 ev14 => ?_)
        refine tw_aload_n 0 dX5_digestHouse_19 rfl rfl ?_
        refine tw_aload_n 2 dX5_digestHouse_20 rfl rfl ?_
        refine tw_iload 4 dX5_digestHouse_21 rfl ?_
        obtain ⟨e15, f16, td_17, ca_18, ha_19, da_20, c1_21, c2_22, c3_23, c4_24, rfl, k25, k26, k27, k28, k29, k30, k31, k32, k33, k34, k35, k36, k37, k38, k39, k40, k41⟩ := sp0.1 x 11 kx (by decide)
        refine tw_bi (tw_callV (M := mX5_digestHouse) (pc := 23) okX5_houseFact dX5_digestHouse_23 w_658 rfl f16 [.ref a, .int (nI k2)] [.long v14] rfl rfl ⟨by decide, by decide⟩ (Nat.le_of_ble_eq_true rfl) (c4_X5_houseFact d g τ h sp0.1 x kx a ka ja hja hba k2 (by omega) he) 0 0 (Nat.le_of_ble_eq_true rfl) (Nat.le_of_ble_eq_true rfl)) (fun r44 h43 q42 => ?_) (fun E h1 q => q.elim)
        obtain ⟨q42e, q42v⟩ := q42
        rw [q42e]
        refine tw_i2l dX5_digestHouse_26 ?_
        refine tw_nml (fun v45 ev45 => ?_)
        refine tw_ladd dX5_digestHouse_27 ?_
        refine tw_nml (fun v46 ev46 => ?_)
        refine tw_lstore [(4, .long v46), (0, .ref x), (1, .long v), (3, .ref a), (6, .int (nI k2))] dX5_digestHouse_28 (by decide) rfl ?_
        obtain ⟨v47, ev47⟩ : ∃ y : Int32, y = (nI k2) + 1 := ⟨_, rfl⟩
        refine tw_iinc [(6, .int v47), (4, .long v46), (0, .ref x), (1, .long v), (3, .ref a)] 4 dX5_digestHouse_30 rfl (by rw [ev47]; rfl) (by decide) rfl ?_
        refine tw_goto 6 dX5_digestHouse_33 (by decide) ?_
        have qv47 := tw_nI3 ev47
        rw [qv47]
        refine tw_lv [2, 3, 4, 1, 0] rfl ?_
        exact ih4 (k2 + 1) v46 (by rw [ev46, ev14, ev45, q42v, li9]; rfl) (by omega) (by omega)
  refine tw_lv [2, 3, 4, 1, 0] rfl ?_
  exact L5 (8 + 1) 0 v (rfl) (by omega) (by omega)

set_option maxHeartbeats 4000000 in
set_option maxRecDepth 100000 in
theorem c4_X5_digestDebt (d : tw_D) (g : tw_G) (τ : tw_K) (h : tw_H) (hw : tw_wt d g τ h)  (x : Nat) (kx : τ x = 11) (v : Int64) (a : Nat) (ka : τ a = 4) (ja : Nat) (hja : ja < g.2 8) (hba : g.2 (4096 + a) = 1152 + 8 * ja) (he : tw_CX g) : tw_Ct d mX5_digestDebt 0 0 [.ref x, .long v, .ref a] h (tw_ql (fun r h1 => h1 = h ∧ r = tw_dgf (fun w => tw_dC g ja (4 + w)) 3 v) tw_nx) := by
  refine tw_of (by decide +kernel) (Nat.le_of_ble_eq_true rfl) ?_
  show tw_W d mX5_digestDebt _ 0 [(0, .ref x), (1, .long v), (3, .ref a)] [] h 0 0
  have sp0 := tw_sp.rf hw
  have b9 := tw_b678 hw kx
  refine tw_lload_n 1 dX5_digestDebt_0 rfl rfl ?_
  refine tw_lstore [(4, .long v), (0, .ref x), (1, .long v), (3, .ref a)] dX5_digestDebt_1 (by decide) rfl ?_
  refine tw_iconst (v := 4) dX5_digestDebt_3 (by decide) ?_
  refine tw_istore [(6, .int 4), (4, .long v), (0, .ref x), (1, .long v), (3, .ref a)] dX5_digestDebt_4 (by decide) rfl ?_
  have L5 : ∀ (r3 k2 : Nat) (x1 : Int64) (li9 : 4 ≤ k2 ∧ x1 = tw_dgf (fun w => tw_dC g ja (4 + w)) (k2 - 4) v), 7 + 1 ≤ k2 + r3 → k2 ≤ 7 → tw_W d mX5_digestDebt (tw_ql (fun r h1 => h1 = h ∧ r = tw_dgf (fun w => tw_dC g ja (4 + w)) 3 v) tw_nx) 6 [(0, .ref x), (1, .long v), (3, .ref a), (4, .long x1), (6, .int (nI k2))] [] h 0 0 := by
    intro r3
    induction r3 with
    | zero => intro k2 x1 li9 hk10 hk11; exact absurd hk10 (by omega)
    | succ r3 ih4 =>
      intro k2 x1 li9 hk10 hk11
      refine tw_iload 4 dX5_digestDebt_6 rfl ?_
      refine tw_bipush (v := 7) dX5_digestDebt_8 (by decide) ?_
      refine tw_icmp_ge 36 dX5_digestDebt_10 (by decide) (fun c12 => ?_) (fun c12 => ?_)
      · refine tw_lload 3 dX5_digestDebt_36 rfl ?_
        exact tw_lret dX5_digestDebt_38 rfl (Or.inl ⟨_, rfl, rfl, by have z := tw_kge (N := 7) c12 (by omega); have z2 := li9; rw [show k2 = 7 by omega] at z2; have z3 := z2.2; exact z3⟩)
      · have kl13 := tw_klt (N := 7) c12 hk11 (by decide)
        refine tw_lload 3 dX5_digestDebt_13 rfl ?_
        refine tw_ldc2 (v := 31) dX5_digestDebt_15 w_620 ?_
        refine tw_lmul dX5_digestDebt_18 ?_
        refine tw_nml (fun v14 ev14 => ?_)
        refine tw_aload_n 0 dX5_digestDebt_19 rfl rfl ?_
        refine tw_aload_n 2 dX5_digestDebt_20 rfl rfl ?_
        refine tw_iload 4 dX5_digestDebt_21 rfl ?_
        obtain ⟨e15, f16, td_17, ca_18, ha_19, da_20, c1_21, c2_22, c3_23, c4_24, rfl, k25, k26, k27, k28, k29, k30, k31, k32, k33, k34, k35, k36, k37, k38, k39, k40, k41⟩ := sp0.1 x 11 kx (by decide)
        refine tw_bi (tw_callV (M := mX5_digestDebt) (pc := 23) okX5_debtFact dX5_digestDebt_23 w_521 rfl f16 [.ref a, .int (nI k2)] [.long v14] rfl rfl ⟨by decide, by decide⟩ (Nat.le_of_ble_eq_true rfl) (c4_X5_debtFact d g τ h sp0.1 x kx a ka ja hja hba k2 (by omega) he) 0 0 (Nat.le_of_ble_eq_true rfl) (Nat.le_of_ble_eq_true rfl)) (fun r44 h43 q42 => ?_) (fun E h1 q => q.elim)
        obtain ⟨q42e, q42v⟩ := q42
        rw [q42e]
        refine tw_i2l dX5_digestDebt_26 ?_
        refine tw_nml (fun v45 ev45 => ?_)
        refine tw_ladd dX5_digestDebt_27 ?_
        refine tw_nml (fun v46 ev46 => ?_)
        refine tw_lstore [(4, .long v46), (0, .ref x), (1, .long v), (3, .ref a), (6, .int (nI k2))] dX5_digestDebt_28 (by decide) rfl ?_
        obtain ⟨v47, ev47⟩ : ∃ y : Int32, y = (nI k2) + 1 := ⟨_, rfl⟩
        refine tw_iinc [(6, .int v47), (4, .long v46), (0, .ref x), (1, .long v), (3, .ref a)] 4 dX5_digestDebt_30 rfl (by rw [ev47]; rfl) (by decide) rfl ?_
        refine tw_goto 6 dX5_digestDebt_33 (by decide) ?_
        have qv47 := tw_nI3 ev47
        rw [qv47]
        refine tw_lv [2, 3, 4, 1, 0] rfl ?_
        exact ih4 (k2 + 1) v46 (⟨by omega, by rw [show k2 + 1 - 4 = (k2 - 4) + 1 by omega]; show _ = tw_dgx (tw_dgf (fun w => tw_dC g ja (4 + w)) (k2 - 4) v) (tw_dC g ja (4 + (k2 - 4))); rw [show 4 + (k2 - 4) = k2 by omega, ev46, ev14, ev45, q42v, li9.2]; rfl⟩) (by omega) (by omega)
  refine tw_lv [2, 3, 4, 1, 0] rfl ?_
  exact L5 (7 + 1) 4 v (⟨Nat.le_refl _, rfl⟩) (by omega) (by omega)

set_option maxHeartbeats 4000000 in
set_option maxRecDepth 100000 in
theorem c4_X5_digestCountry (d : tw_D) (g : tw_G) (τ : tw_K) (h : tw_H) (hw : tw_wt d g τ h)  (x : Nat) (kx : τ x = 11) (v : Int64) (a : Nat) (ka : τ a = 2) (ja : Nat) (hja : ja < g.2 6) (hba : g.2 (4096 + a) = 160 + 64 * ja) (he : tw_CW g) (hec : tw_EC g) (htc : tw_TC g) : tw_Ct d mX5_digestCountry 0 0 [.ref x, .long v, .ref a] h (tw_ql (fun r h1 => h1 = h ∧ r = tw_dgK g ja v) tw_nx) := by
  refine tw_of (by decide +kernel) (Nat.le_of_ble_eq_true rfl) ?_
  show tw_W d mX5_digestCountry _ 0 [(0, .ref x), (1, .long v), (3, .ref a)] [] h 0 0
  have sp0 := tw_sp.rf hw
  have b9 := tw_b678 hw kx
  refine tw_lload_n 1 dX5_digestCountry_0 rfl rfl ?_
  refine tw_lstore [(4, .long v), (0, .ref x), (1, .long v), (3, .ref a)] dX5_digestCountry_1 (by decide) rfl ?_
  refine tw_iconst (v := 0) dX5_digestCountry_3 (by decide) ?_
  refine tw_istore [(6, .int 0), (4, .long v), (0, .ref x), (1, .long v), (3, .ref a)] dX5_digestCountry_4 (by decide) rfl ?_
  have L5 : ∀ (r3 k2 : Nat) (x1 : Int64) (li9 : x1 = tw_dgf (fun w => tw_oC g ja w) k2 v), 9 + 1 ≤ k2 + r3 → k2 ≤ 9 → tw_W d mX5_digestCountry (tw_ql (fun r h1 => h1 = h ∧ r = tw_dgK g ja v) tw_nx) 6 [(0, .ref x), (1, .long v), (3, .ref a), (4, .long x1), (6, .int (nI k2))] [] h 0 0 := by
    intro r3
    induction r3 with
    | zero => intro k2 x1 li9 hk10 hk11; exact absurd hk10 (by omega)
    | succ r3 ih4 =>
      intro k2 x1 li9 hk10 hk11
      refine tw_iload 4 dX5_digestCountry_6 rfl ?_
      refine tw_bipush (v := 9) dX5_digestCountry_8 (by decide) ?_
      refine tw_icmp_ge 36 dX5_digestCountry_10 (by decide) (fun c12 => ?_) (fun c12 => ?_)
      · refine tw_lload 3 dX5_digestCountry_36 rfl ?_
        refine tw_ldc2 (v := 31) dX5_digestCountry_38 w_620 ?_
        refine tw_lmul dX5_digestCountry_41 ?_
        refine tw_nml (fun v13 ev13 => ?_)
        refine tw_aload_n 2 dX5_digestCountry_42 rfl rfl ?_
        obtain ⟨e14, f15, n_16, r_17, c_18, go_19, so_20, v_21, rd_22, rf_23, t_24, rfl, k25, k26, k27, k28, k29, k30, k31, k32, k33⟩ := sp0.1 a 2 ka (by decide)
        obtain ⟨j34, ow35, fn9, fr9, fc9, fg9, fs9, q36, q37, q38, q39⟩ := k33
        obtain rfl : ja = j34 := by have z := ow35.b hba; omega
        subst fn9 fr9 fc9 fg9 fs9
        refine tw_getN (v := .ref t_24) rfl in_4 8 dX5_digestCountry_43 w_256 rfl (by decide) f15 rfl ?_
        refine tw_bipush (v := 37) dX5_digestCountry_46 (by decide) ?_
        obtain ⟨e40, f41, m_42, rfl, k43, k44⟩ := sp0.1 t_24 5 k28 (by decide)
        refine tw_bi (tw_callVN (M := mX5_digestCountry) (pc := 48) okX4_fewestFor dX5_digestCountry_48 w_506 rfl f41 [.int 37] [.long v13] rfl rfl ⟨by decide, by decide⟩ (Nat.le_of_ble_eq_true rfl) (c2_X4_fewestFor d g τ h sp0.1 t_24 k28 ja (by omega) q38 37 (by decide) (htc ja hja)) 0 0 (Nat.le_of_ble_eq_true rfl) (Nat.le_of_ble_eq_true rfl)) (fun r47 h46 q45 => ?_) (fun E h1 q => q.elim)
        obtain ⟨q45e, q45v⟩ := q45
        rw [q45e]
        refine tw_i2l dX5_digestCountry_51 ?_
        refine tw_nml (fun v48 ev48 => ?_)
        refine tw_ladd dX5_digestCountry_52 ?_
        refine tw_nml (fun v49 ev49 => ?_)
        refine tw_lstore [(4, .long v49), (0, .ref x), (1, .long v), (3, .ref a), (6, .int (nI k2))] dX5_digestCountry_53 (by decide) rfl ?_
        refine tw_lload 0 dX5_digestCountry_55 rfl ?_
        refine tw_ldc2 (v := 31) dX5_digestCountry_57 w_620 ?_
        refine tw_lmul dX5_digestCountry_60 ?_
        refine tw_nml (fun v50 ev50 => ?_)
        refine tw_aload_n 1 dX5_digestCountry_61 rfl rfl ?_
        refine tw_aload_n 3 dX5_digestCountry_62 rfl rfl ?_
        refine tw_iconst (v := 0) dX5_digestCountry_63 (by decide) ?_
        refine tw_sipush (v := 1000) dX5_digestCountry_64 (by decide) ?_
        obtain ⟨e51, f52, td_53, ca_54, ha_55, da_56, c1_57, c2_58, c3_59, c4_60, rfl, k61, k62, k63, k64, k65, k66, k67, k68, k69, k70, k71, k72, k73, k74, k75, k76, k77⟩ := sp0.1 x 11 kx (by decide)
        refine tw_bi (tw_callV (M := mX5_digestCountry) (pc := 67) okX5_bestOver dX5_digestCountry_67 w_560 rfl f52 [.ref a, .int 0, .int 1000] [.long v50] rfl rfl ⟨by decide, by decide⟩ (Nat.le_of_ble_eq_true rfl) (c3_X5_bestOver d g τ h sp0.1 x kx a ka ja hja hba 0 (by decide) 1000 1000 rfl (by decide) hec) 0 0 (Nat.le_of_ble_eq_true rfl) (Nat.le_of_ble_eq_true rfl)) (fun r80 h79 q78 => ?_) (fun E h1 q => q.elim)
        obtain ⟨q78e, q78v⟩ := q78
        rw [q78e]
        refine tw_i2l dX5_digestCountry_70 ?_
        refine tw_nml (fun v81 ev81 => ?_)
        refine tw_ladd dX5_digestCountry_71 ?_
        refine tw_nml (fun v82 ev82 => ?_)
        refine tw_lstore [(4, .long v82), (0, .ref x), (1, .long v), (3, .ref a), (6, .int (nI k2))] dX5_digestCountry_72 (by decide) rfl ?_
        refine tw_lload 0 dX5_digestCountry_74 rfl ?_
        refine tw_ldc2 (v := 31) dX5_digestCountry_76 w_620 ?_
        refine tw_lmul dX5_digestCountry_79 ?_
        refine tw_nml (fun v83 ev83 => ?_)
        refine tw_aload_n 1 dX5_digestCountry_80 rfl rfl ?_
        refine tw_aload_n 3 dX5_digestCountry_81 rfl rfl ?_
        refine tw_iconst (v := 1) dX5_digestCountry_82 (by decide) ?_
        refine tw_sipush (v := 1000) dX5_digestCountry_83 (by decide) ?_
        refine tw_bi (tw_callV (M := mX5_digestCountry) (pc := 86) okX5_bestOver dX5_digestCountry_86 w_560 rfl f52 [.ref a, .int 1, .int 1000] [.long v83] rfl rfl ⟨by decide, by decide⟩ (Nat.le_of_ble_eq_true rfl) (c3_X5_bestOver d g τ h sp0.1 x kx a ka ja hja hba 1 (by decide) 1000 1000 rfl (by decide) hec) 0 0 (Nat.le_of_ble_eq_true rfl) (Nat.le_of_ble_eq_true rfl)) (fun r86 h85 q84 => ?_) (fun E h1 q => q.elim)
        obtain ⟨q84e, q84v⟩ := q84
        rw [q84e]
        refine tw_i2l dX5_digestCountry_89 ?_
        refine tw_nml (fun v87 ev87 => ?_)
        refine tw_ladd dX5_digestCountry_90 ?_
        refine tw_nml (fun v88 ev88 => ?_)
        refine tw_lstore [(4, .long v88), (0, .ref x), (1, .long v), (3, .ref a), (6, .int (nI k2))] dX5_digestCountry_91 (by decide) rfl ?_
        refine tw_lload 0 dX5_digestCountry_93 rfl ?_
        refine tw_ldc2 (v := 31) dX5_digestCountry_95 w_620 ?_
        refine tw_lmul dX5_digestCountry_98 ?_
        refine tw_nml (fun v89 ev89 => ?_)
        refine tw_aload_n 1 dX5_digestCountry_99 rfl rfl ?_
        refine tw_aload_n 3 dX5_digestCountry_100 rfl rfl ?_
        refine tw_getN (v := .ref v_21) rfl in_4 3 dX5_digestCountry_101 w_250 rfl (by decide) f15 rfl ?_
        refine tw_iconst (v := 0) dX5_digestCountry_104 (by decide) ?_
        refine tw_bipush (v := 10) dX5_digestCountry_105 (by decide) ?_
        obtain ⟨e90, f91, a_92, b_93, rfl, k94⟩ := sp0.1 v_21 1 k25 (by decide)
        obtain ⟨b95, ow96, fa9, fb9⟩ := k94
        obtain rfl : (160 + 64 * ja + 24) = b95 := (ow96.b q39).symm
        subst fa9 fb9
        refine tw_bi (tw_callV (M := mX5_digestCountry) (pc := 107) okX5_firstDayShort dX5_digestCountry_107 w_576 rfl f52 [.ref v_21, .int 0, .int 10] [.long v89] rfl rfl ⟨by decide, by decide⟩ (Nat.le_of_ble_eq_true rfl) (c4_X5_firstDayShort d g τ h sp0.1 x kx v_21 k25 ja (by omega) q39 0 (by decide) 10 (by decide) _ (he.1 ja hja 0 (by decide)).1 (he.1 ja hja 0 (by decide)).2) 0 0 (Nat.le_of_ble_eq_true rfl) (Nat.le_of_ble_eq_true rfl)) (fun r99 h98 q97 => ?_) (fun E h1 q => q.elim)
        obtain ⟨q97e, q97v⟩ := q97
        rw [q97e]
        refine tw_i2l dX5_digestCountry_110 ?_
        refine tw_nml (fun v100 ev100 => ?_)
        refine tw_ladd dX5_digestCountry_111 ?_
        refine tw_nml (fun v101 ev101 => ?_)
        refine tw_lstore [(4, .long v101), (0, .ref x), (1, .long v), (3, .ref a), (6, .int (nI k2))] dX5_digestCountry_112 (by decide) rfl ?_
        refine tw_lload 0 dX5_digestCountry_114 rfl ?_
        refine tw_ldc2 (v := 31) dX5_digestCountry_116 w_620 ?_
        refine tw_lmul dX5_digestCountry_119 ?_
        refine tw_nml (fun v102 ev102 => ?_)
        refine tw_aload_n 1 dX5_digestCountry_120 rfl rfl ?_
        refine tw_aload_n 3 dX5_digestCountry_121 rfl rfl ?_
        refine tw_getN (v := .ref v_21) rfl in_4 3 dX5_digestCountry_122 w_250 rfl (by decide) f15 rfl ?_
        refine tw_iconst (v := 1) dX5_digestCountry_125 (by decide) ?_
        refine tw_bipush (v := 10) dX5_digestCountry_126 (by decide) ?_
        refine tw_bi (tw_callV (M := mX5_digestCountry) (pc := 128) okX5_firstDayShort dX5_digestCountry_128 w_576 rfl f52 [.ref v_21, .int 1, .int 10] [.long v102] rfl rfl ⟨by decide, by decide⟩ (Nat.le_of_ble_eq_true rfl) (c4_X5_firstDayShort d g τ h sp0.1 x kx v_21 k25 ja (by omega) q39 1 (by decide) 10 (by decide) _ (he.1 ja hja 1 (by decide)).1 (he.1 ja hja 1 (by decide)).2) 0 0 (Nat.le_of_ble_eq_true rfl) (Nat.le_of_ble_eq_true rfl)) (fun r105 h104 q103 => ?_) (fun E h1 q => q.elim)
        obtain ⟨q103e, q103v⟩ := q103
        rw [q103e]
        refine tw_i2l dX5_digestCountry_131 ?_
        refine tw_nml (fun v106 ev106 => ?_)
        refine tw_ladd dX5_digestCountry_132 ?_
        refine tw_nml (fun v107 ev107 => ?_)
        refine tw_lstore [(4, .long v107), (0, .ref x), (1, .long v), (3, .ref a), (6, .int (nI k2))] dX5_digestCountry_133 (by decide) rfl ?_
        refine tw_lload 0 dX5_digestCountry_135 rfl ?_
        exact tw_lret dX5_digestCountry_137 rfl (Or.inl ⟨_, rfl, rfl, by have z := tw_kge (N := 9) c12 (by omega); have z2 := li9; rw [show k2 = 9 by omega] at z2; rw [ev107, ev102, ev101, ev89, ev88, ev83, ev82, ev50, ev49, ev13, ev48, ev81, ev87, ev100, ev106, q45v, q78v, q84v, q97v, q103v, z2]; rfl⟩)
      · have kl108 := tw_klt (N := 9) c12 hk11 (by decide)
        refine tw_lload 3 dX5_digestCountry_13 rfl ?_
        refine tw_ldc2 (v := 31) dX5_digestCountry_15 w_620 ?_
        refine tw_lmul dX5_digestCountry_18 ?_
        refine tw_nml (fun v109 ev109 => ?_)
        refine tw_aload_n 0 dX5_digestCountry_19 rfl rfl ?_
        refine tw_aload_n 2 dX5_digestCountry_20 rfl rfl ?_
        refine tw_iload 4 dX5_digestCountry_21 rfl ?_
        obtain ⟨e110, f111, td_112, ca_113, ha_114, da_115, c1_116, c2_117, c3_118, c4_119, rfl, k120, k121, k122, k123, k124, k125, k126, k127, k128, k129, k130, k131, k132, k133, k134, k135, k136⟩ := sp0.1 x 11 kx (by decide)
        refine tw_bi (tw_callV (M := mX5_digestCountry) (pc := 23) okX5_countryFact dX5_digestCountry_23 w_629 rfl f111 [.ref a, .int (nI k2)] [.long v109] rfl rfl ⟨by decide, by decide⟩ (Nat.le_of_ble_eq_true rfl) (c4_X5_countryFact d g τ h sp0.1 x kx a ka ja hja hba k2 (by omega) he) 0 0 (Nat.le_of_ble_eq_true rfl) (Nat.le_of_ble_eq_true rfl)) (fun r139 h138 q137 => ?_) (fun E h1 q => q.elim)
        obtain ⟨q137e, q137v⟩ := q137
        rw [q137e]
        refine tw_i2l dX5_digestCountry_26 ?_
        refine tw_nml (fun v140 ev140 => ?_)
        refine tw_ladd dX5_digestCountry_27 ?_
        refine tw_nml (fun v141 ev141 => ?_)
        refine tw_lstore [(4, .long v141), (0, .ref x), (1, .long v), (3, .ref a), (6, .int (nI k2))] dX5_digestCountry_28 (by decide) rfl ?_
        obtain ⟨v142, ev142⟩ : ∃ y : Int32, y = (nI k2) + 1 := ⟨_, rfl⟩
        refine tw_iinc [(6, .int v142), (4, .long v141), (0, .ref x), (1, .long v), (3, .ref a)] 4 dX5_digestCountry_30 rfl (by rw [ev142]; rfl) (by decide) rfl ?_
        refine tw_goto 6 dX5_digestCountry_33 (by decide) ?_
        have qv142 := tw_nI3 ev142
        rw [qv142]
        refine tw_lv [2, 3, 4, 1, 0] rfl ?_
        exact ih4 (k2 + 1) v141 (by rw [ev141, ev109, ev140, q137v, li9]; rfl) (by omega) (by omega)
  refine tw_lv [2, 3, 4, 1, 0] rfl ?_
  exact L5 (9 + 1) 0 v (rfl) (by omega) (by omega)

set_option maxHeartbeats 4000000 in
set_option maxRecDepth 100000 in
theorem c4_X5_digest (d : tw_D) (g : tw_G) (τ : tw_K) (h : tw_H) (hw : tw_wt d g τ h)  (x : Nat) (kx : τ x = 11) (hcw : tw_CW g) (hcx : tw_CX g) (hec : tw_EC g) (htc : tw_TC g) (hso : tw_SO g) : tw_Ct d mX5_digest 0 0 [.ref x] h (tw_ql (fun r h1 => h1 = h ∧ r = tw_dgC g) tw_nx) := by
  refine tw_of (by decide +kernel) (Nat.le_of_ble_eq_true rfl) ?_
  show tw_W d mX5_digest _ 0 [(0, .ref x)] [] h 0 0
  have sp0 := tw_sp.rf hw
  have b9 := tw_b678 hw kx
  refine tw_ldc2 (v := 5573) dX5_digest_0 w_619 ?_
  refine tw_lstore_n [(1, .long 5573), (0, .ref x)] dX5_digest_3 rfl (by decide) rfl ?_
  refine tw_lload_n 0 dX5_digest_4 rfl rfl ?_
  refine tw_ldc2 (v := 31) dX5_digest_5 w_620 ?_
  refine tw_lmul dX5_digest_8 ?_
  refine tw_nml (fun v1 ev1 => ?_)
  refine tw_aload_n 1 dX5_digest_9 rfl rfl ?_
  obtain ⟨e2, f3, td_4, ca_5, ha_6, da_7, c1_8, c2_9, c3_10, c4_11, rfl, k12, k13, k14, k15, k16, k17, k18, k19, k20, k21, k22, k23, k24, k25, k26, k27, k28⟩ := sp0.1 x 11 kx (by decide)
  refine tw_get (v := .int td_4) rfl in_9 0 dX5_digest_10 w_95 rfl (by decide) f3 rfl ?_
  refine tw_i2l dX5_digest_13 ?_
  refine tw_nml (fun v29 ev29 => ?_)
  refine tw_ladd dX5_digest_14 ?_
  refine tw_nml (fun v30 ev30 => ?_)
  refine tw_lstore_n [(1, .long v30), (0, .ref x)] dX5_digest_15 rfl (by decide) rfl ?_
  refine tw_lload_n 0 dX5_digest_16 rfl rfl ?_
  refine tw_ldc2 (v := 31) dX5_digest_17 w_620 ?_
  refine tw_lmul dX5_digest_20 ?_
  refine tw_nml (fun v31 ev31 => ?_)
  refine tw_aload_n 1 dX5_digest_21 rfl rfl ?_
  refine tw_get (v := .int (g.1 0)) rfl in_9 1 dX5_digest_22 w_96 rfl (by decide) f3 rfl ?_
  refine tw_i2l dX5_digest_25 ?_
  refine tw_nml (fun v32 ev32 => ?_)
  refine tw_ladd dX5_digest_26 ?_
  refine tw_nml (fun v33 ev33 => ?_)
  refine tw_lstore_n [(1, .long v33), (0, .ref x)] dX5_digest_27 rfl (by decide) rfl ?_
  refine tw_aload_n 1 dX5_digest_28 rfl rfl ?_
  refine tw_lload_n 0 dX5_digest_29 rfl rfl ?_
  refine tw_iconst (v := 0) dX5_digest_30 (by decide) ?_
  refine tw_bl (tw_callV (M := mX5_digest) (pc := 31) okX5_digestWorld dX5_digest_31 w_621 rfl f3 [.long v33, .int 0] [] rfl rfl ⟨by decide, by decide⟩ (Nat.le_of_ble_eq_true rfl) (c4_X5_digestWorld d g τ h sp0.1 x kx v33 0 (by decide)) 0 0 (Nat.le_of_ble_eq_true rfl) (Nat.le_of_ble_eq_true rfl)) (fun r36 h35 q34 => ?_) (fun E h1 q => q.elim)
  obtain ⟨q34e, q34v⟩ := q34
  rw [q34e]
  refine tw_lstore_n [(1, .long r36), (0, .ref x)] dX5_digest_34 rfl (by decide) rfl ?_
  refine tw_aload_n 1 dX5_digest_35 rfl rfl ?_
  refine tw_lload_n 0 dX5_digest_36 rfl rfl ?_
  refine tw_iconst (v := 1) dX5_digest_37 (by decide) ?_
  refine tw_bl (tw_callV (M := mX5_digest) (pc := 38) okX5_digestWorld dX5_digest_38 w_621 rfl f3 [.long r36, .int 1] [] rfl rfl ⟨by decide, by decide⟩ (Nat.le_of_ble_eq_true rfl) (c4_X5_digestWorld d g τ h sp0.1 x kx r36 1 (by decide)) 0 0 (Nat.le_of_ble_eq_true rfl) (Nat.le_of_ble_eq_true rfl)) (fun r39 h38 q37 => ?_) (fun E h1 q => q.elim)
  obtain ⟨q37e, q37v⟩ := q37
  rw [q37e]
  refine tw_lstore_n [(1, .long r39), (0, .ref x)] dX5_digest_41 rfl (by decide) rfl ?_
  refine tw_aload_n 1 dX5_digest_42 rfl rfl ?_
  refine tw_get (v := .ref ca_5) rfl in_9 2 dX5_digest_43 w_97 rfl (by decide) f3 rfl ?_
  refine tw_astore_n [(3, .ref ca_5), (1, .long r39), (0, .ref x)] dX5_digest_46 rfl (by decide) rfl ?_
  refine tw_aload_n 0 dX5_digest_47 rfl rfl ?_
  obtain ⟨e40, f41, F42, rfl, k43, pn44, pb45, px46, pf47⟩ := sp0.1 ca_5 8 k12 (by decide)
  refine tw_alen (v := nI 4) 4 rfl dX5_digest_48 f41 rfl ?_
  refine tw_istore [(4, .int (nI 4)), (3, .ref ca_5), (1, .long r39), (0, .ref x)] dX5_digest_49 (by decide) rfl ?_
  refine tw_iconst (v := 0) dX5_digest_51 (by decide) ?_
  refine tw_istore [(5, .int 0), (4, .int (nI 4)), (3, .ref ca_5), (1, .long r39), (0, .ref x)] dX5_digest_52 (by decide) rfl ?_
  have L52 : ∀ (r50 k49 : Nat) (x48 : Int64) (li56 : x48 = tw_dgs (tw_dgK g) (min k49 (g.2 6)) (tw_dg1 g)), 4 + 1 ≤ k49 + r50 → k49 ≤ 4 → tw_W d mX5_digest (tw_ql (fun r h1 => h1 = h ∧ r = tw_dgC g) tw_nx) 54 [(0, .ref x), (1, .long x48), (3, .ref ca_5), (4, .int (nI 4)), (5, .int (nI k49))] [] h 0 0 := by
    intro r50
    induction r50 with
    | zero => intro k49 x48 li56 hk57 hk58; exact absurd hk57 (by omega)
    | succ r50 ih51 =>
      intro k49 x48 li56 hk57 hk58
      refine tw_iload 4 dX5_digest_54 rfl ?_
      refine tw_iload 3 dX5_digest_56 rfl ?_
      refine tw_icmp_ge 86 dX5_digest_58 (by decide) (fun c59 => ?_) (fun c59 => ?_)
      · refine tw_aload_n 0 dX5_digest_86 rfl rfl ?_
        refine tw_get (v := .ref ha_6) rfl in_9 4 dX5_digest_87 w_99 rfl (by decide) f3 rfl ?_
        refine tw_astore_n [(3, .ref ha_6), (0, .ref x), (1, .long x48), (4, .int (nI 4)), (5, .int (nI k49))] dX5_digest_90 rfl (by decide) rfl ?_
        refine tw_aload_n 0 dX5_digest_91 rfl rfl ?_
        obtain ⟨e60, f61, F62, rfl, k63, pn64, pb65, px66, pf67⟩ := sp0.1 ha_6 9 k13 (by decide)
        refine tw_alen (v := nI 6) 5 rfl dX5_digest_92 f61 rfl ?_
        refine tw_istore [(4, .int (nI 6)), (3, .ref ha_6), (0, .ref x), (1, .long x48), (5, .int (nI k49))] dX5_digest_93 (by decide) rfl ?_
        refine tw_iconst (v := 0) dX5_digest_95 (by decide) ?_
        refine tw_istore [(5, .int 0), (4, .int (nI 6)), (3, .ref ha_6), (0, .ref x), (1, .long x48)] dX5_digest_96 (by decide) rfl ?_
        have L72 : ∀ (r70 k69 : Nat) (x68 : Int64) (li76 : x68 = tw_dgs (fun j => tw_dgf (tw_hC g j) 8) (min k69 (g.2 7)) (tw_dg2 g)), 6 + 1 ≤ k69 + r70 → k69 ≤ 6 → tw_W d mX5_digest (tw_ql (fun r h1 => h1 = h ∧ r = tw_dgC g) tw_nx) 98 [(0, .ref x), (1, .long x68), (3, .ref ha_6), (4, .int (nI 6)), (5, .int (nI k69))] [] h 0 0 := by
          intro r70
          induction r70 with
          | zero => intro k69 x68 li76 hk77 hk78; exact absurd hk77 (by omega)
          | succ r70 ih71 =>
            intro k69 x68 li76 hk77 hk78
            refine tw_iload 4 dX5_digest_98 rfl ?_
            refine tw_iload 3 dX5_digest_100 rfl ?_
            refine tw_icmp_ge 130 dX5_digest_102 (by decide) (fun c79 => ?_) (fun c79 => ?_)
            · refine tw_aload_n 0 dX5_digest_130 rfl rfl ?_
              refine tw_get (v := .ref da_7) rfl in_9 6 dX5_digest_131 w_101 rfl (by decide) f3 rfl ?_
              refine tw_astore_n [(3, .ref da_7), (0, .ref x), (1, .long x68), (4, .int (nI 6)), (5, .int (nI k69))] dX5_digest_134 rfl (by decide) rfl ?_
              refine tw_aload_n 0 dX5_digest_135 rfl rfl ?_
              obtain ⟨e80, f81, F82, rfl, k83, pn84, pb85, px86, pf87⟩ := sp0.1 da_7 10 k14 (by decide)
              refine tw_alen (v := nI 10) 6 rfl dX5_digest_136 f81 rfl ?_
              refine tw_istore [(4, .int (nI 10)), (3, .ref da_7), (0, .ref x), (1, .long x68), (5, .int (nI k69))] dX5_digest_137 (by decide) rfl ?_
              refine tw_iconst (v := 0) dX5_digest_139 (by decide) ?_
              refine tw_istore [(5, .int 0), (4, .int (nI 10)), (3, .ref da_7), (0, .ref x), (1, .long x68)] dX5_digest_140 (by decide) rfl ?_
              have L92 : ∀ (r90 k89 : Nat) (x88 : Int64) (li96 : x88 = tw_dgs (fun j => tw_dgf (fun w => tw_dC g j (4 + w)) 3) (min k89 (g.2 8)) (tw_dg3 g)), 10 + 1 ≤ k89 + r90 → k89 ≤ 10 → tw_W d mX5_digest (tw_ql (fun r h1 => h1 = h ∧ r = tw_dgC g) tw_nx) 142 [(0, .ref x), (1, .long x88), (3, .ref da_7), (4, .int (nI 10)), (5, .int (nI k89))] [] h 0 0 := by
                intro r90
                induction r90 with
                | zero => intro k89 x88 li96 hk97 hk98; exact absurd hk97 (by omega)
                | succ r90 ih91 =>
                  intro k89 x88 li96 hk97 hk98
                  refine tw_iload 4 dX5_digest_142 rfl ?_
                  refine tw_iload 3 dX5_digest_144 rfl ?_
                  refine tw_icmp_ge 174 dX5_digest_146 (by decide) (fun c99 => ?_) (fun c99 => ?_)
                  · refine tw_lload_n 1 dX5_digest_174 rfl rfl ?_
                    refine tw_ldc2 (v := 31) dX5_digest_175 w_620 ?_
                    refine tw_lmul dX5_digest_178 ?_
                    refine tw_nml (fun v100 ev100 => ?_)
                    refine tw_aload_n 0 dX5_digest_179 rfl rfl ?_
                    refine tw_sipush (v := 1000) dX5_digest_180 (by decide) ?_
                    refine tw_bi (tw_callV (M := mX5_digest) (pc := 183) okX5_isRest dX5_digest_183 w_568 rfl f3 [.int 1000] [.long v100] rfl rfl ⟨by decide, by decide⟩ (Nat.le_of_ble_eq_true rfl) (c3_X5_isRest d g τ h sp0.1 x kx 1000 1000 rfl (by decide) hec) 0 0 (Nat.le_of_ble_eq_true rfl) (Nat.le_of_ble_eq_true rfl)) (fun r103 h102 q101 => ?_) (fun E h1 q => q.elim)
                    obtain ⟨q101e, q101v⟩ := q101
                    rw [q101e]
                    refine tw_if_eq 193 dX5_digest_186 (by decide) (fun c104 => ?_) (fun c104 => ?_)
                    · have rb9 := tw_rbi_0 q101v c104
                      refine tw_iconst (v := 0) dX5_digest_193 (by decide) ?_
                      refine tw_i2l dX5_digest_194 ?_
                      refine tw_nml (fun v105 ev105 => ?_)
                      refine tw_ladd dX5_digest_195 ?_
                      refine tw_nml (fun v106 ev106 => ?_)
                      refine tw_lstore_n [(1, .long v106), (0, .ref x), (3, .ref da_7), (4, .int (nI 10)), (5, .int (nI k89))] dX5_digest_196 rfl (by decide) rfl ?_
                      refine tw_lload_n 0 dX5_digest_197 rfl rfl ?_
                      refine tw_ldc2 (v := 31) dX5_digest_198 w_620 ?_
                      refine tw_lmul dX5_digest_201 ?_
                      refine tw_nml (fun v107 ev107 => ?_)
                      refine tw_aload_n 1 dX5_digest_202 rfl rfl ?_
                      refine tw_bi (tw_callV (M := mX5_digest) (pc := 203) okX5_isSound dX5_digest_203 w_677 rfl f3 [] [.long v107] rfl rfl ⟨by decide, by decide⟩ (Nat.le_of_ble_eq_true rfl) (c4_X5_isSound d g τ h sp0.1 x kx hso) 0 0 (Nat.le_of_ble_eq_true rfl) (Nat.le_of_ble_eq_true rfl)) (fun r110 h109 q108 => ?_) (fun E h1 q => q.elim)
                      obtain ⟨q108e, q108v⟩ := q108
                      rw [q108e, q108v]
                      refine tw_if_eq 213 dX5_digest_206 (by decide) (fun c111 => absurd c111 (by decide)) (fun _ => ?_)
                      refine tw_iconst (v := 1) dX5_digest_209 (by decide) ?_
                      refine tw_goto 214 dX5_digest_210 (by decide) ?_
                      refine tw_i2l dX5_digest_214 ?_
                      refine tw_nml (fun v112 ev112 => ?_)
                      refine tw_ladd dX5_digest_215 ?_
                      refine tw_nml (fun v113 ev113 => ?_)
                      refine tw_lstore_n [(1, .long v113), (0, .ref x), (3, .ref da_7), (4, .int (nI 10)), (5, .int (nI k89))] dX5_digest_216 rfl (by decide) rfl ?_
                      refine tw_lload_n 0 dX5_digest_217 rfl rfl ?_
                      exact tw_lret dX5_digest_218 rfl (Or.inl ⟨_, rfl, rfl, by have z := tw_kge (N := 10) c99 (by omega); have z2 := li96; rw [show min k89 (g.2 8) = g.2 8 by omega] at z2; show _ = tw_dgx (tw_dgx (tw_dg4 g) _) 1; rw [rb9, show tw_dg4 g = _ from z2.symm, ev113, ev107, ev106, ev100, ev105, ev112]; rfl⟩)
                    · have rb9 := tw_rbi_1 q101v c104
                      refine tw_iconst (v := 1) dX5_digest_189 (by decide) ?_
                      refine tw_goto 194 dX5_digest_190 (by decide) ?_
                      refine tw_i2l dX5_digest_194 ?_
                      refine tw_nml (fun v114 ev114 => ?_)
                      refine tw_ladd dX5_digest_195 ?_
                      refine tw_nml (fun v115 ev115 => ?_)
                      refine tw_lstore_n [(1, .long v115), (0, .ref x), (3, .ref da_7), (4, .int (nI 10)), (5, .int (nI k89))] dX5_digest_196 rfl (by decide) rfl ?_
                      refine tw_lload_n 0 dX5_digest_197 rfl rfl ?_
                      refine tw_ldc2 (v := 31) dX5_digest_198 w_620 ?_
                      refine tw_lmul dX5_digest_201 ?_
                      refine tw_nml (fun v116 ev116 => ?_)
                      refine tw_aload_n 1 dX5_digest_202 rfl rfl ?_
                      refine tw_bi (tw_callV (M := mX5_digest) (pc := 203) okX5_isSound dX5_digest_203 w_677 rfl f3 [] [.long v116] rfl rfl ⟨by decide, by decide⟩ (Nat.le_of_ble_eq_true rfl) (c4_X5_isSound d g τ h sp0.1 x kx hso) 0 0 (Nat.le_of_ble_eq_true rfl) (Nat.le_of_ble_eq_true rfl)) (fun r119 h118 q117 => ?_) (fun E h1 q => q.elim)
                      obtain ⟨q117e, q117v⟩ := q117
                      rw [q117e, q117v]
                      refine tw_if_eq 213 dX5_digest_206 (by decide) (fun c120 => absurd c120 (by decide)) (fun _ => ?_)
                      refine tw_iconst (v := 1) dX5_digest_209 (by decide) ?_
                      refine tw_goto 214 dX5_digest_210 (by decide) ?_
                      refine tw_i2l dX5_digest_214 ?_
                      refine tw_nml (fun v121 ev121 => ?_)
                      refine tw_ladd dX5_digest_215 ?_
                      refine tw_nml (fun v122 ev122 => ?_)
                      refine tw_lstore_n [(1, .long v122), (0, .ref x), (3, .ref da_7), (4, .int (nI 10)), (5, .int (nI k89))] dX5_digest_216 rfl (by decide) rfl ?_
                      refine tw_lload_n 0 dX5_digest_217 rfl rfl ?_
                      exact tw_lret dX5_digest_218 rfl (Or.inl ⟨_, rfl, rfl, by have z := tw_kge (N := 10) c99 (by omega); have z2 := li96; rw [show min k89 (g.2 8) = g.2 8 by omega] at z2; show _ = tw_dgx (tw_dgx (tw_dg4 g) _) 1; rw [rb9, show tw_dg4 g = _ from z2.symm, ev122, ev116, ev115, ev100, ev114, ev121]; rfl⟩)
                  · have kl123 := tw_klt (N := 10) c99 hk98 (by decide)
                    refine tw_aload_n 2 dX5_digest_149 rfl rfl ?_
                    refine tw_iload 4 dX5_digest_150 rfl ?_
                    cases k124 : F82 ((nI k89)).toNatClampNeg with
                    | none =>
                      refine tw_aald (v := .null) 6 rfl rfl dX5_digest_152 f81 (vp_in_nI (by omega) (by decide)) (by rw [k124]; rfl) ?_
                      refine tw_astoreN [(6, .null), (0, .ref x), (1, .long x88), (3, .ref da_7), (4, .int (nI 10)), (5, .int (nI k89))] dX5_digest_153 (by decide) rfl ?_
                      have hv9 := k124
                      rw [nI_clamp (by omega)] at hv9
                      have pn9 := pn84 k89 (by omega)
                      have hk9 : g.2 8 ≤ k89 := pn9.mp hv9
                      have mn9 : min (k89 + 1) (g.2 8) = min k89 (g.2 8) := by omega
                      refine tw_aloadN 0 dX5_digest_155 rfl ?_
                      refine tw_ifnullN 168 dX5_digest_157 (by decide) ?_
                      obtain ⟨v126, ev126⟩ : ∃ y : Int32, y = (nI k89) + 1 := ⟨_, rfl⟩
                      refine tw_iinc [(5, .int v126), (6, .null), (0, .ref x), (1, .long x88), (3, .ref da_7), (4, .int (nI 10))] 5 dX5_digest_168 rfl (by rw [ev126]; rfl) (by decide) rfl ?_
                      refine tw_goto 142 dX5_digest_171 (by decide) ?_
                      have qv126 := tw_nI3 ev126
                      rw [qv126]
                      refine tw_lv [2, 3, 4, 5, 0] rfl ?_
                      exact ih91 (k89 + 1) x88 (by rw [mn9]; exact li96) (by omega) (by omega)
                    | some q125 =>
                      have k127 := k83 _ _ k124
                      refine tw_aald (v := .ref q125) 6 rfl rfl dX5_digest_152 f81 (vp_in_nI (by omega) (by decide)) (by rw [k124]; rfl) ?_
                      refine tw_astore [(6, .ref q125), (0, .ref x), (1, .long x88), (3, .ref da_7), (4, .int (nI 10)), (5, .int (nI k89))] dX5_digest_153 (by decide) rfl ?_
                      have hv9 := k124
                      rw [nI_clamp (by omega)] at hv9
                      have pn9 := pn84 k89 (by omega)
                      have hk9 : k89 < g.2 8 := by rcases Nat.lt_or_ge k89 (g.2 8) with z | z; exact z; rw [pn9.mpr z] at hv9; cases hv9
                      have bq9 : g.2 (4096 + q125) = 1152 + 8 * k89 := pf87 _ _ hv9
                      have m09 : min k89 (g.2 8) = k89 := by omega
                      have m19 : min (k89 + 1) (g.2 8) = k89 + 1 := by omega
                      have hl9 := li96
                      rw [m09] at hl9
                      refine tw_aload 0 dX5_digest_155 rfl ?_
                      refine tw_ifnull dX5_digest_157 ?_
                      refine tw_aload_n 1 dX5_digest_160 rfl rfl ?_
                      refine tw_lload_n 2 dX5_digest_161 rfl rfl ?_
                      refine tw_aload 0 dX5_digest_162 rfl ?_
                      refine tw_bl (tw_callV (M := mX5_digest) (pc := 164) okX5_digestDebt dX5_digest_164 w_673 rfl f3 [.long x88, .ref q125] [] rfl rfl ⟨by decide, by decide⟩ (Nat.le_of_ble_eq_true rfl) (c4_X5_digestDebt d g τ h sp0.1 x kx x88 q125 k127 k89 hk9 bq9 hcx) 0 0 (Nat.le_of_ble_eq_true rfl) (Nat.le_of_ble_eq_true rfl)) (fun r130 h129 q128 => ?_) (fun E h1 q => q.elim)
                      obtain ⟨q128e, q128v⟩ := q128
                      rw [q128e]
                      refine tw_lstore_n [(1, .long r130), (6, .ref q125), (0, .ref x), (3, .ref da_7), (4, .int (nI 10)), (5, .int (nI k89))] dX5_digest_167 rfl (by decide) rfl ?_
                      obtain ⟨v131, ev131⟩ : ∃ y : Int32, y = (nI k89) + 1 := ⟨_, rfl⟩
                      refine tw_iinc [(5, .int v131), (1, .long r130), (6, .ref q125), (0, .ref x), (3, .ref da_7), (4, .int (nI 10))] 5 dX5_digest_168 rfl (by rw [ev131]; rfl) (by decide) rfl ?_
                      refine tw_goto 142 dX5_digest_171 (by decide) ?_
                      have qv131 := tw_nI3 ev131
                      rw [qv131]
                      refine tw_lv [3, 1, 4, 5, 0] rfl ?_
                      exact ih91 (k89 + 1) r130 (by rw [m19]; show r130 = tw_dgf (fun w => tw_dC g k89 (4 + w)) 3 (tw_dgs (fun j => tw_dgf (fun w => tw_dC g j (4 + w)) 3) k89 (tw_dg3 g)); rw [q128v, hl9]) (by omega) (by omega)
              refine tw_lv [3, 4, 2, 1, 0] rfl ?_
              exact L92 (10 + 1) 0 x68 (by rw [Nat.zero_min]; have z := tw_kge (N := 6) c79 (by omega); have z2 := li76; rw [show min k69 (g.2 7) = g.2 7 by omega] at z2; exact z2) (by omega) (by omega)
            · have kl132 := tw_klt (N := 6) c79 hk78 (by decide)
              refine tw_aload_n 2 dX5_digest_105 rfl rfl ?_
              refine tw_iload 4 dX5_digest_106 rfl ?_
              cases k133 : F62 ((nI k69)).toNatClampNeg with
              | none =>
                refine tw_aald (v := .null) 5 rfl rfl dX5_digest_108 f61 (vp_in_nI (by omega) (by decide)) (by rw [k133]; rfl) ?_
                refine tw_astoreN [(6, .null), (0, .ref x), (1, .long x68), (3, .ref ha_6), (4, .int (nI 6)), (5, .int (nI k69))] dX5_digest_109 (by decide) rfl ?_
                have hv9 := k133
                rw [nI_clamp (by omega)] at hv9
                have pn9 := pn64 k69 (by omega)
                have hk9 : g.2 7 ≤ k69 := pn9.mp hv9
                have mn9 : min (k69 + 1) (g.2 7) = min k69 (g.2 7) := by omega
                refine tw_aloadN 0 dX5_digest_111 rfl ?_
                refine tw_ifnullN 124 dX5_digest_113 (by decide) ?_
                obtain ⟨v135, ev135⟩ : ∃ y : Int32, y = (nI k69) + 1 := ⟨_, rfl⟩
                refine tw_iinc [(5, .int v135), (6, .null), (0, .ref x), (1, .long x68), (3, .ref ha_6), (4, .int (nI 6))] 5 dX5_digest_124 rfl (by rw [ev135]; rfl) (by decide) rfl ?_
                refine tw_goto 98 dX5_digest_127 (by decide) ?_
                have qv135 := tw_nI3 ev135
                rw [qv135]
                refine tw_lv [2, 3, 4, 5, 0] rfl ?_
                exact ih71 (k69 + 1) x68 (by rw [mn9]; exact li76) (by omega) (by omega)
              | some q134 =>
                have k136 := k63 _ _ k133
                refine tw_aald (v := .ref q134) 5 rfl rfl dX5_digest_108 f61 (vp_in_nI (by omega) (by decide)) (by rw [k133]; rfl) ?_
                refine tw_astore [(6, .ref q134), (0, .ref x), (1, .long x68), (3, .ref ha_6), (4, .int (nI 6)), (5, .int (nI k69))] dX5_digest_109 (by decide) rfl ?_
                have hv9 := k133
                rw [nI_clamp (by omega)] at hv9
                have pn9 := pn64 k69 (by omega)
                have hk9 : k69 < g.2 7 := by rcases Nat.lt_or_ge k69 (g.2 7) with z | z; exact z; rw [pn9.mpr z] at hv9; cases hv9
                have bq9 : g.2 (4096 + q134) = 768 + 32 * k69 := pf67 _ _ hv9
                have m09 : min k69 (g.2 7) = k69 := by omega
                have m19 : min (k69 + 1) (g.2 7) = k69 + 1 := by omega
                have hl9 := li76
                rw [m09] at hl9
                refine tw_aload 0 dX5_digest_111 rfl ?_
                refine tw_ifnull dX5_digest_113 ?_
                refine tw_aload_n 1 dX5_digest_116 rfl rfl ?_
                refine tw_lload_n 2 dX5_digest_117 rfl rfl ?_
                refine tw_aload 0 dX5_digest_118 rfl ?_
                refine tw_bl (tw_callV (M := mX5_digest) (pc := 120) okX5_digestHouse dX5_digest_120 w_654 rfl f3 [.long x68, .ref q134] [] rfl rfl ⟨by decide, by decide⟩ (Nat.le_of_ble_eq_true rfl) (c4_X5_digestHouse d g τ h sp0.1 x kx x68 q134 k136 k69 hk9 bq9 hcw) 0 0 (Nat.le_of_ble_eq_true rfl) (Nat.le_of_ble_eq_true rfl)) (fun r139 h138 q137 => ?_) (fun E h1 q => q.elim)
                obtain ⟨q137e, q137v⟩ := q137
                rw [q137e]
                refine tw_lstore_n [(1, .long r139), (6, .ref q134), (0, .ref x), (3, .ref ha_6), (4, .int (nI 6)), (5, .int (nI k69))] dX5_digest_123 rfl (by decide) rfl ?_
                obtain ⟨v140, ev140⟩ : ∃ y : Int32, y = (nI k69) + 1 := ⟨_, rfl⟩
                refine tw_iinc [(5, .int v140), (1, .long r139), (6, .ref q134), (0, .ref x), (3, .ref ha_6), (4, .int (nI 6))] 5 dX5_digest_124 rfl (by rw [ev140]; rfl) (by decide) rfl ?_
                refine tw_goto 98 dX5_digest_127 (by decide) ?_
                have qv140 := tw_nI3 ev140
                rw [qv140]
                refine tw_lv [3, 1, 4, 5, 0] rfl ?_
                exact ih71 (k69 + 1) r139 (by rw [m19]; show r139 = tw_dgf (tw_hC g k69) 8 (tw_dgs (fun j => tw_dgf (tw_hC g j) 8) k69 (tw_dg2 g)); rw [q137v, hl9]) (by omega) (by omega)
        refine tw_lv [3, 4, 2, 1, 0] rfl ?_
        exact L72 (6 + 1) 0 x48 (by rw [Nat.zero_min]; have z := tw_kge (N := 4) c59 (by omega); have z2 := li56; rw [show min k49 (g.2 6) = g.2 6 by omega] at z2; exact z2) (by omega) (by omega)
      · have kl141 := tw_klt (N := 4) c59 hk58 (by decide)
        refine tw_aload_n 2 dX5_digest_61 rfl rfl ?_
        refine tw_iload 4 dX5_digest_62 rfl ?_
        cases k142 : F42 ((nI k49)).toNatClampNeg with
        | none =>
          refine tw_aald (v := .null) 4 rfl rfl dX5_digest_64 f41 (vp_in_nI (by omega) (by decide)) (by rw [k142]; rfl) ?_
          refine tw_astoreN [(6, .null), (0, .ref x), (1, .long x48), (3, .ref ca_5), (4, .int (nI 4)), (5, .int (nI k49))] dX5_digest_65 (by decide) rfl ?_
          have hv9 := k142
          rw [nI_clamp (by omega)] at hv9
          have pn9 := pn44 k49 (by omega)
          have hk9 : g.2 6 ≤ k49 := pn9.mp hv9
          have mn9 : min (k49 + 1) (g.2 6) = min k49 (g.2 6) := by omega
          refine tw_aloadN 0 dX5_digest_67 rfl ?_
          refine tw_ifnullN 80 dX5_digest_69 (by decide) ?_
          obtain ⟨v144, ev144⟩ : ∃ y : Int32, y = (nI k49) + 1 := ⟨_, rfl⟩
          refine tw_iinc [(5, .int v144), (6, .null), (0, .ref x), (1, .long x48), (3, .ref ca_5), (4, .int (nI 4))] 5 dX5_digest_80 rfl (by rw [ev144]; rfl) (by decide) rfl ?_
          refine tw_goto 54 dX5_digest_83 (by decide) ?_
          have qv144 := tw_nI3 ev144
          rw [qv144]
          refine tw_lv [2, 3, 4, 5, 0] rfl ?_
          exact ih51 (k49 + 1) x48 (by rw [mn9]; exact li56) (by omega) (by omega)
        | some q143 =>
          have k145 := k43 _ _ k142
          refine tw_aald (v := .ref q143) 4 rfl rfl dX5_digest_64 f41 (vp_in_nI (by omega) (by decide)) (by rw [k142]; rfl) ?_
          refine tw_astore [(6, .ref q143), (0, .ref x), (1, .long x48), (3, .ref ca_5), (4, .int (nI 4)), (5, .int (nI k49))] dX5_digest_65 (by decide) rfl ?_
          have hv9 := k142
          rw [nI_clamp (by omega)] at hv9
          have pn9 := pn44 k49 (by omega)
          have hk9 : k49 < g.2 6 := by rcases Nat.lt_or_ge k49 (g.2 6) with z | z; exact z; rw [pn9.mpr z] at hv9; cases hv9
          have bq9 : g.2 (4096 + q143) = 160 + 64 * k49 := pf47 _ _ hv9
          have m09 : min k49 (g.2 6) = k49 := by omega
          have m19 : min (k49 + 1) (g.2 6) = k49 + 1 := by omega
          have hl9 := li56
          rw [m09] at hl9
          refine tw_aload 0 dX5_digest_67 rfl ?_
          refine tw_ifnull dX5_digest_69 ?_
          refine tw_aload_n 1 dX5_digest_72 rfl rfl ?_
          refine tw_lload_n 2 dX5_digest_73 rfl rfl ?_
          refine tw_aload 0 dX5_digest_74 rfl ?_
          refine tw_bl (tw_callV (M := mX5_digest) (pc := 76) okX5_digestCountry dX5_digest_76 w_625 rfl f3 [.long x48, .ref q143] [] rfl rfl ⟨by decide, by decide⟩ (Nat.le_of_ble_eq_true rfl) (c4_X5_digestCountry d g τ h sp0.1 x kx x48 q143 k145 k49 hk9 bq9 hcw hec htc) 0 0 (Nat.le_of_ble_eq_true rfl) (Nat.le_of_ble_eq_true rfl)) (fun r148 h147 q146 => ?_) (fun E h1 q => q.elim)
          obtain ⟨q146e, q146v⟩ := q146
          rw [q146e]
          refine tw_lstore_n [(1, .long r148), (6, .ref q143), (0, .ref x), (3, .ref ca_5), (4, .int (nI 4)), (5, .int (nI k49))] dX5_digest_79 rfl (by decide) rfl ?_
          obtain ⟨v149, ev149⟩ : ∃ y : Int32, y = (nI k49) + 1 := ⟨_, rfl⟩
          refine tw_iinc [(5, .int v149), (1, .long r148), (6, .ref q143), (0, .ref x), (3, .ref ca_5), (4, .int (nI 4))] 5 dX5_digest_80 rfl (by rw [ev149]; rfl) (by decide) rfl ?_
          refine tw_goto 54 dX5_digest_83 (by decide) ?_
          have qv149 := tw_nI3 ev149
          rw [qv149]
          refine tw_lv [3, 1, 4, 5, 0] rfl ?_
          exact ih51 (k49 + 1) r148 (by rw [m19]; show r148 = tw_dgK g k49 (tw_dgs (tw_dgK g) k49 (tw_dg1 g)); rw [q146v, hl9]) (by omega) (by omega)
  refine tw_lv [4, 3, 2, 1, 0] rfl ?_
  exact L52 (4 + 1) 0 r39 (by rw [Nat.zero_min, q37v, q34v, ev33, ev31, ev30, ev1, ev29, ev32, k23]; rfl) (by omega) (by omega)

/-! the digest, the reference -/
def tw_dmK (g : tw_G) (j : Nat) (v : Int64) : Int64 := tw_dgf (fun k => tw_ld (g.2 22) k 10 (3001 - g.2 22) (g.2 22) (tw_DN (g.1 (480 + 64 * j + 16 + k)))) 2 (tw_dgf (fun k => tw_bno (tw_bM g j k 1000 (g.2 3)).1) 2 (tw_dgx (tw_dgf (tw_oM g j) 9 v) (tw_cd (tw_ch (tw_tl g (480 + 64 * j + 24)) 5 37))))
def tw_dm0 (g : tw_G) : Int64 := tw_dgx (tw_dgx 5573 (nI (g.2 22))) (g.1 1)
def tw_dm1 (g : tw_G) : Int64 := tw_dgs (fun k => tw_dgf (fun w => nI (tw_wM g k w)) 6) 2 (tw_dm0 g)
def tw_dm2 (g : tw_G) : Int64 := tw_dgs (tw_dmK g) (g.2 3) (tw_dm1 g)
def tw_dm3 (g : tw_G) : Int64 := tw_dgs (fun j => tw_dgf (tw_hM g j) 8) (g.2 4) (tw_dm2 g)
def tw_dm4 (g : tw_G) : Int64 := tw_dgs (fun j => tw_dgf (fun w => tw_dM g j (4 + w)) 3) (g.2 5) (tw_dm3 g)
def tw_dgM (g : tw_G) : Int64 := tw_dgx (tw_dgx (tw_dm4 g) (tw_rbi (tw_rM g 1000 (g.2 3)))) 1
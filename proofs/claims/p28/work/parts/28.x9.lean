/-! the class's methods over the typed heap. Laid by wip/p5/mkclass.py. -/
/-! the digest -/
def tw_dgx (v : Int64) (x : Int32) : Int64 := v * 31 + x.toInt64
def tw_dgf (f : Nat → Int32) : Nat → Int64 → Int64
  | 0, v => v
  | n + 1, v => tw_dgx (tw_dgf f n v) (f n)
def tw_dgs (F : Nat → Int64 → Int64) : Nat → Int64 → Int64
  | 0, v => v
  | n + 1, v => F n (tw_dgs F n v)
theorem tw_dgf_s (f : Nat → Int32) (n : Nat) (v : Int64) : tw_dgf f (n + 1) v = tw_dgx (tw_dgf f n v) (f n) := rfl
theorem tw_dgf_2 (f : Nat → Int32) (v : Int64) : tw_dgf f 2 v = tw_dgx (tw_dgx v (f 0)) (f 1) := rfl
theorem tw_dgs_0 (F : Nat → Int64 → Int64) (v : Int64) : tw_dgs F 0 v = v := rfl
theorem tw_dgs_s (F : Nat → Int64 → Int64) (n : Nat) (v : Int64) : tw_dgs F (n + 1) v = F n (tw_dgs F n v) := rfl
theorem tw_dgf_c {f f' : Nat → Int32} {v : Int64} : ∀ n, (∀ j, j < n → f' j = f j) → tw_dgf f' n v = tw_dgf f n v
  | 0, _ => rfl
  | n + 1, h => by
    show tw_dgx (tw_dgf f' n v) (f' n) = tw_dgx (tw_dgf f n v) (f n)
    rw [tw_dgf_c n (fun j hj => h j (by omega)), h n (by omega)]
theorem tw_dgs_c {F F' : Nat → Int64 → Int64} {v : Int64} : ∀ n, (∀ j u, j < n → F' j u = F j u) → tw_dgs F' n v = tw_dgs F n v
  | 0, _ => rfl
  | n + 1, h => by
    show F' n (tw_dgs F' n v) = F n (tw_dgs F n v)
    rw [tw_dgs_c n (fun j u hj => h j u (by omega)), h n _ (by omega)]
theorem tw_gt5 {k n : Nat} (c : nI k > nI n) (hk : k < 2 ^ 31) (hn : n < 2 ^ 31) : n < k := (nI_ltI hn hk).mp c
def tw_dgK (g : tw_G) (j : Nat) (v : Int64) : Int64 := tw_dgf (fun k => tw_ld (g.2 21) k 10 (3001 - g.2 21) (g.2 21) (tw_DN (g.1 (160 + 64 * j + 24 + k)))) 2 (tw_dgf (fun k => tw_bno (tw_bC g j k 1000 (g.2 6)).1) 2 (tw_dgx (tw_dgf (tw_oC g j) 9 v) (tw_cd (tw_ch (tw_tl g (160 + 64 * j + 32)) 5 37))))
def tw_dg1 (g : tw_G) : Int64 := tw_dgs (fun k => tw_dgf (tw_wC g k) 6) 2 (tw_dgx (tw_dgx 5573 (nI (g.2 21))) (g.1 0))
theorem tw_dg1_e (g : tw_G) : tw_dg1 g = tw_dgf (tw_wC g 1) 6 (tw_dgf (tw_wC g 0) 6 (tw_dgx (tw_dgx 5573 (nI (g.2 21))) (g.1 0))) := rfl
def tw_dg2 (g : tw_G) : Int64 := tw_dgs (tw_dgK g) (g.2 6) (tw_dg1 g)
def tw_dg3 (g : tw_G) : Int64 := tw_dgs (fun j => tw_dgf (tw_hC g j) 8) (g.2 7) (tw_dg2 g)
def tw_dg4 (g : tw_G) : Int64 := tw_dgs (fun j => tw_dgf (fun w => tw_dC g j (4 + w)) 3) (g.2 8) (tw_dg3 g)
def tw_dgC (g : tw_G) : Int64 := tw_dgx (tw_dgx (tw_dg4 g) (tw_rbi (tw_rC g 1000 (g.2 6)))) 1
theorem tw_rbi_1 {b : Bool} {x : Int32} (e : x = tw_rbi b) (c : x ≠ 0) : tw_rbi b = 1 := by
  cases b
  · exact absurd e c
  · rfl
theorem tw_rbi_0 {b : Bool} {x : Int32} (e : x = tw_rbi b) (c : x = 0) : tw_rbi b = 0 := by rw [← e, c]
set_option maxHeartbeats 4000000 in
set_option maxRecDepth 100000 in
theorem c4_X5_digestWorld (d : tw_D) (g : tw_G) (τ : tw_K) (h : tw_H) (hw : tw_wt d g τ h)  (x : Nat) (kx : τ x = 11) (v : Int64) (k : Nat) (hk : k < 2) : tw_Ct d mX5_digestWorld 0 0 [.ref x, .long v, .int (nI k)] h (tw_ql (fun r h1 => h1 = h ∧ r = tw_dgf (tw_wC g k) 6 v) tw_nx) := by
  refine tw_of (by decide +kernel) (Nat.le_of_ble_eq_true rfl) ?_
  show tw_W d mX5_digestWorld _ 0 [(0, .ref x), (1, .long v), (3, .int (nI k))] [] h 0 0
  have sp0 := tw_sp.rf hw
  have b9 := tw_b678 hw kx
  refine tw_lload_n 1 dX5_digestWorld_0 rfl rfl ?_
  refine tw_lstore [(4, .long v), (0, .ref x), (1, .long v), (3, .int (nI k))] dX5_digestWorld_1 (by decide) rfl ?_
  refine tw_iconst (v := 0) dX5_digestWorld_3 (by decide) ?_
  refine tw_istore [(6, .int 0), (4, .long v), (0, .ref x), (1, .long v), (3, .int (nI k))] dX5_digestWorld_4 (by decide) rfl ?_
  have L5 : ∀ (r3 k2 : Nat) (x1 : Int64) (li9 : x1 = tw_dgf (fun w => tw_wC g k w) k2 v), 6 + 1 ≤ k2 + r3 → k2 ≤ 6 → tw_W d mX5_digestWorld (tw_ql (fun r h1 => h1 = h ∧ r = tw_dgf (tw_wC g k) 6 v) tw_nx) 6 [(0, .ref x), (1, .long v), (3, .int (nI k)), (4, .long x1), (6, .int (nI k2))] [] h 0 0 := by
    intro r3
    induction r3 with
    | zero => intro k2 x1 li9 hk10 hk11; exact absurd hk10 (by omega)
    | succ r3 ih4 =>
      intro k2 x1 li9 hk10 hk11
      refine tw_iload 4 dX5_digestWorld_6 rfl ?_
      refine tw_bipush (v := 6) dX5_digestWorld_8 (by decide) ?_
      refine tw_icmp_ge 36 dX5_digestWorld_10 (by decide) (fun c12 => ?_) (fun c12 => ?_)
      · refine tw_lload 3 dX5_digestWorld_36 rfl ?_
        exact tw_lret dX5_digestWorld_38 rfl (Or.inl ⟨_, rfl, rfl, by have z := tw_kge (N := 6) c12 (by omega); have z2 := li9; rw [show k2 = 6 by omega] at z2; exact z2⟩)
      · have kl13 := tw_klt (N := 6) c12 hk11 (by decide)
        refine tw_lload 3 dX5_digestWorld_13 rfl ?_
        refine tw_ldc2 (v := 31) dX5_digestWorld_15 w_240 ?_
        refine tw_lmul dX5_digestWorld_18 ?_
        refine tw_nml (fun v14 ev14 => ?_)
        refine tw_aload_n 0 dX5_digestWorld_19 rfl rfl ?_
        refine tw_iload_n 2 dX5_digestWorld_20 rfl rfl ?_
        refine tw_iload 4 dX5_digestWorld_21 rfl ?_
        obtain ⟨e15, f16, td_17, ca_18, ha_19, da_20, c1_21, c2_22, c3_23, c4_24, rfl, k25, k26, k27, k28, k29, k30, k31, k32, k33, k34, k35, k36, k37, k38, k39, k40, k41⟩ := sp0.1 x 11 kx (by decide)
        refine tw_bi (tw_callV (M := mX5_digestWorld) (pc := 23) okX5_worldFact dX5_digestWorld_23 w_245 rfl f16 [.int (nI k), .int (nI k2)] [.long v14] rfl rfl ⟨by decide, by decide⟩ (Nat.le_of_ble_eq_true rfl) (c4_X5_worldFact d g τ h sp0.1 x kx k hk k2 (by omega)) 0 0 (Nat.le_of_ble_eq_true rfl) (Nat.le_of_ble_eq_true rfl)) (fun r44 h43 q42 => ?_) (fun E h1 q => q.elim)
        obtain ⟨q42e, q42v⟩ := q42
        rw [q42e]
        refine tw_i2l dX5_digestWorld_26 ?_
        refine tw_nml (fun v45 ev45 => ?_)
        refine tw_ladd dX5_digestWorld_27 ?_
        refine tw_nml (fun v46 ev46 => ?_)
        refine tw_lstore [(4, .long v46), (0, .ref x), (1, .long v), (3, .int (nI k)), (6, .int (nI k2))] dX5_digestWorld_28 (by decide) rfl ?_
        obtain ⟨v47, ev47⟩ : ∃ y : Int32, y = (nI k2) + 1 := ⟨_, rfl⟩
        refine tw_iinc [(6, .int v47), (4, .long v46), (0, .ref x), (1, .long v), (3, .int (nI k))] 4 dX5_digestWorld_30 rfl (by rw [ev47]; rfl) (by decide) rfl ?_
        refine tw_goto 6 dX5_digestWorld_33 (by decide) ?_
        have qv47 := tw_nI3 ev47
        rw [qv47]
        refine tw_lv [2, 3, 4, 1, 0] rfl ?_
        exact ih4 (k2 + 1) v46 (by rw [tw_dgf_s, ev46, ev14, ev45, q42v, li9] <;> rfl) (by omega) (by omega)
  refine tw_lv [2, 3, 4, 1, 0] rfl ?_
  exact L5 (6 + 1) 0 v (rfl) (by omega) (by omega)

set_option maxHeartbeats 4000000 in
set_option maxRecDepth 100000 in
theorem c4_X5_digestHouse (d : tw_D) (g : tw_G) (τ : tw_K) (h : tw_H) (hw : tw_wt d g τ h)  (x : Nat) (kx : τ x = 11) (v : Int64) (a : Nat) (ka : τ a = 3) (ja : Nat) (hja : ja < g.2 7) (hba : g.2 (4096 + a) = 768 + 32 * ja) (he : tw_CW g) : tw_Ct d mX5_digestHouse 0 0 [.ref x, .long v, .ref a] h (tw_ql (fun r h1 => h1 = h ∧ r = tw_dgf (tw_hC g ja) 8 v) tw_nx) := by
  refine tw_of (by decide +kernel) (Nat.le_of_ble_eq_true rfl) ?_
  show tw_W d mX5_digestHouse _ 0 [(0, .ref x), (1, .long v), (3, .ref a)] [] h 0 0
  have sp0 := tw_sp.rf hw
  have b9 := tw_b678 hw kx
  refine tw_lload_n 1 dX5_digestHouse_0 rfl rfl ?_
  refine tw_lstore [(4, .long v), (0, .ref x), (1, .long v), (3, .ref a)] dX5_digestHouse_1 (by decide) rfl ?_
  refine tw_iconst (v := 0) dX5_digestHouse_3 (by decide) ?_
  refine tw_istore [(6, .int 0), (4, .long v), (0, .ref x), (1, .long v), (3, .ref a)] dX5_digestHouse_4 (by decide) rfl ?_
  have L5 : ∀ (r3 k2 : Nat) (x1 : Int64) (li9 : x1 = tw_dgf (fun w => tw_hC g ja w) k2 v), 8 + 1 ≤ k2 + r3 → k2 ≤ 8 → tw_W d mX5_digestHouse (tw_ql (fun r h1 => h1 = h ∧ r = tw_dgf (tw_hC g ja) 8 v) tw_nx) 6 [(0, .ref x), (1, .long v), (3, .ref a), (4, .long x1), (6, .int (nI k2))] [] h 0 0 := by
    intro r3
    induction r3 with
    | zero => intro k2 x1 li9 hk10 hk11; exact absurd hk10 (by omega)
    | succ r3 ih4 =>
      intro k2 x1 li9 hk10 hk11
      refine tw_iload 4 dX5_digestHouse_6 rfl ?_
      refine tw_bipush (v := 8) dX5_digestHouse_8 (by decide) ?_
      refine tw_icmp_ge 36 dX5_digestHouse_10 (by decide) (fun c12 => ?_) (fun c12 => ?_)
      · refine tw_lload 3 dX5_digestHouse_36 rfl ?_
        exact tw_lret dX5_digestHouse_38 rfl (Or.inl ⟨_, rfl, rfl, by have z := tw_kge (N := 8) c12 (by omega); have z2 := li9; rw [show k2 = 8 by omega] at z2; exact z2⟩)
      · have kl13 := tw_klt (N := 8) c12 hk11 (by decide)
        refine tw_lload 3 dX5_digestHouse_13 rfl ?_
        refine tw_ldc2 (v := 31) dX5_digestHouse_15 w_240 ?_
        refine tw_lmul dX5_digestHouse_18 ?_
        refine tw_nml (fun v14 ev14 => ?_)
        refine tw_aload_n 0 dX5_digestHouse_19 rfl rfl ?_
        refine tw_aload_n 2 dX5_digestHouse_20 rfl rfl ?_
        refine tw_iload 4 dX5_digestHouse_21 rfl ?_
        obtain ⟨e15, f16, td_17, ca_18, ha_19, da_20, c1_21, c2_22, c3_23, c4_24, rfl, k25, k26, k27, k28, k29, k30, k31, k32, k33, k34, k35, k36, k37, k38, k39, k40, k41⟩ := sp0.1 x 11 kx (by decide)
        refine tw_bi (tw_callV (M := mX5_digestHouse) (pc := 23) okX5_houseFact dX5_digestHouse_23 w_332 rfl f16 [.ref a, .int (nI k2)] [.long v14] rfl rfl ⟨by decide, by decide⟩ (Nat.le_of_ble_eq_true rfl) (c4_X5_houseFact d g τ h sp0.1 x kx a ka ja hja hba k2 (by omega) he) 0 0 (Nat.le_of_ble_eq_true rfl) (Nat.le_of_ble_eq_true rfl)) (fun r44 h43 q42 => ?_) (fun E h1 q => q.elim)
        obtain ⟨q42e, q42v⟩ := q42
        rw [q42e]
        refine tw_i2l dX5_digestHouse_26 ?_
        refine tw_nml (fun v45 ev45 => ?_)
        refine tw_ladd dX5_digestHouse_27 ?_
        refine tw_nml (fun v46 ev46 => ?_)
        refine tw_lstore [(4, .long v46), (0, .ref x), (1, .long v), (3, .ref a), (6, .int (nI k2))] dX5_digestHouse_28 (by decide) rfl ?_
        obtain ⟨v47, ev47⟩ : ∃ y : Int32, y = (nI k2) + 1 := ⟨_, rfl⟩
        refine tw_iinc [(6, .int v47), (4, .long v46), (0, .ref x), (1, .long v), (3, .ref a)] 4 dX5_digestHouse_30 rfl (by rw [ev47]; rfl) (by decide) rfl ?_
        refine tw_goto 6 dX5_digestHouse_33 (by decide) ?_
        have qv47 := tw_nI3 ev47
        rw [qv47]
        refine tw_lv [2, 3, 4, 1, 0] rfl ?_
        exact ih4 (k2 + 1) v46 (by rw [tw_dgf_s, ev46, ev14, ev45, q42v, li9] <;> rfl) (by omega) (by omega)
  refine tw_lv [2, 3, 4, 1, 0] rfl ?_
  exact L5 (8 + 1) 0 v (rfl) (by omega) (by omega)

set_option maxHeartbeats 4000000 in
set_option maxRecDepth 100000 in
theorem c4_X5_digestDebt (d : tw_D) (g : tw_G) (τ : tw_K) (h : tw_H) (hw : tw_wt d g τ h)  (x : Nat) (kx : τ x = 11) (v : Int64) (a : Nat) (ka : τ a = 4) (ja : Nat) (hja : ja < g.2 8) (hba : g.2 (4096 + a) = 1152 + 8 * ja) (he : tw_CX g) : tw_Ct d mX5_digestDebt 0 0 [.ref x, .long v, .ref a] h (tw_ql (fun r h1 => h1 = h ∧ r = tw_dgf (fun w => tw_dC g ja (4 + w)) 3 v) tw_nx) := by
  refine tw_of (by decide +kernel) (Nat.le_of_ble_eq_true rfl) ?_
  show tw_W d mX5_digestDebt _ 0 [(0, .ref x), (1, .long v), (3, .ref a)] [] h 0 0
  have sp0 := tw_sp.rf hw
  have b9 := tw_b678 hw kx
  refine tw_lload_n 1 dX5_digestDebt_0 rfl rfl ?_
  refine tw_lstore [(4, .long v), (0, .ref x), (1, .long v), (3, .ref a)] dX5_digestDebt_1 (by decide) rfl ?_
  refine tw_iconst (v := 4) dX5_digestDebt_3 (by decide) ?_
  refine tw_istore [(6, .int 4), (4, .long v), (0, .ref x), (1, .long v), (3, .ref a)] dX5_digestDebt_4 (by decide) rfl ?_
  have L5 : ∀ (r3 k2 : Nat) (x1 : Int64) (li9 : 4 ≤ k2 ∧ x1 = tw_dgf (fun w => tw_dC g ja (4 + w)) (k2 - 4) v), 7 + 1 ≤ k2 + r3 → k2 ≤ 7 → tw_W d mX5_digestDebt (tw_ql (fun r h1 => h1 = h ∧ r = tw_dgf (fun w => tw_dC g ja (4 + w)) 3 v) tw_nx) 6 [(0, .ref x), (1, .long v), (3, .ref a), (4, .long x1), (6, .int (nI k2))] [] h 0 0 := by
    intro r3
    induction r3 with
    | zero => intro k2 x1 li9 hk10 hk11; exact absurd hk10 (by omega)
    | succ r3 ih4 =>
      intro k2 x1 li9 hk10 hk11
      refine tw_iload 4 dX5_digestDebt_6 rfl ?_
      refine tw_bipush (v := 7) dX5_digestDebt_8 (by decide) ?_
      refine tw_icmp_ge 36 dX5_digestDebt_10 (by decide) (fun c12 => ?_) (fun c12 => ?_)
      · refine tw_lload 3 dX5_digestDebt_36 rfl ?_
        exact tw_lret dX5_digestDebt_38 rfl (Or.inl ⟨_, rfl, rfl, by have z := tw_kge (N := 7) c12 (by omega); have z2 := li9; rw [show k2 = 7 by omega] at z2; have z3 := z2.2; exact z3⟩)
      · have kl13 := tw_klt (N := 7) c12 hk11 (by decide)
        refine tw_lload 3 dX5_digestDebt_13 rfl ?_
        refine tw_ldc2 (v := 31) dX5_digestDebt_15 w_240 ?_
        refine tw_lmul dX5_digestDebt_18 ?_
        refine tw_nml (fun v14 ev14 => ?_)
        refine tw_aload_n 0 dX5_digestDebt_19 rfl rfl ?_
        refine tw_aload_n 2 dX5_digestDebt_20 rfl rfl ?_
        refine tw_iload 4 dX5_digestDebt_21 rfl ?_
        obtain ⟨e15, f16, td_17, ca_18, ha_19, da_20, c1_21, c2_22, c3_23, c4_24, rfl, k25, k26, k27, k28, k29, k30, k31, k32, k33, k34, k35, k36, k37, k38, k39, k40, k41⟩ := sp0.1 x 11 kx (by decide)
        refine tw_bi (tw_callV (M := mX5_digestDebt) (pc := 23) okX5_debtFact dX5_digestDebt_23 w_351 rfl f16 [.ref a, .int (nI k2)] [.long v14] rfl rfl ⟨by decide, by decide⟩ (Nat.le_of_ble_eq_true rfl) (c4_X5_debtFact d g τ h sp0.1 x kx a ka ja hja hba k2 (by omega) he) 0 0 (Nat.le_of_ble_eq_true rfl) (Nat.le_of_ble_eq_true rfl)) (fun r44 h43 q42 => ?_) (fun E h1 q => q.elim)
        obtain ⟨q42e, q42v⟩ := q42
        rw [q42e]
        refine tw_i2l dX5_digestDebt_26 ?_
        refine tw_nml (fun v45 ev45 => ?_)
        refine tw_ladd dX5_digestDebt_27 ?_
        refine tw_nml (fun v46 ev46 => ?_)
        refine tw_lstore [(4, .long v46), (0, .ref x), (1, .long v), (3, .ref a), (6, .int (nI k2))] dX5_digestDebt_28 (by decide) rfl ?_
        obtain ⟨v47, ev47⟩ : ∃ y : Int32, y = (nI k2) + 1 := ⟨_, rfl⟩
        refine tw_iinc [(6, .int v47), (4, .long v46), (0, .ref x), (1, .long v), (3, .ref a)] 4 dX5_digestDebt_30 rfl (by rw [ev47]; rfl) (by decide) rfl ?_
        refine tw_goto 6 dX5_digestDebt_33 (by decide) ?_
        have qv47 := tw_nI3 ev47
        rw [qv47]
        refine tw_lv [2, 3, 4, 1, 0] rfl ?_
        exact ih4 (k2 + 1) v46 (⟨by omega, by rw [show k2 + 1 - 4 = (k2 - 4) + 1 by omega]; show _ = tw_dgx (tw_dgf (fun w => tw_dC g ja (4 + w)) (k2 - 4) v) (tw_dC g ja (4 + (k2 - 4))); rw [show 4 + (k2 - 4) = k2 by omega, ev46, ev14, ev45, q42v, li9.2]; rfl⟩) (by omega) (by omega)
  refine tw_lv [2, 3, 4, 1, 0] rfl ?_
  exact L5 (7 + 1) 4 v (⟨Nat.le_refl _, rfl⟩) (by omega) (by omega)

set_option maxHeartbeats 4000000 in
set_option maxRecDepth 100000 in
theorem c4_X5_digestCountry (d : tw_D) (g : tw_G) (τ : tw_K) (h : tw_H) (hw : tw_wt d g τ h)  (x : Nat) (kx : τ x = 11) (v : Int64) (a : Nat) (ka : τ a = 2) (ja : Nat) (hja : ja < g.2 6) (hba : g.2 (4096 + a) = 160 + 64 * ja) (he : tw_CW g) (hec : tw_EC g) (htc : tw_TC g) : tw_Ct d mX5_digestCountry 0 0 [.ref x, .long v, .ref a] h (tw_ql (fun r h1 => h1 = h ∧ r = tw_dgK g ja v) tw_nx) := by
  refine tw_of (by decide +kernel) (Nat.le_of_ble_eq_true rfl) ?_
  show tw_W d mX5_digestCountry _ 0 [(0, .ref x), (1, .long v), (3, .ref a)] [] h 0 0
  have sp0 := tw_sp.rf hw
  have b9 := tw_b678 hw kx
  refine tw_lload_n 1 dX5_digestCountry_0 rfl rfl ?_
  refine tw_lstore [(4, .long v), (0, .ref x), (1, .long v), (3, .ref a)] dX5_digestCountry_1 (by decide) rfl ?_
  refine tw_iconst (v := 0) dX5_digestCountry_3 (by decide) ?_
  refine tw_istore [(6, .int 0), (4, .long v), (0, .ref x), (1, .long v), (3, .ref a)] dX5_digestCountry_4 (by decide) rfl ?_
  have L5 : ∀ (r3 k2 : Nat) (x1 : Int64) (li9 : x1 = tw_dgf (fun w => tw_oC g ja w) k2 v), 9 + 1 ≤ k2 + r3 → k2 ≤ 9 → tw_W d mX5_digestCountry (tw_ql (fun r h1 => h1 = h ∧ r = tw_dgK g ja v) tw_nx) 6 [(0, .ref x), (1, .long v), (3, .ref a), (4, .long x1), (6, .int (nI k2))] [] h 0 0 := by
    intro r3
    induction r3 with
    | zero => intro k2 x1 li9 hk10 hk11; exact absurd hk10 (by omega)
    | succ r3 ih4 =>
      intro k2 x1 li9 hk10 hk11
      refine tw_iload 4 dX5_digestCountry_6 rfl ?_
      refine tw_bipush (v := 9) dX5_digestCountry_8 (by decide) ?_
      refine tw_icmp_ge 36 dX5_digestCountry_10 (by decide) (fun c12 => ?_) (fun c12 => ?_)
      · refine tw_lload 3 dX5_digestCountry_36 rfl ?_
        refine tw_ldc2 (v := 31) dX5_digestCountry_38 w_240 ?_
        refine tw_lmul dX5_digestCountry_41 ?_
        refine tw_nml (fun v13 ev13 => ?_)
        refine tw_aload_n 2 dX5_digestCountry_42 rfl rfl ?_
        obtain ⟨e14, f15, n_16, r_17, c_18, go_19, so_20, v_21, rd_22, rf_23, t_24, rfl, k25, k26, k27, k28, k29, k30, k31, k32, k33⟩ := sp0.1 a 2 ka (by decide)
        obtain ⟨j34, ow35, fn9, fr9, fc9, fg9, fs9, q36, q37, q38, q39⟩ := k33
        obtain rfl : ja = j34 := by have z := ow35.b hba; omega
        subst fn9 fr9 fc9 fg9 fs9
        refine tw_getN (v := .ref t_24) rfl in_4 8 dX5_digestCountry_43 w_514 rfl (by decide) f15 rfl ?_
        refine tw_bipush (v := 37) dX5_digestCountry_46 (by decide) ?_
        obtain ⟨e40, f41, m_42, rfl, k43, k44⟩ := sp0.1 t_24 5 k28 (by decide)
        refine tw_bi (tw_callVN (M := mX5_digestCountry) (pc := 48) okX4_fewestFor dX5_digestCountry_48 w_285 rfl f41 [.int 37] [.long v13] rfl rfl ⟨by decide, by decide⟩ (Nat.le_of_ble_eq_true rfl) (c2_X4_fewestFor d g τ h sp0.1 t_24 k28 ja (by omega) q38 37 (by decide) (htc ja hja)) 0 0 (Nat.le_of_ble_eq_true rfl) (Nat.le_of_ble_eq_true rfl)) (fun r47 h46 q45 => ?_) (fun E h1 q => q.elim)
        obtain ⟨q45e, q45v⟩ := q45
        rw [q45e]
        refine tw_i2l dX5_digestCountry_51 ?_
        refine tw_nml (fun v48 ev48 => ?_)
        refine tw_ladd dX5_digestCountry_52 ?_
        refine tw_nml (fun v49 ev49 => ?_)
        refine tw_lstore [(4, .long v49), (0, .ref x), (1, .long v), (3, .ref a), (6, .int (nI k2))] dX5_digestCountry_53 (by decide) rfl ?_
        refine tw_lload 0 dX5_digestCountry_55 rfl ?_
        refine tw_ldc2 (v := 31) dX5_digestCountry_57 w_240 ?_
        refine tw_lmul dX5_digestCountry_60 ?_
        refine tw_nml (fun v50 ev50 => ?_)
        refine tw_aload_n 1 dX5_digestCountry_61 rfl rfl ?_
        refine tw_aload_n 3 dX5_digestCountry_62 rfl rfl ?_
        refine tw_iconst (v := 0) dX5_digestCountry_63 (by decide) ?_
        refine tw_sipush (v := 1000) dX5_digestCountry_64 (by decide) ?_
        obtain ⟨e51, f52, td_53, ca_54, ha_55, da_56, c1_57, c2_58, c3_59, c4_60, rfl, k61, k62, k63, k64, k65, k66, k67, k68, k69, k70, k71, k72, k73, k74, k75, k76, k77⟩ := sp0.1 x 11 kx (by decide)
        refine tw_bi (tw_callV (M := mX5_digestCountry) (pc := 67) okX5_bestOver dX5_digestCountry_67 w_292 rfl f52 [.ref a, .int 0, .int 1000] [.long v50] rfl rfl ⟨by decide, by decide⟩ (Nat.le_of_ble_eq_true rfl) (c3_X5_bestOver d g τ h sp0.1 x kx a ka ja hja hba 0 (by decide) 1000 1000 rfl (by decide) hec) 0 0 (Nat.le_of_ble_eq_true rfl) (Nat.le_of_ble_eq_true rfl)) (fun r80 h79 q78 => ?_) (fun E h1 q => q.elim)
        obtain ⟨q78e, q78v⟩ := q78
        rw [q78e]
        refine tw_i2l dX5_digestCountry_70 ?_
        refine tw_nml (fun v81 ev81 => ?_)
        refine tw_ladd dX5_digestCountry_71 ?_
        refine tw_nml (fun v82 ev82 => ?_)
        refine tw_lstore [(4, .long v82), (0, .ref x), (1, .long v), (3, .ref a), (6, .int (nI k2))] dX5_digestCountry_72 (by decide) rfl ?_
        refine tw_lload 0 dX5_digestCountry_74 rfl ?_
        refine tw_ldc2 (v := 31) dX5_digestCountry_76 w_240 ?_
        refine tw_lmul dX5_digestCountry_79 ?_
        refine tw_nml (fun v83 ev83 => ?_)
        refine tw_aload_n 1 dX5_digestCountry_80 rfl rfl ?_
        refine tw_aload_n 3 dX5_digestCountry_81 rfl rfl ?_
        refine tw_iconst (v := 1) dX5_digestCountry_82 (by decide) ?_
        refine tw_sipush (v := 1000) dX5_digestCountry_83 (by decide) ?_
        refine tw_bi (tw_callV (M := mX5_digestCountry) (pc := 86) okX5_bestOver dX5_digestCountry_86 w_292 rfl f52 [.ref a, .int 1, .int 1000] [.long v83] rfl rfl ⟨by decide, by decide⟩ (Nat.le_of_ble_eq_true rfl) (c3_X5_bestOver d g τ h sp0.1 x kx a ka ja hja hba 1 (by decide) 1000 1000 rfl (by decide) hec) 0 0 (Nat.le_of_ble_eq_true rfl) (Nat.le_of_ble_eq_true rfl)) (fun r86 h85 q84 => ?_) (fun E h1 q => q.elim)
        obtain ⟨q84e, q84v⟩ := q84
        rw [q84e]
        refine tw_i2l dX5_digestCountry_89 ?_
        refine tw_nml (fun v87 ev87 => ?_)
        refine tw_ladd dX5_digestCountry_90 ?_
        refine tw_nml (fun v88 ev88 => ?_)
        refine tw_lstore [(4, .long v88), (0, .ref x), (1, .long v), (3, .ref a), (6, .int (nI k2))] dX5_digestCountry_91 (by decide) rfl ?_
        refine tw_lload 0 dX5_digestCountry_93 rfl ?_
        refine tw_ldc2 (v := 31) dX5_digestCountry_95 w_240 ?_
        refine tw_lmul dX5_digestCountry_98 ?_
        refine tw_nml (fun v89 ev89 => ?_)
        refine tw_aload_n 1 dX5_digestCountry_99 rfl rfl ?_
        refine tw_aload_n 3 dX5_digestCountry_100 rfl rfl ?_
        refine tw_getN (v := .ref v_21) rfl in_4 3 dX5_digestCountry_101 w_508 rfl (by decide) f15 rfl ?_
        refine tw_iconst (v := 0) dX5_digestCountry_104 (by decide) ?_
        refine tw_bipush (v := 10) dX5_digestCountry_105 (by decide) ?_
        obtain ⟨e90, f91, a_92, b_93, rfl, k94⟩ := sp0.1 v_21 1 k25 (by decide)
        obtain ⟨b95, ow96, fa9, fb9⟩ := k94
        obtain rfl : (160 + 64 * ja + 24) = b95 := (ow96.b q39).symm
        subst fa9 fb9
        refine tw_bi (tw_callV (M := mX5_digestCountry) (pc := 107) okX5_firstDayShort dX5_digestCountry_107 w_321 rfl f52 [.ref v_21, .int 0, .int 10] [.long v89] rfl rfl ⟨by decide, by decide⟩ (Nat.le_of_ble_eq_true rfl) (c4_X5_firstDayShort d g τ h sp0.1 x kx v_21 k25 ja (by omega) q39 0 (by decide) 10 (by decide) _ (he.1 ja hja 0 (by decide)).1 (he.1 ja hja 0 (by decide)).2) 0 0 (Nat.le_of_ble_eq_true rfl) (Nat.le_of_ble_eq_true rfl)) (fun r99 h98 q97 => ?_) (fun E h1 q => q.elim)
        obtain ⟨q97e, q97v⟩ := q97
        rw [q97e]
        refine tw_i2l dX5_digestCountry_110 ?_
        refine tw_nml (fun v100 ev100 => ?_)
        refine tw_ladd dX5_digestCountry_111 ?_
        refine tw_nml (fun v101 ev101 => ?_)
        refine tw_lstore [(4, .long v101), (0, .ref x), (1, .long v), (3, .ref a), (6, .int (nI k2))] dX5_digestCountry_112 (by decide) rfl ?_
        refine tw_lload 0 dX5_digestCountry_114 rfl ?_
        refine tw_ldc2 (v := 31) dX5_digestCountry_116 w_240 ?_
        refine tw_lmul dX5_digestCountry_119 ?_
        refine tw_nml (fun v102 ev102 => ?_)
        refine tw_aload_n 1 dX5_digestCountry_120 rfl rfl ?_
        refine tw_aload_n 3 dX5_digestCountry_121 rfl rfl ?_
        refine tw_getN (v := .ref v_21) rfl in_4 3 dX5_digestCountry_122 w_508 rfl (by decide) f15 rfl ?_
        refine tw_iconst (v := 1) dX5_digestCountry_125 (by decide) ?_
        refine tw_bipush (v := 10) dX5_digestCountry_126 (by decide) ?_
        refine tw_bi (tw_callV (M := mX5_digestCountry) (pc := 128) okX5_firstDayShort dX5_digestCountry_128 w_321 rfl f52 [.ref v_21, .int 1, .int 10] [.long v102] rfl rfl ⟨by decide, by decide⟩ (Nat.le_of_ble_eq_true rfl) (c4_X5_firstDayShort d g τ h sp0.1 x kx v_21 k25 ja (by omega) q39 1 (by decide) 10 (by decide) _ (he.1 ja hja 1 (by decide)).1 (he.1 ja hja 1 (by decide)).2) 0 0 (Nat.le_of_ble_eq_true rfl) (Nat.le_of_ble_eq_true rfl)) (fun r105 h104 q103 => ?_) (fun E h1 q => q.elim)
        obtain ⟨q103e, q103v⟩ := q103
        rw [q103e]
        refine tw_i2l dX5_digestCountry_131 ?_
        refine tw_nml (fun v106 ev106 => ?_)
        refine tw_ladd dX5_digestCountry_132 ?_
        refine tw_nml (fun v107 ev107 => ?_)
        refine tw_lstore [(4, .long v107), (0, .ref x), (1, .long v), (3, .ref a), (6, .int (nI k2))] dX5_digestCountry_133 (by decide) rfl ?_
        refine tw_lload 0 dX5_digestCountry_135 rfl ?_
        exact tw_lret dX5_digestCountry_137 rfl (Or.inl ⟨_, rfl, rfl, by have z := tw_kge (N := 9) c12 (by omega); have z2 := li9; rw [show k2 = 9 by omega] at z2; unfold tw_dgK; rw [tw_dgf_2, tw_dgf_2, ev107, ev102, ev101, ev89, ev88, ev83, ev82, ev50, ev49, ev13, ev48, ev81, ev87, ev100, ev106, q45v, q78v, q84v, q97v, q103v, z2] <;> rfl⟩)
      · have kl108 := tw_klt (N := 9) c12 hk11 (by decide)
        refine tw_lload 3 dX5_digestCountry_13 rfl ?_
        refine tw_ldc2 (v := 31) dX5_digestCountry_15 w_240 ?_
        refine tw_lmul dX5_digestCountry_18 ?_
        refine tw_nml (fun v109 ev109 => ?_)
        refine tw_aload_n 0 dX5_digestCountry_19 rfl rfl ?_
        refine tw_aload_n 2 dX5_digestCountry_20 rfl rfl ?_
        refine tw_iload 4 dX5_digestCountry_21 rfl ?_
        obtain ⟨e110, f111, td_112, ca_113, ha_114, da_115, c1_116, c2_117, c3_118, c4_119, rfl, k120, k121, k122, k123, k124, k125, k126, k127, k128, k129, k130, k131, k132, k133, k134, k135, k136⟩ := sp0.1 x 11 kx (by decide)
        refine tw_bi (tw_callV (M := mX5_digestCountry) (pc := 23) okX5_countryFact dX5_digestCountry_23 w_253 rfl f111 [.ref a, .int (nI k2)] [.long v109] rfl rfl ⟨by decide, by decide⟩ (Nat.le_of_ble_eq_true rfl) (c4_X5_countryFact d g τ h sp0.1 x kx a ka ja hja hba k2 (by omega) he) 0 0 (Nat.le_of_ble_eq_true rfl) (Nat.le_of_ble_eq_true rfl)) (fun r139 h138 q137 => ?_) (fun E h1 q => q.elim)
        obtain ⟨q137e, q137v⟩ := q137
        rw [q137e]
        refine tw_i2l dX5_digestCountry_26 ?_
        refine tw_nml (fun v140 ev140 => ?_)
        refine tw_ladd dX5_digestCountry_27 ?_
        refine tw_nml (fun v141 ev141 => ?_)
        refine tw_lstore [(4, .long v141), (0, .ref x), (1, .long v), (3, .ref a), (6, .int (nI k2))] dX5_digestCountry_28 (by decide) rfl ?_
        obtain ⟨v142, ev142⟩ : ∃ y : Int32, y = (nI k2) + 1 := ⟨_, rfl⟩
        refine tw_iinc [(6, .int v142), (4, .long v141), (0, .ref x), (1, .long v), (3, .ref a)] 4 dX5_digestCountry_30 rfl (by rw [ev142]; rfl) (by decide) rfl ?_
        refine tw_goto 6 dX5_digestCountry_33 (by decide) ?_
        have qv142 := tw_nI3 ev142
        rw [qv142]
        refine tw_lv [2, 3, 4, 1, 0] rfl ?_
        exact ih4 (k2 + 1) v141 (by rw [tw_dgf_s, ev141, ev109, ev140, q137v, li9] <;> rfl) (by omega) (by omega)
  refine tw_lv [2, 3, 4, 1, 0] rfl ?_
  exact L5 (9 + 1) 0 v (rfl) (by omega) (by omega)

set_option maxHeartbeats 4000000 in
set_option maxRecDepth 100000 in
theorem c4_X5_digest (d : tw_D) (g : tw_G) (τ : tw_K) (h : tw_H) (hw : tw_wt d g τ h)  (x : Nat) (kx : τ x = 11) (hcw : tw_CW g) (hcx : tw_CX g) (hec : tw_EC g) (htc : tw_TC g) (hso : tw_SO g) : tw_Ct d mX5_digest 0 0 [.ref x] h (tw_ql (fun r h1 => h1 = h ∧ r = tw_dgC g) tw_nx) := by
  refine tw_of (by decide +kernel) (Nat.le_of_ble_eq_true rfl) ?_
  show tw_W d mX5_digest _ 0 [(0, .ref x)] [] h 0 0
  have sp0 := tw_sp.rf hw
  have b9 := tw_b678 hw kx
  refine tw_ldc2 (v := 5573) dX5_digest_0 w_239 ?_
  refine tw_lstore_n [(1, .long 5573), (0, .ref x)] dX5_digest_3 rfl (by decide) rfl ?_
  refine tw_lload_n 0 dX5_digest_4 rfl rfl ?_
  refine tw_ldc2 (v := 31) dX5_digest_5 w_240 ?_
  refine tw_lmul dX5_digest_8 ?_
  refine tw_nml (fun v1 ev1 => ?_)
  refine tw_aload_n 1 dX5_digest_9 rfl rfl ?_
  obtain ⟨e2, f3, td_4, ca_5, ha_6, da_7, c1_8, c2_9, c3_10, c4_11, rfl, k12, k13, k14, k15, k16, k17, k18, k19, k20, k21, k22, k23, k24, k25, k26, k27, k28⟩ := sp0.1 x 11 kx (by decide)
  refine tw_get (v := .int td_4) rfl in_9 0 dX5_digest_10 w_140 rfl (by decide) f3 rfl ?_
  refine tw_i2l dX5_digest_13 ?_
  refine tw_nml (fun v29 ev29 => ?_)
  refine tw_ladd dX5_digest_14 ?_
  refine tw_nml (fun v30 ev30 => ?_)
  refine tw_lstore_n [(1, .long v30), (0, .ref x)] dX5_digest_15 rfl (by decide) rfl ?_
  refine tw_lload_n 0 dX5_digest_16 rfl rfl ?_
  refine tw_ldc2 (v := 31) dX5_digest_17 w_240 ?_
  refine tw_lmul dX5_digest_20 ?_
  refine tw_nml (fun v31 ev31 => ?_)
  refine tw_aload_n 1 dX5_digest_21 rfl rfl ?_
  refine tw_get (v := .int (g.1 0)) rfl in_9 1 dX5_digest_22 w_141 rfl (by decide) f3 rfl ?_
  refine tw_i2l dX5_digest_25 ?_
  refine tw_nml (fun v32 ev32 => ?_)
  refine tw_ladd dX5_digest_26 ?_
  refine tw_nml (fun v33 ev33 => ?_)
  refine tw_lstore_n [(1, .long v33), (0, .ref x)] dX5_digest_27 rfl (by decide) rfl ?_
  refine tw_aload_n 1 dX5_digest_28 rfl rfl ?_
  refine tw_lload_n 0 dX5_digest_29 rfl rfl ?_
  refine tw_iconst (v := 0) dX5_digest_30 (by decide) ?_
  refine tw_bl (tw_callV (M := mX5_digest) (pc := 31) okX5_digestWorld dX5_digest_31 w_241 rfl f3 [.long v33, .int 0] [] rfl rfl ⟨by decide, by decide⟩ (Nat.le_of_ble_eq_true rfl) (c4_X5_digestWorld d g τ h sp0.1 x kx v33 0 (by decide)) 0 0 (Nat.le_of_ble_eq_true rfl) (Nat.le_of_ble_eq_true rfl)) (fun r36 h35 q34 => ?_) (fun E h1 q => q.elim)
  obtain ⟨q34e, q34v⟩ := q34
  rw [q34e]
  refine tw_lstore_n [(1, .long r36), (0, .ref x)] dX5_digest_34 rfl (by decide) rfl ?_
  refine tw_aload_n 1 dX5_digest_35 rfl rfl ?_
  refine tw_lload_n 0 dX5_digest_36 rfl rfl ?_
  refine tw_iconst (v := 1) dX5_digest_37 (by decide) ?_
  refine tw_bl (tw_callV (M := mX5_digest) (pc := 38) okX5_digestWorld dX5_digest_38 w_241 rfl f3 [.long r36, .int 1] [] rfl rfl ⟨by decide, by decide⟩ (Nat.le_of_ble_eq_true rfl) (c4_X5_digestWorld d g τ h sp0.1 x kx r36 1 (by decide)) 0 0 (Nat.le_of_ble_eq_true rfl) (Nat.le_of_ble_eq_true rfl)) (fun r39 h38 q37 => ?_) (fun E h1 q => q.elim)
  obtain ⟨q37e, q37v⟩ := q37
  rw [q37e]
  refine tw_lstore_n [(1, .long r39), (0, .ref x)] dX5_digest_41 rfl (by decide) rfl ?_
  refine tw_aload_n 1 dX5_digest_42 rfl rfl ?_
  refine tw_get (v := .ref ca_5) rfl in_9 2 dX5_digest_43 w_142 rfl (by decide) f3 rfl ?_
  refine tw_astore_n [(3, .ref ca_5), (1, .long r39), (0, .ref x)] dX5_digest_46 rfl (by decide) rfl ?_
  refine tw_aload_n 0 dX5_digest_47 rfl rfl ?_
  obtain ⟨e40, f41, F42, rfl, k43, pn44, pb45, px46, pf47⟩ := sp0.1 ca_5 8 k12 (by decide)
  refine tw_alen (v := nI 4) 4 rfl dX5_digest_48 f41 rfl ?_
  refine tw_istore [(4, .int (nI 4)), (3, .ref ca_5), (1, .long r39), (0, .ref x)] dX5_digest_49 (by decide) rfl ?_
  refine tw_iconst (v := 0) dX5_digest_51 (by decide) ?_
  refine tw_istore [(5, .int 0), (4, .int (nI 4)), (3, .ref ca_5), (1, .long r39), (0, .ref x)] dX5_digest_52 (by decide) rfl ?_
  have L52 : ∀ (r50 k49 : Nat) (x48 : Int64) (li56 : x48 = tw_dgs (tw_dgK g) (min k49 (g.2 6)) (tw_dg1 g)), 4 + 1 ≤ k49 + r50 → k49 ≤ 4 → tw_W d mX5_digest (tw_ql (fun r h1 => h1 = h ∧ r = tw_dgC g) tw_nx) 54 [(0, .ref x), (1, .long x48), (3, .ref ca_5), (4, .int (nI 4)), (5, .int (nI k49))] [] h 0 0 := by
    intro r50
    induction r50 with
    | zero => intro k49 x48 li56 hk57 hk58; exact absurd hk57 (by omega)
    | succ r50 ih51 =>
      intro k49 x48 li56 hk57 hk58
      refine tw_iload 4 dX5_digest_54 rfl ?_
      refine tw_iload 3 dX5_digest_56 rfl ?_
      refine tw_icmp_ge 86 dX5_digest_58 (by decide) (fun c59 => ?_) (fun c59 => ?_)
      · refine tw_aload_n 0 dX5_digest_86 rfl rfl ?_
        refine tw_get (v := .ref ha_6) rfl in_9 4 dX5_digest_87 w_144 rfl (by decide) f3 rfl ?_
        refine tw_astore_n [(3, .ref ha_6), (0, .ref x), (1, .long x48), (4, .int (nI 4)), (5, .int (nI k49))] dX5_digest_90 rfl (by decide) rfl ?_
        refine tw_aload_n 0 dX5_digest_91 rfl rfl ?_
        obtain ⟨e60, f61, F62, rfl, k63, pn64, pb65, px66, pf67⟩ := sp0.1 ha_6 9 k13 (by decide)
        refine tw_alen (v := nI 6) 5 rfl dX5_digest_92 f61 rfl ?_
        refine tw_istore [(4, .int (nI 6)), (3, .ref ha_6), (0, .ref x), (1, .long x48), (5, .int (nI k49))] dX5_digest_93 (by decide) rfl ?_
        refine tw_iconst (v := 0) dX5_digest_95 (by decide) ?_
        refine tw_istore [(5, .int 0), (4, .int (nI 6)), (3, .ref ha_6), (0, .ref x), (1, .long x48)] dX5_digest_96 (by decide) rfl ?_
        have L72 : ∀ (r70 k69 : Nat) (x68 : Int64) (li76 : x68 = tw_dgs (fun j => tw_dgf (tw_hC g j) 8) (min k69 (g.2 7)) (tw_dg2 g)), 6 + 1 ≤ k69 + r70 → k69 ≤ 6 → tw_W d mX5_digest (tw_ql (fun r h1 => h1 = h ∧ r = tw_dgC g) tw_nx) 98 [(0, .ref x), (1, .long x68), (3, .ref ha_6), (4, .int (nI 6)), (5, .int (nI k69))] [] h 0 0 := by
          intro r70
          induction r70 with
          | zero => intro k69 x68 li76 hk77 hk78; exact absurd hk77 (by omega)
          | succ r70 ih71 =>
            intro k69 x68 li76 hk77 hk78
            refine tw_iload 4 dX5_digest_98 rfl ?_
            refine tw_iload 3 dX5_digest_100 rfl ?_
            refine tw_icmp_ge 130 dX5_digest_102 (by decide) (fun c79 => ?_) (fun c79 => ?_)
            · refine tw_aload_n 0 dX5_digest_130 rfl rfl ?_
              refine tw_get (v := .ref da_7) rfl in_9 6 dX5_digest_131 w_146 rfl (by decide) f3 rfl ?_
              refine tw_astore_n [(3, .ref da_7), (0, .ref x), (1, .long x68), (4, .int (nI 6)), (5, .int (nI k69))] dX5_digest_134 rfl (by decide) rfl ?_
              refine tw_aload_n 0 dX5_digest_135 rfl rfl ?_
              obtain ⟨e80, f81, F82, rfl, k83, pn84, pb85, px86, pf87⟩ := sp0.1 da_7 10 k14 (by decide)
              refine tw_alen (v := nI 10) 6 rfl dX5_digest_136 f81 rfl ?_
              refine tw_istore [(4, .int (nI 10)), (3, .ref da_7), (0, .ref x), (1, .long x68), (5, .int (nI k69))] dX5_digest_137 (by decide) rfl ?_
              refine tw_iconst (v := 0) dX5_digest_139 (by decide) ?_
              refine tw_istore [(5, .int 0), (4, .int (nI 10)), (3, .ref da_7), (0, .ref x), (1, .long x68)] dX5_digest_140 (by decide) rfl ?_
              have L92 : ∀ (r90 k89 : Nat) (x88 : Int64) (li96 : x88 = tw_dgs (fun j => tw_dgf (fun w => tw_dC g j (4 + w)) 3) (min k89 (g.2 8)) (tw_dg3 g)), 10 + 1 ≤ k89 + r90 → k89 ≤ 10 → tw_W d mX5_digest (tw_ql (fun r h1 => h1 = h ∧ r = tw_dgC g) tw_nx) 142 [(0, .ref x), (1, .long x88), (3, .ref da_7), (4, .int (nI 10)), (5, .int (nI k89))] [] h 0 0 := by
                intro r90
                induction r90 with
                | zero => intro k89 x88 li96 hk97 hk98; exact absurd hk97 (by omega)
                | succ r90 ih91 =>
                  intro k89 x88 li96 hk97 hk98
                  refine tw_iload 4 dX5_digest_142 rfl ?_
                  refine tw_iload 3 dX5_digest_144 rfl ?_
                  refine tw_icmp_ge 174 dX5_digest_146 (by decide) (fun c99 => ?_) (fun c99 => ?_)
                  · refine tw_lload_n 1 dX5_digest_174 rfl rfl ?_
                    refine tw_ldc2 (v := 31) dX5_digest_175 w_240 ?_
                    refine tw_lmul dX5_digest_178 ?_
                    refine tw_nml (fun v100 ev100 => ?_)
                    refine tw_aload_n 0 dX5_digest_179 rfl rfl ?_
                    refine tw_sipush (v := 1000) dX5_digest_180 (by decide) ?_
                    refine tw_bi (tw_callV (M := mX5_digest) (pc := 183) okX5_isRest dX5_digest_183 w_369 rfl f3 [.int 1000] [.long v100] rfl rfl ⟨by decide, by decide⟩ (Nat.le_of_ble_eq_true rfl) (c3_X5_isRest d g τ h sp0.1 x kx 1000 1000 rfl (by decide) hec) 0 0 (Nat.le_of_ble_eq_true rfl) (Nat.le_of_ble_eq_true rfl)) (fun r103 h102 q101 => ?_) (fun E h1 q => q.elim)
                    obtain ⟨q101e, q101v⟩ := q101
                    rw [q101e]
                    refine tw_if_eq 193 dX5_digest_186 (by decide) (fun c104 => ?_) (fun c104 => ?_)
                    · have rb9 := tw_rbi_0 q101v c104
                      refine tw_iconst (v := 0) dX5_digest_193 (by decide) ?_
                      refine tw_i2l dX5_digest_194 ?_
                      refine tw_nml (fun v105 ev105 => ?_)
                      refine tw_ladd dX5_digest_195 ?_
                      refine tw_nml (fun v106 ev106 => ?_)
                      refine tw_lstore_n [(1, .long v106), (0, .ref x), (3, .ref da_7), (4, .int (nI 10)), (5, .int (nI k89))] dX5_digest_196 rfl (by decide) rfl ?_
                      refine tw_lload_n 0 dX5_digest_197 rfl rfl ?_
                      refine tw_ldc2 (v := 31) dX5_digest_198 w_240 ?_
                      refine tw_lmul dX5_digest_201 ?_
                      refine tw_nml (fun v107 ev107 => ?_)
                      refine tw_aload_n 1 dX5_digest_202 rfl rfl ?_
                      refine tw_bi (tw_callV (M := mX5_digest) (pc := 203) okX5_isSound dX5_digest_203 w_373 rfl f3 [] [.long v107] rfl rfl ⟨by decide, by decide⟩ (Nat.le_of_ble_eq_true rfl) (c4_X5_isSound d g τ h sp0.1 x kx hso) 0 0 (Nat.le_of_ble_eq_true rfl) (Nat.le_of_ble_eq_true rfl)) (fun r110 h109 q108 => ?_) (fun E h1 q => q.elim)
                      obtain ⟨q108e, q108v⟩ := q108
                      rw [q108e, q108v]
                      refine tw_if_eq 213 dX5_digest_206 (by decide) (fun c111 => absurd c111 (by decide)) (fun _ => ?_)
                      refine tw_iconst (v := 1) dX5_digest_209 (by decide) ?_
                      refine tw_goto 214 dX5_digest_210 (by decide) ?_
                      refine tw_i2l dX5_digest_214 ?_
                      refine tw_nml (fun v112 ev112 => ?_)
                      refine tw_ladd dX5_digest_215 ?_
                      refine tw_nml (fun v113 ev113 => ?_)
                      refine tw_lstore_n [(1, .long v113), (0, .ref x), (3, .ref da_7), (4, .int (nI 10)), (5, .int (nI k89))] dX5_digest_216 rfl (by decide) rfl ?_
                      refine tw_lload_n 0 dX5_digest_217 rfl rfl ?_
                      exact tw_lret dX5_digest_218 rfl (Or.inl ⟨_, rfl, rfl, by have z := tw_kge (N := 10) c99 (by omega); have z2 := li96; rw [show min k89 (g.2 8) = g.2 8 by omega] at z2; show _ = tw_dgx (tw_dgx (tw_dg4 g) _) 1; rw [rb9, show tw_dg4 g = _ from z2.symm, ev113, ev107, ev106, ev100, ev105, ev112]; rfl⟩)
                    · have rb9 := tw_rbi_1 q101v c104
                      refine tw_iconst (v := 1) dX5_digest_189 (by decide) ?_
                      refine tw_goto 194 dX5_digest_190 (by decide) ?_
                      refine tw_i2l dX5_digest_194 ?_
                      refine tw_nml (fun v114 ev114 => ?_)
                      refine tw_ladd dX5_digest_195 ?_
                      refine tw_nml (fun v115 ev115 => ?_)
                      refine tw_lstore_n [(1, .long v115), (0, .ref x), (3, .ref da_7), (4, .int (nI 10)), (5, .int (nI k89))] dX5_digest_196 rfl (by decide) rfl ?_
                      refine tw_lload_n 0 dX5_digest_197 rfl rfl ?_
                      refine tw_ldc2 (v := 31) dX5_digest_198 w_240 ?_
                      refine tw_lmul dX5_digest_201 ?_
                      refine tw_nml (fun v116 ev116 => ?_)
                      refine tw_aload_n 1 dX5_digest_202 rfl rfl ?_
                      refine tw_bi (tw_callV (M := mX5_digest) (pc := 203) okX5_isSound dX5_digest_203 w_373 rfl f3 [] [.long v116] rfl rfl ⟨by decide, by decide⟩ (Nat.le_of_ble_eq_true rfl) (c4_X5_isSound d g τ h sp0.1 x kx hso) 0 0 (Nat.le_of_ble_eq_true rfl) (Nat.le_of_ble_eq_true rfl)) (fun r119 h118 q117 => ?_) (fun E h1 q => q.elim)
                      obtain ⟨q117e, q117v⟩ := q117
                      rw [q117e, q117v]
                      refine tw_if_eq 213 dX5_digest_206 (by decide) (fun c120 => absurd c120 (by decide)) (fun _ => ?_)
                      refine tw_iconst (v := 1) dX5_digest_209 (by decide) ?_
                      refine tw_goto 214 dX5_digest_210 (by decide) ?_
                      refine tw_i2l dX5_digest_214 ?_
                      refine tw_nml (fun v121 ev121 => ?_)
                      refine tw_ladd dX5_digest_215 ?_
                      refine tw_nml (fun v122 ev122 => ?_)
                      refine tw_lstore_n [(1, .long v122), (0, .ref x), (3, .ref da_7), (4, .int (nI 10)), (5, .int (nI k89))] dX5_digest_216 rfl (by decide) rfl ?_
                      refine tw_lload_n 0 dX5_digest_217 rfl rfl ?_
                      exact tw_lret dX5_digest_218 rfl (Or.inl ⟨_, rfl, rfl, by have z := tw_kge (N := 10) c99 (by omega); have z2 := li96; rw [show min k89 (g.2 8) = g.2 8 by omega] at z2; show _ = tw_dgx (tw_dgx (tw_dg4 g) _) 1; rw [rb9, show tw_dg4 g = _ from z2.symm, ev122, ev116, ev115, ev100, ev114, ev121]; rfl⟩)
                  · have kl123 := tw_klt (N := 10) c99 hk98 (by decide)
                    refine tw_aload_n 2 dX5_digest_149 rfl rfl ?_
                    refine tw_iload 4 dX5_digest_150 rfl ?_
                    cases k124 : F82 ((nI k89)).toNatClampNeg with
                    | none =>
                      refine tw_aald (v := .null) 6 rfl rfl dX5_digest_152 f81 (vp_in_nI (by omega) (by decide)) (by rw [k124]; rfl) ?_
                      refine tw_astoreN [(6, .null), (0, .ref x), (1, .long x88), (3, .ref da_7), (4, .int (nI 10)), (5, .int (nI k89))] dX5_digest_153 (by decide) rfl ?_
                      have hv9 := k124
                      rw [nI_clamp (by omega)] at hv9
                      have pn9 := pn84 k89 (by omega)
                      have hk9 : g.2 8 ≤ k89 := pn9.mp hv9
                      have mn9 : min (k89 + 1) (g.2 8) = min k89 (g.2 8) := by omega
                      refine tw_aloadN 0 dX5_digest_155 rfl ?_
                      refine tw_ifnullN 168 dX5_digest_157 (by decide) ?_
                      obtain ⟨v126, ev126⟩ : ∃ y : Int32, y = (nI k89) + 1 := ⟨_, rfl⟩
                      refine tw_iinc [(5, .int v126), (6, .null), (0, .ref x), (1, .long x88), (3, .ref da_7), (4, .int (nI 10))] 5 dX5_digest_168 rfl (by rw [ev126]; rfl) (by decide) rfl ?_
                      refine tw_goto 142 dX5_digest_171 (by decide) ?_
                      have qv126 := tw_nI3 ev126
                      rw [qv126]
                      refine tw_lv [2, 3, 4, 5, 0] rfl ?_
                      exact ih91 (k89 + 1) x88 (by rw [mn9]; exact li96) (by omega) (by omega)
                    | some q125 =>
                      have k127 := k83 _ _ k124
                      refine tw_aald (v := .ref q125) 6 rfl rfl dX5_digest_152 f81 (vp_in_nI (by omega) (by decide)) (by rw [k124]; rfl) ?_
                      refine tw_astore [(6, .ref q125), (0, .ref x), (1, .long x88), (3, .ref da_7), (4, .int (nI 10)), (5, .int (nI k89))] dX5_digest_153 (by decide) rfl ?_
                      have hv9 := k124
                      rw [nI_clamp (by omega)] at hv9
                      have pn9 := pn84 k89 (by omega)
                      have hk9 : k89 < g.2 8 := by rcases Nat.lt_or_ge k89 (g.2 8) with z | z; exact z; rw [pn9.mpr z] at hv9; cases hv9
                      have bq9 : g.2 (4096 + q125) = 1152 + 8 * k89 := pf87 _ _ hv9
                      have m09 : min k89 (g.2 8) = k89 := by omega
                      have m19 : min (k89 + 1) (g.2 8) = k89 + 1 := by omega
                      have hl9 := li96
                      rw [m09] at hl9
                      refine tw_aload 0 dX5_digest_155 rfl ?_
                      refine tw_ifnull dX5_digest_157 ?_
                      refine tw_aload_n 1 dX5_digest_160 rfl rfl ?_
                      refine tw_lload_n 2 dX5_digest_161 rfl rfl ?_
                      refine tw_aload 0 dX5_digest_162 rfl ?_
                      refine tw_bl (tw_callV (M := mX5_digest) (pc := 164) okX5_digestDebt dX5_digest_164 w_347 rfl f3 [.long x88, .ref q125] [] rfl rfl ⟨by decide, by decide⟩ (Nat.le_of_ble_eq_true rfl) (c4_X5_digestDebt d g τ h sp0.1 x kx x88 q125 k127 k89 hk9 bq9 hcx) 0 0 (Nat.le_of_ble_eq_true rfl) (Nat.le_of_ble_eq_true rfl)) (fun r130 h129 q128 => ?_) (fun E h1 q => q.elim)
                      obtain ⟨q128e, q128v⟩ := q128
                      rw [q128e]
                      refine tw_lstore_n [(1, .long r130), (6, .ref q125), (0, .ref x), (3, .ref da_7), (4, .int (nI 10)), (5, .int (nI k89))] dX5_digest_167 rfl (by decide) rfl ?_
                      obtain ⟨v131, ev131⟩ : ∃ y : Int32, y = (nI k89) + 1 := ⟨_, rfl⟩
                      refine tw_iinc [(5, .int v131), (1, .long r130), (6, .ref q125), (0, .ref x), (3, .ref da_7), (4, .int (nI 10))] 5 dX5_digest_168 rfl (by rw [ev131]; rfl) (by decide) rfl ?_
                      refine tw_goto 142 dX5_digest_171 (by decide) ?_
                      have qv131 := tw_nI3 ev131
                      rw [qv131]
                      refine tw_lv [3, 1, 4, 5, 0] rfl ?_
                      exact ih91 (k89 + 1) r130 (by rw [m19, tw_dgs_s, q128v, hl9]) (by omega) (by omega)
              refine tw_lv [3, 4, 2, 1, 0] rfl ?_
              exact L92 (10 + 1) 0 x68 (by rw [Nat.zero_min, tw_dgs_0]; have z := tw_kge (N := 6) c79 (by omega); have z2 := li76; rw [show min k69 (g.2 7) = g.2 7 by omega] at z2; exact z2) (by omega) (by omega)
            · have kl132 := tw_klt (N := 6) c79 hk78 (by decide)
              refine tw_aload_n 2 dX5_digest_105 rfl rfl ?_
              refine tw_iload 4 dX5_digest_106 rfl ?_
              cases k133 : F62 ((nI k69)).toNatClampNeg with
              | none =>
                refine tw_aald (v := .null) 5 rfl rfl dX5_digest_108 f61 (vp_in_nI (by omega) (by decide)) (by rw [k133]; rfl) ?_
                refine tw_astoreN [(6, .null), (0, .ref x), (1, .long x68), (3, .ref ha_6), (4, .int (nI 6)), (5, .int (nI k69))] dX5_digest_109 (by decide) rfl ?_
                have hv9 := k133
                rw [nI_clamp (by omega)] at hv9
                have pn9 := pn64 k69 (by omega)
                have hk9 : g.2 7 ≤ k69 := pn9.mp hv9
                have mn9 : min (k69 + 1) (g.2 7) = min k69 (g.2 7) := by omega
                refine tw_aloadN 0 dX5_digest_111 rfl ?_
                refine tw_ifnullN 124 dX5_digest_113 (by decide) ?_
                obtain ⟨v135, ev135⟩ : ∃ y : Int32, y = (nI k69) + 1 := ⟨_, rfl⟩
                refine tw_iinc [(5, .int v135), (6, .null), (0, .ref x), (1, .long x68), (3, .ref ha_6), (4, .int (nI 6))] 5 dX5_digest_124 rfl (by rw [ev135]; rfl) (by decide) rfl ?_
                refine tw_goto 98 dX5_digest_127 (by decide) ?_
                have qv135 := tw_nI3 ev135
                rw [qv135]
                refine tw_lv [2, 3, 4, 5, 0] rfl ?_
                exact ih71 (k69 + 1) x68 (by rw [mn9]; exact li76) (by omega) (by omega)
              | some q134 =>
                have k136 := k63 _ _ k133
                refine tw_aald (v := .ref q134) 5 rfl rfl dX5_digest_108 f61 (vp_in_nI (by omega) (by decide)) (by rw [k133]; rfl) ?_
                refine tw_astore [(6, .ref q134), (0, .ref x), (1, .long x68), (3, .ref ha_6), (4, .int (nI 6)), (5, .int (nI k69))] dX5_digest_109 (by decide) rfl ?_
                have hv9 := k133
                rw [nI_clamp (by omega)] at hv9
                have pn9 := pn64 k69 (by omega)
                have hk9 : k69 < g.2 7 := by rcases Nat.lt_or_ge k69 (g.2 7) with z | z; exact z; rw [pn9.mpr z] at hv9; cases hv9
                have bq9 : g.2 (4096 + q134) = 768 + 32 * k69 := pf67 _ _ hv9
                have m09 : min k69 (g.2 7) = k69 := by omega
                have m19 : min (k69 + 1) (g.2 7) = k69 + 1 := by omega
                have hl9 := li76
                rw [m09] at hl9
                refine tw_aload 0 dX5_digest_111 rfl ?_
                refine tw_ifnull dX5_digest_113 ?_
                refine tw_aload_n 1 dX5_digest_116 rfl rfl ?_
                refine tw_lload_n 2 dX5_digest_117 rfl rfl ?_
                refine tw_aload 0 dX5_digest_118 rfl ?_
                refine tw_bl (tw_callV (M := mX5_digest) (pc := 120) okX5_digestHouse dX5_digest_120 w_328 rfl f3 [.long x68, .ref q134] [] rfl rfl ⟨by decide, by decide⟩ (Nat.le_of_ble_eq_true rfl) (c4_X5_digestHouse d g τ h sp0.1 x kx x68 q134 k136 k69 hk9 bq9 hcw) 0 0 (Nat.le_of_ble_eq_true rfl) (Nat.le_of_ble_eq_true rfl)) (fun r139 h138 q137 => ?_) (fun E h1 q => q.elim)
                obtain ⟨q137e, q137v⟩ := q137
                rw [q137e]
                refine tw_lstore_n [(1, .long r139), (6, .ref q134), (0, .ref x), (3, .ref ha_6), (4, .int (nI 6)), (5, .int (nI k69))] dX5_digest_123 rfl (by decide) rfl ?_
                obtain ⟨v140, ev140⟩ : ∃ y : Int32, y = (nI k69) + 1 := ⟨_, rfl⟩
                refine tw_iinc [(5, .int v140), (1, .long r139), (6, .ref q134), (0, .ref x), (3, .ref ha_6), (4, .int (nI 6))] 5 dX5_digest_124 rfl (by rw [ev140]; rfl) (by decide) rfl ?_
                refine tw_goto 98 dX5_digest_127 (by decide) ?_
                have qv140 := tw_nI3 ev140
                rw [qv140]
                refine tw_lv [3, 1, 4, 5, 0] rfl ?_
                exact ih71 (k69 + 1) r139 (by rw [m19, tw_dgs_s, q137v, hl9]) (by omega) (by omega)
        refine tw_lv [3, 4, 2, 1, 0] rfl ?_
        exact L72 (6 + 1) 0 x48 (by rw [Nat.zero_min, tw_dgs_0]; have z := tw_kge (N := 4) c59 (by omega); have z2 := li56; rw [show min k49 (g.2 6) = g.2 6 by omega] at z2; exact z2) (by omega) (by omega)
      · have kl141 := tw_klt (N := 4) c59 hk58 (by decide)
        refine tw_aload_n 2 dX5_digest_61 rfl rfl ?_
        refine tw_iload 4 dX5_digest_62 rfl ?_
        cases k142 : F42 ((nI k49)).toNatClampNeg with
        | none =>
          refine tw_aald (v := .null) 4 rfl rfl dX5_digest_64 f41 (vp_in_nI (by omega) (by decide)) (by rw [k142]; rfl) ?_
          refine tw_astoreN [(6, .null), (0, .ref x), (1, .long x48), (3, .ref ca_5), (4, .int (nI 4)), (5, .int (nI k49))] dX5_digest_65 (by decide) rfl ?_
          have hv9 := k142
          rw [nI_clamp (by omega)] at hv9
          have pn9 := pn44 k49 (by omega)
          have hk9 : g.2 6 ≤ k49 := pn9.mp hv9
          have mn9 : min (k49 + 1) (g.2 6) = min k49 (g.2 6) := by omega
          refine tw_aloadN 0 dX5_digest_67 rfl ?_
          refine tw_ifnullN 80 dX5_digest_69 (by decide) ?_
          obtain ⟨v144, ev144⟩ : ∃ y : Int32, y = (nI k49) + 1 := ⟨_, rfl⟩
          refine tw_iinc [(5, .int v144), (6, .null), (0, .ref x), (1, .long x48), (3, .ref ca_5), (4, .int (nI 4))] 5 dX5_digest_80 rfl (by rw [ev144]; rfl) (by decide) rfl ?_
          refine tw_goto 54 dX5_digest_83 (by decide) ?_
          have qv144 := tw_nI3 ev144
          rw [qv144]
          refine tw_lv [2, 3, 4, 5, 0] rfl ?_
          exact ih51 (k49 + 1) x48 (by rw [mn9]; exact li56) (by omega) (by omega)
        | some q143 =>
          have k145 := k43 _ _ k142
          refine tw_aald (v := .ref q143) 4 rfl rfl dX5_digest_64 f41 (vp_in_nI (by omega) (by decide)) (by rw [k142]; rfl) ?_
          refine tw_astore [(6, .ref q143), (0, .ref x), (1, .long x48), (3, .ref ca_5), (4, .int (nI 4)), (5, .int (nI k49))] dX5_digest_65 (by decide) rfl ?_
          have hv9 := k142
          rw [nI_clamp (by omega)] at hv9
          have pn9 := pn44 k49 (by omega)
          have hk9 : k49 < g.2 6 := by rcases Nat.lt_or_ge k49 (g.2 6) with z | z; exact z; rw [pn9.mpr z] at hv9; cases hv9
          have bq9 : g.2 (4096 + q143) = 160 + 64 * k49 := pf47 _ _ hv9
          have m09 : min k49 (g.2 6) = k49 := by omega
          have m19 : min (k49 + 1) (g.2 6) = k49 + 1 := by omega
          have hl9 := li56
          rw [m09] at hl9
          refine tw_aload 0 dX5_digest_67 rfl ?_
          refine tw_ifnull dX5_digest_69 ?_
          refine tw_aload_n 1 dX5_digest_72 rfl rfl ?_
          refine tw_lload_n 2 dX5_digest_73 rfl rfl ?_
          refine tw_aload 0 dX5_digest_74 rfl ?_
          refine tw_bl (tw_callV (M := mX5_digest) (pc := 76) okX5_digestCountry dX5_digest_76 w_249 rfl f3 [.long x48, .ref q143] [] rfl rfl ⟨by decide, by decide⟩ (Nat.le_of_ble_eq_true rfl) (c4_X5_digestCountry d g τ h sp0.1 x kx x48 q143 k145 k49 hk9 bq9 hcw hec htc) 0 0 (Nat.le_of_ble_eq_true rfl) (Nat.le_of_ble_eq_true rfl)) (fun r148 h147 q146 => ?_) (fun E h1 q => q.elim)
          obtain ⟨q146e, q146v⟩ := q146
          rw [q146e]
          refine tw_lstore_n [(1, .long r148), (6, .ref q143), (0, .ref x), (3, .ref ca_5), (4, .int (nI 4)), (5, .int (nI k49))] dX5_digest_79 rfl (by decide) rfl ?_
          obtain ⟨v149, ev149⟩ : ∃ y : Int32, y = (nI k49) + 1 := ⟨_, rfl⟩
          refine tw_iinc [(5, .int v149), (1, .long r148), (6, .ref q143), (0, .ref x), (3, .ref ca_5), (4, .int (nI 4))] 5 dX5_digest_80 rfl (by rw [ev149]; rfl) (by decide) rfl ?_
          refine tw_goto 54 dX5_digest_83 (by decide) ?_
          have qv149 := tw_nI3 ev149
          rw [qv149]
          refine tw_lv [3, 1, 4, 5, 0] rfl ?_
          exact ih51 (k49 + 1) r148 (by rw [m19, tw_dgs_s, q146v, hl9]) (by omega) (by omega)
  refine tw_lv [4, 3, 2, 1, 0] rfl ?_
  exact L52 (4 + 1) 0 r39 (by rw [Nat.zero_min, tw_dgs_0, tw_dg1_e, q37v, q34v, ev33, ev31, ev30, ev1, ev29, ev32, k23] <;> rfl) (by omega) (by omega)

/-! the digest, the reference -/
def tw_dmK (g : tw_G) (j : Nat) (v : Int64) : Int64 := tw_dgf (fun k => tw_ld (g.2 22) k 10 (3001 - g.2 22) (g.2 22) (tw_DN (g.1 (480 + 64 * j + 16 + k)))) 2 (tw_dgf (fun k => tw_bno (tw_bM g j k 1000 (g.2 3)).1) 2 (tw_dgx (tw_dgf (tw_oM g j) 9 v) (tw_cd (tw_ch (tw_tl g (480 + 64 * j + 24)) 5 37))))
def tw_dw0 (g : tw_G) : Int64 := tw_dgx (tw_dgx 5573 (nI (g.2 22))) (g.1 1)
def tw_dw1 (g : tw_G) : Int64 := tw_dgs (fun k => tw_dgf (fun w => nI (tw_wM g k w)) 6) 2 (tw_dw0 g)
def tw_dw2 (g : tw_G) : Int64 := tw_dgs (tw_dmK g) (g.2 3) (tw_dw1 g)
def tw_dw3 (g : tw_G) : Int64 := tw_dgs (fun j => tw_dgf (tw_hM g j) 8) (g.2 4) (tw_dw2 g)
def tw_dw4 (g : tw_G) : Int64 := tw_dgs (fun j => tw_dgf (fun w => tw_dM g j (4 + w)) 3) (g.2 5) (tw_dw3 g)
def tw_dgM (g : tw_G) : Int64 := tw_dgx (tw_dgx (tw_dw4 g) (tw_rbi (tw_rM g 1000 (g.2 3)))) 1
set_option maxHeartbeats 4000000 in
set_option maxRecDepth 100000 in
theorem c4_X10_digest (d : tw_D) (g : tw_G) (τ : tw_K) (h : tw_H) (hw : tw_wt d g τ h) (x : Nat) (kx : τ x = 36) (o : Nat) (ko : τ o = 12) (he : tw_AM 59000000 g) (he9 : tw_MH g) (hm : tw_EM g) (hT9 : g.2 22 ≤ 3000) (hk9 : tw_MW g) (hs9 : ∀ i, i < g.2 4 → g.1 (960 + 32 * i + 1) ≠ -1 → tw_mP g i < g.2 3) (hso : tw_SQ g) : tw_Ct d mX10_digest 866 4596 [.ref x] h (tw_ql (fun r h1 => tw_sp d τ h g τ h1 ∧ h1 o = h o ∧ r = tw_dgM g) tw_nx) := by
  refine tw_of (by decide +kernel) (Nat.le_of_ble_eq_true rfl) ?_
  show tw_W d mX10_digest _ 0 [(0, .ref x)] [] h 866 4596
  have sp0 := tw_sp.rf hw
  have oq0 : h o = h o := rfl
  have b93 := tw_b3 hw kx
  have b94 := tw_b4 hw kx
  have b95 := tw_b5 hw kx
  refine tw_aload_n 0 dX10_digest_0 rfl rfl ?_
  refine tw_iconst (v := 0) dX10_digest_1 (by decide) ?_
  obtain ⟨e1, f2, th_3, td_4, ds_5, fr_6, ca_7, us_8, wo_9, cm_10, lc_11, lh_12, ld_13, rfl, k14, k15, k16, k17, k18, k19, k20, k21, k22, k23, k24, k25, k26, k27, k28, k29, k30, k31, k32, k33, k34, k35⟩ := sp0.1 x 36 kx (by decide)
  refine tw_put rfl in_14 tyX10 tyX10_ok nmX10 0 dX10_digest_2 w_1151 rfl (by decide) f2 rfl rfl rfl rfl (Nat.le_of_ble_eq_true rfl) [.int 0, .int td_4, .int (g.1 1), .ref ds_5, .ref fr_6, .ref ca_7, .ref us_8, .ref wo_9, .ref cm_10, .ref lc_11, .ref lh_12, .ref ld_13] rfl ?_
  obtain ⟨h36, eh36⟩ : ∃ z : tw_H, z = tw_up h x (.inr (14, [.int 0, .int td_4, .int (g.1 1), .ref ds_5, .ref fr_6, .ref ca_7, .ref us_8, .ref wo_9, .ref cm_10, .ref lc_11, .ref lh_12, .ref ld_13])) := ⟨_, rfl⟩
  rw [← eh36]
  have oq37 : h36 o = h o := by rw [eh36, tw_up_n (tw_nk ko kx (by decide))] <;> exact oq0
  have sp38 : tw_sp d τ h g τ h36 := by rw [eh36]; exact sp0.set kx (by decide) ⟨0, td_4, ds_5, fr_6, ca_7, us_8, wo_9, cm_10, lc_11, lh_12, ld_13, rfl, k14, k15, k16, k17, k18, k19, k20, k21, k22, k23, k24, k25, k26, (by decide), k28, k29, k30, k31, k32, k33, k34, k35⟩
  have f39 : h36 x = some (.inr (14, [.int 0, .int td_4, .int (g.1 1), .ref ds_5, .ref fr_6, .ref ca_7, .ref us_8, .ref wo_9, .ref cm_10, .ref lc_11, .ref lh_12, .ref ld_13])) := by rw [eh36]; exact tw_up_s
  refine tw_ldc2 (v := 5573) dX10_digest_5 w_1593 ?_
  refine tw_lstore_n [(1, .long 5573), (0, .ref x)] dX10_digest_8 rfl (by decide) rfl ?_
  refine tw_lload_n 0 dX10_digest_9 rfl rfl ?_
  refine tw_ldc2 (v := 31) dX10_digest_10 w_1594 ?_
  refine tw_lmul dX10_digest_13 ?_
  refine tw_nml (fun v40 ev40 => ?_)
  refine tw_aload_n 1 dX10_digest_14 rfl rfl ?_
  refine tw_get (v := .int td_4) rfl in_14 1 dX10_digest_15 w_1152 rfl (by decide) f39 rfl ?_
  refine tw_i2l dX10_digest_18 ?_
  refine tw_nml (fun v41 ev41 => ?_)
  refine tw_ladd dX10_digest_19 ?_
  refine tw_nml (fun v42 ev42 => ?_)
  refine tw_lstore_n [(1, .long v42), (0, .ref x)] dX10_digest_20 rfl (by decide) rfl ?_
  refine tw_lload_n 0 dX10_digest_21 rfl rfl ?_
  refine tw_ldc2 (v := 31) dX10_digest_22 w_1594 ?_
  refine tw_lmul dX10_digest_25 ?_
  refine tw_nml (fun v43 ev43 => ?_)
  refine tw_aload_n 1 dX10_digest_26 rfl rfl ?_
  refine tw_get (v := .int (g.1 1)) rfl in_14 2 dX10_digest_27 w_1153 rfl (by decide) f39 rfl ?_
  refine tw_i2l dX10_digest_30 ?_
  refine tw_nml (fun v44 ev44 => ?_)
  refine tw_ladd dX10_digest_31 ?_
  refine tw_nml (fun v45 ev45 => ?_)
  refine tw_lstore_n [(1, .long v45), (0, .ref x)] dX10_digest_32 rfl (by decide) rfl ?_
  refine tw_iconst (v := 0) dX10_digest_33 (by decide) ?_
  refine tw_istore_n [(3, .int 0), (1, .long v45), (0, .ref x)] dX10_digest_34 rfl (by decide) rfl ?_
  have L50 : ∀ (r48 k47 : Nat) (x46 : Int64) (h51 : tw_H) (sp52 : tw_sp d τ h36 g τ h51) (li53 : (x46 = tw_dgs (fun k => tw_dgf (fun w => nI (tw_wM g k w)) 6) k47 (tw_dw0 g)) ∧ h51 o = h o), 2 + 1 ≤ k47 + r48 → k47 ≤ 2 → tw_W d mX10_digest (tw_ql (fun r h1 => tw_sp d τ h g τ h1 ∧ h1 o = h o ∧ r = tw_dgM g) tw_nx) 35 [(0, .ref x), (1, .long x46), (3, .int (nI k47))] [] h51 (803 + 21 * r48) (4302 + 98 * r48) := by
    intro r48
    induction r48 with
    | zero => intro k47 x46 h51 sp52 li53 hk54 hk55; exact absurd hk54 (by omega)
    | succ r48 ih49 =>
      intro k47 x46 h51 sp52 li53 hk54 hk55
      refine tw_iload_n 2 dX10_digest_35 rfl rfl ?_
      refine tw_iconst (v := 2) dX10_digest_36 (by decide) ?_
      refine tw_icmp_ge 76 dX10_digest_37 (by decide) (fun c56 => ?_) (fun c56 => ?_)
      · refine tw_iconst (v := 0) dX10_digest_76 (by decide) ?_
        refine tw_istore_n [(3, .int 0), (0, .ref x), (1, .long x46)] dX10_digest_77 rfl (by decide) rfl ?_
        have L61 : ∀ (r59 k58 : Nat) (x57 : Int64) (h62 : tw_H) (sp63 : tw_sp d τ h51 g τ h62) (li64 : (x57 = tw_dgs (tw_dmK g) k58 (tw_dw1 g)) ∧ h62 o = h o), (g.2 3) + 1 ≤ k58 + r59 → k58 ≤ (g.2 3) → tw_W d mX10_digest (tw_ql (fun r h1 => tw_sp d τ h g τ h1 ∧ h1 o = h o ∧ r = tw_dgM g) tw_nx) 78 [(0, .ref x), (1, .long x57), (3, .int (nI k58))] [] h62 (((803 + 21 * (r48 + 1)) - 570) + 114 * r59) (((4302 + 98 * (r48 + 1)) - 2950) + 590 * r59) := by
          intro r59
          induction r59 with
          | zero => intro k58 x57 h62 sp63 li64 hk65 hk66; exact absurd hk65 (by omega)
          | succ r59 ih60 =>
            intro k58 x57 h62 sp63 li64 hk65 hk66
            refine tw_iload_n 2 dX10_digest_78 rfl rfl ?_
            refine tw_aload_n 0 dX10_digest_79 rfl rfl ?_
            obtain ⟨e67, f68, th_69, td_70, ds_71, fr_72, ca_73, us_74, wo_75, cm_76, lc_77, lh_78, ld_79, rfl, k80, k81, k82, k83, k84, k85, k86, k87, k88, k89, k90, k91, k92, k93, k94, k95, k96, k97, k98, k99, k100, k101⟩ := sp63.1 x 36 kx (by decide)
            refine tw_get (v := .ref lc_77) rfl in_14 9 dX10_digest_80 w_1160 rfl (by decide) f68 rfl ?_
            obtain ⟨e105, f106, ⟨el107, rfl, k108⟩, k109⟩ := sp63.1 lc_77 24 k86 (by decide)
            refine tw_bi (tw_callV (M := mX10_digest) (pc := 83) okJx4a65c_size_8abf5 dX10_digest_83 w_1204 rfl f106 [] [.int (nI k58)] rfl rfl ⟨by decide, by decide⟩ (Nat.le_of_ble_eq_true rfl) (c24_size d g τ h62 sp63.1 lc_77 k86) (((803 + 21 * (r48 + 1)) - 570) + 114 * (r59 + 1)) (((4302 + 98 * (r48 + 1)) - 2950) + 590 * (r59 + 1)) (by omega) (by omega)) (fun r112 h111 q110 => ?_) (fun E h1 q => q.elim)
            obtain ⟨q110e, q110r⟩ := q110
            rw [q110e, q110r]
            refine tw_icmp_ge 206 dX10_digest_86 (by decide) (fun c113 => ?_) (fun c113 => ?_)
            · refine tw_iconst (v := 0) dX10_digest_206 (by decide) ?_
              refine tw_istore_n [(3, .int 0), (0, .ref x), (1, .long x57)] dX10_digest_207 rfl (by decide) rfl ?_
              have L118 : ∀ (r116 k115 : Nat) (x114 : Int64) (h119 : tw_H) (sp120 : tw_sp d τ h62 g τ h119) (li121 : (x114 = tw_dgs (fun j => tw_dgf (tw_hM g j) 8) k115 (tw_dw2 g)) ∧ h119 o = h o), (g.2 4) + 1 ≤ k115 + r116 → k115 ≤ (g.2 4) → tw_W d mX10_digest (tw_ql (fun r h1 => tw_sp d τ h g τ h1 ∧ h1 o = h o ∧ r = tw_dgM g) tw_nx) 208 [(0, .ref x), (1, .long x114), (3, .int (nI k115))] [] h119 (((((803 + 21 * (r48 + 1)) - 570) + 114 * (r59 + 1)) - 126) + 18 * r116) (((((4302 + 98 * (r48 + 1)) - 2950) + 590 * (r59 + 1)) - 756) + 108 * r116) := by
                intro r116
                induction r116 with
                | zero => intro k115 x114 h119 sp120 li121 hk122 hk123; exact absurd hk122 (by omega)
                | succ r116 ih117 =>
                  intro k115 x114 h119 sp120 li121 hk122 hk123
                  refine tw_iload_n 2 dX10_digest_208 rfl rfl ?_
                  refine tw_aload_n 0 dX10_digest_209 rfl rfl ?_
                  obtain ⟨e124, f125, th_126, td_127, ds_128, fr_129, ca_130, us_131, wo_132, cm_133, lc_134, lh_135, ld_136, rfl, k137, k138, k139, k140, k141, k142, k143, k144, k145, k146, k147, k148, k149, k150, k151, k152, k153, k154, k155, k156, k157, k158⟩ := sp120.1 x 36 kx (by decide)
                  refine tw_get (v := .ref lh_135) rfl in_14 10 dX10_digest_210 w_1161 rfl (by decide) f125 rfl ?_
                  obtain ⟨e162, f163, ⟨el164, rfl, k165⟩, k166⟩ := sp120.1 lh_135 25 k144 (by decide)
                  refine tw_bi (tw_callV (M := mX10_digest) (pc := 213) okJx4a65c_size_8abf5 dX10_digest_213 w_1204 rfl f163 [] [.int (nI k115)] rfl rfl ⟨by decide, by decide⟩ (Nat.le_of_ble_eq_true rfl) (c25_size d g τ h119 sp120.1 lh_135 k144) (((((803 + 21 * (r48 + 1)) - 570) + 114 * (r59 + 1)) - 126) + 18 * (r116 + 1)) (((((4302 + 98 * (r48 + 1)) - 2950) + 590 * (r59 + 1)) - 756) + 108 * (r116 + 1)) (by omega) (by omega)) (fun r169 h168 q167 => ?_) (fun E h1 q => q.elim)
                  obtain ⟨q167e, q167r⟩ := q167
                  rw [q167e, q167r]
                  refine tw_icmp_ge 256 dX10_digest_216 (by decide) (fun c170 => ?_) (fun c170 => ?_)
                  · refine tw_aload_n 0 dX10_digest_256 rfl rfl ?_
                    refine tw_get (v := .ref ld_136) rfl in_14 11 dX10_digest_257 w_1162 rfl (by decide) f125 rfl ?_
                    obtain ⟨e174, f175, ⟨el176, rfl, k177⟩, k178⟩ := sp120.1 ld_136 26 k145 (by decide)
                    refine tw_br (tw_callV (M := mX10_digest) (pc := 260) okJx4a65c_iterator_32c93 dX10_digest_260 w_1382 rfl f175 [] [] rfl rfl ⟨by decide, by decide⟩ (Nat.le_of_ble_eq_true rfl) (c_iterator d h119 ld_136 el176 (g.1 5) (nI (g.2 5)) f175) ((((((803 + 21 * (r48 + 1)) - 570) + 114 * (r59 + 1)) - 126) + 18 * (r116 + 1)) - 1) ((((((4302 + 98 * (r48 + 1)) - 2950) + 590 * (r59 + 1)) - 756) + 108 * (r116 + 1)) - 4) (by omega) (by omega)) (fun it179 h180 q181 => ?_) (fun E h1 q => q.elim)
                    obtain ⟨q181n, q181e⟩ := q181
                    rw [q181e]
                    have n182 := sp120.nn q181n
                    have z183 := sp120.1.none q181n
                    obtain ⟨h184, eh184⟩ : ∃ z : tw_H, z = tw_up h119 it179 (.inr (2, [.int 0, .int (-1), .int (g.1 5), .ref ld_136])) := ⟨_, rfl⟩
                    rw [← eh184]
                    have oq185 : h184 o = h o := by rw [eh184, tw_up_n (tw_kF sp120.1 ko (by decide) q181n)] <;> exact li121.2
                    have sp186 : tw_sp d τ h62 g τ h184 := by rw [eh184]; exact sp120.mk q181n
                    have f187 : h184 it179 = some (.inr (2, [.int 0, .int (-1), .int (g.1 5), .ref ld_136])) := by rw [eh184]; exact tw_up_s
                    refine tw_astore_n [(3, .ref it179), (0, .ref x), (1, .long x114)] dX10_digest_263 rfl (by decide) rfl ?_
                    have L193 : ∀ (r189 j190 : Nat) (l191 : Int32) (x188 : Int64) (h194 : tw_H) (sp195 : tw_sp d τ (tw_rm h184 it179) g τ h194) (ft196 : h194 it179 = some (.inr (2, [.int (nI j190), .int l191, .int (g.1 5), .ref ld_136]))) (zt197 : τ it179 = 0) (oq198 : h194 o = h o) (li199 : x188 = tw_dgs (fun j => tw_dgf (fun w => tw_dM g j (4 + w)) 3) j190 (tw_dw3 g)), g.2 5 + 1 ≤ j190 + r189 → j190 ≤ g.2 5 → tw_W d mX10_digest (tw_ql (fun r h1 => tw_sp d τ h g τ h1 ∧ h1 o = h o ∧ r = tw_dgM g) tw_nx) 264 [(0, .ref x), (1, .long x188), (3, .ref it179)] [] h194 ((((((((803 + 21 * (r48 + 1)) - 570) + 114 * (r59 + 1)) - 126) + 18 * (r116 + 1)) - 1) - 44) + 4 * r189) ((((((((4302 + 98 * (r48 + 1)) - 2950) + 590 * (r59 + 1)) - 756) + 108 * (r116 + 1)) - 4) - 308) + 28 * r189) := by
                      intro r189
                      induction r189 with
                      | zero => intro j190 l191 x188 h194 sp195 ft196 zt197 oq198 li199 hk200 hk201; exact absurd hk200 (by omega)
                      | succ r189 ih192 =>
                        intro j190 l191 x188 h194 sp195 ft196 zt197 oq198 li199 hk200 hk201
                        refine tw_aload_n 2 dX10_digest_264 rfl rfl ?_
                        obtain ⟨e205, f206, ⟨el207, rfl, k208⟩, k209⟩ := sp195.1 ld_136 26 k145 (by decide)
                        refine tw_bi (tw_callF (M := mX10_digest) (pc := 265) (n9 := 0) (ci := 2) tw_hasNext ok_itHas w_1412 w_1410 (fun s H z => z.2.2.2.2.2.2.2.2.1) (by decide +kernel) dX10_digest_265 w_1406 rfl ft196 [] [] rfl rfl ⟨by decide, by decide⟩ (Nat.le_of_ble_eq_true rfl) (c_hasNext d h194 it179 ld_136 el207 j190 (g.2 5) l191 (g.1 5) (g.1 5) ft196 f206 (by omega) (tw_lim26 sp195.1 k145)) ((((((((803 + 21 * (r48 + 1)) - 570) + 114 * (r59 + 1)) - 126) + 18 * (r116 + 1)) - 1) - 44) + 4 * (r189 + 1)) ((((((((4302 + 98 * (r48 + 1)) - 2950) + 590 * (r59 + 1)) - 756) + 108 * (r116 + 1)) - 4) - 308) + 28 * (r189 + 1)) (by omega) (by omega)) (fun r212 h211 q210 => ?_) (fun E h1 q => q.elim)
                        obtain ⟨q210e, q210q⟩ := q210
                        rw [q210e]
                        rcases q210q with ⟨q210r, q210j⟩ | ⟨q210r, q210j⟩
                        · rw [q210r]
                          refine tw_if_eq 319 dX10_digest_270 (by decide) (fun _ => ?_) (fun c213 => absurd (by decide) c213)
                          have s49 := li199
                          rw [show j190 = g.2 5 by have z := q210j; omega] at s49
                          refine tw_lload_n 1 dX10_digest_319 rfl rfl ?_
                          refine tw_ldc2 (v := 31) dX10_digest_320 w_1594 ?_
                          refine tw_lmul dX10_digest_323 ?_
                          refine tw_nml (fun v214 ev214 => ?_)
                          refine tw_aload_n 0 dX10_digest_324 rfl rfl ?_
                          refine tw_sipush (v := 1000) dX10_digest_325 (by decide) ?_
                          obtain ⟨e218, f219, th_220, td_221, ds_222, fr_223, ca_224, us_225, wo_226, cm_227, lc_228, lh_229, ld_230, rfl, k231, k232, k233, k234, k235, k236, k237, k238, k239, k240, k241, k242, k243, k244, k245, k246, k247, k248, k249, k250, k251, k252⟩ := sp195.1 x 36 kx (by decide)
                          refine tw_bi (tw_callV (M := mX10_digest) (pc := 328) okX10_restNow dX10_digest_328 w_1569 rfl f219 [.int 1000] [.long v214] rfl rfl ⟨by decide, by decide⟩ (Nat.le_of_ble_eq_true rfl) (c3_X10_restNow d g τ h194 sp195.1 x kx 1000 1000 rfl (by decide) hm) ((((((((803 + 21 * (r48 + 1)) - 570) + 114 * (r59 + 1)) - 126) + 18 * (r116 + 1)) - 1) - 44) + 4 * (r189 + 1)) ((((((((4302 + 98 * (r48 + 1)) - 2950) + 590 * (r59 + 1)) - 756) + 108 * (r116 + 1)) - 4) - 308) + 28 * (r189 + 1)) (by omega) (by omega)) (fun r217 h216 q215 => ?_) (fun E h1 q => q.elim)
                          obtain ⟨q215e, q215v⟩ := q215
                          rw [q215e]
                          refine tw_if_eq 338 dX10_digest_331 (by decide) (fun c253 => ?_) (fun c253 => ?_)
                          · have rb9 := tw_rbi_0 q215v c253
                            refine tw_iconst (v := 0) dX10_digest_338 (by decide) ?_
                            refine tw_i2l dX10_digest_339 ?_
                            refine tw_nml (fun v254 ev254 => ?_)
                            refine tw_ladd dX10_digest_340 ?_
                            refine tw_nml (fun v255 ev255 => ?_)
                            refine tw_lstore_n [(1, .long v255), (0, .ref x), (3, .ref it179)] dX10_digest_341 rfl (by decide) rfl ?_
                            refine tw_lload_n 0 dX10_digest_342 rfl rfl ?_
                            refine tw_ldc2 (v := 31) dX10_digest_343 w_1594 ?_
                            refine tw_lmul dX10_digest_346 ?_
                            refine tw_nml (fun v256 ev256 => ?_)
                            refine tw_aload_n 1 dX10_digest_347 rfl rfl ?_
                            refine tw_bi (tw_callV (M := mX10_digest) (pc := 348) okX10_isSoundNow dX10_digest_348 w_1585 rfl f219 [] [.long v256] rfl rfl ⟨by decide, by decide⟩ (Nat.le_of_ble_eq_true rfl) (c4_X10_isSoundNow d g τ h194 sp195.1 x kx o ko he hso) (((((((((803 + 21 * (r48 + 1)) - 570) + 114 * (r59 + 1)) - 126) + 18 * (r116 + 1)) - 1) - 44) + 4 * (r189 + 1)) - 62) (((((((((4302 + 98 * (r48 + 1)) - 2950) + 590 * (r59 + 1)) - 756) + 108 * (r116 + 1)) - 4) - 308) + 28 * (r189 + 1)) - 284) (by omega) (by omega)) (fun r259 h258 q257 => ?_) (fun E h1 q => q.elim)
                            obtain ⟨q257s, q257t, q257o, q257v⟩ := q257
                            have sp260 := sp195.tr q257s
                            have oq261 := q257o.trans oq198
                            have f262 := (q257s.2.2 _ _ ft196 zt197).1
                            rw [q257v]
                            refine tw_if_eq 358 dX10_digest_351 (by decide) (fun c263 => absurd c263 (by decide)) (fun _ => ?_)
                            refine tw_iconst (v := 1) dX10_digest_354 (by decide) ?_
                            refine tw_goto 359 dX10_digest_355 (by decide) ?_
                            refine tw_i2l dX10_digest_359 ?_
                            refine tw_nml (fun v264 ev264 => ?_)
                            refine tw_ladd dX10_digest_360 ?_
                            refine tw_nml (fun v265 ev265 => ?_)
                            exact tw_lret dX10_digest_361 rfl (Or.inl ⟨_, rfl, (sp38.tr (sp52.tr (sp63.tr (sp186.trm n182 sp260)))), oq261, by show _ = tw_dgx (tw_dgx (tw_dw4 g) _) 1; rw [rb9, show tw_dw4 g = _ from s49.symm, ev265, ev256, ev255, ev214, ev254, ev264]; rfl⟩)
                          · have rb9 := tw_rbi_1 q215v c253
                            refine tw_iconst (v := 1) dX10_digest_334 (by decide) ?_
                            refine tw_goto 339 dX10_digest_335 (by decide) ?_
                            refine tw_i2l dX10_digest_339 ?_
                            refine tw_nml (fun v266 ev266 => ?_)
                            refine tw_ladd dX10_digest_340 ?_
                            refine tw_nml (fun v267 ev267 => ?_)
                            refine tw_lstore_n [(1, .long v267), (0, .ref x), (3, .ref it179)] dX10_digest_341 rfl (by decide) rfl ?_
                            refine tw_lload_n 0 dX10_digest_342 rfl rfl ?_
                            refine tw_ldc2 (v := 31) dX10_digest_343 w_1594 ?_
                            refine tw_lmul dX10_digest_346 ?_
                            refine tw_nml (fun v268 ev268 => ?_)
                            refine tw_aload_n 1 dX10_digest_347 rfl rfl ?_
                            refine tw_bi (tw_callV (M := mX10_digest) (pc := 348) okX10_isSoundNow dX10_digest_348 w_1585 rfl f219 [] [.long v268] rfl rfl ⟨by decide, by decide⟩ (Nat.le_of_ble_eq_true rfl) (c4_X10_isSoundNow d g τ h194 sp195.1 x kx o ko he hso) (((((((((803 + 21 * (r48 + 1)) - 570) + 114 * (r59 + 1)) - 126) + 18 * (r116 + 1)) - 1) - 44) + 4 * (r189 + 1)) - 62) (((((((((4302 + 98 * (r48 + 1)) - 2950) + 590 * (r59 + 1)) - 756) + 108 * (r116 + 1)) - 4) - 308) + 28 * (r189 + 1)) - 284) (by omega) (by omega)) (fun r271 h270 q269 => ?_) (fun E h1 q => q.elim)
                            obtain ⟨q269s, q269t, q269o, q269v⟩ := q269
                            have sp272 := sp195.tr q269s
                            have oq273 := q269o.trans oq198
                            have f274 := (q269s.2.2 _ _ ft196 zt197).1
                            rw [q269v]
                            refine tw_if_eq 358 dX10_digest_351 (by decide) (fun c275 => absurd c275 (by decide)) (fun _ => ?_)
                            refine tw_iconst (v := 1) dX10_digest_354 (by decide) ?_
                            refine tw_goto 359 dX10_digest_355 (by decide) ?_
                            refine tw_i2l dX10_digest_359 ?_
                            refine tw_nml (fun v276 ev276 => ?_)
                            refine tw_ladd dX10_digest_360 ?_
                            refine tw_nml (fun v277 ev277 => ?_)
                            exact tw_lret dX10_digest_361 rfl (Or.inl ⟨_, rfl, (sp38.tr (sp52.tr (sp63.tr (sp186.trm n182 sp272)))), oq273, by show _ = tw_dgx (tw_dgx (tw_dw4 g) _) 1; rw [rb9, show tw_dw4 g = _ from s49.symm, ev277, ev268, ev267, ev214, ev266, ev276]; rfl⟩)
                        · rw [q210r]
                          refine tw_if_eq 319 dX10_digest_270 (by decide) (fun c278 => absurd c278 (by decide)) (fun _ => ?_)
                          refine tw_aload_n 2 dX10_digest_273 rfl rfl ?_
                          have k282 : τ el207 = 29 := k208.resolve_left (fun q => absurd q210j (by rw [q.2.1]; exact Nat.not_lt_zero _))
                          obtain ⟨e283, f284, ⟨F285, rfl, hc286, hc287⟩, un288⟩ := sp195.1 el207 29 k282 (by decide)
                          obtain ⟨y289, hy290, ky291⟩ := hc287 j190 q210j
                          refine tw_br (tw_callF (M := mX10_digest) (pc := 274) (n9 := 0) (ci := 2) tw_next ok_itNext w_1421 w_1419 (fun s H z => z.2.2.2.2.2.2.2.2.2) (by decide +kernel) dX10_digest_274 w_1416 rfl ft196 [] [] rfl rfl ⟨by decide, by decide⟩ (Nat.le_of_ble_eq_true rfl) (c_next d h194 it179 ld_136 el207 j190 (g.2 5) y289 l191 (g.1 5) F285 ft196 f206 f284 q210j hc286 hy290) ((((((((803 + 21 * (r48 + 1)) - 570) + 114 * (r59 + 1)) - 126) + 18 * (r116 + 1)) - 1) - 44) + 4 * (r189 + 1)) ((((((((4302 + 98 * (r48 + 1)) - 2950) + 590 * (r59 + 1)) - 756) + 108 * (r116 + 1)) - 4) - 308) + 28 * (r189 + 1)) (by omega) (by omega)) (fun r294 h293 q292 => ?_) (fun E h1 q => q.elim)
                          obtain ⟨q292r, q292e⟩ := q292
                          rw [q292r]
                          have sp295 : tw_sp d τ (tw_rm h184 it179) g τ h293 := by rw [q292e]; exact sp195.wl tw_rm_s zt197
                          have id296 : g.2 (4096 + y289) = 1232 + 8 * j190 := un288.2.2 _ _ F285 rfl j190 y289 q210j hy290
                          have oq297 : h293 o = h o := by rw [q292e, tw_up_n (tw_nk ko zt197 (by decide))] <;> exact oq198
                          have f298 : h293 it179 = some (.inr (2, [.int (nI (j190 + 1)), .int (nI j190), .int (g.1 5), .ref ld_136])) := by rw [q292e]; exact tw_up_s
                          obtain ⟨e299, f300, v_301, dy_302, pd_303, i_304, j_305, rfl, k306, k307, k308, k309⟩ := sp295.1 y289 22 ky291 (by decide)
                          obtain ⟨j310, ow311, fv9, fd9, fp9, ei312, ej313⟩ := k309
                          obtain rfl : j190 = j310 := by have z := ow311.b id296; omega
                          subst fv9 fd9 fp9
                          refine tw_castS (ci := 12) rfl dX10_digest_279 w_1433 f300 ?_
                          refine tw_astore [(4, .ref y289), (0, .ref x), (1, .long x188), (3, .ref it179)] dX10_digest_282 (by decide) rfl ?_
                          refine tw_iconst (v := 4) dX10_digest_284 (by decide) ?_
                          refine tw_istore [(5, .int 4), (4, .ref y289), (0, .ref x), (1, .long x188), (3, .ref it179)] dX10_digest_285 (by decide) rfl ?_
                          have L318 : ∀ (r316 k315 : Nat) (x314 : Int64) (h319 : tw_H) (sp320 : tw_sp d τ h293 g τ h319) (li321 : (4 ≤ k315 ∧ x314 = tw_dgf (fun w => tw_dM g j190 (4 + w)) (k315 - 4) x188) ∧ h319 o = h o), 7 + 1 ≤ k315 + r316 → k315 ≤ 7 → tw_W d mX10_digest (tw_ql (fun r h1 => tw_sp d τ h g τ h1 ∧ h1 o = h o ∧ r = tw_dgM g) tw_nx) 287 [(0, .ref x), (1, .long x314), (3, .ref it179), (4, .ref y289), (5, .int (nI k315))] [] h319 ((((((((((803 + 21 * (r48 + 1)) - 570) + 114 * (r59 + 1)) - 126) + 18 * (r116 + 1)) - 1) - 44) + 4 * (r189 + 1)) - 4) + 1 * r316) ((((((((((4302 + 98 * (r48 + 1)) - 2950) + 590 * (r59 + 1)) - 756) + 108 * (r116 + 1)) - 4) - 308) + 28 * (r189 + 1)) - 28) + 7 * r316) := by
                            intro r316
                            induction r316 with
                            | zero => intro k315 x314 h319 sp320 li321 hk322 hk323; exact absurd hk322 (by omega)
                            | succ r316 ih317 =>
                              intro k315 x314 h319 sp320 li321 hk322 hk323
                              have f324 := (sp320.2.2 _ _ f298 zt197).1
                              have z325 := (sp320.2.2 _ _ f298 zt197).2
                              refine tw_iload 4 dX10_digest_287 rfl ?_
                              refine tw_bipush (v := 6) dX10_digest_289 (by decide) ?_
                              refine tw_icmp_gt 316 dX10_digest_291 (by decide) (fun c326 => ?_) (fun c326 => ?_)
                              · refine tw_goto 264 dX10_digest_316 (by decide) ?_
                                refine tw_lv [0, 1, 2] rfl ?_
                                refine tw_less (c2 := (((((((803 + 21 * (r48 + 1)) - 570) + 114 * (r59 + 1)) - 126) + 18 * (r116 + 1)) - 1) - 44) + 4 * r189) (n2 := (((((((4302 + 98 * (r48 + 1)) - 2950) + 590 * (r59 + 1)) - 756) + 108 * (r116 + 1)) - 4) - 308) + 28 * r189) (by omega) (by omega) ?_
                                exact ih192 ((j190 + 1)) (nI j190) x314 _ (sp295.tr sp320) f324 z325 li321.2 (by have z287 := (tw_gt5 (n := 6) c326 (by omega) (by decide)); have y287 := li321.1; rw [show k315 = 7 by omega] at y287; rw [tw_dgs_s, y287.2, li199] <;> rfl) (by omega) (by omega)
                              · have kl327 : k315 < 7 := tw_kle (N := 7) c326 hk323 (by decide)
                                refine tw_lload_n 1 dX10_digest_294 rfl rfl ?_
                                refine tw_ldc2 (v := 31) dX10_digest_295 w_1594 ?_
                                refine tw_lmul dX10_digest_298 ?_
                                refine tw_nml (fun v328 ev328 => ?_)
                                refine tw_aload_n 0 dX10_digest_299 rfl rfl ?_
                                refine tw_aload 3 dX10_digest_300 rfl ?_
                                refine tw_iload 4 dX10_digest_302 rfl ?_
                                obtain ⟨e332, f333, th_334, td_335, ds_336, fr_337, ca_338, us_339, wo_340, cm_341, lc_342, lh_343, ld_344, rfl, k345, k346, k347, k348, k349, k350, k351, k352, k353, k354, k355, k356, k357, k358, k359, k360, k361, k362, k363, k364, k365, k366⟩ := sp320.1 x 36 kx (by decide)
                                refine tw_bi (tw_callV (M := mX10_digest) (pc := 304) okX10_ofDebtNow dX10_digest_304 w_1521 rfl f333 [.ref y289, .int (nI k315)] [.long v328] rfl rfl ⟨by decide, by decide⟩ (Nat.le_of_ble_eq_true rfl) (c4_X10_ofDebtNow d g τ h319 sp320.1 x kx y289 ky291 j190 (by omega) (by omega) id296 k315 (by omega) o ko he9 hm hT9 hk9 hs9) (((((((((((803 + 21 * (r48 + 1)) - 570) + 114 * (r59 + 1)) - 126) + 18 * (r116 + 1)) - 1) - 44) + 4 * (r189 + 1)) - 4) + 1 * (r316 + 1)) - 1) (((((((((((4302 + 98 * (r48 + 1)) - 2950) + 590 * (r59 + 1)) - 756) + 108 * (r116 + 1)) - 4) - 308) + 28 * (r189 + 1)) - 28) + 7 * (r316 + 1)) - 7) (by omega) (by omega)) (fun r331 h330 q329 => ?_) (fun E h1 q => q.elim)
                                obtain ⟨q329s, q329t, q329o, q329v⟩ := q329
                                have sp367 := sp320.tr q329s
                                have oq368 := q329o.trans li321.2
                                have f369 := (q329s.2.2 _ _ f324 z325).1
                                refine tw_i2l dX10_digest_307 ?_
                                refine tw_nml (fun v370 ev370 => ?_)
                                refine tw_ladd dX10_digest_308 ?_
                                refine tw_nml (fun v371 ev371 => ?_)
                                refine tw_lstore_n [(1, .long v371), (0, .ref x), (3, .ref it179), (4, .ref y289), (5, .int (nI k315))] dX10_digest_309 rfl (by decide) rfl ?_
                                obtain ⟨v372, ev372⟩ : ∃ y : Int32, y = (nI k315) + 1 := ⟨_, rfl⟩
                                refine tw_iinc [(5, .int v372), (1, .long v371), (0, .ref x), (3, .ref it179), (4, .ref y289)] 4 dX10_digest_310 rfl (by rw [ev372]; rfl) (by decide) rfl ?_
                                refine tw_goto 287 dX10_digest_313 (by decide) ?_
                                have qv372 := tw_nI3 ev372
                                rw [qv372]
                                refine tw_lv [2, 1, 3, 4, 0] rfl ?_
                                refine tw_less (c2 := (((((((((803 + 21 * (r48 + 1)) - 570) + 114 * (r59 + 1)) - 126) + 18 * (r116 + 1)) - 1) - 44) + 4 * (r189 + 1)) - 4) + 1 * r316) (n2 := (((((((((4302 + 98 * (r48 + 1)) - 2950) + 590 * (r59 + 1)) - 756) + 108 * (r116 + 1)) - 4) - 308) + 28 * (r189 + 1)) - 28) + 7 * r316) (by omega) (by omega) ?_
                                exact ih317 (k315 + 1) v371 _ sp367 (⟨⟨by omega, by rw [show k315 + 1 - 4 = (k315 - 4) + 1 by omega]; show _ = tw_dgx (tw_dgf (fun w => tw_dM g j190 (4 + w)) (k315 - 4) _) (tw_dM g j190 (4 + (k315 - 4))); rw [show 4 + (k315 - 4) = k315 by omega, ev371, ev328, ev370, q329v, li321.1.2]; rfl⟩, oq368⟩) (by omega) (by omega)
                          refine tw_lv [2, 3, 4, 1, 0] rfl ?_
                          refine tw_less (c2 := (((((((((803 + 21 * (r48 + 1)) - 570) + 114 * (r59 + 1)) - 126) + 18 * (r116 + 1)) - 1) - 44) + 4 * (r189 + 1)) - 4) + 1 * 4) (n2 := (((((((((4302 + 98 * (r48 + 1)) - 2950) + 590 * (r59 + 1)) - 756) + 108 * (r116 + 1)) - 4) - 308) + 28 * (r189 + 1)) - 28) + 7 * 4) (by omega) (by omega) ?_
                          exact L318 4 4 x188 _ (tw_sp.rf sp295.1) (⟨⟨Nat.le_refl _, rfl⟩, oq297⟩) (by omega) (by omega)
                    refine tw_lv [1, 2, 0] rfl ?_
                    refine tw_less (c2 := (((((((803 + 21 * (r48 + 1)) - 570) + 114 * (r59 + 1)) - 126) + 18 * (r116 + 1)) - 1) - 44) + 4 * 11) (n2 := (((((((4302 + 98 * (r48 + 1)) - 2950) + 590 * (r59 + 1)) - 756) + 108 * (r116 + 1)) - 4) - 308) + 28 * 11) (by omega) (by omega) ?_
                    exact L193 11 0 (-1) x114 _ (tw_sp.rm sp186.1 it179) f187 z183 oq185 (by have z208 := (tw_kge (N := (g.2 4)) c170 (by omega)); have y208 := li121.1; rw [show k115 = (g.2 4) by omega] at y208; rw [tw_dgs_0]; exact y208) (by omega) (Nat.zero_le _)
                  · have kl373 : k115 < (g.2 4) := tw_klt (N := (g.2 4)) c170 hk123 (by omega)
                    refine tw_iconst (v := 0) dX10_digest_219 (by decide) ?_
                    refine tw_istore [(4, .int 0), (0, .ref x), (1, .long x114), (3, .int (nI k115))] dX10_digest_220 (by decide) rfl ?_
                    have L378 : ∀ (r376 k375 : Nat) (x374 : Int64) (h379 : tw_H) (sp380 : tw_sp d τ h119 g τ h379) (li381 : (x374 = tw_dgf (fun w => tw_hM g k115 w) k375 x114) ∧ h379 o = h o), 8 + 1 ≤ k375 + r376 → k375 ≤ 8 → tw_W d mX10_digest (tw_ql (fun r h1 => tw_sp d τ h g τ h1 ∧ h1 o = h o ∧ r = tw_dgM g) tw_nx) 222 [(0, .ref x), (1, .long x374), (3, .int (nI k115)), (4, .int (nI k375))] [] h379 (((((((803 + 21 * (r48 + 1)) - 570) + 114 * (r59 + 1)) - 126) + 18 * (r116 + 1)) - 18) + 2 * r376) (((((((4302 + 98 * (r48 + 1)) - 2950) + 590 * (r59 + 1)) - 756) + 108 * (r116 + 1)) - 108) + 12 * r376) := by
                      intro r376
                      induction r376 with
                      | zero => intro k375 x374 h379 sp380 li381 hk382 hk383; exact absurd hk382 (by omega)
                      | succ r376 ih377 =>
                        intro k375 x374 h379 sp380 li381 hk382 hk383
                        refine tw_iload 3 dX10_digest_222 rfl ?_
                        refine tw_bipush (v := 7) dX10_digest_224 (by decide) ?_
                        refine tw_icmp_gt 250 dX10_digest_226 (by decide) (fun c384 => ?_) (fun c384 => ?_)
                        · obtain ⟨v385, ev385⟩ : ∃ y : Int32, y = (nI k115) + 1 := ⟨_, rfl⟩
                          refine tw_iinc [(3, .int v385), (0, .ref x), (1, .long x374), (4, .int (nI k375))] 2 dX10_digest_250 rfl (by rw [ev385]; rfl) (by decide) rfl ?_
                          refine tw_goto 208 dX10_digest_253 (by decide) ?_
                          have qv385 := tw_nI3 ev385
                          rw [qv385]
                          refine tw_lv [1, 2, 0] rfl ?_
                          refine tw_less (c2 := ((((803 + 21 * (r48 + 1)) - 570) + 114 * (r59 + 1)) - 126) + 18 * r116) (n2 := ((((4302 + 98 * (r48 + 1)) - 2950) + 590 * (r59 + 1)) - 756) + 108 * r116) (by omega) (by omega) ?_
                          exact ih117 (k115 + 1) x374 _ (sp120.tr sp380) (⟨(by have z222 := (tw_gt5 (n := 7) c384 (by omega) (by decide)); have y222 := li381.1; rw [show k375 = 8 by omega] at y222; rw [tw_dgs_s, y222, li121.1] <;> rfl), li381.2⟩) (by omega) (by omega)
                        · have kl386 : k375 < 8 := tw_kle (N := 8) c384 hk383 (by decide)
                          refine tw_lload_n 1 dX10_digest_229 rfl rfl ?_
                          refine tw_ldc2 (v := 31) dX10_digest_230 w_1594 ?_
                          refine tw_lmul dX10_digest_233 ?_
                          refine tw_nml (fun v387 ev387 => ?_)
                          refine tw_aload_n 0 dX10_digest_234 rfl rfl ?_
                          refine tw_iload_n 2 dX10_digest_235 rfl rfl ?_
                          refine tw_iload 3 dX10_digest_236 rfl ?_
                          obtain ⟨e391, f392, th_393, td_394, ds_395, fr_396, ca_397, us_398, wo_399, cm_400, lc_401, lh_402, ld_403, rfl, k404, k405, k406, k407, k408, k409, k410, k411, k412, k413, k414, k415, k416, k417, k418, k419, k420, k421, k422, k423, k424, k425⟩ := sp380.1 x 36 kx (by decide)
                          refine tw_bi (tw_callV (M := mX10_digest) (pc := 238) okX10_ofHouseNow dX10_digest_238 w_1513 rfl f392 [.int (nI k115), .int (nI k375)] [.long v387] rfl rfl ⟨by decide, by decide⟩ (Nat.le_of_ble_eq_true rfl) (c4_X10_ofHouseNow d g τ h379 sp380.1 x kx k115 kl373 k375 (by omega) o ko he hk9) ((((((((803 + 21 * (r48 + 1)) - 570) + 114 * (r59 + 1)) - 126) + 18 * (r116 + 1)) - 18) + 2 * (r376 + 1)) - 2) ((((((((4302 + 98 * (r48 + 1)) - 2950) + 590 * (r59 + 1)) - 756) + 108 * (r116 + 1)) - 108) + 12 * (r376 + 1)) - 12) (by omega) (by omega)) (fun r390 h389 q388 => ?_) (fun E h1 q => q.elim)
                          obtain ⟨q388s, q388t, q388o, q388v⟩ := q388
                          have sp426 := sp380.tr q388s
                          have oq428 := q388o.trans li381.2
                          refine tw_i2l dX10_digest_241 ?_
                          refine tw_nml (fun v429 ev429 => ?_)
                          refine tw_ladd dX10_digest_242 ?_
                          refine tw_nml (fun v430 ev430 => ?_)
                          refine tw_lstore_n [(1, .long v430), (0, .ref x), (3, .int (nI k115)), (4, .int (nI k375))] dX10_digest_243 rfl (by decide) rfl ?_
                          obtain ⟨v431, ev431⟩ : ∃ y : Int32, y = (nI k375) + 1 := ⟨_, rfl⟩
                          refine tw_iinc [(4, .int v431), (1, .long v430), (0, .ref x), (3, .int (nI k115))] 3 dX10_digest_244 rfl (by rw [ev431]; rfl) (by decide) rfl ?_
                          refine tw_goto 222 dX10_digest_247 (by decide) ?_
                          have qv431 := tw_nI3 ev431
                          rw [qv431]
                          refine tw_lv [2, 1, 3, 0] rfl ?_
                          refine tw_less (c2 := ((((((803 + 21 * (r48 + 1)) - 570) + 114 * (r59 + 1)) - 126) + 18 * (r116 + 1)) - 18) + 2 * r376) (n2 := ((((((4302 + 98 * (r48 + 1)) - 2950) + 590 * (r59 + 1)) - 756) + 108 * (r116 + 1)) - 108) + 12 * r376) (by omega) (by omega) ?_
                          exact ih377 (k375 + 1) v430 _ sp426 (⟨(by rw [tw_dgf_s, ev430, ev387, ev429, q388v, li381.1] <;> rfl), oq428⟩) (by omega) (by omega)
                    refine tw_lv [1, 2, 3, 0] rfl ?_
                    refine tw_less (c2 := ((((((803 + 21 * (r48 + 1)) - 570) + 114 * (r59 + 1)) - 126) + 18 * (r116 + 1)) - 18) + 2 * 9) (n2 := ((((((4302 + 98 * (r48 + 1)) - 2950) + 590 * (r59 + 1)) - 756) + 108 * (r116 + 1)) - 108) + 12 * 9) (by omega) (by omega) ?_
                    exact L378 9 0 x114 _ (tw_sp.rf sp120.1) (⟨rfl, li121.2⟩) (by omega) (by omega)
              refine tw_lv [1, 2, 0] rfl ?_
              refine tw_less (c2 := ((((803 + 21 * (r48 + 1)) - 570) + 114 * (r59 + 1)) - 126) + 18 * 7) (n2 := ((((4302 + 98 * (r48 + 1)) - 2950) + 590 * (r59 + 1)) - 756) + 108 * 7) (by omega) (by omega) ?_
              exact L118 7 0 x57 _ (tw_sp.rf sp63.1) (⟨(by have z78 := (tw_kge (N := (g.2 3)) c113 (by omega)); have y78 := li64.1; rw [show k58 = (g.2 3) by omega] at y78; rw [tw_dgs_0]; exact y78), li64.2⟩) (by omega) (by omega)
            · have kl432 : k58 < (g.2 3) := tw_klt (N := (g.2 3)) c113 hk66 (by omega)
              refine tw_iconst (v := 0) dX10_digest_89 (by decide) ?_
              refine tw_istore [(4, .int 0), (0, .ref x), (1, .long x57), (3, .int (nI k58))] dX10_digest_90 (by decide) rfl ?_
              have L437 : ∀ (r435 k434 : Nat) (x433 : Int64) (h438 : tw_H) (sp439 : tw_sp d τ h62 g τ h438) (li440 : (x433 = tw_dgf (fun w => tw_oM g k58 w) k434 x57) ∧ h438 o = h o), 9 + 1 ≤ k434 + r435 → k434 ≤ 9 → tw_W d mX10_digest (tw_ql (fun r h1 => tw_sp d τ h g τ h1 ∧ h1 o = h o ∧ r = tw_dgM g) tw_nx) 92 [(0, .ref x), (1, .long x433), (3, .int (nI k58)), (4, .int (nI k434))] [] h438 (((((803 + 21 * (r48 + 1)) - 570) + 114 * (r59 + 1)) - 30) + 3 * r435) (((((4302 + 98 * (r48 + 1)) - 2950) + 590 * (r59 + 1)) - 170) + 17 * r435) := by
                intro r435
                induction r435 with
                | zero => intro k434 x433 h438 sp439 li440 hk441 hk442; exact absurd hk441 (by omega)
                | succ r435 ih436 =>
                  intro k434 x433 h438 sp439 li440 hk441 hk442
                  refine tw_iload 3 dX10_digest_92 rfl ?_
                  refine tw_bipush (v := 8) dX10_digest_94 (by decide) ?_
                  refine tw_icmp_gt 120 dX10_digest_96 (by decide) (fun c443 => ?_) (fun c443 => ?_)
                  · refine tw_lload_n 1 dX10_digest_120 rfl rfl ?_
                    refine tw_ldc2 (v := 31) dX10_digest_121 w_1594 ?_
                    refine tw_lmul dX10_digest_124 ?_
                    refine tw_nml (fun v444 ev444 => ?_)
                    refine tw_aload_n 0 dX10_digest_125 rfl rfl ?_
                    refine tw_iload_n 2 dX10_digest_126 rfl rfl ?_
                    refine tw_bipush (v := 37) dX10_digest_127 (by decide) ?_
                    obtain ⟨e448, f449, th_450, td_451, ds_452, fr_453, ca_454, us_455, wo_456, cm_457, lc_458, lh_459, ld_460, rfl, k461, k462, k463, k464, k465, k466, k467, k468, k469, k470, k471, k472, k473, k474, k475, k476, k477, k478, k479, k480, k481, k482⟩ := sp439.1 x 36 kx (by decide)
                    refine tw_bi (tw_callV okX10_coinsNow dX10_digest_129 w_1493 rfl f449 [.int (nI k58), .int (nI 37)] [.long v444] rfl rfl ⟨by decide, by decide⟩ (Nat.le_of_ble_eq_true rfl) (c2_X10_coinsNow d g τ h438 sp439.1 x kx k58 37 kl432 (by decide)) ((((((803 + 21 * (r48 + 1)) - 570) + 114 * (r59 + 1)) - 30) + 3 * (r435 + 1)) - 84) ((((((4302 + 98 * (r48 + 1)) - 2950) + 590 * (r59 + 1)) - 170) + 17 * (r435 + 1)) - 420) (by have := tw_w37; omega) (by have := tw_w37; omega)) (fun r447 h446 q445 => ?_) (fun E h1 q => q.elim)
                    obtain ⟨q445g, q445v⟩ := q445
                    have sp483 := sp439.tr (q445g.sp sp439.1)
                    have oq484 : h446 o = h o := by rw [q445g.th (tw_some sp439.1 ko (by decide))]; exact li440.2
                    have f485 := q445g _ _ f449
                    refine tw_i2l dX10_digest_132 ?_
                    refine tw_nml (fun v486 ev486 => ?_)
                    refine tw_ladd dX10_digest_133 ?_
                    refine tw_nml (fun v487 ev487 => ?_)
                    refine tw_lstore_n [(1, .long v487), (0, .ref x), (3, .int (nI k58)), (4, .int (nI k434))] dX10_digest_134 rfl (by decide) rfl ?_
                    refine tw_iconst (v := 0) dX10_digest_135 (by decide) ?_
                    refine tw_istore [(4, .int 0), (1, .long v487), (0, .ref x), (3, .int (nI k58))] dX10_digest_136 (by decide) rfl ?_
                    have L492 : ∀ (r490 k489 : Nat) (x488 : Int64) (li495 : (x488 = tw_dgf (fun w => tw_bno (tw_bM g k58 w 1000 (g.2 3)).1) k489 v487)), 2 + 1 ≤ k489 + r490 → k489 ≤ 2 → tw_W d mX10_digest (tw_ql (fun r h1 => tw_sp d τ h g τ h1 ∧ h1 o = h o ∧ r = tw_dgM g) tw_nx) 138 [(0, .ref x), (1, .long x488), (3, .int (nI k58)), (4, .int (nI k489))] [] h446 ((((((803 + 21 * (r48 + 1)) - 570) + 114 * (r59 + 1)) - 30) + 3 * (r435 + 1)) - 84) ((((((4302 + 98 * (r48 + 1)) - 2950) + 590 * (r59 + 1)) - 170) + 17 * (r435 + 1)) - 420) := by
                      intro r490
                      induction r490 with
                      | zero => intro k489 x488 li495 hk496 hk497; exact absurd hk496 (by omega)
                      | succ r490 ih491 =>
                        intro k489 x488 li495 hk496 hk497
                        refine tw_iload 3 dX10_digest_138 rfl ?_
                        refine tw_iconst (v := 2) dX10_digest_140 (by decide) ?_
                        refine tw_icmp_ge 168 dX10_digest_141 (by decide) (fun c498 => ?_) (fun c498 => ?_)
                        · refine tw_iconst (v := 0) dX10_digest_168 (by decide) ?_
                          refine tw_istore [(4, .int 0), (0, .ref x), (1, .long x488), (3, .int (nI k58))] dX10_digest_169 (by decide) rfl ?_
                          have L503 : ∀ (r501 k500 : Nat) (x499 : Int64) (li506 : (x499 = tw_dgf (fun w => tw_ld (g.2 22) w 10 (3001 - g.2 22) (g.2 22) (tw_DN (g.1 (480 + 64 * k58 + 16 + w)))) k500 x488)), 2 + 1 ≤ k500 + r501 → k500 ≤ 2 → tw_W d mX10_digest (tw_ql (fun r h1 => tw_sp d τ h g τ h1 ∧ h1 o = h o ∧ r = tw_dgM g) tw_nx) 171 [(0, .ref x), (1, .long x499), (3, .int (nI k58)), (4, .int (nI k500))] [] h446 ((((((803 + 21 * (r48 + 1)) - 570) + 114 * (r59 + 1)) - 30) + 3 * (r435 + 1)) - 84) ((((((4302 + 98 * (r48 + 1)) - 2950) + 590 * (r59 + 1)) - 170) + 17 * (r435 + 1)) - 420) := by
                            intro r501
                            induction r501 with
                            | zero => intro k500 x499 li506 hk507 hk508; exact absurd hk507 (by omega)
                            | succ r501 ih502 =>
                              intro k500 x499 li506 hk507 hk508
                              refine tw_iload 3 dX10_digest_171 rfl ?_
                              refine tw_iconst (v := 2) dX10_digest_173 (by decide) ?_
                              refine tw_icmp_ge 200 dX10_digest_174 (by decide) (fun c509 => ?_) (fun c509 => ?_)
                              · obtain ⟨v510, ev510⟩ : ∃ y : Int32, y = (nI k58) + 1 := ⟨_, rfl⟩
                                refine tw_iinc [(3, .int v510), (0, .ref x), (1, .long x499), (4, .int (nI k500))] 2 dX10_digest_200 rfl (by rw [ev510]; rfl) (by decide) rfl ?_
                                refine tw_goto 78 dX10_digest_203 (by decide) ?_
                                have qv510 := tw_nI3 ev510
                                rw [qv510]
                                refine tw_lv [1, 2, 0] rfl ?_
                                refine tw_less (c2 := ((803 + 21 * (r48 + 1)) - 570) + 114 * r59) (n2 := ((4302 + 98 * (r48 + 1)) - 2950) + 590 * r59) (by omega) (by omega) ?_
                                exact ih60 (k58 + 1) x499 _ (sp63.tr sp483) (⟨(by have z171 := (tw_kge (N := 2) c509 (by omega)); have y171 := li506; rw [show k500 = 2 by omega] at y171; have z138 := (tw_kge (N := 2) c498 (by omega)); have y138 := li495; rw [show k489 = 2 by omega] at y138; have z92 := (tw_gt5 (n := 8) c443 (by omega) (by decide)); have y92 := li440.1; rw [show k434 = 9 by omega] at y92; rw [tw_dgs_s]; unfold tw_dmK; rw [y171, y138, ev487, ev444, ev486, q445v, y92, li64.1] <;> rfl), oq484⟩) (by omega) (by omega)
                              · have kl511 := tw_klt (N := 2) c509 hk508 (by decide)
                                refine tw_lload_n 1 dX10_digest_177 rfl rfl ?_
                                refine tw_ldc2 (v := 31) dX10_digest_178 w_1594 ?_
                                refine tw_lmul dX10_digest_181 ?_
                                refine tw_nml (fun v512 ev512 => ?_)
                                refine tw_aload_n 0 dX10_digest_182 rfl rfl ?_
                                refine tw_iload_n 2 dX10_digest_183 rfl rfl ?_
                                refine tw_iload 3 dX10_digest_184 rfl ?_
                                refine tw_bipush (v := 10) dX10_digest_186 (by decide) ?_
                                obtain ⟨e516, f517, th_518, td_519, ds_520, fr_521, ca_522, us_523, wo_524, cm_525, lc_526, lh_527, ld_528, rfl, k529, k530, k531, k532, k533, k534, k535, k536, k537, k538, k539, k540, k541, k542, k543, k544, k545, k546, k547, k548, k549, k550⟩ := sp483.1 x 36 kx (by decide)
                                refine tw_bi (tw_callV (M := mX10_digest) (pc := 188) okX10_lastNow dX10_digest_188 w_1577 rfl f517 [.int (nI k58), .int (nI k500), .int 10] [.long v512] rfl rfl ⟨by decide, by decide⟩ (Nat.le_of_ble_eq_true rfl) (c4_X10_lastNow d g τ h446 sp483.1 x kx k58 kl432 k500 kl511 10 (by decide) _ (he.v (j := k58) (k := k500) (by omega) kl511).1 (he.v (j := k58) (k := k500) (by omega) kl511).2) ((((((803 + 21 * (r48 + 1)) - 570) + 114 * (r59 + 1)) - 30) + 3 * (r435 + 1)) - 84) ((((((4302 + 98 * (r48 + 1)) - 2950) + 590 * (r59 + 1)) - 170) + 17 * (r435 + 1)) - 420) (by omega) (by omega)) (fun r515 h514 q513 => ?_) (fun E h1 q => q.elim)
                                obtain ⟨q513e, q513v⟩ := q513
                                rw [q513e]
                                refine tw_i2l dX10_digest_191 ?_
                                refine tw_nml (fun v551 ev551 => ?_)
                                refine tw_ladd dX10_digest_192 ?_
                                refine tw_nml (fun v552 ev552 => ?_)
                                refine tw_lstore_n [(1, .long v552), (0, .ref x), (3, .int (nI k58)), (4, .int (nI k500))] dX10_digest_193 rfl (by decide) rfl ?_
                                obtain ⟨v553, ev553⟩ : ∃ y : Int32, y = (nI k500) + 1 := ⟨_, rfl⟩
                                refine tw_iinc [(4, .int v553), (1, .long v552), (0, .ref x), (3, .int (nI k58))] 3 dX10_digest_194 rfl (by rw [ev553]; rfl) (by decide) rfl ?_
                                refine tw_goto 171 dX10_digest_197 (by decide) ?_
                                have qv553 := tw_nI3 ev553
                                rw [qv553]
                                refine tw_lv [2, 1, 3, 0] rfl ?_
                                exact ih502 (k500 + 1) v552 ((by rw [tw_dgf_s, ev552, ev512, ev551, q513v, li506] <;> rfl)) (by omega) (by omega)
                          refine tw_lv [1, 2, 3, 0] rfl ?_
                          exact L503 (2 + 1) 0 x488 (rfl) (by omega) (by omega)
                        · have kl554 := tw_klt (N := 2) c498 hk497 (by decide)
                          refine tw_lload_n 1 dX10_digest_144 rfl rfl ?_
                          refine tw_ldc2 (v := 31) dX10_digest_145 w_1594 ?_
                          refine tw_lmul dX10_digest_148 ?_
                          refine tw_nml (fun v555 ev555 => ?_)
                          refine tw_aload_n 0 dX10_digest_149 rfl rfl ?_
                          refine tw_iload_n 2 dX10_digest_150 rfl rfl ?_
                          refine tw_iload 3 dX10_digest_151 rfl ?_
                          refine tw_sipush (v := 1000) dX10_digest_153 (by decide) ?_
                          obtain ⟨e559, f560, th_561, td_562, ds_563, fr_564, ca_565, us_566, wo_567, cm_568, lc_569, lh_570, ld_571, rfl, k572, k573, k574, k575, k576, k577, k578, k579, k580, k581, k582, k583, k584, k585, k586, k587, k588, k589, k590, k591, k592, k593⟩ := sp483.1 x 36 kx (by decide)
                          refine tw_bi (tw_callV (M := mX10_digest) (pc := 156) okX10_bestTripNow dX10_digest_156 w_1561 rfl f560 [.int (nI k58), .int (nI k489), .int 1000] [.long v555] rfl rfl ⟨by decide, by decide⟩ (Nat.le_of_ble_eq_true rfl) (c3_X10_bestTripNow d g τ h446 sp483.1 x kx k58 kl432 k489 kl554 1000 1000 rfl (by decide) hm) ((((((803 + 21 * (r48 + 1)) - 570) + 114 * (r59 + 1)) - 30) + 3 * (r435 + 1)) - 84) ((((((4302 + 98 * (r48 + 1)) - 2950) + 590 * (r59 + 1)) - 170) + 17 * (r435 + 1)) - 420) (by omega) (by omega)) (fun r558 h557 q556 => ?_) (fun E h1 q => q.elim)
                          obtain ⟨q556e, q556v⟩ := q556
                          rw [q556e]
                          refine tw_i2l dX10_digest_159 ?_
                          refine tw_nml (fun v594 ev594 => ?_)
                          refine tw_ladd dX10_digest_160 ?_
                          refine tw_nml (fun v595 ev595 => ?_)
                          refine tw_lstore_n [(1, .long v595), (0, .ref x), (3, .int (nI k58)), (4, .int (nI k489))] dX10_digest_161 rfl (by decide) rfl ?_
                          obtain ⟨v596, ev596⟩ : ∃ y : Int32, y = (nI k489) + 1 := ⟨_, rfl⟩
                          refine tw_iinc [(4, .int v596), (1, .long v595), (0, .ref x), (3, .int (nI k58))] 3 dX10_digest_162 rfl (by rw [ev596]; rfl) (by decide) rfl ?_
                          refine tw_goto 138 dX10_digest_165 (by decide) ?_
                          have qv596 := tw_nI3 ev596
                          rw [qv596]
                          refine tw_lv [2, 1, 3, 0] rfl ?_
                          exact ih491 (k489 + 1) v595 ((by rw [tw_dgf_s, ev595, ev555, ev594, q556v, li495] <;> rfl)) (by omega) (by omega)
                    refine tw_lv [2, 1, 3, 0] rfl ?_
                    exact L492 (2 + 1) 0 v487 (rfl) (by omega) (by omega)
                  · have kl597 : k434 < 9 := tw_kle (N := 9) c443 hk442 (by decide)
                    refine tw_lload_n 1 dX10_digest_99 rfl rfl ?_
                    refine tw_ldc2 (v := 31) dX10_digest_100 w_1594 ?_
                    refine tw_lmul dX10_digest_103 ?_
                    refine tw_nml (fun v598 ev598 => ?_)
                    refine tw_aload_n 0 dX10_digest_104 rfl rfl ?_
                    refine tw_iload_n 2 dX10_digest_105 rfl rfl ?_
                    refine tw_iload 3 dX10_digest_106 rfl ?_
                    obtain ⟨e602, f603, th_604, td_605, ds_606, fr_607, ca_608, us_609, wo_610, cm_611, lc_612, lh_613, ld_614, rfl, k615, k616, k617, k618, k619, k620, k621, k622, k623, k624, k625, k626, k627, k628, k629, k630, k631, k632, k633, k634, k635, k636⟩ := sp439.1 x 36 kx (by decide)
                    refine tw_bi (tw_callV (M := mX10_digest) (pc := 108) okX10_ofCountryNow dX10_digest_108 w_1501 rfl f603 [.int (nI k58), .int (nI k434)] [.long v598] rfl rfl ⟨by decide, by decide⟩ (Nat.le_of_ble_eq_true rfl) (c4_X10_ofCountryNow d g τ h438 sp439.1 x kx k58 kl432 k434 (by omega) o ko he hk9) ((((((803 + 21 * (r48 + 1)) - 570) + 114 * (r59 + 1)) - 30) + 3 * (r435 + 1)) - 3) ((((((4302 + 98 * (r48 + 1)) - 2950) + 590 * (r59 + 1)) - 170) + 17 * (r435 + 1)) - 17) (by omega) (by omega)) (fun r601 h600 q599 => ?_) (fun E h1 q => q.elim)
                    obtain ⟨q599s, q599t, q599o, q599v⟩ := q599
                    have sp637 := sp439.tr q599s
                    have oq639 := q599o.trans li440.2
                    refine tw_i2l dX10_digest_111 ?_
                    refine tw_nml (fun v640 ev640 => ?_)
                    refine tw_ladd dX10_digest_112 ?_
                    refine tw_nml (fun v641 ev641 => ?_)
                    refine tw_lstore_n [(1, .long v641), (0, .ref x), (3, .int (nI k58)), (4, .int (nI k434))] dX10_digest_113 rfl (by decide) rfl ?_
                    obtain ⟨v642, ev642⟩ : ∃ y : Int32, y = (nI k434) + 1 := ⟨_, rfl⟩
                    refine tw_iinc [(4, .int v642), (1, .long v641), (0, .ref x), (3, .int (nI k58))] 3 dX10_digest_114 rfl (by rw [ev642]; rfl) (by decide) rfl ?_
                    refine tw_goto 92 dX10_digest_117 (by decide) ?_
                    have qv642 := tw_nI3 ev642
                    rw [qv642]
                    refine tw_lv [2, 1, 3, 0] rfl ?_
                    refine tw_less (c2 := ((((803 + 21 * (r48 + 1)) - 570) + 114 * (r59 + 1)) - 30) + 3 * r435) (n2 := ((((4302 + 98 * (r48 + 1)) - 2950) + 590 * (r59 + 1)) - 170) + 17 * r435) (by omega) (by omega) ?_
                    exact ih436 (k434 + 1) v641 _ sp637 (⟨(by rw [tw_dgf_s, ev641, ev598, ev640, q599v, li440.1] <;> rfl), oq639⟩) (by omega) (by omega)
              refine tw_lv [1, 2, 3, 0] rfl ?_
              refine tw_less (c2 := ((((803 + 21 * (r48 + 1)) - 570) + 114 * (r59 + 1)) - 30) + 3 * 10) (n2 := ((((4302 + 98 * (r48 + 1)) - 2950) + 590 * (r59 + 1)) - 170) + 17 * 10) (by omega) (by omega) ?_
              exact L437 10 0 x57 _ (tw_sp.rf sp63.1) (⟨rfl, li64.2⟩) (by omega) (by omega)
        refine tw_lv [1, 2, 0] rfl ?_
        refine tw_less (c2 := ((803 + 21 * (r48 + 1)) - 570) + 114 * 5) (n2 := ((4302 + 98 * (r48 + 1)) - 2950) + 590 * 5) (by omega) (by omega) ?_
        exact L61 5 0 x46 _ (tw_sp.rf sp52.1) (⟨(by have z35 := (tw_kge (N := 2) c56 (by omega)); have y35 := li53.1; rw [show k47 = 2 by omega] at y35; rw [tw_dgs_0]; exact y35), li53.2⟩) (by omega) (by omega)
      · have kl643 := tw_klt (N := 2) c56 hk55 (by decide)
        refine tw_iconst (v := 0) dX10_digest_40 (by decide) ?_
        refine tw_istore [(4, .int 0), (0, .ref x), (1, .long x46), (3, .int (nI k47))] dX10_digest_41 (by decide) rfl ?_
        have L648 : ∀ (r646 k645 : Nat) (x644 : Int64) (h649 : tw_H) (sp650 : tw_sp d τ h51 g τ h649) (li651 : (x644 = tw_dgf (fun w => nI (tw_wM g k47 w)) k645 x46) ∧ h649 o = h o), 6 + 1 ≤ k645 + r646 → k645 ≤ 6 → tw_W d mX10_digest (tw_ql (fun r h1 => tw_sp d τ h g τ h1 ∧ h1 o = h o ∧ r = tw_dgM g) tw_nx) 43 [(0, .ref x), (1, .long x644), (3, .int (nI k47)), (4, .int (nI k645))] [] h649 (((803 + 21 * (r48 + 1)) - 21) + 3 * r646) (((4302 + 98 * (r48 + 1)) - 98) + 14 * r646) := by
          intro r646
          induction r646 with
          | zero => intro k645 x644 h649 sp650 li651 hk652 hk653; exact absurd hk652 (by omega)
          | succ r646 ih647 =>
            intro k645 x644 h649 sp650 li651 hk652 hk653
            refine tw_iload 3 dX10_digest_43 rfl ?_
            refine tw_iconst (v := 5) dX10_digest_45 (by decide) ?_
            refine tw_icmp_gt 70 dX10_digest_46 (by decide) (fun c654 => ?_) (fun c654 => ?_)
            · obtain ⟨v655, ev655⟩ : ∃ y : Int32, y = (nI k47) + 1 := ⟨_, rfl⟩
              refine tw_iinc [(3, .int v655), (0, .ref x), (1, .long x644), (4, .int (nI k645))] 2 dX10_digest_70 rfl (by rw [ev655]; rfl) (by decide) rfl ?_
              refine tw_goto 35 dX10_digest_73 (by decide) ?_
              have qv655 := tw_nI3 ev655
              rw [qv655]
              refine tw_lv [1, 2, 0] rfl ?_
              refine tw_less (c2 := 803 + 21 * r48) (n2 := 4302 + 98 * r48) (by omega) (by omega) ?_
              exact ih49 (k47 + 1) x644 _ (sp52.tr sp650) (⟨(by have z43 := (tw_gt5 (n := 5) c654 (by omega) (by decide)); have y43 := li651.1; rw [show k645 = 6 by omega] at y43; rw [tw_dgs_s, y43, li53.1] <;> rfl), li651.2⟩) (by omega) (by omega)
            · have kl656 : k645 < 6 := tw_kle (N := 6) c654 hk653 (by decide)
              refine tw_lload_n 1 dX10_digest_49 rfl rfl ?_
              refine tw_ldc2 (v := 31) dX10_digest_50 w_1594 ?_
              refine tw_lmul dX10_digest_53 ?_
              refine tw_nml (fun v657 ev657 => ?_)
              refine tw_aload_n 0 dX10_digest_54 rfl rfl ?_
              refine tw_iload_n 2 dX10_digest_55 rfl rfl ?_
              refine tw_iload 3 dX10_digest_56 rfl ?_
              obtain ⟨e661, f662, th_663, td_664, ds_665, fr_666, ca_667, us_668, wo_669, cm_670, lc_671, lh_672, ld_673, rfl, k674, k675, k676, k677, k678, k679, k680, k681, k682, k683, k684, k685, k686, k687, k688, k689, k690, k691, k692, k693, k694, k695⟩ := sp650.1 x 36 kx (by decide)
              refine tw_bi (tw_callV (M := mX10_digest) (pc := 58) okX10_worldNow dX10_digest_58 w_1533 rfl f662 [.int (nI k47), .int (nI k645)] [.long v657] rfl rfl ⟨by decide, by decide⟩ (Nat.le_of_ble_eq_true rfl) (c4_X10_worldNow d g τ h649 sp650.1 x kx k47 kl643 k645 (by omega) o ko he) ((((803 + 21 * (r48 + 1)) - 21) + 3 * (r646 + 1)) - 3) ((((4302 + 98 * (r48 + 1)) - 98) + 14 * (r646 + 1)) - 14) (by omega) (by omega)) (fun r660 h659 q658 => ?_) (fun E h1 q => q.elim)
              obtain ⟨q658s, q658t, q658o, q658v⟩ := q658
              have sp696 := sp650.tr q658s
              have oq698 := q658o.trans li651.2
              refine tw_i2l dX10_digest_61 ?_
              refine tw_nml (fun v699 ev699 => ?_)
              refine tw_ladd dX10_digest_62 ?_
              refine tw_nml (fun v700 ev700 => ?_)
              refine tw_lstore_n [(1, .long v700), (0, .ref x), (3, .int (nI k47)), (4, .int (nI k645))] dX10_digest_63 rfl (by decide) rfl ?_
              obtain ⟨v701, ev701⟩ : ∃ y : Int32, y = (nI k645) + 1 := ⟨_, rfl⟩
              refine tw_iinc [(4, .int v701), (1, .long v700), (0, .ref x), (3, .int (nI k47))] 3 dX10_digest_64 rfl (by rw [ev701]; rfl) (by decide) rfl ?_
              refine tw_goto 43 dX10_digest_67 (by decide) ?_
              have qv701 := tw_nI3 ev701
              rw [qv701]
              refine tw_lv [2, 1, 3, 0] rfl ?_
              refine tw_less (c2 := ((803 + 21 * (r48 + 1)) - 21) + 3 * r646) (n2 := ((4302 + 98 * (r48 + 1)) - 98) + 14 * r646) (by omega) (by omega) ?_
              exact ih647 (k645 + 1) v700 _ sp696 (⟨(by rw [tw_dgf_s, ev700, ev657, ev699, q658v, li651.1] <;> rfl), oq698⟩) (by omega) (by omega)
        refine tw_lv [1, 2, 3, 0] rfl ?_
        refine tw_less (c2 := ((803 + 21 * (r48 + 1)) - 21) + 3 * 7) (n2 := ((4302 + 98 * (r48 + 1)) - 98) + 14 * 7) (by omega) (by omega) ?_
        exact L648 7 0 x46 _ (tw_sp.rf sp52.1) (⟨rfl, li53.2⟩) (by omega) (by omega)
  refine tw_lv [2, 1, 0] rfl ?_
  refine tw_less (c2 := 803 + 21 * 3) (n2 := 4302 + 98 * 3) (by omega) (by omega) ?_
  exact L50 3 0 v45 _ (tw_sp.rf sp38.1) (⟨(by rw [tw_dgs_0, ev45, ev43, ev42, ev40, ev41, ev44, k28] <;> rfl), oq37⟩) (by omega) (by omega)

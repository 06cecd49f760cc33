/-! the class's methods over the typed heap. Laid by wip/p5/mkclass.py. -/
/-! what is asked, the class -/
def tw_isum (F : Nat → Int32) : Nat → Int32
  | 0 => 0
  | n + 1 => tw_isum F n + F n
theorem tw_isum_c {F G : Nat → Int32} : ∀ n, (∀ j, j < n → F j = G j) → tw_isum F n = tw_isum G n
  | 0, _ => rfl
  | n + 1, h => by
    show tw_isum F n + F n = tw_isum G n + G n
    rw [tw_isum_c n (fun j hj => h j (by omega)), h n (by omega)]
theorem tw_isum_n {F : Nat → Int32} {f : Nat → Nat} : ∀ n, (∀ j, j < n → F j = nI (f j)) → tw_isum F n = nI (tw_sum f n)
  | 0, _ => rfl
  | n + 1, h => by
    show tw_isum F n + F n = nI (tw_sum f n + f n)
    rw [tw_isum_n n (fun j hj => h j (by omega)), h n (by omega)]
    exact tw_niadd
def tw_wC (g : tw_G) (k : Nat) : Nat → Int32
  | 0 => tw_isum (fun j => g.1 (160 + 64 * j + 24 + k)) (g.2 6)
  | 1 => tw_isum (fun j => g.1 (768 + 32 * j + 8 + k)) (g.2 7)
  | w + 2 => g.1 (1312 + 8 * w + k)
def tw_RW (m wh : Int32) : Prop := tw_RM m ∧ 0 ≤ wh ∧ wh ≤ 5
set_option maxHeartbeats 4000000 in
set_option maxRecDepth 100000 in
theorem c2_X5_market (d : tw_D) (g : tw_G) (τ : tw_K) (h : tw_H) (hw : tw_wt d g τ h) (x : Nat) (kx : τ x = 11) (m : Int32) : tw_Ct d mX5_market 20 120 [.ref x, .int m] h (tw_qi (fun r9 h1 => r9 = g.1 0 ∧ (100 ≤ m ∧ m ≤ 200) ∧ ∃ τ1, tw_sp d τ h (tw_g1 g 0 m) τ1 h1) (fun E h1 => (E = tw_IAE ∧ ¬ (100 ≤ m ∧ m ≤ 200)) ∧ ∃ τ1, tw_sp d τ h g τ1 h1)) := by
  refine tw_of (by decide +kernel) (Nat.le_of_ble_eq_true rfl) ?_
  show tw_W d mX5_market _ 0 [(0, .ref x), (1, .int m)] [] h 20 120
  have sp0 := tw_sp.rf hw
  refine tw_iload_n 1 dX5_market_0 rfl rfl ?_
  refine tw_bipush (v := 100) dX5_market_1 (by decide) ?_
  refine tw_sipush (v := 200) dX5_market_3 (by decide) ?_
  refine tw_bv (tw_callS (M := mX5_market) (pc := 6) okX5_needRange dX5_market_6 w_399 [.int m, .int 100, .int 200] [] rfl rfl ⟨by decide, by decide⟩ (Nat.le_of_ble_eq_true rfl) (c2_X5_needRange d g τ h sp0.1 m 100 200) 19 114 (Nat.le_of_ble_eq_true rfl) (Nat.le_of_ble_eq_true rfl)) (fun h2 q => ?_) (fun E h2 q => Or.inr ⟨E, rfl, ⟨q.1, q.2.2⟩, τ, by rw [q.2.1]; exact sp0⟩)
  obtain ⟨qe, ql⟩ := q
  rw [qe]
  refine tw_aload_n 0 dX5_market_9 rfl rfl ?_
  obtain ⟨e1, f2, td_3, ca_4, ha_5, da_6, c1_7, c2_8, c3_9, c4_10, rfl, k11, k12, k13, k14, k15, k16, k17, k18, k19, k20, k21, k22, k23, k24, k25, k26, k27⟩ := sp0.1 x 11 kx (by decide)
  refine tw_get (v := .int (g.1 0)) rfl in_9 1 dX5_market_10 w_141 rfl (by decide) f2 rfl ?_
  refine tw_istore_n [(2, .int (g.1 0)), (0, .ref x), (1, .int m)] dX5_market_13 rfl (by decide) rfl ?_
  refine tw_aload_n 1 dX5_market_14 rfl rfl ?_
  refine tw_iload_n 2 dX5_market_15 rfl rfl ?_
  obtain ⟨g5, eg5⟩ : ∃ z : tw_G, z = tw_g1 g 0 m := ⟨_, rfl⟩
  have qm : m = g5.1 0 := by rw [eg5]; rfl
  refine tw_put rfl in_9 tyX5 tyX5_ok nmX5 1 dX5_market_16 w_141 rfl (by decide) f2 rfl rfl rfl rfl (Nat.le_of_ble_eq_true rfl) [.int td_3, .int m, .ref ca_4, .int (nI (g.2 0)), .ref ha_5, .int (nI (g.2 1)), .ref da_6, .int (nI (g.2 2)), .ref c1_7, .ref c2_8, .ref c3_9, .ref c4_10] rfl ?_
  obtain ⟨h28, eh28⟩ : ∃ z : tw_H, z = tw_up h x (.inr (9, [.int td_3, .int m, .ref ca_4, .int (nI (g.2 0)), .ref ha_5, .int (nI (g.2 1)), .ref da_6, .int (nI (g.2 2)), .ref c1_7, .ref c2_8, .ref c3_9, .ref c4_10])) := ⟨_, rfl⟩
  rw [← eh28]
  have sp29 : tw_sp d τ h g5 τ h28 := by rw [eh28]; exact sp0.g11 kx ⟨td_3, ca_4, ha_5, da_6, c1_7, c2_8, c3_9, c4_10, (by rw [eg5]; rfl), k11, k12, k13, k14, k15, k16, k17, (by rw [eg5]; exact k18), (by rw [eg5]; exact k19), (by rw [eg5]; exact k20), (by rw [eg5]; exact k21), (by rw [eg5]; exact k22), (by rw [eg5]; exact k23), (by rw [eg5]; exact k24), (by rw [eg5]; exact k25), (by rw [eg5]; exact k26), (by rw [eg5]; exact k27)⟩ (by rw [eg5]; intro i hi; exact if_neg hi) (by rw [eg5]; intro i hi hj; rfl)
  refine tw_iload_n 0 dX5_market_19 rfl rfl ?_
  exact tw_iret dX5_market_20 rfl (Or.inl ⟨_, rfl, rfl, ql, _, by rw [← eg5]; exact sp29⟩)

def tw_lw (T k D L : Nat) : Nat := if k = 1 ∧ T < D ∧ D % 30 = 0 then L - L / 10000 else L
/-- fuel, day, what is left -/
def tw_ld (T k n : Nat) : Nat → Nat → Nat → Int32
  | 0, _, _ => -1
  | f + 1, D, L => if tw_lw T k D L < n then nI D else tw_ld T k n f (D + 1) (tw_lw T k D L - n)
theorem tw_lw_le (T k D L : Nat) : tw_lw T k D L ≤ L := by
  unfold tw_lw
  split
  · exact Nat.sub_le _ _
  · exact Nat.le_refl _
theorem tw_ld_s {T k n D L L9 : Nat} (hD : D ≤ 3000) (e : tw_lw T k D L = L9) : tw_ld T k n (3001 - D) D L = if L9 < n then nI D else tw_ld T k n (3001 - (D + 1)) (D + 1) (L9 - n) := by
  rw [show 3001 - D = (3000 - D) + 1 by omega, show 3001 - (D + 1) = 3000 - D by omega]
  show (if tw_lw T k D L < n then nI D else tw_ld T k n (3000 - D) (D + 1) (tw_lw T k D L - n)) = _
  rw [e]
set_option maxHeartbeats 4000000 in
set_option maxRecDepth 100000 in
theorem c4_X5_firstDayShort (d : tw_D) (g : tw_G) (τ : tw_K) (h : tw_H) (hw : tw_wt d g τ h)  (x : Nat) (kx : τ x = 11) (v : Nat) (kv : τ v = 1) (j : Nat) (hj : j < 4) (hb : g.2 (4096 + v) = 160 + 64 * j + 24) (k : Nat) (hk : k < 2) (n : Nat) (hn : n ≤ 99999) (L0 : Nat) (eL : g.1 (160 + 64 * j + 24 + k) = nI L0) (hL : L0 ≤ 59000000) : tw_Ct d mX5_firstDayShort 0 0 [.ref x, .ref v, .int (nI k), .int (nI n)] h (tw_qi (fun r h1 => h1 = h ∧ r = tw_ld (g.2 21) k n (3001 - g.2 21) (g.2 21) L0) tw_nx) := by
  refine tw_of (by decide +kernel) (Nat.le_of_ble_eq_true rfl) ?_
  show tw_W d mX5_firstDayShort _ 0 [(0, .ref x), (1, .ref v), (2, .int (nI k)), (3, .int (nI n))] [] h 0 0
  have sp0 := tw_sp.rf hw
  refine tw_aload_n 1 dX5_firstDayShort_0 rfl rfl ?_
  refine tw_iload_n 2 dX5_firstDayShort_1 rfl rfl ?_
  obtain ⟨e4, f5, a_6, b_7, rfl, k8⟩ := sp0.1 v 1 kv (by decide)
  obtain ⟨b9, ow10, fa9, fb9⟩ := k8
  obtain rfl : (160 + 64 * j + 24) = b9 := (ow10.b hb).symm
  subst fa9 fb9
  refine tw_bi (tw_callVN (M := mX5_firstDayShort) (pc := 2) okX3_of dX5_firstDayShort_2 w_189 rfl f5 [.int (nI k)] [] rfl rfl ⟨by decide, by decide⟩ (Nat.le_of_ble_eq_true rfl) (c4_X3_of d g τ h sp0.1 v kv (160 + 64 * j + 24) hb k (by omega)) 0 0 (Nat.le_of_ble_eq_true rfl) (Nat.le_of_ble_eq_true rfl)) (fun r3 h2 q1 => ?_) (fun E h1 q => q.elim)
  obtain ⟨q1e, q1v⟩ := q1
  rw [q1e]
  refine tw_istore [(4, .int r3), (0, .ref x), (1, .ref v), (2, .int (nI k)), (3, .int (nI n))] dX5_firstDayShort_5 (by decide) rfl ?_
  refine tw_aload_n 1 dX5_firstDayShort_7 rfl rfl ?_
  obtain ⟨e11, f12, td_13, ca_14, ha_15, da_16, c1_17, c2_18, c3_19, c4_20, rfl, k21, k22, k23, k24, k25, k26, k27, k28, k29, k30, k31, k32, k33, k34, k35, k36, k37⟩ := sp0.1 x 11 kx (by decide)
  refine tw_get (v := .int td_13) rfl in_9 0 dX5_firstDayShort_8 w_140 rfl (by decide) f12 rfl ?_
  refine tw_istore [(5, .int td_13), (4, .int r3), (0, .ref x), (1, .ref v), (2, .int (nI k)), (3, .int (nI n))] dX5_firstDayShort_11 (by decide) rfl ?_
  have L42 : ∀ (r40 : Nat) (x38 : Int32) (x39 : Int32), (∃ D L, x39 = nI D ∧ x38 = nI L ∧ g.2 21 ≤ D ∧ D ≤ 3001 ∧ L ≤ 59000000 ∧ tw_ld (g.2 21) k n (3001 - g.2 21) (g.2 21) L0 = tw_ld (g.2 21) k n (3001 - D) D L) → ((3001 : Int) - x39.toInt).toNat < r40 → tw_W d mX5_firstDayShort (tw_qi (fun r h1 => h1 = h ∧ r = tw_ld (g.2 21) k n (3001 - g.2 21) (g.2 21) L0) tw_nx) 13 [(0, .ref x), (1, .ref v), (2, .int (nI k)), (3, .int (nI n)), (4, .int x38), (5, .int x39)] [] h 0 0 := by
    intro r40
    induction r40 with
    | zero => intro x38 x39 hi47 hk46; exact absurd hk46 (Nat.not_lt_zero _)
    | succ r40 ih41 =>
      intro x38 x39 hi47 hk46
      refine tw_iload 5 dX5_firstDayShort_13 rfl ?_
      obtain ⟨D, L, eD, eL9, hT9, hD31, hL9, eq9⟩ := hi47
      subst eD
      subst eL9
      refine tw_sipush (v := 3000) dX5_firstDayShort_15 (by decide) ?_
      refine tw_icmp_gt 75 dX5_firstDayShort_18 (by decide) (fun c48 => ?_) (fun c48 => ?_)
      · have hD9 : D = 3001 := by have z := c48; rw [show (3000 : Int32) = nI 3000 from rfl] at z; have y := (nI_ltI (by decide) (by omega)).mp z; omega
        refine tw_iconst (v := -1) dX5_firstDayShort_75 (by decide) ?_
        exact tw_iret dX5_firstDayShort_76 rfl (Or.inl ⟨_, rfl, rfl, by rw [eq9, hD9]; rfl⟩)
      · have hD9 : D ≤ 3000 := by have z := c48; rw [show (3000 : Int32) = nI 3000 from rfl] at z; rcases Nat.lt_or_ge 3000 D with y | y; exact absurd ((nI_ltI (by decide) (by omega)).mpr y) z; exact y
        refine tw_iload_n 2 dX5_firstDayShort_21 rfl rfl ?_
        refine tw_iconst (v := 1) dX5_firstDayShort_22 (by decide) ?_
        refine tw_icmp_ne 54 dX5_firstDayShort_23 (by decide) (fun c49 => ?_) (fun c49 => ?_)
        · obtain ⟨L9, eL9⟩ : ∃ z, z = L := ⟨_, rfl⟩
          have lw9 : tw_lw (g.2 21) k D L = L9 := by rw [eL9]; exact if_neg (fun z => c49 (by rw [z.1]; rfl))
          have l9b : L9 ≤ L := by rw [← lw9]; exact tw_lw_le _ _ _ _
          have lv9 : (nI L) = nI L9 := by rw [eL9]
          rw [lv9]
          refine tw_iload 4 dX5_firstDayShort_54 rfl ?_
          refine tw_iload_n 3 dX5_firstDayShort_56 rfl rfl ?_
          refine tw_icmp_ge 63 dX5_firstDayShort_57 (by decide) (fun c50 => ?_) (fun c50 => ?_)
          · have ge9 : ¬ L9 < n := by have z := (tw_nIle (by omega) (by omega)).mp c50; omega
            refine tw_iload 4 dX5_firstDayShort_63 rfl ?_
            refine tw_iload_n 3 dX5_firstDayShort_65 rfl rfl ?_
            refine tw_isub dX5_firstDayShort_66 ?_
            refine tw_nmi (fun v51 ev51 => ?_)
            refine tw_istore [(4, .int v51), (0, .ref x), (1, .ref v), (2, .int (nI k)), (3, .int (nI n)), (5, .int (nI D))] dX5_firstDayShort_67 (by decide) rfl ?_
            obtain ⟨v52, ev52⟩ : ∃ y : Int32, y = (nI D) + 1 := ⟨_, rfl⟩
            refine tw_iinc [(5, .int v52), (4, .int v51), (0, .ref x), (1, .ref v), (2, .int (nI k)), (3, .int (nI n))] 5 dX5_firstDayShort_69 rfl (by rw [ev52]; rfl) (by decide) rfl ?_
            refine tw_goto 13 dX5_firstDayShort_72 (by decide) ?_
            refine tw_lv [2, 3, 4, 5, 1, 0] rfl ?_
            exact ih41 v51 v52 (⟨D + 1, L9 - n, by rw [ev52]; exact nI_1 D, by rw [ev51]; exact tw_I_sub (by omega) (by omega), by omega, by omega, by omega, by rw [eq9, tw_ld_s hD9 lw9, if_neg ge9]⟩) (tw_mle ev52 c48 hk46)
          · have lt9 : L9 < n := by rcases Nat.lt_or_ge L9 n with y | y; exact y; exact absurd ((tw_nIle (by omega) (by omega)).mpr y) c50
            refine tw_iload 5 dX5_firstDayShort_60 rfl ?_
            exact tw_iret dX5_firstDayShort_62 rfl (Or.inl ⟨_, rfl, rfl, by rw [eq9, tw_ld_s hD9 lw9, if_pos lt9]⟩)
        · refine tw_iload 5 dX5_firstDayShort_26 rfl ?_
          refine tw_aload_n 0 dX5_firstDayShort_28 rfl rfl ?_
          refine tw_get (v := .int td_13) rfl in_9 0 dX5_firstDayShort_29 w_140 rfl (by decide) f12 rfl ?_
          refine tw_icmp_le 54 dX5_firstDayShort_32 (by decide) (fun c53 => ?_) (fun c53 => ?_)
          · obtain ⟨L9, eL9⟩ : ∃ z, z = L := ⟨_, rfl⟩
            have lw9 : tw_lw (g.2 21) k D L = L9 := by rw [eL9]; exact if_neg (fun z => by have y := c53; rw [k32] at y; have y2 := (tw_nIle (by omega) (by omega)).mp y; omega)
            have l9b : L9 ≤ L := by rw [← lw9]; exact tw_lw_le _ _ _ _
            have lv9 : (nI L) = nI L9 := by rw [eL9]
            rw [lv9]
            refine tw_iload 4 dX5_firstDayShort_54 rfl ?_
            refine tw_iload_n 3 dX5_firstDayShort_56 rfl rfl ?_
            refine tw_icmp_ge 63 dX5_firstDayShort_57 (by decide) (fun c54 => ?_) (fun c54 => ?_)
            · have ge9 : ¬ L9 < n := by have z := (tw_nIle (by omega) (by omega)).mp c54; omega
              refine tw_iload 4 dX5_firstDayShort_63 rfl ?_
              refine tw_iload_n 3 dX5_firstDayShort_65 rfl rfl ?_
              refine tw_isub dX5_firstDayShort_66 ?_
              refine tw_nmi (fun v55 ev55 => ?_)
              refine tw_istore [(4, .int v55), (0, .ref x), (1, .ref v), (2, .int (nI k)), (3, .int (nI n)), (5, .int (nI D))] dX5_firstDayShort_67 (by decide) rfl ?_
              obtain ⟨v56, ev56⟩ : ∃ y : Int32, y = (nI D) + 1 := ⟨_, rfl⟩
              refine tw_iinc [(5, .int v56), (4, .int v55), (0, .ref x), (1, .ref v), (2, .int (nI k)), (3, .int (nI n))] 5 dX5_firstDayShort_69 rfl (by rw [ev56]; rfl) (by decide) rfl ?_
              refine tw_goto 13 dX5_firstDayShort_72 (by decide) ?_
              refine tw_lv [2, 3, 4, 5, 1, 0] rfl ?_
              exact ih41 v55 v56 (⟨D + 1, L9 - n, by rw [ev56]; exact nI_1 D, by rw [ev55]; exact tw_I_sub (by omega) (by omega), by omega, by omega, by omega, by rw [eq9, tw_ld_s hD9 lw9, if_neg ge9]⟩) (tw_mle ev56 c48 hk46)
            · have lt9 : L9 < n := by rcases Nat.lt_or_ge L9 n with y | y; exact y; exact absurd ((tw_nIle (by omega) (by omega)).mpr y) c54
              refine tw_iload 5 dX5_firstDayShort_60 rfl ?_
              exact tw_iret dX5_firstDayShort_62 rfl (Or.inl ⟨_, rfl, rfl, by rw [eq9, tw_ld_s hD9 lw9, if_pos lt9]⟩)
          · refine tw_iload 5 dX5_firstDayShort_35 rfl ?_
            refine tw_bi (tw_callS (M := mX5_firstDayShort) (pc := 37) okX5_isWearDay dX5_firstDayShort_37 w_325 [.int (nI D)] [] rfl rfl ⟨by decide, by decide⟩ (Nat.le_of_ble_eq_true rfl) (c4_X5_isWearDay d g τ h sp0.1 D (by omega)) 0 0 (Nat.le_of_ble_eq_true rfl) (Nat.le_of_ble_eq_true rfl)) (fun r59 h58 q57 => ?_) (fun E h1 q => q.elim)
            obtain ⟨q57e, q57d⟩ := q57
            rw [q57e]
            rcases q57d with ⟨q57r, wd9⟩ | ⟨q57r, wd9⟩
            · rw [q57r]
              refine tw_if_eq 54 dX5_firstDayShort_40 (by decide) (fun c60 => absurd c60 (by decide)) (fun _ => ?_)
              refine tw_iload 4 dX5_firstDayShort_43 rfl ?_
              refine tw_iload 4 dX5_firstDayShort_45 rfl ?_
              refine tw_sipush (v := 10000) dX5_firstDayShort_47 (by decide) ?_
              refine tw_idiv dX5_firstDayShort_50 (by decide) ?_
              refine tw_nmi (fun v61 ev61 => ?_)
              refine tw_isub dX5_firstDayShort_51 ?_
              refine tw_nmi (fun v62 ev62 => ?_)
              refine tw_istore [(4, .int v62), (0, .ref x), (1, .ref v), (2, .int (nI k)), (3, .int (nI n)), (5, .int (nI D))] dX5_firstDayShort_52 (by decide) rfl ?_
              obtain ⟨L9, eL9⟩ : ∃ z, z = (L - L / 10000) := ⟨_, rfl⟩
              have lw9 : tw_lw (g.2 21) k D L = L9 := by rw [eL9]; exact if_pos ⟨tw_nIj (b := 1) c49 (by omega) (by decide), by rcases Nat.lt_or_ge (g.2 21) D with y | y; exact y; exact absurd (by rw [k32]; exact (tw_nIle (by omega) (by omega)).mpr y) c53, wd9⟩
              have l9b : L9 ≤ L := by rw [← lw9]; exact tw_lw_le _ _ _ _
              have lv9 : v62 = nI L9 := by rw [ev62, ev61, eL9, show (10000 : Int32) = nI 10000 from rfl, tw_I_div (by omega) (by decide)]; exact tw_I_sub (by omega) (Nat.div_le_self _ _)
              subst lv9
              refine tw_iload 0 dX5_firstDayShort_54 rfl ?_
              refine tw_iload_n 4 dX5_firstDayShort_56 rfl rfl ?_
              refine tw_icmp_ge 63 dX5_firstDayShort_57 (by decide) (fun c63 => ?_) (fun c63 => ?_)
              · have ge9 : ¬ L9 < n := by have z := (tw_nIle (by omega) (by omega)).mp c63; omega
                refine tw_iload 0 dX5_firstDayShort_63 rfl ?_
                refine tw_iload_n 4 dX5_firstDayShort_65 rfl rfl ?_
                refine tw_isub dX5_firstDayShort_66 ?_
                refine tw_nmi (fun v64 ev64 => ?_)
                refine tw_istore [(4, .int v64), (0, .ref x), (1, .ref v), (2, .int (nI k)), (3, .int (nI n)), (5, .int (nI D))] dX5_firstDayShort_67 (by decide) rfl ?_
                obtain ⟨v65, ev65⟩ : ∃ y : Int32, y = (nI D) + 1 := ⟨_, rfl⟩
                refine tw_iinc [(5, .int v65), (4, .int v64), (0, .ref x), (1, .ref v), (2, .int (nI k)), (3, .int (nI n))] 5 dX5_firstDayShort_69 rfl (by rw [ev65]; rfl) (by decide) rfl ?_
                refine tw_goto 13 dX5_firstDayShort_72 (by decide) ?_
                refine tw_lv [2, 3, 4, 5, 1, 0] rfl ?_
                exact ih41 v64 v65 (⟨D + 1, L9 - n, by rw [ev65]; exact nI_1 D, by rw [ev64]; exact tw_I_sub (by omega) (by omega), by omega, by omega, by omega, by rw [eq9, tw_ld_s hD9 lw9, if_neg ge9]⟩) (tw_mle ev65 c48 hk46)
              · have lt9 : L9 < n := by rcases Nat.lt_or_ge L9 n with y | y; exact y; exact absurd ((tw_nIle (by omega) (by omega)).mpr y) c63
                refine tw_iload 5 dX5_firstDayShort_60 rfl ?_
                exact tw_iret dX5_firstDayShort_62 rfl (Or.inl ⟨_, rfl, rfl, by rw [eq9, tw_ld_s hD9 lw9, if_pos lt9]⟩)
            · rw [q57r]
              refine tw_if_eq 54 dX5_firstDayShort_40 (by decide) (fun _ => ?_) (fun c66 => absurd (by decide) c66)
              obtain ⟨L9, eL9⟩ : ∃ z, z = L := ⟨_, rfl⟩
              have lw9 : tw_lw (g.2 21) k D L = L9 := by rw [eL9]; exact if_neg (fun z => wd9 z.2.2)
              have l9b : L9 ≤ L := by rw [← lw9]; exact tw_lw_le _ _ _ _
              have lv9 : (nI L) = nI L9 := by rw [eL9]
              rw [lv9]
              refine tw_iload 4 dX5_firstDayShort_54 rfl ?_
              refine tw_iload_n 3 dX5_firstDayShort_56 rfl rfl ?_
              refine tw_icmp_ge 63 dX5_firstDayShort_57 (by decide) (fun c67 => ?_) (fun c67 => ?_)
              · have ge9 : ¬ L9 < n := by have z := (tw_nIle (by omega) (by omega)).mp c67; omega
                refine tw_iload 4 dX5_firstDayShort_63 rfl ?_
                refine tw_iload_n 3 dX5_firstDayShort_65 rfl rfl ?_
                refine tw_isub dX5_firstDayShort_66 ?_
                refine tw_nmi (fun v68 ev68 => ?_)
                refine tw_istore [(4, .int v68), (0, .ref x), (1, .ref v), (2, .int (nI k)), (3, .int (nI n)), (5, .int (nI D))] dX5_firstDayShort_67 (by decide) rfl ?_
                obtain ⟨v69, ev69⟩ : ∃ y : Int32, y = (nI D) + 1 := ⟨_, rfl⟩
                refine tw_iinc [(5, .int v69), (4, .int v68), (0, .ref x), (1, .ref v), (2, .int (nI k)), (3, .int (nI n))] 5 dX5_firstDayShort_69 rfl (by rw [ev69]; rfl) (by decide) rfl ?_
                refine tw_goto 13 dX5_firstDayShort_72 (by decide) ?_
                refine tw_lv [2, 3, 4, 5, 1, 0] rfl ?_
                exact ih41 v68 v69 (⟨D + 1, L9 - n, by rw [ev69]; exact nI_1 D, by rw [ev68]; exact tw_I_sub (by omega) (by omega), by omega, by omega, by omega, by rw [eq9, tw_ld_s hD9 lw9, if_neg ge9]⟩) (tw_mle ev69 c48 hk46)
              · have lt9 : L9 < n := by rcases Nat.lt_or_ge L9 n with y | y; exact y; exact absurd ((tw_nIle (by omega) (by omega)).mpr y) c67
                refine tw_iload 5 dX5_firstDayShort_60 rfl ?_
                exact tw_iret dX5_firstDayShort_62 rfl (Or.inl ⟨_, rfl, rfl, by rw [eq9, tw_ld_s hD9 lw9, if_pos lt9]⟩)
  refine tw_lv [2, 3, 4, 5, 1, 0] rfl ?_
  exact L42 _ r3 td_13 (⟨g.2 21, L0, k32, by rw [q1v]; exact eL, Nat.le_refl _, by have z := k33; omega, hL, rfl⟩) (Nat.lt_succ_self _)

def tw_CV (g : tw_G) : Prop := ∀ j, j < g.2 6 → ∀ k, k < 2 → g.1 (160 + 64 * j + 24 + k) = nI (tw_DN (g.1 (160 + 64 * j + 24 + k))) ∧ tw_DN (g.1 (160 + 64 * j + 24 + k)) ≤ 59000000
set_option maxHeartbeats 4000000 in
set_option maxRecDepth 100000 in
theorem c2_X5_last (d : tw_D) (g : tw_G) (τ : tw_K) (h : tw_H) (hw : tw_wt d g τ h) (x : Nat) (kx : τ x = 11) (a : Int32) (m : Int32) (gr : Int32) (he : tw_CV g) : tw_Ct d mX5_last 20 120 [.ref x, .int a, .int m, .int gr] h (tw_qi (fun r9 h1 => r9 = tw_ld (g.2 21) (tw_DN m) (tw_DN gr) (3001 - g.2 21) (g.2 21) (tw_DN (g.1 (160 + 64 * tw_DN a + 24 + tw_DN m))) ∧ (tw_ix (g.2 6) a) ∧ (tw_RG1 m gr) ∧ ∃ τ1, tw_sp d τ h (g) τ1 h1) (fun E h1 => (E = tw_IOE ∧ ¬ (tw_ix (g.2 6) a) ∨ E = tw_IAE ∧ tw_ix (g.2 6) a ∧ ¬ (tw_RG1 m gr)) ∧ ∃ τ1, tw_sp d τ h g τ1 h1)) := by
  refine tw_of (by decide +kernel) (Nat.le_of_ble_eq_true rfl) ?_
  show tw_W d mX5_last _ 0 [(0, .ref x), (1, .int a), (2, .int m), (3, .int gr)] [] h 20 120
  have sp0 := tw_sp.rf hw
  obtain ⟨b96, b97, b98⟩ := tw_b678 hw kx
  refine tw_aload_n 0 dX5_last_0 rfl rfl ?_
  refine tw_iload_n 1 dX5_last_1 rfl rfl ?_
  obtain ⟨e4, f5, td_6, ca_7, ha_8, da_9, c1_10, c2_11, c3_12, c4_13, rfl, k14, k15, k16, k17, k18, k19, k20, k21, k22, k23, k24, k25, k26, k27, k28, k29, k30⟩ := sp0.1 x 11 kx (by decide)
  refine tw_br (tw_callV (M := mX5_last) (pc := 2) okX5_countryAt dX5_last_2 w_546 rfl f5 [.int a] [] rfl rfl ⟨by decide, by decide⟩ (Nat.le_of_ble_eq_true rfl) (c3_X5_countryAt d g τ h sp0.1 x kx a) 19 114 (Nat.le_of_ble_eq_true rfl) (Nat.le_of_ble_eq_true rfl)) (fun r3 h2 q1 => ?_) (fun E h1 q1 => Or.inr ⟨E, rfl, (Or.inl ⟨q1.1, q1.2.2⟩), τ, by rw [q1.2.1]; exact sp0⟩)
  obtain ⟨q1e, q1k, ja, hja, q1n, q1b⟩ := q1
  rw [q1e]
  subst q1n
  have cDa : tw_DN (nI ja) = ja := nI_clamp (by omega)
  have ixa : tw_ix (g.2 6) (nI ja) := ⟨ja, hja, rfl⟩
  have ix0 := ixa
  refine tw_astore [(4, .ref r3), (0, .ref x), (1, .int (nI ja)), (2, .int m), (3, .int gr)] dX5_last_5 (by decide) rfl ?_
  refine tw_iload_n 3 dX5_last_7 rfl rfl ?_
  refine tw_bv (tw_callS (M := mX5_last) (pc := 8) okX5_needMetal dX5_last_8 w_573 [.int m] [] rfl rfl ⟨by decide, by decide⟩ (Nat.le_of_ble_eq_true rfl) (c2_X5_needMetal d g τ h sp0.1 m) 18 108 (Nat.le_of_ble_eq_true rfl) (Nat.le_of_ble_eq_true rfl)) (fun h32 q31 => ?_) (fun E h1 q31 => Or.inr ⟨E, rfl, (Or.inr (⟨q31.1, ix0, fun z => q31.2.2 z.1⟩)), τ, by rw [q31.2.1]; exact sp0⟩)
  obtain ⟨q31e, rcm⟩ := q31
  rw [q31e]
  have rcm0 := rcm
  obtain ⟨k, hk, km⟩ := rcm.k
  subst km
  have cDm : tw_DN (nI k) = k := nI_clamp (by omega)
  refine tw_iload_n 4 dX5_last_11 rfl rfl ?_
  refine tw_iconst (v := 1) dX5_last_12 (by decide) ?_
  refine tw_ldc (v := 99999) dX5_last_13 w_470 ?_
  refine tw_bv (tw_callS (M := mX5_last) (pc := 15) okX5_needRange dX5_last_15 w_399 [.int gr, .int 1, .int 99999] [] rfl rfl ⟨by decide, by decide⟩ (Nat.le_of_ble_eq_true rfl) (c2_X5_needRange d g τ h sp0.1 gr 1 99999) 17 102 (Nat.le_of_ble_eq_true rfl) (Nat.le_of_ble_eq_true rfl)) (fun h35 q34 => ?_) (fun E h1 q34 => Or.inr ⟨E, rfl, (Or.inr (⟨q34.1, ix0, fun z => q34.2.2 z.2⟩)), τ, by rw [q34.2.1]; exact sp0⟩)
  obtain ⟨q34e, rlgr⟩ := q34
  rw [q34e]
  have rc0 : tw_RG1 (nI k) gr := ⟨rcm0, rlgr⟩
  obtain ⟨n9, hn1, hn, en⟩ := tw_gr1 rlgr
  subst en
  have cDgr : tw_DN (nI n9) = n9 := nI_clamp (by omega)
  refine tw_aload_n 1 dX5_last_18 rfl rfl ?_
  refine tw_aload 0 dX5_last_19 rfl ?_
  obtain ⟨e37, f38, n_39, r_40, c_41, go_42, so_43, v_44, rd_45, rf_46, t_47, rfl, k48, k49, k50, k51, k52, k53, k54, k55, k56⟩ := sp0.1 r3 2 q1k (by decide)
  obtain ⟨j57, ow58, fn9, fr9, fc9, fg9, fs9, q59, q60, q61, q62⟩ := k56
  obtain rfl : ja = j57 := by have z := ow58.b q1b; omega
  subst fn9 fr9 fc9 fg9 fs9
  refine tw_getN (v := .ref v_44) rfl in_4 3 dX5_last_21 w_508 rfl (by decide) f38 rfl ?_
  refine tw_iload_n 3 dX5_last_24 rfl rfl ?_
  refine tw_iload_n 4 dX5_last_25 rfl rfl ?_
  have V9 := he ja hja k hk
  refine tw_bi (tw_callV (M := mX5_last) (pc := 26) okX5_firstDayShort dX5_last_26 w_321 rfl f5 [.ref v_44, .int (nI k), .int (nI n9)] [] rfl rfl ⟨by decide, by decide⟩ (Nat.le_of_ble_eq_true rfl) (c4_X5_firstDayShort d g τ h sp0.1 x kx v_44 k48 ja (by omega) q62 k hk n9 hn _ V9.1 V9.2) 17 102 (Nat.le_of_ble_eq_true rfl) (Nat.le_of_ble_eq_true rfl)) (fun r65 h64 q63 => ?_) (fun E h1 q => q.elim)
  obtain ⟨q63e, q63v⟩ := q63
  rw [q63e]
  exact tw_iret dX5_last_29 rfl (Or.inl ⟨_, rfl, (by (try rw [cDa]); (try rw [cDm]); (try rw [cDgr]); first | done | exact q63v), ix0, rc0, _, (by (try rw [cDa]); (try rw [cDm]); (try rw [cDgr]); first | done | exact sp0)⟩)

/-- grams' worth -/
def tw_wo (G Sv M : Int32) : Int32 := nI (tw_DN Sv + tw_DN G * tw_DN M / 10)
def tw_hC (g : tw_G) (a : Nat) : Nat → Int32
  | 0 => g.1 (768 + 32 * a + 1)
  | 1 => g.1 (768 + 32 * a + 2)
  | 2 => g.1 (768 + 32 * a + 0)
  | 3 => g.1 (768 + 32 * a + 8 + 0)
  | 4 => g.1 (768 + 32 * a + 8 + 1)
  | 5 => tw_wo (g.1 (768 + 32 * a + 8 + 0)) (g.1 (768 + 32 * a + 8 + 1)) (g.1 0)
  | 6 => tw_isum (fun j => if g.1 (1152 + 8 * j + 2) = 0 ∧ g.1 (1152 + 8 * j + 3) = nI a then 1 else 0) (g.2 8)
  | _ + 7 => tw_isum (fun j => if g.1 (1152 + 8 * j + 2) = 0 ∧ g.1 (1152 + 8 * j + 4) = nI a then 1 else 0) (g.2 8)
/-- the class's purses and vaults are numbers, the market too -/
def tw_CW (g : tw_G) : Prop := tw_CV g ∧ (∀ j, j < g.2 7 → ∀ k, k < 2 → g.1 (768 + 32 * j + 8 + k) = nI (tw_DN (g.1 (768 + 32 * j + 8 + k))) ∧ tw_DN (g.1 (768 + 32 * j + 8 + k)) ≤ 59000000) ∧ g.1 0 = nI (tw_DN (g.1 0)) ∧ tw_DN (g.1 0) ≤ 200
def tw_ck (G Du M : Nat) : Int32 := if G * M / 10 < Du then 0 else 1
def tw_dC (g : tw_G) (a : Nat) : Nat → Int32
  | 0 => g.1 (1152 + 8 * a + 3)
  | 1 => g.1 (1152 + 8 * a + 4)
  | 2 => g.1 (1152 + 8 * a + 0)
  | 3 => g.1 (1152 + 8 * a + 1)
  | 4 => if g.1 (1152 + 8 * a + 2) = 0 then nI (tw_sd g a) else 0
  | 5 => if g.1 (1152 + 8 * a + 2) = 0 then 0 else 1
  | _ + 6 => if g.1 (1152 + 8 * a + 2) = 0 ∧ g.1 (768 + 32 * tw_dF g a + 1) ≠ -1 then tw_ck (tw_sg g a 0) (tw_sd g a) (tw_DN (g.1 0)) else -1
def tw_CX (g : tw_G) : Prop := tw_CH g ∧ g.1 0 = nI (tw_DN (g.1 0)) ∧ tw_DN (g.1 0) ≤ 200
def tw_oS (go so : Int32) : Int32 := (if go = 0 then 0 else 1) + (if so = 0 then 0 else 2)
def tw_pn (f : Nat → Int32) : Int32 := 20 * f 0 + 10 * f 1 + 5 * f 2 + 2 * f 3 + f 4
def tw_oC (g : tw_G) (a : Nat) : Nat → Int32
  | 0 => g.1 (160 + 64 * a)
  | 1 => g.1 (160 + 64 * a + 1)
  | 2 => g.1 (160 + 64 * a + 24 + 0)
  | 3 => g.1 (160 + 64 * a + 24 + 1)
  | 4 => tw_oS (g.1 (160 + 64 * a + 2)) (g.1 (160 + 64 * a + 3))
  | 5 => tw_isum (fun j => if g.1 (768 + 32 * j + 1) = nI a then 1 else 0) (g.2 7)
  | 6 => tw_wo (g.1 (160 + 64 * a + 24 + 0)) (g.1 (160 + 64 * a + 24 + 1)) (g.1 0)
  | 7 => tw_pn (fun k => g.1 (160 + 64 * a + 32 + k))
  | _ + 8 => tw_isum (fun j => if g.1 (160 + 64 * j) = g.1 (160 + 64 * a) then 1 else 0) (g.2 6)
def tw_SO (g : tw_G) : Prop := (∀ k, k < 2 → tw_wC g k 0 + tw_wC g k 1 + tw_wC g k 2 + tw_wC g k 3 + tw_wC g k 4 = tw_wC g k 5) ∧ (∀ j, j < g.2 6 → (0 ≤ g.1 (160 + 64 * j + 24 + 0) ∧ 0 ≤ g.1 (160 + 64 * j + 24 + 1)) ∧ ∀ k, k < 5 → 0 ≤ g.1 (160 + 64 * j + 32 + k)) ∧ (∀ j, j < g.2 7 → (0 ≤ g.1 (768 + 32 * j + 8 + 0) ∧ 0 ≤ g.1 (768 + 32 * j + 8 + 1)) ∧ (g.1 (768 + 32 * j + 2) ≠ -1 → nI (g.2 21) < g.1 (768 + 32 * j + 0))) ∧ ∀ a b, a < g.2 6 → b < g.2 6 → g.1 (160 + 64 * a + 8 + b) = g.1 (160 + 64 * b + 8 + a) ∧ g.1 (160 + 64 * a + 16 + b) = g.1 (160 + 64 * b + 16 + a)
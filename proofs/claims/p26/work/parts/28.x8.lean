/-! the class's methods over the typed heap. Laid by wip/p5/mkclass.py. -/
/-! what is asked, the reference -/
theorem tw_sum_s {f : Nat → Nat} (a : Nat) : ∀ m, tw_sum f (a + m) = tw_sum f a + tw_sum (fun j => f (a + j)) m
  | 0 => rfl
  | m + 1 => by
    show tw_sum f (a + m) + f (a + m) = tw_sum f a + (tw_sum (fun j => f (a + j)) m + f (a + m))
    rw [tw_sum_s a m, Nat.add_assoc]
theorem tw_sum_m {f : Nat → Nat} {m : Nat} : ∀ n, m ≤ n → tw_sum f m ≤ tw_sum f n
  | 0, h => by rw [show m = 0 by omega]; exact Nat.le_refl _
  | n + 1, h => by
    show tw_sum f m ≤ tw_sum f n + f n
    by_cases q : m = n + 1
    · rw [q]
      exact Nat.le_refl _
    · exact Nat.le_trans (tw_sum_m n (by omega)) (Nat.le_add_right _ _)
def tw_wM (g : tw_G) (k : Nat) : Nat → Nat
  | 0 => tw_sum (fun j => tw_DN (g.1 (480 + 64 * j + 16 + k))) (g.2 3)
  | 1 => tw_sum (fun j => tw_DN (g.1 (960 + 32 * j + 8 + k))) (g.2 4)
  | w + 2 => tw_DN (g.1 (1344 + 8 * w + k))
theorem tw_AM.w0 {B : Nat} {g : tw_G} (h : tw_AM B g) {k m : Nat} (hk : k < 2) (hm : m ≤ 4) : tw_sum (fun j => tw_DN (g.1 (480 + 64 * j + 16 + k))) m ≤ B := by
  have e : tw_sum (fun j => tw_DN (g.1 (480 + 64 * j + 16 + k))) m = tw_sum (fun i => tw_am g i k) m := tw_sum_c m (fun j hj => by unfold tw_am; rw [tw_ac_v (by omega), show 496 + 64 * j + k = 480 + 64 * j + 16 + k by omega])
  have l := tw_sum_m (f := fun i => tw_am g i k) (m := m) 13 (by omega)
  have z := h.2 k hk
  omega
theorem tw_AM.w1 {B : Nat} {g : tw_G} (h : tw_AM B g) {k m : Nat} (hk : k < 2) (hm : m ≤ 6) : tw_sum (fun j => tw_DN (g.1 (960 + 32 * j + 8 + k))) m ≤ B := by
  have e : tw_sum (fun j => tw_DN (g.1 (960 + 32 * j + 8 + k))) m = tw_sum (fun j => tw_am g (4 + j) k) m := tw_sum_c m (fun j hj => by unfold tw_am; rw [tw_ac_h (by omega) (by omega), show 840 + 32 * (4 + j) + k = 960 + 32 * j + 8 + k by omega])
  have l := tw_sum_m (f := fun i => tw_am g i k) (m := 4 + m) 13 (by omega)
  have s := tw_sum_s (f := fun i => tw_am g i k) 4 m
  have z := h.2 k hk
  omega
set_option maxHeartbeats 4000000 in
set_option maxRecDepth 100000 in
theorem c4_X10_lastNow (d : tw_D) (g : tw_G) (τ : tw_K) (h : tw_H) (hw : tw_wt d g τ h)  (x : Nat) (kx : τ x = 36) (a : Nat) (ha : a < g.2 3) (k : Nat) (hk : k < 2) (n : Nat) (hn : n ≤ 99999) (L0 : Nat) (eL : g.1 (480 + 64 * a + 16 + k) = nI L0) (hL : L0 ≤ 59000000) : tw_Ct d mX10_lastNow 0 0 [.ref x, .int (nI a), .int (nI k), .int (nI n)] h (tw_qi (fun r h1 => h1 = h ∧ r = tw_ld (g.2 22) k n (3001 - g.2 22) (g.2 22) L0) tw_nx) := by
  refine tw_of (by decide +kernel) (Nat.le_of_ble_eq_true rfl) ?_
  show tw_W d mX10_lastNow _ 0 [(0, .ref x), (1, .int (nI a)), (2, .int (nI k)), (3, .int (nI n))] [] h 0 0
  have sp0 := tw_sp.rf hw
  have b9 := tw_b3 hw kx
  refine tw_aload_n 0 dX10_lastNow_0 rfl rfl ?_
  obtain ⟨e1, f2, th_3, td_4, ds_5, fr_6, ca_7, us_8, wo_9, cm_10, lc_11, lh_12, ld_13, rfl, k14, k15, k16, k17, k18, k19, k20, k21, k22, k23, k24, k25, k26, k27, k28, k29, k30, k31, k32, k33, k34, k35⟩ := sp0.1 x 36 kx (by decide)
  refine tw_get (v := .ref lc_11) rfl in_14 9 dX10_lastNow_1 w_1160 rfl (by decide) f2 rfl ?_
  refine tw_iload_n 1 dX10_lastNow_4 rfl rfl ?_
  obtain ⟨e36, f37, ⟨el38, rfl, k39⟩, k40⟩ := sp0.1 lc_11 24 k20 (by decide)
  refine tw_br (tw_callV (M := mX10_lastNow) (pc := 5) okJx4a65c_get_915e3 dX10_lastNow_5 w_1296 rfl f37 [.int (nI a)] [] rfl rfl ⟨by decide, by decide⟩ (Nat.le_of_ble_eq_true rfl) (c24_get d g τ h sp0.1 lc_11 k20 a (by omega) (by omega)) 0 0 (Nat.le_of_ble_eq_true rfl) (Nat.le_of_ble_eq_true rfl)) (fun r43 h42 q41 => ?_) (fun E h1 q => q.elim)
  obtain ⟨q41e, q41k⟩ := q41
  rw [q41e]
  have el44 : tw_el h (g.2 12) a = r43 := by rw [← k40]; exact q41k.2.symm
  have kl45 : τ (g.2 12) = 24 := by rw [← k40]; exact k20
  have id46 : g.2 (4096 + r43) = 480 + 64 * a := by rw [← el44]; exact tw_eli24 sp0.1 kl45 (by omega)
  obtain ⟨e47, f48, r_49, c_50, v_51, o_52, t_53, rfl, k54, k55, k56, k57, k58, k59⟩ := sp0.1 r43 21 q41k.1 (by decide)
  obtain ⟨j60, ow61, fr9, fc9, q62, q63, q64⟩ := k59
  obtain rfl : a = j60 := by have z := ow61.b id46; omega
  subst fr9 fc9
  refine tw_castS (ci := 11) rfl dX10_lastNow_8 w_1212 f48 ?_
  refine tw_get (v := .ref v_51) rfl in_11 2 dX10_lastNow_11 w_1221 rfl (by decide) f48 rfl ?_
  refine tw_iload_n 2 dX10_lastNow_14 rfl rfl ?_
  obtain ⟨e65, f66, F67, rfl, ⟨b69, ow70, wv71⟩⟩ := sp0.1 v_51 31 k54 (by decide)
  obtain rfl : (480 + 64 * a + 16) = b69 := (ow70.b q64).symm
  have ev72 : F67 ((nI k)).toNatClampNeg = (g.1 ((480 + 64 * a + 16) + k)).toInt64 := by rw [nI_clamp (by omega)]; exact wv71 k (by omega)
  refine tw_lald (v := (g.1 ((480 + 64 * a + 16) + k)).toInt64) dX10_lastNow_15 f66 (vp_in_nI (by omega) (by decide)) ev72 ?_
  refine tw_lstore [(4, .long ((g.1 ((480 + 64 * a + 16) + k)).toInt64)), (0, .ref x), (1, .int (nI a)), (2, .int (nI k)), (3, .int (nI n))] dX10_lastNow_16 (by decide) rfl ?_
  refine tw_aload_n 1 dX10_lastNow_18 rfl rfl ?_
  refine tw_get (v := .int td_4) rfl in_14 1 dX10_lastNow_19 w_1152 rfl (by decide) f2 rfl ?_
  refine tw_istore [(6, .int td_4), (4, .long ((g.1 ((480 + 64 * a + 16) + k)).toInt64)), (0, .ref x), (1, .int (nI a)), (2, .int (nI k)), (3, .int (nI n))] dX10_lastNow_22 (by decide) rfl ?_
  have L77 : ∀ (r75 : Nat) (x73 : Int64) (x74 : Int32), (∃ D L, x74 = nI D ∧ x73 = tw_L L ∧ g.2 22 ≤ D ∧ D ≤ 3001 ∧ L ≤ 59000000 ∧ tw_ld (g.2 22) k n (3001 - g.2 22) (g.2 22) L0 = tw_ld (g.2 22) k n (3001 - D) D L) → ((3001 : Int) - x74.toInt).toNat < r75 → tw_W d mX10_lastNow (tw_qi (fun r h1 => h1 = h ∧ r = tw_ld (g.2 22) k n (3001 - g.2 22) (g.2 22) L0) tw_nx) 24 [(0, .ref x), (1, .int (nI a)), (2, .int (nI k)), (3, .int (nI n)), (4, .long x73), (6, .int x74)] [] h 0 0 := by
    intro r75
    induction r75 with
    | zero => intro x73 x74 hi81 hk80; exact absurd hk80 (Nat.not_lt_zero _)
    | succ r75 ih76 =>
      intro x73 x74 hi81 hk80
      refine tw_iload 5 dX10_lastNow_24 rfl ?_
      obtain ⟨D, L, eD, eL9, hT9, hD31, hL9, eq9⟩ := hi81
      subst eD
      refine tw_sipush (v := 3000) dX10_lastNow_26 (by decide) ?_
      refine tw_icmp_gt 89 dX10_lastNow_29 (by decide) (fun c82 => ?_) (fun c82 => ?_)
      · have hD9 : D = 3001 := by have z := c82; rw [show (3000 : Int32) = nI 3000 from rfl] at z; have y := (nI_ltI (by decide) (by omega)).mp z; omega
        refine tw_iconst (v := -1) dX10_lastNow_89 (by decide) ?_
        exact tw_iret dX10_lastNow_90 rfl (Or.inl ⟨_, rfl, rfl, by rw [eq9, hD9]; rfl⟩)
      · have hD9 : D ≤ 3000 := by have z := c82; rw [show (3000 : Int32) = nI 3000 from rfl] at z; rcases Nat.lt_or_ge 3000 D with y | y; exact absurd ((nI_ltI (by decide) (by omega)).mpr y) z; exact y
        refine tw_iload 5 dX10_lastNow_32 rfl ?_
        refine tw_aload_n 0 dX10_lastNow_34 rfl rfl ?_
        refine tw_get (v := .int td_4) rfl in_14 1 dX10_lastNow_35 w_1152 rfl (by decide) f2 rfl ?_
        refine tw_icmp_le 65 dX10_lastNow_38 (by decide) (fun c83 => ?_) (fun c83 => ?_)
        · obtain ⟨L9, eM9⟩ : ∃ z, z = L := ⟨_, rfl⟩
          have lw9 : tw_lw (g.2 22) k D L = L9 := by rw [eM9]; exact if_neg (fun z => by have y := c83; rw [k28] at y; have y2 := (tw_nIle (by omega) (by omega)).mp y; omega)
          have l9b : L9 ≤ L := by rw [← lw9]; exact tw_lw_le _ _ _ _
          have lv9 : x73 = tw_L L9 := by rw [eM9]; exact eL9
          refine tw_lload 4 dX10_lastNow_65 rfl ?_
          refine tw_iload_n 3 dX10_lastNow_67 rfl rfl ?_
          refine tw_i2l dX10_lastNow_68 ?_
          refine tw_nml (fun v84 ev84 => ?_)
          have cy9 : v84 = tw_L n := by rw [ev84]; exact tw_L_i (by omega)
          refine tw_lcmp dX10_lastNow_69 ?_
          refine tw_nmi (fun v85 ev85 => ?_)
          refine tw_if_ge 76 dX10_lastNow_70 (by decide) (fun c86 => ?_) (fun c86 => ?_)
          · have cv9 := c86
            rw [ev85, lv9, cy9] at cv9
            have ge9 : ¬ L9 < n := by have z := (tw_cmp_ge (a := L9) (b := n) (by omega) (by omega)).mp cv9; omega
            refine tw_lload 4 dX10_lastNow_76 rfl ?_
            refine tw_iload_n 3 dX10_lastNow_78 rfl rfl ?_
            refine tw_i2l dX10_lastNow_79 ?_
            refine tw_nml (fun v87 ev87 => ?_)
            refine tw_lsub dX10_lastNow_80 ?_
            refine tw_nml (fun v88 ev88 => ?_)
            refine tw_lstore [(4, .long v88), (0, .ref x), (1, .int (nI a)), (2, .int (nI k)), (3, .int (nI n)), (6, .int (nI D))] dX10_lastNow_81 (by decide) rfl ?_
            obtain ⟨v89, ev89⟩ : ∃ y : Int32, y = (nI D) + 1 := ⟨_, rfl⟩
            refine tw_iinc [(6, .int v89), (4, .long v88), (0, .ref x), (1, .int (nI a)), (2, .int (nI k)), (3, .int (nI n))] 5 dX10_lastNow_83 rfl (by rw [ev89]; rfl) (by decide) rfl ?_
            refine tw_goto 24 dX10_lastNow_86 (by decide) ?_
            refine tw_lv [2, 3, 4, 5, 1, 0] rfl ?_
            exact ih76 v88 v89 (⟨D + 1, L9 - n, by rw [ev89]; exact nI_1 D, by rw [ev88, lv9, show v87 = tw_L n from by rw [ev87]; exact tw_L_i (by omega)]; exact tw_L_sub (by omega) (by omega), by omega, by omega, by omega, by rw [eq9, tw_ld_s hD9 lw9, if_neg ge9]⟩) (tw_mle ev89 c82 hk80)
          · have cv9 := c86
            rw [ev85, lv9, cy9] at cv9
            have lt9 : L9 < n := by rcases Nat.lt_or_ge L9 n with y | y; exact y; exact absurd ((tw_cmp_ge (a := L9) (b := n) (by omega) (by omega)).mpr y) cv9
            refine tw_iload 5 dX10_lastNow_73 rfl ?_
            exact tw_iret dX10_lastNow_75 rfl (Or.inl ⟨_, rfl, rfl, by rw [eq9, tw_ld_s hD9 lw9, if_pos lt9]⟩)
        · refine tw_iload 5 dX10_lastNow_41 rfl ?_
          refine tw_bipush (v := 30) dX10_lastNow_43 (by decide) ?_
          refine tw_irem dX10_lastNow_45 (by decide) ?_
          refine tw_nmi (fun v90 ev90 => ?_)
          refine tw_if_ne 65 dX10_lastNow_46 (by decide) (fun c91 => ?_) (fun c91 => ?_)
          · have m9 : v90 = nI (D % 30) := by rw [ev90]; exact tw_I_mod (b := 30) (by omega) (by decide) (by decide)
            have wd9 : ¬ D % 30 = 0 := fun z => by have y := c91; rw [m9, z] at y; exact y rfl
            obtain ⟨L9, eM9⟩ : ∃ z, z = L := ⟨_, rfl⟩
            have lw9 : tw_lw (g.2 22) k D L = L9 := by rw [eM9]; exact if_neg (fun z => wd9 z.2.2)
            have l9b : L9 ≤ L := by rw [← lw9]; exact tw_lw_le _ _ _ _
            have lv9 : x73 = tw_L L9 := by rw [eM9]; exact eL9
            refine tw_lload 4 dX10_lastNow_65 rfl ?_
            refine tw_iload_n 3 dX10_lastNow_67 rfl rfl ?_
            refine tw_i2l dX10_lastNow_68 ?_
            refine tw_nml (fun v92 ev92 => ?_)
            have cy9 : v92 = tw_L n := by rw [ev92]; exact tw_L_i (by omega)
            refine tw_lcmp dX10_lastNow_69 ?_
            refine tw_nmi (fun v93 ev93 => ?_)
            refine tw_if_ge 76 dX10_lastNow_70 (by decide) (fun c94 => ?_) (fun c94 => ?_)
            · have cv9 := c94
              rw [ev93, lv9, cy9] at cv9
              have ge9 : ¬ L9 < n := by have z := (tw_cmp_ge (a := L9) (b := n) (by omega) (by omega)).mp cv9; omega
              refine tw_lload 4 dX10_lastNow_76 rfl ?_
              refine tw_iload_n 3 dX10_lastNow_78 rfl rfl ?_
              refine tw_i2l dX10_lastNow_79 ?_
              refine tw_nml (fun v95 ev95 => ?_)
              refine tw_lsub dX10_lastNow_80 ?_
              refine tw_nml (fun v96 ev96 => ?_)
              refine tw_lstore [(4, .long v96), (0, .ref x), (1, .int (nI a)), (2, .int (nI k)), (3, .int (nI n)), (6, .int (nI D))] dX10_lastNow_81 (by decide) rfl ?_
              obtain ⟨v97, ev97⟩ : ∃ y : Int32, y = (nI D) + 1 := ⟨_, rfl⟩
              refine tw_iinc [(6, .int v97), (4, .long v96), (0, .ref x), (1, .int (nI a)), (2, .int (nI k)), (3, .int (nI n))] 5 dX10_lastNow_83 rfl (by rw [ev97]; rfl) (by decide) rfl ?_
              refine tw_goto 24 dX10_lastNow_86 (by decide) ?_
              refine tw_lv [2, 3, 4, 5, 1, 0] rfl ?_
              exact ih76 v96 v97 (⟨D + 1, L9 - n, by rw [ev97]; exact nI_1 D, by rw [ev96, lv9, show v95 = tw_L n from by rw [ev95]; exact tw_L_i (by omega)]; exact tw_L_sub (by omega) (by omega), by omega, by omega, by omega, by rw [eq9, tw_ld_s hD9 lw9, if_neg ge9]⟩) (tw_mle ev97 c82 hk80)
            · have cv9 := c94
              rw [ev93, lv9, cy9] at cv9
              have lt9 : L9 < n := by rcases Nat.lt_or_ge L9 n with y | y; exact y; exact absurd ((tw_cmp_ge (a := L9) (b := n) (by omega) (by omega)).mpr y) cv9
              refine tw_iload 5 dX10_lastNow_73 rfl ?_
              exact tw_iret dX10_lastNow_75 rfl (Or.inl ⟨_, rfl, rfl, by rw [eq9, tw_ld_s hD9 lw9, if_pos lt9]⟩)
          · have m9 : v90 = nI (D % 30) := by rw [ev90]; exact tw_I_mod (b := 30) (by omega) (by decide) (by decide)
            have wd9 : D % 30 = 0 := by have y := c91; rw [m9] at y; exact tw_nIj (b := 0) y (by omega) (by decide)
            refine tw_iload_n 2 dX10_lastNow_49 rfl rfl ?_
            refine tw_iconst (v := 1) dX10_lastNow_50 (by decide) ?_
            refine tw_icmp_ne 65 dX10_lastNow_51 (by decide) (fun c98 => ?_) (fun c98 => ?_)
            · obtain ⟨L9, eM9⟩ : ∃ z, z = L := ⟨_, rfl⟩
              have lw9 : tw_lw (g.2 22) k D L = L9 := by rw [eM9]; exact if_neg (fun z => c98 (by rw [z.1]; rfl))
              have l9b : L9 ≤ L := by rw [← lw9]; exact tw_lw_le _ _ _ _
              have lv9 : x73 = tw_L L9 := by rw [eM9]; exact eL9
              refine tw_lload 4 dX10_lastNow_65 rfl ?_
              refine tw_iload_n 3 dX10_lastNow_67 rfl rfl ?_
              refine tw_i2l dX10_lastNow_68 ?_
              refine tw_nml (fun v99 ev99 => ?_)
              have cy9 : v99 = tw_L n := by rw [ev99]; exact tw_L_i (by omega)
              refine tw_lcmp dX10_lastNow_69 ?_
              refine tw_nmi (fun v100 ev100 => ?_)
              refine tw_if_ge 76 dX10_lastNow_70 (by decide) (fun c101 => ?_) (fun c101 => ?_)
              · have cv9 := c101
                rw [ev100, lv9, cy9] at cv9
                have ge9 : ¬ L9 < n := by have z := (tw_cmp_ge (a := L9) (b := n) (by omega) (by omega)).mp cv9; omega
                refine tw_lload 4 dX10_lastNow_76 rfl ?_
                refine tw_iload_n 3 dX10_lastNow_78 rfl rfl ?_
                refine tw_i2l dX10_lastNow_79 ?_
                refine tw_nml (fun v102 ev102 => ?_)
                refine tw_lsub dX10_lastNow_80 ?_
                refine tw_nml (fun v103 ev103 => ?_)
                refine tw_lstore [(4, .long v103), (0, .ref x), (1, .int (nI a)), (2, .int (nI k)), (3, .int (nI n)), (6, .int (nI D))] dX10_lastNow_81 (by decide) rfl ?_
                obtain ⟨v104, ev104⟩ : ∃ y : Int32, y = (nI D) + 1 := ⟨_, rfl⟩
                refine tw_iinc [(6, .int v104), (4, .long v103), (0, .ref x), (1, .int (nI a)), (2, .int (nI k)), (3, .int (nI n))] 5 dX10_lastNow_83 rfl (by rw [ev104]; rfl) (by decide) rfl ?_
                refine tw_goto 24 dX10_lastNow_86 (by decide) ?_
                refine tw_lv [2, 3, 4, 5, 1, 0] rfl ?_
                exact ih76 v103 v104 (⟨D + 1, L9 - n, by rw [ev104]; exact nI_1 D, by rw [ev103, lv9, show v102 = tw_L n from by rw [ev102]; exact tw_L_i (by omega)]; exact tw_L_sub (by omega) (by omega), by omega, by omega, by omega, by rw [eq9, tw_ld_s hD9 lw9, if_neg ge9]⟩) (tw_mle ev104 c82 hk80)
              · have cv9 := c101
                rw [ev100, lv9, cy9] at cv9
                have lt9 : L9 < n := by rcases Nat.lt_or_ge L9 n with y | y; exact y; exact absurd ((tw_cmp_ge (a := L9) (b := n) (by omega) (by omega)).mpr y) cv9
                refine tw_iload 5 dX10_lastNow_73 rfl ?_
                exact tw_iret dX10_lastNow_75 rfl (Or.inl ⟨_, rfl, rfl, by rw [eq9, tw_ld_s hD9 lw9, if_pos lt9]⟩)
            · refine tw_lload 4 dX10_lastNow_54 rfl ?_
              refine tw_lload 4 dX10_lastNow_56 rfl ?_
              refine tw_ldc2 (v := 10000) dX10_lastNow_58 w_1432 ?_
              refine tw_ldiv dX10_lastNow_61 (by decide) ?_
              refine tw_nml (fun v105 ev105 => ?_)
              refine tw_lsub dX10_lastNow_62 ?_
              refine tw_nml (fun v106 ev106 => ?_)
              refine tw_lstore [(4, .long v106), (0, .ref x), (1, .int (nI a)), (2, .int (nI k)), (3, .int (nI n)), (6, .int (nI D))] dX10_lastNow_63 (by decide) rfl ?_
              obtain ⟨L9, eM9⟩ : ∃ z, z = (L - L / 10000) := ⟨_, rfl⟩
              have lw9 : tw_lw (g.2 22) k D L = L9 := by rw [eM9]; exact if_pos ⟨tw_nIj (b := 1) c98 (by omega) (by decide), by rcases Nat.lt_or_ge (g.2 22) D with y | y; exact y; exact absurd (by rw [k28]; exact (tw_nIle (by omega) (by omega)).mpr y) c83, wd9⟩
              have l9b : L9 ≤ L := by rw [← lw9]; exact tw_lw_le _ _ _ _
              have lv9 : v106 = tw_L L9 := by rw [ev106, ev105, eM9, eL9, show (10000 : Int64) = tw_L 10000 from rfl, tw_L_div (by omega) (by decide)]; exact tw_L_sub (by omega) (Nat.div_le_self _ _)
              refine tw_lload 0 dX10_lastNow_65 rfl ?_
              refine tw_iload_n 4 dX10_lastNow_67 rfl rfl ?_
              refine tw_i2l dX10_lastNow_68 ?_
              refine tw_nml (fun v107 ev107 => ?_)
              have cy9 : v107 = tw_L n := by rw [ev107]; exact tw_L_i (by omega)
              refine tw_lcmp dX10_lastNow_69 ?_
              refine tw_nmi (fun v108 ev108 => ?_)
              refine tw_if_ge 76 dX10_lastNow_70 (by decide) (fun c109 => ?_) (fun c109 => ?_)
              · have cv9 := c109
                rw [ev108, lv9, cy9] at cv9
                have ge9 : ¬ L9 < n := by have z := (tw_cmp_ge (a := L9) (b := n) (by omega) (by omega)).mp cv9; omega
                refine tw_lload 0 dX10_lastNow_76 rfl ?_
                refine tw_iload_n 4 dX10_lastNow_78 rfl rfl ?_
                refine tw_i2l dX10_lastNow_79 ?_
                refine tw_nml (fun v110 ev110 => ?_)
                refine tw_lsub dX10_lastNow_80 ?_
                refine tw_nml (fun v111 ev111 => ?_)
                refine tw_lstore [(4, .long v111), (0, .ref x), (1, .int (nI a)), (2, .int (nI k)), (3, .int (nI n)), (6, .int (nI D))] dX10_lastNow_81 (by decide) rfl ?_
                obtain ⟨v112, ev112⟩ : ∃ y : Int32, y = (nI D) + 1 := ⟨_, rfl⟩
                refine tw_iinc [(6, .int v112), (4, .long v111), (0, .ref x), (1, .int (nI a)), (2, .int (nI k)), (3, .int (nI n))] 5 dX10_lastNow_83 rfl (by rw [ev112]; rfl) (by decide) rfl ?_
                refine tw_goto 24 dX10_lastNow_86 (by decide) ?_
                refine tw_lv [2, 3, 4, 5, 1, 0] rfl ?_
                exact ih76 v111 v112 (⟨D + 1, L9 - n, by rw [ev112]; exact nI_1 D, by rw [ev111, lv9, show v110 = tw_L n from by rw [ev110]; exact tw_L_i (by omega)]; exact tw_L_sub (by omega) (by omega), by omega, by omega, by omega, by rw [eq9, tw_ld_s hD9 lw9, if_neg ge9]⟩) (tw_mle ev112 c82 hk80)
              · have cv9 := c109
                rw [ev108, lv9, cy9] at cv9
                have lt9 : L9 < n := by rcases Nat.lt_or_ge L9 n with y | y; exact y; exact absurd ((tw_cmp_ge (a := L9) (b := n) (by omega) (by omega)).mpr y) cv9
                refine tw_iload 5 dX10_lastNow_73 rfl ?_
                exact tw_iret dX10_lastNow_75 rfl (Or.inl ⟨_, rfl, rfl, by rw [eq9, tw_ld_s hD9 lw9, if_pos lt9]⟩)
  refine tw_lv [2, 3, 4, 5, 1, 0] rfl ?_
  exact L77 _ ((g.1 ((480 + 64 * a + 16) + k)).toInt64) td_4 (⟨g.2 22, L0, k28, by exact (congrArg Int32.toInt64 eL).trans (tw_L_i (by omega)), Nat.le_refl _, by have z := k29; omega, hL, rfl⟩) (Nat.lt_succ_self _)

set_option maxHeartbeats 4000000 in
set_option maxRecDepth 100000 in
theorem c2_X10_last (d : tw_D) (g : tw_G) (τ : tw_K) (h : tw_H) (hw : tw_wt d g τ h) (x : Nat) (kx : τ x = 36) (a : Int32) (m : Int32) (gr : Int32) (o : Nat) (ko : τ o = 12) (he : tw_AM 59000000 g) : tw_Ct d mX10_last 0 0 [.ref x, .int a, .int m, .int gr] h (tw_qi (fun r9 h1 => ∃ g1 τ1, tw_sp d τ h g1 τ1 h1 ∧ h1 o = h o ∧ ((¬ tw_ix (g.2 3) a ∧ tw_th (h1 x) = 1 ∧ g1 = g) ∨ (tw_ix (g.2 3) a ∧ ¬ tw_RG1 m gr ∧ tw_th (h1 x) = 2 ∧ g1 = g) ∨ (tw_ix (g.2 3) a ∧ tw_RG1 m gr ∧ r9 = tw_ld (g.2 22) (tw_DN m) (tw_DN gr) (3001 - g.2 22) (g.2 22) (tw_DN (g.1 (480 + 64 * tw_DN a + 16 + tw_DN m))) ∧ tw_th (h1 x) = 0 ∧ g1 = g))) tw_nx) := by
  refine tw_of (by decide +kernel) (Nat.le_of_ble_eq_true rfl) ?_
  show tw_W d mX10_last _ 0 [(0, .ref x), (1, .int a), (2, .int m), (3, .int gr)] [] h 0 0
  have sp0 := tw_sp.rf hw
  have oq0 : h o = h o := rfl
  refine tw_aload_n 0 dX10_last_0 rfl rfl ?_
  refine tw_aload_n 0 dX10_last_1 rfl rfl ?_
  refine tw_iload_n 1 dX10_last_2 rfl rfl ?_
  obtain ⟨e1, f2, th_3, td_4, ds_5, fr_6, ca_7, us_8, wo_9, cm_10, lc_11, lh_12, ld_13, rfl, k14, k15, k16, k17, k18, k19, k20, k21, k22, k23, k24, k25, k26, k27, k28, k29, k30, k31, k32, k33, k34, k35⟩ := sp0.1 x 36 kx (by decide)
  refine tw_bi (tw_callV (M := mX10_last) (pc := 3) okX10_isNoCountry dX10_last_3 w_1292 rfl f2 [.int a] [.ref x] rfl rfl ⟨by decide, by decide⟩ (Nat.le_of_ble_eq_true rfl) (c2_X10_isNoCountry d g τ h sp0.1 x kx a) 0 0 (Nat.le_of_ble_eq_true rfl) (Nat.le_of_ble_eq_true rfl)) (fun r38 h37 q36 => ?_) (fun E h1 q => q.elim)
  obtain ⟨q36e, q36d⟩ := q36
  rw [q36e]
  rcases q36d with ⟨q36r, q36n⟩ | ⟨q36r, q36i⟩
  · rw [q36r]
    refine tw_iconst (v := 1) dX10_last_6 (by decide) ?_
    refine tw_bi (tw_callV (M := mX10_last) (pc := 7) okX10_start dX10_last_7 w_1200 rfl f2 [.int 1, .int 1] [] rfl rfl ⟨by decide, by decide⟩ (Nat.le_of_ble_eq_true rfl) (c_X10_start d g τ h sp0.1 x kx 1 1 (by decide)) 0 0 (Nat.le_of_ble_eq_true rfl) (Nat.le_of_ble_eq_true rfl)) (fun r41 h40 q39 => ?_) (fun E h1 q => q.elim)
    obtain ⟨e42, he43, hs44, hr45, hc46⟩ := q39
    obtain ⟨rz47, tz48⟩ := hc46.2 rfl
    have th49 : tw_th (h40 x) = 1 := by rw [he43, tw_up_s]; exact tz48
    have sp50 : tw_sp d τ h g τ h40 := by rw [he43]; exact sp0.set kx (by decide) hs44
    rw [rz47]
    have oq51 : h40 o = h o := by rw [he43, tw_up_n (tw_nk ko kx (by decide))] <;> exact oq0
    refine tw_if_ne 43 dX10_last_10 (by decide) (fun _ => ?_) (fun c52 => absurd c52 (by decide))
    refine tw_iconst (v := 0) dX10_last_43 (by decide) ?_
    refine tw_goto 54 dX10_last_44 (by decide) ?_
    exact tw_iret dX10_last_54 rfl (Or.inl ⟨_, rfl, _, _, sp50, oq51, Or.inl ⟨q36n, th49, rfl⟩⟩)
  · rw [q36r]
    have q36x := q36i
    obtain ⟨ja, q36j, q36k⟩ := q36i
    subst q36k
    have cDa : tw_DN (nI ja) = ja := nI_clamp (by omega)
    have ix0 := q36x
    refine tw_iconst (v := 1) dX10_last_6 (by decide) ?_
    refine tw_bi (tw_callV (M := mX10_last) (pc := 7) okX10_start dX10_last_7 w_1200 rfl f2 [.int 0, .int 1] [] rfl rfl ⟨by decide, by decide⟩ (Nat.le_of_ble_eq_true rfl) (c_X10_start d g τ h sp0.1 x kx 0 1 (by decide)) 0 0 (Nat.le_of_ble_eq_true rfl) (Nat.le_of_ble_eq_true rfl)) (fun r55 h54 q53 => ?_) (fun E h1 q => q.elim)
    obtain ⟨e56, he57, hs58, hr59, hc60⟩ := q53
    obtain ⟨rz61, tz62⟩ := hc60.1 rfl
    have th63 : tw_th (h54 x) = 0 := by rw [he57, tw_up_s]; exact tz62
    have sp64 : tw_sp d τ h g τ h54 := by rw [he57]; exact sp0.set kx (by decide) hs58
    rw [rz61]
    have oq65 : h54 o = h o := by rw [he57, tw_up_n (tw_nk ko kx (by decide))] <;> exact oq0
    refine tw_if_ne 43 dX10_last_10 (by decide) (fun c66 => absurd (by decide) c66) (fun _ => ?_)
    refine tw_aload_n 0 dX10_last_13 rfl rfl ?_
    refine tw_iload_n 2 dX10_last_14 rfl rfl ?_
    refine tw_bi (tw_callS (M := mX10_last) (pc := 15) okX10_isNoMetal dX10_last_15 w_1312 [.int m] [.ref x] rfl rfl ⟨by decide, by decide⟩ (Nat.le_of_ble_eq_true rfl) (c2_X10_isNoMetal d g τ h54 sp64.1 m) 0 0 (Nat.le_of_ble_eq_true rfl) (Nat.le_of_ble_eq_true rfl)) (fun r69 h68 q67 => ?_) (fun E h1 q => q.elim)
    obtain ⟨q67e, q67d⟩ := q67
    rw [q67e]
    rcases q67d with ⟨q67r, q67n⟩ | ⟨q67r, q67i⟩
    · rw [q67r]
      refine tw_if_ne 31 dX10_last_18 (by decide) (fun _ => ?_) (fun c70 => absurd c70 (by decide))
      refine tw_iconst (v := 1) dX10_last_31 (by decide) ?_
      refine tw_goto 36 dX10_last_32 (by decide) ?_
      refine tw_iconst (v := 2) dX10_last_36 (by decide) ?_
      obtain ⟨e71, f72, th_73, td_74, ds_75, fr_76, ca_77, us_78, wo_79, cm_80, lc_81, lh_82, ld_83, rfl, k84, k85, k86, k87, k88, k89, k90, k91, k92, k93, k94, k95, k96, k97, k98, k99, k100, k101, k102, k103, k104, k105⟩ := sp64.1 x 36 kx (by decide)
      refine tw_bi (tw_callV (M := mX10_last) (pc := 37) okX10_refuse dX10_last_37 w_1204 rfl f72 [.int 1, .int 2] [] rfl rfl ⟨by decide, by decide⟩ (Nat.le_of_ble_eq_true rfl) (c_X10_refuse d g τ h54 sp64.1 x kx 1 2 (by decide)) 0 0 (Nat.le_of_ble_eq_true rfl) (Nat.le_of_ble_eq_true rfl)) (fun r108 h107 q106 => ?_) (fun E h1 q => q.elim)
      obtain ⟨e109, he110, hs111, hr112, hc113⟩ := q106
      obtain ⟨rz114, tz115⟩ := (hc113 th63).2 rfl
      have th116 : tw_th (h107 x) = 2 := by rw [he110, tw_up_s]; exact tz115
      have sp117 : tw_sp d τ h g τ h107 := by rw [he110]; exact sp64.set kx (by decide) hs111
      rw [rz114]
      have oq118 : h107 o = h o := by rw [he110, tw_up_n (tw_nk ko kx (by decide))] <;> exact oq65
      refine tw_if_eq 47 dX10_last_40 (by decide) (fun c119 => absurd c119 (by decide)) (fun _ => ?_)
      refine tw_iconst (v := 0) dX10_last_43 (by decide) ?_
      refine tw_goto 54 dX10_last_44 (by decide) ?_
      exact tw_iret dX10_last_54 rfl (Or.inl ⟨_, rfl, _, _, sp117, oq118, Or.inr (Or.inl ⟨ix0, fun z => q67n z.1, th116, rfl⟩)⟩)
    · rw [q67r]
      have rcm := q67i
      obtain ⟨k, hk, km⟩ := q67i.k
      subst km
      have cDm : tw_DN (nI k) = k := nI_clamp (by omega)
      refine tw_if_ne 31 dX10_last_18 (by decide) (fun c120 => absurd (by decide) c120) (fun _ => ?_)
      refine tw_iload_n 3 dX10_last_21 rfl rfl ?_
      refine tw_iconst (v := 1) dX10_last_22 (by decide) ?_
      refine tw_ldc (v := 99999) dX10_last_23 w_1199 ?_
      refine tw_bi (tw_callS (M := mX10_last) (pc := 25) okX10_isIn dX10_last_25 w_1196 [.int gr, .int 1, .int 99999] [.ref x] rfl rfl ⟨by decide, by decide⟩ (Nat.le_of_ble_eq_true rfl) (c_X10_isIn d g τ h54 sp64.1 gr 1 99999) 0 0 (Nat.le_of_ble_eq_true rfl) (Nat.le_of_ble_eq_true rfl)) (fun r123 h122 q121 => ?_) (fun E h1 q => q.elim)
      obtain ⟨q121e, q121d⟩ := q121
      rw [q121e]
      rcases q121d with ⟨q121r, q121n⟩ | ⟨q121r, rlg⟩
      · rw [q121r]
        refine tw_if_ne 35 dX10_last_28 (by decide) (fun c124 => absurd (by decide) c124) (fun _ => ?_)
        refine tw_iconst (v := 1) dX10_last_31 (by decide) ?_
        refine tw_goto 36 dX10_last_32 (by decide) ?_
        refine tw_iconst (v := 2) dX10_last_36 (by decide) ?_
        obtain ⟨e125, f126, th_127, td_128, ds_129, fr_130, ca_131, us_132, wo_133, cm_134, lc_135, lh_136, ld_137, rfl, k138, k139, k140, k141, k142, k143, k144, k145, k146, k147, k148, k149, k150, k151, k152, k153, k154, k155, k156, k157, k158, k159⟩ := sp64.1 x 36 kx (by decide)
        refine tw_bi (tw_callV (M := mX10_last) (pc := 37) okX10_refuse dX10_last_37 w_1204 rfl f126 [.int 1, .int 2] [] rfl rfl ⟨by decide, by decide⟩ (Nat.le_of_ble_eq_true rfl) (c_X10_refuse d g τ h54 sp64.1 x kx 1 2 (by decide)) 0 0 (Nat.le_of_ble_eq_true rfl) (Nat.le_of_ble_eq_true rfl)) (fun r162 h161 q160 => ?_) (fun E h1 q => q.elim)
        obtain ⟨e163, he164, hs165, hr166, hc167⟩ := q160
        obtain ⟨rz168, tz169⟩ := (hc167 th63).2 rfl
        have th170 : tw_th (h161 x) = 2 := by rw [he164, tw_up_s]; exact tz169
        have sp171 : tw_sp d τ h g τ h161 := by rw [he164]; exact sp64.set kx (by decide) hs165
        rw [rz168]
        have oq172 : h161 o = h o := by rw [he164, tw_up_n (tw_nk ko kx (by decide))] <;> exact oq65
        refine tw_if_eq 47 dX10_last_40 (by decide) (fun c173 => absurd c173 (by decide)) (fun _ => ?_)
        refine tw_iconst (v := 0) dX10_last_43 (by decide) ?_
        refine tw_goto 54 dX10_last_44 (by decide) ?_
        exact tw_iret dX10_last_54 rfl (Or.inl ⟨_, rfl, _, _, sp171, oq172, Or.inr (Or.inl ⟨ix0, fun z => q121n z.2, th170, rfl⟩)⟩)
      · rw [q121r]
        have rlg0 := rlg
        obtain ⟨n9, hn1, hn, en⟩ := tw_gr1 rlg
        subst en
        have cDgr : tw_DN (nI n9) = n9 := nI_clamp (by omega)
        refine tw_if_ne 35 dX10_last_28 (by decide) (fun _ => ?_) (fun c174 => absurd c174 (by decide))
        refine tw_iconst (v := 0) dX10_last_35 (by decide) ?_
        refine tw_iconst (v := 2) dX10_last_36 (by decide) ?_
        obtain ⟨e175, f176, th_177, td_178, ds_179, fr_180, ca_181, us_182, wo_183, cm_184, lc_185, lh_186, ld_187, rfl, k188, k189, k190, k191, k192, k193, k194, k195, k196, k197, k198, k199, k200, k201, k202, k203, k204, k205, k206, k207, k208, k209⟩ := sp64.1 x 36 kx (by decide)
        refine tw_bi (tw_callV (M := mX10_last) (pc := 37) okX10_refuse dX10_last_37 w_1204 rfl f176 [.int 0, .int 2] [] rfl rfl ⟨by decide, by decide⟩ (Nat.le_of_ble_eq_true rfl) (c_X10_refuse d g τ h54 sp64.1 x kx 0 2 (by decide)) 0 0 (Nat.le_of_ble_eq_true rfl) (Nat.le_of_ble_eq_true rfl)) (fun r212 h211 q210 => ?_) (fun E h1 q => q.elim)
        obtain ⟨e213, he214, hs215, hr216, hc217⟩ := q210
        obtain ⟨rz218, tz219⟩ := (hc217 th63).1 rfl
        have th220 : tw_th (h211 x) = 0 := by rw [he214, tw_up_s]; exact tz219
        have sp221 : tw_sp d τ h g τ h211 := by rw [he214]; exact sp64.set kx (by decide) hs215
        rw [rz218]
        have oq222 : h211 o = h o := by rw [he214, tw_up_n (tw_nk ko kx (by decide))] <;> exact oq65
        refine tw_if_eq 47 dX10_last_40 (by decide) (fun _ => ?_) (fun c223 => absurd (by decide) c223)
        refine tw_aload_n 0 dX10_last_47 rfl rfl ?_
        refine tw_iload_n 1 dX10_last_48 rfl rfl ?_
        refine tw_iload_n 2 dX10_last_49 rfl rfl ?_
        refine tw_iload_n 3 dX10_last_50 rfl rfl ?_
        have V9 := he.v (j := ja) (k := k) (by omega) hk
        obtain ⟨e224, f225, th_226, td_227, ds_228, fr_229, ca_230, us_231, wo_232, cm_233, lc_234, lh_235, ld_236, rfl, k237, k238, k239, k240, k241, k242, k243, k244, k245, k246, k247, k248, k249, k250, k251, k252, k253, k254, k255, k256, k257, k258⟩ := sp221.1 x 36 kx (by decide)
        refine tw_bi (tw_callV (M := mX10_last) (pc := 51) okX10_lastNow dX10_last_51 w_1581 rfl f225 [.int (nI ja), .int (nI k), .int (nI n9)] [] rfl rfl ⟨by decide, by decide⟩ (Nat.le_of_ble_eq_true rfl) (c4_X10_lastNow d g τ h211 sp221.1 x kx ja (by omega) k hk n9 hn _ V9.1 V9.2) 0 0 (Nat.le_of_ble_eq_true rfl) (Nat.le_of_ble_eq_true rfl)) (fun r261 h260 q259 => ?_) (fun E h1 q => q.elim)
        obtain ⟨q259e, q259v⟩ := q259
        rw [q259e]
        exact tw_iret dX10_last_54 rfl (Or.inl ⟨_, rfl, _, _, sp221, oq222, Or.inr (Or.inr ⟨ix0, ⟨rcm, rlg0⟩, (by rw [cDa, cDm, cDgr]; exact q259v), th220, rfl⟩)⟩)

set_option maxHeartbeats 4000000 in
set_option maxRecDepth 100000 in
theorem c2_X10_market (d : tw_D) (g : tw_G) (τ : tw_K) (h : tw_H) (hw : tw_wt d g τ h) (x : Nat) (kx : τ x = 36) (m : Int32) (o : Nat) (ko : τ o = 12) : tw_Ct d mX10_market 0 0 [.ref x, .int m] h (tw_qi (fun r9 h1 => ∃ g1 τ1, tw_sp d τ h g1 τ1 h1 ∧ h1 o = h o ∧ ((¬ (100 ≤ m ∧ m ≤ 200) ∧ tw_th (h1 x) = 1 ∧ g1 = g) ∨ ((100 ≤ m ∧ m ≤ 200) ∧ r9 = g.1 1 ∧ tw_th (h1 x) = 0 ∧ g1 = tw_g1 g 1 m))) tw_nx) := by
  refine tw_of (by decide +kernel) (Nat.le_of_ble_eq_true rfl) ?_
  show tw_W d mX10_market _ 0 [(0, .ref x), (1, .int m)] [] h 0 0
  have sp0 := tw_sp.rf hw
  refine tw_aload_n 0 dX10_market_0 rfl rfl ?_
  refine tw_iload_n 1 dX10_market_1 rfl rfl ?_
  refine tw_bipush (v := 100) dX10_market_2 (by decide) ?_
  refine tw_sipush (v := 200) dX10_market_4 (by decide) ?_
  refine tw_bi (tw_callS (M := mX10_market) (pc := 7) okX10_isIn dX10_market_7 w_1196 [.int m, .int 100, .int 200] [.ref x] rfl rfl ⟨by decide, by decide⟩ (Nat.le_of_ble_eq_true rfl) (c_X10_isIn d g τ h sp0.1 m 100 200) 0 0 (Nat.le_of_ble_eq_true rfl) (Nat.le_of_ble_eq_true rfl)) (fun r3 h2 q1 => ?_) (fun E h1 q => q.elim)
  obtain ⟨q1e, q1d⟩ := q1
  rw [q1e]
  rcases q1d with ⟨q1r, q1n⟩ | ⟨q1r, q1a, q1b⟩
  · rw [q1r]
    refine tw_if_ne 17 dX10_market_10 (by decide) (fun c4 => absurd (by decide) c4) (fun _ => ?_)
    refine tw_iconst (v := 1) dX10_market_13 (by decide) ?_
    refine tw_goto 18 dX10_market_14 (by decide) ?_
    refine tw_iconst (v := 1) dX10_market_18 (by decide) ?_
    obtain ⟨e5, f6, th_7, td_8, ds_9, fr_10, ca_11, us_12, wo_13, cm_14, lc_15, lh_16, ld_17, rfl, k18, k19, k20, k21, k22, k23, k24, k25, k26, k27, k28, k29, k30, k31, k32, k33, k34, k35, k36, k37, k38, k39⟩ := sp0.1 x 36 kx (by decide)
    refine tw_bi (tw_callV (M := mX10_market) (pc := 19) okX10_start dX10_market_19 w_1200 rfl f6 [.int 1, .int 1] [] rfl rfl ⟨by decide, by decide⟩ (Nat.le_of_ble_eq_true rfl) (c_X10_start d g τ h sp0.1 x kx 1 1 (by decide)) 0 0 (Nat.le_of_ble_eq_true rfl) (Nat.le_of_ble_eq_true rfl)) (fun r h1 q => ?_) (fun E h1 q => q.elim)
    obtain ⟨e, he, hs, hr, h3a, h3b⟩ := q
    have sp1 : tw_sp d τ h g τ h1 := by rw [he]; exact sp0.set kx (by decide) hs
    obtain ⟨r1, t1⟩ := h3b rfl
    rw [r1]
    refine tw_if_eq 27 dX10_market_22 (by decide) (fun c40 => absurd c40 (by decide)) (fun _ => ?_)
    refine tw_iconst (v := 0) dX10_market_25 (by decide) ?_
    exact tw_iret dX10_market_26 rfl (Or.inl ⟨_, rfl, _, _, sp1, by rw [he, tw_up_n (tw_nk ko kx (by decide))], Or.inl ⟨q1n, by rw [he, tw_up_s]; exact t1, rfl⟩⟩)
  · rw [q1r]
    refine tw_if_ne 17 dX10_market_10 (by decide) (fun _ => ?_) (fun c41 => absurd c41 (by decide))
    refine tw_iconst (v := 0) dX10_market_17 (by decide) ?_
    refine tw_iconst (v := 1) dX10_market_18 (by decide) ?_
    obtain ⟨e42, f43, th_44, td_45, ds_46, fr_47, ca_48, us_49, wo_50, cm_51, lc_52, lh_53, ld_54, rfl, k55, k56, k57, k58, k59, k60, k61, k62, k63, k64, k65, k66, k67, k68, k69, k70, k71, k72, k73, k74, k75, k76⟩ := sp0.1 x 36 kx (by decide)
    refine tw_bi (tw_callV (M := mX10_market) (pc := 19) okX10_start dX10_market_19 w_1200 rfl f43 [.int 0, .int 1] [] rfl rfl ⟨by decide, by decide⟩ (Nat.le_of_ble_eq_true rfl) (c_X10_start d g τ h sp0.1 x kx 0 1 (by decide)) 0 0 (Nat.le_of_ble_eq_true rfl) (Nat.le_of_ble_eq_true rfl)) (fun r h1 q => ?_) (fun E h1 q => q.elim)
    obtain ⟨e, he, hs, hr, h3a, h3b⟩ := q
    have sp1 : tw_sp d τ h g τ h1 := by rw [he]; exact sp0.set kx (by decide) hs
    obtain ⟨r1, t1⟩ := h3a rfl
    rw [r1]
    refine tw_if_eq 27 dX10_market_22 (by decide) (fun _ => ?_) (fun c77 => absurd (by decide) c77)
    refine tw_aload_n 0 dX10_market_27 rfl rfl ?_
    obtain ⟨e78, f79, th_80, td_81, ds_82, fr_83, ca_84, us_85, wo_86, cm_87, lc_88, lh_89, ld_90, rfl, k91, k92, k93, k94, k95, k96, k97, k98, k99, k100, k101, k102, k103, k104, k105, k106, k107, k108, k109, k110, k111, k112⟩ := sp1.1 x 36 kx (by decide)
    refine tw_get (v := .int (g.1 1)) rfl in_14 2 dX10_market_28 w_1153 rfl (by decide) f79 rfl ?_
    refine tw_istore_n [(2, .int (g.1 1)), (0, .ref x), (1, .int m)] dX10_market_31 rfl (by decide) rfl ?_
    refine tw_aload_n 1 dX10_market_32 rfl rfl ?_
    refine tw_iload_n 2 dX10_market_33 rfl rfl ?_
    have z0 : tw_th (h1 x) = 0 := by rw [he, tw_up_s]; exact t1
    rw [f79] at z0
    have q0 : th_80 = 0 := z0
    refine tw_put rfl in_14 tyX10 tyX10_ok nmX10 2 dX10_market_34 w_1153 rfl (by decide) f79 rfl rfl rfl rfl (Nat.le_of_ble_eq_true rfl) [.int th_80, .int td_81, .int m, .ref ds_82, .ref fr_83, .ref ca_84, .ref us_85, .ref wo_86, .ref cm_87, .ref lc_88, .ref lh_89, .ref ld_90] rfl ?_
    obtain ⟨h113, eh113⟩ : ∃ z : tw_H, z = tw_up h1 x (.inr (14, [.int th_80, .int td_81, .int m, .ref ds_82, .ref fr_83, .ref ca_84, .ref us_85, .ref wo_86, .ref cm_87, .ref lc_88, .ref lh_89, .ref ld_90])) := ⟨_, rfl⟩
    rw [← eh113]
    have f114 : h113 x = some (.inr (14, [.int th_80, .int td_81, .int m, .ref ds_82, .ref fr_83, .ref ca_84, .ref us_85, .ref wo_86, .ref cm_87, .ref lc_88, .ref lh_89, .ref ld_90])) := by rw [eh113]; exact tw_up_s
    have sp2 : tw_sp d τ h (tw_g1 g 1 m) τ h113 := by rw [eh113]; exact sp1.m36 kx ⟨th_80, td_81, ds_82, fr_83, ca_84, us_85, wo_86, cm_87, lc_88, lh_89, ld_90, rfl, k91, k92, k93, k94, k95, k96, k97, k98, k99, k100, k101, k102, k103, k104, k105, k106, k107, k108, k109, k110, k111, k112⟩
    refine tw_iload_n 0 dX10_market_37 rfl rfl ?_
    exact tw_iret dX10_market_38 rfl (Or.inl ⟨_, rfl, _, _, sp2, by rw [eh113, tw_up_n (tw_nk ko kx (by decide)), he, tw_up_n (tw_nk ko kx (by decide))], Or.inr ⟨⟨q1a, q1b⟩, rfl, by rw [f114]; exact q0, rfl⟩⟩)

def tw_hM (g : tw_G) (a : Nat) : Nat → Int32
  | 0 => g.1 (960 + 32 * a + 1)
  | 1 => g.1 (960 + 32 * a + 2)
  | 2 => g.1 (960 + 32 * a + 0)
  | 3 => g.1 (960 + 32 * a + 8 + 0)
  | 4 => g.1 (960 + 32 * a + 8 + 1)
  | 5 => tw_wo (g.1 (960 + 32 * a + 8 + 0)) (g.1 (960 + 32 * a + 8 + 1)) (g.1 1)
  | 6 => tw_isum (fun j => if g.1 (1232 + 8 * j + 2) = 0 ∧ g.1 (1232 + 8 * j + 3) = nI a then 1 else 0) (g.2 5)
  | _ + 7 => tw_isum (fun j => if g.1 (1232 + 8 * j + 2) = 0 ∧ g.1 (1232 + 8 * j + 4) = nI a then 1 else 0) (g.2 5)
def tw_dM (g : tw_G) (a : Nat) : Nat → Int32
  | 0 => g.1 (1232 + 8 * a + 3)
  | 1 => g.1 (1232 + 8 * a + 4)
  | 2 => g.1 (1232 + 8 * a + 0)
  | 3 => g.1 (1232 + 8 * a + 1)
  | 4 => if g.1 (1232 + 8 * a + 2) = 0 then nI (tw_md g a) else 0
  | 5 => if g.1 (1232 + 8 * a + 2) = 0 then 0 else 1
  | _ + 6 => if g.1 (1232 + 8 * a + 2) = 0 ∧ g.1 (960 + 32 * tw_eF g a + 1) ≠ -1 then tw_ck (tw_ms g a 0) (tw_md g a) (tw_DN (g.1 1)) else -1
def tw_oM (g : tw_G) (a : Nat) : Nat → Int32
  | 0 => g.1 (480 + 64 * a)
  | 1 => g.1 (480 + 64 * a + 1)
  | 2 => g.1 (480 + 64 * a + 16 + 0)
  | 3 => g.1 (480 + 64 * a + 16 + 1)
  | 4 => tw_oS (g.1 (480 + 64 * a + 8 + 0)) (g.1 (480 + 64 * a + 8 + 1))
  | 5 => tw_isum (fun j => if g.1 (960 + 32 * j + 1) = nI a then 1 else 0) (g.2 4)
  | 6 => tw_wo (g.1 (480 + 64 * a + 16 + 0)) (g.1 (480 + 64 * a + 16 + 1)) (g.1 1)
  | 7 => tw_pn (fun k => g.1 (480 + 64 * a + 24 + k))
  | _ + 8 => tw_isum (fun j => if g.1 (480 + 64 * j) = g.1 (480 + 64 * a) then 1 else 0) (g.2 3)
def tw_SQ (g : tw_G) : Prop := (∀ k, k < 2 → nI (tw_wM g k 0) + nI (tw_wM g k 1) + nI (tw_wM g k 2) + nI (tw_wM g k 3) + nI (tw_wM g k 4) = nI (tw_wM g k 5)) ∧ (∀ j, j < g.2 4 → g.1 (960 + 32 * j + 1) = -1 → nI (g.2 22) < g.1 (960 + 32 * j + 0)) ∧ (∀ j, j < g.2 3 → ∀ k, k < 5 → 0 ≤ g.1 (480 + 64 * j + 24 + k)) ∧ ∀ a b, a < 4 → b < 4 → g.1 (416 + 8 * a + b) = g.1 (416 + 8 * b + a) ∧ g.1 (448 + 8 * a + b) = g.1 (448 + 8 * b + a)
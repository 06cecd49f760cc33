/-! the class's methods over the typed heap. Laid by wip/p5/mkclass.py. -/
/-- Out's number -/
def tw_lg : Option va_E → Int64 := fun o => match o with
  | some (.inr (_, .long n :: _)) => n
  | _ => 0
theorem ng_cIOE : Cond.castable tw_IOE tw_IOE ∈ tw_NG := by decide +kernel
theorem ng_cIAE : Cond.castable tw_IAE tw_IAE ∈ tw_NG := by decide +kernel
theorem ng_cISE : Cond.castable tw_ISE tw_ISE ∈ tw_NG := by decide +kernel
abbrev hhL_country : tw_HH := [(0, 15, 18, 19), (0, 15, 22, 21)]
abbrev mL_country : tw_M := (yL_country, cL_country, 7, (some .int), 9, 158)
theorem okL_country : tw_okH mL_country hhL_country 6 := ⟨⟨by decide +kernel, by decide +kernel, by decide +kernel⟩, w_389, w_76, w_388⟩
set_option maxHeartbeats 4000000 in
set_option maxRecDepth 100000 in
theorem c_L_country (d : tw_D) (g : tw_G) (τ : tw_K) (h : tw_H) (hw : tw_wt d g τ h) (x : Nat) (kx : τ x = 11) (r : Int32) (ct : Int32) (go : Int32) (si : Int32) (o : Nat) (ko : τ o = 12) (he6 : g.2 6 = g.2 0) (he24 : g.2 24 = 160 + 64 * g.2 0) : tw_CtH d mL_country hhL_country 20 120 [.ref x, .int r, .int ct, .int go, .int si, .ref o] h (tw_qi (fun r9 h1 => (r9 = 0 ∧ tw_RC r ct go si ∧ g.2 0 < 4 ∧ tw_lg (h1 o) = (nI (g.2 0)).toInt64 ∧ ∃ y9 d9 f9 t9 m9 v9 τ1, tw_sp d τ h (tw_ad (tw_ad (tw_gI (tw_gC g (160 + 64 * g.2 0) y9 d9 f9 t9 m9 v9 r ct go si) 6 0) (1336 + 0) go) (1336 + 1) si) τ1 h1) ∨ (r9 = 1 ∧ ¬ tw_RC r ct go si ∧ ∃ τ1, tw_sp d τ h g τ1 h1) ∨ (r9 = 2 ∧ tw_RC r ct go si ∧ ¬ g.2 0 < 4 ∧ ∃ τ1, tw_sp d τ h g τ1 h1)) tw_nx) := by
  refine tw_ofH (by decide +kernel) (Nat.le_of_ble_eq_true rfl) ?_
  show tw_WH d mL_country hhL_country _ 0 [(0, .ref x), (1, .int r), (2, .int ct), (3, .int go), (4, .int si), (5, .ref o)] [] h 20 120
  have sp0 := tw_sp.rf hw
  refine tb_aload 5 dL_country_0 rfl ?_
  refine tb_aload_n 0 dL_country_2 rfl rfl ?_
  refine tb_iload_n 1 dL_country_3 rfl rfl ?_
  refine tb_iload_n 2 dL_country_4 rfl rfl ?_
  refine tb_iload_n 3 dL_country_5 rfl rfl ?_
  refine tb_iload 4 dL_country_6 rfl ?_
  obtain ⟨e1, f2, td_3, ca_4, ha_5, da_6, c1_7, c2_8, c3_9, c4_10, rfl, k11, k12, k13, k14, k15, k16, k17, k18, k19, k20, k21, k22, k23, k24, k25, k26, k27⟩ := sp0.1 x 11 kx (by decide)
  refine tb_bi (tb_callV (M := mL_country) (hh := hhL_country) (pc := 8) okX5_country dL_country_8 w_392 rfl f2 [.int r, .int ct, .int go, .int si] [.ref o] rfl rfl ⟨by decide, by decide⟩ (Nat.le_of_ble_eq_true rfl) (c2_X5_country d g τ h sp0.1 x kx r ct go si he6 he24) 0 0 (Nat.le_of_ble_eq_true rfl) (Nat.le_of_ble_eq_true rfl)) (fun rr h1 q => ?_) (fun E h1 z q => ?_)
  · skip
    obtain ⟨q1, cR, cL, y9, d9, f9, t9, m9, v9, τ1, s1⟩ := q
    have k28 : τ1 x = 11 := s1.2.1.k kx (by decide)
    have k29 : τ1 o = 12 := s1.2.1.k ko (by decide)
    refine tb_i2l dL_country_11 ?_
    refine tb_nml (fun v30 ev30 => ?_)
    obtain ⟨e31, f32, n_33, s_34, rfl⟩ := s1.1 o 12 k29 (by decide)
    refine tb_putN rfl in_10 tyX6 tyX6_ok nmX6 0 dL_country_12 w_380 rfl (by decide) f32 rfl rfl rfl rfl (Nat.le_of_ble_eq_true rfl) [.long v30, va_rf s_34] rfl ?_
    obtain ⟨h35, eh35⟩ : ∃ z : tw_H, z = tw_up h1 o (.inr (10, [.long v30, va_rf s_34])) := ⟨_, rfl⟩
    rw [← eh35]
    have sp36 : tw_sp d τ h (tw_ad (tw_ad (tw_gI (tw_gC g (160 + 64 * g.2 0) y9 d9 f9 t9 m9 v9 r ct go si) 6 0) (1336 + 0) go) (1336 + 1) si) τ1 h35 := by rw [eh35]; exact s1.set k29 (by decide) ⟨v30, s_34, rfl⟩
    have f37 : h35 o = some (.inr (10, [.long v30, va_rf s_34])) := by rw [eh35]; exact tw_up_s
    refine tb_goto 26 dL_country_15 (by decide) ?_
    refine tb_iconst (v := 0) dL_country_26 (by decide) ?_
    exact tb_iret dL_country_27 rfl (Or.inl ⟨_, rfl, Or.inl ⟨rfl, cR, cL, by rw [f37]; show v30 = _; rw [ev30, q1], y9, d9, f9, t9, m9, v9, _, sp36⟩⟩)
  · skip
    obtain ⟨hE, hq⟩ := q
    rcases hE with ⟨rfl, hn⟩ | ⟨rfl, cR, hn⟩
    · skip
      refine ⟨[], (0, 15, 18, 19), [(0, 15, 22, 21)], _, rfl, (fun z hz => by simp at hz), by decide, by decide, w_390, ng_cIAE, ?_⟩
      show tw_WH d mL_country hhL_country _ 18 [(0, .ref x), (1, .int r), (2, .int ct), (3, .int go), (4, .int si), (5, .ref o)] [.ref z] h1 0 0
      obtain ⟨τ1, s1⟩ := hq
      refine tb_astore [(6, .ref z), (0, .ref x), (1, .int r), (2, .int ct), (3, .int go), (4, .int si), (5, .ref o)] dL_country_18 (by decide) rfl ?_
      refine tb_iconst (v := 1) dL_country_20 (by decide) ?_
      exact tb_iret dL_country_21 rfl (Or.inl ⟨_, rfl, Or.inr (Or.inl ⟨rfl, hn, _, s1⟩)⟩)
    · skip
      refine ⟨[(0, 15, 18, 19)], (0, 15, 22, 21), [], _, rfl, (fun z hz => by rcases List.mem_singleton.mp hz with rfl; exact ⟨by decide, _, w_390, Or.inr (Or.inr ⟨rfl, rfl⟩)⟩), by decide, by decide, w_391, ng_cISE, ?_⟩
      show tw_WH d mL_country hhL_country _ 22 [(0, .ref x), (1, .int r), (2, .int ct), (3, .int go), (4, .int si), (5, .ref o)] [.ref z] h1 0 0
      obtain ⟨τ1, s1⟩ := hq
      refine tb_astore [(6, .ref z), (0, .ref x), (1, .int r), (2, .int ct), (3, .int go), (4, .int si), (5, .ref o)] dL_country_22 (by decide) rfl ?_
      refine tb_iconst (v := 2) dL_country_24 (by decide) ?_
      exact tb_iret dL_country_25 rfl (Or.inl ⟨_, rfl, Or.inr (Or.inr (⟨rfl, cR, hn, _, s1⟩))⟩)

abbrev hhL_law : tw_HH := [(0, 13, 16, 27), (0, 13, 20, 19)]
abbrev mL_law : tw_M := (yL_law, cL_law, 6, (some .int), 9, 158)
theorem okL_law : tw_okH mL_law hhL_law 5 := ⟨⟨by decide +kernel, by decide +kernel, by decide +kernel⟩, w_540, w_76, w_539⟩
set_option maxHeartbeats 4000000 in
set_option maxRecDepth 100000 in
theorem c_L_law (d : tw_D) (g : tw_G) (τ : tw_K) (h : tw_H) (hw : tw_wt d g τ h) (x : Nat) (kx : τ x = 11) (n : Int32) (rt : Int32) (ct : Int32) (o : Nat) (ko : τ o = 12) : tw_CtH d mL_law hhL_law 20 120 [.ref x, .int n, .int rt, .int ct, .ref o] h (tw_qi (fun r9 h1 => (r9 = 0 ∧ tw_ix (g.2 6) n ∧ tw_RL rt ct ∧ tw_lg (h1 o) = (g.1 (160 + 64 * tw_DN n)).toInt64 ∧ ∃ τ1, tw_sp d τ h (tw_g1 (tw_g1 g (160 + 64 * tw_DN n) rt) (160 + 64 * tw_DN n + 1) ct) τ1 h1) ∨ (r9 = 1 ∧ ¬ tw_ix (g.2 6) n ∧ ∃ τ1, tw_sp d τ h g τ1 h1) ∨ (r9 = 2 ∧ tw_ix (g.2 6) n ∧ ¬ tw_RL rt ct ∧ ∃ τ1, tw_sp d τ h g τ1 h1)) tw_nx) := by
  refine tw_ofH (by decide +kernel) (Nat.le_of_ble_eq_true rfl) ?_
  show tw_WH d mL_law hhL_law _ 0 [(0, .ref x), (1, .int n), (2, .int rt), (3, .int ct), (4, .ref o)] [] h 20 120
  have sp0 := tw_sp.rf hw
  refine tb_aload 4 dL_law_0 rfl ?_
  refine tb_aload_n 0 dL_law_2 rfl rfl ?_
  refine tb_iload_n 1 dL_law_3 rfl rfl ?_
  refine tb_iload_n 2 dL_law_4 rfl rfl ?_
  refine tb_iload_n 3 dL_law_5 rfl rfl ?_
  obtain ⟨e1, f2, td_3, ca_4, ha_5, da_6, c1_7, c2_8, c3_9, c4_10, rfl, k11, k12, k13, k14, k15, k16, k17, k18, k19, k20, k21, k22, k23, k24, k25, k26, k27⟩ := sp0.1 x 11 kx (by decide)
  refine tb_bi (tb_callV (M := mL_law) (hh := hhL_law) (pc := 6) okX5_law dL_law_6 w_542 rfl f2 [.int n, .int rt, .int ct] [.ref o] rfl rfl ⟨by decide, by decide⟩ (Nat.le_of_ble_eq_true rfl) (c2_X5_law d g τ h sp0.1 x kx n rt ct) 0 0 (Nat.le_of_ble_eq_true rfl) (Nat.le_of_ble_eq_true rfl)) (fun rr h1 q => ?_) (fun E h1 z q => ?_)
  · skip
    obtain ⟨q1, cI, cR, τ1, s1⟩ := q
    have k28 : τ1 x = 11 := s1.2.1.k kx (by decide)
    have k29 : τ1 o = 12 := s1.2.1.k ko (by decide)
    refine tb_i2l dL_law_9 ?_
    refine tb_nml (fun v30 ev30 => ?_)
    obtain ⟨e31, f32, n_33, s_34, rfl⟩ := s1.1 o 12 k29 (by decide)
    refine tb_putN rfl in_10 tyX6 tyX6_ok nmX6 0 dL_law_10 w_380 rfl (by decide) f32 rfl rfl rfl rfl (Nat.le_of_ble_eq_true rfl) [.long v30, va_rf s_34] rfl ?_
    obtain ⟨h35, eh35⟩ : ∃ z : tw_H, z = tw_up h1 o (.inr (10, [.long v30, va_rf s_34])) := ⟨_, rfl⟩
    rw [← eh35]
    have sp36 : tw_sp d τ h (tw_g1 (tw_g1 g (160 + 64 * tw_DN n) rt) (160 + 64 * tw_DN n + 1) ct) τ1 h35 := by rw [eh35]; exact s1.set k29 (by decide) ⟨v30, s_34, rfl⟩
    have f37 : h35 o = some (.inr (10, [.long v30, va_rf s_34])) := by rw [eh35]; exact tw_up_s
    refine tb_goto 24 dL_law_13 (by decide) ?_
    refine tb_iconst (v := 0) dL_law_24 (by decide) ?_
    exact tb_iret dL_law_25 rfl (Or.inl ⟨_, rfl, Or.inl ⟨rfl, cI, cR, by rw [f37]; show v30 = _; rw [ev30, q1], _, sp36⟩⟩)
  · skip
    obtain ⟨hE, hq⟩ := q
    rcases hE with ⟨rfl, hn⟩ | ⟨rfl, cI, hn⟩
    · skip
      refine ⟨[], (0, 13, 16, 27), [(0, 13, 20, 19)], _, rfl, (fun z hz => by simp at hz), by decide, by decide, w_541, ng_cIOE, ?_⟩
      show tw_WH d mL_law hhL_law _ 16 [(0, .ref x), (1, .int n), (2, .int rt), (3, .int ct), (4, .ref o)] [.ref z] h1 0 0
      obtain ⟨τ1, s1⟩ := hq
      refine tb_astore [(5, .ref z), (0, .ref x), (1, .int n), (2, .int rt), (3, .int ct), (4, .ref o)] dL_law_16 (by decide) rfl ?_
      refine tb_iconst (v := 1) dL_law_18 (by decide) ?_
      exact tb_iret dL_law_19 rfl (Or.inl ⟨_, rfl, Or.inr (Or.inl ⟨rfl, hn, _, s1⟩)⟩)
    · skip
      refine ⟨[(0, 13, 16, 27)], (0, 13, 20, 19), [], _, rfl, (fun z hz => by rcases List.mem_singleton.mp hz with rfl; exact ⟨by decide, _, w_541, Or.inl ⟨rfl, rfl⟩⟩), by decide, by decide, w_390, ng_cIAE, ?_⟩
      show tw_WH d mL_law hhL_law _ 20 [(0, .ref x), (1, .int n), (2, .int rt), (3, .int ct), (4, .ref o)] [.ref z] h1 0 0
      obtain ⟨τ1, s1⟩ := hq
      refine tb_astore [(5, .ref z), (0, .ref x), (1, .int n), (2, .int rt), (3, .int ct), (4, .ref o)] dL_law_20 (by decide) rfl ?_
      refine tb_iconst (v := 2) dL_law_22 (by decide) ?_
      exact tb_iret dL_law_23 rfl (Or.inl ⟨_, rfl, Or.inr (Or.inr (⟨rfl, cI, hn, _, s1⟩))⟩)

abbrev hhL_gate : tw_HH := [(0, 20, 23, 27), (0, 20, 27, 19)]
abbrev mL_gate : tw_M := (yL_gate, cL_gate, 6, (some .int), 8, 136)
theorem okL_gate : tw_okH mL_gate hhL_gate 5 := ⟨⟨by decide +kernel, by decide +kernel, by decide +kernel⟩, w_568, w_76, w_567⟩
set_option maxHeartbeats 4000000 in
set_option maxRecDepth 100000 in
theorem c_L_gate (d : tw_D) (g : tw_G) (τ : tw_K) (h : tw_H) (hw : tw_wt d g τ h) (x : Nat) (kx : τ x = 11) (n : Int32) (m : Int32) (b : Int32) (kb : tw_01 b) (o : Nat) (ko : τ o = 12) : tw_CtH d mL_gate hhL_gate 20 120 [.ref x, .int n, .int m, .int b, .ref o] h (tw_qi (fun r9 h1 => (r9 = 0 ∧ tw_ix (g.2 6) n ∧ tw_RM m ∧ tw_lg (h1 o) = (g.1 (160 + 64 * tw_DN n + 2 + tw_DN m)).toInt64 ∧ tw_01 (g.1 (160 + 64 * tw_DN n + 2 + tw_DN m)) ∧ ∃ τ1, tw_sp d τ h (tw_g1 g (160 + 64 * tw_DN n + 2 + tw_DN m) b) τ1 h1) ∨ (r9 = 1 ∧ ¬ tw_ix (g.2 6) n ∧ ∃ τ1, tw_sp d τ h g τ1 h1) ∨ (r9 = 2 ∧ tw_ix (g.2 6) n ∧ ¬ tw_RM m ∧ ∃ τ1, tw_sp d τ h g τ1 h1)) tw_nx) := by
  refine tw_ofH (by decide +kernel) (Nat.le_of_ble_eq_true rfl) ?_
  show tw_WH d mL_gate hhL_gate _ 0 [(0, .ref x), (1, .int n), (2, .int m), (3, .int b), (4, .ref o)] [] h 20 120
  have sp0 := tw_sp.rf hw
  refine tb_aload 4 dL_gate_0 rfl ?_
  refine tb_aload_n 0 dL_gate_2 rfl rfl ?_
  refine tb_iload_n 1 dL_gate_3 rfl rfl ?_
  refine tb_iload_n 2 dL_gate_4 rfl rfl ?_
  refine tb_iload_n 3 dL_gate_5 rfl rfl ?_
  obtain ⟨e1, f2, td_3, ca_4, ha_5, da_6, c1_7, c2_8, c3_9, c4_10, rfl, k11, k12, k13, k14, k15, k16, k17, k18, k19, k20, k21, k22, k23, k24, k25, k26, k27⟩ := sp0.1 x 11 kx (by decide)
  refine tb_bi (tb_callV (M := mL_gate) (hh := hhL_gate) (pc := 6) okX5_gate dL_gate_6 w_569 rfl f2 [.int n, .int m, .int b] [.ref o] rfl rfl ⟨by decide, by decide⟩ (Nat.le_of_ble_eq_true rfl) (c2_X5_gate d g τ h sp0.1 x kx n m b kb) 0 0 (Nat.le_of_ble_eq_true rfl) (Nat.le_of_ble_eq_true rfl)) (fun rr h1 q => ?_) (fun E h1 z q => ?_)
  · skip
    obtain ⟨q1, cI, cR, cz, τ1, s1⟩ := q
    have k28 : τ1 x = 11 := s1.2.1.k kx (by decide)
    have k29 : τ1 o = 12 := s1.2.1.k ko (by decide)
    refine tb_if_eq 16 dL_gate_9 (by decide) (fun c30 => ?_) (fun c30 => ?_)
    · refine tb_lconst (v := 0) dL_gate_16 (by decide) ?_
      obtain ⟨e31, f32, n_33, s_34, rfl⟩ := s1.1 o 12 k29 (by decide)
      refine tb_putN rfl in_10 tyX6 tyX6_ok nmX6 0 dL_gate_17 w_380 rfl (by decide) f32 rfl rfl rfl rfl (Nat.le_of_ble_eq_true rfl) [.long 0, va_rf s_34] rfl ?_
      obtain ⟨h35, eh35⟩ : ∃ z : tw_H, z = tw_up h1 o (.inr (10, [.long 0, va_rf s_34])) := ⟨_, rfl⟩
      rw [← eh35]
      have sp36 : tw_sp d τ h (tw_g1 g (160 + 64 * tw_DN n + 2 + tw_DN m) b) τ1 h35 := by rw [eh35]; exact s1.set k29 (by decide) ⟨0, s_34, rfl⟩
      have f37 : h35 o = some (.inr (10, [.long 0, va_rf s_34])) := by rw [eh35]; exact tw_up_s
      refine tb_goto 31 dL_gate_20 (by decide) ?_
      refine tb_iconst (v := 0) dL_gate_31 (by decide) ?_
      exact tb_iret dL_gate_32 rfl (Or.inl ⟨_, rfl, Or.inl ⟨rfl, cI, cR, by rw [f37]; show (0 : Int64) = _; rw [← q1]; rcases cz with z | z; rw [z]; rfl; exact absurd (z.symm.trans c30) (by decide), q1 ▸ cz, _, sp36⟩⟩)
    · refine tb_lconst (v := 1) dL_gate_12 (by decide) ?_
      refine tb_goto 17 dL_gate_13 (by decide) ?_
      obtain ⟨e38, f39, n_40, s_41, rfl⟩ := s1.1 o 12 k29 (by decide)
      refine tb_putN rfl in_10 tyX6 tyX6_ok nmX6 0 dL_gate_17 w_380 rfl (by decide) f39 rfl rfl rfl rfl (Nat.le_of_ble_eq_true rfl) [.long 1, va_rf s_41] rfl ?_
      obtain ⟨h42, eh42⟩ : ∃ z : tw_H, z = tw_up h1 o (.inr (10, [.long 1, va_rf s_41])) := ⟨_, rfl⟩
      rw [← eh42]
      have sp43 : tw_sp d τ h (tw_g1 g (160 + 64 * tw_DN n + 2 + tw_DN m) b) τ1 h42 := by rw [eh42]; exact s1.set k29 (by decide) ⟨1, s_41, rfl⟩
      have f44 : h42 o = some (.inr (10, [.long 1, va_rf s_41])) := by rw [eh42]; exact tw_up_s
      refine tb_goto 31 dL_gate_20 (by decide) ?_
      refine tb_iconst (v := 0) dL_gate_31 (by decide) ?_
      exact tb_iret dL_gate_32 rfl (Or.inl ⟨_, rfl, Or.inl ⟨rfl, cI, cR, by rw [f44]; show (1 : Int64) = _; rw [← q1]; rcases cz with z | z; exact absurd z c30; rw [z]; rfl, q1 ▸ cz, _, sp43⟩⟩)
  · skip
    obtain ⟨hE, hq⟩ := q
    rcases hE with ⟨rfl, hn⟩ | ⟨rfl, cI, hn⟩
    · skip
      refine ⟨[], (0, 20, 23, 27), [(0, 20, 27, 19)], _, rfl, (fun z hz => by simp at hz), by decide, by decide, w_541, ng_cIOE, ?_⟩
      show tw_WH d mL_gate hhL_gate _ 23 [(0, .ref x), (1, .int n), (2, .int m), (3, .int b), (4, .ref o)] [.ref z] h1 0 0
      obtain ⟨τ1, s1⟩ := hq
      refine tb_astore [(5, .ref z), (0, .ref x), (1, .int n), (2, .int m), (3, .int b), (4, .ref o)] dL_gate_23 (by decide) rfl ?_
      refine tb_iconst (v := 1) dL_gate_25 (by decide) ?_
      exact tb_iret dL_gate_26 rfl (Or.inl ⟨_, rfl, Or.inr (Or.inl ⟨rfl, hn, _, s1⟩)⟩)
    · skip
      refine ⟨[(0, 20, 23, 27)], (0, 20, 27, 19), [], _, rfl, (fun z hz => by rcases List.mem_singleton.mp hz with rfl; exact ⟨by decide, _, w_541, Or.inl ⟨rfl, rfl⟩⟩), by decide, by decide, w_390, ng_cIAE, ?_⟩
      show tw_WH d mL_gate hhL_gate _ 27 [(0, .ref x), (1, .int n), (2, .int m), (3, .int b), (4, .ref o)] [.ref z] h1 0 0
      obtain ⟨τ1, s1⟩ := hq
      refine tb_astore [(5, .ref z), (0, .ref x), (1, .int n), (2, .int m), (3, .int b), (4, .ref o)] dL_gate_27 (by decide) rfl ?_
      refine tb_iconst (v := 2) dL_gate_29 (by decide) ?_
      exact tb_iret dL_gate_30 rfl (Or.inl ⟨_, rfl, Or.inr (Or.inr (⟨rfl, cI, hn, _, s1⟩))⟩)

abbrev hhL_market : tw_HH := [(0, 10, 13, 19)]
abbrev mL_market : tw_M := (yL_market, cL_market, 4, (some .int), 8, 134)
theorem okL_market : tw_okH mL_market hhL_market 3 := ⟨⟨by decide +kernel, by decide +kernel, by decide +kernel⟩, w_587, w_76, w_586⟩
set_option maxHeartbeats 4000000 in
set_option maxRecDepth 100000 in
theorem c_L_market (d : tw_D) (g : tw_G) (τ : tw_K) (h : tw_H) (hw : tw_wt d g τ h) (x : Nat) (kx : τ x = 11) (m : Int32) (o : Nat) (ko : τ o = 12) : tw_CtH d mL_market hhL_market 20 120 [.ref x, .int m, .ref o] h (tw_qi (fun r9 h1 => (r9 = 0 ∧ (100 ≤ m ∧ m ≤ 200) ∧ tw_lg (h1 o) = (g.1 0).toInt64 ∧ ∃ τ1, tw_sp d τ h (tw_g1 g 0 m) τ1 h1) ∨ (r9 = 1 ∧ ¬ (100 ≤ m ∧ m ≤ 200) ∧ ∃ τ1, tw_sp d τ h g τ1 h1)) tw_nx) := by
  refine tw_ofH (by decide +kernel) (Nat.le_of_ble_eq_true rfl) ?_
  show tw_WH d mL_market hhL_market _ 0 [(0, .ref x), (1, .int m), (2, .ref o)] [] h 20 120
  have sp0 := tw_sp.rf hw
  refine tb_aload_n 2 dL_market_0 rfl rfl ?_
  refine tb_aload_n 0 dL_market_1 rfl rfl ?_
  refine tb_iload_n 1 dL_market_2 rfl rfl ?_
  obtain ⟨e1, f2, td_3, ca_4, ha_5, da_6, c1_7, c2_8, c3_9, c4_10, rfl, k11, k12, k13, k14, k15, k16, k17, k18, k19, k20, k21, k22, k23, k24, k25, k26, k27⟩ := sp0.1 x 11 kx (by decide)
  refine tb_bi (tb_callV (M := mL_market) (hh := hhL_market) (pc := 3) okX5_market dL_market_3 w_588 rfl f2 [.int m] [.ref o] rfl rfl ⟨by decide, by decide⟩ (Nat.le_of_ble_eq_true rfl) (c2_X5_market d g τ h sp0.1 x kx m) 0 0 (Nat.le_of_ble_eq_true rfl) (Nat.le_of_ble_eq_true rfl)) (fun rr h1 q => ?_) (fun E h1 z q => ?_)
  · skip
    obtain ⟨q1, cR, τ1, s1⟩ := q
    have k28 : τ1 x = 11 := s1.2.1.k kx (by decide)
    have k29 : τ1 o = 12 := s1.2.1.k ko (by decide)
    refine tb_i2l dL_market_6 ?_
    refine tb_nml (fun v30 ev30 => ?_)
    obtain ⟨e31, f32, n_33, s_34, rfl⟩ := s1.1 o 12 k29 (by decide)
    refine tb_putN rfl in_10 tyX6 tyX6_ok nmX6 0 dL_market_7 w_380 rfl (by decide) f32 rfl rfl rfl rfl (Nat.le_of_ble_eq_true rfl) [.long v30, va_rf s_34] rfl ?_
    obtain ⟨h35, eh35⟩ : ∃ z : tw_H, z = tw_up h1 o (.inr (10, [.long v30, va_rf s_34])) := ⟨_, rfl⟩
    rw [← eh35]
    have sp36 : tw_sp d τ h (tw_g1 g 0 m) τ1 h35 := by rw [eh35]; exact s1.set k29 (by decide) ⟨v30, s_34, rfl⟩
    have f37 : h35 o = some (.inr (10, [.long v30, va_rf s_34])) := by rw [eh35]; exact tw_up_s
    refine tb_goto 16 dL_market_10 (by decide) ?_
    refine tb_iconst (v := 0) dL_market_16 (by decide) ?_
    exact tb_iret dL_market_17 rfl (Or.inl ⟨_, rfl, Or.inl ⟨rfl, cR, by rw [f37]; show v30 = _; rw [ev30, q1], _, sp36⟩⟩)
  · skip
    obtain ⟨hE, hq⟩ := q
    obtain ⟨rfl, hn⟩ := hE
    refine ⟨[], (0, 10, 13, 19), [], _, rfl, (fun z hz => by simp at hz), by decide, by decide, w_390, ng_cIAE, ?_⟩
    show tw_WH d mL_market hhL_market _ 13 [(0, .ref x), (1, .int m), (2, .ref o)] [.ref z] h1 0 0
    obtain ⟨τ1, s1⟩ := hq
    refine tb_astore_n [(3, .ref z), (0, .ref x), (1, .int m), (2, .ref o)] dL_market_13 rfl (by decide) rfl ?_
    refine tb_iconst (v := 1) dL_market_14 (by decide) ?_
    exact tb_iret dL_market_15 rfl (Or.inl ⟨_, rfl, Or.inr (⟨rfl, hn, _, s1⟩)⟩)

abbrev hhL_road : tw_HH := [(0, 15, 18, 27), (0, 15, 22, 19)]
abbrev mL_road : tw_M := (yL_road, cL_road, 7, (some .int), 8, 139)
theorem okL_road : tw_okH mL_road hhL_road 6 := ⟨⟨by decide +kernel, by decide +kernel, by decide +kernel⟩, w_594, w_76, w_593⟩
set_option maxHeartbeats 4000000 in
set_option maxRecDepth 100000 in
theorem c_L_road (d : tw_D) (g : tw_G) (τ : tw_K) (h : tw_H) (hw : tw_wt d g τ h) (x : Nat) (kx : τ x = 11) (a : Int32) (b : Int32) (dy : Int32) (fr : Int32) (o : Nat) (ko : τ o = 12) : tw_CtH d mL_road hhL_road 20 120 [.ref x, .int a, .int b, .int dy, .int fr, .ref o] h (tw_qi (fun r9 h1 => (r9 = 0 ∧ (tw_ix (g.2 6) a ∧ tw_ix (g.2 6) b) ∧ tw_RD a b dy fr ∧ tw_lg (h1 o) = (g.1 (160 + 64 * tw_DN a + 8 + tw_DN b)).toInt64 ∧ ∃ τ1, tw_sp d τ h (tw_g1 (tw_g1 (tw_g1 (tw_g1 g (160 + 64 * tw_DN a + 8 + tw_DN b) dy) (160 + 64 * tw_DN a + 16 + tw_DN b) fr) (160 + 64 * tw_DN b + 8 + tw_DN a) dy) (160 + 64 * tw_DN b + 16 + tw_DN a) fr) τ1 h1) ∨ (r9 = 1 ∧ ¬ (tw_ix (g.2 6) a ∧ tw_ix (g.2 6) b) ∧ ∃ τ1, tw_sp d τ h g τ1 h1) ∨ (r9 = 2 ∧ (tw_ix (g.2 6) a ∧ tw_ix (g.2 6) b) ∧ ¬ tw_RD a b dy fr ∧ ∃ τ1, tw_sp d τ h g τ1 h1)) tw_nx) := by
  refine tw_ofH (by decide +kernel) (Nat.le_of_ble_eq_true rfl) ?_
  show tw_WH d mL_road hhL_road _ 0 [(0, .ref x), (1, .int a), (2, .int b), (3, .int dy), (4, .int fr), (5, .ref o)] [] h 20 120
  have sp0 := tw_sp.rf hw
  refine tb_aload 5 dL_road_0 rfl ?_
  refine tb_aload_n 0 dL_road_2 rfl rfl ?_
  refine tb_iload_n 1 dL_road_3 rfl rfl ?_
  refine tb_iload_n 2 dL_road_4 rfl rfl ?_
  refine tb_iload_n 3 dL_road_5 rfl rfl ?_
  refine tb_iload 4 dL_road_6 rfl ?_
  obtain ⟨e1, f2, td_3, ca_4, ha_5, da_6, c1_7, c2_8, c3_9, c4_10, rfl, k11, k12, k13, k14, k15, k16, k17, k18, k19, k20, k21, k22, k23, k24, k25, k26, k27⟩ := sp0.1 x 11 kx (by decide)
  refine tb_bi (tb_callV (M := mL_road) (hh := hhL_road) (pc := 8) okX5_road dL_road_8 w_595 rfl f2 [.int a, .int b, .int dy, .int fr] [.ref o] rfl rfl ⟨by decide, by decide⟩ (Nat.le_of_ble_eq_true rfl) (c2_X5_road d g τ h sp0.1 x kx a b dy fr) 0 0 (Nat.le_of_ble_eq_true rfl) (Nat.le_of_ble_eq_true rfl)) (fun rr h1 q => ?_) (fun E h1 z q => ?_)
  · skip
    obtain ⟨q1, cI, cR, τ1, s1⟩ := q
    have k28 : τ1 x = 11 := s1.2.1.k kx (by decide)
    have k29 : τ1 o = 12 := s1.2.1.k ko (by decide)
    refine tb_i2l dL_road_11 ?_
    refine tb_nml (fun v30 ev30 => ?_)
    obtain ⟨e31, f32, n_33, s_34, rfl⟩ := s1.1 o 12 k29 (by decide)
    refine tb_putN rfl in_10 tyX6 tyX6_ok nmX6 0 dL_road_12 w_380 rfl (by decide) f32 rfl rfl rfl rfl (Nat.le_of_ble_eq_true rfl) [.long v30, va_rf s_34] rfl ?_
    obtain ⟨h35, eh35⟩ : ∃ z : tw_H, z = tw_up h1 o (.inr (10, [.long v30, va_rf s_34])) := ⟨_, rfl⟩
    rw [← eh35]
    have sp36 : tw_sp d τ h (tw_g1 (tw_g1 (tw_g1 (tw_g1 g (160 + 64 * tw_DN a + 8 + tw_DN b) dy) (160 + 64 * tw_DN a + 16 + tw_DN b) fr) (160 + 64 * tw_DN b + 8 + tw_DN a) dy) (160 + 64 * tw_DN b + 16 + tw_DN a) fr) τ1 h35 := by rw [eh35]; exact s1.set k29 (by decide) ⟨v30, s_34, rfl⟩
    have f37 : h35 o = some (.inr (10, [.long v30, va_rf s_34])) := by rw [eh35]; exact tw_up_s
    refine tb_goto 26 dL_road_15 (by decide) ?_
    refine tb_iconst (v := 0) dL_road_26 (by decide) ?_
    exact tb_iret dL_road_27 rfl (Or.inl ⟨_, rfl, Or.inl ⟨rfl, cI, cR, by rw [f37]; show v30 = _; rw [ev30, q1], _, sp36⟩⟩)
  · skip
    obtain ⟨hE, hq⟩ := q
    rcases hE with ⟨rfl, hn⟩ | ⟨rfl, cI, hn⟩
    · skip
      refine ⟨[], (0, 15, 18, 27), [(0, 15, 22, 19)], _, rfl, (fun z hz => by simp at hz), by decide, by decide, w_541, ng_cIOE, ?_⟩
      show tw_WH d mL_road hhL_road _ 18 [(0, .ref x), (1, .int a), (2, .int b), (3, .int dy), (4, .int fr), (5, .ref o)] [.ref z] h1 0 0
      obtain ⟨τ1, s1⟩ := hq
      refine tb_astore [(6, .ref z), (0, .ref x), (1, .int a), (2, .int b), (3, .int dy), (4, .int fr), (5, .ref o)] dL_road_18 (by decide) rfl ?_
      refine tb_iconst (v := 1) dL_road_20 (by decide) ?_
      exact tb_iret dL_road_21 rfl (Or.inl ⟨_, rfl, Or.inr (Or.inl ⟨rfl, hn, _, s1⟩)⟩)
    · skip
      refine ⟨[(0, 15, 18, 27)], (0, 15, 22, 19), [], _, rfl, (fun z hz => by rcases List.mem_singleton.mp hz with rfl; exact ⟨by decide, _, w_541, Or.inl ⟨rfl, rfl⟩⟩), by decide, by decide, w_390, ng_cIAE, ?_⟩
      show tw_WH d mL_road hhL_road _ 22 [(0, .ref x), (1, .int a), (2, .int b), (3, .int dy), (4, .int fr), (5, .ref o)] [.ref z] h1 0 0
      obtain ⟨τ1, s1⟩ := hq
      refine tb_astore [(6, .ref z), (0, .ref x), (1, .int a), (2, .int b), (3, .int dy), (4, .int fr), (5, .ref o)] dL_road_22 (by decide) rfl ?_
      refine tb_iconst (v := 2) dL_road_24 (by decide) ?_
      exact tb_iret dL_road_25 rfl (Or.inl ⟨_, rfl, Or.inr (Or.inr (⟨rfl, cI, hn, _, s1⟩))⟩)

abbrev hhL_mine : tw_HH := [(0, 13, 16, 27), (0, 13, 20, 19), (0, 13, 24, 21)]
abbrev mL_mine : tw_M := (yL_mine, cL_mine, 6, (some .int), 8, 136)
theorem okL_mine : tw_okH mL_mine hhL_mine 5 := ⟨⟨by decide +kernel, by decide +kernel, by decide +kernel⟩, w_609, w_76, w_608⟩
set_option maxHeartbeats 4000000 in
set_option maxRecDepth 100000 in
theorem c_L_mine (d : tw_D) (g : tw_G) (τ : tw_K) (h : tw_H) (hw : tw_wt d g τ h) (x : Nat) (kx : τ x = 11) (a : Int32) (m : Int32) (gr : Int32) (o : Nat) (ko : τ o = 12) : tw_CtH d mL_mine hhL_mine 20 120 [.ref x, .int a, .int m, .int gr, .ref o] h (tw_qi (fun r9 h1 => (r9 = 0 ∧ tw_ix (g.2 6) a ∧ tw_RG1 m gr ∧ g.1 (160 + 64 * tw_DN a + 24 + tw_DN m) ≤ 999999 - gr ∧ tw_lg (h1 o) = (g.1 (160 + 64 * tw_DN a + 24 + tw_DN m) + gr).toInt64 ∧ ∃ τ1, tw_sp d τ h (tw_ad (tw_ad g (160 + 64 * tw_DN a + 24 + tw_DN m) gr) (1336 + tw_DN m) gr) τ1 h1) ∨ (r9 = 1 ∧ ¬ tw_ix (g.2 6) a ∧ ∃ τ1, tw_sp d τ h g τ1 h1) ∨ (r9 = 2 ∧ tw_ix (g.2 6) a ∧ ¬ tw_RG1 m gr ∧ ∃ τ1, tw_sp d τ h g τ1 h1) ∨ (r9 = 3 ∧ tw_ix (g.2 6) a ∧ tw_RG1 m gr ∧ ¬ g.1 (160 + 64 * tw_DN a + 24 + tw_DN m) ≤ 999999 - gr ∧ ∃ τ1, tw_sp d τ h g τ1 h1)) tw_nx) := by
  refine tw_ofH (by decide +kernel) (Nat.le_of_ble_eq_true rfl) ?_
  show tw_WH d mL_mine hhL_mine _ 0 [(0, .ref x), (1, .int a), (2, .int m), (3, .int gr), (4, .ref o)] [] h 20 120
  have sp0 := tw_sp.rf hw
  refine tb_aload 4 dL_mine_0 rfl ?_
  refine tb_aload_n 0 dL_mine_2 rfl rfl ?_
  refine tb_iload_n 1 dL_mine_3 rfl rfl ?_
  refine tb_iload_n 2 dL_mine_4 rfl rfl ?_
  refine tb_iload_n 3 dL_mine_5 rfl rfl ?_
  obtain ⟨e1, f2, td_3, ca_4, ha_5, da_6, c1_7, c2_8, c3_9, c4_10, rfl, k11, k12, k13, k14, k15, k16, k17, k18, k19, k20, k21, k22, k23, k24, k25, k26, k27⟩ := sp0.1 x 11 kx (by decide)
  refine tb_bi (tb_callV (M := mL_mine) (hh := hhL_mine) (pc := 6) okX5_mine dL_mine_6 w_610 rfl f2 [.int a, .int m, .int gr] [.ref o] rfl rfl ⟨by decide, by decide⟩ (Nat.le_of_ble_eq_true rfl) (c2_X5_mine d g τ h sp0.1 x kx a m gr) 0 0 (Nat.le_of_ble_eq_true rfl) (Nat.le_of_ble_eq_true rfl)) (fun rr h1 q => ?_) (fun E h1 z q => ?_)
  · skip
    obtain ⟨q1, cI, cR, cL, τ1, s1⟩ := q
    have k28 : τ1 x = 11 := s1.2.1.k kx (by decide)
    have k29 : τ1 o = 12 := s1.2.1.k ko (by decide)
    refine tb_i2l dL_mine_9 ?_
    refine tb_nml (fun v30 ev30 => ?_)
    obtain ⟨e31, f32, n_33, s_34, rfl⟩ := s1.1 o 12 k29 (by decide)
    refine tb_putN rfl in_10 tyX6 tyX6_ok nmX6 0 dL_mine_10 w_380 rfl (by decide) f32 rfl rfl rfl rfl (Nat.le_of_ble_eq_true rfl) [.long v30, va_rf s_34] rfl ?_
    obtain ⟨h35, eh35⟩ : ∃ z : tw_H, z = tw_up h1 o (.inr (10, [.long v30, va_rf s_34])) := ⟨_, rfl⟩
    rw [← eh35]
    have sp36 : tw_sp d τ h (tw_ad (tw_ad g (160 + 64 * tw_DN a + 24 + tw_DN m) gr) (1336 + tw_DN m) gr) τ1 h35 := by rw [eh35]; exact s1.set k29 (by decide) ⟨v30, s_34, rfl⟩
    have f37 : h35 o = some (.inr (10, [.long v30, va_rf s_34])) := by rw [eh35]; exact tw_up_s
    refine tb_goto 28 dL_mine_13 (by decide) ?_
    refine tb_iconst (v := 0) dL_mine_28 (by decide) ?_
    exact tb_iret dL_mine_29 rfl (Or.inl ⟨_, rfl, Or.inl ⟨rfl, cI, cR, cL, by rw [f37]; show v30 = _; rw [ev30, q1], _, sp36⟩⟩)
  · skip
    obtain ⟨hE, hq⟩ := q
    rcases hE with ⟨rfl, hn⟩ | ⟨rfl, cI, hn⟩ | ⟨rfl, cI, cR, hn⟩
    · skip
      refine ⟨[], (0, 13, 16, 27), [(0, 13, 20, 19), (0, 13, 24, 21)], _, rfl, (fun z hz => by simp at hz), by decide, by decide, w_541, ng_cIOE, ?_⟩
      show tw_WH d mL_mine hhL_mine _ 16 [(0, .ref x), (1, .int a), (2, .int m), (3, .int gr), (4, .ref o)] [.ref z] h1 0 0
      obtain ⟨τ1, s1⟩ := hq
      refine tb_astore [(5, .ref z), (0, .ref x), (1, .int a), (2, .int m), (3, .int gr), (4, .ref o)] dL_mine_16 (by decide) rfl ?_
      refine tb_iconst (v := 1) dL_mine_18 (by decide) ?_
      exact tb_iret dL_mine_19 rfl (Or.inl ⟨_, rfl, Or.inr (Or.inl ⟨rfl, hn, _, s1⟩)⟩)
    · skip
      refine ⟨[(0, 13, 16, 27)], (0, 13, 20, 19), [(0, 13, 24, 21)], _, rfl, (fun z hz => by rcases List.mem_singleton.mp hz with rfl; exact ⟨by decide, _, w_541, Or.inl ⟨rfl, rfl⟩⟩), by decide, by decide, w_390, ng_cIAE, ?_⟩
      show tw_WH d mL_mine hhL_mine _ 20 [(0, .ref x), (1, .int a), (2, .int m), (3, .int gr), (4, .ref o)] [.ref z] h1 0 0
      obtain ⟨τ1, s1⟩ := hq
      refine tb_astore [(5, .ref z), (0, .ref x), (1, .int a), (2, .int m), (3, .int gr), (4, .ref o)] dL_mine_20 (by decide) rfl ?_
      refine tb_iconst (v := 2) dL_mine_22 (by decide) ?_
      exact tb_iret dL_mine_23 rfl (Or.inl ⟨_, rfl, Or.inr (Or.inr (Or.inl ⟨rfl, cI, hn, _, s1⟩))⟩)
    · skip
      refine ⟨[(0, 13, 16, 27), (0, 13, 20, 19)], (0, 13, 24, 21), [], _, rfl, (fun z hz => by rcases List.mem_cons.mp hz with rfl | hz; exact ⟨by decide, _, w_541, Or.inr (Or.inl ⟨rfl, rfl⟩)⟩; rcases List.mem_singleton.mp hz with rfl; exact ⟨by decide, _, w_390, Or.inr (Or.inr ⟨rfl, rfl⟩)⟩), by decide, by decide, w_391, ng_cISE, ?_⟩
      show tw_WH d mL_mine hhL_mine _ 24 [(0, .ref x), (1, .int a), (2, .int m), (3, .int gr), (4, .ref o)] [.ref z] h1 0 0
      obtain ⟨τ1, s1⟩ := hq
      refine tb_astore [(5, .ref z), (0, .ref x), (1, .int a), (2, .int m), (3, .int gr), (4, .ref o)] dL_mine_24 (by decide) rfl ?_
      refine tb_iconst (v := 3) dL_mine_26 (by decide) ?_
      exact tb_iret dL_mine_27 rfl (Or.inl ⟨_, rfl, Or.inr (Or.inr (Or.inr (⟨rfl, cI, cR, hn, _, s1⟩)))⟩)

abbrev hhL_use : tw_HH := [(0, 13, 16, 27), (0, 13, 20, 19), (0, 13, 24, 21)]
abbrev mL_use : tw_M := (yL_use, cL_use, 6, (some .int), 8, 136)
theorem okL_use : tw_okH mL_use hhL_use 5 := ⟨⟨by decide +kernel, by decide +kernel, by decide +kernel⟩, w_618, w_76, w_617⟩
set_option maxHeartbeats 4000000 in
set_option maxRecDepth 100000 in
theorem c_L_use (d : tw_D) (g : tw_G) (τ : tw_K) (h : tw_H) (hw : tw_wt d g τ h) (x : Nat) (kx : τ x = 11) (a : Int32) (m : Int32) (gr : Int32) (o : Nat) (ko : τ o = 12) : tw_CtH d mL_use hhL_use 20 120 [.ref x, .int a, .int m, .int gr, .ref o] h (tw_qi (fun r9 h1 => (r9 = 0 ∧ tw_ix (g.2 6) a ∧ tw_RG1 m gr ∧ gr ≤ g.1 (160 + 64 * tw_DN a + 24 + tw_DN m) ∧ tw_lg (h1 o) = (g.1 (160 + 64 * tw_DN a + 24 + tw_DN m) + (-gr)).toInt64 ∧ ∃ τ1, tw_sp d τ h (tw_ad (tw_ad g (160 + 64 * tw_DN a + 24 + tw_DN m) (-gr)) (1320 + tw_DN m) gr) τ1 h1) ∨ (r9 = 1 ∧ ¬ tw_ix (g.2 6) a ∧ ∃ τ1, tw_sp d τ h g τ1 h1) ∨ (r9 = 2 ∧ tw_ix (g.2 6) a ∧ ¬ tw_RG1 m gr ∧ ∃ τ1, tw_sp d τ h g τ1 h1) ∨ (r9 = 3 ∧ tw_ix (g.2 6) a ∧ tw_RG1 m gr ∧ ¬ gr ≤ g.1 (160 + 64 * tw_DN a + 24 + tw_DN m) ∧ ∃ τ1, tw_sp d τ h g τ1 h1)) tw_nx) := by
  refine tw_ofH (by decide +kernel) (Nat.le_of_ble_eq_true rfl) ?_
  show tw_WH d mL_use hhL_use _ 0 [(0, .ref x), (1, .int a), (2, .int m), (3, .int gr), (4, .ref o)] [] h 20 120
  have sp0 := tw_sp.rf hw
  refine tb_aload 4 dL_use_0 rfl ?_
  refine tb_aload_n 0 dL_use_2 rfl rfl ?_
  refine tb_iload_n 1 dL_use_3 rfl rfl ?_
  refine tb_iload_n 2 dL_use_4 rfl rfl ?_
  refine tb_iload_n 3 dL_use_5 rfl rfl ?_
  obtain ⟨e1, f2, td_3, ca_4, ha_5, da_6, c1_7, c2_8, c3_9, c4_10, rfl, k11, k12, k13, k14, k15, k16, k17, k18, k19, k20, k21, k22, k23, k24, k25, k26, k27⟩ := sp0.1 x 11 kx (by decide)
  refine tb_bi (tb_callV (M := mL_use) (hh := hhL_use) (pc := 6) okX5_use dL_use_6 w_619 rfl f2 [.int a, .int m, .int gr] [.ref o] rfl rfl ⟨by decide, by decide⟩ (Nat.le_of_ble_eq_true rfl) (c2_X5_use d g τ h sp0.1 x kx a m gr) 0 0 (Nat.le_of_ble_eq_true rfl) (Nat.le_of_ble_eq_true rfl)) (fun rr h1 q => ?_) (fun E h1 z q => ?_)
  · skip
    obtain ⟨q1, cI, cR, cL, τ1, s1⟩ := q
    have k28 : τ1 x = 11 := s1.2.1.k kx (by decide)
    have k29 : τ1 o = 12 := s1.2.1.k ko (by decide)
    refine tb_i2l dL_use_9 ?_
    refine tb_nml (fun v30 ev30 => ?_)
    obtain ⟨e31, f32, n_33, s_34, rfl⟩ := s1.1 o 12 k29 (by decide)
    refine tb_putN rfl in_10 tyX6 tyX6_ok nmX6 0 dL_use_10 w_380 rfl (by decide) f32 rfl rfl rfl rfl (Nat.le_of_ble_eq_true rfl) [.long v30, va_rf s_34] rfl ?_
    obtain ⟨h35, eh35⟩ : ∃ z : tw_H, z = tw_up h1 o (.inr (10, [.long v30, va_rf s_34])) := ⟨_, rfl⟩
    rw [← eh35]
    have sp36 : tw_sp d τ h (tw_ad (tw_ad g (160 + 64 * tw_DN a + 24 + tw_DN m) (-gr)) (1320 + tw_DN m) gr) τ1 h35 := by rw [eh35]; exact s1.set k29 (by decide) ⟨v30, s_34, rfl⟩
    have f37 : h35 o = some (.inr (10, [.long v30, va_rf s_34])) := by rw [eh35]; exact tw_up_s
    refine tb_goto 28 dL_use_13 (by decide) ?_
    refine tb_iconst (v := 0) dL_use_28 (by decide) ?_
    exact tb_iret dL_use_29 rfl (Or.inl ⟨_, rfl, Or.inl ⟨rfl, cI, cR, cL, by rw [f37]; show v30 = _; rw [ev30, q1], _, sp36⟩⟩)
  · skip
    obtain ⟨hE, hq⟩ := q
    rcases hE with ⟨rfl, hn⟩ | ⟨rfl, cI, hn⟩ | ⟨rfl, cI, cR, hn⟩
    · skip
      refine ⟨[], (0, 13, 16, 27), [(0, 13, 20, 19), (0, 13, 24, 21)], _, rfl, (fun z hz => by simp at hz), by decide, by decide, w_541, ng_cIOE, ?_⟩
      show tw_WH d mL_use hhL_use _ 16 [(0, .ref x), (1, .int a), (2, .int m), (3, .int gr), (4, .ref o)] [.ref z] h1 0 0
      obtain ⟨τ1, s1⟩ := hq
      refine tb_astore [(5, .ref z), (0, .ref x), (1, .int a), (2, .int m), (3, .int gr), (4, .ref o)] dL_use_16 (by decide) rfl ?_
      refine tb_iconst (v := 1) dL_use_18 (by decide) ?_
      exact tb_iret dL_use_19 rfl (Or.inl ⟨_, rfl, Or.inr (Or.inl ⟨rfl, hn, _, s1⟩)⟩)
    · skip
      refine ⟨[(0, 13, 16, 27)], (0, 13, 20, 19), [(0, 13, 24, 21)], _, rfl, (fun z hz => by rcases List.mem_singleton.mp hz with rfl; exact ⟨by decide, _, w_541, Or.inl ⟨rfl, rfl⟩⟩), by decide, by decide, w_390, ng_cIAE, ?_⟩
      show tw_WH d mL_use hhL_use _ 20 [(0, .ref x), (1, .int a), (2, .int m), (3, .int gr), (4, .ref o)] [.ref z] h1 0 0
      obtain ⟨τ1, s1⟩ := hq
      refine tb_astore [(5, .ref z), (0, .ref x), (1, .int a), (2, .int m), (3, .int gr), (4, .ref o)] dL_use_20 (by decide) rfl ?_
      refine tb_iconst (v := 2) dL_use_22 (by decide) ?_
      exact tb_iret dL_use_23 rfl (Or.inl ⟨_, rfl, Or.inr (Or.inr (Or.inl ⟨rfl, cI, hn, _, s1⟩))⟩)
    · skip
      refine ⟨[(0, 13, 16, 27), (0, 13, 20, 19)], (0, 13, 24, 21), [], _, rfl, (fun z hz => by rcases List.mem_cons.mp hz with rfl | hz; exact ⟨by decide, _, w_541, Or.inr (Or.inl ⟨rfl, rfl⟩)⟩; rcases List.mem_singleton.mp hz with rfl; exact ⟨by decide, _, w_390, Or.inr (Or.inr ⟨rfl, rfl⟩)⟩), by decide, by decide, w_391, ng_cISE, ?_⟩
      show tw_WH d mL_use hhL_use _ 24 [(0, .ref x), (1, .int a), (2, .int m), (3, .int gr), (4, .ref o)] [.ref z] h1 0 0
      obtain ⟨τ1, s1⟩ := hq
      refine tb_astore [(5, .ref z), (0, .ref x), (1, .int a), (2, .int m), (3, .int gr), (4, .ref o)] dL_use_24 (by decide) rfl ?_
      refine tb_iconst (v := 3) dL_use_26 (by decide) ?_
      exact tb_iret dL_use_27 rfl (Or.inl ⟨_, rfl, Or.inr (Or.inr (Or.inr (⟨rfl, cI, cR, hn, _, s1⟩)))⟩)

abbrev hhL_house : tw_HH := [(0, 13, 16, 27), (0, 13, 20, 19), (0, 13, 24, 21)]
abbrev mL_house : tw_M := (yL_house, cL_house, 6, (some .int), 8, 137)
theorem okL_house : tw_okH mL_house hhL_house 5 := ⟨⟨by decide +kernel, by decide +kernel, by decide +kernel⟩, w_626, w_76, w_625⟩
set_option maxHeartbeats 4000000 in
set_option maxRecDepth 100000 in
theorem c_L_house (d : tw_D) (g : tw_G) (τ : tw_K) (h : tw_H) (hw : tw_wt d g τ h) (x : Nat) (kx : τ x = 11) (a : Int32) (go : Int32) (si : Int32) (o : Nat) (ko : τ o = 12) (he6 : g.2 7 = g.2 1) (he24 : g.2 130 = 768 + 32 * g.2 7) : tw_CtH d mL_house hhL_house 20 120 [.ref x, .int a, .int go, .int si, .ref o] h (tw_qi (fun r9 h1 => (r9 = 0 ∧ tw_ix (g.2 6) a ∧ tw_RH go si ∧ g.2 1 < 6 ∧ tw_lg (h1 o) = (nI (g.2 1)).toInt64 ∧ ∃ y9 p9 τ1, tw_sp d τ h (tw_ad (tw_ad (tw_gI (tw_gH g (768 + 32 * g.2 7) y9 p9 a go si) 7 1) (1336 + 0) go) (1336 + 1) si) τ1 h1) ∨ (r9 = 1 ∧ ¬ tw_ix (g.2 6) a ∧ ∃ τ1, tw_sp d τ h g τ1 h1) ∨ (r9 = 2 ∧ tw_ix (g.2 6) a ∧ ¬ tw_RH go si ∧ ∃ τ1, tw_sp d τ h g τ1 h1) ∨ (r9 = 3 ∧ tw_ix (g.2 6) a ∧ tw_RH go si ∧ ¬ g.2 1 < 6 ∧ ∃ τ1, tw_sp d τ h g τ1 h1)) tw_nx) := by
  refine tw_ofH (by decide +kernel) (Nat.le_of_ble_eq_true rfl) ?_
  show tw_WH d mL_house hhL_house _ 0 [(0, .ref x), (1, .int a), (2, .int go), (3, .int si), (4, .ref o)] [] h 20 120
  have sp0 := tw_sp.rf hw
  refine tb_aload 4 dL_house_0 rfl ?_
  refine tb_aload_n 0 dL_house_2 rfl rfl ?_
  refine tb_iload_n 1 dL_house_3 rfl rfl ?_
  refine tb_iload_n 2 dL_house_4 rfl rfl ?_
  refine tb_iload_n 3 dL_house_5 rfl rfl ?_
  obtain ⟨e1, f2, td_3, ca_4, ha_5, da_6, c1_7, c2_8, c3_9, c4_10, rfl, k11, k12, k13, k14, k15, k16, k17, k18, k19, k20, k21, k22, k23, k24, k25, k26, k27⟩ := sp0.1 x 11 kx (by decide)
  refine tb_bi (tb_callV (M := mL_house) (hh := hhL_house) (pc := 6) okX5_house dL_house_6 w_627 rfl f2 [.int a, .int go, .int si] [.ref o] rfl rfl ⟨by decide, by decide⟩ (Nat.le_of_ble_eq_true rfl) (c2_X5_house d g τ h sp0.1 x kx a go si he6 he24) 0 0 (Nat.le_of_ble_eq_true rfl) (Nat.le_of_ble_eq_true rfl)) (fun rr h1 q => ?_) (fun E h1 z q => ?_)
  · skip
    obtain ⟨q1, cI, cR, cL, y9, p9, τ1, s1⟩ := q
    have k28 : τ1 x = 11 := s1.2.1.k kx (by decide)
    have k29 : τ1 o = 12 := s1.2.1.k ko (by decide)
    refine tb_i2l dL_house_9 ?_
    refine tb_nml (fun v30 ev30 => ?_)
    obtain ⟨e31, f32, n_33, s_34, rfl⟩ := s1.1 o 12 k29 (by decide)
    refine tb_putN rfl in_10 tyX6 tyX6_ok nmX6 0 dL_house_10 w_380 rfl (by decide) f32 rfl rfl rfl rfl (Nat.le_of_ble_eq_true rfl) [.long v30, va_rf s_34] rfl ?_
    obtain ⟨h35, eh35⟩ : ∃ z : tw_H, z = tw_up h1 o (.inr (10, [.long v30, va_rf s_34])) := ⟨_, rfl⟩
    rw [← eh35]
    have sp36 : tw_sp d τ h (tw_ad (tw_ad (tw_gI (tw_gH g (768 + 32 * g.2 7) y9 p9 a go si) 7 1) (1336 + 0) go) (1336 + 1) si) τ1 h35 := by rw [eh35]; exact s1.set k29 (by decide) ⟨v30, s_34, rfl⟩
    have f37 : h35 o = some (.inr (10, [.long v30, va_rf s_34])) := by rw [eh35]; exact tw_up_s
    refine tb_goto 28 dL_house_13 (by decide) ?_
    refine tb_iconst (v := 0) dL_house_28 (by decide) ?_
    exact tb_iret dL_house_29 rfl (Or.inl ⟨_, rfl, Or.inl ⟨rfl, cI, cR, cL, by rw [f37]; show v30 = _; rw [ev30, q1], y9, p9, _, sp36⟩⟩)
  · skip
    obtain ⟨hE, hq⟩ := q
    rcases hE with ⟨rfl, hn⟩ | ⟨rfl, cI, hn⟩ | ⟨rfl, cI, cR, hn⟩
    · skip
      refine ⟨[], (0, 13, 16, 27), [(0, 13, 20, 19), (0, 13, 24, 21)], _, rfl, (fun z hz => by simp at hz), by decide, by decide, w_541, ng_cIOE, ?_⟩
      show tw_WH d mL_house hhL_house _ 16 [(0, .ref x), (1, .int a), (2, .int go), (3, .int si), (4, .ref o)] [.ref z] h1 0 0
      obtain ⟨τ1, s1⟩ := hq
      refine tb_astore [(5, .ref z), (0, .ref x), (1, .int a), (2, .int go), (3, .int si), (4, .ref o)] dL_house_16 (by decide) rfl ?_
      refine tb_iconst (v := 1) dL_house_18 (by decide) ?_
      exact tb_iret dL_house_19 rfl (Or.inl ⟨_, rfl, Or.inr (Or.inl ⟨rfl, hn, _, s1⟩)⟩)
    · skip
      refine ⟨[(0, 13, 16, 27)], (0, 13, 20, 19), [(0, 13, 24, 21)], _, rfl, (fun z hz => by rcases List.mem_singleton.mp hz with rfl; exact ⟨by decide, _, w_541, Or.inl ⟨rfl, rfl⟩⟩), by decide, by decide, w_390, ng_cIAE, ?_⟩
      show tw_WH d mL_house hhL_house _ 20 [(0, .ref x), (1, .int a), (2, .int go), (3, .int si), (4, .ref o)] [.ref z] h1 0 0
      obtain ⟨τ1, s1⟩ := hq
      refine tb_astore [(5, .ref z), (0, .ref x), (1, .int a), (2, .int go), (3, .int si), (4, .ref o)] dL_house_20 (by decide) rfl ?_
      refine tb_iconst (v := 2) dL_house_22 (by decide) ?_
      exact tb_iret dL_house_23 rfl (Or.inl ⟨_, rfl, Or.inr (Or.inr (Or.inl ⟨rfl, cI, hn, _, s1⟩))⟩)
    · skip
      refine ⟨[(0, 13, 16, 27), (0, 13, 20, 19)], (0, 13, 24, 21), [], _, rfl, (fun z hz => by rcases List.mem_cons.mp hz with rfl | hz; exact ⟨by decide, _, w_541, Or.inr (Or.inl ⟨rfl, rfl⟩)⟩; rcases List.mem_singleton.mp hz with rfl; exact ⟨by decide, _, w_390, Or.inr (Or.inr ⟨rfl, rfl⟩)⟩), by decide, by decide, w_391, ng_cISE, ?_⟩
      show tw_WH d mL_house hhL_house _ 24 [(0, .ref x), (1, .int a), (2, .int go), (3, .int si), (4, .ref o)] [.ref z] h1 0 0
      obtain ⟨τ1, s1⟩ := hq
      refine tb_astore [(5, .ref z), (0, .ref x), (1, .int a), (2, .int go), (3, .int si), (4, .ref o)] dL_house_24 (by decide) rfl ?_
      refine tb_iconst (v := 3) dL_house_26 (by decide) ?_
      exact tb_iret dL_house_27 rfl (Or.inl ⟨_, rfl, Or.inr (Or.inr (Or.inr (⟨rfl, cI, cR, hn, _, s1⟩)))⟩)

abbrev hhL_change : tw_HH := [(0, 13, 16, 27), (0, 13, 20, 19), (0, 13, 24, 21)]
abbrev mL_change : tw_M := (yL_change, cL_change, 6, (some .int), 8, 139)
theorem okL_change : tw_okH mL_change hhL_change 5 := ⟨⟨by decide +kernel, by decide +kernel, by decide +kernel⟩, w_659, w_76, w_658⟩
set_option maxHeartbeats 4000000 in
set_option maxRecDepth 100000 in
theorem c_L_change (d : tw_D) (g : tw_G) (τ : tw_K) (h : tw_H) (hw : tw_wt d g τ h) (x : Nat) (kx : τ x = 11) (a : Int32) (m : Int32) (gr : Int32) (o : Nat) (ko : τ o = 12) (he6 : tw_CH g) : tw_CtH d mL_change hhL_change 20 120 [.ref x, .int a, .int m, .int gr, .ref o] h (tw_qi (fun r9 h1 => (r9 = 0 ∧ tw_ix (g.2 7) a ∧ tw_RG1 m gr ∧ tw_LC g (tw_DN a) (tw_DN m) (tw_DN gr) ∧ tw_lg (h1 o) = (nI (tw_cg g (tw_DN a) (tw_DN m) (tw_DN gr))).toInt64 ∧ ∃ τ1, tw_sp d τ h (tw_ad (tw_ad (tw_ad (tw_ad g (768 + 32 * tw_DN a + 8 + tw_DN m) (-gr)) (160 + 64 * tw_cP g (tw_DN a) + 24 + tw_DN m) gr) (160 + 64 * tw_cP g (tw_DN a) + 24 + (1 - tw_DN m)) (-nI (tw_cg g (tw_DN a) (tw_DN m) (tw_DN gr)))) (768 + 32 * tw_DN a + 8 + (1 - tw_DN m)) (nI (tw_cg g (tw_DN a) (tw_DN m) (tw_DN gr)))) τ1 h1) ∨ (r9 = 1 ∧ ¬ tw_ix (g.2 7) a ∧ ∃ τ1, tw_sp d τ h g τ1 h1) ∨ (r9 = 2 ∧ tw_ix (g.2 7) a ∧ ¬ tw_RG1 m gr ∧ ∃ τ1, tw_sp d τ h g τ1 h1) ∨ (r9 = 3 ∧ tw_ix (g.2 7) a ∧ tw_RG1 m gr ∧ ¬ tw_LC g (tw_DN a) (tw_DN m) (tw_DN gr) ∧ ∃ τ1, tw_sp d τ h g τ1 h1)) tw_nx) := by
  refine tw_ofH (by decide +kernel) (Nat.le_of_ble_eq_true rfl) ?_
  show tw_WH d mL_change hhL_change _ 0 [(0, .ref x), (1, .int a), (2, .int m), (3, .int gr), (4, .ref o)] [] h 20 120
  have sp0 := tw_sp.rf hw
  refine tb_aload 4 dL_change_0 rfl ?_
  refine tb_aload_n 0 dL_change_2 rfl rfl ?_
  refine tb_iload_n 1 dL_change_3 rfl rfl ?_
  refine tb_iload_n 2 dL_change_4 rfl rfl ?_
  refine tb_iload_n 3 dL_change_5 rfl rfl ?_
  obtain ⟨e1, f2, td_3, ca_4, ha_5, da_6, c1_7, c2_8, c3_9, c4_10, rfl, k11, k12, k13, k14, k15, k16, k17, k18, k19, k20, k21, k22, k23, k24, k25, k26, k27⟩ := sp0.1 x 11 kx (by decide)
  refine tb_bi (tb_callV (M := mL_change) (hh := hhL_change) (pc := 6) okX5_change dL_change_6 w_660 rfl f2 [.int a, .int m, .int gr] [.ref o] rfl rfl ⟨by decide, by decide⟩ (Nat.le_of_ble_eq_true rfl) (c2_X5_change d g τ h sp0.1 x kx a m gr he6) 0 0 (Nat.le_of_ble_eq_true rfl) (Nat.le_of_ble_eq_true rfl)) (fun rr h1 q => ?_) (fun E h1 z q => ?_)
  · skip
    obtain ⟨q1, cI, cR, cL, τ1, s1⟩ := q
    have k28 : τ1 x = 11 := s1.2.1.k kx (by decide)
    have k29 : τ1 o = 12 := s1.2.1.k ko (by decide)
    refine tb_i2l dL_change_9 ?_
    refine tb_nml (fun v30 ev30 => ?_)
    obtain ⟨e31, f32, n_33, s_34, rfl⟩ := s1.1 o 12 k29 (by decide)
    refine tb_putN rfl in_10 tyX6 tyX6_ok nmX6 0 dL_change_10 w_380 rfl (by decide) f32 rfl rfl rfl rfl (Nat.le_of_ble_eq_true rfl) [.long v30, va_rf s_34] rfl ?_
    obtain ⟨h35, eh35⟩ : ∃ z : tw_H, z = tw_up h1 o (.inr (10, [.long v30, va_rf s_34])) := ⟨_, rfl⟩
    rw [← eh35]
    have sp36 : tw_sp d τ h (tw_ad (tw_ad (tw_ad (tw_ad g (768 + 32 * tw_DN a + 8 + tw_DN m) (-gr)) (160 + 64 * tw_cP g (tw_DN a) + 24 + tw_DN m) gr) (160 + 64 * tw_cP g (tw_DN a) + 24 + (1 - tw_DN m)) (-nI (tw_cg g (tw_DN a) (tw_DN m) (tw_DN gr)))) (768 + 32 * tw_DN a + 8 + (1 - tw_DN m)) (nI (tw_cg g (tw_DN a) (tw_DN m) (tw_DN gr)))) τ1 h35 := by rw [eh35]; exact s1.set k29 (by decide) ⟨v30, s_34, rfl⟩
    have f37 : h35 o = some (.inr (10, [.long v30, va_rf s_34])) := by rw [eh35]; exact tw_up_s
    refine tb_goto 28 dL_change_13 (by decide) ?_
    refine tb_iconst (v := 0) dL_change_28 (by decide) ?_
    exact tb_iret dL_change_29 rfl (Or.inl ⟨_, rfl, Or.inl ⟨rfl, cI, cR, cL, by rw [f37]; show v30 = _; rw [ev30, q1], _, sp36⟩⟩)
  · skip
    obtain ⟨hE, hq⟩ := q
    rcases hE with ⟨rfl, hn⟩ | ⟨rfl, cI, hn⟩ | ⟨rfl, cI, cR, hn⟩
    · skip
      refine ⟨[], (0, 13, 16, 27), [(0, 13, 20, 19), (0, 13, 24, 21)], _, rfl, (fun z hz => by simp at hz), by decide, by decide, w_541, ng_cIOE, ?_⟩
      show tw_WH d mL_change hhL_change _ 16 [(0, .ref x), (1, .int a), (2, .int m), (3, .int gr), (4, .ref o)] [.ref z] h1 0 0
      obtain ⟨τ1, s1⟩ := hq
      refine tb_astore [(5, .ref z), (0, .ref x), (1, .int a), (2, .int m), (3, .int gr), (4, .ref o)] dL_change_16 (by decide) rfl ?_
      refine tb_iconst (v := 1) dL_change_18 (by decide) ?_
      exact tb_iret dL_change_19 rfl (Or.inl ⟨_, rfl, Or.inr (Or.inl ⟨rfl, hn, _, s1⟩)⟩)
    · skip
      refine ⟨[(0, 13, 16, 27)], (0, 13, 20, 19), [(0, 13, 24, 21)], _, rfl, (fun z hz => by rcases List.mem_singleton.mp hz with rfl; exact ⟨by decide, _, w_541, Or.inl ⟨rfl, rfl⟩⟩), by decide, by decide, w_390, ng_cIAE, ?_⟩
      show tw_WH d mL_change hhL_change _ 20 [(0, .ref x), (1, .int a), (2, .int m), (3, .int gr), (4, .ref o)] [.ref z] h1 0 0
      obtain ⟨τ1, s1⟩ := hq
      refine tb_astore [(5, .ref z), (0, .ref x), (1, .int a), (2, .int m), (3, .int gr), (4, .ref o)] dL_change_20 (by decide) rfl ?_
      refine tb_iconst (v := 2) dL_change_22 (by decide) ?_
      exact tb_iret dL_change_23 rfl (Or.inl ⟨_, rfl, Or.inr (Or.inr (Or.inl ⟨rfl, cI, hn, _, s1⟩))⟩)
    · skip
      refine ⟨[(0, 13, 16, 27), (0, 13, 20, 19)], (0, 13, 24, 21), [], _, rfl, (fun z hz => by rcases List.mem_cons.mp hz with rfl | hz; exact ⟨by decide, _, w_541, Or.inr (Or.inl ⟨rfl, rfl⟩)⟩; rcases List.mem_singleton.mp hz with rfl; exact ⟨by decide, _, w_390, Or.inr (Or.inr ⟨rfl, rfl⟩)⟩), by decide, by decide, w_391, ng_cISE, ?_⟩
      show tw_WH d mL_change hhL_change _ 24 [(0, .ref x), (1, .int a), (2, .int m), (3, .int gr), (4, .ref o)] [.ref z] h1 0 0
      obtain ⟨τ1, s1⟩ := hq
      refine tb_astore [(5, .ref z), (0, .ref x), (1, .int a), (2, .int m), (3, .int gr), (4, .ref o)] dL_change_24 (by decide) rfl ?_
      refine tb_iconst (v := 3) dL_change_26 (by decide) ?_
      exact tb_iret dL_change_27 rfl (Or.inl ⟨_, rfl, Or.inr (Or.inr (Or.inr (⟨rfl, cI, cR, hn, _, s1⟩)))⟩)

abbrev hhL_send : tw_HH := [(0, 11, 14, 27), (0, 11, 18, 21)]
abbrev mL_send : tw_M := (yL_send, cL_send, 5, (some .int), 8, 136)
theorem okL_send : tw_okH mL_send hhL_send 4 := ⟨⟨by decide +kernel, by decide +kernel, by decide +kernel⟩, w_673, w_76, w_672⟩
set_option maxHeartbeats 4000000 in
set_option maxRecDepth 100000 in
theorem c_L_send (d : tw_D) (g : tw_G) (τ : tw_K) (h : tw_H) (hw : tw_wt d g τ h) (x : Nat) (kx : τ x = 11) (a : Int32) (b : Int32) (o : Nat) (ko : τ o = 12) (he6 : tw_CH g) : tw_CtH d mL_send hhL_send 20 120 [.ref x, .int a, .int b, .ref o] h (tw_qi (fun r9 h1 => (r9 = 0 ∧ (tw_ix (g.2 7) a ∧ tw_ix (g.2 6) b) ∧ tw_LS g (tw_DN a) b ∧ tw_lg (h1 o) = (tw_sD g (tw_DN a) (tw_DN b)).toInt64 ∧ ∃ τ1, tw_sp d τ h (tw_g1 (tw_g1 (tw_g1 (tw_ad (tw_ad (tw_ad (tw_ad g (768 + 32 * tw_DN a + 8 + 0) (-nI (tw_fr g (tw_DN a) (tw_DN b) 0))) (1312 + 0) (nI (tw_fr g (tw_DN a) (tw_DN b) 0))) (768 + 32 * tw_DN a + 8 + 1) (-nI (tw_fr g (tw_DN a) (tw_DN b) 1))) (1312 + 1) (nI (tw_fr g (tw_DN a) (tw_DN b) 1))) (768 + 32 * tw_DN a + 1) (-1)) (768 + 32 * tw_DN a + 2) b) (768 + 32 * tw_DN a + 0) (tw_sD g (tw_DN a) (tw_DN b))) τ1 h1) ∨ (r9 = 1 ∧ ¬ (tw_ix (g.2 7) a ∧ tw_ix (g.2 6) b) ∧ ∃ τ1, tw_sp d τ h g τ1 h1) ∨ (r9 = 2 ∧ (tw_ix (g.2 7) a ∧ tw_ix (g.2 6) b) ∧ ¬ tw_LS g (tw_DN a) b ∧ ∃ τ1, tw_sp d τ h g τ1 h1)) tw_nx) := by
  refine tw_ofH (by decide +kernel) (Nat.le_of_ble_eq_true rfl) ?_
  show tw_WH d mL_send hhL_send _ 0 [(0, .ref x), (1, .int a), (2, .int b), (3, .ref o)] [] h 20 120
  have sp0 := tw_sp.rf hw
  refine tb_aload_n 3 dL_send_0 rfl rfl ?_
  refine tb_aload_n 0 dL_send_1 rfl rfl ?_
  refine tb_iload_n 1 dL_send_2 rfl rfl ?_
  refine tb_iload_n 2 dL_send_3 rfl rfl ?_
  obtain ⟨e1, f2, td_3, ca_4, ha_5, da_6, c1_7, c2_8, c3_9, c4_10, rfl, k11, k12, k13, k14, k15, k16, k17, k18, k19, k20, k21, k22, k23, k24, k25, k26, k27⟩ := sp0.1 x 11 kx (by decide)
  refine tb_bi (tb_callV (M := mL_send) (hh := hhL_send) (pc := 4) okX5_send dL_send_4 w_674 rfl f2 [.int a, .int b] [.ref o] rfl rfl ⟨by decide, by decide⟩ (Nat.le_of_ble_eq_true rfl) (c2_X5_send d g τ h sp0.1 x kx a b he6) 0 0 (Nat.le_of_ble_eq_true rfl) (Nat.le_of_ble_eq_true rfl)) (fun rr h1 q => ?_) (fun E h1 z q => ?_)
  · skip
    obtain ⟨q1, cI, cL, τ1, s1⟩ := q
    have k28 : τ1 x = 11 := s1.2.1.k kx (by decide)
    have k29 : τ1 o = 12 := s1.2.1.k ko (by decide)
    refine tb_i2l dL_send_7 ?_
    refine tb_nml (fun v30 ev30 => ?_)
    obtain ⟨e31, f32, n_33, s_34, rfl⟩ := s1.1 o 12 k29 (by decide)
    refine tb_putN rfl in_10 tyX6 tyX6_ok nmX6 0 dL_send_8 w_380 rfl (by decide) f32 rfl rfl rfl rfl (Nat.le_of_ble_eq_true rfl) [.long v30, va_rf s_34] rfl ?_
    obtain ⟨h35, eh35⟩ : ∃ z : tw_H, z = tw_up h1 o (.inr (10, [.long v30, va_rf s_34])) := ⟨_, rfl⟩
    rw [← eh35]
    have sp36 : tw_sp d τ h (tw_g1 (tw_g1 (tw_g1 (tw_ad (tw_ad (tw_ad (tw_ad g (768 + 32 * tw_DN a + 8 + 0) (-nI (tw_fr g (tw_DN a) (tw_DN b) 0))) (1312 + 0) (nI (tw_fr g (tw_DN a) (tw_DN b) 0))) (768 + 32 * tw_DN a + 8 + 1) (-nI (tw_fr g (tw_DN a) (tw_DN b) 1))) (1312 + 1) (nI (tw_fr g (tw_DN a) (tw_DN b) 1))) (768 + 32 * tw_DN a + 1) (-1)) (768 + 32 * tw_DN a + 2) b) (768 + 32 * tw_DN a + 0) (tw_sD g (tw_DN a) (tw_DN b))) τ1 h35 := by rw [eh35]; exact s1.set k29 (by decide) ⟨v30, s_34, rfl⟩
    have f37 : h35 o = some (.inr (10, [.long v30, va_rf s_34])) := by rw [eh35]; exact tw_up_s
    refine tb_goto 22 dL_send_11 (by decide) ?_
    refine tb_iconst (v := 0) dL_send_22 (by decide) ?_
    exact tb_iret dL_send_23 rfl (Or.inl ⟨_, rfl, Or.inl ⟨rfl, cI, cL, by rw [f37]; show v30 = _; rw [ev30, q1], _, sp36⟩⟩)
  · skip
    obtain ⟨hE, hq⟩ := q
    rcases hE with ⟨rfl, hn⟩ | ⟨rfl, cI, hn⟩
    · skip
      refine ⟨[], (0, 11, 14, 27), [(0, 11, 18, 21)], _, rfl, (fun z hz => by simp at hz), by decide, by decide, w_541, ng_cIOE, ?_⟩
      show tw_WH d mL_send hhL_send _ 14 [(0, .ref x), (1, .int a), (2, .int b), (3, .ref o)] [.ref z] h1 0 0
      obtain ⟨τ1, s1⟩ := hq
      refine tb_astore [(4, .ref z), (0, .ref x), (1, .int a), (2, .int b), (3, .ref o)] dL_send_14 (by decide) rfl ?_
      refine tb_iconst (v := 1) dL_send_16 (by decide) ?_
      exact tb_iret dL_send_17 rfl (Or.inl ⟨_, rfl, Or.inr (Or.inl ⟨rfl, hn, _, s1⟩)⟩)
    · skip
      refine ⟨[(0, 11, 14, 27)], (0, 11, 18, 21), [], _, rfl, (fun z hz => by rcases List.mem_singleton.mp hz with rfl; exact ⟨by decide, _, w_541, Or.inr (Or.inl ⟨rfl, rfl⟩)⟩), by decide, by decide, w_391, ng_cISE, ?_⟩
      show tw_WH d mL_send hhL_send _ 18 [(0, .ref x), (1, .int a), (2, .int b), (3, .ref o)] [.ref z] h1 0 0
      obtain ⟨τ1, s1⟩ := hq
      refine tb_astore [(4, .ref z), (0, .ref x), (1, .int a), (2, .int b), (3, .ref o)] dL_send_18 (by decide) rfl ?_
      refine tb_iconst (v := 2) dL_send_20 (by decide) ?_
      exact tb_iret dL_send_21 rfl (Or.inl ⟨_, rfl, Or.inr (Or.inr (⟨rfl, cI, hn, _, s1⟩))⟩)

abbrev hhL_pass : tw_HH := [(0, 10, 13, 19), (0, 10, 16, 21)]
abbrev mL_pass : tw_M := (yL_pass, cL_pass, 4, (some .int), 8, 134)
theorem okL_pass : tw_okH mL_pass hhL_pass 3 := ⟨⟨by decide +kernel, by decide +kernel, by decide +kernel⟩, w_689, w_76, w_688⟩
set_option maxHeartbeats 4000000 in
set_option maxRecDepth 100000 in
theorem c_L_pass (d : tw_D) (g : tw_G) (τ : tw_K) (h : tw_H) (hw : tw_wt d g τ h) (x : Nat) (kx : τ x = 11) (dy : Int32) (o : Nat) (ko : τ o = 12) : tw_CtH d mL_pass hhL_pass 20 120 [.ref x, .int dy, .ref o] h (tw_qi (fun r9 h1 => (r9 = 0 ∧ tw_RP dy ∧ g.2 21 + tw_DN dy ≤ 3000 ∧ tw_lg (h1 o) = (nI (g.2 21 + tw_DN dy)).toInt64 ∧ ∃ τ1, tw_sp d τ h (tw_dsC g (tw_DN dy)) τ1 h1) ∨ (r9 = 1 ∧ ¬ tw_RP dy ∧ ∃ τ1, tw_sp d τ h g τ1 h1) ∨ (r9 = 2 ∧ tw_RP dy ∧ ¬ g.2 21 + tw_DN dy ≤ 3000 ∧ ∃ τ1, tw_sp d τ h g τ1 h1)) tw_nx) := by
  refine tw_ofH (by decide +kernel) (Nat.le_of_ble_eq_true rfl) ?_
  show tw_WH d mL_pass hhL_pass _ 0 [(0, .ref x), (1, .int dy), (2, .ref o)] [] h 20 120
  have sp0 := tw_sp.rf hw
  refine tb_aload_n 2 dL_pass_0 rfl rfl ?_
  refine tb_aload_n 0 dL_pass_1 rfl rfl ?_
  refine tb_iload_n 1 dL_pass_2 rfl rfl ?_
  obtain ⟨e1, f2, td_3, ca_4, ha_5, da_6, c1_7, c2_8, c3_9, c4_10, rfl, k11, k12, k13, k14, k15, k16, k17, k18, k19, k20, k21, k22, k23, k24, k25, k26, k27⟩ := sp0.1 x 11 kx (by decide)
  refine tb_bi (tb_callV (M := mL_pass) (hh := hhL_pass) (pc := 3) okX5_pass dL_pass_3 w_690 rfl f2 [.int dy] [.ref o] rfl rfl ⟨by decide, by decide⟩ (Nat.le_of_ble_eq_true rfl) (c2_X5_pass d g τ h sp0.1 x kx dy) 0 0 (Nat.le_of_ble_eq_true rfl) (Nat.le_of_ble_eq_true rfl)) (fun rr h1 q => ?_) (fun E h1 z q => ?_)
  · skip
    obtain ⟨q1, cR, cL, τ1, s1⟩ := q
    have k28 : τ1 x = 11 := s1.2.1.k kx (by decide)
    have k29 : τ1 o = 12 := s1.2.1.k ko (by decide)
    refine tb_i2l dL_pass_6 ?_
    refine tb_nml (fun v30 ev30 => ?_)
    obtain ⟨e31, f32, n_33, s_34, rfl⟩ := s1.1 o 12 k29 (by decide)
    refine tb_putN rfl in_10 tyX6 tyX6_ok nmX6 0 dL_pass_7 w_380 rfl (by decide) f32 rfl rfl rfl rfl (Nat.le_of_ble_eq_true rfl) [.long v30, va_rf s_34] rfl ?_
    obtain ⟨h35, eh35⟩ : ∃ z : tw_H, z = tw_up h1 o (.inr (10, [.long v30, va_rf s_34])) := ⟨_, rfl⟩
    rw [← eh35]
    have sp36 : tw_sp d τ h (tw_dsC g (tw_DN dy)) τ1 h35 := by rw [eh35]; exact s1.set k29 (by decide) ⟨v30, s_34, rfl⟩
    have f37 : h35 o = some (.inr (10, [.long v30, va_rf s_34])) := by rw [eh35]; exact tw_up_s
    refine tb_goto 19 dL_pass_10 (by decide) ?_
    refine tb_iconst (v := 0) dL_pass_19 (by decide) ?_
    exact tb_iret dL_pass_20 rfl (Or.inl ⟨_, rfl, Or.inl ⟨rfl, cR, cL, by rw [f37]; show v30 = _; rw [ev30, q1], _, sp36⟩⟩)
  · skip
    obtain ⟨hE, hq⟩ := q
    rcases hE with ⟨rfl, hn⟩ | ⟨rfl, cR, hn⟩
    · skip
      refine ⟨[], (0, 10, 13, 19), [(0, 10, 16, 21)], _, rfl, (fun z hz => by simp at hz), by decide, by decide, w_390, ng_cIAE, ?_⟩
      show tw_WH d mL_pass hhL_pass _ 13 [(0, .ref x), (1, .int dy), (2, .ref o)] [.ref z] h1 0 0
      obtain ⟨τ1, s1⟩ := hq
      refine tb_astore_n [(3, .ref z), (0, .ref x), (1, .int dy), (2, .ref o)] dL_pass_13 rfl (by decide) rfl ?_
      refine tb_iconst (v := 1) dL_pass_14 (by decide) ?_
      exact tb_iret dL_pass_15 rfl (Or.inl ⟨_, rfl, Or.inr (Or.inl ⟨rfl, hn, _, s1⟩)⟩)
    · skip
      refine ⟨[(0, 10, 13, 19)], (0, 10, 16, 21), [], _, rfl, (fun z hz => by rcases List.mem_singleton.mp hz with rfl; exact ⟨by decide, _, w_390, Or.inr (Or.inr ⟨rfl, rfl⟩)⟩), by decide, by decide, w_391, ng_cISE, ?_⟩
      show tw_WH d mL_pass hhL_pass _ 16 [(0, .ref x), (1, .int dy), (2, .ref o)] [.ref z] h1 0 0
      obtain ⟨τ1, s1⟩ := hq
      refine tb_astore_n [(3, .ref z), (0, .ref x), (1, .int dy), (2, .ref o)] dL_pass_16 rfl (by decide) rfl ?_
      refine tb_iconst (v := 2) dL_pass_17 (by decide) ?_
      exact tb_iret dL_pass_18 rfl (Or.inl ⟨_, rfl, Or.inr (Or.inr (⟨rfl, cR, hn, _, s1⟩))⟩)

abbrev hhL_owe : tw_HH := [(0, 15, 18, 27), (0, 15, 22, 19), (0, 15, 26, 21)]
abbrev mL_owe : tw_M := (yL_owe, cL_owe, 7, (some .int), 8, 139)
theorem okL_owe : tw_okH mL_owe hhL_owe 6 := ⟨⟨by decide +kernel, by decide +kernel, by decide +kernel⟩, w_709, w_76, w_708⟩
set_option maxHeartbeats 4000000 in
set_option maxRecDepth 100000 in
theorem c_L_owe (d : tw_D) (g : tw_G) (τ : tw_K) (h : tw_H) (hw : tw_wt d g τ h) (x : Nat) (kx : τ x = 11) (a : Int32) (b : Int32) (v : Int32) (dy : Int32) (o : Nat) (ko : τ o = 12) (he6 : g.2 8 = g.2 2) (he24 : g.2 132 = 1152 + 8 * g.2 8) : tw_CtH d mL_owe hhL_owe 20 120 [.ref x, .int a, .int b, .int v, .int dy, .ref o] h (tw_qi (fun r9 h1 => (r9 = 0 ∧ (tw_ix (g.2 7) a ∧ tw_ix (g.2 7) b) ∧ tw_RO a b v dy ∧ g.2 2 < 10 ∧ tw_lg (h1 o) = (nI (g.2 2)).toInt64 ∧ ∃ y9 τ1, tw_sp d τ h (tw_gI (tw_gD g (1152 + 8 * g.2 8) y9 v (nI (g.2 21) + dy) a b) 8 2) τ1 h1) ∨ (r9 = 1 ∧ ¬ (tw_ix (g.2 7) a ∧ tw_ix (g.2 7) b) ∧ ∃ τ1, tw_sp d τ h g τ1 h1) ∨ (r9 = 2 ∧ (tw_ix (g.2 7) a ∧ tw_ix (g.2 7) b) ∧ ¬ tw_RO a b v dy ∧ ∃ τ1, tw_sp d τ h g τ1 h1) ∨ (r9 = 3 ∧ (tw_ix (g.2 7) a ∧ tw_ix (g.2 7) b) ∧ tw_RO a b v dy ∧ ¬ g.2 2 < 10 ∧ ∃ τ1, tw_sp d τ h g τ1 h1)) tw_nx) := by
  refine tw_ofH (by decide +kernel) (Nat.le_of_ble_eq_true rfl) ?_
  show tw_WH d mL_owe hhL_owe _ 0 [(0, .ref x), (1, .int a), (2, .int b), (3, .int v), (4, .int dy), (5, .ref o)] [] h 20 120
  have sp0 := tw_sp.rf hw
  refine tb_aload 5 dL_owe_0 rfl ?_
  refine tb_aload_n 0 dL_owe_2 rfl rfl ?_
  refine tb_iload_n 1 dL_owe_3 rfl rfl ?_
  refine tb_iload_n 2 dL_owe_4 rfl rfl ?_
  refine tb_iload_n 3 dL_owe_5 rfl rfl ?_
  refine tb_iload 4 dL_owe_6 rfl ?_
  obtain ⟨e1, f2, td_3, ca_4, ha_5, da_6, c1_7, c2_8, c3_9, c4_10, rfl, k11, k12, k13, k14, k15, k16, k17, k18, k19, k20, k21, k22, k23, k24, k25, k26, k27⟩ := sp0.1 x 11 kx (by decide)
  refine tb_bi (tb_callV (M := mL_owe) (hh := hhL_owe) (pc := 8) okX5_owe dL_owe_8 w_710 rfl f2 [.int a, .int b, .int v, .int dy] [.ref o] rfl rfl ⟨by decide, by decide⟩ (Nat.le_of_ble_eq_true rfl) (c2_X5_owe d g τ h sp0.1 x kx a b v dy he6 he24) 0 0 (Nat.le_of_ble_eq_true rfl) (Nat.le_of_ble_eq_true rfl)) (fun rr h1 q => ?_) (fun E h1 z q => ?_)
  · skip
    obtain ⟨q1, cI, cR, cL, y9, τ1, s1⟩ := q
    have k28 : τ1 x = 11 := s1.2.1.k kx (by decide)
    have k29 : τ1 o = 12 := s1.2.1.k ko (by decide)
    refine tb_i2l dL_owe_11 ?_
    refine tb_nml (fun v30 ev30 => ?_)
    obtain ⟨e31, f32, n_33, s_34, rfl⟩ := s1.1 o 12 k29 (by decide)
    refine tb_putN rfl in_10 tyX6 tyX6_ok nmX6 0 dL_owe_12 w_380 rfl (by decide) f32 rfl rfl rfl rfl (Nat.le_of_ble_eq_true rfl) [.long v30, va_rf s_34] rfl ?_
    obtain ⟨h35, eh35⟩ : ∃ z : tw_H, z = tw_up h1 o (.inr (10, [.long v30, va_rf s_34])) := ⟨_, rfl⟩
    rw [← eh35]
    have sp36 : tw_sp d τ h (tw_gI (tw_gD g (1152 + 8 * g.2 8) y9 v (nI (g.2 21) + dy) a b) 8 2) τ1 h35 := by rw [eh35]; exact s1.set k29 (by decide) ⟨v30, s_34, rfl⟩
    have f37 : h35 o = some (.inr (10, [.long v30, va_rf s_34])) := by rw [eh35]; exact tw_up_s
    refine tb_goto 30 dL_owe_15 (by decide) ?_
    refine tb_iconst (v := 0) dL_owe_30 (by decide) ?_
    exact tb_iret dL_owe_31 rfl (Or.inl ⟨_, rfl, Or.inl ⟨rfl, cI, cR, cL, by rw [f37]; show v30 = _; rw [ev30, q1], y9, _, sp36⟩⟩)
  · skip
    obtain ⟨hE, hq⟩ := q
    rcases hE with ⟨rfl, hn⟩ | ⟨rfl, cI, hn⟩ | ⟨rfl, cI, cR, hn⟩
    · skip
      refine ⟨[], (0, 15, 18, 27), [(0, 15, 22, 19), (0, 15, 26, 21)], _, rfl, (fun z hz => by simp at hz), by decide, by decide, w_541, ng_cIOE, ?_⟩
      show tw_WH d mL_owe hhL_owe _ 18 [(0, .ref x), (1, .int a), (2, .int b), (3, .int v), (4, .int dy), (5, .ref o)] [.ref z] h1 0 0
      obtain ⟨τ1, s1⟩ := hq
      refine tb_astore [(6, .ref z), (0, .ref x), (1, .int a), (2, .int b), (3, .int v), (4, .int dy), (5, .ref o)] dL_owe_18 (by decide) rfl ?_
      refine tb_iconst (v := 1) dL_owe_20 (by decide) ?_
      exact tb_iret dL_owe_21 rfl (Or.inl ⟨_, rfl, Or.inr (Or.inl ⟨rfl, hn, _, s1⟩)⟩)
    · skip
      refine ⟨[(0, 15, 18, 27)], (0, 15, 22, 19), [(0, 15, 26, 21)], _, rfl, (fun z hz => by rcases List.mem_singleton.mp hz with rfl; exact ⟨by decide, _, w_541, Or.inl ⟨rfl, rfl⟩⟩), by decide, by decide, w_390, ng_cIAE, ?_⟩
      show tw_WH d mL_owe hhL_owe _ 22 [(0, .ref x), (1, .int a), (2, .int b), (3, .int v), (4, .int dy), (5, .ref o)] [.ref z] h1 0 0
      obtain ⟨τ1, s1⟩ := hq
      refine tb_astore [(6, .ref z), (0, .ref x), (1, .int a), (2, .int b), (3, .int v), (4, .int dy), (5, .ref o)] dL_owe_22 (by decide) rfl ?_
      refine tb_iconst (v := 2) dL_owe_24 (by decide) ?_
      exact tb_iret dL_owe_25 rfl (Or.inl ⟨_, rfl, Or.inr (Or.inr (Or.inl ⟨rfl, cI, hn, _, s1⟩))⟩)
    · skip
      refine ⟨[(0, 15, 18, 27), (0, 15, 22, 19)], (0, 15, 26, 21), [], _, rfl, (fun z hz => by rcases List.mem_cons.mp hz with rfl | hz; exact ⟨by decide, _, w_541, Or.inr (Or.inl ⟨rfl, rfl⟩)⟩; rcases List.mem_singleton.mp hz with rfl; exact ⟨by decide, _, w_390, Or.inr (Or.inr ⟨rfl, rfl⟩)⟩), by decide, by decide, w_391, ng_cISE, ?_⟩
      show tw_WH d mL_owe hhL_owe _ 26 [(0, .ref x), (1, .int a), (2, .int b), (3, .int v), (4, .int dy), (5, .ref o)] [.ref z] h1 0 0
      obtain ⟨τ1, s1⟩ := hq
      refine tb_astore [(6, .ref z), (0, .ref x), (1, .int a), (2, .int b), (3, .int v), (4, .int dy), (5, .ref o)] dL_owe_26 (by decide) rfl ?_
      refine tb_iconst (v := 3) dL_owe_28 (by decide) ?_
      exact tb_iret dL_owe_29 rfl (Or.inl ⟨_, rfl, Or.inr (Or.inr (Or.inr (⟨rfl, cI, cR, hn, _, s1⟩)))⟩)

abbrev hhL_settle : tw_HH := [(0, 11, 14, 27), (0, 11, 18, 19), (0, 11, 22, 21)]
abbrev mL_settle : tw_M := (yL_settle, cL_settle, 5, (some .int), 8, 137)
theorem okL_settle : tw_okH mL_settle hhL_settle 4 := ⟨⟨by decide +kernel, by decide +kernel, by decide +kernel⟩, w_742, w_76, w_741⟩
set_option maxHeartbeats 4000000 in
set_option maxRecDepth 100000 in
theorem c_L_settle (d : tw_D) (g : tw_G) (τ : tw_K) (h : tw_H) (hw : tw_wt d g τ h) (x : Nat) (kx : τ x = 11) (a : Int32) (m : Int32) (o : Nat) (ko : τ o = 12) (he6 : tw_CH g) : tw_CtH d mL_settle hhL_settle 20 120 [.ref x, .int a, .int m, .ref o] h (tw_qi (fun r9 h1 => (r9 = 0 ∧ tw_ix (g.2 8) a ∧ tw_RM m ∧ tw_LT g (tw_DN a) (tw_DN m) ∧ tw_lg (h1 o) = (nI (tw_sg g (tw_DN a) (tw_DN m))).toInt64 ∧ ∃ τ1, tw_sp d τ h (tw_g1 (tw_ad (tw_ad g (768 + 32 * tw_dF g (tw_DN a) + 8 + tw_DN m) (-nI (tw_sg g (tw_DN a) (tw_DN m)))) (768 + 32 * tw_dT g (tw_DN a) + 8 + tw_DN m) (nI (tw_sg g (tw_DN a) (tw_DN m)))) (1152 + 8 * tw_DN a + 2) 1) τ1 h1) ∨ (r9 = 1 ∧ ¬ tw_ix (g.2 8) a ∧ ∃ τ1, tw_sp d τ h g τ1 h1) ∨ (r9 = 2 ∧ tw_ix (g.2 8) a ∧ ¬ tw_RM m ∧ ∃ τ1, tw_sp d τ h g τ1 h1) ∨ (r9 = 3 ∧ tw_ix (g.2 8) a ∧ tw_RM m ∧ ¬ tw_LT g (tw_DN a) (tw_DN m) ∧ ∃ τ1, tw_sp d τ h g τ1 h1)) tw_nx) := by
  refine tw_ofH (by decide +kernel) (Nat.le_of_ble_eq_true rfl) ?_
  show tw_WH d mL_settle hhL_settle _ 0 [(0, .ref x), (1, .int a), (2, .int m), (3, .ref o)] [] h 20 120
  have sp0 := tw_sp.rf hw
  refine tb_aload_n 3 dL_settle_0 rfl rfl ?_
  refine tb_aload_n 0 dL_settle_1 rfl rfl ?_
  refine tb_iload_n 1 dL_settle_2 rfl rfl ?_
  refine tb_iload_n 2 dL_settle_3 rfl rfl ?_
  obtain ⟨e1, f2, td_3, ca_4, ha_5, da_6, c1_7, c2_8, c3_9, c4_10, rfl, k11, k12, k13, k14, k15, k16, k17, k18, k19, k20, k21, k22, k23, k24, k25, k26, k27⟩ := sp0.1 x 11 kx (by decide)
  refine tb_bi (tb_callV (M := mL_settle) (hh := hhL_settle) (pc := 4) okX5_settle dL_settle_4 w_743 rfl f2 [.int a, .int m] [.ref o] rfl rfl ⟨by decide, by decide⟩ (Nat.le_of_ble_eq_true rfl) (c2_X5_settle d g τ h sp0.1 x kx a m he6) 0 0 (Nat.le_of_ble_eq_true rfl) (Nat.le_of_ble_eq_true rfl)) (fun rr h1 q => ?_) (fun E h1 z q => ?_)
  · skip
    obtain ⟨q1, cI, cR, cL, τ1, s1⟩ := q
    have k28 : τ1 x = 11 := s1.2.1.k kx (by decide)
    have k29 : τ1 o = 12 := s1.2.1.k ko (by decide)
    refine tb_i2l dL_settle_7 ?_
    refine tb_nml (fun v30 ev30 => ?_)
    obtain ⟨e31, f32, n_33, s_34, rfl⟩ := s1.1 o 12 k29 (by decide)
    refine tb_putN rfl in_10 tyX6 tyX6_ok nmX6 0 dL_settle_8 w_380 rfl (by decide) f32 rfl rfl rfl rfl (Nat.le_of_ble_eq_true rfl) [.long v30, va_rf s_34] rfl ?_
    obtain ⟨h35, eh35⟩ : ∃ z : tw_H, z = tw_up h1 o (.inr (10, [.long v30, va_rf s_34])) := ⟨_, rfl⟩
    rw [← eh35]
    have sp36 : tw_sp d τ h (tw_g1 (tw_ad (tw_ad g (768 + 32 * tw_dF g (tw_DN a) + 8 + tw_DN m) (-nI (tw_sg g (tw_DN a) (tw_DN m)))) (768 + 32 * tw_dT g (tw_DN a) + 8 + tw_DN m) (nI (tw_sg g (tw_DN a) (tw_DN m)))) (1152 + 8 * tw_DN a + 2) 1) τ1 h35 := by rw [eh35]; exact s1.set k29 (by decide) ⟨v30, s_34, rfl⟩
    have f37 : h35 o = some (.inr (10, [.long v30, va_rf s_34])) := by rw [eh35]; exact tw_up_s
    refine tb_goto 26 dL_settle_11 (by decide) ?_
    refine tb_iconst (v := 0) dL_settle_26 (by decide) ?_
    exact tb_iret dL_settle_27 rfl (Or.inl ⟨_, rfl, Or.inl ⟨rfl, cI, cR, cL, by rw [f37]; show v30 = _; rw [ev30, q1], _, sp36⟩⟩)
  · skip
    obtain ⟨hE, hq⟩ := q
    rcases hE with ⟨rfl, hn⟩ | ⟨rfl, cI, hn⟩ | ⟨rfl, cI, cR, hn⟩
    · skip
      refine ⟨[], (0, 11, 14, 27), [(0, 11, 18, 19), (0, 11, 22, 21)], _, rfl, (fun z hz => by simp at hz), by decide, by decide, w_541, ng_cIOE, ?_⟩
      show tw_WH d mL_settle hhL_settle _ 14 [(0, .ref x), (1, .int a), (2, .int m), (3, .ref o)] [.ref z] h1 0 0
      obtain ⟨τ1, s1⟩ := hq
      refine tb_astore [(4, .ref z), (0, .ref x), (1, .int a), (2, .int m), (3, .ref o)] dL_settle_14 (by decide) rfl ?_
      refine tb_iconst (v := 1) dL_settle_16 (by decide) ?_
      exact tb_iret dL_settle_17 rfl (Or.inl ⟨_, rfl, Or.inr (Or.inl ⟨rfl, hn, _, s1⟩)⟩)
    · skip
      refine ⟨[(0, 11, 14, 27)], (0, 11, 18, 19), [(0, 11, 22, 21)], _, rfl, (fun z hz => by rcases List.mem_singleton.mp hz with rfl; exact ⟨by decide, _, w_541, Or.inl ⟨rfl, rfl⟩⟩), by decide, by decide, w_390, ng_cIAE, ?_⟩
      show tw_WH d mL_settle hhL_settle _ 18 [(0, .ref x), (1, .int a), (2, .int m), (3, .ref o)] [.ref z] h1 0 0
      obtain ⟨τ1, s1⟩ := hq
      refine tb_astore [(4, .ref z), (0, .ref x), (1, .int a), (2, .int m), (3, .ref o)] dL_settle_18 (by decide) rfl ?_
      refine tb_iconst (v := 2) dL_settle_20 (by decide) ?_
      exact tb_iret dL_settle_21 rfl (Or.inl ⟨_, rfl, Or.inr (Or.inr (Or.inl ⟨rfl, cI, hn, _, s1⟩))⟩)
    · skip
      refine ⟨[(0, 11, 14, 27), (0, 11, 18, 19)], (0, 11, 22, 21), [], _, rfl, (fun z hz => by rcases List.mem_cons.mp hz with rfl | hz; exact ⟨by decide, _, w_541, Or.inr (Or.inl ⟨rfl, rfl⟩)⟩; rcases List.mem_singleton.mp hz with rfl; exact ⟨by decide, _, w_390, Or.inr (Or.inr ⟨rfl, rfl⟩)⟩), by decide, by decide, w_391, ng_cISE, ?_⟩
      show tw_WH d mL_settle hhL_settle _ 22 [(0, .ref x), (1, .int a), (2, .int m), (3, .ref o)] [.ref z] h1 0 0
      obtain ⟨τ1, s1⟩ := hq
      refine tb_astore [(4, .ref z), (0, .ref x), (1, .int a), (2, .int m), (3, .ref o)] dL_settle_22 (by decide) rfl ?_
      refine tb_iconst (v := 3) dL_settle_24 (by decide) ?_
      exact tb_iret dL_settle_25 rfl (Or.inl ⟨_, rfl, Or.inr (Or.inr (Or.inr (⟨rfl, cI, cR, hn, _, s1⟩)))⟩)

abbrev hhL_till : tw_HH := [(0, 13, 16, 27), (0, 13, 20, 19)]
abbrev mL_till : tw_M := (yL_till, cL_till, 6, (some .int), 8, 137)
theorem okL_till : tw_okH mL_till hhL_till 5 := ⟨⟨by decide +kernel, by decide +kernel, by decide +kernel⟩, w_756, w_76, w_755⟩
set_option maxHeartbeats 4000000 in
set_option maxRecDepth 100000 in
theorem c_L_till (d : tw_D) (g : tw_G) (τ : tw_K) (h : tw_H) (hw : tw_wt d g τ h) (x : Nat) (kx : τ x = 11) (n : Int32) (kd : Int32) (my : Int32) (o : Nat) (ko : τ o = 12) : tw_CtH d mL_till hhL_till 20 120 [.ref x, .int n, .int kd, .int my, .ref o] h (tw_qi (fun r9 h1 => (r9 = 0 ∧ (tw_ix (g.2 6) n ∧ tw_ix 5 kd) ∧ tw_R9 my ∧ tw_lg (h1 o) = (g.1 (160 + 64 * tw_DN n + 32 + tw_DN kd)).toInt64 ∧ ∃ τ1, tw_sp d τ h (tw_g1 g (160 + 64 * tw_DN n + 32 + tw_DN kd) my) τ1 h1) ∨ (r9 = 1 ∧ ¬ (tw_ix (g.2 6) n ∧ tw_ix 5 kd) ∧ ∃ τ1, tw_sp d τ h g τ1 h1) ∨ (r9 = 2 ∧ (tw_ix (g.2 6) n ∧ tw_ix 5 kd) ∧ ¬ tw_R9 my ∧ ∃ τ1, tw_sp d τ h g τ1 h1)) tw_nx) := by
  refine tw_ofH (by decide +kernel) (Nat.le_of_ble_eq_true rfl) ?_
  show tw_WH d mL_till hhL_till _ 0 [(0, .ref x), (1, .int n), (2, .int kd), (3, .int my), (4, .ref o)] [] h 20 120
  have sp0 := tw_sp.rf hw
  refine tb_aload 4 dL_till_0 rfl ?_
  refine tb_aload_n 0 dL_till_2 rfl rfl ?_
  refine tb_iload_n 1 dL_till_3 rfl rfl ?_
  refine tb_iload_n 2 dL_till_4 rfl rfl ?_
  refine tb_iload_n 3 dL_till_5 rfl rfl ?_
  obtain ⟨e1, f2, td_3, ca_4, ha_5, da_6, c1_7, c2_8, c3_9, c4_10, rfl, k11, k12, k13, k14, k15, k16, k17, k18, k19, k20, k21, k22, k23, k24, k25, k26, k27⟩ := sp0.1 x 11 kx (by decide)
  refine tb_bi (tb_callV (M := mL_till) (hh := hhL_till) (pc := 6) okX5_till dL_till_6 w_757 rfl f2 [.int n, .int kd, .int my] [.ref o] rfl rfl ⟨by decide, by decide⟩ (Nat.le_of_ble_eq_true rfl) (c2_X5_till d g τ h sp0.1 x kx n kd my) 0 0 (Nat.le_of_ble_eq_true rfl) (Nat.le_of_ble_eq_true rfl)) (fun rr h1 q => ?_) (fun E h1 z q => ?_)
  · skip
    obtain ⟨q1, cI, cR, τ1, s1⟩ := q
    have k28 : τ1 x = 11 := s1.2.1.k kx (by decide)
    have k29 : τ1 o = 12 := s1.2.1.k ko (by decide)
    refine tb_i2l dL_till_9 ?_
    refine tb_nml (fun v30 ev30 => ?_)
    obtain ⟨e31, f32, n_33, s_34, rfl⟩ := s1.1 o 12 k29 (by decide)
    refine tb_putN rfl in_10 tyX6 tyX6_ok nmX6 0 dL_till_10 w_380 rfl (by decide) f32 rfl rfl rfl rfl (Nat.le_of_ble_eq_true rfl) [.long v30, va_rf s_34] rfl ?_
    obtain ⟨h35, eh35⟩ : ∃ z : tw_H, z = tw_up h1 o (.inr (10, [.long v30, va_rf s_34])) := ⟨_, rfl⟩
    rw [← eh35]
    have sp36 : tw_sp d τ h (tw_g1 g (160 + 64 * tw_DN n + 32 + tw_DN kd) my) τ1 h35 := by rw [eh35]; exact s1.set k29 (by decide) ⟨v30, s_34, rfl⟩
    have f37 : h35 o = some (.inr (10, [.long v30, va_rf s_34])) := by rw [eh35]; exact tw_up_s
    refine tb_goto 24 dL_till_13 (by decide) ?_
    refine tb_iconst (v := 0) dL_till_24 (by decide) ?_
    exact tb_iret dL_till_25 rfl (Or.inl ⟨_, rfl, Or.inl ⟨rfl, cI, cR, by rw [f37]; show v30 = _; rw [ev30, q1], _, sp36⟩⟩)
  · skip
    obtain ⟨hE, hq⟩ := q
    rcases hE with ⟨rfl, hn⟩ | ⟨rfl, cI, hn⟩
    · skip
      refine ⟨[], (0, 13, 16, 27), [(0, 13, 20, 19)], _, rfl, (fun z hz => by simp at hz), by decide, by decide, w_541, ng_cIOE, ?_⟩
      show tw_WH d mL_till hhL_till _ 16 [(0, .ref x), (1, .int n), (2, .int kd), (3, .int my), (4, .ref o)] [.ref z] h1 0 0
      obtain ⟨τ1, s1⟩ := hq
      refine tb_astore [(5, .ref z), (0, .ref x), (1, .int n), (2, .int kd), (3, .int my), (4, .ref o)] dL_till_16 (by decide) rfl ?_
      refine tb_iconst (v := 1) dL_till_18 (by decide) ?_
      exact tb_iret dL_till_19 rfl (Or.inl ⟨_, rfl, Or.inr (Or.inl ⟨rfl, hn, _, s1⟩)⟩)
    · skip
      refine ⟨[(0, 13, 16, 27)], (0, 13, 20, 19), [], _, rfl, (fun z hz => by rcases List.mem_singleton.mp hz with rfl; exact ⟨by decide, _, w_541, Or.inl ⟨rfl, rfl⟩⟩), by decide, by decide, w_390, ng_cIAE, ?_⟩
      show tw_WH d mL_till hhL_till _ 20 [(0, .ref x), (1, .int n), (2, .int kd), (3, .int my), (4, .ref o)] [.ref z] h1 0 0
      obtain ⟨τ1, s1⟩ := hq
      refine tb_astore [(5, .ref z), (0, .ref x), (1, .int n), (2, .int kd), (3, .int my), (4, .ref o)] dL_till_20 (by decide) rfl ?_
      refine tb_iconst (v := 2) dL_till_22 (by decide) ?_
      exact tb_iret dL_till_23 rfl (Or.inl ⟨_, rfl, Or.inr (Or.inr (⟨rfl, cI, hn, _, s1⟩))⟩)

abbrev hhL_give : tw_HH := [(0, 11, 14, 27), (0, 11, 18, 19), (0, 11, 22, 21)]
abbrev mL_give : tw_M := (yL_give, cL_give, 5, (some .int), 8, 136)
theorem okL_give : tw_okH mL_give hhL_give 4 := ⟨⟨by decide +kernel, by decide +kernel, by decide +kernel⟩, w_769, w_76, w_768⟩
set_option maxHeartbeats 4000000 in
set_option maxRecDepth 100000 in
theorem c_L_give (d : tw_D) (g : tw_G) (τ : tw_K) (h : tw_H) (hw : tw_wt d g τ h) (x : Nat) (kx : τ x = 11) (n : Int32) (am : Int32) (o : Nat) (ko : τ o = 12) (he6 : tw_TC g) : tw_CtH d mL_give hhL_give 20 120 [.ref x, .int n, .int am, .ref o] h (tw_qi (fun r9 h1 => (r9 = 0 ∧ tw_ix (g.2 6) n ∧ tw_RA am ∧ tw_chC g n am ≠ none ∧ tw_lg (h1 o) = (nI (tw_sum5 (tw_gF (tw_chC g n am)))).toInt64 ∧ ∃ τ1, tw_sp d τ h (tw_gT g (160 + 64 * tw_DN n + 32) (tw_gF (tw_chC g n am))) τ1 h1) ∨ (r9 = 1 ∧ ¬ tw_ix (g.2 6) n ∧ ∃ τ1, tw_sp d τ h g τ1 h1) ∨ (r9 = 2 ∧ tw_ix (g.2 6) n ∧ ¬ tw_RA am ∧ ∃ τ1, tw_sp d τ h g τ1 h1) ∨ (r9 = 3 ∧ tw_ix (g.2 6) n ∧ tw_RA am ∧ ¬ tw_chC g n am ≠ none ∧ ∃ τ1, tw_sp d τ h g τ1 h1)) tw_nx) := by
  refine tw_ofH (by decide +kernel) (Nat.le_of_ble_eq_true rfl) ?_
  show tw_WH d mL_give hhL_give _ 0 [(0, .ref x), (1, .int n), (2, .int am), (3, .ref o)] [] h 20 120
  have sp0 := tw_sp.rf hw
  refine tb_aload_n 3 dL_give_0 rfl rfl ?_
  refine tb_aload_n 0 dL_give_1 rfl rfl ?_
  refine tb_iload_n 1 dL_give_2 rfl rfl ?_
  refine tb_iload_n 2 dL_give_3 rfl rfl ?_
  obtain ⟨e1, f2, td_3, ca_4, ha_5, da_6, c1_7, c2_8, c3_9, c4_10, rfl, k11, k12, k13, k14, k15, k16, k17, k18, k19, k20, k21, k22, k23, k24, k25, k26, k27⟩ := sp0.1 x 11 kx (by decide)
  refine tb_bi (tb_callV (M := mL_give) (hh := hhL_give) (pc := 4) okX5_give dL_give_4 w_770 rfl f2 [.int n, .int am] [.ref o] rfl rfl ⟨by decide, by decide⟩ (Nat.le_of_ble_eq_true rfl) (c2_X5_give d g τ h sp0.1 x kx n am he6) 0 0 (Nat.le_of_ble_eq_true rfl) (Nat.le_of_ble_eq_true rfl)) (fun rr h1 q => ?_) (fun E h1 z q => ?_)
  · skip
    obtain ⟨q1, cI, cR, cL, τ1, s1⟩ := q
    have k28 : τ1 x = 11 := s1.2.1.k kx (by decide)
    have k29 : τ1 o = 12 := s1.2.1.k ko (by decide)
    refine tb_i2l dL_give_7 ?_
    refine tb_nml (fun v30 ev30 => ?_)
    obtain ⟨e31, f32, n_33, s_34, rfl⟩ := s1.1 o 12 k29 (by decide)
    refine tb_putN rfl in_10 tyX6 tyX6_ok nmX6 0 dL_give_8 w_380 rfl (by decide) f32 rfl rfl rfl rfl (Nat.le_of_ble_eq_true rfl) [.long v30, va_rf s_34] rfl ?_
    obtain ⟨h35, eh35⟩ : ∃ z : tw_H, z = tw_up h1 o (.inr (10, [.long v30, va_rf s_34])) := ⟨_, rfl⟩
    rw [← eh35]
    have sp36 : tw_sp d τ h (tw_gT g (160 + 64 * tw_DN n + 32) (tw_gF (tw_chC g n am))) τ1 h35 := by rw [eh35]; exact s1.set k29 (by decide) ⟨v30, s_34, rfl⟩
    have f37 : h35 o = some (.inr (10, [.long v30, va_rf s_34])) := by rw [eh35]; exact tw_up_s
    refine tb_goto 26 dL_give_11 (by decide) ?_
    refine tb_iconst (v := 0) dL_give_26 (by decide) ?_
    exact tb_iret dL_give_27 rfl (Or.inl ⟨_, rfl, Or.inl ⟨rfl, cI, cR, cL, by rw [f37]; show v30 = _; rw [ev30, q1], _, sp36⟩⟩)
  · skip
    obtain ⟨hE, hq⟩ := q
    rcases hE with ⟨rfl, hn⟩ | ⟨rfl, cI, hn⟩ | ⟨rfl, cI, cR, hn⟩
    · skip
      refine ⟨[], (0, 11, 14, 27), [(0, 11, 18, 19), (0, 11, 22, 21)], _, rfl, (fun z hz => by simp at hz), by decide, by decide, w_541, ng_cIOE, ?_⟩
      show tw_WH d mL_give hhL_give _ 14 [(0, .ref x), (1, .int n), (2, .int am), (3, .ref o)] [.ref z] h1 0 0
      obtain ⟨τ1, s1⟩ := hq
      refine tb_astore [(4, .ref z), (0, .ref x), (1, .int n), (2, .int am), (3, .ref o)] dL_give_14 (by decide) rfl ?_
      refine tb_iconst (v := 1) dL_give_16 (by decide) ?_
      exact tb_iret dL_give_17 rfl (Or.inl ⟨_, rfl, Or.inr (Or.inl ⟨rfl, hn, _, s1⟩)⟩)
    · skip
      refine ⟨[(0, 11, 14, 27)], (0, 11, 18, 19), [(0, 11, 22, 21)], _, rfl, (fun z hz => by rcases List.mem_singleton.mp hz with rfl; exact ⟨by decide, _, w_541, Or.inl ⟨rfl, rfl⟩⟩), by decide, by decide, w_390, ng_cIAE, ?_⟩
      show tw_WH d mL_give hhL_give _ 18 [(0, .ref x), (1, .int n), (2, .int am), (3, .ref o)] [.ref z] h1 0 0
      obtain ⟨τ1, s1⟩ := hq
      refine tb_astore [(4, .ref z), (0, .ref x), (1, .int n), (2, .int am), (3, .ref o)] dL_give_18 (by decide) rfl ?_
      refine tb_iconst (v := 2) dL_give_20 (by decide) ?_
      exact tb_iret dL_give_21 rfl (Or.inl ⟨_, rfl, Or.inr (Or.inr (Or.inl ⟨rfl, cI, hn, _, s1⟩))⟩)
    · skip
      refine ⟨[(0, 11, 14, 27), (0, 11, 18, 19)], (0, 11, 22, 21), [], _, rfl, (fun z hz => by rcases List.mem_cons.mp hz with rfl | hz; exact ⟨by decide, _, w_541, Or.inr (Or.inl ⟨rfl, rfl⟩)⟩; rcases List.mem_singleton.mp hz with rfl; exact ⟨by decide, _, w_390, Or.inr (Or.inr ⟨rfl, rfl⟩)⟩), by decide, by decide, w_391, ng_cISE, ?_⟩
      show tw_WH d mL_give hhL_give _ 22 [(0, .ref x), (1, .int n), (2, .int am), (3, .ref o)] [.ref z] h1 0 0
      obtain ⟨τ1, s1⟩ := hq
      refine tb_astore [(4, .ref z), (0, .ref x), (1, .int n), (2, .int am), (3, .ref o)] dL_give_22 (by decide) rfl ?_
      refine tb_iconst (v := 3) dL_give_24 (by decide) ?_
      exact tb_iret dL_give_25 rfl (Or.inl ⟨_, rfl, Or.inr (Or.inr (Or.inr (⟨rfl, cI, cR, hn, _, s1⟩)))⟩)

abbrev hhL_coins : tw_HH := [(0, 11, 14, 27), (0, 11, 18, 19)]
abbrev mL_coins : tw_M := (yL_coins, cL_coins, 5, (some .int), 8, 135)
theorem okL_coins : tw_okH mL_coins hhL_coins 4 := ⟨⟨by decide +kernel, by decide +kernel, by decide +kernel⟩, w_782, w_76, w_781⟩
set_option maxHeartbeats 4000000 in
set_option maxRecDepth 100000 in
theorem c_L_coins (d : tw_D) (g : tw_G) (τ : tw_K) (h : tw_H) (hw : tw_wt d g τ h) (x : Nat) (kx : τ x = 11) (n : Int32) (am : Int32) (o : Nat) (ko : τ o = 12) : tw_CtH d mL_coins hhL_coins 20 120 [.ref x, .int n, .int am, .ref o] h (tw_qi (fun r h1 => ∃ g1 τ1, g1 = g ∧ tw_sp d τ h g1 τ1 h1) tw_nx) := by
  refine tw_ofH (by decide +kernel) (Nat.le_of_ble_eq_true rfl) ?_
  show tw_WH d mL_coins hhL_coins _ 0 [(0, .ref x), (1, .int n), (2, .int am), (3, .ref o)] [] h 20 120
  have sp0 := tw_sp.rf hw
  refine tb_aload_n 3 dL_coins_0 rfl rfl ?_
  refine tb_aload_n 0 dL_coins_1 rfl rfl ?_
  refine tb_iload_n 1 dL_coins_2 rfl rfl ?_
  refine tb_iload_n 2 dL_coins_3 rfl rfl ?_
  obtain ⟨e1, f2, td_3, ca_4, ha_5, da_6, c1_7, c2_8, c3_9, c4_10, rfl, k11, k12, k13, k14, k15, k16, k17, k18, k19, k20, k21, k22, k23, k24, k25, k26, k27⟩ := sp0.1 x 11 kx (by decide)
  refine tb_bi (tb_callV (M := mL_coins) (hh := hhL_coins) (pc := 4) okX5_coins dL_coins_4 w_783 rfl f2 [.int n, .int am] [.ref o] rfl rfl ⟨by decide, by decide⟩ (Nat.le_of_ble_eq_true rfl) (c_X5_coins d g τ h sp0.1 x kx n am) 0 0 (Nat.le_of_ble_eq_true rfl) (Nat.le_of_ble_eq_true rfl)) (fun rr h1 q => ?_) (fun E h1 z q => ?_)
  · skip
    rw [q]
    refine tb_i2l dL_coins_7 ?_
    refine tb_nml (fun v28 ev28 => ?_)
    obtain ⟨e29, f30, n_31, s_32, rfl⟩ := sp0.1 o 12 ko (by decide)
    refine tb_putN rfl in_10 tyX6 tyX6_ok nmX6 0 dL_coins_8 w_380 rfl (by decide) f30 rfl rfl rfl rfl (Nat.le_of_ble_eq_true rfl) [.long v28, va_rf s_32] rfl ?_
    obtain ⟨h33, eh33⟩ : ∃ z : tw_H, z = tw_up h o (.inr (10, [.long v28, va_rf s_32])) := ⟨_, rfl⟩
    rw [← eh33]
    have sp34 : tw_sp d τ h g τ h33 := by rw [eh33]; exact sp0.set ko (by decide) ⟨v28, s_32, rfl⟩
    have f35 : h33 o = some (.inr (10, [.long v28, va_rf s_32])) := by rw [eh33]; exact tw_up_s
    refine tb_goto 22 dL_coins_11 (by decide) ?_
    refine tb_iconst (v := 0) dL_coins_22 (by decide) ?_
    exact tb_iret dL_coins_23 rfl (Or.inl ⟨_, rfl, _, _, rfl, sp34⟩)
  · skip
    obtain ⟨hE, hq⟩ := q
    rcases hE with rfl | rfl
    · skip
      refine ⟨[], (0, 11, 14, 27), [(0, 11, 18, 19)], _, rfl, (fun z hz => by simp at hz), by decide, by decide, w_541, ng_cIOE, ?_⟩
      show tw_WH d mL_coins hhL_coins _ 14 [(0, .ref x), (1, .int n), (2, .int am), (3, .ref o)] [.ref z] h1 0 0
      rw [hq]
      refine tb_astore [(4, .ref z), (0, .ref x), (1, .int n), (2, .int am), (3, .ref o)] dL_coins_14 (by decide) rfl ?_
      refine tb_iconst (v := 1) dL_coins_16 (by decide) ?_
      exact tb_iret dL_coins_17 rfl (Or.inl ⟨_, rfl, _, _, rfl, sp0⟩)
    · skip
      refine ⟨[(0, 11, 14, 27)], (0, 11, 18, 19), [], _, rfl, (fun z hz => by rcases List.mem_singleton.mp hz with rfl; exact ⟨by decide, _, w_541, Or.inl ⟨rfl, rfl⟩⟩), by decide, by decide, w_390, ng_cIAE, ?_⟩
      show tw_WH d mL_coins hhL_coins _ 18 [(0, .ref x), (1, .int n), (2, .int am), (3, .ref o)] [.ref z] h1 0 0
      rw [hq]
      refine tb_astore [(4, .ref z), (0, .ref x), (1, .int n), (2, .int am), (3, .ref o)] dL_coins_18 (by decide) rfl ?_
      refine tb_iconst (v := 2) dL_coins_20 (by decide) ?_
      exact tb_iret dL_coins_21 rfl (Or.inl ⟨_, rfl, _, _, rfl, sp0⟩)

abbrev hhL_ofCountry : tw_HH := [(0, 11, 14, 27), (0, 11, 18, 19)]
abbrev mL_ofCountry : tw_M := (yL_ofCountry, cL_ofCountry, 5, (some .int), 8, 135)
theorem okL_ofCountry : tw_okH mL_ofCountry hhL_ofCountry 4 := ⟨⟨by decide +kernel, by decide +kernel, by decide +kernel⟩, w_789, w_76, w_788⟩
set_option maxHeartbeats 4000000 in
set_option maxRecDepth 100000 in
theorem c_L_ofCountry (d : tw_D) (g : tw_G) (τ : tw_K) (h : tw_H) (hw : tw_wt d g τ h) (x : Nat) (kx : τ x = 11) (n : Int32) (w : Int32) (o : Nat) (ko : τ o = 12) : tw_CtH d mL_ofCountry hhL_ofCountry 20 120 [.ref x, .int n, .int w, .ref o] h (tw_qi (fun r h1 => ∃ g1 τ1, g1 = g ∧ tw_sp d τ h g1 τ1 h1) tw_nx) := by
  refine tw_ofH (by decide +kernel) (Nat.le_of_ble_eq_true rfl) ?_
  show tw_WH d mL_ofCountry hhL_ofCountry _ 0 [(0, .ref x), (1, .int n), (2, .int w), (3, .ref o)] [] h 20 120
  have sp0 := tw_sp.rf hw
  refine tb_aload_n 3 dL_ofCountry_0 rfl rfl ?_
  refine tb_aload_n 0 dL_ofCountry_1 rfl rfl ?_
  refine tb_iload_n 1 dL_ofCountry_2 rfl rfl ?_
  refine tb_iload_n 2 dL_ofCountry_3 rfl rfl ?_
  obtain ⟨e1, f2, td_3, ca_4, ha_5, da_6, c1_7, c2_8, c3_9, c4_10, rfl, k11, k12, k13, k14, k15, k16, k17, k18, k19, k20, k21, k22, k23, k24, k25, k26, k27⟩ := sp0.1 x 11 kx (by decide)
  refine tb_bi (tb_callV (M := mL_ofCountry) (hh := hhL_ofCountry) (pc := 4) okX5_ofCountry dL_ofCountry_4 w_790 rfl f2 [.int n, .int w] [.ref o] rfl rfl ⟨by decide, by decide⟩ (Nat.le_of_ble_eq_true rfl) (c_X5_ofCountry d g τ h sp0.1 x kx n w) 0 0 (Nat.le_of_ble_eq_true rfl) (Nat.le_of_ble_eq_true rfl)) (fun rr h1 q => ?_) (fun E h1 z q => ?_)
  · skip
    rw [q]
    refine tb_i2l dL_ofCountry_7 ?_
    refine tb_nml (fun v28 ev28 => ?_)
    obtain ⟨e29, f30, n_31, s_32, rfl⟩ := sp0.1 o 12 ko (by decide)
    refine tb_putN rfl in_10 tyX6 tyX6_ok nmX6 0 dL_ofCountry_8 w_380 rfl (by decide) f30 rfl rfl rfl rfl (Nat.le_of_ble_eq_true rfl) [.long v28, va_rf s_32] rfl ?_
    obtain ⟨h33, eh33⟩ : ∃ z : tw_H, z = tw_up h o (.inr (10, [.long v28, va_rf s_32])) := ⟨_, rfl⟩
    rw [← eh33]
    have sp34 : tw_sp d τ h g τ h33 := by rw [eh33]; exact sp0.set ko (by decide) ⟨v28, s_32, rfl⟩
    have f35 : h33 o = some (.inr (10, [.long v28, va_rf s_32])) := by rw [eh33]; exact tw_up_s
    refine tb_goto 22 dL_ofCountry_11 (by decide) ?_
    refine tb_iconst (v := 0) dL_ofCountry_22 (by decide) ?_
    exact tb_iret dL_ofCountry_23 rfl (Or.inl ⟨_, rfl, _, _, rfl, sp34⟩)
  · skip
    obtain ⟨hE, hq⟩ := q
    rcases hE with rfl | rfl
    · skip
      refine ⟨[], (0, 11, 14, 27), [(0, 11, 18, 19)], _, rfl, (fun z hz => by simp at hz), by decide, by decide, w_541, ng_cIOE, ?_⟩
      show tw_WH d mL_ofCountry hhL_ofCountry _ 14 [(0, .ref x), (1, .int n), (2, .int w), (3, .ref o)] [.ref z] h1 0 0
      rw [hq]
      refine tb_astore [(4, .ref z), (0, .ref x), (1, .int n), (2, .int w), (3, .ref o)] dL_ofCountry_14 (by decide) rfl ?_
      refine tb_iconst (v := 1) dL_ofCountry_16 (by decide) ?_
      exact tb_iret dL_ofCountry_17 rfl (Or.inl ⟨_, rfl, _, _, rfl, sp0⟩)
    · skip
      refine ⟨[(0, 11, 14, 27)], (0, 11, 18, 19), [], _, rfl, (fun z hz => by rcases List.mem_singleton.mp hz with rfl; exact ⟨by decide, _, w_541, Or.inl ⟨rfl, rfl⟩⟩), by decide, by decide, w_390, ng_cIAE, ?_⟩
      show tw_WH d mL_ofCountry hhL_ofCountry _ 18 [(0, .ref x), (1, .int n), (2, .int w), (3, .ref o)] [.ref z] h1 0 0
      rw [hq]
      refine tb_astore [(4, .ref z), (0, .ref x), (1, .int n), (2, .int w), (3, .ref o)] dL_ofCountry_18 (by decide) rfl ?_
      refine tb_iconst (v := 2) dL_ofCountry_20 (by decide) ?_
      exact tb_iret dL_ofCountry_21 rfl (Or.inl ⟨_, rfl, _, _, rfl, sp0⟩)

abbrev hhL_ofHouse : tw_HH := [(0, 11, 14, 27), (0, 11, 18, 19)]
abbrev mL_ofHouse : tw_M := (yL_ofHouse, cL_ofHouse, 5, (some .int), 8, 135)
theorem okL_ofHouse : tw_okH mL_ofHouse hhL_ofHouse 4 := ⟨⟨by decide +kernel, by decide +kernel, by decide +kernel⟩, w_796, w_76, w_795⟩
set_option maxHeartbeats 4000000 in
set_option maxRecDepth 100000 in
theorem c_L_ofHouse (d : tw_D) (g : tw_G) (τ : tw_K) (h : tw_H) (hw : tw_wt d g τ h) (x : Nat) (kx : τ x = 11) (n : Int32) (w : Int32) (o : Nat) (ko : τ o = 12) : tw_CtH d mL_ofHouse hhL_ofHouse 20 120 [.ref x, .int n, .int w, .ref o] h (tw_qi (fun r h1 => ∃ g1 τ1, g1 = g ∧ tw_sp d τ h g1 τ1 h1) tw_nx) := by
  refine tw_ofH (by decide +kernel) (Nat.le_of_ble_eq_true rfl) ?_
  show tw_WH d mL_ofHouse hhL_ofHouse _ 0 [(0, .ref x), (1, .int n), (2, .int w), (3, .ref o)] [] h 20 120
  have sp0 := tw_sp.rf hw
  refine tb_aload_n 3 dL_ofHouse_0 rfl rfl ?_
  refine tb_aload_n 0 dL_ofHouse_1 rfl rfl ?_
  refine tb_iload_n 1 dL_ofHouse_2 rfl rfl ?_
  refine tb_iload_n 2 dL_ofHouse_3 rfl rfl ?_
  obtain ⟨e1, f2, td_3, ca_4, ha_5, da_6, c1_7, c2_8, c3_9, c4_10, rfl, k11, k12, k13, k14, k15, k16, k17, k18, k19, k20, k21, k22, k23, k24, k25, k26, k27⟩ := sp0.1 x 11 kx (by decide)
  refine tb_bi (tb_callV (M := mL_ofHouse) (hh := hhL_ofHouse) (pc := 4) okX5_ofHouse dL_ofHouse_4 w_797 rfl f2 [.int n, .int w] [.ref o] rfl rfl ⟨by decide, by decide⟩ (Nat.le_of_ble_eq_true rfl) (c_X5_ofHouse d g τ h sp0.1 x kx n w) 0 0 (Nat.le_of_ble_eq_true rfl) (Nat.le_of_ble_eq_true rfl)) (fun rr h1 q => ?_) (fun E h1 z q => ?_)
  · skip
    rw [q]
    refine tb_i2l dL_ofHouse_7 ?_
    refine tb_nml (fun v28 ev28 => ?_)
    obtain ⟨e29, f30, n_31, s_32, rfl⟩ := sp0.1 o 12 ko (by decide)
    refine tb_putN rfl in_10 tyX6 tyX6_ok nmX6 0 dL_ofHouse_8 w_380 rfl (by decide) f30 rfl rfl rfl rfl (Nat.le_of_ble_eq_true rfl) [.long v28, va_rf s_32] rfl ?_
    obtain ⟨h33, eh33⟩ : ∃ z : tw_H, z = tw_up h o (.inr (10, [.long v28, va_rf s_32])) := ⟨_, rfl⟩
    rw [← eh33]
    have sp34 : tw_sp d τ h g τ h33 := by rw [eh33]; exact sp0.set ko (by decide) ⟨v28, s_32, rfl⟩
    have f35 : h33 o = some (.inr (10, [.long v28, va_rf s_32])) := by rw [eh33]; exact tw_up_s
    refine tb_goto 22 dL_ofHouse_11 (by decide) ?_
    refine tb_iconst (v := 0) dL_ofHouse_22 (by decide) ?_
    exact tb_iret dL_ofHouse_23 rfl (Or.inl ⟨_, rfl, _, _, rfl, sp34⟩)
  · skip
    obtain ⟨hE, hq⟩ := q
    rcases hE with rfl | rfl
    · skip
      refine ⟨[], (0, 11, 14, 27), [(0, 11, 18, 19)], _, rfl, (fun z hz => by simp at hz), by decide, by decide, w_541, ng_cIOE, ?_⟩
      show tw_WH d mL_ofHouse hhL_ofHouse _ 14 [(0, .ref x), (1, .int n), (2, .int w), (3, .ref o)] [.ref z] h1 0 0
      rw [hq]
      refine tb_astore [(4, .ref z), (0, .ref x), (1, .int n), (2, .int w), (3, .ref o)] dL_ofHouse_14 (by decide) rfl ?_
      refine tb_iconst (v := 1) dL_ofHouse_16 (by decide) ?_
      exact tb_iret dL_ofHouse_17 rfl (Or.inl ⟨_, rfl, _, _, rfl, sp0⟩)
    · skip
      refine ⟨[(0, 11, 14, 27)], (0, 11, 18, 19), [], _, rfl, (fun z hz => by rcases List.mem_singleton.mp hz with rfl; exact ⟨by decide, _, w_541, Or.inl ⟨rfl, rfl⟩⟩), by decide, by decide, w_390, ng_cIAE, ?_⟩
      show tw_WH d mL_ofHouse hhL_ofHouse _ 18 [(0, .ref x), (1, .int n), (2, .int w), (3, .ref o)] [.ref z] h1 0 0
      rw [hq]
      refine tb_astore [(4, .ref z), (0, .ref x), (1, .int n), (2, .int w), (3, .ref o)] dL_ofHouse_18 (by decide) rfl ?_
      refine tb_iconst (v := 2) dL_ofHouse_20 (by decide) ?_
      exact tb_iret dL_ofHouse_21 rfl (Or.inl ⟨_, rfl, _, _, rfl, sp0⟩)

abbrev hhL_ofDebt : tw_HH := [(0, 11, 14, 27), (0, 11, 18, 19)]
abbrev mL_ofDebt : tw_M := (yL_ofDebt, cL_ofDebt, 5, (some .int), 8, 135)
theorem okL_ofDebt : tw_okH mL_ofDebt hhL_ofDebt 4 := ⟨⟨by decide +kernel, by decide +kernel, by decide +kernel⟩, w_803, w_76, w_802⟩
set_option maxHeartbeats 4000000 in
set_option maxRecDepth 100000 in
theorem c_L_ofDebt (d : tw_D) (g : tw_G) (τ : tw_K) (h : tw_H) (hw : tw_wt d g τ h) (x : Nat) (kx : τ x = 11) (n : Int32) (w : Int32) (o : Nat) (ko : τ o = 12) : tw_CtH d mL_ofDebt hhL_ofDebt 20 120 [.ref x, .int n, .int w, .ref o] h (tw_qi (fun r h1 => ∃ g1 τ1, g1 = g ∧ tw_sp d τ h g1 τ1 h1) tw_nx) := by
  refine tw_ofH (by decide +kernel) (Nat.le_of_ble_eq_true rfl) ?_
  show tw_WH d mL_ofDebt hhL_ofDebt _ 0 [(0, .ref x), (1, .int n), (2, .int w), (3, .ref o)] [] h 20 120
  have sp0 := tw_sp.rf hw
  refine tb_aload_n 3 dL_ofDebt_0 rfl rfl ?_
  refine tb_aload_n 0 dL_ofDebt_1 rfl rfl ?_
  refine tb_iload_n 1 dL_ofDebt_2 rfl rfl ?_
  refine tb_iload_n 2 dL_ofDebt_3 rfl rfl ?_
  obtain ⟨e1, f2, td_3, ca_4, ha_5, da_6, c1_7, c2_8, c3_9, c4_10, rfl, k11, k12, k13, k14, k15, k16, k17, k18, k19, k20, k21, k22, k23, k24, k25, k26, k27⟩ := sp0.1 x 11 kx (by decide)
  refine tb_bi (tb_callV (M := mL_ofDebt) (hh := hhL_ofDebt) (pc := 4) okX5_ofDebt dL_ofDebt_4 w_804 rfl f2 [.int n, .int w] [.ref o] rfl rfl ⟨by decide, by decide⟩ (Nat.le_of_ble_eq_true rfl) (c_X5_ofDebt d g τ h sp0.1 x kx n w) 0 0 (Nat.le_of_ble_eq_true rfl) (Nat.le_of_ble_eq_true rfl)) (fun rr h1 q => ?_) (fun E h1 z q => ?_)
  · skip
    rw [q]
    refine tb_i2l dL_ofDebt_7 ?_
    refine tb_nml (fun v28 ev28 => ?_)
    obtain ⟨e29, f30, n_31, s_32, rfl⟩ := sp0.1 o 12 ko (by decide)
    refine tb_putN rfl in_10 tyX6 tyX6_ok nmX6 0 dL_ofDebt_8 w_380 rfl (by decide) f30 rfl rfl rfl rfl (Nat.le_of_ble_eq_true rfl) [.long v28, va_rf s_32] rfl ?_
    obtain ⟨h33, eh33⟩ : ∃ z : tw_H, z = tw_up h o (.inr (10, [.long v28, va_rf s_32])) := ⟨_, rfl⟩
    rw [← eh33]
    have sp34 : tw_sp d τ h g τ h33 := by rw [eh33]; exact sp0.set ko (by decide) ⟨v28, s_32, rfl⟩
    have f35 : h33 o = some (.inr (10, [.long v28, va_rf s_32])) := by rw [eh33]; exact tw_up_s
    refine tb_goto 22 dL_ofDebt_11 (by decide) ?_
    refine tb_iconst (v := 0) dL_ofDebt_22 (by decide) ?_
    exact tb_iret dL_ofDebt_23 rfl (Or.inl ⟨_, rfl, _, _, rfl, sp34⟩)
  · skip
    obtain ⟨hE, hq⟩ := q
    rcases hE with rfl | rfl
    · skip
      refine ⟨[], (0, 11, 14, 27), [(0, 11, 18, 19)], _, rfl, (fun z hz => by simp at hz), by decide, by decide, w_541, ng_cIOE, ?_⟩
      show tw_WH d mL_ofDebt hhL_ofDebt _ 14 [(0, .ref x), (1, .int n), (2, .int w), (3, .ref o)] [.ref z] h1 0 0
      rw [hq]
      refine tb_astore [(4, .ref z), (0, .ref x), (1, .int n), (2, .int w), (3, .ref o)] dL_ofDebt_14 (by decide) rfl ?_
      refine tb_iconst (v := 1) dL_ofDebt_16 (by decide) ?_
      exact tb_iret dL_ofDebt_17 rfl (Or.inl ⟨_, rfl, _, _, rfl, sp0⟩)
    · skip
      refine ⟨[(0, 11, 14, 27)], (0, 11, 18, 19), [], _, rfl, (fun z hz => by rcases List.mem_singleton.mp hz with rfl; exact ⟨by decide, _, w_541, Or.inl ⟨rfl, rfl⟩⟩), by decide, by decide, w_390, ng_cIAE, ?_⟩
      show tw_WH d mL_ofDebt hhL_ofDebt _ 18 [(0, .ref x), (1, .int n), (2, .int w), (3, .ref o)] [.ref z] h1 0 0
      rw [hq]
      refine tb_astore [(4, .ref z), (0, .ref x), (1, .int n), (2, .int w), (3, .ref o)] dL_ofDebt_18 (by decide) rfl ?_
      refine tb_iconst (v := 2) dL_ofDebt_20 (by decide) ?_
      exact tb_iret dL_ofDebt_21 rfl (Or.inl ⟨_, rfl, _, _, rfl, sp0⟩)

abbrev hhL_world : tw_HH := [(0, 11, 14, 19)]
abbrev mL_world : tw_M := (yL_world, cL_world, 5, (some .int), 8, 134)
theorem okL_world : tw_okH mL_world hhL_world 4 := ⟨⟨by decide +kernel, by decide +kernel, by decide +kernel⟩, w_810, w_76, w_809⟩
set_option maxHeartbeats 4000000 in
set_option maxRecDepth 100000 in
theorem c_L_world (d : tw_D) (g : tw_G) (τ : tw_K) (h : tw_H) (hw : tw_wt d g τ h) (x : Nat) (kx : τ x = 11) (m : Int32) (w : Int32) (o : Nat) (ko : τ o = 12) : tw_CtH d mL_world hhL_world 20 120 [.ref x, .int m, .int w, .ref o] h (tw_qi (fun r h1 => ∃ g1 τ1, g1 = g ∧ tw_sp d τ h g1 τ1 h1) tw_nx) := by
  refine tw_ofH (by decide +kernel) (Nat.le_of_ble_eq_true rfl) ?_
  show tw_WH d mL_world hhL_world _ 0 [(0, .ref x), (1, .int m), (2, .int w), (3, .ref o)] [] h 20 120
  have sp0 := tw_sp.rf hw
  refine tb_aload_n 3 dL_world_0 rfl rfl ?_
  refine tb_aload_n 0 dL_world_1 rfl rfl ?_
  refine tb_iload_n 1 dL_world_2 rfl rfl ?_
  refine tb_iload_n 2 dL_world_3 rfl rfl ?_
  obtain ⟨e1, f2, td_3, ca_4, ha_5, da_6, c1_7, c2_8, c3_9, c4_10, rfl, k11, k12, k13, k14, k15, k16, k17, k18, k19, k20, k21, k22, k23, k24, k25, k26, k27⟩ := sp0.1 x 11 kx (by decide)
  refine tb_bi (tb_callV (M := mL_world) (hh := hhL_world) (pc := 4) okX5_world dL_world_4 w_811 rfl f2 [.int m, .int w] [.ref o] rfl rfl ⟨by decide, by decide⟩ (Nat.le_of_ble_eq_true rfl) (c_X5_world d g τ h sp0.1 x kx m w) 0 0 (Nat.le_of_ble_eq_true rfl) (Nat.le_of_ble_eq_true rfl)) (fun rr h1 q => ?_) (fun E h1 z q => ?_)
  · skip
    rw [q]
    refine tb_i2l dL_world_7 ?_
    refine tb_nml (fun v28 ev28 => ?_)
    obtain ⟨e29, f30, n_31, s_32, rfl⟩ := sp0.1 o 12 ko (by decide)
    refine tb_putN rfl in_10 tyX6 tyX6_ok nmX6 0 dL_world_8 w_380 rfl (by decide) f30 rfl rfl rfl rfl (Nat.le_of_ble_eq_true rfl) [.long v28, va_rf s_32] rfl ?_
    obtain ⟨h33, eh33⟩ : ∃ z : tw_H, z = tw_up h o (.inr (10, [.long v28, va_rf s_32])) := ⟨_, rfl⟩
    rw [← eh33]
    have sp34 : tw_sp d τ h g τ h33 := by rw [eh33]; exact sp0.set ko (by decide) ⟨v28, s_32, rfl⟩
    have f35 : h33 o = some (.inr (10, [.long v28, va_rf s_32])) := by rw [eh33]; exact tw_up_s
    refine tb_goto 18 dL_world_11 (by decide) ?_
    refine tb_iconst (v := 0) dL_world_18 (by decide) ?_
    exact tb_iret dL_world_19 rfl (Or.inl ⟨_, rfl, _, _, rfl, sp34⟩)
  · skip
    obtain ⟨hE, hq⟩ := q
    subst hE
    refine ⟨[], (0, 11, 14, 19), [], _, rfl, (fun z hz => by simp at hz), by decide, by decide, w_390, ng_cIAE, ?_⟩
    show tw_WH d mL_world hhL_world _ 14 [(0, .ref x), (1, .int m), (2, .int w), (3, .ref o)] [.ref z] h1 0 0
    rw [hq]
    refine tb_astore [(4, .ref z), (0, .ref x), (1, .int m), (2, .int w), (3, .ref o)] dL_world_14 (by decide) rfl ?_
    refine tb_iconst (v := 1) dL_world_16 (by decide) ?_
    exact tb_iret dL_world_17 rfl (Or.inl ⟨_, rfl, _, _, rfl, sp0⟩)

abbrev hhL_sign : tw_HH := [(0, 9, 12, 27)]
abbrev mL_sign : tw_M := (yL_sign, cL_sign, 4, (some .int), 24, 495)
theorem okL_sign : tw_okH mL_sign hhL_sign 3 := ⟨⟨by decide +kernel, by decide +kernel, by decide +kernel⟩, w_817, w_76, w_816⟩
set_option maxHeartbeats 4000000 in
set_option maxRecDepth 100000 in
theorem c_L_sign (d : tw_D) (g : tw_G) (τ : tw_K) (h : tw_H) (hw : tw_wt d g τ h) (x : Nat) (kx : τ x = 11) (n : Int32) (o : Nat) (ko : τ o = 12) : tw_CtH d mL_sign hhL_sign 6 64 [.ref x, .int n, .ref o] h (tw_qi (fun r h1 => ∃ g1 τ1, g1 = g ∧ tw_sp d τ h g1 τ1 h1) tw_nx) := by
  refine tw_ofH (by decide +kernel) (Nat.le_of_ble_eq_true rfl) ?_
  show tw_WH d mL_sign hhL_sign _ 0 [(0, .ref x), (1, .int n), (2, .ref o)] [] h 6 64
  have sp0 := tw_sp.rf hw
  refine tb_aload_n 2 dL_sign_0 rfl rfl ?_
  refine tb_aload_n 0 dL_sign_1 rfl rfl ?_
  refine tb_iload_n 1 dL_sign_2 rfl rfl ?_
  obtain ⟨e1, f2, td_3, ca_4, ha_5, da_6, c1_7, c2_8, c3_9, c4_10, rfl, k11, k12, k13, k14, k15, k16, k17, k18, k19, k20, k21, k22, k23, k24, k25, k26, k27⟩ := sp0.1 x 11 kx (by decide)
  refine tb_br (tb_callV (M := mL_sign) (hh := hhL_sign) (pc := 3) okX5_sign dL_sign_3 w_818 rfl f2 [.int n] [.ref o] rfl rfl ⟨by decide, by decide⟩ (Nat.le_of_ble_eq_true rfl) (c_X5_sign d g τ h sp0.1 x kx n) 0 0 (Nat.le_of_ble_eq_true rfl) (Nat.le_of_ble_eq_true rfl)) (fun rr h1 q => ?_) (fun E h1 z q => ?_)
  · skip
    have s1 := q
    have k28 : τ x = 11 := s1.2.1.k kx (by decide)
    have k29 : τ o = 12 := s1.2.1.k ko (by decide)
    obtain ⟨e30, f31, n_32, s_33, rfl⟩ := s1.1 o 12 k29 (by decide)
    refine tb_putN rfl in_10 tyX6 tyX6_ok nmX6 1 dL_sign_6 w_381 rfl (by decide) f31 rfl rfl rfl rfl (Nat.le_of_ble_eq_true rfl) [.long n_32, .ref rr] rfl ?_
    obtain ⟨h34, eh34⟩ : ∃ z : tw_H, z = tw_up h1 o (.inr (10, [.long n_32, .ref rr])) := ⟨_, rfl⟩
    rw [← eh34]
    have sp35 : tw_sp d τ h g τ h34 := by rw [eh34]; exact s1.set k29 (by decide) ⟨n_32, (some rr), rfl⟩
    have f36 : h34 o = some (.inr (10, [.long n_32, .ref rr])) := by rw [eh34]; exact tw_up_s
    refine tb_goto 15 dL_sign_9 (by decide) ?_
    refine tb_iconst (v := 0) dL_sign_15 (by decide) ?_
    exact tb_iret dL_sign_16 rfl (Or.inl ⟨_, rfl, _, _, rfl, sp35⟩)
  · skip
    obtain ⟨hE, hq⟩ := q
    subst hE
    refine ⟨[], (0, 9, 12, 27), [], _, rfl, (fun z hz => by simp at hz), by decide, by decide, w_541, ng_cIOE, ?_⟩
    show tw_WH d mL_sign hhL_sign _ 12 [(0, .ref x), (1, .int n), (2, .ref o)] [.ref z] h1 0 0
    obtain ⟨τ1, s1⟩ := hq
    refine tb_astore_n [(3, .ref z), (0, .ref x), (1, .int n), (2, .ref o)] dL_sign_12 rfl (by decide) rfl ?_
    refine tb_iconst (v := 1) dL_sign_13 (by decide) ?_
    exact tb_iret dL_sign_14 rfl (Or.inl ⟨_, rfl, _, _, rfl, s1⟩)

abbrev hhL_trip : tw_HH := [(0, 15, 18, 27), (0, 15, 22, 19)]
abbrev mL_trip : tw_M := (yL_trip, cL_trip, 7, (some .int), 8, 138)
theorem okL_trip : tw_okH mL_trip hhL_trip 6 := ⟨⟨by decide +kernel, by decide +kernel, by decide +kernel⟩, w_1087, w_76, w_1086⟩
set_option maxHeartbeats 4000000 in
set_option maxRecDepth 100000 in
theorem c_L_trip (d : tw_D) (g : tw_G) (τ : tw_K) (h : tw_H) (hw : tw_wt d g τ h) (x : Nat) (kx : τ x = 11) (a : Int32) (b : Int32) (m : Int32) (gr : Int32) (o : Nat) (ko : τ o = 12) : tw_CtH d mL_trip hhL_trip 20 120 [.ref x, .int a, .int b, .int m, .int gr, .ref o] h (tw_qi (fun r h1 => ∃ g1 τ1, g1 = g ∧ tw_sp d τ h g1 τ1 h1) tw_nx) := by
  refine tw_ofH (by decide +kernel) (Nat.le_of_ble_eq_true rfl) ?_
  show tw_WH d mL_trip hhL_trip _ 0 [(0, .ref x), (1, .int a), (2, .int b), (3, .int m), (4, .int gr), (5, .ref o)] [] h 20 120
  have sp0 := tw_sp.rf hw
  refine tb_aload 5 dL_trip_0 rfl ?_
  refine tb_aload_n 0 dL_trip_2 rfl rfl ?_
  refine tb_iload_n 1 dL_trip_3 rfl rfl ?_
  refine tb_iload_n 2 dL_trip_4 rfl rfl ?_
  refine tb_iload_n 3 dL_trip_5 rfl rfl ?_
  refine tb_iload 4 dL_trip_6 rfl ?_
  obtain ⟨e1, f2, td_3, ca_4, ha_5, da_6, c1_7, c2_8, c3_9, c4_10, rfl, k11, k12, k13, k14, k15, k16, k17, k18, k19, k20, k21, k22, k23, k24, k25, k26, k27⟩ := sp0.1 x 11 kx (by decide)
  refine tb_bi (tb_callV (M := mL_trip) (hh := hhL_trip) (pc := 8) okX5_trip dL_trip_8 w_1088 rfl f2 [.int a, .int b, .int m, .int gr] [.ref o] rfl rfl ⟨by decide, by decide⟩ (Nat.le_of_ble_eq_true rfl) (c_X5_trip d g τ h sp0.1 x kx a b m gr) 0 0 (Nat.le_of_ble_eq_true rfl) (Nat.le_of_ble_eq_true rfl)) (fun rr h1 q => ?_) (fun E h1 z q => ?_)
  · skip
    rw [q]
    refine tb_i2l dL_trip_11 ?_
    refine tb_nml (fun v28 ev28 => ?_)
    obtain ⟨e29, f30, n_31, s_32, rfl⟩ := sp0.1 o 12 ko (by decide)
    refine tb_putN rfl in_10 tyX6 tyX6_ok nmX6 0 dL_trip_12 w_380 rfl (by decide) f30 rfl rfl rfl rfl (Nat.le_of_ble_eq_true rfl) [.long v28, va_rf s_32] rfl ?_
    obtain ⟨h33, eh33⟩ : ∃ z : tw_H, z = tw_up h o (.inr (10, [.long v28, va_rf s_32])) := ⟨_, rfl⟩
    rw [← eh33]
    have sp34 : tw_sp d τ h g τ h33 := by rw [eh33]; exact sp0.set ko (by decide) ⟨v28, s_32, rfl⟩
    have f35 : h33 o = some (.inr (10, [.long v28, va_rf s_32])) := by rw [eh33]; exact tw_up_s
    refine tb_goto 26 dL_trip_15 (by decide) ?_
    refine tb_iconst (v := 0) dL_trip_26 (by decide) ?_
    exact tb_iret dL_trip_27 rfl (Or.inl ⟨_, rfl, _, _, rfl, sp34⟩)
  · skip
    obtain ⟨hE, hq⟩ := q
    rcases hE with rfl | rfl
    · skip
      refine ⟨[], (0, 15, 18, 27), [(0, 15, 22, 19)], _, rfl, (fun z hz => by simp at hz), by decide, by decide, w_541, ng_cIOE, ?_⟩
      show tw_WH d mL_trip hhL_trip _ 18 [(0, .ref x), (1, .int a), (2, .int b), (3, .int m), (4, .int gr), (5, .ref o)] [.ref z] h1 0 0
      rw [hq]
      refine tb_astore [(6, .ref z), (0, .ref x), (1, .int a), (2, .int b), (3, .int m), (4, .int gr), (5, .ref o)] dL_trip_18 (by decide) rfl ?_
      refine tb_iconst (v := 1) dL_trip_20 (by decide) ?_
      exact tb_iret dL_trip_21 rfl (Or.inl ⟨_, rfl, _, _, rfl, sp0⟩)
    · skip
      refine ⟨[(0, 15, 18, 27)], (0, 15, 22, 19), [], _, rfl, (fun z hz => by rcases List.mem_singleton.mp hz with rfl; exact ⟨by decide, _, w_541, Or.inl ⟨rfl, rfl⟩⟩), by decide, by decide, w_390, ng_cIAE, ?_⟩
      show tw_WH d mL_trip hhL_trip _ 22 [(0, .ref x), (1, .int a), (2, .int b), (3, .int m), (4, .int gr), (5, .ref o)] [.ref z] h1 0 0
      rw [hq]
      refine tb_astore [(6, .ref z), (0, .ref x), (1, .int a), (2, .int b), (3, .int m), (4, .int gr), (5, .ref o)] dL_trip_22 (by decide) rfl ?_
      refine tb_iconst (v := 2) dL_trip_24 (by decide) ?_
      exact tb_iret dL_trip_25 rfl (Or.inl ⟨_, rfl, _, _, rfl, sp0⟩)

abbrev hhL_bestTrip : tw_HH := [(0, 13, 16, 27), (0, 13, 20, 19)]
abbrev mL_bestTrip : tw_M := (yL_bestTrip, cL_bestTrip, 6, (some .int), 8, 136)
theorem okL_bestTrip : tw_okH mL_bestTrip hhL_bestTrip 5 := ⟨⟨by decide +kernel, by decide +kernel, by decide +kernel⟩, w_1094, w_76, w_1093⟩
set_option maxHeartbeats 4000000 in
set_option maxRecDepth 100000 in
theorem c_L_bestTrip (d : tw_D) (g : tw_G) (τ : tw_K) (h : tw_H) (hw : tw_wt d g τ h) (x : Nat) (kx : τ x = 11) (a : Int32) (m : Int32) (gr : Int32) (o : Nat) (ko : τ o = 12) : tw_CtH d mL_bestTrip hhL_bestTrip 20 120 [.ref x, .int a, .int m, .int gr, .ref o] h (tw_qi (fun r h1 => ∃ g1 τ1, g1 = g ∧ tw_sp d τ h g1 τ1 h1) tw_nx) := by
  refine tw_ofH (by decide +kernel) (Nat.le_of_ble_eq_true rfl) ?_
  show tw_WH d mL_bestTrip hhL_bestTrip _ 0 [(0, .ref x), (1, .int a), (2, .int m), (3, .int gr), (4, .ref o)] [] h 20 120
  have sp0 := tw_sp.rf hw
  refine tb_aload 4 dL_bestTrip_0 rfl ?_
  refine tb_aload_n 0 dL_bestTrip_2 rfl rfl ?_
  refine tb_iload_n 1 dL_bestTrip_3 rfl rfl ?_
  refine tb_iload_n 2 dL_bestTrip_4 rfl rfl ?_
  refine tb_iload_n 3 dL_bestTrip_5 rfl rfl ?_
  obtain ⟨e1, f2, td_3, ca_4, ha_5, da_6, c1_7, c2_8, c3_9, c4_10, rfl, k11, k12, k13, k14, k15, k16, k17, k18, k19, k20, k21, k22, k23, k24, k25, k26, k27⟩ := sp0.1 x 11 kx (by decide)
  refine tb_bi (tb_callV (M := mL_bestTrip) (hh := hhL_bestTrip) (pc := 6) okX5_bestTrip dL_bestTrip_6 w_1095 rfl f2 [.int a, .int m, .int gr] [.ref o] rfl rfl ⟨by decide, by decide⟩ (Nat.le_of_ble_eq_true rfl) (c_X5_bestTrip d g τ h sp0.1 x kx a m gr) 0 0 (Nat.le_of_ble_eq_true rfl) (Nat.le_of_ble_eq_true rfl)) (fun rr h1 q => ?_) (fun E h1 z q => ?_)
  · skip
    rw [q]
    refine tb_i2l dL_bestTrip_9 ?_
    refine tb_nml (fun v28 ev28 => ?_)
    obtain ⟨e29, f30, n_31, s_32, rfl⟩ := sp0.1 o 12 ko (by decide)
    refine tb_putN rfl in_10 tyX6 tyX6_ok nmX6 0 dL_bestTrip_10 w_380 rfl (by decide) f30 rfl rfl rfl rfl (Nat.le_of_ble_eq_true rfl) [.long v28, va_rf s_32] rfl ?_
    obtain ⟨h33, eh33⟩ : ∃ z : tw_H, z = tw_up h o (.inr (10, [.long v28, va_rf s_32])) := ⟨_, rfl⟩
    rw [← eh33]
    have sp34 : tw_sp d τ h g τ h33 := by rw [eh33]; exact sp0.set ko (by decide) ⟨v28, s_32, rfl⟩
    have f35 : h33 o = some (.inr (10, [.long v28, va_rf s_32])) := by rw [eh33]; exact tw_up_s
    refine tb_goto 24 dL_bestTrip_13 (by decide) ?_
    refine tb_iconst (v := 0) dL_bestTrip_24 (by decide) ?_
    exact tb_iret dL_bestTrip_25 rfl (Or.inl ⟨_, rfl, _, _, rfl, sp34⟩)
  · skip
    obtain ⟨hE, hq⟩ := q
    rcases hE with rfl | rfl
    · skip
      refine ⟨[], (0, 13, 16, 27), [(0, 13, 20, 19)], _, rfl, (fun z hz => by simp at hz), by decide, by decide, w_541, ng_cIOE, ?_⟩
      show tw_WH d mL_bestTrip hhL_bestTrip _ 16 [(0, .ref x), (1, .int a), (2, .int m), (3, .int gr), (4, .ref o)] [.ref z] h1 0 0
      rw [hq]
      refine tb_astore [(5, .ref z), (0, .ref x), (1, .int a), (2, .int m), (3, .int gr), (4, .ref o)] dL_bestTrip_16 (by decide) rfl ?_
      refine tb_iconst (v := 1) dL_bestTrip_18 (by decide) ?_
      exact tb_iret dL_bestTrip_19 rfl (Or.inl ⟨_, rfl, _, _, rfl, sp0⟩)
    · skip
      refine ⟨[(0, 13, 16, 27)], (0, 13, 20, 19), [], _, rfl, (fun z hz => by rcases List.mem_singleton.mp hz with rfl; exact ⟨by decide, _, w_541, Or.inl ⟨rfl, rfl⟩⟩), by decide, by decide, w_390, ng_cIAE, ?_⟩
      show tw_WH d mL_bestTrip hhL_bestTrip _ 20 [(0, .ref x), (1, .int a), (2, .int m), (3, .int gr), (4, .ref o)] [.ref z] h1 0 0
      rw [hq]
      refine tb_astore [(5, .ref z), (0, .ref x), (1, .int a), (2, .int m), (3, .int gr), (4, .ref o)] dL_bestTrip_20 (by decide) rfl ?_
      refine tb_iconst (v := 2) dL_bestTrip_22 (by decide) ?_
      exact tb_iret dL_bestTrip_23 rfl (Or.inl ⟨_, rfl, _, _, rfl, sp0⟩)

abbrev hhL_rest : tw_HH := [(0, 17, 20, 19)]
abbrev mL_rest : tw_M := (yL_rest, cL_rest, 4, (some .int), 8, 147)
theorem okL_rest : tw_okH mL_rest hhL_rest 3 := ⟨⟨by decide +kernel, by decide +kernel, by decide +kernel⟩, w_1101, w_76, w_1100⟩
set_option maxHeartbeats 4000000 in
set_option maxRecDepth 100000 in
theorem c_L_rest (d : tw_D) (g : tw_G) (τ : tw_K) (h : tw_H) (hw : tw_wt d g τ h) (x : Nat) (kx : τ x = 11) (gr : Int32) (o : Nat) (ko : τ o = 12) : tw_CtH d mL_rest hhL_rest 20 120 [.ref x, .int gr, .ref o] h (tw_qi (fun r h1 => ∃ g1 τ1, g1 = g ∧ tw_sp d τ h g1 τ1 h1) tw_nx) := by
  refine tw_ofH (by decide +kernel) (Nat.le_of_ble_eq_true rfl) ?_
  show tw_WH d mL_rest hhL_rest _ 0 [(0, .ref x), (1, .int gr), (2, .ref o)] [] h 20 120
  have sp0 := tw_sp.rf hw
  refine tb_aload_n 2 dL_rest_0 rfl rfl ?_
  refine tb_aload_n 0 dL_rest_1 rfl rfl ?_
  refine tb_iload_n 1 dL_rest_2 rfl rfl ?_
  obtain ⟨e1, f2, td_3, ca_4, ha_5, da_6, c1_7, c2_8, c3_9, c4_10, rfl, k11, k12, k13, k14, k15, k16, k17, k18, k19, k20, k21, k22, k23, k24, k25, k26, k27⟩ := sp0.1 x 11 kx (by decide)
  refine tb_bi (tb_callV (M := mL_rest) (hh := hhL_rest) (pc := 3) okX5_rest dL_rest_3 w_1102 rfl f2 [.int gr] [.ref o] rfl rfl ⟨by decide, by decide⟩ (Nat.le_of_ble_eq_true rfl) (c_X5_rest d g τ h sp0.1 x kx gr) 0 0 (Nat.le_of_ble_eq_true rfl) (Nat.le_of_ble_eq_true rfl)) (fun rr h1 q => ?_) (fun E h1 z q => ?_)
  · skip
    obtain ⟨q1, q2⟩ := q
    rw [q1]
    refine tb_if_eq 13 dL_rest_6 (by decide) (fun c28 => ?_) (fun c28 => ?_)
    · refine tb_lconst (v := 0) dL_rest_13 (by decide) ?_
      obtain ⟨e29, f30, n_31, s_32, rfl⟩ := sp0.1 o 12 ko (by decide)
      refine tb_putN rfl in_10 tyX6 tyX6_ok nmX6 0 dL_rest_14 w_380 rfl (by decide) f30 rfl rfl rfl rfl (Nat.le_of_ble_eq_true rfl) [.long 0, va_rf s_32] rfl ?_
      obtain ⟨h33, eh33⟩ : ∃ z : tw_H, z = tw_up h o (.inr (10, [.long 0, va_rf s_32])) := ⟨_, rfl⟩
      rw [← eh33]
      have sp34 : tw_sp d τ h g τ h33 := by rw [eh33]; exact sp0.set ko (by decide) ⟨0, s_32, rfl⟩
      have f35 : h33 o = some (.inr (10, [.long 0, va_rf s_32])) := by rw [eh33]; exact tw_up_s
      refine tb_goto 23 dL_rest_17 (by decide) ?_
      refine tb_iconst (v := 0) dL_rest_23 (by decide) ?_
      exact tb_iret dL_rest_24 rfl (Or.inl ⟨_, rfl, _, _, rfl, sp34⟩)
    · refine tb_lconst (v := 1) dL_rest_9 (by decide) ?_
      refine tb_goto 14 dL_rest_10 (by decide) ?_
      obtain ⟨e36, f37, n_38, s_39, rfl⟩ := sp0.1 o 12 ko (by decide)
      refine tb_putN rfl in_10 tyX6 tyX6_ok nmX6 0 dL_rest_14 w_380 rfl (by decide) f37 rfl rfl rfl rfl (Nat.le_of_ble_eq_true rfl) [.long 1, va_rf s_39] rfl ?_
      obtain ⟨h40, eh40⟩ : ∃ z : tw_H, z = tw_up h o (.inr (10, [.long 1, va_rf s_39])) := ⟨_, rfl⟩
      rw [← eh40]
      have sp41 : tw_sp d τ h g τ h40 := by rw [eh40]; exact sp0.set ko (by decide) ⟨1, s_39, rfl⟩
      have f42 : h40 o = some (.inr (10, [.long 1, va_rf s_39])) := by rw [eh40]; exact tw_up_s
      refine tb_goto 23 dL_rest_17 (by decide) ?_
      refine tb_iconst (v := 0) dL_rest_23 (by decide) ?_
      exact tb_iret dL_rest_24 rfl (Or.inl ⟨_, rfl, _, _, rfl, sp41⟩)
  · skip
    obtain ⟨hE, hq⟩ := q
    subst hE
    refine ⟨[], (0, 17, 20, 19), [], _, rfl, (fun z hz => by simp at hz), by decide, by decide, w_390, ng_cIAE, ?_⟩
    show tw_WH d mL_rest hhL_rest _ 20 [(0, .ref x), (1, .int gr), (2, .ref o)] [.ref z] h1 0 0
    rw [hq]
    refine tb_astore_n [(3, .ref z), (0, .ref x), (1, .int gr), (2, .ref o)] dL_rest_20 rfl (by decide) rfl ?_
    refine tb_iconst (v := 1) dL_rest_21 (by decide) ?_
    exact tb_iret dL_rest_22 rfl (Or.inl ⟨_, rfl, _, _, rfl, sp0⟩)

abbrev hhL_last : tw_HH := [(0, 13, 16, 27), (0, 13, 20, 19)]
abbrev mL_last : tw_M := (yL_last, cL_last, 6, (some .int), 8, 136)
theorem okL_last : tw_okH mL_last hhL_last 5 := ⟨⟨by decide +kernel, by decide +kernel, by decide +kernel⟩, w_1108, w_76, w_1107⟩
set_option maxHeartbeats 4000000 in
set_option maxRecDepth 100000 in
theorem c_L_last (d : tw_D) (g : tw_G) (τ : tw_K) (h : tw_H) (hw : tw_wt d g τ h) (x : Nat) (kx : τ x = 11) (a : Int32) (m : Int32) (gr : Int32) (o : Nat) (ko : τ o = 12) : tw_CtH d mL_last hhL_last 20 120 [.ref x, .int a, .int m, .int gr, .ref o] h (tw_qi (fun r h1 => ∃ g1 τ1, g1 = g ∧ tw_sp d τ h g1 τ1 h1) tw_nx) := by
  refine tw_ofH (by decide +kernel) (Nat.le_of_ble_eq_true rfl) ?_
  show tw_WH d mL_last hhL_last _ 0 [(0, .ref x), (1, .int a), (2, .int m), (3, .int gr), (4, .ref o)] [] h 20 120
  have sp0 := tw_sp.rf hw
  refine tb_aload 4 dL_last_0 rfl ?_
  refine tb_aload_n 0 dL_last_2 rfl rfl ?_
  refine tb_iload_n 1 dL_last_3 rfl rfl ?_
  refine tb_iload_n 2 dL_last_4 rfl rfl ?_
  refine tb_iload_n 3 dL_last_5 rfl rfl ?_
  obtain ⟨e1, f2, td_3, ca_4, ha_5, da_6, c1_7, c2_8, c3_9, c4_10, rfl, k11, k12, k13, k14, k15, k16, k17, k18, k19, k20, k21, k22, k23, k24, k25, k26, k27⟩ := sp0.1 x 11 kx (by decide)
  refine tb_bi (tb_callV (M := mL_last) (hh := hhL_last) (pc := 6) okX5_last dL_last_6 w_1109 rfl f2 [.int a, .int m, .int gr] [.ref o] rfl rfl ⟨by decide, by decide⟩ (Nat.le_of_ble_eq_true rfl) (c_X5_last d g τ h sp0.1 x kx a m gr) 0 0 (Nat.le_of_ble_eq_true rfl) (Nat.le_of_ble_eq_true rfl)) (fun rr h1 q => ?_) (fun E h1 z q => ?_)
  · skip
    rw [q]
    refine tb_i2l dL_last_9 ?_
    refine tb_nml (fun v28 ev28 => ?_)
    obtain ⟨e29, f30, n_31, s_32, rfl⟩ := sp0.1 o 12 ko (by decide)
    refine tb_putN rfl in_10 tyX6 tyX6_ok nmX6 0 dL_last_10 w_380 rfl (by decide) f30 rfl rfl rfl rfl (Nat.le_of_ble_eq_true rfl) [.long v28, va_rf s_32] rfl ?_
    obtain ⟨h33, eh33⟩ : ∃ z : tw_H, z = tw_up h o (.inr (10, [.long v28, va_rf s_32])) := ⟨_, rfl⟩
    rw [← eh33]
    have sp34 : tw_sp d τ h g τ h33 := by rw [eh33]; exact sp0.set ko (by decide) ⟨v28, s_32, rfl⟩
    have f35 : h33 o = some (.inr (10, [.long v28, va_rf s_32])) := by rw [eh33]; exact tw_up_s
    refine tb_goto 24 dL_last_13 (by decide) ?_
    refine tb_iconst (v := 0) dL_last_24 (by decide) ?_
    exact tb_iret dL_last_25 rfl (Or.inl ⟨_, rfl, _, _, rfl, sp34⟩)
  · skip
    obtain ⟨hE, hq⟩ := q
    rcases hE with rfl | rfl
    · skip
      refine ⟨[], (0, 13, 16, 27), [(0, 13, 20, 19)], _, rfl, (fun z hz => by simp at hz), by decide, by decide, w_541, ng_cIOE, ?_⟩
      show tw_WH d mL_last hhL_last _ 16 [(0, .ref x), (1, .int a), (2, .int m), (3, .int gr), (4, .ref o)] [.ref z] h1 0 0
      rw [hq]
      refine tb_astore [(5, .ref z), (0, .ref x), (1, .int a), (2, .int m), (3, .int gr), (4, .ref o)] dL_last_16 (by decide) rfl ?_
      refine tb_iconst (v := 1) dL_last_18 (by decide) ?_
      exact tb_iret dL_last_19 rfl (Or.inl ⟨_, rfl, _, _, rfl, sp0⟩)
    · skip
      refine ⟨[(0, 13, 16, 27)], (0, 13, 20, 19), [], _, rfl, (fun z hz => by rcases List.mem_singleton.mp hz with rfl; exact ⟨by decide, _, w_541, Or.inl ⟨rfl, rfl⟩⟩), by decide, by decide, w_390, ng_cIAE, ?_⟩
      show tw_WH d mL_last hhL_last _ 20 [(0, .ref x), (1, .int a), (2, .int m), (3, .int gr), (4, .ref o)] [.ref z] h1 0 0
      rw [hq]
      refine tb_astore [(5, .ref z), (0, .ref x), (1, .int a), (2, .int m), (3, .int gr), (4, .ref o)] dL_last_20 (by decide) rfl ?_
      refine tb_iconst (v := 2) dL_last_22 (by decide) ?_
      exact tb_iret dL_last_23 rfl (Or.inl ⟨_, rfl, _, _, rfl, sp0⟩)

/-! the class's methods over the typed heap. Laid by wip/p5/mkclass.py. -/
/-! the reference's conditions and answers where amounts matter -/
theorem tw_cmp_ge {a b : Nat} (ha : a < 2 ^ 63) (hb : b < 2 ^ 63) : 0 ≤ lg_cmp (tw_L a) (tw_L b) ↔ b ≤ a := by
  have e1 : tw_L a > tw_L b ↔ b < a := by
    show tw_L b < tw_L a ↔ _
    rw [Int64.lt_iff_toInt_lt, tw_L_toInt ha, tw_L_toInt hb]
    omega
  unfold lg_cmp
  by_cases q : b < a
  · rw [if_pos (e1.mpr q)]
    exact ⟨fun _ => Nat.le_of_lt q, fun _ => by decide⟩
  · rw [if_neg (fun z => q (e1.mp z))]
    by_cases q2 : a = b
    · rw [if_pos (by rw [q2])]
      exact ⟨fun _ => by omega, fun _ => by decide⟩
    · rw [if_neg (fun z => q2 (by have y := congrArg Int64.toInt z; rw [tw_L_toInt ha, tw_L_toInt hb] at y; omega))]
      exact ⟨fun z => absurd z (by decide), fun z => by omega⟩
theorem tw_l_add {V : Int32} {A n : Nat} {y : Int64} (e : V = nI A) (ey : y = tw_L n) (h : A + n < 2 ^ 31) : V.toInt64 + y = (V + nI n).toInt64 := by
  rw [e, ey, tw_niadd, tw_L_i (by omega), tw_L_i h, tw_L_add (by omega)]
theorem tw_l_sub {V : Int32} {A n : Nat} {y : Int64} (e : V = nI A) (ey : y = tw_L n) (h : n ≤ A) (hA : A < 2 ^ 31) : V.toInt64 - y = (V + -nI n).toInt64 := by
  rw [e, ey, tw_I_ng hA h, tw_L_i hA, tw_L_i (by omega), tw_L_sub (by omega) h]
theorem tw_AM.v {B : Nat} {g : tw_G} (h : tw_AM B g) {j k : Nat} (hj : j < 4) (hk : k < 2) : g.1 (480 + 64 * j + 16 + k) = nI (tw_DN (g.1 (480 + 64 * j + 16 + k))) ∧ tw_DN (g.1 (480 + 64 * j + 16 + k)) ≤ B := by
  have e : tw_ac j k = 480 + 64 * j + 16 + k := by rw [tw_ac_v hj]; omega
  have a := h.1 j k (by omega) hk
  have b := h.le (i := j) (by omega) hk
  unfold tw_am at a b
  rw [e] at a b
  exact ⟨a, b⟩
theorem tw_AM.p {B : Nat} {g : tw_G} (h : tw_AM B g) {j k : Nat} (hj : j < 6) (hk : k < 2) : g.1 (960 + 32 * j + 8 + k) = nI (tw_DN (g.1 (960 + 32 * j + 8 + k))) ∧ tw_DN (g.1 (960 + 32 * j + 8 + k)) ≤ B := by
  have e : tw_ac (4 + j) k = 960 + 32 * j + 8 + k := by rw [tw_ac_h (by omega) (by omega)]; omega
  have a := h.1 (4 + j) k (by omega) hk
  have b := h.le (i := 4 + j) (by omega) hk
  unfold tw_am at a b
  rw [e] at a b
  exact ⟨a, b⟩
theorem tw_AM.s {B : Nat} {g : tw_G} (h : tw_AM B g) {s k : Nat} (hs : s < 4) (hk : k < 2) : g.1 (1344 + 8 * s + k) = nI (tw_DN (g.1 (1344 + 8 * s + k))) ∧ tw_DN (g.1 (1344 + 8 * s + k)) ≤ B := by
  have e : tw_ac (10 + s) k = 1344 + 8 * s + k := by rw [tw_ac_s (by omega)]; omega
  have a := h.1 (10 + s) k (by omega) hk
  have b := h.le (i := 10 + s) (by omega) hk
  unfold tw_am at a b
  rw [e] at a b
  exact ⟨a, b⟩
def tw_mP (g : tw_G) (a : Nat) : Nat := tw_DN (g.1 (960 + 32 * a + 1))
def tw_mg (g : tw_G) (a m n : Nat) : Nat := tw_gv m (tw_DN (g.1 (480 + 64 * tw_mP g a))) (tw_DN (g.1 (480 + 64 * tw_mP g a + 1))) n
def tw_MC (g : tw_G) (a m n : Nat) : Prop := g.1 (960 + 32 * a + 1) ≠ -1 ∧ n ≤ tw_DN (g.1 (960 + 32 * a + 8 + m)) ∧ g.1 (480 + 64 * tw_mP g a + 8 + m) ≠ 0 ∧ tw_mg g a m n ≤ tw_DN (g.1 (480 + 64 * tw_mP g a + 16 + (1 - m)))
def tw_MS (g : tw_G) (a : Nat) (b : Int32) : Prop := g.1 (960 + 32 * a + 1) ≠ -1 ∧ g.1 (960 + 32 * a + 1) ≠ b
def tw_mf (g : tw_G) (a b k : Nat) : Nat := tw_up3 (tw_DN (g.1 (960 + 32 * a + 8 + k))) (tw_DN (g.1 (448 + 8 * tw_mP g a + b)))
def tw_mD (g : tw_G) (a b : Nat) : Int32 := nI (g.2 22) + g.1 (416 + 8 * tw_mP g a + b)
def tw_eF (g : tw_G) (a : Nat) : Nat := tw_DN (g.1 (1232 + 8 * a + 3))
def tw_eT (g : tw_G) (a : Nat) : Nat := tw_DN (g.1 (1232 + 8 * a + 4))
def tw_md (g : tw_G) (a : Nat) : Nat := tw_due (tw_DN (g.1 (1232 + 8 * a + 0))) (tw_DN (g.1 (1232 + 8 * a + 1))) (g.2 22)
def tw_ms (g : tw_G) (a m : Nat) : Nat := if m = 0 then tw_gf (tw_md g a) (tw_DN (g.1 (480 + 64 * tw_mP g (tw_eF g a)))) else tw_md g a
def tw_MT (g : tw_G) (a m : Nat) : Prop := g.1 (1232 + 8 * a + 2) = 0 ∧ g.1 (960 + 32 * tw_eF g a + 1) ≠ -1 ∧ g.1 (960 + 32 * tw_eT g a + 1) ≠ -1 ∧ tw_ms g a m ≤ tw_DN (g.1 (960 + 32 * tw_eF g a + 8 + m))
theorem tw_mP_e {g : tw_G} {a i : Nat} (e : g.1 (960 + 32 * a + 1) = nI i) (hi : i < 4) : tw_mP g a = i := by
  unfold tw_mP
  rw [e]
  exact nI_clamp (by omega)
theorem tw_b4 {d : tw_D} {g : tw_G} {τ : tw_K} {h : tw_H} {x : Nat} (hw : tw_wt d g τ h) (kx : τ x = 36) : g.2 4 ≤ 6 := by
  obtain ⟨e, he, th, td, ds, fr, ca, us, wo, cm, lc, lh, ld, h9, k1, k2, k3, k4, k5, k6, k7, k8, k9, b3, b4, -⟩ := hw x 36 kx (by decide)
  exact b4
theorem tw_b5 {d : tw_D} {g : tw_G} {τ : tw_K} {h : tw_H} {x : Nat} (hw : tw_wt d g τ h) (kx : τ x = 36) : g.2 5 ≤ 10 := by
  obtain ⟨e, he, th, td, ds, fr, ca, us, wo, cm, lc, lh, ld, h9, k1, k2, k3, k4, k5, k6, k7, k8, k9, b3, b4, b5, -⟩ := hw x 36 kx (by decide)
  exact b5
theorem tw_dmx {t d : Int32} {T D : Nat} (et : t = nI T) (ed : d = nI D) (hT : T ≤ 3000) (hD : D ≤ 4000) : (if 0 < t - d then t - d else 0) = nI (T - D) := by
  have b : (t - d).toInt = (T : Int) - D := by
    rw [et, ed, Int32.toInt_sub, nI_toInt (by omega), nI_toInt (by omega)]
    apply Int.bmod_eq_of_le_mul_two <;> omega
  by_cases q : D < T
  · rw [if_pos (by rw [Int32.lt_iff_toInt_lt, b, show (0 : Int32).toInt = 0 by decide]; omega)]
    exact tw_I_of (by rw [b]; omega) (by omega)
  · rw [if_neg (fun z => by rw [Int32.lt_iff_toInt_lt, b, show (0 : Int32).toInt = 0 by decide] at z; omega), show T - D = 0 by omega]
    rfl
theorem tw_due3 {V D T : Nat} {v d t : Int32} (ev : v = nI V) (ed : d = nI D) (et : t = nI T) (hV : V ≤ 9999) (hT : T ≤ 3000) (hD : D ≤ 4000) : v + v / 100 * ((if 0 < t - d then t - d else 0) / 10) = nI (tw_due V D T) := by
  have a : V / 100 ≤ 99 := by omega
  have b : (T - D) / 10 ≤ 300 := by omega
  have m : V / 100 * ((T - D) / 10) ≤ 99 * 300 := Nat.mul_le_mul a b
  rw [tw_dmx et ed hT hD, ev, show (100 : Int32) = nI 100 from rfl, show (10 : Int32) = nI 10 from rfl, tw_I_div (b := 100) (by omega) (by decide), tw_I_div (b := 10) (by omega) (by decide), tw_I_mul (by omega) (by omega) (by omega)]
  exact tw_niadd
/-- what the reference's debts are within -/
def tw_MH (g : tw_G) : Prop := ∀ j, j < g.2 5 → (∃ v, v ≤ 9999 ∧ g.1 (1232 + 8 * j + 0) = nI v) ∧ (∃ t, t ≤ 4000 ∧ g.1 (1232 + 8 * j + 1) = nI t) ∧ tw_eF g j ≠ tw_eT g j
theorem tw_eN_e {g : tw_G} {a i c : Nat} (e : nI i = g.1 (1232 + 8 * a + c)) (hi : i < 6) : tw_DN (g.1 (1232 + 8 * a + c)) = i := by
  rw [← e]
  exact nI_clamp (by omega)
theorem tw_md_le {g : tw_G} {j : Nat} (he : tw_MH g) (hj : j < g.2 5) (hT : g.2 22 ≤ 3000) : tw_md g j ≤ 40000 := by
  obtain ⟨⟨V9, hV9, eV9⟩, -⟩ := he j hj
  unfold tw_md
  rw [show tw_DN (g.1 (1232 + 8 * j + 0)) = V9 from by rw [eV9]; exact nI_clamp (by omega)]
  exact tw_dueI hV9 hT
theorem tw_ms_le {g : tw_G} {j k : Nat} (he : tw_MH g) (hj : j < g.2 5) (hT : g.2 22 ≤ 3000) (hr : 100 ≤ tw_DN (g.1 (480 + 64 * tw_mP g (tw_eF g j)))) : tw_ms g j k ≤ 40000 := by
  have z := tw_md_le he hj hT
  unfold tw_ms
  split
  · exact tw_gf_le hr z
  · exact z
theorem tw_DN_lt (x : Int32) : tw_DN x < 2 ^ 31 := x.toNatClampNeg_lt
theorem tw_ms_lt {g : tw_G} {j k : Nat} (he : tw_MH g) (hj : j < g.2 5) (hT : g.2 22 ≤ 3000) : tw_ms g j k < 2 ^ 63 := by
  have z := tw_md_le he hj hT
  unfold tw_ms
  split
  · unfold tw_gf
    have r := tw_DN_lt (g.1 (480 + 64 * tw_mP g (tw_eF g j)))
    refine Nat.lt_of_le_of_lt (Nat.div_le_self _ _) ?_
    omega
  · omega
theorem tw_ad_0 {g : tw_G} {i : Nat} : tw_ad g i (nI 0) = g := by
  refine Prod.ext (funext fun k => ?_) rfl
  show (if k = i then g.1 i + nI 0 else g.1 k) = g.1 k
  by_cases q : k = i
  · rw [if_pos q, q]
    exact Int32.add_zero _
  · rw [if_neg q]
theorem tw_ad_n0 {g : tw_G} {i : Nat} : tw_ad g i (-nI 0) = g := by
  rw [show -nI 0 = nI 0 from Int32.neg_zero]
  exact tw_ad_0
theorem tw_fw_A {B : Nat} {g : tw_G} (h : tw_AM B g) (hB : B ≤ 60000000) : ∀ n, n ≤ 4 → tw_AM B (tw_fd tw_weM g n)
  | 0, _ => h
  | n + 1, hn => tw_we_A (tw_fw_A h hB n (by omega)) hB (by omega)
theorem tw_dyM_A {B : Nat} {g : tw_G} (h : tw_AM B g) (hB : B ≤ 60000000) (h3 : g.2 3 ≤ 4) (h4 : g.2 4 ≤ 6) : tw_AM B (tw_dyM g) := by
  have a0 : tw_AM B (tw_g2 g 22 (g.2 22 + 1)) := h.cg (fun i k _ _ => rfl)
  unfold tw_dyM
  split
  · exact tw_fw_A (tw_ar_A a0 h4) hB _ h3
  · exact tw_ar_A a0 h4
theorem tw_dsM_A {B : Nat} {g : tw_G} (h : tw_AM B g) (hB : B ≤ 60000000) (h3 : g.2 3 ≤ 4) (h4 : g.2 4 ≤ 6) : ∀ n, tw_AM B (tw_dsM g n)
  | 0 => h
  | n + 1 => tw_dyM_A (tw_dsM_A h hB h3 h4 n) hB (by rw [tw_dsM_2]; exact h3) (by rw [tw_dsM_2]; exact h4)

theorem tw_adm {g : tw_G} {i j : Nat} {v w : Int32} (h : i ≠ j) : tw_ad (tw_ad g j w) i v = tw_ad (tw_ad g i v) j w := by
  refine Prod.ext (funext fun k => ?_) rfl
  show (if k = i then (if i = j then g.1 j + w else g.1 i) + v else if k = j then g.1 j + w else g.1 k) = if k = j then (if j = i then g.1 i + v else g.1 j) + w else if k = i then g.1 i + v else g.1 k
  rw [if_neg h, if_neg (Ne.symm h)]
  by_cases a : k = i
  · rw [if_pos a, if_neg (fun z => h (a.symm.trans z)), if_pos a]
  · rw [if_neg a, if_neg a]
set_option maxHeartbeats 4000000 in
set_option maxRecDepth 100000 in
theorem c2_X10_mine (d : tw_D) (g : tw_G) (τ : tw_K) (h : tw_H) (hw : tw_wt d g τ h) (x : Nat) (kx : τ x = 36) (n : Int32) (m : Int32) (gr : Int32) (o : Nat) (ko : τ o = 12) (he : tw_AM 59000000 g) : tw_Ct d mX10_mine 0 0 [.ref x, .int n, .int m, .int gr] h (tw_qi (fun r9 h1 => ∃ g1 τ1, tw_sp d τ h g1 τ1 h1 ∧ h1 o = h o ∧ ((¬ (tw_ix (g.2 3) n) ∧ tw_th (h1 x) = 1 ∧ g1 = g) ∨ ((tw_ix (g.2 3) n) ∧ ¬ (tw_RG1 m gr) ∧ tw_th (h1 x) = 2 ∧ g1 = g) ∨ ((tw_ix (g.2 3) n) ∧ (tw_RG1 m gr) ∧ ¬ (tw_DN (g.1 (480 + 64 * tw_DN n + 16 + tw_DN m)) + tw_DN gr ≤ 999999) ∧ tw_th (h1 x) = 3 ∧ g1 = g) ∨ ((tw_ix (g.2 3) n) ∧ (tw_RG1 m gr) ∧ (tw_DN (g.1 (480 + 64 * tw_DN n + 16 + tw_DN m)) + tw_DN gr ≤ 999999) ∧ r9 = g.1 (480 + 64 * tw_DN n + 16 + tw_DN m) + gr ∧ tw_th (h1 x) = 0 ∧ g1 = tw_ad (tw_ad g (480 + 64 * tw_DN n + 16 + tw_DN m) (gr)) (1368 + tw_DN m) gr))) tw_nx) := by
  refine tw_of (by decide +kernel) (Nat.le_of_ble_eq_true rfl) ?_
  show tw_W d mX10_mine _ 0 [(0, .ref x), (1, .int n), (2, .int m), (3, .int gr)] [] h 0 0
  have sp0 := tw_sp.rf hw
  have oq0 : h o = h o := rfl
  have b93 := tw_b3 hw kx
  refine tw_aload_n 0 dX10_mine_0 rfl rfl ?_
  refine tw_aload_n 0 dX10_mine_1 rfl rfl ?_
  refine tw_iload_n 1 dX10_mine_2 rfl rfl ?_
  obtain ⟨e4, f5, th_6, td_7, ds_8, fr_9, ca_10, us_11, wo_12, cm_13, lc_14, lh_15, ld_16, rfl, k17, k18, k19, k20, k21, k22, k23, k24, k25, k26, k27, k28, k29, k30, k31, k32, k33, k34, k35, k36, k37, k38⟩ := sp0.1 x 36 kx (by decide)
  refine tw_bi (tw_callV (M := mX10_mine) (pc := 3) okX10_isNoCountry dX10_mine_3 w_1288 rfl f5 [.int n] [.ref x] rfl rfl ⟨by decide, by decide⟩ (Nat.le_of_ble_eq_true rfl) (c2_X10_isNoCountry d g τ h sp0.1 x kx n) 0 0 (Nat.le_of_ble_eq_true rfl) (Nat.le_of_ble_eq_true rfl)) (fun r3 h2 q1 => ?_) (fun E h1 q => q.elim)
  obtain ⟨q1e, q1d⟩ := q1
  rw [q1e]
  rcases q1d with ⟨q1r, q1n⟩ | ⟨q1r, q1i⟩
  · rw [q1r]
    refine tw_iconst (v := 1) dX10_mine_6 (by decide) ?_
    refine tw_bi (tw_callV (M := mX10_mine) (pc := 7) okX10_start dX10_mine_7 w_1196 rfl f5 [.int 1, .int 1] [] rfl rfl ⟨by decide, by decide⟩ (Nat.le_of_ble_eq_true rfl) (c_X10_start d g τ h sp0.1 x kx 1 1 (by decide)) 0 0 (Nat.le_of_ble_eq_true rfl) (Nat.le_of_ble_eq_true rfl)) (fun r44 h43 q42 => ?_) (fun E h1 q => q.elim)
    obtain ⟨e45, he46, hs47, hr48, hc49⟩ := q42
    obtain ⟨rz50, tz51⟩ := hc49.2 rfl
    have th52 : tw_th (h43 x) = 1 := by rw [he46, tw_up_s]; exact tz51
    have sp53 : tw_sp d τ h g τ h43 := by rw [he46]; exact sp0.set kx (by decide) hs47
    rw [rz50]
    have oq54 : h43 o = h o := by rw [he46, tw_up_n (tw_nk ko kx (by decide))] <;> exact oq0
    refine tw_if_ne 82 dX10_mine_10 (by decide) (fun _ => ?_) (fun c55 => absurd c55 (by decide))
    refine tw_iconst (v := 0) dX10_mine_82 (by decide) ?_
    exact tw_iret dX10_mine_83 rfl (Or.inl ⟨_, rfl, _, _, sp53, oq54, Or.inl ⟨q1n, th52, rfl⟩⟩)
  · rw [q1r]
    have q1x := q1i
    obtain ⟨jn, q1j, q1k⟩ := q1i
    subst q1k
    have cDn : tw_DN (nI jn) = jn := nI_clamp (by omega)
    have ix0 := q1x
    refine tw_iconst (v := 1) dX10_mine_6 (by decide) ?_
    refine tw_bi (tw_callV (M := mX10_mine) (pc := 7) okX10_start dX10_mine_7 w_1196 rfl f5 [.int 0, .int 1] [] rfl rfl ⟨by decide, by decide⟩ (Nat.le_of_ble_eq_true rfl) (c_X10_start d g τ h sp0.1 x kx 0 1 (by decide)) 0 0 (Nat.le_of_ble_eq_true rfl) (Nat.le_of_ble_eq_true rfl)) (fun r61 h60 q59 => ?_) (fun E h1 q => q.elim)
    obtain ⟨e62, he63, hs64, hr65, hc66⟩ := q59
    obtain ⟨rz67, tz68⟩ := hc66.1 rfl
    have th69 : tw_th (h60 x) = 0 := by rw [he63, tw_up_s]; exact tz68
    have sp70 : tw_sp d τ h g τ h60 := by rw [he63]; exact sp0.set kx (by decide) hs64
    rw [rz67]
    have oq71 : h60 o = h o := by rw [he63, tw_up_n (tw_nk ko kx (by decide))] <;> exact oq0
    refine tw_if_ne 82 dX10_mine_10 (by decide) (fun c72 => absurd (by decide) c72) (fun _ => ?_)
    refine tw_aload_n 0 dX10_mine_13 rfl rfl ?_
    refine tw_iload_n 2 dX10_mine_14 rfl rfl ?_
    refine tw_bi (tw_callS (M := mX10_mine) (pc := 15) okX10_isNoMetal dX10_mine_15 w_1308 [.int m] [.ref x] rfl rfl ⟨by decide, by decide⟩ (Nat.le_of_ble_eq_true rfl) (c2_X10_isNoMetal d g τ h60 sp70.1 m) 0 0 (Nat.le_of_ble_eq_true rfl) (Nat.le_of_ble_eq_true rfl)) (fun r75 h74 q73 => ?_) (fun E h1 q => q.elim)
    obtain ⟨q73e, q73d⟩ := q73
    rw [q73e]
    rcases q73d with ⟨q73r, q73n⟩ | ⟨q73r, q73i⟩
    · rw [q73r]
      refine tw_if_ne 31 dX10_mine_18 (by decide) (fun _ => ?_) (fun c76 => absurd c76 (by decide))
      refine tw_iconst (v := 1) dX10_mine_31 (by decide) ?_
      refine tw_goto 36 dX10_mine_32 (by decide) ?_
      refine tw_iconst (v := 2) dX10_mine_36 (by decide) ?_
      obtain ⟨e80, f81, th_82, td_83, ds_84, fr_85, ca_86, us_87, wo_88, cm_89, lc_90, lh_91, ld_92, rfl, k93, k94, k95, k96, k97, k98, k99, k100, k101, k102, k103, k104, k105, k106, k107, k108, k109, k110, k111, k112, k113, k114⟩ := sp70.1 x 36 kx (by decide)
      refine tw_bi (tw_callV (M := mX10_mine) (pc := 37) okX10_refuse dX10_mine_37 w_1200 rfl f81 [.int 1, .int 2] [] rfl rfl ⟨by decide, by decide⟩ (Nat.le_of_ble_eq_true rfl) (c_X10_refuse d g τ h60 sp70.1 x kx 1 2 (by decide)) 0 0 (Nat.le_of_ble_eq_true rfl) (Nat.le_of_ble_eq_true rfl)) (fun r117 h116 q115 => ?_) (fun E h1 q => q.elim)
      obtain ⟨e118, he119, hs120, hr121, hc122⟩ := q115
      obtain ⟨rz123, tz124⟩ := (hc122 th69).2 rfl
      have th125 : tw_th (h116 x) = 2 := by rw [he119, tw_up_s]; exact tz124
      have sp126 : tw_sp d τ h g τ h116 := by rw [he119]; exact sp70.set kx (by decide) hs120
      rw [rz123]
      have oq127 : h116 o = h o := by rw [he119, tw_up_n (tw_nk ko kx (by decide))] <;> exact oq71
      refine tw_if_ne 82 dX10_mine_40 (by decide) (fun _ => ?_) (fun c128 => absurd c128 (by decide))
      refine tw_iconst (v := 0) dX10_mine_82 (by decide) ?_
      exact tw_iret dX10_mine_83 rfl (Or.inl ⟨_, rfl, _, _, sp126, oq127, Or.inr (Or.inl ⟨ix0, fun z => q73n z.1, th125, rfl⟩)⟩)
    · rw [q73r]
      have rcm := q73i
      obtain ⟨k, hk, km⟩ := q73i.k
      subst km
      have cDm : tw_DN (nI k) = k := nI_clamp (by omega)
      refine tw_if_ne 31 dX10_mine_18 (by decide) (fun c129 => absurd (by decide) c129) (fun _ => ?_)
      refine tw_iload_n 3 dX10_mine_21 rfl rfl ?_
      refine tw_iconst (v := 1) dX10_mine_22 (by decide) ?_
      refine tw_ldc (v := 99999) dX10_mine_23 w_1195 ?_
      refine tw_bi (tw_callS (M := mX10_mine) (pc := 25) okX10_isIn dX10_mine_25 w_1192 [.int gr, .int 1, .int 99999] [.ref x] rfl rfl ⟨by decide, by decide⟩ (Nat.le_of_ble_eq_true rfl) (c_X10_isIn d g τ h60 sp70.1 gr 1 99999) 0 0 (Nat.le_of_ble_eq_true rfl) (Nat.le_of_ble_eq_true rfl)) (fun r132 h131 q130 => ?_) (fun E h1 q => q.elim)
      obtain ⟨q130e, q130d⟩ := q130
      rw [q130e]
      rcases q130d with ⟨q130r, q130n⟩ | ⟨q130r, rlgr⟩
      · rw [q130r]
        refine tw_if_ne 35 dX10_mine_28 (by decide) (fun c133 => absurd (by decide) c133) (fun _ => ?_)
        refine tw_iconst (v := 1) dX10_mine_31 (by decide) ?_
        refine tw_goto 36 dX10_mine_32 (by decide) ?_
        refine tw_iconst (v := 2) dX10_mine_36 (by decide) ?_
        obtain ⟨e137, f138, th_139, td_140, ds_141, fr_142, ca_143, us_144, wo_145, cm_146, lc_147, lh_148, ld_149, rfl, k150, k151, k152, k153, k154, k155, k156, k157, k158, k159, k160, k161, k162, k163, k164, k165, k166, k167, k168, k169, k170, k171⟩ := sp70.1 x 36 kx (by decide)
        refine tw_bi (tw_callV (M := mX10_mine) (pc := 37) okX10_refuse dX10_mine_37 w_1200 rfl f138 [.int 1, .int 2] [] rfl rfl ⟨by decide, by decide⟩ (Nat.le_of_ble_eq_true rfl) (c_X10_refuse d g τ h60 sp70.1 x kx 1 2 (by decide)) 0 0 (Nat.le_of_ble_eq_true rfl) (Nat.le_of_ble_eq_true rfl)) (fun r174 h173 q172 => ?_) (fun E h1 q => q.elim)
        obtain ⟨e175, he176, hs177, hr178, hc179⟩ := q172
        obtain ⟨rz180, tz181⟩ := (hc179 th69).2 rfl
        have th182 : tw_th (h173 x) = 2 := by rw [he176, tw_up_s]; exact tz181
        have sp183 : tw_sp d τ h g τ h173 := by rw [he176]; exact sp70.set kx (by decide) hs177
        rw [rz180]
        have oq184 : h173 o = h o := by rw [he176, tw_up_n (tw_nk ko kx (by decide))] <;> exact oq71
        refine tw_if_ne 82 dX10_mine_40 (by decide) (fun _ => ?_) (fun c185 => absurd c185 (by decide))
        refine tw_iconst (v := 0) dX10_mine_82 (by decide) ?_
        exact tw_iret dX10_mine_83 rfl (Or.inl ⟨_, rfl, _, _, sp183, oq184, Or.inr (Or.inl ⟨ix0, fun z => q130n z.2, th182, rfl⟩)⟩)
      · rw [q130r]
        have rc9 : tw_RG1 (nI k) gr := ⟨rcm, rlgr⟩
        obtain ⟨n9, hn1, hn, en⟩ := tw_gr1 rlgr
        subst en
        have cDgr : tw_DN (nI n9) = n9 := nI_clamp (by omega)
        refine tw_if_ne 35 dX10_mine_28 (by decide) (fun _ => ?_) (fun c186 => absurd c186 (by decide))
        refine tw_iconst (v := 0) dX10_mine_35 (by decide) ?_
        refine tw_iconst (v := 2) dX10_mine_36 (by decide) ?_
        obtain ⟨e190, f191, th_192, td_193, ds_194, fr_195, ca_196, us_197, wo_198, cm_199, lc_200, lh_201, ld_202, rfl, k203, k204, k205, k206, k207, k208, k209, k210, k211, k212, k213, k214, k215, k216, k217, k218, k219, k220, k221, k222, k223, k224⟩ := sp70.1 x 36 kx (by decide)
        refine tw_bi (tw_callV (M := mX10_mine) (pc := 37) okX10_refuse dX10_mine_37 w_1200 rfl f191 [.int 0, .int 2] [] rfl rfl ⟨by decide, by decide⟩ (Nat.le_of_ble_eq_true rfl) (c_X10_refuse d g τ h60 sp70.1 x kx 0 2 (by decide)) 0 0 (Nat.le_of_ble_eq_true rfl) (Nat.le_of_ble_eq_true rfl)) (fun r227 h226 q225 => ?_) (fun E h1 q => q.elim)
        obtain ⟨e228, he229, hs230, hr231, hc232⟩ := q225
        obtain ⟨rz233, tz234⟩ := (hc232 th69).1 rfl
        have th235 : tw_th (h226 x) = 0 := by rw [he229, tw_up_s]; exact tz234
        have sp236 : tw_sp d τ h g τ h226 := by rw [he229]; exact sp70.set kx (by decide) hs230
        rw [rz233]
        have oq237 : h226 o = h o := by rw [he229, tw_up_n (tw_nk ko kx (by decide))] <;> exact oq71
        refine tw_if_ne 82 dX10_mine_40 (by decide) (fun c238 => absurd (by decide) c238) (fun _ => ?_)
        refine tw_aload_n 0 dX10_mine_43 rfl rfl ?_
        refine tw_aload_n 0 dX10_mine_44 rfl rfl ?_
        obtain ⟨e239, f240, th_241, td_242, ds_243, fr_244, ca_245, us_246, wo_247, cm_248, lc_249, lh_250, ld_251, rfl, k252, k253, k254, k255, k256, k257, k258, k259, k260, k261, k262, k263, k264, k265, k266, k267, k268, k269, k270, k271, k272, k273⟩ := sp236.1 x 36 kx (by decide)
        refine tw_get (v := .ref lc_249) rfl in_14 9 dX10_mine_45 w_1160 rfl (by decide) f240 rfl ?_
        refine tw_iload_n 1 dX10_mine_48 rfl rfl ?_
        obtain ⟨e277, f278, ⟨el279, rfl, k280⟩, k281⟩ := sp236.1 lc_249 24 k258 (by decide)
        refine tw_br (tw_callV (M := mX10_mine) (pc := 49) okJx4a65c_get_915e3 dX10_mine_49 w_1292 rfl f278 [.int (nI jn)] [.ref x] rfl rfl ⟨by decide, by decide⟩ (Nat.le_of_ble_eq_true rfl) (c24_get d g τ h226 sp236.1 lc_249 k258 jn (by omega) (by omega)) 0 0 (Nat.le_of_ble_eq_true rfl) (Nat.le_of_ble_eq_true rfl)) (fun r284 h283 q282 => ?_) (fun E h1 q => q.elim)
        obtain ⟨q282e, q282k⟩ := q282
        rw [q282e]
        have el285 : tw_el h226 (g.2 12) jn = r284 := by rw [← k281]; exact q282k.2.symm
        have kl286 : τ (g.2 12) = 24 := by rw [← k281]; exact k258
        have id287 : g.2 (4096 + r284) = 480 + 64 * jn := by rw [← el285]; exact tw_eli24 sp236.1 kl286 (by omega)
        obtain ⟨e288, f289, r_290, c_291, v_292, o_293, t_294, rfl, k295, k296, k297, k298, k299, k300⟩ := sp236.1 r284 21 q282k.1 (by decide)
        obtain ⟨j301, ow302, fr9, fc9, q303, q304, q305⟩ := k300
        obtain rfl : jn = j301 := by have z := ow302.b id287; omega
        subst fr9 fc9
        refine tw_castS (ci := 11) rfl dX10_mine_52 w_1208 f289 ?_
        refine tw_get (v := .ref v_292) rfl in_11 2 dX10_mine_55 w_1217 rfl (by decide) f289 rfl ?_
        refine tw_iload_n 2 dX10_mine_58 rfl rfl ?_
        obtain ⟨e306, f307, F308, rfl, ⟨b310, ow311, wv312⟩⟩ := sp236.1 v_292 31 k295 (by decide)
        obtain rfl : (480 + 64 * jn + 16) = b310 := (ow311.b q305).symm
        have ev313 : F308 ((nI k)).toNatClampNeg = (g.1 ((480 + 64 * jn + 16) + k)).toInt64 := by rw [nI_clamp (by omega)]; exact wv312 k (by omega)
        refine tw_lald (v := (g.1 ((480 + 64 * jn + 16) + k)).toInt64) dX10_mine_59 f307 (vp_in_nI (by omega) (by decide)) ev313 ?_
        refine tw_iload_n 3 dX10_mine_60 rfl rfl ?_
        refine tw_i2l dX10_mine_61 ?_
        refine tw_nml (fun v314 ev314 => ?_)
        refine tw_ladd dX10_mine_62 ?_
        refine tw_nml (fun v315 ev315 => ?_)
        refine tw_ldc2 (v := 999999) dX10_mine_63 w_1323 ?_
        refine tw_lcmp dX10_mine_66 ?_
        refine tw_nmi (fun v316 ev316 => ?_)
        refine tw_if_le 74 dX10_mine_67 (by decide) (fun c317 => ?_) (fun c317 => ?_)
        · have hv9 := he.v (j := jn) (k := k) (by omega) hk
          have cv9 := c317
          have wL : v315 = tw_L (tw_DN (g.1 (480 + 64 * jn + 16 + k)) + n9) := by rw [ev315]; exact (tw_l_add hv9.1 (ev314.trans (tw_L_i (by omega))) (by omega)).trans (by rw [hv9.1, tw_niadd, tw_DN_nI (by omega)]; exact tw_L_i (by omega))
          rw [ev316, wL] at cv9
          have lc9 : (tw_DN (g.1 (480 + 64 * jn + 16 + k)) + n9 ≤ 999999) := by have z := tw_cmp_gt (a := tw_DN (g.1 (480 + 64 * jn + 16 + k)) + n9) (b := 999999) (by omega) (by decide); rcases Nat.lt_or_ge 999999 (tw_DN (g.1 (480 + 64 * jn + 16 + k)) + n9) with y | y; exact absurd cv9 (Int32.not_le.mpr (z.mpr y)); exact y
          refine tw_iconst (v := 0) dX10_mine_74 (by decide) ?_
          refine tw_iconst (v := 3) dX10_mine_75 (by decide) ?_
          refine tw_bi (tw_callV (M := mX10_mine) (pc := 76) okX10_refuse dX10_mine_76 w_1200 rfl f240 [.int 0, .int 3] [] rfl rfl ⟨by decide, by decide⟩ (Nat.le_of_ble_eq_true rfl) (c_X10_refuse d g τ h226 sp236.1 x kx 0 3 (by decide)) 0 0 (Nat.le_of_ble_eq_true rfl) (Nat.le_of_ble_eq_true rfl)) (fun r323 h322 q321 => ?_) (fun E h1 q => q.elim)
          obtain ⟨e324, he325, hs326, hr327, hc328⟩ := q321
          obtain ⟨rz329, tz330⟩ := (hc328 th235).1 rfl
          have th331 : tw_th (h322 x) = 0 := by rw [he325, tw_up_s]; exact tz330
          have sp332 : tw_sp d τ h g τ h322 := by rw [he325]; exact sp236.set kx (by decide) hs326
          rw [rz329]
          have oq333 : h322 o = h o := by rw [he325, tw_up_n (tw_nk ko kx (by decide))] <;> exact oq237
          refine tw_if_eq 84 dX10_mine_79 (by decide) (fun _ => ?_) (fun c334 => absurd (by decide) c334)
          refine tw_aload_n 0 dX10_mine_84 rfl rfl ?_
          obtain ⟨e335, f336, th_337, td_338, ds_339, fr_340, ca_341, us_342, wo_343, cm_344, lc_345, lh_346, ld_347, rfl, k348, k349, k350, k351, k352, k353, k354, k355, k356, k357, k358, k359, k360, k361, k362, k363, k364, k365, k366, k367, k368, k369⟩ := sp332.1 x 36 kx (by decide)
          refine tw_get (v := .ref cm_344) rfl in_14 8 dX10_mine_85 w_1159 rfl (by decide) f336 rfl ?_
          refine tw_iload_n 2 dX10_mine_88 rfl rfl ?_
          refine tw_dup2 dX10_mine_89 rfl rfl ?_
          obtain ⟨e370, f371, F372, rfl, ⟨b374, ow375, wv376⟩⟩ := sp332.1 cm_344 31 k353 (by decide)
          obtain rfl : 1368 = b374 := (ow375.b k369).symm
          have ev377 : F372 ((nI k)).toNatClampNeg = (g.1 (1368 + k)).toInt64 := by rw [nI_clamp (by omega)]; exact wv376 k (by omega)
          refine tw_lald (v := (g.1 (1368 + k)).toInt64) dX10_mine_90 f371 (vp_in_nI (by omega) (by decide)) ev377 ?_
          refine tw_iload_n 3 dX10_mine_91 rfl rfl ?_
          refine tw_i2l dX10_mine_92 ?_
          refine tw_nml (fun v378 ev378 => ?_)
          refine tw_ladd dX10_mine_93 ?_
          refine tw_nml (fun v379 ev379 => ?_)
          have ce380 : (g.1 (1368 + k)) = nI (tw_DN (g.1 (1368 + k))) := by (repeat (first | rw [tw_ad_ne (by omega)] | rw [tw_g1_ne (by omega)])); exact (he.s (s := 3) (k := k) (by decide) (by omega)).1
          have cb381 : tw_DN (g.1 (1368 + k)) ≤ 59000000 := (he.s (s := 3) (k := k) (by decide) (by omega)).2
          refine tw_last dX10_mine_94 f371 (vp_in_nI (by omega) (by decide)) ?_
          rw [nI_clamp (by omega)]
          obtain ⟨h382, eh382⟩ : ∃ z : tw_H, z = tw_up h322 cm_344 (.inl (d.2 1, 2, .inr (.inl (vp_updL F372 k v379)))) := ⟨_, rfl⟩
          rw [← eh382]
          have th383 : tw_th (h382 x) = 0 := by rw [eh382, tw_up_n (tw_nk kx k353 (by decide))] <;> exact th331
          have oq384 : h382 o = h o := by rw [eh382, tw_up_n (tw_nk ko k353 (by decide))] <;> exact oq333
          have sp385 : tw_sp d τ h (tw_ad g (1368 + k) (nI n9)) τ h382 := by rw [eh382]; exact sp332.wb k353 (by decide) ow375 ⟨_, rfl, tw_f31.up ow375 wv376 (ev379.trans (tw_l_add ce380 (ev378.trans (tw_L_i (by omega))) (by omega)))⟩ (fun q9 hq9 => tw_ad_ne (by omega)) rfl
          refine tw_aload_n 0 dX10_mine_95 rfl rfl ?_
          obtain ⟨e386, f387, th_388, td_389, ds_390, fr_391, ca_392, us_393, wo_394, cm_395, lc_396, lh_397, ld_398, rfl, k399, k400, k401, k402, k403, k404, k405, k406, k407, k408, k409, k410, k411, k412, k413, k414, k415, k416, k417, k418, k419, k420⟩ := sp385.1 x 36 kx (by decide)
          refine tw_get (v := .ref lc_396) rfl in_14 9 dX10_mine_96 w_1160 rfl (by decide) f387 rfl ?_
          refine tw_iload_n 1 dX10_mine_99 rfl rfl ?_
          obtain ⟨e424, f425, ⟨el426, rfl, k427⟩, k428⟩ := sp385.1 lc_396 24 k405 (by decide)
          refine tw_br (tw_callV (M := mX10_mine) (pc := 100) okJx4a65c_get_915e3 dX10_mine_100 w_1292 rfl f425 [.int (nI jn)] [] rfl rfl ⟨by decide, by decide⟩ (Nat.le_of_ble_eq_true rfl) (c24_get d (tw_ad g (1368 + k) (nI n9)) τ h382 sp385.1 lc_396 k405 jn (show jn < g.2 3 by omega) (show g.2 3 < 2 ^ 31 by omega)) 0 0 (Nat.le_of_ble_eq_true rfl) (Nat.le_of_ble_eq_true rfl)) (fun r431 h430 q429 => ?_) (fun E h1 q => q.elim)
          obtain ⟨q429e, q429k⟩ := q429
          rw [q429e]
          have el432 : tw_el h382 ((tw_ad g (1368 + k) (nI n9)).2 12) jn = r431 := by rw [← k428]; exact q429k.2.symm
          have kl433 : τ ((tw_ad g (1368 + k) (nI n9)).2 12) = 24 := by rw [← k428]; exact k405
          have id434 : (tw_ad g (1368 + k) (nI n9)).2 (4096 + r431) = 480 + 64 * jn := by rw [← el432]; exact tw_eli24 sp385.1 kl433 (show jn < g.2 3 by omega)
          obtain ⟨e435, f436, r_437, c_438, v_439, o_440, t_441, rfl, k442, k443, k444, k445, k446, k447⟩ := sp385.1 r431 21 q429k.1 (by decide)
          obtain ⟨j448, ow449, fr9, fc9, q450, q451, q452⟩ := k447
          obtain rfl : jn = j448 := by have z := ow449.b id434; omega
          subst fr9 fc9
          refine tw_castS (ci := 11) rfl dX10_mine_103 w_1208 f436 ?_
          refine tw_get (v := .ref v_439) rfl in_11 2 dX10_mine_106 w_1217 rfl (by decide) f436 rfl ?_
          refine tw_iload_n 2 dX10_mine_109 rfl rfl ?_
          refine tw_dup2 dX10_mine_110 rfl rfl ?_
          obtain ⟨e453, f454, F455, rfl, ⟨b457, ow458, wv459⟩⟩ := sp385.1 v_439 31 k442 (by decide)
          obtain rfl : (480 + 64 * jn + 16) = b457 := (ow458.b q452).symm
          have ev460 : F455 ((nI k)).toNatClampNeg = ((tw_ad g (1368 + k) (nI n9)).1 ((480 + 64 * jn + 16) + k)).toInt64 := by rw [nI_clamp (by omega)]; exact wv459 k (by omega)
          refine tw_lald (v := ((tw_ad g (1368 + k) (nI n9)).1 ((480 + 64 * jn + 16) + k)).toInt64) dX10_mine_111 f454 (vp_in_nI (by omega) (by decide)) ev460 ?_
          refine tw_iload_n 3 dX10_mine_112 rfl rfl ?_
          refine tw_i2l dX10_mine_113 ?_
          refine tw_nml (fun v461 ev461 => ?_)
          refine tw_ladd dX10_mine_114 ?_
          refine tw_nml (fun v462 ev462 => ?_)
          have ce463 : ((tw_ad g (1368 + k) (nI n9)).1 ((480 + 64 * jn + 16) + k)) = nI (tw_DN (g.1 ((480 + 64 * jn + 16) + k))) := by (repeat (first | rw [tw_ad_ne (by omega)] | rw [tw_g1_ne (by omega)])); exact (he.v (j := jn) (k := k) (by omega) (by omega)).1
          have cb464 : tw_DN (g.1 ((480 + 64 * jn + 16) + k)) ≤ 59000000 := (he.v (j := jn) (k := k) (by omega) (by omega)).2
          refine tw_last dX10_mine_115 f454 (vp_in_nI (by omega) (by decide)) ?_
          rw [nI_clamp (by omega)]
          obtain ⟨h465, eh465⟩ : ∃ z : tw_H, z = tw_up h382 v_439 (.inl (d.2 1, 2, .inr (.inl (vp_updL F455 k v462)))) := ⟨_, rfl⟩
          rw [← eh465]
          have th466 : tw_th (h465 x) = 0 := by rw [eh465, tw_up_n (tw_nk kx k442 (by decide))] <;> exact th383
          have oq467 : h465 o = h o := by rw [eh465, tw_up_n (tw_nk ko k442 (by decide))] <;> exact oq384
          have sp468 : tw_sp d τ h (tw_ad (tw_ad g (1368 + k) (nI n9)) ((480 + 64 * jn + 16) + k) (nI n9)) τ h465 := by rw [eh465]; exact sp385.wb k442 (by decide) ow458 ⟨_, rfl, tw_f31.up ow458 wv459 (ev462.trans (tw_l_add ce463 (ev461.trans (tw_L_i (by omega))) (by omega)))⟩ (fun q9 hq9 => tw_ad_ne (by omega)) rfl
          refine tw_aload_n 0 dX10_mine_116 rfl rfl ?_
          obtain ⟨e469, f470, th_471, td_472, ds_473, fr_474, ca_475, us_476, wo_477, cm_478, lc_479, lh_480, ld_481, rfl, k482, k483, k484, k485, k486, k487, k488, k489, k490, k491, k492, k493, k494, k495, k496, k497, k498, k499, k500, k501, k502, k503⟩ := sp468.1 x 36 kx (by decide)
          refine tw_get (v := .ref lc_479) rfl in_14 9 dX10_mine_117 w_1160 rfl (by decide) f470 rfl ?_
          refine tw_iload_n 1 dX10_mine_120 rfl rfl ?_
          obtain ⟨e507, f508, ⟨el509, rfl, k510⟩, k511⟩ := sp468.1 lc_479 24 k488 (by decide)
          refine tw_br (tw_callV (M := mX10_mine) (pc := 121) okJx4a65c_get_915e3 dX10_mine_121 w_1292 rfl f508 [.int (nI jn)] [] rfl rfl ⟨by decide, by decide⟩ (Nat.le_of_ble_eq_true rfl) (c24_get d (tw_ad (tw_ad g (1368 + k) (nI n9)) ((480 + 64 * jn + 16) + k) (nI n9)) τ h465 sp468.1 lc_479 k488 jn (show jn < g.2 3 by omega) (show g.2 3 < 2 ^ 31 by omega)) 0 0 (Nat.le_of_ble_eq_true rfl) (Nat.le_of_ble_eq_true rfl)) (fun r514 h513 q512 => ?_) (fun E h1 q => q.elim)
          obtain ⟨q512e, q512k⟩ := q512
          rw [q512e]
          have el515 : tw_el h465 ((tw_ad (tw_ad g (1368 + k) (nI n9)) ((480 + 64 * jn + 16) + k) (nI n9)).2 12) jn = r514 := by rw [← k511]; exact q512k.2.symm
          have kl516 : τ ((tw_ad (tw_ad g (1368 + k) (nI n9)) ((480 + 64 * jn + 16) + k) (nI n9)).2 12) = 24 := by rw [← k511]; exact k488
          have id517 : (tw_ad (tw_ad g (1368 + k) (nI n9)) ((480 + 64 * jn + 16) + k) (nI n9)).2 (4096 + r514) = 480 + 64 * jn := by rw [← el515]; exact tw_eli24 sp468.1 kl516 (show jn < g.2 3 by omega)
          obtain ⟨e518, f519, r_520, c_521, v_522, o_523, t_524, rfl, k525, k526, k527, k528, k529, k530⟩ := sp468.1 r514 21 q512k.1 (by decide)
          obtain ⟨j531, ow532, fr9, fc9, q533, q534, q535⟩ := k530
          obtain rfl : jn = j531 := by have z := ow532.b id517; omega
          subst fr9 fc9
          refine tw_castS (ci := 11) rfl dX10_mine_124 w_1208 f519 ?_
          refine tw_get (v := .ref v_522) rfl in_11 2 dX10_mine_127 w_1217 rfl (by decide) f519 rfl ?_
          refine tw_iload_n 2 dX10_mine_130 rfl rfl ?_
          obtain ⟨e536, f537, F538, rfl, ⟨b540, ow541, wv542⟩⟩ := sp468.1 v_522 31 k525 (by decide)
          obtain rfl : (480 + 64 * jn + 16) = b540 := (ow541.b q535).symm
          have ev543 : F538 ((nI k)).toNatClampNeg = ((tw_ad (tw_ad g (1368 + k) (nI n9)) ((480 + 64 * jn + 16) + k) (nI n9)).1 ((480 + 64 * jn + 16) + k)).toInt64 := by rw [nI_clamp (by omega)]; exact wv542 k (by omega)
          refine tw_lald (v := ((tw_ad (tw_ad g (1368 + k) (nI n9)) ((480 + 64 * jn + 16) + k) (nI n9)).1 ((480 + 64 * jn + 16) + k)).toInt64) dX10_mine_131 f537 (vp_in_nI (by omega) (by decide)) ev543 ?_
          refine tw_l2i dX10_mine_132 ?_
          refine tw_nmi (fun v544 ev544 => ?_)
          exact tw_iret dX10_mine_133 rfl (Or.inl ⟨_, rfl, _, _, sp468, oq467, Or.inr (Or.inr (Or.inr (⟨ix0, rc9, (by (try rw [cDn]); (try rw [cDm]); (try rw [cDgr]); first | done | exact lc9), (by (try rw [cDn]); (try rw [cDm]); (try rw [cDgr]); first | done | exact (by rw [ev544, Int32.toInt32_toInt64, tw_ad_eq, tw_ad_ne (by omega)])), th466, (by (try rw [cDn]); (try rw [cDm]); (try rw [cDgr]); first | done | exact (tw_adm (by omega)))⟩)))⟩)
        · have hv9 := he.v (j := jn) (k := k) (by omega) hk
          have cv9 := c317
          have wL : v315 = tw_L (tw_DN (g.1 (480 + 64 * jn + 16 + k)) + n9) := by rw [ev315]; exact (tw_l_add hv9.1 (ev314.trans (tw_L_i (by omega))) (by omega)).trans (by rw [hv9.1, tw_niadd, tw_DN_nI (by omega)]; exact tw_L_i (by omega))
          rw [ev316, wL] at cv9
          have lc9 : ¬ (tw_DN (g.1 (480 + 64 * jn + 16 + k)) + n9 ≤ 999999) := by have z := tw_cmp_gt (a := tw_DN (g.1 (480 + 64 * jn + 16 + k)) + n9) (b := 999999) (by omega) (by decide); exact fun y => absurd (z.mp (Int32.not_le.mp cv9)) (by omega)
          refine tw_iconst (v := 1) dX10_mine_70 (by decide) ?_
          refine tw_goto 75 dX10_mine_71 (by decide) ?_
          refine tw_iconst (v := 3) dX10_mine_75 (by decide) ?_
          refine tw_bi (tw_callV (M := mX10_mine) (pc := 76) okX10_refuse dX10_mine_76 w_1200 rfl f240 [.int 1, .int 3] [] rfl rfl ⟨by decide, by decide⟩ (Nat.le_of_ble_eq_true rfl) (c_X10_refuse d g τ h226 sp236.1 x kx 1 3 (by decide)) 0 0 (Nat.le_of_ble_eq_true rfl) (Nat.le_of_ble_eq_true rfl)) (fun r550 h549 q548 => ?_) (fun E h1 q => q.elim)
          obtain ⟨e551, he552, hs553, hr554, hc555⟩ := q548
          obtain ⟨rz556, tz557⟩ := (hc555 th235).2 rfl
          have th558 : tw_th (h549 x) = 3 := by rw [he552, tw_up_s]; exact tz557
          have sp559 : tw_sp d τ h g τ h549 := by rw [he552]; exact sp236.set kx (by decide) hs553
          rw [rz556]
          have oq560 : h549 o = h o := by rw [he552, tw_up_n (tw_nk ko kx (by decide))] <;> exact oq237
          refine tw_if_eq 84 dX10_mine_79 (by decide) (fun c561 => absurd c561 (by decide)) (fun _ => ?_)
          refine tw_iconst (v := 0) dX10_mine_82 (by decide) ?_
          exact tw_iret dX10_mine_83 rfl (Or.inl ⟨_, rfl, _, _, sp559, oq560, Or.inr (Or.inr (Or.inl ⟨ix0, rc9, (by (try rw [cDn]); (try rw [cDm]); (try rw [cDgr]); first | done | exact lc9), th558, rfl⟩))⟩)

set_option maxHeartbeats 4000000 in
set_option maxRecDepth 100000 in
theorem c2_X10_use (d : tw_D) (g : tw_G) (τ : tw_K) (h : tw_H) (hw : tw_wt d g τ h) (x : Nat) (kx : τ x = 36) (n : Int32) (m : Int32) (gr : Int32) (o : Nat) (ko : τ o = 12) (he : tw_AM 59000000 g) : tw_Ct d mX10_use 0 0 [.ref x, .int n, .int m, .int gr] h (tw_qi (fun r9 h1 => ∃ g1 τ1, tw_sp d τ h g1 τ1 h1 ∧ h1 o = h o ∧ ((¬ (tw_ix (g.2 3) n) ∧ tw_th (h1 x) = 1 ∧ g1 = g) ∨ ((tw_ix (g.2 3) n) ∧ ¬ (tw_RG1 m gr) ∧ tw_th (h1 x) = 2 ∧ g1 = g) ∨ ((tw_ix (g.2 3) n) ∧ (tw_RG1 m gr) ∧ ¬ (tw_DN gr ≤ tw_DN (g.1 (480 + 64 * tw_DN n + 16 + tw_DN m))) ∧ tw_th (h1 x) = 3 ∧ g1 = g) ∨ ((tw_ix (g.2 3) n) ∧ (tw_RG1 m gr) ∧ (tw_DN gr ≤ tw_DN (g.1 (480 + 64 * tw_DN n + 16 + tw_DN m))) ∧ r9 = g.1 (480 + 64 * tw_DN n + 16 + tw_DN m) + -gr ∧ tw_th (h1 x) = 0 ∧ g1 = tw_ad (tw_ad g (480 + 64 * tw_DN n + 16 + tw_DN m) (-gr)) (1352 + tw_DN m) gr))) tw_nx) := by
  refine tw_of (by decide +kernel) (Nat.le_of_ble_eq_true rfl) ?_
  show tw_W d mX10_use _ 0 [(0, .ref x), (1, .int n), (2, .int m), (3, .int gr)] [] h 0 0
  have sp0 := tw_sp.rf hw
  have oq0 : h o = h o := rfl
  have b93 := tw_b3 hw kx
  refine tw_aload_n 0 dX10_use_0 rfl rfl ?_
  refine tw_aload_n 0 dX10_use_1 rfl rfl ?_
  refine tw_iload_n 1 dX10_use_2 rfl rfl ?_
  obtain ⟨e4, f5, th_6, td_7, ds_8, fr_9, ca_10, us_11, wo_12, cm_13, lc_14, lh_15, ld_16, rfl, k17, k18, k19, k20, k21, k22, k23, k24, k25, k26, k27, k28, k29, k30, k31, k32, k33, k34, k35, k36, k37, k38⟩ := sp0.1 x 36 kx (by decide)
  refine tw_bi (tw_callV (M := mX10_use) (pc := 3) okX10_isNoCountry dX10_use_3 w_1288 rfl f5 [.int n] [.ref x] rfl rfl ⟨by decide, by decide⟩ (Nat.le_of_ble_eq_true rfl) (c2_X10_isNoCountry d g τ h sp0.1 x kx n) 0 0 (Nat.le_of_ble_eq_true rfl) (Nat.le_of_ble_eq_true rfl)) (fun r3 h2 q1 => ?_) (fun E h1 q => q.elim)
  obtain ⟨q1e, q1d⟩ := q1
  rw [q1e]
  rcases q1d with ⟨q1r, q1n⟩ | ⟨q1r, q1i⟩
  · rw [q1r]
    refine tw_iconst (v := 1) dX10_use_6 (by decide) ?_
    refine tw_bi (tw_callV (M := mX10_use) (pc := 7) okX10_start dX10_use_7 w_1196 rfl f5 [.int 1, .int 1] [] rfl rfl ⟨by decide, by decide⟩ (Nat.le_of_ble_eq_true rfl) (c_X10_start d g τ h sp0.1 x kx 1 1 (by decide)) 0 0 (Nat.le_of_ble_eq_true rfl) (Nat.le_of_ble_eq_true rfl)) (fun r44 h43 q42 => ?_) (fun E h1 q => q.elim)
    obtain ⟨e45, he46, hs47, hr48, hc49⟩ := q42
    obtain ⟨rz50, tz51⟩ := hc49.2 rfl
    have th52 : tw_th (h43 x) = 1 := by rw [he46, tw_up_s]; exact tz51
    have sp53 : tw_sp d τ h g τ h43 := by rw [he46]; exact sp0.set kx (by decide) hs47
    rw [rz50]
    have oq54 : h43 o = h o := by rw [he46, tw_up_n (tw_nk ko kx (by decide))] <;> exact oq0
    refine tw_if_ne 78 dX10_use_10 (by decide) (fun _ => ?_) (fun c55 => absurd c55 (by decide))
    refine tw_iconst (v := 0) dX10_use_78 (by decide) ?_
    exact tw_iret dX10_use_79 rfl (Or.inl ⟨_, rfl, _, _, sp53, oq54, Or.inl ⟨q1n, th52, rfl⟩⟩)
  · rw [q1r]
    have q1x := q1i
    obtain ⟨jn, q1j, q1k⟩ := q1i
    subst q1k
    have cDn : tw_DN (nI jn) = jn := nI_clamp (by omega)
    have ix0 := q1x
    refine tw_iconst (v := 1) dX10_use_6 (by decide) ?_
    refine tw_bi (tw_callV (M := mX10_use) (pc := 7) okX10_start dX10_use_7 w_1196 rfl f5 [.int 0, .int 1] [] rfl rfl ⟨by decide, by decide⟩ (Nat.le_of_ble_eq_true rfl) (c_X10_start d g τ h sp0.1 x kx 0 1 (by decide)) 0 0 (Nat.le_of_ble_eq_true rfl) (Nat.le_of_ble_eq_true rfl)) (fun r61 h60 q59 => ?_) (fun E h1 q => q.elim)
    obtain ⟨e62, he63, hs64, hr65, hc66⟩ := q59
    obtain ⟨rz67, tz68⟩ := hc66.1 rfl
    have th69 : tw_th (h60 x) = 0 := by rw [he63, tw_up_s]; exact tz68
    have sp70 : tw_sp d τ h g τ h60 := by rw [he63]; exact sp0.set kx (by decide) hs64
    rw [rz67]
    have oq71 : h60 o = h o := by rw [he63, tw_up_n (tw_nk ko kx (by decide))] <;> exact oq0
    refine tw_if_ne 78 dX10_use_10 (by decide) (fun c72 => absurd (by decide) c72) (fun _ => ?_)
    refine tw_aload_n 0 dX10_use_13 rfl rfl ?_
    refine tw_iload_n 2 dX10_use_14 rfl rfl ?_
    refine tw_bi (tw_callS (M := mX10_use) (pc := 15) okX10_isNoMetal dX10_use_15 w_1308 [.int m] [.ref x] rfl rfl ⟨by decide, by decide⟩ (Nat.le_of_ble_eq_true rfl) (c2_X10_isNoMetal d g τ h60 sp70.1 m) 0 0 (Nat.le_of_ble_eq_true rfl) (Nat.le_of_ble_eq_true rfl)) (fun r75 h74 q73 => ?_) (fun E h1 q => q.elim)
    obtain ⟨q73e, q73d⟩ := q73
    rw [q73e]
    rcases q73d with ⟨q73r, q73n⟩ | ⟨q73r, q73i⟩
    · rw [q73r]
      refine tw_if_ne 31 dX10_use_18 (by decide) (fun _ => ?_) (fun c76 => absurd c76 (by decide))
      refine tw_iconst (v := 1) dX10_use_31 (by decide) ?_
      refine tw_goto 36 dX10_use_32 (by decide) ?_
      refine tw_iconst (v := 2) dX10_use_36 (by decide) ?_
      obtain ⟨e80, f81, th_82, td_83, ds_84, fr_85, ca_86, us_87, wo_88, cm_89, lc_90, lh_91, ld_92, rfl, k93, k94, k95, k96, k97, k98, k99, k100, k101, k102, k103, k104, k105, k106, k107, k108, k109, k110, k111, k112, k113, k114⟩ := sp70.1 x 36 kx (by decide)
      refine tw_bi (tw_callV (M := mX10_use) (pc := 37) okX10_refuse dX10_use_37 w_1200 rfl f81 [.int 1, .int 2] [] rfl rfl ⟨by decide, by decide⟩ (Nat.le_of_ble_eq_true rfl) (c_X10_refuse d g τ h60 sp70.1 x kx 1 2 (by decide)) 0 0 (Nat.le_of_ble_eq_true rfl) (Nat.le_of_ble_eq_true rfl)) (fun r117 h116 q115 => ?_) (fun E h1 q => q.elim)
      obtain ⟨e118, he119, hs120, hr121, hc122⟩ := q115
      obtain ⟨rz123, tz124⟩ := (hc122 th69).2 rfl
      have th125 : tw_th (h116 x) = 2 := by rw [he119, tw_up_s]; exact tz124
      have sp126 : tw_sp d τ h g τ h116 := by rw [he119]; exact sp70.set kx (by decide) hs120
      rw [rz123]
      have oq127 : h116 o = h o := by rw [he119, tw_up_n (tw_nk ko kx (by decide))] <;> exact oq71
      refine tw_if_ne 78 dX10_use_40 (by decide) (fun _ => ?_) (fun c128 => absurd c128 (by decide))
      refine tw_iconst (v := 0) dX10_use_78 (by decide) ?_
      exact tw_iret dX10_use_79 rfl (Or.inl ⟨_, rfl, _, _, sp126, oq127, Or.inr (Or.inl ⟨ix0, fun z => q73n z.1, th125, rfl⟩)⟩)
    · rw [q73r]
      have rcm := q73i
      obtain ⟨k, hk, km⟩ := q73i.k
      subst km
      have cDm : tw_DN (nI k) = k := nI_clamp (by omega)
      refine tw_if_ne 31 dX10_use_18 (by decide) (fun c129 => absurd (by decide) c129) (fun _ => ?_)
      refine tw_iload_n 3 dX10_use_21 rfl rfl ?_
      refine tw_iconst (v := 1) dX10_use_22 (by decide) ?_
      refine tw_ldc (v := 99999) dX10_use_23 w_1195 ?_
      refine tw_bi (tw_callS (M := mX10_use) (pc := 25) okX10_isIn dX10_use_25 w_1192 [.int gr, .int 1, .int 99999] [.ref x] rfl rfl ⟨by decide, by decide⟩ (Nat.le_of_ble_eq_true rfl) (c_X10_isIn d g τ h60 sp70.1 gr 1 99999) 0 0 (Nat.le_of_ble_eq_true rfl) (Nat.le_of_ble_eq_true rfl)) (fun r132 h131 q130 => ?_) (fun E h1 q => q.elim)
      obtain ⟨q130e, q130d⟩ := q130
      rw [q130e]
      rcases q130d with ⟨q130r, q130n⟩ | ⟨q130r, rlgr⟩
      · rw [q130r]
        refine tw_if_ne 35 dX10_use_28 (by decide) (fun c133 => absurd (by decide) c133) (fun _ => ?_)
        refine tw_iconst (v := 1) dX10_use_31 (by decide) ?_
        refine tw_goto 36 dX10_use_32 (by decide) ?_
        refine tw_iconst (v := 2) dX10_use_36 (by decide) ?_
        obtain ⟨e137, f138, th_139, td_140, ds_141, fr_142, ca_143, us_144, wo_145, cm_146, lc_147, lh_148, ld_149, rfl, k150, k151, k152, k153, k154, k155, k156, k157, k158, k159, k160, k161, k162, k163, k164, k165, k166, k167, k168, k169, k170, k171⟩ := sp70.1 x 36 kx (by decide)
        refine tw_bi (tw_callV (M := mX10_use) (pc := 37) okX10_refuse dX10_use_37 w_1200 rfl f138 [.int 1, .int 2] [] rfl rfl ⟨by decide, by decide⟩ (Nat.le_of_ble_eq_true rfl) (c_X10_refuse d g τ h60 sp70.1 x kx 1 2 (by decide)) 0 0 (Nat.le_of_ble_eq_true rfl) (Nat.le_of_ble_eq_true rfl)) (fun r174 h173 q172 => ?_) (fun E h1 q => q.elim)
        obtain ⟨e175, he176, hs177, hr178, hc179⟩ := q172
        obtain ⟨rz180, tz181⟩ := (hc179 th69).2 rfl
        have th182 : tw_th (h173 x) = 2 := by rw [he176, tw_up_s]; exact tz181
        have sp183 : tw_sp d τ h g τ h173 := by rw [he176]; exact sp70.set kx (by decide) hs177
        rw [rz180]
        have oq184 : h173 o = h o := by rw [he176, tw_up_n (tw_nk ko kx (by decide))] <;> exact oq71
        refine tw_if_ne 78 dX10_use_40 (by decide) (fun _ => ?_) (fun c185 => absurd c185 (by decide))
        refine tw_iconst (v := 0) dX10_use_78 (by decide) ?_
        exact tw_iret dX10_use_79 rfl (Or.inl ⟨_, rfl, _, _, sp183, oq184, Or.inr (Or.inl ⟨ix0, fun z => q130n z.2, th182, rfl⟩)⟩)
      · rw [q130r]
        have rc9 : tw_RG1 (nI k) gr := ⟨rcm, rlgr⟩
        obtain ⟨n9, hn1, hn, en⟩ := tw_gr1 rlgr
        subst en
        have cDgr : tw_DN (nI n9) = n9 := nI_clamp (by omega)
        refine tw_if_ne 35 dX10_use_28 (by decide) (fun _ => ?_) (fun c186 => absurd c186 (by decide))
        refine tw_iconst (v := 0) dX10_use_35 (by decide) ?_
        refine tw_iconst (v := 2) dX10_use_36 (by decide) ?_
        obtain ⟨e190, f191, th_192, td_193, ds_194, fr_195, ca_196, us_197, wo_198, cm_199, lc_200, lh_201, ld_202, rfl, k203, k204, k205, k206, k207, k208, k209, k210, k211, k212, k213, k214, k215, k216, k217, k218, k219, k220, k221, k222, k223, k224⟩ := sp70.1 x 36 kx (by decide)
        refine tw_bi (tw_callV (M := mX10_use) (pc := 37) okX10_refuse dX10_use_37 w_1200 rfl f191 [.int 0, .int 2] [] rfl rfl ⟨by decide, by decide⟩ (Nat.le_of_ble_eq_true rfl) (c_X10_refuse d g τ h60 sp70.1 x kx 0 2 (by decide)) 0 0 (Nat.le_of_ble_eq_true rfl) (Nat.le_of_ble_eq_true rfl)) (fun r227 h226 q225 => ?_) (fun E h1 q => q.elim)
        obtain ⟨e228, he229, hs230, hr231, hc232⟩ := q225
        obtain ⟨rz233, tz234⟩ := (hc232 th69).1 rfl
        have th235 : tw_th (h226 x) = 0 := by rw [he229, tw_up_s]; exact tz234
        have sp236 : tw_sp d τ h g τ h226 := by rw [he229]; exact sp70.set kx (by decide) hs230
        rw [rz233]
        have oq237 : h226 o = h o := by rw [he229, tw_up_n (tw_nk ko kx (by decide))] <;> exact oq71
        refine tw_if_ne 78 dX10_use_40 (by decide) (fun c238 => absurd (by decide) c238) (fun _ => ?_)
        refine tw_aload_n 0 dX10_use_43 rfl rfl ?_
        refine tw_aload_n 0 dX10_use_44 rfl rfl ?_
        obtain ⟨e239, f240, th_241, td_242, ds_243, fr_244, ca_245, us_246, wo_247, cm_248, lc_249, lh_250, ld_251, rfl, k252, k253, k254, k255, k256, k257, k258, k259, k260, k261, k262, k263, k264, k265, k266, k267, k268, k269, k270, k271, k272, k273⟩ := sp236.1 x 36 kx (by decide)
        refine tw_get (v := .ref lc_249) rfl in_14 9 dX10_use_45 w_1160 rfl (by decide) f240 rfl ?_
        refine tw_iload_n 1 dX10_use_48 rfl rfl ?_
        obtain ⟨e277, f278, ⟨el279, rfl, k280⟩, k281⟩ := sp236.1 lc_249 24 k258 (by decide)
        refine tw_br (tw_callV (M := mX10_use) (pc := 49) okJx4a65c_get_915e3 dX10_use_49 w_1292 rfl f278 [.int (nI jn)] [.ref x] rfl rfl ⟨by decide, by decide⟩ (Nat.le_of_ble_eq_true rfl) (c24_get d g τ h226 sp236.1 lc_249 k258 jn (by omega) (by omega)) 0 0 (Nat.le_of_ble_eq_true rfl) (Nat.le_of_ble_eq_true rfl)) (fun r284 h283 q282 => ?_) (fun E h1 q => q.elim)
        obtain ⟨q282e, q282k⟩ := q282
        rw [q282e]
        have el285 : tw_el h226 (g.2 12) jn = r284 := by rw [← k281]; exact q282k.2.symm
        have kl286 : τ (g.2 12) = 24 := by rw [← k281]; exact k258
        have id287 : g.2 (4096 + r284) = 480 + 64 * jn := by rw [← el285]; exact tw_eli24 sp236.1 kl286 (by omega)
        obtain ⟨e288, f289, r_290, c_291, v_292, o_293, t_294, rfl, k295, k296, k297, k298, k299, k300⟩ := sp236.1 r284 21 q282k.1 (by decide)
        obtain ⟨j301, ow302, fr9, fc9, q303, q304, q305⟩ := k300
        obtain rfl : jn = j301 := by have z := ow302.b id287; omega
        subst fr9 fc9
        refine tw_castS (ci := 11) rfl dX10_use_52 w_1208 f289 ?_
        refine tw_get (v := .ref v_292) rfl in_11 2 dX10_use_55 w_1217 rfl (by decide) f289 rfl ?_
        refine tw_iload_n 2 dX10_use_58 rfl rfl ?_
        obtain ⟨e306, f307, F308, rfl, ⟨b310, ow311, wv312⟩⟩ := sp236.1 v_292 31 k295 (by decide)
        obtain rfl : (480 + 64 * jn + 16) = b310 := (ow311.b q305).symm
        have ev313 : F308 ((nI k)).toNatClampNeg = (g.1 ((480 + 64 * jn + 16) + k)).toInt64 := by rw [nI_clamp (by omega)]; exact wv312 k (by omega)
        refine tw_lald (v := (g.1 ((480 + 64 * jn + 16) + k)).toInt64) dX10_use_59 f307 (vp_in_nI (by omega) (by decide)) ev313 ?_
        refine tw_iload_n 3 dX10_use_60 rfl rfl ?_
        refine tw_i2l dX10_use_61 ?_
        refine tw_nml (fun v314 ev314 => ?_)
        refine tw_lcmp dX10_use_62 ?_
        refine tw_nmi (fun v315 ev315 => ?_)
        refine tw_if_ge 70 dX10_use_63 (by decide) (fun c316 => ?_) (fun c316 => ?_)
        · have hv9 := he.v (j := jn) (k := k) (by omega) hk
          have cv9 := c316
          rw [ev315, (ev314.trans (tw_L_i (by omega))), show (g.1 (480 + 64 * jn + 16 + k)).toInt64 = tw_L (tw_DN (g.1 (480 + 64 * jn + 16 + k))) from by rw [hv9.1, tw_DN_nI (by omega)]; exact tw_L_i (by omega)] at cv9
          have lc9 : (n9 ≤ tw_DN (g.1 (480 + 64 * jn + 16 + k))) := (tw_cmp_ge (by omega) (by omega)).mp cv9
          refine tw_iconst (v := 0) dX10_use_70 (by decide) ?_
          refine tw_iconst (v := 3) dX10_use_71 (by decide) ?_
          refine tw_bi (tw_callV (M := mX10_use) (pc := 72) okX10_refuse dX10_use_72 w_1200 rfl f240 [.int 0, .int 3] [] rfl rfl ⟨by decide, by decide⟩ (Nat.le_of_ble_eq_true rfl) (c_X10_refuse d g τ h226 sp236.1 x kx 0 3 (by decide)) 0 0 (Nat.le_of_ble_eq_true rfl) (Nat.le_of_ble_eq_true rfl)) (fun r322 h321 q320 => ?_) (fun E h1 q => q.elim)
          obtain ⟨e323, he324, hs325, hr326, hc327⟩ := q320
          obtain ⟨rz328, tz329⟩ := (hc327 th235).1 rfl
          have th330 : tw_th (h321 x) = 0 := by rw [he324, tw_up_s]; exact tz329
          have sp331 : tw_sp d τ h g τ h321 := by rw [he324]; exact sp236.set kx (by decide) hs325
          rw [rz328]
          have oq332 : h321 o = h o := by rw [he324, tw_up_n (tw_nk ko kx (by decide))] <;> exact oq237
          refine tw_if_eq 80 dX10_use_75 (by decide) (fun _ => ?_) (fun c333 => absurd (by decide) c333)
          refine tw_aload_n 0 dX10_use_80 rfl rfl ?_
          obtain ⟨e334, f335, th_336, td_337, ds_338, fr_339, ca_340, us_341, wo_342, cm_343, lc_344, lh_345, ld_346, rfl, k347, k348, k349, k350, k351, k352, k353, k354, k355, k356, k357, k358, k359, k360, k361, k362, k363, k364, k365, k366, k367, k368⟩ := sp331.1 x 36 kx (by decide)
          refine tw_get (v := .ref us_341) rfl in_14 6 dX10_use_81 w_1157 rfl (by decide) f335 rfl ?_
          refine tw_iload_n 2 dX10_use_84 rfl rfl ?_
          refine tw_dup2 dX10_use_85 rfl rfl ?_
          obtain ⟨e369, f370, F371, rfl, ⟨b373, ow374, wv375⟩⟩ := sp331.1 us_341 31 k350 (by decide)
          obtain rfl : 1352 = b373 := (ow374.b k366).symm
          have ev376 : F371 ((nI k)).toNatClampNeg = (g.1 (1352 + k)).toInt64 := by rw [nI_clamp (by omega)]; exact wv375 k (by omega)
          refine tw_lald (v := (g.1 (1352 + k)).toInt64) dX10_use_86 f370 (vp_in_nI (by omega) (by decide)) ev376 ?_
          refine tw_iload_n 3 dX10_use_87 rfl rfl ?_
          refine tw_i2l dX10_use_88 ?_
          refine tw_nml (fun v377 ev377 => ?_)
          refine tw_ladd dX10_use_89 ?_
          refine tw_nml (fun v378 ev378 => ?_)
          have ce379 : (g.1 (1352 + k)) = nI (tw_DN (g.1 (1352 + k))) := by (repeat (first | rw [tw_ad_ne (by omega)] | rw [tw_g1_ne (by omega)])); exact (he.s (s := 1) (k := k) (by decide) (by omega)).1
          have cb380 : tw_DN (g.1 (1352 + k)) ≤ 59000000 := (he.s (s := 1) (k := k) (by decide) (by omega)).2
          refine tw_last dX10_use_90 f370 (vp_in_nI (by omega) (by decide)) ?_
          rw [nI_clamp (by omega)]
          obtain ⟨h381, eh381⟩ : ∃ z : tw_H, z = tw_up h321 us_341 (.inl (d.2 1, 2, .inr (.inl (vp_updL F371 k v378)))) := ⟨_, rfl⟩
          rw [← eh381]
          have th382 : tw_th (h381 x) = 0 := by rw [eh381, tw_up_n (tw_nk kx k350 (by decide))] <;> exact th330
          have oq383 : h381 o = h o := by rw [eh381, tw_up_n (tw_nk ko k350 (by decide))] <;> exact oq332
          have sp384 : tw_sp d τ h (tw_ad g (1352 + k) (nI n9)) τ h381 := by rw [eh381]; exact sp331.wb k350 (by decide) ow374 ⟨_, rfl, tw_f31.up ow374 wv375 (ev378.trans (tw_l_add ce379 (ev377.trans (tw_L_i (by omega))) (by omega)))⟩ (fun q9 hq9 => tw_ad_ne (by omega)) rfl
          refine tw_aload_n 0 dX10_use_91 rfl rfl ?_
          obtain ⟨e385, f386, th_387, td_388, ds_389, fr_390, ca_391, us_392, wo_393, cm_394, lc_395, lh_396, ld_397, rfl, k398, k399, k400, k401, k402, k403, k404, k405, k406, k407, k408, k409, k410, k411, k412, k413, k414, k415, k416, k417, k418, k419⟩ := sp384.1 x 36 kx (by decide)
          refine tw_get (v := .ref lc_395) rfl in_14 9 dX10_use_92 w_1160 rfl (by decide) f386 rfl ?_
          refine tw_iload_n 1 dX10_use_95 rfl rfl ?_
          obtain ⟨e423, f424, ⟨el425, rfl, k426⟩, k427⟩ := sp384.1 lc_395 24 k404 (by decide)
          refine tw_br (tw_callV (M := mX10_use) (pc := 96) okJx4a65c_get_915e3 dX10_use_96 w_1292 rfl f424 [.int (nI jn)] [] rfl rfl ⟨by decide, by decide⟩ (Nat.le_of_ble_eq_true rfl) (c24_get d (tw_ad g (1352 + k) (nI n9)) τ h381 sp384.1 lc_395 k404 jn (show jn < g.2 3 by omega) (show g.2 3 < 2 ^ 31 by omega)) 0 0 (Nat.le_of_ble_eq_true rfl) (Nat.le_of_ble_eq_true rfl)) (fun r430 h429 q428 => ?_) (fun E h1 q => q.elim)
          obtain ⟨q428e, q428k⟩ := q428
          rw [q428e]
          have el431 : tw_el h381 ((tw_ad g (1352 + k) (nI n9)).2 12) jn = r430 := by rw [← k427]; exact q428k.2.symm
          have kl432 : τ ((tw_ad g (1352 + k) (nI n9)).2 12) = 24 := by rw [← k427]; exact k404
          have id433 : (tw_ad g (1352 + k) (nI n9)).2 (4096 + r430) = 480 + 64 * jn := by rw [← el431]; exact tw_eli24 sp384.1 kl432 (show jn < g.2 3 by omega)
          obtain ⟨e434, f435, r_436, c_437, v_438, o_439, t_440, rfl, k441, k442, k443, k444, k445, k446⟩ := sp384.1 r430 21 q428k.1 (by decide)
          obtain ⟨j447, ow448, fr9, fc9, q449, q450, q451⟩ := k446
          obtain rfl : jn = j447 := by have z := ow448.b id433; omega
          subst fr9 fc9
          refine tw_castS (ci := 11) rfl dX10_use_99 w_1208 f435 ?_
          refine tw_get (v := .ref v_438) rfl in_11 2 dX10_use_102 w_1217 rfl (by decide) f435 rfl ?_
          refine tw_iload_n 2 dX10_use_105 rfl rfl ?_
          refine tw_dup2 dX10_use_106 rfl rfl ?_
          obtain ⟨e452, f453, F454, rfl, ⟨b456, ow457, wv458⟩⟩ := sp384.1 v_438 31 k441 (by decide)
          obtain rfl : (480 + 64 * jn + 16) = b456 := (ow457.b q451).symm
          have ev459 : F454 ((nI k)).toNatClampNeg = ((tw_ad g (1352 + k) (nI n9)).1 ((480 + 64 * jn + 16) + k)).toInt64 := by rw [nI_clamp (by omega)]; exact wv458 k (by omega)
          refine tw_lald (v := ((tw_ad g (1352 + k) (nI n9)).1 ((480 + 64 * jn + 16) + k)).toInt64) dX10_use_107 f453 (vp_in_nI (by omega) (by decide)) ev459 ?_
          refine tw_iload_n 3 dX10_use_108 rfl rfl ?_
          refine tw_i2l dX10_use_109 ?_
          refine tw_nml (fun v460 ev460 => ?_)
          refine tw_lsub dX10_use_110 ?_
          refine tw_nml (fun v461 ev461 => ?_)
          have ce462 : ((tw_ad g (1352 + k) (nI n9)).1 ((480 + 64 * jn + 16) + k)) = nI (tw_DN (g.1 ((480 + 64 * jn + 16) + k))) := by (repeat (first | rw [tw_ad_ne (by omega)] | rw [tw_g1_ne (by omega)])); exact (he.v (j := jn) (k := k) (by omega) (by omega)).1
          have cb463 : tw_DN (g.1 ((480 + 64 * jn + 16) + k)) ≤ 59000000 := (he.v (j := jn) (k := k) (by omega) (by omega)).2
          refine tw_last dX10_use_111 f453 (vp_in_nI (by omega) (by decide)) ?_
          rw [nI_clamp (by omega)]
          obtain ⟨h464, eh464⟩ : ∃ z : tw_H, z = tw_up h381 v_438 (.inl (d.2 1, 2, .inr (.inl (vp_updL F454 k v461)))) := ⟨_, rfl⟩
          rw [← eh464]
          have th465 : tw_th (h464 x) = 0 := by rw [eh464, tw_up_n (tw_nk kx k441 (by decide))] <;> exact th382
          have oq466 : h464 o = h o := by rw [eh464, tw_up_n (tw_nk ko k441 (by decide))] <;> exact oq383
          have sp467 : tw_sp d τ h (tw_ad (tw_ad g (1352 + k) (nI n9)) ((480 + 64 * jn + 16) + k) (-nI n9)) τ h464 := by rw [eh464]; exact sp384.wb k441 (by decide) ow457 ⟨_, rfl, tw_f31.up ow457 wv458 (ev461.trans (tw_l_sub ce462 (ev460.trans (tw_L_i (by omega))) (by omega) (by omega)))⟩ (fun q9 hq9 => tw_ad_ne (by omega)) rfl
          refine tw_aload_n 0 dX10_use_112 rfl rfl ?_
          obtain ⟨e468, f469, th_470, td_471, ds_472, fr_473, ca_474, us_475, wo_476, cm_477, lc_478, lh_479, ld_480, rfl, k481, k482, k483, k484, k485, k486, k487, k488, k489, k490, k491, k492, k493, k494, k495, k496, k497, k498, k499, k500, k501, k502⟩ := sp467.1 x 36 kx (by decide)
          refine tw_get (v := .ref lc_478) rfl in_14 9 dX10_use_113 w_1160 rfl (by decide) f469 rfl ?_
          refine tw_iload_n 1 dX10_use_116 rfl rfl ?_
          obtain ⟨e506, f507, ⟨el508, rfl, k509⟩, k510⟩ := sp467.1 lc_478 24 k487 (by decide)
          refine tw_br (tw_callV (M := mX10_use) (pc := 117) okJx4a65c_get_915e3 dX10_use_117 w_1292 rfl f507 [.int (nI jn)] [] rfl rfl ⟨by decide, by decide⟩ (Nat.le_of_ble_eq_true rfl) (c24_get d (tw_ad (tw_ad g (1352 + k) (nI n9)) ((480 + 64 * jn + 16) + k) (-nI n9)) τ h464 sp467.1 lc_478 k487 jn (show jn < g.2 3 by omega) (show g.2 3 < 2 ^ 31 by omega)) 0 0 (Nat.le_of_ble_eq_true rfl) (Nat.le_of_ble_eq_true rfl)) (fun r513 h512 q511 => ?_) (fun E h1 q => q.elim)
          obtain ⟨q511e, q511k⟩ := q511
          rw [q511e]
          have el514 : tw_el h464 ((tw_ad (tw_ad g (1352 + k) (nI n9)) ((480 + 64 * jn + 16) + k) (-nI n9)).2 12) jn = r513 := by rw [← k510]; exact q511k.2.symm
          have kl515 : τ ((tw_ad (tw_ad g (1352 + k) (nI n9)) ((480 + 64 * jn + 16) + k) (-nI n9)).2 12) = 24 := by rw [← k510]; exact k487
          have id516 : (tw_ad (tw_ad g (1352 + k) (nI n9)) ((480 + 64 * jn + 16) + k) (-nI n9)).2 (4096 + r513) = 480 + 64 * jn := by rw [← el514]; exact tw_eli24 sp467.1 kl515 (show jn < g.2 3 by omega)
          obtain ⟨e517, f518, r_519, c_520, v_521, o_522, t_523, rfl, k524, k525, k526, k527, k528, k529⟩ := sp467.1 r513 21 q511k.1 (by decide)
          obtain ⟨j530, ow531, fr9, fc9, q532, q533, q534⟩ := k529
          obtain rfl : jn = j530 := by have z := ow531.b id516; omega
          subst fr9 fc9
          refine tw_castS (ci := 11) rfl dX10_use_120 w_1208 f518 ?_
          refine tw_get (v := .ref v_521) rfl in_11 2 dX10_use_123 w_1217 rfl (by decide) f518 rfl ?_
          refine tw_iload_n 2 dX10_use_126 rfl rfl ?_
          obtain ⟨e535, f536, F537, rfl, ⟨b539, ow540, wv541⟩⟩ := sp467.1 v_521 31 k524 (by decide)
          obtain rfl : (480 + 64 * jn + 16) = b539 := (ow540.b q534).symm
          have ev542 : F537 ((nI k)).toNatClampNeg = ((tw_ad (tw_ad g (1352 + k) (nI n9)) ((480 + 64 * jn + 16) + k) (-nI n9)).1 ((480 + 64 * jn + 16) + k)).toInt64 := by rw [nI_clamp (by omega)]; exact wv541 k (by omega)
          refine tw_lald (v := ((tw_ad (tw_ad g (1352 + k) (nI n9)) ((480 + 64 * jn + 16) + k) (-nI n9)).1 ((480 + 64 * jn + 16) + k)).toInt64) dX10_use_127 f536 (vp_in_nI (by omega) (by decide)) ev542 ?_
          refine tw_l2i dX10_use_128 ?_
          refine tw_nmi (fun v543 ev543 => ?_)
          exact tw_iret dX10_use_129 rfl (Or.inl ⟨_, rfl, _, _, sp467, oq466, Or.inr (Or.inr (Or.inr (⟨ix0, rc9, (by (try rw [cDn]); (try rw [cDm]); (try rw [cDgr]); first | done | exact lc9), (by (try rw [cDn]); (try rw [cDm]); (try rw [cDgr]); first | done | exact (by rw [ev543, Int32.toInt32_toInt64, tw_ad_eq, tw_ad_ne (by omega)])), th465, (by (try rw [cDn]); (try rw [cDm]); (try rw [cDgr]); first | done | exact (tw_adm (by omega)))⟩)))⟩)
        · have hv9 := he.v (j := jn) (k := k) (by omega) hk
          have cv9 := c316
          rw [ev315, (ev314.trans (tw_L_i (by omega))), show (g.1 (480 + 64 * jn + 16 + k)).toInt64 = tw_L (tw_DN (g.1 (480 + 64 * jn + 16 + k))) from by rw [hv9.1, tw_DN_nI (by omega)]; exact tw_L_i (by omega)] at cv9
          have lc9 : ¬ (n9 ≤ tw_DN (g.1 (480 + 64 * jn + 16 + k))) := fun y => cv9 ((tw_cmp_ge (by omega) (by omega)).mpr y)
          refine tw_iconst (v := 1) dX10_use_66 (by decide) ?_
          refine tw_goto 71 dX10_use_67 (by decide) ?_
          refine tw_iconst (v := 3) dX10_use_71 (by decide) ?_
          refine tw_bi (tw_callV (M := mX10_use) (pc := 72) okX10_refuse dX10_use_72 w_1200 rfl f240 [.int 1, .int 3] [] rfl rfl ⟨by decide, by decide⟩ (Nat.le_of_ble_eq_true rfl) (c_X10_refuse d g τ h226 sp236.1 x kx 1 3 (by decide)) 0 0 (Nat.le_of_ble_eq_true rfl) (Nat.le_of_ble_eq_true rfl)) (fun r549 h548 q547 => ?_) (fun E h1 q => q.elim)
          obtain ⟨e550, he551, hs552, hr553, hc554⟩ := q547
          obtain ⟨rz555, tz556⟩ := (hc554 th235).2 rfl
          have th557 : tw_th (h548 x) = 3 := by rw [he551, tw_up_s]; exact tz556
          have sp558 : tw_sp d τ h g τ h548 := by rw [he551]; exact sp236.set kx (by decide) hs552
          rw [rz555]
          have oq559 : h548 o = h o := by rw [he551, tw_up_n (tw_nk ko kx (by decide))] <;> exact oq237
          refine tw_if_eq 80 dX10_use_75 (by decide) (fun c560 => absurd c560 (by decide)) (fun _ => ?_)
          refine tw_iconst (v := 0) dX10_use_78 (by decide) ?_
          exact tw_iret dX10_use_79 rfl (Or.inl ⟨_, rfl, _, _, sp558, oq559, Or.inr (Or.inr (Or.inl ⟨ix0, rc9, (by (try rw [cDn]); (try rw [cDm]); (try rw [cDgr]); first | done | exact lc9), th557, rfl⟩))⟩)

set_option maxHeartbeats 4000000 in
set_option maxRecDepth 100000 in
theorem c2_X10_init (d : tw_D) (g : tw_G) (τ : tw_K) (h : tw_H) (hw : tw_wt d g τ h) (hno : tw_no τ) (x : Nat) (hz : τ x = 0) (hx : h x = some (.inr (14, [.int 0, .int 0, .int 0, .null, .null, .null, .null, .null, .null, .null, .null, .null]))) (h24 : g.2 24 = 160) (h9 : g.2 9 = 0) (h5 : g.2 130 = 768 ∧ g.2 131 = 0 ∧ g.2 132 = 1152 ∧ g.2 133 = 0 ∧ g.2 134 = 1344 ∧ g.2 135 = 0) : tw_Ct d mX10_init 17 60 [.ref x] h (tw_qv (fun h1 => ∃ (g1 : tw_G) (τ1 : tw_K), (g1.1 0 = g.1 0 ∧ g1.1 1 = 155 ∧ (∀ i, i < 3 → g1.2 i = g.2 i) ∧ (∀ i, 6 ≤ i → i < 9 → g1.2 i = g.2 i) ∧ (∀ i, 3 ≤ i → i < 6 → g1.2 i = 0) ∧ g1.2 21 = g.2 21 ∧ g1.2 22 = 0 ∧ g1.2 24 = g.2 24 ∧ g1.2 9 = 480 ∧ (∀ j k, j < 4 → k < 4 → g1.1 (416 + 8 * j + k) = 3 ∧ g1.1 (448 + 8 * j + k) = 10) ∧ (g1.2 130 = g.2 130 ∧ g1.2 131 = 960 ∧ g1.2 132 = g.2 132 ∧ g1.2 133 = 1232) ∧ (∀ i, 128 ≤ i → (i < 416 ∨ 480 ≤ i) → (i < 1312 ∨ 1344 ≤ i) → g1.1 i = 0) ∧ ∀ i, 1312 ≤ i → i < 1344 → g1.1 i = g.1 i) ∧ tw_ini d g1 τ h x 36 τ1 h1) tw_nx) := by
  refine tw_of (by decide +kernel) (Nat.le_of_ble_eq_true rfl) ?_
  show tw_W d mX10_init _ 0 [(0, .ref x)] [] h 17 60
  have sp0 := tw_sp.rm hw x
  refine tw_aload_n 0 dX10_init_0 rfl rfl ?_
  refine tw_objInit dX10_init_1 w_1118 w_117 w_118 ⟨by decide, Nat.le_of_ble_eq_true rfl⟩ ?_
  refine tw_aload_n 0 dX10_init_4 rfl rfl ?_
  refine tw_sipush (v := 155) dX10_init_5 (by decide) ?_
  refine tw_put rfl in_14 tyX10 tyX10_ok nmX10 2 dX10_init_8 w_1153 rfl (by decide) hx rfl rfl rfl rfl (Nat.le_of_ble_eq_true rfl) [.int 0, .int 0, .int 155, .null, .null, .null, .null, .null, .null, .null, .null, .null] rfl ?_
  obtain ⟨h1, eh1⟩ : ∃ z : tw_H, z = tw_up h x (.inr (14, [.int 0, .int 0, .int 155, .null, .null, .null, .null, .null, .null, .null, .null, .null])) := ⟨_, rfl⟩
  rw [← eh1]
  have sp2 : tw_sp d τ (tw_rm h x) g τ h1 := by rw [eh1]; exact sp0.wl tw_rm_s hz
  have f3 : h1 x = some (.inr (14, [.int 0, .int 0, .int 155, .null, .null, .null, .null, .null, .null, .null, .null, .null])) := by rw [eh1]; exact tw_up_s
  refine tw_aload_n 0 dX10_init_11 rfl rfl ?_
  refine tw_iconst (v := 4) dX10_init_12 (by decide) ?_
  refine tw_iconst (v := 4) dX10_init_13 (by decide) ?_
  refine tw_mna dX10_init_14 w_1119 w_500 12 40 (Nat.le_of_ble_eq_true rfl) (Nat.le_of_ble_eq_true rfl) (fun q4 r5 h6 hq7 hr8 hi9 hg10 ho11 hw12 => ?_)
  have sp13 := sp2.tr (tw_gw.sp hw12 sp2.1)
  have f14 := hw12 _ _ f3
  have ne15 := tw_neF f3 (hr8 0 (by decide)).1
  have ne16 := tw_neF f3 (hr8 1 (by decide)).1
  have ne17 := tw_neF f3 (hr8 2 (by decide)).1
  have ne18 := tw_neF f3 (hr8 3 (by decide)).1
  have ne19 := tw_neF f3 hq7
  have n20 := sp2.nn (hr8 0 (by decide)).1
  have z21 := sp2.1.none (hr8 0 (by decide)).1
  have f22 : h6 (r5 0) = some (.inl (d.2 0, 4, .inl (fun _ => 0))) := ho11 0 (by decide)
  have n23 := sp2.nn (hr8 1 (by decide)).1
  have z24 := sp2.1.none (hr8 1 (by decide)).1
  have f25 : h6 (r5 1) = some (.inl (d.2 0, 4, .inl (fun _ => 0))) := ho11 1 (by decide)
  have n26 := sp2.nn (hr8 2 (by decide)).1
  have z27 := sp2.1.none (hr8 2 (by decide)).1
  have f28 : h6 (r5 2) = some (.inl (d.2 0, 4, .inl (fun _ => 0))) := ho11 2 (by decide)
  have n29 := sp2.nn (hr8 3 (by decide)).1
  have z30 := sp2.1.none (hr8 3 (by decide)).1
  have f31 : h6 (r5 3) = some (.inl (d.2 0, 4, .inl (fun _ => 0))) := ho11 3 (by decide)
  have n32 := sp2.nn hq7
  have z33 := sp2.1.none hq7
  refine tw_putF rfl in_14 tyX10 tyX10_ok nmX10 3 dX10_init_18 w_1154 rfl (by decide) f14 rfl rfl rfl rfl rfl rfl (Nat.le_of_ble_eq_true rfl) [.int 0, .int 0, .int 155, .ref q4, .null, .null, .null, .null, .null, .null, .null, .null] rfl ?_
  obtain ⟨h34, eh34⟩ : ∃ z : tw_H, z = tw_up h6 x (.inr (14, [.int 0, .int 0, .int 155, .ref q4, .null, .null, .null, .null, .null, .null, .null, .null])) := ⟨_, rfl⟩
  rw [← eh34]
  have sp35 : tw_sp d τ (tw_rm h x) g τ h34 := by rw [eh34]; exact sp13.wl tw_rm_s hz
  have f36 : h34 (r5 0) = some (.inl (d.2 0, 4, .inl (fun _ => 0))) := by rw [eh34, tw_up_n (Ne.symm ne15)]; exact f22
  have f37 : h34 (r5 1) = some (.inl (d.2 0, 4, .inl (fun _ => 0))) := by rw [eh34, tw_up_n (Ne.symm ne16)]; exact f25
  have f38 : h34 (r5 2) = some (.inl (d.2 0, 4, .inl (fun _ => 0))) := by rw [eh34, tw_up_n (Ne.symm ne17)]; exact f28
  have f39 : h34 (r5 3) = some (.inl (d.2 0, 4, .inl (fun _ => 0))) := by rw [eh34, tw_up_n (Ne.symm ne18)]; exact f31
  have f40 : h34 q4 = some (.inl (d.2 8, 4, .inr (.inr (.inr (.inr (fun i => if i < 4 then some (r5 i) else none)))))) := by rw [eh34, tw_up_n (Ne.symm ne19)]; exact hg10
  have f41 : h34 x = some (.inr (14, [.int 0, .int 0, .int 155, .ref q4, .null, .null, .null, .null, .null, .null, .null, .null])) := by rw [eh34]; exact tw_up_s
  refine tw_aload_n 0 dX10_init_21 rfl rfl ?_
  refine tw_iconst (v := 4) dX10_init_22 (by decide) ?_
  refine tw_iconst (v := 4) dX10_init_23 (by decide) ?_
  refine tw_mna dX10_init_24 w_1119 w_500 7 20 (Nat.le_of_ble_eq_true rfl) (Nat.le_of_ble_eq_true rfl) (fun q42 r43 h44 hq45 hr46 hi47 hg48 ho49 hw50 => ?_)
  have sp51 := sp35.tr (tw_gw.sp hw50 sp35.1)
  have f52 := hw50 _ _ f36
  have ne53 := tw_neF f36 (hr46 0 (by decide)).1
  have ne54 := tw_neF f36 (hr46 1 (by decide)).1
  have ne55 := tw_neF f36 (hr46 2 (by decide)).1
  have ne56 := tw_neF f36 (hr46 3 (by decide)).1
  have ne57 := tw_neF f36 hq45
  have f58 := hw50 _ _ f37
  have ne59 := tw_neF f37 (hr46 0 (by decide)).1
  have ne60 := tw_neF f37 (hr46 1 (by decide)).1
  have ne61 := tw_neF f37 (hr46 2 (by decide)).1
  have ne62 := tw_neF f37 (hr46 3 (by decide)).1
  have ne63 := tw_neF f37 hq45
  have f64 := hw50 _ _ f38
  have ne65 := tw_neF f38 (hr46 0 (by decide)).1
  have ne66 := tw_neF f38 (hr46 1 (by decide)).1
  have ne67 := tw_neF f38 (hr46 2 (by decide)).1
  have ne68 := tw_neF f38 (hr46 3 (by decide)).1
  have ne69 := tw_neF f38 hq45
  have f70 := hw50 _ _ f39
  have ne71 := tw_neF f39 (hr46 0 (by decide)).1
  have ne72 := tw_neF f39 (hr46 1 (by decide)).1
  have ne73 := tw_neF f39 (hr46 2 (by decide)).1
  have ne74 := tw_neF f39 (hr46 3 (by decide)).1
  have ne75 := tw_neF f39 hq45
  have f76 := hw50 _ _ f40
  have ne77 := tw_neF f40 (hr46 0 (by decide)).1
  have ne78 := tw_neF f40 (hr46 1 (by decide)).1
  have ne79 := tw_neF f40 (hr46 2 (by decide)).1
  have ne80 := tw_neF f40 (hr46 3 (by decide)).1
  have ne81 := tw_neF f40 hq45
  have f82 := hw50 _ _ f41
  have ne83 := tw_neF f41 (hr46 0 (by decide)).1
  have ne84 := tw_neF f41 (hr46 1 (by decide)).1
  have ne85 := tw_neF f41 (hr46 2 (by decide)).1
  have ne86 := tw_neF f41 (hr46 3 (by decide)).1
  have ne87 := tw_neF f41 hq45
  have n88 := sp35.nn (hr46 0 (by decide)).1
  have z89 := sp35.1.none (hr46 0 (by decide)).1
  have f90 : h44 (r43 0) = some (.inl (d.2 0, 4, .inl (fun _ => 0))) := ho49 0 (by decide)
  have n91 := sp35.nn (hr46 1 (by decide)).1
  have z92 := sp35.1.none (hr46 1 (by decide)).1
  have f93 : h44 (r43 1) = some (.inl (d.2 0, 4, .inl (fun _ => 0))) := ho49 1 (by decide)
  have n94 := sp35.nn (hr46 2 (by decide)).1
  have z95 := sp35.1.none (hr46 2 (by decide)).1
  have f96 : h44 (r43 2) = some (.inl (d.2 0, 4, .inl (fun _ => 0))) := ho49 2 (by decide)
  have n97 := sp35.nn (hr46 3 (by decide)).1
  have z98 := sp35.1.none (hr46 3 (by decide)).1
  have f99 : h44 (r43 3) = some (.inl (d.2 0, 4, .inl (fun _ => 0))) := ho49 3 (by decide)
  have n100 := sp35.nn hq45
  have z101 := sp35.1.none hq45
  refine tw_putF rfl in_14 tyX10 tyX10_ok nmX10 4 dX10_init_28 w_1155 rfl (by decide) f82 rfl rfl rfl rfl rfl rfl (Nat.le_of_ble_eq_true rfl) [.int 0, .int 0, .int 155, .ref q4, .ref q42, .null, .null, .null, .null, .null, .null, .null] rfl ?_
  obtain ⟨h102, eh102⟩ : ∃ z : tw_H, z = tw_up h44 x (.inr (14, [.int 0, .int 0, .int 155, .ref q4, .ref q42, .null, .null, .null, .null, .null, .null, .null])) := ⟨_, rfl⟩
  rw [← eh102]
  have sp103 : tw_sp d τ (tw_rm h x) g τ h102 := by rw [eh102]; exact sp51.wl tw_rm_s hz
  have f104 : h102 (r5 0) = some (.inl (d.2 0, 4, .inl (fun _ => 0))) := by rw [eh102, tw_up_n (Ne.symm ne15)]; exact f52
  have f105 : h102 (r5 1) = some (.inl (d.2 0, 4, .inl (fun _ => 0))) := by rw [eh102, tw_up_n (Ne.symm ne16)]; exact f58
  have f106 : h102 (r5 2) = some (.inl (d.2 0, 4, .inl (fun _ => 0))) := by rw [eh102, tw_up_n (Ne.symm ne17)]; exact f64
  have f107 : h102 (r5 3) = some (.inl (d.2 0, 4, .inl (fun _ => 0))) := by rw [eh102, tw_up_n (Ne.symm ne18)]; exact f70
  have f108 : h102 q4 = some (.inl (d.2 8, 4, .inr (.inr (.inr (.inr (fun i => if i < 4 then some (r5 i) else none)))))) := by rw [eh102, tw_up_n (Ne.symm ne19)]; exact f76
  have f109 : h102 (r43 0) = some (.inl (d.2 0, 4, .inl (fun _ => 0))) := by rw [eh102, tw_up_n (Ne.symm ne83)]; exact f90
  have f110 : h102 (r43 1) = some (.inl (d.2 0, 4, .inl (fun _ => 0))) := by rw [eh102, tw_up_n (Ne.symm ne84)]; exact f93
  have f111 : h102 (r43 2) = some (.inl (d.2 0, 4, .inl (fun _ => 0))) := by rw [eh102, tw_up_n (Ne.symm ne85)]; exact f96
  have f112 : h102 (r43 3) = some (.inl (d.2 0, 4, .inl (fun _ => 0))) := by rw [eh102, tw_up_n (Ne.symm ne86)]; exact f99
  have f113 : h102 q42 = some (.inl (d.2 8, 4, .inr (.inr (.inr (.inr (fun i => if i < 4 then some (r43 i) else none)))))) := by rw [eh102, tw_up_n (Ne.symm ne87)]; exact hg48
  have f114 : h102 x = some (.inr (14, [.int 0, .int 0, .int 155, .ref q4, .ref q42, .null, .null, .null, .null, .null, .null, .null])) := by rw [eh102]; exact tw_up_s
  refine tw_aload_n 0 dX10_init_31 rfl rfl ?_
  refine tw_iconst (v := 2) dX10_init_32 (by decide) ?_
  refine tw_newa (a0 := (2, .inr (.inl (fun _ => 0)))) 1 rfl dX10_init_33 rfl w_1150 (fun _ => rfl) (by decide) (by decide) (by decide) 6 18 (Nat.le_of_ble_eq_true rfl) (Nat.le_of_ble_eq_true rfl) (fun q115 hq116 hA117 => ?_)
  have n118 := sp103.nn hq116
  have z119 := sp103.1.none hq116
  have ne120 := tw_neF f104 hq116
  have ne121 := tw_neF f105 hq116
  have ne122 := tw_neF f106 hq116
  have ne123 := tw_neF f107 hq116
  have ne124 := tw_neF f108 hq116
  have ne125 := tw_neF f109 hq116
  have ne126 := tw_neF f110 hq116
  have ne127 := tw_neF f111 hq116
  have ne128 := tw_neF f112 hq116
  have ne129 := tw_neF f113 hq116
  have ne130 := tw_neF f114 hq116
  obtain ⟨h131, eh131⟩ : ∃ z : tw_H, z = tw_up h102 q115 (.inl (d.2 1, 2, .inr (.inl (fun _ => 0)))) := ⟨_, rfl⟩
  rw [← eh131]
  have sp132 : tw_sp d τ (tw_rm h x) g τ h131 := by rw [eh131]; exact sp103.mk hq116
  have f133 : h131 (r5 0) = some (.inl (d.2 0, 4, .inl (fun _ => 0))) := by rw [eh131, tw_up_n ne120]; exact f104
  have f134 : h131 (r5 1) = some (.inl (d.2 0, 4, .inl (fun _ => 0))) := by rw [eh131, tw_up_n ne121]; exact f105
  have f135 : h131 (r5 2) = some (.inl (d.2 0, 4, .inl (fun _ => 0))) := by rw [eh131, tw_up_n ne122]; exact f106
  have f136 : h131 (r5 3) = some (.inl (d.2 0, 4, .inl (fun _ => 0))) := by rw [eh131, tw_up_n ne123]; exact f107
  have f137 : h131 q4 = some (.inl (d.2 8, 4, .inr (.inr (.inr (.inr (fun i => if i < 4 then some (r5 i) else none)))))) := by rw [eh131, tw_up_n ne124]; exact f108
  have f138 : h131 (r43 0) = some (.inl (d.2 0, 4, .inl (fun _ => 0))) := by rw [eh131, tw_up_n ne125]; exact f109
  have f139 : h131 (r43 1) = some (.inl (d.2 0, 4, .inl (fun _ => 0))) := by rw [eh131, tw_up_n ne126]; exact f110
  have f140 : h131 (r43 2) = some (.inl (d.2 0, 4, .inl (fun _ => 0))) := by rw [eh131, tw_up_n ne127]; exact f111
  have f141 : h131 (r43 3) = some (.inl (d.2 0, 4, .inl (fun _ => 0))) := by rw [eh131, tw_up_n ne128]; exact f112
  have f142 : h131 q42 = some (.inl (d.2 8, 4, .inr (.inr (.inr (.inr (fun i => if i < 4 then some (r43 i) else none)))))) := by rw [eh131, tw_up_n ne129]; exact f113
  have f143 : h131 x = some (.inr (14, [.int 0, .int 0, .int 155, .ref q4, .ref q42, .null, .null, .null, .null, .null, .null, .null])) := by rw [eh131, tw_up_n ne130]; exact f114
  have f144 : h131 q115 = some (.inl (d.2 1, 2, .inr (.inl (fun _ => 0)))) := by rw [eh131]; exact tw_up_s
  refine tw_putF rfl in_14 tyX10 tyX10_ok nmX10 5 dX10_init_35 w_1156 rfl (by decide) f143 rfl rfl rfl rfl rfl rfl (Nat.le_of_ble_eq_true rfl) [.int 0, .int 0, .int 155, .ref q4, .ref q42, .ref q115, .null, .null, .null, .null, .null, .null] rfl ?_
  obtain ⟨h145, eh145⟩ : ∃ z : tw_H, z = tw_up h131 x (.inr (14, [.int 0, .int 0, .int 155, .ref q4, .ref q42, .ref q115, .null, .null, .null, .null, .null, .null])) := ⟨_, rfl⟩
  rw [← eh145]
  have sp146 : tw_sp d τ (tw_rm h x) g τ h145 := by rw [eh145]; exact sp132.wl tw_rm_s hz
  have f147 : h145 (r5 0) = some (.inl (d.2 0, 4, .inl (fun _ => 0))) := by rw [eh145, tw_up_n (Ne.symm ne15)]; exact f133
  have f148 : h145 (r5 1) = some (.inl (d.2 0, 4, .inl (fun _ => 0))) := by rw [eh145, tw_up_n (Ne.symm ne16)]; exact f134
  have f149 : h145 (r5 2) = some (.inl (d.2 0, 4, .inl (fun _ => 0))) := by rw [eh145, tw_up_n (Ne.symm ne17)]; exact f135
  have f150 : h145 (r5 3) = some (.inl (d.2 0, 4, .inl (fun _ => 0))) := by rw [eh145, tw_up_n (Ne.symm ne18)]; exact f136
  have f151 : h145 q4 = some (.inl (d.2 8, 4, .inr (.inr (.inr (.inr (fun i => if i < 4 then some (r5 i) else none)))))) := by rw [eh145, tw_up_n (Ne.symm ne19)]; exact f137
  have f152 : h145 (r43 0) = some (.inl (d.2 0, 4, .inl (fun _ => 0))) := by rw [eh145, tw_up_n (Ne.symm ne83)]; exact f138
  have f153 : h145 (r43 1) = some (.inl (d.2 0, 4, .inl (fun _ => 0))) := by rw [eh145, tw_up_n (Ne.symm ne84)]; exact f139
  have f154 : h145 (r43 2) = some (.inl (d.2 0, 4, .inl (fun _ => 0))) := by rw [eh145, tw_up_n (Ne.symm ne85)]; exact f140
  have f155 : h145 (r43 3) = some (.inl (d.2 0, 4, .inl (fun _ => 0))) := by rw [eh145, tw_up_n (Ne.symm ne86)]; exact f141
  have f156 : h145 q42 = some (.inl (d.2 8, 4, .inr (.inr (.inr (.inr (fun i => if i < 4 then some (r43 i) else none)))))) := by rw [eh145, tw_up_n (Ne.symm ne87)]; exact f142
  have f157 : h145 q115 = some (.inl (d.2 1, 2, .inr (.inl (fun _ => 0)))) := by rw [eh145, tw_up_n (Ne.symm ne130)]; exact f144
  have f158 : h145 x = some (.inr (14, [.int 0, .int 0, .int 155, .ref q4, .ref q42, .ref q115, .null, .null, .null, .null, .null, .null])) := by rw [eh145]; exact tw_up_s
  refine tw_aload_n 0 dX10_init_38 rfl rfl ?_
  refine tw_iconst (v := 2) dX10_init_39 (by decide) ?_
  refine tw_newa (a0 := (2, .inr (.inl (fun _ => 0)))) 1 rfl dX10_init_40 rfl w_1150 (fun _ => rfl) (by decide) (by decide) (by decide) 5 16 (Nat.le_of_ble_eq_true rfl) (Nat.le_of_ble_eq_true rfl) (fun q159 hq160 hA161 => ?_)
  have n162 := sp146.nn hq160
  have z163 := sp146.1.none hq160
  have ne164 := tw_neF f147 hq160
  have ne165 := tw_neF f148 hq160
  have ne166 := tw_neF f149 hq160
  have ne167 := tw_neF f150 hq160
  have ne168 := tw_neF f151 hq160
  have ne169 := tw_neF f152 hq160
  have ne170 := tw_neF f153 hq160
  have ne171 := tw_neF f154 hq160
  have ne172 := tw_neF f155 hq160
  have ne173 := tw_neF f156 hq160
  have ne174 := tw_neF f157 hq160
  have ne175 := tw_neF f158 hq160
  obtain ⟨h176, eh176⟩ : ∃ z : tw_H, z = tw_up h145 q159 (.inl (d.2 1, 2, .inr (.inl (fun _ => 0)))) := ⟨_, rfl⟩
  rw [← eh176]
  have sp177 : tw_sp d τ (tw_rm h x) g τ h176 := by rw [eh176]; exact sp146.mk hq160
  have f178 : h176 (r5 0) = some (.inl (d.2 0, 4, .inl (fun _ => 0))) := by rw [eh176, tw_up_n ne164]; exact f147
  have f179 : h176 (r5 1) = some (.inl (d.2 0, 4, .inl (fun _ => 0))) := by rw [eh176, tw_up_n ne165]; exact f148
  have f180 : h176 (r5 2) = some (.inl (d.2 0, 4, .inl (fun _ => 0))) := by rw [eh176, tw_up_n ne166]; exact f149
  have f181 : h176 (r5 3) = some (.inl (d.2 0, 4, .inl (fun _ => 0))) := by rw [eh176, tw_up_n ne167]; exact f150
  have f182 : h176 q4 = some (.inl (d.2 8, 4, .inr (.inr (.inr (.inr (fun i => if i < 4 then some (r5 i) else none)))))) := by rw [eh176, tw_up_n ne168]; exact f151
  have f183 : h176 (r43 0) = some (.inl (d.2 0, 4, .inl (fun _ => 0))) := by rw [eh176, tw_up_n ne169]; exact f152
  have f184 : h176 (r43 1) = some (.inl (d.2 0, 4, .inl (fun _ => 0))) := by rw [eh176, tw_up_n ne170]; exact f153
  have f185 : h176 (r43 2) = some (.inl (d.2 0, 4, .inl (fun _ => 0))) := by rw [eh176, tw_up_n ne171]; exact f154
  have f186 : h176 (r43 3) = some (.inl (d.2 0, 4, .inl (fun _ => 0))) := by rw [eh176, tw_up_n ne172]; exact f155
  have f187 : h176 q42 = some (.inl (d.2 8, 4, .inr (.inr (.inr (.inr (fun i => if i < 4 then some (r43 i) else none)))))) := by rw [eh176, tw_up_n ne173]; exact f156
  have f188 : h176 q115 = some (.inl (d.2 1, 2, .inr (.inl (fun _ => 0)))) := by rw [eh176, tw_up_n ne174]; exact f157
  have f189 : h176 x = some (.inr (14, [.int 0, .int 0, .int 155, .ref q4, .ref q42, .ref q115, .null, .null, .null, .null, .null, .null])) := by rw [eh176, tw_up_n ne175]; exact f158
  have f190 : h176 q159 = some (.inl (d.2 1, 2, .inr (.inl (fun _ => 0)))) := by rw [eh176]; exact tw_up_s
  refine tw_putF rfl in_14 tyX10 tyX10_ok nmX10 6 dX10_init_42 w_1157 rfl (by decide) f189 rfl rfl rfl rfl rfl rfl (Nat.le_of_ble_eq_true rfl) [.int 0, .int 0, .int 155, .ref q4, .ref q42, .ref q115, .ref q159, .null, .null, .null, .null, .null] rfl ?_
  obtain ⟨h191, eh191⟩ : ∃ z : tw_H, z = tw_up h176 x (.inr (14, [.int 0, .int 0, .int 155, .ref q4, .ref q42, .ref q115, .ref q159, .null, .null, .null, .null, .null])) := ⟨_, rfl⟩
  rw [← eh191]
  have sp192 : tw_sp d τ (tw_rm h x) g τ h191 := by rw [eh191]; exact sp177.wl tw_rm_s hz
  have f193 : h191 (r5 0) = some (.inl (d.2 0, 4, .inl (fun _ => 0))) := by rw [eh191, tw_up_n (Ne.symm ne15)]; exact f178
  have f194 : h191 (r5 1) = some (.inl (d.2 0, 4, .inl (fun _ => 0))) := by rw [eh191, tw_up_n (Ne.symm ne16)]; exact f179
  have f195 : h191 (r5 2) = some (.inl (d.2 0, 4, .inl (fun _ => 0))) := by rw [eh191, tw_up_n (Ne.symm ne17)]; exact f180
  have f196 : h191 (r5 3) = some (.inl (d.2 0, 4, .inl (fun _ => 0))) := by rw [eh191, tw_up_n (Ne.symm ne18)]; exact f181
  have f197 : h191 q4 = some (.inl (d.2 8, 4, .inr (.inr (.inr (.inr (fun i => if i < 4 then some (r5 i) else none)))))) := by rw [eh191, tw_up_n (Ne.symm ne19)]; exact f182
  have f198 : h191 (r43 0) = some (.inl (d.2 0, 4, .inl (fun _ => 0))) := by rw [eh191, tw_up_n (Ne.symm ne83)]; exact f183
  have f199 : h191 (r43 1) = some (.inl (d.2 0, 4, .inl (fun _ => 0))) := by rw [eh191, tw_up_n (Ne.symm ne84)]; exact f184
  have f200 : h191 (r43 2) = some (.inl (d.2 0, 4, .inl (fun _ => 0))) := by rw [eh191, tw_up_n (Ne.symm ne85)]; exact f185
  have f201 : h191 (r43 3) = some (.inl (d.2 0, 4, .inl (fun _ => 0))) := by rw [eh191, tw_up_n (Ne.symm ne86)]; exact f186
  have f202 : h191 q42 = some (.inl (d.2 8, 4, .inr (.inr (.inr (.inr (fun i => if i < 4 then some (r43 i) else none)))))) := by rw [eh191, tw_up_n (Ne.symm ne87)]; exact f187
  have f203 : h191 q115 = some (.inl (d.2 1, 2, .inr (.inl (fun _ => 0)))) := by rw [eh191, tw_up_n (Ne.symm ne130)]; exact f188
  have f204 : h191 q159 = some (.inl (d.2 1, 2, .inr (.inl (fun _ => 0)))) := by rw [eh191, tw_up_n (Ne.symm ne175)]; exact f190
  have f205 : h191 x = some (.inr (14, [.int 0, .int 0, .int 155, .ref q4, .ref q42, .ref q115, .ref q159, .null, .null, .null, .null, .null])) := by rw [eh191]; exact tw_up_s
  refine tw_aload_n 0 dX10_init_45 rfl rfl ?_
  refine tw_iconst (v := 2) dX10_init_46 (by decide) ?_
  refine tw_newa (a0 := (2, .inr (.inl (fun _ => 0)))) 1 rfl dX10_init_47 rfl w_1150 (fun _ => rfl) (by decide) (by decide) (by decide) 4 14 (Nat.le_of_ble_eq_true rfl) (Nat.le_of_ble_eq_true rfl) (fun q206 hq207 hA208 => ?_)
  have n209 := sp192.nn hq207
  have z210 := sp192.1.none hq207
  have ne211 := tw_neF f193 hq207
  have ne212 := tw_neF f194 hq207
  have ne213 := tw_neF f195 hq207
  have ne214 := tw_neF f196 hq207
  have ne215 := tw_neF f197 hq207
  have ne216 := tw_neF f198 hq207
  have ne217 := tw_neF f199 hq207
  have ne218 := tw_neF f200 hq207
  have ne219 := tw_neF f201 hq207
  have ne220 := tw_neF f202 hq207
  have ne221 := tw_neF f203 hq207
  have ne222 := tw_neF f204 hq207
  have ne223 := tw_neF f205 hq207
  obtain ⟨h224, eh224⟩ : ∃ z : tw_H, z = tw_up h191 q206 (.inl (d.2 1, 2, .inr (.inl (fun _ => 0)))) := ⟨_, rfl⟩
  rw [← eh224]
  have sp225 : tw_sp d τ (tw_rm h x) g τ h224 := by rw [eh224]; exact sp192.mk hq207
  have f226 : h224 (r5 0) = some (.inl (d.2 0, 4, .inl (fun _ => 0))) := by rw [eh224, tw_up_n ne211]; exact f193
  have f227 : h224 (r5 1) = some (.inl (d.2 0, 4, .inl (fun _ => 0))) := by rw [eh224, tw_up_n ne212]; exact f194
  have f228 : h224 (r5 2) = some (.inl (d.2 0, 4, .inl (fun _ => 0))) := by rw [eh224, tw_up_n ne213]; exact f195
  have f229 : h224 (r5 3) = some (.inl (d.2 0, 4, .inl (fun _ => 0))) := by rw [eh224, tw_up_n ne214]; exact f196
  have f230 : h224 q4 = some (.inl (d.2 8, 4, .inr (.inr (.inr (.inr (fun i => if i < 4 then some (r5 i) else none)))))) := by rw [eh224, tw_up_n ne215]; exact f197
  have f231 : h224 (r43 0) = some (.inl (d.2 0, 4, .inl (fun _ => 0))) := by rw [eh224, tw_up_n ne216]; exact f198
  have f232 : h224 (r43 1) = some (.inl (d.2 0, 4, .inl (fun _ => 0))) := by rw [eh224, tw_up_n ne217]; exact f199
  have f233 : h224 (r43 2) = some (.inl (d.2 0, 4, .inl (fun _ => 0))) := by rw [eh224, tw_up_n ne218]; exact f200
  have f234 : h224 (r43 3) = some (.inl (d.2 0, 4, .inl (fun _ => 0))) := by rw [eh224, tw_up_n ne219]; exact f201
  have f235 : h224 q42 = some (.inl (d.2 8, 4, .inr (.inr (.inr (.inr (fun i => if i < 4 then some (r43 i) else none)))))) := by rw [eh224, tw_up_n ne220]; exact f202
  have f236 : h224 q115 = some (.inl (d.2 1, 2, .inr (.inl (fun _ => 0)))) := by rw [eh224, tw_up_n ne221]; exact f203
  have f237 : h224 q159 = some (.inl (d.2 1, 2, .inr (.inl (fun _ => 0)))) := by rw [eh224, tw_up_n ne222]; exact f204
  have f238 : h224 x = some (.inr (14, [.int 0, .int 0, .int 155, .ref q4, .ref q42, .ref q115, .ref q159, .null, .null, .null, .null, .null])) := by rw [eh224, tw_up_n ne223]; exact f205
  have f239 : h224 q206 = some (.inl (d.2 1, 2, .inr (.inl (fun _ => 0)))) := by rw [eh224]; exact tw_up_s
  refine tw_putF rfl in_14 tyX10 tyX10_ok nmX10 7 dX10_init_49 w_1158 rfl (by decide) f238 rfl rfl rfl rfl rfl rfl (Nat.le_of_ble_eq_true rfl) [.int 0, .int 0, .int 155, .ref q4, .ref q42, .ref q115, .ref q159, .ref q206, .null, .null, .null, .null] rfl ?_
  obtain ⟨h240, eh240⟩ : ∃ z : tw_H, z = tw_up h224 x (.inr (14, [.int 0, .int 0, .int 155, .ref q4, .ref q42, .ref q115, .ref q159, .ref q206, .null, .null, .null, .null])) := ⟨_, rfl⟩
  rw [← eh240]
  have sp241 : tw_sp d τ (tw_rm h x) g τ h240 := by rw [eh240]; exact sp225.wl tw_rm_s hz
  have f242 : h240 (r5 0) = some (.inl (d.2 0, 4, .inl (fun _ => 0))) := by rw [eh240, tw_up_n (Ne.symm ne15)]; exact f226
  have f243 : h240 (r5 1) = some (.inl (d.2 0, 4, .inl (fun _ => 0))) := by rw [eh240, tw_up_n (Ne.symm ne16)]; exact f227
  have f244 : h240 (r5 2) = some (.inl (d.2 0, 4, .inl (fun _ => 0))) := by rw [eh240, tw_up_n (Ne.symm ne17)]; exact f228
  have f245 : h240 (r5 3) = some (.inl (d.2 0, 4, .inl (fun _ => 0))) := by rw [eh240, tw_up_n (Ne.symm ne18)]; exact f229
  have f246 : h240 q4 = some (.inl (d.2 8, 4, .inr (.inr (.inr (.inr (fun i => if i < 4 then some (r5 i) else none)))))) := by rw [eh240, tw_up_n (Ne.symm ne19)]; exact f230
  have f247 : h240 (r43 0) = some (.inl (d.2 0, 4, .inl (fun _ => 0))) := by rw [eh240, tw_up_n (Ne.symm ne83)]; exact f231
  have f248 : h240 (r43 1) = some (.inl (d.2 0, 4, .inl (fun _ => 0))) := by rw [eh240, tw_up_n (Ne.symm ne84)]; exact f232
  have f249 : h240 (r43 2) = some (.inl (d.2 0, 4, .inl (fun _ => 0))) := by rw [eh240, tw_up_n (Ne.symm ne85)]; exact f233
  have f250 : h240 (r43 3) = some (.inl (d.2 0, 4, .inl (fun _ => 0))) := by rw [eh240, tw_up_n (Ne.symm ne86)]; exact f234
  have f251 : h240 q42 = some (.inl (d.2 8, 4, .inr (.inr (.inr (.inr (fun i => if i < 4 then some (r43 i) else none)))))) := by rw [eh240, tw_up_n (Ne.symm ne87)]; exact f235
  have f252 : h240 q115 = some (.inl (d.2 1, 2, .inr (.inl (fun _ => 0)))) := by rw [eh240, tw_up_n (Ne.symm ne130)]; exact f236
  have f253 : h240 q159 = some (.inl (d.2 1, 2, .inr (.inl (fun _ => 0)))) := by rw [eh240, tw_up_n (Ne.symm ne175)]; exact f237
  have f254 : h240 q206 = some (.inl (d.2 1, 2, .inr (.inl (fun _ => 0)))) := by rw [eh240, tw_up_n (Ne.symm ne223)]; exact f239
  have f255 : h240 x = some (.inr (14, [.int 0, .int 0, .int 155, .ref q4, .ref q42, .ref q115, .ref q159, .ref q206, .null, .null, .null, .null])) := by rw [eh240]; exact tw_up_s
  refine tw_aload_n 0 dX10_init_52 rfl rfl ?_
  refine tw_iconst (v := 2) dX10_init_53 (by decide) ?_
  refine tw_newa (a0 := (2, .inr (.inl (fun _ => 0)))) 1 rfl dX10_init_54 rfl w_1150 (fun _ => rfl) (by decide) (by decide) (by decide) 3 12 (Nat.le_of_ble_eq_true rfl) (Nat.le_of_ble_eq_true rfl) (fun q256 hq257 hA258 => ?_)
  have n259 := sp241.nn hq257
  have z260 := sp241.1.none hq257
  have ne261 := tw_neF f242 hq257
  have ne262 := tw_neF f243 hq257
  have ne263 := tw_neF f244 hq257
  have ne264 := tw_neF f245 hq257
  have ne265 := tw_neF f246 hq257
  have ne266 := tw_neF f247 hq257
  have ne267 := tw_neF f248 hq257
  have ne268 := tw_neF f249 hq257
  have ne269 := tw_neF f250 hq257
  have ne270 := tw_neF f251 hq257
  have ne271 := tw_neF f252 hq257
  have ne272 := tw_neF f253 hq257
  have ne273 := tw_neF f254 hq257
  have ne274 := tw_neF f255 hq257
  obtain ⟨h275, eh275⟩ : ∃ z : tw_H, z = tw_up h240 q256 (.inl (d.2 1, 2, .inr (.inl (fun _ => 0)))) := ⟨_, rfl⟩
  rw [← eh275]
  have sp276 : tw_sp d τ (tw_rm h x) g τ h275 := by rw [eh275]; exact sp241.mk hq257
  have f277 : h275 (r5 0) = some (.inl (d.2 0, 4, .inl (fun _ => 0))) := by rw [eh275, tw_up_n ne261]; exact f242
  have f278 : h275 (r5 1) = some (.inl (d.2 0, 4, .inl (fun _ => 0))) := by rw [eh275, tw_up_n ne262]; exact f243
  have f279 : h275 (r5 2) = some (.inl (d.2 0, 4, .inl (fun _ => 0))) := by rw [eh275, tw_up_n ne263]; exact f244
  have f280 : h275 (r5 3) = some (.inl (d.2 0, 4, .inl (fun _ => 0))) := by rw [eh275, tw_up_n ne264]; exact f245
  have f281 : h275 q4 = some (.inl (d.2 8, 4, .inr (.inr (.inr (.inr (fun i => if i < 4 then some (r5 i) else none)))))) := by rw [eh275, tw_up_n ne265]; exact f246
  have f282 : h275 (r43 0) = some (.inl (d.2 0, 4, .inl (fun _ => 0))) := by rw [eh275, tw_up_n ne266]; exact f247
  have f283 : h275 (r43 1) = some (.inl (d.2 0, 4, .inl (fun _ => 0))) := by rw [eh275, tw_up_n ne267]; exact f248
  have f284 : h275 (r43 2) = some (.inl (d.2 0, 4, .inl (fun _ => 0))) := by rw [eh275, tw_up_n ne268]; exact f249
  have f285 : h275 (r43 3) = some (.inl (d.2 0, 4, .inl (fun _ => 0))) := by rw [eh275, tw_up_n ne269]; exact f250
  have f286 : h275 q42 = some (.inl (d.2 8, 4, .inr (.inr (.inr (.inr (fun i => if i < 4 then some (r43 i) else none)))))) := by rw [eh275, tw_up_n ne270]; exact f251
  have f287 : h275 q115 = some (.inl (d.2 1, 2, .inr (.inl (fun _ => 0)))) := by rw [eh275, tw_up_n ne271]; exact f252
  have f288 : h275 q159 = some (.inl (d.2 1, 2, .inr (.inl (fun _ => 0)))) := by rw [eh275, tw_up_n ne272]; exact f253
  have f289 : h275 q206 = some (.inl (d.2 1, 2, .inr (.inl (fun _ => 0)))) := by rw [eh275, tw_up_n ne273]; exact f254
  have f290 : h275 x = some (.inr (14, [.int 0, .int 0, .int 155, .ref q4, .ref q42, .ref q115, .ref q159, .ref q206, .null, .null, .null, .null])) := by rw [eh275, tw_up_n ne274]; exact f255
  have f291 : h275 q256 = some (.inl (d.2 1, 2, .inr (.inl (fun _ => 0)))) := by rw [eh275]; exact tw_up_s
  refine tw_putF rfl in_14 tyX10 tyX10_ok nmX10 8 dX10_init_56 w_1159 rfl (by decide) f290 rfl rfl rfl rfl rfl rfl (Nat.le_of_ble_eq_true rfl) [.int 0, .int 0, .int 155, .ref q4, .ref q42, .ref q115, .ref q159, .ref q206, .ref q256, .null, .null, .null] rfl ?_
  obtain ⟨h292, eh292⟩ : ∃ z : tw_H, z = tw_up h275 x (.inr (14, [.int 0, .int 0, .int 155, .ref q4, .ref q42, .ref q115, .ref q159, .ref q206, .ref q256, .null, .null, .null])) := ⟨_, rfl⟩
  rw [← eh292]
  have sp293 : tw_sp d τ (tw_rm h x) g τ h292 := by rw [eh292]; exact sp276.wl tw_rm_s hz
  have f294 : h292 (r5 0) = some (.inl (d.2 0, 4, .inl (fun _ => 0))) := by rw [eh292, tw_up_n (Ne.symm ne15)]; exact f277
  have f295 : h292 (r5 1) = some (.inl (d.2 0, 4, .inl (fun _ => 0))) := by rw [eh292, tw_up_n (Ne.symm ne16)]; exact f278
  have f296 : h292 (r5 2) = some (.inl (d.2 0, 4, .inl (fun _ => 0))) := by rw [eh292, tw_up_n (Ne.symm ne17)]; exact f279
  have f297 : h292 (r5 3) = some (.inl (d.2 0, 4, .inl (fun _ => 0))) := by rw [eh292, tw_up_n (Ne.symm ne18)]; exact f280
  have f298 : h292 q4 = some (.inl (d.2 8, 4, .inr (.inr (.inr (.inr (fun i => if i < 4 then some (r5 i) else none)))))) := by rw [eh292, tw_up_n (Ne.symm ne19)]; exact f281
  have f299 : h292 (r43 0) = some (.inl (d.2 0, 4, .inl (fun _ => 0))) := by rw [eh292, tw_up_n (Ne.symm ne83)]; exact f282
  have f300 : h292 (r43 1) = some (.inl (d.2 0, 4, .inl (fun _ => 0))) := by rw [eh292, tw_up_n (Ne.symm ne84)]; exact f283
  have f301 : h292 (r43 2) = some (.inl (d.2 0, 4, .inl (fun _ => 0))) := by rw [eh292, tw_up_n (Ne.symm ne85)]; exact f284
  have f302 : h292 (r43 3) = some (.inl (d.2 0, 4, .inl (fun _ => 0))) := by rw [eh292, tw_up_n (Ne.symm ne86)]; exact f285
  have f303 : h292 q42 = some (.inl (d.2 8, 4, .inr (.inr (.inr (.inr (fun i => if i < 4 then some (r43 i) else none)))))) := by rw [eh292, tw_up_n (Ne.symm ne87)]; exact f286
  have f304 : h292 q115 = some (.inl (d.2 1, 2, .inr (.inl (fun _ => 0)))) := by rw [eh292, tw_up_n (Ne.symm ne130)]; exact f287
  have f305 : h292 q159 = some (.inl (d.2 1, 2, .inr (.inl (fun _ => 0)))) := by rw [eh292, tw_up_n (Ne.symm ne175)]; exact f288
  have f306 : h292 q206 = some (.inl (d.2 1, 2, .inr (.inl (fun _ => 0)))) := by rw [eh292, tw_up_n (Ne.symm ne223)]; exact f289
  have f307 : h292 q256 = some (.inl (d.2 1, 2, .inr (.inl (fun _ => 0)))) := by rw [eh292, tw_up_n (Ne.symm ne274)]; exact f291
  have f308 : h292 x = some (.inr (14, [.int 0, .int 0, .int 155, .ref q4, .ref q42, .ref q115, .ref q159, .ref q206, .ref q256, .null, .null, .null])) := by rw [eh292]; exact tw_up_s
  refine tw_aload_n 0 dX10_init_59 rfl rfl ?_
  refine tw_new (ci := 3) rfl in_3 tyJx4a65c tyJx4a65c_ok dX10_init_60 w_1121 w_1122 w_82 (fs := [.int 0, .null, .int 0]) (fun j hj => by rcases (show j = 0 ∨ j = 1 ∨ j = 2 by omega) with rfl | rfl | rfl <;> rfl) 2 9 (Nat.le_of_ble_eq_true rfl) (Nat.le_of_ble_eq_true rfl) (fun q309 hq310 hA311 => ?_)
  have n312 := sp293.nn hq310
  have z313 := sp293.1.none hq310
  have ne314 := tw_neF f294 hq310
  have ne315 := tw_neF f295 hq310
  have ne316 := tw_neF f296 hq310
  have ne317 := tw_neF f297 hq310
  have ne318 := tw_neF f298 hq310
  have ne319 := tw_neF f299 hq310
  have ne320 := tw_neF f300 hq310
  have ne321 := tw_neF f301 hq310
  have ne322 := tw_neF f302 hq310
  have ne323 := tw_neF f303 hq310
  have ne324 := tw_neF f304 hq310
  have ne325 := tw_neF f305 hq310
  have ne326 := tw_neF f306 hq310
  have ne327 := tw_neF f307 hq310
  have ne328 := tw_neF f308 hq310
  obtain ⟨h329, eh329⟩ : ∃ z : tw_H, z = tw_up h292 q309 (.inr (3, [.int 0, .null, .int 0])) := ⟨_, rfl⟩
  rw [← eh329]
  have sp330 : tw_sp d τ (tw_rm h x) g τ h329 := by rw [eh329]; exact sp293.mk hq310
  have f331 : h329 (r5 0) = some (.inl (d.2 0, 4, .inl (fun _ => 0))) := by rw [eh329, tw_up_n ne314]; exact f294
  have f332 : h329 (r5 1) = some (.inl (d.2 0, 4, .inl (fun _ => 0))) := by rw [eh329, tw_up_n ne315]; exact f295
  have f333 : h329 (r5 2) = some (.inl (d.2 0, 4, .inl (fun _ => 0))) := by rw [eh329, tw_up_n ne316]; exact f296
  have f334 : h329 (r5 3) = some (.inl (d.2 0, 4, .inl (fun _ => 0))) := by rw [eh329, tw_up_n ne317]; exact f297
  have f335 : h329 q4 = some (.inl (d.2 8, 4, .inr (.inr (.inr (.inr (fun i => if i < 4 then some (r5 i) else none)))))) := by rw [eh329, tw_up_n ne318]; exact f298
  have f336 : h329 (r43 0) = some (.inl (d.2 0, 4, .inl (fun _ => 0))) := by rw [eh329, tw_up_n ne319]; exact f299
  have f337 : h329 (r43 1) = some (.inl (d.2 0, 4, .inl (fun _ => 0))) := by rw [eh329, tw_up_n ne320]; exact f300
  have f338 : h329 (r43 2) = some (.inl (d.2 0, 4, .inl (fun _ => 0))) := by rw [eh329, tw_up_n ne321]; exact f301
  have f339 : h329 (r43 3) = some (.inl (d.2 0, 4, .inl (fun _ => 0))) := by rw [eh329, tw_up_n ne322]; exact f302
  have f340 : h329 q42 = some (.inl (d.2 8, 4, .inr (.inr (.inr (.inr (fun i => if i < 4 then some (r43 i) else none)))))) := by rw [eh329, tw_up_n ne323]; exact f303
  have f341 : h329 q115 = some (.inl (d.2 1, 2, .inr (.inl (fun _ => 0)))) := by rw [eh329, tw_up_n ne324]; exact f304
  have f342 : h329 q159 = some (.inl (d.2 1, 2, .inr (.inl (fun _ => 0)))) := by rw [eh329, tw_up_n ne325]; exact f305
  have f343 : h329 q206 = some (.inl (d.2 1, 2, .inr (.inl (fun _ => 0)))) := by rw [eh329, tw_up_n ne326]; exact f306
  have f344 : h329 q256 = some (.inl (d.2 1, 2, .inr (.inl (fun _ => 0)))) := by rw [eh329, tw_up_n ne327]; exact f307
  have f345 : h329 x = some (.inr (14, [.int 0, .int 0, .int 155, .ref q4, .ref q42, .ref q115, .ref q159, .ref q206, .ref q256, .null, .null, .null])) := by rw [eh329, tw_up_n ne328]; exact f308
  have f346 : h329 q309 = some (.inr (3, [.int 0, .null, .int 0])) := by rw [eh329]; exact tw_up_s
  refine tw_dup dX10_init_63 rfl ?_
  refine tw_bv (tw_callI (M := mX10_init) (pc := 64) okJx4a65c_init_da8c8 dX10_init_64 w_1123 rfl [] [.ref q309, .ref x] rfl rfl ⟨by decide, by decide⟩ (Nat.le_of_ble_eq_true rfl) (c_alist d h329 q309 f346) 2 9 (Nat.le_of_ble_eq_true rfl) (Nat.le_of_ble_eq_true rfl)) (fun h348 q347 => ?_) (fun E h1 q => q.elim)
  have sp349 : tw_sp d τ (tw_rm h x) g τ h348 := by rw [q347]; exact sp330.wl n312 z313
  have f350 : h348 (r5 0) = some (.inl (d.2 0, 4, .inl (fun _ => 0))) := by rw [q347, tw_up_n ne314]; exact f331
  have f351 : h348 (r5 1) = some (.inl (d.2 0, 4, .inl (fun _ => 0))) := by rw [q347, tw_up_n ne315]; exact f332
  have f352 : h348 (r5 2) = some (.inl (d.2 0, 4, .inl (fun _ => 0))) := by rw [q347, tw_up_n ne316]; exact f333
  have f353 : h348 (r5 3) = some (.inl (d.2 0, 4, .inl (fun _ => 0))) := by rw [q347, tw_up_n ne317]; exact f334
  have f354 : h348 q4 = some (.inl (d.2 8, 4, .inr (.inr (.inr (.inr (fun i => if i < 4 then some (r5 i) else none)))))) := by rw [q347, tw_up_n ne318]; exact f335
  have f355 : h348 (r43 0) = some (.inl (d.2 0, 4, .inl (fun _ => 0))) := by rw [q347, tw_up_n ne319]; exact f336
  have f356 : h348 (r43 1) = some (.inl (d.2 0, 4, .inl (fun _ => 0))) := by rw [q347, tw_up_n ne320]; exact f337
  have f357 : h348 (r43 2) = some (.inl (d.2 0, 4, .inl (fun _ => 0))) := by rw [q347, tw_up_n ne321]; exact f338
  have f358 : h348 (r43 3) = some (.inl (d.2 0, 4, .inl (fun _ => 0))) := by rw [q347, tw_up_n ne322]; exact f339
  have f359 : h348 q42 = some (.inl (d.2 8, 4, .inr (.inr (.inr (.inr (fun i => if i < 4 then some (r43 i) else none)))))) := by rw [q347, tw_up_n ne323]; exact f340
  have f360 : h348 q115 = some (.inl (d.2 1, 2, .inr (.inl (fun _ => 0)))) := by rw [q347, tw_up_n ne324]; exact f341
  have f361 : h348 q159 = some (.inl (d.2 1, 2, .inr (.inl (fun _ => 0)))) := by rw [q347, tw_up_n ne325]; exact f342
  have f362 : h348 q206 = some (.inl (d.2 1, 2, .inr (.inl (fun _ => 0)))) := by rw [q347, tw_up_n ne326]; exact f343
  have f363 : h348 q256 = some (.inl (d.2 1, 2, .inr (.inl (fun _ => 0)))) := by rw [q347, tw_up_n ne327]; exact f344
  have f364 : h348 x = some (.inr (14, [.int 0, .int 0, .int 155, .ref q4, .ref q42, .ref q115, .ref q159, .ref q206, .ref q256, .null, .null, .null])) := by rw [q347, tw_up_n ne328]; exact f345
  have f365 : h348 q309 = some (.inr (3, [.int 0, .ref (d.2 102), .int 0])) := by rw [q347]; exact tw_up_s
  refine tw_putF rfl in_14 tyX10 tyX10_ok nmX10 9 dX10_init_67 w_1160 rfl (by decide) f364 rfl rfl rfl rfl rfl rfl (Nat.le_of_ble_eq_true rfl) [.int 0, .int 0, .int 155, .ref q4, .ref q42, .ref q115, .ref q159, .ref q206, .ref q256, .ref q309, .null, .null] rfl ?_
  obtain ⟨h366, eh366⟩ : ∃ z : tw_H, z = tw_up h348 x (.inr (14, [.int 0, .int 0, .int 155, .ref q4, .ref q42, .ref q115, .ref q159, .ref q206, .ref q256, .ref q309, .null, .null])) := ⟨_, rfl⟩
  rw [← eh366]
  have sp367 : tw_sp d τ (tw_rm h x) g τ h366 := by rw [eh366]; exact sp349.wl tw_rm_s hz
  have f368 : h366 (r5 0) = some (.inl (d.2 0, 4, .inl (fun _ => 0))) := by rw [eh366, tw_up_n (Ne.symm ne15)]; exact f350
  have f369 : h366 (r5 1) = some (.inl (d.2 0, 4, .inl (fun _ => 0))) := by rw [eh366, tw_up_n (Ne.symm ne16)]; exact f351
  have f370 : h366 (r5 2) = some (.inl (d.2 0, 4, .inl (fun _ => 0))) := by rw [eh366, tw_up_n (Ne.symm ne17)]; exact f352
  have f371 : h366 (r5 3) = some (.inl (d.2 0, 4, .inl (fun _ => 0))) := by rw [eh366, tw_up_n (Ne.symm ne18)]; exact f353
  have f372 : h366 q4 = some (.inl (d.2 8, 4, .inr (.inr (.inr (.inr (fun i => if i < 4 then some (r5 i) else none)))))) := by rw [eh366, tw_up_n (Ne.symm ne19)]; exact f354
  have f373 : h366 (r43 0) = some (.inl (d.2 0, 4, .inl (fun _ => 0))) := by rw [eh366, tw_up_n (Ne.symm ne83)]; exact f355
  have f374 : h366 (r43 1) = some (.inl (d.2 0, 4, .inl (fun _ => 0))) := by rw [eh366, tw_up_n (Ne.symm ne84)]; exact f356
  have f375 : h366 (r43 2) = some (.inl (d.2 0, 4, .inl (fun _ => 0))) := by rw [eh366, tw_up_n (Ne.symm ne85)]; exact f357
  have f376 : h366 (r43 3) = some (.inl (d.2 0, 4, .inl (fun _ => 0))) := by rw [eh366, tw_up_n (Ne.symm ne86)]; exact f358
  have f377 : h366 q42 = some (.inl (d.2 8, 4, .inr (.inr (.inr (.inr (fun i => if i < 4 then some (r43 i) else none)))))) := by rw [eh366, tw_up_n (Ne.symm ne87)]; exact f359
  have f378 : h366 q115 = some (.inl (d.2 1, 2, .inr (.inl (fun _ => 0)))) := by rw [eh366, tw_up_n (Ne.symm ne130)]; exact f360
  have f379 : h366 q159 = some (.inl (d.2 1, 2, .inr (.inl (fun _ => 0)))) := by rw [eh366, tw_up_n (Ne.symm ne175)]; exact f361
  have f380 : h366 q206 = some (.inl (d.2 1, 2, .inr (.inl (fun _ => 0)))) := by rw [eh366, tw_up_n (Ne.symm ne223)]; exact f362
  have f381 : h366 q256 = some (.inl (d.2 1, 2, .inr (.inl (fun _ => 0)))) := by rw [eh366, tw_up_n (Ne.symm ne274)]; exact f363
  have f382 : h366 q309 = some (.inr (3, [.int 0, .ref (d.2 102), .int 0])) := by rw [eh366, tw_up_n (Ne.symm ne328)]; exact f365
  have f383 : h366 x = some (.inr (14, [.int 0, .int 0, .int 155, .ref q4, .ref q42, .ref q115, .ref q159, .ref q206, .ref q256, .ref q309, .null, .null])) := by rw [eh366]; exact tw_up_s
  refine tw_aload_n 0 dX10_init_70 rfl rfl ?_
  refine tw_new (ci := 3) rfl in_3 tyJx4a65c tyJx4a65c_ok dX10_init_71 w_1121 w_1122 w_82 (fs := [.int 0, .null, .int 0]) (fun j hj => by rcases (show j = 0 ∨ j = 1 ∨ j = 2 by omega) with rfl | rfl | rfl <;> rfl) 1 6 (Nat.le_of_ble_eq_true rfl) (Nat.le_of_ble_eq_true rfl) (fun q384 hq385 hA386 => ?_)
  have n387 := sp367.nn hq385
  have z388 := sp367.1.none hq385
  have ne389 := tw_neF f368 hq385
  have ne390 := tw_neF f369 hq385
  have ne391 := tw_neF f370 hq385
  have ne392 := tw_neF f371 hq385
  have ne393 := tw_neF f372 hq385
  have ne394 := tw_neF f373 hq385
  have ne395 := tw_neF f374 hq385
  have ne396 := tw_neF f375 hq385
  have ne397 := tw_neF f376 hq385
  have ne398 := tw_neF f377 hq385
  have ne399 := tw_neF f378 hq385
  have ne400 := tw_neF f379 hq385
  have ne401 := tw_neF f380 hq385
  have ne402 := tw_neF f381 hq385
  have ne403 := tw_neF f382 hq385
  have ne404 := tw_neF f383 hq385
  obtain ⟨h405, eh405⟩ : ∃ z : tw_H, z = tw_up h366 q384 (.inr (3, [.int 0, .null, .int 0])) := ⟨_, rfl⟩
  rw [← eh405]
  have sp406 : tw_sp d τ (tw_rm h x) g τ h405 := by rw [eh405]; exact sp367.mk hq385
  have f407 : h405 (r5 0) = some (.inl (d.2 0, 4, .inl (fun _ => 0))) := by rw [eh405, tw_up_n ne389]; exact f368
  have f408 : h405 (r5 1) = some (.inl (d.2 0, 4, .inl (fun _ => 0))) := by rw [eh405, tw_up_n ne390]; exact f369
  have f409 : h405 (r5 2) = some (.inl (d.2 0, 4, .inl (fun _ => 0))) := by rw [eh405, tw_up_n ne391]; exact f370
  have f410 : h405 (r5 3) = some (.inl (d.2 0, 4, .inl (fun _ => 0))) := by rw [eh405, tw_up_n ne392]; exact f371
  have f411 : h405 q4 = some (.inl (d.2 8, 4, .inr (.inr (.inr (.inr (fun i => if i < 4 then some (r5 i) else none)))))) := by rw [eh405, tw_up_n ne393]; exact f372
  have f412 : h405 (r43 0) = some (.inl (d.2 0, 4, .inl (fun _ => 0))) := by rw [eh405, tw_up_n ne394]; exact f373
  have f413 : h405 (r43 1) = some (.inl (d.2 0, 4, .inl (fun _ => 0))) := by rw [eh405, tw_up_n ne395]; exact f374
  have f414 : h405 (r43 2) = some (.inl (d.2 0, 4, .inl (fun _ => 0))) := by rw [eh405, tw_up_n ne396]; exact f375
  have f415 : h405 (r43 3) = some (.inl (d.2 0, 4, .inl (fun _ => 0))) := by rw [eh405, tw_up_n ne397]; exact f376
  have f416 : h405 q42 = some (.inl (d.2 8, 4, .inr (.inr (.inr (.inr (fun i => if i < 4 then some (r43 i) else none)))))) := by rw [eh405, tw_up_n ne398]; exact f377
  have f417 : h405 q115 = some (.inl (d.2 1, 2, .inr (.inl (fun _ => 0)))) := by rw [eh405, tw_up_n ne399]; exact f378
  have f418 : h405 q159 = some (.inl (d.2 1, 2, .inr (.inl (fun _ => 0)))) := by rw [eh405, tw_up_n ne400]; exact f379
  have f419 : h405 q206 = some (.inl (d.2 1, 2, .inr (.inl (fun _ => 0)))) := by rw [eh405, tw_up_n ne401]; exact f380
  have f420 : h405 q256 = some (.inl (d.2 1, 2, .inr (.inl (fun _ => 0)))) := by rw [eh405, tw_up_n ne402]; exact f381
  have f421 : h405 q309 = some (.inr (3, [.int 0, .ref (d.2 102), .int 0])) := by rw [eh405, tw_up_n ne403]; exact f382
  have f422 : h405 x = some (.inr (14, [.int 0, .int 0, .int 155, .ref q4, .ref q42, .ref q115, .ref q159, .ref q206, .ref q256, .ref q309, .null, .null])) := by rw [eh405, tw_up_n ne404]; exact f383
  have f423 : h405 q384 = some (.inr (3, [.int 0, .null, .int 0])) := by rw [eh405]; exact tw_up_s
  refine tw_dup dX10_init_74 rfl ?_
  refine tw_bv (tw_callI (M := mX10_init) (pc := 75) okJx4a65c_init_da8c8 dX10_init_75 w_1123 rfl [] [.ref q384, .ref x] rfl rfl ⟨by decide, by decide⟩ (Nat.le_of_ble_eq_true rfl) (c_alist d h405 q384 f423) 1 6 (Nat.le_of_ble_eq_true rfl) (Nat.le_of_ble_eq_true rfl)) (fun h425 q424 => ?_) (fun E h1 q => q.elim)
  have sp426 : tw_sp d τ (tw_rm h x) g τ h425 := by rw [q424]; exact sp406.wl n387 z388
  have f427 : h425 (r5 0) = some (.inl (d.2 0, 4, .inl (fun _ => 0))) := by rw [q424, tw_up_n ne389]; exact f407
  have f428 : h425 (r5 1) = some (.inl (d.2 0, 4, .inl (fun _ => 0))) := by rw [q424, tw_up_n ne390]; exact f408
  have f429 : h425 (r5 2) = some (.inl (d.2 0, 4, .inl (fun _ => 0))) := by rw [q424, tw_up_n ne391]; exact f409
  have f430 : h425 (r5 3) = some (.inl (d.2 0, 4, .inl (fun _ => 0))) := by rw [q424, tw_up_n ne392]; exact f410
  have f431 : h425 q4 = some (.inl (d.2 8, 4, .inr (.inr (.inr (.inr (fun i => if i < 4 then some (r5 i) else none)))))) := by rw [q424, tw_up_n ne393]; exact f411
  have f432 : h425 (r43 0) = some (.inl (d.2 0, 4, .inl (fun _ => 0))) := by rw [q424, tw_up_n ne394]; exact f412
  have f433 : h425 (r43 1) = some (.inl (d.2 0, 4, .inl (fun _ => 0))) := by rw [q424, tw_up_n ne395]; exact f413
  have f434 : h425 (r43 2) = some (.inl (d.2 0, 4, .inl (fun _ => 0))) := by rw [q424, tw_up_n ne396]; exact f414
  have f435 : h425 (r43 3) = some (.inl (d.2 0, 4, .inl (fun _ => 0))) := by rw [q424, tw_up_n ne397]; exact f415
  have f436 : h425 q42 = some (.inl (d.2 8, 4, .inr (.inr (.inr (.inr (fun i => if i < 4 then some (r43 i) else none)))))) := by rw [q424, tw_up_n ne398]; exact f416
  have f437 : h425 q115 = some (.inl (d.2 1, 2, .inr (.inl (fun _ => 0)))) := by rw [q424, tw_up_n ne399]; exact f417
  have f438 : h425 q159 = some (.inl (d.2 1, 2, .inr (.inl (fun _ => 0)))) := by rw [q424, tw_up_n ne400]; exact f418
  have f439 : h425 q206 = some (.inl (d.2 1, 2, .inr (.inl (fun _ => 0)))) := by rw [q424, tw_up_n ne401]; exact f419
  have f440 : h425 q256 = some (.inl (d.2 1, 2, .inr (.inl (fun _ => 0)))) := by rw [q424, tw_up_n ne402]; exact f420
  have f441 : h425 q309 = some (.inr (3, [.int 0, .ref (d.2 102), .int 0])) := by rw [q424, tw_up_n ne403]; exact f421
  have f442 : h425 x = some (.inr (14, [.int 0, .int 0, .int 155, .ref q4, .ref q42, .ref q115, .ref q159, .ref q206, .ref q256, .ref q309, .null, .null])) := by rw [q424, tw_up_n ne404]; exact f422
  have f443 : h425 q384 = some (.inr (3, [.int 0, .ref (d.2 102), .int 0])) := by rw [q424]; exact tw_up_s
  refine tw_putF rfl in_14 tyX10 tyX10_ok nmX10 10 dX10_init_78 w_1161 rfl (by decide) f442 rfl rfl rfl rfl rfl rfl (Nat.le_of_ble_eq_true rfl) [.int 0, .int 0, .int 155, .ref q4, .ref q42, .ref q115, .ref q159, .ref q206, .ref q256, .ref q309, .ref q384, .null] rfl ?_
  obtain ⟨h444, eh444⟩ : ∃ z : tw_H, z = tw_up h425 x (.inr (14, [.int 0, .int 0, .int 155, .ref q4, .ref q42, .ref q115, .ref q159, .ref q206, .ref q256, .ref q309, .ref q384, .null])) := ⟨_, rfl⟩
  rw [← eh444]
  have sp445 : tw_sp d τ (tw_rm h x) g τ h444 := by rw [eh444]; exact sp426.wl tw_rm_s hz
  have f446 : h444 (r5 0) = some (.inl (d.2 0, 4, .inl (fun _ => 0))) := by rw [eh444, tw_up_n (Ne.symm ne15)]; exact f427
  have f447 : h444 (r5 1) = some (.inl (d.2 0, 4, .inl (fun _ => 0))) := by rw [eh444, tw_up_n (Ne.symm ne16)]; exact f428
  have f448 : h444 (r5 2) = some (.inl (d.2 0, 4, .inl (fun _ => 0))) := by rw [eh444, tw_up_n (Ne.symm ne17)]; exact f429
  have f449 : h444 (r5 3) = some (.inl (d.2 0, 4, .inl (fun _ => 0))) := by rw [eh444, tw_up_n (Ne.symm ne18)]; exact f430
  have f450 : h444 q4 = some (.inl (d.2 8, 4, .inr (.inr (.inr (.inr (fun i => if i < 4 then some (r5 i) else none)))))) := by rw [eh444, tw_up_n (Ne.symm ne19)]; exact f431
  have f451 : h444 (r43 0) = some (.inl (d.2 0, 4, .inl (fun _ => 0))) := by rw [eh444, tw_up_n (Ne.symm ne83)]; exact f432
  have f452 : h444 (r43 1) = some (.inl (d.2 0, 4, .inl (fun _ => 0))) := by rw [eh444, tw_up_n (Ne.symm ne84)]; exact f433
  have f453 : h444 (r43 2) = some (.inl (d.2 0, 4, .inl (fun _ => 0))) := by rw [eh444, tw_up_n (Ne.symm ne85)]; exact f434
  have f454 : h444 (r43 3) = some (.inl (d.2 0, 4, .inl (fun _ => 0))) := by rw [eh444, tw_up_n (Ne.symm ne86)]; exact f435
  have f455 : h444 q42 = some (.inl (d.2 8, 4, .inr (.inr (.inr (.inr (fun i => if i < 4 then some (r43 i) else none)))))) := by rw [eh444, tw_up_n (Ne.symm ne87)]; exact f436
  have f456 : h444 q115 = some (.inl (d.2 1, 2, .inr (.inl (fun _ => 0)))) := by rw [eh444, tw_up_n (Ne.symm ne130)]; exact f437
  have f457 : h444 q159 = some (.inl (d.2 1, 2, .inr (.inl (fun _ => 0)))) := by rw [eh444, tw_up_n (Ne.symm ne175)]; exact f438
  have f458 : h444 q206 = some (.inl (d.2 1, 2, .inr (.inl (fun _ => 0)))) := by rw [eh444, tw_up_n (Ne.symm ne223)]; exact f439
  have f459 : h444 q256 = some (.inl (d.2 1, 2, .inr (.inl (fun _ => 0)))) := by rw [eh444, tw_up_n (Ne.symm ne274)]; exact f440
  have f460 : h444 q309 = some (.inr (3, [.int 0, .ref (d.2 102), .int 0])) := by rw [eh444, tw_up_n (Ne.symm ne328)]; exact f441
  have f461 : h444 q384 = some (.inr (3, [.int 0, .ref (d.2 102), .int 0])) := by rw [eh444, tw_up_n (Ne.symm ne404)]; exact f443
  have f462 : h444 x = some (.inr (14, [.int 0, .int 0, .int 155, .ref q4, .ref q42, .ref q115, .ref q159, .ref q206, .ref q256, .ref q309, .ref q384, .null])) := by rw [eh444]; exact tw_up_s
  refine tw_aload_n 0 dX10_init_81 rfl rfl ?_
  refine tw_new (ci := 3) rfl in_3 tyJx4a65c tyJx4a65c_ok dX10_init_82 w_1121 w_1122 w_82 (fs := [.int 0, .null, .int 0]) (fun j hj => by rcases (show j = 0 ∨ j = 1 ∨ j = 2 by omega) with rfl | rfl | rfl <;> rfl) 0 3 (Nat.le_of_ble_eq_true rfl) (Nat.le_of_ble_eq_true rfl) (fun q463 hq464 hA465 => ?_)
  have n466 := sp445.nn hq464
  have z467 := sp445.1.none hq464
  have ne468 := tw_neF f446 hq464
  have ne469 := tw_neF f447 hq464
  have ne470 := tw_neF f448 hq464
  have ne471 := tw_neF f449 hq464
  have ne472 := tw_neF f450 hq464
  have ne473 := tw_neF f451 hq464
  have ne474 := tw_neF f452 hq464
  have ne475 := tw_neF f453 hq464
  have ne476 := tw_neF f454 hq464
  have ne477 := tw_neF f455 hq464
  have ne478 := tw_neF f456 hq464
  have ne479 := tw_neF f457 hq464
  have ne480 := tw_neF f458 hq464
  have ne481 := tw_neF f459 hq464
  have ne482 := tw_neF f460 hq464
  have ne483 := tw_neF f461 hq464
  have ne484 := tw_neF f462 hq464
  obtain ⟨h485, eh485⟩ : ∃ z : tw_H, z = tw_up h444 q463 (.inr (3, [.int 0, .null, .int 0])) := ⟨_, rfl⟩
  rw [← eh485]
  have sp486 : tw_sp d τ (tw_rm h x) g τ h485 := by rw [eh485]; exact sp445.mk hq464
  have f487 : h485 (r5 0) = some (.inl (d.2 0, 4, .inl (fun _ => 0))) := by rw [eh485, tw_up_n ne468]; exact f446
  have f488 : h485 (r5 1) = some (.inl (d.2 0, 4, .inl (fun _ => 0))) := by rw [eh485, tw_up_n ne469]; exact f447
  have f489 : h485 (r5 2) = some (.inl (d.2 0, 4, .inl (fun _ => 0))) := by rw [eh485, tw_up_n ne470]; exact f448
  have f490 : h485 (r5 3) = some (.inl (d.2 0, 4, .inl (fun _ => 0))) := by rw [eh485, tw_up_n ne471]; exact f449
  have f491 : h485 q4 = some (.inl (d.2 8, 4, .inr (.inr (.inr (.inr (fun i => if i < 4 then some (r5 i) else none)))))) := by rw [eh485, tw_up_n ne472]; exact f450
  have f492 : h485 (r43 0) = some (.inl (d.2 0, 4, .inl (fun _ => 0))) := by rw [eh485, tw_up_n ne473]; exact f451
  have f493 : h485 (r43 1) = some (.inl (d.2 0, 4, .inl (fun _ => 0))) := by rw [eh485, tw_up_n ne474]; exact f452
  have f494 : h485 (r43 2) = some (.inl (d.2 0, 4, .inl (fun _ => 0))) := by rw [eh485, tw_up_n ne475]; exact f453
  have f495 : h485 (r43 3) = some (.inl (d.2 0, 4, .inl (fun _ => 0))) := by rw [eh485, tw_up_n ne476]; exact f454
  have f496 : h485 q42 = some (.inl (d.2 8, 4, .inr (.inr (.inr (.inr (fun i => if i < 4 then some (r43 i) else none)))))) := by rw [eh485, tw_up_n ne477]; exact f455
  have f497 : h485 q115 = some (.inl (d.2 1, 2, .inr (.inl (fun _ => 0)))) := by rw [eh485, tw_up_n ne478]; exact f456
  have f498 : h485 q159 = some (.inl (d.2 1, 2, .inr (.inl (fun _ => 0)))) := by rw [eh485, tw_up_n ne479]; exact f457
  have f499 : h485 q206 = some (.inl (d.2 1, 2, .inr (.inl (fun _ => 0)))) := by rw [eh485, tw_up_n ne480]; exact f458
  have f500 : h485 q256 = some (.inl (d.2 1, 2, .inr (.inl (fun _ => 0)))) := by rw [eh485, tw_up_n ne481]; exact f459
  have f501 : h485 q309 = some (.inr (3, [.int 0, .ref (d.2 102), .int 0])) := by rw [eh485, tw_up_n ne482]; exact f460
  have f502 : h485 q384 = some (.inr (3, [.int 0, .ref (d.2 102), .int 0])) := by rw [eh485, tw_up_n ne483]; exact f461
  have f503 : h485 x = some (.inr (14, [.int 0, .int 0, .int 155, .ref q4, .ref q42, .ref q115, .ref q159, .ref q206, .ref q256, .ref q309, .ref q384, .null])) := by rw [eh485, tw_up_n ne484]; exact f462
  have f504 : h485 q463 = some (.inr (3, [.int 0, .null, .int 0])) := by rw [eh485]; exact tw_up_s
  refine tw_dup dX10_init_85 rfl ?_
  refine tw_bv (tw_callI (M := mX10_init) (pc := 86) okJx4a65c_init_da8c8 dX10_init_86 w_1123 rfl [] [.ref q463, .ref x] rfl rfl ⟨by decide, by decide⟩ (Nat.le_of_ble_eq_true rfl) (c_alist d h485 q463 f504) 0 3 (Nat.le_of_ble_eq_true rfl) (Nat.le_of_ble_eq_true rfl)) (fun h506 q505 => ?_) (fun E h1 q => q.elim)
  have sp507 : tw_sp d τ (tw_rm h x) g τ h506 := by rw [q505]; exact sp486.wl n466 z467
  have f508 : h506 (r5 0) = some (.inl (d.2 0, 4, .inl (fun _ => 0))) := by rw [q505, tw_up_n ne468]; exact f487
  have f509 : h506 (r5 1) = some (.inl (d.2 0, 4, .inl (fun _ => 0))) := by rw [q505, tw_up_n ne469]; exact f488
  have f510 : h506 (r5 2) = some (.inl (d.2 0, 4, .inl (fun _ => 0))) := by rw [q505, tw_up_n ne470]; exact f489
  have f511 : h506 (r5 3) = some (.inl (d.2 0, 4, .inl (fun _ => 0))) := by rw [q505, tw_up_n ne471]; exact f490
  have f512 : h506 q4 = some (.inl (d.2 8, 4, .inr (.inr (.inr (.inr (fun i => if i < 4 then some (r5 i) else none)))))) := by rw [q505, tw_up_n ne472]; exact f491
  have f513 : h506 (r43 0) = some (.inl (d.2 0, 4, .inl (fun _ => 0))) := by rw [q505, tw_up_n ne473]; exact f492
  have f514 : h506 (r43 1) = some (.inl (d.2 0, 4, .inl (fun _ => 0))) := by rw [q505, tw_up_n ne474]; exact f493
  have f515 : h506 (r43 2) = some (.inl (d.2 0, 4, .inl (fun _ => 0))) := by rw [q505, tw_up_n ne475]; exact f494
  have f516 : h506 (r43 3) = some (.inl (d.2 0, 4, .inl (fun _ => 0))) := by rw [q505, tw_up_n ne476]; exact f495
  have f517 : h506 q42 = some (.inl (d.2 8, 4, .inr (.inr (.inr (.inr (fun i => if i < 4 then some (r43 i) else none)))))) := by rw [q505, tw_up_n ne477]; exact f496
  have f518 : h506 q115 = some (.inl (d.2 1, 2, .inr (.inl (fun _ => 0)))) := by rw [q505, tw_up_n ne478]; exact f497
  have f519 : h506 q159 = some (.inl (d.2 1, 2, .inr (.inl (fun _ => 0)))) := by rw [q505, tw_up_n ne479]; exact f498
  have f520 : h506 q206 = some (.inl (d.2 1, 2, .inr (.inl (fun _ => 0)))) := by rw [q505, tw_up_n ne480]; exact f499
  have f521 : h506 q256 = some (.inl (d.2 1, 2, .inr (.inl (fun _ => 0)))) := by rw [q505, tw_up_n ne481]; exact f500
  have f522 : h506 q309 = some (.inr (3, [.int 0, .ref (d.2 102), .int 0])) := by rw [q505, tw_up_n ne482]; exact f501
  have f523 : h506 q384 = some (.inr (3, [.int 0, .ref (d.2 102), .int 0])) := by rw [q505, tw_up_n ne483]; exact f502
  have f524 : h506 x = some (.inr (14, [.int 0, .int 0, .int 155, .ref q4, .ref q42, .ref q115, .ref q159, .ref q206, .ref q256, .ref q309, .ref q384, .null])) := by rw [q505, tw_up_n ne484]; exact f503
  have f525 : h506 q463 = some (.inr (3, [.int 0, .ref (d.2 102), .int 0])) := by rw [q505]; exact tw_up_s
  refine tw_putF rfl in_14 tyX10 tyX10_ok nmX10 11 dX10_init_89 w_1162 rfl (by decide) f524 rfl rfl rfl rfl rfl rfl (Nat.le_of_ble_eq_true rfl) [.int 0, .int 0, .int 155, .ref q4, .ref q42, .ref q115, .ref q159, .ref q206, .ref q256, .ref q309, .ref q384, .ref q463] rfl ?_
  obtain ⟨h526, eh526⟩ : ∃ z : tw_H, z = tw_up h506 x (.inr (14, [.int 0, .int 0, .int 155, .ref q4, .ref q42, .ref q115, .ref q159, .ref q206, .ref q256, .ref q309, .ref q384, .ref q463])) := ⟨_, rfl⟩
  rw [← eh526]
  have sp527 : tw_sp d τ (tw_rm h x) g τ h526 := by rw [eh526]; exact sp507.wl tw_rm_s hz
  have f528 : h526 (r5 0) = some (.inl (d.2 0, 4, .inl (fun _ => 0))) := by rw [eh526, tw_up_n (Ne.symm ne15)]; exact f508
  have f529 : h526 (r5 1) = some (.inl (d.2 0, 4, .inl (fun _ => 0))) := by rw [eh526, tw_up_n (Ne.symm ne16)]; exact f509
  have f530 : h526 (r5 2) = some (.inl (d.2 0, 4, .inl (fun _ => 0))) := by rw [eh526, tw_up_n (Ne.symm ne17)]; exact f510
  have f531 : h526 (r5 3) = some (.inl (d.2 0, 4, .inl (fun _ => 0))) := by rw [eh526, tw_up_n (Ne.symm ne18)]; exact f511
  have f532 : h526 q4 = some (.inl (d.2 8, 4, .inr (.inr (.inr (.inr (fun i => if i < 4 then some (r5 i) else none)))))) := by rw [eh526, tw_up_n (Ne.symm ne19)]; exact f512
  have f533 : h526 (r43 0) = some (.inl (d.2 0, 4, .inl (fun _ => 0))) := by rw [eh526, tw_up_n (Ne.symm ne83)]; exact f513
  have f534 : h526 (r43 1) = some (.inl (d.2 0, 4, .inl (fun _ => 0))) := by rw [eh526, tw_up_n (Ne.symm ne84)]; exact f514
  have f535 : h526 (r43 2) = some (.inl (d.2 0, 4, .inl (fun _ => 0))) := by rw [eh526, tw_up_n (Ne.symm ne85)]; exact f515
  have f536 : h526 (r43 3) = some (.inl (d.2 0, 4, .inl (fun _ => 0))) := by rw [eh526, tw_up_n (Ne.symm ne86)]; exact f516
  have f537 : h526 q42 = some (.inl (d.2 8, 4, .inr (.inr (.inr (.inr (fun i => if i < 4 then some (r43 i) else none)))))) := by rw [eh526, tw_up_n (Ne.symm ne87)]; exact f517
  have f538 : h526 q115 = some (.inl (d.2 1, 2, .inr (.inl (fun _ => 0)))) := by rw [eh526, tw_up_n (Ne.symm ne130)]; exact f518
  have f539 : h526 q159 = some (.inl (d.2 1, 2, .inr (.inl (fun _ => 0)))) := by rw [eh526, tw_up_n (Ne.symm ne175)]; exact f519
  have f540 : h526 q206 = some (.inl (d.2 1, 2, .inr (.inl (fun _ => 0)))) := by rw [eh526, tw_up_n (Ne.symm ne223)]; exact f520
  have f541 : h526 q256 = some (.inl (d.2 1, 2, .inr (.inl (fun _ => 0)))) := by rw [eh526, tw_up_n (Ne.symm ne274)]; exact f521
  have f542 : h526 q309 = some (.inr (3, [.int 0, .ref (d.2 102), .int 0])) := by rw [eh526, tw_up_n (Ne.symm ne328)]; exact f522
  have f543 : h526 q384 = some (.inr (3, [.int 0, .ref (d.2 102), .int 0])) := by rw [eh526, tw_up_n (Ne.symm ne404)]; exact f523
  have f544 : h526 q463 = some (.inr (3, [.int 0, .ref (d.2 102), .int 0])) := by rw [eh526, tw_up_n (Ne.symm ne484)]; exact f525
  have f545 : h526 x = some (.inr (14, [.int 0, .int 0, .int 155, .ref q4, .ref q42, .ref q115, .ref q159, .ref q206, .ref q256, .ref q309, .ref q384, .ref q463])) := by rw [eh526]; exact tw_up_s
  refine tw_iconst (v := 0) dX10_init_92 (by decide) ?_
  refine tw_istore_n [(1, .int 0), (0, .ref x)] dX10_init_93 rfl (by decide) rfl ?_
  refine tw_iload_n 0 dX10_init_94 rfl rfl ?_
  refine tw_iconst (v := 4) dX10_init_95 (by decide) ?_
  refine tw_icmp_ge 137 dX10_init_96 (by decide) (fun c546 => absurd c546 (by decide)) (fun _ => ?_)
  refine tw_iconst (v := 0) dX10_init_99 (by decide) ?_
  refine tw_istore_n [(2, .int 0), (1, .int 0), (0, .ref x)] dX10_init_100 rfl (by decide) rfl ?_
  refine tw_iload_n 0 dX10_init_101 rfl rfl ?_
  refine tw_iconst (v := 4) dX10_init_102 (by decide) ?_
  refine tw_icmp_ge 131 dX10_init_103 (by decide) (fun c547 => absurd c547 (by decide)) (fun _ => ?_)
  refine tw_aload_n 2 dX10_init_106 rfl rfl ?_
  refine tw_get (v := .ref q4) rfl in_14 3 dX10_init_107 w_1154 rfl (by decide) f545 rfl ?_
  refine tw_iload_n 1 dX10_init_110 rfl rfl ?_
  refine tw_aald (v := .ref (r5 0)) 8 rfl rfl dX10_init_111 f532 (vp_in_nI (n := 0) (by decide) (by decide)) rfl ?_
  refine tw_iload_n 0 dX10_init_112 rfl rfl ?_
  refine tw_iconst (v := 3) dX10_init_113 (by decide) ?_
  refine tw_iast dX10_init_114 f528 (vp_in_nI (n := 0) (by decide) (by decide)) ?_
  obtain ⟨F548, eF548⟩ : ∃ z : Nat → Int32, z = upd (fun _ => 0) (0 : Int32).toNatClampNeg 3 := ⟨_, rfl⟩
  rw [← eF548]
  obtain ⟨h549, eh549⟩ : ∃ z : tw_H, z = tw_up h526 (r5 0) (.inl (d.2 0, 4, .inl F548)) := ⟨_, rfl⟩
  rw [← eh549]
  have sp550 : tw_sp d τ (tw_rm h x) g τ h549 := by rw [eh549]; exact sp527.wl n20 z21
  have f551 : h549 (r5 1) = some (.inl (d.2 0, 4, .inl (fun _ => 0))) := by rw [eh549, tw_up_n (fun z => absurd (hi9 1 0 (by decide) (by decide) z) (by decide))]; exact f529
  have f552 : h549 (r5 2) = some (.inl (d.2 0, 4, .inl (fun _ => 0))) := by rw [eh549, tw_up_n (fun z => absurd (hi9 2 0 (by decide) (by decide) z) (by decide))]; exact f530
  have f553 : h549 (r5 3) = some (.inl (d.2 0, 4, .inl (fun _ => 0))) := by rw [eh549, tw_up_n (fun z => absurd (hi9 3 0 (by decide) (by decide) z) (by decide))]; exact f531
  have f554 : h549 q4 = some (.inl (d.2 8, 4, .inr (.inr (.inr (.inr (fun i => if i < 4 then some (r5 i) else none)))))) := by rw [eh549, tw_up_n (Ne.symm (hr8 0 (by decide)).2)]; exact f532
  have f555 : h549 (r43 0) = some (.inl (d.2 0, 4, .inl (fun _ => 0))) := by rw [eh549, tw_up_n (Ne.symm ne53)]; exact f533
  have f556 : h549 (r43 1) = some (.inl (d.2 0, 4, .inl (fun _ => 0))) := by rw [eh549, tw_up_n (Ne.symm ne54)]; exact f534
  have f557 : h549 (r43 2) = some (.inl (d.2 0, 4, .inl (fun _ => 0))) := by rw [eh549, tw_up_n (Ne.symm ne55)]; exact f535
  have f558 : h549 (r43 3) = some (.inl (d.2 0, 4, .inl (fun _ => 0))) := by rw [eh549, tw_up_n (Ne.symm ne56)]; exact f536
  have f559 : h549 q42 = some (.inl (d.2 8, 4, .inr (.inr (.inr (.inr (fun i => if i < 4 then some (r43 i) else none)))))) := by rw [eh549, tw_up_n (Ne.symm ne57)]; exact f537
  have f560 : h549 q115 = some (.inl (d.2 1, 2, .inr (.inl (fun _ => 0)))) := by rw [eh549, tw_up_n (Ne.symm ne120)]; exact f538
  have f561 : h549 q159 = some (.inl (d.2 1, 2, .inr (.inl (fun _ => 0)))) := by rw [eh549, tw_up_n (Ne.symm ne164)]; exact f539
  have f562 : h549 q206 = some (.inl (d.2 1, 2, .inr (.inl (fun _ => 0)))) := by rw [eh549, tw_up_n (Ne.symm ne211)]; exact f540
  have f563 : h549 q256 = some (.inl (d.2 1, 2, .inr (.inl (fun _ => 0)))) := by rw [eh549, tw_up_n (Ne.symm ne261)]; exact f541
  have f564 : h549 q309 = some (.inr (3, [.int 0, .ref (d.2 102), .int 0])) := by rw [eh549, tw_up_n (Ne.symm ne314)]; exact f542
  have f565 : h549 q384 = some (.inr (3, [.int 0, .ref (d.2 102), .int 0])) := by rw [eh549, tw_up_n (Ne.symm ne389)]; exact f543
  have f566 : h549 q463 = some (.inr (3, [.int 0, .ref (d.2 102), .int 0])) := by rw [eh549, tw_up_n (Ne.symm ne468)]; exact f544
  have f567 : h549 x = some (.inr (14, [.int 0, .int 0, .int 155, .ref q4, .ref q42, .ref q115, .ref q159, .ref q206, .ref q256, .ref q309, .ref q384, .ref q463])) := by rw [eh549, tw_up_n ne15]; exact f545
  have f568 : h549 (r5 0) = some (.inl (d.2 0, 4, .inl F548)) := by rw [eh549]; exact tw_up_s
  clear f528 f529 f530 f531 f532 f533 f534 f535 f536 f537 f538 f539 f540 f541 f542 f543 f544 f545 sp527 eh549
  refine tw_aload_n 2 dX10_init_115 rfl rfl ?_
  refine tw_get (v := .ref q42) rfl in_14 4 dX10_init_116 w_1155 rfl (by decide) f567 rfl ?_
  refine tw_iload_n 1 dX10_init_119 rfl rfl ?_
  refine tw_aald (v := .ref (r43 0)) 8 rfl rfl dX10_init_120 f559 (vp_in_nI (n := 0) (by decide) (by decide)) rfl ?_
  refine tw_iload_n 0 dX10_init_121 rfl rfl ?_
  refine tw_bipush (v := 10) dX10_init_122 (by decide) ?_
  refine tw_iast dX10_init_124 f555 (vp_in_nI (n := 0) (by decide) (by decide)) ?_
  obtain ⟨F569, eF569⟩ : ∃ z : Nat → Int32, z = upd (fun _ => 0) (0 : Int32).toNatClampNeg 10 := ⟨_, rfl⟩
  rw [← eF569]
  obtain ⟨h570, eh570⟩ : ∃ z : tw_H, z = tw_up h549 (r43 0) (.inl (d.2 0, 4, .inl F569)) := ⟨_, rfl⟩
  rw [← eh570]
  have sp571 : tw_sp d τ (tw_rm h x) g τ h570 := by rw [eh570]; exact sp550.wl n88 z89
  have f572 : h570 (r5 1) = some (.inl (d.2 0, 4, .inl (fun _ => 0))) := by rw [eh570, tw_up_n ne59]; exact f551
  have f573 : h570 (r5 2) = some (.inl (d.2 0, 4, .inl (fun _ => 0))) := by rw [eh570, tw_up_n ne65]; exact f552
  have f574 : h570 (r5 3) = some (.inl (d.2 0, 4, .inl (fun _ => 0))) := by rw [eh570, tw_up_n ne71]; exact f553
  have f575 : h570 q4 = some (.inl (d.2 8, 4, .inr (.inr (.inr (.inr (fun i => if i < 4 then some (r5 i) else none)))))) := by rw [eh570, tw_up_n ne77]; exact f554
  have f576 : h570 (r43 1) = some (.inl (d.2 0, 4, .inl (fun _ => 0))) := by rw [eh570, tw_up_n (fun z => absurd (hi47 1 0 (by decide) (by decide) z) (by decide))]; exact f556
  have f577 : h570 (r43 2) = some (.inl (d.2 0, 4, .inl (fun _ => 0))) := by rw [eh570, tw_up_n (fun z => absurd (hi47 2 0 (by decide) (by decide) z) (by decide))]; exact f557
  have f578 : h570 (r43 3) = some (.inl (d.2 0, 4, .inl (fun _ => 0))) := by rw [eh570, tw_up_n (fun z => absurd (hi47 3 0 (by decide) (by decide) z) (by decide))]; exact f558
  have f579 : h570 q42 = some (.inl (d.2 8, 4, .inr (.inr (.inr (.inr (fun i => if i < 4 then some (r43 i) else none)))))) := by rw [eh570, tw_up_n (Ne.symm (hr46 0 (by decide)).2)]; exact f559
  have f580 : h570 q115 = some (.inl (d.2 1, 2, .inr (.inl (fun _ => 0)))) := by rw [eh570, tw_up_n (Ne.symm ne125)]; exact f560
  have f581 : h570 q159 = some (.inl (d.2 1, 2, .inr (.inl (fun _ => 0)))) := by rw [eh570, tw_up_n (Ne.symm ne169)]; exact f561
  have f582 : h570 q206 = some (.inl (d.2 1, 2, .inr (.inl (fun _ => 0)))) := by rw [eh570, tw_up_n (Ne.symm ne216)]; exact f562
  have f583 : h570 q256 = some (.inl (d.2 1, 2, .inr (.inl (fun _ => 0)))) := by rw [eh570, tw_up_n (Ne.symm ne266)]; exact f563
  have f584 : h570 q309 = some (.inr (3, [.int 0, .ref (d.2 102), .int 0])) := by rw [eh570, tw_up_n (Ne.symm ne319)]; exact f564
  have f585 : h570 q384 = some (.inr (3, [.int 0, .ref (d.2 102), .int 0])) := by rw [eh570, tw_up_n (Ne.symm ne394)]; exact f565
  have f586 : h570 q463 = some (.inr (3, [.int 0, .ref (d.2 102), .int 0])) := by rw [eh570, tw_up_n (Ne.symm ne473)]; exact f566
  have f587 : h570 x = some (.inr (14, [.int 0, .int 0, .int 155, .ref q4, .ref q42, .ref q115, .ref q159, .ref q206, .ref q256, .ref q309, .ref q384, .ref q463])) := by rw [eh570, tw_up_n ne83]; exact f567
  have f588 : h570 (r5 0) = some (.inl (d.2 0, 4, .inl F548)) := by rw [eh570, tw_up_n ne53]; exact f568
  have f589 : h570 (r43 0) = some (.inl (d.2 0, 4, .inl F569)) := by rw [eh570]; exact tw_up_s
  clear f551 f552 f553 f554 f555 f556 f557 f558 f559 f560 f561 f562 f563 f564 f565 f566 f567 f568 sp550 eh570
  refine tw_iinc [(2, .int 1), (1, .int 0), (0, .ref x)] 0 dX10_init_125 rfl (by decide) (by decide) rfl ?_
  refine tw_goto 101 dX10_init_128 (by decide) ?_
  refine tw_iload_n 0 dX10_init_101 rfl rfl ?_
  refine tw_iconst (v := 4) dX10_init_102 (by decide) ?_
  refine tw_icmp_ge 131 dX10_init_103 (by decide) (fun c590 => absurd c590 (by decide)) (fun _ => ?_)
  refine tw_aload_n 2 dX10_init_106 rfl rfl ?_
  refine tw_get (v := .ref q4) rfl in_14 3 dX10_init_107 w_1154 rfl (by decide) f587 rfl ?_
  refine tw_iload_n 1 dX10_init_110 rfl rfl ?_
  refine tw_aald (v := .ref (r5 0)) 8 rfl rfl dX10_init_111 f575 (vp_in_nI (n := 0) (by decide) (by decide)) rfl ?_
  refine tw_iload_n 0 dX10_init_112 rfl rfl ?_
  refine tw_iconst (v := 3) dX10_init_113 (by decide) ?_
  refine tw_iast dX10_init_114 f588 (vp_in_nI (n := 1) (by decide) (by decide)) ?_
  obtain ⟨F591, eF591⟩ : ∃ z : Nat → Int32, z = upd F548 (1 : Int32).toNatClampNeg 3 := ⟨_, rfl⟩
  rw [← eF591]
  obtain ⟨h592, eh592⟩ : ∃ z : tw_H, z = tw_up h570 (r5 0) (.inl (d.2 0, 4, .inl F591)) := ⟨_, rfl⟩
  rw [← eh592]
  have sp593 : tw_sp d τ (tw_rm h x) g τ h592 := by rw [eh592]; exact sp571.wl n20 z21
  have f594 : h592 (r5 1) = some (.inl (d.2 0, 4, .inl (fun _ => 0))) := by rw [eh592, tw_up_n (fun z => absurd (hi9 1 0 (by decide) (by decide) z) (by decide))]; exact f572
  have f595 : h592 (r5 2) = some (.inl (d.2 0, 4, .inl (fun _ => 0))) := by rw [eh592, tw_up_n (fun z => absurd (hi9 2 0 (by decide) (by decide) z) (by decide))]; exact f573
  have f596 : h592 (r5 3) = some (.inl (d.2 0, 4, .inl (fun _ => 0))) := by rw [eh592, tw_up_n (fun z => absurd (hi9 3 0 (by decide) (by decide) z) (by decide))]; exact f574
  have f597 : h592 q4 = some (.inl (d.2 8, 4, .inr (.inr (.inr (.inr (fun i => if i < 4 then some (r5 i) else none)))))) := by rw [eh592, tw_up_n (Ne.symm (hr8 0 (by decide)).2)]; exact f575
  have f598 : h592 (r43 1) = some (.inl (d.2 0, 4, .inl (fun _ => 0))) := by rw [eh592, tw_up_n (Ne.symm ne54)]; exact f576
  have f599 : h592 (r43 2) = some (.inl (d.2 0, 4, .inl (fun _ => 0))) := by rw [eh592, tw_up_n (Ne.symm ne55)]; exact f577
  have f600 : h592 (r43 3) = some (.inl (d.2 0, 4, .inl (fun _ => 0))) := by rw [eh592, tw_up_n (Ne.symm ne56)]; exact f578
  have f601 : h592 q42 = some (.inl (d.2 8, 4, .inr (.inr (.inr (.inr (fun i => if i < 4 then some (r43 i) else none)))))) := by rw [eh592, tw_up_n (Ne.symm ne57)]; exact f579
  have f602 : h592 q115 = some (.inl (d.2 1, 2, .inr (.inl (fun _ => 0)))) := by rw [eh592, tw_up_n (Ne.symm ne120)]; exact f580
  have f603 : h592 q159 = some (.inl (d.2 1, 2, .inr (.inl (fun _ => 0)))) := by rw [eh592, tw_up_n (Ne.symm ne164)]; exact f581
  have f604 : h592 q206 = some (.inl (d.2 1, 2, .inr (.inl (fun _ => 0)))) := by rw [eh592, tw_up_n (Ne.symm ne211)]; exact f582
  have f605 : h592 q256 = some (.inl (d.2 1, 2, .inr (.inl (fun _ => 0)))) := by rw [eh592, tw_up_n (Ne.symm ne261)]; exact f583
  have f606 : h592 q309 = some (.inr (3, [.int 0, .ref (d.2 102), .int 0])) := by rw [eh592, tw_up_n (Ne.symm ne314)]; exact f584
  have f607 : h592 q384 = some (.inr (3, [.int 0, .ref (d.2 102), .int 0])) := by rw [eh592, tw_up_n (Ne.symm ne389)]; exact f585
  have f608 : h592 q463 = some (.inr (3, [.int 0, .ref (d.2 102), .int 0])) := by rw [eh592, tw_up_n (Ne.symm ne468)]; exact f586
  have f609 : h592 x = some (.inr (14, [.int 0, .int 0, .int 155, .ref q4, .ref q42, .ref q115, .ref q159, .ref q206, .ref q256, .ref q309, .ref q384, .ref q463])) := by rw [eh592, tw_up_n ne15]; exact f587
  have f610 : h592 (r43 0) = some (.inl (d.2 0, 4, .inl F569)) := by rw [eh592, tw_up_n (Ne.symm ne53)]; exact f589
  have f611 : h592 (r5 0) = some (.inl (d.2 0, 4, .inl F591)) := by rw [eh592]; exact tw_up_s
  clear f572 f573 f574 f575 f576 f577 f578 f579 f580 f581 f582 f583 f584 f585 f586 f587 f588 f589 sp571 eh592
  refine tw_aload_n 2 dX10_init_115 rfl rfl ?_
  refine tw_get (v := .ref q42) rfl in_14 4 dX10_init_116 w_1155 rfl (by decide) f609 rfl ?_
  refine tw_iload_n 1 dX10_init_119 rfl rfl ?_
  refine tw_aald (v := .ref (r43 0)) 8 rfl rfl dX10_init_120 f601 (vp_in_nI (n := 0) (by decide) (by decide)) rfl ?_
  refine tw_iload_n 0 dX10_init_121 rfl rfl ?_
  refine tw_bipush (v := 10) dX10_init_122 (by decide) ?_
  refine tw_iast dX10_init_124 f610 (vp_in_nI (n := 1) (by decide) (by decide)) ?_
  obtain ⟨F612, eF612⟩ : ∃ z : Nat → Int32, z = upd F569 (1 : Int32).toNatClampNeg 10 := ⟨_, rfl⟩
  rw [← eF612]
  obtain ⟨h613, eh613⟩ : ∃ z : tw_H, z = tw_up h592 (r43 0) (.inl (d.2 0, 4, .inl F612)) := ⟨_, rfl⟩
  rw [← eh613]
  have sp614 : tw_sp d τ (tw_rm h x) g τ h613 := by rw [eh613]; exact sp593.wl n88 z89
  have f615 : h613 (r5 1) = some (.inl (d.2 0, 4, .inl (fun _ => 0))) := by rw [eh613, tw_up_n ne59]; exact f594
  have f616 : h613 (r5 2) = some (.inl (d.2 0, 4, .inl (fun _ => 0))) := by rw [eh613, tw_up_n ne65]; exact f595
  have f617 : h613 (r5 3) = some (.inl (d.2 0, 4, .inl (fun _ => 0))) := by rw [eh613, tw_up_n ne71]; exact f596
  have f618 : h613 q4 = some (.inl (d.2 8, 4, .inr (.inr (.inr (.inr (fun i => if i < 4 then some (r5 i) else none)))))) := by rw [eh613, tw_up_n ne77]; exact f597
  have f619 : h613 (r43 1) = some (.inl (d.2 0, 4, .inl (fun _ => 0))) := by rw [eh613, tw_up_n (fun z => absurd (hi47 1 0 (by decide) (by decide) z) (by decide))]; exact f598
  have f620 : h613 (r43 2) = some (.inl (d.2 0, 4, .inl (fun _ => 0))) := by rw [eh613, tw_up_n (fun z => absurd (hi47 2 0 (by decide) (by decide) z) (by decide))]; exact f599
  have f621 : h613 (r43 3) = some (.inl (d.2 0, 4, .inl (fun _ => 0))) := by rw [eh613, tw_up_n (fun z => absurd (hi47 3 0 (by decide) (by decide) z) (by decide))]; exact f600
  have f622 : h613 q42 = some (.inl (d.2 8, 4, .inr (.inr (.inr (.inr (fun i => if i < 4 then some (r43 i) else none)))))) := by rw [eh613, tw_up_n (Ne.symm (hr46 0 (by decide)).2)]; exact f601
  have f623 : h613 q115 = some (.inl (d.2 1, 2, .inr (.inl (fun _ => 0)))) := by rw [eh613, tw_up_n (Ne.symm ne125)]; exact f602
  have f624 : h613 q159 = some (.inl (d.2 1, 2, .inr (.inl (fun _ => 0)))) := by rw [eh613, tw_up_n (Ne.symm ne169)]; exact f603
  have f625 : h613 q206 = some (.inl (d.2 1, 2, .inr (.inl (fun _ => 0)))) := by rw [eh613, tw_up_n (Ne.symm ne216)]; exact f604
  have f626 : h613 q256 = some (.inl (d.2 1, 2, .inr (.inl (fun _ => 0)))) := by rw [eh613, tw_up_n (Ne.symm ne266)]; exact f605
  have f627 : h613 q309 = some (.inr (3, [.int 0, .ref (d.2 102), .int 0])) := by rw [eh613, tw_up_n (Ne.symm ne319)]; exact f606
  have f628 : h613 q384 = some (.inr (3, [.int 0, .ref (d.2 102), .int 0])) := by rw [eh613, tw_up_n (Ne.symm ne394)]; exact f607
  have f629 : h613 q463 = some (.inr (3, [.int 0, .ref (d.2 102), .int 0])) := by rw [eh613, tw_up_n (Ne.symm ne473)]; exact f608
  have f630 : h613 x = some (.inr (14, [.int 0, .int 0, .int 155, .ref q4, .ref q42, .ref q115, .ref q159, .ref q206, .ref q256, .ref q309, .ref q384, .ref q463])) := by rw [eh613, tw_up_n ne83]; exact f609
  have f631 : h613 (r5 0) = some (.inl (d.2 0, 4, .inl F591)) := by rw [eh613, tw_up_n ne53]; exact f611
  have f632 : h613 (r43 0) = some (.inl (d.2 0, 4, .inl F612)) := by rw [eh613]; exact tw_up_s
  clear f594 f595 f596 f597 f598 f599 f600 f601 f602 f603 f604 f605 f606 f607 f608 f609 f610 f611 sp593 eh613
  refine tw_iinc [(2, .int 2), (1, .int 0), (0, .ref x)] 0 dX10_init_125 rfl (by decide) (by decide) rfl ?_
  refine tw_goto 101 dX10_init_128 (by decide) ?_
  refine tw_iload_n 0 dX10_init_101 rfl rfl ?_
  refine tw_iconst (v := 4) dX10_init_102 (by decide) ?_
  refine tw_icmp_ge 131 dX10_init_103 (by decide) (fun c633 => absurd c633 (by decide)) (fun _ => ?_)
  refine tw_aload_n 2 dX10_init_106 rfl rfl ?_
  refine tw_get (v := .ref q4) rfl in_14 3 dX10_init_107 w_1154 rfl (by decide) f630 rfl ?_
  refine tw_iload_n 1 dX10_init_110 rfl rfl ?_
  refine tw_aald (v := .ref (r5 0)) 8 rfl rfl dX10_init_111 f618 (vp_in_nI (n := 0) (by decide) (by decide)) rfl ?_
  refine tw_iload_n 0 dX10_init_112 rfl rfl ?_
  refine tw_iconst (v := 3) dX10_init_113 (by decide) ?_
  refine tw_iast dX10_init_114 f631 (vp_in_nI (n := 2) (by decide) (by decide)) ?_
  obtain ⟨F634, eF634⟩ : ∃ z : Nat → Int32, z = upd F591 (2 : Int32).toNatClampNeg 3 := ⟨_, rfl⟩
  rw [← eF634]
  obtain ⟨h635, eh635⟩ : ∃ z : tw_H, z = tw_up h613 (r5 0) (.inl (d.2 0, 4, .inl F634)) := ⟨_, rfl⟩
  rw [← eh635]
  have sp636 : tw_sp d τ (tw_rm h x) g τ h635 := by rw [eh635]; exact sp614.wl n20 z21
  have f637 : h635 (r5 1) = some (.inl (d.2 0, 4, .inl (fun _ => 0))) := by rw [eh635, tw_up_n (fun z => absurd (hi9 1 0 (by decide) (by decide) z) (by decide))]; exact f615
  have f638 : h635 (r5 2) = some (.inl (d.2 0, 4, .inl (fun _ => 0))) := by rw [eh635, tw_up_n (fun z => absurd (hi9 2 0 (by decide) (by decide) z) (by decide))]; exact f616
  have f639 : h635 (r5 3) = some (.inl (d.2 0, 4, .inl (fun _ => 0))) := by rw [eh635, tw_up_n (fun z => absurd (hi9 3 0 (by decide) (by decide) z) (by decide))]; exact f617
  have f640 : h635 q4 = some (.inl (d.2 8, 4, .inr (.inr (.inr (.inr (fun i => if i < 4 then some (r5 i) else none)))))) := by rw [eh635, tw_up_n (Ne.symm (hr8 0 (by decide)).2)]; exact f618
  have f641 : h635 (r43 1) = some (.inl (d.2 0, 4, .inl (fun _ => 0))) := by rw [eh635, tw_up_n (Ne.symm ne54)]; exact f619
  have f642 : h635 (r43 2) = some (.inl (d.2 0, 4, .inl (fun _ => 0))) := by rw [eh635, tw_up_n (Ne.symm ne55)]; exact f620
  have f643 : h635 (r43 3) = some (.inl (d.2 0, 4, .inl (fun _ => 0))) := by rw [eh635, tw_up_n (Ne.symm ne56)]; exact f621
  have f644 : h635 q42 = some (.inl (d.2 8, 4, .inr (.inr (.inr (.inr (fun i => if i < 4 then some (r43 i) else none)))))) := by rw [eh635, tw_up_n (Ne.symm ne57)]; exact f622
  have f645 : h635 q115 = some (.inl (d.2 1, 2, .inr (.inl (fun _ => 0)))) := by rw [eh635, tw_up_n (Ne.symm ne120)]; exact f623
  have f646 : h635 q159 = some (.inl (d.2 1, 2, .inr (.inl (fun _ => 0)))) := by rw [eh635, tw_up_n (Ne.symm ne164)]; exact f624
  have f647 : h635 q206 = some (.inl (d.2 1, 2, .inr (.inl (fun _ => 0)))) := by rw [eh635, tw_up_n (Ne.symm ne211)]; exact f625
  have f648 : h635 q256 = some (.inl (d.2 1, 2, .inr (.inl (fun _ => 0)))) := by rw [eh635, tw_up_n (Ne.symm ne261)]; exact f626
  have f649 : h635 q309 = some (.inr (3, [.int 0, .ref (d.2 102), .int 0])) := by rw [eh635, tw_up_n (Ne.symm ne314)]; exact f627
  have f650 : h635 q384 = some (.inr (3, [.int 0, .ref (d.2 102), .int 0])) := by rw [eh635, tw_up_n (Ne.symm ne389)]; exact f628
  have f651 : h635 q463 = some (.inr (3, [.int 0, .ref (d.2 102), .int 0])) := by rw [eh635, tw_up_n (Ne.symm ne468)]; exact f629
  have f652 : h635 x = some (.inr (14, [.int 0, .int 0, .int 155, .ref q4, .ref q42, .ref q115, .ref q159, .ref q206, .ref q256, .ref q309, .ref q384, .ref q463])) := by rw [eh635, tw_up_n ne15]; exact f630
  have f653 : h635 (r43 0) = some (.inl (d.2 0, 4, .inl F612)) := by rw [eh635, tw_up_n (Ne.symm ne53)]; exact f632
  have f654 : h635 (r5 0) = some (.inl (d.2 0, 4, .inl F634)) := by rw [eh635]; exact tw_up_s
  clear f615 f616 f617 f618 f619 f620 f621 f622 f623 f624 f625 f626 f627 f628 f629 f630 f631 f632 sp614 eh635
  refine tw_aload_n 2 dX10_init_115 rfl rfl ?_
  refine tw_get (v := .ref q42) rfl in_14 4 dX10_init_116 w_1155 rfl (by decide) f652 rfl ?_
  refine tw_iload_n 1 dX10_init_119 rfl rfl ?_
  refine tw_aald (v := .ref (r43 0)) 8 rfl rfl dX10_init_120 f644 (vp_in_nI (n := 0) (by decide) (by decide)) rfl ?_
  refine tw_iload_n 0 dX10_init_121 rfl rfl ?_
  refine tw_bipush (v := 10) dX10_init_122 (by decide) ?_
  refine tw_iast dX10_init_124 f653 (vp_in_nI (n := 2) (by decide) (by decide)) ?_
  obtain ⟨F655, eF655⟩ : ∃ z : Nat → Int32, z = upd F612 (2 : Int32).toNatClampNeg 10 := ⟨_, rfl⟩
  rw [← eF655]
  obtain ⟨h656, eh656⟩ : ∃ z : tw_H, z = tw_up h635 (r43 0) (.inl (d.2 0, 4, .inl F655)) := ⟨_, rfl⟩
  rw [← eh656]
  have sp657 : tw_sp d τ (tw_rm h x) g τ h656 := by rw [eh656]; exact sp636.wl n88 z89
  have f658 : h656 (r5 1) = some (.inl (d.2 0, 4, .inl (fun _ => 0))) := by rw [eh656, tw_up_n ne59]; exact f637
  have f659 : h656 (r5 2) = some (.inl (d.2 0, 4, .inl (fun _ => 0))) := by rw [eh656, tw_up_n ne65]; exact f638
  have f660 : h656 (r5 3) = some (.inl (d.2 0, 4, .inl (fun _ => 0))) := by rw [eh656, tw_up_n ne71]; exact f639
  have f661 : h656 q4 = some (.inl (d.2 8, 4, .inr (.inr (.inr (.inr (fun i => if i < 4 then some (r5 i) else none)))))) := by rw [eh656, tw_up_n ne77]; exact f640
  have f662 : h656 (r43 1) = some (.inl (d.2 0, 4, .inl (fun _ => 0))) := by rw [eh656, tw_up_n (fun z => absurd (hi47 1 0 (by decide) (by decide) z) (by decide))]; exact f641
  have f663 : h656 (r43 2) = some (.inl (d.2 0, 4, .inl (fun _ => 0))) := by rw [eh656, tw_up_n (fun z => absurd (hi47 2 0 (by decide) (by decide) z) (by decide))]; exact f642
  have f664 : h656 (r43 3) = some (.inl (d.2 0, 4, .inl (fun _ => 0))) := by rw [eh656, tw_up_n (fun z => absurd (hi47 3 0 (by decide) (by decide) z) (by decide))]; exact f643
  have f665 : h656 q42 = some (.inl (d.2 8, 4, .inr (.inr (.inr (.inr (fun i => if i < 4 then some (r43 i) else none)))))) := by rw [eh656, tw_up_n (Ne.symm (hr46 0 (by decide)).2)]; exact f644
  have f666 : h656 q115 = some (.inl (d.2 1, 2, .inr (.inl (fun _ => 0)))) := by rw [eh656, tw_up_n (Ne.symm ne125)]; exact f645
  have f667 : h656 q159 = some (.inl (d.2 1, 2, .inr (.inl (fun _ => 0)))) := by rw [eh656, tw_up_n (Ne.symm ne169)]; exact f646
  have f668 : h656 q206 = some (.inl (d.2 1, 2, .inr (.inl (fun _ => 0)))) := by rw [eh656, tw_up_n (Ne.symm ne216)]; exact f647
  have f669 : h656 q256 = some (.inl (d.2 1, 2, .inr (.inl (fun _ => 0)))) := by rw [eh656, tw_up_n (Ne.symm ne266)]; exact f648
  have f670 : h656 q309 = some (.inr (3, [.int 0, .ref (d.2 102), .int 0])) := by rw [eh656, tw_up_n (Ne.symm ne319)]; exact f649
  have f671 : h656 q384 = some (.inr (3, [.int 0, .ref (d.2 102), .int 0])) := by rw [eh656, tw_up_n (Ne.symm ne394)]; exact f650
  have f672 : h656 q463 = some (.inr (3, [.int 0, .ref (d.2 102), .int 0])) := by rw [eh656, tw_up_n (Ne.symm ne473)]; exact f651
  have f673 : h656 x = some (.inr (14, [.int 0, .int 0, .int 155, .ref q4, .ref q42, .ref q115, .ref q159, .ref q206, .ref q256, .ref q309, .ref q384, .ref q463])) := by rw [eh656, tw_up_n ne83]; exact f652
  have f674 : h656 (r5 0) = some (.inl (d.2 0, 4, .inl F634)) := by rw [eh656, tw_up_n ne53]; exact f654
  have f675 : h656 (r43 0) = some (.inl (d.2 0, 4, .inl F655)) := by rw [eh656]; exact tw_up_s
  clear f637 f638 f639 f640 f641 f642 f643 f644 f645 f646 f647 f648 f649 f650 f651 f652 f653 f654 sp636 eh656
  refine tw_iinc [(2, .int 3), (1, .int 0), (0, .ref x)] 0 dX10_init_125 rfl (by decide) (by decide) rfl ?_
  refine tw_goto 101 dX10_init_128 (by decide) ?_
  refine tw_iload_n 0 dX10_init_101 rfl rfl ?_
  refine tw_iconst (v := 4) dX10_init_102 (by decide) ?_
  refine tw_icmp_ge 131 dX10_init_103 (by decide) (fun c676 => absurd c676 (by decide)) (fun _ => ?_)
  refine tw_aload_n 2 dX10_init_106 rfl rfl ?_
  refine tw_get (v := .ref q4) rfl in_14 3 dX10_init_107 w_1154 rfl (by decide) f673 rfl ?_
  refine tw_iload_n 1 dX10_init_110 rfl rfl ?_
  refine tw_aald (v := .ref (r5 0)) 8 rfl rfl dX10_init_111 f661 (vp_in_nI (n := 0) (by decide) (by decide)) rfl ?_
  refine tw_iload_n 0 dX10_init_112 rfl rfl ?_
  refine tw_iconst (v := 3) dX10_init_113 (by decide) ?_
  refine tw_iast dX10_init_114 f674 (vp_in_nI (n := 3) (by decide) (by decide)) ?_
  obtain ⟨F677, eF677⟩ : ∃ z : Nat → Int32, z = upd F634 (3 : Int32).toNatClampNeg 3 := ⟨_, rfl⟩
  rw [← eF677]
  obtain ⟨h678, eh678⟩ : ∃ z : tw_H, z = tw_up h656 (r5 0) (.inl (d.2 0, 4, .inl F677)) := ⟨_, rfl⟩
  rw [← eh678]
  have sp679 : tw_sp d τ (tw_rm h x) g τ h678 := by rw [eh678]; exact sp657.wl n20 z21
  have f680 : h678 (r5 1) = some (.inl (d.2 0, 4, .inl (fun _ => 0))) := by rw [eh678, tw_up_n (fun z => absurd (hi9 1 0 (by decide) (by decide) z) (by decide))]; exact f658
  have f681 : h678 (r5 2) = some (.inl (d.2 0, 4, .inl (fun _ => 0))) := by rw [eh678, tw_up_n (fun z => absurd (hi9 2 0 (by decide) (by decide) z) (by decide))]; exact f659
  have f682 : h678 (r5 3) = some (.inl (d.2 0, 4, .inl (fun _ => 0))) := by rw [eh678, tw_up_n (fun z => absurd (hi9 3 0 (by decide) (by decide) z) (by decide))]; exact f660
  have f683 : h678 q4 = some (.inl (d.2 8, 4, .inr (.inr (.inr (.inr (fun i => if i < 4 then some (r5 i) else none)))))) := by rw [eh678, tw_up_n (Ne.symm (hr8 0 (by decide)).2)]; exact f661
  have f684 : h678 (r43 1) = some (.inl (d.2 0, 4, .inl (fun _ => 0))) := by rw [eh678, tw_up_n (Ne.symm ne54)]; exact f662
  have f685 : h678 (r43 2) = some (.inl (d.2 0, 4, .inl (fun _ => 0))) := by rw [eh678, tw_up_n (Ne.symm ne55)]; exact f663
  have f686 : h678 (r43 3) = some (.inl (d.2 0, 4, .inl (fun _ => 0))) := by rw [eh678, tw_up_n (Ne.symm ne56)]; exact f664
  have f687 : h678 q42 = some (.inl (d.2 8, 4, .inr (.inr (.inr (.inr (fun i => if i < 4 then some (r43 i) else none)))))) := by rw [eh678, tw_up_n (Ne.symm ne57)]; exact f665
  have f688 : h678 q115 = some (.inl (d.2 1, 2, .inr (.inl (fun _ => 0)))) := by rw [eh678, tw_up_n (Ne.symm ne120)]; exact f666
  have f689 : h678 q159 = some (.inl (d.2 1, 2, .inr (.inl (fun _ => 0)))) := by rw [eh678, tw_up_n (Ne.symm ne164)]; exact f667
  have f690 : h678 q206 = some (.inl (d.2 1, 2, .inr (.inl (fun _ => 0)))) := by rw [eh678, tw_up_n (Ne.symm ne211)]; exact f668
  have f691 : h678 q256 = some (.inl (d.2 1, 2, .inr (.inl (fun _ => 0)))) := by rw [eh678, tw_up_n (Ne.symm ne261)]; exact f669
  have f692 : h678 q309 = some (.inr (3, [.int 0, .ref (d.2 102), .int 0])) := by rw [eh678, tw_up_n (Ne.symm ne314)]; exact f670
  have f693 : h678 q384 = some (.inr (3, [.int 0, .ref (d.2 102), .int 0])) := by rw [eh678, tw_up_n (Ne.symm ne389)]; exact f671
  have f694 : h678 q463 = some (.inr (3, [.int 0, .ref (d.2 102), .int 0])) := by rw [eh678, tw_up_n (Ne.symm ne468)]; exact f672
  have f695 : h678 x = some (.inr (14, [.int 0, .int 0, .int 155, .ref q4, .ref q42, .ref q115, .ref q159, .ref q206, .ref q256, .ref q309, .ref q384, .ref q463])) := by rw [eh678, tw_up_n ne15]; exact f673
  have f696 : h678 (r43 0) = some (.inl (d.2 0, 4, .inl F655)) := by rw [eh678, tw_up_n (Ne.symm ne53)]; exact f675
  have f697 : h678 (r5 0) = some (.inl (d.2 0, 4, .inl F677)) := by rw [eh678]; exact tw_up_s
  clear f658 f659 f660 f661 f662 f663 f664 f665 f666 f667 f668 f669 f670 f671 f672 f673 f674 f675 sp657 eh678
  refine tw_aload_n 2 dX10_init_115 rfl rfl ?_
  refine tw_get (v := .ref q42) rfl in_14 4 dX10_init_116 w_1155 rfl (by decide) f695 rfl ?_
  refine tw_iload_n 1 dX10_init_119 rfl rfl ?_
  refine tw_aald (v := .ref (r43 0)) 8 rfl rfl dX10_init_120 f687 (vp_in_nI (n := 0) (by decide) (by decide)) rfl ?_
  refine tw_iload_n 0 dX10_init_121 rfl rfl ?_
  refine tw_bipush (v := 10) dX10_init_122 (by decide) ?_
  refine tw_iast dX10_init_124 f696 (vp_in_nI (n := 3) (by decide) (by decide)) ?_
  obtain ⟨F698, eF698⟩ : ∃ z : Nat → Int32, z = upd F655 (3 : Int32).toNatClampNeg 10 := ⟨_, rfl⟩
  rw [← eF698]
  obtain ⟨h699, eh699⟩ : ∃ z : tw_H, z = tw_up h678 (r43 0) (.inl (d.2 0, 4, .inl F698)) := ⟨_, rfl⟩
  rw [← eh699]
  have sp700 : tw_sp d τ (tw_rm h x) g τ h699 := by rw [eh699]; exact sp679.wl n88 z89
  have f701 : h699 (r5 1) = some (.inl (d.2 0, 4, .inl (fun _ => 0))) := by rw [eh699, tw_up_n ne59]; exact f680
  have f702 : h699 (r5 2) = some (.inl (d.2 0, 4, .inl (fun _ => 0))) := by rw [eh699, tw_up_n ne65]; exact f681
  have f703 : h699 (r5 3) = some (.inl (d.2 0, 4, .inl (fun _ => 0))) := by rw [eh699, tw_up_n ne71]; exact f682
  have f704 : h699 q4 = some (.inl (d.2 8, 4, .inr (.inr (.inr (.inr (fun i => if i < 4 then some (r5 i) else none)))))) := by rw [eh699, tw_up_n ne77]; exact f683
  have f705 : h699 (r43 1) = some (.inl (d.2 0, 4, .inl (fun _ => 0))) := by rw [eh699, tw_up_n (fun z => absurd (hi47 1 0 (by decide) (by decide) z) (by decide))]; exact f684
  have f706 : h699 (r43 2) = some (.inl (d.2 0, 4, .inl (fun _ => 0))) := by rw [eh699, tw_up_n (fun z => absurd (hi47 2 0 (by decide) (by decide) z) (by decide))]; exact f685
  have f707 : h699 (r43 3) = some (.inl (d.2 0, 4, .inl (fun _ => 0))) := by rw [eh699, tw_up_n (fun z => absurd (hi47 3 0 (by decide) (by decide) z) (by decide))]; exact f686
  have f708 : h699 q42 = some (.inl (d.2 8, 4, .inr (.inr (.inr (.inr (fun i => if i < 4 then some (r43 i) else none)))))) := by rw [eh699, tw_up_n (Ne.symm (hr46 0 (by decide)).2)]; exact f687
  have f709 : h699 q115 = some (.inl (d.2 1, 2, .inr (.inl (fun _ => 0)))) := by rw [eh699, tw_up_n (Ne.symm ne125)]; exact f688
  have f710 : h699 q159 = some (.inl (d.2 1, 2, .inr (.inl (fun _ => 0)))) := by rw [eh699, tw_up_n (Ne.symm ne169)]; exact f689
  have f711 : h699 q206 = some (.inl (d.2 1, 2, .inr (.inl (fun _ => 0)))) := by rw [eh699, tw_up_n (Ne.symm ne216)]; exact f690
  have f712 : h699 q256 = some (.inl (d.2 1, 2, .inr (.inl (fun _ => 0)))) := by rw [eh699, tw_up_n (Ne.symm ne266)]; exact f691
  have f713 : h699 q309 = some (.inr (3, [.int 0, .ref (d.2 102), .int 0])) := by rw [eh699, tw_up_n (Ne.symm ne319)]; exact f692
  have f714 : h699 q384 = some (.inr (3, [.int 0, .ref (d.2 102), .int 0])) := by rw [eh699, tw_up_n (Ne.symm ne394)]; exact f693
  have f715 : h699 q463 = some (.inr (3, [.int 0, .ref (d.2 102), .int 0])) := by rw [eh699, tw_up_n (Ne.symm ne473)]; exact f694
  have f716 : h699 x = some (.inr (14, [.int 0, .int 0, .int 155, .ref q4, .ref q42, .ref q115, .ref q159, .ref q206, .ref q256, .ref q309, .ref q384, .ref q463])) := by rw [eh699, tw_up_n ne83]; exact f695
  have f717 : h699 (r5 0) = some (.inl (d.2 0, 4, .inl F677)) := by rw [eh699, tw_up_n ne53]; exact f697
  have f718 : h699 (r43 0) = some (.inl (d.2 0, 4, .inl F698)) := by rw [eh699]; exact tw_up_s
  clear f680 f681 f682 f683 f684 f685 f686 f687 f688 f689 f690 f691 f692 f693 f694 f695 f696 f697 sp679 eh699
  refine tw_iinc [(2, .int 4), (1, .int 0), (0, .ref x)] 0 dX10_init_125 rfl (by decide) (by decide) rfl ?_
  refine tw_goto 101 dX10_init_128 (by decide) ?_
  refine tw_iload_n 0 dX10_init_101 rfl rfl ?_
  refine tw_iconst (v := 4) dX10_init_102 (by decide) ?_
  refine tw_icmp_ge 131 dX10_init_103 (by decide) (fun _ => ?_) (fun c719 => absurd (by decide) c719)
  refine tw_iinc [(1, .int 1), (2, .int 4), (0, .ref x)] 1 dX10_init_131 rfl (by decide) (by decide) rfl ?_
  refine tw_goto 94 dX10_init_134 (by decide) ?_
  refine tw_iload_n 0 dX10_init_94 rfl rfl ?_
  refine tw_iconst (v := 4) dX10_init_95 (by decide) ?_
  refine tw_icmp_ge 137 dX10_init_96 (by decide) (fun c720 => absurd c720 (by decide)) (fun _ => ?_)
  refine tw_iconst (v := 0) dX10_init_99 (by decide) ?_
  refine tw_istore_n [(2, .int 0), (1, .int 1), (0, .ref x)] dX10_init_100 rfl (by decide) rfl ?_
  refine tw_iload_n 0 dX10_init_101 rfl rfl ?_
  refine tw_iconst (v := 4) dX10_init_102 (by decide) ?_
  refine tw_icmp_ge 131 dX10_init_103 (by decide) (fun c721 => absurd c721 (by decide)) (fun _ => ?_)
  refine tw_aload_n 2 dX10_init_106 rfl rfl ?_
  refine tw_get (v := .ref q4) rfl in_14 3 dX10_init_107 w_1154 rfl (by decide) f716 rfl ?_
  refine tw_iload_n 1 dX10_init_110 rfl rfl ?_
  refine tw_aald (v := .ref (r5 1)) 8 rfl rfl dX10_init_111 f704 (vp_in_nI (n := 1) (by decide) (by decide)) rfl ?_
  refine tw_iload_n 0 dX10_init_112 rfl rfl ?_
  refine tw_iconst (v := 3) dX10_init_113 (by decide) ?_
  refine tw_iast dX10_init_114 f701 (vp_in_nI (n := 0) (by decide) (by decide)) ?_
  obtain ⟨F722, eF722⟩ : ∃ z : Nat → Int32, z = upd (fun _ => 0) (0 : Int32).toNatClampNeg 3 := ⟨_, rfl⟩
  rw [← eF722]
  obtain ⟨h723, eh723⟩ : ∃ z : tw_H, z = tw_up h699 (r5 1) (.inl (d.2 0, 4, .inl F722)) := ⟨_, rfl⟩
  rw [← eh723]
  have sp724 : tw_sp d τ (tw_rm h x) g τ h723 := by rw [eh723]; exact sp700.wl n23 z24
  have f725 : h723 (r5 2) = some (.inl (d.2 0, 4, .inl (fun _ => 0))) := by rw [eh723, tw_up_n (fun z => absurd (hi9 2 1 (by decide) (by decide) z) (by decide))]; exact f702
  have f726 : h723 (r5 3) = some (.inl (d.2 0, 4, .inl (fun _ => 0))) := by rw [eh723, tw_up_n (fun z => absurd (hi9 3 1 (by decide) (by decide) z) (by decide))]; exact f703
  have f727 : h723 q4 = some (.inl (d.2 8, 4, .inr (.inr (.inr (.inr (fun i => if i < 4 then some (r5 i) else none)))))) := by rw [eh723, tw_up_n (Ne.symm (hr8 1 (by decide)).2)]; exact f704
  have f728 : h723 (r43 1) = some (.inl (d.2 0, 4, .inl (fun _ => 0))) := by rw [eh723, tw_up_n (Ne.symm ne60)]; exact f705
  have f729 : h723 (r43 2) = some (.inl (d.2 0, 4, .inl (fun _ => 0))) := by rw [eh723, tw_up_n (Ne.symm ne61)]; exact f706
  have f730 : h723 (r43 3) = some (.inl (d.2 0, 4, .inl (fun _ => 0))) := by rw [eh723, tw_up_n (Ne.symm ne62)]; exact f707
  have f731 : h723 q42 = some (.inl (d.2 8, 4, .inr (.inr (.inr (.inr (fun i => if i < 4 then some (r43 i) else none)))))) := by rw [eh723, tw_up_n (Ne.symm ne63)]; exact f708
  have f732 : h723 q115 = some (.inl (d.2 1, 2, .inr (.inl (fun _ => 0)))) := by rw [eh723, tw_up_n (Ne.symm ne121)]; exact f709
  have f733 : h723 q159 = some (.inl (d.2 1, 2, .inr (.inl (fun _ => 0)))) := by rw [eh723, tw_up_n (Ne.symm ne165)]; exact f710
  have f734 : h723 q206 = some (.inl (d.2 1, 2, .inr (.inl (fun _ => 0)))) := by rw [eh723, tw_up_n (Ne.symm ne212)]; exact f711
  have f735 : h723 q256 = some (.inl (d.2 1, 2, .inr (.inl (fun _ => 0)))) := by rw [eh723, tw_up_n (Ne.symm ne262)]; exact f712
  have f736 : h723 q309 = some (.inr (3, [.int 0, .ref (d.2 102), .int 0])) := by rw [eh723, tw_up_n (Ne.symm ne315)]; exact f713
  have f737 : h723 q384 = some (.inr (3, [.int 0, .ref (d.2 102), .int 0])) := by rw [eh723, tw_up_n (Ne.symm ne390)]; exact f714
  have f738 : h723 q463 = some (.inr (3, [.int 0, .ref (d.2 102), .int 0])) := by rw [eh723, tw_up_n (Ne.symm ne469)]; exact f715
  have f739 : h723 x = some (.inr (14, [.int 0, .int 0, .int 155, .ref q4, .ref q42, .ref q115, .ref q159, .ref q206, .ref q256, .ref q309, .ref q384, .ref q463])) := by rw [eh723, tw_up_n ne16]; exact f716
  have f740 : h723 (r5 0) = some (.inl (d.2 0, 4, .inl F677)) := by rw [eh723, tw_up_n (Ne.symm (fun z => absurd (hi9 1 0 (by decide) (by decide) z) (by decide)))]; exact f717
  have f741 : h723 (r43 0) = some (.inl (d.2 0, 4, .inl F698)) := by rw [eh723, tw_up_n (Ne.symm ne59)]; exact f718
  have f742 : h723 (r5 1) = some (.inl (d.2 0, 4, .inl F722)) := by rw [eh723]; exact tw_up_s
  clear f701 f702 f703 f704 f705 f706 f707 f708 f709 f710 f711 f712 f713 f714 f715 f716 f717 f718 sp700 eh723
  refine tw_aload_n 2 dX10_init_115 rfl rfl ?_
  refine tw_get (v := .ref q42) rfl in_14 4 dX10_init_116 w_1155 rfl (by decide) f739 rfl ?_
  refine tw_iload_n 1 dX10_init_119 rfl rfl ?_
  refine tw_aald (v := .ref (r43 1)) 8 rfl rfl dX10_init_120 f731 (vp_in_nI (n := 1) (by decide) (by decide)) rfl ?_
  refine tw_iload_n 0 dX10_init_121 rfl rfl ?_
  refine tw_bipush (v := 10) dX10_init_122 (by decide) ?_
  refine tw_iast dX10_init_124 f728 (vp_in_nI (n := 0) (by decide) (by decide)) ?_
  obtain ⟨F743, eF743⟩ : ∃ z : Nat → Int32, z = upd (fun _ => 0) (0 : Int32).toNatClampNeg 10 := ⟨_, rfl⟩
  rw [← eF743]
  obtain ⟨h744, eh744⟩ : ∃ z : tw_H, z = tw_up h723 (r43 1) (.inl (d.2 0, 4, .inl F743)) := ⟨_, rfl⟩
  rw [← eh744]
  have sp745 : tw_sp d τ (tw_rm h x) g τ h744 := by rw [eh744]; exact sp724.wl n91 z92
  have f746 : h744 (r5 2) = some (.inl (d.2 0, 4, .inl (fun _ => 0))) := by rw [eh744, tw_up_n ne66]; exact f725
  have f747 : h744 (r5 3) = some (.inl (d.2 0, 4, .inl (fun _ => 0))) := by rw [eh744, tw_up_n ne72]; exact f726
  have f748 : h744 q4 = some (.inl (d.2 8, 4, .inr (.inr (.inr (.inr (fun i => if i < 4 then some (r5 i) else none)))))) := by rw [eh744, tw_up_n ne78]; exact f727
  have f749 : h744 (r43 2) = some (.inl (d.2 0, 4, .inl (fun _ => 0))) := by rw [eh744, tw_up_n (fun z => absurd (hi47 2 1 (by decide) (by decide) z) (by decide))]; exact f729
  have f750 : h744 (r43 3) = some (.inl (d.2 0, 4, .inl (fun _ => 0))) := by rw [eh744, tw_up_n (fun z => absurd (hi47 3 1 (by decide) (by decide) z) (by decide))]; exact f730
  have f751 : h744 q42 = some (.inl (d.2 8, 4, .inr (.inr (.inr (.inr (fun i => if i < 4 then some (r43 i) else none)))))) := by rw [eh744, tw_up_n (Ne.symm (hr46 1 (by decide)).2)]; exact f731
  have f752 : h744 q115 = some (.inl (d.2 1, 2, .inr (.inl (fun _ => 0)))) := by rw [eh744, tw_up_n (Ne.symm ne126)]; exact f732
  have f753 : h744 q159 = some (.inl (d.2 1, 2, .inr (.inl (fun _ => 0)))) := by rw [eh744, tw_up_n (Ne.symm ne170)]; exact f733
  have f754 : h744 q206 = some (.inl (d.2 1, 2, .inr (.inl (fun _ => 0)))) := by rw [eh744, tw_up_n (Ne.symm ne217)]; exact f734
  have f755 : h744 q256 = some (.inl (d.2 1, 2, .inr (.inl (fun _ => 0)))) := by rw [eh744, tw_up_n (Ne.symm ne267)]; exact f735
  have f756 : h744 q309 = some (.inr (3, [.int 0, .ref (d.2 102), .int 0])) := by rw [eh744, tw_up_n (Ne.symm ne320)]; exact f736
  have f757 : h744 q384 = some (.inr (3, [.int 0, .ref (d.2 102), .int 0])) := by rw [eh744, tw_up_n (Ne.symm ne395)]; exact f737
  have f758 : h744 q463 = some (.inr (3, [.int 0, .ref (d.2 102), .int 0])) := by rw [eh744, tw_up_n (Ne.symm ne474)]; exact f738
  have f759 : h744 x = some (.inr (14, [.int 0, .int 0, .int 155, .ref q4, .ref q42, .ref q115, .ref q159, .ref q206, .ref q256, .ref q309, .ref q384, .ref q463])) := by rw [eh744, tw_up_n ne84]; exact f739
  have f760 : h744 (r5 0) = some (.inl (d.2 0, 4, .inl F677)) := by rw [eh744, tw_up_n ne54]; exact f740
  have f761 : h744 (r43 0) = some (.inl (d.2 0, 4, .inl F698)) := by rw [eh744, tw_up_n (Ne.symm (fun z => absurd (hi47 1 0 (by decide) (by decide) z) (by decide)))]; exact f741
  have f762 : h744 (r5 1) = some (.inl (d.2 0, 4, .inl F722)) := by rw [eh744, tw_up_n ne60]; exact f742
  have f763 : h744 (r43 1) = some (.inl (d.2 0, 4, .inl F743)) := by rw [eh744]; exact tw_up_s
  clear f725 f726 f727 f728 f729 f730 f731 f732 f733 f734 f735 f736 f737 f738 f739 f740 f741 f742 sp724 eh744
  refine tw_iinc [(2, .int 1), (1, .int 1), (0, .ref x)] 0 dX10_init_125 rfl (by decide) (by decide) rfl ?_
  refine tw_goto 101 dX10_init_128 (by decide) ?_
  refine tw_iload_n 0 dX10_init_101 rfl rfl ?_
  refine tw_iconst (v := 4) dX10_init_102 (by decide) ?_
  refine tw_icmp_ge 131 dX10_init_103 (by decide) (fun c764 => absurd c764 (by decide)) (fun _ => ?_)
  refine tw_aload_n 2 dX10_init_106 rfl rfl ?_
  refine tw_get (v := .ref q4) rfl in_14 3 dX10_init_107 w_1154 rfl (by decide) f759 rfl ?_
  refine tw_iload_n 1 dX10_init_110 rfl rfl ?_
  refine tw_aald (v := .ref (r5 1)) 8 rfl rfl dX10_init_111 f748 (vp_in_nI (n := 1) (by decide) (by decide)) rfl ?_
  refine tw_iload_n 0 dX10_init_112 rfl rfl ?_
  refine tw_iconst (v := 3) dX10_init_113 (by decide) ?_
  refine tw_iast dX10_init_114 f762 (vp_in_nI (n := 1) (by decide) (by decide)) ?_
  obtain ⟨F765, eF765⟩ : ∃ z : Nat → Int32, z = upd F722 (1 : Int32).toNatClampNeg 3 := ⟨_, rfl⟩
  rw [← eF765]
  obtain ⟨h766, eh766⟩ : ∃ z : tw_H, z = tw_up h744 (r5 1) (.inl (d.2 0, 4, .inl F765)) := ⟨_, rfl⟩
  rw [← eh766]
  have sp767 : tw_sp d τ (tw_rm h x) g τ h766 := by rw [eh766]; exact sp745.wl n23 z24
  have f768 : h766 (r5 2) = some (.inl (d.2 0, 4, .inl (fun _ => 0))) := by rw [eh766, tw_up_n (fun z => absurd (hi9 2 1 (by decide) (by decide) z) (by decide))]; exact f746
  have f769 : h766 (r5 3) = some (.inl (d.2 0, 4, .inl (fun _ => 0))) := by rw [eh766, tw_up_n (fun z => absurd (hi9 3 1 (by decide) (by decide) z) (by decide))]; exact f747
  have f770 : h766 q4 = some (.inl (d.2 8, 4, .inr (.inr (.inr (.inr (fun i => if i < 4 then some (r5 i) else none)))))) := by rw [eh766, tw_up_n (Ne.symm (hr8 1 (by decide)).2)]; exact f748
  have f771 : h766 (r43 2) = some (.inl (d.2 0, 4, .inl (fun _ => 0))) := by rw [eh766, tw_up_n (Ne.symm ne61)]; exact f749
  have f772 : h766 (r43 3) = some (.inl (d.2 0, 4, .inl (fun _ => 0))) := by rw [eh766, tw_up_n (Ne.symm ne62)]; exact f750
  have f773 : h766 q42 = some (.inl (d.2 8, 4, .inr (.inr (.inr (.inr (fun i => if i < 4 then some (r43 i) else none)))))) := by rw [eh766, tw_up_n (Ne.symm ne63)]; exact f751
  have f774 : h766 q115 = some (.inl (d.2 1, 2, .inr (.inl (fun _ => 0)))) := by rw [eh766, tw_up_n (Ne.symm ne121)]; exact f752
  have f775 : h766 q159 = some (.inl (d.2 1, 2, .inr (.inl (fun _ => 0)))) := by rw [eh766, tw_up_n (Ne.symm ne165)]; exact f753
  have f776 : h766 q206 = some (.inl (d.2 1, 2, .inr (.inl (fun _ => 0)))) := by rw [eh766, tw_up_n (Ne.symm ne212)]; exact f754
  have f777 : h766 q256 = some (.inl (d.2 1, 2, .inr (.inl (fun _ => 0)))) := by rw [eh766, tw_up_n (Ne.symm ne262)]; exact f755
  have f778 : h766 q309 = some (.inr (3, [.int 0, .ref (d.2 102), .int 0])) := by rw [eh766, tw_up_n (Ne.symm ne315)]; exact f756
  have f779 : h766 q384 = some (.inr (3, [.int 0, .ref (d.2 102), .int 0])) := by rw [eh766, tw_up_n (Ne.symm ne390)]; exact f757
  have f780 : h766 q463 = some (.inr (3, [.int 0, .ref (d.2 102), .int 0])) := by rw [eh766, tw_up_n (Ne.symm ne469)]; exact f758
  have f781 : h766 x = some (.inr (14, [.int 0, .int 0, .int 155, .ref q4, .ref q42, .ref q115, .ref q159, .ref q206, .ref q256, .ref q309, .ref q384, .ref q463])) := by rw [eh766, tw_up_n ne16]; exact f759
  have f782 : h766 (r5 0) = some (.inl (d.2 0, 4, .inl F677)) := by rw [eh766, tw_up_n (Ne.symm (fun z => absurd (hi9 1 0 (by decide) (by decide) z) (by decide)))]; exact f760
  have f783 : h766 (r43 0) = some (.inl (d.2 0, 4, .inl F698)) := by rw [eh766, tw_up_n (Ne.symm ne59)]; exact f761
  have f784 : h766 (r43 1) = some (.inl (d.2 0, 4, .inl F743)) := by rw [eh766, tw_up_n (Ne.symm ne60)]; exact f763
  have f785 : h766 (r5 1) = some (.inl (d.2 0, 4, .inl F765)) := by rw [eh766]; exact tw_up_s
  clear f746 f747 f748 f749 f750 f751 f752 f753 f754 f755 f756 f757 f758 f759 f760 f761 f762 f763 sp745 eh766
  refine tw_aload_n 2 dX10_init_115 rfl rfl ?_
  refine tw_get (v := .ref q42) rfl in_14 4 dX10_init_116 w_1155 rfl (by decide) f781 rfl ?_
  refine tw_iload_n 1 dX10_init_119 rfl rfl ?_
  refine tw_aald (v := .ref (r43 1)) 8 rfl rfl dX10_init_120 f773 (vp_in_nI (n := 1) (by decide) (by decide)) rfl ?_
  refine tw_iload_n 0 dX10_init_121 rfl rfl ?_
  refine tw_bipush (v := 10) dX10_init_122 (by decide) ?_
  refine tw_iast dX10_init_124 f784 (vp_in_nI (n := 1) (by decide) (by decide)) ?_
  obtain ⟨F786, eF786⟩ : ∃ z : Nat → Int32, z = upd F743 (1 : Int32).toNatClampNeg 10 := ⟨_, rfl⟩
  rw [← eF786]
  obtain ⟨h787, eh787⟩ : ∃ z : tw_H, z = tw_up h766 (r43 1) (.inl (d.2 0, 4, .inl F786)) := ⟨_, rfl⟩
  rw [← eh787]
  have sp788 : tw_sp d τ (tw_rm h x) g τ h787 := by rw [eh787]; exact sp767.wl n91 z92
  have f789 : h787 (r5 2) = some (.inl (d.2 0, 4, .inl (fun _ => 0))) := by rw [eh787, tw_up_n ne66]; exact f768
  have f790 : h787 (r5 3) = some (.inl (d.2 0, 4, .inl (fun _ => 0))) := by rw [eh787, tw_up_n ne72]; exact f769
  have f791 : h787 q4 = some (.inl (d.2 8, 4, .inr (.inr (.inr (.inr (fun i => if i < 4 then some (r5 i) else none)))))) := by rw [eh787, tw_up_n ne78]; exact f770
  have f792 : h787 (r43 2) = some (.inl (d.2 0, 4, .inl (fun _ => 0))) := by rw [eh787, tw_up_n (fun z => absurd (hi47 2 1 (by decide) (by decide) z) (by decide))]; exact f771
  have f793 : h787 (r43 3) = some (.inl (d.2 0, 4, .inl (fun _ => 0))) := by rw [eh787, tw_up_n (fun z => absurd (hi47 3 1 (by decide) (by decide) z) (by decide))]; exact f772
  have f794 : h787 q42 = some (.inl (d.2 8, 4, .inr (.inr (.inr (.inr (fun i => if i < 4 then some (r43 i) else none)))))) := by rw [eh787, tw_up_n (Ne.symm (hr46 1 (by decide)).2)]; exact f773
  have f795 : h787 q115 = some (.inl (d.2 1, 2, .inr (.inl (fun _ => 0)))) := by rw [eh787, tw_up_n (Ne.symm ne126)]; exact f774
  have f796 : h787 q159 = some (.inl (d.2 1, 2, .inr (.inl (fun _ => 0)))) := by rw [eh787, tw_up_n (Ne.symm ne170)]; exact f775
  have f797 : h787 q206 = some (.inl (d.2 1, 2, .inr (.inl (fun _ => 0)))) := by rw [eh787, tw_up_n (Ne.symm ne217)]; exact f776
  have f798 : h787 q256 = some (.inl (d.2 1, 2, .inr (.inl (fun _ => 0)))) := by rw [eh787, tw_up_n (Ne.symm ne267)]; exact f777
  have f799 : h787 q309 = some (.inr (3, [.int 0, .ref (d.2 102), .int 0])) := by rw [eh787, tw_up_n (Ne.symm ne320)]; exact f778
  have f800 : h787 q384 = some (.inr (3, [.int 0, .ref (d.2 102), .int 0])) := by rw [eh787, tw_up_n (Ne.symm ne395)]; exact f779
  have f801 : h787 q463 = some (.inr (3, [.int 0, .ref (d.2 102), .int 0])) := by rw [eh787, tw_up_n (Ne.symm ne474)]; exact f780
  have f802 : h787 x = some (.inr (14, [.int 0, .int 0, .int 155, .ref q4, .ref q42, .ref q115, .ref q159, .ref q206, .ref q256, .ref q309, .ref q384, .ref q463])) := by rw [eh787, tw_up_n ne84]; exact f781
  have f803 : h787 (r5 0) = some (.inl (d.2 0, 4, .inl F677)) := by rw [eh787, tw_up_n ne54]; exact f782
  have f804 : h787 (r43 0) = some (.inl (d.2 0, 4, .inl F698)) := by rw [eh787, tw_up_n (Ne.symm (fun z => absurd (hi47 1 0 (by decide) (by decide) z) (by decide)))]; exact f783
  have f805 : h787 (r5 1) = some (.inl (d.2 0, 4, .inl F765)) := by rw [eh787, tw_up_n ne60]; exact f785
  have f806 : h787 (r43 1) = some (.inl (d.2 0, 4, .inl F786)) := by rw [eh787]; exact tw_up_s
  clear f768 f769 f770 f771 f772 f773 f774 f775 f776 f777 f778 f779 f780 f781 f782 f783 f784 f785 sp767 eh787
  refine tw_iinc [(2, .int 2), (1, .int 1), (0, .ref x)] 0 dX10_init_125 rfl (by decide) (by decide) rfl ?_
  refine tw_goto 101 dX10_init_128 (by decide) ?_
  refine tw_iload_n 0 dX10_init_101 rfl rfl ?_
  refine tw_iconst (v := 4) dX10_init_102 (by decide) ?_
  refine tw_icmp_ge 131 dX10_init_103 (by decide) (fun c807 => absurd c807 (by decide)) (fun _ => ?_)
  refine tw_aload_n 2 dX10_init_106 rfl rfl ?_
  refine tw_get (v := .ref q4) rfl in_14 3 dX10_init_107 w_1154 rfl (by decide) f802 rfl ?_
  refine tw_iload_n 1 dX10_init_110 rfl rfl ?_
  refine tw_aald (v := .ref (r5 1)) 8 rfl rfl dX10_init_111 f791 (vp_in_nI (n := 1) (by decide) (by decide)) rfl ?_
  refine tw_iload_n 0 dX10_init_112 rfl rfl ?_
  refine tw_iconst (v := 3) dX10_init_113 (by decide) ?_
  refine tw_iast dX10_init_114 f805 (vp_in_nI (n := 2) (by decide) (by decide)) ?_
  obtain ⟨F808, eF808⟩ : ∃ z : Nat → Int32, z = upd F765 (2 : Int32).toNatClampNeg 3 := ⟨_, rfl⟩
  rw [← eF808]
  obtain ⟨h809, eh809⟩ : ∃ z : tw_H, z = tw_up h787 (r5 1) (.inl (d.2 0, 4, .inl F808)) := ⟨_, rfl⟩
  rw [← eh809]
  have sp810 : tw_sp d τ (tw_rm h x) g τ h809 := by rw [eh809]; exact sp788.wl n23 z24
  have f811 : h809 (r5 2) = some (.inl (d.2 0, 4, .inl (fun _ => 0))) := by rw [eh809, tw_up_n (fun z => absurd (hi9 2 1 (by decide) (by decide) z) (by decide))]; exact f789
  have f812 : h809 (r5 3) = some (.inl (d.2 0, 4, .inl (fun _ => 0))) := by rw [eh809, tw_up_n (fun z => absurd (hi9 3 1 (by decide) (by decide) z) (by decide))]; exact f790
  have f813 : h809 q4 = some (.inl (d.2 8, 4, .inr (.inr (.inr (.inr (fun i => if i < 4 then some (r5 i) else none)))))) := by rw [eh809, tw_up_n (Ne.symm (hr8 1 (by decide)).2)]; exact f791
  have f814 : h809 (r43 2) = some (.inl (d.2 0, 4, .inl (fun _ => 0))) := by rw [eh809, tw_up_n (Ne.symm ne61)]; exact f792
  have f815 : h809 (r43 3) = some (.inl (d.2 0, 4, .inl (fun _ => 0))) := by rw [eh809, tw_up_n (Ne.symm ne62)]; exact f793
  have f816 : h809 q42 = some (.inl (d.2 8, 4, .inr (.inr (.inr (.inr (fun i => if i < 4 then some (r43 i) else none)))))) := by rw [eh809, tw_up_n (Ne.symm ne63)]; exact f794
  have f817 : h809 q115 = some (.inl (d.2 1, 2, .inr (.inl (fun _ => 0)))) := by rw [eh809, tw_up_n (Ne.symm ne121)]; exact f795
  have f818 : h809 q159 = some (.inl (d.2 1, 2, .inr (.inl (fun _ => 0)))) := by rw [eh809, tw_up_n (Ne.symm ne165)]; exact f796
  have f819 : h809 q206 = some (.inl (d.2 1, 2, .inr (.inl (fun _ => 0)))) := by rw [eh809, tw_up_n (Ne.symm ne212)]; exact f797
  have f820 : h809 q256 = some (.inl (d.2 1, 2, .inr (.inl (fun _ => 0)))) := by rw [eh809, tw_up_n (Ne.symm ne262)]; exact f798
  have f821 : h809 q309 = some (.inr (3, [.int 0, .ref (d.2 102), .int 0])) := by rw [eh809, tw_up_n (Ne.symm ne315)]; exact f799
  have f822 : h809 q384 = some (.inr (3, [.int 0, .ref (d.2 102), .int 0])) := by rw [eh809, tw_up_n (Ne.symm ne390)]; exact f800
  have f823 : h809 q463 = some (.inr (3, [.int 0, .ref (d.2 102), .int 0])) := by rw [eh809, tw_up_n (Ne.symm ne469)]; exact f801
  have f824 : h809 x = some (.inr (14, [.int 0, .int 0, .int 155, .ref q4, .ref q42, .ref q115, .ref q159, .ref q206, .ref q256, .ref q309, .ref q384, .ref q463])) := by rw [eh809, tw_up_n ne16]; exact f802
  have f825 : h809 (r5 0) = some (.inl (d.2 0, 4, .inl F677)) := by rw [eh809, tw_up_n (Ne.symm (fun z => absurd (hi9 1 0 (by decide) (by decide) z) (by decide)))]; exact f803
  have f826 : h809 (r43 0) = some (.inl (d.2 0, 4, .inl F698)) := by rw [eh809, tw_up_n (Ne.symm ne59)]; exact f804
  have f827 : h809 (r43 1) = some (.inl (d.2 0, 4, .inl F786)) := by rw [eh809, tw_up_n (Ne.symm ne60)]; exact f806
  have f828 : h809 (r5 1) = some (.inl (d.2 0, 4, .inl F808)) := by rw [eh809]; exact tw_up_s
  clear f789 f790 f791 f792 f793 f794 f795 f796 f797 f798 f799 f800 f801 f802 f803 f804 f805 f806 sp788 eh809
  refine tw_aload_n 2 dX10_init_115 rfl rfl ?_
  refine tw_get (v := .ref q42) rfl in_14 4 dX10_init_116 w_1155 rfl (by decide) f824 rfl ?_
  refine tw_iload_n 1 dX10_init_119 rfl rfl ?_
  refine tw_aald (v := .ref (r43 1)) 8 rfl rfl dX10_init_120 f816 (vp_in_nI (n := 1) (by decide) (by decide)) rfl ?_
  refine tw_iload_n 0 dX10_init_121 rfl rfl ?_
  refine tw_bipush (v := 10) dX10_init_122 (by decide) ?_
  refine tw_iast dX10_init_124 f827 (vp_in_nI (n := 2) (by decide) (by decide)) ?_
  obtain ⟨F829, eF829⟩ : ∃ z : Nat → Int32, z = upd F786 (2 : Int32).toNatClampNeg 10 := ⟨_, rfl⟩
  rw [← eF829]
  obtain ⟨h830, eh830⟩ : ∃ z : tw_H, z = tw_up h809 (r43 1) (.inl (d.2 0, 4, .inl F829)) := ⟨_, rfl⟩
  rw [← eh830]
  have sp831 : tw_sp d τ (tw_rm h x) g τ h830 := by rw [eh830]; exact sp810.wl n91 z92
  have f832 : h830 (r5 2) = some (.inl (d.2 0, 4, .inl (fun _ => 0))) := by rw [eh830, tw_up_n ne66]; exact f811
  have f833 : h830 (r5 3) = some (.inl (d.2 0, 4, .inl (fun _ => 0))) := by rw [eh830, tw_up_n ne72]; exact f812
  have f834 : h830 q4 = some (.inl (d.2 8, 4, .inr (.inr (.inr (.inr (fun i => if i < 4 then some (r5 i) else none)))))) := by rw [eh830, tw_up_n ne78]; exact f813
  have f835 : h830 (r43 2) = some (.inl (d.2 0, 4, .inl (fun _ => 0))) := by rw [eh830, tw_up_n (fun z => absurd (hi47 2 1 (by decide) (by decide) z) (by decide))]; exact f814
  have f836 : h830 (r43 3) = some (.inl (d.2 0, 4, .inl (fun _ => 0))) := by rw [eh830, tw_up_n (fun z => absurd (hi47 3 1 (by decide) (by decide) z) (by decide))]; exact f815
  have f837 : h830 q42 = some (.inl (d.2 8, 4, .inr (.inr (.inr (.inr (fun i => if i < 4 then some (r43 i) else none)))))) := by rw [eh830, tw_up_n (Ne.symm (hr46 1 (by decide)).2)]; exact f816
  have f838 : h830 q115 = some (.inl (d.2 1, 2, .inr (.inl (fun _ => 0)))) := by rw [eh830, tw_up_n (Ne.symm ne126)]; exact f817
  have f839 : h830 q159 = some (.inl (d.2 1, 2, .inr (.inl (fun _ => 0)))) := by rw [eh830, tw_up_n (Ne.symm ne170)]; exact f818
  have f840 : h830 q206 = some (.inl (d.2 1, 2, .inr (.inl (fun _ => 0)))) := by rw [eh830, tw_up_n (Ne.symm ne217)]; exact f819
  have f841 : h830 q256 = some (.inl (d.2 1, 2, .inr (.inl (fun _ => 0)))) := by rw [eh830, tw_up_n (Ne.symm ne267)]; exact f820
  have f842 : h830 q309 = some (.inr (3, [.int 0, .ref (d.2 102), .int 0])) := by rw [eh830, tw_up_n (Ne.symm ne320)]; exact f821
  have f843 : h830 q384 = some (.inr (3, [.int 0, .ref (d.2 102), .int 0])) := by rw [eh830, tw_up_n (Ne.symm ne395)]; exact f822
  have f844 : h830 q463 = some (.inr (3, [.int 0, .ref (d.2 102), .int 0])) := by rw [eh830, tw_up_n (Ne.symm ne474)]; exact f823
  have f845 : h830 x = some (.inr (14, [.int 0, .int 0, .int 155, .ref q4, .ref q42, .ref q115, .ref q159, .ref q206, .ref q256, .ref q309, .ref q384, .ref q463])) := by rw [eh830, tw_up_n ne84]; exact f824
  have f846 : h830 (r5 0) = some (.inl (d.2 0, 4, .inl F677)) := by rw [eh830, tw_up_n ne54]; exact f825
  have f847 : h830 (r43 0) = some (.inl (d.2 0, 4, .inl F698)) := by rw [eh830, tw_up_n (Ne.symm (fun z => absurd (hi47 1 0 (by decide) (by decide) z) (by decide)))]; exact f826
  have f848 : h830 (r5 1) = some (.inl (d.2 0, 4, .inl F808)) := by rw [eh830, tw_up_n ne60]; exact f828
  have f849 : h830 (r43 1) = some (.inl (d.2 0, 4, .inl F829)) := by rw [eh830]; exact tw_up_s
  clear f811 f812 f813 f814 f815 f816 f817 f818 f819 f820 f821 f822 f823 f824 f825 f826 f827 f828 sp810 eh830
  refine tw_iinc [(2, .int 3), (1, .int 1), (0, .ref x)] 0 dX10_init_125 rfl (by decide) (by decide) rfl ?_
  refine tw_goto 101 dX10_init_128 (by decide) ?_
  refine tw_iload_n 0 dX10_init_101 rfl rfl ?_
  refine tw_iconst (v := 4) dX10_init_102 (by decide) ?_
  refine tw_icmp_ge 131 dX10_init_103 (by decide) (fun c850 => absurd c850 (by decide)) (fun _ => ?_)
  refine tw_aload_n 2 dX10_init_106 rfl rfl ?_
  refine tw_get (v := .ref q4) rfl in_14 3 dX10_init_107 w_1154 rfl (by decide) f845 rfl ?_
  refine tw_iload_n 1 dX10_init_110 rfl rfl ?_
  refine tw_aald (v := .ref (r5 1)) 8 rfl rfl dX10_init_111 f834 (vp_in_nI (n := 1) (by decide) (by decide)) rfl ?_
  refine tw_iload_n 0 dX10_init_112 rfl rfl ?_
  refine tw_iconst (v := 3) dX10_init_113 (by decide) ?_
  refine tw_iast dX10_init_114 f848 (vp_in_nI (n := 3) (by decide) (by decide)) ?_
  obtain ⟨F851, eF851⟩ : ∃ z : Nat → Int32, z = upd F808 (3 : Int32).toNatClampNeg 3 := ⟨_, rfl⟩
  rw [← eF851]
  obtain ⟨h852, eh852⟩ : ∃ z : tw_H, z = tw_up h830 (r5 1) (.inl (d.2 0, 4, .inl F851)) := ⟨_, rfl⟩
  rw [← eh852]
  have sp853 : tw_sp d τ (tw_rm h x) g τ h852 := by rw [eh852]; exact sp831.wl n23 z24
  have f854 : h852 (r5 2) = some (.inl (d.2 0, 4, .inl (fun _ => 0))) := by rw [eh852, tw_up_n (fun z => absurd (hi9 2 1 (by decide) (by decide) z) (by decide))]; exact f832
  have f855 : h852 (r5 3) = some (.inl (d.2 0, 4, .inl (fun _ => 0))) := by rw [eh852, tw_up_n (fun z => absurd (hi9 3 1 (by decide) (by decide) z) (by decide))]; exact f833
  have f856 : h852 q4 = some (.inl (d.2 8, 4, .inr (.inr (.inr (.inr (fun i => if i < 4 then some (r5 i) else none)))))) := by rw [eh852, tw_up_n (Ne.symm (hr8 1 (by decide)).2)]; exact f834
  have f857 : h852 (r43 2) = some (.inl (d.2 0, 4, .inl (fun _ => 0))) := by rw [eh852, tw_up_n (Ne.symm ne61)]; exact f835
  have f858 : h852 (r43 3) = some (.inl (d.2 0, 4, .inl (fun _ => 0))) := by rw [eh852, tw_up_n (Ne.symm ne62)]; exact f836
  have f859 : h852 q42 = some (.inl (d.2 8, 4, .inr (.inr (.inr (.inr (fun i => if i < 4 then some (r43 i) else none)))))) := by rw [eh852, tw_up_n (Ne.symm ne63)]; exact f837
  have f860 : h852 q115 = some (.inl (d.2 1, 2, .inr (.inl (fun _ => 0)))) := by rw [eh852, tw_up_n (Ne.symm ne121)]; exact f838
  have f861 : h852 q159 = some (.inl (d.2 1, 2, .inr (.inl (fun _ => 0)))) := by rw [eh852, tw_up_n (Ne.symm ne165)]; exact f839
  have f862 : h852 q206 = some (.inl (d.2 1, 2, .inr (.inl (fun _ => 0)))) := by rw [eh852, tw_up_n (Ne.symm ne212)]; exact f840
  have f863 : h852 q256 = some (.inl (d.2 1, 2, .inr (.inl (fun _ => 0)))) := by rw [eh852, tw_up_n (Ne.symm ne262)]; exact f841
  have f864 : h852 q309 = some (.inr (3, [.int 0, .ref (d.2 102), .int 0])) := by rw [eh852, tw_up_n (Ne.symm ne315)]; exact f842
  have f865 : h852 q384 = some (.inr (3, [.int 0, .ref (d.2 102), .int 0])) := by rw [eh852, tw_up_n (Ne.symm ne390)]; exact f843
  have f866 : h852 q463 = some (.inr (3, [.int 0, .ref (d.2 102), .int 0])) := by rw [eh852, tw_up_n (Ne.symm ne469)]; exact f844
  have f867 : h852 x = some (.inr (14, [.int 0, .int 0, .int 155, .ref q4, .ref q42, .ref q115, .ref q159, .ref q206, .ref q256, .ref q309, .ref q384, .ref q463])) := by rw [eh852, tw_up_n ne16]; exact f845
  have f868 : h852 (r5 0) = some (.inl (d.2 0, 4, .inl F677)) := by rw [eh852, tw_up_n (Ne.symm (fun z => absurd (hi9 1 0 (by decide) (by decide) z) (by decide)))]; exact f846
  have f869 : h852 (r43 0) = some (.inl (d.2 0, 4, .inl F698)) := by rw [eh852, tw_up_n (Ne.symm ne59)]; exact f847
  have f870 : h852 (r43 1) = some (.inl (d.2 0, 4, .inl F829)) := by rw [eh852, tw_up_n (Ne.symm ne60)]; exact f849
  have f871 : h852 (r5 1) = some (.inl (d.2 0, 4, .inl F851)) := by rw [eh852]; exact tw_up_s
  clear f832 f833 f834 f835 f836 f837 f838 f839 f840 f841 f842 f843 f844 f845 f846 f847 f848 f849 sp831 eh852
  refine tw_aload_n 2 dX10_init_115 rfl rfl ?_
  refine tw_get (v := .ref q42) rfl in_14 4 dX10_init_116 w_1155 rfl (by decide) f867 rfl ?_
  refine tw_iload_n 1 dX10_init_119 rfl rfl ?_
  refine tw_aald (v := .ref (r43 1)) 8 rfl rfl dX10_init_120 f859 (vp_in_nI (n := 1) (by decide) (by decide)) rfl ?_
  refine tw_iload_n 0 dX10_init_121 rfl rfl ?_
  refine tw_bipush (v := 10) dX10_init_122 (by decide) ?_
  refine tw_iast dX10_init_124 f870 (vp_in_nI (n := 3) (by decide) (by decide)) ?_
  obtain ⟨F872, eF872⟩ : ∃ z : Nat → Int32, z = upd F829 (3 : Int32).toNatClampNeg 10 := ⟨_, rfl⟩
  rw [← eF872]
  obtain ⟨h873, eh873⟩ : ∃ z : tw_H, z = tw_up h852 (r43 1) (.inl (d.2 0, 4, .inl F872)) := ⟨_, rfl⟩
  rw [← eh873]
  have sp874 : tw_sp d τ (tw_rm h x) g τ h873 := by rw [eh873]; exact sp853.wl n91 z92
  have f875 : h873 (r5 2) = some (.inl (d.2 0, 4, .inl (fun _ => 0))) := by rw [eh873, tw_up_n ne66]; exact f854
  have f876 : h873 (r5 3) = some (.inl (d.2 0, 4, .inl (fun _ => 0))) := by rw [eh873, tw_up_n ne72]; exact f855
  have f877 : h873 q4 = some (.inl (d.2 8, 4, .inr (.inr (.inr (.inr (fun i => if i < 4 then some (r5 i) else none)))))) := by rw [eh873, tw_up_n ne78]; exact f856
  have f878 : h873 (r43 2) = some (.inl (d.2 0, 4, .inl (fun _ => 0))) := by rw [eh873, tw_up_n (fun z => absurd (hi47 2 1 (by decide) (by decide) z) (by decide))]; exact f857
  have f879 : h873 (r43 3) = some (.inl (d.2 0, 4, .inl (fun _ => 0))) := by rw [eh873, tw_up_n (fun z => absurd (hi47 3 1 (by decide) (by decide) z) (by decide))]; exact f858
  have f880 : h873 q42 = some (.inl (d.2 8, 4, .inr (.inr (.inr (.inr (fun i => if i < 4 then some (r43 i) else none)))))) := by rw [eh873, tw_up_n (Ne.symm (hr46 1 (by decide)).2)]; exact f859
  have f881 : h873 q115 = some (.inl (d.2 1, 2, .inr (.inl (fun _ => 0)))) := by rw [eh873, tw_up_n (Ne.symm ne126)]; exact f860
  have f882 : h873 q159 = some (.inl (d.2 1, 2, .inr (.inl (fun _ => 0)))) := by rw [eh873, tw_up_n (Ne.symm ne170)]; exact f861
  have f883 : h873 q206 = some (.inl (d.2 1, 2, .inr (.inl (fun _ => 0)))) := by rw [eh873, tw_up_n (Ne.symm ne217)]; exact f862
  have f884 : h873 q256 = some (.inl (d.2 1, 2, .inr (.inl (fun _ => 0)))) := by rw [eh873, tw_up_n (Ne.symm ne267)]; exact f863
  have f885 : h873 q309 = some (.inr (3, [.int 0, .ref (d.2 102), .int 0])) := by rw [eh873, tw_up_n (Ne.symm ne320)]; exact f864
  have f886 : h873 q384 = some (.inr (3, [.int 0, .ref (d.2 102), .int 0])) := by rw [eh873, tw_up_n (Ne.symm ne395)]; exact f865
  have f887 : h873 q463 = some (.inr (3, [.int 0, .ref (d.2 102), .int 0])) := by rw [eh873, tw_up_n (Ne.symm ne474)]; exact f866
  have f888 : h873 x = some (.inr (14, [.int 0, .int 0, .int 155, .ref q4, .ref q42, .ref q115, .ref q159, .ref q206, .ref q256, .ref q309, .ref q384, .ref q463])) := by rw [eh873, tw_up_n ne84]; exact f867
  have f889 : h873 (r5 0) = some (.inl (d.2 0, 4, .inl F677)) := by rw [eh873, tw_up_n ne54]; exact f868
  have f890 : h873 (r43 0) = some (.inl (d.2 0, 4, .inl F698)) := by rw [eh873, tw_up_n (Ne.symm (fun z => absurd (hi47 1 0 (by decide) (by decide) z) (by decide)))]; exact f869
  have f891 : h873 (r5 1) = some (.inl (d.2 0, 4, .inl F851)) := by rw [eh873, tw_up_n ne60]; exact f871
  have f892 : h873 (r43 1) = some (.inl (d.2 0, 4, .inl F872)) := by rw [eh873]; exact tw_up_s
  clear f854 f855 f856 f857 f858 f859 f860 f861 f862 f863 f864 f865 f866 f867 f868 f869 f870 f871 sp853 eh873
  refine tw_iinc [(2, .int 4), (1, .int 1), (0, .ref x)] 0 dX10_init_125 rfl (by decide) (by decide) rfl ?_
  refine tw_goto 101 dX10_init_128 (by decide) ?_
  refine tw_iload_n 0 dX10_init_101 rfl rfl ?_
  refine tw_iconst (v := 4) dX10_init_102 (by decide) ?_
  refine tw_icmp_ge 131 dX10_init_103 (by decide) (fun _ => ?_) (fun c893 => absurd (by decide) c893)
  refine tw_iinc [(1, .int 2), (2, .int 4), (0, .ref x)] 1 dX10_init_131 rfl (by decide) (by decide) rfl ?_
  refine tw_goto 94 dX10_init_134 (by decide) ?_
  refine tw_iload_n 0 dX10_init_94 rfl rfl ?_
  refine tw_iconst (v := 4) dX10_init_95 (by decide) ?_
  refine tw_icmp_ge 137 dX10_init_96 (by decide) (fun c894 => absurd c894 (by decide)) (fun _ => ?_)
  refine tw_iconst (v := 0) dX10_init_99 (by decide) ?_
  refine tw_istore_n [(2, .int 0), (1, .int 2), (0, .ref x)] dX10_init_100 rfl (by decide) rfl ?_
  refine tw_iload_n 0 dX10_init_101 rfl rfl ?_
  refine tw_iconst (v := 4) dX10_init_102 (by decide) ?_
  refine tw_icmp_ge 131 dX10_init_103 (by decide) (fun c895 => absurd c895 (by decide)) (fun _ => ?_)
  refine tw_aload_n 2 dX10_init_106 rfl rfl ?_
  refine tw_get (v := .ref q4) rfl in_14 3 dX10_init_107 w_1154 rfl (by decide) f888 rfl ?_
  refine tw_iload_n 1 dX10_init_110 rfl rfl ?_
  refine tw_aald (v := .ref (r5 2)) 8 rfl rfl dX10_init_111 f877 (vp_in_nI (n := 2) (by decide) (by decide)) rfl ?_
  refine tw_iload_n 0 dX10_init_112 rfl rfl ?_
  refine tw_iconst (v := 3) dX10_init_113 (by decide) ?_
  refine tw_iast dX10_init_114 f875 (vp_in_nI (n := 0) (by decide) (by decide)) ?_
  obtain ⟨F896, eF896⟩ : ∃ z : Nat → Int32, z = upd (fun _ => 0) (0 : Int32).toNatClampNeg 3 := ⟨_, rfl⟩
  rw [← eF896]
  obtain ⟨h897, eh897⟩ : ∃ z : tw_H, z = tw_up h873 (r5 2) (.inl (d.2 0, 4, .inl F896)) := ⟨_, rfl⟩
  rw [← eh897]
  have sp898 : tw_sp d τ (tw_rm h x) g τ h897 := by rw [eh897]; exact sp874.wl n26 z27
  have f899 : h897 (r5 3) = some (.inl (d.2 0, 4, .inl (fun _ => 0))) := by rw [eh897, tw_up_n (fun z => absurd (hi9 3 2 (by decide) (by decide) z) (by decide))]; exact f876
  have f900 : h897 q4 = some (.inl (d.2 8, 4, .inr (.inr (.inr (.inr (fun i => if i < 4 then some (r5 i) else none)))))) := by rw [eh897, tw_up_n (Ne.symm (hr8 2 (by decide)).2)]; exact f877
  have f901 : h897 (r43 2) = some (.inl (d.2 0, 4, .inl (fun _ => 0))) := by rw [eh897, tw_up_n (Ne.symm ne67)]; exact f878
  have f902 : h897 (r43 3) = some (.inl (d.2 0, 4, .inl (fun _ => 0))) := by rw [eh897, tw_up_n (Ne.symm ne68)]; exact f879
  have f903 : h897 q42 = some (.inl (d.2 8, 4, .inr (.inr (.inr (.inr (fun i => if i < 4 then some (r43 i) else none)))))) := by rw [eh897, tw_up_n (Ne.symm ne69)]; exact f880
  have f904 : h897 q115 = some (.inl (d.2 1, 2, .inr (.inl (fun _ => 0)))) := by rw [eh897, tw_up_n (Ne.symm ne122)]; exact f881
  have f905 : h897 q159 = some (.inl (d.2 1, 2, .inr (.inl (fun _ => 0)))) := by rw [eh897, tw_up_n (Ne.symm ne166)]; exact f882
  have f906 : h897 q206 = some (.inl (d.2 1, 2, .inr (.inl (fun _ => 0)))) := by rw [eh897, tw_up_n (Ne.symm ne213)]; exact f883
  have f907 : h897 q256 = some (.inl (d.2 1, 2, .inr (.inl (fun _ => 0)))) := by rw [eh897, tw_up_n (Ne.symm ne263)]; exact f884
  have f908 : h897 q309 = some (.inr (3, [.int 0, .ref (d.2 102), .int 0])) := by rw [eh897, tw_up_n (Ne.symm ne316)]; exact f885
  have f909 : h897 q384 = some (.inr (3, [.int 0, .ref (d.2 102), .int 0])) := by rw [eh897, tw_up_n (Ne.symm ne391)]; exact f886
  have f910 : h897 q463 = some (.inr (3, [.int 0, .ref (d.2 102), .int 0])) := by rw [eh897, tw_up_n (Ne.symm ne470)]; exact f887
  have f911 : h897 x = some (.inr (14, [.int 0, .int 0, .int 155, .ref q4, .ref q42, .ref q115, .ref q159, .ref q206, .ref q256, .ref q309, .ref q384, .ref q463])) := by rw [eh897, tw_up_n ne17]; exact f888
  have f912 : h897 (r5 0) = some (.inl (d.2 0, 4, .inl F677)) := by rw [eh897, tw_up_n (Ne.symm (fun z => absurd (hi9 2 0 (by decide) (by decide) z) (by decide)))]; exact f889
  have f913 : h897 (r43 0) = some (.inl (d.2 0, 4, .inl F698)) := by rw [eh897, tw_up_n (Ne.symm ne65)]; exact f890
  have f914 : h897 (r5 1) = some (.inl (d.2 0, 4, .inl F851)) := by rw [eh897, tw_up_n (Ne.symm (fun z => absurd (hi9 2 1 (by decide) (by decide) z) (by decide)))]; exact f891
  have f915 : h897 (r43 1) = some (.inl (d.2 0, 4, .inl F872)) := by rw [eh897, tw_up_n (Ne.symm ne66)]; exact f892
  have f916 : h897 (r5 2) = some (.inl (d.2 0, 4, .inl F896)) := by rw [eh897]; exact tw_up_s
  clear f875 f876 f877 f878 f879 f880 f881 f882 f883 f884 f885 f886 f887 f888 f889 f890 f891 f892 sp874 eh897
  refine tw_aload_n 2 dX10_init_115 rfl rfl ?_
  refine tw_get (v := .ref q42) rfl in_14 4 dX10_init_116 w_1155 rfl (by decide) f911 rfl ?_
  refine tw_iload_n 1 dX10_init_119 rfl rfl ?_
  refine tw_aald (v := .ref (r43 2)) 8 rfl rfl dX10_init_120 f903 (vp_in_nI (n := 2) (by decide) (by decide)) rfl ?_
  refine tw_iload_n 0 dX10_init_121 rfl rfl ?_
  refine tw_bipush (v := 10) dX10_init_122 (by decide) ?_
  refine tw_iast dX10_init_124 f901 (vp_in_nI (n := 0) (by decide) (by decide)) ?_
  obtain ⟨F917, eF917⟩ : ∃ z : Nat → Int32, z = upd (fun _ => 0) (0 : Int32).toNatClampNeg 10 := ⟨_, rfl⟩
  rw [← eF917]
  obtain ⟨h918, eh918⟩ : ∃ z : tw_H, z = tw_up h897 (r43 2) (.inl (d.2 0, 4, .inl F917)) := ⟨_, rfl⟩
  rw [← eh918]
  have sp919 : tw_sp d τ (tw_rm h x) g τ h918 := by rw [eh918]; exact sp898.wl n94 z95
  have f920 : h918 (r5 3) = some (.inl (d.2 0, 4, .inl (fun _ => 0))) := by rw [eh918, tw_up_n ne73]; exact f899
  have f921 : h918 q4 = some (.inl (d.2 8, 4, .inr (.inr (.inr (.inr (fun i => if i < 4 then some (r5 i) else none)))))) := by rw [eh918, tw_up_n ne79]; exact f900
  have f922 : h918 (r43 3) = some (.inl (d.2 0, 4, .inl (fun _ => 0))) := by rw [eh918, tw_up_n (fun z => absurd (hi47 3 2 (by decide) (by decide) z) (by decide))]; exact f902
  have f923 : h918 q42 = some (.inl (d.2 8, 4, .inr (.inr (.inr (.inr (fun i => if i < 4 then some (r43 i) else none)))))) := by rw [eh918, tw_up_n (Ne.symm (hr46 2 (by decide)).2)]; exact f903
  have f924 : h918 q115 = some (.inl (d.2 1, 2, .inr (.inl (fun _ => 0)))) := by rw [eh918, tw_up_n (Ne.symm ne127)]; exact f904
  have f925 : h918 q159 = some (.inl (d.2 1, 2, .inr (.inl (fun _ => 0)))) := by rw [eh918, tw_up_n (Ne.symm ne171)]; exact f905
  have f926 : h918 q206 = some (.inl (d.2 1, 2, .inr (.inl (fun _ => 0)))) := by rw [eh918, tw_up_n (Ne.symm ne218)]; exact f906
  have f927 : h918 q256 = some (.inl (d.2 1, 2, .inr (.inl (fun _ => 0)))) := by rw [eh918, tw_up_n (Ne.symm ne268)]; exact f907
  have f928 : h918 q309 = some (.inr (3, [.int 0, .ref (d.2 102), .int 0])) := by rw [eh918, tw_up_n (Ne.symm ne321)]; exact f908
  have f929 : h918 q384 = some (.inr (3, [.int 0, .ref (d.2 102), .int 0])) := by rw [eh918, tw_up_n (Ne.symm ne396)]; exact f909
  have f930 : h918 q463 = some (.inr (3, [.int 0, .ref (d.2 102), .int 0])) := by rw [eh918, tw_up_n (Ne.symm ne475)]; exact f910
  have f931 : h918 x = some (.inr (14, [.int 0, .int 0, .int 155, .ref q4, .ref q42, .ref q115, .ref q159, .ref q206, .ref q256, .ref q309, .ref q384, .ref q463])) := by rw [eh918, tw_up_n ne85]; exact f911
  have f932 : h918 (r5 0) = some (.inl (d.2 0, 4, .inl F677)) := by rw [eh918, tw_up_n ne55]; exact f912
  have f933 : h918 (r43 0) = some (.inl (d.2 0, 4, .inl F698)) := by rw [eh918, tw_up_n (Ne.symm (fun z => absurd (hi47 2 0 (by decide) (by decide) z) (by decide)))]; exact f913
  have f934 : h918 (r5 1) = some (.inl (d.2 0, 4, .inl F851)) := by rw [eh918, tw_up_n ne61]; exact f914
  have f935 : h918 (r43 1) = some (.inl (d.2 0, 4, .inl F872)) := by rw [eh918, tw_up_n (Ne.symm (fun z => absurd (hi47 2 1 (by decide) (by decide) z) (by decide)))]; exact f915
  have f936 : h918 (r5 2) = some (.inl (d.2 0, 4, .inl F896)) := by rw [eh918, tw_up_n ne67]; exact f916
  have f937 : h918 (r43 2) = some (.inl (d.2 0, 4, .inl F917)) := by rw [eh918]; exact tw_up_s
  clear f899 f900 f901 f902 f903 f904 f905 f906 f907 f908 f909 f910 f911 f912 f913 f914 f915 f916 sp898 eh918
  refine tw_iinc [(2, .int 1), (1, .int 2), (0, .ref x)] 0 dX10_init_125 rfl (by decide) (by decide) rfl ?_
  refine tw_goto 101 dX10_init_128 (by decide) ?_
  refine tw_iload_n 0 dX10_init_101 rfl rfl ?_
  refine tw_iconst (v := 4) dX10_init_102 (by decide) ?_
  refine tw_icmp_ge 131 dX10_init_103 (by decide) (fun c938 => absurd c938 (by decide)) (fun _ => ?_)
  refine tw_aload_n 2 dX10_init_106 rfl rfl ?_
  refine tw_get (v := .ref q4) rfl in_14 3 dX10_init_107 w_1154 rfl (by decide) f931 rfl ?_
  refine tw_iload_n 1 dX10_init_110 rfl rfl ?_
  refine tw_aald (v := .ref (r5 2)) 8 rfl rfl dX10_init_111 f921 (vp_in_nI (n := 2) (by decide) (by decide)) rfl ?_
  refine tw_iload_n 0 dX10_init_112 rfl rfl ?_
  refine tw_iconst (v := 3) dX10_init_113 (by decide) ?_
  refine tw_iast dX10_init_114 f936 (vp_in_nI (n := 1) (by decide) (by decide)) ?_
  obtain ⟨F939, eF939⟩ : ∃ z : Nat → Int32, z = upd F896 (1 : Int32).toNatClampNeg 3 := ⟨_, rfl⟩
  rw [← eF939]
  obtain ⟨h940, eh940⟩ : ∃ z : tw_H, z = tw_up h918 (r5 2) (.inl (d.2 0, 4, .inl F939)) := ⟨_, rfl⟩
  rw [← eh940]
  have sp941 : tw_sp d τ (tw_rm h x) g τ h940 := by rw [eh940]; exact sp919.wl n26 z27
  have f942 : h940 (r5 3) = some (.inl (d.2 0, 4, .inl (fun _ => 0))) := by rw [eh940, tw_up_n (fun z => absurd (hi9 3 2 (by decide) (by decide) z) (by decide))]; exact f920
  have f943 : h940 q4 = some (.inl (d.2 8, 4, .inr (.inr (.inr (.inr (fun i => if i < 4 then some (r5 i) else none)))))) := by rw [eh940, tw_up_n (Ne.symm (hr8 2 (by decide)).2)]; exact f921
  have f944 : h940 (r43 3) = some (.inl (d.2 0, 4, .inl (fun _ => 0))) := by rw [eh940, tw_up_n (Ne.symm ne68)]; exact f922
  have f945 : h940 q42 = some (.inl (d.2 8, 4, .inr (.inr (.inr (.inr (fun i => if i < 4 then some (r43 i) else none)))))) := by rw [eh940, tw_up_n (Ne.symm ne69)]; exact f923
  have f946 : h940 q115 = some (.inl (d.2 1, 2, .inr (.inl (fun _ => 0)))) := by rw [eh940, tw_up_n (Ne.symm ne122)]; exact f924
  have f947 : h940 q159 = some (.inl (d.2 1, 2, .inr (.inl (fun _ => 0)))) := by rw [eh940, tw_up_n (Ne.symm ne166)]; exact f925
  have f948 : h940 q206 = some (.inl (d.2 1, 2, .inr (.inl (fun _ => 0)))) := by rw [eh940, tw_up_n (Ne.symm ne213)]; exact f926
  have f949 : h940 q256 = some (.inl (d.2 1, 2, .inr (.inl (fun _ => 0)))) := by rw [eh940, tw_up_n (Ne.symm ne263)]; exact f927
  have f950 : h940 q309 = some (.inr (3, [.int 0, .ref (d.2 102), .int 0])) := by rw [eh940, tw_up_n (Ne.symm ne316)]; exact f928
  have f951 : h940 q384 = some (.inr (3, [.int 0, .ref (d.2 102), .int 0])) := by rw [eh940, tw_up_n (Ne.symm ne391)]; exact f929
  have f952 : h940 q463 = some (.inr (3, [.int 0, .ref (d.2 102), .int 0])) := by rw [eh940, tw_up_n (Ne.symm ne470)]; exact f930
  have f953 : h940 x = some (.inr (14, [.int 0, .int 0, .int 155, .ref q4, .ref q42, .ref q115, .ref q159, .ref q206, .ref q256, .ref q309, .ref q384, .ref q463])) := by rw [eh940, tw_up_n ne17]; exact f931
  have f954 : h940 (r5 0) = some (.inl (d.2 0, 4, .inl F677)) := by rw [eh940, tw_up_n (Ne.symm (fun z => absurd (hi9 2 0 (by decide) (by decide) z) (by decide)))]; exact f932
  have f955 : h940 (r43 0) = some (.inl (d.2 0, 4, .inl F698)) := by rw [eh940, tw_up_n (Ne.symm ne65)]; exact f933
  have f956 : h940 (r5 1) = some (.inl (d.2 0, 4, .inl F851)) := by rw [eh940, tw_up_n (Ne.symm (fun z => absurd (hi9 2 1 (by decide) (by decide) z) (by decide)))]; exact f934
  have f957 : h940 (r43 1) = some (.inl (d.2 0, 4, .inl F872)) := by rw [eh940, tw_up_n (Ne.symm ne66)]; exact f935
  have f958 : h940 (r43 2) = some (.inl (d.2 0, 4, .inl F917)) := by rw [eh940, tw_up_n (Ne.symm ne67)]; exact f937
  have f959 : h940 (r5 2) = some (.inl (d.2 0, 4, .inl F939)) := by rw [eh940]; exact tw_up_s
  clear f920 f921 f922 f923 f924 f925 f926 f927 f928 f929 f930 f931 f932 f933 f934 f935 f936 f937 sp919 eh940
  refine tw_aload_n 2 dX10_init_115 rfl rfl ?_
  refine tw_get (v := .ref q42) rfl in_14 4 dX10_init_116 w_1155 rfl (by decide) f953 rfl ?_
  refine tw_iload_n 1 dX10_init_119 rfl rfl ?_
  refine tw_aald (v := .ref (r43 2)) 8 rfl rfl dX10_init_120 f945 (vp_in_nI (n := 2) (by decide) (by decide)) rfl ?_
  refine tw_iload_n 0 dX10_init_121 rfl rfl ?_
  refine tw_bipush (v := 10) dX10_init_122 (by decide) ?_
  refine tw_iast dX10_init_124 f958 (vp_in_nI (n := 1) (by decide) (by decide)) ?_
  obtain ⟨F960, eF960⟩ : ∃ z : Nat → Int32, z = upd F917 (1 : Int32).toNatClampNeg 10 := ⟨_, rfl⟩
  rw [← eF960]
  obtain ⟨h961, eh961⟩ : ∃ z : tw_H, z = tw_up h940 (r43 2) (.inl (d.2 0, 4, .inl F960)) := ⟨_, rfl⟩
  rw [← eh961]
  have sp962 : tw_sp d τ (tw_rm h x) g τ h961 := by rw [eh961]; exact sp941.wl n94 z95
  have f963 : h961 (r5 3) = some (.inl (d.2 0, 4, .inl (fun _ => 0))) := by rw [eh961, tw_up_n ne73]; exact f942
  have f964 : h961 q4 = some (.inl (d.2 8, 4, .inr (.inr (.inr (.inr (fun i => if i < 4 then some (r5 i) else none)))))) := by rw [eh961, tw_up_n ne79]; exact f943
  have f965 : h961 (r43 3) = some (.inl (d.2 0, 4, .inl (fun _ => 0))) := by rw [eh961, tw_up_n (fun z => absurd (hi47 3 2 (by decide) (by decide) z) (by decide))]; exact f944
  have f966 : h961 q42 = some (.inl (d.2 8, 4, .inr (.inr (.inr (.inr (fun i => if i < 4 then some (r43 i) else none)))))) := by rw [eh961, tw_up_n (Ne.symm (hr46 2 (by decide)).2)]; exact f945
  have f967 : h961 q115 = some (.inl (d.2 1, 2, .inr (.inl (fun _ => 0)))) := by rw [eh961, tw_up_n (Ne.symm ne127)]; exact f946
  have f968 : h961 q159 = some (.inl (d.2 1, 2, .inr (.inl (fun _ => 0)))) := by rw [eh961, tw_up_n (Ne.symm ne171)]; exact f947
  have f969 : h961 q206 = some (.inl (d.2 1, 2, .inr (.inl (fun _ => 0)))) := by rw [eh961, tw_up_n (Ne.symm ne218)]; exact f948
  have f970 : h961 q256 = some (.inl (d.2 1, 2, .inr (.inl (fun _ => 0)))) := by rw [eh961, tw_up_n (Ne.symm ne268)]; exact f949
  have f971 : h961 q309 = some (.inr (3, [.int 0, .ref (d.2 102), .int 0])) := by rw [eh961, tw_up_n (Ne.symm ne321)]; exact f950
  have f972 : h961 q384 = some (.inr (3, [.int 0, .ref (d.2 102), .int 0])) := by rw [eh961, tw_up_n (Ne.symm ne396)]; exact f951
  have f973 : h961 q463 = some (.inr (3, [.int 0, .ref (d.2 102), .int 0])) := by rw [eh961, tw_up_n (Ne.symm ne475)]; exact f952
  have f974 : h961 x = some (.inr (14, [.int 0, .int 0, .int 155, .ref q4, .ref q42, .ref q115, .ref q159, .ref q206, .ref q256, .ref q309, .ref q384, .ref q463])) := by rw [eh961, tw_up_n ne85]; exact f953
  have f975 : h961 (r5 0) = some (.inl (d.2 0, 4, .inl F677)) := by rw [eh961, tw_up_n ne55]; exact f954
  have f976 : h961 (r43 0) = some (.inl (d.2 0, 4, .inl F698)) := by rw [eh961, tw_up_n (Ne.symm (fun z => absurd (hi47 2 0 (by decide) (by decide) z) (by decide)))]; exact f955
  have f977 : h961 (r5 1) = some (.inl (d.2 0, 4, .inl F851)) := by rw [eh961, tw_up_n ne61]; exact f956
  have f978 : h961 (r43 1) = some (.inl (d.2 0, 4, .inl F872)) := by rw [eh961, tw_up_n (Ne.symm (fun z => absurd (hi47 2 1 (by decide) (by decide) z) (by decide)))]; exact f957
  have f979 : h961 (r5 2) = some (.inl (d.2 0, 4, .inl F939)) := by rw [eh961, tw_up_n ne67]; exact f959
  have f980 : h961 (r43 2) = some (.inl (d.2 0, 4, .inl F960)) := by rw [eh961]; exact tw_up_s
  clear f942 f943 f944 f945 f946 f947 f948 f949 f950 f951 f952 f953 f954 f955 f956 f957 f958 f959 sp941 eh961
  refine tw_iinc [(2, .int 2), (1, .int 2), (0, .ref x)] 0 dX10_init_125 rfl (by decide) (by decide) rfl ?_
  refine tw_goto 101 dX10_init_128 (by decide) ?_
  refine tw_iload_n 0 dX10_init_101 rfl rfl ?_
  refine tw_iconst (v := 4) dX10_init_102 (by decide) ?_
  refine tw_icmp_ge 131 dX10_init_103 (by decide) (fun c981 => absurd c981 (by decide)) (fun _ => ?_)
  refine tw_aload_n 2 dX10_init_106 rfl rfl ?_
  refine tw_get (v := .ref q4) rfl in_14 3 dX10_init_107 w_1154 rfl (by decide) f974 rfl ?_
  refine tw_iload_n 1 dX10_init_110 rfl rfl ?_
  refine tw_aald (v := .ref (r5 2)) 8 rfl rfl dX10_init_111 f964 (vp_in_nI (n := 2) (by decide) (by decide)) rfl ?_
  refine tw_iload_n 0 dX10_init_112 rfl rfl ?_
  refine tw_iconst (v := 3) dX10_init_113 (by decide) ?_
  refine tw_iast dX10_init_114 f979 (vp_in_nI (n := 2) (by decide) (by decide)) ?_
  obtain ⟨F982, eF982⟩ : ∃ z : Nat → Int32, z = upd F939 (2 : Int32).toNatClampNeg 3 := ⟨_, rfl⟩
  rw [← eF982]
  obtain ⟨h983, eh983⟩ : ∃ z : tw_H, z = tw_up h961 (r5 2) (.inl (d.2 0, 4, .inl F982)) := ⟨_, rfl⟩
  rw [← eh983]
  have sp984 : tw_sp d τ (tw_rm h x) g τ h983 := by rw [eh983]; exact sp962.wl n26 z27
  have f985 : h983 (r5 3) = some (.inl (d.2 0, 4, .inl (fun _ => 0))) := by rw [eh983, tw_up_n (fun z => absurd (hi9 3 2 (by decide) (by decide) z) (by decide))]; exact f963
  have f986 : h983 q4 = some (.inl (d.2 8, 4, .inr (.inr (.inr (.inr (fun i => if i < 4 then some (r5 i) else none)))))) := by rw [eh983, tw_up_n (Ne.symm (hr8 2 (by decide)).2)]; exact f964
  have f987 : h983 (r43 3) = some (.inl (d.2 0, 4, .inl (fun _ => 0))) := by rw [eh983, tw_up_n (Ne.symm ne68)]; exact f965
  have f988 : h983 q42 = some (.inl (d.2 8, 4, .inr (.inr (.inr (.inr (fun i => if i < 4 then some (r43 i) else none)))))) := by rw [eh983, tw_up_n (Ne.symm ne69)]; exact f966
  have f989 : h983 q115 = some (.inl (d.2 1, 2, .inr (.inl (fun _ => 0)))) := by rw [eh983, tw_up_n (Ne.symm ne122)]; exact f967
  have f990 : h983 q159 = some (.inl (d.2 1, 2, .inr (.inl (fun _ => 0)))) := by rw [eh983, tw_up_n (Ne.symm ne166)]; exact f968
  have f991 : h983 q206 = some (.inl (d.2 1, 2, .inr (.inl (fun _ => 0)))) := by rw [eh983, tw_up_n (Ne.symm ne213)]; exact f969
  have f992 : h983 q256 = some (.inl (d.2 1, 2, .inr (.inl (fun _ => 0)))) := by rw [eh983, tw_up_n (Ne.symm ne263)]; exact f970
  have f993 : h983 q309 = some (.inr (3, [.int 0, .ref (d.2 102), .int 0])) := by rw [eh983, tw_up_n (Ne.symm ne316)]; exact f971
  have f994 : h983 q384 = some (.inr (3, [.int 0, .ref (d.2 102), .int 0])) := by rw [eh983, tw_up_n (Ne.symm ne391)]; exact f972
  have f995 : h983 q463 = some (.inr (3, [.int 0, .ref (d.2 102), .int 0])) := by rw [eh983, tw_up_n (Ne.symm ne470)]; exact f973
  have f996 : h983 x = some (.inr (14, [.int 0, .int 0, .int 155, .ref q4, .ref q42, .ref q115, .ref q159, .ref q206, .ref q256, .ref q309, .ref q384, .ref q463])) := by rw [eh983, tw_up_n ne17]; exact f974
  have f997 : h983 (r5 0) = some (.inl (d.2 0, 4, .inl F677)) := by rw [eh983, tw_up_n (Ne.symm (fun z => absurd (hi9 2 0 (by decide) (by decide) z) (by decide)))]; exact f975
  have f998 : h983 (r43 0) = some (.inl (d.2 0, 4, .inl F698)) := by rw [eh983, tw_up_n (Ne.symm ne65)]; exact f976
  have f999 : h983 (r5 1) = some (.inl (d.2 0, 4, .inl F851)) := by rw [eh983, tw_up_n (Ne.symm (fun z => absurd (hi9 2 1 (by decide) (by decide) z) (by decide)))]; exact f977
  have f1000 : h983 (r43 1) = some (.inl (d.2 0, 4, .inl F872)) := by rw [eh983, tw_up_n (Ne.symm ne66)]; exact f978
  have f1001 : h983 (r43 2) = some (.inl (d.2 0, 4, .inl F960)) := by rw [eh983, tw_up_n (Ne.symm ne67)]; exact f980
  have f1002 : h983 (r5 2) = some (.inl (d.2 0, 4, .inl F982)) := by rw [eh983]; exact tw_up_s
  clear f963 f964 f965 f966 f967 f968 f969 f970 f971 f972 f973 f974 f975 f976 f977 f978 f979 f980 sp962 eh983
  refine tw_aload_n 2 dX10_init_115 rfl rfl ?_
  refine tw_get (v := .ref q42) rfl in_14 4 dX10_init_116 w_1155 rfl (by decide) f996 rfl ?_
  refine tw_iload_n 1 dX10_init_119 rfl rfl ?_
  refine tw_aald (v := .ref (r43 2)) 8 rfl rfl dX10_init_120 f988 (vp_in_nI (n := 2) (by decide) (by decide)) rfl ?_
  refine tw_iload_n 0 dX10_init_121 rfl rfl ?_
  refine tw_bipush (v := 10) dX10_init_122 (by decide) ?_
  refine tw_iast dX10_init_124 f1001 (vp_in_nI (n := 2) (by decide) (by decide)) ?_
  obtain ⟨F1003, eF1003⟩ : ∃ z : Nat → Int32, z = upd F960 (2 : Int32).toNatClampNeg 10 := ⟨_, rfl⟩
  rw [← eF1003]
  obtain ⟨h1004, eh1004⟩ : ∃ z : tw_H, z = tw_up h983 (r43 2) (.inl (d.2 0, 4, .inl F1003)) := ⟨_, rfl⟩
  rw [← eh1004]
  have sp1005 : tw_sp d τ (tw_rm h x) g τ h1004 := by rw [eh1004]; exact sp984.wl n94 z95
  have f1006 : h1004 (r5 3) = some (.inl (d.2 0, 4, .inl (fun _ => 0))) := by rw [eh1004, tw_up_n ne73]; exact f985
  have f1007 : h1004 q4 = some (.inl (d.2 8, 4, .inr (.inr (.inr (.inr (fun i => if i < 4 then some (r5 i) else none)))))) := by rw [eh1004, tw_up_n ne79]; exact f986
  have f1008 : h1004 (r43 3) = some (.inl (d.2 0, 4, .inl (fun _ => 0))) := by rw [eh1004, tw_up_n (fun z => absurd (hi47 3 2 (by decide) (by decide) z) (by decide))]; exact f987
  have f1009 : h1004 q42 = some (.inl (d.2 8, 4, .inr (.inr (.inr (.inr (fun i => if i < 4 then some (r43 i) else none)))))) := by rw [eh1004, tw_up_n (Ne.symm (hr46 2 (by decide)).2)]; exact f988
  have f1010 : h1004 q115 = some (.inl (d.2 1, 2, .inr (.inl (fun _ => 0)))) := by rw [eh1004, tw_up_n (Ne.symm ne127)]; exact f989
  have f1011 : h1004 q159 = some (.inl (d.2 1, 2, .inr (.inl (fun _ => 0)))) := by rw [eh1004, tw_up_n (Ne.symm ne171)]; exact f990
  have f1012 : h1004 q206 = some (.inl (d.2 1, 2, .inr (.inl (fun _ => 0)))) := by rw [eh1004, tw_up_n (Ne.symm ne218)]; exact f991
  have f1013 : h1004 q256 = some (.inl (d.2 1, 2, .inr (.inl (fun _ => 0)))) := by rw [eh1004, tw_up_n (Ne.symm ne268)]; exact f992
  have f1014 : h1004 q309 = some (.inr (3, [.int 0, .ref (d.2 102), .int 0])) := by rw [eh1004, tw_up_n (Ne.symm ne321)]; exact f993
  have f1015 : h1004 q384 = some (.inr (3, [.int 0, .ref (d.2 102), .int 0])) := by rw [eh1004, tw_up_n (Ne.symm ne396)]; exact f994
  have f1016 : h1004 q463 = some (.inr (3, [.int 0, .ref (d.2 102), .int 0])) := by rw [eh1004, tw_up_n (Ne.symm ne475)]; exact f995
  have f1017 : h1004 x = some (.inr (14, [.int 0, .int 0, .int 155, .ref q4, .ref q42, .ref q115, .ref q159, .ref q206, .ref q256, .ref q309, .ref q384, .ref q463])) := by rw [eh1004, tw_up_n ne85]; exact f996
  have f1018 : h1004 (r5 0) = some (.inl (d.2 0, 4, .inl F677)) := by rw [eh1004, tw_up_n ne55]; exact f997
  have f1019 : h1004 (r43 0) = some (.inl (d.2 0, 4, .inl F698)) := by rw [eh1004, tw_up_n (Ne.symm (fun z => absurd (hi47 2 0 (by decide) (by decide) z) (by decide)))]; exact f998
  have f1020 : h1004 (r5 1) = some (.inl (d.2 0, 4, .inl F851)) := by rw [eh1004, tw_up_n ne61]; exact f999
  have f1021 : h1004 (r43 1) = some (.inl (d.2 0, 4, .inl F872)) := by rw [eh1004, tw_up_n (Ne.symm (fun z => absurd (hi47 2 1 (by decide) (by decide) z) (by decide)))]; exact f1000
  have f1022 : h1004 (r5 2) = some (.inl (d.2 0, 4, .inl F982)) := by rw [eh1004, tw_up_n ne67]; exact f1002
  have f1023 : h1004 (r43 2) = some (.inl (d.2 0, 4, .inl F1003)) := by rw [eh1004]; exact tw_up_s
  clear f985 f986 f987 f988 f989 f990 f991 f992 f993 f994 f995 f996 f997 f998 f999 f1000 f1001 f1002 sp984 eh1004
  refine tw_iinc [(2, .int 3), (1, .int 2), (0, .ref x)] 0 dX10_init_125 rfl (by decide) (by decide) rfl ?_
  refine tw_goto 101 dX10_init_128 (by decide) ?_
  refine tw_iload_n 0 dX10_init_101 rfl rfl ?_
  refine tw_iconst (v := 4) dX10_init_102 (by decide) ?_
  refine tw_icmp_ge 131 dX10_init_103 (by decide) (fun c1024 => absurd c1024 (by decide)) (fun _ => ?_)
  refine tw_aload_n 2 dX10_init_106 rfl rfl ?_
  refine tw_get (v := .ref q4) rfl in_14 3 dX10_init_107 w_1154 rfl (by decide) f1017 rfl ?_
  refine tw_iload_n 1 dX10_init_110 rfl rfl ?_
  refine tw_aald (v := .ref (r5 2)) 8 rfl rfl dX10_init_111 f1007 (vp_in_nI (n := 2) (by decide) (by decide)) rfl ?_
  refine tw_iload_n 0 dX10_init_112 rfl rfl ?_
  refine tw_iconst (v := 3) dX10_init_113 (by decide) ?_
  refine tw_iast dX10_init_114 f1022 (vp_in_nI (n := 3) (by decide) (by decide)) ?_
  obtain ⟨F1025, eF1025⟩ : ∃ z : Nat → Int32, z = upd F982 (3 : Int32).toNatClampNeg 3 := ⟨_, rfl⟩
  rw [← eF1025]
  obtain ⟨h1026, eh1026⟩ : ∃ z : tw_H, z = tw_up h1004 (r5 2) (.inl (d.2 0, 4, .inl F1025)) := ⟨_, rfl⟩
  rw [← eh1026]
  have sp1027 : tw_sp d τ (tw_rm h x) g τ h1026 := by rw [eh1026]; exact sp1005.wl n26 z27
  have f1028 : h1026 (r5 3) = some (.inl (d.2 0, 4, .inl (fun _ => 0))) := by rw [eh1026, tw_up_n (fun z => absurd (hi9 3 2 (by decide) (by decide) z) (by decide))]; exact f1006
  have f1029 : h1026 q4 = some (.inl (d.2 8, 4, .inr (.inr (.inr (.inr (fun i => if i < 4 then some (r5 i) else none)))))) := by rw [eh1026, tw_up_n (Ne.symm (hr8 2 (by decide)).2)]; exact f1007
  have f1030 : h1026 (r43 3) = some (.inl (d.2 0, 4, .inl (fun _ => 0))) := by rw [eh1026, tw_up_n (Ne.symm ne68)]; exact f1008
  have f1031 : h1026 q42 = some (.inl (d.2 8, 4, .inr (.inr (.inr (.inr (fun i => if i < 4 then some (r43 i) else none)))))) := by rw [eh1026, tw_up_n (Ne.symm ne69)]; exact f1009
  have f1032 : h1026 q115 = some (.inl (d.2 1, 2, .inr (.inl (fun _ => 0)))) := by rw [eh1026, tw_up_n (Ne.symm ne122)]; exact f1010
  have f1033 : h1026 q159 = some (.inl (d.2 1, 2, .inr (.inl (fun _ => 0)))) := by rw [eh1026, tw_up_n (Ne.symm ne166)]; exact f1011
  have f1034 : h1026 q206 = some (.inl (d.2 1, 2, .inr (.inl (fun _ => 0)))) := by rw [eh1026, tw_up_n (Ne.symm ne213)]; exact f1012
  have f1035 : h1026 q256 = some (.inl (d.2 1, 2, .inr (.inl (fun _ => 0)))) := by rw [eh1026, tw_up_n (Ne.symm ne263)]; exact f1013
  have f1036 : h1026 q309 = some (.inr (3, [.int 0, .ref (d.2 102), .int 0])) := by rw [eh1026, tw_up_n (Ne.symm ne316)]; exact f1014
  have f1037 : h1026 q384 = some (.inr (3, [.int 0, .ref (d.2 102), .int 0])) := by rw [eh1026, tw_up_n (Ne.symm ne391)]; exact f1015
  have f1038 : h1026 q463 = some (.inr (3, [.int 0, .ref (d.2 102), .int 0])) := by rw [eh1026, tw_up_n (Ne.symm ne470)]; exact f1016
  have f1039 : h1026 x = some (.inr (14, [.int 0, .int 0, .int 155, .ref q4, .ref q42, .ref q115, .ref q159, .ref q206, .ref q256, .ref q309, .ref q384, .ref q463])) := by rw [eh1026, tw_up_n ne17]; exact f1017
  have f1040 : h1026 (r5 0) = some (.inl (d.2 0, 4, .inl F677)) := by rw [eh1026, tw_up_n (Ne.symm (fun z => absurd (hi9 2 0 (by decide) (by decide) z) (by decide)))]; exact f1018
  have f1041 : h1026 (r43 0) = some (.inl (d.2 0, 4, .inl F698)) := by rw [eh1026, tw_up_n (Ne.symm ne65)]; exact f1019
  have f1042 : h1026 (r5 1) = some (.inl (d.2 0, 4, .inl F851)) := by rw [eh1026, tw_up_n (Ne.symm (fun z => absurd (hi9 2 1 (by decide) (by decide) z) (by decide)))]; exact f1020
  have f1043 : h1026 (r43 1) = some (.inl (d.2 0, 4, .inl F872)) := by rw [eh1026, tw_up_n (Ne.symm ne66)]; exact f1021
  have f1044 : h1026 (r43 2) = some (.inl (d.2 0, 4, .inl F1003)) := by rw [eh1026, tw_up_n (Ne.symm ne67)]; exact f1023
  have f1045 : h1026 (r5 2) = some (.inl (d.2 0, 4, .inl F1025)) := by rw [eh1026]; exact tw_up_s
  clear f1006 f1007 f1008 f1009 f1010 f1011 f1012 f1013 f1014 f1015 f1016 f1017 f1018 f1019 f1020 f1021 f1022 f1023 sp1005 eh1026
  refine tw_aload_n 2 dX10_init_115 rfl rfl ?_
  refine tw_get (v := .ref q42) rfl in_14 4 dX10_init_116 w_1155 rfl (by decide) f1039 rfl ?_
  refine tw_iload_n 1 dX10_init_119 rfl rfl ?_
  refine tw_aald (v := .ref (r43 2)) 8 rfl rfl dX10_init_120 f1031 (vp_in_nI (n := 2) (by decide) (by decide)) rfl ?_
  refine tw_iload_n 0 dX10_init_121 rfl rfl ?_
  refine tw_bipush (v := 10) dX10_init_122 (by decide) ?_
  refine tw_iast dX10_init_124 f1044 (vp_in_nI (n := 3) (by decide) (by decide)) ?_
  obtain ⟨F1046, eF1046⟩ : ∃ z : Nat → Int32, z = upd F1003 (3 : Int32).toNatClampNeg 10 := ⟨_, rfl⟩
  rw [← eF1046]
  obtain ⟨h1047, eh1047⟩ : ∃ z : tw_H, z = tw_up h1026 (r43 2) (.inl (d.2 0, 4, .inl F1046)) := ⟨_, rfl⟩
  rw [← eh1047]
  have sp1048 : tw_sp d τ (tw_rm h x) g τ h1047 := by rw [eh1047]; exact sp1027.wl n94 z95
  have f1049 : h1047 (r5 3) = some (.inl (d.2 0, 4, .inl (fun _ => 0))) := by rw [eh1047, tw_up_n ne73]; exact f1028
  have f1050 : h1047 q4 = some (.inl (d.2 8, 4, .inr (.inr (.inr (.inr (fun i => if i < 4 then some (r5 i) else none)))))) := by rw [eh1047, tw_up_n ne79]; exact f1029
  have f1051 : h1047 (r43 3) = some (.inl (d.2 0, 4, .inl (fun _ => 0))) := by rw [eh1047, tw_up_n (fun z => absurd (hi47 3 2 (by decide) (by decide) z) (by decide))]; exact f1030
  have f1052 : h1047 q42 = some (.inl (d.2 8, 4, .inr (.inr (.inr (.inr (fun i => if i < 4 then some (r43 i) else none)))))) := by rw [eh1047, tw_up_n (Ne.symm (hr46 2 (by decide)).2)]; exact f1031
  have f1053 : h1047 q115 = some (.inl (d.2 1, 2, .inr (.inl (fun _ => 0)))) := by rw [eh1047, tw_up_n (Ne.symm ne127)]; exact f1032
  have f1054 : h1047 q159 = some (.inl (d.2 1, 2, .inr (.inl (fun _ => 0)))) := by rw [eh1047, tw_up_n (Ne.symm ne171)]; exact f1033
  have f1055 : h1047 q206 = some (.inl (d.2 1, 2, .inr (.inl (fun _ => 0)))) := by rw [eh1047, tw_up_n (Ne.symm ne218)]; exact f1034
  have f1056 : h1047 q256 = some (.inl (d.2 1, 2, .inr (.inl (fun _ => 0)))) := by rw [eh1047, tw_up_n (Ne.symm ne268)]; exact f1035
  have f1057 : h1047 q309 = some (.inr (3, [.int 0, .ref (d.2 102), .int 0])) := by rw [eh1047, tw_up_n (Ne.symm ne321)]; exact f1036
  have f1058 : h1047 q384 = some (.inr (3, [.int 0, .ref (d.2 102), .int 0])) := by rw [eh1047, tw_up_n (Ne.symm ne396)]; exact f1037
  have f1059 : h1047 q463 = some (.inr (3, [.int 0, .ref (d.2 102), .int 0])) := by rw [eh1047, tw_up_n (Ne.symm ne475)]; exact f1038
  have f1060 : h1047 x = some (.inr (14, [.int 0, .int 0, .int 155, .ref q4, .ref q42, .ref q115, .ref q159, .ref q206, .ref q256, .ref q309, .ref q384, .ref q463])) := by rw [eh1047, tw_up_n ne85]; exact f1039
  have f1061 : h1047 (r5 0) = some (.inl (d.2 0, 4, .inl F677)) := by rw [eh1047, tw_up_n ne55]; exact f1040
  have f1062 : h1047 (r43 0) = some (.inl (d.2 0, 4, .inl F698)) := by rw [eh1047, tw_up_n (Ne.symm (fun z => absurd (hi47 2 0 (by decide) (by decide) z) (by decide)))]; exact f1041
  have f1063 : h1047 (r5 1) = some (.inl (d.2 0, 4, .inl F851)) := by rw [eh1047, tw_up_n ne61]; exact f1042
  have f1064 : h1047 (r43 1) = some (.inl (d.2 0, 4, .inl F872)) := by rw [eh1047, tw_up_n (Ne.symm (fun z => absurd (hi47 2 1 (by decide) (by decide) z) (by decide)))]; exact f1043
  have f1065 : h1047 (r5 2) = some (.inl (d.2 0, 4, .inl F1025)) := by rw [eh1047, tw_up_n ne67]; exact f1045
  have f1066 : h1047 (r43 2) = some (.inl (d.2 0, 4, .inl F1046)) := by rw [eh1047]; exact tw_up_s
  clear f1028 f1029 f1030 f1031 f1032 f1033 f1034 f1035 f1036 f1037 f1038 f1039 f1040 f1041 f1042 f1043 f1044 f1045 sp1027 eh1047
  refine tw_iinc [(2, .int 4), (1, .int 2), (0, .ref x)] 0 dX10_init_125 rfl (by decide) (by decide) rfl ?_
  refine tw_goto 101 dX10_init_128 (by decide) ?_
  refine tw_iload_n 0 dX10_init_101 rfl rfl ?_
  refine tw_iconst (v := 4) dX10_init_102 (by decide) ?_
  refine tw_icmp_ge 131 dX10_init_103 (by decide) (fun _ => ?_) (fun c1067 => absurd (by decide) c1067)
  refine tw_iinc [(1, .int 3), (2, .int 4), (0, .ref x)] 1 dX10_init_131 rfl (by decide) (by decide) rfl ?_
  refine tw_goto 94 dX10_init_134 (by decide) ?_
  refine tw_iload_n 0 dX10_init_94 rfl rfl ?_
  refine tw_iconst (v := 4) dX10_init_95 (by decide) ?_
  refine tw_icmp_ge 137 dX10_init_96 (by decide) (fun c1068 => absurd c1068 (by decide)) (fun _ => ?_)
  refine tw_iconst (v := 0) dX10_init_99 (by decide) ?_
  refine tw_istore_n [(2, .int 0), (1, .int 3), (0, .ref x)] dX10_init_100 rfl (by decide) rfl ?_
  refine tw_iload_n 0 dX10_init_101 rfl rfl ?_
  refine tw_iconst (v := 4) dX10_init_102 (by decide) ?_
  refine tw_icmp_ge 131 dX10_init_103 (by decide) (fun c1069 => absurd c1069 (by decide)) (fun _ => ?_)
  refine tw_aload_n 2 dX10_init_106 rfl rfl ?_
  refine tw_get (v := .ref q4) rfl in_14 3 dX10_init_107 w_1154 rfl (by decide) f1060 rfl ?_
  refine tw_iload_n 1 dX10_init_110 rfl rfl ?_
  refine tw_aald (v := .ref (r5 3)) 8 rfl rfl dX10_init_111 f1050 (vp_in_nI (n := 3) (by decide) (by decide)) rfl ?_
  refine tw_iload_n 0 dX10_init_112 rfl rfl ?_
  refine tw_iconst (v := 3) dX10_init_113 (by decide) ?_
  refine tw_iast dX10_init_114 f1049 (vp_in_nI (n := 0) (by decide) (by decide)) ?_
  obtain ⟨F1070, eF1070⟩ : ∃ z : Nat → Int32, z = upd (fun _ => 0) (0 : Int32).toNatClampNeg 3 := ⟨_, rfl⟩
  rw [← eF1070]
  obtain ⟨h1071, eh1071⟩ : ∃ z : tw_H, z = tw_up h1047 (r5 3) (.inl (d.2 0, 4, .inl F1070)) := ⟨_, rfl⟩
  rw [← eh1071]
  have sp1072 : tw_sp d τ (tw_rm h x) g τ h1071 := by rw [eh1071]; exact sp1048.wl n29 z30
  have f1073 : h1071 q4 = some (.inl (d.2 8, 4, .inr (.inr (.inr (.inr (fun i => if i < 4 then some (r5 i) else none)))))) := by rw [eh1071, tw_up_n (Ne.symm (hr8 3 (by decide)).2)]; exact f1050
  have f1074 : h1071 (r43 3) = some (.inl (d.2 0, 4, .inl (fun _ => 0))) := by rw [eh1071, tw_up_n (Ne.symm ne74)]; exact f1051
  have f1075 : h1071 q42 = some (.inl (d.2 8, 4, .inr (.inr (.inr (.inr (fun i => if i < 4 then some (r43 i) else none)))))) := by rw [eh1071, tw_up_n (Ne.symm ne75)]; exact f1052
  have f1076 : h1071 q115 = some (.inl (d.2 1, 2, .inr (.inl (fun _ => 0)))) := by rw [eh1071, tw_up_n (Ne.symm ne123)]; exact f1053
  have f1077 : h1071 q159 = some (.inl (d.2 1, 2, .inr (.inl (fun _ => 0)))) := by rw [eh1071, tw_up_n (Ne.symm ne167)]; exact f1054
  have f1078 : h1071 q206 = some (.inl (d.2 1, 2, .inr (.inl (fun _ => 0)))) := by rw [eh1071, tw_up_n (Ne.symm ne214)]; exact f1055
  have f1079 : h1071 q256 = some (.inl (d.2 1, 2, .inr (.inl (fun _ => 0)))) := by rw [eh1071, tw_up_n (Ne.symm ne264)]; exact f1056
  have f1080 : h1071 q309 = some (.inr (3, [.int 0, .ref (d.2 102), .int 0])) := by rw [eh1071, tw_up_n (Ne.symm ne317)]; exact f1057
  have f1081 : h1071 q384 = some (.inr (3, [.int 0, .ref (d.2 102), .int 0])) := by rw [eh1071, tw_up_n (Ne.symm ne392)]; exact f1058
  have f1082 : h1071 q463 = some (.inr (3, [.int 0, .ref (d.2 102), .int 0])) := by rw [eh1071, tw_up_n (Ne.symm ne471)]; exact f1059
  have f1083 : h1071 x = some (.inr (14, [.int 0, .int 0, .int 155, .ref q4, .ref q42, .ref q115, .ref q159, .ref q206, .ref q256, .ref q309, .ref q384, .ref q463])) := by rw [eh1071, tw_up_n ne18]; exact f1060
  have f1084 : h1071 (r5 0) = some (.inl (d.2 0, 4, .inl F677)) := by rw [eh1071, tw_up_n (Ne.symm (fun z => absurd (hi9 3 0 (by decide) (by decide) z) (by decide)))]; exact f1061
  have f1085 : h1071 (r43 0) = some (.inl (d.2 0, 4, .inl F698)) := by rw [eh1071, tw_up_n (Ne.symm ne71)]; exact f1062
  have f1086 : h1071 (r5 1) = some (.inl (d.2 0, 4, .inl F851)) := by rw [eh1071, tw_up_n (Ne.symm (fun z => absurd (hi9 3 1 (by decide) (by decide) z) (by decide)))]; exact f1063
  have f1087 : h1071 (r43 1) = some (.inl (d.2 0, 4, .inl F872)) := by rw [eh1071, tw_up_n (Ne.symm ne72)]; exact f1064
  have f1088 : h1071 (r5 2) = some (.inl (d.2 0, 4, .inl F1025)) := by rw [eh1071, tw_up_n (Ne.symm (fun z => absurd (hi9 3 2 (by decide) (by decide) z) (by decide)))]; exact f1065
  have f1089 : h1071 (r43 2) = some (.inl (d.2 0, 4, .inl F1046)) := by rw [eh1071, tw_up_n (Ne.symm ne73)]; exact f1066
  have f1090 : h1071 (r5 3) = some (.inl (d.2 0, 4, .inl F1070)) := by rw [eh1071]; exact tw_up_s
  clear f1049 f1050 f1051 f1052 f1053 f1054 f1055 f1056 f1057 f1058 f1059 f1060 f1061 f1062 f1063 f1064 f1065 f1066 sp1048 eh1071
  refine tw_aload_n 2 dX10_init_115 rfl rfl ?_
  refine tw_get (v := .ref q42) rfl in_14 4 dX10_init_116 w_1155 rfl (by decide) f1083 rfl ?_
  refine tw_iload_n 1 dX10_init_119 rfl rfl ?_
  refine tw_aald (v := .ref (r43 3)) 8 rfl rfl dX10_init_120 f1075 (vp_in_nI (n := 3) (by decide) (by decide)) rfl ?_
  refine tw_iload_n 0 dX10_init_121 rfl rfl ?_
  refine tw_bipush (v := 10) dX10_init_122 (by decide) ?_
  refine tw_iast dX10_init_124 f1074 (vp_in_nI (n := 0) (by decide) (by decide)) ?_
  obtain ⟨F1091, eF1091⟩ : ∃ z : Nat → Int32, z = upd (fun _ => 0) (0 : Int32).toNatClampNeg 10 := ⟨_, rfl⟩
  rw [← eF1091]
  obtain ⟨h1092, eh1092⟩ : ∃ z : tw_H, z = tw_up h1071 (r43 3) (.inl (d.2 0, 4, .inl F1091)) := ⟨_, rfl⟩
  rw [← eh1092]
  have sp1093 : tw_sp d τ (tw_rm h x) g τ h1092 := by rw [eh1092]; exact sp1072.wl n97 z98
  have f1094 : h1092 q4 = some (.inl (d.2 8, 4, .inr (.inr (.inr (.inr (fun i => if i < 4 then some (r5 i) else none)))))) := by rw [eh1092, tw_up_n ne80]; exact f1073
  have f1095 : h1092 q42 = some (.inl (d.2 8, 4, .inr (.inr (.inr (.inr (fun i => if i < 4 then some (r43 i) else none)))))) := by rw [eh1092, tw_up_n (Ne.symm (hr46 3 (by decide)).2)]; exact f1075
  have f1096 : h1092 q115 = some (.inl (d.2 1, 2, .inr (.inl (fun _ => 0)))) := by rw [eh1092, tw_up_n (Ne.symm ne128)]; exact f1076
  have f1097 : h1092 q159 = some (.inl (d.2 1, 2, .inr (.inl (fun _ => 0)))) := by rw [eh1092, tw_up_n (Ne.symm ne172)]; exact f1077
  have f1098 : h1092 q206 = some (.inl (d.2 1, 2, .inr (.inl (fun _ => 0)))) := by rw [eh1092, tw_up_n (Ne.symm ne219)]; exact f1078
  have f1099 : h1092 q256 = some (.inl (d.2 1, 2, .inr (.inl (fun _ => 0)))) := by rw [eh1092, tw_up_n (Ne.symm ne269)]; exact f1079
  have f1100 : h1092 q309 = some (.inr (3, [.int 0, .ref (d.2 102), .int 0])) := by rw [eh1092, tw_up_n (Ne.symm ne322)]; exact f1080
  have f1101 : h1092 q384 = some (.inr (3, [.int 0, .ref (d.2 102), .int 0])) := by rw [eh1092, tw_up_n (Ne.symm ne397)]; exact f1081
  have f1102 : h1092 q463 = some (.inr (3, [.int 0, .ref (d.2 102), .int 0])) := by rw [eh1092, tw_up_n (Ne.symm ne476)]; exact f1082
  have f1103 : h1092 x = some (.inr (14, [.int 0, .int 0, .int 155, .ref q4, .ref q42, .ref q115, .ref q159, .ref q206, .ref q256, .ref q309, .ref q384, .ref q463])) := by rw [eh1092, tw_up_n ne86]; exact f1083
  have f1104 : h1092 (r5 0) = some (.inl (d.2 0, 4, .inl F677)) := by rw [eh1092, tw_up_n ne56]; exact f1084
  have f1105 : h1092 (r43 0) = some (.inl (d.2 0, 4, .inl F698)) := by rw [eh1092, tw_up_n (Ne.symm (fun z => absurd (hi47 3 0 (by decide) (by decide) z) (by decide)))]; exact f1085
  have f1106 : h1092 (r5 1) = some (.inl (d.2 0, 4, .inl F851)) := by rw [eh1092, tw_up_n ne62]; exact f1086
  have f1107 : h1092 (r43 1) = some (.inl (d.2 0, 4, .inl F872)) := by rw [eh1092, tw_up_n (Ne.symm (fun z => absurd (hi47 3 1 (by decide) (by decide) z) (by decide)))]; exact f1087
  have f1108 : h1092 (r5 2) = some (.inl (d.2 0, 4, .inl F1025)) := by rw [eh1092, tw_up_n ne68]; exact f1088
  have f1109 : h1092 (r43 2) = some (.inl (d.2 0, 4, .inl F1046)) := by rw [eh1092, tw_up_n (Ne.symm (fun z => absurd (hi47 3 2 (by decide) (by decide) z) (by decide)))]; exact f1089
  have f1110 : h1092 (r5 3) = some (.inl (d.2 0, 4, .inl F1070)) := by rw [eh1092, tw_up_n ne74]; exact f1090
  have f1111 : h1092 (r43 3) = some (.inl (d.2 0, 4, .inl F1091)) := by rw [eh1092]; exact tw_up_s
  clear f1073 f1074 f1075 f1076 f1077 f1078 f1079 f1080 f1081 f1082 f1083 f1084 f1085 f1086 f1087 f1088 f1089 f1090 sp1072 eh1092
  refine tw_iinc [(2, .int 1), (1, .int 3), (0, .ref x)] 0 dX10_init_125 rfl (by decide) (by decide) rfl ?_
  refine tw_goto 101 dX10_init_128 (by decide) ?_
  refine tw_iload_n 0 dX10_init_101 rfl rfl ?_
  refine tw_iconst (v := 4) dX10_init_102 (by decide) ?_
  refine tw_icmp_ge 131 dX10_init_103 (by decide) (fun c1112 => absurd c1112 (by decide)) (fun _ => ?_)
  refine tw_aload_n 2 dX10_init_106 rfl rfl ?_
  refine tw_get (v := .ref q4) rfl in_14 3 dX10_init_107 w_1154 rfl (by decide) f1103 rfl ?_
  refine tw_iload_n 1 dX10_init_110 rfl rfl ?_
  refine tw_aald (v := .ref (r5 3)) 8 rfl rfl dX10_init_111 f1094 (vp_in_nI (n := 3) (by decide) (by decide)) rfl ?_
  refine tw_iload_n 0 dX10_init_112 rfl rfl ?_
  refine tw_iconst (v := 3) dX10_init_113 (by decide) ?_
  refine tw_iast dX10_init_114 f1110 (vp_in_nI (n := 1) (by decide) (by decide)) ?_
  obtain ⟨F1113, eF1113⟩ : ∃ z : Nat → Int32, z = upd F1070 (1 : Int32).toNatClampNeg 3 := ⟨_, rfl⟩
  rw [← eF1113]
  obtain ⟨h1114, eh1114⟩ : ∃ z : tw_H, z = tw_up h1092 (r5 3) (.inl (d.2 0, 4, .inl F1113)) := ⟨_, rfl⟩
  rw [← eh1114]
  have sp1115 : tw_sp d τ (tw_rm h x) g τ h1114 := by rw [eh1114]; exact sp1093.wl n29 z30
  have f1116 : h1114 q4 = some (.inl (d.2 8, 4, .inr (.inr (.inr (.inr (fun i => if i < 4 then some (r5 i) else none)))))) := by rw [eh1114, tw_up_n (Ne.symm (hr8 3 (by decide)).2)]; exact f1094
  have f1117 : h1114 q42 = some (.inl (d.2 8, 4, .inr (.inr (.inr (.inr (fun i => if i < 4 then some (r43 i) else none)))))) := by rw [eh1114, tw_up_n (Ne.symm ne75)]; exact f1095
  have f1118 : h1114 q115 = some (.inl (d.2 1, 2, .inr (.inl (fun _ => 0)))) := by rw [eh1114, tw_up_n (Ne.symm ne123)]; exact f1096
  have f1119 : h1114 q159 = some (.inl (d.2 1, 2, .inr (.inl (fun _ => 0)))) := by rw [eh1114, tw_up_n (Ne.symm ne167)]; exact f1097
  have f1120 : h1114 q206 = some (.inl (d.2 1, 2, .inr (.inl (fun _ => 0)))) := by rw [eh1114, tw_up_n (Ne.symm ne214)]; exact f1098
  have f1121 : h1114 q256 = some (.inl (d.2 1, 2, .inr (.inl (fun _ => 0)))) := by rw [eh1114, tw_up_n (Ne.symm ne264)]; exact f1099
  have f1122 : h1114 q309 = some (.inr (3, [.int 0, .ref (d.2 102), .int 0])) := by rw [eh1114, tw_up_n (Ne.symm ne317)]; exact f1100
  have f1123 : h1114 q384 = some (.inr (3, [.int 0, .ref (d.2 102), .int 0])) := by rw [eh1114, tw_up_n (Ne.symm ne392)]; exact f1101
  have f1124 : h1114 q463 = some (.inr (3, [.int 0, .ref (d.2 102), .int 0])) := by rw [eh1114, tw_up_n (Ne.symm ne471)]; exact f1102
  have f1125 : h1114 x = some (.inr (14, [.int 0, .int 0, .int 155, .ref q4, .ref q42, .ref q115, .ref q159, .ref q206, .ref q256, .ref q309, .ref q384, .ref q463])) := by rw [eh1114, tw_up_n ne18]; exact f1103
  have f1126 : h1114 (r5 0) = some (.inl (d.2 0, 4, .inl F677)) := by rw [eh1114, tw_up_n (Ne.symm (fun z => absurd (hi9 3 0 (by decide) (by decide) z) (by decide)))]; exact f1104
  have f1127 : h1114 (r43 0) = some (.inl (d.2 0, 4, .inl F698)) := by rw [eh1114, tw_up_n (Ne.symm ne71)]; exact f1105
  have f1128 : h1114 (r5 1) = some (.inl (d.2 0, 4, .inl F851)) := by rw [eh1114, tw_up_n (Ne.symm (fun z => absurd (hi9 3 1 (by decide) (by decide) z) (by decide)))]; exact f1106
  have f1129 : h1114 (r43 1) = some (.inl (d.2 0, 4, .inl F872)) := by rw [eh1114, tw_up_n (Ne.symm ne72)]; exact f1107
  have f1130 : h1114 (r5 2) = some (.inl (d.2 0, 4, .inl F1025)) := by rw [eh1114, tw_up_n (Ne.symm (fun z => absurd (hi9 3 2 (by decide) (by decide) z) (by decide)))]; exact f1108
  have f1131 : h1114 (r43 2) = some (.inl (d.2 0, 4, .inl F1046)) := by rw [eh1114, tw_up_n (Ne.symm ne73)]; exact f1109
  have f1132 : h1114 (r43 3) = some (.inl (d.2 0, 4, .inl F1091)) := by rw [eh1114, tw_up_n (Ne.symm ne74)]; exact f1111
  have f1133 : h1114 (r5 3) = some (.inl (d.2 0, 4, .inl F1113)) := by rw [eh1114]; exact tw_up_s
  clear f1094 f1095 f1096 f1097 f1098 f1099 f1100 f1101 f1102 f1103 f1104 f1105 f1106 f1107 f1108 f1109 f1110 f1111 sp1093 eh1114
  refine tw_aload_n 2 dX10_init_115 rfl rfl ?_
  refine tw_get (v := .ref q42) rfl in_14 4 dX10_init_116 w_1155 rfl (by decide) f1125 rfl ?_
  refine tw_iload_n 1 dX10_init_119 rfl rfl ?_
  refine tw_aald (v := .ref (r43 3)) 8 rfl rfl dX10_init_120 f1117 (vp_in_nI (n := 3) (by decide) (by decide)) rfl ?_
  refine tw_iload_n 0 dX10_init_121 rfl rfl ?_
  refine tw_bipush (v := 10) dX10_init_122 (by decide) ?_
  refine tw_iast dX10_init_124 f1132 (vp_in_nI (n := 1) (by decide) (by decide)) ?_
  obtain ⟨F1134, eF1134⟩ : ∃ z : Nat → Int32, z = upd F1091 (1 : Int32).toNatClampNeg 10 := ⟨_, rfl⟩
  rw [← eF1134]
  obtain ⟨h1135, eh1135⟩ : ∃ z : tw_H, z = tw_up h1114 (r43 3) (.inl (d.2 0, 4, .inl F1134)) := ⟨_, rfl⟩
  rw [← eh1135]
  have sp1136 : tw_sp d τ (tw_rm h x) g τ h1135 := by rw [eh1135]; exact sp1115.wl n97 z98
  have f1137 : h1135 q4 = some (.inl (d.2 8, 4, .inr (.inr (.inr (.inr (fun i => if i < 4 then some (r5 i) else none)))))) := by rw [eh1135, tw_up_n ne80]; exact f1116
  have f1138 : h1135 q42 = some (.inl (d.2 8, 4, .inr (.inr (.inr (.inr (fun i => if i < 4 then some (r43 i) else none)))))) := by rw [eh1135, tw_up_n (Ne.symm (hr46 3 (by decide)).2)]; exact f1117
  have f1139 : h1135 q115 = some (.inl (d.2 1, 2, .inr (.inl (fun _ => 0)))) := by rw [eh1135, tw_up_n (Ne.symm ne128)]; exact f1118
  have f1140 : h1135 q159 = some (.inl (d.2 1, 2, .inr (.inl (fun _ => 0)))) := by rw [eh1135, tw_up_n (Ne.symm ne172)]; exact f1119
  have f1141 : h1135 q206 = some (.inl (d.2 1, 2, .inr (.inl (fun _ => 0)))) := by rw [eh1135, tw_up_n (Ne.symm ne219)]; exact f1120
  have f1142 : h1135 q256 = some (.inl (d.2 1, 2, .inr (.inl (fun _ => 0)))) := by rw [eh1135, tw_up_n (Ne.symm ne269)]; exact f1121
  have f1143 : h1135 q309 = some (.inr (3, [.int 0, .ref (d.2 102), .int 0])) := by rw [eh1135, tw_up_n (Ne.symm ne322)]; exact f1122
  have f1144 : h1135 q384 = some (.inr (3, [.int 0, .ref (d.2 102), .int 0])) := by rw [eh1135, tw_up_n (Ne.symm ne397)]; exact f1123
  have f1145 : h1135 q463 = some (.inr (3, [.int 0, .ref (d.2 102), .int 0])) := by rw [eh1135, tw_up_n (Ne.symm ne476)]; exact f1124
  have f1146 : h1135 x = some (.inr (14, [.int 0, .int 0, .int 155, .ref q4, .ref q42, .ref q115, .ref q159, .ref q206, .ref q256, .ref q309, .ref q384, .ref q463])) := by rw [eh1135, tw_up_n ne86]; exact f1125
  have f1147 : h1135 (r5 0) = some (.inl (d.2 0, 4, .inl F677)) := by rw [eh1135, tw_up_n ne56]; exact f1126
  have f1148 : h1135 (r43 0) = some (.inl (d.2 0, 4, .inl F698)) := by rw [eh1135, tw_up_n (Ne.symm (fun z => absurd (hi47 3 0 (by decide) (by decide) z) (by decide)))]; exact f1127
  have f1149 : h1135 (r5 1) = some (.inl (d.2 0, 4, .inl F851)) := by rw [eh1135, tw_up_n ne62]; exact f1128
  have f1150 : h1135 (r43 1) = some (.inl (d.2 0, 4, .inl F872)) := by rw [eh1135, tw_up_n (Ne.symm (fun z => absurd (hi47 3 1 (by decide) (by decide) z) (by decide)))]; exact f1129
  have f1151 : h1135 (r5 2) = some (.inl (d.2 0, 4, .inl F1025)) := by rw [eh1135, tw_up_n ne68]; exact f1130
  have f1152 : h1135 (r43 2) = some (.inl (d.2 0, 4, .inl F1046)) := by rw [eh1135, tw_up_n (Ne.symm (fun z => absurd (hi47 3 2 (by decide) (by decide) z) (by decide)))]; exact f1131
  have f1153 : h1135 (r5 3) = some (.inl (d.2 0, 4, .inl F1113)) := by rw [eh1135, tw_up_n ne74]; exact f1133
  have f1154 : h1135 (r43 3) = some (.inl (d.2 0, 4, .inl F1134)) := by rw [eh1135]; exact tw_up_s
  clear f1116 f1117 f1118 f1119 f1120 f1121 f1122 f1123 f1124 f1125 f1126 f1127 f1128 f1129 f1130 f1131 f1132 f1133 sp1115 eh1135
  refine tw_iinc [(2, .int 2), (1, .int 3), (0, .ref x)] 0 dX10_init_125 rfl (by decide) (by decide) rfl ?_
  refine tw_goto 101 dX10_init_128 (by decide) ?_
  refine tw_iload_n 0 dX10_init_101 rfl rfl ?_
  refine tw_iconst (v := 4) dX10_init_102 (by decide) ?_
  refine tw_icmp_ge 131 dX10_init_103 (by decide) (fun c1155 => absurd c1155 (by decide)) (fun _ => ?_)
  refine tw_aload_n 2 dX10_init_106 rfl rfl ?_
  refine tw_get (v := .ref q4) rfl in_14 3 dX10_init_107 w_1154 rfl (by decide) f1146 rfl ?_
  refine tw_iload_n 1 dX10_init_110 rfl rfl ?_
  refine tw_aald (v := .ref (r5 3)) 8 rfl rfl dX10_init_111 f1137 (vp_in_nI (n := 3) (by decide) (by decide)) rfl ?_
  refine tw_iload_n 0 dX10_init_112 rfl rfl ?_
  refine tw_iconst (v := 3) dX10_init_113 (by decide) ?_
  refine tw_iast dX10_init_114 f1153 (vp_in_nI (n := 2) (by decide) (by decide)) ?_
  obtain ⟨F1156, eF1156⟩ : ∃ z : Nat → Int32, z = upd F1113 (2 : Int32).toNatClampNeg 3 := ⟨_, rfl⟩
  rw [← eF1156]
  obtain ⟨h1157, eh1157⟩ : ∃ z : tw_H, z = tw_up h1135 (r5 3) (.inl (d.2 0, 4, .inl F1156)) := ⟨_, rfl⟩
  rw [← eh1157]
  have sp1158 : tw_sp d τ (tw_rm h x) g τ h1157 := by rw [eh1157]; exact sp1136.wl n29 z30
  have f1159 : h1157 q4 = some (.inl (d.2 8, 4, .inr (.inr (.inr (.inr (fun i => if i < 4 then some (r5 i) else none)))))) := by rw [eh1157, tw_up_n (Ne.symm (hr8 3 (by decide)).2)]; exact f1137
  have f1160 : h1157 q42 = some (.inl (d.2 8, 4, .inr (.inr (.inr (.inr (fun i => if i < 4 then some (r43 i) else none)))))) := by rw [eh1157, tw_up_n (Ne.symm ne75)]; exact f1138
  have f1161 : h1157 q115 = some (.inl (d.2 1, 2, .inr (.inl (fun _ => 0)))) := by rw [eh1157, tw_up_n (Ne.symm ne123)]; exact f1139
  have f1162 : h1157 q159 = some (.inl (d.2 1, 2, .inr (.inl (fun _ => 0)))) := by rw [eh1157, tw_up_n (Ne.symm ne167)]; exact f1140
  have f1163 : h1157 q206 = some (.inl (d.2 1, 2, .inr (.inl (fun _ => 0)))) := by rw [eh1157, tw_up_n (Ne.symm ne214)]; exact f1141
  have f1164 : h1157 q256 = some (.inl (d.2 1, 2, .inr (.inl (fun _ => 0)))) := by rw [eh1157, tw_up_n (Ne.symm ne264)]; exact f1142
  have f1165 : h1157 q309 = some (.inr (3, [.int 0, .ref (d.2 102), .int 0])) := by rw [eh1157, tw_up_n (Ne.symm ne317)]; exact f1143
  have f1166 : h1157 q384 = some (.inr (3, [.int 0, .ref (d.2 102), .int 0])) := by rw [eh1157, tw_up_n (Ne.symm ne392)]; exact f1144
  have f1167 : h1157 q463 = some (.inr (3, [.int 0, .ref (d.2 102), .int 0])) := by rw [eh1157, tw_up_n (Ne.symm ne471)]; exact f1145
  have f1168 : h1157 x = some (.inr (14, [.int 0, .int 0, .int 155, .ref q4, .ref q42, .ref q115, .ref q159, .ref q206, .ref q256, .ref q309, .ref q384, .ref q463])) := by rw [eh1157, tw_up_n ne18]; exact f1146
  have f1169 : h1157 (r5 0) = some (.inl (d.2 0, 4, .inl F677)) := by rw [eh1157, tw_up_n (Ne.symm (fun z => absurd (hi9 3 0 (by decide) (by decide) z) (by decide)))]; exact f1147
  have f1170 : h1157 (r43 0) = some (.inl (d.2 0, 4, .inl F698)) := by rw [eh1157, tw_up_n (Ne.symm ne71)]; exact f1148
  have f1171 : h1157 (r5 1) = some (.inl (d.2 0, 4, .inl F851)) := by rw [eh1157, tw_up_n (Ne.symm (fun z => absurd (hi9 3 1 (by decide) (by decide) z) (by decide)))]; exact f1149
  have f1172 : h1157 (r43 1) = some (.inl (d.2 0, 4, .inl F872)) := by rw [eh1157, tw_up_n (Ne.symm ne72)]; exact f1150
  have f1173 : h1157 (r5 2) = some (.inl (d.2 0, 4, .inl F1025)) := by rw [eh1157, tw_up_n (Ne.symm (fun z => absurd (hi9 3 2 (by decide) (by decide) z) (by decide)))]; exact f1151
  have f1174 : h1157 (r43 2) = some (.inl (d.2 0, 4, .inl F1046)) := by rw [eh1157, tw_up_n (Ne.symm ne73)]; exact f1152
  have f1175 : h1157 (r43 3) = some (.inl (d.2 0, 4, .inl F1134)) := by rw [eh1157, tw_up_n (Ne.symm ne74)]; exact f1154
  have f1176 : h1157 (r5 3) = some (.inl (d.2 0, 4, .inl F1156)) := by rw [eh1157]; exact tw_up_s
  clear f1137 f1138 f1139 f1140 f1141 f1142 f1143 f1144 f1145 f1146 f1147 f1148 f1149 f1150 f1151 f1152 f1153 f1154 sp1136 eh1157
  refine tw_aload_n 2 dX10_init_115 rfl rfl ?_
  refine tw_get (v := .ref q42) rfl in_14 4 dX10_init_116 w_1155 rfl (by decide) f1168 rfl ?_
  refine tw_iload_n 1 dX10_init_119 rfl rfl ?_
  refine tw_aald (v := .ref (r43 3)) 8 rfl rfl dX10_init_120 f1160 (vp_in_nI (n := 3) (by decide) (by decide)) rfl ?_
  refine tw_iload_n 0 dX10_init_121 rfl rfl ?_
  refine tw_bipush (v := 10) dX10_init_122 (by decide) ?_
  refine tw_iast dX10_init_124 f1175 (vp_in_nI (n := 2) (by decide) (by decide)) ?_
  obtain ⟨F1177, eF1177⟩ : ∃ z : Nat → Int32, z = upd F1134 (2 : Int32).toNatClampNeg 10 := ⟨_, rfl⟩
  rw [← eF1177]
  obtain ⟨h1178, eh1178⟩ : ∃ z : tw_H, z = tw_up h1157 (r43 3) (.inl (d.2 0, 4, .inl F1177)) := ⟨_, rfl⟩
  rw [← eh1178]
  have sp1179 : tw_sp d τ (tw_rm h x) g τ h1178 := by rw [eh1178]; exact sp1158.wl n97 z98
  have f1180 : h1178 q4 = some (.inl (d.2 8, 4, .inr (.inr (.inr (.inr (fun i => if i < 4 then some (r5 i) else none)))))) := by rw [eh1178, tw_up_n ne80]; exact f1159
  have f1181 : h1178 q42 = some (.inl (d.2 8, 4, .inr (.inr (.inr (.inr (fun i => if i < 4 then some (r43 i) else none)))))) := by rw [eh1178, tw_up_n (Ne.symm (hr46 3 (by decide)).2)]; exact f1160
  have f1182 : h1178 q115 = some (.inl (d.2 1, 2, .inr (.inl (fun _ => 0)))) := by rw [eh1178, tw_up_n (Ne.symm ne128)]; exact f1161
  have f1183 : h1178 q159 = some (.inl (d.2 1, 2, .inr (.inl (fun _ => 0)))) := by rw [eh1178, tw_up_n (Ne.symm ne172)]; exact f1162
  have f1184 : h1178 q206 = some (.inl (d.2 1, 2, .inr (.inl (fun _ => 0)))) := by rw [eh1178, tw_up_n (Ne.symm ne219)]; exact f1163
  have f1185 : h1178 q256 = some (.inl (d.2 1, 2, .inr (.inl (fun _ => 0)))) := by rw [eh1178, tw_up_n (Ne.symm ne269)]; exact f1164
  have f1186 : h1178 q309 = some (.inr (3, [.int 0, .ref (d.2 102), .int 0])) := by rw [eh1178, tw_up_n (Ne.symm ne322)]; exact f1165
  have f1187 : h1178 q384 = some (.inr (3, [.int 0, .ref (d.2 102), .int 0])) := by rw [eh1178, tw_up_n (Ne.symm ne397)]; exact f1166
  have f1188 : h1178 q463 = some (.inr (3, [.int 0, .ref (d.2 102), .int 0])) := by rw [eh1178, tw_up_n (Ne.symm ne476)]; exact f1167
  have f1189 : h1178 x = some (.inr (14, [.int 0, .int 0, .int 155, .ref q4, .ref q42, .ref q115, .ref q159, .ref q206, .ref q256, .ref q309, .ref q384, .ref q463])) := by rw [eh1178, tw_up_n ne86]; exact f1168
  have f1190 : h1178 (r5 0) = some (.inl (d.2 0, 4, .inl F677)) := by rw [eh1178, tw_up_n ne56]; exact f1169
  have f1191 : h1178 (r43 0) = some (.inl (d.2 0, 4, .inl F698)) := by rw [eh1178, tw_up_n (Ne.symm (fun z => absurd (hi47 3 0 (by decide) (by decide) z) (by decide)))]; exact f1170
  have f1192 : h1178 (r5 1) = some (.inl (d.2 0, 4, .inl F851)) := by rw [eh1178, tw_up_n ne62]; exact f1171
  have f1193 : h1178 (r43 1) = some (.inl (d.2 0, 4, .inl F872)) := by rw [eh1178, tw_up_n (Ne.symm (fun z => absurd (hi47 3 1 (by decide) (by decide) z) (by decide)))]; exact f1172
  have f1194 : h1178 (r5 2) = some (.inl (d.2 0, 4, .inl F1025)) := by rw [eh1178, tw_up_n ne68]; exact f1173
  have f1195 : h1178 (r43 2) = some (.inl (d.2 0, 4, .inl F1046)) := by rw [eh1178, tw_up_n (Ne.symm (fun z => absurd (hi47 3 2 (by decide) (by decide) z) (by decide)))]; exact f1174
  have f1196 : h1178 (r5 3) = some (.inl (d.2 0, 4, .inl F1156)) := by rw [eh1178, tw_up_n ne74]; exact f1176
  have f1197 : h1178 (r43 3) = some (.inl (d.2 0, 4, .inl F1177)) := by rw [eh1178]; exact tw_up_s
  clear f1159 f1160 f1161 f1162 f1163 f1164 f1165 f1166 f1167 f1168 f1169 f1170 f1171 f1172 f1173 f1174 f1175 f1176 sp1158 eh1178
  refine tw_iinc [(2, .int 3), (1, .int 3), (0, .ref x)] 0 dX10_init_125 rfl (by decide) (by decide) rfl ?_
  refine tw_goto 101 dX10_init_128 (by decide) ?_
  refine tw_iload_n 0 dX10_init_101 rfl rfl ?_
  refine tw_iconst (v := 4) dX10_init_102 (by decide) ?_
  refine tw_icmp_ge 131 dX10_init_103 (by decide) (fun c1198 => absurd c1198 (by decide)) (fun _ => ?_)
  refine tw_aload_n 2 dX10_init_106 rfl rfl ?_
  refine tw_get (v := .ref q4) rfl in_14 3 dX10_init_107 w_1154 rfl (by decide) f1189 rfl ?_
  refine tw_iload_n 1 dX10_init_110 rfl rfl ?_
  refine tw_aald (v := .ref (r5 3)) 8 rfl rfl dX10_init_111 f1180 (vp_in_nI (n := 3) (by decide) (by decide)) rfl ?_
  refine tw_iload_n 0 dX10_init_112 rfl rfl ?_
  refine tw_iconst (v := 3) dX10_init_113 (by decide) ?_
  refine tw_iast dX10_init_114 f1196 (vp_in_nI (n := 3) (by decide) (by decide)) ?_
  obtain ⟨F1199, eF1199⟩ : ∃ z : Nat → Int32, z = upd F1156 (3 : Int32).toNatClampNeg 3 := ⟨_, rfl⟩
  rw [← eF1199]
  obtain ⟨h1200, eh1200⟩ : ∃ z : tw_H, z = tw_up h1178 (r5 3) (.inl (d.2 0, 4, .inl F1199)) := ⟨_, rfl⟩
  rw [← eh1200]
  have sp1201 : tw_sp d τ (tw_rm h x) g τ h1200 := by rw [eh1200]; exact sp1179.wl n29 z30
  have f1202 : h1200 q4 = some (.inl (d.2 8, 4, .inr (.inr (.inr (.inr (fun i => if i < 4 then some (r5 i) else none)))))) := by rw [eh1200, tw_up_n (Ne.symm (hr8 3 (by decide)).2)]; exact f1180
  have f1203 : h1200 q42 = some (.inl (d.2 8, 4, .inr (.inr (.inr (.inr (fun i => if i < 4 then some (r43 i) else none)))))) := by rw [eh1200, tw_up_n (Ne.symm ne75)]; exact f1181
  have f1204 : h1200 q115 = some (.inl (d.2 1, 2, .inr (.inl (fun _ => 0)))) := by rw [eh1200, tw_up_n (Ne.symm ne123)]; exact f1182
  have f1205 : h1200 q159 = some (.inl (d.2 1, 2, .inr (.inl (fun _ => 0)))) := by rw [eh1200, tw_up_n (Ne.symm ne167)]; exact f1183
  have f1206 : h1200 q206 = some (.inl (d.2 1, 2, .inr (.inl (fun _ => 0)))) := by rw [eh1200, tw_up_n (Ne.symm ne214)]; exact f1184
  have f1207 : h1200 q256 = some (.inl (d.2 1, 2, .inr (.inl (fun _ => 0)))) := by rw [eh1200, tw_up_n (Ne.symm ne264)]; exact f1185
  have f1208 : h1200 q309 = some (.inr (3, [.int 0, .ref (d.2 102), .int 0])) := by rw [eh1200, tw_up_n (Ne.symm ne317)]; exact f1186
  have f1209 : h1200 q384 = some (.inr (3, [.int 0, .ref (d.2 102), .int 0])) := by rw [eh1200, tw_up_n (Ne.symm ne392)]; exact f1187
  have f1210 : h1200 q463 = some (.inr (3, [.int 0, .ref (d.2 102), .int 0])) := by rw [eh1200, tw_up_n (Ne.symm ne471)]; exact f1188
  have f1211 : h1200 x = some (.inr (14, [.int 0, .int 0, .int 155, .ref q4, .ref q42, .ref q115, .ref q159, .ref q206, .ref q256, .ref q309, .ref q384, .ref q463])) := by rw [eh1200, tw_up_n ne18]; exact f1189
  have f1212 : h1200 (r5 0) = some (.inl (d.2 0, 4, .inl F677)) := by rw [eh1200, tw_up_n (Ne.symm (fun z => absurd (hi9 3 0 (by decide) (by decide) z) (by decide)))]; exact f1190
  have f1213 : h1200 (r43 0) = some (.inl (d.2 0, 4, .inl F698)) := by rw [eh1200, tw_up_n (Ne.symm ne71)]; exact f1191
  have f1214 : h1200 (r5 1) = some (.inl (d.2 0, 4, .inl F851)) := by rw [eh1200, tw_up_n (Ne.symm (fun z => absurd (hi9 3 1 (by decide) (by decide) z) (by decide)))]; exact f1192
  have f1215 : h1200 (r43 1) = some (.inl (d.2 0, 4, .inl F872)) := by rw [eh1200, tw_up_n (Ne.symm ne72)]; exact f1193
  have f1216 : h1200 (r5 2) = some (.inl (d.2 0, 4, .inl F1025)) := by rw [eh1200, tw_up_n (Ne.symm (fun z => absurd (hi9 3 2 (by decide) (by decide) z) (by decide)))]; exact f1194
  have f1217 : h1200 (r43 2) = some (.inl (d.2 0, 4, .inl F1046)) := by rw [eh1200, tw_up_n (Ne.symm ne73)]; exact f1195
  have f1218 : h1200 (r43 3) = some (.inl (d.2 0, 4, .inl F1177)) := by rw [eh1200, tw_up_n (Ne.symm ne74)]; exact f1197
  have f1219 : h1200 (r5 3) = some (.inl (d.2 0, 4, .inl F1199)) := by rw [eh1200]; exact tw_up_s
  clear f1180 f1181 f1182 f1183 f1184 f1185 f1186 f1187 f1188 f1189 f1190 f1191 f1192 f1193 f1194 f1195 f1196 f1197 sp1179 eh1200
  refine tw_aload_n 2 dX10_init_115 rfl rfl ?_
  refine tw_get (v := .ref q42) rfl in_14 4 dX10_init_116 w_1155 rfl (by decide) f1211 rfl ?_
  refine tw_iload_n 1 dX10_init_119 rfl rfl ?_
  refine tw_aald (v := .ref (r43 3)) 8 rfl rfl dX10_init_120 f1203 (vp_in_nI (n := 3) (by decide) (by decide)) rfl ?_
  refine tw_iload_n 0 dX10_init_121 rfl rfl ?_
  refine tw_bipush (v := 10) dX10_init_122 (by decide) ?_
  refine tw_iast dX10_init_124 f1218 (vp_in_nI (n := 3) (by decide) (by decide)) ?_
  obtain ⟨F1220, eF1220⟩ : ∃ z : Nat → Int32, z = upd F1177 (3 : Int32).toNatClampNeg 10 := ⟨_, rfl⟩
  rw [← eF1220]
  obtain ⟨h1221, eh1221⟩ : ∃ z : tw_H, z = tw_up h1200 (r43 3) (.inl (d.2 0, 4, .inl F1220)) := ⟨_, rfl⟩
  rw [← eh1221]
  have sp1222 : tw_sp d τ (tw_rm h x) g τ h1221 := by rw [eh1221]; exact sp1201.wl n97 z98
  have f1223 : h1221 q4 = some (.inl (d.2 8, 4, .inr (.inr (.inr (.inr (fun i => if i < 4 then some (r5 i) else none)))))) := by rw [eh1221, tw_up_n ne80]; exact f1202
  have f1224 : h1221 q42 = some (.inl (d.2 8, 4, .inr (.inr (.inr (.inr (fun i => if i < 4 then some (r43 i) else none)))))) := by rw [eh1221, tw_up_n (Ne.symm (hr46 3 (by decide)).2)]; exact f1203
  have f1225 : h1221 q115 = some (.inl (d.2 1, 2, .inr (.inl (fun _ => 0)))) := by rw [eh1221, tw_up_n (Ne.symm ne128)]; exact f1204
  have f1226 : h1221 q159 = some (.inl (d.2 1, 2, .inr (.inl (fun _ => 0)))) := by rw [eh1221, tw_up_n (Ne.symm ne172)]; exact f1205
  have f1227 : h1221 q206 = some (.inl (d.2 1, 2, .inr (.inl (fun _ => 0)))) := by rw [eh1221, tw_up_n (Ne.symm ne219)]; exact f1206
  have f1228 : h1221 q256 = some (.inl (d.2 1, 2, .inr (.inl (fun _ => 0)))) := by rw [eh1221, tw_up_n (Ne.symm ne269)]; exact f1207
  have f1229 : h1221 q309 = some (.inr (3, [.int 0, .ref (d.2 102), .int 0])) := by rw [eh1221, tw_up_n (Ne.symm ne322)]; exact f1208
  have f1230 : h1221 q384 = some (.inr (3, [.int 0, .ref (d.2 102), .int 0])) := by rw [eh1221, tw_up_n (Ne.symm ne397)]; exact f1209
  have f1231 : h1221 q463 = some (.inr (3, [.int 0, .ref (d.2 102), .int 0])) := by rw [eh1221, tw_up_n (Ne.symm ne476)]; exact f1210
  have f1232 : h1221 x = some (.inr (14, [.int 0, .int 0, .int 155, .ref q4, .ref q42, .ref q115, .ref q159, .ref q206, .ref q256, .ref q309, .ref q384, .ref q463])) := by rw [eh1221, tw_up_n ne86]; exact f1211
  have f1233 : h1221 (r5 0) = some (.inl (d.2 0, 4, .inl F677)) := by rw [eh1221, tw_up_n ne56]; exact f1212
  have f1234 : h1221 (r43 0) = some (.inl (d.2 0, 4, .inl F698)) := by rw [eh1221, tw_up_n (Ne.symm (fun z => absurd (hi47 3 0 (by decide) (by decide) z) (by decide)))]; exact f1213
  have f1235 : h1221 (r5 1) = some (.inl (d.2 0, 4, .inl F851)) := by rw [eh1221, tw_up_n ne62]; exact f1214
  have f1236 : h1221 (r43 1) = some (.inl (d.2 0, 4, .inl F872)) := by rw [eh1221, tw_up_n (Ne.symm (fun z => absurd (hi47 3 1 (by decide) (by decide) z) (by decide)))]; exact f1215
  have f1237 : h1221 (r5 2) = some (.inl (d.2 0, 4, .inl F1025)) := by rw [eh1221, tw_up_n ne68]; exact f1216
  have f1238 : h1221 (r43 2) = some (.inl (d.2 0, 4, .inl F1046)) := by rw [eh1221, tw_up_n (Ne.symm (fun z => absurd (hi47 3 2 (by decide) (by decide) z) (by decide)))]; exact f1217
  have f1239 : h1221 (r5 3) = some (.inl (d.2 0, 4, .inl F1199)) := by rw [eh1221, tw_up_n ne74]; exact f1219
  have f1240 : h1221 (r43 3) = some (.inl (d.2 0, 4, .inl F1220)) := by rw [eh1221]; exact tw_up_s
  clear f1202 f1203 f1204 f1205 f1206 f1207 f1208 f1209 f1210 f1211 f1212 f1213 f1214 f1215 f1216 f1217 f1218 f1219 sp1201 eh1221
  refine tw_iinc [(2, .int 4), (1, .int 3), (0, .ref x)] 0 dX10_init_125 rfl (by decide) (by decide) rfl ?_
  refine tw_goto 101 dX10_init_128 (by decide) ?_
  refine tw_iload_n 0 dX10_init_101 rfl rfl ?_
  refine tw_iconst (v := 4) dX10_init_102 (by decide) ?_
  refine tw_icmp_ge 131 dX10_init_103 (by decide) (fun _ => ?_) (fun c1241 => absurd (by decide) c1241)
  refine tw_iinc [(1, .int 4), (2, .int 4), (0, .ref x)] 1 dX10_init_131 rfl (by decide) (by decide) rfl ?_
  refine tw_goto 94 dX10_init_134 (by decide) ?_
  refine tw_iload_n 0 dX10_init_94 rfl rfl ?_
  refine tw_iconst (v := 4) dX10_init_95 (by decide) ?_
  refine tw_icmp_ge 137 dX10_init_96 (by decide) (fun _ => ?_) (fun c1242 => absurd (by decide) c1242)
  have c3_0 : ∀ k, k < 4 → F677 k = 3 := by
    rw [eF677, eF634, eF591, eF548]
    exact tw_4 rfl rfl rfl rfl
  have c3_1 : ∀ k, k < 4 → F851 k = 3 := by
    rw [eF851, eF808, eF765, eF722]
    exact tw_4 rfl rfl rfl rfl
  have c3_2 : ∀ k, k < 4 → F1025 k = 3 := by
    rw [eF1025, eF982, eF939, eF896]
    exact tw_4 rfl rfl rfl rfl
  have c3_3 : ∀ k, k < 4 → F1199 k = 3 := by
    rw [eF1199, eF1156, eF1113, eF1070]
    exact tw_4 rfl rfl rfl rfl
  have c10_0 : ∀ k, k < 4 → F698 k = 10 := by
    rw [eF698, eF655, eF612, eF569]
    exact tw_4 rfl rfl rfl rfl
  have c10_1 : ∀ k, k < 4 → F872 k = 10 := by
    rw [eF872, eF829, eF786, eF743]
    exact tw_4 rfl rfl rfl rfl
  have c10_2 : ∀ k, k < 4 → F1046 k = 10 := by
    rw [eF1046, eF1003, eF960, eF917]
    exact tw_4 rfl rfl rfl rfl
  have c10_3 : ∀ k, k < 4 → F1220 k = 10 := by
    rw [eF1220, eF1177, eF1134, eF1091]
    exact tw_4 rfl rfl rfl rfl
  have zr : ∀ i, i < 4 → τ (r5 i) = 0 := tw_4 z21 z24 z27 z30
  have zs : ∀ i, i < 4 → τ (r43 i) = 0 := tw_4 z89 z92 z95 z98
  have hrs : ∀ i, i < 4 → ∀ j, j < 4 → r5 i ≠ r43 j := tw_4 (tw_4 ne53 ne54 ne55 ne56) (tw_4 ne59 ne60 ne61 ne62) (tw_4 ne65 ne66 ne67 ne68) (tw_4 ne71 ne72 ne73 ne74)
  have hd : ∀ i, i < 4 → q4 ≠ r5 i ∧ q4 ≠ r43 i ∧ q42 ≠ r5 i ∧ q42 ≠ r43 i := tw_4 ⟨(Ne.symm (hr8 0 (by decide)).2), ne77, (Ne.symm ne57), (Ne.symm (hr46 0 (by decide)).2)⟩ ⟨(Ne.symm (hr8 1 (by decide)).2), ne78, (Ne.symm ne63), (Ne.symm (hr46 1 (by decide)).2)⟩ ⟨(Ne.symm (hr8 2 (by decide)).2), ne79, (Ne.symm ne69), (Ne.symm (hr46 2 (by decide)).2)⟩ ⟨(Ne.symm (hr8 3 (by decide)).2), ne80, (Ne.symm ne75), (Ne.symm (hr46 3 (by decide)).2)⟩
  have oo := tw_gM_o (g := g) (x := x) (lc := q309) (lh := q384) (ld := q463) (ds := q4) (fr := q42) (ca := q115) (us := q159) (wo := q206) (cm := q256) (r := r5) (s := r43) hi9 hi47 (fun i j hi hj => hrs i hi j hj) hd (Ne.symm ne81)
  have cc := fun (j k : Nat) (hj : j < 4) (hk : k < 4) => tw_gM_c (g := g) (x := x) (lc := q309) (lh := q384) (ld := q463) (ds := q4) (fr := q42) (ca := q115) (us := q159) (wo := q206) (cm := q256) (r := r5) (s := r43) hj hk
  have hA : ∀ i, i < 4 → (q115 ≠ r5 i ∧ q115 ≠ r43 i) ∧ (q159 ≠ r5 i ∧ q159 ≠ r43 i) ∧ (q206 ≠ r5 i ∧ q206 ≠ r43 i) ∧ q256 ≠ r5 i ∧ q256 ≠ r43 i := tw_4 ⟨⟨(Ne.symm ne120), (Ne.symm ne125)⟩, ⟨(Ne.symm ne164), (Ne.symm ne169)⟩, ⟨(Ne.symm ne211), (Ne.symm ne216)⟩, (Ne.symm ne261), (Ne.symm ne266)⟩ ⟨⟨(Ne.symm ne121), (Ne.symm ne126)⟩, ⟨(Ne.symm ne165), (Ne.symm ne170)⟩, ⟨(Ne.symm ne212), (Ne.symm ne217)⟩, (Ne.symm ne262), (Ne.symm ne267)⟩ ⟨⟨(Ne.symm ne122), (Ne.symm ne127)⟩, ⟨(Ne.symm ne166), (Ne.symm ne171)⟩, ⟨(Ne.symm ne213), (Ne.symm ne218)⟩, (Ne.symm ne263), (Ne.symm ne268)⟩ ⟨⟨(Ne.symm ne123), (Ne.symm ne128)⟩, ⟨(Ne.symm ne167), (Ne.symm ne172)⟩, ⟨(Ne.symm ne214), (Ne.symm ne219)⟩, (Ne.symm ne264), (Ne.symm ne269)⟩
  have oc := tw_gM_o4 (g := g) (x := x) (lc := q309) (lh := q384) (ld := q463) (ds := q4) (fr := q42) (ca := q115) (us := q159) (wo := q206) (cm := q256) (r := r5) (s := r43) hA (Ne.symm ne124) (Ne.symm ne129) (Ne.symm ne168) (Ne.symm ne173) (Ne.symm ne174) (Ne.symm ne215) (Ne.symm ne220) (Ne.symm ne221) (Ne.symm ne222) (Ne.symm ne265) (Ne.symm ne270) (Ne.symm ne271) (Ne.symm ne272) (Ne.symm ne273)
  have oz : ∀ i, 1344 ≤ i → (tw_gM g x q309 q384 q463 q4 q42 q115 q159 q206 q256 r5 r43).1 i = 0 := fun i hi => tw_gM_z1 (by omega) (by omega) (by omega)
  obtain ⟨g1, eg1⟩ : ∃ z : tw_G, z = tw_gM g x q309 q384 q463 q4 q42 q115 q159 q206 q256 r5 r43 := ⟨_, rfl⟩
  rw [← eg1] at oo oc oz
  have cc : ∀ (j k : Nat), j < 4 → k < 4 → g1.1 (416 + 8 * j + k) = 3 ∧ g1.1 (448 + 8 * j + k) = 10 := by rw [eg1]; exact cc
  have gR : ∀ q, τ q ≠ 0 → g1.2 (4096 + q) = g.2 (4096 + q) := by rw [eg1]; exact fun q hq => tw_gM_R zr zs z33 z101 z119 z163 z210 z260 hq
  have sp1243 := sp1222.gch (g1 := g1) hno (by rw [eg1]; rfl) (by rw [eg1]; rfl) (by rw [eg1]; rfl) (by rw [eg1]; rfl) (by rw [eg1]; rfl) (by rw [eg1]; rfl) (fun i h1 h2 => by rw [eg1]; exact tw_gM_lo (Or.inr (Or.inl ⟨h1, h2⟩))) (fun i h1 h2 => by rw [eg1]; exact tw_gM_lo (Or.inr (Or.inr (Or.inl ⟨h1, Nat.lt_succ_of_lt h2⟩)))) (fun y b hy o => by have z := gR y hy; rw [eg1] at z ⊢; exact tw_gM_k h24 h9 h5 z o) gR
  obtain ⟨τ1244, eτ1244⟩ : ∃ z : tw_K, z = tw_ku τ (r5 0) 6 := ⟨_, rfl⟩
  have le1245 : tw_le τ τ1244 := by rw [eτ1244]; exact tw_ku_le z21
  have sp1246 : tw_sp d τ (tw_rm h x) g1 τ1244 h1221 := by rw [eτ1244]; exact sp1243.ty n20 z21 f1233 (by rw [← eτ1244]; exact ⟨_, rfl, _, (oo.1 0 (by decide)).1, fun k hk => (c3_0 k hk).trans (cc 0 k (by decide) hk).1.symm⟩)
  have k1247 : τ1244 (r5 0) = 6 := by rw [eτ1244]; exact tw_ku_s
  have z1248 : τ1244 x = 0 := by rw [eτ1244, tw_ku_n ne15]; exact hz
  have z1249 : τ1244 (r5 1) = 0 := by rw [eτ1244, tw_ku_n (fun z => absurd (hi9 1 0 (by decide) (by decide) z) (by decide))]; exact z24
  have z1250 : τ1244 (r5 2) = 0 := by rw [eτ1244, tw_ku_n (fun z => absurd (hi9 2 0 (by decide) (by decide) z) (by decide))]; exact z27
  have z1251 : τ1244 (r5 3) = 0 := by rw [eτ1244, tw_ku_n (fun z => absurd (hi9 3 0 (by decide) (by decide) z) (by decide))]; exact z30
  have z1252 : τ1244 q4 = 0 := by rw [eτ1244, tw_ku_n (Ne.symm (hr8 0 (by decide)).2)]; exact z33
  have z1253 : τ1244 (r43 0) = 0 := by rw [eτ1244, tw_ku_n (Ne.symm ne53)]; exact z89
  have z1254 : τ1244 (r43 1) = 0 := by rw [eτ1244, tw_ku_n (Ne.symm ne54)]; exact z92
  have z1255 : τ1244 (r43 2) = 0 := by rw [eτ1244, tw_ku_n (Ne.symm ne55)]; exact z95
  have z1256 : τ1244 (r43 3) = 0 := by rw [eτ1244, tw_ku_n (Ne.symm ne56)]; exact z98
  have z1257 : τ1244 q42 = 0 := by rw [eτ1244, tw_ku_n (Ne.symm ne57)]; exact z101
  have z1258 : τ1244 q115 = 0 := by rw [eτ1244, tw_ku_n (Ne.symm ne120)]; exact z119
  have z1259 : τ1244 q159 = 0 := by rw [eτ1244, tw_ku_n (Ne.symm ne164)]; exact z163
  have z1260 : τ1244 q206 = 0 := by rw [eτ1244, tw_ku_n (Ne.symm ne211)]; exact z210
  have z1261 : τ1244 q256 = 0 := by rw [eτ1244, tw_ku_n (Ne.symm ne261)]; exact z260
  have z1262 : τ1244 q309 = 0 := by rw [eτ1244, tw_ku_n (Ne.symm ne314)]; exact z313
  have z1263 : τ1244 q384 = 0 := by rw [eτ1244, tw_ku_n (Ne.symm ne389)]; exact z388
  have z1264 : τ1244 q463 = 0 := by rw [eτ1244, tw_ku_n (Ne.symm ne468)]; exact z467
  obtain ⟨τ1265, eτ1265⟩ : ∃ z : tw_K, z = tw_ku τ1244 (r5 1) 6 := ⟨_, rfl⟩
  have le1266 : tw_le τ1244 τ1265 := by rw [eτ1265]; exact tw_ku_le z1249
  have k1267 : τ1265 (r5 0) = 6 := le1266.k k1247 (by decide)
  have sp1268 : tw_sp d τ (tw_rm h x) g1 τ1265 h1221 := by rw [eτ1265]; exact sp1246.ty n23 z1249 f1235 (by rw [← eτ1265]; exact ⟨_, rfl, _, (oo.1 1 (by decide)).1, fun k hk => (c3_1 k hk).trans (cc 1 k (by decide) hk).1.symm⟩)
  have k1269 : τ1265 (r5 1) = 6 := by rw [eτ1265]; exact tw_ku_s
  have z1270 : τ1265 x = 0 := by rw [eτ1265, tw_ku_n ne16]; exact z1248
  have z1271 : τ1265 (r5 2) = 0 := by rw [eτ1265, tw_ku_n (fun z => absurd (hi9 2 1 (by decide) (by decide) z) (by decide))]; exact z1250
  have z1272 : τ1265 (r5 3) = 0 := by rw [eτ1265, tw_ku_n (fun z => absurd (hi9 3 1 (by decide) (by decide) z) (by decide))]; exact z1251
  have z1273 : τ1265 q4 = 0 := by rw [eτ1265, tw_ku_n (Ne.symm (hr8 1 (by decide)).2)]; exact z1252
  have z1274 : τ1265 (r43 0) = 0 := by rw [eτ1265, tw_ku_n (Ne.symm ne59)]; exact z1253
  have z1275 : τ1265 (r43 1) = 0 := by rw [eτ1265, tw_ku_n (Ne.symm ne60)]; exact z1254
  have z1276 : τ1265 (r43 2) = 0 := by rw [eτ1265, tw_ku_n (Ne.symm ne61)]; exact z1255
  have z1277 : τ1265 (r43 3) = 0 := by rw [eτ1265, tw_ku_n (Ne.symm ne62)]; exact z1256
  have z1278 : τ1265 q42 = 0 := by rw [eτ1265, tw_ku_n (Ne.symm ne63)]; exact z1257
  have z1279 : τ1265 q115 = 0 := by rw [eτ1265, tw_ku_n (Ne.symm ne121)]; exact z1258
  have z1280 : τ1265 q159 = 0 := by rw [eτ1265, tw_ku_n (Ne.symm ne165)]; exact z1259
  have z1281 : τ1265 q206 = 0 := by rw [eτ1265, tw_ku_n (Ne.symm ne212)]; exact z1260
  have z1282 : τ1265 q256 = 0 := by rw [eτ1265, tw_ku_n (Ne.symm ne262)]; exact z1261
  have z1283 : τ1265 q309 = 0 := by rw [eτ1265, tw_ku_n (Ne.symm ne315)]; exact z1262
  have z1284 : τ1265 q384 = 0 := by rw [eτ1265, tw_ku_n (Ne.symm ne390)]; exact z1263
  have z1285 : τ1265 q463 = 0 := by rw [eτ1265, tw_ku_n (Ne.symm ne469)]; exact z1264
  obtain ⟨τ1286, eτ1286⟩ : ∃ z : tw_K, z = tw_ku τ1265 (r5 2) 6 := ⟨_, rfl⟩
  have le1287 : tw_le τ1265 τ1286 := by rw [eτ1286]; exact tw_ku_le z1271
  have k1288 : τ1286 (r5 0) = 6 := le1287.k k1267 (by decide)
  have k1289 : τ1286 (r5 1) = 6 := le1287.k k1269 (by decide)
  have sp1290 : tw_sp d τ (tw_rm h x) g1 τ1286 h1221 := by rw [eτ1286]; exact sp1268.ty n26 z1271 f1237 (by rw [← eτ1286]; exact ⟨_, rfl, _, (oo.1 2 (by decide)).1, fun k hk => (c3_2 k hk).trans (cc 2 k (by decide) hk).1.symm⟩)
  have k1291 : τ1286 (r5 2) = 6 := by rw [eτ1286]; exact tw_ku_s
  have z1292 : τ1286 x = 0 := by rw [eτ1286, tw_ku_n ne17]; exact z1270
  have z1293 : τ1286 (r5 3) = 0 := by rw [eτ1286, tw_ku_n (fun z => absurd (hi9 3 2 (by decide) (by decide) z) (by decide))]; exact z1272
  have z1294 : τ1286 q4 = 0 := by rw [eτ1286, tw_ku_n (Ne.symm (hr8 2 (by decide)).2)]; exact z1273
  have z1295 : τ1286 (r43 0) = 0 := by rw [eτ1286, tw_ku_n (Ne.symm ne65)]; exact z1274
  have z1296 : τ1286 (r43 1) = 0 := by rw [eτ1286, tw_ku_n (Ne.symm ne66)]; exact z1275
  have z1297 : τ1286 (r43 2) = 0 := by rw [eτ1286, tw_ku_n (Ne.symm ne67)]; exact z1276
  have z1298 : τ1286 (r43 3) = 0 := by rw [eτ1286, tw_ku_n (Ne.symm ne68)]; exact z1277
  have z1299 : τ1286 q42 = 0 := by rw [eτ1286, tw_ku_n (Ne.symm ne69)]; exact z1278
  have z1300 : τ1286 q115 = 0 := by rw [eτ1286, tw_ku_n (Ne.symm ne122)]; exact z1279
  have z1301 : τ1286 q159 = 0 := by rw [eτ1286, tw_ku_n (Ne.symm ne166)]; exact z1280
  have z1302 : τ1286 q206 = 0 := by rw [eτ1286, tw_ku_n (Ne.symm ne213)]; exact z1281
  have z1303 : τ1286 q256 = 0 := by rw [eτ1286, tw_ku_n (Ne.symm ne263)]; exact z1282
  have z1304 : τ1286 q309 = 0 := by rw [eτ1286, tw_ku_n (Ne.symm ne316)]; exact z1283
  have z1305 : τ1286 q384 = 0 := by rw [eτ1286, tw_ku_n (Ne.symm ne391)]; exact z1284
  have z1306 : τ1286 q463 = 0 := by rw [eτ1286, tw_ku_n (Ne.symm ne470)]; exact z1285
  obtain ⟨τ1307, eτ1307⟩ : ∃ z : tw_K, z = tw_ku τ1286 (r5 3) 6 := ⟨_, rfl⟩
  have le1308 : tw_le τ1286 τ1307 := by rw [eτ1307]; exact tw_ku_le z1293
  have k1309 : τ1307 (r5 0) = 6 := le1308.k k1288 (by decide)
  have k1310 : τ1307 (r5 1) = 6 := le1308.k k1289 (by decide)
  have k1311 : τ1307 (r5 2) = 6 := le1308.k k1291 (by decide)
  have sp1312 : tw_sp d τ (tw_rm h x) g1 τ1307 h1221 := by rw [eτ1307]; exact sp1290.ty n29 z1293 f1239 (by rw [← eτ1307]; exact ⟨_, rfl, _, (oo.1 3 (by decide)).1, fun k hk => (c3_3 k hk).trans (cc 3 k (by decide) hk).1.symm⟩)
  have k1313 : τ1307 (r5 3) = 6 := by rw [eτ1307]; exact tw_ku_s
  have z1314 : τ1307 x = 0 := by rw [eτ1307, tw_ku_n ne18]; exact z1292
  have z1315 : τ1307 q4 = 0 := by rw [eτ1307, tw_ku_n (Ne.symm (hr8 3 (by decide)).2)]; exact z1294
  have z1316 : τ1307 (r43 0) = 0 := by rw [eτ1307, tw_ku_n (Ne.symm ne71)]; exact z1295
  have z1317 : τ1307 (r43 1) = 0 := by rw [eτ1307, tw_ku_n (Ne.symm ne72)]; exact z1296
  have z1318 : τ1307 (r43 2) = 0 := by rw [eτ1307, tw_ku_n (Ne.symm ne73)]; exact z1297
  have z1319 : τ1307 (r43 3) = 0 := by rw [eτ1307, tw_ku_n (Ne.symm ne74)]; exact z1298
  have z1320 : τ1307 q42 = 0 := by rw [eτ1307, tw_ku_n (Ne.symm ne75)]; exact z1299
  have z1321 : τ1307 q115 = 0 := by rw [eτ1307, tw_ku_n (Ne.symm ne123)]; exact z1300
  have z1322 : τ1307 q159 = 0 := by rw [eτ1307, tw_ku_n (Ne.symm ne167)]; exact z1301
  have z1323 : τ1307 q206 = 0 := by rw [eτ1307, tw_ku_n (Ne.symm ne214)]; exact z1302
  have z1324 : τ1307 q256 = 0 := by rw [eτ1307, tw_ku_n (Ne.symm ne264)]; exact z1303
  have z1325 : τ1307 q309 = 0 := by rw [eτ1307, tw_ku_n (Ne.symm ne317)]; exact z1304
  have z1326 : τ1307 q384 = 0 := by rw [eτ1307, tw_ku_n (Ne.symm ne392)]; exact z1305
  have z1327 : τ1307 q463 = 0 := by rw [eτ1307, tw_ku_n (Ne.symm ne471)]; exact z1306
  obtain ⟨τ1328, eτ1328⟩ : ∃ z : tw_K, z = tw_ku τ1307 (r43 0) 6 := ⟨_, rfl⟩
  have le1329 : tw_le τ1307 τ1328 := by rw [eτ1328]; exact tw_ku_le z1316
  have k1330 : τ1328 (r5 0) = 6 := le1329.k k1309 (by decide)
  have k1331 : τ1328 (r5 1) = 6 := le1329.k k1310 (by decide)
  have k1332 : τ1328 (r5 2) = 6 := le1329.k k1311 (by decide)
  have k1333 : τ1328 (r5 3) = 6 := le1329.k k1313 (by decide)
  have sp1334 : tw_sp d τ (tw_rm h x) g1 τ1328 h1221 := by rw [eτ1328]; exact sp1312.ty n88 z1316 f1234 (by rw [← eτ1328]; exact ⟨_, rfl, _, (oo.1 0 (by decide)).2, fun k hk => (c10_0 k hk).trans (cc 0 k (by decide) hk).2.symm⟩)
  have k1335 : τ1328 (r43 0) = 6 := by rw [eτ1328]; exact tw_ku_s
  have z1336 : τ1328 x = 0 := by rw [eτ1328, tw_ku_n ne83]; exact z1314
  have z1337 : τ1328 q4 = 0 := by rw [eτ1328, tw_ku_n ne77]; exact z1315
  have z1338 : τ1328 (r43 1) = 0 := by rw [eτ1328, tw_ku_n (fun z => absurd (hi47 1 0 (by decide) (by decide) z) (by decide))]; exact z1317
  have z1339 : τ1328 (r43 2) = 0 := by rw [eτ1328, tw_ku_n (fun z => absurd (hi47 2 0 (by decide) (by decide) z) (by decide))]; exact z1318
  have z1340 : τ1328 (r43 3) = 0 := by rw [eτ1328, tw_ku_n (fun z => absurd (hi47 3 0 (by decide) (by decide) z) (by decide))]; exact z1319
  have z1341 : τ1328 q42 = 0 := by rw [eτ1328, tw_ku_n (Ne.symm (hr46 0 (by decide)).2)]; exact z1320
  have z1342 : τ1328 q115 = 0 := by rw [eτ1328, tw_ku_n (Ne.symm ne125)]; exact z1321
  have z1343 : τ1328 q159 = 0 := by rw [eτ1328, tw_ku_n (Ne.symm ne169)]; exact z1322
  have z1344 : τ1328 q206 = 0 := by rw [eτ1328, tw_ku_n (Ne.symm ne216)]; exact z1323
  have z1345 : τ1328 q256 = 0 := by rw [eτ1328, tw_ku_n (Ne.symm ne266)]; exact z1324
  have z1346 : τ1328 q309 = 0 := by rw [eτ1328, tw_ku_n (Ne.symm ne319)]; exact z1325
  have z1347 : τ1328 q384 = 0 := by rw [eτ1328, tw_ku_n (Ne.symm ne394)]; exact z1326
  have z1348 : τ1328 q463 = 0 := by rw [eτ1328, tw_ku_n (Ne.symm ne473)]; exact z1327
  obtain ⟨τ1349, eτ1349⟩ : ∃ z : tw_K, z = tw_ku τ1328 (r43 1) 6 := ⟨_, rfl⟩
  have le1350 : tw_le τ1328 τ1349 := by rw [eτ1349]; exact tw_ku_le z1338
  have k1351 : τ1349 (r5 0) = 6 := le1350.k k1330 (by decide)
  have k1352 : τ1349 (r5 1) = 6 := le1350.k k1331 (by decide)
  have k1353 : τ1349 (r5 2) = 6 := le1350.k k1332 (by decide)
  have k1354 : τ1349 (r5 3) = 6 := le1350.k k1333 (by decide)
  have k1355 : τ1349 (r43 0) = 6 := le1350.k k1335 (by decide)
  have sp1356 : tw_sp d τ (tw_rm h x) g1 τ1349 h1221 := by rw [eτ1349]; exact sp1334.ty n91 z1338 f1236 (by rw [← eτ1349]; exact ⟨_, rfl, _, (oo.1 1 (by decide)).2, fun k hk => (c10_1 k hk).trans (cc 1 k (by decide) hk).2.symm⟩)
  have k1357 : τ1349 (r43 1) = 6 := by rw [eτ1349]; exact tw_ku_s
  have z1358 : τ1349 x = 0 := by rw [eτ1349, tw_ku_n ne84]; exact z1336
  have z1359 : τ1349 q4 = 0 := by rw [eτ1349, tw_ku_n ne78]; exact z1337
  have z1360 : τ1349 (r43 2) = 0 := by rw [eτ1349, tw_ku_n (fun z => absurd (hi47 2 1 (by decide) (by decide) z) (by decide))]; exact z1339
  have z1361 : τ1349 (r43 3) = 0 := by rw [eτ1349, tw_ku_n (fun z => absurd (hi47 3 1 (by decide) (by decide) z) (by decide))]; exact z1340
  have z1362 : τ1349 q42 = 0 := by rw [eτ1349, tw_ku_n (Ne.symm (hr46 1 (by decide)).2)]; exact z1341
  have z1363 : τ1349 q115 = 0 := by rw [eτ1349, tw_ku_n (Ne.symm ne126)]; exact z1342
  have z1364 : τ1349 q159 = 0 := by rw [eτ1349, tw_ku_n (Ne.symm ne170)]; exact z1343
  have z1365 : τ1349 q206 = 0 := by rw [eτ1349, tw_ku_n (Ne.symm ne217)]; exact z1344
  have z1366 : τ1349 q256 = 0 := by rw [eτ1349, tw_ku_n (Ne.symm ne267)]; exact z1345
  have z1367 : τ1349 q309 = 0 := by rw [eτ1349, tw_ku_n (Ne.symm ne320)]; exact z1346
  have z1368 : τ1349 q384 = 0 := by rw [eτ1349, tw_ku_n (Ne.symm ne395)]; exact z1347
  have z1369 : τ1349 q463 = 0 := by rw [eτ1349, tw_ku_n (Ne.symm ne474)]; exact z1348
  obtain ⟨τ1370, eτ1370⟩ : ∃ z : tw_K, z = tw_ku τ1349 (r43 2) 6 := ⟨_, rfl⟩
  have le1371 : tw_le τ1349 τ1370 := by rw [eτ1370]; exact tw_ku_le z1360
  have k1372 : τ1370 (r5 0) = 6 := le1371.k k1351 (by decide)
  have k1373 : τ1370 (r5 1) = 6 := le1371.k k1352 (by decide)
  have k1374 : τ1370 (r5 2) = 6 := le1371.k k1353 (by decide)
  have k1375 : τ1370 (r5 3) = 6 := le1371.k k1354 (by decide)
  have k1376 : τ1370 (r43 0) = 6 := le1371.k k1355 (by decide)
  have k1377 : τ1370 (r43 1) = 6 := le1371.k k1357 (by decide)
  have sp1378 : tw_sp d τ (tw_rm h x) g1 τ1370 h1221 := by rw [eτ1370]; exact sp1356.ty n94 z1360 f1238 (by rw [← eτ1370]; exact ⟨_, rfl, _, (oo.1 2 (by decide)).2, fun k hk => (c10_2 k hk).trans (cc 2 k (by decide) hk).2.symm⟩)
  have k1379 : τ1370 (r43 2) = 6 := by rw [eτ1370]; exact tw_ku_s
  have z1380 : τ1370 x = 0 := by rw [eτ1370, tw_ku_n ne85]; exact z1358
  have z1381 : τ1370 q4 = 0 := by rw [eτ1370, tw_ku_n ne79]; exact z1359
  have z1382 : τ1370 (r43 3) = 0 := by rw [eτ1370, tw_ku_n (fun z => absurd (hi47 3 2 (by decide) (by decide) z) (by decide))]; exact z1361
  have z1383 : τ1370 q42 = 0 := by rw [eτ1370, tw_ku_n (Ne.symm (hr46 2 (by decide)).2)]; exact z1362
  have z1384 : τ1370 q115 = 0 := by rw [eτ1370, tw_ku_n (Ne.symm ne127)]; exact z1363
  have z1385 : τ1370 q159 = 0 := by rw [eτ1370, tw_ku_n (Ne.symm ne171)]; exact z1364
  have z1386 : τ1370 q206 = 0 := by rw [eτ1370, tw_ku_n (Ne.symm ne218)]; exact z1365
  have z1387 : τ1370 q256 = 0 := by rw [eτ1370, tw_ku_n (Ne.symm ne268)]; exact z1366
  have z1388 : τ1370 q309 = 0 := by rw [eτ1370, tw_ku_n (Ne.symm ne321)]; exact z1367
  have z1389 : τ1370 q384 = 0 := by rw [eτ1370, tw_ku_n (Ne.symm ne396)]; exact z1368
  have z1390 : τ1370 q463 = 0 := by rw [eτ1370, tw_ku_n (Ne.symm ne475)]; exact z1369
  obtain ⟨τ1391, eτ1391⟩ : ∃ z : tw_K, z = tw_ku τ1370 (r43 3) 6 := ⟨_, rfl⟩
  have le1392 : tw_le τ1370 τ1391 := by rw [eτ1391]; exact tw_ku_le z1382
  have k1393 : τ1391 (r5 0) = 6 := le1392.k k1372 (by decide)
  have k1394 : τ1391 (r5 1) = 6 := le1392.k k1373 (by decide)
  have k1395 : τ1391 (r5 2) = 6 := le1392.k k1374 (by decide)
  have k1396 : τ1391 (r5 3) = 6 := le1392.k k1375 (by decide)
  have k1397 : τ1391 (r43 0) = 6 := le1392.k k1376 (by decide)
  have k1398 : τ1391 (r43 1) = 6 := le1392.k k1377 (by decide)
  have k1399 : τ1391 (r43 2) = 6 := le1392.k k1379 (by decide)
  have sp1400 : tw_sp d τ (tw_rm h x) g1 τ1391 h1221 := by rw [eτ1391]; exact sp1378.ty n97 z1382 f1240 (by rw [← eτ1391]; exact ⟨_, rfl, _, (oo.1 3 (by decide)).2, fun k hk => (c10_3 k hk).trans (cc 3 k (by decide) hk).2.symm⟩)
  have k1401 : τ1391 (r43 3) = 6 := by rw [eτ1391]; exact tw_ku_s
  have z1402 : τ1391 x = 0 := by rw [eτ1391, tw_ku_n ne86]; exact z1380
  have z1403 : τ1391 q4 = 0 := by rw [eτ1391, tw_ku_n ne80]; exact z1381
  have z1404 : τ1391 q42 = 0 := by rw [eτ1391, tw_ku_n (Ne.symm (hr46 3 (by decide)).2)]; exact z1383
  have z1405 : τ1391 q115 = 0 := by rw [eτ1391, tw_ku_n (Ne.symm ne128)]; exact z1384
  have z1406 : τ1391 q159 = 0 := by rw [eτ1391, tw_ku_n (Ne.symm ne172)]; exact z1385
  have z1407 : τ1391 q206 = 0 := by rw [eτ1391, tw_ku_n (Ne.symm ne219)]; exact z1386
  have z1408 : τ1391 q256 = 0 := by rw [eτ1391, tw_ku_n (Ne.symm ne269)]; exact z1387
  have z1409 : τ1391 q309 = 0 := by rw [eτ1391, tw_ku_n (Ne.symm ne322)]; exact z1388
  have z1410 : τ1391 q384 = 0 := by rw [eτ1391, tw_ku_n (Ne.symm ne397)]; exact z1389
  have z1411 : τ1391 q463 = 0 := by rw [eτ1391, tw_ku_n (Ne.symm ne476)]; exact z1390
  obtain ⟨τ1412, eτ1412⟩ : ∃ z : tw_K, z = tw_ku τ1391 q4 34 := ⟨_, rfl⟩
  have le1413 : tw_le τ1391 τ1412 := by rw [eτ1412]; exact tw_ku_le z1403
  have k1414 : τ1412 (r5 0) = 6 := le1413.k k1393 (by decide)
  have k1415 : τ1412 (r5 1) = 6 := le1413.k k1394 (by decide)
  have k1416 : τ1412 (r5 2) = 6 := le1413.k k1395 (by decide)
  have k1417 : τ1412 (r5 3) = 6 := le1413.k k1396 (by decide)
  have k1418 : τ1412 (r43 0) = 6 := le1413.k k1397 (by decide)
  have k1419 : τ1412 (r43 1) = 6 := le1413.k k1398 (by decide)
  have k1420 : τ1412 (r43 2) = 6 := le1413.k k1399 (by decide)
  have k1421 : τ1412 (r43 3) = 6 := le1413.k k1401 (by decide)
  have sp1422 : tw_sp d τ (tw_rm h x) g1 τ1412 h1221 := by rw [eτ1412]; exact sp1400.ty n32 z1403 f1223 (by rw [← eτ1412]; exact ⟨_, rfl, fun j hj => ⟨r5 j, if_pos hj, tw_4k k1414 k1415 k1416 k1417 j hj, by rw [oo.2.1]; exact (oo.1 j hj).1.2.2.2.2⟩⟩)
  have k1423 : τ1412 q4 = 34 := by rw [eτ1412]; exact tw_ku_s
  have z1424 : τ1412 x = 0 := by rw [eτ1412, tw_ku_n ne19]; exact z1402
  have z1425 : τ1412 q42 = 0 := by rw [eτ1412, tw_ku_n (Ne.symm ne81)]; exact z1404
  have z1426 : τ1412 q115 = 0 := by rw [eτ1412, tw_ku_n (Ne.symm ne124)]; exact z1405
  have z1427 : τ1412 q159 = 0 := by rw [eτ1412, tw_ku_n (Ne.symm ne168)]; exact z1406
  have z1428 : τ1412 q206 = 0 := by rw [eτ1412, tw_ku_n (Ne.symm ne215)]; exact z1407
  have z1429 : τ1412 q256 = 0 := by rw [eτ1412, tw_ku_n (Ne.symm ne265)]; exact z1408
  have z1430 : τ1412 q309 = 0 := by rw [eτ1412, tw_ku_n (Ne.symm ne318)]; exact z1409
  have z1431 : τ1412 q384 = 0 := by rw [eτ1412, tw_ku_n (Ne.symm ne393)]; exact z1410
  have z1432 : τ1412 q463 = 0 := by rw [eτ1412, tw_ku_n (Ne.symm ne472)]; exact z1411
  obtain ⟨τ1433, eτ1433⟩ : ∃ z : tw_K, z = tw_ku τ1412 q42 34 := ⟨_, rfl⟩
  have le1434 : tw_le τ1412 τ1433 := by rw [eτ1433]; exact tw_ku_le z1425
  have k1435 : τ1433 (r5 0) = 6 := le1434.k k1414 (by decide)
  have k1436 : τ1433 (r5 1) = 6 := le1434.k k1415 (by decide)
  have k1437 : τ1433 (r5 2) = 6 := le1434.k k1416 (by decide)
  have k1438 : τ1433 (r5 3) = 6 := le1434.k k1417 (by decide)
  have k1439 : τ1433 (r43 0) = 6 := le1434.k k1418 (by decide)
  have k1440 : τ1433 (r43 1) = 6 := le1434.k k1419 (by decide)
  have k1441 : τ1433 (r43 2) = 6 := le1434.k k1420 (by decide)
  have k1442 : τ1433 (r43 3) = 6 := le1434.k k1421 (by decide)
  have k1443 : τ1433 q4 = 34 := le1434.k k1423 (by decide)
  have sp1444 : tw_sp d τ (tw_rm h x) g1 τ1433 h1221 := by rw [eτ1433]; exact sp1422.ty n100 z1425 f1224 (by rw [← eτ1433]; exact ⟨_, rfl, fun j hj => ⟨r43 j, if_pos hj, tw_4k k1439 k1440 k1441 k1442 j hj, by rw [oo.2.2]; exact (oo.1 j hj).2.2.2.2.2⟩⟩)
  have k1445 : τ1433 q42 = 34 := by rw [eτ1433]; exact tw_ku_s
  have z1446 : τ1433 x = 0 := by rw [eτ1433, tw_ku_n ne87]; exact z1424
  have z1447 : τ1433 q115 = 0 := by rw [eτ1433, tw_ku_n (Ne.symm ne129)]; exact z1426
  have z1448 : τ1433 q159 = 0 := by rw [eτ1433, tw_ku_n (Ne.symm ne173)]; exact z1427
  have z1449 : τ1433 q206 = 0 := by rw [eτ1433, tw_ku_n (Ne.symm ne220)]; exact z1428
  have z1450 : τ1433 q256 = 0 := by rw [eτ1433, tw_ku_n (Ne.symm ne270)]; exact z1429
  have z1451 : τ1433 q309 = 0 := by rw [eτ1433, tw_ku_n (Ne.symm ne323)]; exact z1430
  have z1452 : τ1433 q384 = 0 := by rw [eτ1433, tw_ku_n (Ne.symm ne398)]; exact z1431
  have z1453 : τ1433 q463 = 0 := by rw [eτ1433, tw_ku_n (Ne.symm ne477)]; exact z1432
  obtain ⟨τ1454, eτ1454⟩ : ∃ z : tw_K, z = tw_ku τ1433 q309 24 := ⟨_, rfl⟩
  have le1455 : tw_le τ1433 τ1454 := by rw [eτ1454]; exact tw_ku_le z1451
  have k1456 : τ1454 (r5 0) = 6 := le1455.k k1435 (by decide)
  have k1457 : τ1454 (r5 1) = 6 := le1455.k k1436 (by decide)
  have k1458 : τ1454 (r5 2) = 6 := le1455.k k1437 (by decide)
  have k1459 : τ1454 (r5 3) = 6 := le1455.k k1438 (by decide)
  have k1460 : τ1454 (r43 0) = 6 := le1455.k k1439 (by decide)
  have k1461 : τ1454 (r43 1) = 6 := le1455.k k1440 (by decide)
  have k1462 : τ1454 (r43 2) = 6 := le1455.k k1441 (by decide)
  have k1463 : τ1454 (r43 3) = 6 := le1455.k k1442 (by decide)
  have k1464 : τ1454 q4 = 34 := le1455.k k1443 (by decide)
  have k1465 : τ1454 q42 = 34 := le1455.k k1445 (by decide)
  have sp1466 : tw_sp d τ (tw_rm h x) g1 τ1454 h1221 := by rw [eτ1454]; exact sp1444.ty n312 z1451 f1229 (by rw [← eτ1454]; exact ⟨⟨d.2 102, (by rw [eg1]; rfl), Or.inl ⟨rfl, (by rw [eg1]; rfl), (by rw [eg1]; rfl)⟩⟩, (by rw [eg1]; rfl)⟩)
  have k1467 : τ1454 q309 = 24 := by rw [eτ1454]; exact tw_ku_s
  have z1468 : τ1454 x = 0 := by rw [eτ1454, tw_ku_n ne328]; exact z1446
  have z1469 : τ1454 q115 = 0 := by rw [eτ1454, tw_ku_n ne324]; exact z1447
  have z1470 : τ1454 q159 = 0 := by rw [eτ1454, tw_ku_n ne325]; exact z1448
  have z1471 : τ1454 q206 = 0 := by rw [eτ1454, tw_ku_n ne326]; exact z1449
  have z1472 : τ1454 q256 = 0 := by rw [eτ1454, tw_ku_n ne327]; exact z1450
  have z1473 : τ1454 q384 = 0 := by rw [eτ1454, tw_ku_n (Ne.symm ne403)]; exact z1452
  have z1474 : τ1454 q463 = 0 := by rw [eτ1454, tw_ku_n (Ne.symm ne482)]; exact z1453
  obtain ⟨τ1475, eτ1475⟩ : ∃ z : tw_K, z = tw_ku τ1454 q384 25 := ⟨_, rfl⟩
  have le1476 : tw_le τ1454 τ1475 := by rw [eτ1475]; exact tw_ku_le z1473
  have k1477 : τ1475 (r5 0) = 6 := le1476.k k1456 (by decide)
  have k1478 : τ1475 (r5 1) = 6 := le1476.k k1457 (by decide)
  have k1479 : τ1475 (r5 2) = 6 := le1476.k k1458 (by decide)
  have k1480 : τ1475 (r5 3) = 6 := le1476.k k1459 (by decide)
  have k1481 : τ1475 (r43 0) = 6 := le1476.k k1460 (by decide)
  have k1482 : τ1475 (r43 1) = 6 := le1476.k k1461 (by decide)
  have k1483 : τ1475 (r43 2) = 6 := le1476.k k1462 (by decide)
  have k1484 : τ1475 (r43 3) = 6 := le1476.k k1463 (by decide)
  have k1485 : τ1475 q4 = 34 := le1476.k k1464 (by decide)
  have k1486 : τ1475 q42 = 34 := le1476.k k1465 (by decide)
  have k1487 : τ1475 q309 = 24 := le1476.k k1467 (by decide)
  have sp1488 : tw_sp d τ (tw_rm h x) g1 τ1475 h1221 := by rw [eτ1475]; exact sp1466.ty n387 z1473 f1230 (by rw [← eτ1475]; exact ⟨⟨d.2 102, (by rw [eg1]; rfl), Or.inl ⟨rfl, (by rw [eg1]; rfl), (by rw [eg1]; rfl)⟩⟩, (by rw [eg1]; rfl)⟩)
  have k1489 : τ1475 q384 = 25 := by rw [eτ1475]; exact tw_ku_s
  have z1490 : τ1475 x = 0 := by rw [eτ1475, tw_ku_n ne404]; exact z1468
  have z1491 : τ1475 q115 = 0 := by rw [eτ1475, tw_ku_n ne399]; exact z1469
  have z1492 : τ1475 q159 = 0 := by rw [eτ1475, tw_ku_n ne400]; exact z1470
  have z1493 : τ1475 q206 = 0 := by rw [eτ1475, tw_ku_n ne401]; exact z1471
  have z1494 : τ1475 q256 = 0 := by rw [eτ1475, tw_ku_n ne402]; exact z1472
  have z1495 : τ1475 q463 = 0 := by rw [eτ1475, tw_ku_n (Ne.symm ne483)]; exact z1474
  obtain ⟨τ1496, eτ1496⟩ : ∃ z : tw_K, z = tw_ku τ1475 q463 26 := ⟨_, rfl⟩
  have le1497 : tw_le τ1475 τ1496 := by rw [eτ1496]; exact tw_ku_le z1495
  have k1498 : τ1496 (r5 0) = 6 := le1497.k k1477 (by decide)
  have k1499 : τ1496 (r5 1) = 6 := le1497.k k1478 (by decide)
  have k1500 : τ1496 (r5 2) = 6 := le1497.k k1479 (by decide)
  have k1501 : τ1496 (r5 3) = 6 := le1497.k k1480 (by decide)
  have k1502 : τ1496 (r43 0) = 6 := le1497.k k1481 (by decide)
  have k1503 : τ1496 (r43 1) = 6 := le1497.k k1482 (by decide)
  have k1504 : τ1496 (r43 2) = 6 := le1497.k k1483 (by decide)
  have k1505 : τ1496 (r43 3) = 6 := le1497.k k1484 (by decide)
  have k1506 : τ1496 q4 = 34 := le1497.k k1485 (by decide)
  have k1507 : τ1496 q42 = 34 := le1497.k k1486 (by decide)
  have k1508 : τ1496 q309 = 24 := le1497.k k1487 (by decide)
  have k1509 : τ1496 q384 = 25 := le1497.k k1489 (by decide)
  have sp1510 : tw_sp d τ (tw_rm h x) g1 τ1496 h1221 := by rw [eτ1496]; exact sp1488.ty n466 z1495 f1231 (by rw [← eτ1496]; exact ⟨⟨d.2 102, (by rw [eg1]; rfl), Or.inl ⟨rfl, (by rw [eg1]; rfl), (by rw [eg1]; rfl)⟩⟩, (by rw [eg1]; rfl)⟩)
  have k1511 : τ1496 q463 = 26 := by rw [eτ1496]; exact tw_ku_s
  have z1512 : τ1496 x = 0 := by rw [eτ1496, tw_ku_n ne484]; exact z1490
  have z1513 : τ1496 q115 = 0 := by rw [eτ1496, tw_ku_n ne478]; exact z1491
  have z1514 : τ1496 q159 = 0 := by rw [eτ1496, tw_ku_n ne479]; exact z1492
  have z1515 : τ1496 q206 = 0 := by rw [eτ1496, tw_ku_n ne480]; exact z1493
  have z1516 : τ1496 q256 = 0 := by rw [eτ1496, tw_ku_n ne481]; exact z1494
  obtain ⟨τ1517, eτ1517⟩ : ∃ z : tw_K, z = tw_ku τ1496 q115 31 := ⟨_, rfl⟩
  have le1518 : tw_le τ1496 τ1517 := by rw [eτ1517]; exact tw_ku_le z1513
  have k1519 : τ1517 (r5 0) = 6 := le1518.k k1498 (by decide)
  have k1520 : τ1517 (r5 1) = 6 := le1518.k k1499 (by decide)
  have k1521 : τ1517 (r5 2) = 6 := le1518.k k1500 (by decide)
  have k1522 : τ1517 (r5 3) = 6 := le1518.k k1501 (by decide)
  have k1523 : τ1517 (r43 0) = 6 := le1518.k k1502 (by decide)
  have k1524 : τ1517 (r43 1) = 6 := le1518.k k1503 (by decide)
  have k1525 : τ1517 (r43 2) = 6 := le1518.k k1504 (by decide)
  have k1526 : τ1517 (r43 3) = 6 := le1518.k k1505 (by decide)
  have k1527 : τ1517 q4 = 34 := le1518.k k1506 (by decide)
  have k1528 : τ1517 q42 = 34 := le1518.k k1507 (by decide)
  have k1529 : τ1517 q309 = 24 := le1518.k k1508 (by decide)
  have k1530 : τ1517 q384 = 25 := le1518.k k1509 (by decide)
  have k1531 : τ1517 q463 = 26 := le1518.k k1511 (by decide)
  have sp1532 : tw_sp d τ (tw_rm h x) g1 τ1517 h1221 := by rw [eτ1517]; exact sp1510.ty n118 z1513 f1225 (by rw [← eτ1517]; exact ⟨_, rfl, _, oc.1, fun k hk => by rw [oz _ (by omega)]; rfl⟩)
  have k1533 : τ1517 q115 = 31 := by rw [eτ1517]; exact tw_ku_s
  have z1534 : τ1517 x = 0 := by rw [eτ1517, tw_ku_n ne130]; exact z1512
  have z1535 : τ1517 q159 = 0 := by rw [eτ1517, tw_ku_n (Ne.symm ne174)]; exact z1514
  have z1536 : τ1517 q206 = 0 := by rw [eτ1517, tw_ku_n (Ne.symm ne221)]; exact z1515
  have z1537 : τ1517 q256 = 0 := by rw [eτ1517, tw_ku_n (Ne.symm ne271)]; exact z1516
  obtain ⟨τ1538, eτ1538⟩ : ∃ z : tw_K, z = tw_ku τ1517 q159 31 := ⟨_, rfl⟩
  have le1539 : tw_le τ1517 τ1538 := by rw [eτ1538]; exact tw_ku_le z1535
  have k1540 : τ1538 (r5 0) = 6 := le1539.k k1519 (by decide)
  have k1541 : τ1538 (r5 1) = 6 := le1539.k k1520 (by decide)
  have k1542 : τ1538 (r5 2) = 6 := le1539.k k1521 (by decide)
  have k1543 : τ1538 (r5 3) = 6 := le1539.k k1522 (by decide)
  have k1544 : τ1538 (r43 0) = 6 := le1539.k k1523 (by decide)
  have k1545 : τ1538 (r43 1) = 6 := le1539.k k1524 (by decide)
  have k1546 : τ1538 (r43 2) = 6 := le1539.k k1525 (by decide)
  have k1547 : τ1538 (r43 3) = 6 := le1539.k k1526 (by decide)
  have k1548 : τ1538 q4 = 34 := le1539.k k1527 (by decide)
  have k1549 : τ1538 q42 = 34 := le1539.k k1528 (by decide)
  have k1550 : τ1538 q309 = 24 := le1539.k k1529 (by decide)
  have k1551 : τ1538 q384 = 25 := le1539.k k1530 (by decide)
  have k1552 : τ1538 q463 = 26 := le1539.k k1531 (by decide)
  have k1553 : τ1538 q115 = 31 := le1539.k k1533 (by decide)
  have sp1554 : tw_sp d τ (tw_rm h x) g1 τ1538 h1221 := by rw [eτ1538]; exact sp1532.ty n162 z1535 f1226 (by rw [← eτ1538]; exact ⟨_, rfl, _, oc.2.1, fun k hk => by rw [oz _ (by omega)]; rfl⟩)
  have k1555 : τ1538 q159 = 31 := by rw [eτ1538]; exact tw_ku_s
  have z1556 : τ1538 x = 0 := by rw [eτ1538, tw_ku_n ne175]; exact z1534
  have z1557 : τ1538 q206 = 0 := by rw [eτ1538, tw_ku_n (Ne.symm ne222)]; exact z1536
  have z1558 : τ1538 q256 = 0 := by rw [eτ1538, tw_ku_n (Ne.symm ne272)]; exact z1537
  obtain ⟨τ1559, eτ1559⟩ : ∃ z : tw_K, z = tw_ku τ1538 q206 31 := ⟨_, rfl⟩
  have le1560 : tw_le τ1538 τ1559 := by rw [eτ1559]; exact tw_ku_le z1557
  have k1561 : τ1559 (r5 0) = 6 := le1560.k k1540 (by decide)
  have k1562 : τ1559 (r5 1) = 6 := le1560.k k1541 (by decide)
  have k1563 : τ1559 (r5 2) = 6 := le1560.k k1542 (by decide)
  have k1564 : τ1559 (r5 3) = 6 := le1560.k k1543 (by decide)
  have k1565 : τ1559 (r43 0) = 6 := le1560.k k1544 (by decide)
  have k1566 : τ1559 (r43 1) = 6 := le1560.k k1545 (by decide)
  have k1567 : τ1559 (r43 2) = 6 := le1560.k k1546 (by decide)
  have k1568 : τ1559 (r43 3) = 6 := le1560.k k1547 (by decide)
  have k1569 : τ1559 q4 = 34 := le1560.k k1548 (by decide)
  have k1570 : τ1559 q42 = 34 := le1560.k k1549 (by decide)
  have k1571 : τ1559 q309 = 24 := le1560.k k1550 (by decide)
  have k1572 : τ1559 q384 = 25 := le1560.k k1551 (by decide)
  have k1573 : τ1559 q463 = 26 := le1560.k k1552 (by decide)
  have k1574 : τ1559 q115 = 31 := le1560.k k1553 (by decide)
  have k1575 : τ1559 q159 = 31 := le1560.k k1555 (by decide)
  have sp1576 : tw_sp d τ (tw_rm h x) g1 τ1559 h1221 := by rw [eτ1559]; exact sp1554.ty n209 z1557 f1227 (by rw [← eτ1559]; exact ⟨_, rfl, _, oc.2.2.1, fun k hk => by rw [oz _ (by omega)]; rfl⟩)
  have k1577 : τ1559 q206 = 31 := by rw [eτ1559]; exact tw_ku_s
  have z1578 : τ1559 x = 0 := by rw [eτ1559, tw_ku_n ne223]; exact z1556
  have z1579 : τ1559 q256 = 0 := by rw [eτ1559, tw_ku_n (Ne.symm ne273)]; exact z1558
  obtain ⟨τ1580, eτ1580⟩ : ∃ z : tw_K, z = tw_ku τ1559 q256 31 := ⟨_, rfl⟩
  have le1581 : tw_le τ1559 τ1580 := by rw [eτ1580]; exact tw_ku_le z1579
  have k1582 : τ1580 (r5 0) = 6 := le1581.k k1561 (by decide)
  have k1583 : τ1580 (r5 1) = 6 := le1581.k k1562 (by decide)
  have k1584 : τ1580 (r5 2) = 6 := le1581.k k1563 (by decide)
  have k1585 : τ1580 (r5 3) = 6 := le1581.k k1564 (by decide)
  have k1586 : τ1580 (r43 0) = 6 := le1581.k k1565 (by decide)
  have k1587 : τ1580 (r43 1) = 6 := le1581.k k1566 (by decide)
  have k1588 : τ1580 (r43 2) = 6 := le1581.k k1567 (by decide)
  have k1589 : τ1580 (r43 3) = 6 := le1581.k k1568 (by decide)
  have k1590 : τ1580 q4 = 34 := le1581.k k1569 (by decide)
  have k1591 : τ1580 q42 = 34 := le1581.k k1570 (by decide)
  have k1592 : τ1580 q309 = 24 := le1581.k k1571 (by decide)
  have k1593 : τ1580 q384 = 25 := le1581.k k1572 (by decide)
  have k1594 : τ1580 q463 = 26 := le1581.k k1573 (by decide)
  have k1595 : τ1580 q115 = 31 := le1581.k k1574 (by decide)
  have k1596 : τ1580 q159 = 31 := le1581.k k1575 (by decide)
  have k1597 : τ1580 q206 = 31 := le1581.k k1577 (by decide)
  have sp1598 : tw_sp d τ (tw_rm h x) g1 τ1580 h1221 := by rw [eτ1580]; exact sp1576.ty n259 z1579 f1228 (by rw [← eτ1580]; exact ⟨_, rfl, _, oc.2.2.2, fun k hk => by rw [oz _ (by omega)]; rfl⟩)
  have k1599 : τ1580 q256 = 31 := by rw [eτ1580]; exact tw_ku_s
  have z1600 : τ1580 x = 0 := by rw [eτ1580, tw_ku_n ne274]; exact z1578
  obtain ⟨τ1601, eτ1601⟩ : ∃ z : tw_K, z = tw_ku τ1580 x 36 := ⟨_, rfl⟩
  have le1602 : tw_le τ1580 τ1601 := by rw [eτ1601]; exact tw_ku_le z1600
  have k1603 : τ1601 (r5 0) = 6 := le1602.k k1582 (by decide)
  have k1604 : τ1601 (r5 1) = 6 := le1602.k k1583 (by decide)
  have k1605 : τ1601 (r5 2) = 6 := le1602.k k1584 (by decide)
  have k1606 : τ1601 (r5 3) = 6 := le1602.k k1585 (by decide)
  have k1607 : τ1601 (r43 0) = 6 := le1602.k k1586 (by decide)
  have k1608 : τ1601 (r43 1) = 6 := le1602.k k1587 (by decide)
  have k1609 : τ1601 (r43 2) = 6 := le1602.k k1588 (by decide)
  have k1610 : τ1601 (r43 3) = 6 := le1602.k k1589 (by decide)
  have k1611 : τ1601 q4 = 34 := le1602.k k1590 (by decide)
  have k1612 : τ1601 q42 = 34 := le1602.k k1591 (by decide)
  have k1613 : τ1601 q309 = 24 := le1602.k k1592 (by decide)
  have k1614 : τ1601 q384 = 25 := le1602.k k1593 (by decide)
  have k1615 : τ1601 q463 = 26 := le1602.k k1594 (by decide)
  have k1616 : τ1601 q115 = 31 := le1602.k k1595 (by decide)
  have k1617 : τ1601 q159 = 31 := le1602.k k1596 (by decide)
  have k1618 : τ1601 q206 = 31 := le1602.k k1597 (by decide)
  have k1619 : τ1601 q256 = 31 := le1602.k k1599 (by decide)
  have sp1620 : tw_sp d τ (tw_rm h x) g1 τ1601 h1221 := by rw [eτ1601]; exact sp1598.ty tw_rm_s z1600 f1232 (by rw [← eτ1601]; exact ⟨0, 0, q4, q42, q115, q159, q206, q256, q309, q384, q463, (by rw [eg1]; rfl), k1611, k1612, k1616, k1617, k1618, k1619, k1613, k1614, k1615, (by rw [eg1]; exact Nat.zero_le _), (by rw [eg1]; exact Nat.zero_le _), (by rw [eg1]; exact Nat.zero_le _), (by rw [eg1]; rfl), (by decide), (by rw [eg1]; rfl), (by rw [eg1]; exact Nat.zero_le _), oo.2.1, oo.2.2, oc.1.2.2.2.2, oc.2.1.2.2.2.2, oc.2.2.1.2.2.2.2, oc.2.2.2.2.2.2.2⟩)
  have k1621 : τ1601 x = 36 := by rw [eτ1601]; exact tw_ku_s
  exact tw_vret dX10_init_137 rfl (Or.inl ⟨rfl, g1, _, ⟨by rw [eg1]; rfl, by rw [eg1]; rfl, fun i hi => by rw [eg1]; exact tw_gM_lo (Or.inl hi), fun i h1 h2 => by rw [eg1]; exact tw_gM_lo (Or.inr (Or.inl ⟨h1, h2⟩)), fun i h3 h6 => by rw [eg1]; exact tw_gM_z h3 h6, by rw [eg1]; rfl, by rw [eg1]; rfl, by rw [eg1]; rfl, by rw [eg1]; rfl, cc, ⟨by rw [eg1]; rfl, by rw [eg1]; rfl, by rw [eg1]; rfl, by rw [eg1]; rfl⟩, fun i a b c => by rw [eg1]; exact tw_gM_z1 a b c, fun i a b => by rw [eg1]; exact tw_gM_z2 a b⟩, sp1620.toini k1621⟩)

set_option maxHeartbeats 4000000 in
set_option maxRecDepth 100000 in
theorem c2_X7_init (d : tw_D) (g : tw_G) (τ : tw_K) (h : tw_H) (hw : tw_wt d g τ h) (x : Nat) (hz : τ x = 0) (hx : h x = some (.inr (11, [.int 0, .int 0, .null, .null, .null]))) : tw_Ct d mX7_init 3 9 [.ref x] h (tw_qv (fun h1 => ∃ (v o t : Nat) (F : Nat → Int32), tw_sp d τ (tw_rm h x) g τ h1 ∧ h1 x = some (.inr (11, [.int 0, .int 0, .ref v, .ref o, .ref t])) ∧ (h1 v = some (.inl (d.2 1, 2, .inr (.inl (fun _ => 0)))) ∧ x ≠ v ∧ tw_rm h x v = none ∧ τ v = 0) ∧ (h1 o = some (.inl (d.2 2, 2, .inl F)) ∧ x ≠ o ∧ tw_rm h x o = none ∧ τ o = 0) ∧ (h1 t = some (.inl (d.2 0, 5, .inl (fun _ => 0))) ∧ x ≠ t ∧ tw_rm h x t = none ∧ τ t = 0) ∧ v ≠ o ∧ v ≠ t ∧ o ≠ t ∧ (∀ k, k < 2 → F k = 1) ∧ (∀ k, tw_01 (F k)) ∧ ∀ b, b ≠ x → h b ≠ none → h1 b = h b) tw_nx) := by
  refine tw_of (by decide +kernel) (Nat.le_of_ble_eq_true rfl) ?_
  show tw_W d mX7_init _ 0 [(0, .ref x)] [] h 3 9
  have sp0 := tw_sp.rm hw x
  have fr0 : ∀ b, b ≠ x → h b ≠ none → h b = h b := fun _ _ _ => rfl
  refine tw_aload_n 0 dX7_init_0 rfl rfl ?_
  refine tw_objInit dX7_init_1 w_1213 w_117 w_118 ⟨by decide, Nat.le_of_ble_eq_true rfl⟩ ?_
  refine tw_aload_n 0 dX7_init_4 rfl rfl ?_
  refine tw_iconst (v := 2) dX7_init_5 (by decide) ?_
  refine tw_newa (a0 := (2, .inr (.inl (fun _ => 0)))) 1 rfl dX7_init_6 rfl w_1150 (fun _ => rfl) (by decide) (by decide) (by decide) 2 7 (Nat.le_of_ble_eq_true rfl) (Nat.le_of_ble_eq_true rfl) (fun q1 hq2 hA3 => ?_)
  have n4 := sp0.nn hq2
  have z5 := sp0.1.none hq2
  have ne6 := tw_neF hx hq2
  obtain ⟨h7, eh7⟩ : ∃ z : tw_H, z = tw_up h q1 (.inl (d.2 1, 2, .inr (.inl (fun _ => 0)))) := ⟨_, rfl⟩
  rw [← eh7]
  have fr8 : ∀ b, b ≠ x → h b ≠ none → h7 b = h b := fun b n1 n2 => by rw [eh7, tw_up_n (fun z => n2 (tw_rmN n4 z n1))] <;> exact fr0 b n1 n2
  have sp9 : tw_sp d τ (tw_rm h x) g τ h7 := by rw [eh7]; exact sp0.mk hq2
  have f10 : h7 x = some (.inr (11, [.int 0, .int 0, .null, .null, .null])) := by rw [eh7, tw_up_n ne6]; exact hx
  have f11 : h7 q1 = some (.inl (d.2 1, 2, .inr (.inl (fun _ => 0)))) := by rw [eh7]; exact tw_up_s
  refine tw_put rfl in_11 tyX7 tyX7_ok nmX7 2 dX7_init_8 w_1216 rfl (by decide) f10 rfl rfl rfl rfl (Nat.le_of_ble_eq_true rfl) [.int 0, .int 0, .ref q1, .null, .null] rfl ?_
  obtain ⟨h12, eh12⟩ : ∃ z : tw_H, z = tw_up h7 x (.inr (11, [.int 0, .int 0, .ref q1, .null, .null])) := ⟨_, rfl⟩
  rw [← eh12]
  have fr13 : ∀ b, b ≠ x → h b ≠ none → h12 b = h b := fun b n1 n2 => by rw [eh12, tw_up_n n1] <;> exact fr8 b n1 n2
  have sp14 : tw_sp d τ (tw_rm h x) g τ h12 := by rw [eh12]; exact sp9.wl tw_rm_s hz
  have f15 : h12 q1 = some (.inl (d.2 1, 2, .inr (.inl (fun _ => 0)))) := by rw [eh12, tw_up_n (Ne.symm ne6)]; exact f11
  have f16 : h12 x = some (.inr (11, [.int 0, .int 0, .ref q1, .null, .null])) := by rw [eh12]; exact tw_up_s
  refine tw_aload_n 0 dX7_init_11 rfl rfl ?_
  refine tw_iconst (v := 2) dX7_init_12 (by decide) ?_
  refine tw_newa (a0 := (2, .inl (fun _ => 0))) 2 rfl dX7_init_13 rfl w_1233 (fun _ => rfl) (by decide) (by decide) (by decide) 1 5 (Nat.le_of_ble_eq_true rfl) (Nat.le_of_ble_eq_true rfl) (fun q17 hq18 hA19 => ?_)
  have n20 := sp14.nn hq18
  have z21 := sp14.1.none hq18
  have ne22 := tw_neF f15 hq18
  have ne23 := tw_neF f16 hq18
  obtain ⟨h24, eh24⟩ : ∃ z : tw_H, z = tw_up h12 q17 (.inl (d.2 2, 2, .inl (fun _ => 0))) := ⟨_, rfl⟩
  rw [← eh24]
  have fr25 : ∀ b, b ≠ x → h b ≠ none → h24 b = h b := fun b n1 n2 => by rw [eh24, tw_up_n (fun z => n2 (tw_rmN n20 z n1))] <;> exact fr13 b n1 n2
  have sp26 : tw_sp d τ (tw_rm h x) g τ h24 := by rw [eh24]; exact sp14.mk hq18
  have f27 : h24 q1 = some (.inl (d.2 1, 2, .inr (.inl (fun _ => 0)))) := by rw [eh24, tw_up_n ne22]; exact f15
  have f28 : h24 x = some (.inr (11, [.int 0, .int 0, .ref q1, .null, .null])) := by rw [eh24, tw_up_n ne23]; exact f16
  have f29 : h24 q17 = some (.inl (d.2 2, 2, .inl (fun _ => 0))) := by rw [eh24]; exact tw_up_s
  refine tw_dup dX7_init_15 rfl ?_
  refine tw_iconst (v := 0) dX7_init_16 (by decide) ?_
  refine tw_iconst (v := 1) dX7_init_17 (by decide) ?_
  refine tw_zast dX7_init_18 f29 (vp_in_nI (n := 0) (by decide) (by decide)) ?_
  obtain ⟨F30, eF30⟩ : ∃ z : Nat → Int32, z = upd (fun _ => 0) (0 : Int32).toNatClampNeg (vp_nar .boolean 1) := ⟨_, rfl⟩
  rw [← eF30]
  obtain ⟨h31, eh31⟩ : ∃ z : tw_H, z = tw_up h24 q17 (.inl (d.2 2, 2, .inl F30)) := ⟨_, rfl⟩
  rw [← eh31]
  have fr32 : ∀ b, b ≠ x → h b ≠ none → h31 b = h b := fun b n1 n2 => by rw [eh31, tw_up_n (fun z => n2 (tw_rmN n20 z n1))] <;> exact fr25 b n1 n2
  have sp33 : tw_sp d τ (tw_rm h x) g τ h31 := by rw [eh31]; exact sp26.wl n20 z21
  have f34 : h31 q1 = some (.inl (d.2 1, 2, .inr (.inl (fun _ => 0)))) := by rw [eh31, tw_up_n ne22]; exact f27
  have f35 : h31 x = some (.inr (11, [.int 0, .int 0, .ref q1, .null, .null])) := by rw [eh31, tw_up_n ne23]; exact f28
  have f36 : h31 q17 = some (.inl (d.2 2, 2, .inl F30)) := by rw [eh31]; exact tw_up_s
  refine tw_dup dX7_init_19 rfl ?_
  refine tw_iconst (v := 1) dX7_init_20 (by decide) ?_
  refine tw_iconst (v := 1) dX7_init_21 (by decide) ?_
  refine tw_zast dX7_init_22 f36 (vp_in_nI (n := 1) (by decide) (by decide)) ?_
  obtain ⟨F37, eF37⟩ : ∃ z : Nat → Int32, z = upd F30 (1 : Int32).toNatClampNeg (vp_nar .boolean 1) := ⟨_, rfl⟩
  rw [← eF37]
  obtain ⟨h38, eh38⟩ : ∃ z : tw_H, z = tw_up h31 q17 (.inl (d.2 2, 2, .inl F37)) := ⟨_, rfl⟩
  rw [← eh38]
  have fr39 : ∀ b, b ≠ x → h b ≠ none → h38 b = h b := fun b n1 n2 => by rw [eh38, tw_up_n (fun z => n2 (tw_rmN n20 z n1))] <;> exact fr32 b n1 n2
  have sp40 : tw_sp d τ (tw_rm h x) g τ h38 := by rw [eh38]; exact sp33.wl n20 z21
  have f41 : h38 q1 = some (.inl (d.2 1, 2, .inr (.inl (fun _ => 0)))) := by rw [eh38, tw_up_n ne22]; exact f34
  have f42 : h38 x = some (.inr (11, [.int 0, .int 0, .ref q1, .null, .null])) := by rw [eh38, tw_up_n ne23]; exact f35
  have f43 : h38 q17 = some (.inl (d.2 2, 2, .inl F37)) := by rw [eh38]; exact tw_up_s
  refine tw_put rfl in_11 tyX7 tyX7_ok nmX7 3 dX7_init_23 w_1218 rfl (by decide) f42 rfl rfl rfl rfl (Nat.le_of_ble_eq_true rfl) [.int 0, .int 0, .ref q1, .ref q17, .null] rfl ?_
  obtain ⟨h44, eh44⟩ : ∃ z : tw_H, z = tw_up h38 x (.inr (11, [.int 0, .int 0, .ref q1, .ref q17, .null])) := ⟨_, rfl⟩
  rw [← eh44]
  have fr45 : ∀ b, b ≠ x → h b ≠ none → h44 b = h b := fun b n1 n2 => by rw [eh44, tw_up_n n1] <;> exact fr39 b n1 n2
  have sp46 : tw_sp d τ (tw_rm h x) g τ h44 := by rw [eh44]; exact sp40.wl tw_rm_s hz
  have f47 : h44 q1 = some (.inl (d.2 1, 2, .inr (.inl (fun _ => 0)))) := by rw [eh44, tw_up_n (Ne.symm ne6)]; exact f41
  have f48 : h44 q17 = some (.inl (d.2 2, 2, .inl F37)) := by rw [eh44, tw_up_n (Ne.symm ne23)]; exact f43
  have f49 : h44 x = some (.inr (11, [.int 0, .int 0, .ref q1, .ref q17, .null])) := by rw [eh44]; exact tw_up_s
  refine tw_aload_n 0 dX7_init_26 rfl rfl ?_
  refine tw_iconst (v := 5) dX7_init_27 (by decide) ?_
  refine tw_newa (a0 := (5, .inl (fun _ => 0))) 0 rfl dX7_init_28 rfl w_500 (fun _ => rfl) (by decide) (by decide) (by decide) 0 0 (Nat.le_of_ble_eq_true rfl) (Nat.le_of_ble_eq_true rfl) (fun q50 hq51 hA52 => ?_)
  have n53 := sp46.nn hq51
  have z54 := sp46.1.none hq51
  have ne55 := tw_neF f47 hq51
  have ne56 := tw_neF f48 hq51
  have ne57 := tw_neF f49 hq51
  obtain ⟨h58, eh58⟩ : ∃ z : tw_H, z = tw_up h44 q50 (.inl (d.2 0, 5, .inl (fun _ => 0))) := ⟨_, rfl⟩
  rw [← eh58]
  have fr59 : ∀ b, b ≠ x → h b ≠ none → h58 b = h b := fun b n1 n2 => by rw [eh58, tw_up_n (fun z => n2 (tw_rmN n53 z n1))] <;> exact fr45 b n1 n2
  have sp60 : tw_sp d τ (tw_rm h x) g τ h58 := by rw [eh58]; exact sp46.mk hq51
  have f61 : h58 q1 = some (.inl (d.2 1, 2, .inr (.inl (fun _ => 0)))) := by rw [eh58, tw_up_n ne55]; exact f47
  have f62 : h58 q17 = some (.inl (d.2 2, 2, .inl F37)) := by rw [eh58, tw_up_n ne56]; exact f48
  have f63 : h58 x = some (.inr (11, [.int 0, .int 0, .ref q1, .ref q17, .null])) := by rw [eh58, tw_up_n ne57]; exact f49
  have f64 : h58 q50 = some (.inl (d.2 0, 5, .inl (fun _ => 0))) := by rw [eh58]; exact tw_up_s
  refine tw_put rfl in_11 tyX7 tyX7_ok nmX7 4 dX7_init_30 w_1220 rfl (by decide) f63 rfl rfl rfl rfl (Nat.le_of_ble_eq_true rfl) [.int 0, .int 0, .ref q1, .ref q17, .ref q50] rfl ?_
  obtain ⟨h65, eh65⟩ : ∃ z : tw_H, z = tw_up h58 x (.inr (11, [.int 0, .int 0, .ref q1, .ref q17, .ref q50])) := ⟨_, rfl⟩
  rw [← eh65]
  have fr66 : ∀ b, b ≠ x → h b ≠ none → h65 b = h b := fun b n1 n2 => by rw [eh65, tw_up_n n1] <;> exact fr59 b n1 n2
  have sp67 : tw_sp d τ (tw_rm h x) g τ h65 := by rw [eh65]; exact sp60.wl tw_rm_s hz
  have f68 : h65 q1 = some (.inl (d.2 1, 2, .inr (.inl (fun _ => 0)))) := by rw [eh65, tw_up_n (Ne.symm ne6)]; exact f61
  have f69 : h65 q17 = some (.inl (d.2 2, 2, .inl F37)) := by rw [eh65, tw_up_n (Ne.symm ne23)]; exact f62
  have f70 : h65 q50 = some (.inl (d.2 0, 5, .inl (fun _ => 0))) := by rw [eh65, tw_up_n (Ne.symm ne57)]; exact f64
  have f71 : h65 x = some (.inr (11, [.int 0, .int 0, .ref q1, .ref q17, .ref q50])) := by rw [eh65]; exact tw_up_s
  exact tw_vret dX7_init_33 rfl (Or.inl ⟨rfl, q1, q17, q50, _, sp67, f71, ⟨f68, ne6, n4, z5⟩, ⟨f69, ne23, n20, z21⟩, ⟨f70, ne57, n53, z54⟩, ne22, ne55, ne56, (fun k hk => by rw [eF37, eF30]; rcases (show k = 0 ∨ k = 1 by omega) with rfl | rfl <;> rfl), (fun k => by rw [eF37, eF30]; exact tw_01up (tw_01up (fun _ => Or.inl rfl) (by unfold tw_01; decide)) (by unfold tw_01; decide) k), fr66⟩)

set_option maxHeartbeats 4000000 in
set_option maxRecDepth 100000 in
theorem c2_X9_init (d : tw_D) (g : tw_G) (τ : tw_K) (h : tw_H) (hw : tw_wt d g τ h) (x : Nat) (hz : τ x = 0) (hx : h x = some (.inr (13, [.int 0, .int 0, .int 0, .null]))) : tw_Ct d mX9_init 1 2 [.ref x] h (tw_qv (fun h1 => ∃ (p : Nat), tw_sp d τ (tw_rm h x) g τ h1 ∧ h1 x = some (.inr (13, [.int 0, .int (-1), .int (-1), .ref p])) ∧ (h1 p = some (.inl (d.2 1, 2, .inr (.inl (fun _ => 0)))) ∧ x ≠ p ∧ tw_rm h x p = none ∧ τ p = 0) ∧ ∀ b, b ≠ x → h b ≠ none → h1 b = h b) tw_nx) := by
  refine tw_of (by decide +kernel) (Nat.le_of_ble_eq_true rfl) ?_
  show tw_W d mX9_init _ 0 [(0, .ref x)] [] h 1 2
  have sp0 := tw_sp.rm hw x
  have fr0 : ∀ b, b ≠ x → h b ≠ none → h b = h b := fun _ _ _ => rfl
  refine tw_aload_n 0 dX9_init_0 rfl rfl ?_
  refine tw_objInit dX9_init_1 w_1337 w_117 w_118 ⟨by decide, Nat.le_of_ble_eq_true rfl⟩ ?_
  refine tw_aload_n 0 dX9_init_4 rfl rfl ?_
  refine tw_iconst (v := -1) dX9_init_5 (by decide) ?_
  refine tw_put rfl in_13 tyX9 tyX9_ok nmX9 1 dX9_init_6 w_1339 rfl (by decide) hx rfl rfl rfl rfl (Nat.le_of_ble_eq_true rfl) [.int 0, .int (-1), .int 0, .null] rfl ?_
  obtain ⟨h1, eh1⟩ : ∃ z : tw_H, z = tw_up h x (.inr (13, [.int 0, .int (-1), .int 0, .null])) := ⟨_, rfl⟩
  rw [← eh1]
  have fr2 : ∀ b, b ≠ x → h b ≠ none → h1 b = h b := fun b n1 n2 => by rw [eh1, tw_up_n n1] <;> exact fr0 b n1 n2
  have sp3 : tw_sp d τ (tw_rm h x) g τ h1 := by rw [eh1]; exact sp0.wl tw_rm_s hz
  have f4 : h1 x = some (.inr (13, [.int 0, .int (-1), .int 0, .null])) := by rw [eh1]; exact tw_up_s
  refine tw_aload_n 0 dX9_init_9 rfl rfl ?_
  refine tw_iconst (v := -1) dX9_init_10 (by decide) ?_
  refine tw_put rfl in_13 tyX9 tyX9_ok nmX9 2 dX9_init_11 w_1341 rfl (by decide) f4 rfl rfl rfl rfl (Nat.le_of_ble_eq_true rfl) [.int 0, .int (-1), .int (-1), .null] rfl ?_
  obtain ⟨h5, eh5⟩ : ∃ z : tw_H, z = tw_up h1 x (.inr (13, [.int 0, .int (-1), .int (-1), .null])) := ⟨_, rfl⟩
  rw [← eh5]
  have fr6 : ∀ b, b ≠ x → h b ≠ none → h5 b = h b := fun b n1 n2 => by rw [eh5, tw_up_n n1] <;> exact fr2 b n1 n2
  have sp7 : tw_sp d τ (tw_rm h x) g τ h5 := by rw [eh5]; exact sp3.wl tw_rm_s hz
  have f8 : h5 x = some (.inr (13, [.int 0, .int (-1), .int (-1), .null])) := by rw [eh5]; exact tw_up_s
  refine tw_aload_n 0 dX9_init_14 rfl rfl ?_
  refine tw_iconst (v := 2) dX9_init_15 (by decide) ?_
  refine tw_newa (a0 := (2, .inr (.inl (fun _ => 0)))) 1 rfl dX9_init_16 rfl w_1150 (fun _ => rfl) (by decide) (by decide) (by decide) 0 0 (Nat.le_of_ble_eq_true rfl) (Nat.le_of_ble_eq_true rfl) (fun q9 hq10 hA11 => ?_)
  have n12 := sp7.nn hq10
  have z13 := sp7.1.none hq10
  have ne14 := tw_neF f8 hq10
  obtain ⟨h15, eh15⟩ : ∃ z : tw_H, z = tw_up h5 q9 (.inl (d.2 1, 2, .inr (.inl (fun _ => 0)))) := ⟨_, rfl⟩
  rw [← eh15]
  have fr16 : ∀ b, b ≠ x → h b ≠ none → h15 b = h b := fun b n1 n2 => by rw [eh15, tw_up_n (fun z => n2 (tw_rmN n12 z n1))] <;> exact fr6 b n1 n2
  have sp17 : tw_sp d τ (tw_rm h x) g τ h15 := by rw [eh15]; exact sp7.mk hq10
  have f18 : h15 x = some (.inr (13, [.int 0, .int (-1), .int (-1), .null])) := by rw [eh15, tw_up_n ne14]; exact f8
  have f19 : h15 q9 = some (.inl (d.2 1, 2, .inr (.inl (fun _ => 0)))) := by rw [eh15]; exact tw_up_s
  refine tw_put rfl in_13 tyX9 tyX9_ok nmX9 3 dX9_init_18 w_1343 rfl (by decide) f18 rfl rfl rfl rfl (Nat.le_of_ble_eq_true rfl) [.int 0, .int (-1), .int (-1), .ref q9] rfl ?_
  obtain ⟨h20, eh20⟩ : ∃ z : tw_H, z = tw_up h15 x (.inr (13, [.int 0, .int (-1), .int (-1), .ref q9])) := ⟨_, rfl⟩
  rw [← eh20]
  have fr21 : ∀ b, b ≠ x → h b ≠ none → h20 b = h b := fun b n1 n2 => by rw [eh20, tw_up_n n1] <;> exact fr16 b n1 n2
  have sp22 : tw_sp d τ (tw_rm h x) g τ h20 := by rw [eh20]; exact sp17.wl tw_rm_s hz
  have f23 : h20 q9 = some (.inl (d.2 1, 2, .inr (.inl (fun _ => 0)))) := by rw [eh20, tw_up_n (Ne.symm ne14)]; exact f19
  have f24 : h20 x = some (.inr (13, [.int 0, .int (-1), .int (-1), .ref q9])) := by rw [eh20]; exact tw_up_s
  exact tw_vret dX9_init_21 rfl (Or.inl ⟨rfl, q9, sp22, f24, ⟨f23, ne14, n12, z13⟩, fr21⟩)

set_option maxHeartbeats 4000000 in
set_option maxRecDepth 100000 in
theorem c2_X10_country (d : tw_D) (g : tw_G) (τ : tw_K) (h : tw_H) (hw : tw_wt d g τ h) (x : Nat) (kx : τ x = 36) (r : Int32) (ct : Int32) (go : Int32) (si : Int32) (o : Nat) (ko : τ o = 12) (he9 : g.2 9 = 480 + 64 * g.2 3) (he : tw_AM 59000000 g) : tw_Ct d mX10_country 10 60 [.ref x, .int r, .int ct, .int go, .int si] h (tw_qi (fun r9 h1 => ∃ g1 τ1, tw_sp d τ h g1 τ1 h1 ∧ h1 o = h o ∧ ((¬ (tw_RC r ct go si) ∧ tw_th (h1 x) = 1 ∧ g1 = g) ∨ ((tw_RC r ct go si) ∧ ¬ (g.2 3 < 4) ∧ tw_th (h1 x) = 2 ∧ g1 = g) ∨ ((tw_RC r ct go si) ∧ (g.2 3 < 4) ∧ r9 = nI (g.2 3) ∧ tw_th (h1 x) = 0 ∧ ∃ y9 o9 t9 v9, tw_gk 3 (tw_gN (tw_ad (tw_ad g (1368 + 0) go) (1368 + 1) si) (480 + 64 * g.2 3) y9 o9 t9 v9 r ct go si) g1))) tw_nx) := by
  refine tw_of (by decide +kernel) (Nat.le_of_ble_eq_true rfl) ?_
  show tw_W d mX10_country _ 0 [(0, .ref x), (1, .int r), (2, .int ct), (3, .int go), (4, .int si)] [] h 10 60
  have sp0 := tw_sp.rf hw
  have oq0 : h o = h o := rfl
  have b93 := tw_b3 hw kx
  refine tw_aload_n 0 dX10_country_0 rfl rfl ?_
  refine tw_iload_n 1 dX10_country_1 rfl rfl ?_
  refine tw_bipush (v := 100) dX10_country_2 (by decide) ?_
  refine tw_sipush (v := 200) dX10_country_4 (by decide) ?_
  refine tw_bi (tw_callS (M := mX10_country) (pc := 7) okX10_isIn dX10_country_7 w_1192 [.int r, .int 100, .int 200] [.ref x] rfl rfl ⟨by decide, by decide⟩ (Nat.le_of_ble_eq_true rfl) (c_X10_isIn d g τ h sp0.1 r 100 200) 10 60 (Nat.le_of_ble_eq_true rfl) (Nat.le_of_ble_eq_true rfl)) (fun r3 h2 q1 => ?_) (fun E h1 q => q.elim)
  obtain ⟨q1e, q1d⟩ := q1
  rw [q1e]
  rcases q1d with ⟨q1r, q1n⟩ | ⟨q1r, rlr⟩
  · rw [q1r]
    refine tw_if_eq 44 dX10_country_10 (by decide) (fun _ => ?_) (fun c4 => absurd (by decide) c4)
    refine tw_iconst (v := 1) dX10_country_44 (by decide) ?_
    refine tw_goto 49 dX10_country_45 (by decide) ?_
    refine tw_iconst (v := 1) dX10_country_49 (by decide) ?_
    obtain ⟨e8, f9, th_10, td_11, ds_12, fr_13, ca_14, us_15, wo_16, cm_17, lc_18, lh_19, ld_20, rfl, k21, k22, k23, k24, k25, k26, k27, k28, k29, k30, k31, k32, k33, k34, k35, k36, k37, k38, k39, k40, k41, k42⟩ := sp0.1 x 36 kx (by decide)
    refine tw_bi (tw_callV (M := mX10_country) (pc := 50) okX10_start dX10_country_50 w_1196 rfl f9 [.int 1, .int 1] [] rfl rfl ⟨by decide, by decide⟩ (Nat.le_of_ble_eq_true rfl) (c_X10_start d g τ h sp0.1 x kx 1 1 (by decide)) 10 60 (Nat.le_of_ble_eq_true rfl) (Nat.le_of_ble_eq_true rfl)) (fun r45 h44 q43 => ?_) (fun E h1 q => q.elim)
    obtain ⟨e46, he47, hs48, hr49, hc50⟩ := q43
    obtain ⟨rz51, tz52⟩ := hc50.2 rfl
    have th53 : tw_th (h44 x) = 1 := by rw [he47, tw_up_s]; exact tz52
    have sp54 : tw_sp d τ h g τ h44 := by rw [he47]; exact sp0.set kx (by decide) hs48
    rw [rz51]
    have oq55 : h44 o = h o := by rw [he47, tw_up_n (tw_nk ko kx (by decide))] <;> exact oq0
    refine tw_if_ne 80 dX10_country_53 (by decide) (fun _ => ?_) (fun c56 => absurd c56 (by decide))
    refine tw_iconst (v := 0) dX10_country_80 (by decide) ?_
    exact tw_iret dX10_country_81 rfl (Or.inl ⟨_, rfl, _, _, sp54, oq55, Or.inl ⟨fun z => q1n z.1, th53, rfl⟩⟩)
  · rw [q1r]
    refine tw_if_eq 44 dX10_country_10 (by decide) (fun c57 => absurd c57 (by decide)) (fun _ => ?_)
    refine tw_iload_n 2 dX10_country_13 rfl rfl ?_
    refine tw_iconst (v := 0) dX10_country_14 (by decide) ?_
    refine tw_bipush (v := 50) dX10_country_15 (by decide) ?_
    refine tw_bi (tw_callS (M := mX10_country) (pc := 17) okX10_isIn dX10_country_17 w_1192 [.int ct, .int 0, .int 50] [.ref x] rfl rfl ⟨by decide, by decide⟩ (Nat.le_of_ble_eq_true rfl) (c_X10_isIn d g τ h sp0.1 ct 0 50) 10 60 (Nat.le_of_ble_eq_true rfl) (Nat.le_of_ble_eq_true rfl)) (fun r60 h59 q58 => ?_) (fun E h1 q => q.elim)
    obtain ⟨q58e, q58d⟩ := q58
    rw [q58e]
    rcases q58d with ⟨q58r, q58n⟩ | ⟨q58r, rlct⟩
    · rw [q58r]
      refine tw_if_eq 44 dX10_country_20 (by decide) (fun _ => ?_) (fun c61 => absurd (by decide) c61)
      refine tw_iconst (v := 1) dX10_country_44 (by decide) ?_
      refine tw_goto 49 dX10_country_45 (by decide) ?_
      refine tw_iconst (v := 1) dX10_country_49 (by decide) ?_
      obtain ⟨e65, f66, th_67, td_68, ds_69, fr_70, ca_71, us_72, wo_73, cm_74, lc_75, lh_76, ld_77, rfl, k78, k79, k80, k81, k82, k83, k84, k85, k86, k87, k88, k89, k90, k91, k92, k93, k94, k95, k96, k97, k98, k99⟩ := sp0.1 x 36 kx (by decide)
      refine tw_bi (tw_callV (M := mX10_country) (pc := 50) okX10_start dX10_country_50 w_1196 rfl f66 [.int 1, .int 1] [] rfl rfl ⟨by decide, by decide⟩ (Nat.le_of_ble_eq_true rfl) (c_X10_start d g τ h sp0.1 x kx 1 1 (by decide)) 10 60 (Nat.le_of_ble_eq_true rfl) (Nat.le_of_ble_eq_true rfl)) (fun r102 h101 q100 => ?_) (fun E h1 q => q.elim)
      obtain ⟨e103, he104, hs105, hr106, hc107⟩ := q100
      obtain ⟨rz108, tz109⟩ := hc107.2 rfl
      have th110 : tw_th (h101 x) = 1 := by rw [he104, tw_up_s]; exact tz109
      have sp111 : tw_sp d τ h g τ h101 := by rw [he104]; exact sp0.set kx (by decide) hs105
      rw [rz108]
      have oq112 : h101 o = h o := by rw [he104, tw_up_n (tw_nk ko kx (by decide))] <;> exact oq0
      refine tw_if_ne 80 dX10_country_53 (by decide) (fun _ => ?_) (fun c113 => absurd c113 (by decide))
      refine tw_iconst (v := 0) dX10_country_80 (by decide) ?_
      exact tw_iret dX10_country_81 rfl (Or.inl ⟨_, rfl, _, _, sp111, oq112, Or.inl ⟨fun z => q58n z.2.1, th110, rfl⟩⟩)
    · rw [q58r]
      refine tw_if_eq 44 dX10_country_20 (by decide) (fun c114 => absurd c114 (by decide)) (fun _ => ?_)
      refine tw_iload_n 3 dX10_country_23 rfl rfl ?_
      refine tw_iconst (v := 0) dX10_country_24 (by decide) ?_
      refine tw_ldc (v := 99999) dX10_country_25 w_1195 ?_
      refine tw_bi (tw_callS (M := mX10_country) (pc := 27) okX10_isIn dX10_country_27 w_1192 [.int go, .int 0, .int 99999] [.ref x] rfl rfl ⟨by decide, by decide⟩ (Nat.le_of_ble_eq_true rfl) (c_X10_isIn d g τ h sp0.1 go 0 99999) 10 60 (Nat.le_of_ble_eq_true rfl) (Nat.le_of_ble_eq_true rfl)) (fun r117 h116 q115 => ?_) (fun E h1 q => q.elim)
      obtain ⟨q115e, q115d⟩ := q115
      rw [q115e]
      rcases q115d with ⟨q115r, q115n⟩ | ⟨q115r, rlgo⟩
      · rw [q115r]
        refine tw_if_eq 44 dX10_country_30 (by decide) (fun _ => ?_) (fun c118 => absurd (by decide) c118)
        refine tw_iconst (v := 1) dX10_country_44 (by decide) ?_
        refine tw_goto 49 dX10_country_45 (by decide) ?_
        refine tw_iconst (v := 1) dX10_country_49 (by decide) ?_
        obtain ⟨e122, f123, th_124, td_125, ds_126, fr_127, ca_128, us_129, wo_130, cm_131, lc_132, lh_133, ld_134, rfl, k135, k136, k137, k138, k139, k140, k141, k142, k143, k144, k145, k146, k147, k148, k149, k150, k151, k152, k153, k154, k155, k156⟩ := sp0.1 x 36 kx (by decide)
        refine tw_bi (tw_callV (M := mX10_country) (pc := 50) okX10_start dX10_country_50 w_1196 rfl f123 [.int 1, .int 1] [] rfl rfl ⟨by decide, by decide⟩ (Nat.le_of_ble_eq_true rfl) (c_X10_start d g τ h sp0.1 x kx 1 1 (by decide)) 10 60 (Nat.le_of_ble_eq_true rfl) (Nat.le_of_ble_eq_true rfl)) (fun r159 h158 q157 => ?_) (fun E h1 q => q.elim)
        obtain ⟨e160, he161, hs162, hr163, hc164⟩ := q157
        obtain ⟨rz165, tz166⟩ := hc164.2 rfl
        have th167 : tw_th (h158 x) = 1 := by rw [he161, tw_up_s]; exact tz166
        have sp168 : tw_sp d τ h g τ h158 := by rw [he161]; exact sp0.set kx (by decide) hs162
        rw [rz165]
        have oq169 : h158 o = h o := by rw [he161, tw_up_n (tw_nk ko kx (by decide))] <;> exact oq0
        refine tw_if_ne 80 dX10_country_53 (by decide) (fun _ => ?_) (fun c170 => absurd c170 (by decide))
        refine tw_iconst (v := 0) dX10_country_80 (by decide) ?_
        exact tw_iret dX10_country_81 rfl (Or.inl ⟨_, rfl, _, _, sp168, oq169, Or.inl ⟨fun z => q115n z.2.2.1, th167, rfl⟩⟩)
      · rw [q115r]
        refine tw_if_eq 44 dX10_country_30 (by decide) (fun c171 => absurd c171 (by decide)) (fun _ => ?_)
        refine tw_iload 4 dX10_country_33 rfl ?_
        refine tw_iconst (v := 0) dX10_country_35 (by decide) ?_
        refine tw_ldc (v := 99999) dX10_country_36 w_1195 ?_
        refine tw_bi (tw_callS (M := mX10_country) (pc := 38) okX10_isIn dX10_country_38 w_1192 [.int si, .int 0, .int 99999] [.ref x] rfl rfl ⟨by decide, by decide⟩ (Nat.le_of_ble_eq_true rfl) (c_X10_isIn d g τ h sp0.1 si 0 99999) 10 60 (Nat.le_of_ble_eq_true rfl) (Nat.le_of_ble_eq_true rfl)) (fun r174 h173 q172 => ?_) (fun E h1 q => q.elim)
        obtain ⟨q172e, q172d⟩ := q172
        rw [q172e]
        rcases q172d with ⟨q172r, q172n⟩ | ⟨q172r, rlsi⟩
        · rw [q172r]
          refine tw_if_ne 48 dX10_country_41 (by decide) (fun c175 => absurd (by decide) c175) (fun _ => ?_)
          refine tw_iconst (v := 1) dX10_country_44 (by decide) ?_
          refine tw_goto 49 dX10_country_45 (by decide) ?_
          refine tw_iconst (v := 1) dX10_country_49 (by decide) ?_
          obtain ⟨e179, f180, th_181, td_182, ds_183, fr_184, ca_185, us_186, wo_187, cm_188, lc_189, lh_190, ld_191, rfl, k192, k193, k194, k195, k196, k197, k198, k199, k200, k201, k202, k203, k204, k205, k206, k207, k208, k209, k210, k211, k212, k213⟩ := sp0.1 x 36 kx (by decide)
          refine tw_bi (tw_callV (M := mX10_country) (pc := 50) okX10_start dX10_country_50 w_1196 rfl f180 [.int 1, .int 1] [] rfl rfl ⟨by decide, by decide⟩ (Nat.le_of_ble_eq_true rfl) (c_X10_start d g τ h sp0.1 x kx 1 1 (by decide)) 10 60 (Nat.le_of_ble_eq_true rfl) (Nat.le_of_ble_eq_true rfl)) (fun r216 h215 q214 => ?_) (fun E h1 q => q.elim)
          obtain ⟨e217, he218, hs219, hr220, hc221⟩ := q214
          obtain ⟨rz222, tz223⟩ := hc221.2 rfl
          have th224 : tw_th (h215 x) = 1 := by rw [he218, tw_up_s]; exact tz223
          have sp225 : tw_sp d τ h g τ h215 := by rw [he218]; exact sp0.set kx (by decide) hs219
          rw [rz222]
          have oq226 : h215 o = h o := by rw [he218, tw_up_n (tw_nk ko kx (by decide))] <;> exact oq0
          refine tw_if_ne 80 dX10_country_53 (by decide) (fun _ => ?_) (fun c227 => absurd c227 (by decide))
          refine tw_iconst (v := 0) dX10_country_80 (by decide) ?_
          exact tw_iret dX10_country_81 rfl (Or.inl ⟨_, rfl, _, _, sp225, oq226, Or.inl ⟨fun z => q172n z.2.2.2, th224, rfl⟩⟩)
        · rw [q172r]
          have rc9 : tw_RC r ct go si := ⟨rlr, rlct, rlgo, rlsi⟩
          refine tw_if_ne 48 dX10_country_41 (by decide) (fun _ => ?_) (fun c228 => absurd c228 (by decide))
          refine tw_iconst (v := 0) dX10_country_48 (by decide) ?_
          refine tw_iconst (v := 1) dX10_country_49 (by decide) ?_
          obtain ⟨e232, f233, th_234, td_235, ds_236, fr_237, ca_238, us_239, wo_240, cm_241, lc_242, lh_243, ld_244, rfl, k245, k246, k247, k248, k249, k250, k251, k252, k253, k254, k255, k256, k257, k258, k259, k260, k261, k262, k263, k264, k265, k266⟩ := sp0.1 x 36 kx (by decide)
          refine tw_bi (tw_callV (M := mX10_country) (pc := 50) okX10_start dX10_country_50 w_1196 rfl f233 [.int 0, .int 1] [] rfl rfl ⟨by decide, by decide⟩ (Nat.le_of_ble_eq_true rfl) (c_X10_start d g τ h sp0.1 x kx 0 1 (by decide)) 10 60 (Nat.le_of_ble_eq_true rfl) (Nat.le_of_ble_eq_true rfl)) (fun r269 h268 q267 => ?_) (fun E h1 q => q.elim)
          obtain ⟨e270, he271, hs272, hr273, hc274⟩ := q267
          obtain ⟨rz275, tz276⟩ := hc274.1 rfl
          have th277 : tw_th (h268 x) = 0 := by rw [he271, tw_up_s]; exact tz276
          have sp278 : tw_sp d τ h g τ h268 := by rw [he271]; exact sp0.set kx (by decide) hs272
          rw [rz275]
          have oq279 : h268 o = h o := by rw [he271, tw_up_n (tw_nk ko kx (by decide))] <;> exact oq0
          refine tw_if_ne 80 dX10_country_53 (by decide) (fun c280 => absurd (by decide) c280) (fun _ => ?_)
          refine tw_aload_n 0 dX10_country_56 rfl rfl ?_
          refine tw_aload_n 0 dX10_country_57 rfl rfl ?_
          obtain ⟨e281, f282, th_283, td_284, ds_285, fr_286, ca_287, us_288, wo_289, cm_290, lc_291, lh_292, ld_293, rfl, k294, k295, k296, k297, k298, k299, k300, k301, k302, k303, k304, k305, k306, k307, k308, k309, k310, k311, k312, k313, k314, k315⟩ := sp278.1 x 36 kx (by decide)
          refine tw_get (v := .ref lc_291) rfl in_14 9 dX10_country_58 w_1160 rfl (by decide) f282 rfl ?_
          obtain ⟨e319, f320, ⟨el321, rfl, k322⟩, k323⟩ := sp278.1 lc_291 24 k300 (by decide)
          refine tw_bi (tw_callV (M := mX10_country) (pc := 61) okJx4a65c_size_8abf5 dX10_country_61 w_1204 rfl f320 [] [.ref x] rfl rfl ⟨by decide, by decide⟩ (Nat.le_of_ble_eq_true rfl) (c24_size d g τ h268 sp278.1 lc_291 k300) 10 60 (Nat.le_of_ble_eq_true rfl) (Nat.le_of_ble_eq_true rfl)) (fun r326 h325 q324 => ?_) (fun E h1 q => q.elim)
          obtain ⟨q324e, q324r⟩ := q324
          rw [q324e, q324r]
          refine tw_iconst (v := 4) dX10_country_64 (by decide) ?_
          refine tw_icmp_ne 72 dX10_country_65 (by decide) (fun c327 => ?_) (fun c327 => ?_)
          · refine tw_iconst (v := 0) dX10_country_72 (by decide) ?_
            refine tw_iconst (v := 2) dX10_country_73 (by decide) ?_
            refine tw_bi (tw_callV (M := mX10_country) (pc := 74) okX10_refuse dX10_country_74 w_1200 rfl f282 [.int 0, .int 2] [] rfl rfl ⟨by decide, by decide⟩ (Nat.le_of_ble_eq_true rfl) (c_X10_refuse d g τ h268 sp278.1 x kx 0 2 (by decide)) 10 60 (Nat.le_of_ble_eq_true rfl) (Nat.le_of_ble_eq_true rfl)) (fun r333 h332 q331 => ?_) (fun E h1 q => q.elim)
            obtain ⟨e334, he335, hs336, hr337, hc338⟩ := q331
            obtain ⟨rz339, tz340⟩ := (hc338 th277).1 rfl
            have th341 : tw_th (h332 x) = 0 := by rw [he335, tw_up_s]; exact tz340
            have sp342 : tw_sp d τ h g τ h332 := by rw [he335]; exact sp278.set kx (by decide) hs336
            rw [rz339]
            have oq343 : h332 o = h o := by rw [he335, tw_up_n (tw_nk ko kx (by decide))] <;> exact oq279
            refine tw_if_eq 82 dX10_country_77 (by decide) (fun _ => ?_) (fun c344 => absurd (by decide) c344)
            refine tw_new (ci := 11) rfl in_11 tyX7 tyX7_ok dX10_country_82 w_1208 w_1209 w_91 (fs := [.int 0, .int 0, .null, .null, .null]) (fun j hj => by rcases (show j = 0 ∨ j = 1 ∨ j = 2 ∨ j = 3 ∨ j = 4 by omega) with rfl | rfl | rfl | rfl | rfl <;> rfl) 9 55 (Nat.le_of_ble_eq_true rfl) (Nat.le_of_ble_eq_true rfl) (fun q345 hq346 hA347 => ?_)
            have n348 := sp342.nn hq346
            have z349 := sp342.1.none hq346
            obtain ⟨h350, eh350⟩ : ∃ z : tw_H, z = tw_up h332 q345 (.inr (11, [.int 0, .int 0, .null, .null, .null])) := ⟨_, rfl⟩
            rw [← eh350]
            have th351 : tw_th (h350 x) = 0 := by rw [eh350, tw_up_n (tw_kF sp342.1 kx (by decide) hq346)] <;> exact th341
            have oq352 : h350 o = h o := by rw [eh350, tw_up_n (tw_kF sp342.1 ko (by decide) hq346)] <;> exact oq343
            have sp353 : tw_sp d τ h g τ h350 := by rw [eh350]; exact sp342.mk hq346
            have f354 : h350 q345 = some (.inr (11, [.int 0, .int 0, .null, .null, .null])) := by rw [eh350]; exact tw_up_s
            refine tw_dup dX10_country_85 rfl ?_
            refine tw_bv (tw_callIN (M := mX10_country) (pc := 86) okX7_init dX10_country_86 w_1210 rfl [] [.ref q345] rfl rfl ⟨by decide, by decide⟩ (Nat.le_of_ble_eq_true rfl) (c2_X7_init d g τ h350 sp353.1 q345 z349 f354) 6 46 (Nat.le_of_ble_eq_true rfl) (Nat.le_of_ble_eq_true rfl)) (fun h356 q355 => ?_) (fun E h1 q => q.elim)
            obtain ⟨v357, o358, t359, F363, q355s, f360, ⟨f364, xn365, no366, z367⟩, ⟨f368, xn369, no370, z371⟩, ⟨f372, xn373, no374, z375⟩, ne376, ne377, ne378, fF379, fz380, fr361⟩ := q355
            have th381 : tw_th (h356 x) = 0 := by rw [fr361 x (tw_nz kx z349 (by decide)) (fun z => by obtain ⟨e, y, -⟩ := sp353.1 x 36 kx (by decide); rw [z] at y; cases y)]; exact th351
            have oq382 : h356 o = h o := by rw [fr361 o (tw_nk ko z349 (by decide)) (tw_some sp353.1 ko (by decide))] <;> exact oq352
            have sp362 := sp353.trm n348 q355s
            have n383 := sp353.nn (a := v357) (by have z := no366; unfold tw_rm at z; rw [if_neg (Ne.symm xn365)] at z; exact z)
            have n384 := sp353.nn (a := o358) (by have z := no370; unfold tw_rm at z; rw [if_neg (Ne.symm xn369)] at z; exact z)
            have n385 := sp353.nn (a := t359) (by have z := no374; unfold tw_rm at z; rw [if_neg (Ne.symm xn373)] at z; exact z)
            refine tw_astore [(5, .ref q345), (0, .ref x), (1, .int r), (2, .int ct), (3, .int go), (4, .int si)] dX10_country_89 (by decide) rfl ?_
            refine tw_aload 0 dX10_country_91 rfl ?_
            refine tw_iload_n 2 dX10_country_93 rfl rfl ?_
            refine tw_put rfl in_11 tyX7 tyX7_ok nmX7 0 dX10_country_94 w_1214 rfl (by decide) f360 rfl rfl rfl rfl (Nat.le_of_ble_eq_true rfl) [.int r, .int 0, .ref v357, .ref o358, .ref t359] rfl ?_
            obtain ⟨h386, eh386⟩ : ∃ z : tw_H, z = tw_up h356 q345 (.inr (11, [.int r, .int 0, .ref v357, .ref o358, .ref t359])) := ⟨_, rfl⟩
            rw [← eh386]
            have th387 : tw_th (h386 x) = 0 := by rw [eh386, tw_up_n (tw_nk kx z349 (by decide))] <;> exact th381
            have oq388 : h386 o = h o := by rw [eh386, tw_up_n (tw_nk ko z349 (by decide))] <;> exact oq382
            have sp389 : tw_sp d τ h g τ h386 := by rw [eh386]; exact sp362.wl n348 z349
            have f390 : h386 v357 = some (.inl (d.2 1, 2, .inr (.inl (fun _ => 0)))) := by rw [eh386, tw_up_n (Ne.symm xn365)]; exact f364
            have f391 : h386 o358 = some (.inl (d.2 2, 2, .inl F363)) := by rw [eh386, tw_up_n (Ne.symm xn369)]; exact f368
            have f392 : h386 t359 = some (.inl (d.2 0, 5, .inl (fun _ => 0))) := by rw [eh386, tw_up_n (Ne.symm xn373)]; exact f372
            have f393 : h386 q345 = some (.inr (11, [.int r, .int 0, .ref v357, .ref o358, .ref t359])) := by rw [eh386]; exact tw_up_s
            refine tw_aload 0 dX10_country_97 rfl ?_
            refine tw_iload_n 3 dX10_country_99 rfl rfl ?_
            refine tw_put rfl in_11 tyX7 tyX7_ok nmX7 1 dX10_country_100 w_1215 rfl (by decide) f393 rfl rfl rfl rfl (Nat.le_of_ble_eq_true rfl) [.int r, .int ct, .ref v357, .ref o358, .ref t359] rfl ?_
            obtain ⟨h394, eh394⟩ : ∃ z : tw_H, z = tw_up h386 q345 (.inr (11, [.int r, .int ct, .ref v357, .ref o358, .ref t359])) := ⟨_, rfl⟩
            rw [← eh394]
            have th395 : tw_th (h394 x) = 0 := by rw [eh394, tw_up_n (tw_nk kx z349 (by decide))] <;> exact th387
            have oq396 : h394 o = h o := by rw [eh394, tw_up_n (tw_nk ko z349 (by decide))] <;> exact oq388
            have sp397 : tw_sp d τ h g τ h394 := by rw [eh394]; exact sp389.wl n348 z349
            have f398 : h394 v357 = some (.inl (d.2 1, 2, .inr (.inl (fun _ => 0)))) := by rw [eh394, tw_up_n (Ne.symm xn365)]; exact f390
            have f399 : h394 o358 = some (.inl (d.2 2, 2, .inl F363)) := by rw [eh394, tw_up_n (Ne.symm xn369)]; exact f391
            have f400 : h394 t359 = some (.inl (d.2 0, 5, .inl (fun _ => 0))) := by rw [eh394, tw_up_n (Ne.symm xn373)]; exact f392
            have f401 : h394 q345 = some (.inr (11, [.int r, .int ct, .ref v357, .ref o358, .ref t359])) := by rw [eh394]; exact tw_up_s
            refine tw_aload 0 dX10_country_103 rfl ?_
            refine tw_get (v := .ref v357) rfl in_11 2 dX10_country_105 w_1217 rfl (by decide) f401 rfl ?_
            refine tw_iconst (v := 0) dX10_country_108 (by decide) ?_
            refine tw_iload_n 4 dX10_country_109 rfl rfl ?_
            refine tw_i2l dX10_country_110 ?_
            refine tw_nml (fun v402 ev402 => ?_)
            refine tw_last dX10_country_111 f398 (vp_in_nI (n := 0) (by decide) (by decide)) ?_
            obtain ⟨F403, eF403⟩ : ∃ z : Nat → Int64, z = vp_updL (fun _ => 0) (0 : Int32).toNatClampNeg v402 := ⟨_, rfl⟩
            rw [← eF403]
            obtain ⟨h404, eh404⟩ : ∃ z : tw_H, z = tw_up h394 v357 (.inl (d.2 1, 2, .inr (.inl F403))) := ⟨_, rfl⟩
            rw [← eh404]
            have th405 : tw_th (h404 x) = 0 := by rw [eh404, tw_up_n (tw_nk kx z367 (by decide))] <;> exact th395
            have oq406 : h404 o = h o := by rw [eh404, tw_up_n (tw_nk ko z367 (by decide))] <;> exact oq396
            have sp407 : tw_sp d τ h g τ h404 := by rw [eh404]; exact sp397.wl n383 z367
            have f408 : h404 o358 = some (.inl (d.2 2, 2, .inl F363)) := by rw [eh404, tw_up_n (Ne.symm ne376)]; exact f399
            have f409 : h404 t359 = some (.inl (d.2 0, 5, .inl (fun _ => 0))) := by rw [eh404, tw_up_n (Ne.symm ne377)]; exact f400
            have f410 : h404 q345 = some (.inr (11, [.int r, .int ct, .ref v357, .ref o358, .ref t359])) := by rw [eh404, tw_up_n xn365]; exact f401
            have f411 : h404 v357 = some (.inl (d.2 1, 2, .inr (.inl F403))) := by rw [eh404]; exact tw_up_s
            refine tw_aload 0 dX10_country_112 rfl ?_
            refine tw_get (v := .ref v357) rfl in_11 2 dX10_country_114 w_1217 rfl (by decide) f410 rfl ?_
            refine tw_iconst (v := 1) dX10_country_117 (by decide) ?_
            refine tw_iload 5 dX10_country_118 rfl ?_
            refine tw_i2l dX10_country_120 ?_
            refine tw_nml (fun v412 ev412 => ?_)
            refine tw_last dX10_country_121 f411 (vp_in_nI (n := 1) (by decide) (by decide)) ?_
            obtain ⟨F413, eF413⟩ : ∃ z : Nat → Int64, z = vp_updL F403 (1 : Int32).toNatClampNeg v412 := ⟨_, rfl⟩
            rw [← eF413]
            obtain ⟨h414, eh414⟩ : ∃ z : tw_H, z = tw_up h404 v357 (.inl (d.2 1, 2, .inr (.inl F413))) := ⟨_, rfl⟩
            rw [← eh414]
            have th415 : tw_th (h414 x) = 0 := by rw [eh414, tw_up_n (tw_nk kx z367 (by decide))] <;> exact th405
            have oq416 : h414 o = h o := by rw [eh414, tw_up_n (tw_nk ko z367 (by decide))] <;> exact oq406
            have sp417 : tw_sp d τ h g τ h414 := by rw [eh414]; exact sp407.wl n383 z367
            have f418 : h414 o358 = some (.inl (d.2 2, 2, .inl F363)) := by rw [eh414, tw_up_n (Ne.symm ne376)]; exact f408
            have f419 : h414 t359 = some (.inl (d.2 0, 5, .inl (fun _ => 0))) := by rw [eh414, tw_up_n (Ne.symm ne377)]; exact f409
            have f420 : h414 q345 = some (.inr (11, [.int r, .int ct, .ref v357, .ref o358, .ref t359])) := by rw [eh414, tw_up_n xn365]; exact f410
            have f421 : h414 v357 = some (.inl (d.2 1, 2, .inr (.inl F413))) := by rw [eh414]; exact tw_up_s
            refine tw_aload_n 1 dX10_country_122 rfl rfl ?_
            obtain ⟨e422, f423, th_424, td_425, ds_426, fr_427, ca_428, us_429, wo_430, cm_431, lc_432, lh_433, ld_434, rfl, k435, k436, k437, k438, k439, k440, k441, k442, k443, k444, k445, k446, k447, k448, k449, k450, k451, k452, k453, k454, k455, k456⟩ := sp417.1 x 36 kx (by decide)
            refine tw_get (v := .ref cm_431) rfl in_14 8 dX10_country_123 w_1159 rfl (by decide) f423 rfl ?_
            refine tw_iconst (v := 0) dX10_country_126 (by decide) ?_
            refine tw_dup2 dX10_country_127 rfl rfl ?_
            obtain ⟨e457, f458, F459, rfl, ⟨b461, ow462, wv463⟩⟩ := sp417.1 cm_431 31 k440 (by decide)
            obtain rfl : 1368 = b461 := (ow462.b k456).symm
            have ev464 : F459 (0 : Int32).toNatClampNeg = (g.1 (1368 + 0)).toInt64 := by rw [show (0 : Int32).toNatClampNeg = 0 by decide]; exact wv463 0 (by omega)
            refine tw_lald (v := (g.1 (1368 + 0)).toInt64) dX10_country_128 f458 (vp_in_nI (n := 0) (by decide) (by decide)) ev464 ?_
            refine tw_iload_n 4 dX10_country_129 rfl rfl ?_
            refine tw_i2l dX10_country_130 ?_
            refine tw_nml (fun v465 ev465 => ?_)
            refine tw_ladd dX10_country_131 ?_
            refine tw_nml (fun v466 ev466 => ?_)
            obtain ⟨n467, hn467, en467⟩ := tw_grm rlgo.1 rlgo.2
            obtain ⟨n468, hn468, en468⟩ := tw_grm rlsi.1 rlsi.2
            obtain ⟨n469, hn469, en469⟩ := tw_grm rlgo.1 rlgo.2
            have ce470 : (g.1 (1368 + 0)) = nI (tw_DN (g.1 (1368 + 0))) := by (repeat (first | rw [tw_ad_ne (by omega)] | rw [tw_g1_ne (by omega)])); exact (he.s (s := 3) (k := 0) (by decide) (by omega)).1
            have cb471 : tw_DN (g.1 (1368 + 0)) ≤ 59000000 := (he.s (s := 3) (k := 0) (by decide) (by omega)).2
            refine tw_last dX10_country_132 f458 (vp_in_nI (n := 0) (by decide) (by decide)) ?_
            rw [show (0 : Int32).toNatClampNeg = 0 by decide]
            obtain ⟨h472, eh472⟩ : ∃ z : tw_H, z = tw_up h414 cm_431 (.inl (d.2 1, 2, .inr (.inl (vp_updL F459 0 v466)))) := ⟨_, rfl⟩
            rw [← eh472]
            have th473 : tw_th (h472 x) = 0 := by rw [eh472, tw_up_n (tw_nk kx k440 (by decide))] <;> exact th415
            have oq474 : h472 o = h o := by rw [eh472, tw_up_n (tw_nk ko k440 (by decide))] <;> exact oq416
            have sp475 : tw_sp d τ h (tw_ad g (1368 + 0) go) τ h472 := by rw [eh472]; exact sp417.wb k440 (by decide) ow462 ⟨_, rfl, tw_f31.up ow462 wv463 (by rw [en469]; exact (ev466.trans (tw_l_add ce470 (by rw [ev465, en469]; exact tw_L_i (by omega)) (by omega))))⟩ (fun q9 hq9 => tw_ad_ne (by omega)) rfl
            have f476 : h472 o358 = some (.inl (d.2 2, 2, .inl F363)) := by rw [eh472, tw_up_n (fun q => absurd (z371) (by rw [q, k440]; decide))]; exact f418
            have f477 : h472 t359 = some (.inl (d.2 0, 5, .inl (fun _ => 0))) := by rw [eh472, tw_up_n (fun q => absurd (z375) (by rw [q, k440]; decide))]; exact f419
            have f478 : h472 q345 = some (.inr (11, [.int r, .int ct, .ref v357, .ref o358, .ref t359])) := by rw [eh472, tw_up_n (fun q => absurd (z349) (by rw [q, k440]; decide))]; exact f420
            have f479 : h472 v357 = some (.inl (d.2 1, 2, .inr (.inl F413))) := by rw [eh472, tw_up_n (fun q => absurd (z367) (by rw [q, k440]; decide))]; exact f421
            refine tw_aload_n 1 dX10_country_133 rfl rfl ?_
            obtain ⟨e480, f481, th_482, td_483, ds_484, fr_485, ca_486, us_487, wo_488, cm_489, lc_490, lh_491, ld_492, rfl, k493, k494, k495, k496, k497, k498, k499, k500, k501, k502, k503, k504, k505, k506, k507, k508, k509, k510, k511, k512, k513, k514⟩ := sp475.1 x 36 kx (by decide)
            refine tw_get (v := .ref cm_489) rfl in_14 8 dX10_country_134 w_1159 rfl (by decide) f481 rfl ?_
            refine tw_iconst (v := 1) dX10_country_137 (by decide) ?_
            refine tw_dup2 dX10_country_138 rfl rfl ?_
            obtain ⟨e515, f516, F517, rfl, ⟨b519, ow520, wv521⟩⟩ := sp475.1 cm_489 31 k498 (by decide)
            obtain rfl : 1368 = b519 := (ow520.b k514).symm
            have ev522 : F517 (1 : Int32).toNatClampNeg = ((tw_ad g (1368 + 0) go).1 (1368 + 1)).toInt64 := by rw [show (1 : Int32).toNatClampNeg = 1 by decide]; exact wv521 1 (by omega)
            refine tw_lald (v := ((tw_ad g (1368 + 0) go).1 (1368 + 1)).toInt64) dX10_country_139 f516 (vp_in_nI (n := 1) (by decide) (by decide)) ev522 ?_
            refine tw_iload 5 dX10_country_140 rfl ?_
            refine tw_i2l dX10_country_142 ?_
            refine tw_nml (fun v523 ev523 => ?_)
            refine tw_ladd dX10_country_143 ?_
            refine tw_nml (fun v524 ev524 => ?_)
            obtain ⟨n525, hn525, en525⟩ := tw_grm rlsi.1 rlsi.2
            have ce526 : ((tw_ad g (1368 + 0) go).1 (1368 + 1)) = nI (tw_DN (g.1 (1368 + 1))) := by (repeat (first | rw [tw_ad_ne (by omega)] | rw [tw_g1_ne (by omega)])); exact (he.s (s := 3) (k := 1) (by decide) (by omega)).1
            have cb527 : tw_DN (g.1 (1368 + 1)) ≤ 59000000 := (he.s (s := 3) (k := 1) (by decide) (by omega)).2
            refine tw_last dX10_country_144 f516 (vp_in_nI (n := 1) (by decide) (by decide)) ?_
            rw [show (1 : Int32).toNatClampNeg = 1 by decide]
            obtain ⟨h528, eh528⟩ : ∃ z : tw_H, z = tw_up h472 cm_489 (.inl (d.2 1, 2, .inr (.inl (vp_updL F517 1 v524)))) := ⟨_, rfl⟩
            rw [← eh528]
            have th529 : tw_th (h528 x) = 0 := by rw [eh528, tw_up_n (tw_nk kx k498 (by decide))] <;> exact th473
            have oq530 : h528 o = h o := by rw [eh528, tw_up_n (tw_nk ko k498 (by decide))] <;> exact oq474
            have sp531 : tw_sp d τ h (tw_ad (tw_ad g (1368 + 0) go) (1368 + 1) si) τ h528 := by rw [eh528]; exact sp475.wb k498 (by decide) ow520 ⟨_, rfl, tw_f31.up ow520 wv521 (by rw [en525]; exact (ev524.trans (tw_l_add ce526 (by rw [ev523, en525]; exact tw_L_i (by omega)) (by omega))))⟩ (fun q9 hq9 => tw_ad_ne (by omega)) rfl
            have f532 : h528 o358 = some (.inl (d.2 2, 2, .inl F363)) := by rw [eh528, tw_up_n (fun q => absurd (z371) (by rw [q, k498]; decide))]; exact f476
            have f533 : h528 t359 = some (.inl (d.2 0, 5, .inl (fun _ => 0))) := by rw [eh528, tw_up_n (fun q => absurd (z375) (by rw [q, k498]; decide))]; exact f477
            have f534 : h528 q345 = some (.inr (11, [.int r, .int ct, .ref v357, .ref o358, .ref t359])) := by rw [eh528, tw_up_n (fun q => absurd (z349) (by rw [q, k498]; decide))]; exact f478
            have f535 : h528 v357 = some (.inl (d.2 1, 2, .inr (.inl F413))) := by rw [eh528, tw_up_n (fun q => absurd (z367) (by rw [q, k498]; decide))]; exact f479
            refine tw_aload_n 1 dX10_country_145 rfl rfl ?_
            obtain ⟨e536, f537, th_538, td_539, ds_540, fr_541, ca_542, us_543, wo_544, cm_545, lc_546, lh_547, ld_548, rfl, k549, k550, k551, k552, k553, k554, k555, k556, k557, k558, k559, k560, k561, k562, k563, k564, k565, k566, k567, k568, k569, k570⟩ := sp531.1 x 36 kx (by decide)
            refine tw_get (v := .ref lc_546) rfl in_14 9 dX10_country_146 w_1160 rfl (by decide) f537 rfl ?_
            refine tw_aload 0 dX10_country_149 rfl ?_
            have hb8 : g.2 3 + 1 ≤ 4 := (tw_n4 c327 k558 (by decide))
            have lc9 : g.2 3 < 4 := by omega
            obtain ⟨gD, egD⟩ : ∃ z : tw_G, z = (tw_ad (tw_ad g (1368 + 0) go) (1368 + 1) si) := ⟨_, rfl⟩
            have d2 : gD.2 = g.2 := by rw [egD] <;> rfl
            have sp571 : tw_sp d τ h gD τ h528 := by rw [egD]; exact sp531
            have fF0 : F413 0 = v402 := by rw [eF413, eF403]; rfl
            have fF1 : F413 1 = v412 := by rw [eF413, eF403]; rfl
            have oo := tw_gN_o (g := gD) (b := (480 + 64 * g.2 3)) (j := g.2 3) (x := q345) (o := o358) (t := t359) (v := v357) (r := r) (c := ct) (gd := go) (sv := si) rfl lc9 xn369
            have vv := tw_gN_v (g := gD) (b := (480 + 64 * g.2 3)) (x := q345) (o := o358) (t := t359) (v := v357) (r := r) (c := ct) (gd := go) (sv := si)
            have ot := tw_gN_t (g := gD) (b := (480 + 64 * g.2 3)) (j := g.2 3) (x := q345) (o := o358) (t := t359) (v := v357) (r := r) (c := ct) (gd := go) (sv := si) rfl lc9 (Ne.symm xn373) (Ne.symm ne378)
            have ov := tw_gN_w9 (g := gD) (b := (480 + 64 * g.2 3)) (j := g.2 3) (x := q345) (o := o358) (t := t359) (v := v357) (r := r) (c := ct) (gd := go) (sv := si) rfl lc9 (Ne.symm xn365) ne376 ne377
            have ww := tw_gN_w (g := gD) (b := (480 + 64 * g.2 3)) (j := g.2 3) (τ := τ) (x := q345) (o := o358) (t := t359) (v := v357) (r := r) (c := ct) (gd := go) (sv := si) rfl lc9 (by rw [d2]; exact he9) z349 z371 z375 z367
            have gn3 : (tw_gN gD (480 + 64 * g.2 3) q345 o358 t359 v357 r ct go si).2 3 = g.2 3 := by rw [tw_gN_2 (by decide) (by omega) (by omega), d2]
            obtain ⟨gN, egN⟩ : ∃ z : tw_G, z = tw_gN gD (480 + 64 * g.2 3) q345 o358 t359 v357 r ct go si := ⟨_, rfl⟩
            rw [← egN] at oo vv ww gn3 ot ov
            have sp572 : tw_sp d τ h gN τ h528 := sp571.gw2 ww
            obtain ⟨τ573, eτ573⟩ : ∃ z : tw_K, z = tw_ku τ o358 32 := ⟨_, rfl⟩
            have le574 : tw_le τ τ573 := by rw [eτ573]; exact tw_ku_le z371
            have k575 : τ573 x = 36 := le574.k kx (by decide)
            have k576 : τ573 o = 12 := le574.k ko (by decide)
            have k577 : τ573 ds_236 = 34 := le574.k k245 (by decide)
            have k578 : τ573 fr_237 = 34 := le574.k k246 (by decide)
            have k579 : τ573 ca_238 = 31 := le574.k k247 (by decide)
            have k580 : τ573 us_239 = 31 := le574.k k248 (by decide)
            have k581 : τ573 wo_240 = 31 := le574.k k249 (by decide)
            have k582 : τ573 cm_241 = 31 := le574.k k250 (by decide)
            have k583 : τ573 lc_242 = 24 := le574.k k251 (by decide)
            have k584 : τ573 lh_243 = 25 := le574.k k252 (by decide)
            have k585 : τ573 ld_244 = 26 := le574.k k253 (by decide)
            have k586 : τ573 ds_285 = 34 := le574.k k294 (by decide)
            have k587 : τ573 fr_286 = 34 := le574.k k295 (by decide)
            have k588 : τ573 ca_287 = 31 := le574.k k296 (by decide)
            have k589 : τ573 us_288 = 31 := le574.k k297 (by decide)
            have k590 : τ573 wo_289 = 31 := le574.k k298 (by decide)
            have k591 : τ573 cm_290 = 31 := le574.k k299 (by decide)
            have k592 : τ573 lc_291 = 24 := le574.k k300 (by decide)
            have k593 : τ573 lh_292 = 25 := le574.k k301 (by decide)
            have k594 : τ573 ld_293 = 26 := le574.k k302 (by decide)
            have k595 : τ573 ds_426 = 34 := le574.k k435 (by decide)
            have k596 : τ573 fr_427 = 34 := le574.k k436 (by decide)
            have k597 : τ573 ca_428 = 31 := le574.k k437 (by decide)
            have k598 : τ573 us_429 = 31 := le574.k k438 (by decide)
            have k599 : τ573 wo_430 = 31 := le574.k k439 (by decide)
            have k600 : τ573 cm_431 = 31 := le574.k k440 (by decide)
            have k601 : τ573 lc_432 = 24 := le574.k k441 (by decide)
            have k602 : τ573 lh_433 = 25 := le574.k k442 (by decide)
            have k603 : τ573 ld_434 = 26 := le574.k k443 (by decide)
            have k604 : τ573 ds_484 = 34 := le574.k k493 (by decide)
            have k605 : τ573 fr_485 = 34 := le574.k k494 (by decide)
            have k606 : τ573 ca_486 = 31 := le574.k k495 (by decide)
            have k607 : τ573 us_487 = 31 := le574.k k496 (by decide)
            have k608 : τ573 wo_488 = 31 := le574.k k497 (by decide)
            have k609 : τ573 cm_489 = 31 := le574.k k498 (by decide)
            have k610 : τ573 lc_490 = 24 := le574.k k499 (by decide)
            have k611 : τ573 lh_491 = 25 := le574.k k500 (by decide)
            have k612 : τ573 ld_492 = 26 := le574.k k501 (by decide)
            have k613 : τ573 ds_540 = 34 := le574.k k549 (by decide)
            have k614 : τ573 fr_541 = 34 := le574.k k550 (by decide)
            have k615 : τ573 ca_542 = 31 := le574.k k551 (by decide)
            have k616 : τ573 us_543 = 31 := le574.k k552 (by decide)
            have k617 : τ573 wo_544 = 31 := le574.k k553 (by decide)
            have k618 : τ573 cm_545 = 31 := le574.k k554 (by decide)
            have k619 : τ573 lc_546 = 24 := le574.k k555 (by decide)
            have k620 : τ573 lh_547 = 25 := le574.k k556 (by decide)
            have k621 : τ573 ld_548 = 26 := le574.k k557 (by decide)
            have sp622 : tw_sp d τ h gN τ573 h528 := by rw [eτ573]; exact sp572.ty n384 z371 f532 (by rw [← eτ573]; exact ⟨_, rfl, fz380, _, oo.2, fun k hk => (fF379 k hk).trans (vv.2.2 k hk).symm⟩)
            have k623 : τ573 o358 = 32 := by rw [eτ573]; exact tw_ku_s
            have z624 : τ573 q345 = 0 := by rw [eτ573, tw_ku_n xn369]; exact z349
            have z625 : τ573 v357 = 0 := by rw [eτ573, tw_ku_n ne376]; exact z367
            have z626 : τ573 t359 = 0 := by rw [eτ573, tw_ku_n (Ne.symm ne378)]; exact z375
            obtain ⟨τ627, eτ627⟩ : ∃ z : tw_K, z = tw_ku τ573 t359 33 := ⟨_, rfl⟩
            have le628 : tw_le τ573 τ627 := by rw [eτ627]; exact tw_ku_le z626
            have k629 : τ627 x = 36 := le628.k k575 (by decide)
            have k630 : τ627 o = 12 := le628.k k576 (by decide)
            have k631 : τ627 ds_236 = 34 := le628.k k577 (by decide)
            have k632 : τ627 fr_237 = 34 := le628.k k578 (by decide)
            have k633 : τ627 ca_238 = 31 := le628.k k579 (by decide)
            have k634 : τ627 us_239 = 31 := le628.k k580 (by decide)
            have k635 : τ627 wo_240 = 31 := le628.k k581 (by decide)
            have k636 : τ627 cm_241 = 31 := le628.k k582 (by decide)
            have k637 : τ627 lc_242 = 24 := le628.k k583 (by decide)
            have k638 : τ627 lh_243 = 25 := le628.k k584 (by decide)
            have k639 : τ627 ld_244 = 26 := le628.k k585 (by decide)
            have k640 : τ627 ds_285 = 34 := le628.k k586 (by decide)
            have k641 : τ627 fr_286 = 34 := le628.k k587 (by decide)
            have k642 : τ627 ca_287 = 31 := le628.k k588 (by decide)
            have k643 : τ627 us_288 = 31 := le628.k k589 (by decide)
            have k644 : τ627 wo_289 = 31 := le628.k k590 (by decide)
            have k645 : τ627 cm_290 = 31 := le628.k k591 (by decide)
            have k646 : τ627 lc_291 = 24 := le628.k k592 (by decide)
            have k647 : τ627 lh_292 = 25 := le628.k k593 (by decide)
            have k648 : τ627 ld_293 = 26 := le628.k k594 (by decide)
            have k649 : τ627 ds_426 = 34 := le628.k k595 (by decide)
            have k650 : τ627 fr_427 = 34 := le628.k k596 (by decide)
            have k651 : τ627 ca_428 = 31 := le628.k k597 (by decide)
            have k652 : τ627 us_429 = 31 := le628.k k598 (by decide)
            have k653 : τ627 wo_430 = 31 := le628.k k599 (by decide)
            have k654 : τ627 cm_431 = 31 := le628.k k600 (by decide)
            have k655 : τ627 lc_432 = 24 := le628.k k601 (by decide)
            have k656 : τ627 lh_433 = 25 := le628.k k602 (by decide)
            have k657 : τ627 ld_434 = 26 := le628.k k603 (by decide)
            have k658 : τ627 ds_484 = 34 := le628.k k604 (by decide)
            have k659 : τ627 fr_485 = 34 := le628.k k605 (by decide)
            have k660 : τ627 ca_486 = 31 := le628.k k606 (by decide)
            have k661 : τ627 us_487 = 31 := le628.k k607 (by decide)
            have k662 : τ627 wo_488 = 31 := le628.k k608 (by decide)
            have k663 : τ627 cm_489 = 31 := le628.k k609 (by decide)
            have k664 : τ627 lc_490 = 24 := le628.k k610 (by decide)
            have k665 : τ627 lh_491 = 25 := le628.k k611 (by decide)
            have k666 : τ627 ld_492 = 26 := le628.k k612 (by decide)
            have k667 : τ627 ds_540 = 34 := le628.k k613 (by decide)
            have k668 : τ627 fr_541 = 34 := le628.k k614 (by decide)
            have k669 : τ627 ca_542 = 31 := le628.k k615 (by decide)
            have k670 : τ627 us_543 = 31 := le628.k k616 (by decide)
            have k671 : τ627 wo_544 = 31 := le628.k k617 (by decide)
            have k672 : τ627 cm_545 = 31 := le628.k k618 (by decide)
            have k673 : τ627 lc_546 = 24 := le628.k k619 (by decide)
            have k674 : τ627 lh_547 = 25 := le628.k k620 (by decide)
            have k675 : τ627 ld_548 = 26 := le628.k k621 (by decide)
            have k676 : τ627 o358 = 32 := le628.k k623 (by decide)
            have sp677 : tw_sp d τ h gN τ627 h528 := by rw [eτ627]; exact sp622.ty n385 z626 f533 (by rw [← eτ627]; exact ⟨_, rfl, fun _ => by decide, _, ot.1, fun k hk => (ot.2 k hk).symm⟩)
            have k678 : τ627 t359 = 33 := by rw [eτ627]; exact tw_ku_s
            have z679 : τ627 q345 = 0 := by rw [eτ627, tw_ku_n xn373]; exact z624
            have z680 : τ627 v357 = 0 := by rw [eτ627, tw_ku_n ne377]; exact z625
            obtain ⟨τ681, eτ681⟩ : ∃ z : tw_K, z = tw_ku τ627 v357 31 := ⟨_, rfl⟩
            have le682 : tw_le τ627 τ681 := by rw [eτ681]; exact tw_ku_le z680
            have k683 : τ681 x = 36 := le682.k k629 (by decide)
            have k684 : τ681 o = 12 := le682.k k630 (by decide)
            have k685 : τ681 ds_236 = 34 := le682.k k631 (by decide)
            have k686 : τ681 fr_237 = 34 := le682.k k632 (by decide)
            have k687 : τ681 ca_238 = 31 := le682.k k633 (by decide)
            have k688 : τ681 us_239 = 31 := le682.k k634 (by decide)
            have k689 : τ681 wo_240 = 31 := le682.k k635 (by decide)
            have k690 : τ681 cm_241 = 31 := le682.k k636 (by decide)
            have k691 : τ681 lc_242 = 24 := le682.k k637 (by decide)
            have k692 : τ681 lh_243 = 25 := le682.k k638 (by decide)
            have k693 : τ681 ld_244 = 26 := le682.k k639 (by decide)
            have k694 : τ681 ds_285 = 34 := le682.k k640 (by decide)
            have k695 : τ681 fr_286 = 34 := le682.k k641 (by decide)
            have k696 : τ681 ca_287 = 31 := le682.k k642 (by decide)
            have k697 : τ681 us_288 = 31 := le682.k k643 (by decide)
            have k698 : τ681 wo_289 = 31 := le682.k k644 (by decide)
            have k699 : τ681 cm_290 = 31 := le682.k k645 (by decide)
            have k700 : τ681 lc_291 = 24 := le682.k k646 (by decide)
            have k701 : τ681 lh_292 = 25 := le682.k k647 (by decide)
            have k702 : τ681 ld_293 = 26 := le682.k k648 (by decide)
            have k703 : τ681 ds_426 = 34 := le682.k k649 (by decide)
            have k704 : τ681 fr_427 = 34 := le682.k k650 (by decide)
            have k705 : τ681 ca_428 = 31 := le682.k k651 (by decide)
            have k706 : τ681 us_429 = 31 := le682.k k652 (by decide)
            have k707 : τ681 wo_430 = 31 := le682.k k653 (by decide)
            have k708 : τ681 cm_431 = 31 := le682.k k654 (by decide)
            have k709 : τ681 lc_432 = 24 := le682.k k655 (by decide)
            have k710 : τ681 lh_433 = 25 := le682.k k656 (by decide)
            have k711 : τ681 ld_434 = 26 := le682.k k657 (by decide)
            have k712 : τ681 ds_484 = 34 := le682.k k658 (by decide)
            have k713 : τ681 fr_485 = 34 := le682.k k659 (by decide)
            have k714 : τ681 ca_486 = 31 := le682.k k660 (by decide)
            have k715 : τ681 us_487 = 31 := le682.k k661 (by decide)
            have k716 : τ681 wo_488 = 31 := le682.k k662 (by decide)
            have k717 : τ681 cm_489 = 31 := le682.k k663 (by decide)
            have k718 : τ681 lc_490 = 24 := le682.k k664 (by decide)
            have k719 : τ681 lh_491 = 25 := le682.k k665 (by decide)
            have k720 : τ681 ld_492 = 26 := le682.k k666 (by decide)
            have k721 : τ681 ds_540 = 34 := le682.k k667 (by decide)
            have k722 : τ681 fr_541 = 34 := le682.k k668 (by decide)
            have k723 : τ681 ca_542 = 31 := le682.k k669 (by decide)
            have k724 : τ681 us_543 = 31 := le682.k k670 (by decide)
            have k725 : τ681 wo_544 = 31 := le682.k k671 (by decide)
            have k726 : τ681 cm_545 = 31 := le682.k k672 (by decide)
            have k727 : τ681 lc_546 = 24 := le682.k k673 (by decide)
            have k728 : τ681 lh_547 = 25 := le682.k k674 (by decide)
            have k729 : τ681 ld_548 = 26 := le682.k k675 (by decide)
            have k730 : τ681 o358 = 32 := le682.k k676 (by decide)
            have k731 : τ681 t359 = 33 := le682.k k678 (by decide)
            have sp732 : tw_sp d τ h gN τ681 h528 := by rw [eτ681]; exact sp677.ty n383 z680 f535 (by rw [← eτ681]; exact ⟨_, rfl, _, ov.1, fun k hk => by rcases (show k = 0 ∨ k = 1 by omega) with rfl | rfl; (rw [fF0, ev402]; exact congrArg Int32.toInt64 ov.2.1.symm); (rw [fF1, ev412]; exact congrArg Int32.toInt64 ov.2.2.symm)⟩)
            have k733 : τ681 v357 = 31 := by rw [eτ681]; exact tw_ku_s
            have z734 : τ681 q345 = 0 := by rw [eτ681, tw_ku_n xn365]; exact z679
            obtain ⟨τ735, eτ735⟩ : ∃ z : tw_K, z = tw_ku τ681 q345 21 := ⟨_, rfl⟩
            have le736 : tw_le τ681 τ735 := by rw [eτ735]; exact tw_ku_le z734
            have k737 : τ735 x = 36 := le736.k k683 (by decide)
            have k738 : τ735 o = 12 := le736.k k684 (by decide)
            have k739 : τ735 ds_236 = 34 := le736.k k685 (by decide)
            have k740 : τ735 fr_237 = 34 := le736.k k686 (by decide)
            have k741 : τ735 ca_238 = 31 := le736.k k687 (by decide)
            have k742 : τ735 us_239 = 31 := le736.k k688 (by decide)
            have k743 : τ735 wo_240 = 31 := le736.k k689 (by decide)
            have k744 : τ735 cm_241 = 31 := le736.k k690 (by decide)
            have k745 : τ735 lc_242 = 24 := le736.k k691 (by decide)
            have k746 : τ735 lh_243 = 25 := le736.k k692 (by decide)
            have k747 : τ735 ld_244 = 26 := le736.k k693 (by decide)
            have k748 : τ735 ds_285 = 34 := le736.k k694 (by decide)
            have k749 : τ735 fr_286 = 34 := le736.k k695 (by decide)
            have k750 : τ735 ca_287 = 31 := le736.k k696 (by decide)
            have k751 : τ735 us_288 = 31 := le736.k k697 (by decide)
            have k752 : τ735 wo_289 = 31 := le736.k k698 (by decide)
            have k753 : τ735 cm_290 = 31 := le736.k k699 (by decide)
            have k754 : τ735 lc_291 = 24 := le736.k k700 (by decide)
            have k755 : τ735 lh_292 = 25 := le736.k k701 (by decide)
            have k756 : τ735 ld_293 = 26 := le736.k k702 (by decide)
            have k757 : τ735 ds_426 = 34 := le736.k k703 (by decide)
            have k758 : τ735 fr_427 = 34 := le736.k k704 (by decide)
            have k759 : τ735 ca_428 = 31 := le736.k k705 (by decide)
            have k760 : τ735 us_429 = 31 := le736.k k706 (by decide)
            have k761 : τ735 wo_430 = 31 := le736.k k707 (by decide)
            have k762 : τ735 cm_431 = 31 := le736.k k708 (by decide)
            have k763 : τ735 lc_432 = 24 := le736.k k709 (by decide)
            have k764 : τ735 lh_433 = 25 := le736.k k710 (by decide)
            have k765 : τ735 ld_434 = 26 := le736.k k711 (by decide)
            have k766 : τ735 ds_484 = 34 := le736.k k712 (by decide)
            have k767 : τ735 fr_485 = 34 := le736.k k713 (by decide)
            have k768 : τ735 ca_486 = 31 := le736.k k714 (by decide)
            have k769 : τ735 us_487 = 31 := le736.k k715 (by decide)
            have k770 : τ735 wo_488 = 31 := le736.k k716 (by decide)
            have k771 : τ735 cm_489 = 31 := le736.k k717 (by decide)
            have k772 : τ735 lc_490 = 24 := le736.k k718 (by decide)
            have k773 : τ735 lh_491 = 25 := le736.k k719 (by decide)
            have k774 : τ735 ld_492 = 26 := le736.k k720 (by decide)
            have k775 : τ735 ds_540 = 34 := le736.k k721 (by decide)
            have k776 : τ735 fr_541 = 34 := le736.k k722 (by decide)
            have k777 : τ735 ca_542 = 31 := le736.k k723 (by decide)
            have k778 : τ735 us_543 = 31 := le736.k k724 (by decide)
            have k779 : τ735 wo_544 = 31 := le736.k k725 (by decide)
            have k780 : τ735 cm_545 = 31 := le736.k k726 (by decide)
            have k781 : τ735 lc_546 = 24 := le736.k k727 (by decide)
            have k782 : τ735 lh_547 = 25 := le736.k k728 (by decide)
            have k783 : τ735 ld_548 = 26 := le736.k k729 (by decide)
            have k784 : τ735 o358 = 32 := le736.k k730 (by decide)
            have k785 : τ735 t359 = 33 := le736.k k731 (by decide)
            have k786 : τ735 v357 = 31 := le736.k k733 (by decide)
            have sp787 : tw_sp d τ h gN τ735 h528 := by rw [eτ735]; exact sp732.ty n348 z734 f534 (by rw [← eτ735]; exact ⟨r, ct, v357, o358, t359, rfl, k786, k784, k785, rlr.1, rlr.2, _, oo.1, vv.1.symm, vv.2.1.symm, oo.2.2.2.2.2, ot.1.2.2.2.2, ov.1.2.2.2.2⟩)
            have k788 : τ735 q345 = 21 := by rw [eτ735]; exact tw_ku_s
            obtain ⟨e789, f790, ⟨el791, rfl, k792⟩, k793⟩ := sp787.1 lc_546 24 k781 (by decide)
            have hb9 : gN.2 3 + 1 ≤ 4 := by rw [gn3]; exact hb8
            have hid9 : gN.2 (4096 + q345) = 480 + 64 * gN.2 3 := by rw [gn3]; exact oo.1.2.2.2.2
            rcases k792 with k792p | k792p
            · obtain ⟨pa, pn, pf⟩ := k792p
              subst pa
              have f9 : h528 lc_546 = some (.inr (3, [.int (gN.1 3), .ref (d.2 102), .int (nI 0)])) := by have z := f790; rw [pn] at z; exact z
              refine tw_bi (tw_callV (M := mX10_country) (pc := 151) okJx4a65c_add_9ea2d dX10_country_151 w_1234 rfl f790 [.ref q345] [] rfl rfl ⟨by decide, by decide⟩ (Nat.le_of_ble_eq_true rfl) (c_add_new d h528 lc_546 (gN.1 3) f9 q345 11 _ _ rfl (ng_11) f534 (by decide)) 5 36 (Nat.le_of_ble_eq_true rfl) (Nat.le_of_ble_eq_true rfl)) (fun r9 h794 q9 => ?_) (fun E h1 q => q.elim)
              obtain ⟨r8, hr8, q1, q2, q3⟩ := q9
              have th795 : tw_th (h794 x) = 0 := by rw [q3 x (tw_nz k737 k781 (by decide)) (tw_thF sp787.1 k737 hr8)]; exact th529
              have oq796 : h794 o = h o := by rw [q3 o (tw_nk k738 k781 (by decide)) (tw_kF sp787.1 k738 (by decide) hr8)] <;> exact oq530
              obtain ⟨g9, τ9, ⟨hga, hg1⟩, sp9⟩ := tw_gadd24 (F := fun _ => none) sp787.1 k781 k788 hb9 hid9 (fun j hj => by rw [pn] at hj; exact absurd hj (Nat.not_lt_zero _)) (Or.inr ⟨hr8, pf⟩) (by rw [pn]; exact q1) (by rw [pn]; exact q2) q3
              have sp797 := sp787.tr sp9
              have k798 : τ9 x = 36 := sp9.2.1.k k737 (by decide)
              have k799 : τ9 o = 12 := sp9.2.1.k k738 (by decide)
              have k800 : τ9 ds_236 = 34 := sp9.2.1.k k739 (by decide)
              have k801 : τ9 fr_237 = 34 := sp9.2.1.k k740 (by decide)
              have k802 : τ9 ca_238 = 31 := sp9.2.1.k k741 (by decide)
              have k803 : τ9 us_239 = 31 := sp9.2.1.k k742 (by decide)
              have k804 : τ9 wo_240 = 31 := sp9.2.1.k k743 (by decide)
              have k805 : τ9 cm_241 = 31 := sp9.2.1.k k744 (by decide)
              have k806 : τ9 lc_242 = 24 := sp9.2.1.k k745 (by decide)
              have k807 : τ9 lh_243 = 25 := sp9.2.1.k k746 (by decide)
              have k808 : τ9 ld_244 = 26 := sp9.2.1.k k747 (by decide)
              have k809 : τ9 ds_285 = 34 := sp9.2.1.k k748 (by decide)
              have k810 : τ9 fr_286 = 34 := sp9.2.1.k k749 (by decide)
              have k811 : τ9 ca_287 = 31 := sp9.2.1.k k750 (by decide)
              have k812 : τ9 us_288 = 31 := sp9.2.1.k k751 (by decide)
              have k813 : τ9 wo_289 = 31 := sp9.2.1.k k752 (by decide)
              have k814 : τ9 cm_290 = 31 := sp9.2.1.k k753 (by decide)
              have k815 : τ9 lc_291 = 24 := sp9.2.1.k k754 (by decide)
              have k816 : τ9 lh_292 = 25 := sp9.2.1.k k755 (by decide)
              have k817 : τ9 ld_293 = 26 := sp9.2.1.k k756 (by decide)
              have k818 : τ9 ds_426 = 34 := sp9.2.1.k k757 (by decide)
              have k819 : τ9 fr_427 = 34 := sp9.2.1.k k758 (by decide)
              have k820 : τ9 ca_428 = 31 := sp9.2.1.k k759 (by decide)
              have k821 : τ9 us_429 = 31 := sp9.2.1.k k760 (by decide)
              have k822 : τ9 wo_430 = 31 := sp9.2.1.k k761 (by decide)
              have k823 : τ9 cm_431 = 31 := sp9.2.1.k k762 (by decide)
              have k824 : τ9 lc_432 = 24 := sp9.2.1.k k763 (by decide)
              have k825 : τ9 lh_433 = 25 := sp9.2.1.k k764 (by decide)
              have k826 : τ9 ld_434 = 26 := sp9.2.1.k k765 (by decide)
              have k827 : τ9 ds_484 = 34 := sp9.2.1.k k766 (by decide)
              have k828 : τ9 fr_485 = 34 := sp9.2.1.k k767 (by decide)
              have k829 : τ9 ca_486 = 31 := sp9.2.1.k k768 (by decide)
              have k830 : τ9 us_487 = 31 := sp9.2.1.k k769 (by decide)
              have k831 : τ9 wo_488 = 31 := sp9.2.1.k k770 (by decide)
              have k832 : τ9 cm_489 = 31 := sp9.2.1.k k771 (by decide)
              have k833 : τ9 lc_490 = 24 := sp9.2.1.k k772 (by decide)
              have k834 : τ9 lh_491 = 25 := sp9.2.1.k k773 (by decide)
              have k835 : τ9 ld_492 = 26 := sp9.2.1.k k774 (by decide)
              have k836 : τ9 ds_540 = 34 := sp9.2.1.k k775 (by decide)
              have k837 : τ9 fr_541 = 34 := sp9.2.1.k k776 (by decide)
              have k838 : τ9 ca_542 = 31 := sp9.2.1.k k777 (by decide)
              have k839 : τ9 us_543 = 31 := sp9.2.1.k k778 (by decide)
              have k840 : τ9 wo_544 = 31 := sp9.2.1.k k779 (by decide)
              have k841 : τ9 cm_545 = 31 := sp9.2.1.k k780 (by decide)
              have k842 : τ9 lc_546 = 24 := sp9.2.1.k k781 (by decide)
              have k843 : τ9 lh_547 = 25 := sp9.2.1.k k782 (by decide)
              have k844 : τ9 ld_548 = 26 := sp9.2.1.k k783 (by decide)
              have k845 : τ9 o358 = 32 := sp9.2.1.k k784 (by decide)
              have k846 : τ9 t359 = 33 := sp9.2.1.k k785 (by decide)
              have k847 : τ9 v357 = 31 := sp9.2.1.k k786 (by decide)
              have k848 : τ9 q345 = 21 := sp9.2.1.k k788 (by decide)
              refine tw_pop dX10_country_154 rfl ?_
              refine tw_aload_n 1 dX10_country_155 rfl rfl ?_
              obtain ⟨e849, f850, th_851, td_852, ds_853, fr_854, ca_855, us_856, wo_857, cm_858, lc_859, lh_860, ld_861, rfl, k862, k863, k864, k865, k866, k867, k868, k869, k870, k871, k872, k873, k874, k875, k876, k877, k878, k879, k880, k881, k882, k883⟩ := sp797.1 x 36 k798 (by decide)
              refine tw_get (v := .ref lc_859) rfl in_14 9 dX10_country_156 w_1160 rfl (by decide) f850 rfl ?_
              obtain ⟨e887, f888, ⟨el889, rfl, k890⟩, k891⟩ := sp797.1 lc_859 24 k868 (by decide)
              refine tw_bi (tw_callV (M := mX10_country) (pc := 159) okJx4a65c_size_8abf5 dX10_country_159 w_1204 rfl f888 [] [] rfl rfl ⟨by decide, by decide⟩ (Nat.le_of_ble_eq_true rfl) (c24_size d g9 τ9 h794 sp797.1 lc_859 k868) 5 36 (Nat.le_of_ble_eq_true rfl) (Nat.le_of_ble_eq_true rfl)) (fun r894 h893 q892 => ?_) (fun E h1 q => q.elim)
              obtain ⟨q892e, q892r⟩ := q892
              rw [q892e, q892r]
              refine tw_iconst (v := 1) dX10_country_162 (by decide) ?_
              refine tw_isub dX10_country_163 ?_
              refine tw_nmi (fun v895 ev895 => ?_)
              exact tw_iret dX10_country_164 rfl (Or.inl ⟨_, rfl, _, _, sp797, oq796, Or.inr (Or.inr (⟨rc9, (by skip; first | done | exact lc9), (by skip; first | done | exact (by rw [ev895, hg1.1, gn3]; exact nI_pred _)), th795, ⟨_, _, _, _, by rw [← egD, ← egN]; exact ⟨hga, hg1⟩⟩⟩))⟩)
            · obtain ⟨e9, fa9, ⟨F9, rfl, hc9, h49⟩, un9⟩ := sp787.1 el791 27 k792p (by decide)
              refine tw_bi (tw_callV (M := mX10_country) (pc := 151) okJx4a65c_add_9ea2d dX10_country_151 w_1234 rfl f790 [.ref q345] [] rfl rfl ⟨by decide, by decide⟩ (Nat.le_of_ble_eq_true rfl) (c_add_old d h528 lc_546 el791 (gN.2 3) F9 (gN.1 3) (by omega) f790 fa9 q345 11 _ _ rfl (ng_11) f534 (by decide)) 5 36 (Nat.le_of_ble_eq_true rfl) (Nat.le_of_ble_eq_true rfl)) (fun r9 h896 q9 => ?_) (fun E h1 q => q.elim)
              obtain ⟨q1, q2, q3⟩ := q9
              have th897 : tw_th (h896 x) = 0 := by rw [q3 x (tw_nz k737 k781 (by decide)) (tw_nz k737 k792p (by decide))]; exact th529
              have oq898 : h896 o = h o := by rw [q3 o (tw_nk k738 k781 (by decide)) (tw_nk k738 k792p (by decide))] <;> exact oq530
              obtain ⟨g9, τ9, ⟨hga, hg1⟩, sp9⟩ := tw_gadd24 sp787.1 k781 k788 hb9 hid9 (fun j hj => by obtain ⟨y9, a9, b9⟩ := h49 j hj; exact ⟨y9, a9, b9, un9.2.2 _ _ F9 rfl j y9 hj a9⟩) (Or.inl k792p) q1 q2 q3
              have sp899 := sp787.tr sp9
              have k900 : τ9 x = 36 := sp9.2.1.k k737 (by decide)
              have k901 : τ9 o = 12 := sp9.2.1.k k738 (by decide)
              have k902 : τ9 ds_236 = 34 := sp9.2.1.k k739 (by decide)
              have k903 : τ9 fr_237 = 34 := sp9.2.1.k k740 (by decide)
              have k904 : τ9 ca_238 = 31 := sp9.2.1.k k741 (by decide)
              have k905 : τ9 us_239 = 31 := sp9.2.1.k k742 (by decide)
              have k906 : τ9 wo_240 = 31 := sp9.2.1.k k743 (by decide)
              have k907 : τ9 cm_241 = 31 := sp9.2.1.k k744 (by decide)
              have k908 : τ9 lc_242 = 24 := sp9.2.1.k k745 (by decide)
              have k909 : τ9 lh_243 = 25 := sp9.2.1.k k746 (by decide)
              have k910 : τ9 ld_244 = 26 := sp9.2.1.k k747 (by decide)
              have k911 : τ9 ds_285 = 34 := sp9.2.1.k k748 (by decide)
              have k912 : τ9 fr_286 = 34 := sp9.2.1.k k749 (by decide)
              have k913 : τ9 ca_287 = 31 := sp9.2.1.k k750 (by decide)
              have k914 : τ9 us_288 = 31 := sp9.2.1.k k751 (by decide)
              have k915 : τ9 wo_289 = 31 := sp9.2.1.k k752 (by decide)
              have k916 : τ9 cm_290 = 31 := sp9.2.1.k k753 (by decide)
              have k917 : τ9 lc_291 = 24 := sp9.2.1.k k754 (by decide)
              have k918 : τ9 lh_292 = 25 := sp9.2.1.k k755 (by decide)
              have k919 : τ9 ld_293 = 26 := sp9.2.1.k k756 (by decide)
              have k920 : τ9 ds_426 = 34 := sp9.2.1.k k757 (by decide)
              have k921 : τ9 fr_427 = 34 := sp9.2.1.k k758 (by decide)
              have k922 : τ9 ca_428 = 31 := sp9.2.1.k k759 (by decide)
              have k923 : τ9 us_429 = 31 := sp9.2.1.k k760 (by decide)
              have k924 : τ9 wo_430 = 31 := sp9.2.1.k k761 (by decide)
              have k925 : τ9 cm_431 = 31 := sp9.2.1.k k762 (by decide)
              have k926 : τ9 lc_432 = 24 := sp9.2.1.k k763 (by decide)
              have k927 : τ9 lh_433 = 25 := sp9.2.1.k k764 (by decide)
              have k928 : τ9 ld_434 = 26 := sp9.2.1.k k765 (by decide)
              have k929 : τ9 ds_484 = 34 := sp9.2.1.k k766 (by decide)
              have k930 : τ9 fr_485 = 34 := sp9.2.1.k k767 (by decide)
              have k931 : τ9 ca_486 = 31 := sp9.2.1.k k768 (by decide)
              have k932 : τ9 us_487 = 31 := sp9.2.1.k k769 (by decide)
              have k933 : τ9 wo_488 = 31 := sp9.2.1.k k770 (by decide)
              have k934 : τ9 cm_489 = 31 := sp9.2.1.k k771 (by decide)
              have k935 : τ9 lc_490 = 24 := sp9.2.1.k k772 (by decide)
              have k936 : τ9 lh_491 = 25 := sp9.2.1.k k773 (by decide)
              have k937 : τ9 ld_492 = 26 := sp9.2.1.k k774 (by decide)
              have k938 : τ9 ds_540 = 34 := sp9.2.1.k k775 (by decide)
              have k939 : τ9 fr_541 = 34 := sp9.2.1.k k776 (by decide)
              have k940 : τ9 ca_542 = 31 := sp9.2.1.k k777 (by decide)
              have k941 : τ9 us_543 = 31 := sp9.2.1.k k778 (by decide)
              have k942 : τ9 wo_544 = 31 := sp9.2.1.k k779 (by decide)
              have k943 : τ9 cm_545 = 31 := sp9.2.1.k k780 (by decide)
              have k944 : τ9 lc_546 = 24 := sp9.2.1.k k781 (by decide)
              have k945 : τ9 lh_547 = 25 := sp9.2.1.k k782 (by decide)
              have k946 : τ9 ld_548 = 26 := sp9.2.1.k k783 (by decide)
              have k947 : τ9 o358 = 32 := sp9.2.1.k k784 (by decide)
              have k948 : τ9 t359 = 33 := sp9.2.1.k k785 (by decide)
              have k949 : τ9 v357 = 31 := sp9.2.1.k k786 (by decide)
              have k950 : τ9 q345 = 21 := sp9.2.1.k k788 (by decide)
              refine tw_pop dX10_country_154 rfl ?_
              refine tw_aload_n 1 dX10_country_155 rfl rfl ?_
              obtain ⟨e951, f952, th_953, td_954, ds_955, fr_956, ca_957, us_958, wo_959, cm_960, lc_961, lh_962, ld_963, rfl, k964, k965, k966, k967, k968, k969, k970, k971, k972, k973, k974, k975, k976, k977, k978, k979, k980, k981, k982, k983, k984, k985⟩ := sp899.1 x 36 k900 (by decide)
              refine tw_get (v := .ref lc_961) rfl in_14 9 dX10_country_156 w_1160 rfl (by decide) f952 rfl ?_
              obtain ⟨e989, f990, ⟨el991, rfl, k992⟩, k993⟩ := sp899.1 lc_961 24 k970 (by decide)
              refine tw_bi (tw_callV (M := mX10_country) (pc := 159) okJx4a65c_size_8abf5 dX10_country_159 w_1204 rfl f990 [] [] rfl rfl ⟨by decide, by decide⟩ (Nat.le_of_ble_eq_true rfl) (c24_size d g9 τ9 h896 sp899.1 lc_961 k970) 5 36 (Nat.le_of_ble_eq_true rfl) (Nat.le_of_ble_eq_true rfl)) (fun r996 h995 q994 => ?_) (fun E h1 q => q.elim)
              obtain ⟨q994e, q994r⟩ := q994
              rw [q994e, q994r]
              refine tw_iconst (v := 1) dX10_country_162 (by decide) ?_
              refine tw_isub dX10_country_163 ?_
              refine tw_nmi (fun v997 ev997 => ?_)
              exact tw_iret dX10_country_164 rfl (Or.inl ⟨_, rfl, _, _, sp899, oq898, Or.inr (Or.inr (⟨rc9, (by skip; first | done | exact lc9), (by skip; first | done | exact (by rw [ev997, hg1.1, gn3]; exact nI_pred _)), th897, ⟨_, _, _, _, by rw [← egD, ← egN]; exact ⟨hga, hg1⟩⟩⟩))⟩)
          · refine tw_iconst (v := 1) dX10_country_68 (by decide) ?_
            refine tw_goto 73 dX10_country_69 (by decide) ?_
            refine tw_iconst (v := 2) dX10_country_73 (by decide) ?_
            refine tw_bi (tw_callV (M := mX10_country) (pc := 74) okX10_refuse dX10_country_74 w_1200 rfl f282 [.int 1, .int 2] [] rfl rfl ⟨by decide, by decide⟩ (Nat.le_of_ble_eq_true rfl) (c_X10_refuse d g τ h268 sp278.1 x kx 1 2 (by decide)) 10 60 (Nat.le_of_ble_eq_true rfl) (Nat.le_of_ble_eq_true rfl)) (fun r1003 h1002 q1001 => ?_) (fun E h1 q => q.elim)
            obtain ⟨e1004, he1005, hs1006, hr1007, hc1008⟩ := q1001
            obtain ⟨rz1009, tz1010⟩ := (hc1008 th277).2 rfl
            have th1011 : tw_th (h1002 x) = 2 := by rw [he1005, tw_up_s]; exact tz1010
            have sp1012 : tw_sp d τ h g τ h1002 := by rw [he1005]; exact sp278.set kx (by decide) hs1006
            rw [rz1009]
            have oq1013 : h1002 o = h o := by rw [he1005, tw_up_n (tw_nk ko kx (by decide))] <;> exact oq279
            refine tw_if_eq 82 dX10_country_77 (by decide) (fun c1014 => absurd c1014 (by decide)) (fun _ => ?_)
            refine tw_iconst (v := 0) dX10_country_80 (by decide) ?_
            exact tw_iret dX10_country_81 rfl (Or.inl ⟨_, rfl, _, _, sp1012, oq1013, Or.inr (Or.inl ⟨rc9, (by skip; first | done | exact fun z => absurd (tw_nIj (a := g.2 3) (b := 4) c327 (by omega) (by decide)) (by omega)), th1011, rfl⟩)⟩)

set_option maxHeartbeats 4000000 in
set_option maxRecDepth 100000 in
theorem c2_X10_house (d : tw_D) (g : tw_G) (τ : tw_K) (h : tw_H) (hw : tw_wt d g τ h) (x : Nat) (kx : τ x = 36) (a : Int32) (go : Int32) (si : Int32) (o : Nat) (ko : τ o = 12) (he9 : g.2 131 = 960 + 32 * g.2 4) (he : tw_AM 59000000 g) : tw_Ct d mX10_house 10 60 [.ref x, .int a, .int go, .int si] h (tw_qi (fun r9 h1 => ∃ g1 τ1, tw_sp d τ h g1 τ1 h1 ∧ h1 o = h o ∧ ((¬ (tw_ix (g.2 3) a) ∧ tw_th (h1 x) = 1 ∧ g1 = g) ∨ ((tw_ix (g.2 3) a) ∧ ¬ (tw_RH go si) ∧ tw_th (h1 x) = 2 ∧ g1 = g) ∨ ((tw_ix (g.2 3) a) ∧ (tw_RH go si) ∧ ¬ (g.2 4 < 6) ∧ tw_th (h1 x) = 3 ∧ g1 = g) ∨ ((tw_ix (g.2 3) a) ∧ (tw_RH go si) ∧ (g.2 4 < 6) ∧ r9 = nI (g.2 4) ∧ tw_th (h1 x) = 0 ∧ ∃ y9 p9, tw_gk 4 (tw_gHM (tw_ad (tw_ad g (1368 + 0) go) (1368 + 1) si) (960 + 32 * g.2 4) y9 p9 a go si) g1))) tw_nx) := by
  refine tw_of (by decide +kernel) (Nat.le_of_ble_eq_true rfl) ?_
  show tw_W d mX10_house _ 0 [(0, .ref x), (1, .int a), (2, .int go), (3, .int si)] [] h 10 60
  have sp0 := tw_sp.rf hw
  have oq0 : h o = h o := rfl
  have b93 := tw_b3 hw kx
  refine tw_aload_n 0 dX10_house_0 rfl rfl ?_
  refine tw_aload_n 0 dX10_house_1 rfl rfl ?_
  refine tw_iload_n 1 dX10_house_2 rfl rfl ?_
  obtain ⟨e4, f5, th_6, td_7, ds_8, fr_9, ca_10, us_11, wo_12, cm_13, lc_14, lh_15, ld_16, rfl, k17, k18, k19, k20, k21, k22, k23, k24, k25, k26, k27, k28, k29, k30, k31, k32, k33, k34, k35, k36, k37, k38⟩ := sp0.1 x 36 kx (by decide)
  refine tw_bi (tw_callV (M := mX10_house) (pc := 3) okX10_isNoCountry dX10_house_3 w_1288 rfl f5 [.int a] [.ref x] rfl rfl ⟨by decide, by decide⟩ (Nat.le_of_ble_eq_true rfl) (c2_X10_isNoCountry d g τ h sp0.1 x kx a) 10 60 (Nat.le_of_ble_eq_true rfl) (Nat.le_of_ble_eq_true rfl)) (fun r3 h2 q1 => ?_) (fun E h1 q => q.elim)
  obtain ⟨q1e, q1d⟩ := q1
  rw [q1e]
  rcases q1d with ⟨q1r, q1n⟩ | ⟨q1r, q1i⟩
  · rw [q1r]
    refine tw_iconst (v := 1) dX10_house_6 (by decide) ?_
    refine tw_bi (tw_callV (M := mX10_house) (pc := 7) okX10_start dX10_house_7 w_1196 rfl f5 [.int 1, .int 1] [] rfl rfl ⟨by decide, by decide⟩ (Nat.le_of_ble_eq_true rfl) (c_X10_start d g τ h sp0.1 x kx 1 1 (by decide)) 10 60 (Nat.le_of_ble_eq_true rfl) (Nat.le_of_ble_eq_true rfl)) (fun r44 h43 q42 => ?_) (fun E h1 q => q.elim)
    obtain ⟨e45, he46, hs47, hr48, hc49⟩ := q42
    obtain ⟨rz50, tz51⟩ := hc49.2 rfl
    have th52 : tw_th (h43 x) = 1 := by rw [he46, tw_up_s]; exact tz51
    have sp53 : tw_sp d τ h g τ h43 := by rw [he46]; exact sp0.set kx (by decide) hs47
    rw [rz50]
    have oq54 : h43 o = h o := by rw [he46, tw_up_n (tw_nk ko kx (by decide))] <;> exact oq0
    refine tw_if_ne 71 dX10_house_10 (by decide) (fun _ => ?_) (fun c55 => absurd c55 (by decide))
    refine tw_iconst (v := 0) dX10_house_71 (by decide) ?_
    exact tw_iret dX10_house_72 rfl (Or.inl ⟨_, rfl, _, _, sp53, oq54, Or.inl ⟨q1n, th52, rfl⟩⟩)
  · rw [q1r]
    have q1x := q1i
    obtain ⟨ja, q1j, q1k⟩ := q1i
    subst q1k
    have cDa : tw_DN (nI ja) = ja := nI_clamp (by omega)
    have ix0 := q1x
    refine tw_iconst (v := 1) dX10_house_6 (by decide) ?_
    refine tw_bi (tw_callV (M := mX10_house) (pc := 7) okX10_start dX10_house_7 w_1196 rfl f5 [.int 0, .int 1] [] rfl rfl ⟨by decide, by decide⟩ (Nat.le_of_ble_eq_true rfl) (c_X10_start d g τ h sp0.1 x kx 0 1 (by decide)) 10 60 (Nat.le_of_ble_eq_true rfl) (Nat.le_of_ble_eq_true rfl)) (fun r61 h60 q59 => ?_) (fun E h1 q => q.elim)
    obtain ⟨e62, he63, hs64, hr65, hc66⟩ := q59
    obtain ⟨rz67, tz68⟩ := hc66.1 rfl
    have th69 : tw_th (h60 x) = 0 := by rw [he63, tw_up_s]; exact tz68
    have sp70 : tw_sp d τ h g τ h60 := by rw [he63]; exact sp0.set kx (by decide) hs64
    rw [rz67]
    have oq71 : h60 o = h o := by rw [he63, tw_up_n (tw_nk ko kx (by decide))] <;> exact oq0
    refine tw_if_ne 71 dX10_house_10 (by decide) (fun c72 => absurd (by decide) c72) (fun _ => ?_)
    refine tw_aload_n 0 dX10_house_13 rfl rfl ?_
    refine tw_iload_n 2 dX10_house_14 rfl rfl ?_
    refine tw_iconst (v := 0) dX10_house_15 (by decide) ?_
    refine tw_ldc (v := 99999) dX10_house_16 w_1195 ?_
    refine tw_bi (tw_callS (M := mX10_house) (pc := 18) okX10_isIn dX10_house_18 w_1192 [.int go, .int 0, .int 99999] [.ref x] rfl rfl ⟨by decide, by decide⟩ (Nat.le_of_ble_eq_true rfl) (c_X10_isIn d g τ h60 sp70.1 go 0 99999) 10 60 (Nat.le_of_ble_eq_true rfl) (Nat.le_of_ble_eq_true rfl)) (fun r75 h74 q73 => ?_) (fun E h1 q => q.elim)
    obtain ⟨q73e, q73d⟩ := q73
    rw [q73e]
    rcases q73d with ⟨q73r, q73n⟩ | ⟨q73r, rlgo⟩
    · rw [q73r]
      refine tw_if_eq 34 dX10_house_21 (by decide) (fun _ => ?_) (fun c76 => absurd (by decide) c76)
      refine tw_iconst (v := 1) dX10_house_34 (by decide) ?_
      refine tw_goto 39 dX10_house_35 (by decide) ?_
      refine tw_iconst (v := 2) dX10_house_39 (by decide) ?_
      obtain ⟨e80, f81, th_82, td_83, ds_84, fr_85, ca_86, us_87, wo_88, cm_89, lc_90, lh_91, ld_92, rfl, k93, k94, k95, k96, k97, k98, k99, k100, k101, k102, k103, k104, k105, k106, k107, k108, k109, k110, k111, k112, k113, k114⟩ := sp70.1 x 36 kx (by decide)
      refine tw_bi (tw_callV (M := mX10_house) (pc := 40) okX10_refuse dX10_house_40 w_1200 rfl f81 [.int 1, .int 2] [] rfl rfl ⟨by decide, by decide⟩ (Nat.le_of_ble_eq_true rfl) (c_X10_refuse d g τ h60 sp70.1 x kx 1 2 (by decide)) 10 60 (Nat.le_of_ble_eq_true rfl) (Nat.le_of_ble_eq_true rfl)) (fun r117 h116 q115 => ?_) (fun E h1 q => q.elim)
      obtain ⟨e118, he119, hs120, hr121, hc122⟩ := q115
      obtain ⟨rz123, tz124⟩ := (hc122 th69).2 rfl
      have th125 : tw_th (h116 x) = 2 := by rw [he119, tw_up_s]; exact tz124
      have sp126 : tw_sp d τ h g τ h116 := by rw [he119]; exact sp70.set kx (by decide) hs120
      rw [rz123]
      have oq127 : h116 o = h o := by rw [he119, tw_up_n (tw_nk ko kx (by decide))] <;> exact oq71
      refine tw_if_ne 71 dX10_house_43 (by decide) (fun _ => ?_) (fun c128 => absurd c128 (by decide))
      refine tw_iconst (v := 0) dX10_house_71 (by decide) ?_
      exact tw_iret dX10_house_72 rfl (Or.inl ⟨_, rfl, _, _, sp126, oq127, Or.inr (Or.inl ⟨ix0, fun z => q73n z.1, th125, rfl⟩)⟩)
    · rw [q73r]
      refine tw_if_eq 34 dX10_house_21 (by decide) (fun c129 => absurd c129 (by decide)) (fun _ => ?_)
      refine tw_iload_n 3 dX10_house_24 rfl rfl ?_
      refine tw_iconst (v := 0) dX10_house_25 (by decide) ?_
      refine tw_ldc (v := 99999) dX10_house_26 w_1195 ?_
      refine tw_bi (tw_callS (M := mX10_house) (pc := 28) okX10_isIn dX10_house_28 w_1192 [.int si, .int 0, .int 99999] [.ref x] rfl rfl ⟨by decide, by decide⟩ (Nat.le_of_ble_eq_true rfl) (c_X10_isIn d g τ h60 sp70.1 si 0 99999) 10 60 (Nat.le_of_ble_eq_true rfl) (Nat.le_of_ble_eq_true rfl)) (fun r132 h131 q130 => ?_) (fun E h1 q => q.elim)
      obtain ⟨q130e, q130d⟩ := q130
      rw [q130e]
      rcases q130d with ⟨q130r, q130n⟩ | ⟨q130r, rlsi⟩
      · rw [q130r]
        refine tw_if_ne 38 dX10_house_31 (by decide) (fun c133 => absurd (by decide) c133) (fun _ => ?_)
        refine tw_iconst (v := 1) dX10_house_34 (by decide) ?_
        refine tw_goto 39 dX10_house_35 (by decide) ?_
        refine tw_iconst (v := 2) dX10_house_39 (by decide) ?_
        obtain ⟨e137, f138, th_139, td_140, ds_141, fr_142, ca_143, us_144, wo_145, cm_146, lc_147, lh_148, ld_149, rfl, k150, k151, k152, k153, k154, k155, k156, k157, k158, k159, k160, k161, k162, k163, k164, k165, k166, k167, k168, k169, k170, k171⟩ := sp70.1 x 36 kx (by decide)
        refine tw_bi (tw_callV (M := mX10_house) (pc := 40) okX10_refuse dX10_house_40 w_1200 rfl f138 [.int 1, .int 2] [] rfl rfl ⟨by decide, by decide⟩ (Nat.le_of_ble_eq_true rfl) (c_X10_refuse d g τ h60 sp70.1 x kx 1 2 (by decide)) 10 60 (Nat.le_of_ble_eq_true rfl) (Nat.le_of_ble_eq_true rfl)) (fun r174 h173 q172 => ?_) (fun E h1 q => q.elim)
        obtain ⟨e175, he176, hs177, hr178, hc179⟩ := q172
        obtain ⟨rz180, tz181⟩ := (hc179 th69).2 rfl
        have th182 : tw_th (h173 x) = 2 := by rw [he176, tw_up_s]; exact tz181
        have sp183 : tw_sp d τ h g τ h173 := by rw [he176]; exact sp70.set kx (by decide) hs177
        rw [rz180]
        have oq184 : h173 o = h o := by rw [he176, tw_up_n (tw_nk ko kx (by decide))] <;> exact oq71
        refine tw_if_ne 71 dX10_house_43 (by decide) (fun _ => ?_) (fun c185 => absurd c185 (by decide))
        refine tw_iconst (v := 0) dX10_house_71 (by decide) ?_
        exact tw_iret dX10_house_72 rfl (Or.inl ⟨_, rfl, _, _, sp183, oq184, Or.inr (Or.inl ⟨ix0, fun z => q130n z.2, th182, rfl⟩)⟩)
      · rw [q130r]
        have rc9 : tw_RH go si := ⟨rlgo, rlsi⟩
        refine tw_if_ne 38 dX10_house_31 (by decide) (fun _ => ?_) (fun c186 => absurd c186 (by decide))
        refine tw_iconst (v := 0) dX10_house_38 (by decide) ?_
        refine tw_iconst (v := 2) dX10_house_39 (by decide) ?_
        obtain ⟨e190, f191, th_192, td_193, ds_194, fr_195, ca_196, us_197, wo_198, cm_199, lc_200, lh_201, ld_202, rfl, k203, k204, k205, k206, k207, k208, k209, k210, k211, k212, k213, k214, k215, k216, k217, k218, k219, k220, k221, k222, k223, k224⟩ := sp70.1 x 36 kx (by decide)
        refine tw_bi (tw_callV (M := mX10_house) (pc := 40) okX10_refuse dX10_house_40 w_1200 rfl f191 [.int 0, .int 2] [] rfl rfl ⟨by decide, by decide⟩ (Nat.le_of_ble_eq_true rfl) (c_X10_refuse d g τ h60 sp70.1 x kx 0 2 (by decide)) 10 60 (Nat.le_of_ble_eq_true rfl) (Nat.le_of_ble_eq_true rfl)) (fun r227 h226 q225 => ?_) (fun E h1 q => q.elim)
        obtain ⟨e228, he229, hs230, hr231, hc232⟩ := q225
        obtain ⟨rz233, tz234⟩ := (hc232 th69).1 rfl
        have th235 : tw_th (h226 x) = 0 := by rw [he229, tw_up_s]; exact tz234
        have sp236 : tw_sp d τ h g τ h226 := by rw [he229]; exact sp70.set kx (by decide) hs230
        rw [rz233]
        have oq237 : h226 o = h o := by rw [he229, tw_up_n (tw_nk ko kx (by decide))] <;> exact oq71
        refine tw_if_ne 71 dX10_house_43 (by decide) (fun c238 => absurd (by decide) c238) (fun _ => ?_)
        refine tw_aload_n 0 dX10_house_46 rfl rfl ?_
        refine tw_aload_n 0 dX10_house_47 rfl rfl ?_
        obtain ⟨e239, f240, th_241, td_242, ds_243, fr_244, ca_245, us_246, wo_247, cm_248, lc_249, lh_250, ld_251, rfl, k252, k253, k254, k255, k256, k257, k258, k259, k260, k261, k262, k263, k264, k265, k266, k267, k268, k269, k270, k271, k272, k273⟩ := sp236.1 x 36 kx (by decide)
        refine tw_get (v := .ref lh_250) rfl in_14 10 dX10_house_48 w_1161 rfl (by decide) f240 rfl ?_
        obtain ⟨e277, f278, ⟨el279, rfl, k280⟩, k281⟩ := sp236.1 lh_250 25 k259 (by decide)
        refine tw_bi (tw_callV (M := mX10_house) (pc := 51) okJx4a65c_size_8abf5 dX10_house_51 w_1204 rfl f278 [] [.ref x] rfl rfl ⟨by decide, by decide⟩ (Nat.le_of_ble_eq_true rfl) (c25_size d g τ h226 sp236.1 lh_250 k259) 10 60 (Nat.le_of_ble_eq_true rfl) (Nat.le_of_ble_eq_true rfl)) (fun r284 h283 q282 => ?_) (fun E h1 q => q.elim)
        obtain ⟨q282e, q282r⟩ := q282
        rw [q282e, q282r]
        refine tw_bipush (v := 6) dX10_house_54 (by decide) ?_
        refine tw_icmp_ne 63 dX10_house_56 (by decide) (fun c285 => ?_) (fun c285 => ?_)
        · refine tw_iconst (v := 0) dX10_house_63 (by decide) ?_
          refine tw_iconst (v := 3) dX10_house_64 (by decide) ?_
          refine tw_bi (tw_callV (M := mX10_house) (pc := 65) okX10_refuse dX10_house_65 w_1200 rfl f240 [.int 0, .int 3] [] rfl rfl ⟨by decide, by decide⟩ (Nat.le_of_ble_eq_true rfl) (c_X10_refuse d g τ h226 sp236.1 x kx 0 3 (by decide)) 10 60 (Nat.le_of_ble_eq_true rfl) (Nat.le_of_ble_eq_true rfl)) (fun r291 h290 q289 => ?_) (fun E h1 q => q.elim)
          obtain ⟨e292, he293, hs294, hr295, hc296⟩ := q289
          obtain ⟨rz297, tz298⟩ := (hc296 th235).1 rfl
          have th299 : tw_th (h290 x) = 0 := by rw [he293, tw_up_s]; exact tz298
          have sp300 : tw_sp d τ h g τ h290 := by rw [he293]; exact sp236.set kx (by decide) hs294
          rw [rz297]
          have oq301 : h290 o = h o := by rw [he293, tw_up_n (tw_nk ko kx (by decide))] <;> exact oq237
          refine tw_if_eq 73 dX10_house_68 (by decide) (fun _ => ?_) (fun c302 => absurd (by decide) c302)
          refine tw_new (ci := 13) rfl in_13 tyX9 tyX9_ok dX10_house_73 w_1332 w_1333 w_100 (fs := [.int 0, .int 0, .int 0, .null]) (fun j hj => by rcases (show j = 0 ∨ j = 1 ∨ j = 2 ∨ j = 3 by omega) with rfl | rfl | rfl | rfl <;> rfl) 9 56 (Nat.le_of_ble_eq_true rfl) (Nat.le_of_ble_eq_true rfl) (fun q303 hq304 hA305 => ?_)
          have n306 := sp300.nn hq304
          have z307 := sp300.1.none hq304
          obtain ⟨h308, eh308⟩ : ∃ z : tw_H, z = tw_up h290 q303 (.inr (13, [.int 0, .int 0, .int 0, .null])) := ⟨_, rfl⟩
          rw [← eh308]
          have th309 : tw_th (h308 x) = 0 := by rw [eh308, tw_up_n (tw_kF sp300.1 kx (by decide) hq304)] <;> exact th299
          have oq310 : h308 o = h o := by rw [eh308, tw_up_n (tw_kF sp300.1 ko (by decide) hq304)] <;> exact oq301
          have sp311 : tw_sp d τ h g τ h308 := by rw [eh308]; exact sp300.mk hq304
          have f312 : h308 q303 = some (.inr (13, [.int 0, .int 0, .int 0, .null])) := by rw [eh308]; exact tw_up_s
          refine tw_dup dX10_house_76 rfl ?_
          refine tw_bv (tw_callIN (M := mX10_house) (pc := 77) okX9_init dX10_house_77 w_1334 rfl [] [.ref q303] rfl rfl ⟨by decide, by decide⟩ (Nat.le_of_ble_eq_true rfl) (c2_X9_init d g τ h308 sp311.1 q303 z307 f312) 8 54 (Nat.le_of_ble_eq_true rfl) (Nat.le_of_ble_eq_true rfl)) (fun h314 q313 => ?_) (fun E h1 q => q.elim)
          obtain ⟨p315, q313s, f316, ⟨f320, xn321, no322, z323⟩, fr317⟩ := q313
          have th326 : tw_th (h314 x) = 0 := by rw [fr317 x (tw_nz kx z307 (by decide)) (fun z => by obtain ⟨e, y, -⟩ := sp311.1 x 36 kx (by decide); rw [z] at y; cases y)]; exact th309
          have oq327 : h314 o = h o := by rw [fr317 o (tw_nk ko z307 (by decide)) (tw_some sp311.1 ko (by decide))] <;> exact oq310
          have sp318 := sp311.trm n306 q313s
          have n328 := sp311.nn (a := p315) (by have z := no322; unfold tw_rm at z; rw [if_neg (Ne.symm xn321)] at z; exact z)
          refine tw_astore [(4, .ref q303), (0, .ref x), (1, .int (nI ja)), (2, .int go), (3, .int si)] dX10_house_80 (by decide) rfl ?_
          refine tw_aload 0 dX10_house_82 rfl ?_
          refine tw_iload_n 2 dX10_house_84 rfl rfl ?_
          refine tw_put rfl in_13 tyX9 tyX9_ok nmX9 0 dX10_house_85 w_1338 rfl (by decide) f316 rfl rfl rfl rfl (Nat.le_of_ble_eq_true rfl) [.int (nI ja), .int (-1), .int (-1), .ref p315] rfl ?_
          obtain ⟨h329, eh329⟩ : ∃ z : tw_H, z = tw_up h314 q303 (.inr (13, [.int (nI ja), .int (-1), .int (-1), .ref p315])) := ⟨_, rfl⟩
          rw [← eh329]
          have th330 : tw_th (h329 x) = 0 := by rw [eh329, tw_up_n (tw_nk kx z307 (by decide))] <;> exact th326
          have oq331 : h329 o = h o := by rw [eh329, tw_up_n (tw_nk ko z307 (by decide))] <;> exact oq327
          have sp332 : tw_sp d τ h g τ h329 := by rw [eh329]; exact sp318.wl n306 z307
          have f333 : h329 p315 = some (.inl (d.2 1, 2, .inr (.inl (fun _ => 0)))) := by rw [eh329, tw_up_n (Ne.symm xn321)]; exact f320
          have f334 : h329 q303 = some (.inr (13, [.int (nI ja), .int (-1), .int (-1), .ref p315])) := by rw [eh329]; exact tw_up_s
          refine tw_aload 0 dX10_house_88 rfl ?_
          refine tw_get (v := .ref p315) rfl in_13 3 dX10_house_90 w_1344 rfl (by decide) f334 rfl ?_
          refine tw_iconst (v := 0) dX10_house_93 (by decide) ?_
          refine tw_iload_n 3 dX10_house_94 rfl rfl ?_
          refine tw_i2l dX10_house_95 ?_
          refine tw_nml (fun v335 ev335 => ?_)
          refine tw_last dX10_house_96 f333 (vp_in_nI (n := 0) (by decide) (by decide)) ?_
          obtain ⟨F336, eF336⟩ : ∃ z : Nat → Int64, z = vp_updL (fun _ => 0) (0 : Int32).toNatClampNeg v335 := ⟨_, rfl⟩
          rw [← eF336]
          obtain ⟨h337, eh337⟩ : ∃ z : tw_H, z = tw_up h329 p315 (.inl (d.2 1, 2, .inr (.inl F336))) := ⟨_, rfl⟩
          rw [← eh337]
          have th338 : tw_th (h337 x) = 0 := by rw [eh337, tw_up_n (tw_nk kx z323 (by decide))] <;> exact th330
          have oq339 : h337 o = h o := by rw [eh337, tw_up_n (tw_nk ko z323 (by decide))] <;> exact oq331
          have sp340 : tw_sp d τ h g τ h337 := by rw [eh337]; exact sp332.wl n328 z323
          have f341 : h337 q303 = some (.inr (13, [.int (nI ja), .int (-1), .int (-1), .ref p315])) := by rw [eh337, tw_up_n xn321]; exact f334
          have f342 : h337 p315 = some (.inl (d.2 1, 2, .inr (.inl F336))) := by rw [eh337]; exact tw_up_s
          refine tw_aload 0 dX10_house_97 rfl ?_
          refine tw_get (v := .ref p315) rfl in_13 3 dX10_house_99 w_1344 rfl (by decide) f341 rfl ?_
          refine tw_iconst (v := 1) dX10_house_102 (by decide) ?_
          refine tw_iload_n 4 dX10_house_103 rfl rfl ?_
          refine tw_i2l dX10_house_104 ?_
          refine tw_nml (fun v343 ev343 => ?_)
          refine tw_last dX10_house_105 f342 (vp_in_nI (n := 1) (by decide) (by decide)) ?_
          obtain ⟨F344, eF344⟩ : ∃ z : Nat → Int64, z = vp_updL F336 (1 : Int32).toNatClampNeg v343 := ⟨_, rfl⟩
          rw [← eF344]
          obtain ⟨h345, eh345⟩ : ∃ z : tw_H, z = tw_up h337 p315 (.inl (d.2 1, 2, .inr (.inl F344))) := ⟨_, rfl⟩
          rw [← eh345]
          have th346 : tw_th (h345 x) = 0 := by rw [eh345, tw_up_n (tw_nk kx z323 (by decide))] <;> exact th338
          have oq347 : h345 o = h o := by rw [eh345, tw_up_n (tw_nk ko z323 (by decide))] <;> exact oq339
          have sp348 : tw_sp d τ h g τ h345 := by rw [eh345]; exact sp340.wl n328 z323
          have f349 : h345 q303 = some (.inr (13, [.int (nI ja), .int (-1), .int (-1), .ref p315])) := by rw [eh345, tw_up_n xn321]; exact f341
          have f350 : h345 p315 = some (.inl (d.2 1, 2, .inr (.inl F344))) := by rw [eh345]; exact tw_up_s
          refine tw_aload_n 1 dX10_house_106 rfl rfl ?_
          obtain ⟨e351, f352, th_353, td_354, ds_355, fr_356, ca_357, us_358, wo_359, cm_360, lc_361, lh_362, ld_363, rfl, k364, k365, k366, k367, k368, k369, k370, k371, k372, k373, k374, k375, k376, k377, k378, k379, k380, k381, k382, k383, k384, k385⟩ := sp348.1 x 36 kx (by decide)
          refine tw_get (v := .ref cm_360) rfl in_14 8 dX10_house_107 w_1159 rfl (by decide) f352 rfl ?_
          refine tw_iconst (v := 0) dX10_house_110 (by decide) ?_
          refine tw_dup2 dX10_house_111 rfl rfl ?_
          obtain ⟨e386, f387, F388, rfl, ⟨b390, ow391, wv392⟩⟩ := sp348.1 cm_360 31 k369 (by decide)
          obtain rfl : 1368 = b390 := (ow391.b k385).symm
          have ev393 : F388 (0 : Int32).toNatClampNeg = (g.1 (1368 + 0)).toInt64 := by rw [show (0 : Int32).toNatClampNeg = 0 by decide]; exact wv392 0 (by omega)
          refine tw_lald (v := (g.1 (1368 + 0)).toInt64) dX10_house_112 f387 (vp_in_nI (n := 0) (by decide) (by decide)) ev393 ?_
          refine tw_iload_n 3 dX10_house_113 rfl rfl ?_
          refine tw_i2l dX10_house_114 ?_
          refine tw_nml (fun v394 ev394 => ?_)
          refine tw_ladd dX10_house_115 ?_
          refine tw_nml (fun v395 ev395 => ?_)
          obtain ⟨n396, hn396, en396⟩ := tw_grm rlgo.1 rlgo.2
          obtain ⟨n397, hn397, en397⟩ := tw_grm rlsi.1 rlsi.2
          obtain ⟨n398, hn398, en398⟩ := tw_grm rlgo.1 rlgo.2
          have ce399 : (g.1 (1368 + 0)) = nI (tw_DN (g.1 (1368 + 0))) := by (repeat (first | rw [tw_ad_ne (by omega)] | rw [tw_g1_ne (by omega)])); exact (he.s (s := 3) (k := 0) (by decide) (by omega)).1
          have cb400 : tw_DN (g.1 (1368 + 0)) ≤ 59000000 := (he.s (s := 3) (k := 0) (by decide) (by omega)).2
          refine tw_last dX10_house_116 f387 (vp_in_nI (n := 0) (by decide) (by decide)) ?_
          rw [show (0 : Int32).toNatClampNeg = 0 by decide]
          obtain ⟨h401, eh401⟩ : ∃ z : tw_H, z = tw_up h345 cm_360 (.inl (d.2 1, 2, .inr (.inl (vp_updL F388 0 v395)))) := ⟨_, rfl⟩
          rw [← eh401]
          have th402 : tw_th (h401 x) = 0 := by rw [eh401, tw_up_n (tw_nk kx k369 (by decide))] <;> exact th346
          have oq403 : h401 o = h o := by rw [eh401, tw_up_n (tw_nk ko k369 (by decide))] <;> exact oq347
          have sp404 : tw_sp d τ h (tw_ad g (1368 + 0) go) τ h401 := by rw [eh401]; exact sp348.wb k369 (by decide) ow391 ⟨_, rfl, tw_f31.up ow391 wv392 (by rw [en398]; exact (ev395.trans (tw_l_add ce399 (by rw [ev394, en398]; exact tw_L_i (by omega)) (by omega))))⟩ (fun q9 hq9 => tw_ad_ne (by omega)) rfl
          have f405 : h401 q303 = some (.inr (13, [.int (nI ja), .int (-1), .int (-1), .ref p315])) := by rw [eh401, tw_up_n (fun q => absurd (z307) (by rw [q, k369]; decide))]; exact f349
          have f406 : h401 p315 = some (.inl (d.2 1, 2, .inr (.inl F344))) := by rw [eh401, tw_up_n (fun q => absurd (z323) (by rw [q, k369]; decide))]; exact f350
          refine tw_aload_n 1 dX10_house_117 rfl rfl ?_
          obtain ⟨e407, f408, th_409, td_410, ds_411, fr_412, ca_413, us_414, wo_415, cm_416, lc_417, lh_418, ld_419, rfl, k420, k421, k422, k423, k424, k425, k426, k427, k428, k429, k430, k431, k432, k433, k434, k435, k436, k437, k438, k439, k440, k441⟩ := sp404.1 x 36 kx (by decide)
          refine tw_get (v := .ref cm_416) rfl in_14 8 dX10_house_118 w_1159 rfl (by decide) f408 rfl ?_
          refine tw_iconst (v := 1) dX10_house_121 (by decide) ?_
          refine tw_dup2 dX10_house_122 rfl rfl ?_
          obtain ⟨e442, f443, F444, rfl, ⟨b446, ow447, wv448⟩⟩ := sp404.1 cm_416 31 k425 (by decide)
          obtain rfl : 1368 = b446 := (ow447.b k441).symm
          have ev449 : F444 (1 : Int32).toNatClampNeg = ((tw_ad g (1368 + 0) go).1 (1368 + 1)).toInt64 := by rw [show (1 : Int32).toNatClampNeg = 1 by decide]; exact wv448 1 (by omega)
          refine tw_lald (v := ((tw_ad g (1368 + 0) go).1 (1368 + 1)).toInt64) dX10_house_123 f443 (vp_in_nI (n := 1) (by decide) (by decide)) ev449 ?_
          refine tw_iload_n 4 dX10_house_124 rfl rfl ?_
          refine tw_i2l dX10_house_125 ?_
          refine tw_nml (fun v450 ev450 => ?_)
          refine tw_ladd dX10_house_126 ?_
          refine tw_nml (fun v451 ev451 => ?_)
          obtain ⟨n452, hn452, en452⟩ := tw_grm rlsi.1 rlsi.2
          have ce453 : ((tw_ad g (1368 + 0) go).1 (1368 + 1)) = nI (tw_DN (g.1 (1368 + 1))) := by (repeat (first | rw [tw_ad_ne (by omega)] | rw [tw_g1_ne (by omega)])); exact (he.s (s := 3) (k := 1) (by decide) (by omega)).1
          have cb454 : tw_DN (g.1 (1368 + 1)) ≤ 59000000 := (he.s (s := 3) (k := 1) (by decide) (by omega)).2
          refine tw_last dX10_house_127 f443 (vp_in_nI (n := 1) (by decide) (by decide)) ?_
          rw [show (1 : Int32).toNatClampNeg = 1 by decide]
          obtain ⟨h455, eh455⟩ : ∃ z : tw_H, z = tw_up h401 cm_416 (.inl (d.2 1, 2, .inr (.inl (vp_updL F444 1 v451)))) := ⟨_, rfl⟩
          rw [← eh455]
          have th456 : tw_th (h455 x) = 0 := by rw [eh455, tw_up_n (tw_nk kx k425 (by decide))] <;> exact th402
          have oq457 : h455 o = h o := by rw [eh455, tw_up_n (tw_nk ko k425 (by decide))] <;> exact oq403
          have sp458 : tw_sp d τ h (tw_ad (tw_ad g (1368 + 0) go) (1368 + 1) si) τ h455 := by rw [eh455]; exact sp404.wb k425 (by decide) ow447 ⟨_, rfl, tw_f31.up ow447 wv448 (by rw [en452]; exact (ev451.trans (tw_l_add ce453 (by rw [ev450, en452]; exact tw_L_i (by omega)) (by omega))))⟩ (fun q9 hq9 => tw_ad_ne (by omega)) rfl
          have f459 : h455 q303 = some (.inr (13, [.int (nI ja), .int (-1), .int (-1), .ref p315])) := by rw [eh455, tw_up_n (fun q => absurd (z307) (by rw [q, k425]; decide))]; exact f405
          have f460 : h455 p315 = some (.inl (d.2 1, 2, .inr (.inl F344))) := by rw [eh455, tw_up_n (fun q => absurd (z323) (by rw [q, k425]; decide))]; exact f406
          refine tw_aload_n 1 dX10_house_128 rfl rfl ?_
          obtain ⟨e461, f462, th_463, td_464, ds_465, fr_466, ca_467, us_468, wo_469, cm_470, lc_471, lh_472, ld_473, rfl, k474, k475, k476, k477, k478, k479, k480, k481, k482, k483, k484, k485, k486, k487, k488, k489, k490, k491, k492, k493, k494, k495⟩ := sp458.1 x 36 kx (by decide)
          refine tw_get (v := .ref lh_472) rfl in_14 10 dX10_house_129 w_1161 rfl (by decide) f462 rfl ?_
          refine tw_aload 0 dX10_house_132 rfl ?_
          have hb8 : g.2 4 + 1 ≤ 6 := (tw_n4 c285 k484 (by decide))
          have lc9 : g.2 4 < 6 := by omega
          obtain ⟨gD, egD⟩ : ∃ z : tw_G, z = (tw_ad (tw_ad g (1368 + 0) go) (1368 + 1) si) := ⟨_, rfl⟩
          have d2 : gD.2 = g.2 := by rw [egD] <;> rfl
          have sp496 : tw_sp d τ h gD τ h455 := by rw [egD]; exact sp458
          have fF0 : F344 0 = v335 := by rw [eF344, eF336]; rfl
          have fF1 : F344 1 = v343 := by rw [eF344, eF336]; rfl
          have oo := tw_gHM_o (g := gD) (b := (960 + 32 * g.2 4)) (j := g.2 4) (x := q303) (p := p315) (r := (nI ja)) (gd := go) (sv := si) rfl lc9 (Ne.symm xn321)
          have vv := tw_gHM_v (g := gD) (b := (960 + 32 * g.2 4)) (x := q303) (p := p315) (r := (nI ja)) (gd := go) (sv := si)
          have ww := tw_gHM_w (g := gD) (b := (960 + 32 * g.2 4)) (j := g.2 4) (τ := τ) (x := q303) (p := p315) (r := (nI ja)) (gd := go) (sv := si) rfl lc9 (by rw [d2]; exact he9) z307 z323
          have gn4 : (tw_gHM gD (960 + 32 * g.2 4) q303 p315 (nI ja) go si).2 4 = g.2 4 := by rw [tw_gHM_2 (by decide) (by omega) (by omega), d2]
          obtain ⟨gN, egN⟩ : ∃ z : tw_G, z = tw_gHM gD (960 + 32 * g.2 4) q303 p315 (nI ja) go si := ⟨_, rfl⟩
          rw [← egN] at oo vv ww gn4
          have sp497 : tw_sp d τ h gN τ h455 := sp496.gw2 ww
          obtain ⟨τ498, eτ498⟩ : ∃ z : tw_K, z = tw_ku τ p315 31 := ⟨_, rfl⟩
          have le499 : tw_le τ τ498 := by rw [eτ498]; exact tw_ku_le z323
          have k500 : τ498 x = 36 := le499.k kx (by decide)
          have k501 : τ498 o = 12 := le499.k ko (by decide)
          have k502 : τ498 ds_8 = 34 := le499.k k17 (by decide)
          have k503 : τ498 fr_9 = 34 := le499.k k18 (by decide)
          have k504 : τ498 ca_10 = 31 := le499.k k19 (by decide)
          have k505 : τ498 us_11 = 31 := le499.k k20 (by decide)
          have k506 : τ498 wo_12 = 31 := le499.k k21 (by decide)
          have k507 : τ498 cm_13 = 31 := le499.k k22 (by decide)
          have k508 : τ498 lc_14 = 24 := le499.k k23 (by decide)
          have k509 : τ498 lh_15 = 25 := le499.k k24 (by decide)
          have k510 : τ498 ld_16 = 26 := le499.k k25 (by decide)
          have k511 : τ498 ds_194 = 34 := le499.k k203 (by decide)
          have k512 : τ498 fr_195 = 34 := le499.k k204 (by decide)
          have k513 : τ498 ca_196 = 31 := le499.k k205 (by decide)
          have k514 : τ498 us_197 = 31 := le499.k k206 (by decide)
          have k515 : τ498 wo_198 = 31 := le499.k k207 (by decide)
          have k516 : τ498 cm_199 = 31 := le499.k k208 (by decide)
          have k517 : τ498 lc_200 = 24 := le499.k k209 (by decide)
          have k518 : τ498 lh_201 = 25 := le499.k k210 (by decide)
          have k519 : τ498 ld_202 = 26 := le499.k k211 (by decide)
          have k520 : τ498 ds_243 = 34 := le499.k k252 (by decide)
          have k521 : τ498 fr_244 = 34 := le499.k k253 (by decide)
          have k522 : τ498 ca_245 = 31 := le499.k k254 (by decide)
          have k523 : τ498 us_246 = 31 := le499.k k255 (by decide)
          have k524 : τ498 wo_247 = 31 := le499.k k256 (by decide)
          have k525 : τ498 cm_248 = 31 := le499.k k257 (by decide)
          have k526 : τ498 lc_249 = 24 := le499.k k258 (by decide)
          have k527 : τ498 lh_250 = 25 := le499.k k259 (by decide)
          have k528 : τ498 ld_251 = 26 := le499.k k260 (by decide)
          have k529 : τ498 ds_355 = 34 := le499.k k364 (by decide)
          have k530 : τ498 fr_356 = 34 := le499.k k365 (by decide)
          have k531 : τ498 ca_357 = 31 := le499.k k366 (by decide)
          have k532 : τ498 us_358 = 31 := le499.k k367 (by decide)
          have k533 : τ498 wo_359 = 31 := le499.k k368 (by decide)
          have k534 : τ498 cm_360 = 31 := le499.k k369 (by decide)
          have k535 : τ498 lc_361 = 24 := le499.k k370 (by decide)
          have k536 : τ498 lh_362 = 25 := le499.k k371 (by decide)
          have k537 : τ498 ld_363 = 26 := le499.k k372 (by decide)
          have k538 : τ498 ds_411 = 34 := le499.k k420 (by decide)
          have k539 : τ498 fr_412 = 34 := le499.k k421 (by decide)
          have k540 : τ498 ca_413 = 31 := le499.k k422 (by decide)
          have k541 : τ498 us_414 = 31 := le499.k k423 (by decide)
          have k542 : τ498 wo_415 = 31 := le499.k k424 (by decide)
          have k543 : τ498 cm_416 = 31 := le499.k k425 (by decide)
          have k544 : τ498 lc_417 = 24 := le499.k k426 (by decide)
          have k545 : τ498 lh_418 = 25 := le499.k k427 (by decide)
          have k546 : τ498 ld_419 = 26 := le499.k k428 (by decide)
          have k547 : τ498 ds_465 = 34 := le499.k k474 (by decide)
          have k548 : τ498 fr_466 = 34 := le499.k k475 (by decide)
          have k549 : τ498 ca_467 = 31 := le499.k k476 (by decide)
          have k550 : τ498 us_468 = 31 := le499.k k477 (by decide)
          have k551 : τ498 wo_469 = 31 := le499.k k478 (by decide)
          have k552 : τ498 cm_470 = 31 := le499.k k479 (by decide)
          have k553 : τ498 lc_471 = 24 := le499.k k480 (by decide)
          have k554 : τ498 lh_472 = 25 := le499.k k481 (by decide)
          have k555 : τ498 ld_473 = 26 := le499.k k482 (by decide)
          have sp556 : tw_sp d τ h gN τ498 h455 := by rw [eτ498]; exact sp497.ty n328 z323 f460 (by rw [← eτ498]; exact ⟨_, rfl, _, oo.2, fun k hk => by rcases (show k = 0 ∨ k = 1 by omega) with rfl | rfl; (rw [fF0, ev335]; exact congrArg Int32.toInt64 vv.2.2.2.1.symm); (rw [fF1, ev343]; exact congrArg Int32.toInt64 vv.2.2.2.2.symm)⟩)
          have k557 : τ498 p315 = 31 := by rw [eτ498]; exact tw_ku_s
          have z558 : τ498 q303 = 0 := by rw [eτ498, tw_ku_n xn321]; exact z307
          obtain ⟨τ559, eτ559⟩ : ∃ z : tw_K, z = tw_ku τ498 q303 23 := ⟨_, rfl⟩
          have le560 : tw_le τ498 τ559 := by rw [eτ559]; exact tw_ku_le z558
          have k561 : τ559 x = 36 := le560.k k500 (by decide)
          have k562 : τ559 o = 12 := le560.k k501 (by decide)
          have k563 : τ559 ds_8 = 34 := le560.k k502 (by decide)
          have k564 : τ559 fr_9 = 34 := le560.k k503 (by decide)
          have k565 : τ559 ca_10 = 31 := le560.k k504 (by decide)
          have k566 : τ559 us_11 = 31 := le560.k k505 (by decide)
          have k567 : τ559 wo_12 = 31 := le560.k k506 (by decide)
          have k568 : τ559 cm_13 = 31 := le560.k k507 (by decide)
          have k569 : τ559 lc_14 = 24 := le560.k k508 (by decide)
          have k570 : τ559 lh_15 = 25 := le560.k k509 (by decide)
          have k571 : τ559 ld_16 = 26 := le560.k k510 (by decide)
          have k572 : τ559 ds_194 = 34 := le560.k k511 (by decide)
          have k573 : τ559 fr_195 = 34 := le560.k k512 (by decide)
          have k574 : τ559 ca_196 = 31 := le560.k k513 (by decide)
          have k575 : τ559 us_197 = 31 := le560.k k514 (by decide)
          have k576 : τ559 wo_198 = 31 := le560.k k515 (by decide)
          have k577 : τ559 cm_199 = 31 := le560.k k516 (by decide)
          have k578 : τ559 lc_200 = 24 := le560.k k517 (by decide)
          have k579 : τ559 lh_201 = 25 := le560.k k518 (by decide)
          have k580 : τ559 ld_202 = 26 := le560.k k519 (by decide)
          have k581 : τ559 ds_243 = 34 := le560.k k520 (by decide)
          have k582 : τ559 fr_244 = 34 := le560.k k521 (by decide)
          have k583 : τ559 ca_245 = 31 := le560.k k522 (by decide)
          have k584 : τ559 us_246 = 31 := le560.k k523 (by decide)
          have k585 : τ559 wo_247 = 31 := le560.k k524 (by decide)
          have k586 : τ559 cm_248 = 31 := le560.k k525 (by decide)
          have k587 : τ559 lc_249 = 24 := le560.k k526 (by decide)
          have k588 : τ559 lh_250 = 25 := le560.k k527 (by decide)
          have k589 : τ559 ld_251 = 26 := le560.k k528 (by decide)
          have k590 : τ559 ds_355 = 34 := le560.k k529 (by decide)
          have k591 : τ559 fr_356 = 34 := le560.k k530 (by decide)
          have k592 : τ559 ca_357 = 31 := le560.k k531 (by decide)
          have k593 : τ559 us_358 = 31 := le560.k k532 (by decide)
          have k594 : τ559 wo_359 = 31 := le560.k k533 (by decide)
          have k595 : τ559 cm_360 = 31 := le560.k k534 (by decide)
          have k596 : τ559 lc_361 = 24 := le560.k k535 (by decide)
          have k597 : τ559 lh_362 = 25 := le560.k k536 (by decide)
          have k598 : τ559 ld_363 = 26 := le560.k k537 (by decide)
          have k599 : τ559 ds_411 = 34 := le560.k k538 (by decide)
          have k600 : τ559 fr_412 = 34 := le560.k k539 (by decide)
          have k601 : τ559 ca_413 = 31 := le560.k k540 (by decide)
          have k602 : τ559 us_414 = 31 := le560.k k541 (by decide)
          have k603 : τ559 wo_415 = 31 := le560.k k542 (by decide)
          have k604 : τ559 cm_416 = 31 := le560.k k543 (by decide)
          have k605 : τ559 lc_417 = 24 := le560.k k544 (by decide)
          have k606 : τ559 lh_418 = 25 := le560.k k545 (by decide)
          have k607 : τ559 ld_419 = 26 := le560.k k546 (by decide)
          have k608 : τ559 ds_465 = 34 := le560.k k547 (by decide)
          have k609 : τ559 fr_466 = 34 := le560.k k548 (by decide)
          have k610 : τ559 ca_467 = 31 := le560.k k549 (by decide)
          have k611 : τ559 us_468 = 31 := le560.k k550 (by decide)
          have k612 : τ559 wo_469 = 31 := le560.k k551 (by decide)
          have k613 : τ559 cm_470 = 31 := le560.k k552 (by decide)
          have k614 : τ559 lc_471 = 24 := le560.k k553 (by decide)
          have k615 : τ559 lh_472 = 25 := le560.k k554 (by decide)
          have k616 : τ559 ld_473 = 26 := le560.k k555 (by decide)
          have k617 : τ559 p315 = 31 := le560.k k557 (by decide)
          have sp618 : tw_sp d τ h gN τ559 h455 := by rw [eτ559]; exact sp556.ty n306 z558 f459 (by rw [← eτ559]; exact ⟨_, _, _, p315, rfl, k617, Or.inr ⟨_, by rw [ww.2.1 3 (by decide) (by decide) (by decide), d2]; exact q1j, rfl⟩, Or.inl rfl, g.2 4, oo.1, vv.1.symm, vv.2.1.symm, vv.2.2.1.symm, oo.2.2.2.2.2⟩)
          have k619 : τ559 q303 = 23 := by rw [eτ559]; exact tw_ku_s
          obtain ⟨e620, f621, ⟨el622, rfl, k623⟩, k624⟩ := sp618.1 lh_472 25 k615 (by decide)
          have hb9 : gN.2 4 + 1 ≤ 6 := by rw [gn4]; exact hb8
          have hid9 : gN.2 (4096 + q303) = 960 + 32 * gN.2 4 := by rw [gn4]; exact oo.1.2.2.2.2
          rcases k623 with k623p | k623p
          · obtain ⟨pa, pn, pf⟩ := k623p
            subst pa
            have f9 : h455 lh_472 = some (.inr (3, [.int (gN.1 4), .ref (d.2 102), .int (nI 0)])) := by have z := f621; rw [pn] at z; exact z
            refine tw_bi (tw_callV (M := mX10_house) (pc := 134) okJx4a65c_add_9ea2d dX10_house_134 w_1234 rfl f621 [.ref q303] [] rfl rfl ⟨by decide, by decide⟩ (Nat.le_of_ble_eq_true rfl) (c_add_new d h455 lh_472 (gN.1 4) f9 q303 13 _ _ rfl (ng_13) f459 (by decide)) 7 44 (Nat.le_of_ble_eq_true rfl) (Nat.le_of_ble_eq_true rfl)) (fun r9 h625 q9 => ?_) (fun E h1 q => q.elim)
            obtain ⟨r8, hr8, q1, q2, q3⟩ := q9
            have th626 : tw_th (h625 x) = 0 := by rw [q3 x (tw_nz k561 k615 (by decide)) (tw_thF sp618.1 k561 hr8)]; exact th456
            have oq627 : h625 o = h o := by rw [q3 o (tw_nk k562 k615 (by decide)) (tw_kF sp618.1 k562 (by decide) hr8)] <;> exact oq457
            obtain ⟨g9, τ9, ⟨hga, hg1⟩, sp9⟩ := tw_gadd25 (F := fun _ => none) sp618.1 k615 k619 hb9 hid9 (fun j hj => by rw [pn] at hj; exact absurd hj (Nat.not_lt_zero _)) (Or.inr ⟨hr8, pf⟩) (by rw [pn]; exact q1) (by rw [pn]; exact q2) q3
            have sp628 := sp618.tr sp9
            have k629 : τ9 x = 36 := sp9.2.1.k k561 (by decide)
            have k630 : τ9 o = 12 := sp9.2.1.k k562 (by decide)
            have k631 : τ9 ds_8 = 34 := sp9.2.1.k k563 (by decide)
            have k632 : τ9 fr_9 = 34 := sp9.2.1.k k564 (by decide)
            have k633 : τ9 ca_10 = 31 := sp9.2.1.k k565 (by decide)
            have k634 : τ9 us_11 = 31 := sp9.2.1.k k566 (by decide)
            have k635 : τ9 wo_12 = 31 := sp9.2.1.k k567 (by decide)
            have k636 : τ9 cm_13 = 31 := sp9.2.1.k k568 (by decide)
            have k637 : τ9 lc_14 = 24 := sp9.2.1.k k569 (by decide)
            have k638 : τ9 lh_15 = 25 := sp9.2.1.k k570 (by decide)
            have k639 : τ9 ld_16 = 26 := sp9.2.1.k k571 (by decide)
            have k640 : τ9 ds_194 = 34 := sp9.2.1.k k572 (by decide)
            have k641 : τ9 fr_195 = 34 := sp9.2.1.k k573 (by decide)
            have k642 : τ9 ca_196 = 31 := sp9.2.1.k k574 (by decide)
            have k643 : τ9 us_197 = 31 := sp9.2.1.k k575 (by decide)
            have k644 : τ9 wo_198 = 31 := sp9.2.1.k k576 (by decide)
            have k645 : τ9 cm_199 = 31 := sp9.2.1.k k577 (by decide)
            have k646 : τ9 lc_200 = 24 := sp9.2.1.k k578 (by decide)
            have k647 : τ9 lh_201 = 25 := sp9.2.1.k k579 (by decide)
            have k648 : τ9 ld_202 = 26 := sp9.2.1.k k580 (by decide)
            have k649 : τ9 ds_243 = 34 := sp9.2.1.k k581 (by decide)
            have k650 : τ9 fr_244 = 34 := sp9.2.1.k k582 (by decide)
            have k651 : τ9 ca_245 = 31 := sp9.2.1.k k583 (by decide)
            have k652 : τ9 us_246 = 31 := sp9.2.1.k k584 (by decide)
            have k653 : τ9 wo_247 = 31 := sp9.2.1.k k585 (by decide)
            have k654 : τ9 cm_248 = 31 := sp9.2.1.k k586 (by decide)
            have k655 : τ9 lc_249 = 24 := sp9.2.1.k k587 (by decide)
            have k656 : τ9 lh_250 = 25 := sp9.2.1.k k588 (by decide)
            have k657 : τ9 ld_251 = 26 := sp9.2.1.k k589 (by decide)
            have k658 : τ9 ds_355 = 34 := sp9.2.1.k k590 (by decide)
            have k659 : τ9 fr_356 = 34 := sp9.2.1.k k591 (by decide)
            have k660 : τ9 ca_357 = 31 := sp9.2.1.k k592 (by decide)
            have k661 : τ9 us_358 = 31 := sp9.2.1.k k593 (by decide)
            have k662 : τ9 wo_359 = 31 := sp9.2.1.k k594 (by decide)
            have k663 : τ9 cm_360 = 31 := sp9.2.1.k k595 (by decide)
            have k664 : τ9 lc_361 = 24 := sp9.2.1.k k596 (by decide)
            have k665 : τ9 lh_362 = 25 := sp9.2.1.k k597 (by decide)
            have k666 : τ9 ld_363 = 26 := sp9.2.1.k k598 (by decide)
            have k667 : τ9 ds_411 = 34 := sp9.2.1.k k599 (by decide)
            have k668 : τ9 fr_412 = 34 := sp9.2.1.k k600 (by decide)
            have k669 : τ9 ca_413 = 31 := sp9.2.1.k k601 (by decide)
            have k670 : τ9 us_414 = 31 := sp9.2.1.k k602 (by decide)
            have k671 : τ9 wo_415 = 31 := sp9.2.1.k k603 (by decide)
            have k672 : τ9 cm_416 = 31 := sp9.2.1.k k604 (by decide)
            have k673 : τ9 lc_417 = 24 := sp9.2.1.k k605 (by decide)
            have k674 : τ9 lh_418 = 25 := sp9.2.1.k k606 (by decide)
            have k675 : τ9 ld_419 = 26 := sp9.2.1.k k607 (by decide)
            have k676 : τ9 ds_465 = 34 := sp9.2.1.k k608 (by decide)
            have k677 : τ9 fr_466 = 34 := sp9.2.1.k k609 (by decide)
            have k678 : τ9 ca_467 = 31 := sp9.2.1.k k610 (by decide)
            have k679 : τ9 us_468 = 31 := sp9.2.1.k k611 (by decide)
            have k680 : τ9 wo_469 = 31 := sp9.2.1.k k612 (by decide)
            have k681 : τ9 cm_470 = 31 := sp9.2.1.k k613 (by decide)
            have k682 : τ9 lc_471 = 24 := sp9.2.1.k k614 (by decide)
            have k683 : τ9 lh_472 = 25 := sp9.2.1.k k615 (by decide)
            have k684 : τ9 ld_473 = 26 := sp9.2.1.k k616 (by decide)
            have k685 : τ9 p315 = 31 := sp9.2.1.k k617 (by decide)
            have k686 : τ9 q303 = 23 := sp9.2.1.k k619 (by decide)
            refine tw_pop dX10_house_137 rfl ?_
            refine tw_aload_n 1 dX10_house_138 rfl rfl ?_
            obtain ⟨e687, f688, th_689, td_690, ds_691, fr_692, ca_693, us_694, wo_695, cm_696, lc_697, lh_698, ld_699, rfl, k700, k701, k702, k703, k704, k705, k706, k707, k708, k709, k710, k711, k712, k713, k714, k715, k716, k717, k718, k719, k720, k721⟩ := sp628.1 x 36 k629 (by decide)
            refine tw_get (v := .ref lh_698) rfl in_14 10 dX10_house_139 w_1161 rfl (by decide) f688 rfl ?_
            obtain ⟨e725, f726, ⟨el727, rfl, k728⟩, k729⟩ := sp628.1 lh_698 25 k707 (by decide)
            refine tw_bi (tw_callV (M := mX10_house) (pc := 142) okJx4a65c_size_8abf5 dX10_house_142 w_1204 rfl f726 [] [] rfl rfl ⟨by decide, by decide⟩ (Nat.le_of_ble_eq_true rfl) (c25_size d g9 τ9 h625 sp628.1 lh_698 k707) 7 44 (Nat.le_of_ble_eq_true rfl) (Nat.le_of_ble_eq_true rfl)) (fun r732 h731 q730 => ?_) (fun E h1 q => q.elim)
            obtain ⟨q730e, q730r⟩ := q730
            rw [q730e, q730r]
            refine tw_iconst (v := 1) dX10_house_145 (by decide) ?_
            refine tw_isub dX10_house_146 ?_
            refine tw_nmi (fun v733 ev733 => ?_)
            exact tw_iret dX10_house_147 rfl (Or.inl ⟨_, rfl, _, _, sp628, oq627, Or.inr (Or.inr (Or.inr (⟨ix0, rc9, (by (try rw [cDa]); first | done | exact lc9), (by (try rw [cDa]); first | done | exact (by rw [ev733, hg1.1, gn4]; exact nI_pred _)), th626, ⟨_, _, by rw [← egD, ← egN]; exact ⟨hga, hg1⟩⟩⟩)))⟩)
          · obtain ⟨e9, fa9, ⟨F9, rfl, hc9, h49⟩, un9⟩ := sp618.1 el622 28 k623p (by decide)
            refine tw_bi (tw_callV (M := mX10_house) (pc := 134) okJx4a65c_add_9ea2d dX10_house_134 w_1234 rfl f621 [.ref q303] [] rfl rfl ⟨by decide, by decide⟩ (Nat.le_of_ble_eq_true rfl) (c_add_old d h455 lh_472 el622 (gN.2 4) F9 (gN.1 4) (by omega) f621 fa9 q303 13 _ _ rfl (ng_13) f459 (by decide)) 7 44 (Nat.le_of_ble_eq_true rfl) (Nat.le_of_ble_eq_true rfl)) (fun r9 h734 q9 => ?_) (fun E h1 q => q.elim)
            obtain ⟨q1, q2, q3⟩ := q9
            have th735 : tw_th (h734 x) = 0 := by rw [q3 x (tw_nz k561 k615 (by decide)) (tw_nz k561 k623p (by decide))]; exact th456
            have oq736 : h734 o = h o := by rw [q3 o (tw_nk k562 k615 (by decide)) (tw_nk k562 k623p (by decide))] <;> exact oq457
            obtain ⟨g9, τ9, ⟨hga, hg1⟩, sp9⟩ := tw_gadd25 sp618.1 k615 k619 hb9 hid9 (fun j hj => by obtain ⟨y9, a9, b9⟩ := h49 j hj; exact ⟨y9, a9, b9, un9.2.2 _ _ F9 rfl j y9 hj a9⟩) (Or.inl k623p) q1 q2 q3
            have sp737 := sp618.tr sp9
            have k738 : τ9 x = 36 := sp9.2.1.k k561 (by decide)
            have k739 : τ9 o = 12 := sp9.2.1.k k562 (by decide)
            have k740 : τ9 ds_8 = 34 := sp9.2.1.k k563 (by decide)
            have k741 : τ9 fr_9 = 34 := sp9.2.1.k k564 (by decide)
            have k742 : τ9 ca_10 = 31 := sp9.2.1.k k565 (by decide)
            have k743 : τ9 us_11 = 31 := sp9.2.1.k k566 (by decide)
            have k744 : τ9 wo_12 = 31 := sp9.2.1.k k567 (by decide)
            have k745 : τ9 cm_13 = 31 := sp9.2.1.k k568 (by decide)
            have k746 : τ9 lc_14 = 24 := sp9.2.1.k k569 (by decide)
            have k747 : τ9 lh_15 = 25 := sp9.2.1.k k570 (by decide)
            have k748 : τ9 ld_16 = 26 := sp9.2.1.k k571 (by decide)
            have k749 : τ9 ds_194 = 34 := sp9.2.1.k k572 (by decide)
            have k750 : τ9 fr_195 = 34 := sp9.2.1.k k573 (by decide)
            have k751 : τ9 ca_196 = 31 := sp9.2.1.k k574 (by decide)
            have k752 : τ9 us_197 = 31 := sp9.2.1.k k575 (by decide)
            have k753 : τ9 wo_198 = 31 := sp9.2.1.k k576 (by decide)
            have k754 : τ9 cm_199 = 31 := sp9.2.1.k k577 (by decide)
            have k755 : τ9 lc_200 = 24 := sp9.2.1.k k578 (by decide)
            have k756 : τ9 lh_201 = 25 := sp9.2.1.k k579 (by decide)
            have k757 : τ9 ld_202 = 26 := sp9.2.1.k k580 (by decide)
            have k758 : τ9 ds_243 = 34 := sp9.2.1.k k581 (by decide)
            have k759 : τ9 fr_244 = 34 := sp9.2.1.k k582 (by decide)
            have k760 : τ9 ca_245 = 31 := sp9.2.1.k k583 (by decide)
            have k761 : τ9 us_246 = 31 := sp9.2.1.k k584 (by decide)
            have k762 : τ9 wo_247 = 31 := sp9.2.1.k k585 (by decide)
            have k763 : τ9 cm_248 = 31 := sp9.2.1.k k586 (by decide)
            have k764 : τ9 lc_249 = 24 := sp9.2.1.k k587 (by decide)
            have k765 : τ9 lh_250 = 25 := sp9.2.1.k k588 (by decide)
            have k766 : τ9 ld_251 = 26 := sp9.2.1.k k589 (by decide)
            have k767 : τ9 ds_355 = 34 := sp9.2.1.k k590 (by decide)
            have k768 : τ9 fr_356 = 34 := sp9.2.1.k k591 (by decide)
            have k769 : τ9 ca_357 = 31 := sp9.2.1.k k592 (by decide)
            have k770 : τ9 us_358 = 31 := sp9.2.1.k k593 (by decide)
            have k771 : τ9 wo_359 = 31 := sp9.2.1.k k594 (by decide)
            have k772 : τ9 cm_360 = 31 := sp9.2.1.k k595 (by decide)
            have k773 : τ9 lc_361 = 24 := sp9.2.1.k k596 (by decide)
            have k774 : τ9 lh_362 = 25 := sp9.2.1.k k597 (by decide)
            have k775 : τ9 ld_363 = 26 := sp9.2.1.k k598 (by decide)
            have k776 : τ9 ds_411 = 34 := sp9.2.1.k k599 (by decide)
            have k777 : τ9 fr_412 = 34 := sp9.2.1.k k600 (by decide)
            have k778 : τ9 ca_413 = 31 := sp9.2.1.k k601 (by decide)
            have k779 : τ9 us_414 = 31 := sp9.2.1.k k602 (by decide)
            have k780 : τ9 wo_415 = 31 := sp9.2.1.k k603 (by decide)
            have k781 : τ9 cm_416 = 31 := sp9.2.1.k k604 (by decide)
            have k782 : τ9 lc_417 = 24 := sp9.2.1.k k605 (by decide)
            have k783 : τ9 lh_418 = 25 := sp9.2.1.k k606 (by decide)
            have k784 : τ9 ld_419 = 26 := sp9.2.1.k k607 (by decide)
            have k785 : τ9 ds_465 = 34 := sp9.2.1.k k608 (by decide)
            have k786 : τ9 fr_466 = 34 := sp9.2.1.k k609 (by decide)
            have k787 : τ9 ca_467 = 31 := sp9.2.1.k k610 (by decide)
            have k788 : τ9 us_468 = 31 := sp9.2.1.k k611 (by decide)
            have k789 : τ9 wo_469 = 31 := sp9.2.1.k k612 (by decide)
            have k790 : τ9 cm_470 = 31 := sp9.2.1.k k613 (by decide)
            have k791 : τ9 lc_471 = 24 := sp9.2.1.k k614 (by decide)
            have k792 : τ9 lh_472 = 25 := sp9.2.1.k k615 (by decide)
            have k793 : τ9 ld_473 = 26 := sp9.2.1.k k616 (by decide)
            have k794 : τ9 p315 = 31 := sp9.2.1.k k617 (by decide)
            have k795 : τ9 q303 = 23 := sp9.2.1.k k619 (by decide)
            refine tw_pop dX10_house_137 rfl ?_
            refine tw_aload_n 1 dX10_house_138 rfl rfl ?_
            obtain ⟨e796, f797, th_798, td_799, ds_800, fr_801, ca_802, us_803, wo_804, cm_805, lc_806, lh_807, ld_808, rfl, k809, k810, k811, k812, k813, k814, k815, k816, k817, k818, k819, k820, k821, k822, k823, k824, k825, k826, k827, k828, k829, k830⟩ := sp737.1 x 36 k738 (by decide)
            refine tw_get (v := .ref lh_807) rfl in_14 10 dX10_house_139 w_1161 rfl (by decide) f797 rfl ?_
            obtain ⟨e834, f835, ⟨el836, rfl, k837⟩, k838⟩ := sp737.1 lh_807 25 k816 (by decide)
            refine tw_bi (tw_callV (M := mX10_house) (pc := 142) okJx4a65c_size_8abf5 dX10_house_142 w_1204 rfl f835 [] [] rfl rfl ⟨by decide, by decide⟩ (Nat.le_of_ble_eq_true rfl) (c25_size d g9 τ9 h734 sp737.1 lh_807 k816) 7 44 (Nat.le_of_ble_eq_true rfl) (Nat.le_of_ble_eq_true rfl)) (fun r841 h840 q839 => ?_) (fun E h1 q => q.elim)
            obtain ⟨q839e, q839r⟩ := q839
            rw [q839e, q839r]
            refine tw_iconst (v := 1) dX10_house_145 (by decide) ?_
            refine tw_isub dX10_house_146 ?_
            refine tw_nmi (fun v842 ev842 => ?_)
            exact tw_iret dX10_house_147 rfl (Or.inl ⟨_, rfl, _, _, sp737, oq736, Or.inr (Or.inr (Or.inr (⟨ix0, rc9, (by (try rw [cDa]); first | done | exact lc9), (by (try rw [cDa]); first | done | exact (by rw [ev842, hg1.1, gn4]; exact nI_pred _)), th735, ⟨_, _, by rw [← egD, ← egN]; exact ⟨hga, hg1⟩⟩⟩)))⟩)
        · refine tw_iconst (v := 1) dX10_house_59 (by decide) ?_
          refine tw_goto 64 dX10_house_60 (by decide) ?_
          refine tw_iconst (v := 3) dX10_house_64 (by decide) ?_
          refine tw_bi (tw_callV (M := mX10_house) (pc := 65) okX10_refuse dX10_house_65 w_1200 rfl f240 [.int 1, .int 3] [] rfl rfl ⟨by decide, by decide⟩ (Nat.le_of_ble_eq_true rfl) (c_X10_refuse d g τ h226 sp236.1 x kx 1 3 (by decide)) 10 60 (Nat.le_of_ble_eq_true rfl) (Nat.le_of_ble_eq_true rfl)) (fun r848 h847 q846 => ?_) (fun E h1 q => q.elim)
          obtain ⟨e849, he850, hs851, hr852, hc853⟩ := q846
          obtain ⟨rz854, tz855⟩ := (hc853 th235).2 rfl
          have th856 : tw_th (h847 x) = 3 := by rw [he850, tw_up_s]; exact tz855
          have sp857 : tw_sp d τ h g τ h847 := by rw [he850]; exact sp236.set kx (by decide) hs851
          rw [rz854]
          have oq858 : h847 o = h o := by rw [he850, tw_up_n (tw_nk ko kx (by decide))] <;> exact oq237
          refine tw_if_eq 73 dX10_house_68 (by decide) (fun c859 => absurd c859 (by decide)) (fun _ => ?_)
          refine tw_iconst (v := 0) dX10_house_71 (by decide) ?_
          exact tw_iret dX10_house_72 rfl (Or.inl ⟨_, rfl, _, _, sp857, oq858, Or.inr (Or.inr (Or.inl ⟨ix0, rc9, (by (try rw [cDa]); first | done | exact fun z => absurd (tw_nIj (a := g.2 4) (b := 6) c285 (by omega) (by decide)) (by omega)), th856, rfl⟩))⟩)

set_option maxHeartbeats 4000000 in
set_option maxRecDepth 100000 in
theorem c2_X10_owe (d : tw_D) (g : tw_G) (τ : tw_K) (h : tw_H) (hw : tw_wt d g τ h) (x : Nat) (kx : τ x = 36) (a : Int32) (b : Int32) (v : Int32) (dy : Int32) (o : Nat) (ko : τ o = 12) (he9 : g.2 133 = 1232 + 8 * g.2 5) : tw_Ct d mX10_owe 10 60 [.ref x, .int a, .int b, .int v, .int dy] h (tw_qi (fun r9 h1 => ∃ g1 τ1, tw_sp d τ h g1 τ1 h1 ∧ h1 o = h o ∧ ((¬ (tw_ix (g.2 4) a ∧ tw_ix (g.2 4) b) ∧ tw_th (h1 x) = 1 ∧ g1 = g) ∨ ((tw_ix (g.2 4) a ∧ tw_ix (g.2 4) b) ∧ ¬ (tw_RO a b v dy) ∧ tw_th (h1 x) = 2 ∧ g1 = g) ∨ ((tw_ix (g.2 4) a ∧ tw_ix (g.2 4) b) ∧ (tw_RO a b v dy) ∧ ¬ (g.2 5 < 10) ∧ tw_th (h1 x) = 3 ∧ g1 = g) ∨ ((tw_ix (g.2 4) a ∧ tw_ix (g.2 4) b) ∧ (tw_RO a b v dy) ∧ (g.2 5 < 10) ∧ r9 = nI (g.2 5) ∧ tw_th (h1 x) = 0 ∧ ∃ y9, tw_gk 5 (tw_gDM g (1232 + 8 * g.2 5) y9 v (nI (g.2 22) + dy) a b) g1))) tw_nx) := by
  refine tw_of (by decide +kernel) (Nat.le_of_ble_eq_true rfl) ?_
  show tw_W d mX10_owe _ 0 [(0, .ref x), (1, .int a), (2, .int b), (3, .int v), (4, .int dy)] [] h 10 60
  have sp0 := tw_sp.rf hw
  have oq0 : h o = h o := rfl
  have b93 := tw_b3 hw kx
  refine tw_aload_n 0 dX10_owe_0 rfl rfl ?_
  refine tw_aload_n 0 dX10_owe_1 rfl rfl ?_
  refine tw_iload_n 1 dX10_owe_2 rfl rfl ?_
  obtain ⟨e4, f5, th_6, td_7, ds_8, fr_9, ca_10, us_11, wo_12, cm_13, lc_14, lh_15, ld_16, rfl, k17, k18, k19, k20, k21, k22, k23, k24, k25, k26, k27, k28, k29, k30, k31, k32, k33, k34, k35, k36, k37, k38⟩ := sp0.1 x 36 kx (by decide)
  refine tw_bi (tw_callV (M := mX10_owe) (pc := 3) okX10_isNoHouse dX10_owe_3 w_1358 rfl f5 [.int a] [.ref x] rfl rfl ⟨by decide, by decide⟩ (Nat.le_of_ble_eq_true rfl) (c2_X10_isNoHouse d g τ h sp0.1 x kx a) 10 60 (Nat.le_of_ble_eq_true rfl) (Nat.le_of_ble_eq_true rfl)) (fun r3 h2 q1 => ?_) (fun E h1 q => q.elim)
  obtain ⟨q1e, q1d⟩ := q1
  rw [q1e]
  rcases q1d with ⟨q1r, q1n⟩ | ⟨q1r, q1i⟩
  · rw [q1r]
    refine tw_if_ne 17 dX10_owe_6 (by decide) (fun _ => ?_) (fun c39 => absurd c39 (by decide))
    refine tw_iconst (v := 1) dX10_owe_17 (by decide) ?_
    refine tw_goto 22 dX10_owe_18 (by decide) ?_
    refine tw_iconst (v := 1) dX10_owe_22 (by decide) ?_
    refine tw_bi (tw_callV (M := mX10_owe) (pc := 23) okX10_start dX10_owe_23 w_1196 rfl f5 [.int 1, .int 1] [] rfl rfl ⟨by decide, by decide⟩ (Nat.le_of_ble_eq_true rfl) (c_X10_start d g τ h sp0.1 x kx 1 1 (by decide)) 10 60 (Nat.le_of_ble_eq_true rfl) (Nat.le_of_ble_eq_true rfl)) (fun r45 h44 q43 => ?_) (fun E h1 q => q.elim)
    obtain ⟨e46, he47, hs48, hr49, hc50⟩ := q43
    obtain ⟨rz51, tz52⟩ := hc50.2 rfl
    have th53 : tw_th (h44 x) = 1 := by rw [he47, tw_up_s]; exact tz52
    have sp54 : tw_sp d τ h g τ h44 := by rw [he47]; exact sp0.set kx (by decide) hs48
    rw [rz51]
    have oq55 : h44 o = h o := by rw [he47, tw_up_n (tw_nk ko kx (by decide))] <;> exact oq0
    refine tw_if_ne 95 dX10_owe_26 (by decide) (fun _ => ?_) (fun c56 => absurd c56 (by decide))
    refine tw_iconst (v := 0) dX10_owe_95 (by decide) ?_
    exact tw_iret dX10_owe_96 rfl (Or.inl ⟨_, rfl, _, _, sp54, oq55, Or.inl ⟨fun z => q1n z.1, th53, rfl⟩⟩)
  · rw [q1r]
    have q1x := q1i
    obtain ⟨ja, q1j, q1k⟩ := q1i
    subst q1k
    have cDa : tw_DN (nI ja) = ja := nI_clamp (by omega)
    refine tw_if_ne 17 dX10_owe_6 (by decide) (fun c57 => absurd (by decide) c57) (fun _ => ?_)
    refine tw_aload_n 0 dX10_owe_9 rfl rfl ?_
    refine tw_iload_n 2 dX10_owe_10 rfl rfl ?_
    refine tw_bi (tw_callV (M := mX10_owe) (pc := 11) okX10_isNoHouse dX10_owe_11 w_1358 rfl f5 [.int b] [.ref x] rfl rfl ⟨by decide, by decide⟩ (Nat.le_of_ble_eq_true rfl) (c2_X10_isNoHouse d g τ h sp0.1 x kx b) 10 60 (Nat.le_of_ble_eq_true rfl) (Nat.le_of_ble_eq_true rfl)) (fun r60 h59 q58 => ?_) (fun E h1 q => q.elim)
    obtain ⟨q58e, q58d⟩ := q58
    rw [q58e]
    rcases q58d with ⟨q58r, q58n⟩ | ⟨q58r, q58i⟩
    · rw [q58r]
      refine tw_if_eq 21 dX10_owe_14 (by decide) (fun c61 => absurd c61 (by decide)) (fun _ => ?_)
      refine tw_iconst (v := 1) dX10_owe_17 (by decide) ?_
      refine tw_goto 22 dX10_owe_18 (by decide) ?_
      refine tw_iconst (v := 1) dX10_owe_22 (by decide) ?_
      refine tw_bi (tw_callV (M := mX10_owe) (pc := 23) okX10_start dX10_owe_23 w_1196 rfl f5 [.int 1, .int 1] [] rfl rfl ⟨by decide, by decide⟩ (Nat.le_of_ble_eq_true rfl) (c_X10_start d g τ h sp0.1 x kx 1 1 (by decide)) 10 60 (Nat.le_of_ble_eq_true rfl) (Nat.le_of_ble_eq_true rfl)) (fun r67 h66 q65 => ?_) (fun E h1 q => q.elim)
      obtain ⟨e68, he69, hs70, hr71, hc72⟩ := q65
      obtain ⟨rz73, tz74⟩ := hc72.2 rfl
      have th75 : tw_th (h66 x) = 1 := by rw [he69, tw_up_s]; exact tz74
      have sp76 : tw_sp d τ h g τ h66 := by rw [he69]; exact sp0.set kx (by decide) hs70
      rw [rz73]
      have oq77 : h66 o = h o := by rw [he69, tw_up_n (tw_nk ko kx (by decide))] <;> exact oq0
      refine tw_if_ne 95 dX10_owe_26 (by decide) (fun _ => ?_) (fun c78 => absurd c78 (by decide))
      refine tw_iconst (v := 0) dX10_owe_95 (by decide) ?_
      exact tw_iret dX10_owe_96 rfl (Or.inl ⟨_, rfl, _, _, sp76, oq77, Or.inl ⟨fun z => q58n z.2, th75, rfl⟩⟩)
    · rw [q58r]
      have q58x := q58i
      obtain ⟨jb, q58j, q58k⟩ := q58i
      subst q58k
      have cDb : tw_DN (nI jb) = jb := nI_clamp (by omega)
      have ix0 := And.intro q1x q58x
      refine tw_if_eq 21 dX10_owe_14 (by decide) (fun _ => ?_) (fun c79 => absurd (by decide) c79)
      refine tw_iconst (v := 0) dX10_owe_21 (by decide) ?_
      refine tw_iconst (v := 1) dX10_owe_22 (by decide) ?_
      refine tw_bi (tw_callV (M := mX10_owe) (pc := 23) okX10_start dX10_owe_23 w_1196 rfl f5 [.int 0, .int 1] [] rfl rfl ⟨by decide, by decide⟩ (Nat.le_of_ble_eq_true rfl) (c_X10_start d g τ h sp0.1 x kx 0 1 (by decide)) 10 60 (Nat.le_of_ble_eq_true rfl) (Nat.le_of_ble_eq_true rfl)) (fun r85 h84 q83 => ?_) (fun E h1 q => q.elim)
      obtain ⟨e86, he87, hs88, hr89, hc90⟩ := q83
      obtain ⟨rz91, tz92⟩ := hc90.1 rfl
      have th93 : tw_th (h84 x) = 0 := by rw [he87, tw_up_s]; exact tz92
      have sp94 : tw_sp d τ h g τ h84 := by rw [he87]; exact sp0.set kx (by decide) hs88
      rw [rz91]
      have oq95 : h84 o = h o := by rw [he87, tw_up_n (tw_nk ko kx (by decide))] <;> exact oq0
      refine tw_if_ne 95 dX10_owe_26 (by decide) (fun c96 => absurd (by decide) c96) (fun _ => ?_)
      refine tw_aload_n 0 dX10_owe_29 rfl rfl ?_
      refine tw_iload_n 1 dX10_owe_30 rfl rfl ?_
      refine tw_iload_n 2 dX10_owe_31 rfl rfl ?_
      refine tw_icmp_eq 58 dX10_owe_32 (by decide) (fun c97 => ?_) (fun c97 => ?_)
      · refine tw_iconst (v := 1) dX10_owe_58 (by decide) ?_
        refine tw_goto 63 dX10_owe_59 (by decide) ?_
        refine tw_iconst (v := 2) dX10_owe_63 (by decide) ?_
        obtain ⟨e101, f102, th_103, td_104, ds_105, fr_106, ca_107, us_108, wo_109, cm_110, lc_111, lh_112, ld_113, rfl, k114, k115, k116, k117, k118, k119, k120, k121, k122, k123, k124, k125, k126, k127, k128, k129, k130, k131, k132, k133, k134, k135⟩ := sp94.1 x 36 kx (by decide)
        refine tw_bi (tw_callV (M := mX10_owe) (pc := 64) okX10_refuse dX10_owe_64 w_1200 rfl f102 [.int 1, .int 2] [] rfl rfl ⟨by decide, by decide⟩ (Nat.le_of_ble_eq_true rfl) (c_X10_refuse d g τ h84 sp94.1 x kx 1 2 (by decide)) 10 60 (Nat.le_of_ble_eq_true rfl) (Nat.le_of_ble_eq_true rfl)) (fun r138 h137 q136 => ?_) (fun E h1 q => q.elim)
        obtain ⟨e139, he140, hs141, hr142, hc143⟩ := q136
        obtain ⟨rz144, tz145⟩ := (hc143 th93).2 rfl
        have th146 : tw_th (h137 x) = 2 := by rw [he140, tw_up_s]; exact tz145
        have sp147 : tw_sp d τ h g τ h137 := by rw [he140]; exact sp94.set kx (by decide) hs141
        rw [rz144]
        have oq148 : h137 o = h o := by rw [he140, tw_up_n (tw_nk ko kx (by decide))] <;> exact oq95
        refine tw_if_ne 95 dX10_owe_67 (by decide) (fun _ => ?_) (fun c149 => absurd c149 (by decide))
        refine tw_iconst (v := 0) dX10_owe_95 (by decide) ?_
        exact tw_iret dX10_owe_96 rfl (Or.inl ⟨_, rfl, _, _, sp147, oq148, Or.inr (Or.inl ⟨ix0, fun z => z.1 c97, th146, rfl⟩)⟩)
      · refine tw_iload_n 3 dX10_owe_35 rfl rfl ?_
        refine tw_iconst (v := 1) dX10_owe_36 (by decide) ?_
        refine tw_sipush (v := 9999) dX10_owe_37 (by decide) ?_
        refine tw_bi (tw_callS (M := mX10_owe) (pc := 40) okX10_isIn dX10_owe_40 w_1192 [.int v, .int 1, .int 9999] [.ref x] rfl rfl ⟨by decide, by decide⟩ (Nat.le_of_ble_eq_true rfl) (c_X10_isIn d g τ h84 sp94.1 v 1 9999) 10 60 (Nat.le_of_ble_eq_true rfl) (Nat.le_of_ble_eq_true rfl)) (fun r152 h151 q150 => ?_) (fun E h1 q => q.elim)
        obtain ⟨q150e, q150d⟩ := q150
        rw [q150e]
        rcases q150d with ⟨q150r, q150n⟩ | ⟨q150r, rlv⟩
        · rw [q150r]
          refine tw_if_eq 58 dX10_owe_43 (by decide) (fun _ => ?_) (fun c153 => absurd (by decide) c153)
          refine tw_iconst (v := 1) dX10_owe_58 (by decide) ?_
          refine tw_goto 63 dX10_owe_59 (by decide) ?_
          refine tw_iconst (v := 2) dX10_owe_63 (by decide) ?_
          obtain ⟨e157, f158, th_159, td_160, ds_161, fr_162, ca_163, us_164, wo_165, cm_166, lc_167, lh_168, ld_169, rfl, k170, k171, k172, k173, k174, k175, k176, k177, k178, k179, k180, k181, k182, k183, k184, k185, k186, k187, k188, k189, k190, k191⟩ := sp94.1 x 36 kx (by decide)
          refine tw_bi (tw_callV (M := mX10_owe) (pc := 64) okX10_refuse dX10_owe_64 w_1200 rfl f158 [.int 1, .int 2] [] rfl rfl ⟨by decide, by decide⟩ (Nat.le_of_ble_eq_true rfl) (c_X10_refuse d g τ h84 sp94.1 x kx 1 2 (by decide)) 10 60 (Nat.le_of_ble_eq_true rfl) (Nat.le_of_ble_eq_true rfl)) (fun r194 h193 q192 => ?_) (fun E h1 q => q.elim)
          obtain ⟨e195, he196, hs197, hr198, hc199⟩ := q192
          obtain ⟨rz200, tz201⟩ := (hc199 th93).2 rfl
          have th202 : tw_th (h193 x) = 2 := by rw [he196, tw_up_s]; exact tz201
          have sp203 : tw_sp d τ h g τ h193 := by rw [he196]; exact sp94.set kx (by decide) hs197
          rw [rz200]
          have oq204 : h193 o = h o := by rw [he196, tw_up_n (tw_nk ko kx (by decide))] <;> exact oq95
          refine tw_if_ne 95 dX10_owe_67 (by decide) (fun _ => ?_) (fun c205 => absurd c205 (by decide))
          refine tw_iconst (v := 0) dX10_owe_95 (by decide) ?_
          exact tw_iret dX10_owe_96 rfl (Or.inl ⟨_, rfl, _, _, sp203, oq204, Or.inr (Or.inl ⟨ix0, fun z => q150n z.2.1, th202, rfl⟩)⟩)
        · rw [q150r]
          refine tw_if_eq 58 dX10_owe_43 (by decide) (fun c206 => absurd c206 (by decide)) (fun _ => ?_)
          refine tw_iload 4 dX10_owe_46 rfl ?_
          refine tw_iconst (v := 0) dX10_owe_48 (by decide) ?_
          refine tw_sipush (v := 1000) dX10_owe_49 (by decide) ?_
          refine tw_bi (tw_callS (M := mX10_owe) (pc := 52) okX10_isIn dX10_owe_52 w_1192 [.int dy, .int 0, .int 1000] [.ref x] rfl rfl ⟨by decide, by decide⟩ (Nat.le_of_ble_eq_true rfl) (c_X10_isIn d g τ h84 sp94.1 dy 0 1000) 10 60 (Nat.le_of_ble_eq_true rfl) (Nat.le_of_ble_eq_true rfl)) (fun r209 h208 q207 => ?_) (fun E h1 q => q.elim)
          obtain ⟨q207e, q207d⟩ := q207
          rw [q207e]
          rcases q207d with ⟨q207r, q207n⟩ | ⟨q207r, rldy⟩
          · rw [q207r]
            refine tw_if_ne 62 dX10_owe_55 (by decide) (fun c210 => absurd (by decide) c210) (fun _ => ?_)
            refine tw_iconst (v := 1) dX10_owe_58 (by decide) ?_
            refine tw_goto 63 dX10_owe_59 (by decide) ?_
            refine tw_iconst (v := 2) dX10_owe_63 (by decide) ?_
            obtain ⟨e214, f215, th_216, td_217, ds_218, fr_219, ca_220, us_221, wo_222, cm_223, lc_224, lh_225, ld_226, rfl, k227, k228, k229, k230, k231, k232, k233, k234, k235, k236, k237, k238, k239, k240, k241, k242, k243, k244, k245, k246, k247, k248⟩ := sp94.1 x 36 kx (by decide)
            refine tw_bi (tw_callV (M := mX10_owe) (pc := 64) okX10_refuse dX10_owe_64 w_1200 rfl f215 [.int 1, .int 2] [] rfl rfl ⟨by decide, by decide⟩ (Nat.le_of_ble_eq_true rfl) (c_X10_refuse d g τ h84 sp94.1 x kx 1 2 (by decide)) 10 60 (Nat.le_of_ble_eq_true rfl) (Nat.le_of_ble_eq_true rfl)) (fun r251 h250 q249 => ?_) (fun E h1 q => q.elim)
            obtain ⟨e252, he253, hs254, hr255, hc256⟩ := q249
            obtain ⟨rz257, tz258⟩ := (hc256 th93).2 rfl
            have th259 : tw_th (h250 x) = 2 := by rw [he253, tw_up_s]; exact tz258
            have sp260 : tw_sp d τ h g τ h250 := by rw [he253]; exact sp94.set kx (by decide) hs254
            rw [rz257]
            have oq261 : h250 o = h o := by rw [he253, tw_up_n (tw_nk ko kx (by decide))] <;> exact oq95
            refine tw_if_ne 95 dX10_owe_67 (by decide) (fun _ => ?_) (fun c262 => absurd c262 (by decide))
            refine tw_iconst (v := 0) dX10_owe_95 (by decide) ?_
            exact tw_iret dX10_owe_96 rfl (Or.inl ⟨_, rfl, _, _, sp260, oq261, Or.inr (Or.inl ⟨ix0, fun z => q207n z.2.2, th259, rfl⟩)⟩)
          · rw [q207r]
            have rc9 : tw_RO (nI ja) (nI jb) v dy := ⟨c97, rlv, rldy⟩
            refine tw_if_ne 62 dX10_owe_55 (by decide) (fun _ => ?_) (fun c263 => absurd c263 (by decide))
            refine tw_iconst (v := 0) dX10_owe_62 (by decide) ?_
            refine tw_iconst (v := 2) dX10_owe_63 (by decide) ?_
            obtain ⟨e267, f268, th_269, td_270, ds_271, fr_272, ca_273, us_274, wo_275, cm_276, lc_277, lh_278, ld_279, rfl, k280, k281, k282, k283, k284, k285, k286, k287, k288, k289, k290, k291, k292, k293, k294, k295, k296, k297, k298, k299, k300, k301⟩ := sp94.1 x 36 kx (by decide)
            refine tw_bi (tw_callV (M := mX10_owe) (pc := 64) okX10_refuse dX10_owe_64 w_1200 rfl f268 [.int 0, .int 2] [] rfl rfl ⟨by decide, by decide⟩ (Nat.le_of_ble_eq_true rfl) (c_X10_refuse d g τ h84 sp94.1 x kx 0 2 (by decide)) 10 60 (Nat.le_of_ble_eq_true rfl) (Nat.le_of_ble_eq_true rfl)) (fun r304 h303 q302 => ?_) (fun E h1 q => q.elim)
            obtain ⟨e305, he306, hs307, hr308, hc309⟩ := q302
            obtain ⟨rz310, tz311⟩ := (hc309 th93).1 rfl
            have th312 : tw_th (h303 x) = 0 := by rw [he306, tw_up_s]; exact tz311
            have sp313 : tw_sp d τ h g τ h303 := by rw [he306]; exact sp94.set kx (by decide) hs307
            rw [rz310]
            have oq314 : h303 o = h o := by rw [he306, tw_up_n (tw_nk ko kx (by decide))] <;> exact oq95
            refine tw_if_ne 95 dX10_owe_67 (by decide) (fun c315 => absurd (by decide) c315) (fun _ => ?_)
            refine tw_aload_n 0 dX10_owe_70 rfl rfl ?_
            refine tw_aload_n 0 dX10_owe_71 rfl rfl ?_
            obtain ⟨e316, f317, th_318, td_319, ds_320, fr_321, ca_322, us_323, wo_324, cm_325, lc_326, lh_327, ld_328, rfl, k329, k330, k331, k332, k333, k334, k335, k336, k337, k338, k339, k340, k341, k342, k343, k344, k345, k346, k347, k348, k349, k350⟩ := sp313.1 x 36 kx (by decide)
            refine tw_get (v := .ref ld_328) rfl in_14 11 dX10_owe_72 w_1162 rfl (by decide) f317 rfl ?_
            obtain ⟨e354, f355, ⟨el356, rfl, k357⟩, k358⟩ := sp313.1 ld_328 26 k337 (by decide)
            refine tw_bi (tw_callV (M := mX10_owe) (pc := 75) okJx4a65c_size_8abf5 dX10_owe_75 w_1204 rfl f355 [] [.ref x] rfl rfl ⟨by decide, by decide⟩ (Nat.le_of_ble_eq_true rfl) (c26_size d g τ h303 sp313.1 ld_328 k337) 10 60 (Nat.le_of_ble_eq_true rfl) (Nat.le_of_ble_eq_true rfl)) (fun r361 h360 q359 => ?_) (fun E h1 q => q.elim)
            obtain ⟨q359e, q359r⟩ := q359
            rw [q359e, q359r]
            refine tw_bipush (v := 10) dX10_owe_78 (by decide) ?_
            refine tw_icmp_ne 87 dX10_owe_80 (by decide) (fun c362 => ?_) (fun c362 => ?_)
            · refine tw_iconst (v := 0) dX10_owe_87 (by decide) ?_
              refine tw_iconst (v := 3) dX10_owe_88 (by decide) ?_
              refine tw_bi (tw_callV (M := mX10_owe) (pc := 89) okX10_refuse dX10_owe_89 w_1200 rfl f317 [.int 0, .int 3] [] rfl rfl ⟨by decide, by decide⟩ (Nat.le_of_ble_eq_true rfl) (c_X10_refuse d g τ h303 sp313.1 x kx 0 3 (by decide)) 10 60 (Nat.le_of_ble_eq_true rfl) (Nat.le_of_ble_eq_true rfl)) (fun r368 h367 q366 => ?_) (fun E h1 q => q.elim)
              obtain ⟨e369, he370, hs371, hr372, hc373⟩ := q366
              obtain ⟨rz374, tz375⟩ := (hc373 th312).1 rfl
              have th376 : tw_th (h367 x) = 0 := by rw [he370, tw_up_s]; exact tz375
              have sp377 : tw_sp d τ h g τ h367 := by rw [he370]; exact sp313.set kx (by decide) hs371
              rw [rz374]
              have oq378 : h367 o = h o := by rw [he370, tw_up_n (tw_nk ko kx (by decide))] <;> exact oq314
              refine tw_if_eq 97 dX10_owe_92 (by decide) (fun _ => ?_) (fun c379 => absurd (by decide) c379)
              refine tw_new (ci := 12) rfl in_12 tyX8 tyX8_ok dX10_owe_97 w_1433 w_1434 w_103 (fs := [.int 0, .int 0, .int 0, .int 0, .int 0]) (fun j hj => by rcases (show j = 0 ∨ j = 1 ∨ j = 2 ∨ j = 3 ∨ j = 4 by omega) with rfl | rfl | rfl | rfl | rfl <;> rfl) 9 55 (Nat.le_of_ble_eq_true rfl) (Nat.le_of_ble_eq_true rfl) (fun q380 hq381 hA382 => ?_)
              have n383 := sp377.nn hq381
              have z384 := sp377.1.none hq381
              obtain ⟨h385, eh385⟩ : ∃ z : tw_H, z = tw_up h367 q380 (.inr (12, [.int 0, .int 0, .int 0, .int 0, .int 0])) := ⟨_, rfl⟩
              rw [← eh385]
              have th386 : tw_th (h385 x) = 0 := by rw [eh385, tw_up_n (tw_kF sp377.1 kx (by decide) hq381)] <;> exact th376
              have oq387 : h385 o = h o := by rw [eh385, tw_up_n (tw_kF sp377.1 ko (by decide) hq381)] <;> exact oq378
              have sp388 : tw_sp d τ h g τ h385 := by rw [eh385]; exact sp377.mk hq381
              have f389 : h385 q380 = some (.inr (12, [.int 0, .int 0, .int 0, .int 0, .int 0])) := by rw [eh385]; exact tw_up_s
              refine tw_dup dX10_owe_100 rfl ?_
              refine tw_bv (tw_callIN (M := mX10_owe) (pc := 101) okX8_init dX10_owe_101 w_1435 rfl [] [.ref q380] rfl rfl ⟨by decide, by decide⟩ (Nat.le_of_ble_eq_true rfl) (c2_X8_init d g τ h385 sp388.1 q380 z384 f389) 9 55 (Nat.le_of_ble_eq_true rfl) (Nat.le_of_ble_eq_true rfl)) (fun h391 q390 => ?_) (fun E h1 q => q.elim)
              obtain ⟨τ392, q390s, f393, z394, fr396⟩ := q390
              have th397 : tw_th (h391 x) = 0 := by rw [fr396 x (tw_nz kx z384 (by decide)) (fun z => by obtain ⟨e, y, -⟩ := sp388.1 x 36 kx (by decide); rw [z] at y; cases y)]; exact th386
              have oq398 : h391 o = h o := by rw [fr396 o (tw_nk ko z384 (by decide)) (tw_some sp388.1 ko (by decide))] <;> exact oq387
              have sp395 := sp388.trm n383 q390s
              have k399 : τ392 x = 36 := q390s.2.1.k kx (by decide)
              have k400 : τ392 o = 12 := q390s.2.1.k ko (by decide)
              have k401 : τ392 ds_8 = 34 := q390s.2.1.k k17 (by decide)
              have k402 : τ392 fr_9 = 34 := q390s.2.1.k k18 (by decide)
              have k403 : τ392 ca_10 = 31 := q390s.2.1.k k19 (by decide)
              have k404 : τ392 us_11 = 31 := q390s.2.1.k k20 (by decide)
              have k405 : τ392 wo_12 = 31 := q390s.2.1.k k21 (by decide)
              have k406 : τ392 cm_13 = 31 := q390s.2.1.k k22 (by decide)
              have k407 : τ392 lc_14 = 24 := q390s.2.1.k k23 (by decide)
              have k408 : τ392 lh_15 = 25 := q390s.2.1.k k24 (by decide)
              have k409 : τ392 ld_16 = 26 := q390s.2.1.k k25 (by decide)
              have k410 : τ392 ds_271 = 34 := q390s.2.1.k k280 (by decide)
              have k411 : τ392 fr_272 = 34 := q390s.2.1.k k281 (by decide)
              have k412 : τ392 ca_273 = 31 := q390s.2.1.k k282 (by decide)
              have k413 : τ392 us_274 = 31 := q390s.2.1.k k283 (by decide)
              have k414 : τ392 wo_275 = 31 := q390s.2.1.k k284 (by decide)
              have k415 : τ392 cm_276 = 31 := q390s.2.1.k k285 (by decide)
              have k416 : τ392 lc_277 = 24 := q390s.2.1.k k286 (by decide)
              have k417 : τ392 lh_278 = 25 := q390s.2.1.k k287 (by decide)
              have k418 : τ392 ld_279 = 26 := q390s.2.1.k k288 (by decide)
              have k419 : τ392 ds_320 = 34 := q390s.2.1.k k329 (by decide)
              have k420 : τ392 fr_321 = 34 := q390s.2.1.k k330 (by decide)
              have k421 : τ392 ca_322 = 31 := q390s.2.1.k k331 (by decide)
              have k422 : τ392 us_323 = 31 := q390s.2.1.k k332 (by decide)
              have k423 : τ392 wo_324 = 31 := q390s.2.1.k k333 (by decide)
              have k424 : τ392 cm_325 = 31 := q390s.2.1.k k334 (by decide)
              have k425 : τ392 lc_326 = 24 := q390s.2.1.k k335 (by decide)
              have k426 : τ392 lh_327 = 25 := q390s.2.1.k k336 (by decide)
              have k427 : τ392 ld_328 = 26 := q390s.2.1.k k337 (by decide)
              refine tw_astore [(5, .ref q380), (0, .ref x), (1, .int (nI ja)), (2, .int (nI jb)), (3, .int v), (4, .int dy)] dX10_owe_104 (by decide) rfl ?_
              refine tw_aload 0 dX10_owe_106 rfl ?_
              refine tw_iload_n 2 dX10_owe_108 rfl rfl ?_
              refine tw_put rfl in_12 tyX8 tyX8_ok nmX8 0 dX10_owe_109 w_1439 rfl (by decide) f393 rfl rfl rfl rfl (Nat.le_of_ble_eq_true rfl) [.int (nI ja), .int 0, .int 0, .int 0, .int 0] rfl ?_
              obtain ⟨h428, eh428⟩ : ∃ z : tw_H, z = tw_up h391 q380 (.inr (12, [.int (nI ja), .int 0, .int 0, .int 0, .int 0])) := ⟨_, rfl⟩
              rw [← eh428]
              have th429 : tw_th (h428 x) = 0 := by rw [eh428, tw_up_n (tw_nk k399 z394 (by decide))] <;> exact th397
              have oq430 : h428 o = h o := by rw [eh428, tw_up_n (tw_nk k400 z394 (by decide))] <;> exact oq398
              have sp431 : tw_sp d τ h g τ392 h428 := by rw [eh428]; exact sp395.wl n383 z394
              have f432 : h428 q380 = some (.inr (12, [.int (nI ja), .int 0, .int 0, .int 0, .int 0])) := by rw [eh428]; exact tw_up_s
              refine tw_aload 0 dX10_owe_112 rfl ?_
              refine tw_iload_n 3 dX10_owe_114 rfl rfl ?_
              refine tw_put rfl in_12 tyX8 tyX8_ok nmX8 1 dX10_owe_115 w_1440 rfl (by decide) f432 rfl rfl rfl rfl (Nat.le_of_ble_eq_true rfl) [.int (nI ja), .int (nI jb), .int 0, .int 0, .int 0] rfl ?_
              obtain ⟨h433, eh433⟩ : ∃ z : tw_H, z = tw_up h428 q380 (.inr (12, [.int (nI ja), .int (nI jb), .int 0, .int 0, .int 0])) := ⟨_, rfl⟩
              rw [← eh433]
              have th434 : tw_th (h433 x) = 0 := by rw [eh433, tw_up_n (tw_nk k399 z394 (by decide))] <;> exact th429
              have oq435 : h433 o = h o := by rw [eh433, tw_up_n (tw_nk k400 z394 (by decide))] <;> exact oq430
              have sp436 : tw_sp d τ h g τ392 h433 := by rw [eh433]; exact sp431.wl n383 z394
              have f437 : h433 q380 = some (.inr (12, [.int (nI ja), .int (nI jb), .int 0, .int 0, .int 0])) := by rw [eh433]; exact tw_up_s
              refine tw_aload 0 dX10_owe_118 rfl ?_
              refine tw_iload_n 4 dX10_owe_120 rfl rfl ?_
              refine tw_put rfl in_12 tyX8 tyX8_ok nmX8 2 dX10_owe_121 w_1441 rfl (by decide) f437 rfl rfl rfl rfl (Nat.le_of_ble_eq_true rfl) [.int (nI ja), .int (nI jb), .int v, .int 0, .int 0] rfl ?_
              obtain ⟨h438, eh438⟩ : ∃ z : tw_H, z = tw_up h433 q380 (.inr (12, [.int (nI ja), .int (nI jb), .int v, .int 0, .int 0])) := ⟨_, rfl⟩
              rw [← eh438]
              have th439 : tw_th (h438 x) = 0 := by rw [eh438, tw_up_n (tw_nk k399 z394 (by decide))] <;> exact th434
              have oq440 : h438 o = h o := by rw [eh438, tw_up_n (tw_nk k400 z394 (by decide))] <;> exact oq435
              have sp441 : tw_sp d τ h g τ392 h438 := by rw [eh438]; exact sp436.wl n383 z394
              have f442 : h438 q380 = some (.inr (12, [.int (nI ja), .int (nI jb), .int v, .int 0, .int 0])) := by rw [eh438]; exact tw_up_s
              refine tw_aload 0 dX10_owe_124 rfl ?_
              refine tw_aload_n 1 dX10_owe_126 rfl rfl ?_
              obtain ⟨e443, f444, th_445, td_446, ds_447, fr_448, ca_449, us_450, wo_451, cm_452, lc_453, lh_454, ld_455, rfl, k456, k457, k458, k459, k460, k461, k462, k463, k464, k465, k466, k467, k468, k469, k470, k471, k472, k473, k474, k475, k476, k477⟩ := sp441.1 x 36 k399 (by decide)
              refine tw_get (v := .int td_446) rfl in_14 1 dX10_owe_127 w_1152 rfl (by decide) f444 rfl ?_
              refine tw_iload 5 dX10_owe_130 rfl ?_
              refine tw_iadd dX10_owe_132 ?_
              refine tw_nmi (fun v478 ev478 => ?_)
              refine tw_put rfl in_12 tyX8 tyX8_ok nmX8 3 dX10_owe_133 w_1442 rfl (by decide) f442 rfl rfl rfl rfl (Nat.le_of_ble_eq_true rfl) [.int (nI ja), .int (nI jb), .int v, .int v478, .int 0] rfl ?_
              obtain ⟨h479, eh479⟩ : ∃ z : tw_H, z = tw_up h438 q380 (.inr (12, [.int (nI ja), .int (nI jb), .int v, .int v478, .int 0])) := ⟨_, rfl⟩
              rw [← eh479]
              have th480 : tw_th (h479 x) = 0 := by rw [eh479, tw_up_n (tw_nk k399 z394 (by decide))] <;> exact th439
              have oq481 : h479 o = h o := by rw [eh479, tw_up_n (tw_nk k400 z394 (by decide))] <;> exact oq440
              have sp482 : tw_sp d τ h g τ392 h479 := by rw [eh479]; exact sp441.wl n383 z394
              have f483 : h479 q380 = some (.inr (12, [.int (nI ja), .int (nI jb), .int v, .int v478, .int 0])) := by rw [eh479]; exact tw_up_s
              refine tw_aload_n 1 dX10_owe_136 rfl rfl ?_
              obtain ⟨e484, f485, th_486, td_487, ds_488, fr_489, ca_490, us_491, wo_492, cm_493, lc_494, lh_495, ld_496, rfl, k497, k498, k499, k500, k501, k502, k503, k504, k505, k506, k507, k508, k509, k510, k511, k512, k513, k514, k515, k516, k517, k518⟩ := sp482.1 x 36 k399 (by decide)
              refine tw_get (v := .ref ld_496) rfl in_14 11 dX10_owe_137 w_1162 rfl (by decide) f485 rfl ?_
              refine tw_aload 0 dX10_owe_140 rfl ?_
              have dy9 : v478 = nI (g.2 22) + dy := ev478.trans (congrArg (fun z : Int32 => z + dy) (by assumption))
              subst dy9
              have hb8 : g.2 5 + 1 ≤ 10 := (tw_n4 c362 k508 (by decide))
              have lc9 : g.2 5 < 10 := by omega
              obtain ⟨gD, egD⟩ : ∃ z : tw_G, z = g := ⟨_, rfl⟩
              have d2 : gD.2 = g.2 := by rw [egD] <;> rfl
              have sp519 : tw_sp d τ h gD τ392 h479 := by rw [egD]; exact sp482
              have oo := tw_gDM_o (g := gD) (b := (1232 + 8 * g.2 5)) (j := g.2 5) (x := q380) (v := v) (dy := (nI (g.2 22) + dy)) (f := (nI ja)) (c := (nI jb)) rfl lc9
              have vv := tw_gDM_v (g := gD) (b := (1232 + 8 * g.2 5)) (x := q380) (v := v) (dy := (nI (g.2 22) + dy)) (f := (nI ja)) (c := (nI jb))
              have ww := tw_gDM_w (g := gD) (b := (1232 + 8 * g.2 5)) (j := g.2 5) (τ := τ392) (x := q380) (v := v) (dy := (nI (g.2 22) + dy)) (f := (nI ja)) (c := (nI jb)) rfl lc9 (by rw [d2]; exact he9) z394
              have gn5 : (tw_gDM gD (1232 + 8 * g.2 5) q380 v (nI (g.2 22) + dy) (nI ja) (nI jb)).2 5 = g.2 5 := by rw [tw_gDM_2 (by decide) (by omega) (by omega), d2]
              obtain ⟨gN, egN⟩ : ∃ z : tw_G, z = tw_gDM gD (1232 + 8 * g.2 5) q380 v (nI (g.2 22) + dy) (nI ja) (nI jb) := ⟨_, rfl⟩
              rw [← egN] at oo vv ww gn5
              have sp520 : tw_sp d τ h gN τ392 h479 := sp519.gw2 ww
              obtain ⟨τ521, eτ521⟩ : ∃ z : tw_K, z = tw_ku τ392 q380 22 := ⟨_, rfl⟩
              have le522 : tw_le τ392 τ521 := by rw [eτ521]; exact tw_ku_le z394
              have k523 : τ521 x = 36 := le522.k k399 (by decide)
              have k524 : τ521 o = 12 := le522.k k400 (by decide)
              have k525 : τ521 ds_8 = 34 := le522.k k401 (by decide)
              have k526 : τ521 fr_9 = 34 := le522.k k402 (by decide)
              have k527 : τ521 ca_10 = 31 := le522.k k403 (by decide)
              have k528 : τ521 us_11 = 31 := le522.k k404 (by decide)
              have k529 : τ521 wo_12 = 31 := le522.k k405 (by decide)
              have k530 : τ521 cm_13 = 31 := le522.k k406 (by decide)
              have k531 : τ521 lc_14 = 24 := le522.k k407 (by decide)
              have k532 : τ521 lh_15 = 25 := le522.k k408 (by decide)
              have k533 : τ521 ld_16 = 26 := le522.k k409 (by decide)
              have k534 : τ521 ds_271 = 34 := le522.k k410 (by decide)
              have k535 : τ521 fr_272 = 34 := le522.k k411 (by decide)
              have k536 : τ521 ca_273 = 31 := le522.k k412 (by decide)
              have k537 : τ521 us_274 = 31 := le522.k k413 (by decide)
              have k538 : τ521 wo_275 = 31 := le522.k k414 (by decide)
              have k539 : τ521 cm_276 = 31 := le522.k k415 (by decide)
              have k540 : τ521 lc_277 = 24 := le522.k k416 (by decide)
              have k541 : τ521 lh_278 = 25 := le522.k k417 (by decide)
              have k542 : τ521 ld_279 = 26 := le522.k k418 (by decide)
              have k543 : τ521 ds_320 = 34 := le522.k k419 (by decide)
              have k544 : τ521 fr_321 = 34 := le522.k k420 (by decide)
              have k545 : τ521 ca_322 = 31 := le522.k k421 (by decide)
              have k546 : τ521 us_323 = 31 := le522.k k422 (by decide)
              have k547 : τ521 wo_324 = 31 := le522.k k423 (by decide)
              have k548 : τ521 cm_325 = 31 := le522.k k424 (by decide)
              have k549 : τ521 lc_326 = 24 := le522.k k425 (by decide)
              have k550 : τ521 lh_327 = 25 := le522.k k426 (by decide)
              have k551 : τ521 ld_328 = 26 := le522.k k427 (by decide)
              have k552 : τ521 ds_447 = 34 := le522.k k456 (by decide)
              have k553 : τ521 fr_448 = 34 := le522.k k457 (by decide)
              have k554 : τ521 ca_449 = 31 := le522.k k458 (by decide)
              have k555 : τ521 us_450 = 31 := le522.k k459 (by decide)
              have k556 : τ521 wo_451 = 31 := le522.k k460 (by decide)
              have k557 : τ521 cm_452 = 31 := le522.k k461 (by decide)
              have k558 : τ521 lc_453 = 24 := le522.k k462 (by decide)
              have k559 : τ521 lh_454 = 25 := le522.k k463 (by decide)
              have k560 : τ521 ld_455 = 26 := le522.k k464 (by decide)
              have k561 : τ521 ds_488 = 34 := le522.k k497 (by decide)
              have k562 : τ521 fr_489 = 34 := le522.k k498 (by decide)
              have k563 : τ521 ca_490 = 31 := le522.k k499 (by decide)
              have k564 : τ521 us_491 = 31 := le522.k k500 (by decide)
              have k565 : τ521 wo_492 = 31 := le522.k k501 (by decide)
              have k566 : τ521 cm_493 = 31 := le522.k k502 (by decide)
              have k567 : τ521 lc_494 = 24 := le522.k k503 (by decide)
              have k568 : τ521 lh_495 = 25 := le522.k k504 (by decide)
              have k569 : τ521 ld_496 = 26 := le522.k k505 (by decide)
              have sp570 : tw_sp d τ h gN τ521 h479 := by rw [eτ521]; exact sp520.ty n383 z394 f483 (by rw [← eτ521]; exact ⟨_, _, _, _, _, rfl, by rw [ww.2.1 4 (by decide) (by decide) (by decide), d2]; exact q1j, by rw [ww.2.1 4 (by decide) (by decide) (by decide), d2]; exact q58j, by unfold tw_01; decide, g.2 5, oo, vv.1.symm, vv.2.1.symm, vv.2.2.1.symm, vv.2.2.2.1.symm, vv.2.2.2.2.symm⟩)
              have k571 : τ521 q380 = 22 := by rw [eτ521]; exact tw_ku_s
              obtain ⟨e572, f573, ⟨el574, rfl, k575⟩, k576⟩ := sp570.1 ld_496 26 k569 (by decide)
              have hb9 : gN.2 5 + 1 ≤ 10 := by rw [gn5]; exact hb8
              have hid9 : gN.2 (4096 + q380) = 1232 + 8 * gN.2 5 := by rw [gn5]; exact oo.2.2.2.2
              rcases k575 with k575p | k575p
              · obtain ⟨pa, pn, pf⟩ := k575p
                subst pa
                have f9 : h479 ld_496 = some (.inr (3, [.int (gN.1 5), .ref (d.2 102), .int (nI 0)])) := by have z := f573; rw [pn] at z; exact z
                refine tw_bi (tw_callV (M := mX10_owe) (pc := 142) okJx4a65c_add_9ea2d dX10_owe_142 w_1234 rfl f573 [.ref q380] [] rfl rfl ⟨by decide, by decide⟩ (Nat.le_of_ble_eq_true rfl) (c_add_new d h479 ld_496 (gN.1 5) f9 q380 12 _ _ rfl (ng_12) f483 (by decide)) 8 45 (Nat.le_of_ble_eq_true rfl) (Nat.le_of_ble_eq_true rfl)) (fun r9 h577 q9 => ?_) (fun E h1 q => q.elim)
                obtain ⟨r8, hr8, q1, q2, q3⟩ := q9
                have th578 : tw_th (h577 x) = 0 := by rw [q3 x (tw_nz k523 k569 (by decide)) (tw_thF sp570.1 k523 hr8)]; exact th480
                have oq579 : h577 o = h o := by rw [q3 o (tw_nk k524 k569 (by decide)) (tw_kF sp570.1 k524 (by decide) hr8)] <;> exact oq481
                obtain ⟨g9, τ9, ⟨hga, hg1⟩, sp9⟩ := tw_gadd26 (F := fun _ => none) sp570.1 k569 k571 hb9 hid9 (fun j hj => by rw [pn] at hj; exact absurd hj (Nat.not_lt_zero _)) (Or.inr ⟨hr8, pf⟩) (by rw [pn]; exact q1) (by rw [pn]; exact q2) q3
                have sp580 := sp570.tr sp9
                have k581 : τ9 x = 36 := sp9.2.1.k k523 (by decide)
                have k582 : τ9 o = 12 := sp9.2.1.k k524 (by decide)
                have k583 : τ9 ds_8 = 34 := sp9.2.1.k k525 (by decide)
                have k584 : τ9 fr_9 = 34 := sp9.2.1.k k526 (by decide)
                have k585 : τ9 ca_10 = 31 := sp9.2.1.k k527 (by decide)
                have k586 : τ9 us_11 = 31 := sp9.2.1.k k528 (by decide)
                have k587 : τ9 wo_12 = 31 := sp9.2.1.k k529 (by decide)
                have k588 : τ9 cm_13 = 31 := sp9.2.1.k k530 (by decide)
                have k589 : τ9 lc_14 = 24 := sp9.2.1.k k531 (by decide)
                have k590 : τ9 lh_15 = 25 := sp9.2.1.k k532 (by decide)
                have k591 : τ9 ld_16 = 26 := sp9.2.1.k k533 (by decide)
                have k592 : τ9 ds_271 = 34 := sp9.2.1.k k534 (by decide)
                have k593 : τ9 fr_272 = 34 := sp9.2.1.k k535 (by decide)
                have k594 : τ9 ca_273 = 31 := sp9.2.1.k k536 (by decide)
                have k595 : τ9 us_274 = 31 := sp9.2.1.k k537 (by decide)
                have k596 : τ9 wo_275 = 31 := sp9.2.1.k k538 (by decide)
                have k597 : τ9 cm_276 = 31 := sp9.2.1.k k539 (by decide)
                have k598 : τ9 lc_277 = 24 := sp9.2.1.k k540 (by decide)
                have k599 : τ9 lh_278 = 25 := sp9.2.1.k k541 (by decide)
                have k600 : τ9 ld_279 = 26 := sp9.2.1.k k542 (by decide)
                have k601 : τ9 ds_320 = 34 := sp9.2.1.k k543 (by decide)
                have k602 : τ9 fr_321 = 34 := sp9.2.1.k k544 (by decide)
                have k603 : τ9 ca_322 = 31 := sp9.2.1.k k545 (by decide)
                have k604 : τ9 us_323 = 31 := sp9.2.1.k k546 (by decide)
                have k605 : τ9 wo_324 = 31 := sp9.2.1.k k547 (by decide)
                have k606 : τ9 cm_325 = 31 := sp9.2.1.k k548 (by decide)
                have k607 : τ9 lc_326 = 24 := sp9.2.1.k k549 (by decide)
                have k608 : τ9 lh_327 = 25 := sp9.2.1.k k550 (by decide)
                have k609 : τ9 ld_328 = 26 := sp9.2.1.k k551 (by decide)
                have k610 : τ9 ds_447 = 34 := sp9.2.1.k k552 (by decide)
                have k611 : τ9 fr_448 = 34 := sp9.2.1.k k553 (by decide)
                have k612 : τ9 ca_449 = 31 := sp9.2.1.k k554 (by decide)
                have k613 : τ9 us_450 = 31 := sp9.2.1.k k555 (by decide)
                have k614 : τ9 wo_451 = 31 := sp9.2.1.k k556 (by decide)
                have k615 : τ9 cm_452 = 31 := sp9.2.1.k k557 (by decide)
                have k616 : τ9 lc_453 = 24 := sp9.2.1.k k558 (by decide)
                have k617 : τ9 lh_454 = 25 := sp9.2.1.k k559 (by decide)
                have k618 : τ9 ld_455 = 26 := sp9.2.1.k k560 (by decide)
                have k619 : τ9 ds_488 = 34 := sp9.2.1.k k561 (by decide)
                have k620 : τ9 fr_489 = 34 := sp9.2.1.k k562 (by decide)
                have k621 : τ9 ca_490 = 31 := sp9.2.1.k k563 (by decide)
                have k622 : τ9 us_491 = 31 := sp9.2.1.k k564 (by decide)
                have k623 : τ9 wo_492 = 31 := sp9.2.1.k k565 (by decide)
                have k624 : τ9 cm_493 = 31 := sp9.2.1.k k566 (by decide)
                have k625 : τ9 lc_494 = 24 := sp9.2.1.k k567 (by decide)
                have k626 : τ9 lh_495 = 25 := sp9.2.1.k k568 (by decide)
                have k627 : τ9 ld_496 = 26 := sp9.2.1.k k569 (by decide)
                have k628 : τ9 q380 = 22 := sp9.2.1.k k571 (by decide)
                refine tw_pop dX10_owe_145 rfl ?_
                refine tw_aload_n 1 dX10_owe_146 rfl rfl ?_
                obtain ⟨e629, f630, th_631, td_632, ds_633, fr_634, ca_635, us_636, wo_637, cm_638, lc_639, lh_640, ld_641, rfl, k642, k643, k644, k645, k646, k647, k648, k649, k650, k651, k652, k653, k654, k655, k656, k657, k658, k659, k660, k661, k662, k663⟩ := sp580.1 x 36 k581 (by decide)
                refine tw_get (v := .ref ld_641) rfl in_14 11 dX10_owe_147 w_1162 rfl (by decide) f630 rfl ?_
                obtain ⟨e667, f668, ⟨el669, rfl, k670⟩, k671⟩ := sp580.1 ld_641 26 k650 (by decide)
                refine tw_bi (tw_callV (M := mX10_owe) (pc := 150) okJx4a65c_size_8abf5 dX10_owe_150 w_1204 rfl f668 [] [] rfl rfl ⟨by decide, by decide⟩ (Nat.le_of_ble_eq_true rfl) (c26_size d g9 τ9 h577 sp580.1 ld_641 k650) 8 45 (Nat.le_of_ble_eq_true rfl) (Nat.le_of_ble_eq_true rfl)) (fun r674 h673 q672 => ?_) (fun E h1 q => q.elim)
                obtain ⟨q672e, q672r⟩ := q672
                rw [q672e, q672r]
                refine tw_iconst (v := 1) dX10_owe_153 (by decide) ?_
                refine tw_isub dX10_owe_154 ?_
                refine tw_nmi (fun v675 ev675 => ?_)
                exact tw_iret dX10_owe_155 rfl (Or.inl ⟨_, rfl, _, _, sp580, oq579, Or.inr (Or.inr (Or.inr (⟨ix0, rc9, (by (try rw [cDa]); (try rw [cDb]); first | done | exact lc9), (by (try rw [cDa]); (try rw [cDb]); first | done | exact (by rw [ev675, hg1.1, gn5]; exact nI_pred _)), th578, ⟨_, by rw [egD] at egN; rw [← egN]; exact ⟨hga, hg1⟩⟩⟩)))⟩)
              · obtain ⟨e9, fa9, ⟨F9, rfl, hc9, h49⟩, un9⟩ := sp570.1 el574 29 k575p (by decide)
                refine tw_bi (tw_callV (M := mX10_owe) (pc := 142) okJx4a65c_add_9ea2d dX10_owe_142 w_1234 rfl f573 [.ref q380] [] rfl rfl ⟨by decide, by decide⟩ (Nat.le_of_ble_eq_true rfl) (c_add_old d h479 ld_496 el574 (gN.2 5) F9 (gN.1 5) (by omega) f573 fa9 q380 12 _ _ rfl (ng_12) f483 (by decide)) 8 45 (Nat.le_of_ble_eq_true rfl) (Nat.le_of_ble_eq_true rfl)) (fun r9 h676 q9 => ?_) (fun E h1 q => q.elim)
                obtain ⟨q1, q2, q3⟩ := q9
                have th677 : tw_th (h676 x) = 0 := by rw [q3 x (tw_nz k523 k569 (by decide)) (tw_nz k523 k575p (by decide))]; exact th480
                have oq678 : h676 o = h o := by rw [q3 o (tw_nk k524 k569 (by decide)) (tw_nk k524 k575p (by decide))] <;> exact oq481
                obtain ⟨g9, τ9, ⟨hga, hg1⟩, sp9⟩ := tw_gadd26 sp570.1 k569 k571 hb9 hid9 (fun j hj => by obtain ⟨y9, a9, b9⟩ := h49 j hj; exact ⟨y9, a9, b9, un9.2.2 _ _ F9 rfl j y9 hj a9⟩) (Or.inl k575p) q1 q2 q3
                have sp679 := sp570.tr sp9
                have k680 : τ9 x = 36 := sp9.2.1.k k523 (by decide)
                have k681 : τ9 o = 12 := sp9.2.1.k k524 (by decide)
                have k682 : τ9 ds_8 = 34 := sp9.2.1.k k525 (by decide)
                have k683 : τ9 fr_9 = 34 := sp9.2.1.k k526 (by decide)
                have k684 : τ9 ca_10 = 31 := sp9.2.1.k k527 (by decide)
                have k685 : τ9 us_11 = 31 := sp9.2.1.k k528 (by decide)
                have k686 : τ9 wo_12 = 31 := sp9.2.1.k k529 (by decide)
                have k687 : τ9 cm_13 = 31 := sp9.2.1.k k530 (by decide)
                have k688 : τ9 lc_14 = 24 := sp9.2.1.k k531 (by decide)
                have k689 : τ9 lh_15 = 25 := sp9.2.1.k k532 (by decide)
                have k690 : τ9 ld_16 = 26 := sp9.2.1.k k533 (by decide)
                have k691 : τ9 ds_271 = 34 := sp9.2.1.k k534 (by decide)
                have k692 : τ9 fr_272 = 34 := sp9.2.1.k k535 (by decide)
                have k693 : τ9 ca_273 = 31 := sp9.2.1.k k536 (by decide)
                have k694 : τ9 us_274 = 31 := sp9.2.1.k k537 (by decide)
                have k695 : τ9 wo_275 = 31 := sp9.2.1.k k538 (by decide)
                have k696 : τ9 cm_276 = 31 := sp9.2.1.k k539 (by decide)
                have k697 : τ9 lc_277 = 24 := sp9.2.1.k k540 (by decide)
                have k698 : τ9 lh_278 = 25 := sp9.2.1.k k541 (by decide)
                have k699 : τ9 ld_279 = 26 := sp9.2.1.k k542 (by decide)
                have k700 : τ9 ds_320 = 34 := sp9.2.1.k k543 (by decide)
                have k701 : τ9 fr_321 = 34 := sp9.2.1.k k544 (by decide)
                have k702 : τ9 ca_322 = 31 := sp9.2.1.k k545 (by decide)
                have k703 : τ9 us_323 = 31 := sp9.2.1.k k546 (by decide)
                have k704 : τ9 wo_324 = 31 := sp9.2.1.k k547 (by decide)
                have k705 : τ9 cm_325 = 31 := sp9.2.1.k k548 (by decide)
                have k706 : τ9 lc_326 = 24 := sp9.2.1.k k549 (by decide)
                have k707 : τ9 lh_327 = 25 := sp9.2.1.k k550 (by decide)
                have k708 : τ9 ld_328 = 26 := sp9.2.1.k k551 (by decide)
                have k709 : τ9 ds_447 = 34 := sp9.2.1.k k552 (by decide)
                have k710 : τ9 fr_448 = 34 := sp9.2.1.k k553 (by decide)
                have k711 : τ9 ca_449 = 31 := sp9.2.1.k k554 (by decide)
                have k712 : τ9 us_450 = 31 := sp9.2.1.k k555 (by decide)
                have k713 : τ9 wo_451 = 31 := sp9.2.1.k k556 (by decide)
                have k714 : τ9 cm_452 = 31 := sp9.2.1.k k557 (by decide)
                have k715 : τ9 lc_453 = 24 := sp9.2.1.k k558 (by decide)
                have k716 : τ9 lh_454 = 25 := sp9.2.1.k k559 (by decide)
                have k717 : τ9 ld_455 = 26 := sp9.2.1.k k560 (by decide)
                have k718 : τ9 ds_488 = 34 := sp9.2.1.k k561 (by decide)
                have k719 : τ9 fr_489 = 34 := sp9.2.1.k k562 (by decide)
                have k720 : τ9 ca_490 = 31 := sp9.2.1.k k563 (by decide)
                have k721 : τ9 us_491 = 31 := sp9.2.1.k k564 (by decide)
                have k722 : τ9 wo_492 = 31 := sp9.2.1.k k565 (by decide)
                have k723 : τ9 cm_493 = 31 := sp9.2.1.k k566 (by decide)
                have k724 : τ9 lc_494 = 24 := sp9.2.1.k k567 (by decide)
                have k725 : τ9 lh_495 = 25 := sp9.2.1.k k568 (by decide)
                have k726 : τ9 ld_496 = 26 := sp9.2.1.k k569 (by decide)
                have k727 : τ9 q380 = 22 := sp9.2.1.k k571 (by decide)
                refine tw_pop dX10_owe_145 rfl ?_
                refine tw_aload_n 1 dX10_owe_146 rfl rfl ?_
                obtain ⟨e728, f729, th_730, td_731, ds_732, fr_733, ca_734, us_735, wo_736, cm_737, lc_738, lh_739, ld_740, rfl, k741, k742, k743, k744, k745, k746, k747, k748, k749, k750, k751, k752, k753, k754, k755, k756, k757, k758, k759, k760, k761, k762⟩ := sp679.1 x 36 k680 (by decide)
                refine tw_get (v := .ref ld_740) rfl in_14 11 dX10_owe_147 w_1162 rfl (by decide) f729 rfl ?_
                obtain ⟨e766, f767, ⟨el768, rfl, k769⟩, k770⟩ := sp679.1 ld_740 26 k749 (by decide)
                refine tw_bi (tw_callV (M := mX10_owe) (pc := 150) okJx4a65c_size_8abf5 dX10_owe_150 w_1204 rfl f767 [] [] rfl rfl ⟨by decide, by decide⟩ (Nat.le_of_ble_eq_true rfl) (c26_size d g9 τ9 h676 sp679.1 ld_740 k749) 8 45 (Nat.le_of_ble_eq_true rfl) (Nat.le_of_ble_eq_true rfl)) (fun r773 h772 q771 => ?_) (fun E h1 q => q.elim)
                obtain ⟨q771e, q771r⟩ := q771
                rw [q771e, q771r]
                refine tw_iconst (v := 1) dX10_owe_153 (by decide) ?_
                refine tw_isub dX10_owe_154 ?_
                refine tw_nmi (fun v774 ev774 => ?_)
                exact tw_iret dX10_owe_155 rfl (Or.inl ⟨_, rfl, _, _, sp679, oq678, Or.inr (Or.inr (Or.inr (⟨ix0, rc9, (by (try rw [cDa]); (try rw [cDb]); first | done | exact lc9), (by (try rw [cDa]); (try rw [cDb]); first | done | exact (by rw [ev774, hg1.1, gn5]; exact nI_pred _)), th677, ⟨_, by rw [egD] at egN; rw [← egN]; exact ⟨hga, hg1⟩⟩⟩)))⟩)
            · refine tw_iconst (v := 1) dX10_owe_83 (by decide) ?_
              refine tw_goto 88 dX10_owe_84 (by decide) ?_
              refine tw_iconst (v := 3) dX10_owe_88 (by decide) ?_
              refine tw_bi (tw_callV (M := mX10_owe) (pc := 89) okX10_refuse dX10_owe_89 w_1200 rfl f317 [.int 1, .int 3] [] rfl rfl ⟨by decide, by decide⟩ (Nat.le_of_ble_eq_true rfl) (c_X10_refuse d g τ h303 sp313.1 x kx 1 3 (by decide)) 10 60 (Nat.le_of_ble_eq_true rfl) (Nat.le_of_ble_eq_true rfl)) (fun r780 h779 q778 => ?_) (fun E h1 q => q.elim)
              obtain ⟨e781, he782, hs783, hr784, hc785⟩ := q778
              obtain ⟨rz786, tz787⟩ := (hc785 th312).2 rfl
              have th788 : tw_th (h779 x) = 3 := by rw [he782, tw_up_s]; exact tz787
              have sp789 : tw_sp d τ h g τ h779 := by rw [he782]; exact sp313.set kx (by decide) hs783
              rw [rz786]
              have oq790 : h779 o = h o := by rw [he782, tw_up_n (tw_nk ko kx (by decide))] <;> exact oq314
              refine tw_if_eq 97 dX10_owe_92 (by decide) (fun c791 => absurd c791 (by decide)) (fun _ => ?_)
              refine tw_iconst (v := 0) dX10_owe_95 (by decide) ?_
              exact tw_iret dX10_owe_96 rfl (Or.inl ⟨_, rfl, _, _, sp789, oq790, Or.inr (Or.inr (Or.inl ⟨ix0, rc9, (by (try rw [cDa]); (try rw [cDb]); first | done | exact fun z => absurd (tw_nIj (a := g.2 5) (b := 10) c362 (by omega) (by decide)) (by omega)), th788, rfl⟩))⟩)

set_option maxHeartbeats 4000000 in
set_option maxRecDepth 100000 in
theorem c4_X10_isNoChange (d : tw_D) (g : tw_G) (τ : tw_K) (h : tw_H) (hw : tw_wt d g τ h) (x : Nat) (kx : τ x = 36) (y : Nat) (ky : τ y = 23) (j : Nat) (hj : j < 6) (hb : g.2 (4096 + y) = 960 + 32 * j) (k : Nat) (hk : k < 2) (n9 : Nat) (hn : n9 ≤ 99999) (he : tw_AM 59000000 g) (hm : tw_EM g) : tw_Ct d mX10_isNoChange 0 0 [.ref x, .ref y, .int (nI k), .int (nI n9)] h (tw_qi (fun r h1 => h1 = h ∧ (r = 1 ∧ ¬ tw_MC g j k n9 ∨ r = 0 ∧ tw_MC g j k n9)) tw_nx) := by
  refine tw_of (by decide +kernel) (Nat.le_of_ble_eq_true rfl) ?_
  show tw_W d mX10_isNoChange _ 0 [(0, .ref x), (1, .ref y), (2, .int (nI k)), (3, .int (nI n9))] [] h 0 0
  have sp0 := tw_sp.rf hw
  have b9 := tw_b3 hw kx
  refine tw_aload_n 1 dX10_isNoChange_0 rfl rfl ?_
  obtain ⟨e1, f2, x_3, y_4, dy_5, p_6, rfl, k7, k8, k9, k10⟩ := sp0.1 y 23 ky (by decide)
  obtain ⟨j11, ow12, fd9, fa9, ft9, lp13⟩ := k10
  obtain rfl : j = j11 := by have z := ow12.b hb; omega
  subst fd9 fa9 ft9
  refine tw_get (v := .int (g.1 (960 + 32 * j + 1))) rfl in_13 0 dX10_isNoChange_1 w_1338 rfl (by decide) f2 rfl ?_
  refine tw_iconst (v := -1) dX10_isNoChange_4 (by decide) ?_
  refine tw_icmp_eq 20 dX10_isNoChange_5 (by decide) (fun c14 => ?_) (fun c14 => ?_)
  · refine tw_iconst (v := 1) dX10_isNoChange_20 (by decide) ?_
    exact tw_zret dX10_isNoChange_21 rfl rfl (Or.inl ⟨_, rfl, rfl, Or.inl ⟨rfl, fun z => z.1 c14⟩⟩)
  · refine tw_aload_n 1 dX10_isNoChange_8 rfl rfl ?_
    refine tw_get (v := .ref p_6) rfl in_13 3 dX10_isNoChange_9 w_1344 rfl (by decide) f2 rfl ?_
    refine tw_iload_n 2 dX10_isNoChange_12 rfl rfl ?_
    obtain ⟨e15, f16, F17, rfl, ⟨b19, ow20, wv21⟩⟩ := sp0.1 p_6 31 k7 (by decide)
    obtain rfl : (960 + 32 * j + 8) = b19 := (ow20.b lp13).symm
    have ev22 : F17 ((nI k)).toNatClampNeg = (g.1 ((960 + 32 * j + 8) + k)).toInt64 := by rw [nI_clamp (by omega)]; exact wv21 k (by omega)
    refine tw_lald (v := (g.1 ((960 + 32 * j + 8) + k)).toInt64) dX10_isNoChange_13 f16 (vp_in_nI (by omega) (by decide)) ev22 ?_
    refine tw_iload_n 3 dX10_isNoChange_14 rfl rfl ?_
    refine tw_i2l dX10_isNoChange_15 ?_
    refine tw_nml (fun v23 ev23 => ?_)
    refine tw_lcmp dX10_isNoChange_16 ?_
    refine tw_nmi (fun v24 ev24 => ?_)
    refine tw_if_ge 22 dX10_isNoChange_17 (by decide) (fun c25 => ?_) (fun c25 => ?_)
    · have hv9 := he.p (j := j) (k := k) hj hk
      have cv9 := c25
      rw [ev24, (ev23.trans (tw_L_i (by omega))), show (g.1 (960 + 32 * j + 8 + k)).toInt64 = tw_L (tw_DN (g.1 (960 + 32 * j + 8 + k))) from by rw [hv9.1, tw_DN_nI (by omega)]; exact tw_L_i (by omega)] at cv9
      have l2 : (n9 ≤ tw_DN (g.1 (960 + 32 * j + 8 + k))) := (tw_cmp_ge (by omega) (by omega)).mp cv9
      refine tw_aload_n 0 dX10_isNoChange_22 rfl rfl ?_
      obtain ⟨e26, f27, th_28, td_29, ds_30, fr_31, ca_32, us_33, wo_34, cm_35, lc_36, lh_37, ld_38, rfl, k39, k40, k41, k42, k43, k44, k45, k46, k47, k48, k49, k50, k51, k52, k53, k54, k55, k56, k57, k58, k59, k60⟩ := sp0.1 x 36 kx (by decide)
      refine tw_get (v := .ref lc_36) rfl in_14 9 dX10_isNoChange_23 w_1160 rfl (by decide) f27 rfl ?_
      refine tw_aload_n 1 dX10_isNoChange_26 rfl rfl ?_
      refine tw_get (v := .int (g.1 (960 + 32 * j + 1))) rfl in_13 0 dX10_isNoChange_27 w_1338 rfl (by decide) f2 rfl ?_
      obtain ⟨j61, hj62, ej63⟩ := k8.resolve_left c14
      rw [ej63]
      obtain ⟨e64, f65, ⟨el66, rfl, k67⟩, k68⟩ := sp0.1 lc_36 24 k45 (by decide)
      refine tw_br (tw_callV (M := mX10_isNoChange) (pc := 30) okJx4a65c_get_915e3 dX10_isNoChange_30 w_1292 rfl f65 [.int (nI j61)] [] rfl rfl ⟨by decide, by decide⟩ (Nat.le_of_ble_eq_true rfl) (c24_get d g τ h sp0.1 lc_36 k45 j61 (by omega) (by omega)) 0 0 (Nat.le_of_ble_eq_true rfl) (Nat.le_of_ble_eq_true rfl)) (fun r71 h70 q69 => ?_) (fun E h1 q => q.elim)
      obtain ⟨q69e, q69k⟩ := q69
      rw [q69e]
      have el72 : tw_el h (g.2 12) j61 = r71 := by rw [← k68]; exact q69k.2.symm
      have kl73 : τ (g.2 12) = 24 := by rw [← k68]; exact k45
      have id74 : g.2 (4096 + r71) = 480 + 64 * j61 := by rw [← el72]; exact tw_eli24 sp0.1 kl73 (by omega)
      obtain ⟨e75, f76, r_77, c_78, v_79, o_80, t_81, rfl, k82, k83, k84, k85, k86, k87⟩ := sp0.1 r71 21 q69k.1 (by decide)
      obtain ⟨j88, ow89, fr9, fc9, q90, q91, q92⟩ := k87
      obtain rfl : j61 = j88 := by have z := ow89.b id74; omega
      subst fr9 fc9
      refine tw_castS (ci := 11) rfl dX10_isNoChange_33 w_1208 f76 ?_
      refine tw_astore [(4, .ref r71), (0, .ref x), (1, .ref y), (2, .int (nI k)), (3, .int (nI n9))] dX10_isNoChange_36 (by decide) rfl ?_
      refine tw_aload 0 dX10_isNoChange_38 rfl ?_
      refine tw_get (v := .ref o_80) rfl in_11 3 dX10_isNoChange_40 w_1219 rfl (by decide) f76 rfl ?_
      refine tw_iload_n 3 dX10_isNoChange_43 rfl rfl ?_
      obtain ⟨e93, f94, F95, rfl, k97, ⟨b98, ow99, wv100⟩⟩ := sp0.1 o_80 32 k83 (by decide)
      obtain rfl : b98 = (480 + 64 * j61 + 8) := ow99.b q90
      have ev101 : F95 ((nI k)).toNatClampNeg = (g.1 ((480 + 64 * j61 + 8) + k)) := by rw [nI_clamp (by omega)]; exact wv100 k (by omega)
      refine tw_zald (v := (g.1 ((480 + 64 * j61 + 8) + k))) dX10_isNoChange_44 f94 (vp_in_nI (by omega) (by decide)) ev101 ?_
      refine tw_if_eq 69 dX10_isNoChange_45 (by decide) (fun c102 => ?_) (fun c102 => ?_)
      · have l3 : (g.1 (480 + 64 * tw_mP g j + 8 + k) = 0) := by rw [tw_mP_e ej63 (by omega)]; exact c102
        refine tw_iconst (v := 1) dX10_isNoChange_69 (by decide) ?_
        refine tw_goto 74 dX10_isNoChange_70 (by decide) ?_
        exact tw_zret dX10_isNoChange_74 rfl rfl (Or.inl ⟨_, rfl, rfl, Or.inl ⟨rfl, fun z => z.2.2.1 l3⟩⟩)
      · have l3 : ¬ (g.1 (480 + 64 * tw_mP g j + 8 + k) = 0) := by rw [tw_mP_e ej63 (by omega)]; exact c102
        refine tw_aload 0 dX10_isNoChange_48 rfl ?_
        refine tw_get (v := .ref v_79) rfl in_11 2 dX10_isNoChange_50 w_1217 rfl (by decide) f76 rfl ?_
        refine tw_iconst (v := 1) dX10_isNoChange_53 (by decide) ?_
        refine tw_iload_n 3 dX10_isNoChange_54 rfl rfl ?_
        refine tw_isub dX10_isNoChange_55 ?_
        refine tw_nmi (fun v103 ev103 => ?_)
        have m1104 : v103 = nI (1 - k) := by rw [ev103]; exact tw_1k hk
        rw [m1104]
        obtain ⟨e105, f106, F107, rfl, ⟨b109, ow110, wv111⟩⟩ := sp0.1 v_79 31 k82 (by decide)
        obtain rfl : (480 + 64 * j61 + 16) = b109 := (ow110.b q92).symm
        have ev112 : F107 ((nI (1 - k))).toNatClampNeg = (g.1 ((480 + 64 * j61 + 16) + (1 - k))).toInt64 := by rw [nI_clamp (by omega)]; exact wv111 (1 - k) (by omega)
        refine tw_lald (v := (g.1 ((480 + 64 * j61 + 16) + (1 - k))).toInt64) dX10_isNoChange_56 f106 (vp_in_nI (by omega) (by decide)) ev112 ?_
        refine tw_aload 0 dX10_isNoChange_57 rfl ?_
        refine tw_iload_n 3 dX10_isNoChange_59 rfl rfl ?_
        refine tw_iload_n 4 dX10_isNoChange_60 rfl rfl ?_
        refine tw_i2l dX10_isNoChange_61 ?_
        refine tw_nml (fun v113 ev113 => ?_)
        have E114 := hm j61 (by omega)
        have wl9 : v113 = tw_L n9 := ev113.trans (tw_L_i (by omega))
        refine tw_bl (tw_callS (M := mX10_isNoChange) (pc := 62) okX10_given dX10_isNoChange_62 w_1366 [.ref r71, .int (nI k), .long v113] [.long ((g.1 ((480 + 64 * j61 + 16) + (1 - k))).toInt64)] rfl rfl ⟨by decide, by decide⟩ (Nat.le_of_ble_eq_true rfl) (c3_X10_given d g τ h sp0.1 r71 q69k.1 j61 (by omega) id74 k hk v113 n9 wl9 (by omega) _ _ E114.1.2.2 E114.1.1 E114.1.2.1 E114.2.1.2 E114.2.1.1) 0 0 (Nat.le_of_ble_eq_true rfl) (Nat.le_of_ble_eq_true rfl)) (fun r117 h116 q115 => ?_) (fun E h1 q => q.elim)
        obtain ⟨q115e, q115v⟩ := q115
        rw [q115e]
        have mv9 : r117 = tw_L (tw_mg g j k n9) := by unfold tw_mg; rw [tw_mP_e ej63 (by omega)]; exact q115v
        have ml9 : tw_mg g j k n9 ≤ 20 * n9 := by unfold tw_mg; rw [tw_mP_e ej63 (by omega)]; exact tw_gv_le E114.1.1 E114.1.2.1
        refine tw_lcmp dX10_isNoChange_65 ?_
        refine tw_nmi (fun v118 ev118 => ?_)
        refine tw_if_ge 73 dX10_isNoChange_66 (by decide) (fun c119 => ?_) (fun c119 => ?_)
        · have hw9 := he.v (j := j61) (k := 1 - k) (by omega) (by omega)
          have cv9 := c119
          rw [ev118, mv9, show (g.1 (480 + 64 * j61 + 16 + (1 - k))).toInt64 = tw_L (tw_DN (g.1 (480 + 64 * j61 + 16 + (1 - k)))) from by rw [hw9.1, tw_DN_nI (by omega)]; exact tw_L_i (by omega)] at cv9
          have l4 : (tw_mg g j k n9 ≤ tw_DN (g.1 (480 + 64 * tw_mP g j + 16 + (1 - k)))) := by rw [tw_mP_e ej63 (by omega)]; exact (tw_cmp_ge (by omega) (by omega)).mp cv9
          refine tw_iconst (v := 0) dX10_isNoChange_73 (by decide) ?_
          exact tw_zret dX10_isNoChange_74 rfl rfl (Or.inl ⟨_, rfl, rfl, Or.inr ⟨rfl, c14, l2, l3, l4⟩⟩)
        · have hw9 := he.v (j := j61) (k := 1 - k) (by omega) (by omega)
          have cv9 := c119
          rw [ev118, mv9, show (g.1 (480 + 64 * j61 + 16 + (1 - k))).toInt64 = tw_L (tw_DN (g.1 (480 + 64 * j61 + 16 + (1 - k)))) from by rw [hw9.1, tw_DN_nI (by omega)]; exact tw_L_i (by omega)] at cv9
          have l4 : ¬ (tw_mg g j k n9 ≤ tw_DN (g.1 (480 + 64 * tw_mP g j + 16 + (1 - k)))) := by rw [tw_mP_e ej63 (by omega)]; exact fun y => cv9 ((tw_cmp_ge (by omega) (by omega)).mpr y)
          refine tw_iconst (v := 1) dX10_isNoChange_69 (by decide) ?_
          refine tw_goto 74 dX10_isNoChange_70 (by decide) ?_
          exact tw_zret dX10_isNoChange_74 rfl rfl (Or.inl ⟨_, rfl, rfl, Or.inl ⟨rfl, fun z => l4 z.2.2.2⟩⟩)
    · have hv9 := he.p (j := j) (k := k) hj hk
      have cv9 := c25
      rw [ev24, (ev23.trans (tw_L_i (by omega))), show (g.1 (960 + 32 * j + 8 + k)).toInt64 = tw_L (tw_DN (g.1 (960 + 32 * j + 8 + k))) from by rw [hv9.1, tw_DN_nI (by omega)]; exact tw_L_i (by omega)] at cv9
      have l2 : ¬ (n9 ≤ tw_DN (g.1 (960 + 32 * j + 8 + k))) := fun y => cv9 ((tw_cmp_ge (by omega) (by omega)).mpr y)
      refine tw_iconst (v := 1) dX10_isNoChange_20 (by decide) ?_
      exact tw_zret dX10_isNoChange_21 rfl rfl (Or.inl ⟨_, rfl, rfl, Or.inl ⟨rfl, fun z => l2 z.2.1⟩⟩)

set_option maxHeartbeats 4000000 in
set_option maxRecDepth 100000 in
theorem c2_X10_change (d : tw_D) (g : tw_G) (τ : tw_K) (h : tw_H) (hw : tw_wt d g τ h) (x : Nat) (kx : τ x = 36) (n : Int32) (m : Int32) (gr : Int32) (o : Nat) (ko : τ o = 12) (he : tw_AM 59000000 g) (hm : tw_EM g) : tw_Ct d mX10_change 0 0 [.ref x, .int n, .int m, .int gr] h (tw_qi (fun r9 h1 => ∃ g1 τ1, tw_sp d τ h g1 τ1 h1 ∧ h1 o = h o ∧ ((¬ (tw_ix (g.2 4) n) ∧ tw_th (h1 x) = 1 ∧ g1 = g) ∨ ((tw_ix (g.2 4) n) ∧ ¬ (tw_RG1 m gr) ∧ tw_th (h1 x) = 2 ∧ g1 = g) ∨ ((tw_ix (g.2 4) n) ∧ (tw_RG1 m gr) ∧ ¬ (tw_MC g (tw_DN n) (tw_DN m) (tw_DN gr)) ∧ tw_th (h1 x) = 3 ∧ g1 = g) ∨ ((tw_ix (g.2 4) n) ∧ (tw_RG1 m gr) ∧ (tw_MC g (tw_DN n) (tw_DN m) (tw_DN gr)) ∧ r9 = nI (tw_mg g (tw_DN n) (tw_DN m) (tw_DN gr)) ∧ tw_th (h1 x) = 0 ∧ g1 = tw_ad (tw_ad (tw_ad (tw_ad g (960 + 32 * tw_DN n + 8 + tw_DN m) (-gr)) (480 + 64 * tw_mP g (tw_DN n) + 16 + tw_DN m) gr) (480 + 64 * tw_mP g (tw_DN n) + 16 + (1 - tw_DN m)) (-nI (tw_mg g (tw_DN n) (tw_DN m) (tw_DN gr)))) (960 + 32 * tw_DN n + 8 + (1 - tw_DN m)) (nI (tw_mg g (tw_DN n) (tw_DN m) (tw_DN gr)))))) tw_nx) := by
  refine tw_of (by decide +kernel) (Nat.le_of_ble_eq_true rfl) ?_
  show tw_W d mX10_change _ 0 [(0, .ref x), (1, .int n), (2, .int m), (3, .int gr)] [] h 0 0
  have sp0 := tw_sp.rf hw
  have oq0 : h o = h o := rfl
  have b93 := tw_b3 hw kx
  refine tw_aload_n 0 dX10_change_0 rfl rfl ?_
  refine tw_aload_n 0 dX10_change_1 rfl rfl ?_
  refine tw_iload_n 1 dX10_change_2 rfl rfl ?_
  obtain ⟨e4, f5, th_6, td_7, ds_8, fr_9, ca_10, us_11, wo_12, cm_13, lc_14, lh_15, ld_16, rfl, k17, k18, k19, k20, k21, k22, k23, k24, k25, k26, k27, k28, k29, k30, k31, k32, k33, k34, k35, k36, k37, k38⟩ := sp0.1 x 36 kx (by decide)
  refine tw_bi (tw_callV (M := mX10_change) (pc := 3) okX10_isNoHouse dX10_change_3 w_1358 rfl f5 [.int n] [.ref x] rfl rfl ⟨by decide, by decide⟩ (Nat.le_of_ble_eq_true rfl) (c2_X10_isNoHouse d g τ h sp0.1 x kx n) 0 0 (Nat.le_of_ble_eq_true rfl) (Nat.le_of_ble_eq_true rfl)) (fun r3 h2 q1 => ?_) (fun E h1 q => q.elim)
  obtain ⟨q1e, q1d⟩ := q1
  rw [q1e]
  rcases q1d with ⟨q1r, q1n⟩ | ⟨q1r, q1i⟩
  · rw [q1r]
    refine tw_iconst (v := 1) dX10_change_6 (by decide) ?_
    refine tw_bi (tw_callV (M := mX10_change) (pc := 7) okX10_start dX10_change_7 w_1196 rfl f5 [.int 1, .int 1] [] rfl rfl ⟨by decide, by decide⟩ (Nat.le_of_ble_eq_true rfl) (c_X10_start d g τ h sp0.1 x kx 1 1 (by decide)) 0 0 (Nat.le_of_ble_eq_true rfl) (Nat.le_of_ble_eq_true rfl)) (fun r44 h43 q42 => ?_) (fun E h1 q => q.elim)
    obtain ⟨e45, he46, hs47, hr48, hc49⟩ := q42
    obtain ⟨rz50, tz51⟩ := hc49.2 rfl
    have th52 : tw_th (h43 x) = 1 := by rw [he46, tw_up_s]; exact tz51
    have sp53 : tw_sp d τ h g τ h43 := by rw [he46]; exact sp0.set kx (by decide) hs47
    rw [rz50]
    have oq54 : h43 o = h o := by rw [he46, tw_up_n (tw_nk ko kx (by decide))] <;> exact oq0
    refine tw_if_ne 68 dX10_change_10 (by decide) (fun _ => ?_) (fun c55 => absurd c55 (by decide))
    refine tw_iconst (v := 0) dX10_change_68 (by decide) ?_
    exact tw_iret dX10_change_69 rfl (Or.inl ⟨_, rfl, _, _, sp53, oq54, Or.inl ⟨q1n, th52, rfl⟩⟩)
  · rw [q1r]
    have q1x := q1i
    obtain ⟨jn, q1j, q1k⟩ := q1i
    subst q1k
    have cDn : tw_DN (nI jn) = jn := nI_clamp (by omega)
    have ix0 := q1x
    refine tw_iconst (v := 1) dX10_change_6 (by decide) ?_
    refine tw_bi (tw_callV (M := mX10_change) (pc := 7) okX10_start dX10_change_7 w_1196 rfl f5 [.int 0, .int 1] [] rfl rfl ⟨by decide, by decide⟩ (Nat.le_of_ble_eq_true rfl) (c_X10_start d g τ h sp0.1 x kx 0 1 (by decide)) 0 0 (Nat.le_of_ble_eq_true rfl) (Nat.le_of_ble_eq_true rfl)) (fun r61 h60 q59 => ?_) (fun E h1 q => q.elim)
    obtain ⟨e62, he63, hs64, hr65, hc66⟩ := q59
    obtain ⟨rz67, tz68⟩ := hc66.1 rfl
    have th69 : tw_th (h60 x) = 0 := by rw [he63, tw_up_s]; exact tz68
    have sp70 : tw_sp d τ h g τ h60 := by rw [he63]; exact sp0.set kx (by decide) hs64
    rw [rz67]
    have oq71 : h60 o = h o := by rw [he63, tw_up_n (tw_nk ko kx (by decide))] <;> exact oq0
    refine tw_if_ne 68 dX10_change_10 (by decide) (fun c72 => absurd (by decide) c72) (fun _ => ?_)
    refine tw_aload_n 0 dX10_change_13 rfl rfl ?_
    refine tw_iload_n 2 dX10_change_14 rfl rfl ?_
    refine tw_bi (tw_callS (M := mX10_change) (pc := 15) okX10_isNoMetal dX10_change_15 w_1308 [.int m] [.ref x] rfl rfl ⟨by decide, by decide⟩ (Nat.le_of_ble_eq_true rfl) (c2_X10_isNoMetal d g τ h60 sp70.1 m) 0 0 (Nat.le_of_ble_eq_true rfl) (Nat.le_of_ble_eq_true rfl)) (fun r75 h74 q73 => ?_) (fun E h1 q => q.elim)
    obtain ⟨q73e, q73d⟩ := q73
    rw [q73e]
    rcases q73d with ⟨q73r, q73n⟩ | ⟨q73r, q73i⟩
    · rw [q73r]
      refine tw_if_ne 31 dX10_change_18 (by decide) (fun _ => ?_) (fun c76 => absurd c76 (by decide))
      refine tw_iconst (v := 1) dX10_change_31 (by decide) ?_
      refine tw_goto 36 dX10_change_32 (by decide) ?_
      refine tw_iconst (v := 2) dX10_change_36 (by decide) ?_
      obtain ⟨e80, f81, th_82, td_83, ds_84, fr_85, ca_86, us_87, wo_88, cm_89, lc_90, lh_91, ld_92, rfl, k93, k94, k95, k96, k97, k98, k99, k100, k101, k102, k103, k104, k105, k106, k107, k108, k109, k110, k111, k112, k113, k114⟩ := sp70.1 x 36 kx (by decide)
      refine tw_bi (tw_callV (M := mX10_change) (pc := 37) okX10_refuse dX10_change_37 w_1200 rfl f81 [.int 1, .int 2] [] rfl rfl ⟨by decide, by decide⟩ (Nat.le_of_ble_eq_true rfl) (c_X10_refuse d g τ h60 sp70.1 x kx 1 2 (by decide)) 0 0 (Nat.le_of_ble_eq_true rfl) (Nat.le_of_ble_eq_true rfl)) (fun r117 h116 q115 => ?_) (fun E h1 q => q.elim)
      obtain ⟨e118, he119, hs120, hr121, hc122⟩ := q115
      obtain ⟨rz123, tz124⟩ := (hc122 th69).2 rfl
      have th125 : tw_th (h116 x) = 2 := by rw [he119, tw_up_s]; exact tz124
      have sp126 : tw_sp d τ h g τ h116 := by rw [he119]; exact sp70.set kx (by decide) hs120
      rw [rz123]
      have oq127 : h116 o = h o := by rw [he119, tw_up_n (tw_nk ko kx (by decide))] <;> exact oq71
      refine tw_if_ne 68 dX10_change_40 (by decide) (fun _ => ?_) (fun c128 => absurd c128 (by decide))
      refine tw_iconst (v := 0) dX10_change_68 (by decide) ?_
      exact tw_iret dX10_change_69 rfl (Or.inl ⟨_, rfl, _, _, sp126, oq127, Or.inr (Or.inl ⟨ix0, fun z => q73n z.1, th125, rfl⟩)⟩)
    · rw [q73r]
      have rcm := q73i
      obtain ⟨k, hk, km⟩ := q73i.k
      subst km
      have cDm : tw_DN (nI k) = k := nI_clamp (by omega)
      refine tw_if_ne 31 dX10_change_18 (by decide) (fun c129 => absurd (by decide) c129) (fun _ => ?_)
      refine tw_iload_n 3 dX10_change_21 rfl rfl ?_
      refine tw_iconst (v := 1) dX10_change_22 (by decide) ?_
      refine tw_ldc (v := 99999) dX10_change_23 w_1195 ?_
      refine tw_bi (tw_callS (M := mX10_change) (pc := 25) okX10_isIn dX10_change_25 w_1192 [.int gr, .int 1, .int 99999] [.ref x] rfl rfl ⟨by decide, by decide⟩ (Nat.le_of_ble_eq_true rfl) (c_X10_isIn d g τ h60 sp70.1 gr 1 99999) 0 0 (Nat.le_of_ble_eq_true rfl) (Nat.le_of_ble_eq_true rfl)) (fun r132 h131 q130 => ?_) (fun E h1 q => q.elim)
      obtain ⟨q130e, q130d⟩ := q130
      rw [q130e]
      rcases q130d with ⟨q130r, q130n⟩ | ⟨q130r, rlgr⟩
      · rw [q130r]
        refine tw_if_ne 35 dX10_change_28 (by decide) (fun c133 => absurd (by decide) c133) (fun _ => ?_)
        refine tw_iconst (v := 1) dX10_change_31 (by decide) ?_
        refine tw_goto 36 dX10_change_32 (by decide) ?_
        refine tw_iconst (v := 2) dX10_change_36 (by decide) ?_
        obtain ⟨e137, f138, th_139, td_140, ds_141, fr_142, ca_143, us_144, wo_145, cm_146, lc_147, lh_148, ld_149, rfl, k150, k151, k152, k153, k154, k155, k156, k157, k158, k159, k160, k161, k162, k163, k164, k165, k166, k167, k168, k169, k170, k171⟩ := sp70.1 x 36 kx (by decide)
        refine tw_bi (tw_callV (M := mX10_change) (pc := 37) okX10_refuse dX10_change_37 w_1200 rfl f138 [.int 1, .int 2] [] rfl rfl ⟨by decide, by decide⟩ (Nat.le_of_ble_eq_true rfl) (c_X10_refuse d g τ h60 sp70.1 x kx 1 2 (by decide)) 0 0 (Nat.le_of_ble_eq_true rfl) (Nat.le_of_ble_eq_true rfl)) (fun r174 h173 q172 => ?_) (fun E h1 q => q.elim)
        obtain ⟨e175, he176, hs177, hr178, hc179⟩ := q172
        obtain ⟨rz180, tz181⟩ := (hc179 th69).2 rfl
        have th182 : tw_th (h173 x) = 2 := by rw [he176, tw_up_s]; exact tz181
        have sp183 : tw_sp d τ h g τ h173 := by rw [he176]; exact sp70.set kx (by decide) hs177
        rw [rz180]
        have oq184 : h173 o = h o := by rw [he176, tw_up_n (tw_nk ko kx (by decide))] <;> exact oq71
        refine tw_if_ne 68 dX10_change_40 (by decide) (fun _ => ?_) (fun c185 => absurd c185 (by decide))
        refine tw_iconst (v := 0) dX10_change_68 (by decide) ?_
        exact tw_iret dX10_change_69 rfl (Or.inl ⟨_, rfl, _, _, sp183, oq184, Or.inr (Or.inl ⟨ix0, fun z => q130n z.2, th182, rfl⟩)⟩)
      · rw [q130r]
        have rc9 : tw_RG1 (nI k) gr := ⟨rcm, rlgr⟩
        obtain ⟨n9, hn1, hn, en⟩ := tw_gr1 rlgr
        subst en
        have cDgr : tw_DN (nI n9) = n9 := nI_clamp (by omega)
        refine tw_if_ne 35 dX10_change_28 (by decide) (fun _ => ?_) (fun c186 => absurd c186 (by decide))
        refine tw_iconst (v := 0) dX10_change_35 (by decide) ?_
        refine tw_iconst (v := 2) dX10_change_36 (by decide) ?_
        obtain ⟨e190, f191, th_192, td_193, ds_194, fr_195, ca_196, us_197, wo_198, cm_199, lc_200, lh_201, ld_202, rfl, k203, k204, k205, k206, k207, k208, k209, k210, k211, k212, k213, k214, k215, k216, k217, k218, k219, k220, k221, k222, k223, k224⟩ := sp70.1 x 36 kx (by decide)
        refine tw_bi (tw_callV (M := mX10_change) (pc := 37) okX10_refuse dX10_change_37 w_1200 rfl f191 [.int 0, .int 2] [] rfl rfl ⟨by decide, by decide⟩ (Nat.le_of_ble_eq_true rfl) (c_X10_refuse d g τ h60 sp70.1 x kx 0 2 (by decide)) 0 0 (Nat.le_of_ble_eq_true rfl) (Nat.le_of_ble_eq_true rfl)) (fun r227 h226 q225 => ?_) (fun E h1 q => q.elim)
        obtain ⟨e228, he229, hs230, hr231, hc232⟩ := q225
        obtain ⟨rz233, tz234⟩ := (hc232 th69).1 rfl
        have th235 : tw_th (h226 x) = 0 := by rw [he229, tw_up_s]; exact tz234
        have sp236 : tw_sp d τ h g τ h226 := by rw [he229]; exact sp70.set kx (by decide) hs230
        rw [rz233]
        have oq237 : h226 o = h o := by rw [he229, tw_up_n (tw_nk ko kx (by decide))] <;> exact oq71
        refine tw_if_ne 68 dX10_change_40 (by decide) (fun c238 => absurd (by decide) c238) (fun _ => ?_)
        refine tw_aload_n 0 dX10_change_43 rfl rfl ?_
        refine tw_aload_n 0 dX10_change_44 rfl rfl ?_
        refine tw_aload_n 0 dX10_change_45 rfl rfl ?_
        obtain ⟨e239, f240, th_241, td_242, ds_243, fr_244, ca_245, us_246, wo_247, cm_248, lc_249, lh_250, ld_251, rfl, k252, k253, k254, k255, k256, k257, k258, k259, k260, k261, k262, k263, k264, k265, k266, k267, k268, k269, k270, k271, k272, k273⟩ := sp236.1 x 36 kx (by decide)
        refine tw_get (v := .ref lh_250) rfl in_14 10 dX10_change_46 w_1161 rfl (by decide) f240 rfl ?_
        refine tw_iload_n 1 dX10_change_49 rfl rfl ?_
        obtain ⟨e277, f278, ⟨el279, rfl, k280⟩, k281⟩ := sp236.1 lh_250 25 k259 (by decide)
        refine tw_br (tw_callV (M := mX10_change) (pc := 50) okJx4a65c_get_915e3 dX10_change_50 w_1292 rfl f278 [.int (nI jn)] [.ref x, .ref x] rfl rfl ⟨by decide, by decide⟩ (Nat.le_of_ble_eq_true rfl) (c25_get d g τ h226 sp236.1 lh_250 k259 jn (by omega) (by omega)) 0 0 (Nat.le_of_ble_eq_true rfl) (Nat.le_of_ble_eq_true rfl)) (fun r284 h283 q282 => ?_) (fun E h1 q => q.elim)
        obtain ⟨q282e, q282k⟩ := q282
        rw [q282e]
        have el285 : tw_el h226 (g.2 13) jn = r284 := by rw [← k281]; exact q282k.2.symm
        have kl286 : τ (g.2 13) = 25 := by rw [← k281]; exact k259
        have id287 : g.2 (4096 + r284) = 960 + 32 * jn := by rw [← el285]; exact tw_eli25 sp236.1 kl286 (by omega)
        obtain ⟨e288, f289, x_290, y_291, dy_292, p_293, rfl, k294, k295, k296, k297⟩ := sp236.1 r284 23 q282k.1 (by decide)
        obtain ⟨j298, ow299, fd9, fa9, ft9, lp300⟩ := k297
        obtain rfl : jn = j298 := by have z := ow299.b id287; omega
        subst fd9 fa9 ft9
        refine tw_castS (ci := 13) rfl dX10_change_53 w_1332 f289 ?_
        refine tw_iload_n 2 dX10_change_56 rfl rfl ?_
        refine tw_iload_n 3 dX10_change_57 rfl rfl ?_
        refine tw_bi (tw_callV (M := mX10_change) (pc := 58) okX10_isNoChange dX10_change_58 w_1362 rfl f240 [.ref r284, .int (nI k), .int (nI n9)] [.ref x] rfl rfl ⟨by decide, by decide⟩ (Nat.le_of_ble_eq_true rfl) (c4_X10_isNoChange d g τ h226 sp236.1 x kx r284 q282k.1 jn (by omega) id287 k hk n9 (by omega) he hm) 0 0 (Nat.le_of_ble_eq_true rfl) (Nat.le_of_ble_eq_true rfl)) (fun r303 h302 q301 => ?_) (fun E h1 q => q.elim)
        obtain ⟨q301e, q301d⟩ := q301
        rw [q301e]
        rcases q301d with ⟨q301r, lc9⟩ | ⟨q301r, lc9⟩
        · rw [q301r]
          refine tw_iconst (v := 3) dX10_change_61 (by decide) ?_
          refine tw_bi (tw_callV (M := mX10_change) (pc := 62) okX10_refuse dX10_change_62 w_1200 rfl f240 [.int 1, .int 3] [] rfl rfl ⟨by decide, by decide⟩ (Nat.le_of_ble_eq_true rfl) (c_X10_refuse d g τ h226 sp236.1 x kx 1 3 (by decide)) 0 0 (Nat.le_of_ble_eq_true rfl) (Nat.le_of_ble_eq_true rfl)) (fun r309 h308 q307 => ?_) (fun E h1 q => q.elim)
          obtain ⟨e310, he311, hs312, hr313, hc314⟩ := q307
          obtain ⟨rz315, tz316⟩ := (hc314 th235).2 rfl
          have th317 : tw_th (h308 x) = 3 := by rw [he311, tw_up_s]; exact tz316
          have sp318 : tw_sp d τ h g τ h308 := by rw [he311]; exact sp236.set kx (by decide) hs312
          rw [rz315]
          have oq319 : h308 o = h o := by rw [he311, tw_up_n (tw_nk ko kx (by decide))] <;> exact oq237
          refine tw_if_eq 70 dX10_change_65 (by decide) (fun c320 => absurd c320 (by decide)) (fun _ => ?_)
          refine tw_iconst (v := 0) dX10_change_68 (by decide) ?_
          exact tw_iret dX10_change_69 rfl (Or.inl ⟨_, rfl, _, _, sp318, oq319, Or.inr (Or.inr (Or.inl ⟨ix0, rc9, (by (try rw [cDn]); (try rw [cDm]); (try rw [cDgr]); first | done | exact lc9), th317, rfl⟩))⟩)
        · rw [q301r]
          have l2 := lc9.2.1
          have l4 := lc9.2.2.2
          refine tw_iconst (v := 3) dX10_change_61 (by decide) ?_
          refine tw_bi (tw_callV (M := mX10_change) (pc := 62) okX10_refuse dX10_change_62 w_1200 rfl f240 [.int 0, .int 3] [] rfl rfl ⟨by decide, by decide⟩ (Nat.le_of_ble_eq_true rfl) (c_X10_refuse d g τ h226 sp236.1 x kx 0 3 (by decide)) 0 0 (Nat.le_of_ble_eq_true rfl) (Nat.le_of_ble_eq_true rfl)) (fun r326 h325 q324 => ?_) (fun E h1 q => q.elim)
          obtain ⟨e327, he328, hs329, hr330, hc331⟩ := q324
          obtain ⟨rz332, tz333⟩ := (hc331 th235).1 rfl
          have th334 : tw_th (h325 x) = 0 := by rw [he328, tw_up_s]; exact tz333
          have sp335 : tw_sp d τ h g τ h325 := by rw [he328]; exact sp236.set kx (by decide) hs329
          rw [rz332]
          have oq336 : h325 o = h o := by rw [he328, tw_up_n (tw_nk ko kx (by decide))] <;> exact oq237
          refine tw_if_eq 70 dX10_change_65 (by decide) (fun _ => ?_) (fun c337 => absurd (by decide) c337)
          refine tw_aload_n 0 dX10_change_70 rfl rfl ?_
          obtain ⟨e338, f339, th_340, td_341, ds_342, fr_343, ca_344, us_345, wo_346, cm_347, lc_348, lh_349, ld_350, rfl, k351, k352, k353, k354, k355, k356, k357, k358, k359, k360, k361, k362, k363, k364, k365, k366, k367, k368, k369, k370, k371, k372⟩ := sp335.1 x 36 kx (by decide)
          refine tw_get (v := .ref lh_349) rfl in_14 10 dX10_change_71 w_1161 rfl (by decide) f339 rfl ?_
          refine tw_iload_n 1 dX10_change_74 rfl rfl ?_
          obtain ⟨e376, f377, ⟨el378, rfl, k379⟩, k380⟩ := sp335.1 lh_349 25 k358 (by decide)
          refine tw_br (tw_callV (M := mX10_change) (pc := 75) okJx4a65c_get_915e3 dX10_change_75 w_1292 rfl f377 [.int (nI jn)] [] rfl rfl ⟨by decide, by decide⟩ (Nat.le_of_ble_eq_true rfl) (c25_get d g τ h325 sp335.1 lh_349 k358 jn (by omega) (by omega)) 0 0 (Nat.le_of_ble_eq_true rfl) (Nat.le_of_ble_eq_true rfl)) (fun r383 h382 q381 => ?_) (fun E h1 q => q.elim)
          obtain ⟨q381e, q381k⟩ := q381
          rw [q381e]
          have el384 : tw_el h325 (g.2 13) jn = r383 := by rw [← k380]; exact q381k.2.symm
          have kl385 : τ (g.2 13) = 25 := by rw [← k380]; exact k358
          have id386 : g.2 (4096 + r383) = 960 + 32 * jn := by rw [← el384]; exact tw_eli25 sp335.1 kl385 (by omega)
          obtain ⟨e387, f388, x_389, y_390, dy_391, p_392, rfl, k393, k394, k395, k396⟩ := sp335.1 r383 23 q381k.1 (by decide)
          obtain ⟨j397, ow398, fd9, fa9, ft9, lp399⟩ := k396
          obtain rfl : jn = j397 := by have z := ow398.b id386; omega
          subst fd9 fa9 ft9
          refine tw_castS (ci := 13) rfl dX10_change_78 w_1332 f388 ?_
          refine tw_astore [(4, .ref r383), (0, .ref x), (1, .int (nI jn)), (2, .int (nI k)), (3, .int (nI n9))] dX10_change_81 (by decide) rfl ?_
          refine tw_aload_n 1 dX10_change_83 rfl rfl ?_
          refine tw_get (v := .ref lc_348) rfl in_14 9 dX10_change_84 w_1160 rfl (by decide) f339 rfl ?_
          refine tw_aload 0 dX10_change_87 rfl ?_
          refine tw_get (v := .int (g.1 (960 + 32 * jn + 1))) rfl in_13 0 dX10_change_89 w_1338 rfl (by decide) f388 rfl ?_
          obtain ⟨j403, hj404, ej405⟩ := k394.resolve_left lc9.1
          rw [ej405]
          obtain ⟨e406, f407, ⟨el408, rfl, k409⟩, k410⟩ := sp335.1 lc_348 24 k357 (by decide)
          refine tw_br (tw_callV (M := mX10_change) (pc := 92) okJx4a65c_get_915e3 dX10_change_92 w_1292 rfl f407 [.int (nI j403)] [] rfl rfl ⟨by decide, by decide⟩ (Nat.le_of_ble_eq_true rfl) (c24_get d g τ h325 sp335.1 lc_348 k357 j403 (by omega) (by omega)) 0 0 (Nat.le_of_ble_eq_true rfl) (Nat.le_of_ble_eq_true rfl)) (fun r413 h412 q411 => ?_) (fun E h1 q => q.elim)
          obtain ⟨q411e, q411k⟩ := q411
          rw [q411e]
          have el414 : tw_el h325 (g.2 12) j403 = r413 := by rw [← k410]; exact q411k.2.symm
          have kl415 : τ (g.2 12) = 24 := by rw [← k410]; exact k357
          have id416 : g.2 (4096 + r413) = 480 + 64 * j403 := by rw [← el414]; exact tw_eli24 sp335.1 kl415 (by omega)
          obtain ⟨e417, f418, r_419, c_420, v_421, o_422, t_423, rfl, k424, k425, k426, k427, k428, k429⟩ := sp335.1 r413 21 q411k.1 (by decide)
          obtain ⟨j430, ow431, fr9, fc9, q432, q433, q434⟩ := k429
          obtain rfl : j403 = j430 := by have z := ow431.b id416; omega
          subst fr9 fc9
          refine tw_castS (ci := 11) rfl dX10_change_95 w_1208 f418 ?_
          refine tw_astore [(5, .ref r413), (4, .ref r383), (0, .ref x), (1, .int (nI jn)), (2, .int (nI k)), (3, .int (nI n9))] dX10_change_98 (by decide) rfl ?_
          refine tw_aload 0 dX10_change_100 rfl ?_
          refine tw_iload_n 4 dX10_change_102 rfl rfl ?_
          refine tw_iload_n 5 dX10_change_103 rfl rfl ?_
          refine tw_i2l dX10_change_104 ?_
          refine tw_nml (fun v435 ev435 => ?_)
          have E436 := hm j403 (by omega)
          have wl9 : v435 = tw_L n9 := ev435.trans (tw_L_i (by omega))
          refine tw_bl (tw_callS (M := mX10_change) (pc := 105) okX10_given dX10_change_105 w_1366 [.ref r413, .int (nI k), .long v435] [] rfl rfl ⟨by decide, by decide⟩ (Nat.le_of_ble_eq_true rfl) (c3_X10_given d g τ h325 sp335.1 r413 q411k.1 j403 (by omega) id416 k hk v435 n9 wl9 (by omega) _ _ E436.1.2.2 E436.1.1 E436.1.2.1 E436.2.1.2 E436.2.1.1) 0 0 (Nat.le_of_ble_eq_true rfl) (Nat.le_of_ble_eq_true rfl)) (fun r439 h438 q437 => ?_) (fun E h1 q => q.elim)
          obtain ⟨q437e, q437v⟩ := q437
          rw [q437e]
          have mv9 : r439 = tw_L (tw_mg g jn k n9) := by unfold tw_mg; rw [tw_mP_e ej405 (by omega)]; exact q437v
          have ml9 : tw_mg g jn k n9 ≤ 20 * n9 := by unfold tw_mg; rw [tw_mP_e ej405 (by omega)]; exact tw_gv_le E436.1.1 E436.1.2.1
          rw [tw_mP_e ej405 (by omega)] at l4
          refine tw_lstore [(6, .long r439), (5, .ref r413), (4, .ref r383), (0, .ref x), (1, .int (nI jn)), (2, .int (nI k)), (3, .int (nI n9))] dX10_change_108 (by decide) rfl ?_
          refine tw_aload 2 dX10_change_110 rfl ?_
          refine tw_get (v := .ref p_392) rfl in_13 3 dX10_change_112 w_1344 rfl (by decide) f388 rfl ?_
          refine tw_iload_n 5 dX10_change_115 rfl rfl ?_
          refine tw_dup2 dX10_change_116 rfl rfl ?_
          obtain ⟨e440, f441, F442, rfl, ⟨b444, ow445, wv446⟩⟩ := sp335.1 p_392 31 k393 (by decide)
          obtain rfl : (960 + 32 * jn + 8) = b444 := (ow445.b lp399).symm
          have ev447 : F442 ((nI k)).toNatClampNeg = (g.1 ((960 + 32 * jn + 8) + k)).toInt64 := by rw [nI_clamp (by omega)]; exact wv446 k (by omega)
          refine tw_lald (v := (g.1 ((960 + 32 * jn + 8) + k)).toInt64) dX10_change_117 f441 (vp_in_nI (by omega) (by decide)) ev447 ?_
          refine tw_iload_n 6 dX10_change_118 rfl rfl ?_
          refine tw_i2l dX10_change_119 ?_
          refine tw_nml (fun v448 ev448 => ?_)
          refine tw_lsub dX10_change_120 ?_
          refine tw_nml (fun v449 ev449 => ?_)
          have ce450 : (g.1 ((960 + 32 * jn + 8) + k)) = nI (tw_DN (g.1 ((960 + 32 * jn + 8) + k))) := by (repeat (first | rw [tw_ad_ne (by omega)] | rw [tw_g1_ne (by omega)])); exact (he.p (j := jn) (k := k) (by omega) (by omega)).1
          have cb451 : tw_DN (g.1 ((960 + 32 * jn + 8) + k)) ≤ 59000000 := (he.p (j := jn) (k := k) (by omega) (by omega)).2
          refine tw_last dX10_change_121 f441 (vp_in_nI (by omega) (by decide)) ?_
          rw [nI_clamp (by omega)]
          obtain ⟨h452, eh452⟩ : ∃ z : tw_H, z = tw_up h325 p_392 (.inl (d.2 1, 2, .inr (.inl (vp_updL F442 k v449)))) := ⟨_, rfl⟩
          rw [← eh452]
          have th453 : tw_th (h452 x) = 0 := by rw [eh452, tw_up_n (tw_nk kx k393 (by decide))] <;> exact th334
          have oq454 : h452 o = h o := by rw [eh452, tw_up_n (tw_nk ko k393 (by decide))] <;> exact oq336
          have sp455 : tw_sp d τ h (tw_ad g ((960 + 32 * jn + 8) + k) (-nI n9)) τ h452 := by rw [eh452]; exact sp335.wb k393 (by decide) ow445 ⟨_, rfl, tw_f31.up ow445 wv446 (ev449.trans (tw_l_sub ce450 (ev448.trans (tw_L_i (by omega))) (by omega) (by omega)))⟩ (fun q9 hq9 => tw_ad_ne (by omega)) rfl
          refine tw_aload 1 dX10_change_122 rfl ?_
          obtain ⟨e456, f457, r_458, c_459, v_460, o_461, t_462, rfl, k463, k464, k465, k466, k467, k468⟩ := sp455.1 r413 21 q411k.1 (by decide)
          obtain ⟨j469, ow470, fr9, fc9, q471, q472, q473⟩ := k468
          obtain rfl : j403 = j469 := by have z := ow470.b id416; omega
          subst fr9 fc9
          refine tw_get (v := .ref v_460) rfl in_11 2 dX10_change_124 w_1217 rfl (by decide) f457 rfl ?_
          refine tw_iload_n 5 dX10_change_127 rfl rfl ?_
          refine tw_dup2 dX10_change_128 rfl rfl ?_
          obtain ⟨e474, f475, F476, rfl, ⟨b478, ow479, wv480⟩⟩ := sp455.1 v_460 31 k463 (by decide)
          obtain rfl : (480 + 64 * j403 + 16) = b478 := (ow479.b q473).symm
          have ev481 : F476 ((nI k)).toNatClampNeg = ((tw_ad g ((960 + 32 * jn + 8) + k) (-nI n9)).1 ((480 + 64 * j403 + 16) + k)).toInt64 := by rw [nI_clamp (by omega)]; exact wv480 k (by omega)
          refine tw_lald (v := ((tw_ad g ((960 + 32 * jn + 8) + k) (-nI n9)).1 ((480 + 64 * j403 + 16) + k)).toInt64) dX10_change_129 f475 (vp_in_nI (by omega) (by decide)) ev481 ?_
          refine tw_iload_n 6 dX10_change_130 rfl rfl ?_
          refine tw_i2l dX10_change_131 ?_
          refine tw_nml (fun v482 ev482 => ?_)
          refine tw_ladd dX10_change_132 ?_
          refine tw_nml (fun v483 ev483 => ?_)
          have ce484 : ((tw_ad g ((960 + 32 * jn + 8) + k) (-nI n9)).1 ((480 + 64 * j403 + 16) + k)) = nI (tw_DN (g.1 ((480 + 64 * j403 + 16) + k))) := by (repeat (first | rw [tw_ad_ne (by omega)] | rw [tw_g1_ne (by omega)])); exact (he.v (j := j403) (k := k) (by omega) (by omega)).1
          have cb485 : tw_DN (g.1 ((480 + 64 * j403 + 16) + k)) ≤ 59000000 := (he.v (j := j403) (k := k) (by omega) (by omega)).2
          refine tw_last dX10_change_133 f475 (vp_in_nI (by omega) (by decide)) ?_
          rw [nI_clamp (by omega)]
          obtain ⟨h486, eh486⟩ : ∃ z : tw_H, z = tw_up h452 v_460 (.inl (d.2 1, 2, .inr (.inl (vp_updL F476 k v483)))) := ⟨_, rfl⟩
          rw [← eh486]
          have th487 : tw_th (h486 x) = 0 := by rw [eh486, tw_up_n (tw_nk kx k463 (by decide))] <;> exact th453
          have oq488 : h486 o = h o := by rw [eh486, tw_up_n (tw_nk ko k463 (by decide))] <;> exact oq454
          have sp489 : tw_sp d τ h (tw_ad (tw_ad g ((960 + 32 * jn + 8) + k) (-nI n9)) ((480 + 64 * j403 + 16) + k) (nI n9)) τ h486 := by rw [eh486]; exact sp455.wb k463 (by decide) ow479 ⟨_, rfl, tw_f31.up ow479 wv480 (ev483.trans (tw_l_add ce484 (ev482.trans (tw_L_i (by omega))) (by omega)))⟩ (fun q9 hq9 => tw_ad_ne (by omega)) rfl
          refine tw_aload 2 dX10_change_134 rfl ?_
          obtain ⟨e490, f491, x_492, y_493, dy_494, p_495, rfl, k496, k497, k498, k499⟩ := sp489.1 r383 23 q381k.1 (by decide)
          obtain ⟨j500, ow501, fd9, fa9, ft9, lp502⟩ := k499
          obtain rfl : jn = j500 := by have z := ow501.b id386; omega
          subst fd9 fa9 ft9
          refine tw_get (v := .ref p_495) rfl in_13 3 dX10_change_136 w_1344 rfl (by decide) f491 rfl ?_
          refine tw_iconst (v := 1) dX10_change_139 (by decide) ?_
          refine tw_iload_n 5 dX10_change_140 rfl rfl ?_
          refine tw_isub dX10_change_141 ?_
          refine tw_nmi (fun v503 ev503 => ?_)
          have m1504 : v503 = nI (1 - k) := by rw [ev503]; exact tw_1k hk
          rw [m1504]
          refine tw_dup2 dX10_change_142 rfl rfl ?_
          obtain ⟨e505, f506, F507, rfl, ⟨b509, ow510, wv511⟩⟩ := sp489.1 p_495 31 k496 (by decide)
          obtain rfl : (960 + 32 * jn + 8) = b509 := (ow510.b lp502).symm
          have ev512 : F507 ((nI (1 - k))).toNatClampNeg = ((tw_ad (tw_ad g ((960 + 32 * jn + 8) + k) (-nI n9)) ((480 + 64 * j403 + 16) + k) (nI n9)).1 ((960 + 32 * jn + 8) + (1 - k))).toInt64 := by rw [nI_clamp (by omega)]; exact wv511 (1 - k) (by omega)
          refine tw_lald (v := ((tw_ad (tw_ad g ((960 + 32 * jn + 8) + k) (-nI n9)) ((480 + 64 * j403 + 16) + k) (nI n9)).1 ((960 + 32 * jn + 8) + (1 - k))).toInt64) dX10_change_143 f506 (vp_in_nI (by omega) (by decide)) ev512 ?_
          refine tw_lload 0 dX10_change_144 rfl ?_
          refine tw_ladd dX10_change_146 ?_
          refine tw_nml (fun v513 ev513 => ?_)
          have ce514 : ((tw_ad (tw_ad g ((960 + 32 * jn + 8) + k) (-nI n9)) ((480 + 64 * j403 + 16) + k) (nI n9)).1 ((960 + 32 * jn + 8) + (1 - k))) = nI (tw_DN (g.1 ((960 + 32 * jn + 8) + (1 - k)))) := by (repeat (first | rw [tw_ad_ne (by omega)] | rw [tw_g1_ne (by omega)])); exact (he.p (j := jn) (k := (1 - k)) (by omega) (by omega)).1
          have cb515 : tw_DN (g.1 ((960 + 32 * jn + 8) + (1 - k))) ≤ 59000000 := (he.p (j := jn) (k := (1 - k)) (by omega) (by omega)).2
          refine tw_last dX10_change_147 f506 (vp_in_nI (by omega) (by decide)) ?_
          rw [nI_clamp (by omega)]
          obtain ⟨h516, eh516⟩ : ∃ z : tw_H, z = tw_up h486 p_495 (.inl (d.2 1, 2, .inr (.inl (vp_updL F507 (1 - k) v513)))) := ⟨_, rfl⟩
          rw [← eh516]
          have th517 : tw_th (h516 x) = 0 := by rw [eh516, tw_up_n (tw_nk kx k496 (by decide))] <;> exact th487
          have oq518 : h516 o = h o := by rw [eh516, tw_up_n (tw_nk ko k496 (by decide))] <;> exact oq488
          have sp519 : tw_sp d τ h (tw_ad (tw_ad (tw_ad g ((960 + 32 * jn + 8) + k) (-nI n9)) ((480 + 64 * j403 + 16) + k) (nI n9)) ((960 + 32 * jn + 8) + (1 - k)) (nI (tw_mg g jn k n9))) τ h516 := by rw [eh516]; exact sp489.wb k496 (by decide) ow510 ⟨_, rfl, tw_f31.up ow510 wv511 (ev513.trans (tw_l_add ce514 mv9 (by omega)))⟩ (fun q9 hq9 => tw_ad_ne (by omega)) rfl
          refine tw_aload 1 dX10_change_148 rfl ?_
          obtain ⟨e520, f521, r_522, c_523, v_524, o_525, t_526, rfl, k527, k528, k529, k530, k531, k532⟩ := sp519.1 r413 21 q411k.1 (by decide)
          obtain ⟨j533, ow534, fr9, fc9, q535, q536, q537⟩ := k532
          obtain rfl : j403 = j533 := by have z := ow534.b id416; omega
          subst fr9 fc9
          refine tw_get (v := .ref v_524) rfl in_11 2 dX10_change_150 w_1217 rfl (by decide) f521 rfl ?_
          refine tw_iconst (v := 1) dX10_change_153 (by decide) ?_
          refine tw_iload_n 5 dX10_change_154 rfl rfl ?_
          refine tw_isub dX10_change_155 ?_
          refine tw_nmi (fun v538 ev538 => ?_)
          have m1539 : v538 = nI (1 - k) := by rw [ev538]; exact tw_1k hk
          rw [m1539]
          refine tw_dup2 dX10_change_156 rfl rfl ?_
          obtain ⟨e540, f541, F542, rfl, ⟨b544, ow545, wv546⟩⟩ := sp519.1 v_524 31 k527 (by decide)
          obtain rfl : (480 + 64 * j403 + 16) = b544 := (ow545.b q537).symm
          have ev547 : F542 ((nI (1 - k))).toNatClampNeg = ((tw_ad (tw_ad (tw_ad g ((960 + 32 * jn + 8) + k) (-nI n9)) ((480 + 64 * j403 + 16) + k) (nI n9)) ((960 + 32 * jn + 8) + (1 - k)) (nI (tw_mg g jn k n9))).1 ((480 + 64 * j403 + 16) + (1 - k))).toInt64 := by rw [nI_clamp (by omega)]; exact wv546 (1 - k) (by omega)
          refine tw_lald (v := ((tw_ad (tw_ad (tw_ad g ((960 + 32 * jn + 8) + k) (-nI n9)) ((480 + 64 * j403 + 16) + k) (nI n9)) ((960 + 32 * jn + 8) + (1 - k)) (nI (tw_mg g jn k n9))).1 ((480 + 64 * j403 + 16) + (1 - k))).toInt64) dX10_change_157 f541 (vp_in_nI (by omega) (by decide)) ev547 ?_
          refine tw_lload 0 dX10_change_158 rfl ?_
          refine tw_lsub dX10_change_160 ?_
          refine tw_nml (fun v548 ev548 => ?_)
          have ce549 : ((tw_ad (tw_ad (tw_ad g ((960 + 32 * jn + 8) + k) (-nI n9)) ((480 + 64 * j403 + 16) + k) (nI n9)) ((960 + 32 * jn + 8) + (1 - k)) (nI (tw_mg g jn k n9))).1 ((480 + 64 * j403 + 16) + (1 - k))) = nI (tw_DN (g.1 ((480 + 64 * j403 + 16) + (1 - k)))) := by (repeat (first | rw [tw_ad_ne (by omega)] | rw [tw_g1_ne (by omega)])); exact (he.v (j := j403) (k := (1 - k)) (by omega) (by omega)).1
          have cb550 : tw_DN (g.1 ((480 + 64 * j403 + 16) + (1 - k))) ≤ 59000000 := (he.v (j := j403) (k := (1 - k)) (by omega) (by omega)).2
          refine tw_last dX10_change_161 f541 (vp_in_nI (by omega) (by decide)) ?_
          rw [nI_clamp (by omega)]
          obtain ⟨h551, eh551⟩ : ∃ z : tw_H, z = tw_up h516 v_524 (.inl (d.2 1, 2, .inr (.inl (vp_updL F542 (1 - k) v548)))) := ⟨_, rfl⟩
          rw [← eh551]
          have th552 : tw_th (h551 x) = 0 := by rw [eh551, tw_up_n (tw_nk kx k527 (by decide))] <;> exact th517
          have oq553 : h551 o = h o := by rw [eh551, tw_up_n (tw_nk ko k527 (by decide))] <;> exact oq518
          have sp554 : tw_sp d τ h (tw_ad (tw_ad (tw_ad (tw_ad g ((960 + 32 * jn + 8) + k) (-nI n9)) ((480 + 64 * j403 + 16) + k) (nI n9)) ((960 + 32 * jn + 8) + (1 - k)) (nI (tw_mg g jn k n9))) ((480 + 64 * j403 + 16) + (1 - k)) (-nI (tw_mg g jn k n9))) τ h551 := by rw [eh551]; exact sp519.wb k527 (by decide) ow545 ⟨_, rfl, tw_f31.up ow545 wv546 (ev548.trans (tw_l_sub ce549 mv9 (by omega) (by omega)))⟩ (fun q9 hq9 => tw_ad_ne (by omega)) rfl
          refine tw_lload 0 dX10_change_162 rfl ?_
          refine tw_l2i dX10_change_164 ?_
          refine tw_nmi (fun v555 ev555 => ?_)
          exact tw_iret dX10_change_165 rfl (Or.inl ⟨_, rfl, _, _, sp554, oq553, Or.inr (Or.inr (Or.inr (⟨ix0, rc9, (by (try rw [cDn]); (try rw [cDm]); (try rw [cDgr]); first | done | exact lc9), (by (try rw [cDn]); (try rw [cDm]); (try rw [cDgr]); first | done | exact (by rw [ev555, mv9]; exact tw_L_32 (by omega))), th552, (by (try rw [cDn]); (try rw [cDm]); (try rw [cDgr]); first | done | exact (by rw [tw_mP_e ej405 (by omega)]; exact tw_adm (by omega)))⟩)))⟩)

theorem tw_g1_3 {g : tw_G} {a b c : Nat} {u v w : Int32} (ab : a ≠ b) (ac : a ≠ c) (bc : b ≠ c) : tw_g1 (tw_g1 (tw_g1 g a u) b v) c w = tw_g1 (tw_g1 (tw_g1 g c w) b v) a u := by
  refine Prod.ext (funext fun k => ?_) rfl
  show (if k = c then w else if k = b then v else if k = a then u else g.1 k) = if k = a then u else if k = b then v else if k = c then w else g.1 k
  by_cases p : k = a
  · have h1 : ¬ k = c := fun z => ac (p.symm.trans z)
    have h2 : ¬ k = b := fun z => ab (p.symm.trans z)
    simp only [if_neg h1, if_neg h2, if_pos p]
  · by_cases q : k = b
    · have h1 : ¬ k = c := fun z => bc (q.symm.trans z)
      simp only [if_neg h1, if_pos q, if_neg p]
    · by_cases r : k = c
      · simp only [if_pos r, if_neg q, if_neg p]
      · simp only [if_neg r, if_neg q, if_neg p]
set_option maxHeartbeats 4000000 in
set_option maxRecDepth 100000 in
theorem c2_X10_send (d : tw_D) (g : tw_G) (τ : tw_K) (h : tw_H) (hw : tw_wt d g τ h) (x : Nat) (kx : τ x = 36) (n : Int32) (c : Int32) (o : Nat) (ko : τ o = 12) (he : tw_AM 59000000 g) (hm : tw_EM g) : tw_Ct d mX10_send 0 0 [.ref x, .int n, .int c] h (tw_qi (fun r9 h1 => ∃ g1 τ1, tw_sp d τ h g1 τ1 h1 ∧ h1 o = h o ∧ ((¬ (tw_ix (g.2 4) n ∧ tw_ix (g.2 3) c) ∧ tw_th (h1 x) = 1 ∧ g1 = g) ∨ ((tw_ix (g.2 4) n ∧ tw_ix (g.2 3) c) ∧ ¬ (tw_MS g (tw_DN n) c) ∧ tw_th (h1 x) = 2 ∧ g1 = g) ∨ ((tw_ix (g.2 4) n ∧ tw_ix (g.2 3) c) ∧ (tw_MS g (tw_DN n) c) ∧ r9 = tw_mD g (tw_DN n) (tw_DN c) ∧ tw_th (h1 x) = 0 ∧ g1 = tw_g1 (tw_g1 (tw_g1 (tw_ad (tw_ad (tw_ad (tw_ad g (960 + 32 * tw_DN n + 8 + 0) (-nI (tw_mf g (tw_DN n) (tw_DN c) 0))) (1344 + 0) (nI (tw_mf g (tw_DN n) (tw_DN c) 0))) (960 + 32 * tw_DN n + 8 + 1) (-nI (tw_mf g (tw_DN n) (tw_DN c) 1))) (1344 + 1) (nI (tw_mf g (tw_DN n) (tw_DN c) 1))) (960 + 32 * tw_DN n + 1) (-1)) (960 + 32 * tw_DN n + 2) c) (960 + 32 * tw_DN n + 0) (tw_mD g (tw_DN n) (tw_DN c))))) tw_nx) := by
  refine tw_of (by decide +kernel) (Nat.le_of_ble_eq_true rfl) ?_
  show tw_W d mX10_send _ 0 [(0, .ref x), (1, .int n), (2, .int c)] [] h 0 0
  have sp0 := tw_sp.rf hw
  have oq0 : h o = h o := rfl
  have b93 := tw_b3 hw kx
  refine tw_aload_n 0 dX10_send_0 rfl rfl ?_
  refine tw_aload_n 0 dX10_send_1 rfl rfl ?_
  refine tw_iload_n 1 dX10_send_2 rfl rfl ?_
  obtain ⟨e4, f5, th_6, td_7, ds_8, fr_9, ca_10, us_11, wo_12, cm_13, lc_14, lh_15, ld_16, rfl, k17, k18, k19, k20, k21, k22, k23, k24, k25, k26, k27, k28, k29, k30, k31, k32, k33, k34, k35, k36, k37, k38⟩ := sp0.1 x 36 kx (by decide)
  refine tw_bi (tw_callV (M := mX10_send) (pc := 3) okX10_isNoHouse dX10_send_3 w_1358 rfl f5 [.int n] [.ref x] rfl rfl ⟨by decide, by decide⟩ (Nat.le_of_ble_eq_true rfl) (c2_X10_isNoHouse d g τ h sp0.1 x kx n) 0 0 (Nat.le_of_ble_eq_true rfl) (Nat.le_of_ble_eq_true rfl)) (fun r3 h2 q1 => ?_) (fun E h1 q => q.elim)
  obtain ⟨q1e, q1d⟩ := q1
  rw [q1e]
  rcases q1d with ⟨q1r, q1n⟩ | ⟨q1r, q1i⟩
  · rw [q1r]
    refine tw_if_ne 17 dX10_send_6 (by decide) (fun _ => ?_) (fun c39 => absurd c39 (by decide))
    refine tw_iconst (v := 1) dX10_send_17 (by decide) ?_
    refine tw_goto 22 dX10_send_18 (by decide) ?_
    refine tw_iconst (v := 1) dX10_send_22 (by decide) ?_
    refine tw_bi (tw_callV (M := mX10_send) (pc := 23) okX10_start dX10_send_23 w_1196 rfl f5 [.int 1, .int 1] [] rfl rfl ⟨by decide, by decide⟩ (Nat.le_of_ble_eq_true rfl) (c_X10_start d g τ h sp0.1 x kx 1 1 (by decide)) 0 0 (Nat.le_of_ble_eq_true rfl) (Nat.le_of_ble_eq_true rfl)) (fun r45 h44 q43 => ?_) (fun E h1 q => q.elim)
    obtain ⟨e46, he47, hs48, hr49, hc50⟩ := q43
    obtain ⟨rz51, tz52⟩ := hc50.2 rfl
    have th53 : tw_th (h44 x) = 1 := by rw [he47, tw_up_s]; exact tz52
    have sp54 : tw_sp d τ h g τ h44 := by rw [he47]; exact sp0.set kx (by decide) hs48
    rw [rz51]
    have oq55 : h44 o = h o := by rw [he47, tw_up_n (tw_nk ko kx (by decide))] <;> exact oq0
    refine tw_if_ne 78 dX10_send_26 (by decide) (fun _ => ?_) (fun c56 => absurd c56 (by decide))
    refine tw_iconst (v := 0) dX10_send_78 (by decide) ?_
    exact tw_iret dX10_send_79 rfl (Or.inl ⟨_, rfl, _, _, sp54, oq55, Or.inl ⟨fun z => q1n z.1, th53, rfl⟩⟩)
  · rw [q1r]
    have q1x := q1i
    obtain ⟨jn, q1j, q1k⟩ := q1i
    subst q1k
    have cDn : tw_DN (nI jn) = jn := nI_clamp (by omega)
    refine tw_if_ne 17 dX10_send_6 (by decide) (fun c57 => absurd (by decide) c57) (fun _ => ?_)
    refine tw_aload_n 0 dX10_send_9 rfl rfl ?_
    refine tw_iload_n 2 dX10_send_10 rfl rfl ?_
    refine tw_bi (tw_callV (M := mX10_send) (pc := 11) okX10_isNoCountry dX10_send_11 w_1288 rfl f5 [.int c] [.ref x] rfl rfl ⟨by decide, by decide⟩ (Nat.le_of_ble_eq_true rfl) (c2_X10_isNoCountry d g τ h sp0.1 x kx c) 0 0 (Nat.le_of_ble_eq_true rfl) (Nat.le_of_ble_eq_true rfl)) (fun r60 h59 q58 => ?_) (fun E h1 q => q.elim)
    obtain ⟨q58e, q58d⟩ := q58
    rw [q58e]
    rcases q58d with ⟨q58r, q58n⟩ | ⟨q58r, q58i⟩
    · rw [q58r]
      refine tw_if_eq 21 dX10_send_14 (by decide) (fun c61 => absurd c61 (by decide)) (fun _ => ?_)
      refine tw_iconst (v := 1) dX10_send_17 (by decide) ?_
      refine tw_goto 22 dX10_send_18 (by decide) ?_
      refine tw_iconst (v := 1) dX10_send_22 (by decide) ?_
      refine tw_bi (tw_callV (M := mX10_send) (pc := 23) okX10_start dX10_send_23 w_1196 rfl f5 [.int 1, .int 1] [] rfl rfl ⟨by decide, by decide⟩ (Nat.le_of_ble_eq_true rfl) (c_X10_start d g τ h sp0.1 x kx 1 1 (by decide)) 0 0 (Nat.le_of_ble_eq_true rfl) (Nat.le_of_ble_eq_true rfl)) (fun r67 h66 q65 => ?_) (fun E h1 q => q.elim)
      obtain ⟨e68, he69, hs70, hr71, hc72⟩ := q65
      obtain ⟨rz73, tz74⟩ := hc72.2 rfl
      have th75 : tw_th (h66 x) = 1 := by rw [he69, tw_up_s]; exact tz74
      have sp76 : tw_sp d τ h g τ h66 := by rw [he69]; exact sp0.set kx (by decide) hs70
      rw [rz73]
      have oq77 : h66 o = h o := by rw [he69, tw_up_n (tw_nk ko kx (by decide))] <;> exact oq0
      refine tw_if_ne 78 dX10_send_26 (by decide) (fun _ => ?_) (fun c78 => absurd c78 (by decide))
      refine tw_iconst (v := 0) dX10_send_78 (by decide) ?_
      exact tw_iret dX10_send_79 rfl (Or.inl ⟨_, rfl, _, _, sp76, oq77, Or.inl ⟨fun z => q58n z.2, th75, rfl⟩⟩)
    · rw [q58r]
      have q58x := q58i
      obtain ⟨jc, q58j, q58k⟩ := q58i
      subst q58k
      have cDc : tw_DN (nI jc) = jc := nI_clamp (by omega)
      have ix0 := And.intro q1x q58x
      refine tw_if_eq 21 dX10_send_14 (by decide) (fun _ => ?_) (fun c79 => absurd (by decide) c79)
      refine tw_iconst (v := 0) dX10_send_21 (by decide) ?_
      refine tw_iconst (v := 1) dX10_send_22 (by decide) ?_
      refine tw_bi (tw_callV (M := mX10_send) (pc := 23) okX10_start dX10_send_23 w_1196 rfl f5 [.int 0, .int 1] [] rfl rfl ⟨by decide, by decide⟩ (Nat.le_of_ble_eq_true rfl) (c_X10_start d g τ h sp0.1 x kx 0 1 (by decide)) 0 0 (Nat.le_of_ble_eq_true rfl) (Nat.le_of_ble_eq_true rfl)) (fun r85 h84 q83 => ?_) (fun E h1 q => q.elim)
      obtain ⟨e86, he87, hs88, hr89, hc90⟩ := q83
      obtain ⟨rz91, tz92⟩ := hc90.1 rfl
      have th93 : tw_th (h84 x) = 0 := by rw [he87, tw_up_s]; exact tz92
      have sp94 : tw_sp d τ h g τ h84 := by rw [he87]; exact sp0.set kx (by decide) hs88
      rw [rz91]
      have oq95 : h84 o = h o := by rw [he87, tw_up_n (tw_nk ko kx (by decide))] <;> exact oq0
      refine tw_if_ne 78 dX10_send_26 (by decide) (fun c96 => absurd (by decide) c96) (fun _ => ?_)
      refine tw_aload_n 0 dX10_send_29 rfl rfl ?_
      refine tw_aload_n 0 dX10_send_30 rfl rfl ?_
      obtain ⟨e97, f98, th_99, td_100, ds_101, fr_102, ca_103, us_104, wo_105, cm_106, lc_107, lh_108, ld_109, rfl, k110, k111, k112, k113, k114, k115, k116, k117, k118, k119, k120, k121, k122, k123, k124, k125, k126, k127, k128, k129, k130, k131⟩ := sp94.1 x 36 kx (by decide)
      refine tw_get (v := .ref lh_108) rfl in_14 10 dX10_send_31 w_1161 rfl (by decide) f98 rfl ?_
      refine tw_iload_n 1 dX10_send_34 rfl rfl ?_
      obtain ⟨e135, f136, ⟨el137, rfl, k138⟩, k139⟩ := sp94.1 lh_108 25 k117 (by decide)
      refine tw_br (tw_callV (M := mX10_send) (pc := 35) okJx4a65c_get_915e3 dX10_send_35 w_1292 rfl f136 [.int (nI jn)] [.ref x] rfl rfl ⟨by decide, by decide⟩ (Nat.le_of_ble_eq_true rfl) (c25_get d g τ h84 sp94.1 lh_108 k117 jn (by omega) (by omega)) 0 0 (Nat.le_of_ble_eq_true rfl) (Nat.le_of_ble_eq_true rfl)) (fun r142 h141 q140 => ?_) (fun E h1 q => q.elim)
      obtain ⟨q140e, q140k⟩ := q140
      rw [q140e]
      have el143 : tw_el h84 (g.2 13) jn = r142 := by rw [← k139]; exact q140k.2.symm
      have kl144 : τ (g.2 13) = 25 := by rw [← k139]; exact k117
      have id145 : g.2 (4096 + r142) = 960 + 32 * jn := by rw [← el143]; exact tw_eli25 sp94.1 kl144 (by omega)
      obtain ⟨e146, f147, x_148, y_149, dy_150, p_151, rfl, k152, k153, k154, k155⟩ := sp94.1 r142 23 q140k.1 (by decide)
      obtain ⟨j156, ow157, fd9, fa9, ft9, lp158⟩ := k155
      obtain rfl : jn = j156 := by have z := ow157.b id145; omega
      subst fd9 fa9 ft9
      refine tw_castS (ci := 13) rfl dX10_send_38 w_1332 f147 ?_
      refine tw_get (v := .int (g.1 (960 + 32 * jn + 1))) rfl in_13 0 dX10_send_41 w_1338 rfl (by decide) f147 rfl ?_
      refine tw_iconst (v := -1) dX10_send_44 (by decide) ?_
      refine tw_icmp_eq 66 dX10_send_45 (by decide) (fun c159 => ?_) (fun c159 => ?_)
      · have lc9 : ¬ tw_MS g jn (nI jc) := fun z => z.1 c159
        refine tw_iconst (v := 1) dX10_send_66 (by decide) ?_
        refine tw_goto 71 dX10_send_67 (by decide) ?_
        refine tw_iconst (v := 2) dX10_send_71 (by decide) ?_
        refine tw_bi (tw_callV (M := mX10_send) (pc := 72) okX10_refuse dX10_send_72 w_1200 rfl f98 [.int 1, .int 2] [] rfl rfl ⟨by decide, by decide⟩ (Nat.le_of_ble_eq_true rfl) (c_X10_refuse d g τ h84 sp94.1 x kx 1 2 (by decide)) 0 0 (Nat.le_of_ble_eq_true rfl) (Nat.le_of_ble_eq_true rfl)) (fun r165 h164 q163 => ?_) (fun E h1 q => q.elim)
        obtain ⟨e166, he167, hs168, hr169, hc170⟩ := q163
        obtain ⟨rz171, tz172⟩ := (hc170 th93).2 rfl
        have th173 : tw_th (h164 x) = 2 := by rw [he167, tw_up_s]; exact tz172
        have sp174 : tw_sp d τ h g τ h164 := by rw [he167]; exact sp94.set kx (by decide) hs168
        rw [rz171]
        have oq175 : h164 o = h o := by rw [he167, tw_up_n (tw_nk ko kx (by decide))] <;> exact oq95
        refine tw_if_eq 80 dX10_send_75 (by decide) (fun c176 => absurd c176 (by decide)) (fun _ => ?_)
        refine tw_iconst (v := 0) dX10_send_78 (by decide) ?_
        exact tw_iret dX10_send_79 rfl (Or.inl ⟨_, rfl, _, _, sp174, oq175, Or.inr (Or.inl ⟨ix0, (by (try rw [cDn]); (try rw [cDc]); first | done | exact lc9), th173, rfl⟩)⟩)
      · refine tw_aload_n 0 dX10_send_48 rfl rfl ?_
        refine tw_get (v := .ref lh_108) rfl in_14 10 dX10_send_49 w_1161 rfl (by decide) f98 rfl ?_
        refine tw_iload_n 1 dX10_send_52 rfl rfl ?_
        refine tw_br (tw_callV (M := mX10_send) (pc := 53) okJx4a65c_get_915e3 dX10_send_53 w_1292 rfl f136 [.int (nI jn)] [.ref x] rfl rfl ⟨by decide, by decide⟩ (Nat.le_of_ble_eq_true rfl) (c25_get d g τ h84 sp94.1 lh_108 k117 jn (by omega) (by omega)) 0 0 (Nat.le_of_ble_eq_true rfl) (Nat.le_of_ble_eq_true rfl)) (fun r182 h181 q180 => ?_) (fun E h1 q => q.elim)
        obtain ⟨q180e, q180k⟩ := q180
        rw [q180e]
        have q180ky : r182 = r142 := q180k.2.trans (by rw [k139]; exact el143)
        rw [q180ky]
        refine tw_castS (ci := 13) rfl dX10_send_56 w_1332 f147 ?_
        refine tw_get (v := .int (g.1 (960 + 32 * jn + 1))) rfl in_13 0 dX10_send_59 w_1338 rfl (by decide) f147 rfl ?_
        refine tw_iload_n 2 dX10_send_62 rfl rfl ?_
        refine tw_icmp_ne 70 dX10_send_63 (by decide) (fun c183 => ?_) (fun c183 => ?_)
        · have lc9 : tw_MS g jn (nI jc) := ⟨c159, c183⟩
          refine tw_iconst (v := 0) dX10_send_70 (by decide) ?_
          refine tw_iconst (v := 2) dX10_send_71 (by decide) ?_
          refine tw_bi (tw_callV (M := mX10_send) (pc := 72) okX10_refuse dX10_send_72 w_1200 rfl f98 [.int 0, .int 2] [] rfl rfl ⟨by decide, by decide⟩ (Nat.le_of_ble_eq_true rfl) (c_X10_refuse d g τ h84 sp94.1 x kx 0 2 (by decide)) 0 0 (Nat.le_of_ble_eq_true rfl) (Nat.le_of_ble_eq_true rfl)) (fun r189 h188 q187 => ?_) (fun E h1 q => q.elim)
          obtain ⟨e190, he191, hs192, hr193, hc194⟩ := q187
          obtain ⟨rz195, tz196⟩ := (hc194 th93).1 rfl
          have th197 : tw_th (h188 x) = 0 := by rw [he191, tw_up_s]; exact tz196
          have sp198 : tw_sp d τ h g τ h188 := by rw [he191]; exact sp94.set kx (by decide) hs192
          rw [rz195]
          have oq199 : h188 o = h o := by rw [he191, tw_up_n (tw_nk ko kx (by decide))] <;> exact oq95
          refine tw_if_eq 80 dX10_send_75 (by decide) (fun _ => ?_) (fun c200 => absurd (by decide) c200)
          refine tw_aload_n 0 dX10_send_80 rfl rfl ?_
          obtain ⟨e201, f202, th_203, td_204, ds_205, fr_206, ca_207, us_208, wo_209, cm_210, lc_211, lh_212, ld_213, rfl, k214, k215, k216, k217, k218, k219, k220, k221, k222, k223, k224, k225, k226, k227, k228, k229, k230, k231, k232, k233, k234, k235⟩ := sp198.1 x 36 kx (by decide)
          refine tw_get (v := .ref lh_212) rfl in_14 10 dX10_send_81 w_1161 rfl (by decide) f202 rfl ?_
          refine tw_iload_n 1 dX10_send_84 rfl rfl ?_
          obtain ⟨e239, f240, ⟨el241, rfl, k242⟩, k243⟩ := sp198.1 lh_212 25 k221 (by decide)
          refine tw_br (tw_callV (M := mX10_send) (pc := 85) okJx4a65c_get_915e3 dX10_send_85 w_1292 rfl f240 [.int (nI jn)] [] rfl rfl ⟨by decide, by decide⟩ (Nat.le_of_ble_eq_true rfl) (c25_get d g τ h188 sp198.1 lh_212 k221 jn (by omega) (by omega)) 0 0 (Nat.le_of_ble_eq_true rfl) (Nat.le_of_ble_eq_true rfl)) (fun r246 h245 q244 => ?_) (fun E h1 q => q.elim)
          obtain ⟨q244e, q244k⟩ := q244
          rw [q244e]
          have el247 : tw_el h188 (g.2 13) jn = r246 := by rw [← k243]; exact q244k.2.symm
          have kl248 : τ (g.2 13) = 25 := by rw [← k243]; exact k221
          have id249 : g.2 (4096 + r246) = 960 + 32 * jn := by rw [← el247]; exact tw_eli25 sp198.1 kl248 (by omega)
          obtain ⟨e250, f251, x_252, y_253, dy_254, p_255, rfl, k256, k257, k258, k259⟩ := sp198.1 r246 23 q244k.1 (by decide)
          obtain ⟨j260, ow261, fd9, fa9, ft9, lp262⟩ := k259
          obtain rfl : jn = j260 := by have z := ow261.b id249; omega
          subst fd9 fa9 ft9
          refine tw_castS (ci := 13) rfl dX10_send_88 w_1332 f251 ?_
          refine tw_astore_n [(3, .ref r246), (0, .ref x), (1, .int (nI jn)), (2, .int (nI jc))] dX10_send_91 rfl (by decide) rfl ?_
          refine tw_iconst (v := 0) dX10_send_92 (by decide) ?_
          refine tw_istore [(4, .int 0), (3, .ref r246), (0, .ref x), (1, .int (nI jn)), (2, .int (nI jc))] dX10_send_93 (by decide) rfl ?_
          refine tw_iload 0 dX10_send_95 rfl ?_
          refine tw_iconst (v := 2) dX10_send_97 (by decide) ?_
          refine tw_icmp_ge 159 dX10_send_98 (by decide) (fun c263 => absurd c263 (by decide)) (fun _ => ?_)
          refine tw_aload_n 1 dX10_send_101 rfl rfl ?_
          refine tw_get (v := .ref p_255) rfl in_13 3 dX10_send_102 w_1344 rfl (by decide) f251 rfl ?_
          refine tw_iload 0 dX10_send_105 rfl ?_
          obtain ⟨e264, f265, F266, rfl, ⟨b268, ow269, wv270⟩⟩ := sp198.1 p_255 31 k256 (by decide)
          obtain rfl : (960 + 32 * jn + 8) = b268 := (ow269.b lp262).symm
          have ev271 : F266 (0 : Int32).toNatClampNeg = (g.1 ((960 + 32 * jn + 8) + 0)).toInt64 := by rw [show (0 : Int32).toNatClampNeg = 0 by decide]; exact wv270 0 (by omega)
          refine tw_lald (v := (g.1 ((960 + 32 * jn + 8) + 0)).toInt64) dX10_send_107 f265 (vp_in_nI (n := 0) (by decide) (by decide)) ev271 ?_
          refine tw_aload_n 2 dX10_send_108 rfl rfl ?_
          refine tw_get (v := .ref fr_206) rfl in_14 4 dX10_send_109 w_1155 rfl (by decide) f202 rfl ?_
          refine tw_aload_n 1 dX10_send_112 rfl rfl ?_
          refine tw_get (v := .int (g.1 (960 + 32 * jn + 1))) rfl in_13 0 dX10_send_113 w_1338 rfl (by decide) f251 rfl ?_
          obtain ⟨j272, hj273, ej274⟩ := k257.resolve_left lc9.1
          rw [ej274]
          obtain ⟨e277, f278, F275, rfl, k276⟩ := sp198.1 fr_206 34 k215 (by decide)
          obtain ⟨q279, k280, k281, iq282⟩ := k276 ((nI j272)).toNatClampNeg (by rw [nI_clamp (by omega)]; omega)
          refine tw_aald (v := .ref q279) 8 rfl rfl dX10_send_116 f278 (vp_in_nI (by omega) (by decide)) (by rw [k280]; rfl) ?_
          have id283 : g.2 (4096 + q279) = 448 + 8 * j272 := by have z := iq282; rw [nI_clamp (by omega), k231] at z; exact z
          refine tw_iload_n 4 dX10_send_117 rfl rfl ?_
          obtain ⟨e284, f285, F286, rfl, ⟨b288, ow289, wv290⟩⟩ := sp198.1 q279 6 k281 (by decide)
          obtain rfl : b288 = (448 + 8 * j272) := ow289.b id283
          have ev291 : F286 ((nI jc)).toNatClampNeg = (g.1 ((448 + 8 * j272) + jc)) := by rw [nI_clamp (by omega)]; exact wv290 jc (by omega)
          refine tw_iald (v := (g.1 ((448 + 8 * j272) + jc))) dX10_send_118 f285 (vp_in_nI (by omega) (by decide)) ev291 ?_
          refine tw_i2l dX10_send_119 ?_
          refine tw_nml (fun v292 ev292 => ?_)
          refine tw_lmul dX10_send_120 ?_
          refine tw_nml (fun v293 ev293 => ?_)
          refine tw_ldc2 (v := 1000) dX10_send_121 w_1370 ?_
          have pA0 := he.p (j := jn) (k := 0) (by omega) (by decide)
          have pF0 := (hm j272 (by omega)).2.2 jc (by omega)
          have zA0 : (tw_DN (g.1 (960 + 32 * jn + 8 + 0))) * (tw_DN (g.1 (448 + 8 * j272 + jc))) ≤ 59000000 * 100 := tw_mul_lt (by omega) pF0.1
          have xa0 : g.1 ((960 + 32 * jn + 8) + 0) = nI (tw_DN (g.1 (960 + 32 * jn + 8 + 0))) := by (repeat (first | rw [tw_ad_ne (by omega)] | rw [tw_g1_ne (by omega)])); exact pA0.1
          have xc0 : (g.1 ((448 + 8 * j272) + jc)) = nI (tw_DN (g.1 (448 + 8 * j272 + jc))) := by (repeat (first | rw [tw_ad_ne (by omega)] | rw [tw_g1_ne (by omega)])); exact pF0.2
          have ue0 : v293 = tw_L ((tw_DN (g.1 (960 + 32 * jn + 8 + 0))) * (tw_DN (g.1 (448 + 8 * j272 + jc)))) := by rw [ev293, ev292, (congrArg Int32.toInt64 xa0).trans (tw_L_i (by omega)), (congrArg Int32.toInt64 xc0).trans (tw_L_i (by omega))]; exact tw_L_mul (a := (tw_DN (g.1 (960 + 32 * jn + 8 + 0)))) (b := (tw_DN (g.1 (448 + 8 * j272 + jc)))) (by omega) (by omega) (by omega)
          refine tw_bl (tw_callS (M := mX10_send) (pc := 124) okX10_up dX10_send_124 w_1371 [.long v293, .long 1000] [] rfl rfl ⟨by decide, by decide⟩ (Nat.le_of_ble_eq_true rfl) (c3_X10_up d g τ h188 sp198.1 v293 1000 ((tw_DN (g.1 (960 + 32 * jn + 8 + 0))) * (tw_DN (g.1 (448 + 8 * j272 + jc)))) 1000 ue0 rfl (by decide) (by omega)) 0 0 (Nat.le_of_ble_eq_true rfl) (Nat.le_of_ble_eq_true rfl)) (fun r296 h295 q294 => ?_) (fun E h1 q => q.elim)
          obtain ⟨q294e, q294v⟩ := q294
          rw [q294e]
          have fu0 : r296 = tw_L (tw_mf g jn jc 0) := by unfold tw_mf tw_up3; rw [tw_mP_e ej274 (by omega)]; exact q294v
          have fl0 : tw_mf g jn jc 0 ≤ (tw_DN (g.1 (960 + 32 * jn + 8 + 0))) := by unfold tw_mf; exact tw_up3_le (by rw [tw_mP_e ej274 (by omega)]; omega)
          refine tw_lstore [(5, .long r296), (4, .int 0), (3, .ref r246), (0, .ref x), (1, .int (nI jn)), (2, .int (nI jc))] dX10_send_127 (by decide) rfl ?_
          refine tw_aload_n 2 dX10_send_129 rfl rfl ?_
          refine tw_get (v := .ref p_255) rfl in_13 3 dX10_send_130 w_1344 rfl (by decide) f251 rfl ?_
          refine tw_iload 1 dX10_send_133 rfl ?_
          refine tw_dup2 dX10_send_135 rfl rfl ?_
          have ev297 : F266 (0 : Int32).toNatClampNeg = (g.1 ((960 + 32 * jn + 8) + 0)).toInt64 := by rw [show (0 : Int32).toNatClampNeg = 0 by decide]; exact wv270 0 (by omega)
          refine tw_lald (v := (g.1 ((960 + 32 * jn + 8) + 0)).toInt64) dX10_send_136 f265 (vp_in_nI (n := 0) (by decide) (by decide)) ev297 ?_
          refine tw_lload 0 dX10_send_137 rfl ?_
          refine tw_lsub dX10_send_139 ?_
          refine tw_nml (fun v298 ev298 => ?_)
          have ce299 : (g.1 ((960 + 32 * jn + 8) + 0)) = nI (tw_DN (g.1 ((960 + 32 * jn + 8) + 0))) := by (repeat (first | rw [tw_ad_ne (by omega)] | rw [tw_g1_ne (by omega)])); exact (he.p (j := jn) (k := 0) (by omega) (by omega)).1
          have cb300 : tw_DN (g.1 ((960 + 32 * jn + 8) + 0)) ≤ 59000000 := (he.p (j := jn) (k := 0) (by omega) (by omega)).2
          refine tw_last dX10_send_140 f265 (vp_in_nI (n := 0) (by decide) (by decide)) ?_
          rw [show (0 : Int32).toNatClampNeg = 0 by decide]
          obtain ⟨h301, eh301⟩ : ∃ z : tw_H, z = tw_up h188 p_255 (.inl (d.2 1, 2, .inr (.inl (vp_updL F266 0 v298)))) := ⟨_, rfl⟩
          rw [← eh301]
          have th302 : tw_th (h301 x) = 0 := by rw [eh301, tw_up_n (tw_nk kx k256 (by decide))] <;> exact th197
          have oq303 : h301 o = h o := by rw [eh301, tw_up_n (tw_nk ko k256 (by decide))] <;> exact oq199
          have sp304 : tw_sp d τ h (tw_ad g ((960 + 32 * jn + 8) + 0) (-nI (tw_mf g jn jc 0))) τ h301 := by rw [eh301]; exact sp198.wb k256 (by decide) ow269 ⟨_, rfl, tw_f31.up ow269 wv270 (ev298.trans (tw_l_sub ce299 fu0 (by omega) (by omega)))⟩ (fun q9 hq9 => tw_ad_ne (by omega)) rfl
          refine tw_aload_n 3 dX10_send_141 rfl rfl ?_
          obtain ⟨e305, f306, th_307, td_308, ds_309, fr_310, ca_311, us_312, wo_313, cm_314, lc_315, lh_316, ld_317, rfl, k318, k319, k320, k321, k322, k323, k324, k325, k326, k327, k328, k329, k330, k331, k332, k333, k334, k335, k336, k337, k338, k339⟩ := sp304.1 x 36 kx (by decide)
          refine tw_get (v := .ref ca_311) rfl in_14 5 dX10_send_142 w_1156 rfl (by decide) f306 rfl ?_
          refine tw_iload 1 dX10_send_145 rfl ?_
          refine tw_dup2 dX10_send_147 rfl rfl ?_
          obtain ⟨e340, f341, F342, rfl, ⟨b344, ow345, wv346⟩⟩ := sp304.1 ca_311 31 k320 (by decide)
          obtain rfl : 1344 = b344 := (ow345.b k336).symm
          have ev347 : F342 (0 : Int32).toNatClampNeg = ((tw_ad g ((960 + 32 * jn + 8) + 0) (-nI (tw_mf g jn jc 0))).1 (1344 + 0)).toInt64 := by rw [show (0 : Int32).toNatClampNeg = 0 by decide]; exact wv346 0 (by omega)
          refine tw_lald (v := ((tw_ad g ((960 + 32 * jn + 8) + 0) (-nI (tw_mf g jn jc 0))).1 (1344 + 0)).toInt64) dX10_send_148 f341 (vp_in_nI (n := 0) (by decide) (by decide)) ev347 ?_
          refine tw_lload 0 dX10_send_149 rfl ?_
          refine tw_ladd dX10_send_151 ?_
          refine tw_nml (fun v348 ev348 => ?_)
          have ce349 : ((tw_ad g ((960 + 32 * jn + 8) + 0) (-nI (tw_mf g jn jc 0))).1 (1344 + 0)) = nI (tw_DN (g.1 (1344 + 0))) := by (repeat (first | rw [tw_ad_ne (by omega)] | rw [tw_g1_ne (by omega)])); exact (he.s (s := 0) (k := 0) (by decide) (by omega)).1
          have cb350 : tw_DN (g.1 (1344 + 0)) ≤ 59000000 := (he.s (s := 0) (k := 0) (by decide) (by omega)).2
          refine tw_last dX10_send_152 f341 (vp_in_nI (n := 0) (by decide) (by decide)) ?_
          rw [show (0 : Int32).toNatClampNeg = 0 by decide]
          obtain ⟨h351, eh351⟩ : ∃ z : tw_H, z = tw_up h301 ca_311 (.inl (d.2 1, 2, .inr (.inl (vp_updL F342 0 v348)))) := ⟨_, rfl⟩
          rw [← eh351]
          have th352 : tw_th (h351 x) = 0 := by rw [eh351, tw_up_n (tw_nk kx k320 (by decide))] <;> exact th302
          have oq353 : h351 o = h o := by rw [eh351, tw_up_n (tw_nk ko k320 (by decide))] <;> exact oq303
          have sp354 : tw_sp d τ h (tw_ad (tw_ad g ((960 + 32 * jn + 8) + 0) (-nI (tw_mf g jn jc 0))) (1344 + 0) (nI (tw_mf g jn jc 0))) τ h351 := by rw [eh351]; exact sp304.wb k320 (by decide) ow345 ⟨_, rfl, tw_f31.up ow345 wv346 (ev348.trans (tw_l_add ce349 fu0 (by omega)))⟩ (fun q9 hq9 => tw_ad_ne (by omega)) rfl
          refine tw_iinc [(4, .int 1), (5, .long r296), (3, .ref r246), (0, .ref x), (1, .int (nI jn)), (2, .int (nI jc))] 1 dX10_send_153 rfl (by decide) (by decide) rfl ?_
          refine tw_goto 95 dX10_send_156 (by decide) ?_
          refine tw_iload 0 dX10_send_95 rfl ?_
          refine tw_iconst (v := 2) dX10_send_97 (by decide) ?_
          refine tw_icmp_ge 159 dX10_send_98 (by decide) (fun c355 => absurd c355 (by decide)) (fun _ => ?_)
          refine tw_aload_n 2 dX10_send_101 rfl rfl ?_
          obtain ⟨e356, f357, x_358, y_359, dy_360, p_361, rfl, k362, k363, k364, k365⟩ := sp354.1 r246 23 q244k.1 (by decide)
          obtain ⟨j366, ow367, fd9, fa9, ft9, lp368⟩ := k365
          obtain rfl : jn = j366 := by have z := ow367.b id249; omega
          subst fd9 fa9 ft9
          refine tw_get (v := .ref p_361) rfl in_13 3 dX10_send_102 w_1344 rfl (by decide) f357 rfl ?_
          refine tw_iload 0 dX10_send_105 rfl ?_
          obtain ⟨e369, f370, F371, rfl, ⟨b373, ow374, wv375⟩⟩ := sp354.1 p_361 31 k362 (by decide)
          obtain rfl : (960 + 32 * jn + 8) = b373 := (ow374.b lp368).symm
          have ev376 : F371 (1 : Int32).toNatClampNeg = ((tw_ad (tw_ad g ((960 + 32 * jn + 8) + 0) (-nI (tw_mf g jn jc 0))) (1344 + 0) (nI (tw_mf g jn jc 0))).1 ((960 + 32 * jn + 8) + 1)).toInt64 := by rw [show (1 : Int32).toNatClampNeg = 1 by decide]; exact wv375 1 (by omega)
          refine tw_lald (v := ((tw_ad (tw_ad g ((960 + 32 * jn + 8) + 0) (-nI (tw_mf g jn jc 0))) (1344 + 0) (nI (tw_mf g jn jc 0))).1 ((960 + 32 * jn + 8) + 1)).toInt64) dX10_send_107 f370 (vp_in_nI (n := 1) (by decide) (by decide)) ev376 ?_
          refine tw_aload_n 3 dX10_send_108 rfl rfl ?_
          obtain ⟨e377, f378, th_379, td_380, ds_381, fr_382, ca_383, us_384, wo_385, cm_386, lc_387, lh_388, ld_389, rfl, k390, k391, k392, k393, k394, k395, k396, k397, k398, k399, k400, k401, k402, k403, k404, k405, k406, k407, k408, k409, k410, k411⟩ := sp354.1 x 36 kx (by decide)
          refine tw_get (v := .ref fr_382) rfl in_14 4 dX10_send_109 w_1155 rfl (by decide) f378 rfl ?_
          refine tw_aload_n 2 dX10_send_112 rfl rfl ?_
          refine tw_get (v := .int ((tw_ad (tw_ad g ((960 + 32 * jn + 8) + 0) (-nI (tw_mf g jn jc 0))) (1344 + 0) (nI (tw_mf g jn jc 0))).1 (960 + 32 * jn + 1))) rfl in_13 0 dX10_send_113 w_1338 rfl (by decide) f357 rfl ?_
          have ej412 : ((tw_ad (tw_ad g ((960 + 32 * jn + 8) + 0) (-nI (tw_mf g jn jc 0))) (1344 + 0) (nI (tw_mf g jn jc 0))).1 (960 + 32 * jn + 1)) = nI j272 := by (repeat (first | rw [tw_ad_ne (by omega)] | rw [tw_g1_ne (by omega)])); exact ej274
          rw [ej412]
          obtain ⟨e415, f416, F413, rfl, k414⟩ := sp354.1 fr_382 34 k391 (by decide)
          obtain ⟨q417, k418, k419, iq420⟩ := k414 ((nI j272)).toNatClampNeg (by rw [nI_clamp (by omega)]; omega)
          refine tw_aald (v := .ref q417) 8 rfl rfl dX10_send_116 f416 (vp_in_nI (by omega) (by decide)) (by rw [k418]; rfl) ?_
          have id421 : (tw_ad (tw_ad g ((960 + 32 * jn + 8) + 0) (-nI (tw_mf g jn jc 0))) (1344 + 0) (nI (tw_mf g jn jc 0))).2 (4096 + q417) = 448 + 8 * j272 := by have z := iq420; rw [nI_clamp (by omega), k407] at z; exact z
          refine tw_iload_n 5 dX10_send_117 rfl rfl ?_
          obtain ⟨e422, f423, F424, rfl, ⟨b426, ow427, wv428⟩⟩ := sp354.1 q417 6 k419 (by decide)
          obtain rfl : b426 = (448 + 8 * j272) := ow427.b id421
          have ev429 : F424 ((nI jc)).toNatClampNeg = ((tw_ad (tw_ad g ((960 + 32 * jn + 8) + 0) (-nI (tw_mf g jn jc 0))) (1344 + 0) (nI (tw_mf g jn jc 0))).1 ((448 + 8 * j272) + jc)) := by rw [nI_clamp (by omega)]; exact wv428 jc (by omega)
          refine tw_iald (v := ((tw_ad (tw_ad g ((960 + 32 * jn + 8) + 0) (-nI (tw_mf g jn jc 0))) (1344 + 0) (nI (tw_mf g jn jc 0))).1 ((448 + 8 * j272) + jc))) dX10_send_118 f423 (vp_in_nI (by omega) (by decide)) ev429 ?_
          refine tw_i2l dX10_send_119 ?_
          refine tw_nml (fun v430 ev430 => ?_)
          refine tw_lmul dX10_send_120 ?_
          refine tw_nml (fun v431 ev431 => ?_)
          refine tw_ldc2 (v := 1000) dX10_send_121 w_1370 ?_
          have pA1 := he.p (j := jn) (k := 1) (by omega) (by decide)
          have pF1 := (hm j272 (by omega)).2.2 jc (by omega)
          have zA1 : (tw_DN (g.1 (960 + 32 * jn + 8 + 1))) * (tw_DN (g.1 (448 + 8 * j272 + jc))) ≤ 59000000 * 100 := tw_mul_lt (by omega) pF1.1
          have xa1 : (tw_ad (tw_ad g ((960 + 32 * jn + 8) + 0) (-nI (tw_mf g jn jc 0))) (1344 + 0) (nI (tw_mf g jn jc 0))).1 ((960 + 32 * jn + 8) + 1) = nI (tw_DN (g.1 (960 + 32 * jn + 8 + 1))) := by (repeat (first | rw [tw_ad_ne (by omega)] | rw [tw_g1_ne (by omega)])); exact pA1.1
          have xc1 : ((tw_ad (tw_ad g ((960 + 32 * jn + 8) + 0) (-nI (tw_mf g jn jc 0))) (1344 + 0) (nI (tw_mf g jn jc 0))).1 ((448 + 8 * j272) + jc)) = nI (tw_DN (g.1 (448 + 8 * j272 + jc))) := by (repeat (first | rw [tw_ad_ne (by omega)] | rw [tw_g1_ne (by omega)])); exact pF1.2
          have ue1 : v431 = tw_L ((tw_DN (g.1 (960 + 32 * jn + 8 + 1))) * (tw_DN (g.1 (448 + 8 * j272 + jc)))) := by rw [ev431, ev430, (congrArg Int32.toInt64 xa1).trans (tw_L_i (by omega)), (congrArg Int32.toInt64 xc1).trans (tw_L_i (by omega))]; exact tw_L_mul (a := (tw_DN (g.1 (960 + 32 * jn + 8 + 1)))) (b := (tw_DN (g.1 (448 + 8 * j272 + jc)))) (by omega) (by omega) (by omega)
          refine tw_bl (tw_callS (M := mX10_send) (pc := 124) okX10_up dX10_send_124 w_1371 [.long v431, .long 1000] [] rfl rfl ⟨by decide, by decide⟩ (Nat.le_of_ble_eq_true rfl) (c3_X10_up d (tw_ad (tw_ad g ((960 + 32 * jn + 8) + 0) (-nI (tw_mf g jn jc 0))) (1344 + 0) (nI (tw_mf g jn jc 0))) τ h351 sp354.1 v431 1000 ((tw_DN (g.1 (960 + 32 * jn + 8 + 1))) * (tw_DN (g.1 (448 + 8 * j272 + jc)))) 1000 ue1 rfl (by decide) (by omega)) 0 0 (Nat.le_of_ble_eq_true rfl) (Nat.le_of_ble_eq_true rfl)) (fun r434 h433 q432 => ?_) (fun E h1 q => q.elim)
          obtain ⟨q432e, q432v⟩ := q432
          rw [q432e]
          have fu1 : r434 = tw_L (tw_mf g jn jc 1) := by unfold tw_mf tw_up3; rw [tw_mP_e ej274 (by omega)]; exact q432v
          have fl1 : tw_mf g jn jc 1 ≤ (tw_DN (g.1 (960 + 32 * jn + 8 + 1))) := by unfold tw_mf; exact tw_up3_le (by rw [tw_mP_e ej274 (by omega)]; omega)
          refine tw_lstore [(5, .long r434), (4, .int 1), (3, .ref r246), (0, .ref x), (1, .int (nI jn)), (2, .int (nI jc))] dX10_send_127 (by decide) rfl ?_
          refine tw_aload_n 2 dX10_send_129 rfl rfl ?_
          refine tw_get (v := .ref p_361) rfl in_13 3 dX10_send_130 w_1344 rfl (by decide) f357 rfl ?_
          refine tw_iload 1 dX10_send_133 rfl ?_
          refine tw_dup2 dX10_send_135 rfl rfl ?_
          have ev435 : F371 (1 : Int32).toNatClampNeg = ((tw_ad (tw_ad g ((960 + 32 * jn + 8) + 0) (-nI (tw_mf g jn jc 0))) (1344 + 0) (nI (tw_mf g jn jc 0))).1 ((960 + 32 * jn + 8) + 1)).toInt64 := by rw [show (1 : Int32).toNatClampNeg = 1 by decide]; exact wv375 1 (by omega)
          refine tw_lald (v := ((tw_ad (tw_ad g ((960 + 32 * jn + 8) + 0) (-nI (tw_mf g jn jc 0))) (1344 + 0) (nI (tw_mf g jn jc 0))).1 ((960 + 32 * jn + 8) + 1)).toInt64) dX10_send_136 f370 (vp_in_nI (n := 1) (by decide) (by decide)) ev435 ?_
          refine tw_lload 0 dX10_send_137 rfl ?_
          refine tw_lsub dX10_send_139 ?_
          refine tw_nml (fun v436 ev436 => ?_)
          have ce437 : ((tw_ad (tw_ad g ((960 + 32 * jn + 8) + 0) (-nI (tw_mf g jn jc 0))) (1344 + 0) (nI (tw_mf g jn jc 0))).1 ((960 + 32 * jn + 8) + 1)) = nI (tw_DN (g.1 ((960 + 32 * jn + 8) + 1))) := by (repeat (first | rw [tw_ad_ne (by omega)] | rw [tw_g1_ne (by omega)])); exact (he.p (j := jn) (k := 1) (by omega) (by omega)).1
          have cb438 : tw_DN (g.1 ((960 + 32 * jn + 8) + 1)) ≤ 59000000 := (he.p (j := jn) (k := 1) (by omega) (by omega)).2
          refine tw_last dX10_send_140 f370 (vp_in_nI (n := 1) (by decide) (by decide)) ?_
          rw [show (1 : Int32).toNatClampNeg = 1 by decide]
          obtain ⟨h439, eh439⟩ : ∃ z : tw_H, z = tw_up h351 p_361 (.inl (d.2 1, 2, .inr (.inl (vp_updL F371 1 v436)))) := ⟨_, rfl⟩
          rw [← eh439]
          have th440 : tw_th (h439 x) = 0 := by rw [eh439, tw_up_n (tw_nk kx k362 (by decide))] <;> exact th352
          have oq441 : h439 o = h o := by rw [eh439, tw_up_n (tw_nk ko k362 (by decide))] <;> exact oq353
          have sp442 : tw_sp d τ h (tw_ad (tw_ad (tw_ad g ((960 + 32 * jn + 8) + 0) (-nI (tw_mf g jn jc 0))) (1344 + 0) (nI (tw_mf g jn jc 0))) ((960 + 32 * jn + 8) + 1) (-nI (tw_mf g jn jc 1))) τ h439 := by rw [eh439]; exact sp354.wb k362 (by decide) ow374 ⟨_, rfl, tw_f31.up ow374 wv375 (ev436.trans (tw_l_sub ce437 fu1 (by omega) (by omega)))⟩ (fun q9 hq9 => tw_ad_ne (by omega)) rfl
          refine tw_aload_n 3 dX10_send_141 rfl rfl ?_
          obtain ⟨e443, f444, th_445, td_446, ds_447, fr_448, ca_449, us_450, wo_451, cm_452, lc_453, lh_454, ld_455, rfl, k456, k457, k458, k459, k460, k461, k462, k463, k464, k465, k466, k467, k468, k469, k470, k471, k472, k473, k474, k475, k476, k477⟩ := sp442.1 x 36 kx (by decide)
          refine tw_get (v := .ref ca_449) rfl in_14 5 dX10_send_142 w_1156 rfl (by decide) f444 rfl ?_
          refine tw_iload 1 dX10_send_145 rfl ?_
          refine tw_dup2 dX10_send_147 rfl rfl ?_
          obtain ⟨e478, f479, F480, rfl, ⟨b482, ow483, wv484⟩⟩ := sp442.1 ca_449 31 k458 (by decide)
          obtain rfl : 1344 = b482 := (ow483.b k474).symm
          have ev485 : F480 (1 : Int32).toNatClampNeg = ((tw_ad (tw_ad (tw_ad g ((960 + 32 * jn + 8) + 0) (-nI (tw_mf g jn jc 0))) (1344 + 0) (nI (tw_mf g jn jc 0))) ((960 + 32 * jn + 8) + 1) (-nI (tw_mf g jn jc 1))).1 (1344 + 1)).toInt64 := by rw [show (1 : Int32).toNatClampNeg = 1 by decide]; exact wv484 1 (by omega)
          refine tw_lald (v := ((tw_ad (tw_ad (tw_ad g ((960 + 32 * jn + 8) + 0) (-nI (tw_mf g jn jc 0))) (1344 + 0) (nI (tw_mf g jn jc 0))) ((960 + 32 * jn + 8) + 1) (-nI (tw_mf g jn jc 1))).1 (1344 + 1)).toInt64) dX10_send_148 f479 (vp_in_nI (n := 1) (by decide) (by decide)) ev485 ?_
          refine tw_lload 0 dX10_send_149 rfl ?_
          refine tw_ladd dX10_send_151 ?_
          refine tw_nml (fun v486 ev486 => ?_)
          have ce487 : ((tw_ad (tw_ad (tw_ad g ((960 + 32 * jn + 8) + 0) (-nI (tw_mf g jn jc 0))) (1344 + 0) (nI (tw_mf g jn jc 0))) ((960 + 32 * jn + 8) + 1) (-nI (tw_mf g jn jc 1))).1 (1344 + 1)) = nI (tw_DN (g.1 (1344 + 1))) := by (repeat (first | rw [tw_ad_ne (by omega)] | rw [tw_g1_ne (by omega)])); exact (he.s (s := 0) (k := 1) (by decide) (by omega)).1
          have cb488 : tw_DN (g.1 (1344 + 1)) ≤ 59000000 := (he.s (s := 0) (k := 1) (by decide) (by omega)).2
          refine tw_last dX10_send_152 f479 (vp_in_nI (n := 1) (by decide) (by decide)) ?_
          rw [show (1 : Int32).toNatClampNeg = 1 by decide]
          obtain ⟨h489, eh489⟩ : ∃ z : tw_H, z = tw_up h439 ca_449 (.inl (d.2 1, 2, .inr (.inl (vp_updL F480 1 v486)))) := ⟨_, rfl⟩
          rw [← eh489]
          have th490 : tw_th (h489 x) = 0 := by rw [eh489, tw_up_n (tw_nk kx k458 (by decide))] <;> exact th440
          have oq491 : h489 o = h o := by rw [eh489, tw_up_n (tw_nk ko k458 (by decide))] <;> exact oq441
          have sp492 : tw_sp d τ h (tw_ad (tw_ad (tw_ad (tw_ad g ((960 + 32 * jn + 8) + 0) (-nI (tw_mf g jn jc 0))) (1344 + 0) (nI (tw_mf g jn jc 0))) ((960 + 32 * jn + 8) + 1) (-nI (tw_mf g jn jc 1))) (1344 + 1) (nI (tw_mf g jn jc 1))) τ h489 := by rw [eh489]; exact sp442.wb k458 (by decide) ow483 ⟨_, rfl, tw_f31.up ow483 wv484 (ev486.trans (tw_l_add ce487 fu1 (by omega)))⟩ (fun q9 hq9 => tw_ad_ne (by omega)) rfl
          refine tw_iinc [(4, .int 2), (5, .long r434), (3, .ref r246), (0, .ref x), (1, .int (nI jn)), (2, .int (nI jc))] 1 dX10_send_153 rfl (by decide) (by decide) rfl ?_
          refine tw_goto 95 dX10_send_156 (by decide) ?_
          refine tw_iload 0 dX10_send_95 rfl ?_
          refine tw_iconst (v := 2) dX10_send_97 (by decide) ?_
          refine tw_icmp_ge 159 dX10_send_98 (by decide) (fun _ => ?_) (fun c493 => absurd (by decide) c493)
          refine tw_aload_n 2 dX10_send_159 rfl rfl ?_
          refine tw_aload_n 3 dX10_send_160 rfl rfl ?_
          obtain ⟨e494, f495, th_496, td_497, ds_498, fr_499, ca_500, us_501, wo_502, cm_503, lc_504, lh_505, ld_506, rfl, k507, k508, k509, k510, k511, k512, k513, k514, k515, k516, k517, k518, k519, k520, k521, k522, k523, k524, k525, k526, k527, k528⟩ := sp492.1 x 36 kx (by decide)
          refine tw_get (v := .int td_497) rfl in_14 1 dX10_send_161 w_1152 rfl (by decide) f495 rfl ?_
          refine tw_aload_n 3 dX10_send_164 rfl rfl ?_
          refine tw_get (v := .ref ds_498) rfl in_14 3 dX10_send_165 w_1154 rfl (by decide) f495 rfl ?_
          refine tw_aload_n 2 dX10_send_168 rfl rfl ?_
          obtain ⟨e529, f530, x_531, y_532, dy_533, p_534, rfl, k535, k536, k537, k538⟩ := sp492.1 r246 23 q244k.1 (by decide)
          obtain ⟨j539, ow540, fd9, fa9, ft9, lp541⟩ := k538
          obtain rfl : jn = j539 := by have z := ow540.b id249; omega
          subst fd9 fa9 ft9
          refine tw_get (v := .int ((tw_ad (tw_ad (tw_ad (tw_ad g ((960 + 32 * jn + 8) + 0) (-nI (tw_mf g jn jc 0))) (1344 + 0) (nI (tw_mf g jn jc 0))) ((960 + 32 * jn + 8) + 1) (-nI (tw_mf g jn jc 1))) (1344 + 1) (nI (tw_mf g jn jc 1))).1 (960 + 32 * jn + 1))) rfl in_13 0 dX10_send_169 w_1338 rfl (by decide) f530 rfl ?_
          have ej542 : ((tw_ad (tw_ad (tw_ad (tw_ad g ((960 + 32 * jn + 8) + 0) (-nI (tw_mf g jn jc 0))) (1344 + 0) (nI (tw_mf g jn jc 0))) ((960 + 32 * jn + 8) + 1) (-nI (tw_mf g jn jc 1))) (1344 + 1) (nI (tw_mf g jn jc 1))).1 (960 + 32 * jn + 1)) = nI j272 := by (repeat (first | rw [tw_ad_ne (by omega)] | rw [tw_g1_ne (by omega)])); exact ej274
          rw [ej542]
          obtain ⟨e545, f546, F543, rfl, k544⟩ := sp492.1 ds_498 34 k507 (by decide)
          obtain ⟨q547, k548, k549, iq550⟩ := k544 ((nI j272)).toNatClampNeg (by rw [nI_clamp (by omega)]; omega)
          refine tw_aald (v := .ref q547) 8 rfl rfl dX10_send_172 f546 (vp_in_nI (by omega) (by decide)) (by rw [k548]; rfl) ?_
          have id551 : (tw_ad (tw_ad (tw_ad (tw_ad g ((960 + 32 * jn + 8) + 0) (-nI (tw_mf g jn jc 0))) (1344 + 0) (nI (tw_mf g jn jc 0))) ((960 + 32 * jn + 8) + 1) (-nI (tw_mf g jn jc 1))) (1344 + 1) (nI (tw_mf g jn jc 1))).2 (4096 + q547) = 416 + 8 * j272 := by have z := iq550; rw [nI_clamp (by omega), k523] at z; exact z
          refine tw_iload_n 5 dX10_send_173 rfl rfl ?_
          obtain ⟨e552, f553, F554, rfl, ⟨b556, ow557, wv558⟩⟩ := sp492.1 q547 6 k549 (by decide)
          obtain rfl : b556 = (416 + 8 * j272) := ow557.b id551
          have ev559 : F554 ((nI jc)).toNatClampNeg = ((tw_ad (tw_ad (tw_ad (tw_ad g ((960 + 32 * jn + 8) + 0) (-nI (tw_mf g jn jc 0))) (1344 + 0) (nI (tw_mf g jn jc 0))) ((960 + 32 * jn + 8) + 1) (-nI (tw_mf g jn jc 1))) (1344 + 1) (nI (tw_mf g jn jc 1))).1 ((416 + 8 * j272) + jc)) := by rw [nI_clamp (by omega)]; exact wv558 jc (by omega)
          refine tw_iald (v := ((tw_ad (tw_ad (tw_ad (tw_ad g ((960 + 32 * jn + 8) + 0) (-nI (tw_mf g jn jc 0))) (1344 + 0) (nI (tw_mf g jn jc 0))) ((960 + 32 * jn + 8) + 1) (-nI (tw_mf g jn jc 1))) (1344 + 1) (nI (tw_mf g jn jc 1))).1 ((416 + 8 * j272) + jc))) dX10_send_174 f553 (vp_in_nI (by omega) (by decide)) ev559 ?_
          refine tw_iadd dX10_send_175 ?_
          refine tw_nmi (fun v560 ev560 => ?_)
          have md9 : v560 = tw_mD g jn jc := by rw [ev560]; unfold tw_mD; rw [tw_mP_e ej274 (by omega)]; (repeat (first | rw [tw_ad_ne (by omega)] | rw [tw_g1_ne (by omega)])); rw [k521]; first | done | rfl
          subst md9
          refine tw_put rfl in_13 tyX9 tyX9_ok nmX9 2 dX10_send_176 w_1342 rfl (by decide) f530 rfl rfl rfl rfl (Nat.le_of_ble_eq_true rfl) [.int ((tw_ad (tw_ad (tw_ad (tw_ad g ((960 + 32 * jn + 8) + 0) (-nI (tw_mf g jn jc 0))) (1344 + 0) (nI (tw_mf g jn jc 0))) ((960 + 32 * jn + 8) + 1) (-nI (tw_mf g jn jc 1))) (1344 + 1) (nI (tw_mf g jn jc 1))).1 (960 + 32 * jn + 1)), .int ((tw_ad (tw_ad (tw_ad (tw_ad g ((960 + 32 * jn + 8) + 0) (-nI (tw_mf g jn jc 0))) (1344 + 0) (nI (tw_mf g jn jc 0))) ((960 + 32 * jn + 8) + 1) (-nI (tw_mf g jn jc 1))) (1344 + 1) (nI (tw_mf g jn jc 1))).1 (960 + 32 * jn + 2)), .int (tw_mD g jn jc), .ref p_534] rfl ?_
          obtain ⟨h561, eh561⟩ : ∃ z : tw_H, z = tw_up h489 r246 (.inr (13, [.int ((tw_ad (tw_ad (tw_ad (tw_ad g ((960 + 32 * jn + 8) + 0) (-nI (tw_mf g jn jc 0))) (1344 + 0) (nI (tw_mf g jn jc 0))) ((960 + 32 * jn + 8) + 1) (-nI (tw_mf g jn jc 1))) (1344 + 1) (nI (tw_mf g jn jc 1))).1 (960 + 32 * jn + 1)), .int ((tw_ad (tw_ad (tw_ad (tw_ad g ((960 + 32 * jn + 8) + 0) (-nI (tw_mf g jn jc 0))) (1344 + 0) (nI (tw_mf g jn jc 0))) ((960 + 32 * jn + 8) + 1) (-nI (tw_mf g jn jc 1))) (1344 + 1) (nI (tw_mf g jn jc 1))).1 (960 + 32 * jn + 2)), .int (tw_mD g jn jc), .ref p_534])) := ⟨_, rfl⟩
          rw [← eh561]
          have th562 : tw_th (h561 x) = 0 := by rw [eh561, tw_up_n (tw_nk kx q244k.1 (by decide))] <;> exact th490
          have oq563 : h561 o = h o := by rw [eh561, tw_up_n (tw_nk ko q244k.1 (by decide))] <;> exact oq491
          have sp564 : tw_sp d τ h (tw_g1 (tw_ad (tw_ad (tw_ad (tw_ad g ((960 + 32 * jn + 8) + 0) (-nI (tw_mf g jn jc 0))) (1344 + 0) (nI (tw_mf g jn jc 0))) ((960 + 32 * jn + 8) + 1) (-nI (tw_mf g jn jc 1))) (1344 + 1) (nI (tw_mf g jn jc 1))) (960 + 32 * jn + 0) (tw_mD g jn jc)) τ h561 := by rw [eh561]; exact sp492.wb q244k.1 (by decide) ow540 ⟨_, _, _, _, rfl, k535, k536, k537, jn, ow540, tw_g1_eq.symm, (tw_g1_ne (by omega)).symm, (tw_g1_ne (by omega)).symm, lp541⟩ (fun q9 hq9 => tw_g1_ne (by omega)) rfl
          refine tw_aload_n 2 dX10_send_179 rfl rfl ?_
          refine tw_iload_n 5 dX10_send_180 rfl rfl ?_
          obtain ⟨e565, f566, x_567, y_568, dy_569, p_570, rfl, k571, k572, k573, k574⟩ := sp564.1 r246 23 q244k.1 (by decide)
          obtain ⟨j575, ow576, fd9, fa9, ft9, lp577⟩ := k574
          obtain rfl : jn = j575 := by have z := ow576.b id249; omega
          subst fd9 fa9 ft9
          refine tw_put rfl in_13 tyX9 tyX9_ok nmX9 1 dX10_send_181 w_1340 rfl (by decide) f566 rfl rfl rfl rfl (Nat.le_of_ble_eq_true rfl) [.int ((tw_g1 (tw_ad (tw_ad (tw_ad (tw_ad g ((960 + 32 * jn + 8) + 0) (-nI (tw_mf g jn jc 0))) (1344 + 0) (nI (tw_mf g jn jc 0))) ((960 + 32 * jn + 8) + 1) (-nI (tw_mf g jn jc 1))) (1344 + 1) (nI (tw_mf g jn jc 1))) (960 + 32 * jn + 0) (tw_mD g jn jc)).1 (960 + 32 * jn + 1)), .int (nI jc), .int ((tw_g1 (tw_ad (tw_ad (tw_ad (tw_ad g ((960 + 32 * jn + 8) + 0) (-nI (tw_mf g jn jc 0))) (1344 + 0) (nI (tw_mf g jn jc 0))) ((960 + 32 * jn + 8) + 1) (-nI (tw_mf g jn jc 1))) (1344 + 1) (nI (tw_mf g jn jc 1))) (960 + 32 * jn + 0) (tw_mD g jn jc)).1 (960 + 32 * jn + 0)), .ref p_570] rfl ?_
          obtain ⟨h578, eh578⟩ : ∃ z : tw_H, z = tw_up h561 r246 (.inr (13, [.int ((tw_g1 (tw_ad (tw_ad (tw_ad (tw_ad g ((960 + 32 * jn + 8) + 0) (-nI (tw_mf g jn jc 0))) (1344 + 0) (nI (tw_mf g jn jc 0))) ((960 + 32 * jn + 8) + 1) (-nI (tw_mf g jn jc 1))) (1344 + 1) (nI (tw_mf g jn jc 1))) (960 + 32 * jn + 0) (tw_mD g jn jc)).1 (960 + 32 * jn + 1)), .int (nI jc), .int ((tw_g1 (tw_ad (tw_ad (tw_ad (tw_ad g ((960 + 32 * jn + 8) + 0) (-nI (tw_mf g jn jc 0))) (1344 + 0) (nI (tw_mf g jn jc 0))) ((960 + 32 * jn + 8) + 1) (-nI (tw_mf g jn jc 1))) (1344 + 1) (nI (tw_mf g jn jc 1))) (960 + 32 * jn + 0) (tw_mD g jn jc)).1 (960 + 32 * jn + 0)), .ref p_570])) := ⟨_, rfl⟩
          rw [← eh578]
          have th579 : tw_th (h578 x) = 0 := by rw [eh578, tw_up_n (tw_nk kx q244k.1 (by decide))] <;> exact th562
          have oq580 : h578 o = h o := by rw [eh578, tw_up_n (tw_nk ko q244k.1 (by decide))] <;> exact oq563
          have sp581 : tw_sp d τ h (tw_g1 (tw_g1 (tw_ad (tw_ad (tw_ad (tw_ad g ((960 + 32 * jn + 8) + 0) (-nI (tw_mf g jn jc 0))) (1344 + 0) (nI (tw_mf g jn jc 0))) ((960 + 32 * jn + 8) + 1) (-nI (tw_mf g jn jc 1))) (1344 + 1) (nI (tw_mf g jn jc 1))) (960 + 32 * jn + 0) (tw_mD g jn jc)) (960 + 32 * jn + 2) (nI jc)) τ h578 := by rw [eh578]; exact sp564.wb q244k.1 (by decide) ow576 ⟨_, _, _, _, rfl, k571, k572, (Or.inr ⟨jc, (show jc < g.2 3 by omega), rfl⟩), jn, ow576, (tw_g1_ne (by omega)).symm, (tw_g1_ne (by omega)).symm, tw_g1_eq.symm, lp577⟩ (fun q9 hq9 => tw_g1_ne (by omega)) rfl
          refine tw_aload_n 2 dX10_send_184 rfl rfl ?_
          refine tw_iconst (v := -1) dX10_send_185 (by decide) ?_
          obtain ⟨e582, f583, x_584, y_585, dy_586, p_587, rfl, k588, k589, k590, k591⟩ := sp581.1 r246 23 q244k.1 (by decide)
          obtain ⟨j592, ow593, fd9, fa9, ft9, lp594⟩ := k591
          obtain rfl : jn = j592 := by have z := ow593.b id249; omega
          subst fd9 fa9 ft9
          refine tw_put rfl in_13 tyX9 tyX9_ok nmX9 0 dX10_send_186 w_1338 rfl (by decide) f583 rfl rfl rfl rfl (Nat.le_of_ble_eq_true rfl) [.int (-1), .int ((tw_g1 (tw_g1 (tw_ad (tw_ad (tw_ad (tw_ad g ((960 + 32 * jn + 8) + 0) (-nI (tw_mf g jn jc 0))) (1344 + 0) (nI (tw_mf g jn jc 0))) ((960 + 32 * jn + 8) + 1) (-nI (tw_mf g jn jc 1))) (1344 + 1) (nI (tw_mf g jn jc 1))) (960 + 32 * jn + 0) (tw_mD g jn jc)) (960 + 32 * jn + 2) (nI jc)).1 (960 + 32 * jn + 2)), .int ((tw_g1 (tw_g1 (tw_ad (tw_ad (tw_ad (tw_ad g ((960 + 32 * jn + 8) + 0) (-nI (tw_mf g jn jc 0))) (1344 + 0) (nI (tw_mf g jn jc 0))) ((960 + 32 * jn + 8) + 1) (-nI (tw_mf g jn jc 1))) (1344 + 1) (nI (tw_mf g jn jc 1))) (960 + 32 * jn + 0) (tw_mD g jn jc)) (960 + 32 * jn + 2) (nI jc)).1 (960 + 32 * jn + 0)), .ref p_587] rfl ?_
          obtain ⟨h595, eh595⟩ : ∃ z : tw_H, z = tw_up h578 r246 (.inr (13, [.int (-1), .int ((tw_g1 (tw_g1 (tw_ad (tw_ad (tw_ad (tw_ad g ((960 + 32 * jn + 8) + 0) (-nI (tw_mf g jn jc 0))) (1344 + 0) (nI (tw_mf g jn jc 0))) ((960 + 32 * jn + 8) + 1) (-nI (tw_mf g jn jc 1))) (1344 + 1) (nI (tw_mf g jn jc 1))) (960 + 32 * jn + 0) (tw_mD g jn jc)) (960 + 32 * jn + 2) (nI jc)).1 (960 + 32 * jn + 2)), .int ((tw_g1 (tw_g1 (tw_ad (tw_ad (tw_ad (tw_ad g ((960 + 32 * jn + 8) + 0) (-nI (tw_mf g jn jc 0))) (1344 + 0) (nI (tw_mf g jn jc 0))) ((960 + 32 * jn + 8) + 1) (-nI (tw_mf g jn jc 1))) (1344 + 1) (nI (tw_mf g jn jc 1))) (960 + 32 * jn + 0) (tw_mD g jn jc)) (960 + 32 * jn + 2) (nI jc)).1 (960 + 32 * jn + 0)), .ref p_587])) := ⟨_, rfl⟩
          rw [← eh595]
          have th596 : tw_th (h595 x) = 0 := by rw [eh595, tw_up_n (tw_nk kx q244k.1 (by decide))] <;> exact th579
          have oq597 : h595 o = h o := by rw [eh595, tw_up_n (tw_nk ko q244k.1 (by decide))] <;> exact oq580
          have sp598 : tw_sp d τ h (tw_g1 (tw_g1 (tw_g1 (tw_ad (tw_ad (tw_ad (tw_ad g ((960 + 32 * jn + 8) + 0) (-nI (tw_mf g jn jc 0))) (1344 + 0) (nI (tw_mf g jn jc 0))) ((960 + 32 * jn + 8) + 1) (-nI (tw_mf g jn jc 1))) (1344 + 1) (nI (tw_mf g jn jc 1))) (960 + 32 * jn + 0) (tw_mD g jn jc)) (960 + 32 * jn + 2) (nI jc)) (960 + 32 * jn + 1) (-1)) τ h595 := by rw [eh595]; exact sp581.wb q244k.1 (by decide) ow593 ⟨_, _, _, _, rfl, k588, (Or.inl rfl), k590, jn, ow593, (tw_g1_ne (by omega)).symm, tw_g1_eq.symm, (tw_g1_ne (by omega)).symm, lp594⟩ (fun q9 hq9 => tw_g1_ne (by omega)) rfl
          refine tw_aload_n 2 dX10_send_189 rfl rfl ?_
          obtain ⟨e599, f600, x_601, y_602, dy_603, p_604, rfl, k605, k606, k607, k608⟩ := sp598.1 r246 23 q244k.1 (by decide)
          obtain ⟨j609, ow610, fd9, fa9, ft9, lp611⟩ := k608
          obtain rfl : jn = j609 := by have z := ow610.b id249; omega
          subst fd9 fa9 ft9
          refine tw_get (v := .int ((tw_g1 (tw_g1 (tw_g1 (tw_ad (tw_ad (tw_ad (tw_ad g ((960 + 32 * jn + 8) + 0) (-nI (tw_mf g jn jc 0))) (1344 + 0) (nI (tw_mf g jn jc 0))) ((960 + 32 * jn + 8) + 1) (-nI (tw_mf g jn jc 1))) (1344 + 1) (nI (tw_mf g jn jc 1))) (960 + 32 * jn + 0) (tw_mD g jn jc)) (960 + 32 * jn + 2) (nI jc)) (960 + 32 * jn + 1) (-1)).1 (960 + 32 * jn + 0))) rfl in_13 2 dX10_send_190 w_1342 rfl (by decide) f600 rfl ?_
          exact tw_iret dX10_send_193 rfl (Or.inl ⟨_, rfl, _, _, sp598, oq597, Or.inr (Or.inr (⟨ix0, (by (try rw [cDn]); (try rw [cDc]); first | done | exact lc9), (by (try rw [cDn]); (try rw [cDc]); first | done | exact (by (repeat (first | rw [tw_ad_ne (by omega)] | rw [tw_g1_ne (by omega)])); exact tw_g1_eq)), th596, (by (try rw [cDn]); (try rw [cDc]); first | done | exact (tw_g1_3 (by omega) (by omega) (by omega)))⟩))⟩)
        · have lc9 : ¬ tw_MS g jn (nI jc) := fun z => z.2 c183
          refine tw_iconst (v := 1) dX10_send_66 (by decide) ?_
          refine tw_goto 71 dX10_send_67 (by decide) ?_
          refine tw_iconst (v := 2) dX10_send_71 (by decide) ?_
          refine tw_bi (tw_callV (M := mX10_send) (pc := 72) okX10_refuse dX10_send_72 w_1200 rfl f98 [.int 1, .int 2] [] rfl rfl ⟨by decide, by decide⟩ (Nat.le_of_ble_eq_true rfl) (c_X10_refuse d g τ h84 sp94.1 x kx 1 2 (by decide)) 0 0 (Nat.le_of_ble_eq_true rfl) (Nat.le_of_ble_eq_true rfl)) (fun r617 h616 q615 => ?_) (fun E h1 q => q.elim)
          obtain ⟨e618, he619, hs620, hr621, hc622⟩ := q615
          obtain ⟨rz623, tz624⟩ := (hc622 th93).2 rfl
          have th625 : tw_th (h616 x) = 2 := by rw [he619, tw_up_s]; exact tz624
          have sp626 : tw_sp d τ h g τ h616 := by rw [he619]; exact sp94.set kx (by decide) hs620
          rw [rz623]
          have oq627 : h616 o = h o := by rw [he619, tw_up_n (tw_nk ko kx (by decide))] <;> exact oq95
          refine tw_if_eq 80 dX10_send_75 (by decide) (fun c628 => absurd c628 (by decide)) (fun _ => ?_)
          refine tw_iconst (v := 0) dX10_send_78 (by decide) ?_
          exact tw_iret dX10_send_79 rfl (Or.inl ⟨_, rfl, _, _, sp626, oq627, Or.inr (Or.inl ⟨ix0, (by (try rw [cDn]); (try rw [cDc]); first | done | exact lc9), th625, rfl⟩)⟩)

set_option maxHeartbeats 4000000 in
set_option maxRecDepth 100000 in
theorem c4_X10_due (d : tw_D) (g : tw_G) (τ : tw_K) (h : tw_H) (hw : tw_wt d g τ h) (x : Nat) (kx : τ x = 36) (y : Nat) (ky : τ y = 22) (j : Nat) (hj : j < g.2 5) (hj9 : j < 10) (hb : g.2 (4096 + y) = 1232 + 8 * j) (hp : g.1 (1232 + 8 * j + 2) = 0) (he : tw_MH g) : tw_Ct d mX10_due 0 0 [.ref x, .ref y] h (tw_qi (fun r h1 => h1 = h ∧ r = nI (tw_md g j)) tw_nx) := by
  refine tw_of (by decide +kernel) (Nat.le_of_ble_eq_true rfl) ?_
  show tw_W d mX10_due _ 0 [(0, .ref x), (1, .ref y)] [] h 0 0
  have sp0 := tw_sp.rf hw
  refine tw_aload_n 1 dX10_due_0 rfl rfl ?_
  obtain ⟨e1, f2, v_3, dy_4, pd_5, i_6, j_7, rfl, k8, k9, k10, k11⟩ := sp0.1 y 22 ky (by decide)
  obtain ⟨j12, ow13, fv9, fd9, fp9, ei14, ej15⟩ := k11
  obtain rfl : j = j12 := by have z := ow13.b hb; omega
  subst fv9 fd9 fp9
  refine tw_get (v := .int (g.1 (1232 + 8 * j + 2))) rfl in_12 4 dX10_due_1 w_1443 rfl (by decide) f2 rfl ?_
  refine tw_if_eq 11 dX10_due_4 (by decide) (fun _ => ?_) (fun c16 => absurd (hp) c16)
  refine tw_aload_n 1 dX10_due_11 rfl rfl ?_
  refine tw_get (v := .int (g.1 (1232 + 8 * j + 0))) rfl in_12 2 dX10_due_12 w_1441 rfl (by decide) f2 rfl ?_
  refine tw_aload_n 1 dX10_due_15 rfl rfl ?_
  refine tw_get (v := .int (g.1 (1232 + 8 * j + 0))) rfl in_12 2 dX10_due_16 w_1441 rfl (by decide) f2 rfl ?_
  refine tw_bipush (v := 100) dX10_due_19 (by decide) ?_
  refine tw_idiv dX10_due_21 (by decide) ?_
  refine tw_nmi (fun v17 ev17 => ?_)
  refine tw_iconst (v := 0) dX10_due_22 (by decide) ?_
  refine tw_aload_n 0 dX10_due_23 rfl rfl ?_
  obtain ⟨e18, f19, th_20, td_21, ds_22, fr_23, ca_24, us_25, wo_26, cm_27, lc_28, lh_29, ld_30, rfl, k31, k32, k33, k34, k35, k36, k37, k38, k39, k40, k41, k42, k43, k44, k45, k46, k47, k48, k49, k50, k51, k52⟩ := sp0.1 x 36 kx (by decide)
  refine tw_get (v := .int td_21) rfl in_14 1 dX10_due_24 w_1152 rfl (by decide) f19 rfl ?_
  refine tw_aload_n 1 dX10_due_27 rfl rfl ?_
  refine tw_get (v := .int (g.1 (1232 + 8 * j + 1))) rfl in_12 3 dX10_due_28 w_1442 rfl (by decide) f2 rfl ?_
  refine tw_isub dX10_due_31 ?_
  refine tw_nmi (fun v53 ev53 => ?_)
  refine tw_mmax dX10_due_32 w_1471 w_875 w_93 w_876 ⟨by decide, Nat.le_of_ble_eq_true rfl⟩ ?_
  refine tw_nmi (fun v54 ev54 => ?_)
  refine tw_bipush (v := 10) dX10_due_35 (by decide) ?_
  refine tw_idiv dX10_due_37 (by decide) ?_
  refine tw_nmi (fun v55 ev55 => ?_)
  refine tw_imul dX10_due_38 ?_
  refine tw_nmi (fun v56 ev56 => ?_)
  refine tw_iadd dX10_due_39 ?_
  refine tw_nmi (fun v57 ev57 => ?_)
  exact tw_iret dX10_due_40 rfl (Or.inl ⟨_, rfl, rfl, by obtain ⟨⟨V9, hV9, eV9⟩, ⟨D9, hD9, eD9⟩, -⟩ := he j hj; rw [ev57, ev56, ev17, ev55, ev54, ev53]; unfold tw_md; rw [show tw_DN (g.1 (1232 + 8 * j + 0)) = V9 from by rw [eV9]; exact nI_clamp (by omega), show tw_DN (g.1 (1232 + 8 * j + 1)) = D9 from by rw [eD9]; exact nI_clamp (by omega)]; exact tw_due3 eV9 eD9 k45 hV9 k46 hD9⟩)

set_option maxHeartbeats 4000000 in
set_option maxRecDepth 100000 in
theorem c4_X10_toPay (d : tw_D) (g : tw_G) (τ : tw_K) (h : tw_H) (hw : tw_wt d g τ h) (x : Nat) (kx : τ x = 36) (y : Nat) (ky : τ y = 22) (j : Nat) (hj : j < g.2 5) (hj9 : j < 10) (hb : g.2 (4096 + y) = 1232 + 8 * j) (k : Nat) (hk : k < 2) (hp : g.1 (1232 + 8 * j + 2) = 0) (hF : g.1 (960 + 32 * tw_eF g j + 1) ≠ -1) (he9 : tw_MH g) (hm : tw_EM g) (hT : g.2 22 ≤ 3000) : tw_Ct d mX10_toPay 0 0 [.ref x, .ref y, .int (nI k)] h (tw_ql (fun r h1 => h1 = h ∧ r = tw_L (tw_ms g j k)) tw_nx) := by
  rcases (show k = 0 ∨ k = 1 by omega) with rfl | rfl
  · skip
    refine tw_of (by decide +kernel) (Nat.le_of_ble_eq_true rfl) ?_
    show tw_W d mX10_toPay _ 0 [(0, .ref x), (1, .ref y), (2, .int (nI 0))] [] h 0 0
    have sp0 := tw_sp.rf hw
    have b9 := tw_b3 hw kx
    have b4 := tw_b4 hw kx
    refine tw_iload_n 2 dX10_toPay_0 rfl rfl ?_
    refine tw_iconst (v := 1) dX10_toPay_1 (by decide) ?_
    refine tw_icmp_ne 14 dX10_toPay_2 (by decide) (fun _ => ?_) (fun c1 => absurd c1 (by decide))
    refine tw_ldc2 (v := 10) dX10_toPay_14 w_1369 ?_
    refine tw_aload_n 0 dX10_toPay_17 rfl rfl ?_
    refine tw_aload_n 1 dX10_toPay_18 rfl rfl ?_
    obtain ⟨e2, f3, th_4, td_5, ds_6, fr_7, ca_8, us_9, wo_10, cm_11, lc_12, lh_13, ld_14, rfl, k15, k16, k17, k18, k19, k20, k21, k22, k23, k24, k25, k26, k27, k28, k29, k30, k31, k32, k33, k34, k35, k36⟩ := sp0.1 x 36 kx (by decide)
    refine tw_bi (tw_callV (M := mX10_toPay) (pc := 19) okX10_due dX10_toPay_19 w_1467 rfl f3 [.ref y] [.long 10] rfl rfl ⟨by decide, by decide⟩ (Nat.le_of_ble_eq_true rfl) (c4_X10_due d g τ h sp0.1 x kx y ky j hj (by omega) hb hp he9) 0 0 (Nat.le_of_ble_eq_true rfl) (Nat.le_of_ble_eq_true rfl)) (fun r39 h38 q37 => ?_) (fun E h1 q => q.elim)
    obtain ⟨q37e, q37v⟩ := q37
    rw [q37e]
    refine tw_i2l dX10_toPay_22 ?_
    refine tw_nml (fun v40 ev40 => ?_)
    refine tw_lmul dX10_toPay_23 ?_
    refine tw_nml (fun v41 ev41 => ?_)
    refine tw_aload_n 0 dX10_toPay_24 rfl rfl ?_
    refine tw_get (v := .ref lc_12) rfl in_14 9 dX10_toPay_25 w_1160 rfl (by decide) f3 rfl ?_
    refine tw_aload_n 0 dX10_toPay_28 rfl rfl ?_
    refine tw_get (v := .ref lh_13) rfl in_14 10 dX10_toPay_29 w_1161 rfl (by decide) f3 rfl ?_
    refine tw_aload_n 1 dX10_toPay_32 rfl rfl ?_
    obtain ⟨e42, f43, v_44, dy_45, pd_46, i_47, j_48, rfl, k49, k50, k51, k52⟩ := sp0.1 y 22 ky (by decide)
    obtain ⟨j53, ow54, fv9, fd9, fp9, ei55, ej56⟩ := k52
    obtain rfl : j = j53 := by have z := ow54.b hb; omega
    subst fv9 fd9 fp9
    refine tw_get (v := .int (nI i_47)) rfl in_12 0 dX10_toPay_33 w_1439 rfl (by decide) f43 rfl ?_
    obtain ⟨e57, f58, ⟨el59, rfl, k60⟩, k61⟩ := sp0.1 lh_13 25 k22 (by decide)
    refine tw_br (tw_callV (M := mX10_toPay) (pc := 36) okJx4a65c_get_915e3 dX10_toPay_36 w_1292 rfl f58 [.int (nI i_47)] [.ref lc_12, .long v41] rfl rfl ⟨by decide, by decide⟩ (Nat.le_of_ble_eq_true rfl) (c25_get d g τ h sp0.1 lh_13 k22 i_47 (by omega) (by omega)) 0 0 (Nat.le_of_ble_eq_true rfl) (Nat.le_of_ble_eq_true rfl)) (fun r64 h63 q62 => ?_) (fun E h1 q => q.elim)
    obtain ⟨q62e, q62k⟩ := q62
    rw [q62e]
    have el65 : tw_el h (g.2 13) i_47 = r64 := by rw [← k61]; exact q62k.2.symm
    have kl66 : τ (g.2 13) = 25 := by rw [← k61]; exact k22
    have id67 : g.2 (4096 + r64) = 960 + 32 * i_47 := by rw [← el65]; exact tw_eli25 sp0.1 kl66 (by omega)
    obtain ⟨e68, f69, x_70, y_71, dy_72, p_73, rfl, k74, k75, k76, k77⟩ := sp0.1 r64 23 q62k.1 (by decide)
    obtain ⟨j78, ow79, fd9, fa9, ft9, lp80⟩ := k77
    obtain rfl : i_47 = j78 := by have z := ow79.b id67; omega
    subst fd9 fa9 ft9
    refine tw_castS (ci := 13) rfl dX10_toPay_39 w_1332 f69 ?_
    refine tw_get (v := .int (g.1 (960 + 32 * i_47 + 1))) rfl in_13 0 dX10_toPay_42 w_1338 rfl (by decide) f69 rfl ?_
    have nf81 : ¬ (g.1 (960 + 32 * i_47 + 1)) = -1 := by have z := hF; unfold tw_eF at z; rw [tw_eN_e (c := 3) ei55 (by omega)] at z; exact z
    obtain ⟨j82, hj83, ej84⟩ := k75.resolve_left nf81
    rw [ej84]
    obtain ⟨e85, f86, ⟨el87, rfl, k88⟩, k89⟩ := sp0.1 lc_12 24 k21 (by decide)
    refine tw_br (tw_callV (M := mX10_toPay) (pc := 45) okJx4a65c_get_915e3 dX10_toPay_45 w_1292 rfl f86 [.int (nI j82)] [.long v41] rfl rfl ⟨by decide, by decide⟩ (Nat.le_of_ble_eq_true rfl) (c24_get d g τ h sp0.1 lc_12 k21 j82 (by omega) (by omega)) 0 0 (Nat.le_of_ble_eq_true rfl) (Nat.le_of_ble_eq_true rfl)) (fun r92 h91 q90 => ?_) (fun E h1 q => q.elim)
    obtain ⟨q90e, q90k⟩ := q90
    rw [q90e]
    have el93 : tw_el h (g.2 12) j82 = r92 := by rw [← k89]; exact q90k.2.symm
    have kl94 : τ (g.2 12) = 24 := by rw [← k89]; exact k21
    have id95 : g.2 (4096 + r92) = 480 + 64 * j82 := by rw [← el93]; exact tw_eli24 sp0.1 kl94 (by omega)
    obtain ⟨e96, f97, r_98, c_99, v_100, o_101, t_102, rfl, k103, k104, k105, k106, k107, k108⟩ := sp0.1 r92 21 q90k.1 (by decide)
    obtain ⟨j109, ow110, fr9, fc9, q111, q112, q113⟩ := k108
    obtain rfl : j82 = j109 := by have z := ow110.b id95; omega
    subst fr9 fc9
    refine tw_castS (ci := 11) rfl dX10_toPay_48 w_1208 f97 ?_
    refine tw_get (v := .int (g.1 (480 + 64 * j82))) rfl in_11 0 dX10_toPay_51 w_1214 rfl (by decide) f97 rfl ?_
    refine tw_i2l dX10_toPay_54 ?_
    refine tw_nml (fun v114 ev114 => ?_)
    have dl9 := tw_md_le he9 hj hT
    have E9 := hm j82 (by omega)
    have ua9 : v41 = tw_L (10 * tw_md g j) := by rw [ev41, ev40, q37v, tw_L_i (by omega)]; exact tw_L_mul (a := 10) (by decide) (by omega) (by omega)
    have ub9 : v114 = tw_L (tw_DN (g.1 (480 + 64 * j82))) := by rw [ev114, E9.1.2.2, tw_DN_nI (by omega)]; exact tw_L_i (by omega)
    refine tw_bl (tw_callS (M := mX10_toPay) (pc := 55) okX10_up dX10_toPay_55 w_1371 [.long v41, .long v114] [] rfl rfl ⟨by decide, by decide⟩ (Nat.le_of_ble_eq_true rfl) (c3_X10_up d g τ h sp0.1 v41 v114 (10 * tw_md g j) _ ua9 ub9 (by omega) (by omega)) 0 0 (Nat.le_of_ble_eq_true rfl) (Nat.le_of_ble_eq_true rfl)) (fun r117 h116 q115 => ?_) (fun E h1 q => q.elim)
    obtain ⟨q115e, q115v⟩ := q115
    rw [q115e]
    exact tw_lret dX10_toPay_58 rfl (Or.inl ⟨_, rfl, rfl, by unfold tw_ms tw_gf; rw [if_pos rfl, show tw_eF g j = _ from tw_eN_e (c := 3) ei55 (by omega), tw_mP_e ej84 (by omega), Nat.mul_comm]; exact q115v⟩)
  · skip
    refine tw_of (by decide +kernel) (Nat.le_of_ble_eq_true rfl) ?_
    show tw_W d mX10_toPay _ 0 [(0, .ref x), (1, .ref y), (2, .int (nI 1))] [] h 0 0
    have sp0 := tw_sp.rf hw
    have b9 := tw_b3 hw kx
    have b4 := tw_b4 hw kx
    refine tw_iload_n 2 dX10_toPay_0 rfl rfl ?_
    refine tw_iconst (v := 1) dX10_toPay_1 (by decide) ?_
    refine tw_icmp_ne 14 dX10_toPay_2 (by decide) (fun c1 => absurd (rfl) c1) (fun _ => ?_)
    refine tw_aload_n 0 dX10_toPay_5 rfl rfl ?_
    refine tw_aload_n 1 dX10_toPay_6 rfl rfl ?_
    obtain ⟨e2, f3, th_4, td_5, ds_6, fr_7, ca_8, us_9, wo_10, cm_11, lc_12, lh_13, ld_14, rfl, k15, k16, k17, k18, k19, k20, k21, k22, k23, k24, k25, k26, k27, k28, k29, k30, k31, k32, k33, k34, k35, k36⟩ := sp0.1 x 36 kx (by decide)
    refine tw_bi (tw_callV (M := mX10_toPay) (pc := 7) okX10_due dX10_toPay_7 w_1467 rfl f3 [.ref y] [] rfl rfl ⟨by decide, by decide⟩ (Nat.le_of_ble_eq_true rfl) (c4_X10_due d g τ h sp0.1 x kx y ky j hj (by omega) hb hp he9) 0 0 (Nat.le_of_ble_eq_true rfl) (Nat.le_of_ble_eq_true rfl)) (fun r39 h38 q37 => ?_) (fun E h1 q => q.elim)
    obtain ⟨q37e, q37v⟩ := q37
    rw [q37e]
    refine tw_i2l dX10_toPay_10 ?_
    refine tw_nml (fun v40 ev40 => ?_)
    refine tw_goto 58 dX10_toPay_11 (by decide) ?_
    exact tw_lret dX10_toPay_58 rfl (Or.inl ⟨_, rfl, rfl, by unfold tw_ms; rw [if_neg (by decide), ev40, q37v]; exact tw_L_i (by have z := tw_md_le he9 hj hT; omega)⟩)

set_option maxHeartbeats 4000000 in
set_option maxRecDepth 100000 in
theorem c4_X10_isNoPay (d : tw_D) (g : tw_G) (τ : tw_K) (h : tw_H) (hw : tw_wt d g τ h) (x : Nat) (kx : τ x = 36) (y : Nat) (ky : τ y = 22) (j : Nat) (hj : j < g.2 5) (hj9 : j < 10) (hb : g.2 (4096 + y) = 1232 + 8 * j) (k : Nat) (hk : k < 2) (he : tw_AM 59000000 g) (he9 : tw_MH g) (hm : tw_EM g) : tw_Ct d mX10_isNoPay 0 0 [.ref x, .ref y, .int (nI k)] h (tw_qi (fun r h1 => h1 = h ∧ (r = 1 ∧ ¬ tw_MT g j k ∨ r = 0 ∧ tw_MT g j k)) tw_nx) := by
  refine tw_of (by decide +kernel) (Nat.le_of_ble_eq_true rfl) ?_
  show tw_W d mX10_isNoPay _ 0 [(0, .ref x), (1, .ref y), (2, .int (nI k))] [] h 0 0
  have sp0 := tw_sp.rf hw
  have b9 := tw_b3 hw kx
  have b4 := tw_b4 hw kx
  refine tw_aload_n 0 dX10_isNoPay_0 rfl rfl ?_
  obtain ⟨e1, f2, th_3, td_4, ds_5, fr_6, ca_7, us_8, wo_9, cm_10, lc_11, lh_12, ld_13, rfl, k14, k15, k16, k17, k18, k19, k20, k21, k22, k23, k24, k25, k26, k27, k28, k29, k30, k31, k32, k33, k34, k35⟩ := sp0.1 x 36 kx (by decide)
  refine tw_get (v := .ref lh_12) rfl in_14 10 dX10_isNoPay_1 w_1161 rfl (by decide) f2 rfl ?_
  refine tw_aload_n 1 dX10_isNoPay_4 rfl rfl ?_
  obtain ⟨e36, f37, v_38, dy_39, pd_40, i_41, j_42, rfl, k43, k44, k45, k46⟩ := sp0.1 y 22 ky (by decide)
  obtain ⟨j47, ow48, fv9, fd9, fp9, ei49, ej50⟩ := k46
  obtain rfl : j = j47 := by have z := ow48.b hb; omega
  subst fv9 fd9 fp9
  refine tw_get (v := .int (nI i_41)) rfl in_12 0 dX10_isNoPay_5 w_1439 rfl (by decide) f37 rfl ?_
  obtain ⟨e51, f52, ⟨el53, rfl, k54⟩, k55⟩ := sp0.1 lh_12 25 k21 (by decide)
  refine tw_br (tw_callV (M := mX10_isNoPay) (pc := 8) okJx4a65c_get_915e3 dX10_isNoPay_8 w_1292 rfl f52 [.int (nI i_41)] [] rfl rfl ⟨by decide, by decide⟩ (Nat.le_of_ble_eq_true rfl) (c25_get d g τ h sp0.1 lh_12 k21 i_41 (by omega) (by omega)) 0 0 (Nat.le_of_ble_eq_true rfl) (Nat.le_of_ble_eq_true rfl)) (fun r58 h57 q56 => ?_) (fun E h1 q => q.elim)
  obtain ⟨q56e, q56k⟩ := q56
  rw [q56e]
  have el59 : tw_el h (g.2 13) i_41 = r58 := by rw [← k55]; exact q56k.2.symm
  have kl60 : τ (g.2 13) = 25 := by rw [← k55]; exact k21
  have id61 : g.2 (4096 + r58) = 960 + 32 * i_41 := by rw [← el59]; exact tw_eli25 sp0.1 kl60 (by omega)
  obtain ⟨e62, f63, x_64, y_65, dy_66, p_67, rfl, k68, k69, k70, k71⟩ := sp0.1 r58 23 q56k.1 (by decide)
  obtain ⟨j72, ow73, fd9, fa9, ft9, lp74⟩ := k71
  obtain rfl : i_41 = j72 := by have z := ow73.b id61; omega
  subst fd9 fa9 ft9
  refine tw_castS (ci := 13) rfl dX10_isNoPay_11 w_1332 f63 ?_
  refine tw_astore_n [(3, .ref r58), (0, .ref x), (1, .ref y), (2, .int (nI k))] dX10_isNoPay_14 rfl (by decide) rfl ?_
  refine tw_aload_n 2 dX10_isNoPay_15 rfl rfl ?_
  refine tw_get (v := .int (g.1 (1232 + 8 * j + 2))) rfl in_12 4 dX10_isNoPay_16 w_1443 rfl (by decide) f37 rfl ?_
  refine tw_if_ne 67 dX10_isNoPay_19 (by decide) (fun c75 => ?_) (fun c75 => ?_)
  · refine tw_iconst (v := 1) dX10_isNoPay_67 (by decide) ?_
    refine tw_goto 72 dX10_isNoPay_68 (by decide) ?_
    exact tw_zret dX10_isNoPay_72 rfl rfl (Or.inl ⟨_, rfl, rfl, Or.inl ⟨rfl, fun z => c75 z.1⟩⟩)
  · have l1 : g.1 (1232 + 8 * j + 2) = 0 := c75
    refine tw_aload_n 0 dX10_isNoPay_22 rfl rfl ?_
    refine tw_get (v := .int (g.1 (960 + 32 * i_41 + 1))) rfl in_13 0 dX10_isNoPay_23 w_1338 rfl (by decide) f63 rfl ?_
    refine tw_iconst (v := -1) dX10_isNoPay_26 (by decide) ?_
    refine tw_icmp_eq 67 dX10_isNoPay_27 (by decide) (fun c76 => ?_) (fun c76 => ?_)
    · have l2 : (g.1 (960 + 32 * tw_eF g j + 1) = -1) := by rw [show tw_eF g j = _ from tw_eN_e (c := 3) ei49 (by omega)]; exact c76
      refine tw_iconst (v := 1) dX10_isNoPay_67 (by decide) ?_
      refine tw_goto 72 dX10_isNoPay_68 (by decide) ?_
      exact tw_zret dX10_isNoPay_72 rfl rfl (Or.inl ⟨_, rfl, rfl, Or.inl ⟨rfl, fun z => z.2.1 l2⟩⟩)
    · have l2 : ¬ (g.1 (960 + 32 * tw_eF g j + 1) = -1) := by rw [show tw_eF g j = _ from tw_eN_e (c := 3) ei49 (by omega)]; exact c76
      refine tw_aload_n 1 dX10_isNoPay_30 rfl rfl ?_
      refine tw_get (v := .ref lh_12) rfl in_14 10 dX10_isNoPay_31 w_1161 rfl (by decide) f2 rfl ?_
      refine tw_aload_n 2 dX10_isNoPay_34 rfl rfl ?_
      refine tw_get (v := .int (nI j_42)) rfl in_12 1 dX10_isNoPay_35 w_1440 rfl (by decide) f37 rfl ?_
      refine tw_br (tw_callV (M := mX10_isNoPay) (pc := 38) okJx4a65c_get_915e3 dX10_isNoPay_38 w_1292 rfl f52 [.int (nI j_42)] [] rfl rfl ⟨by decide, by decide⟩ (Nat.le_of_ble_eq_true rfl) (c25_get d g τ h sp0.1 lh_12 k21 j_42 (by omega) (by omega)) 0 0 (Nat.le_of_ble_eq_true rfl) (Nat.le_of_ble_eq_true rfl)) (fun r79 h78 q77 => ?_) (fun E h1 q => q.elim)
      obtain ⟨q77e, q77k⟩ := q77
      rw [q77e]
      have el80 : tw_el h (g.2 13) j_42 = r79 := by rw [← k55]; exact q77k.2.symm
      have kl81 : τ (g.2 13) = 25 := by rw [← k55]; exact k21
      have id82 : g.2 (4096 + r79) = 960 + 32 * j_42 := by rw [← el80]; exact tw_eli25 sp0.1 kl81 (by omega)
      obtain ⟨e83, f84, x_85, y_86, dy_87, p_88, rfl, k89, k90, k91, k92⟩ := sp0.1 r79 23 q77k.1 (by decide)
      obtain ⟨j93, ow94, fd9, fa9, ft9, lp95⟩ := k92
      obtain rfl : j_42 = j93 := by have z := ow94.b id82; omega
      subst fd9 fa9 ft9
      refine tw_castS (ci := 13) rfl dX10_isNoPay_41 w_1332 f84 ?_
      refine tw_get (v := .int (g.1 (960 + 32 * j_42 + 1))) rfl in_13 0 dX10_isNoPay_44 w_1338 rfl (by decide) f84 rfl ?_
      refine tw_iconst (v := -1) dX10_isNoPay_47 (by decide) ?_
      refine tw_icmp_eq 67 dX10_isNoPay_48 (by decide) (fun c96 => ?_) (fun c96 => ?_)
      · have l3 : (g.1 (960 + 32 * tw_eT g j + 1) = -1) := by rw [show tw_eT g j = _ from tw_eN_e (c := 4) ej50 (by omega)]; exact c96
        refine tw_iconst (v := 1) dX10_isNoPay_67 (by decide) ?_
        refine tw_goto 72 dX10_isNoPay_68 (by decide) ?_
        exact tw_zret dX10_isNoPay_72 rfl rfl (Or.inl ⟨_, rfl, rfl, Or.inl ⟨rfl, fun z => z.2.2.1 l3⟩⟩)
      · have l3 : ¬ (g.1 (960 + 32 * tw_eT g j + 1) = -1) := by rw [show tw_eT g j = _ from tw_eN_e (c := 4) ej50 (by omega)]; exact c96
        refine tw_aload_n 0 dX10_isNoPay_51 rfl rfl ?_
        refine tw_get (v := .ref p_67) rfl in_13 3 dX10_isNoPay_52 w_1344 rfl (by decide) f63 rfl ?_
        refine tw_iload_n 3 dX10_isNoPay_55 rfl rfl ?_
        obtain ⟨e97, f98, F99, rfl, ⟨b101, ow102, wv103⟩⟩ := sp0.1 p_67 31 k68 (by decide)
        obtain rfl : (960 + 32 * i_41 + 8) = b101 := (ow102.b lp74).symm
        have ev104 : F99 ((nI k)).toNatClampNeg = (g.1 ((960 + 32 * i_41 + 8) + k)).toInt64 := by rw [nI_clamp (by omega)]; exact wv103 k (by omega)
        refine tw_lald (v := (g.1 ((960 + 32 * i_41 + 8) + k)).toInt64) dX10_isNoPay_56 f98 (vp_in_nI (by omega) (by decide)) ev104 ?_
        refine tw_aload_n 1 dX10_isNoPay_57 rfl rfl ?_
        refine tw_aload_n 2 dX10_isNoPay_58 rfl rfl ?_
        refine tw_iload_n 3 dX10_isNoPay_59 rfl rfl ?_
        have hT9 := k29
        refine tw_bl (tw_callV (M := mX10_isNoPay) (pc := 60) okX10_toPay dX10_isNoPay_60 w_1463 rfl f2 [.ref y, .int (nI k)] [.long ((g.1 ((960 + 32 * i_41 + 8) + k)).toInt64)] rfl rfl ⟨by decide, by decide⟩ (Nat.le_of_ble_eq_true rfl) (c4_X10_toPay d g τ h sp0.1 x kx y ky j hj (by omega) hb k hk l1 l2 he9 hm hT9) 0 0 (Nat.le_of_ble_eq_true rfl) (Nat.le_of_ble_eq_true rfl)) (fun r107 h106 q105 => ?_) (fun E h1 q => q.elim)
        obtain ⟨q105e, tp9⟩ := q105
        rw [q105e]
        refine tw_lcmp dX10_isNoPay_63 ?_
        refine tw_nmi (fun v108 ev108 => ?_)
        refine tw_if_ge 71 dX10_isNoPay_64 (by decide) (fun c109 => ?_) (fun c109 => ?_)
        · have fe9 : tw_eF g j = i_41 := tw_eN_e (c := 3) ei49 (by omega)
          have hv9 := he.p (j := i_41) (k := k) (by omega) hk
          have sl9 : tw_ms g j k < 2 ^ 63 := tw_ms_lt he9 hj hT9
          have cv9 := c109
          rw [ev108, tp9, show (g.1 (960 + 32 * i_41 + 8 + k)).toInt64 = tw_L (tw_DN (g.1 (960 + 32 * i_41 + 8 + k))) from by rw [hv9.1, tw_DN_nI (by omega)]; exact tw_L_i (by omega)] at cv9
          have l4 : (tw_ms g j k ≤ tw_DN (g.1 (960 + 32 * tw_eF g j + 8 + k))) := by rw [fe9]; exact (tw_cmp_ge (by omega) sl9).mp cv9
          refine tw_iconst (v := 0) dX10_isNoPay_71 (by decide) ?_
          exact tw_zret dX10_isNoPay_72 rfl rfl (Or.inl ⟨_, rfl, rfl, Or.inr ⟨rfl, l1, l2, l3, l4⟩⟩)
        · have fe9 : tw_eF g j = i_41 := tw_eN_e (c := 3) ei49 (by omega)
          have hv9 := he.p (j := i_41) (k := k) (by omega) hk
          have sl9 : tw_ms g j k < 2 ^ 63 := tw_ms_lt he9 hj hT9
          have cv9 := c109
          rw [ev108, tp9, show (g.1 (960 + 32 * i_41 + 8 + k)).toInt64 = tw_L (tw_DN (g.1 (960 + 32 * i_41 + 8 + k))) from by rw [hv9.1, tw_DN_nI (by omega)]; exact tw_L_i (by omega)] at cv9
          have l4 : ¬ (tw_ms g j k ≤ tw_DN (g.1 (960 + 32 * tw_eF g j + 8 + k))) := by rw [fe9]; exact fun y => cv9 ((tw_cmp_ge (by omega) sl9).mpr y)
          refine tw_iconst (v := 1) dX10_isNoPay_67 (by decide) ?_
          refine tw_goto 72 dX10_isNoPay_68 (by decide) ?_
          exact tw_zret dX10_isNoPay_72 rfl rfl (Or.inl ⟨_, rfl, rfl, Or.inl ⟨rfl, fun z => l4 z.2.2.2⟩⟩)

set_option maxHeartbeats 4000000 in
set_option maxRecDepth 100000 in
theorem c2_X10_settle (d : tw_D) (g : tw_G) (τ : tw_K) (h : tw_H) (hw : tw_wt d g τ h) (x : Nat) (kx : τ x = 36) (n : Int32) (m : Int32) (o : Nat) (ko : τ o = 12) (he : tw_AM 59000000 g) (he9 : tw_MH g) (hm : tw_EM g) : tw_Ct d mX10_settle 0 0 [.ref x, .int n, .int m] h (tw_qi (fun r9 h1 => ∃ g1 τ1, tw_sp d τ h g1 τ1 h1 ∧ h1 o = h o ∧ ((¬ (tw_ix (g.2 5) n) ∧ tw_th (h1 x) = 1 ∧ g1 = g) ∨ ((tw_ix (g.2 5) n) ∧ ¬ (tw_RM m) ∧ tw_th (h1 x) = 2 ∧ g1 = g) ∨ ((tw_ix (g.2 5) n) ∧ (tw_RM m) ∧ ¬ (tw_MT g (tw_DN n) (tw_DN m)) ∧ tw_th (h1 x) = 3 ∧ g1 = g) ∨ ((tw_ix (g.2 5) n) ∧ (tw_RM m) ∧ (tw_MT g (tw_DN n) (tw_DN m)) ∧ r9 = nI (tw_ms g (tw_DN n) (tw_DN m)) ∧ tw_th (h1 x) = 0 ∧ g1 = tw_g1 (tw_ad (tw_ad g (960 + 32 * tw_eF g (tw_DN n) + 8 + tw_DN m) (-nI (tw_ms g (tw_DN n) (tw_DN m)))) (960 + 32 * tw_eT g (tw_DN n) + 8 + tw_DN m) (nI (tw_ms g (tw_DN n) (tw_DN m)))) (1232 + 8 * tw_DN n + 2) 1))) tw_nx) := by
  refine tw_of (by decide +kernel) (Nat.le_of_ble_eq_true rfl) ?_
  show tw_W d mX10_settle _ 0 [(0, .ref x), (1, .int n), (2, .int m)] [] h 0 0
  have sp0 := tw_sp.rf hw
  have oq0 : h o = h o := rfl
  have b93 := tw_b3 hw kx
  refine tw_aload_n 0 dX10_settle_0 rfl rfl ?_
  refine tw_iload_n 1 dX10_settle_1 rfl rfl ?_
  refine tw_iconst (v := 0) dX10_settle_2 (by decide) ?_
  refine tw_aload_n 0 dX10_settle_3 rfl rfl ?_
  obtain ⟨e1, f2, th_3, td_4, ds_5, fr_6, ca_7, us_8, wo_9, cm_10, lc_11, lh_12, ld_13, rfl, k14, k15, k16, k17, k18, k19, k20, k21, k22, k23, k24, k25, k26, k27, k28, k29, k30, k31, k32, k33, k34, k35⟩ := sp0.1 x 36 kx (by decide)
  refine tw_get (v := .ref ld_13) rfl in_14 11 dX10_settle_4 w_1162 rfl (by decide) f2 rfl ?_
  obtain ⟨e39, f40, ⟨el41, rfl, k42⟩, k43⟩ := sp0.1 ld_13 26 k22 (by decide)
  refine tw_bi (tw_callV (M := mX10_settle) (pc := 7) okJx4a65c_size_8abf5 dX10_settle_7 w_1204 rfl f40 [] [.int 0, .int n, .ref x] rfl rfl ⟨by decide, by decide⟩ (Nat.le_of_ble_eq_true rfl) (c26_size d g τ h sp0.1 ld_13 k22) 0 0 (Nat.le_of_ble_eq_true rfl) (Nat.le_of_ble_eq_true rfl)) (fun r46 h45 q44 => ?_) (fun E h1 q => q.elim)
  obtain ⟨q44e, q44r⟩ := q44
  rw [q44e, q44r]
  refine tw_iconst (v := 1) dX10_settle_10 (by decide) ?_
  refine tw_isub dX10_settle_11 ?_
  refine tw_nmi (fun v47 ev47 => ?_)
  refine tw_bi (tw_callS (M := mX10_settle) (pc := 12) okX10_isIn dX10_settle_12 w_1192 [.int n, .int 0, .int v47] [.ref x] rfl rfl ⟨by decide, by decide⟩ (Nat.le_of_ble_eq_true rfl) (c_X10_isIn d g τ h sp0.1 n 0 v47) 0 0 (Nat.le_of_ble_eq_true rfl) (Nat.le_of_ble_eq_true rfl)) (fun r50 h49 q48 => ?_) (fun E h1 q => q.elim)
  obtain ⟨q48e, q48d⟩ := q48
  rw [q48e]
  rcases q48d with ⟨q48r, q48n⟩ | ⟨q48r, q48a, q48b⟩
  · rw [q48r]
    refine tw_if_ne 22 dX10_settle_15 (by decide) (fun c51 => absurd (by decide) c51) (fun _ => ?_)
    refine tw_iconst (v := 1) dX10_settle_18 (by decide) ?_
    refine tw_goto 23 dX10_settle_19 (by decide) ?_
    refine tw_iconst (v := 1) dX10_settle_23 (by decide) ?_
    refine tw_bi (tw_callV (M := mX10_settle) (pc := 24) okX10_start dX10_settle_24 w_1196 rfl f2 [.int 1, .int 1] [] rfl rfl ⟨by decide, by decide⟩ (Nat.le_of_ble_eq_true rfl) (c_X10_start d g τ h sp0.1 x kx 1 1 (by decide)) 0 0 (Nat.le_of_ble_eq_true rfl) (Nat.le_of_ble_eq_true rfl)) (fun r57 h56 q55 => ?_) (fun E h1 q => q.elim)
    obtain ⟨e58, he59, hs60, hr61, hc62⟩ := q55
    obtain ⟨rz63, tz64⟩ := hc62.2 rfl
    have th65 : tw_th (h56 x) = 1 := by rw [he59, tw_up_s]; exact tz64
    have sp66 : tw_sp d τ h g τ h56 := by rw [he59]; exact sp0.set kx (by decide) hs60
    rw [rz63]
    have oq67 : h56 o = h o := by rw [he59, tw_up_n (tw_nk ko kx (by decide))] <;> exact oq0
    refine tw_if_ne 66 dX10_settle_27 (by decide) (fun _ => ?_) (fun c68 => absurd c68 (by decide))
    refine tw_iconst (v := 0) dX10_settle_66 (by decide) ?_
    exact tw_iret dX10_settle_67 rfl (Or.inl ⟨_, rfl, _, _, sp66, oq67, Or.inl ⟨(tw_nsc q48n ev47 (by omega)), th65, rfl⟩⟩)
  · rw [q48r]
    have ix0 : tw_ix (g.2 5) n := tw_isc q48a q48b ev47 (by omega)
    obtain ⟨jn, hjn, en⟩ := id ix0
    subst en
    have cDn : tw_DN (nI jn) = jn := nI_clamp (by omega)
    refine tw_if_ne 22 dX10_settle_15 (by decide) (fun _ => ?_) (fun c69 => absurd c69 (by decide))
    refine tw_iconst (v := 0) dX10_settle_22 (by decide) ?_
    refine tw_iconst (v := 1) dX10_settle_23 (by decide) ?_
    refine tw_bi (tw_callV (M := mX10_settle) (pc := 24) okX10_start dX10_settle_24 w_1196 rfl f2 [.int 0, .int 1] [] rfl rfl ⟨by decide, by decide⟩ (Nat.le_of_ble_eq_true rfl) (c_X10_start d g τ h sp0.1 x kx 0 1 (by decide)) 0 0 (Nat.le_of_ble_eq_true rfl) (Nat.le_of_ble_eq_true rfl)) (fun r75 h74 q73 => ?_) (fun E h1 q => q.elim)
    obtain ⟨e76, he77, hs78, hr79, hc80⟩ := q73
    obtain ⟨rz81, tz82⟩ := hc80.1 rfl
    have th83 : tw_th (h74 x) = 0 := by rw [he77, tw_up_s]; exact tz82
    have sp84 : tw_sp d τ h g τ h74 := by rw [he77]; exact sp0.set kx (by decide) hs78
    rw [rz81]
    have oq85 : h74 o = h o := by rw [he77, tw_up_n (tw_nk ko kx (by decide))] <;> exact oq0
    refine tw_if_ne 66 dX10_settle_27 (by decide) (fun c86 => absurd (by decide) c86) (fun _ => ?_)
    refine tw_aload_n 0 dX10_settle_30 rfl rfl ?_
    refine tw_iload_n 2 dX10_settle_31 rfl rfl ?_
    refine tw_bi (tw_callS (M := mX10_settle) (pc := 32) okX10_isNoMetal dX10_settle_32 w_1308 [.int m] [.ref x] rfl rfl ⟨by decide, by decide⟩ (Nat.le_of_ble_eq_true rfl) (c2_X10_isNoMetal d g τ h74 sp84.1 m) 0 0 (Nat.le_of_ble_eq_true rfl) (Nat.le_of_ble_eq_true rfl)) (fun r89 h88 q87 => ?_) (fun E h1 q => q.elim)
    obtain ⟨q87e, q87d⟩ := q87
    rw [q87e]
    rcases q87d with ⟨q87r, q87n⟩ | ⟨q87r, q87i⟩
    · rw [q87r]
      refine tw_iconst (v := 2) dX10_settle_35 (by decide) ?_
      obtain ⟨e93, f94, th_95, td_96, ds_97, fr_98, ca_99, us_100, wo_101, cm_102, lc_103, lh_104, ld_105, rfl, k106, k107, k108, k109, k110, k111, k112, k113, k114, k115, k116, k117, k118, k119, k120, k121, k122, k123, k124, k125, k126, k127⟩ := sp84.1 x 36 kx (by decide)
      refine tw_bi (tw_callV (M := mX10_settle) (pc := 36) okX10_refuse dX10_settle_36 w_1200 rfl f94 [.int 1, .int 2] [] rfl rfl ⟨by decide, by decide⟩ (Nat.le_of_ble_eq_true rfl) (c_X10_refuse d g τ h74 sp84.1 x kx 1 2 (by decide)) 0 0 (Nat.le_of_ble_eq_true rfl) (Nat.le_of_ble_eq_true rfl)) (fun r130 h129 q128 => ?_) (fun E h1 q => q.elim)
      obtain ⟨e131, he132, hs133, hr134, hc135⟩ := q128
      obtain ⟨rz136, tz137⟩ := (hc135 th83).2 rfl
      have th138 : tw_th (h129 x) = 2 := by rw [he132, tw_up_s]; exact tz137
      have sp139 : tw_sp d τ h g τ h129 := by rw [he132]; exact sp84.set kx (by decide) hs133
      rw [rz136]
      have oq140 : h129 o = h o := by rw [he132, tw_up_n (tw_nk ko kx (by decide))] <;> exact oq85
      refine tw_if_ne 66 dX10_settle_39 (by decide) (fun _ => ?_) (fun c141 => absurd c141 (by decide))
      refine tw_iconst (v := 0) dX10_settle_66 (by decide) ?_
      exact tw_iret dX10_settle_67 rfl (Or.inl ⟨_, rfl, _, _, sp139, oq140, Or.inr (Or.inl ⟨ix0, q87n, th138, rfl⟩)⟩)
    · rw [q87r]
      have rcm := q87i
      obtain ⟨k, hk, km⟩ := q87i.k
      subst km
      have cDm : tw_DN (nI k) = k := nI_clamp (by omega)
      have rc9 := rcm
      refine tw_iconst (v := 2) dX10_settle_35 (by decide) ?_
      obtain ⟨e145, f146, th_147, td_148, ds_149, fr_150, ca_151, us_152, wo_153, cm_154, lc_155, lh_156, ld_157, rfl, k158, k159, k160, k161, k162, k163, k164, k165, k166, k167, k168, k169, k170, k171, k172, k173, k174, k175, k176, k177, k178, k179⟩ := sp84.1 x 36 kx (by decide)
      refine tw_bi (tw_callV (M := mX10_settle) (pc := 36) okX10_refuse dX10_settle_36 w_1200 rfl f146 [.int 0, .int 2] [] rfl rfl ⟨by decide, by decide⟩ (Nat.le_of_ble_eq_true rfl) (c_X10_refuse d g τ h74 sp84.1 x kx 0 2 (by decide)) 0 0 (Nat.le_of_ble_eq_true rfl) (Nat.le_of_ble_eq_true rfl)) (fun r182 h181 q180 => ?_) (fun E h1 q => q.elim)
      obtain ⟨e183, he184, hs185, hr186, hc187⟩ := q180
      obtain ⟨rz188, tz189⟩ := (hc187 th83).1 rfl
      have th190 : tw_th (h181 x) = 0 := by rw [he184, tw_up_s]; exact tz189
      have sp191 : tw_sp d τ h g τ h181 := by rw [he184]; exact sp84.set kx (by decide) hs185
      rw [rz188]
      have oq192 : h181 o = h o := by rw [he184, tw_up_n (tw_nk ko kx (by decide))] <;> exact oq85
      refine tw_if_ne 66 dX10_settle_39 (by decide) (fun c193 => absurd (by decide) c193) (fun _ => ?_)
      refine tw_aload_n 0 dX10_settle_42 rfl rfl ?_
      refine tw_aload_n 0 dX10_settle_43 rfl rfl ?_
      refine tw_aload_n 0 dX10_settle_44 rfl rfl ?_
      obtain ⟨e194, f195, th_196, td_197, ds_198, fr_199, ca_200, us_201, wo_202, cm_203, lc_204, lh_205, ld_206, rfl, k207, k208, k209, k210, k211, k212, k213, k214, k215, k216, k217, k218, k219, k220, k221, k222, k223, k224, k225, k226, k227, k228⟩ := sp191.1 x 36 kx (by decide)
      refine tw_get (v := .ref ld_206) rfl in_14 11 dX10_settle_45 w_1162 rfl (by decide) f195 rfl ?_
      refine tw_iload_n 1 dX10_settle_48 rfl rfl ?_
      obtain ⟨e232, f233, ⟨el234, rfl, k235⟩, k236⟩ := sp191.1 ld_206 26 k215 (by decide)
      refine tw_br (tw_callV (M := mX10_settle) (pc := 49) okJx4a65c_get_915e3 dX10_settle_49 w_1292 rfl f233 [.int (nI jn)] [.ref x, .ref x] rfl rfl ⟨by decide, by decide⟩ (Nat.le_of_ble_eq_true rfl) (c26_get d g τ h181 sp191.1 ld_206 k215 jn (by omega) (by omega)) 0 0 (Nat.le_of_ble_eq_true rfl) (Nat.le_of_ble_eq_true rfl)) (fun r239 h238 q237 => ?_) (fun E h1 q => q.elim)
      obtain ⟨q237e, q237k⟩ := q237
      rw [q237e]
      have el240 : tw_el h181 (g.2 14) jn = r239 := by rw [← k236]; exact q237k.2.symm
      have kl241 : τ (g.2 14) = 26 := by rw [← k236]; exact k215
      have id242 : g.2 (4096 + r239) = 1232 + 8 * jn := by rw [← el240]; exact tw_eli26 sp191.1 kl241 (by omega)
      obtain ⟨e243, f244, v_245, dy_246, pd_247, i_248, j_249, rfl, k250, k251, k252, k253⟩ := sp191.1 r239 22 q237k.1 (by decide)
      obtain ⟨j254, ow255, fv9, fd9, fp9, ei256, ej257⟩ := k253
      obtain rfl : jn = j254 := by have z := ow255.b id242; omega
      subst fv9 fd9 fp9
      refine tw_castS (ci := 12) rfl dX10_settle_52 w_1433 f244 ?_
      refine tw_iload_n 2 dX10_settle_55 rfl rfl ?_
      refine tw_bi (tw_callV (M := mX10_settle) (pc := 56) okX10_isNoPay dX10_settle_56 w_1459 rfl f195 [.ref r239, .int (nI k)] [.ref x] rfl rfl ⟨by decide, by decide⟩ (Nat.le_of_ble_eq_true rfl) (c4_X10_isNoPay d g τ h181 sp191.1 x kx r239 q237k.1 jn hjn (by omega) id242 k hk he he9 hm) 0 0 (Nat.le_of_ble_eq_true rfl) (Nat.le_of_ble_eq_true rfl)) (fun r260 h259 q258 => ?_) (fun E h1 q => q.elim)
      obtain ⟨q258e, q258d⟩ := q258
      rw [q258e]
      rcases q258d with ⟨q258r, lc9⟩ | ⟨q258r, lc9⟩
      · rw [q258r]
        refine tw_iconst (v := 3) dX10_settle_59 (by decide) ?_
        refine tw_bi (tw_callV (M := mX10_settle) (pc := 60) okX10_refuse dX10_settle_60 w_1200 rfl f195 [.int 1, .int 3] [] rfl rfl ⟨by decide, by decide⟩ (Nat.le_of_ble_eq_true rfl) (c_X10_refuse d g τ h181 sp191.1 x kx 1 3 (by decide)) 0 0 (Nat.le_of_ble_eq_true rfl) (Nat.le_of_ble_eq_true rfl)) (fun r266 h265 q264 => ?_) (fun E h1 q => q.elim)
        obtain ⟨e267, he268, hs269, hr270, hc271⟩ := q264
        obtain ⟨rz272, tz273⟩ := (hc271 th190).2 rfl
        have th274 : tw_th (h265 x) = 3 := by rw [he268, tw_up_s]; exact tz273
        have sp275 : tw_sp d τ h g τ h265 := by rw [he268]; exact sp191.set kx (by decide) hs269
        rw [rz272]
        have oq276 : h265 o = h o := by rw [he268, tw_up_n (tw_nk ko kx (by decide))] <;> exact oq192
        refine tw_if_eq 68 dX10_settle_63 (by decide) (fun c277 => absurd c277 (by decide)) (fun _ => ?_)
        refine tw_iconst (v := 0) dX10_settle_66 (by decide) ?_
        exact tw_iret dX10_settle_67 rfl (Or.inl ⟨_, rfl, _, _, sp275, oq276, Or.inr (Or.inr (Or.inl ⟨ix0, rc9, (by (try rw [cDn]); (try rw [cDm]); first | done | exact lc9), th274, rfl⟩))⟩)
      · rw [q258r]
        refine tw_iconst (v := 3) dX10_settle_59 (by decide) ?_
        refine tw_bi (tw_callV (M := mX10_settle) (pc := 60) okX10_refuse dX10_settle_60 w_1200 rfl f195 [.int 0, .int 3] [] rfl rfl ⟨by decide, by decide⟩ (Nat.le_of_ble_eq_true rfl) (c_X10_refuse d g τ h181 sp191.1 x kx 0 3 (by decide)) 0 0 (Nat.le_of_ble_eq_true rfl) (Nat.le_of_ble_eq_true rfl)) (fun r283 h282 q281 => ?_) (fun E h1 q => q.elim)
        obtain ⟨e284, he285, hs286, hr287, hc288⟩ := q281
        obtain ⟨rz289, tz290⟩ := (hc288 th190).1 rfl
        have th291 : tw_th (h282 x) = 0 := by rw [he285, tw_up_s]; exact tz290
        have sp292 : tw_sp d τ h g τ h282 := by rw [he285]; exact sp191.set kx (by decide) hs286
        rw [rz289]
        have oq293 : h282 o = h o := by rw [he285, tw_up_n (tw_nk ko kx (by decide))] <;> exact oq192
        refine tw_if_eq 68 dX10_settle_63 (by decide) (fun _ => ?_) (fun c294 => absurd (by decide) c294)
        refine tw_aload_n 0 dX10_settle_68 rfl rfl ?_
        obtain ⟨e295, f296, th_297, td_298, ds_299, fr_300, ca_301, us_302, wo_303, cm_304, lc_305, lh_306, ld_307, rfl, k308, k309, k310, k311, k312, k313, k314, k315, k316, k317, k318, k319, k320, k321, k322, k323, k324, k325, k326, k327, k328, k329⟩ := sp292.1 x 36 kx (by decide)
        refine tw_get (v := .ref ld_307) rfl in_14 11 dX10_settle_69 w_1162 rfl (by decide) f296 rfl ?_
        refine tw_iload_n 1 dX10_settle_72 rfl rfl ?_
        obtain ⟨e333, f334, ⟨el335, rfl, k336⟩, k337⟩ := sp292.1 ld_307 26 k316 (by decide)
        refine tw_br (tw_callV (M := mX10_settle) (pc := 73) okJx4a65c_get_915e3 dX10_settle_73 w_1292 rfl f334 [.int (nI jn)] [] rfl rfl ⟨by decide, by decide⟩ (Nat.le_of_ble_eq_true rfl) (c26_get d g τ h282 sp292.1 ld_307 k316 jn (by omega) (by omega)) 0 0 (Nat.le_of_ble_eq_true rfl) (Nat.le_of_ble_eq_true rfl)) (fun r340 h339 q338 => ?_) (fun E h1 q => q.elim)
        obtain ⟨q338e, q338k⟩ := q338
        rw [q338e]
        have el341 : tw_el h282 (g.2 14) jn = r340 := by rw [← k337]; exact q338k.2.symm
        have kl342 : τ (g.2 14) = 26 := by rw [← k337]; exact k316
        have id343 : g.2 (4096 + r340) = 1232 + 8 * jn := by rw [← el341]; exact tw_eli26 sp292.1 kl342 (by omega)
        obtain ⟨e344, f345, v_346, dy_347, pd_348, i_349, j_350, rfl, k351, k352, k353, k354⟩ := sp292.1 r340 22 q338k.1 (by decide)
        obtain ⟨j355, ow356, fv9, fd9, fp9, ei357, ej358⟩ := k354
        obtain rfl : jn = j355 := by have z := ow356.b id343; omega
        subst fv9 fd9 fp9
        refine tw_castS (ci := 12) rfl dX10_settle_76 w_1433 f345 ?_
        refine tw_astore_n [(3, .ref r340), (0, .ref x), (1, .int (nI jn)), (2, .int (nI k))] dX10_settle_79 rfl (by decide) rfl ?_
        refine tw_aload_n 1 dX10_settle_80 rfl rfl ?_
        refine tw_aload_n 0 dX10_settle_81 rfl rfl ?_
        refine tw_iload_n 3 dX10_settle_82 rfl rfl ?_
        have hT9 := k323
        refine tw_bl (tw_callV (M := mX10_settle) (pc := 83) okX10_toPay dX10_settle_83 w_1463 rfl f296 [.ref r340, .int (nI k)] [] rfl rfl ⟨by decide, by decide⟩ (Nat.le_of_ble_eq_true rfl) (c4_X10_toPay d g τ h282 sp292.1 x kx r340 q338k.1 jn hjn (by omega) id343 k hk lc9.1 lc9.2.1 he9 hm hT9) 0 0 (Nat.le_of_ble_eq_true rfl) (Nat.le_of_ble_eq_true rfl)) (fun r361 h360 q359 => ?_) (fun E h1 q => q.elim)
        obtain ⟨q359e, tp9⟩ := q359
        rw [q359e]
        refine tw_lstore [(4, .long r361), (3, .ref r340), (0, .ref x), (1, .int (nI jn)), (2, .int (nI k))] dX10_settle_86 (by decide) rfl ?_
        refine tw_aload_n 2 dX10_settle_88 rfl rfl ?_
        refine tw_get (v := .ref lh_306) rfl in_14 10 dX10_settle_89 w_1161 rfl (by decide) f296 rfl ?_
        refine tw_aload_n 1 dX10_settle_92 rfl rfl ?_
        refine tw_get (v := .int (nI i_349)) rfl in_12 0 dX10_settle_93 w_1439 rfl (by decide) f345 rfl ?_
        have e39 : tw_eF g jn = i_349 := tw_eN_e (c := 3) ei357 (by omega)
        have e49 : tw_eT g jn = _ := tw_eN_e (c := 4) ej358 (by omega)
        have l4 := lc9.2.2.2
        rw [e39] at l4
        have nft := (he9 jn hjn).2.2
        rw [e39, e49] at nft
        have sl9 : tw_ms g jn k ≤ 59000000 := Nat.le_trans l4 (he.p (j := i_349) (k := k) (by omega) hk).2
        obtain ⟨e365, f366, ⟨el367, rfl, k368⟩, k369⟩ := sp292.1 lh_306 25 k315 (by decide)
        refine tw_br (tw_callV (M := mX10_settle) (pc := 96) okJx4a65c_get_915e3 dX10_settle_96 w_1292 rfl f366 [.int (nI i_349)] [] rfl rfl ⟨by decide, by decide⟩ (Nat.le_of_ble_eq_true rfl) (c25_get d g τ h282 sp292.1 lh_306 k315 i_349 (by omega) (by omega)) 0 0 (Nat.le_of_ble_eq_true rfl) (Nat.le_of_ble_eq_true rfl)) (fun r372 h371 q370 => ?_) (fun E h1 q => q.elim)
        obtain ⟨q370e, q370k⟩ := q370
        rw [q370e]
        have el373 : tw_el h282 (g.2 13) i_349 = r372 := by rw [← k369]; exact q370k.2.symm
        have kl374 : τ (g.2 13) = 25 := by rw [← k369]; exact k315
        have id375 : g.2 (4096 + r372) = 960 + 32 * i_349 := by rw [← el373]; exact tw_eli25 sp292.1 kl374 (by omega)
        obtain ⟨e376, f377, x_378, y_379, dy_380, p_381, rfl, k382, k383, k384, k385⟩ := sp292.1 r372 23 q370k.1 (by decide)
        obtain ⟨j386, ow387, fd9, fa9, ft9, lp388⟩ := k385
        obtain rfl : i_349 = j386 := by have z := ow387.b id375; omega
        subst fd9 fa9 ft9
        refine tw_castS (ci := 13) rfl dX10_settle_99 w_1332 f377 ?_
        refine tw_get (v := .ref p_381) rfl in_13 3 dX10_settle_102 w_1344 rfl (by decide) f377 rfl ?_
        refine tw_iload_n 4 dX10_settle_105 rfl rfl ?_
        refine tw_dup2 dX10_settle_106 rfl rfl ?_
        obtain ⟨e389, f390, F391, rfl, ⟨b393, ow394, wv395⟩⟩ := sp292.1 p_381 31 k382 (by decide)
        obtain rfl : (960 + 32 * i_349 + 8) = b393 := (ow394.b lp388).symm
        have ev396 : F391 ((nI k)).toNatClampNeg = (g.1 ((960 + 32 * i_349 + 8) + k)).toInt64 := by rw [nI_clamp (by omega)]; exact wv395 k (by omega)
        refine tw_lald (v := (g.1 ((960 + 32 * i_349 + 8) + k)).toInt64) dX10_settle_107 f390 (vp_in_nI (by omega) (by decide)) ev396 ?_
        refine tw_lload 0 dX10_settle_108 rfl ?_
        refine tw_lsub dX10_settle_110 ?_
        refine tw_nml (fun v397 ev397 => ?_)
        have ce398 : (g.1 ((960 + 32 * i_349 + 8) + k)) = nI (tw_DN (g.1 ((960 + 32 * i_349 + 8) + k))) := by (repeat (first | rw [tw_ad_ne (by omega)] | rw [tw_g1_ne (by omega)])); exact (he.p (j := i_349) (k := k) (by omega) (by omega)).1
        have cb399 : tw_DN (g.1 ((960 + 32 * i_349 + 8) + k)) ≤ 59000000 := (he.p (j := i_349) (k := k) (by omega) (by omega)).2
        refine tw_last dX10_settle_111 f390 (vp_in_nI (by omega) (by decide)) ?_
        rw [nI_clamp (by omega)]
        obtain ⟨h400, eh400⟩ : ∃ z : tw_H, z = tw_up h282 p_381 (.inl (d.2 1, 2, .inr (.inl (vp_updL F391 k v397)))) := ⟨_, rfl⟩
        rw [← eh400]
        have th401 : tw_th (h400 x) = 0 := by rw [eh400, tw_up_n (tw_nk kx k382 (by decide))] <;> exact th291
        have oq402 : h400 o = h o := by rw [eh400, tw_up_n (tw_nk ko k382 (by decide))] <;> exact oq293
        have sp403 : tw_sp d τ h (tw_ad g ((960 + 32 * i_349 + 8) + k) (-nI (tw_ms g jn k))) τ h400 := by rw [eh400]; exact sp292.wb k382 (by decide) ow394 ⟨_, rfl, tw_f31.up ow394 wv395 (ev397.trans (tw_l_sub ce398 tp9 (by omega) (by omega)))⟩ (fun q9 hq9 => tw_ad_ne (by omega)) rfl
        refine tw_aload_n 2 dX10_settle_112 rfl rfl ?_
        obtain ⟨e404, f405, th_406, td_407, ds_408, fr_409, ca_410, us_411, wo_412, cm_413, lc_414, lh_415, ld_416, rfl, k417, k418, k419, k420, k421, k422, k423, k424, k425, k426, k427, k428, k429, k430, k431, k432, k433, k434, k435, k436, k437, k438⟩ := sp403.1 x 36 kx (by decide)
        refine tw_get (v := .ref lh_415) rfl in_14 10 dX10_settle_113 w_1161 rfl (by decide) f405 rfl ?_
        refine tw_aload_n 1 dX10_settle_116 rfl rfl ?_
        obtain ⟨e439, f440, v_441, dy_442, pd_443, i_444, j_445, rfl, k446, k447, k448, k449⟩ := sp403.1 r340 22 q338k.1 (by decide)
        obtain ⟨j450, ow451, fv9, fd9, fp9, ei452, ej453⟩ := k449
        obtain rfl : jn = j450 := by have z := ow451.b id343; omega
        subst fv9 fd9 fp9
        obtain rfl : i_349 = i_444 := by have y := ei452; (repeat (first | rw [tw_ad_ne (by omega)] at y | rw [tw_g1_ne (by omega)] at y)); have z := tw_b4 sp403.1 kx; exact tw_nIj (ei357.trans y.symm) (by omega) (by omega)
        obtain rfl : j_350 = j_445 := by have y := ej453; (repeat (first | rw [tw_ad_ne (by omega)] at y | rw [tw_g1_ne (by omega)] at y)); have z := tw_b4 sp403.1 kx; exact tw_nIj (ej358.trans y.symm) (by omega) (by omega)
        refine tw_get (v := .int (nI j_350)) rfl in_12 1 dX10_settle_117 w_1440 rfl (by decide) f440 rfl ?_
        obtain ⟨e457, f458, ⟨el459, rfl, k460⟩, k461⟩ := sp403.1 lh_415 25 k424 (by decide)
        refine tw_br (tw_callV (M := mX10_settle) (pc := 120) okJx4a65c_get_915e3 dX10_settle_120 w_1292 rfl f458 [.int (nI j_350)] [] rfl rfl ⟨by decide, by decide⟩ (Nat.le_of_ble_eq_true rfl) (c25_get d (tw_ad g ((960 + 32 * i_349 + 8) + k) (-nI (tw_ms g jn k))) τ h400 sp403.1 lh_415 k424 j_350 (show j_350 < g.2 4 by omega) (show g.2 4 < 2 ^ 31 by omega)) 0 0 (Nat.le_of_ble_eq_true rfl) (Nat.le_of_ble_eq_true rfl)) (fun r464 h463 q462 => ?_) (fun E h1 q => q.elim)
        obtain ⟨q462e, q462k⟩ := q462
        rw [q462e]
        have el465 : tw_el h400 ((tw_ad g ((960 + 32 * i_349 + 8) + k) (-nI (tw_ms g jn k))).2 13) j_350 = r464 := by rw [← k461]; exact q462k.2.symm
        have kl466 : τ ((tw_ad g ((960 + 32 * i_349 + 8) + k) (-nI (tw_ms g jn k))).2 13) = 25 := by rw [← k461]; exact k424
        have id467 : (tw_ad g ((960 + 32 * i_349 + 8) + k) (-nI (tw_ms g jn k))).2 (4096 + r464) = 960 + 32 * j_350 := by rw [← el465]; exact tw_eli25 sp403.1 kl466 (show j_350 < g.2 4 by omega)
        obtain ⟨e468, f469, x_470, y_471, dy_472, p_473, rfl, k474, k475, k476, k477⟩ := sp403.1 r464 23 q462k.1 (by decide)
        obtain ⟨j478, ow479, fd9, fa9, ft9, lp480⟩ := k477
        obtain rfl : j_350 = j478 := by have z := ow479.b id467; omega
        subst fd9 fa9 ft9
        refine tw_castS (ci := 13) rfl dX10_settle_123 w_1332 f469 ?_
        refine tw_get (v := .ref p_473) rfl in_13 3 dX10_settle_126 w_1344 rfl (by decide) f469 rfl ?_
        refine tw_iload_n 4 dX10_settle_129 rfl rfl ?_
        refine tw_dup2 dX10_settle_130 rfl rfl ?_
        obtain ⟨e481, f482, F483, rfl, ⟨b485, ow486, wv487⟩⟩ := sp403.1 p_473 31 k474 (by decide)
        obtain rfl : (960 + 32 * j_350 + 8) = b485 := (ow486.b lp480).symm
        have ev488 : F483 ((nI k)).toNatClampNeg = ((tw_ad g ((960 + 32 * i_349 + 8) + k) (-nI (tw_ms g jn k))).1 ((960 + 32 * j_350 + 8) + k)).toInt64 := by rw [nI_clamp (by omega)]; exact wv487 k (by omega)
        refine tw_lald (v := ((tw_ad g ((960 + 32 * i_349 + 8) + k) (-nI (tw_ms g jn k))).1 ((960 + 32 * j_350 + 8) + k)).toInt64) dX10_settle_131 f482 (vp_in_nI (by omega) (by decide)) ev488 ?_
        refine tw_lload 0 dX10_settle_132 rfl ?_
        refine tw_ladd dX10_settle_134 ?_
        refine tw_nml (fun v489 ev489 => ?_)
        have ce490 : ((tw_ad g ((960 + 32 * i_349 + 8) + k) (-nI (tw_ms g jn k))).1 ((960 + 32 * j_350 + 8) + k)) = nI (tw_DN (g.1 ((960 + 32 * j_350 + 8) + k))) := by (repeat (first | rw [tw_ad_ne (by omega)] | rw [tw_g1_ne (by omega)])); exact (he.p (j := j_350) (k := k) (by omega) (by omega)).1
        have cb491 : tw_DN (g.1 ((960 + 32 * j_350 + 8) + k)) ≤ 59000000 := (he.p (j := j_350) (k := k) (by omega) (by omega)).2
        refine tw_last dX10_settle_135 f482 (vp_in_nI (by omega) (by decide)) ?_
        rw [nI_clamp (by omega)]
        obtain ⟨h492, eh492⟩ : ∃ z : tw_H, z = tw_up h400 p_473 (.inl (d.2 1, 2, .inr (.inl (vp_updL F483 k v489)))) := ⟨_, rfl⟩
        rw [← eh492]
        have th493 : tw_th (h492 x) = 0 := by rw [eh492, tw_up_n (tw_nk kx k474 (by decide))] <;> exact th401
        have oq494 : h492 o = h o := by rw [eh492, tw_up_n (tw_nk ko k474 (by decide))] <;> exact oq402
        have sp495 : tw_sp d τ h (tw_ad (tw_ad g ((960 + 32 * i_349 + 8) + k) (-nI (tw_ms g jn k))) ((960 + 32 * j_350 + 8) + k) (nI (tw_ms g jn k))) τ h492 := by rw [eh492]; exact sp403.wb k474 (by decide) ow486 ⟨_, rfl, tw_f31.up ow486 wv487 (ev489.trans (tw_l_add ce490 tp9 (by omega)))⟩ (fun q9 hq9 => tw_ad_ne (by omega)) rfl
        refine tw_aload_n 1 dX10_settle_136 rfl rfl ?_
        refine tw_iconst (v := 1) dX10_settle_137 (by decide) ?_
        obtain ⟨e496, f497, v_498, dy_499, pd_500, i_501, j_502, rfl, k503, k504, k505, k506⟩ := sp495.1 r340 22 q338k.1 (by decide)
        obtain ⟨j507, ow508, fv9, fd9, fp9, ei509, ej510⟩ := k506
        obtain rfl : jn = j507 := by have z := ow508.b id343; omega
        subst fv9 fd9 fp9
        obtain rfl : i_349 = i_501 := by have y := ei509; (repeat (first | rw [tw_ad_ne (by omega)] at y | rw [tw_g1_ne (by omega)] at y)); have z := tw_b4 sp495.1 kx; exact tw_nIj (ei357.trans y.symm) (by omega) (by omega)
        obtain rfl : j_350 = j_502 := by have y := ej510; (repeat (first | rw [tw_ad_ne (by omega)] at y | rw [tw_g1_ne (by omega)] at y)); have z := tw_b4 sp495.1 kx; exact tw_nIj (ej358.trans y.symm) (by omega) (by omega)
        refine tw_put rfl in_12 tyX8 tyX8_ok nmX8 4 dX10_settle_138 w_1443 rfl (by decide) f497 rfl rfl rfl rfl (Nat.le_of_ble_eq_true rfl) [.int (nI i_349), .int (nI j_350), .int ((tw_ad (tw_ad g ((960 + 32 * i_349 + 8) + k) (-nI (tw_ms g jn k))) ((960 + 32 * j_350 + 8) + k) (nI (tw_ms g jn k))).1 (1232 + 8 * jn + 0)), .int ((tw_ad (tw_ad g ((960 + 32 * i_349 + 8) + k) (-nI (tw_ms g jn k))) ((960 + 32 * j_350 + 8) + k) (nI (tw_ms g jn k))).1 (1232 + 8 * jn + 1)), .int 1] rfl ?_
        obtain ⟨h511, eh511⟩ : ∃ z : tw_H, z = tw_up h492 r340 (.inr (12, [.int (nI i_349), .int (nI j_350), .int ((tw_ad (tw_ad g ((960 + 32 * i_349 + 8) + k) (-nI (tw_ms g jn k))) ((960 + 32 * j_350 + 8) + k) (nI (tw_ms g jn k))).1 (1232 + 8 * jn + 0)), .int ((tw_ad (tw_ad g ((960 + 32 * i_349 + 8) + k) (-nI (tw_ms g jn k))) ((960 + 32 * j_350 + 8) + k) (nI (tw_ms g jn k))).1 (1232 + 8 * jn + 1)), .int 1])) := ⟨_, rfl⟩
        rw [← eh511]
        have th512 : tw_th (h511 x) = 0 := by rw [eh511, tw_up_n (tw_nk kx q338k.1 (by decide))] <;> exact th493
        have oq513 : h511 o = h o := by rw [eh511, tw_up_n (tw_nk ko q338k.1 (by decide))] <;> exact oq494
        have sp514 : tw_sp d τ h (tw_g1 (tw_ad (tw_ad g ((960 + 32 * i_349 + 8) + k) (-nI (tw_ms g jn k))) ((960 + 32 * j_350 + 8) + k) (nI (tw_ms g jn k))) (1232 + 8 * jn + 2) 1) τ h511 := by rw [eh511]; exact sp495.wb q338k.1 (by decide) ow508 ⟨_, _, _, _, _, rfl, k503, k504, (by unfold tw_01; decide), jn, ow508, (tw_g1_ne (by omega)).symm, (tw_g1_ne (by omega)).symm, tw_g1_eq.symm, ei509.trans (tw_g1_ne (by omega)).symm, ej510.trans (tw_g1_ne (by omega)).symm⟩ (fun q9 hq9 => tw_g1_ne (by omega)) rfl
        refine tw_lload 0 dX10_settle_141 rfl ?_
        refine tw_l2i dX10_settle_143 ?_
        refine tw_nmi (fun v515 ev515 => ?_)
        exact tw_iret dX10_settle_144 rfl (Or.inl ⟨_, rfl, _, _, sp514, oq513, Or.inr (Or.inr (Or.inr (⟨ix0, rc9, (by (try rw [cDn]); (try rw [cDm]); first | done | exact lc9), (by (try rw [cDn]); (try rw [cDm]); first | done | exact (by rw [ev515, tp9]; exact tw_L_32 (by omega))), th512, (by (try rw [cDn]); (try rw [cDm]); first | done | exact (by rw [e39, e49]))⟩)))⟩)

set_option maxHeartbeats 4000000 in
set_option maxRecDepth 100000 in
theorem c2_X10_pass (d : tw_D) (g : tw_G) (τ : tw_K) (h : tw_H) (hw : tw_wt d g τ h) (x : Nat) (kx : τ x = 36) (dy : Int32) (o : Nat) (ko : τ o = 12) (he : tw_AM 59000000 g) : tw_Ct d mX10_pass 802 3208 [.ref x, .int dy] h (tw_qi (fun r9 h1 => ∃ g1 τ1, tw_sp d τ h g1 τ1 h1 ∧ h1 o = h o ∧ ((¬ tw_RP dy ∧ tw_th (h1 x) = 1 ∧ g1 = g) ∨ (tw_RP dy ∧ ¬ g.2 22 + tw_DN dy ≤ 3000 ∧ tw_th (h1 x) = 2 ∧ g1 = g) ∨ (tw_RP dy ∧ g.2 22 + tw_DN dy ≤ 3000 ∧ r9 = nI (g.2 22 + tw_DN dy) ∧ tw_th (h1 x) = 0 ∧ g1 = tw_dsM g (tw_DN dy)))) tw_nx) := by
  refine tw_of (by decide +kernel) (Nat.le_of_ble_eq_true rfl) ?_
  show tw_W d mX10_pass _ 0 [(0, .ref x), (1, .int dy)] [] h 802 3208
  have sp0 := tw_sp.rf hw
  have oq0 : h o = h o := rfl
  have b93 := tw_b3 hw kx
  have b94 := tw_b4 hw kx
  refine tw_aload_n 0 dX10_pass_0 rfl rfl ?_
  refine tw_iload_n 1 dX10_pass_1 rfl rfl ?_
  refine tw_iconst (v := 1) dX10_pass_2 (by decide) ?_
  refine tw_sipush (v := 400) dX10_pass_3 (by decide) ?_
  refine tw_bi (tw_callS (M := mX10_pass) (pc := 6) okX10_isIn dX10_pass_6 w_1192 [.int dy, .int 1, .int 400] [.ref x] rfl rfl ⟨by decide, by decide⟩ (Nat.le_of_ble_eq_true rfl) (c_X10_isIn d g τ h sp0.1 dy 1 400) 802 3208 (Nat.le_of_ble_eq_true rfl) (Nat.le_of_ble_eq_true rfl)) (fun r3 h2 q1 => ?_) (fun E h1 q => q.elim)
  obtain ⟨q1e, q1d⟩ := q1
  rw [q1e]
  rcases q1d with ⟨q1r, q1n⟩ | ⟨q1r, q1a, q1b⟩
  · rw [q1r]
    refine tw_if_ne 16 dX10_pass_9 (by decide) (fun c4 => absurd (by decide) c4) (fun _ => ?_)
    refine tw_iconst (v := 1) dX10_pass_12 (by decide) ?_
    refine tw_goto 17 dX10_pass_13 (by decide) ?_
    refine tw_iconst (v := 1) dX10_pass_17 (by decide) ?_
    obtain ⟨e5, f6, th_7, td_8, ds_9, fr_10, ca_11, us_12, wo_13, cm_14, lc_15, lh_16, ld_17, rfl, k18, k19, k20, k21, k22, k23, k24, k25, k26, k27, k28, k29, k30, k31, k32, k33, k34, k35, k36, k37, k38, k39⟩ := sp0.1 x 36 kx (by decide)
    refine tw_bi (tw_callV (M := mX10_pass) (pc := 18) okX10_start dX10_pass_18 w_1196 rfl f6 [.int 1, .int 1] [] rfl rfl ⟨by decide, by decide⟩ (Nat.le_of_ble_eq_true rfl) (c_X10_start d g τ h sp0.1 x kx 1 1 (by decide)) 802 3208 (Nat.le_of_ble_eq_true rfl) (Nat.le_of_ble_eq_true rfl)) (fun r42 h41 q40 => ?_) (fun E h1 q => q.elim)
    obtain ⟨e43, he44, hs45, hr46, hc47⟩ := q40
    obtain ⟨rz48, tz49⟩ := hc47.2 rfl
    have th50 : tw_th (h41 x) = 1 := by rw [he44, tw_up_s]; exact tz49
    have sp51 : tw_sp d τ h g τ h41 := by rw [he44]; exact sp0.set kx (by decide) hs45
    rw [rz48]
    have oq52 : h41 o = h o := by rw [he44, tw_up_n (tw_nk ko kx (by decide))] <;> exact oq0
    refine tw_if_ne 49 dX10_pass_21 (by decide) (fun _ => ?_) (fun c53 => absurd c53 (by decide))
    refine tw_iconst (v := 0) dX10_pass_49 (by decide) ?_
    exact tw_iret dX10_pass_50 rfl (Or.inl ⟨_, rfl, _, _, sp51, oq52, Or.inl ⟨q1n, th50, rfl⟩⟩)
  · rw [q1r]
    have rp : tw_RP dy := ⟨q1a, q1b⟩
    obtain ⟨D, hD1, hD4, eD⟩ := tw_pD rp
    subst eD
    have cD : tw_DN (nI D) = D := nI_clamp (by omega)
    refine tw_if_ne 16 dX10_pass_9 (by decide) (fun _ => ?_) (fun c54 => absurd c54 (by decide))
    refine tw_iconst (v := 0) dX10_pass_16 (by decide) ?_
    refine tw_iconst (v := 1) dX10_pass_17 (by decide) ?_
    obtain ⟨e55, f56, th_57, td_58, ds_59, fr_60, ca_61, us_62, wo_63, cm_64, lc_65, lh_66, ld_67, rfl, k68, k69, k70, k71, k72, k73, k74, k75, k76, k77, k78, k79, k80, k81, k82, k83, k84, k85, k86, k87, k88, k89⟩ := sp0.1 x 36 kx (by decide)
    refine tw_bi (tw_callV (M := mX10_pass) (pc := 18) okX10_start dX10_pass_18 w_1196 rfl f56 [.int 0, .int 1] [] rfl rfl ⟨by decide, by decide⟩ (Nat.le_of_ble_eq_true rfl) (c_X10_start d g τ h sp0.1 x kx 0 1 (by decide)) 802 3208 (Nat.le_of_ble_eq_true rfl) (Nat.le_of_ble_eq_true rfl)) (fun r92 h91 q90 => ?_) (fun E h1 q => q.elim)
    obtain ⟨e93, he94, hs95, hr96, hc97⟩ := q90
    obtain ⟨rz98, tz99⟩ := hc97.1 rfl
    have th100 : tw_th (h91 x) = 0 := by rw [he94, tw_up_s]; exact tz99
    have sp101 : tw_sp d τ h g τ h91 := by rw [he94]; exact sp0.set kx (by decide) hs95
    rw [rz98]
    have oq102 : h91 o = h o := by rw [he94, tw_up_n (tw_nk ko kx (by decide))] <;> exact oq0
    refine tw_if_ne 49 dX10_pass_21 (by decide) (fun c103 => absurd (by decide) c103) (fun _ => ?_)
    refine tw_aload_n 0 dX10_pass_24 rfl rfl ?_
    refine tw_aload_n 0 dX10_pass_25 rfl rfl ?_
    obtain ⟨e104, f105, th_106, td_107, ds_108, fr_109, ca_110, us_111, wo_112, cm_113, lc_114, lh_115, ld_116, rfl, k117, k118, k119, k120, k121, k122, k123, k124, k125, k126, k127, k128, k129, k130, k131, k132, k133, k134, k135, k136, k137, k138⟩ := sp101.1 x 36 kx (by decide)
    refine tw_get (v := .int td_107) rfl in_14 1 dX10_pass_26 w_1152 rfl (by decide) f105 rfl ?_
    refine tw_iload_n 1 dX10_pass_29 rfl rfl ?_
    refine tw_iadd dX10_pass_30 ?_
    refine tw_nmi (fun v139 ev139 => ?_)
    refine tw_sipush (v := 3000) dX10_pass_31 (by decide) ?_
    refine tw_icmp_le 41 dX10_pass_34 (by decide) (fun c140 => ?_) (fun c140 => ?_)
    · have le9 : g.2 22 + D ≤ 3000 := (tw_dle2 k131 ev139 k132 hD4).mp c140
      refine tw_iconst (v := 0) dX10_pass_41 (by decide) ?_
      refine tw_iconst (v := 2) dX10_pass_42 (by decide) ?_
      refine tw_bi (tw_callV (M := mX10_pass) (pc := 43) okX10_refuse dX10_pass_43 w_1200 rfl f105 [.int 0, .int 2] [] rfl rfl ⟨by decide, by decide⟩ (Nat.le_of_ble_eq_true rfl) (c_X10_refuse d g τ h91 sp101.1 x kx 0 2 (by decide)) 802 3208 (Nat.le_of_ble_eq_true rfl) (Nat.le_of_ble_eq_true rfl)) (fun r143 h142 q141 => ?_) (fun E h1 q => q.elim)
      obtain ⟨e144, he145, hs146, hr147, hc148⟩ := q141
      obtain ⟨rz149, tz150⟩ := (hc148 th100).1 rfl
      have th151 : tw_th (h142 x) = 0 := by rw [he145, tw_up_s]; exact tz150
      have sp152 : tw_sp d τ h g τ h142 := by rw [he145]; exact sp101.set kx (by decide) hs146
      rw [rz149]
      have oq153 : h142 o = h o := by rw [he145, tw_up_n (tw_nk ko kx (by decide))] <;> exact oq102
      refine tw_if_eq 51 dX10_pass_46 (by decide) (fun _ => ?_) (fun c154 => absurd (by decide) c154)
      refine tw_iconst (v := 0) dX10_pass_51 (by decide) ?_
      refine tw_istore_n [(2, .int 0), (0, .ref x), (1, .int (nI D))] dX10_pass_52 rfl (by decide) rfl ?_
      have L158 : ∀ (r156 k155 : Nat) (h161 : tw_H) (sp162 : tw_sp d τ h (tw_dsM g k155) τ h161) (th163 : tw_th (h161 x) = 0) (oq164 : h161 o = h o), D + 1 ≤ k155 + r156 → k155 ≤ D → tw_W d mX10_pass (tw_qi (fun r9 h1 => ∃ g1 τ1, tw_sp d τ h g1 τ1 h1 ∧ h1 o = h o ∧ ((¬ tw_RP (nI D) ∧ tw_th (h1 x) = 1 ∧ g1 = g) ∨ (tw_RP (nI D) ∧ ¬ g.2 22 + tw_DN (nI D) ≤ 3000 ∧ tw_th (h1 x) = 2 ∧ g1 = g) ∨ (tw_RP (nI D) ∧ g.2 22 + tw_DN (nI D) ≤ 3000 ∧ r9 = nI (g.2 22 + tw_DN (nI D)) ∧ tw_th (h1 x) = 0 ∧ g1 = tw_dsM g (tw_DN (nI D))))) tw_nx) 53 [(0, .ref x), (1, .int (nI D)), (2, .int (nI k155))] [] h161 (0 + 2 * r156) (0 + 8 * r156) := by
        intro r156
        induction r156 with
        | zero => intro k155 h161 sp162 th163 oq164 hk159 hk160; exact absurd hk159 (by omega)
        | succ r156 ih157 =>
          intro k155 h161 sp162 th163 oq164 hk159 hk160
          obtain ⟨g165, eg165⟩ : ∃ z : tw_G, z = tw_dsM g k155 := ⟨_, rfl⟩
          rw [← eg165] at sp162
          have tg165 : g165.2 22 = g.2 22 + k155 := by rw [eg165, tw_dsM_2]; rfl
          have h3g165 : g165.2 3 ≤ 4 := by rw [eg165, tw_dsM_2]; exact b93
          have h4g165 : g165.2 4 ≤ 6 := by rw [eg165, tw_dsM_2]; exact b94
          have hAg165 : tw_AM 59000000 g165 := by rw [eg165]; exact tw_dsM_A he (by decide) b93 b94 k155
          refine tw_iload_n 2 dX10_pass_53 rfl rfl ?_
          refine tw_iload_n 1 dX10_pass_54 rfl rfl ?_
          refine tw_icmp_ge 232 dX10_pass_55 (by decide) (fun c166 => ?_) (fun c166 => ?_)
          · refine tw_aload_n 0 dX10_pass_232 rfl rfl ?_
            obtain ⟨e167, f168, th_169, td_170, ds_171, fr_172, ca_173, us_174, wo_175, cm_176, lc_177, lh_178, ld_179, rfl, k180, k181, k182, k183, k184, k185, k186, k187, k188, k189, k190, k191, k192, k193, k194, k195, k196, k197, k198, k199, k200, k201⟩ := sp162.1 x 36 kx (by decide)
            refine tw_get (v := .int td_170) rfl in_14 1 dX10_pass_233 w_1152 rfl (by decide) f168 rfl ?_
            exact tw_iret dX10_pass_236 rfl (Or.inl ⟨_, rfl, _, _, sp162, oq164, Or.inr (Or.inr ⟨rp, by rw [cD]; exact le9, by rw [cD, k194, tg165, show k155 = D from Nat.le_antisymm hk160 (tw_kge c166 (by omega))], th163, by rw [eg165, cD, show k155 = D from Nat.le_antisymm hk160 (tw_kge c166 (by omega))]⟩)⟩)
          · refine tw_aload_n 0 dX10_pass_58 rfl rfl ?_
            refine tw_dup dX10_pass_59 rfl ?_
            obtain ⟨e202, f203, th_204, td_205, ds_206, fr_207, ca_208, us_209, wo_210, cm_211, lc_212, lh_213, ld_214, rfl, k215, k216, k217, k218, k219, k220, k221, k222, k223, k224, k225, k226, k227, k228, k229, k230, k231, k232, k233, k234, k235, k236⟩ := sp162.1 x 36 kx (by decide)
            refine tw_get (v := .int td_205) rfl in_14 1 dX10_pass_60 w_1152 rfl (by decide) f203 rfl ?_
            refine tw_iconst (v := 1) dX10_pass_63 (by decide) ?_
            refine tw_iadd dX10_pass_64 ?_
            refine tw_nmi (fun v237 ev237 => ?_)
            have kl9 : k155 < D := tw_klt (N := D) c166 hk160 (by omega)
            obtain ⟨gB, egB⟩ : ∃ z : tw_G, z = tw_g2 g165 22 (g165.2 22 + 1) := ⟨_, rfl⟩
            have gb3 : gB.2 3 = g165.2 3 := by rw [egB]; rfl
            have gb4 : gB.2 4 = g165.2 4 := by rw [egB]; rfl
            have gbT : gB.2 22 = g165.2 22 + 1 := by rw [egB]; rfl
            have hAB : tw_AM 59000000 gB := by rw [egB]; exact hAg165.cg (fun i k _ _ => rfl)
            have q238 : v237 = nI (gB.2 22) := by rw [ev237, k229, nI_1, egB]; rfl
            subst q238
            refine tw_put rfl in_14 tyX10 tyX10_ok nmX10 1 dX10_pass_65 w_1152 rfl (by decide) f203 rfl rfl rfl rfl (Nat.le_of_ble_eq_true rfl) [.int th_204, .int (nI (gB.2 22)), .int (g165.1 1), .ref ds_206, .ref fr_207, .ref ca_208, .ref us_209, .ref wo_210, .ref cm_211, .ref lc_212, .ref lh_213, .ref ld_214] rfl ?_
            obtain ⟨h239, eh239⟩ : ∃ z : tw_H, z = tw_up h161 x (.inr (14, [.int th_204, .int (nI (gB.2 22)), .int (g165.1 1), .ref ds_206, .ref fr_207, .ref ca_208, .ref us_209, .ref wo_210, .ref cm_211, .ref lc_212, .ref lh_213, .ref ld_214])) := ⟨_, rfl⟩
            rw [← eh239]
            have th240 : tw_th (h239 x) = 0 := by rw [eh239, tw_up_s]; have z := th163; rw [f203] at z; exact z
            have oq241 : h239 o = h o := by rw [eh239, tw_up_n (tw_nk ko kx (by decide))] <;> exact oq164
            have sp242 : tw_sp d τ h gB τ h239 := by rw [eh239, egB]; exact sp162.m36d kx (by rw [← egB]; exact ⟨th_204, (nI (gB.2 22)), ds_206, fr_207, ca_208, us_209, wo_210, cm_211, lc_212, lh_213, ld_214, (by rw [egB]; rfl), k215, k216, k217, k218, k219, k220, k221, k222, k223, (by (try rw [egB]); exact k224), (by (try rw [egB]); exact k225), (by (try rw [egB]); exact k226), (by (try rw [egB]); exact k227), (by (try rw [egB]); exact k228), rfl, (by rw [egB]; exact (show g165.2 22 + 1 ≤ 3000 by omega)), (by rw [egB]; exact (tw_g2_ne (by omega)).trans k231), (by rw [egB]; exact (tw_g2_ne (by omega)).trans k232), (by rw [egB]; exact (tw_g2_ne (by omega)).trans k233), (by rw [egB]; exact (tw_g2_ne (by omega)).trans k234), (by rw [egB]; exact (tw_g2_ne (by omega)).trans k235), (by rw [egB]; exact (tw_g2_ne (by omega)).trans k236)⟩)
            refine tw_aload_n 0 dX10_pass_68 rfl rfl ?_
            obtain ⟨e243, f244, th_245, td_246, ds_247, fr_248, ca_249, us_250, wo_251, cm_252, lc_253, lh_254, ld_255, rfl, k256, k257, k258, k259, k260, k261, k262, k263, k264, k265, k266, k267, k268, k269, k270, k271, k272, k273, k274, k275, k276, k277⟩ := sp242.1 x 36 kx (by decide)
            refine tw_get (v := .ref lh_254) rfl in_14 10 dX10_pass_69 w_1161 rfl (by decide) f244 rfl ?_
            obtain ⟨e278, f279, ⟨el280, rfl, k281⟩, k282⟩ := sp242.1 lh_254 25 k263 (by decide)
            refine tw_br (tw_callV (M := mX10_pass) (pc := 72) okJx4a65c_iterator_32c93 dX10_pass_72 w_1382 rfl f279 [] [] rfl rfl ⟨by decide, by decide⟩ (Nat.le_of_ble_eq_true rfl) (c_iterator d h239 lh_254 el280 (gB.1 4) (nI (gB.2 4)) f279) ((0 + 2 * (r156 + 1)) - 1) ((0 + 8 * (r156 + 1)) - 4) (by omega) (by omega)) (fun it283 h284 q285 => ?_) (fun E h1 q => q.elim)
            obtain ⟨q285n, q285e⟩ := q285
            rw [q285e]
            have n286 := sp242.nn q285n
            have z287 := sp242.1.none q285n
            obtain ⟨h288, eh288⟩ : ∃ z : tw_H, z = tw_up h239 it283 (.inr (2, [.int 0, .int (-1), .int (gB.1 4), .ref lh_254])) := ⟨_, rfl⟩
            rw [← eh288]
            have th289 : tw_th (h288 x) = 0 := by rw [eh288, tw_up_n (tw_kF sp242.1 kx (by decide) q285n)] <;> exact th240
            have oq290 : h288 o = h o := by rw [eh288, tw_up_n (tw_kF sp242.1 ko (by decide) q285n)] <;> exact oq241
            have sp291 : tw_sp d τ h gB τ h288 := by rw [eh288]; exact sp242.mk q285n
            have f292 : h288 it283 = some (.inr (2, [.int 0, .int (-1), .int (gB.1 4), .ref lh_254])) := by rw [eh288]; exact tw_up_s
            refine tw_astore_n [(3, .ref it283), (0, .ref x), (1, .int (nI D)), (2, .int (nI k155))] dX10_pass_75 rfl (by decide) rfl ?_
            have L297 : ∀ (r293 j294 : Nat) (l295 : Int32) (h298 : tw_H) (sp299 : tw_sp d τ (tw_rm h288 it283) (tw_fd (tw_arM (g165.2 22 + 1)) gB j294) τ h298) (ft300 : h298 it283 = some (.inr (2, [.int (nI j294), .int l295, .int (gB.1 4), .ref lh_254]))) (zt301 : τ it283 = 0) (th302 : tw_th (h298 x) = 0) (oq303 : h298 o = h o), gB.2 4 + 1 ≤ j294 + r293 → j294 ≤ gB.2 4 → tw_W d mX10_pass (tw_qi (fun r9 h1 => ∃ g1 τ1, tw_sp d τ h g1 τ1 h1 ∧ h1 o = h o ∧ ((¬ tw_RP (nI D) ∧ tw_th (h1 x) = 1 ∧ g1 = g) ∨ (tw_RP (nI D) ∧ ¬ g.2 22 + tw_DN (nI D) ≤ 3000 ∧ tw_th (h1 x) = 2 ∧ g1 = g) ∨ (tw_RP (nI D) ∧ g.2 22 + tw_DN (nI D) ≤ 3000 ∧ r9 = nI (g.2 22 + tw_DN (nI D)) ∧ tw_th (h1 x) = 0 ∧ g1 = tw_dsM g (tw_DN (nI D))))) tw_nx) 76 [(0, .ref x), (1, .int (nI D)), (2, .int (nI k155)), (3, .ref it283)] [] h298 ((0 + 2 * (r156 + 1)) - 1) ((0 + 8 * (r156 + 1)) - 4) := by
              intro r293
              induction r293 with
              | zero => intro j294 l295 h298 sp299 ft300 zt301 th302 oq303 hk304 hk305; exact absurd hk304 (by omega)
              | succ r293 ih296 =>
                intro j294 l295 h298 sp299 ft300 zt301 th302 oq303 hk304 hk305
                obtain ⟨g306, eg306⟩ : ∃ z : tw_G, z = tw_fd (tw_arM (g165.2 22 + 1)) gB j294 := ⟨_, rfl⟩
                rw [← eg306] at sp299
                have eg307 : g306.2 = gB.2 := by rw [eg306]; exact tw_fd_2 tw_arM_2 _
                have ng306 : g306.2 4 = gB.2 4 := by rw [eg307]
                have mcg306 : g306.1 4 = (gB.1 4) := by rw [eg306]; exact tw_fd_1 (P := fun x => x = 4) (N := 6) (fun g8 j8 x8 hj8 hx8 => tw_arM_1 _ _ _ (by have hx8 : x8 = 4 := hx8; omega)) _ (by omega) _ rfl
                refine tw_aload_n 3 dX10_pass_76 rfl rfl ?_
                obtain ⟨e308, f309, ⟨el310, rfl, k311⟩, k312⟩ := sp299.1 lh_254 25 k263 (by decide)
                refine tw_bi (tw_callF (M := mX10_pass) (pc := 77) (n9 := 0) (ci := 2) tw_hasNext ok_itHas w_1412 w_1410 (fun s H z => z.2.2.2.2.2.2.2.2.1) (by decide +kernel) dX10_pass_77 w_1406 rfl ft300 [] [] rfl rfl ⟨by decide, by decide⟩ (Nat.le_of_ble_eq_true rfl) (c_hasNext d h298 it283 lh_254 el310 j294 (g306.2 4) l295 (g306.1 4) (gB.1 4) ft300 f309 (by omega) (tw_lim25 sp299.1 k263)) ((0 + 2 * (r156 + 1)) - 1) ((0 + 8 * (r156 + 1)) - 4) (by omega) (by omega)) (fun r315 h314 q313 => ?_) (fun E h1 q => q.elim)
                obtain ⟨q313e, q313q⟩ := q313
                rw [q313e]
                rcases q313q with ⟨q313r, q313j⟩ | ⟨q313r, q313j⟩
                · rw [q313r]
                  refine tw_if_eq 145 dX10_pass_82 (by decide) (fun _ => ?_) (fun c316 => absurd (by decide) c316)
                  have ek9 : g306 = tw_fd (tw_arM (g165.2 22 + 1)) gB (g165.2 4) := by rw [eg306, show j294 = g165.2 4 by have z := q313j; omega]
                  have hA9 : tw_AM 59000000 g306 := by rw [ek9]; exact tw_ar_A hAB h4g165
                  have gk3 : g306.2 3 = g165.2 3 := by rw [eg307, gb3]
                  have gkT : g306.2 22 = g165.2 22 + 1 := by rw [eg307, gbT]
                  by_cases wd9 : (g165.2 22 + 1) % 30 = 0
                  · skip
                    refine tw_aload_n 0 dX10_pass_145 rfl rfl ?_
                    obtain ⟨e317, f318, th_319, td_320, ds_321, fr_322, ca_323, us_324, wo_325, cm_326, lc_327, lh_328, ld_329, rfl, k330, k331, k332, k333, k334, k335, k336, k337, k338, k339, k340, k341, k342, k343, k344, k345, k346, k347, k348, k349, k350, k351⟩ := sp299.1 x 36 kx (by decide)
                    refine tw_get (v := .ref lc_327) rfl in_14 9 dX10_pass_146 w_1160 rfl (by decide) f318 rfl ?_
                    obtain ⟨e352, f353, ⟨el354, rfl, k355⟩, k356⟩ := sp299.1 lc_327 24 k336 (by decide)
                    refine tw_br (tw_callV (M := mX10_pass) (pc := 149) okJx4a65c_iterator_32c93 dX10_pass_149 w_1382 rfl f353 [] [] rfl rfl ⟨by decide, by decide⟩ (Nat.le_of_ble_eq_true rfl) (c_iterator d h298 lc_327 el354 (g306.1 3) (nI (g306.2 3)) f353) (((0 + 2 * (r156 + 1)) - 1) - 1) (((0 + 8 * (r156 + 1)) - 4) - 4) (by omega) (by omega)) (fun it357 h358 q359 => ?_) (fun E h1 q => q.elim)
                    obtain ⟨q359n, q359e⟩ := q359
                    rw [q359e]
                    have n360 := sp299.nn q359n
                    have z361 := sp299.1.none q359n
                    have ne362 := tw_neF ft300 q359n
                    obtain ⟨h363, eh363⟩ : ∃ z : tw_H, z = tw_up h298 it357 (.inr (2, [.int 0, .int (-1), .int (g306.1 3), .ref lc_327])) := ⟨_, rfl⟩
                    rw [← eh363]
                    have th364 : tw_th (h363 x) = 0 := by rw [eh363, tw_up_n (tw_kF sp299.1 kx (by decide) q359n)] <;> exact th302
                    have oq365 : h363 o = h o := by rw [eh363, tw_up_n (tw_kF sp299.1 ko (by decide) q359n)] <;> exact oq303
                    have sp366 : tw_sp d τ (tw_rm h288 it283) g306 τ h363 := by rw [eh363]; exact sp299.mk q359n
                    have f367 : h363 it283 = some (.inr (2, [.int (nI j294), .int l295, .int (gB.1 4), .ref lh_254])) := by rw [eh363, tw_up_n ne362]; exact ft300
                    have f368 : h363 it357 = some (.inr (2, [.int 0, .int (-1), .int (g306.1 3), .ref lc_327])) := by rw [eh363]; exact tw_up_s
                    refine tw_astore_n [(3, .ref it357), (0, .ref x), (1, .int (nI D)), (2, .int (nI k155))] dX10_pass_152 rfl (by decide) rfl ?_
                    have L373 : ∀ (r369 j370 : Nat) (l371 : Int32) (h374 : tw_H) (sp375 : tw_sp d τ (tw_rm h363 it357) (tw_fd tw_weM g306 j370) τ h374) (ft376 : h374 it357 = some (.inr (2, [.int (nI j370), .int l371, .int (g306.1 3), .ref lc_327]))) (zt377 : τ it357 = 0) (th378 : tw_th (h374 x) = 0) (oq379 : h374 o = h o), g306.2 3 + 1 ≤ j370 + r369 → j370 ≤ g306.2 3 → tw_W d mX10_pass (tw_qi (fun r9 h1 => ∃ g1 τ1, tw_sp d τ h g1 τ1 h1 ∧ h1 o = h o ∧ ((¬ tw_RP (nI D) ∧ tw_th (h1 x) = 1 ∧ g1 = g) ∨ (tw_RP (nI D) ∧ ¬ g.2 22 + tw_DN (nI D) ≤ 3000 ∧ tw_th (h1 x) = 2 ∧ g1 = g) ∨ (tw_RP (nI D) ∧ g.2 22 + tw_DN (nI D) ≤ 3000 ∧ r9 = nI (g.2 22 + tw_DN (nI D)) ∧ tw_th (h1 x) = 0 ∧ g1 = tw_dsM g (tw_DN (nI D))))) tw_nx) 153 [(0, .ref x), (1, .int (nI D)), (2, .int (nI k155)), (3, .ref it357)] [] h374 (((0 + 2 * (r156 + 1)) - 1) - 1) (((0 + 8 * (r156 + 1)) - 4) - 4) := by
                      intro r369
                      induction r369 with
                      | zero => intro j370 l371 h374 sp375 ft376 zt377 th378 oq379 hk380 hk381; exact absurd hk380 (by omega)
                      | succ r369 ih372 =>
                        intro j370 l371 h374 sp375 ft376 zt377 th378 oq379 hk380 hk381
                        obtain ⟨g382, eg382⟩ : ∃ z : tw_G, z = tw_fd tw_weM g306 j370 := ⟨_, rfl⟩
                        rw [← eg382] at sp375
                        have eg383 : g382.2 = g306.2 := by rw [eg382]; exact tw_fd_2 (f := tw_weM) (fun _ _ => rfl) _
                        have ng382 : g382.2 3 = g306.2 3 := by rw [eg383]
                        have mcg382 : g382.1 3 = (g306.1 3) := by rw [eg382]; exact tw_fd_1 (P := fun x => x = 3) (N := 4) (fun g8 j8 x8 hj8 hx8 => tw_weM_1 _ _ _ (by have hx8 : x8 = 3 := hx8; omega)) _ (by omega) _ rfl
                        have hAg382 : tw_AM 59000000 g382 := by rw [eg382]; exact tw_fw_A hA9 (by decide) _ (by omega)
                        refine tw_aload_n 3 dX10_pass_153 rfl rfl ?_
                        obtain ⟨e384, f385, ⟨el386, rfl, k387⟩, k388⟩ := sp375.1 lc_327 24 k336 (by decide)
                        refine tw_bi (tw_callF (M := mX10_pass) (pc := 154) (n9 := 0) (ci := 2) tw_hasNext ok_itHas w_1412 w_1410 (fun s H z => z.2.2.2.2.2.2.2.2.1) (by decide +kernel) dX10_pass_154 w_1406 rfl ft376 [] [] rfl rfl ⟨by decide, by decide⟩ (Nat.le_of_ble_eq_true rfl) (c_hasNext d h374 it357 lc_327 el386 j370 (g382.2 3) l371 (g382.1 3) (g306.1 3) ft376 f385 (by omega) (tw_lim24 sp375.1 k336)) (((0 + 2 * (r156 + 1)) - 1) - 1) (((0 + 8 * (r156 + 1)) - 4) - 4) (by omega) (by omega)) (fun r391 h390 q389 => ?_) (fun E h1 q => q.elim)
                        obtain ⟨q389e, q389q⟩ := q389
                        rw [q389e]
                        rcases q389q with ⟨q389r, q389j⟩ | ⟨q389r, q389j⟩
                        · rw [q389r]
                          refine tw_if_eq 226 dX10_pass_159 (by decide) (fun _ => ?_) (fun c392 => absurd (by decide) c392)
                          have ew9 : g382 = tw_fd tw_weM g306 (g165.2 3) := by rw [eg382, show j370 = g165.2 3 by have z := q389j; omega]
                          obtain ⟨v393, ev393⟩ : ∃ y : Int32, y = (nI k155) + 1 := ⟨_, rfl⟩
                          refine tw_iinc [(2, .int v393), (0, .ref x), (1, .int (nI D)), (3, .ref it357)] 2 dX10_pass_226 rfl (by rw [ev393]; rfl) (by decide) rfl ?_
                          refine tw_goto 53 dX10_pass_229 (by decide) ?_
                          have qv393 := tw_nI3 ev393
                          rw [qv393]
                          refine tw_lv [1, 2, 0] rfl ?_
                          refine tw_less (c2 := 0 + 2 * r156) (n2 := 0 + 8 * r156) (by omega) (by omega) ?_
                          exact ih157 (k155 + 1) _ (by rw [show tw_dsM g (k155 + 1) = tw_dyM g165 from by rw [eg165]; rfl]; unfold tw_dyM; rw [if_pos wd9, ← egB, ← ek9, ← ew9]; exact (sp291.trm n286 (sp366.trm n360 sp375))) th378 oq379 (by omega) (by omega)
                        · rw [q389r]
                          refine tw_if_eq 226 dX10_pass_159 (by decide) (fun c394 => absurd c394 (by decide)) (fun _ => ?_)
                          refine tw_aload_n 3 dX10_pass_162 rfl rfl ?_
                          have k395 : τ el386 = 27 := k387.resolve_left (fun q => absurd q389j (by rw [q.2.1]; exact Nat.not_lt_zero _))
                          obtain ⟨e396, f397, ⟨F398, rfl, hc399, hc400⟩, un401⟩ := sp375.1 el386 27 k395 (by decide)
                          obtain ⟨y402, hy403, ky404⟩ := hc400 j370 q389j
                          have f405 := f385
                          rw [mcg382] at f405
                          refine tw_br (tw_callF (M := mX10_pass) (pc := 163) (n9 := 0) (ci := 2) tw_next ok_itNext w_1421 w_1419 (fun s H z => z.2.2.2.2.2.2.2.2.2) (by decide +kernel) dX10_pass_163 w_1416 rfl ft376 [] [] rfl rfl ⟨by decide, by decide⟩ (Nat.le_of_ble_eq_true rfl) (c_next d h374 it357 lc_327 el386 j370 (g382.2 3) y402 l371 (g306.1 3) F398 ft376 f405 f397 q389j hc399 hy403) (((0 + 2 * (r156 + 1)) - 1) - 1) (((0 + 8 * (r156 + 1)) - 4) - 4) (by omega) (by omega)) (fun r408 h407 q406 => ?_) (fun E h1 q => q.elim)
                          obtain ⟨q406r, q406e⟩ := q406
                          rw [q406r]
                          have sp409 : tw_sp d τ (tw_rm h363 it357) g382 τ h407 := by rw [q406e]; exact sp375.wl tw_rm_s zt377
                          have id410 : g382.2 (4096 + y402) = 480 + 64 * j370 := un401.2.2 _ _ F398 rfl j370 y402 q389j hy403
                          have th411 : tw_th (h407 x) = 0 := by rw [q406e, tw_up_n (tw_nk kx zt377 (by decide))] <;> exact th378
                          have oq412 : h407 o = h o := by rw [q406e, tw_up_n (tw_nk ko zt377 (by decide))] <;> exact oq379
                          have f413 : h407 it357 = some (.inr (2, [.int (nI (j370 + 1)), .int (nI j370), .int (g306.1 3), .ref lc_327])) := by rw [q406e]; exact tw_up_s
                          obtain ⟨e414, f415, r_416, c_417, v_418, o_419, t_420, rfl, k421, k422, k423, k424, k425, k426⟩ := sp409.1 y402 21 ky404 (by decide)
                          obtain ⟨j427, ow428, fr9, fc9, q429, q430, q431⟩ := k426
                          obtain rfl : j370 = j427 := by have z := ow428.b id410; omega
                          subst fr9 fc9
                          refine tw_castS (ci := 11) rfl dX10_pass_168 w_1208 f415 ?_
                          refine tw_astore [(4, .ref y402), (0, .ref x), (1, .int (nI D)), (2, .int (nI k155)), (3, .ref it357)] dX10_pass_171 (by decide) rfl ?_
                          refine tw_aload_n 1 dX10_pass_173 rfl rfl ?_
                          obtain ⟨e432, f433, th_434, td_435, ds_436, fr_437, ca_438, us_439, wo_440, cm_441, lc_442, lh_443, ld_444, rfl, k445, k446, k447, k448, k449, k450, k451, k452, k453, k454, k455, k456, k457, k458, k459, k460, k461, k462, k463, k464, k465, k466⟩ := sp409.1 x 36 kx (by decide)
                          refine tw_get (v := .int td_435) rfl in_14 1 dX10_pass_174 w_1152 rfl (by decide) f433 rfl ?_
                          refine tw_bipush (v := 30) dX10_pass_177 (by decide) ?_
                          refine tw_irem dX10_pass_179 (by decide) ?_
                          refine tw_nmi (fun v467 ev467 => ?_)
                          have m9 : v467 = nI ((g165.2 22 + 1) % 30) := by rw [ev467, k459, eg383, gkT]; exact tw_I_mod (b := 30) (by omega) (by decide) (by decide)
                          refine tw_if_ne 197 dX10_pass_180 (by decide) (fun c468 => absurd (by rw [m9, wd9]; rfl) c468) (fun _ => ?_)
                          refine tw_aload 0 dX10_pass_183 rfl ?_
                          refine tw_get (v := .ref v_418) rfl in_11 2 dX10_pass_185 w_1217 rfl (by decide) f415 rfl ?_
                          refine tw_iconst (v := 1) dX10_pass_188 (by decide) ?_
                          obtain ⟨e469, f470, F471, rfl, ⟨b473, ow474, wv475⟩⟩ := sp409.1 v_418 31 k421 (by decide)
                          obtain rfl : (480 + 64 * j370 + 16) = b473 := (ow474.b q431).symm
                          have ev476 : F471 (1 : Int32).toNatClampNeg = (g382.1 ((480 + 64 * j370 + 16) + 1)).toInt64 := by rw [show (1 : Int32).toNatClampNeg = 1 by decide]; exact wv475 1 (by omega)
                          refine tw_lald (v := (g382.1 ((480 + 64 * j370 + 16) + 1)).toInt64) dX10_pass_189 f470 (vp_in_nI (n := 1) (by decide) (by decide)) ev476 ?_
                          refine tw_ldc2 (v := 10000) dX10_pass_190 w_1428 ?_
                          refine tw_ldiv dX10_pass_193 (by decide) ?_
                          refine tw_nml (fun v477 ev477 => ?_)
                          refine tw_goto 198 dX10_pass_194 (by decide) ?_
                          refine tw_lstore [(5, .long v477), (4, .ref y402), (0, .ref x), (1, .int (nI D)), (2, .int (nI k155)), (3, .ref it357)] dX10_pass_198 (by decide) rfl ?_
                          refine tw_aload 1 dX10_pass_200 rfl ?_
                          refine tw_get (v := .ref v_418) rfl in_11 2 dX10_pass_202 w_1217 rfl (by decide) f415 rfl ?_
                          refine tw_iconst (v := 1) dX10_pass_205 (by decide) ?_
                          refine tw_dup2 dX10_pass_206 rfl rfl ?_
                          have ev478 : F471 (1 : Int32).toNatClampNeg = (g382.1 ((480 + 64 * j370 + 16) + 1)).toInt64 := by rw [show (1 : Int32).toNatClampNeg = 1 by decide]; exact wv475 1 (by omega)
                          refine tw_lald (v := (g382.1 ((480 + 64 * j370 + 16) + 1)).toInt64) dX10_pass_207 f470 (vp_in_nI (n := 1) (by decide) (by decide)) ev478 ?_
                          refine tw_lload 0 dX10_pass_208 rfl ?_
                          refine tw_lsub dX10_pass_210 ?_
                          refine tw_nml (fun v479 ev479 => ?_)
                          have pv9 := hAg382.v (j := j370) (k := 1) (by omega) (by decide)
                          have dv9 : (g382.1 (480 + 64 * j370 + 16 + 1)) / 10000 = nI (tw_DN (g382.1 (480 + 64 * j370 + 16 + 1)) / 10000) := by rw [pv9.1, tw_DN_nI (by omega)]; exact tw_I_div (b := 10000) (by omega) (by decide)
                          have dl9 : tw_DN (g382.1 (480 + 64 * j370 + 16 + 1)) / 10000 ≤ tw_DN (g382.1 (480 + 64 * j370 + 16 + 1)) := Nat.div_le_self _ _
                          have le8 : v477 = tw_L (tw_DN (g382.1 (480 + 64 * j370 + 16 + 1)) / 10000) := by rw [ev477, show (g382.1 (480 + 64 * j370 + 16 + 1)).toInt64 = tw_L (tw_DN (g382.1 (480 + 64 * j370 + 16 + 1))) from by rw [pv9.1, tw_DN_nI (by omega)]; exact tw_L_i (by omega)]; exact tw_L_div (b := 10000) (by omega) (by decide)
                          have ce480 : (g382.1 ((480 + 64 * j370 + 16) + 1)) = nI (tw_DN (g382.1 ((480 + 64 * j370 + 16) + 1))) := by (repeat (first | rw [tw_ad_ne (by omega)] | rw [tw_g1_ne (by omega)])); exact (hAg382.v (j := j370) (k := 1) (by omega) (by omega)).1
                          have cb481 : tw_DN (g382.1 ((480 + 64 * j370 + 16) + 1)) ≤ 59000000 := (hAg382.v (j := j370) (k := 1) (by omega) (by omega)).2
                          refine tw_last dX10_pass_211 f470 (vp_in_nI (n := 1) (by decide) (by decide)) ?_
                          rw [show (1 : Int32).toNatClampNeg = 1 by decide]
                          obtain ⟨h482, eh482⟩ : ∃ z : tw_H, z = tw_up h407 v_418 (.inl (d.2 1, 2, .inr (.inl (vp_updL F471 1 v479)))) := ⟨_, rfl⟩
                          rw [← eh482]
                          have th483 : tw_th (h482 x) = 0 := by rw [eh482, tw_up_n (tw_nk kx k421 (by decide))] <;> exact th411
                          have oq484 : h482 o = h o := by rw [eh482, tw_up_n (tw_nk ko k421 (by decide))] <;> exact oq412
                          have sp485 : tw_sp d τ (tw_rm h363 it357) (tw_ad g382 ((480 + 64 * j370 + 16) + 1) (-nI (tw_DN (g382.1 (480 + 64 * j370 + 16 + 1)) / 10000))) τ h482 := by rw [eh482]; exact sp409.wb k421 (by decide) ow474 ⟨_, rfl, tw_f31.up ow474 wv475 (ev479.trans (tw_l_sub ce480 le8 (by omega) (by omega)))⟩ (fun q9 hq9 => tw_ad_ne (by omega)) rfl
                          have f486 : h482 it357 = some (.inr (2, [.int (nI (j370 + 1)), .int (nI j370), .int (g306.1 3), .ref lc_327])) := by rw [eh482, tw_up_n (fun q => absurd (zt377) (by rw [q, k421]; decide))]; exact f413
                          refine tw_aload_n 2 dX10_pass_212 rfl rfl ?_
                          obtain ⟨e487, f488, th_489, td_490, ds_491, fr_492, ca_493, us_494, wo_495, cm_496, lc_497, lh_498, ld_499, rfl, k500, k501, k502, k503, k504, k505, k506, k507, k508, k509, k510, k511, k512, k513, k514, k515, k516, k517, k518, k519, k520, k521⟩ := sp485.1 x 36 kx (by decide)
                          refine tw_get (v := .ref wo_495) rfl in_14 7 dX10_pass_213 w_1158 rfl (by decide) f488 rfl ?_
                          refine tw_iconst (v := 1) dX10_pass_216 (by decide) ?_
                          refine tw_dup2 dX10_pass_217 rfl rfl ?_
                          obtain ⟨e522, f523, F524, rfl, ⟨b526, ow527, wv528⟩⟩ := sp485.1 wo_495 31 k504 (by decide)
                          obtain rfl : 1360 = b526 := (ow527.b k520).symm
                          have ev529 : F524 (1 : Int32).toNatClampNeg = ((tw_ad g382 ((480 + 64 * j370 + 16) + 1) (-nI (tw_DN (g382.1 (480 + 64 * j370 + 16 + 1)) / 10000))).1 (1360 + 1)).toInt64 := by rw [show (1 : Int32).toNatClampNeg = 1 by decide]; exact wv528 1 (by omega)
                          refine tw_lald (v := ((tw_ad g382 ((480 + 64 * j370 + 16) + 1) (-nI (tw_DN (g382.1 (480 + 64 * j370 + 16 + 1)) / 10000))).1 (1360 + 1)).toInt64) dX10_pass_218 f523 (vp_in_nI (n := 1) (by decide) (by decide)) ev529 ?_
                          refine tw_lload 0 dX10_pass_219 rfl ?_
                          refine tw_ladd dX10_pass_221 ?_
                          refine tw_nml (fun v530 ev530 => ?_)
                          have ce531 : ((tw_ad g382 ((480 + 64 * j370 + 16) + 1) (-nI (tw_DN (g382.1 (480 + 64 * j370 + 16 + 1)) / 10000))).1 (1360 + 1)) = nI (tw_DN (g382.1 (1360 + 1))) := by (repeat (first | rw [tw_ad_ne (by omega)] | rw [tw_g1_ne (by omega)])); exact (hAg382.s (s := 2) (k := 1) (by decide) (by omega)).1
                          have cb532 : tw_DN (g382.1 (1360 + 1)) ≤ 59000000 := (hAg382.s (s := 2) (k := 1) (by decide) (by omega)).2
                          refine tw_last dX10_pass_222 f523 (vp_in_nI (n := 1) (by decide) (by decide)) ?_
                          rw [show (1 : Int32).toNatClampNeg = 1 by decide]
                          obtain ⟨h533, eh533⟩ : ∃ z : tw_H, z = tw_up h482 wo_495 (.inl (d.2 1, 2, .inr (.inl (vp_updL F524 1 v530)))) := ⟨_, rfl⟩
                          rw [← eh533]
                          have th534 : tw_th (h533 x) = 0 := by rw [eh533, tw_up_n (tw_nk kx k504 (by decide))] <;> exact th483
                          have oq535 : h533 o = h o := by rw [eh533, tw_up_n (tw_nk ko k504 (by decide))] <;> exact oq484
                          have sp536 : tw_sp d τ (tw_rm h363 it357) (tw_ad (tw_ad g382 ((480 + 64 * j370 + 16) + 1) (-nI (tw_DN (g382.1 (480 + 64 * j370 + 16 + 1)) / 10000))) (1360 + 1) (nI (tw_DN (g382.1 (480 + 64 * j370 + 16 + 1)) / 10000))) τ h533 := by rw [eh533]; exact sp485.wb k504 (by decide) ow527 ⟨_, rfl, tw_f31.up ow527 wv528 (ev530.trans (tw_l_add ce531 le8 (by omega)))⟩ (fun q9 hq9 => tw_ad_ne (by omega)) rfl
                          have f537 : h533 it357 = some (.inr (2, [.int (nI (j370 + 1)), .int (nI j370), .int (g306.1 3), .ref lc_327])) := by rw [eh533, tw_up_n (fun q => absurd (zt377) (by rw [q, k504]; decide))]; exact f486
                          refine tw_goto 153 dX10_pass_223 (by decide) ?_
                          refine tw_lv [2, 3, 4, 5] rfl ?_
                          exact ih372 ((j370 + 1)) (nI j370) _ (by rw [show tw_fd tw_weM g306 (j370 + 1) = tw_weM g382 j370 from by rw [eg382]; rfl, show tw_weM g382 j370 = (tw_ad (tw_ad g382 ((480 + 64 * j370 + 16) + 1) (-nI (tw_DN (g382.1 (480 + 64 * j370 + 16 + 1)) / 10000))) (1360 + 1) (nI (tw_DN (g382.1 (480 + 64 * j370 + 16 + 1)) / 10000))) from by unfold tw_weM; rw [dv9]]; exact sp536) f537 zt377 th534 oq535 (by omega) (by omega)
                    refine tw_lv [1, 2, 3, 0] rfl ?_
                    exact L373 (g306.2 3 + 1) 0 (-1) _ (by rw [show tw_fd tw_weM g306 0 = g306 from rfl]; exact tw_sp.rm sp366.1 it357) f368 z361 th364 oq365 (by omega) (Nat.zero_le _)
                  · skip
                    refine tw_aload_n 0 dX10_pass_145 rfl rfl ?_
                    obtain ⟨e538, f539, th_540, td_541, ds_542, fr_543, ca_544, us_545, wo_546, cm_547, lc_548, lh_549, ld_550, rfl, k551, k552, k553, k554, k555, k556, k557, k558, k559, k560, k561, k562, k563, k564, k565, k566, k567, k568, k569, k570, k571, k572⟩ := sp299.1 x 36 kx (by decide)
                    refine tw_get (v := .ref lc_548) rfl in_14 9 dX10_pass_146 w_1160 rfl (by decide) f539 rfl ?_
                    obtain ⟨e573, f574, ⟨el575, rfl, k576⟩, k577⟩ := sp299.1 lc_548 24 k557 (by decide)
                    refine tw_br (tw_callV (M := mX10_pass) (pc := 149) okJx4a65c_iterator_32c93 dX10_pass_149 w_1382 rfl f574 [] [] rfl rfl ⟨by decide, by decide⟩ (Nat.le_of_ble_eq_true rfl) (c_iterator d h298 lc_548 el575 (g306.1 3) (nI (g306.2 3)) f574) (((0 + 2 * (r156 + 1)) - 1) - 1) (((0 + 8 * (r156 + 1)) - 4) - 4) (by omega) (by omega)) (fun it578 h579 q580 => ?_) (fun E h1 q => q.elim)
                    obtain ⟨q580n, q580e⟩ := q580
                    rw [q580e]
                    have n581 := sp299.nn q580n
                    have z582 := sp299.1.none q580n
                    have ne583 := tw_neF ft300 q580n
                    obtain ⟨h584, eh584⟩ : ∃ z : tw_H, z = tw_up h298 it578 (.inr (2, [.int 0, .int (-1), .int (g306.1 3), .ref lc_548])) := ⟨_, rfl⟩
                    rw [← eh584]
                    have th585 : tw_th (h584 x) = 0 := by rw [eh584, tw_up_n (tw_kF sp299.1 kx (by decide) q580n)] <;> exact th302
                    have oq586 : h584 o = h o := by rw [eh584, tw_up_n (tw_kF sp299.1 ko (by decide) q580n)] <;> exact oq303
                    have sp587 : tw_sp d τ (tw_rm h288 it283) g306 τ h584 := by rw [eh584]; exact sp299.mk q580n
                    have f588 : h584 it283 = some (.inr (2, [.int (nI j294), .int l295, .int (gB.1 4), .ref lh_254])) := by rw [eh584, tw_up_n ne583]; exact ft300
                    have f589 : h584 it578 = some (.inr (2, [.int 0, .int (-1), .int (g306.1 3), .ref lc_548])) := by rw [eh584]; exact tw_up_s
                    refine tw_astore_n [(3, .ref it578), (0, .ref x), (1, .int (nI D)), (2, .int (nI k155))] dX10_pass_152 rfl (by decide) rfl ?_
                    have L594 : ∀ (r590 j591 : Nat) (l592 : Int32) (h595 : tw_H) (sp596 : tw_sp d τ (tw_rm h584 it578) (g306) τ h595) (ft597 : h595 it578 = some (.inr (2, [.int (nI j591), .int l592, .int (g306.1 3), .ref lc_548]))) (zt598 : τ it578 = 0) (th599 : tw_th (h595 x) = 0) (oq600 : h595 o = h o), g306.2 3 + 1 ≤ j591 + r590 → j591 ≤ g306.2 3 → tw_W d mX10_pass (tw_qi (fun r9 h1 => ∃ g1 τ1, tw_sp d τ h g1 τ1 h1 ∧ h1 o = h o ∧ ((¬ tw_RP (nI D) ∧ tw_th (h1 x) = 1 ∧ g1 = g) ∨ (tw_RP (nI D) ∧ ¬ g.2 22 + tw_DN (nI D) ≤ 3000 ∧ tw_th (h1 x) = 2 ∧ g1 = g) ∨ (tw_RP (nI D) ∧ g.2 22 + tw_DN (nI D) ≤ 3000 ∧ r9 = nI (g.2 22 + tw_DN (nI D)) ∧ tw_th (h1 x) = 0 ∧ g1 = tw_dsM g (tw_DN (nI D))))) tw_nx) 153 [(0, .ref x), (1, .int (nI D)), (2, .int (nI k155)), (3, .ref it578)] [] h595 (((0 + 2 * (r156 + 1)) - 1) - 1) (((0 + 8 * (r156 + 1)) - 4) - 4) := by
                      intro r590
                      induction r590 with
                      | zero => intro j591 l592 h595 sp596 ft597 zt598 th599 oq600 hk601 hk602; exact absurd hk601 (by omega)
                      | succ r590 ih593 =>
                        intro j591 l592 h595 sp596 ft597 zt598 th599 oq600 hk601 hk602
                        obtain ⟨g603, eg603⟩ : ∃ z : tw_G, z = g306 := ⟨_, rfl⟩
                        rw [← eg603] at sp596
                        have eg604 : g603.2 = g306.2 := by rw [eg603]
                        have ng603 : g603.2 3 = g306.2 3 := by rw [eg604]
                        have mcg603 : g603.1 3 = (g306.1 3) := by rw [eg603]
                        have hAg603 : tw_AM 59000000 g603 := by rw [eg603]; exact hA9
                        refine tw_aload_n 3 dX10_pass_153 rfl rfl ?_
                        obtain ⟨e605, f606, ⟨el607, rfl, k608⟩, k609⟩ := sp596.1 lc_548 24 k557 (by decide)
                        refine tw_bi (tw_callF (M := mX10_pass) (pc := 154) (n9 := 0) (ci := 2) tw_hasNext ok_itHas w_1412 w_1410 (fun s H z => z.2.2.2.2.2.2.2.2.1) (by decide +kernel) dX10_pass_154 w_1406 rfl ft597 [] [] rfl rfl ⟨by decide, by decide⟩ (Nat.le_of_ble_eq_true rfl) (c_hasNext d h595 it578 lc_548 el607 j591 (g603.2 3) l592 (g603.1 3) (g306.1 3) ft597 f606 (by omega) (tw_lim24 sp596.1 k557)) (((0 + 2 * (r156 + 1)) - 1) - 1) (((0 + 8 * (r156 + 1)) - 4) - 4) (by omega) (by omega)) (fun r612 h611 q610 => ?_) (fun E h1 q => q.elim)
                        obtain ⟨q610e, q610q⟩ := q610
                        rw [q610e]
                        rcases q610q with ⟨q610r, q610j⟩ | ⟨q610r, q610j⟩
                        · rw [q610r]
                          refine tw_if_eq 226 dX10_pass_159 (by decide) (fun _ => ?_) (fun c613 => absurd (by decide) c613)
                          have ek9 := eg603.trans ek9
                          obtain ⟨v614, ev614⟩ : ∃ y : Int32, y = (nI k155) + 1 := ⟨_, rfl⟩
                          refine tw_iinc [(2, .int v614), (0, .ref x), (1, .int (nI D)), (3, .ref it578)] 2 dX10_pass_226 rfl (by rw [ev614]; rfl) (by decide) rfl ?_
                          refine tw_goto 53 dX10_pass_229 (by decide) ?_
                          have qv614 := tw_nI3 ev614
                          rw [qv614]
                          refine tw_lv [1, 2, 0] rfl ?_
                          refine tw_less (c2 := 0 + 2 * r156) (n2 := 0 + 8 * r156) (by omega) (by omega) ?_
                          exact ih157 (k155 + 1) _ (by rw [show tw_dsM g (k155 + 1) = tw_dyM g165 from by rw [eg165]; rfl]; unfold tw_dyM; rw [if_neg wd9, ← egB, ← ek9]; exact (sp291.trm n286 (sp587.trm n581 sp596))) th599 oq600 (by omega) (by omega)
                        · rw [q610r]
                          refine tw_if_eq 226 dX10_pass_159 (by decide) (fun c615 => absurd c615 (by decide)) (fun _ => ?_)
                          refine tw_aload_n 3 dX10_pass_162 rfl rfl ?_
                          have k616 : τ el607 = 27 := k608.resolve_left (fun q => absurd q610j (by rw [q.2.1]; exact Nat.not_lt_zero _))
                          obtain ⟨e617, f618, ⟨F619, rfl, hc620, hc621⟩, un622⟩ := sp596.1 el607 27 k616 (by decide)
                          obtain ⟨y623, hy624, ky625⟩ := hc621 j591 q610j
                          have f626 := f606
                          rw [mcg603] at f626
                          refine tw_br (tw_callF (M := mX10_pass) (pc := 163) (n9 := 0) (ci := 2) tw_next ok_itNext w_1421 w_1419 (fun s H z => z.2.2.2.2.2.2.2.2.2) (by decide +kernel) dX10_pass_163 w_1416 rfl ft597 [] [] rfl rfl ⟨by decide, by decide⟩ (Nat.le_of_ble_eq_true rfl) (c_next d h595 it578 lc_548 el607 j591 (g603.2 3) y623 l592 (g306.1 3) F619 ft597 f626 f618 q610j hc620 hy624) (((0 + 2 * (r156 + 1)) - 1) - 1) (((0 + 8 * (r156 + 1)) - 4) - 4) (by omega) (by omega)) (fun r629 h628 q627 => ?_) (fun E h1 q => q.elim)
                          obtain ⟨q627r, q627e⟩ := q627
                          rw [q627r]
                          have sp630 : tw_sp d τ (tw_rm h584 it578) g603 τ h628 := by rw [q627e]; exact sp596.wl tw_rm_s zt598
                          have id631 : g603.2 (4096 + y623) = 480 + 64 * j591 := un622.2.2 _ _ F619 rfl j591 y623 q610j hy624
                          have th632 : tw_th (h628 x) = 0 := by rw [q627e, tw_up_n (tw_nk kx zt598 (by decide))] <;> exact th599
                          have oq633 : h628 o = h o := by rw [q627e, tw_up_n (tw_nk ko zt598 (by decide))] <;> exact oq600
                          have f634 : h628 it578 = some (.inr (2, [.int (nI (j591 + 1)), .int (nI j591), .int (g306.1 3), .ref lc_548])) := by rw [q627e]; exact tw_up_s
                          obtain ⟨e635, f636, r_637, c_638, v_639, o_640, t_641, rfl, k642, k643, k644, k645, k646, k647⟩ := sp630.1 y623 21 ky625 (by decide)
                          obtain ⟨j648, ow649, fr9, fc9, q650, q651, q652⟩ := k647
                          obtain rfl : j591 = j648 := by have z := ow649.b id631; omega
                          subst fr9 fc9
                          refine tw_castS (ci := 11) rfl dX10_pass_168 w_1208 f636 ?_
                          refine tw_astore [(4, .ref y623), (0, .ref x), (1, .int (nI D)), (2, .int (nI k155)), (3, .ref it578)] dX10_pass_171 (by decide) rfl ?_
                          refine tw_aload_n 1 dX10_pass_173 rfl rfl ?_
                          obtain ⟨e653, f654, th_655, td_656, ds_657, fr_658, ca_659, us_660, wo_661, cm_662, lc_663, lh_664, ld_665, rfl, k666, k667, k668, k669, k670, k671, k672, k673, k674, k675, k676, k677, k678, k679, k680, k681, k682, k683, k684, k685, k686, k687⟩ := sp630.1 x 36 kx (by decide)
                          refine tw_get (v := .int td_656) rfl in_14 1 dX10_pass_174 w_1152 rfl (by decide) f654 rfl ?_
                          refine tw_bipush (v := 30) dX10_pass_177 (by decide) ?_
                          refine tw_irem dX10_pass_179 (by decide) ?_
                          refine tw_nmi (fun v688 ev688 => ?_)
                          have m9 : v688 = nI ((g165.2 22 + 1) % 30) := by rw [ev688, k680, eg604, gkT]; exact tw_I_mod (b := 30) (by omega) (by decide) (by decide)
                          refine tw_if_ne 197 dX10_pass_180 (by decide) (fun _ => ?_) (fun c689 => absurd c689 (fun z => wd9 (tw_nIj (b := 0) (m9.symm.trans z) (by omega) (by decide))))
                          refine tw_lconst (v := 0) dX10_pass_197 (by decide) ?_
                          refine tw_lstore [(5, .long 0), (4, .ref y623), (0, .ref x), (1, .int (nI D)), (2, .int (nI k155)), (3, .ref it578)] dX10_pass_198 (by decide) rfl ?_
                          refine tw_aload 1 dX10_pass_200 rfl ?_
                          refine tw_get (v := .ref v_639) rfl in_11 2 dX10_pass_202 w_1217 rfl (by decide) f636 rfl ?_
                          refine tw_iconst (v := 1) dX10_pass_205 (by decide) ?_
                          refine tw_dup2 dX10_pass_206 rfl rfl ?_
                          obtain ⟨e690, f691, F692, rfl, ⟨b694, ow695, wv696⟩⟩ := sp630.1 v_639 31 k642 (by decide)
                          obtain rfl : (480 + 64 * j591 + 16) = b694 := (ow695.b q652).symm
                          have ev697 : F692 (1 : Int32).toNatClampNeg = (g603.1 ((480 + 64 * j591 + 16) + 1)).toInt64 := by rw [show (1 : Int32).toNatClampNeg = 1 by decide]; exact wv696 1 (by omega)
                          refine tw_lald (v := (g603.1 ((480 + 64 * j591 + 16) + 1)).toInt64) dX10_pass_207 f691 (vp_in_nI (n := 1) (by decide) (by decide)) ev697 ?_
                          refine tw_lload 0 dX10_pass_208 rfl ?_
                          refine tw_lsub dX10_pass_210 ?_
                          refine tw_nml (fun v698 ev698 => ?_)
                          have ce699 : (g603.1 ((480 + 64 * j591 + 16) + 1)) = nI (tw_DN (g603.1 ((480 + 64 * j591 + 16) + 1))) := by (repeat (first | rw [tw_ad_ne (by omega)] | rw [tw_g1_ne (by omega)])); exact (hAg603.v (j := j591) (k := 1) (by omega) (by omega)).1
                          have cb700 : tw_DN (g603.1 ((480 + 64 * j591 + 16) + 1)) ≤ 59000000 := (hAg603.v (j := j591) (k := 1) (by omega) (by omega)).2
                          refine tw_last dX10_pass_211 f691 (vp_in_nI (n := 1) (by decide) (by decide)) ?_
                          rw [show (1 : Int32).toNatClampNeg = 1 by decide]
                          obtain ⟨h701, eh701⟩ : ∃ z : tw_H, z = tw_up h628 v_639 (.inl (d.2 1, 2, .inr (.inl (vp_updL F692 1 v698)))) := ⟨_, rfl⟩
                          rw [← eh701]
                          have th702 : tw_th (h701 x) = 0 := by rw [eh701, tw_up_n (tw_nk kx k642 (by decide))] <;> exact th632
                          have oq703 : h701 o = h o := by rw [eh701, tw_up_n (tw_nk ko k642 (by decide))] <;> exact oq633
                          have sp704 : tw_sp d τ (tw_rm h584 it578) (tw_ad g603 ((480 + 64 * j591 + 16) + 1) (-nI 0)) τ h701 := by rw [eh701]; exact sp630.wb k642 (by decide) ow695 ⟨_, rfl, tw_f31.up ow695 wv696 (ev698.trans (tw_l_sub ce699 (rfl : (0 : Int64) = tw_L 0) (by omega) (by omega)))⟩ (fun q9 hq9 => tw_ad_ne (by omega)) rfl
                          have f705 : h701 it578 = some (.inr (2, [.int (nI (j591 + 1)), .int (nI j591), .int (g306.1 3), .ref lc_548])) := by rw [eh701, tw_up_n (fun q => absurd (zt598) (by rw [q, k642]; decide))]; exact f634
                          refine tw_aload_n 2 dX10_pass_212 rfl rfl ?_
                          obtain ⟨e706, f707, th_708, td_709, ds_710, fr_711, ca_712, us_713, wo_714, cm_715, lc_716, lh_717, ld_718, rfl, k719, k720, k721, k722, k723, k724, k725, k726, k727, k728, k729, k730, k731, k732, k733, k734, k735, k736, k737, k738, k739, k740⟩ := sp704.1 x 36 kx (by decide)
                          refine tw_get (v := .ref wo_714) rfl in_14 7 dX10_pass_213 w_1158 rfl (by decide) f707 rfl ?_
                          refine tw_iconst (v := 1) dX10_pass_216 (by decide) ?_
                          refine tw_dup2 dX10_pass_217 rfl rfl ?_
                          obtain ⟨e741, f742, F743, rfl, ⟨b745, ow746, wv747⟩⟩ := sp704.1 wo_714 31 k723 (by decide)
                          obtain rfl : 1360 = b745 := (ow746.b k739).symm
                          have ev748 : F743 (1 : Int32).toNatClampNeg = ((tw_ad g603 ((480 + 64 * j591 + 16) + 1) (-nI 0)).1 (1360 + 1)).toInt64 := by rw [show (1 : Int32).toNatClampNeg = 1 by decide]; exact wv747 1 (by omega)
                          refine tw_lald (v := ((tw_ad g603 ((480 + 64 * j591 + 16) + 1) (-nI 0)).1 (1360 + 1)).toInt64) dX10_pass_218 f742 (vp_in_nI (n := 1) (by decide) (by decide)) ev748 ?_
                          refine tw_lload 0 dX10_pass_219 rfl ?_
                          refine tw_ladd dX10_pass_221 ?_
                          refine tw_nml (fun v749 ev749 => ?_)
                          have ce750 : ((tw_ad g603 ((480 + 64 * j591 + 16) + 1) (-nI 0)).1 (1360 + 1)) = nI (tw_DN (g603.1 (1360 + 1))) := by (repeat (first | rw [tw_ad_ne (by omega)] | rw [tw_g1_ne (by omega)])); exact (hAg603.s (s := 2) (k := 1) (by decide) (by omega)).1
                          have cb751 : tw_DN (g603.1 (1360 + 1)) ≤ 59000000 := (hAg603.s (s := 2) (k := 1) (by decide) (by omega)).2
                          refine tw_last dX10_pass_222 f742 (vp_in_nI (n := 1) (by decide) (by decide)) ?_
                          rw [show (1 : Int32).toNatClampNeg = 1 by decide]
                          obtain ⟨h752, eh752⟩ : ∃ z : tw_H, z = tw_up h701 wo_714 (.inl (d.2 1, 2, .inr (.inl (vp_updL F743 1 v749)))) := ⟨_, rfl⟩
                          rw [← eh752]
                          have th753 : tw_th (h752 x) = 0 := by rw [eh752, tw_up_n (tw_nk kx k723 (by decide))] <;> exact th702
                          have oq754 : h752 o = h o := by rw [eh752, tw_up_n (tw_nk ko k723 (by decide))] <;> exact oq703
                          have sp755 : tw_sp d τ (tw_rm h584 it578) (tw_ad (tw_ad g603 ((480 + 64 * j591 + 16) + 1) (-nI 0)) (1360 + 1) (nI 0)) τ h752 := by rw [eh752]; exact sp704.wb k723 (by decide) ow746 ⟨_, rfl, tw_f31.up ow746 wv747 (ev749.trans (tw_l_add ce750 (rfl : (0 : Int64) = tw_L 0) (by omega)))⟩ (fun q9 hq9 => tw_ad_ne (by omega)) rfl
                          have f756 : h752 it578 = some (.inr (2, [.int (nI (j591 + 1)), .int (nI j591), .int (g306.1 3), .ref lc_548])) := by rw [eh752, tw_up_n (fun q => absurd (zt598) (by rw [q, k723]; decide))]; exact f705
                          refine tw_goto 153 dX10_pass_223 (by decide) ?_
                          refine tw_lv [2, 3, 4, 5] rfl ?_
                          exact ih593 ((j591 + 1)) (nI j591) _ (by rw [← eg603, show g603 = (tw_ad (tw_ad g603 ((480 + 64 * j591 + 16) + 1) (-nI 0)) (1360 + 1) (nI 0)) from by rw [tw_ad_n0, tw_ad_0]]; exact sp755) f756 zt598 th753 oq754 (by omega) (by omega)
                    refine tw_lv [1, 2, 3, 0] rfl ?_
                    exact L594 (g306.2 3 + 1) 0 (-1) _ (by rw [show g306 = g306 from rfl]; exact tw_sp.rm sp587.1 it578) f589 z582 th585 oq586 (by omega) (Nat.zero_le _)
                · rw [q313r]
                  refine tw_if_eq 145 dX10_pass_82 (by decide) (fun c757 => absurd c757 (by decide)) (fun _ => ?_)
                  refine tw_aload_n 3 dX10_pass_85 rfl rfl ?_
                  have k758 : τ el310 = 28 := k311.resolve_left (fun q => absurd q313j (by rw [q.2.1]; exact Nat.not_lt_zero _))
                  obtain ⟨e759, f760, ⟨F761, rfl, hc762, hc763⟩, un764⟩ := sp299.1 el310 28 k758 (by decide)
                  obtain ⟨y765, hy766, ky767⟩ := hc763 j294 q313j
                  have f768 := f309
                  rw [mcg306] at f768
                  refine tw_br (tw_callF (M := mX10_pass) (pc := 86) (n9 := 0) (ci := 2) tw_next ok_itNext w_1421 w_1419 (fun s H z => z.2.2.2.2.2.2.2.2.2) (by decide +kernel) dX10_pass_86 w_1416 rfl ft300 [] [] rfl rfl ⟨by decide, by decide⟩ (Nat.le_of_ble_eq_true rfl) (c_next d h298 it283 lh_254 el310 j294 (g306.2 4) y765 l295 (gB.1 4) F761 ft300 f768 f760 q313j hc762 hy766) ((0 + 2 * (r156 + 1)) - 1) ((0 + 8 * (r156 + 1)) - 4) (by omega) (by omega)) (fun r771 h770 q769 => ?_) (fun E h1 q => q.elim)
                  obtain ⟨q769r, q769e⟩ := q769
                  rw [q769r]
                  have sp772 : tw_sp d τ (tw_rm h288 it283) g306 τ h770 := by rw [q769e]; exact sp299.wl tw_rm_s zt301
                  have id773 : g306.2 (4096 + y765) = 960 + 32 * j294 := un764.2.2 _ _ F761 rfl j294 y765 q313j hy766
                  have th774 : tw_th (h770 x) = 0 := by rw [q769e, tw_up_n (tw_nk kx zt301 (by decide))] <;> exact th302
                  have oq775 : h770 o = h o := by rw [q769e, tw_up_n (tw_nk ko zt301 (by decide))] <;> exact oq303
                  have f776 : h770 it283 = some (.inr (2, [.int (nI (j294 + 1)), .int (nI j294), .int (gB.1 4), .ref lh_254])) := by rw [q769e]; exact tw_up_s
                  obtain ⟨e777, f778, x_779, y_780, dy_781, p_782, rfl, k783, k784, k785, k786⟩ := sp772.1 y765 23 ky767 (by decide)
                  obtain ⟨j787, ow788, fd9, fa9, ft9, lp789⟩ := k786
                  obtain rfl : j294 = j787 := by have z := ow788.b id773; omega
                  subst fd9 fa9 ft9
                  refine tw_castS (ci := 13) rfl dX10_pass_91 w_1332 f778 ?_
                  refine tw_astore [(4, .ref y765), (0, .ref x), (1, .int (nI D)), (2, .int (nI k155)), (3, .ref it283)] dX10_pass_94 (by decide) rfl ?_
                  refine tw_aload 0 dX10_pass_96 rfl ?_
                  refine tw_get (v := .int (g306.1 (960 + 32 * j294 + 1))) rfl in_13 0 dX10_pass_98 w_1338 rfl (by decide) f778 rfl ?_
                  refine tw_iconst (v := -1) dX10_pass_101 (by decide) ?_
                  refine tw_icmp_ne 76 dX10_pass_102 (by decide) (fun c790 => ?_) (fun c790 => ?_)
                  · refine tw_lv [1, 2, 3, 4] rfl ?_
                    exact ih296 ((j294 + 1)) (nI j294) _ (by rw [show tw_fd (tw_arM (g165.2 22 + 1)) gB (j294 + 1) = tw_arM (g165.2 22 + 1) g306 j294 from by rw [eg306]; rfl, show tw_arM (g165.2 22 + 1) g306 j294 = g306 from if_neg (fun z => c790 z.1)]; exact sp772) f776 zt301 th774 oq775 (by omega) (by omega)
                  · refine tw_aload 0 dX10_pass_105 rfl ?_
                    refine tw_get (v := .int (g306.1 (960 + 32 * j294 + 0))) rfl in_13 2 dX10_pass_107 w_1342 rfl (by decide) f778 rfl ?_
                    refine tw_aload_n 1 dX10_pass_110 rfl rfl ?_
                    obtain ⟨e791, f792, th_793, td_794, ds_795, fr_796, ca_797, us_798, wo_799, cm_800, lc_801, lh_802, ld_803, rfl, k804, k805, k806, k807, k808, k809, k810, k811, k812, k813, k814, k815, k816, k817, k818, k819, k820, k821, k822, k823, k824, k825⟩ := sp772.1 x 36 kx (by decide)
                    refine tw_get (v := .int td_794) rfl in_14 1 dX10_pass_111 w_1152 rfl (by decide) f792 rfl ?_
                    refine tw_icmp_eq 120 dX10_pass_114 (by decide) (fun c826 => ?_) (fun c826 => ?_)
                    · have dt827 : ((g306.1 (960 + 32 * j294 + 0)) = nI (g165.2 22 + 1)) := by have z := c826; rw [k818, eg307, gbT] at z; exact z
                      refine tw_aload 0 dX10_pass_120 rfl ?_
                      refine tw_aload 0 dX10_pass_122 rfl ?_
                      refine tw_get (v := .int (g306.1 (960 + 32 * j294 + 2))) rfl in_13 1 dX10_pass_124 w_1340 rfl (by decide) f778 rfl ?_
                      refine tw_put rfl in_13 tyX9 tyX9_ok nmX9 0 dX10_pass_127 w_1338 rfl (by decide) f778 rfl rfl rfl rfl (Nat.le_of_ble_eq_true rfl) [.int (g306.1 (960 + 32 * j294 + 2)), .int (g306.1 (960 + 32 * j294 + 2)), .int (g306.1 (960 + 32 * j294 + 0)), .ref p_782] rfl ?_
                      obtain ⟨h828, eh828⟩ : ∃ z : tw_H, z = tw_up h770 y765 (.inr (13, [.int (g306.1 (960 + 32 * j294 + 2)), .int (g306.1 (960 + 32 * j294 + 2)), .int (g306.1 (960 + 32 * j294 + 0)), .ref p_782])) := ⟨_, rfl⟩
                      rw [← eh828]
                      have th829 : tw_th (h828 x) = 0 := by rw [eh828, tw_up_n (tw_nk kx ky767 (by decide))] <;> exact th774
                      have oq830 : h828 o = h o := by rw [eh828, tw_up_n (tw_nk ko ky767 (by decide))] <;> exact oq775
                      have sp831 : tw_sp d τ (tw_rm h288 it283) (tw_g1 g306 (960 + 32 * j294 + 1) (g306.1 (960 + 32 * j294 + 2))) τ h828 := by rw [eh828]; exact sp772.wb ky767 (by decide) ow788 ⟨_, _, _, _, rfl, k783, k785, k785, j294, ow788, (tw_g1_ne (by omega)).symm, tw_g1_eq.symm, (tw_g1_ne (by omega)).symm, lp789⟩ (fun q9 hq9 => tw_g1_ne (by omega)) rfl
                      have f832 : h828 it283 = some (.inr (2, [.int (nI (j294 + 1)), .int (nI j294), .int (gB.1 4), .ref lh_254])) := by rw [eh828, tw_up_n (fun q => absurd (zt301) (by rw [q, ky767]; decide))]; exact f776
                      refine tw_aload 0 dX10_pass_130 rfl ?_
                      refine tw_iconst (v := -1) dX10_pass_132 (by decide) ?_
                      obtain ⟨e833, f834, x_835, y_836, dy_837, p_838, rfl, k839, k840, k841, k842⟩ := sp831.1 y765 23 ky767 (by decide)
                      obtain ⟨j843, ow844, fd9, fa9, ft9, lp845⟩ := k842
                      obtain rfl : j294 = j843 := by have z := ow844.b id773; omega
                      subst fd9 fa9 ft9
                      refine tw_put rfl in_13 tyX9 tyX9_ok nmX9 1 dX10_pass_133 w_1340 rfl (by decide) f834 rfl rfl rfl rfl (Nat.le_of_ble_eq_true rfl) [.int ((tw_g1 g306 (960 + 32 * j294 + 1) (g306.1 (960 + 32 * j294 + 2))).1 (960 + 32 * j294 + 1)), .int (-1), .int ((tw_g1 g306 (960 + 32 * j294 + 1) (g306.1 (960 + 32 * j294 + 2))).1 (960 + 32 * j294 + 0)), .ref p_838] rfl ?_
                      obtain ⟨h846, eh846⟩ : ∃ z : tw_H, z = tw_up h828 y765 (.inr (13, [.int ((tw_g1 g306 (960 + 32 * j294 + 1) (g306.1 (960 + 32 * j294 + 2))).1 (960 + 32 * j294 + 1)), .int (-1), .int ((tw_g1 g306 (960 + 32 * j294 + 1) (g306.1 (960 + 32 * j294 + 2))).1 (960 + 32 * j294 + 0)), .ref p_838])) := ⟨_, rfl⟩
                      rw [← eh846]
                      have th847 : tw_th (h846 x) = 0 := by rw [eh846, tw_up_n (tw_nk kx ky767 (by decide))] <;> exact th829
                      have oq848 : h846 o = h o := by rw [eh846, tw_up_n (tw_nk ko ky767 (by decide))] <;> exact oq830
                      have sp849 : tw_sp d τ (tw_rm h288 it283) (tw_g1 (tw_g1 g306 (960 + 32 * j294 + 1) (g306.1 (960 + 32 * j294 + 2))) (960 + 32 * j294 + 2) (-1)) τ h846 := by rw [eh846]; exact sp831.wb ky767 (by decide) ow844 ⟨_, _, _, _, rfl, k839, k840, (Or.inl rfl), j294, ow844, (tw_g1_ne (by omega)).symm, (tw_g1_ne (by omega)).symm, tw_g1_eq.symm, lp845⟩ (fun q9 hq9 => tw_g1_ne (by omega)) rfl
                      have f850 : h846 it283 = some (.inr (2, [.int (nI (j294 + 1)), .int (nI j294), .int (gB.1 4), .ref lh_254])) := by rw [eh846, tw_up_n (fun q => absurd (zt301) (by rw [q, ky767]; decide))]; exact f832
                      refine tw_aload 0 dX10_pass_136 rfl ?_
                      refine tw_iconst (v := -1) dX10_pass_138 (by decide) ?_
                      obtain ⟨e851, f852, x_853, y_854, dy_855, p_856, rfl, k857, k858, k859, k860⟩ := sp849.1 y765 23 ky767 (by decide)
                      obtain ⟨j861, ow862, fd9, fa9, ft9, lp863⟩ := k860
                      obtain rfl : j294 = j861 := by have z := ow862.b id773; omega
                      subst fd9 fa9 ft9
                      refine tw_put rfl in_13 tyX9 tyX9_ok nmX9 2 dX10_pass_139 w_1342 rfl (by decide) f852 rfl rfl rfl rfl (Nat.le_of_ble_eq_true rfl) [.int ((tw_g1 (tw_g1 g306 (960 + 32 * j294 + 1) (g306.1 (960 + 32 * j294 + 2))) (960 + 32 * j294 + 2) (-1)).1 (960 + 32 * j294 + 1)), .int ((tw_g1 (tw_g1 g306 (960 + 32 * j294 + 1) (g306.1 (960 + 32 * j294 + 2))) (960 + 32 * j294 + 2) (-1)).1 (960 + 32 * j294 + 2)), .int (-1), .ref p_856] rfl ?_
                      obtain ⟨h864, eh864⟩ : ∃ z : tw_H, z = tw_up h846 y765 (.inr (13, [.int ((tw_g1 (tw_g1 g306 (960 + 32 * j294 + 1) (g306.1 (960 + 32 * j294 + 2))) (960 + 32 * j294 + 2) (-1)).1 (960 + 32 * j294 + 1)), .int ((tw_g1 (tw_g1 g306 (960 + 32 * j294 + 1) (g306.1 (960 + 32 * j294 + 2))) (960 + 32 * j294 + 2) (-1)).1 (960 + 32 * j294 + 2)), .int (-1), .ref p_856])) := ⟨_, rfl⟩
                      rw [← eh864]
                      have th865 : tw_th (h864 x) = 0 := by rw [eh864, tw_up_n (tw_nk kx ky767 (by decide))] <;> exact th847
                      have oq866 : h864 o = h o := by rw [eh864, tw_up_n (tw_nk ko ky767 (by decide))] <;> exact oq848
                      have sp867 : tw_sp d τ (tw_rm h288 it283) (tw_g1 (tw_g1 (tw_g1 g306 (960 + 32 * j294 + 1) (g306.1 (960 + 32 * j294 + 2))) (960 + 32 * j294 + 2) (-1)) (960 + 32 * j294 + 0) (-1)) τ h864 := by rw [eh864]; exact sp849.wb ky767 (by decide) ow862 ⟨_, _, _, _, rfl, k857, k858, k859, j294, ow862, tw_g1_eq.symm, (tw_g1_ne (by omega)).symm, (tw_g1_ne (by omega)).symm, lp863⟩ (fun q9 hq9 => tw_g1_ne (by omega)) rfl
                      have f868 : h864 it283 = some (.inr (2, [.int (nI (j294 + 1)), .int (nI j294), .int (gB.1 4), .ref lh_254])) := by rw [eh864, tw_up_n (fun q => absurd (zt301) (by rw [q, ky767]; decide))]; exact f850
                      refine tw_goto 76 dX10_pass_142 (by decide) ?_
                      refine tw_lv [1, 2, 3, 4] rfl ?_
                      exact ih296 ((j294 + 1)) (nI j294) _ (by rw [show tw_fd (tw_arM (g165.2 22 + 1)) gB (j294 + 1) = tw_arM (g165.2 22 + 1) g306 j294 from by rw [eg306]; rfl, show tw_arM (g165.2 22 + 1) g306 j294 = _ from if_pos ⟨c790, dt827⟩]; exact sp867) f868 zt301 th865 oq866 (by omega) (by omega)
                    · have dt869 : ¬ ((g306.1 (960 + 32 * j294 + 0)) = nI (g165.2 22 + 1)) := by have z := c826; rw [k818, eg307, gbT] at z; exact z
                      refine tw_goto 76 dX10_pass_117 (by decide) ?_
                      refine tw_lv [1, 2, 3, 4] rfl ?_
                      exact ih296 ((j294 + 1)) (nI j294) _ (by rw [show tw_fd (tw_arM (g165.2 22 + 1)) gB (j294 + 1) = tw_arM (g165.2 22 + 1) g306 j294 from by rw [eg306]; rfl, show tw_arM (g165.2 22 + 1) g306 j294 = g306 from if_neg (fun z => dt869 z.2)]; exact sp772) f776 zt301 th774 oq775 (by omega) (by omega)
            refine tw_lv [1, 2, 3, 0] rfl ?_
            exact L297 (gB.2 4 + 1) 0 (-1) _ (by rw [show tw_fd (tw_arM (g165.2 22 + 1)) gB 0 = gB from rfl]; exact tw_sp.rm sp291.1 it283) f292 z287 th289 oq290 (by omega) (Nat.zero_le _)
      refine tw_lv [1, 2, 0] rfl ?_
      refine tw_less (c2 := 0 + 2 * 401) (n2 := 0 + 8 * 401) (by omega) (by omega) ?_
      exact L158 401 0 _ (by rw [show tw_dsM g 0 = g from rfl]; exact sp152) th151 oq153 (by omega) (by omega)
    · have le9 : ¬ g.2 22 + D ≤ 3000 := fun z => c140 ((tw_dle2 k131 ev139 k132 hD4).mpr z)
      refine tw_iconst (v := 1) dX10_pass_37 (by decide) ?_
      refine tw_goto 42 dX10_pass_38 (by decide) ?_
      refine tw_iconst (v := 2) dX10_pass_42 (by decide) ?_
      refine tw_bi (tw_callV (M := mX10_pass) (pc := 43) okX10_refuse dX10_pass_43 w_1200 rfl f105 [.int 1, .int 2] [] rfl rfl ⟨by decide, by decide⟩ (Nat.le_of_ble_eq_true rfl) (c_X10_refuse d g τ h91 sp101.1 x kx 1 2 (by decide)) 802 3208 (Nat.le_of_ble_eq_true rfl) (Nat.le_of_ble_eq_true rfl)) (fun r872 h871 q870 => ?_) (fun E h1 q => q.elim)
      obtain ⟨e873, he874, hs875, hr876, hc877⟩ := q870
      obtain ⟨rz878, tz879⟩ := (hc877 th100).2 rfl
      have th880 : tw_th (h871 x) = 2 := by rw [he874, tw_up_s]; exact tz879
      have sp881 : tw_sp d τ h g τ h871 := by rw [he874]; exact sp101.set kx (by decide) hs875
      rw [rz878]
      have oq882 : h871 o = h o := by rw [he874, tw_up_n (tw_nk ko kx (by decide))] <;> exact oq102
      refine tw_if_eq 51 dX10_pass_46 (by decide) (fun c883 => absurd c883 (by decide)) (fun _ => ?_)
      refine tw_iconst (v := 0) dX10_pass_49 (by decide) ?_
      exact tw_iret dX10_pass_50 rfl (Or.inl ⟨_, rfl, _, _, sp881, oq882, Or.inr (Or.inl ⟨rp, fun z => le9 (by rw [cD] at z; exact z), th880, rfl⟩)⟩)

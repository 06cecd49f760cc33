/-! the class's methods over the typed heap. Laid by wip/p5/mkclass.py. -/
/-- class and reference have as many things -/
def tw_I9 (g : tw_G) : Prop := g.2 0 = g.2 3 ∧ g.2 1 = g.2 4 ∧ g.2 2 = g.2 5 ∧ g.2 6 = g.2 0 ∧ g.2 7 = g.2 1 ∧ g.2 8 = g.2 2 ∧ g.2 21 = g.2 22
theorem tw_I9.country {g g9 : tw_G} (i : tw_I9 g) (a : tw_gk 3 (tw_gI g 6 0) g9) : tw_I9 g9 := by
  obtain ⟨i1, i2, i3, i4, i5, i6, i7⟩ := i
  have k0 : g9.2 0 = g.2 0 + 1 := a.2.2 0 (by decide) (by decide)
  have k1 : g9.2 1 = g.2 1 := a.2.2 1 (by decide) (by decide)
  have k2 : g9.2 2 = g.2 2 := a.2.2 2 (by decide) (by decide)
  have k3 : g9.2 3 = g.2 3 + 1 := a.2.1
  have k4 : g9.2 4 = g.2 4 := a.2.2 4 (by decide) (by decide)
  have k5 : g9.2 5 = g.2 5 := a.2.2 5 (by decide) (by decide)
  have k6 : g9.2 6 = g.2 6 + 1 := a.2.2 6 (by decide) (by decide)
  have k7 : g9.2 7 = g.2 7 := a.2.2 7 (by decide) (by decide)
  have k8 : g9.2 8 = g.2 8 := a.2.2 8 (by decide) (by decide)
  have k21 : g9.2 21 = g.2 21 := a.2.2 21 (by decide) (by decide)
  have k22 : g9.2 22 = g.2 22 := a.2.2 22 (by decide) (by decide)
  unfold tw_I9
  omega
theorem tw_I9.house {g g9 : tw_G} (i : tw_I9 g) (a : tw_gk 4 (tw_gI g 7 1) g9) : tw_I9 g9 := by
  obtain ⟨i1, i2, i3, i4, i5, i6, i7⟩ := i
  have k0 : g9.2 0 = g.2 0 := a.2.2 0 (by decide) (by decide)
  have k1 : g9.2 1 = g.2 1 + 1 := a.2.2 1 (by decide) (by decide)
  have k2 : g9.2 2 = g.2 2 := a.2.2 2 (by decide) (by decide)
  have k3 : g9.2 3 = g.2 3 := a.2.2 3 (by decide) (by decide)
  have k4 : g9.2 4 = g.2 4 + 1 := a.2.1
  have k5 : g9.2 5 = g.2 5 := a.2.2 5 (by decide) (by decide)
  have k6 : g9.2 6 = g.2 6 := a.2.2 6 (by decide) (by decide)
  have k7 : g9.2 7 = g.2 7 + 1 := a.2.2 7 (by decide) (by decide)
  have k8 : g9.2 8 = g.2 8 := a.2.2 8 (by decide) (by decide)
  have k21 : g9.2 21 = g.2 21 := a.2.2 21 (by decide) (by decide)
  have k22 : g9.2 22 = g.2 22 := a.2.2 22 (by decide) (by decide)
  unfold tw_I9
  omega
theorem tw_I9.owe {g g9 : tw_G} (i : tw_I9 g) (a : tw_gk 5 (tw_gI g 8 2) g9) : tw_I9 g9 := by
  obtain ⟨i1, i2, i3, i4, i5, i6, i7⟩ := i
  have k0 : g9.2 0 = g.2 0 := a.2.2 0 (by decide) (by decide)
  have k1 : g9.2 1 = g.2 1 := a.2.2 1 (by decide) (by decide)
  have k2 : g9.2 2 = g.2 2 + 1 := a.2.2 2 (by decide) (by decide)
  have k3 : g9.2 3 = g.2 3 := a.2.2 3 (by decide) (by decide)
  have k4 : g9.2 4 = g.2 4 := a.2.2 4 (by decide) (by decide)
  have k5 : g9.2 5 = g.2 5 + 1 := a.2.1
  have k6 : g9.2 6 = g.2 6 := a.2.2 6 (by decide) (by decide)
  have k7 : g9.2 7 = g.2 7 := a.2.2 7 (by decide) (by decide)
  have k8 : g9.2 8 = g.2 8 + 1 := a.2.2 8 (by decide) (by decide)
  have k21 : g9.2 21 = g.2 21 := a.2.2 21 (by decide) (by decide)
  have k22 : g9.2 22 = g.2 22 := a.2.2 22 (by decide) (by decide)
  unfold tw_I9
  omega
theorem tw_I9.pass {g : tw_G} {D : Nat} (i : tw_I9 g) : tw_I9 (tw_g2 (tw_g2 g 21 (g.2 21 + D)) 22 (g.2 22 + D)) := by
  obtain ⟨i1, i2, i3, i4, i5, i6, i7⟩ := i
  refine ⟨i1, i2, i3, i4, i5, i6, ?_⟩
  show g.2 21 + D = g.2 22 + D
  rw [i7]
abbrev mL_law_ : tw_M := (yL_law_, cL_law_, 7, (some .boolean), 2048, 84000)
/-- what the loop keeps -/
def tw_ok5 (d : tw_D) (x m o : Nat) (g : tw_G) (τ : tw_K) (h : tw_H) : Prop := tw_wt d g τ h ∧ tw_I9 g ∧ τ x = 11 ∧ τ m = 36 ∧ τ o = 12
abbrev tw_lv5 (d : tw_D) (x m o j : Nat) : List (Nat × Value) := [(0, .ref (d.2 98)), (1, .ref x), (2, .ref m), (3, .ref o), (4, .int (nI (5 * j)))]
/-- on with the loop -/
def tw_J (d : tw_D) (x m o j : Nat) (Q : tw_O → tw_H → Prop) (c n : Nat) : Prop := ∀ (g : tw_G) (τ : tw_K) (h : tw_H), tw_ok5 d x m o g τ h → tw_W d mL_law_ Q 1391 (tw_lv5 d x m o j) [] h c n
theorem tw_ok5.go {d : tw_D} {x m o : Nat} {g g1 : tw_G} {τ τ1 : tw_K} {h h1 : tw_H} (ok : tw_ok5 d x m o g τ h) (e : tw_I9 g1) (s : tw_sp d τ h g1 τ1 h1) : tw_ok5 d x m o g1 τ1 h1 :=
  ⟨s.1, e, s.2.1.k ok.2.2.1 (by decide), s.2.1.k ok.2.2.2.1 (by decide), s.2.1.k ok.2.2.2.2 (by decide)⟩
theorem tw_pop2l {d : tw_D} {M : tw_M} {Q : tw_O → tw_H → Prop} {pc : Nat} {lv : List (Nat × Value)} {st : List Value} {h : tw_H} {c n : Nat} {x : Int64} (hd : decode M.2.1 pc = .ok (.pop2, 1)) (k : tw_W d M Q (pc + 1) lv st h c n) : tw_W d M Q pc lv (.long x :: st) h c n := by
  intro p l e R s m args below meth cd H locs ls cells slots X hl hh hS hc hn
  exact lv_pop2_2 X.1 X.2.1 hd rfl (k p l e R s m args below meth cd H locs ls cells slots X hl hh hS hc hn)
theorem tw_s1 (a : Nat) : nI a + 1 = nI (a + 1) := nI_1 a
theorem tw_s2 (a : Nat) : nI a + 2 = nI (a + 2) := tw_niadd (b := 2)
theorem tw_s3 (a : Nat) : nI a + 3 = nI (a + 3) := tw_niadd (b := 3)
theorem tw_s4 (a : Nat) : nI a + 4 = nI (a + 4) := tw_niadd (b := 4)
theorem tw_s5 (j : Nat) : nI (5 * j) + 5 = nI (5 * (j + 1)) := by rw [Nat.mul_add]; exact tw_niadd (b := 5)
theorem tw_l5 {L j : Nat} (hL : L ≤ 2560) (hj : j ≤ 512) : nI L - 5 < nI (5 * j) ↔ L < 5 * j + 5 := by
  rw [Int32.lt_iff_toInt_lt, Int32.toInt_sub, nI_toInt (by omega), nI_toInt (by omega), show (5 : Int32).toInt = 5 by decide]
  have b : ((L : Int) - 5).bmod (2 ^ 32) = (L : Int) - 5 := by apply Int.bmod_eq_of_le_mul_two <;> omega
  rw [b]
  omega
theorem tw_cmpe {a b : Int64} (e : a = b) : lg_cmp a b = 0 := by subst e; simp [lg_cmp]
set_option maxHeartbeats 4000000 in
set_option maxRecDepth 100000 in
theorem c_X6_init (d : tw_D) (h : tw_H) (x : Nat) : tw_Ct d mX6_init 0 0 [.ref x] h (tw_qv (fun h1 => h1 = h) tw_nx) := by
  refine tw_of (by decide +kernel) (Nat.le_of_ble_eq_true rfl) ?_
  show tw_W d mX6_init _ 0 [(0, .ref x)] [] h 0 0
  refine tw_aload_n 0 dX6_init_0 rfl rfl ?_
  refine tw_objInit dX6_init_1 w_379 w_117 w_118 ⟨by decide, Nat.le_of_ble_eq_true rfl⟩ ?_
  exact tw_vret dX6_init_4 rfl (Or.inl ⟨rfl, rfl⟩)

set_option maxHeartbeats 4000000 in
set_option maxRecDepth 100000 in
theorem law_case_0 (d : tw_D) (x m o j c n : Nat) (Q : tw_O → tw_H → Prop) (hL : d.2 97 ≤ 2560) (hj : 5 * j + 5 ≤ d.2 97) (J : tw_J d x m o j Q c n) (g : tw_G) (τ : tw_K) (h : tw_H) (ok : tw_ok5 d x m o g τ h) : tw_W d mL_law_ Q 164 (tw_lv5 d x m o j) [] h (c + 900) (n + 5000) := by
  show tw_W d mL_law_ Q 164 [(0, .ref (d.2 98)), (1, .ref x), (2, .ref m), (3, .ref o), (4, .int (nI (5 * j)))] [] h (c + 900) (n + 5000)
  have sp1 := tw_sp.rf ok.1
  refine tw_aload_n 1 dL_law__164 rfl rfl ?_
  refine tw_aload_n 0 dL_law__165 rfl rfl ?_
  refine tw_iload 4 dL_law__166 rfl ?_
  refine tw_iconst (v := 1) dL_law__168 (by decide) ?_
  refine tw_iadd dL_law__169 ?_
  refine tw_nmi (fun v2 ev2 => ?_)
  have q3 : v2 = nI (5 * j + 1) := by rw [ev2]; exact tw_s1 _
  rw [q3]
  obtain ⟨y4, ey4⟩ : ∃ y : Int32, Int32.ofNat (d.2 (1000 + (nI (5 * j + 1)).toNatClampNeg)) = y := ⟨_, rfl⟩
  refine tw_ti (v := .int y4) (fun _ _ z => z.xs.2.2.2.2.2) dL_law__170 (vp_in_nI (by omega) (by omega)) (congrArg Value.int ey4) ?_
  refine tw_aload_n 0 dL_law__171 rfl rfl ?_
  refine tw_iload 4 dL_law__172 rfl ?_
  refine tw_iconst (v := 2) dL_law__174 (by decide) ?_
  refine tw_iadd dL_law__175 ?_
  refine tw_nmi (fun v5 ev5 => ?_)
  have q6 : v5 = nI (5 * j + 2) := by rw [ev5]; exact tw_s2 _
  rw [q6]
  obtain ⟨y7, ey7⟩ : ∃ y : Int32, Int32.ofNat (d.2 (1000 + (nI (5 * j + 2)).toNatClampNeg)) = y := ⟨_, rfl⟩
  refine tw_ti (v := .int y7) (fun _ _ z => z.xs.2.2.2.2.2) dL_law__176 (vp_in_nI (by omega) (by omega)) (congrArg Value.int ey7) ?_
  refine tw_aload_n 0 dL_law__177 rfl rfl ?_
  refine tw_iload 4 dL_law__178 rfl ?_
  refine tw_iconst (v := 3) dL_law__180 (by decide) ?_
  refine tw_iadd dL_law__181 ?_
  refine tw_nmi (fun v8 ev8 => ?_)
  have q9 : v8 = nI (5 * j + 3) := by rw [ev8]; exact tw_s3 _
  rw [q9]
  obtain ⟨y10, ey10⟩ : ∃ y : Int32, Int32.ofNat (d.2 (1000 + (nI (5 * j + 3)).toNatClampNeg)) = y := ⟨_, rfl⟩
  refine tw_ti (v := .int y10) (fun _ _ z => z.xs.2.2.2.2.2) dL_law__182 (vp_in_nI (by omega) (by omega)) (congrArg Value.int ey10) ?_
  refine tw_aload_n 0 dL_law__183 rfl rfl ?_
  refine tw_iload 4 dL_law__184 rfl ?_
  refine tw_iconst (v := 4) dL_law__186 (by decide) ?_
  refine tw_iadd dL_law__187 ?_
  refine tw_nmi (fun v11 ev11 => ?_)
  have q12 : v11 = nI (5 * j + 4) := by rw [ev11]; exact tw_s4 _
  rw [q12]
  obtain ⟨y13, ey13⟩ : ∃ y : Int32, Int32.ofNat (d.2 (1000 + (nI (5 * j + 4)).toNatClampNeg)) = y := ⟨_, rfl⟩
  refine tw_ti (v := .int y13) (fun _ _ z => z.xs.2.2.2.2.2) dL_law__188 (vp_in_nI (by omega) (by omega)) (congrArg Value.int ey13) ?_
  refine tw_aload_n 3 dL_law__189 rfl rfl ?_
  refine tw_bi (tw_callSH (M := mL_law_) (pc := 190) okL_country dL_law__190 w_387 [.ref x, .int y4, .int y7, .int y10, .int y13, .ref o] [] rfl rfl ⟨by decide, by decide⟩ (Nat.le_of_ble_eq_true rfl) (c_L_country d g τ h sp1.1 x ok.2.2.1 y4 y7 y10 y13 o ok.2.2.2.2 ok.2.1.2.2.2.1) ((c + 900) - 20) ((n + 5000) - 120) (by omega) (by omega)) (fun r16 h15 q14 => ?_) (fun E h1 q => q.elim)
  rcases q14 with ⟨q14e, q14cR, q14cL, q14n, τc, q14s⟩ | ⟨q14e, q14cR, τc, q14s⟩ | ⟨q14e, q14cR, q14cL, τc, q14s⟩
  · rw [q14e]
    have kx1 := q14s.2.1.k ok.2.2.1 (by decide)
    have km1 := q14s.2.1.k ok.2.2.2.1 (by decide)
    have ko1 := q14s.2.1.k ok.2.2.2.2 (by decide)
    refine tw_istore [(5, .int 0), (0, .ref (d.2 98)), (1, .ref x), (2, .ref m), (3, .ref o), (4, .int (nI (5 * j)))] dL_law__193 (by decide) rfl ?_
    refine tw_aload_n 3 dL_law__195 rfl rfl ?_
    refine tw_aload_n 1 dL_law__196 rfl rfl ?_
    refine tw_iload 5 dL_law__197 rfl ?_
    refine tw_iconst (v := 1) dL_law__199 (by decide) ?_
    refine tw_iadd dL_law__200 ?_
    refine tw_nmi (fun v17 ev17 => ?_)
    have q18 : v17 = nI (5 * j + 1) := by rw [ev17]; exact tw_s1 _
    rw [q18]
    refine tw_ti (v := .int y4) (fun _ _ z => z.xs.2.2.2.2.2) dL_law__201 (vp_in_nI (by omega) (by omega)) (congrArg Value.int ey4) ?_
    refine tw_aload_n 1 dL_law__202 rfl rfl ?_
    refine tw_iload 5 dL_law__203 rfl ?_
    refine tw_iconst (v := 2) dL_law__205 (by decide) ?_
    refine tw_iadd dL_law__206 ?_
    refine tw_nmi (fun v19 ev19 => ?_)
    have q20 : v19 = nI (5 * j + 2) := by rw [ev19]; exact tw_s2 _
    rw [q20]
    refine tw_ti (v := .int y7) (fun _ _ z => z.xs.2.2.2.2.2) dL_law__207 (vp_in_nI (by omega) (by omega)) (congrArg Value.int ey7) ?_
    refine tw_aload_n 1 dL_law__208 rfl rfl ?_
    refine tw_iload 5 dL_law__209 rfl ?_
    refine tw_iconst (v := 3) dL_law__211 (by decide) ?_
    refine tw_iadd dL_law__212 ?_
    refine tw_nmi (fun v21 ev21 => ?_)
    have q22 : v21 = nI (5 * j + 3) := by rw [ev21]; exact tw_s3 _
    rw [q22]
    refine tw_ti (v := .int y10) (fun _ _ z => z.xs.2.2.2.2.2) dL_law__213 (vp_in_nI (by omega) (by omega)) (congrArg Value.int ey10) ?_
    refine tw_aload_n 1 dL_law__214 rfl rfl ?_
    refine tw_iload 5 dL_law__215 rfl ?_
    refine tw_iconst (v := 4) dL_law__217 (by decide) ?_
    refine tw_iadd dL_law__218 ?_
    refine tw_nmi (fun v23 ev23 => ?_)
    have q24 : v23 = nI (5 * j + 4) := by rw [ev23]; exact tw_s4 _
    rw [q24]
    refine tw_ti (v := .int y13) (fun _ _ z => z.xs.2.2.2.2.2) dL_law__219 (vp_in_nI (by omega) (by omega)) (congrArg Value.int ey13) ?_
    obtain ⟨e25, f26, th_27, td_28, ds_29, fr_30, ca_31, us_32, wo_33, cm_34, lc_35, lh_36, ld_37, rfl, k38, k39, k40, k41, k42, k43, k44, k45, k46, k47, k48, k49, k50, k51, k52, k53⟩ := (tw_sp.rf q14s.1).1 m 36 km1 (by decide)
    refine tw_bi (tw_callV (M := mL_law_) (pc := 220) okX10_country dL_law__220 w_1192 rfl f26 [.int y4, .int y7, .int y10, .int y13] [] rfl rfl ⟨by decide, by decide⟩ (Nat.le_of_ble_eq_true rfl) (c2_X10_country d (tw_gI g 6 0) τc h15 (tw_sp.rf q14s.1).1 m km1 y4 y7 y10 y13 o ko1) (((c + 900) - 20) - 10) (((n + 5000) - 120) - 60) (by omega) (by omega)) (fun r56 h55 q54 => ?_) (fun E h1 q => q.elim)
    obtain ⟨g9, τ9, s9, oq9, q54a⟩ := q54
    have kx2 := s9.2.1.k kx1 (by decide)
    have km2 := s9.2.1.k km1 (by decide)
    have ko2 := s9.2.1.k ko1 (by decide)
    have q14cL3 : g.2 3 < 4 := by rw [← ok.2.1.1]; exact q14cL
    rcases q54a with ⟨z, -⟩ | ⟨-, z, -⟩ | ⟨-, -, hr2, ht, gk9⟩
    · exact absurd q14cR z
    · exact absurd q14cL3 z
    · rw [hr2]
      have ok9 : tw_ok5 d x m o g9 τ9 h55 := ⟨s9.1, ok.2.1.country gk9, kx2, km2, ko2⟩
      have hlg : tw_lg (h55 o) = (nI (g.2 0)).toInt64 := by rw [oq9]; exact q14n
      have sp57 := tw_sp.rf ok9.1
      refine tw_istore [(6, .int (nI ((tw_gI g 6 0).2 3))), (5, .int 0), (0, .ref (d.2 98)), (1, .ref x), (2, .ref m), (3, .ref o), (4, .int (nI (5 * j)))] dL_law__223 (by decide) rfl ?_
      refine tw_goto 1391 dL_law__225 (by decide) ?_
      refine tw_lv [2, 3, 4, 5, 6] rfl ?_
      refine tw_less (c2 := c) (n2 := n) (by omega) (by omega) ?_
      exact J _ _ _ ok9
  · rw [q14e]
    have kx1 := q14s.2.1.k ok.2.2.1 (by decide)
    have km1 := q14s.2.1.k ok.2.2.2.1 (by decide)
    have ko1 := q14s.2.1.k ok.2.2.2.2 (by decide)
    refine tw_istore [(5, .int 1), (0, .ref (d.2 98)), (1, .ref x), (2, .ref m), (3, .ref o), (4, .int (nI (5 * j)))] dL_law__193 (by decide) rfl ?_
    refine tw_aload_n 3 dL_law__195 rfl rfl ?_
    refine tw_aload_n 1 dL_law__196 rfl rfl ?_
    refine tw_iload 5 dL_law__197 rfl ?_
    refine tw_iconst (v := 1) dL_law__199 (by decide) ?_
    refine tw_iadd dL_law__200 ?_
    refine tw_nmi (fun v58 ev58 => ?_)
    have q59 : v58 = nI (5 * j + 1) := by rw [ev58]; exact tw_s1 _
    rw [q59]
    refine tw_ti (v := .int y4) (fun _ _ z => z.xs.2.2.2.2.2) dL_law__201 (vp_in_nI (by omega) (by omega)) (congrArg Value.int ey4) ?_
    refine tw_aload_n 1 dL_law__202 rfl rfl ?_
    refine tw_iload 5 dL_law__203 rfl ?_
    refine tw_iconst (v := 2) dL_law__205 (by decide) ?_
    refine tw_iadd dL_law__206 ?_
    refine tw_nmi (fun v60 ev60 => ?_)
    have q61 : v60 = nI (5 * j + 2) := by rw [ev60]; exact tw_s2 _
    rw [q61]
    refine tw_ti (v := .int y7) (fun _ _ z => z.xs.2.2.2.2.2) dL_law__207 (vp_in_nI (by omega) (by omega)) (congrArg Value.int ey7) ?_
    refine tw_aload_n 1 dL_law__208 rfl rfl ?_
    refine tw_iload 5 dL_law__209 rfl ?_
    refine tw_iconst (v := 3) dL_law__211 (by decide) ?_
    refine tw_iadd dL_law__212 ?_
    refine tw_nmi (fun v62 ev62 => ?_)
    have q63 : v62 = nI (5 * j + 3) := by rw [ev62]; exact tw_s3 _
    rw [q63]
    refine tw_ti (v := .int y10) (fun _ _ z => z.xs.2.2.2.2.2) dL_law__213 (vp_in_nI (by omega) (by omega)) (congrArg Value.int ey10) ?_
    refine tw_aload_n 1 dL_law__214 rfl rfl ?_
    refine tw_iload 5 dL_law__215 rfl ?_
    refine tw_iconst (v := 4) dL_law__217 (by decide) ?_
    refine tw_iadd dL_law__218 ?_
    refine tw_nmi (fun v64 ev64 => ?_)
    have q65 : v64 = nI (5 * j + 4) := by rw [ev64]; exact tw_s4 _
    rw [q65]
    refine tw_ti (v := .int y13) (fun _ _ z => z.xs.2.2.2.2.2) dL_law__219 (vp_in_nI (by omega) (by omega)) (congrArg Value.int ey13) ?_
    obtain ⟨e66, f67, th_68, td_69, ds_70, fr_71, ca_72, us_73, wo_74, cm_75, lc_76, lh_77, ld_78, rfl, k79, k80, k81, k82, k83, k84, k85, k86, k87, k88, k89, k90, k91, k92, k93, k94⟩ := (tw_sp.rf q14s.1).1 m 36 km1 (by decide)
    refine tw_bi (tw_callV (M := mL_law_) (pc := 220) okX10_country dL_law__220 w_1192 rfl f67 [.int y4, .int y7, .int y10, .int y13] [] rfl rfl ⟨by decide, by decide⟩ (Nat.le_of_ble_eq_true rfl) (c2_X10_country d g τc h15 (tw_sp.rf q14s.1).1 m km1 y4 y7 y10 y13 o ko1) (((c + 900) - 20) - 10) (((n + 5000) - 120) - 60) (by omega) (by omega)) (fun r97 h96 q95 => ?_) (fun E h1 q => q.elim)
    obtain ⟨g9, τ9, s9, oq9, q95a⟩ := q95
    have kx2 := s9.2.1.k kx1 (by decide)
    have km2 := s9.2.1.k km1 (by decide)
    have ko2 := s9.2.1.k ko1 (by decide)
    rcases q95a with ⟨-, ht, eg9⟩ | ⟨z, -⟩ | ⟨z, -⟩
    · rw [eg9] at s9
      have ok9 : tw_ok5 d x m o g τ9 h96 := ⟨s9.1, ok.2.1, kx2, km2, ko2⟩
      have sp98 := tw_sp.rf ok9.1
      refine tw_istore [(6, .int r97), (5, .int 1), (0, .ref (d.2 98)), (1, .ref x), (2, .ref m), (3, .ref o), (4, .int (nI (5 * j)))] dL_law__223 (by decide) rfl ?_
      refine tw_goto 1391 dL_law__225 (by decide) ?_
      refine tw_lv [2, 3, 4, 5, 6] rfl ?_
      refine tw_less (c2 := c) (n2 := n) (by omega) (by omega) ?_
      exact J _ _ _ ok9
    · exact absurd z q14cR
    · exact absurd z q14cR
  · rw [q14e]
    have kx1 := q14s.2.1.k ok.2.2.1 (by decide)
    have km1 := q14s.2.1.k ok.2.2.2.1 (by decide)
    have ko1 := q14s.2.1.k ok.2.2.2.2 (by decide)
    refine tw_istore [(5, .int 2), (0, .ref (d.2 98)), (1, .ref x), (2, .ref m), (3, .ref o), (4, .int (nI (5 * j)))] dL_law__193 (by decide) rfl ?_
    refine tw_aload_n 3 dL_law__195 rfl rfl ?_
    refine tw_aload_n 1 dL_law__196 rfl rfl ?_
    refine tw_iload 5 dL_law__197 rfl ?_
    refine tw_iconst (v := 1) dL_law__199 (by decide) ?_
    refine tw_iadd dL_law__200 ?_
    refine tw_nmi (fun v99 ev99 => ?_)
    have q100 : v99 = nI (5 * j + 1) := by rw [ev99]; exact tw_s1 _
    rw [q100]
    refine tw_ti (v := .int y4) (fun _ _ z => z.xs.2.2.2.2.2) dL_law__201 (vp_in_nI (by omega) (by omega)) (congrArg Value.int ey4) ?_
    refine tw_aload_n 1 dL_law__202 rfl rfl ?_
    refine tw_iload 5 dL_law__203 rfl ?_
    refine tw_iconst (v := 2) dL_law__205 (by decide) ?_
    refine tw_iadd dL_law__206 ?_
    refine tw_nmi (fun v101 ev101 => ?_)
    have q102 : v101 = nI (5 * j + 2) := by rw [ev101]; exact tw_s2 _
    rw [q102]
    refine tw_ti (v := .int y7) (fun _ _ z => z.xs.2.2.2.2.2) dL_law__207 (vp_in_nI (by omega) (by omega)) (congrArg Value.int ey7) ?_
    refine tw_aload_n 1 dL_law__208 rfl rfl ?_
    refine tw_iload 5 dL_law__209 rfl ?_
    refine tw_iconst (v := 3) dL_law__211 (by decide) ?_
    refine tw_iadd dL_law__212 ?_
    refine tw_nmi (fun v103 ev103 => ?_)
    have q104 : v103 = nI (5 * j + 3) := by rw [ev103]; exact tw_s3 _
    rw [q104]
    refine tw_ti (v := .int y10) (fun _ _ z => z.xs.2.2.2.2.2) dL_law__213 (vp_in_nI (by omega) (by omega)) (congrArg Value.int ey10) ?_
    refine tw_aload_n 1 dL_law__214 rfl rfl ?_
    refine tw_iload 5 dL_law__215 rfl ?_
    refine tw_iconst (v := 4) dL_law__217 (by decide) ?_
    refine tw_iadd dL_law__218 ?_
    refine tw_nmi (fun v105 ev105 => ?_)
    have q106 : v105 = nI (5 * j + 4) := by rw [ev105]; exact tw_s4 _
    rw [q106]
    refine tw_ti (v := .int y13) (fun _ _ z => z.xs.2.2.2.2.2) dL_law__219 (vp_in_nI (by omega) (by omega)) (congrArg Value.int ey13) ?_
    obtain ⟨e107, f108, th_109, td_110, ds_111, fr_112, ca_113, us_114, wo_115, cm_116, lc_117, lh_118, ld_119, rfl, k120, k121, k122, k123, k124, k125, k126, k127, k128, k129, k130, k131, k132, k133, k134, k135⟩ := (tw_sp.rf q14s.1).1 m 36 km1 (by decide)
    refine tw_bi (tw_callV (M := mL_law_) (pc := 220) okX10_country dL_law__220 w_1192 rfl f108 [.int y4, .int y7, .int y10, .int y13] [] rfl rfl ⟨by decide, by decide⟩ (Nat.le_of_ble_eq_true rfl) (c2_X10_country d g τc h15 (tw_sp.rf q14s.1).1 m km1 y4 y7 y10 y13 o ko1) (((c + 900) - 20) - 10) (((n + 5000) - 120) - 60) (by omega) (by omega)) (fun r138 h137 q136 => ?_) (fun E h1 q => q.elim)
    obtain ⟨g9, τ9, s9, oq9, q136a⟩ := q136
    have kx2 := s9.2.1.k kx1 (by decide)
    have km2 := s9.2.1.k km1 (by decide)
    have ko2 := s9.2.1.k ko1 (by decide)
    have q14cL3 : ¬ g.2 3 < 4 := by rw [← ok.2.1.1]; exact q14cL
    rcases q136a with ⟨z, -⟩ | ⟨-, -, ht, eg9⟩ | ⟨-, z, -⟩
    · exact absurd q14cR z
    · rw [eg9] at s9
      have ok9 : tw_ok5 d x m o g τ9 h137 := ⟨s9.1, ok.2.1, kx2, km2, ko2⟩
      have sp139 := tw_sp.rf ok9.1
      refine tw_istore [(6, .int r138), (5, .int 2), (0, .ref (d.2 98)), (1, .ref x), (2, .ref m), (3, .ref o), (4, .int (nI (5 * j)))] dL_law__223 (by decide) rfl ?_
      refine tw_goto 1391 dL_law__225 (by decide) ?_
      refine tw_lv [2, 3, 4, 5, 6] rfl ?_
      refine tw_less (c2 := c) (n2 := n) (by omega) (by omega) ?_
      exact J _ _ _ ok9
    · exact absurd z q14cL3

set_option maxHeartbeats 4000000 in
set_option maxRecDepth 100000 in
theorem law_case_1 (d : tw_D) (x m o j c n : Nat) (Q : tw_O → tw_H → Prop) (hL : d.2 97 ≤ 2560) (hj : 5 * j + 5 ≤ d.2 97) (J : tw_J d x m o j Q c n) (g : tw_G) (τ : tw_K) (h : tw_H) (ok : tw_ok5 d x m o g τ h) : tw_W d mL_law_ Q 228 (tw_lv5 d x m o j) [] h (c + 900) (n + 5000) := by
  show tw_W d mL_law_ Q 228 [(0, .ref (d.2 98)), (1, .ref x), (2, .ref m), (3, .ref o), (4, .int (nI (5 * j)))] [] h (c + 900) (n + 5000)
  have sp1 := tw_sp.rf ok.1
  refine tw_aload_n 1 dL_law__228 rfl rfl ?_
  refine tw_aload_n 0 dL_law__229 rfl rfl ?_
  refine tw_iload 4 dL_law__230 rfl ?_
  refine tw_iconst (v := 1) dL_law__232 (by decide) ?_
  refine tw_iadd dL_law__233 ?_
  refine tw_nmi (fun v2 ev2 => ?_)
  have q3 : v2 = nI (5 * j + 1) := by rw [ev2]; exact tw_s1 _
  rw [q3]
  obtain ⟨y4, ey4⟩ : ∃ y : Int32, Int32.ofNat (d.2 (1000 + (nI (5 * j + 1)).toNatClampNeg)) = y := ⟨_, rfl⟩
  refine tw_ti (v := .int y4) (fun _ _ z => z.xs.2.2.2.2.2) dL_law__234 (vp_in_nI (by omega) (by omega)) (congrArg Value.int ey4) ?_
  refine tw_aload_n 0 dL_law__235 rfl rfl ?_
  refine tw_iload 4 dL_law__236 rfl ?_
  refine tw_iconst (v := 2) dL_law__238 (by decide) ?_
  refine tw_iadd dL_law__239 ?_
  refine tw_nmi (fun v5 ev5 => ?_)
  have q6 : v5 = nI (5 * j + 2) := by rw [ev5]; exact tw_s2 _
  rw [q6]
  obtain ⟨y7, ey7⟩ : ∃ y : Int32, Int32.ofNat (d.2 (1000 + (nI (5 * j + 2)).toNatClampNeg)) = y := ⟨_, rfl⟩
  refine tw_ti (v := .int y7) (fun _ _ z => z.xs.2.2.2.2.2) dL_law__240 (vp_in_nI (by omega) (by omega)) (congrArg Value.int ey7) ?_
  refine tw_aload_n 0 dL_law__241 rfl rfl ?_
  refine tw_iload 4 dL_law__242 rfl ?_
  refine tw_iconst (v := 3) dL_law__244 (by decide) ?_
  refine tw_iadd dL_law__245 ?_
  refine tw_nmi (fun v8 ev8 => ?_)
  have q9 : v8 = nI (5 * j + 3) := by rw [ev8]; exact tw_s3 _
  rw [q9]
  obtain ⟨y10, ey10⟩ : ∃ y : Int32, Int32.ofNat (d.2 (1000 + (nI (5 * j + 3)).toNatClampNeg)) = y := ⟨_, rfl⟩
  refine tw_ti (v := .int y10) (fun _ _ z => z.xs.2.2.2.2.2) dL_law__246 (vp_in_nI (by omega) (by omega)) (congrArg Value.int ey10) ?_
  refine tw_aload_n 3 dL_law__247 rfl rfl ?_
  refine tw_bi (tw_callSH (M := mL_law_) (pc := 248) okL_law dL_law__248 w_538 [.ref x, .int y4, .int y7, .int y10, .ref o] [] rfl rfl ⟨by decide, by decide⟩ (Nat.le_of_ble_eq_true rfl) (c_L_law d g τ h sp1.1 x ok.2.2.1 y4 y7 y10 o ok.2.2.2.2) ((c + 900) - 20) ((n + 5000) - 120) (by omega) (by omega)) (fun r13 h12 q11 => ?_) (fun E h1 q => q.elim)
  obtain ⟨g14, τ15, q11g, q11s⟩ := q11
  have ok16 := ok.go (by rw [q11g]; exact ok.2.1) q11s
  have sp17 := tw_sp.rf ok16.1
  refine tw_istore [(5, .int r13), (0, .ref (d.2 98)), (1, .ref x), (2, .ref m), (3, .ref o), (4, .int (nI (5 * j)))] dL_law__251 (by decide) rfl ?_
  refine tw_aload_n 3 dL_law__253 rfl rfl ?_
  refine tw_aload_n 1 dL_law__254 rfl rfl ?_
  refine tw_iload 5 dL_law__255 rfl ?_
  refine tw_iconst (v := 1) dL_law__257 (by decide) ?_
  refine tw_iadd dL_law__258 ?_
  refine tw_nmi (fun v18 ev18 => ?_)
  have q19 : v18 = nI (5 * j + 1) := by rw [ev18]; exact tw_s1 _
  rw [q19]
  refine tw_ti (v := .int y4) (fun _ _ z => z.xs.2.2.2.2.2) dL_law__259 (vp_in_nI (by omega) (by omega)) (congrArg Value.int ey4) ?_
  refine tw_aload_n 1 dL_law__260 rfl rfl ?_
  refine tw_iload 5 dL_law__261 rfl ?_
  refine tw_iconst (v := 2) dL_law__263 (by decide) ?_
  refine tw_iadd dL_law__264 ?_
  refine tw_nmi (fun v20 ev20 => ?_)
  have q21 : v20 = nI (5 * j + 2) := by rw [ev20]; exact tw_s2 _
  rw [q21]
  refine tw_ti (v := .int y7) (fun _ _ z => z.xs.2.2.2.2.2) dL_law__265 (vp_in_nI (by omega) (by omega)) (congrArg Value.int ey7) ?_
  refine tw_aload_n 1 dL_law__266 rfl rfl ?_
  refine tw_iload 5 dL_law__267 rfl ?_
  refine tw_iconst (v := 3) dL_law__269 (by decide) ?_
  refine tw_iadd dL_law__270 ?_
  refine tw_nmi (fun v22 ev22 => ?_)
  have q23 : v22 = nI (5 * j + 3) := by rw [ev22]; exact tw_s3 _
  rw [q23]
  refine tw_ti (v := .int y10) (fun _ _ z => z.xs.2.2.2.2.2) dL_law__271 (vp_in_nI (by omega) (by omega)) (congrArg Value.int ey10) ?_
  obtain ⟨e24, f25, th_26, td_27, ds_28, fr_29, ca_30, us_31, wo_32, cm_33, lc_34, lh_35, ld_36, rfl, k37, k38, k39, k40, k41, k42, k43, k44, k45, k46, k47, k48, k49, k50, k51, k52⟩ := sp17.1 m 36 ok16.2.2.2.1 (by decide)
  refine tw_bi (tw_callV (M := mL_law_) (pc := 272) okX10_law dL_law__272 w_1288 rfl f25 [.int y4, .int y7, .int y10] [] rfl rfl ⟨by decide, by decide⟩ (Nat.le_of_ble_eq_true rfl) (c_X10_law d g14 τ15 h12 sp17.1 m ok16.2.2.2.1 y4 y7 y10) ((c + 900) - 20) ((n + 5000) - 120) (by omega) (by omega)) (fun r55 h54 q53 => ?_) (fun E h1 q => q.elim)
  have q53s := q53
  have ok56 := ok16.go ok16.2.1 q53s
  have sp57 := tw_sp.rf ok56.1
  refine tw_istore [(6, .int r55), (5, .int r13), (0, .ref (d.2 98)), (1, .ref x), (2, .ref m), (3, .ref o), (4, .int (nI (5 * j)))] dL_law__275 (by decide) rfl ?_
  refine tw_goto 1391 dL_law__277 (by decide) ?_
  refine tw_lv [2, 3, 4, 5, 6] rfl ?_
  refine tw_less (c2 := c) (n2 := n) (by omega) (by omega) ?_
  exact J _ _ _ ok56

set_option maxHeartbeats 4000000 in
set_option maxRecDepth 100000 in
theorem law_case_2 (d : tw_D) (x m o j c n : Nat) (Q : tw_O → tw_H → Prop) (hL : d.2 97 ≤ 2560) (hj : 5 * j + 5 ≤ d.2 97) (J : tw_J d x m o j Q c n) (g : tw_G) (τ : tw_K) (h : tw_H) (ok : tw_ok5 d x m o g τ h) : tw_W d mL_law_ Q 280 (tw_lv5 d x m o j) [] h (c + 900) (n + 5000) := by
  show tw_W d mL_law_ Q 280 [(0, .ref (d.2 98)), (1, .ref x), (2, .ref m), (3, .ref o), (4, .int (nI (5 * j)))] [] h (c + 900) (n + 5000)
  have sp1 := tw_sp.rf ok.1
  refine tw_aload_n 1 dL_law__280 rfl rfl ?_
  refine tw_aload_n 0 dL_law__281 rfl rfl ?_
  refine tw_iload 4 dL_law__282 rfl ?_
  refine tw_iconst (v := 1) dL_law__284 (by decide) ?_
  refine tw_iadd dL_law__285 ?_
  refine tw_nmi (fun v2 ev2 => ?_)
  have q3 : v2 = nI (5 * j + 1) := by rw [ev2]; exact tw_s1 _
  rw [q3]
  obtain ⟨y4, ey4⟩ : ∃ y : Int32, Int32.ofNat (d.2 (1000 + (nI (5 * j + 1)).toNatClampNeg)) = y := ⟨_, rfl⟩
  refine tw_ti (v := .int y4) (fun _ _ z => z.xs.2.2.2.2.2) dL_law__286 (vp_in_nI (by omega) (by omega)) (congrArg Value.int ey4) ?_
  refine tw_aload_n 0 dL_law__287 rfl rfl ?_
  refine tw_iload 4 dL_law__288 rfl ?_
  refine tw_iconst (v := 2) dL_law__290 (by decide) ?_
  refine tw_iadd dL_law__291 ?_
  refine tw_nmi (fun v5 ev5 => ?_)
  have q6 : v5 = nI (5 * j + 2) := by rw [ev5]; exact tw_s2 _
  rw [q6]
  obtain ⟨y7, ey7⟩ : ∃ y : Int32, Int32.ofNat (d.2 (1000 + (nI (5 * j + 2)).toNatClampNeg)) = y := ⟨_, rfl⟩
  refine tw_ti (v := .int y7) (fun _ _ z => z.xs.2.2.2.2.2) dL_law__292 (vp_in_nI (by omega) (by omega)) (congrArg Value.int ey7) ?_
  refine tw_aload_n 0 dL_law__293 rfl rfl ?_
  refine tw_iload 4 dL_law__294 rfl ?_
  refine tw_iconst (v := 3) dL_law__296 (by decide) ?_
  refine tw_iadd dL_law__297 ?_
  refine tw_nmi (fun v8 ev8 => ?_)
  have q9 : v8 = nI (5 * j + 3) := by rw [ev8]; exact tw_s3 _
  rw [q9]
  obtain ⟨y10, ey10⟩ : ∃ y : Int32, Int32.ofNat (d.2 (1000 + (nI (5 * j + 3)).toNatClampNeg)) = y := ⟨_, rfl⟩
  refine tw_ti (v := .int y10) (fun _ _ z => z.xs.2.2.2.2.2) dL_law__298 (vp_in_nI (by omega) (by omega)) (congrArg Value.int ey10) ?_
  refine tw_if_eq 306 dL_law__299 (by decide) (fun c11 => ?_) (fun c11 => ?_)
  · refine tw_iconst (v := 0) dL_law__306 (by decide) ?_
    refine tw_aload_n 3 dL_law__307 rfl rfl ?_
    refine tw_bi (tw_callSH (M := mL_law_) (pc := 308) okL_gate dL_law__308 w_566 [.ref x, .int y4, .int y7, .int 0, .ref o] [] rfl rfl ⟨by decide, by decide⟩ (Nat.le_of_ble_eq_true rfl) (c_L_gate d g τ h sp1.1 x ok.2.2.1 y4 y7 0 (by unfold tw_01; decide) o ok.2.2.2.2) ((c + 900) - 20) ((n + 5000) - 120) (by omega) (by omega)) (fun r14 h13 q12 => ?_) (fun E h1 q => q.elim)
    obtain ⟨g15, τ16, q12g, q12s⟩ := q12
    have ok17 := ok.go (by rw [q12g]; exact ok.2.1) q12s
    have sp18 := tw_sp.rf ok17.1
    refine tw_istore [(5, .int r14), (0, .ref (d.2 98)), (1, .ref x), (2, .ref m), (3, .ref o), (4, .int (nI (5 * j)))] dL_law__311 (by decide) rfl ?_
    refine tw_aload_n 3 dL_law__313 rfl rfl ?_
    refine tw_aload_n 1 dL_law__314 rfl rfl ?_
    refine tw_iload 5 dL_law__315 rfl ?_
    refine tw_iconst (v := 1) dL_law__317 (by decide) ?_
    refine tw_iadd dL_law__318 ?_
    refine tw_nmi (fun v19 ev19 => ?_)
    have q20 : v19 = nI (5 * j + 1) := by rw [ev19]; exact tw_s1 _
    rw [q20]
    refine tw_ti (v := .int y4) (fun _ _ z => z.xs.2.2.2.2.2) dL_law__319 (vp_in_nI (by omega) (by omega)) (congrArg Value.int ey4) ?_
    refine tw_aload_n 1 dL_law__320 rfl rfl ?_
    refine tw_iload 5 dL_law__321 rfl ?_
    refine tw_iconst (v := 2) dL_law__323 (by decide) ?_
    refine tw_iadd dL_law__324 ?_
    refine tw_nmi (fun v21 ev21 => ?_)
    have q22 : v21 = nI (5 * j + 2) := by rw [ev21]; exact tw_s2 _
    rw [q22]
    refine tw_ti (v := .int y7) (fun _ _ z => z.xs.2.2.2.2.2) dL_law__325 (vp_in_nI (by omega) (by omega)) (congrArg Value.int ey7) ?_
    refine tw_aload_n 1 dL_law__326 rfl rfl ?_
    refine tw_iload 5 dL_law__327 rfl ?_
    refine tw_iconst (v := 3) dL_law__329 (by decide) ?_
    refine tw_iadd dL_law__330 ?_
    refine tw_nmi (fun v23 ev23 => ?_)
    have q24 : v23 = nI (5 * j + 3) := by rw [ev23]; exact tw_s3 _
    rw [q24]
    refine tw_ti (v := .int y10) (fun _ _ z => z.xs.2.2.2.2.2) dL_law__331 (vp_in_nI (by omega) (by omega)) (congrArg Value.int ey10) ?_
    refine tw_if_eq 339 dL_law__332 (by decide) (fun c25 => ?_) (fun c25 => ?_)
    · refine tw_iconst (v := 0) dL_law__339 (by decide) ?_
      obtain ⟨e26, f27, th_28, td_29, ds_30, fr_31, ca_32, us_33, wo_34, cm_35, lc_36, lh_37, ld_38, rfl, k39, k40, k41, k42, k43, k44, k45, k46, k47, k48, k49, k50, k51, k52, k53, k54⟩ := sp18.1 m 36 ok17.2.2.2.1 (by decide)
      refine tw_bi (tw_callV (M := mL_law_) (pc := 340) okX10_gate dL_law__340 w_1308 rfl f27 [.int y4, .int y7, .int 0] [] rfl rfl ⟨by decide, by decide⟩ (Nat.le_of_ble_eq_true rfl) (c_X10_gate d g15 τ16 h13 sp18.1 m ok17.2.2.2.1 y4 y7 0 (by unfold tw_01; decide)) ((c + 900) - 20) ((n + 5000) - 120) (by omega) (by omega)) (fun r57 h56 q55 => ?_) (fun E h1 q => q.elim)
      have q55s := q55.1
      have ok58 := ok17.go ok17.2.1 q55s
      have sp59 := tw_sp.rf ok58.1
      refine tw_istore [(6, .int r57), (5, .int r14), (0, .ref (d.2 98)), (1, .ref x), (2, .ref m), (3, .ref o), (4, .int (nI (5 * j)))] dL_law__343 (by decide) rfl ?_
      refine tw_goto 1391 dL_law__345 (by decide) ?_
      refine tw_lv [2, 3, 4, 5, 6] rfl ?_
      refine tw_less (c2 := c) (n2 := n) (by omega) (by omega) ?_
      exact J _ _ _ ok58
    · refine tw_iconst (v := 1) dL_law__335 (by decide) ?_
      refine tw_goto 340 dL_law__336 (by decide) ?_
      obtain ⟨e60, f61, th_62, td_63, ds_64, fr_65, ca_66, us_67, wo_68, cm_69, lc_70, lh_71, ld_72, rfl, k73, k74, k75, k76, k77, k78, k79, k80, k81, k82, k83, k84, k85, k86, k87, k88⟩ := sp18.1 m 36 ok17.2.2.2.1 (by decide)
      refine tw_bi (tw_callV (M := mL_law_) (pc := 340) okX10_gate dL_law__340 w_1308 rfl f61 [.int y4, .int y7, .int 1] [] rfl rfl ⟨by decide, by decide⟩ (Nat.le_of_ble_eq_true rfl) (c_X10_gate d g15 τ16 h13 sp18.1 m ok17.2.2.2.1 y4 y7 1 (by unfold tw_01; decide)) ((c + 900) - 20) ((n + 5000) - 120) (by omega) (by omega)) (fun r91 h90 q89 => ?_) (fun E h1 q => q.elim)
      have q89s := q89.1
      have ok92 := ok17.go ok17.2.1 q89s
      have sp93 := tw_sp.rf ok92.1
      refine tw_istore [(6, .int r91), (5, .int r14), (0, .ref (d.2 98)), (1, .ref x), (2, .ref m), (3, .ref o), (4, .int (nI (5 * j)))] dL_law__343 (by decide) rfl ?_
      refine tw_goto 1391 dL_law__345 (by decide) ?_
      refine tw_lv [2, 3, 4, 5, 6] rfl ?_
      refine tw_less (c2 := c) (n2 := n) (by omega) (by omega) ?_
      exact J _ _ _ ok92
  · refine tw_iconst (v := 1) dL_law__302 (by decide) ?_
    refine tw_goto 307 dL_law__303 (by decide) ?_
    refine tw_aload_n 3 dL_law__307 rfl rfl ?_
    refine tw_bi (tw_callSH (M := mL_law_) (pc := 308) okL_gate dL_law__308 w_566 [.ref x, .int y4, .int y7, .int 1, .ref o] [] rfl rfl ⟨by decide, by decide⟩ (Nat.le_of_ble_eq_true rfl) (c_L_gate d g τ h sp1.1 x ok.2.2.1 y4 y7 1 (by unfold tw_01; decide) o ok.2.2.2.2) ((c + 900) - 20) ((n + 5000) - 120) (by omega) (by omega)) (fun r96 h95 q94 => ?_) (fun E h1 q => q.elim)
    obtain ⟨g97, τ98, q94g, q94s⟩ := q94
    have ok99 := ok.go (by rw [q94g]; exact ok.2.1) q94s
    have sp100 := tw_sp.rf ok99.1
    refine tw_istore [(5, .int r96), (0, .ref (d.2 98)), (1, .ref x), (2, .ref m), (3, .ref o), (4, .int (nI (5 * j)))] dL_law__311 (by decide) rfl ?_
    refine tw_aload_n 3 dL_law__313 rfl rfl ?_
    refine tw_aload_n 1 dL_law__314 rfl rfl ?_
    refine tw_iload 5 dL_law__315 rfl ?_
    refine tw_iconst (v := 1) dL_law__317 (by decide) ?_
    refine tw_iadd dL_law__318 ?_
    refine tw_nmi (fun v101 ev101 => ?_)
    have q102 : v101 = nI (5 * j + 1) := by rw [ev101]; exact tw_s1 _
    rw [q102]
    refine tw_ti (v := .int y4) (fun _ _ z => z.xs.2.2.2.2.2) dL_law__319 (vp_in_nI (by omega) (by omega)) (congrArg Value.int ey4) ?_
    refine tw_aload_n 1 dL_law__320 rfl rfl ?_
    refine tw_iload 5 dL_law__321 rfl ?_
    refine tw_iconst (v := 2) dL_law__323 (by decide) ?_
    refine tw_iadd dL_law__324 ?_
    refine tw_nmi (fun v103 ev103 => ?_)
    have q104 : v103 = nI (5 * j + 2) := by rw [ev103]; exact tw_s2 _
    rw [q104]
    refine tw_ti (v := .int y7) (fun _ _ z => z.xs.2.2.2.2.2) dL_law__325 (vp_in_nI (by omega) (by omega)) (congrArg Value.int ey7) ?_
    refine tw_aload_n 1 dL_law__326 rfl rfl ?_
    refine tw_iload 5 dL_law__327 rfl ?_
    refine tw_iconst (v := 3) dL_law__329 (by decide) ?_
    refine tw_iadd dL_law__330 ?_
    refine tw_nmi (fun v105 ev105 => ?_)
    have q106 : v105 = nI (5 * j + 3) := by rw [ev105]; exact tw_s3 _
    rw [q106]
    refine tw_ti (v := .int y10) (fun _ _ z => z.xs.2.2.2.2.2) dL_law__331 (vp_in_nI (by omega) (by omega)) (congrArg Value.int ey10) ?_
    refine tw_if_eq 339 dL_law__332 (by decide) (fun c107 => ?_) (fun c107 => ?_)
    · refine tw_iconst (v := 0) dL_law__339 (by decide) ?_
      obtain ⟨e108, f109, th_110, td_111, ds_112, fr_113, ca_114, us_115, wo_116, cm_117, lc_118, lh_119, ld_120, rfl, k121, k122, k123, k124, k125, k126, k127, k128, k129, k130, k131, k132, k133, k134, k135, k136⟩ := sp100.1 m 36 ok99.2.2.2.1 (by decide)
      refine tw_bi (tw_callV (M := mL_law_) (pc := 340) okX10_gate dL_law__340 w_1308 rfl f109 [.int y4, .int y7, .int 0] [] rfl rfl ⟨by decide, by decide⟩ (Nat.le_of_ble_eq_true rfl) (c_X10_gate d g97 τ98 h95 sp100.1 m ok99.2.2.2.1 y4 y7 0 (by unfold tw_01; decide)) ((c + 900) - 20) ((n + 5000) - 120) (by omega) (by omega)) (fun r139 h138 q137 => ?_) (fun E h1 q => q.elim)
      have q137s := q137.1
      have ok140 := ok99.go ok99.2.1 q137s
      have sp141 := tw_sp.rf ok140.1
      refine tw_istore [(6, .int r139), (5, .int r96), (0, .ref (d.2 98)), (1, .ref x), (2, .ref m), (3, .ref o), (4, .int (nI (5 * j)))] dL_law__343 (by decide) rfl ?_
      refine tw_goto 1391 dL_law__345 (by decide) ?_
      refine tw_lv [2, 3, 4, 5, 6] rfl ?_
      refine tw_less (c2 := c) (n2 := n) (by omega) (by omega) ?_
      exact J _ _ _ ok140
    · refine tw_iconst (v := 1) dL_law__335 (by decide) ?_
      refine tw_goto 340 dL_law__336 (by decide) ?_
      obtain ⟨e142, f143, th_144, td_145, ds_146, fr_147, ca_148, us_149, wo_150, cm_151, lc_152, lh_153, ld_154, rfl, k155, k156, k157, k158, k159, k160, k161, k162, k163, k164, k165, k166, k167, k168, k169, k170⟩ := sp100.1 m 36 ok99.2.2.2.1 (by decide)
      refine tw_bi (tw_callV (M := mL_law_) (pc := 340) okX10_gate dL_law__340 w_1308 rfl f143 [.int y4, .int y7, .int 1] [] rfl rfl ⟨by decide, by decide⟩ (Nat.le_of_ble_eq_true rfl) (c_X10_gate d g97 τ98 h95 sp100.1 m ok99.2.2.2.1 y4 y7 1 (by unfold tw_01; decide)) ((c + 900) - 20) ((n + 5000) - 120) (by omega) (by omega)) (fun r173 h172 q171 => ?_) (fun E h1 q => q.elim)
      have q171s := q171.1
      have ok174 := ok99.go ok99.2.1 q171s
      have sp175 := tw_sp.rf ok174.1
      refine tw_istore [(6, .int r173), (5, .int r96), (0, .ref (d.2 98)), (1, .ref x), (2, .ref m), (3, .ref o), (4, .int (nI (5 * j)))] dL_law__343 (by decide) rfl ?_
      refine tw_goto 1391 dL_law__345 (by decide) ?_
      refine tw_lv [2, 3, 4, 5, 6] rfl ?_
      refine tw_less (c2 := c) (n2 := n) (by omega) (by omega) ?_
      exact J _ _ _ ok174

set_option maxHeartbeats 4000000 in
set_option maxRecDepth 100000 in
theorem law_case_3 (d : tw_D) (x m o j c n : Nat) (Q : tw_O → tw_H → Prop) (hL : d.2 97 ≤ 2560) (hj : 5 * j + 5 ≤ d.2 97) (J : tw_J d x m o j Q c n) (g : tw_G) (τ : tw_K) (h : tw_H) (ok : tw_ok5 d x m o g τ h) : tw_W d mL_law_ Q 348 (tw_lv5 d x m o j) [] h (c + 900) (n + 5000) := by
  show tw_W d mL_law_ Q 348 [(0, .ref (d.2 98)), (1, .ref x), (2, .ref m), (3, .ref o), (4, .int (nI (5 * j)))] [] h (c + 900) (n + 5000)
  have sp1 := tw_sp.rf ok.1
  refine tw_aload_n 1 dL_law__348 rfl rfl ?_
  refine tw_aload_n 0 dL_law__349 rfl rfl ?_
  refine tw_iload 4 dL_law__350 rfl ?_
  refine tw_iconst (v := 1) dL_law__352 (by decide) ?_
  refine tw_iadd dL_law__353 ?_
  refine tw_nmi (fun v2 ev2 => ?_)
  have q3 : v2 = nI (5 * j + 1) := by rw [ev2]; exact tw_s1 _
  rw [q3]
  obtain ⟨y4, ey4⟩ : ∃ y : Int32, Int32.ofNat (d.2 (1000 + (nI (5 * j + 1)).toNatClampNeg)) = y := ⟨_, rfl⟩
  refine tw_ti (v := .int y4) (fun _ _ z => z.xs.2.2.2.2.2) dL_law__354 (vp_in_nI (by omega) (by omega)) (congrArg Value.int ey4) ?_
  refine tw_aload_n 3 dL_law__355 rfl rfl ?_
  refine tw_bi (tw_callSH (M := mL_law_) (pc := 356) okL_market dL_law__356 w_585 [.ref x, .int y4, .ref o] [] rfl rfl ⟨by decide, by decide⟩ (Nat.le_of_ble_eq_true rfl) (c_L_market d g τ h sp1.1 x ok.2.2.1 y4 o ok.2.2.2.2) ((c + 900) - 20) ((n + 5000) - 120) (by omega) (by omega)) (fun r7 h6 q5 => ?_) (fun E h1 q => q.elim)
  obtain ⟨g8, τ9, q5g, q5s⟩ := q5
  have ok10 := ok.go (by rcases q5g with z | z <;> rw [z] <;> exact ok.2.1) q5s
  have sp11 := tw_sp.rf ok10.1
  refine tw_istore [(5, .int r7), (0, .ref (d.2 98)), (1, .ref x), (2, .ref m), (3, .ref o), (4, .int (nI (5 * j)))] dL_law__359 (by decide) rfl ?_
  refine tw_aload_n 3 dL_law__361 rfl rfl ?_
  refine tw_aload_n 1 dL_law__362 rfl rfl ?_
  refine tw_iload 5 dL_law__363 rfl ?_
  refine tw_iconst (v := 1) dL_law__365 (by decide) ?_
  refine tw_iadd dL_law__366 ?_
  refine tw_nmi (fun v12 ev12 => ?_)
  have q13 : v12 = nI (5 * j + 1) := by rw [ev12]; exact tw_s1 _
  rw [q13]
  refine tw_ti (v := .int y4) (fun _ _ z => z.xs.2.2.2.2.2) dL_law__367 (vp_in_nI (by omega) (by omega)) (congrArg Value.int ey4) ?_
  obtain ⟨e14, f15, th_16, td_17, ds_18, fr_19, ca_20, us_21, wo_22, cm_23, lc_24, lh_25, ld_26, rfl, k27, k28, k29, k30, k31, k32, k33, k34, k35, k36, k37, k38, k39, k40, k41, k42⟩ := sp11.1 m 36 ok10.2.2.2.1 (by decide)
  refine tw_bi (tw_callV (M := mL_law_) (pc := 368) okX10_market dL_law__368 w_1315 rfl f15 [.int y4] [] rfl rfl ⟨by decide, by decide⟩ (Nat.le_of_ble_eq_true rfl) (c_X10_market d g8 τ9 h6 sp11.1 m ok10.2.2.2.1 y4) ((c + 900) - 20) ((n + 5000) - 120) (by omega) (by omega)) (fun r45 h44 q43 => ?_) (fun E h1 q => q.elim)
  obtain ⟨g47, q43g, q43s⟩ : ∃ g1, (g1 = g8 ∨ g1 = tw_g1 g8 1 y4) ∧ tw_sp d τ9 h6 g1 τ9 h44 := by rcases q43.2 with z | z; exact ⟨_, Or.inl rfl, z.2.2⟩; exact ⟨_, Or.inr rfl, z.2.2.2⟩
  have ok46 := ok10.go (by rcases q43g with z | z <;> rw [z] <;> exact ok10.2.1) q43s
  have sp48 := tw_sp.rf ok46.1
  refine tw_istore [(6, .int r45), (5, .int r7), (0, .ref (d.2 98)), (1, .ref x), (2, .ref m), (3, .ref o), (4, .int (nI (5 * j)))] dL_law__371 (by decide) rfl ?_
  refine tw_goto 1391 dL_law__373 (by decide) ?_
  refine tw_lv [2, 3, 4, 5, 6] rfl ?_
  refine tw_less (c2 := c) (n2 := n) (by omega) (by omega) ?_
  exact J _ _ _ ok46

set_option maxHeartbeats 4000000 in
set_option maxRecDepth 100000 in
theorem law_case_4 (d : tw_D) (x m o j c n : Nat) (Q : tw_O → tw_H → Prop) (hL : d.2 97 ≤ 2560) (hj : 5 * j + 5 ≤ d.2 97) (J : tw_J d x m o j Q c n) (g : tw_G) (τ : tw_K) (h : tw_H) (ok : tw_ok5 d x m o g τ h) : tw_W d mL_law_ Q 376 (tw_lv5 d x m o j) [] h (c + 900) (n + 5000) := by
  show tw_W d mL_law_ Q 376 [(0, .ref (d.2 98)), (1, .ref x), (2, .ref m), (3, .ref o), (4, .int (nI (5 * j)))] [] h (c + 900) (n + 5000)
  have sp1 := tw_sp.rf ok.1
  refine tw_aload_n 1 dL_law__376 rfl rfl ?_
  refine tw_aload_n 0 dL_law__377 rfl rfl ?_
  refine tw_iload 4 dL_law__378 rfl ?_
  refine tw_iconst (v := 1) dL_law__380 (by decide) ?_
  refine tw_iadd dL_law__381 ?_
  refine tw_nmi (fun v2 ev2 => ?_)
  have q3 : v2 = nI (5 * j + 1) := by rw [ev2]; exact tw_s1 _
  rw [q3]
  obtain ⟨y4, ey4⟩ : ∃ y : Int32, Int32.ofNat (d.2 (1000 + (nI (5 * j + 1)).toNatClampNeg)) = y := ⟨_, rfl⟩
  refine tw_ti (v := .int y4) (fun _ _ z => z.xs.2.2.2.2.2) dL_law__382 (vp_in_nI (by omega) (by omega)) (congrArg Value.int ey4) ?_
  refine tw_aload_n 0 dL_law__383 rfl rfl ?_
  refine tw_iload 4 dL_law__384 rfl ?_
  refine tw_iconst (v := 2) dL_law__386 (by decide) ?_
  refine tw_iadd dL_law__387 ?_
  refine tw_nmi (fun v5 ev5 => ?_)
  have q6 : v5 = nI (5 * j + 2) := by rw [ev5]; exact tw_s2 _
  rw [q6]
  obtain ⟨y7, ey7⟩ : ∃ y : Int32, Int32.ofNat (d.2 (1000 + (nI (5 * j + 2)).toNatClampNeg)) = y := ⟨_, rfl⟩
  refine tw_ti (v := .int y7) (fun _ _ z => z.xs.2.2.2.2.2) dL_law__388 (vp_in_nI (by omega) (by omega)) (congrArg Value.int ey7) ?_
  refine tw_aload_n 0 dL_law__389 rfl rfl ?_
  refine tw_iload 4 dL_law__390 rfl ?_
  refine tw_iconst (v := 3) dL_law__392 (by decide) ?_
  refine tw_iadd dL_law__393 ?_
  refine tw_nmi (fun v8 ev8 => ?_)
  have q9 : v8 = nI (5 * j + 3) := by rw [ev8]; exact tw_s3 _
  rw [q9]
  obtain ⟨y10, ey10⟩ : ∃ y : Int32, Int32.ofNat (d.2 (1000 + (nI (5 * j + 3)).toNatClampNeg)) = y := ⟨_, rfl⟩
  refine tw_ti (v := .int y10) (fun _ _ z => z.xs.2.2.2.2.2) dL_law__394 (vp_in_nI (by omega) (by omega)) (congrArg Value.int ey10) ?_
  refine tw_aload_n 0 dL_law__395 rfl rfl ?_
  refine tw_iload 4 dL_law__396 rfl ?_
  refine tw_iconst (v := 4) dL_law__398 (by decide) ?_
  refine tw_iadd dL_law__399 ?_
  refine tw_nmi (fun v11 ev11 => ?_)
  have q12 : v11 = nI (5 * j + 4) := by rw [ev11]; exact tw_s4 _
  rw [q12]
  obtain ⟨y13, ey13⟩ : ∃ y : Int32, Int32.ofNat (d.2 (1000 + (nI (5 * j + 4)).toNatClampNeg)) = y := ⟨_, rfl⟩
  refine tw_ti (v := .int y13) (fun _ _ z => z.xs.2.2.2.2.2) dL_law__400 (vp_in_nI (by omega) (by omega)) (congrArg Value.int ey13) ?_
  refine tw_aload_n 3 dL_law__401 rfl rfl ?_
  refine tw_bi (tw_callSH (M := mL_law_) (pc := 402) okL_road dL_law__402 w_592 [.ref x, .int y4, .int y7, .int y10, .int y13, .ref o] [] rfl rfl ⟨by decide, by decide⟩ (Nat.le_of_ble_eq_true rfl) (c_L_road d g τ h sp1.1 x ok.2.2.1 y4 y7 y10 y13 o ok.2.2.2.2) ((c + 900) - 20) ((n + 5000) - 120) (by omega) (by omega)) (fun r16 h15 q14 => ?_) (fun E h1 q => q.elim)
  obtain ⟨g17, τ18, q14g, q14s⟩ := q14
  have ok19 := ok.go (by rw [q14g]; exact ok.2.1) q14s
  have sp20 := tw_sp.rf ok19.1
  refine tw_istore [(5, .int r16), (0, .ref (d.2 98)), (1, .ref x), (2, .ref m), (3, .ref o), (4, .int (nI (5 * j)))] dL_law__405 (by decide) rfl ?_
  refine tw_aload_n 3 dL_law__407 rfl rfl ?_
  refine tw_aload_n 1 dL_law__408 rfl rfl ?_
  refine tw_iload 5 dL_law__409 rfl ?_
  refine tw_iconst (v := 1) dL_law__411 (by decide) ?_
  refine tw_iadd dL_law__412 ?_
  refine tw_nmi (fun v21 ev21 => ?_)
  have q22 : v21 = nI (5 * j + 1) := by rw [ev21]; exact tw_s1 _
  rw [q22]
  refine tw_ti (v := .int y4) (fun _ _ z => z.xs.2.2.2.2.2) dL_law__413 (vp_in_nI (by omega) (by omega)) (congrArg Value.int ey4) ?_
  refine tw_aload_n 1 dL_law__414 rfl rfl ?_
  refine tw_iload 5 dL_law__415 rfl ?_
  refine tw_iconst (v := 2) dL_law__417 (by decide) ?_
  refine tw_iadd dL_law__418 ?_
  refine tw_nmi (fun v23 ev23 => ?_)
  have q24 : v23 = nI (5 * j + 2) := by rw [ev23]; exact tw_s2 _
  rw [q24]
  refine tw_ti (v := .int y7) (fun _ _ z => z.xs.2.2.2.2.2) dL_law__419 (vp_in_nI (by omega) (by omega)) (congrArg Value.int ey7) ?_
  refine tw_aload_n 1 dL_law__420 rfl rfl ?_
  refine tw_iload 5 dL_law__421 rfl ?_
  refine tw_iconst (v := 3) dL_law__423 (by decide) ?_
  refine tw_iadd dL_law__424 ?_
  refine tw_nmi (fun v25 ev25 => ?_)
  have q26 : v25 = nI (5 * j + 3) := by rw [ev25]; exact tw_s3 _
  rw [q26]
  refine tw_ti (v := .int y10) (fun _ _ z => z.xs.2.2.2.2.2) dL_law__425 (vp_in_nI (by omega) (by omega)) (congrArg Value.int ey10) ?_
  refine tw_aload_n 1 dL_law__426 rfl rfl ?_
  refine tw_iload 5 dL_law__427 rfl ?_
  refine tw_iconst (v := 4) dL_law__429 (by decide) ?_
  refine tw_iadd dL_law__430 ?_
  refine tw_nmi (fun v27 ev27 => ?_)
  have q28 : v27 = nI (5 * j + 4) := by rw [ev27]; exact tw_s4 _
  rw [q28]
  refine tw_ti (v := .int y13) (fun _ _ z => z.xs.2.2.2.2.2) dL_law__431 (vp_in_nI (by omega) (by omega)) (congrArg Value.int ey13) ?_
  obtain ⟨e29, f30, th_31, td_32, ds_33, fr_34, ca_35, us_36, wo_37, cm_38, lc_39, lh_40, ld_41, rfl, k42, k43, k44, k45, k46, k47, k48, k49, k50, k51, k52, k53, k54, k55, k56, k57⟩ := sp20.1 m 36 ok19.2.2.2.1 (by decide)
  refine tw_bi (tw_callV (M := mL_law_) (pc := 432) okX10_road dL_law__432 w_1319 rfl f30 [.int y4, .int y7, .int y10, .int y13] [] rfl rfl ⟨by decide, by decide⟩ (Nat.le_of_ble_eq_true rfl) (c_X10_road d g17 τ18 h15 sp20.1 m ok19.2.2.2.1 y4 y7 y10 y13) ((c + 900) - 20) ((n + 5000) - 120) (by omega) (by omega)) (fun r60 h59 q58 => ?_) (fun E h1 q => q.elim)
  have q58s := q58
  have ok61 := ok19.go ok19.2.1 q58s
  have sp62 := tw_sp.rf ok61.1
  refine tw_istore [(6, .int r60), (5, .int r16), (0, .ref (d.2 98)), (1, .ref x), (2, .ref m), (3, .ref o), (4, .int (nI (5 * j)))] dL_law__435 (by decide) rfl ?_
  refine tw_goto 1391 dL_law__437 (by decide) ?_
  refine tw_lv [2, 3, 4, 5, 6] rfl ?_
  refine tw_less (c2 := c) (n2 := n) (by omega) (by omega) ?_
  exact J _ _ _ ok61

set_option maxHeartbeats 4000000 in
set_option maxRecDepth 100000 in
theorem law_case_5 (d : tw_D) (x m o j c n : Nat) (Q : tw_O → tw_H → Prop) (hL : d.2 97 ≤ 2560) (hj : 5 * j + 5 ≤ d.2 97) (J : tw_J d x m o j Q c n) (g : tw_G) (τ : tw_K) (h : tw_H) (ok : tw_ok5 d x m o g τ h) : tw_W d mL_law_ Q 440 (tw_lv5 d x m o j) [] h (c + 900) (n + 5000) := by
  show tw_W d mL_law_ Q 440 [(0, .ref (d.2 98)), (1, .ref x), (2, .ref m), (3, .ref o), (4, .int (nI (5 * j)))] [] h (c + 900) (n + 5000)
  have sp1 := tw_sp.rf ok.1
  refine tw_aload_n 1 dL_law__440 rfl rfl ?_
  refine tw_aload_n 0 dL_law__441 rfl rfl ?_
  refine tw_iload 4 dL_law__442 rfl ?_
  refine tw_iconst (v := 1) dL_law__444 (by decide) ?_
  refine tw_iadd dL_law__445 ?_
  refine tw_nmi (fun v2 ev2 => ?_)
  have q3 : v2 = nI (5 * j + 1) := by rw [ev2]; exact tw_s1 _
  rw [q3]
  obtain ⟨y4, ey4⟩ : ∃ y : Int32, Int32.ofNat (d.2 (1000 + (nI (5 * j + 1)).toNatClampNeg)) = y := ⟨_, rfl⟩
  refine tw_ti (v := .int y4) (fun _ _ z => z.xs.2.2.2.2.2) dL_law__446 (vp_in_nI (by omega) (by omega)) (congrArg Value.int ey4) ?_
  refine tw_aload_n 0 dL_law__447 rfl rfl ?_
  refine tw_iload 4 dL_law__448 rfl ?_
  refine tw_iconst (v := 2) dL_law__450 (by decide) ?_
  refine tw_iadd dL_law__451 ?_
  refine tw_nmi (fun v5 ev5 => ?_)
  have q6 : v5 = nI (5 * j + 2) := by rw [ev5]; exact tw_s2 _
  rw [q6]
  obtain ⟨y7, ey7⟩ : ∃ y : Int32, Int32.ofNat (d.2 (1000 + (nI (5 * j + 2)).toNatClampNeg)) = y := ⟨_, rfl⟩
  refine tw_ti (v := .int y7) (fun _ _ z => z.xs.2.2.2.2.2) dL_law__452 (vp_in_nI (by omega) (by omega)) (congrArg Value.int ey7) ?_
  refine tw_aload_n 0 dL_law__453 rfl rfl ?_
  refine tw_iload 4 dL_law__454 rfl ?_
  refine tw_iconst (v := 3) dL_law__456 (by decide) ?_
  refine tw_iadd dL_law__457 ?_
  refine tw_nmi (fun v8 ev8 => ?_)
  have q9 : v8 = nI (5 * j + 3) := by rw [ev8]; exact tw_s3 _
  rw [q9]
  obtain ⟨y10, ey10⟩ : ∃ y : Int32, Int32.ofNat (d.2 (1000 + (nI (5 * j + 3)).toNatClampNeg)) = y := ⟨_, rfl⟩
  refine tw_ti (v := .int y10) (fun _ _ z => z.xs.2.2.2.2.2) dL_law__458 (vp_in_nI (by omega) (by omega)) (congrArg Value.int ey10) ?_
  refine tw_aload_n 3 dL_law__459 rfl rfl ?_
  refine tw_bi (tw_callSH (M := mL_law_) (pc := 460) okL_mine dL_law__460 w_607 [.ref x, .int y4, .int y7, .int y10, .ref o] [] rfl rfl ⟨by decide, by decide⟩ (Nat.le_of_ble_eq_true rfl) (c_L_mine d g τ h sp1.1 x ok.2.2.1 y4 y7 y10 o ok.2.2.2.2) ((c + 900) - 20) ((n + 5000) - 120) (by omega) (by omega)) (fun r13 h12 q11 => ?_) (fun E h1 q => q.elim)
  obtain ⟨g14, τ15, q11g, q11s⟩ := q11
  have ok16 := ok.go (by rw [q11g]; exact ok.2.1) q11s
  have sp17 := tw_sp.rf ok16.1
  refine tw_istore [(5, .int r13), (0, .ref (d.2 98)), (1, .ref x), (2, .ref m), (3, .ref o), (4, .int (nI (5 * j)))] dL_law__463 (by decide) rfl ?_
  refine tw_aload_n 3 dL_law__465 rfl rfl ?_
  refine tw_aload_n 1 dL_law__466 rfl rfl ?_
  refine tw_iload 5 dL_law__467 rfl ?_
  refine tw_iconst (v := 1) dL_law__469 (by decide) ?_
  refine tw_iadd dL_law__470 ?_
  refine tw_nmi (fun v18 ev18 => ?_)
  have q19 : v18 = nI (5 * j + 1) := by rw [ev18]; exact tw_s1 _
  rw [q19]
  refine tw_ti (v := .int y4) (fun _ _ z => z.xs.2.2.2.2.2) dL_law__471 (vp_in_nI (by omega) (by omega)) (congrArg Value.int ey4) ?_
  refine tw_aload_n 1 dL_law__472 rfl rfl ?_
  refine tw_iload 5 dL_law__473 rfl ?_
  refine tw_iconst (v := 2) dL_law__475 (by decide) ?_
  refine tw_iadd dL_law__476 ?_
  refine tw_nmi (fun v20 ev20 => ?_)
  have q21 : v20 = nI (5 * j + 2) := by rw [ev20]; exact tw_s2 _
  rw [q21]
  refine tw_ti (v := .int y7) (fun _ _ z => z.xs.2.2.2.2.2) dL_law__477 (vp_in_nI (by omega) (by omega)) (congrArg Value.int ey7) ?_
  refine tw_aload_n 1 dL_law__478 rfl rfl ?_
  refine tw_iload 5 dL_law__479 rfl ?_
  refine tw_iconst (v := 3) dL_law__481 (by decide) ?_
  refine tw_iadd dL_law__482 ?_
  refine tw_nmi (fun v22 ev22 => ?_)
  have q23 : v22 = nI (5 * j + 3) := by rw [ev22]; exact tw_s3 _
  rw [q23]
  refine tw_ti (v := .int y10) (fun _ _ z => z.xs.2.2.2.2.2) dL_law__483 (vp_in_nI (by omega) (by omega)) (congrArg Value.int ey10) ?_
  obtain ⟨e24, f25, th_26, td_27, ds_28, fr_29, ca_30, us_31, wo_32, cm_33, lc_34, lh_35, ld_36, rfl, k37, k38, k39, k40, k41, k42, k43, k44, k45, k46, k47, k48, k49, k50, k51, k52⟩ := sp17.1 m 36 ok16.2.2.2.1 (by decide)
  refine tw_bi (tw_callV (M := mL_law_) (pc := 484) okX10_mine dL_law__484 w_1323 rfl f25 [.int y4, .int y7, .int y10] [] rfl rfl ⟨by decide, by decide⟩ (Nat.le_of_ble_eq_true rfl) (c_X10_mine d g14 τ15 h12 sp17.1 m ok16.2.2.2.1 y4 y7 y10) ((c + 900) - 20) ((n + 5000) - 120) (by omega) (by omega)) (fun r55 h54 q53 => ?_) (fun E h1 q => q.elim)
  have q53s := q53
  have ok56 := ok16.go ok16.2.1 q53s
  have sp57 := tw_sp.rf ok56.1
  refine tw_istore [(6, .int r55), (5, .int r13), (0, .ref (d.2 98)), (1, .ref x), (2, .ref m), (3, .ref o), (4, .int (nI (5 * j)))] dL_law__487 (by decide) rfl ?_
  refine tw_goto 1391 dL_law__489 (by decide) ?_
  refine tw_lv [2, 3, 4, 5, 6] rfl ?_
  refine tw_less (c2 := c) (n2 := n) (by omega) (by omega) ?_
  exact J _ _ _ ok56

set_option maxHeartbeats 4000000 in
set_option maxRecDepth 100000 in
theorem law_case_6 (d : tw_D) (x m o j c n : Nat) (Q : tw_O → tw_H → Prop) (hL : d.2 97 ≤ 2560) (hj : 5 * j + 5 ≤ d.2 97) (J : tw_J d x m o j Q c n) (g : tw_G) (τ : tw_K) (h : tw_H) (ok : tw_ok5 d x m o g τ h) : tw_W d mL_law_ Q 492 (tw_lv5 d x m o j) [] h (c + 900) (n + 5000) := by
  show tw_W d mL_law_ Q 492 [(0, .ref (d.2 98)), (1, .ref x), (2, .ref m), (3, .ref o), (4, .int (nI (5 * j)))] [] h (c + 900) (n + 5000)
  have sp1 := tw_sp.rf ok.1
  refine tw_aload_n 1 dL_law__492 rfl rfl ?_
  refine tw_aload_n 0 dL_law__493 rfl rfl ?_
  refine tw_iload 4 dL_law__494 rfl ?_
  refine tw_iconst (v := 1) dL_law__496 (by decide) ?_
  refine tw_iadd dL_law__497 ?_
  refine tw_nmi (fun v2 ev2 => ?_)
  have q3 : v2 = nI (5 * j + 1) := by rw [ev2]; exact tw_s1 _
  rw [q3]
  obtain ⟨y4, ey4⟩ : ∃ y : Int32, Int32.ofNat (d.2 (1000 + (nI (5 * j + 1)).toNatClampNeg)) = y := ⟨_, rfl⟩
  refine tw_ti (v := .int y4) (fun _ _ z => z.xs.2.2.2.2.2) dL_law__498 (vp_in_nI (by omega) (by omega)) (congrArg Value.int ey4) ?_
  refine tw_aload_n 0 dL_law__499 rfl rfl ?_
  refine tw_iload 4 dL_law__500 rfl ?_
  refine tw_iconst (v := 2) dL_law__502 (by decide) ?_
  refine tw_iadd dL_law__503 ?_
  refine tw_nmi (fun v5 ev5 => ?_)
  have q6 : v5 = nI (5 * j + 2) := by rw [ev5]; exact tw_s2 _
  rw [q6]
  obtain ⟨y7, ey7⟩ : ∃ y : Int32, Int32.ofNat (d.2 (1000 + (nI (5 * j + 2)).toNatClampNeg)) = y := ⟨_, rfl⟩
  refine tw_ti (v := .int y7) (fun _ _ z => z.xs.2.2.2.2.2) dL_law__504 (vp_in_nI (by omega) (by omega)) (congrArg Value.int ey7) ?_
  refine tw_aload_n 0 dL_law__505 rfl rfl ?_
  refine tw_iload 4 dL_law__506 rfl ?_
  refine tw_iconst (v := 3) dL_law__508 (by decide) ?_
  refine tw_iadd dL_law__509 ?_
  refine tw_nmi (fun v8 ev8 => ?_)
  have q9 : v8 = nI (5 * j + 3) := by rw [ev8]; exact tw_s3 _
  rw [q9]
  obtain ⟨y10, ey10⟩ : ∃ y : Int32, Int32.ofNat (d.2 (1000 + (nI (5 * j + 3)).toNatClampNeg)) = y := ⟨_, rfl⟩
  refine tw_ti (v := .int y10) (fun _ _ z => z.xs.2.2.2.2.2) dL_law__510 (vp_in_nI (by omega) (by omega)) (congrArg Value.int ey10) ?_
  refine tw_aload_n 3 dL_law__511 rfl rfl ?_
  refine tw_bi (tw_callSH (M := mL_law_) (pc := 512) okL_use dL_law__512 w_616 [.ref x, .int y4, .int y7, .int y10, .ref o] [] rfl rfl ⟨by decide, by decide⟩ (Nat.le_of_ble_eq_true rfl) (c_L_use d g τ h sp1.1 x ok.2.2.1 y4 y7 y10 o ok.2.2.2.2) ((c + 900) - 20) ((n + 5000) - 120) (by omega) (by omega)) (fun r13 h12 q11 => ?_) (fun E h1 q => q.elim)
  obtain ⟨g14, τ15, q11g, q11s⟩ := q11
  have ok16 := ok.go (by rw [q11g]; exact ok.2.1) q11s
  have sp17 := tw_sp.rf ok16.1
  refine tw_istore [(5, .int r13), (0, .ref (d.2 98)), (1, .ref x), (2, .ref m), (3, .ref o), (4, .int (nI (5 * j)))] dL_law__515 (by decide) rfl ?_
  refine tw_aload_n 3 dL_law__517 rfl rfl ?_
  refine tw_aload_n 1 dL_law__518 rfl rfl ?_
  refine tw_iload 5 dL_law__519 rfl ?_
  refine tw_iconst (v := 1) dL_law__521 (by decide) ?_
  refine tw_iadd dL_law__522 ?_
  refine tw_nmi (fun v18 ev18 => ?_)
  have q19 : v18 = nI (5 * j + 1) := by rw [ev18]; exact tw_s1 _
  rw [q19]
  refine tw_ti (v := .int y4) (fun _ _ z => z.xs.2.2.2.2.2) dL_law__523 (vp_in_nI (by omega) (by omega)) (congrArg Value.int ey4) ?_
  refine tw_aload_n 1 dL_law__524 rfl rfl ?_
  refine tw_iload 5 dL_law__525 rfl ?_
  refine tw_iconst (v := 2) dL_law__527 (by decide) ?_
  refine tw_iadd dL_law__528 ?_
  refine tw_nmi (fun v20 ev20 => ?_)
  have q21 : v20 = nI (5 * j + 2) := by rw [ev20]; exact tw_s2 _
  rw [q21]
  refine tw_ti (v := .int y7) (fun _ _ z => z.xs.2.2.2.2.2) dL_law__529 (vp_in_nI (by omega) (by omega)) (congrArg Value.int ey7) ?_
  refine tw_aload_n 1 dL_law__530 rfl rfl ?_
  refine tw_iload 5 dL_law__531 rfl ?_
  refine tw_iconst (v := 3) dL_law__533 (by decide) ?_
  refine tw_iadd dL_law__534 ?_
  refine tw_nmi (fun v22 ev22 => ?_)
  have q23 : v22 = nI (5 * j + 3) := by rw [ev22]; exact tw_s3 _
  rw [q23]
  refine tw_ti (v := .int y10) (fun _ _ z => z.xs.2.2.2.2.2) dL_law__535 (vp_in_nI (by omega) (by omega)) (congrArg Value.int ey10) ?_
  obtain ⟨e24, f25, th_26, td_27, ds_28, fr_29, ca_30, us_31, wo_32, cm_33, lc_34, lh_35, ld_36, rfl, k37, k38, k39, k40, k41, k42, k43, k44, k45, k46, k47, k48, k49, k50, k51, k52⟩ := sp17.1 m 36 ok16.2.2.2.1 (by decide)
  refine tw_bi (tw_callV (M := mL_law_) (pc := 536) okX10_use dL_law__536 w_1328 rfl f25 [.int y4, .int y7, .int y10] [] rfl rfl ⟨by decide, by decide⟩ (Nat.le_of_ble_eq_true rfl) (c_X10_use d g14 τ15 h12 sp17.1 m ok16.2.2.2.1 y4 y7 y10) ((c + 900) - 20) ((n + 5000) - 120) (by omega) (by omega)) (fun r55 h54 q53 => ?_) (fun E h1 q => q.elim)
  have q53s := q53
  have ok56 := ok16.go ok16.2.1 q53s
  have sp57 := tw_sp.rf ok56.1
  refine tw_istore [(6, .int r55), (5, .int r13), (0, .ref (d.2 98)), (1, .ref x), (2, .ref m), (3, .ref o), (4, .int (nI (5 * j)))] dL_law__539 (by decide) rfl ?_
  refine tw_goto 1391 dL_law__541 (by decide) ?_
  refine tw_lv [2, 3, 4, 5, 6] rfl ?_
  refine tw_less (c2 := c) (n2 := n) (by omega) (by omega) ?_
  exact J _ _ _ ok56

set_option maxHeartbeats 4000000 in
set_option maxRecDepth 100000 in
theorem law_case_7 (d : tw_D) (x m o j c n : Nat) (Q : tw_O → tw_H → Prop) (hL : d.2 97 ≤ 2560) (hj : 5 * j + 5 ≤ d.2 97) (J : tw_J d x m o j Q c n) (g : tw_G) (τ : tw_K) (h : tw_H) (ok : tw_ok5 d x m o g τ h) : tw_W d mL_law_ Q 544 (tw_lv5 d x m o j) [] h (c + 900) (n + 5000) := by
  show tw_W d mL_law_ Q 544 [(0, .ref (d.2 98)), (1, .ref x), (2, .ref m), (3, .ref o), (4, .int (nI (5 * j)))] [] h (c + 900) (n + 5000)
  have sp1 := tw_sp.rf ok.1
  refine tw_aload_n 1 dL_law__544 rfl rfl ?_
  refine tw_aload_n 0 dL_law__545 rfl rfl ?_
  refine tw_iload 4 dL_law__546 rfl ?_
  refine tw_iconst (v := 1) dL_law__548 (by decide) ?_
  refine tw_iadd dL_law__549 ?_
  refine tw_nmi (fun v2 ev2 => ?_)
  have q3 : v2 = nI (5 * j + 1) := by rw [ev2]; exact tw_s1 _
  rw [q3]
  obtain ⟨y4, ey4⟩ : ∃ y : Int32, Int32.ofNat (d.2 (1000 + (nI (5 * j + 1)).toNatClampNeg)) = y := ⟨_, rfl⟩
  refine tw_ti (v := .int y4) (fun _ _ z => z.xs.2.2.2.2.2) dL_law__550 (vp_in_nI (by omega) (by omega)) (congrArg Value.int ey4) ?_
  refine tw_aload_n 0 dL_law__551 rfl rfl ?_
  refine tw_iload 4 dL_law__552 rfl ?_
  refine tw_iconst (v := 2) dL_law__554 (by decide) ?_
  refine tw_iadd dL_law__555 ?_
  refine tw_nmi (fun v5 ev5 => ?_)
  have q6 : v5 = nI (5 * j + 2) := by rw [ev5]; exact tw_s2 _
  rw [q6]
  obtain ⟨y7, ey7⟩ : ∃ y : Int32, Int32.ofNat (d.2 (1000 + (nI (5 * j + 2)).toNatClampNeg)) = y := ⟨_, rfl⟩
  refine tw_ti (v := .int y7) (fun _ _ z => z.xs.2.2.2.2.2) dL_law__556 (vp_in_nI (by omega) (by omega)) (congrArg Value.int ey7) ?_
  refine tw_aload_n 0 dL_law__557 rfl rfl ?_
  refine tw_iload 4 dL_law__558 rfl ?_
  refine tw_iconst (v := 3) dL_law__560 (by decide) ?_
  refine tw_iadd dL_law__561 ?_
  refine tw_nmi (fun v8 ev8 => ?_)
  have q9 : v8 = nI (5 * j + 3) := by rw [ev8]; exact tw_s3 _
  rw [q9]
  obtain ⟨y10, ey10⟩ : ∃ y : Int32, Int32.ofNat (d.2 (1000 + (nI (5 * j + 3)).toNatClampNeg)) = y := ⟨_, rfl⟩
  refine tw_ti (v := .int y10) (fun _ _ z => z.xs.2.2.2.2.2) dL_law__562 (vp_in_nI (by omega) (by omega)) (congrArg Value.int ey10) ?_
  refine tw_aload_n 3 dL_law__563 rfl rfl ?_
  refine tw_bi (tw_callSH (M := mL_law_) (pc := 564) okL_house dL_law__564 w_624 [.ref x, .int y4, .int y7, .int y10, .ref o] [] rfl rfl ⟨by decide, by decide⟩ (Nat.le_of_ble_eq_true rfl) (c_L_house d g τ h sp1.1 x ok.2.2.1 y4 y7 y10 o ok.2.2.2.2 ok.2.1.2.2.2.2.1) ((c + 900) - 20) ((n + 5000) - 120) (by omega) (by omega)) (fun r13 h12 q11 => ?_) (fun E h1 q => q.elim)
  rcases q11 with ⟨q11e, q11cI, q11cR, q11cL, q11n, τc, q11s⟩ | ⟨q11e, q11cI, τc, q11s⟩ | ⟨q11e, q11cI, q11cR, τc, q11s⟩ | ⟨q11e, q11cI, q11cR, q11cL, τc, q11s⟩
  · rw [q11e]
    have kx1 := q11s.2.1.k ok.2.2.1 (by decide)
    have km1 := q11s.2.1.k ok.2.2.2.1 (by decide)
    have ko1 := q11s.2.1.k ok.2.2.2.2 (by decide)
    refine tw_istore [(5, .int 0), (0, .ref (d.2 98)), (1, .ref x), (2, .ref m), (3, .ref o), (4, .int (nI (5 * j)))] dL_law__567 (by decide) rfl ?_
    refine tw_aload_n 3 dL_law__569 rfl rfl ?_
    refine tw_aload_n 1 dL_law__570 rfl rfl ?_
    refine tw_iload 5 dL_law__571 rfl ?_
    refine tw_iconst (v := 1) dL_law__573 (by decide) ?_
    refine tw_iadd dL_law__574 ?_
    refine tw_nmi (fun v14 ev14 => ?_)
    have q15 : v14 = nI (5 * j + 1) := by rw [ev14]; exact tw_s1 _
    rw [q15]
    refine tw_ti (v := .int y4) (fun _ _ z => z.xs.2.2.2.2.2) dL_law__575 (vp_in_nI (by omega) (by omega)) (congrArg Value.int ey4) ?_
    refine tw_aload_n 1 dL_law__576 rfl rfl ?_
    refine tw_iload 5 dL_law__577 rfl ?_
    refine tw_iconst (v := 2) dL_law__579 (by decide) ?_
    refine tw_iadd dL_law__580 ?_
    refine tw_nmi (fun v16 ev16 => ?_)
    have q17 : v16 = nI (5 * j + 2) := by rw [ev16]; exact tw_s2 _
    rw [q17]
    refine tw_ti (v := .int y7) (fun _ _ z => z.xs.2.2.2.2.2) dL_law__581 (vp_in_nI (by omega) (by omega)) (congrArg Value.int ey7) ?_
    refine tw_aload_n 1 dL_law__582 rfl rfl ?_
    refine tw_iload 5 dL_law__583 rfl ?_
    refine tw_iconst (v := 3) dL_law__585 (by decide) ?_
    refine tw_iadd dL_law__586 ?_
    refine tw_nmi (fun v18 ev18 => ?_)
    have q19 : v18 = nI (5 * j + 3) := by rw [ev18]; exact tw_s3 _
    rw [q19]
    refine tw_ti (v := .int y10) (fun _ _ z => z.xs.2.2.2.2.2) dL_law__587 (vp_in_nI (by omega) (by omega)) (congrArg Value.int ey10) ?_
    obtain ⟨e20, f21, th_22, td_23, ds_24, fr_25, ca_26, us_27, wo_28, cm_29, lc_30, lh_31, ld_32, rfl, k33, k34, k35, k36, k37, k38, k39, k40, k41, k42, k43, k44, k45, k46, k47, k48⟩ := (tw_sp.rf q11s.1).1 m 36 km1 (by decide)
    refine tw_bi (tw_callV (M := mL_law_) (pc := 588) okX10_house dL_law__588 w_1332 rfl f21 [.int y4, .int y7, .int y10] [] rfl rfl ⟨by decide, by decide⟩ (Nat.le_of_ble_eq_true rfl) (c2_X10_house d (tw_gI g 7 1) τc h12 (tw_sp.rf q11s.1).1 m km1 y4 y7 y10 o ko1) (((c + 900) - 20) - 10) (((n + 5000) - 120) - 60) (by omega) (by omega)) (fun r51 h50 q49 => ?_) (fun E h1 q => q.elim)
    obtain ⟨g9, τ9, s9, oq9, q49a⟩ := q49
    have kx2 := s9.2.1.k kx1 (by decide)
    have km2 := s9.2.1.k km1 (by decide)
    have ko2 := s9.2.1.k ko1 (by decide)
    have q11cI3 : tw_ix (g.2 3) y4 := by rw [← ok.2.1.2.2.2.1.trans ok.2.1.1]; exact q11cI
    have q11cL3 : g.2 4 < 6 := by rw [← ok.2.1.2.1]; exact q11cL
    rcases q49a with ⟨z, -⟩ | ⟨-, z, -⟩ | ⟨-, -, z, -⟩ | ⟨-, -, -, hr2, ht, gk9⟩
    · exact absurd q11cI3 z
    · exact absurd q11cR z
    · exact absurd q11cL3 z
    · rw [hr2]
      have ok9 : tw_ok5 d x m o g9 τ9 h50 := ⟨s9.1, ok.2.1.house gk9, kx2, km2, ko2⟩
      have hlg : tw_lg (h50 o) = (nI (g.2 1)).toInt64 := by rw [oq9]; exact q11n
      have sp52 := tw_sp.rf ok9.1
      refine tw_istore [(6, .int (nI ((tw_gI g 7 1).2 4))), (5, .int 0), (0, .ref (d.2 98)), (1, .ref x), (2, .ref m), (3, .ref o), (4, .int (nI (5 * j)))] dL_law__591 (by decide) rfl ?_
      refine tw_goto 1391 dL_law__593 (by decide) ?_
      refine tw_lv [2, 3, 4, 5, 6] rfl ?_
      refine tw_less (c2 := c) (n2 := n) (by omega) (by omega) ?_
      exact J _ _ _ ok9
  · rw [q11e]
    have kx1 := q11s.2.1.k ok.2.2.1 (by decide)
    have km1 := q11s.2.1.k ok.2.2.2.1 (by decide)
    have ko1 := q11s.2.1.k ok.2.2.2.2 (by decide)
    refine tw_istore [(5, .int 1), (0, .ref (d.2 98)), (1, .ref x), (2, .ref m), (3, .ref o), (4, .int (nI (5 * j)))] dL_law__567 (by decide) rfl ?_
    refine tw_aload_n 3 dL_law__569 rfl rfl ?_
    refine tw_aload_n 1 dL_law__570 rfl rfl ?_
    refine tw_iload 5 dL_law__571 rfl ?_
    refine tw_iconst (v := 1) dL_law__573 (by decide) ?_
    refine tw_iadd dL_law__574 ?_
    refine tw_nmi (fun v53 ev53 => ?_)
    have q54 : v53 = nI (5 * j + 1) := by rw [ev53]; exact tw_s1 _
    rw [q54]
    refine tw_ti (v := .int y4) (fun _ _ z => z.xs.2.2.2.2.2) dL_law__575 (vp_in_nI (by omega) (by omega)) (congrArg Value.int ey4) ?_
    refine tw_aload_n 1 dL_law__576 rfl rfl ?_
    refine tw_iload 5 dL_law__577 rfl ?_
    refine tw_iconst (v := 2) dL_law__579 (by decide) ?_
    refine tw_iadd dL_law__580 ?_
    refine tw_nmi (fun v55 ev55 => ?_)
    have q56 : v55 = nI (5 * j + 2) := by rw [ev55]; exact tw_s2 _
    rw [q56]
    refine tw_ti (v := .int y7) (fun _ _ z => z.xs.2.2.2.2.2) dL_law__581 (vp_in_nI (by omega) (by omega)) (congrArg Value.int ey7) ?_
    refine tw_aload_n 1 dL_law__582 rfl rfl ?_
    refine tw_iload 5 dL_law__583 rfl ?_
    refine tw_iconst (v := 3) dL_law__585 (by decide) ?_
    refine tw_iadd dL_law__586 ?_
    refine tw_nmi (fun v57 ev57 => ?_)
    have q58 : v57 = nI (5 * j + 3) := by rw [ev57]; exact tw_s3 _
    rw [q58]
    refine tw_ti (v := .int y10) (fun _ _ z => z.xs.2.2.2.2.2) dL_law__587 (vp_in_nI (by omega) (by omega)) (congrArg Value.int ey10) ?_
    obtain ⟨e59, f60, th_61, td_62, ds_63, fr_64, ca_65, us_66, wo_67, cm_68, lc_69, lh_70, ld_71, rfl, k72, k73, k74, k75, k76, k77, k78, k79, k80, k81, k82, k83, k84, k85, k86, k87⟩ := (tw_sp.rf q11s.1).1 m 36 km1 (by decide)
    refine tw_bi (tw_callV (M := mL_law_) (pc := 588) okX10_house dL_law__588 w_1332 rfl f60 [.int y4, .int y7, .int y10] [] rfl rfl ⟨by decide, by decide⟩ (Nat.le_of_ble_eq_true rfl) (c2_X10_house d g τc h12 (tw_sp.rf q11s.1).1 m km1 y4 y7 y10 o ko1) (((c + 900) - 20) - 10) (((n + 5000) - 120) - 60) (by omega) (by omega)) (fun r90 h89 q88 => ?_) (fun E h1 q => q.elim)
    obtain ⟨g9, τ9, s9, oq9, q88a⟩ := q88
    have kx2 := s9.2.1.k kx1 (by decide)
    have km2 := s9.2.1.k km1 (by decide)
    have ko2 := s9.2.1.k ko1 (by decide)
    have q11cI3 : ¬ tw_ix (g.2 3) y4 := by rw [← ok.2.1.2.2.2.1.trans ok.2.1.1]; exact q11cI
    rcases q88a with ⟨-, ht, eg9⟩ | ⟨z, -⟩ | ⟨z, -⟩ | ⟨z, -⟩
    · rw [eg9] at s9
      have ok9 : tw_ok5 d x m o g τ9 h89 := ⟨s9.1, ok.2.1, kx2, km2, ko2⟩
      have sp91 := tw_sp.rf ok9.1
      refine tw_istore [(6, .int r90), (5, .int 1), (0, .ref (d.2 98)), (1, .ref x), (2, .ref m), (3, .ref o), (4, .int (nI (5 * j)))] dL_law__591 (by decide) rfl ?_
      refine tw_goto 1391 dL_law__593 (by decide) ?_
      refine tw_lv [2, 3, 4, 5, 6] rfl ?_
      refine tw_less (c2 := c) (n2 := n) (by omega) (by omega) ?_
      exact J _ _ _ ok9
    · exact absurd z q11cI3
    · exact absurd z q11cI3
    · exact absurd z q11cI3
  · rw [q11e]
    have kx1 := q11s.2.1.k ok.2.2.1 (by decide)
    have km1 := q11s.2.1.k ok.2.2.2.1 (by decide)
    have ko1 := q11s.2.1.k ok.2.2.2.2 (by decide)
    refine tw_istore [(5, .int 2), (0, .ref (d.2 98)), (1, .ref x), (2, .ref m), (3, .ref o), (4, .int (nI (5 * j)))] dL_law__567 (by decide) rfl ?_
    refine tw_aload_n 3 dL_law__569 rfl rfl ?_
    refine tw_aload_n 1 dL_law__570 rfl rfl ?_
    refine tw_iload 5 dL_law__571 rfl ?_
    refine tw_iconst (v := 1) dL_law__573 (by decide) ?_
    refine tw_iadd dL_law__574 ?_
    refine tw_nmi (fun v92 ev92 => ?_)
    have q93 : v92 = nI (5 * j + 1) := by rw [ev92]; exact tw_s1 _
    rw [q93]
    refine tw_ti (v := .int y4) (fun _ _ z => z.xs.2.2.2.2.2) dL_law__575 (vp_in_nI (by omega) (by omega)) (congrArg Value.int ey4) ?_
    refine tw_aload_n 1 dL_law__576 rfl rfl ?_
    refine tw_iload 5 dL_law__577 rfl ?_
    refine tw_iconst (v := 2) dL_law__579 (by decide) ?_
    refine tw_iadd dL_law__580 ?_
    refine tw_nmi (fun v94 ev94 => ?_)
    have q95 : v94 = nI (5 * j + 2) := by rw [ev94]; exact tw_s2 _
    rw [q95]
    refine tw_ti (v := .int y7) (fun _ _ z => z.xs.2.2.2.2.2) dL_law__581 (vp_in_nI (by omega) (by omega)) (congrArg Value.int ey7) ?_
    refine tw_aload_n 1 dL_law__582 rfl rfl ?_
    refine tw_iload 5 dL_law__583 rfl ?_
    refine tw_iconst (v := 3) dL_law__585 (by decide) ?_
    refine tw_iadd dL_law__586 ?_
    refine tw_nmi (fun v96 ev96 => ?_)
    have q97 : v96 = nI (5 * j + 3) := by rw [ev96]; exact tw_s3 _
    rw [q97]
    refine tw_ti (v := .int y10) (fun _ _ z => z.xs.2.2.2.2.2) dL_law__587 (vp_in_nI (by omega) (by omega)) (congrArg Value.int ey10) ?_
    obtain ⟨e98, f99, th_100, td_101, ds_102, fr_103, ca_104, us_105, wo_106, cm_107, lc_108, lh_109, ld_110, rfl, k111, k112, k113, k114, k115, k116, k117, k118, k119, k120, k121, k122, k123, k124, k125, k126⟩ := (tw_sp.rf q11s.1).1 m 36 km1 (by decide)
    refine tw_bi (tw_callV (M := mL_law_) (pc := 588) okX10_house dL_law__588 w_1332 rfl f99 [.int y4, .int y7, .int y10] [] rfl rfl ⟨by decide, by decide⟩ (Nat.le_of_ble_eq_true rfl) (c2_X10_house d g τc h12 (tw_sp.rf q11s.1).1 m km1 y4 y7 y10 o ko1) (((c + 900) - 20) - 10) (((n + 5000) - 120) - 60) (by omega) (by omega)) (fun r129 h128 q127 => ?_) (fun E h1 q => q.elim)
    obtain ⟨g9, τ9, s9, oq9, q127a⟩ := q127
    have kx2 := s9.2.1.k kx1 (by decide)
    have km2 := s9.2.1.k km1 (by decide)
    have ko2 := s9.2.1.k ko1 (by decide)
    have q11cI3 : tw_ix (g.2 3) y4 := by rw [← ok.2.1.2.2.2.1.trans ok.2.1.1]; exact q11cI
    rcases q127a with ⟨z, -⟩ | ⟨-, -, ht, eg9⟩ | ⟨-, z, -⟩ | ⟨-, z, -⟩
    · exact absurd q11cI3 z
    · rw [eg9] at s9
      have ok9 : tw_ok5 d x m o g τ9 h128 := ⟨s9.1, ok.2.1, kx2, km2, ko2⟩
      have sp130 := tw_sp.rf ok9.1
      refine tw_istore [(6, .int r129), (5, .int 2), (0, .ref (d.2 98)), (1, .ref x), (2, .ref m), (3, .ref o), (4, .int (nI (5 * j)))] dL_law__591 (by decide) rfl ?_
      refine tw_goto 1391 dL_law__593 (by decide) ?_
      refine tw_lv [2, 3, 4, 5, 6] rfl ?_
      refine tw_less (c2 := c) (n2 := n) (by omega) (by omega) ?_
      exact J _ _ _ ok9
    · exact absurd z q11cR
    · exact absurd z q11cR
  · rw [q11e]
    have kx1 := q11s.2.1.k ok.2.2.1 (by decide)
    have km1 := q11s.2.1.k ok.2.2.2.1 (by decide)
    have ko1 := q11s.2.1.k ok.2.2.2.2 (by decide)
    refine tw_istore [(5, .int 3), (0, .ref (d.2 98)), (1, .ref x), (2, .ref m), (3, .ref o), (4, .int (nI (5 * j)))] dL_law__567 (by decide) rfl ?_
    refine tw_aload_n 3 dL_law__569 rfl rfl ?_
    refine tw_aload_n 1 dL_law__570 rfl rfl ?_
    refine tw_iload 5 dL_law__571 rfl ?_
    refine tw_iconst (v := 1) dL_law__573 (by decide) ?_
    refine tw_iadd dL_law__574 ?_
    refine tw_nmi (fun v131 ev131 => ?_)
    have q132 : v131 = nI (5 * j + 1) := by rw [ev131]; exact tw_s1 _
    rw [q132]
    refine tw_ti (v := .int y4) (fun _ _ z => z.xs.2.2.2.2.2) dL_law__575 (vp_in_nI (by omega) (by omega)) (congrArg Value.int ey4) ?_
    refine tw_aload_n 1 dL_law__576 rfl rfl ?_
    refine tw_iload 5 dL_law__577 rfl ?_
    refine tw_iconst (v := 2) dL_law__579 (by decide) ?_
    refine tw_iadd dL_law__580 ?_
    refine tw_nmi (fun v133 ev133 => ?_)
    have q134 : v133 = nI (5 * j + 2) := by rw [ev133]; exact tw_s2 _
    rw [q134]
    refine tw_ti (v := .int y7) (fun _ _ z => z.xs.2.2.2.2.2) dL_law__581 (vp_in_nI (by omega) (by omega)) (congrArg Value.int ey7) ?_
    refine tw_aload_n 1 dL_law__582 rfl rfl ?_
    refine tw_iload 5 dL_law__583 rfl ?_
    refine tw_iconst (v := 3) dL_law__585 (by decide) ?_
    refine tw_iadd dL_law__586 ?_
    refine tw_nmi (fun v135 ev135 => ?_)
    have q136 : v135 = nI (5 * j + 3) := by rw [ev135]; exact tw_s3 _
    rw [q136]
    refine tw_ti (v := .int y10) (fun _ _ z => z.xs.2.2.2.2.2) dL_law__587 (vp_in_nI (by omega) (by omega)) (congrArg Value.int ey10) ?_
    obtain ⟨e137, f138, th_139, td_140, ds_141, fr_142, ca_143, us_144, wo_145, cm_146, lc_147, lh_148, ld_149, rfl, k150, k151, k152, k153, k154, k155, k156, k157, k158, k159, k160, k161, k162, k163, k164, k165⟩ := (tw_sp.rf q11s.1).1 m 36 km1 (by decide)
    refine tw_bi (tw_callV (M := mL_law_) (pc := 588) okX10_house dL_law__588 w_1332 rfl f138 [.int y4, .int y7, .int y10] [] rfl rfl ⟨by decide, by decide⟩ (Nat.le_of_ble_eq_true rfl) (c2_X10_house d g τc h12 (tw_sp.rf q11s.1).1 m km1 y4 y7 y10 o ko1) (((c + 900) - 20) - 10) (((n + 5000) - 120) - 60) (by omega) (by omega)) (fun r168 h167 q166 => ?_) (fun E h1 q => q.elim)
    obtain ⟨g9, τ9, s9, oq9, q166a⟩ := q166
    have kx2 := s9.2.1.k kx1 (by decide)
    have km2 := s9.2.1.k km1 (by decide)
    have ko2 := s9.2.1.k ko1 (by decide)
    have q11cI3 : tw_ix (g.2 3) y4 := by rw [← ok.2.1.2.2.2.1.trans ok.2.1.1]; exact q11cI
    have q11cL3 : ¬ g.2 4 < 6 := by rw [← ok.2.1.2.1]; exact q11cL
    rcases q166a with ⟨z, -⟩ | ⟨-, z, -⟩ | ⟨-, -, -, ht, eg9⟩ | ⟨-, -, z, -⟩
    · exact absurd q11cI3 z
    · exact absurd q11cR z
    · rw [eg9] at s9
      have ok9 : tw_ok5 d x m o g τ9 h167 := ⟨s9.1, ok.2.1, kx2, km2, ko2⟩
      have sp169 := tw_sp.rf ok9.1
      refine tw_istore [(6, .int r168), (5, .int 3), (0, .ref (d.2 98)), (1, .ref x), (2, .ref m), (3, .ref o), (4, .int (nI (5 * j)))] dL_law__591 (by decide) rfl ?_
      refine tw_goto 1391 dL_law__593 (by decide) ?_
      refine tw_lv [2, 3, 4, 5, 6] rfl ?_
      refine tw_less (c2 := c) (n2 := n) (by omega) (by omega) ?_
      exact J _ _ _ ok9
    · exact absurd z q11cL3

set_option maxHeartbeats 4000000 in
set_option maxRecDepth 100000 in
theorem law_case_8 (d : tw_D) (x m o j c n : Nat) (Q : tw_O → tw_H → Prop) (hL : d.2 97 ≤ 2560) (hj : 5 * j + 5 ≤ d.2 97) (J : tw_J d x m o j Q c n) (g : tw_G) (τ : tw_K) (h : tw_H) (ok : tw_ok5 d x m o g τ h) : tw_W d mL_law_ Q 596 (tw_lv5 d x m o j) [] h (c + 900) (n + 5000) := by
  show tw_W d mL_law_ Q 596 [(0, .ref (d.2 98)), (1, .ref x), (2, .ref m), (3, .ref o), (4, .int (nI (5 * j)))] [] h (c + 900) (n + 5000)
  have sp1 := tw_sp.rf ok.1
  refine tw_aload_n 1 dL_law__596 rfl rfl ?_
  refine tw_aload_n 0 dL_law__597 rfl rfl ?_
  refine tw_iload 4 dL_law__598 rfl ?_
  refine tw_iconst (v := 1) dL_law__600 (by decide) ?_
  refine tw_iadd dL_law__601 ?_
  refine tw_nmi (fun v2 ev2 => ?_)
  have q3 : v2 = nI (5 * j + 1) := by rw [ev2]; exact tw_s1 _
  rw [q3]
  obtain ⟨y4, ey4⟩ : ∃ y : Int32, Int32.ofNat (d.2 (1000 + (nI (5 * j + 1)).toNatClampNeg)) = y := ⟨_, rfl⟩
  refine tw_ti (v := .int y4) (fun _ _ z => z.xs.2.2.2.2.2) dL_law__602 (vp_in_nI (by omega) (by omega)) (congrArg Value.int ey4) ?_
  refine tw_aload_n 0 dL_law__603 rfl rfl ?_
  refine tw_iload 4 dL_law__604 rfl ?_
  refine tw_iconst (v := 2) dL_law__606 (by decide) ?_
  refine tw_iadd dL_law__607 ?_
  refine tw_nmi (fun v5 ev5 => ?_)
  have q6 : v5 = nI (5 * j + 2) := by rw [ev5]; exact tw_s2 _
  rw [q6]
  obtain ⟨y7, ey7⟩ : ∃ y : Int32, Int32.ofNat (d.2 (1000 + (nI (5 * j + 2)).toNatClampNeg)) = y := ⟨_, rfl⟩
  refine tw_ti (v := .int y7) (fun _ _ z => z.xs.2.2.2.2.2) dL_law__608 (vp_in_nI (by omega) (by omega)) (congrArg Value.int ey7) ?_
  refine tw_aload_n 0 dL_law__609 rfl rfl ?_
  refine tw_iload 4 dL_law__610 rfl ?_
  refine tw_iconst (v := 3) dL_law__612 (by decide) ?_
  refine tw_iadd dL_law__613 ?_
  refine tw_nmi (fun v8 ev8 => ?_)
  have q9 : v8 = nI (5 * j + 3) := by rw [ev8]; exact tw_s3 _
  rw [q9]
  obtain ⟨y10, ey10⟩ : ∃ y : Int32, Int32.ofNat (d.2 (1000 + (nI (5 * j + 3)).toNatClampNeg)) = y := ⟨_, rfl⟩
  refine tw_ti (v := .int y10) (fun _ _ z => z.xs.2.2.2.2.2) dL_law__614 (vp_in_nI (by omega) (by omega)) (congrArg Value.int ey10) ?_
  refine tw_aload_n 3 dL_law__615 rfl rfl ?_
  refine tw_bi (tw_callSH (M := mL_law_) (pc := 616) okL_change dL_law__616 w_657 [.ref x, .int y4, .int y7, .int y10, .ref o] [] rfl rfl ⟨by decide, by decide⟩ (Nat.le_of_ble_eq_true rfl) (c_L_change d g τ h sp1.1 x ok.2.2.1 y4 y7 y10 o ok.2.2.2.2) ((c + 900) - 20) ((n + 5000) - 120) (by omega) (by omega)) (fun r13 h12 q11 => ?_) (fun E h1 q => q.elim)
  obtain ⟨g14, τ15, q11g, q11s⟩ := q11
  have ok16 := ok.go (by rw [q11g]; exact ok.2.1) q11s
  have sp17 := tw_sp.rf ok16.1
  refine tw_istore [(5, .int r13), (0, .ref (d.2 98)), (1, .ref x), (2, .ref m), (3, .ref o), (4, .int (nI (5 * j)))] dL_law__619 (by decide) rfl ?_
  refine tw_aload_n 3 dL_law__621 rfl rfl ?_
  refine tw_aload_n 1 dL_law__622 rfl rfl ?_
  refine tw_iload 5 dL_law__623 rfl ?_
  refine tw_iconst (v := 1) dL_law__625 (by decide) ?_
  refine tw_iadd dL_law__626 ?_
  refine tw_nmi (fun v18 ev18 => ?_)
  have q19 : v18 = nI (5 * j + 1) := by rw [ev18]; exact tw_s1 _
  rw [q19]
  refine tw_ti (v := .int y4) (fun _ _ z => z.xs.2.2.2.2.2) dL_law__627 (vp_in_nI (by omega) (by omega)) (congrArg Value.int ey4) ?_
  refine tw_aload_n 1 dL_law__628 rfl rfl ?_
  refine tw_iload 5 dL_law__629 rfl ?_
  refine tw_iconst (v := 2) dL_law__631 (by decide) ?_
  refine tw_iadd dL_law__632 ?_
  refine tw_nmi (fun v20 ev20 => ?_)
  have q21 : v20 = nI (5 * j + 2) := by rw [ev20]; exact tw_s2 _
  rw [q21]
  refine tw_ti (v := .int y7) (fun _ _ z => z.xs.2.2.2.2.2) dL_law__633 (vp_in_nI (by omega) (by omega)) (congrArg Value.int ey7) ?_
  refine tw_aload_n 1 dL_law__634 rfl rfl ?_
  refine tw_iload 5 dL_law__635 rfl ?_
  refine tw_iconst (v := 3) dL_law__637 (by decide) ?_
  refine tw_iadd dL_law__638 ?_
  refine tw_nmi (fun v22 ev22 => ?_)
  have q23 : v22 = nI (5 * j + 3) := by rw [ev22]; exact tw_s3 _
  rw [q23]
  refine tw_ti (v := .int y10) (fun _ _ z => z.xs.2.2.2.2.2) dL_law__639 (vp_in_nI (by omega) (by omega)) (congrArg Value.int ey10) ?_
  obtain ⟨e24, f25, th_26, td_27, ds_28, fr_29, ca_30, us_31, wo_32, cm_33, lc_34, lh_35, ld_36, rfl, k37, k38, k39, k40, k41, k42, k43, k44, k45, k46, k47, k48, k49, k50, k51, k52⟩ := sp17.1 m 36 ok16.2.2.2.1 (by decide)
  refine tw_bi (tw_callV (M := mL_law_) (pc := 640) okX10_change dL_law__640 w_1358 rfl f25 [.int y4, .int y7, .int y10] [] rfl rfl ⟨by decide, by decide⟩ (Nat.le_of_ble_eq_true rfl) (c_X10_change d g14 τ15 h12 sp17.1 m ok16.2.2.2.1 y4 y7 y10) ((c + 900) - 20) ((n + 5000) - 120) (by omega) (by omega)) (fun r55 h54 q53 => ?_) (fun E h1 q => q.elim)
  have q53s := q53
  have ok56 := ok16.go ok16.2.1 q53s
  have sp57 := tw_sp.rf ok56.1
  refine tw_istore [(6, .int r55), (5, .int r13), (0, .ref (d.2 98)), (1, .ref x), (2, .ref m), (3, .ref o), (4, .int (nI (5 * j)))] dL_law__643 (by decide) rfl ?_
  refine tw_goto 1391 dL_law__645 (by decide) ?_
  refine tw_lv [2, 3, 4, 5, 6] rfl ?_
  refine tw_less (c2 := c) (n2 := n) (by omega) (by omega) ?_
  exact J _ _ _ ok56

set_option maxHeartbeats 4000000 in
set_option maxRecDepth 100000 in
theorem law_case_9 (d : tw_D) (x m o j c n : Nat) (Q : tw_O → tw_H → Prop) (hL : d.2 97 ≤ 2560) (hj : 5 * j + 5 ≤ d.2 97) (J : tw_J d x m o j Q c n) (g : tw_G) (τ : tw_K) (h : tw_H) (ok : tw_ok5 d x m o g τ h) : tw_W d mL_law_ Q 648 (tw_lv5 d x m o j) [] h (c + 900) (n + 5000) := by
  show tw_W d mL_law_ Q 648 [(0, .ref (d.2 98)), (1, .ref x), (2, .ref m), (3, .ref o), (4, .int (nI (5 * j)))] [] h (c + 900) (n + 5000)
  have sp1 := tw_sp.rf ok.1
  refine tw_aload_n 1 dL_law__648 rfl rfl ?_
  refine tw_aload_n 0 dL_law__649 rfl rfl ?_
  refine tw_iload 4 dL_law__650 rfl ?_
  refine tw_iconst (v := 1) dL_law__652 (by decide) ?_
  refine tw_iadd dL_law__653 ?_
  refine tw_nmi (fun v2 ev2 => ?_)
  have q3 : v2 = nI (5 * j + 1) := by rw [ev2]; exact tw_s1 _
  rw [q3]
  obtain ⟨y4, ey4⟩ : ∃ y : Int32, Int32.ofNat (d.2 (1000 + (nI (5 * j + 1)).toNatClampNeg)) = y := ⟨_, rfl⟩
  refine tw_ti (v := .int y4) (fun _ _ z => z.xs.2.2.2.2.2) dL_law__654 (vp_in_nI (by omega) (by omega)) (congrArg Value.int ey4) ?_
  refine tw_aload_n 0 dL_law__655 rfl rfl ?_
  refine tw_iload 4 dL_law__656 rfl ?_
  refine tw_iconst (v := 2) dL_law__658 (by decide) ?_
  refine tw_iadd dL_law__659 ?_
  refine tw_nmi (fun v5 ev5 => ?_)
  have q6 : v5 = nI (5 * j + 2) := by rw [ev5]; exact tw_s2 _
  rw [q6]
  obtain ⟨y7, ey7⟩ : ∃ y : Int32, Int32.ofNat (d.2 (1000 + (nI (5 * j + 2)).toNatClampNeg)) = y := ⟨_, rfl⟩
  refine tw_ti (v := .int y7) (fun _ _ z => z.xs.2.2.2.2.2) dL_law__660 (vp_in_nI (by omega) (by omega)) (congrArg Value.int ey7) ?_
  refine tw_aload_n 3 dL_law__661 rfl rfl ?_
  refine tw_bi (tw_callSH (M := mL_law_) (pc := 662) okL_send dL_law__662 w_671 [.ref x, .int y4, .int y7, .ref o] [] rfl rfl ⟨by decide, by decide⟩ (Nat.le_of_ble_eq_true rfl) (c_L_send d g τ h sp1.1 x ok.2.2.1 y4 y7 o ok.2.2.2.2) ((c + 900) - 20) ((n + 5000) - 120) (by omega) (by omega)) (fun r10 h9 q8 => ?_) (fun E h1 q => q.elim)
  obtain ⟨g11, τ12, q8g, q8s⟩ := q8
  have ok13 := ok.go (by rw [q8g]; exact ok.2.1) q8s
  have sp14 := tw_sp.rf ok13.1
  refine tw_istore [(5, .int r10), (0, .ref (d.2 98)), (1, .ref x), (2, .ref m), (3, .ref o), (4, .int (nI (5 * j)))] dL_law__665 (by decide) rfl ?_
  refine tw_aload_n 3 dL_law__667 rfl rfl ?_
  refine tw_aload_n 1 dL_law__668 rfl rfl ?_
  refine tw_iload 5 dL_law__669 rfl ?_
  refine tw_iconst (v := 1) dL_law__671 (by decide) ?_
  refine tw_iadd dL_law__672 ?_
  refine tw_nmi (fun v15 ev15 => ?_)
  have q16 : v15 = nI (5 * j + 1) := by rw [ev15]; exact tw_s1 _
  rw [q16]
  refine tw_ti (v := .int y4) (fun _ _ z => z.xs.2.2.2.2.2) dL_law__673 (vp_in_nI (by omega) (by omega)) (congrArg Value.int ey4) ?_
  refine tw_aload_n 1 dL_law__674 rfl rfl ?_
  refine tw_iload 5 dL_law__675 rfl ?_
  refine tw_iconst (v := 2) dL_law__677 (by decide) ?_
  refine tw_iadd dL_law__678 ?_
  refine tw_nmi (fun v17 ev17 => ?_)
  have q18 : v17 = nI (5 * j + 2) := by rw [ev17]; exact tw_s2 _
  rw [q18]
  refine tw_ti (v := .int y7) (fun _ _ z => z.xs.2.2.2.2.2) dL_law__679 (vp_in_nI (by omega) (by omega)) (congrArg Value.int ey7) ?_
  obtain ⟨e19, f20, th_21, td_22, ds_23, fr_24, ca_25, us_26, wo_27, cm_28, lc_29, lh_30, ld_31, rfl, k32, k33, k34, k35, k36, k37, k38, k39, k40, k41, k42, k43, k44, k45, k46, k47⟩ := sp14.1 m 36 ok13.2.2.2.1 (by decide)
  refine tw_bi (tw_callV (M := mL_law_) (pc := 680) okX10_send dL_law__680 w_1378 rfl f20 [.int y4, .int y7] [] rfl rfl ⟨by decide, by decide⟩ (Nat.le_of_ble_eq_true rfl) (c_X10_send d g11 τ12 h9 sp14.1 m ok13.2.2.2.1 y4 y7) ((c + 900) - 20) ((n + 5000) - 120) (by omega) (by omega)) (fun r50 h49 q48 => ?_) (fun E h1 q => q.elim)
  have q48s := q48
  have ok51 := ok13.go ok13.2.1 q48s
  have sp52 := tw_sp.rf ok51.1
  refine tw_istore [(6, .int r50), (5, .int r10), (0, .ref (d.2 98)), (1, .ref x), (2, .ref m), (3, .ref o), (4, .int (nI (5 * j)))] dL_law__683 (by decide) rfl ?_
  refine tw_goto 1391 dL_law__685 (by decide) ?_
  refine tw_lv [2, 3, 4, 5, 6] rfl ?_
  refine tw_less (c2 := c) (n2 := n) (by omega) (by omega) ?_
  exact J _ _ _ ok51

set_option maxHeartbeats 4000000 in
set_option maxRecDepth 100000 in
theorem law_case_10 (d : tw_D) (x m o j c n : Nat) (Q : tw_O → tw_H → Prop) (hL : d.2 97 ≤ 2560) (hj : 5 * j + 5 ≤ d.2 97) (J : tw_J d x m o j Q c n) (g : tw_G) (τ : tw_K) (h : tw_H) (ok : tw_ok5 d x m o g τ h) : tw_W d mL_law_ Q 688 (tw_lv5 d x m o j) [] h (c + 900) (n + 5000) := by
  show tw_W d mL_law_ Q 688 [(0, .ref (d.2 98)), (1, .ref x), (2, .ref m), (3, .ref o), (4, .int (nI (5 * j)))] [] h (c + 900) (n + 5000)
  have sp1 := tw_sp.rf ok.1
  refine tw_aload_n 1 dL_law__688 rfl rfl ?_
  refine tw_aload_n 0 dL_law__689 rfl rfl ?_
  refine tw_iload 4 dL_law__690 rfl ?_
  refine tw_iconst (v := 1) dL_law__692 (by decide) ?_
  refine tw_iadd dL_law__693 ?_
  refine tw_nmi (fun v2 ev2 => ?_)
  have q3 : v2 = nI (5 * j + 1) := by rw [ev2]; exact tw_s1 _
  rw [q3]
  obtain ⟨y4, ey4⟩ : ∃ y : Int32, Int32.ofNat (d.2 (1000 + (nI (5 * j + 1)).toNatClampNeg)) = y := ⟨_, rfl⟩
  refine tw_ti (v := .int y4) (fun _ _ z => z.xs.2.2.2.2.2) dL_law__694 (vp_in_nI (by omega) (by omega)) (congrArg Value.int ey4) ?_
  refine tw_aload_n 3 dL_law__695 rfl rfl ?_
  refine tw_bi (tw_callSH (M := mL_law_) (pc := 696) okL_pass dL_law__696 w_687 [.ref x, .int y4, .ref o] [] rfl rfl ⟨by decide, by decide⟩ (Nat.le_of_ble_eq_true rfl) (c_L_pass d g τ h sp1.1 x ok.2.2.1 y4 o ok.2.2.2.2) ((c + 900) - 20) ((n + 5000) - 120) (by omega) (by omega)) (fun r7 h6 q5 => ?_) (fun E h1 q => q.elim)
  rcases q5 with ⟨q5e, q5cR, q5cL, q5n, τc, q5s⟩ | ⟨q5e, q5cR, τc, q5s⟩ | ⟨q5e, q5cR, q5cL, τc, q5s⟩
  · rw [q5e]
    have kx1 := q5s.2.1.k ok.2.2.1 (by decide)
    have km1 := q5s.2.1.k ok.2.2.2.1 (by decide)
    have ko1 := q5s.2.1.k ok.2.2.2.2 (by decide)
    refine tw_istore [(5, .int 0), (0, .ref (d.2 98)), (1, .ref x), (2, .ref m), (3, .ref o), (4, .int (nI (5 * j)))] dL_law__699 (by decide) rfl ?_
    refine tw_aload_n 3 dL_law__701 rfl rfl ?_
    refine tw_aload_n 1 dL_law__702 rfl rfl ?_
    refine tw_iload 5 dL_law__703 rfl ?_
    refine tw_iconst (v := 1) dL_law__705 (by decide) ?_
    refine tw_iadd dL_law__706 ?_
    refine tw_nmi (fun v8 ev8 => ?_)
    have q9 : v8 = nI (5 * j + 1) := by rw [ev8]; exact tw_s1 _
    rw [q9]
    refine tw_ti (v := .int y4) (fun _ _ z => z.xs.2.2.2.2.2) dL_law__707 (vp_in_nI (by omega) (by omega)) (congrArg Value.int ey4) ?_
    obtain ⟨e10, f11, th_12, td_13, ds_14, fr_15, ca_16, us_17, wo_18, cm_19, lc_20, lh_21, ld_22, rfl, k23, k24, k25, k26, k27, k28, k29, k30, k31, k32, k33, k34, k35, k36, k37, k38⟩ := (tw_sp.rf q5s.1).1 m 36 km1 (by decide)
    refine tw_bi (tw_callV (M := mL_law_) (pc := 708) okX10_pass dL_law__708 w_1382 rfl f11 [.int y4] [] rfl rfl ⟨by decide, by decide⟩ (Nat.le_of_ble_eq_true rfl) (c2_X10_pass d (tw_g2 g 21 (g.2 21 + tw_DN y4)) τc h6 (tw_sp.rf q5s.1).1 m km1 y4 o ko1) (((c + 900) - 20) - 802) (((n + 5000) - 120) - 3208) (by omega) (by omega)) (fun r41 h40 q39 => ?_) (fun E h1 q => q.elim)
    obtain ⟨g9, τ9, s9, oq9, q39a⟩ := q39
    have kx2 := s9.2.1.k kx1 (by decide)
    have km2 := s9.2.1.k km1 (by decide)
    have ko2 := s9.2.1.k ko1 (by decide)
    have q5cL3 : g.2 22 + tw_DN y4 ≤ 3000 := by rw [← ok.2.1.2.2.2.2.2.2]; exact q5cL
    rcases q39a with ⟨z, -⟩ | ⟨-, z, -⟩ | ⟨-, -, hr2, ht, gk9⟩
    · exact absurd q5cR z
    · exact absurd q5cL3 z
    · rw [hr2]
      have ok9 : tw_ok5 d x m o g9 τ9 h40 := ⟨s9.1, (by rw [gk9]; exact ok.2.1.pass), kx2, km2, ko2⟩
      have hlg : tw_lg (h40 o) = (nI (g.2 21 + tw_DN y4)).toInt64 := by rw [oq9]; exact q5n
      have sp42 := tw_sp.rf ok9.1
      refine tw_istore [(6, .int (nI ((tw_g2 g 21 (g.2 21 + tw_DN y4)).2 22 + tw_DN y4))), (5, .int 0), (0, .ref (d.2 98)), (1, .ref x), (2, .ref m), (3, .ref o), (4, .int (nI (5 * j)))] dL_law__711 (by decide) rfl ?_
      refine tw_aload_n 4 dL_law__713 rfl rfl ?_
      obtain ⟨e43, f44, th_45, td_46, ds_47, fr_48, ca_49, us_50, wo_51, cm_52, lc_53, lh_54, ld_55, rfl, k56, k57, k58, k59, k60, k61, k62, k63, k64, k65, k66, k67, k68, k69, k70, k71⟩ := sp42.1 m 36 ok9.2.2.2.1 (by decide)
      refine tw_bi (tw_callV (M := mL_law_) (pc := 714) okX10_thrown dL_law__714 w_1188 rfl f44 [] [] rfl rfl ⟨by decide, by decide⟩ (Nat.le_of_ble_eq_true rfl) (c_X10_thrown d g9 τ9 h40 sp42.1 m ok9.2.2.2.1) (((c + 900) - 20) - 802) (((n + 5000) - 120) - 3208) (by omega) (by omega)) (fun r74 h73 q72 => ?_) (fun E h1 q => q.elim)
      obtain ⟨q72a, q72b⟩ := q72
      rw [q72b, ht, q72a]
      refine tw_iload 1 dL_law__717 rfl ?_
      refine tw_icmp_eq 724 dL_law__719 (by decide) (fun _ => ?_) (fun c75 => absurd (by decide) c75)
      refine tw_iload 1 dL_law__724 rfl ?_
      refine tw_if_ne 742 dL_law__726 (by decide) (fun c76 => absurd (by decide) c76) (fun _ => ?_)
      refine tw_aload_n 5 dL_law__729 rfl rfl ?_
      obtain ⟨e77, f78, n_79, s_80, rfl⟩ := sp42.1 o 12 ok9.2.2.2.2 (by decide)
      refine tw_getN (v := .long n_79) rfl in_10 0 dL_law__730 w_380 rfl (by decide) f78 rfl ?_
      refine tw_iload 0 dL_law__733 rfl ?_
      refine tw_i2l dL_law__735 ?_
      refine tw_nml (fun v81 ev81 => ?_)
      refine tw_lcmp dL_law__736 ?_
      refine tw_nmi (fun v82 ev82 => ?_)
      refine tw_if_eq 742 dL_law__737 (by decide) (fun _ => ?_) (fun c83 => absurd (by rw [ev82, ev81]; exact tw_cmpe (by have z := hlg; rw [f78] at z; exact z.trans (congrArg Int32.toInt64 (congrArg (fun k => nI (k + tw_DN _)) ok.2.1.2.2.2.2.2.2)))) c83)
      refine tw_goto 1391 dL_law__742 (by decide) ?_
      refine tw_lv [2, 3, 4, 5, 6] rfl ?_
      refine tw_less (c2 := c) (n2 := n) (by omega) (by omega) ?_
      exact J _ _ _ ok9
  · rw [q5e]
    have kx1 := q5s.2.1.k ok.2.2.1 (by decide)
    have km1 := q5s.2.1.k ok.2.2.2.1 (by decide)
    have ko1 := q5s.2.1.k ok.2.2.2.2 (by decide)
    refine tw_istore [(5, .int 1), (0, .ref (d.2 98)), (1, .ref x), (2, .ref m), (3, .ref o), (4, .int (nI (5 * j)))] dL_law__699 (by decide) rfl ?_
    refine tw_aload_n 3 dL_law__701 rfl rfl ?_
    refine tw_aload_n 1 dL_law__702 rfl rfl ?_
    refine tw_iload 5 dL_law__703 rfl ?_
    refine tw_iconst (v := 1) dL_law__705 (by decide) ?_
    refine tw_iadd dL_law__706 ?_
    refine tw_nmi (fun v84 ev84 => ?_)
    have q85 : v84 = nI (5 * j + 1) := by rw [ev84]; exact tw_s1 _
    rw [q85]
    refine tw_ti (v := .int y4) (fun _ _ z => z.xs.2.2.2.2.2) dL_law__707 (vp_in_nI (by omega) (by omega)) (congrArg Value.int ey4) ?_
    obtain ⟨e86, f87, th_88, td_89, ds_90, fr_91, ca_92, us_93, wo_94, cm_95, lc_96, lh_97, ld_98, rfl, k99, k100, k101, k102, k103, k104, k105, k106, k107, k108, k109, k110, k111, k112, k113, k114⟩ := (tw_sp.rf q5s.1).1 m 36 km1 (by decide)
    refine tw_bi (tw_callV (M := mL_law_) (pc := 708) okX10_pass dL_law__708 w_1382 rfl f87 [.int y4] [] rfl rfl ⟨by decide, by decide⟩ (Nat.le_of_ble_eq_true rfl) (c2_X10_pass d g τc h6 (tw_sp.rf q5s.1).1 m km1 y4 o ko1) (((c + 900) - 20) - 802) (((n + 5000) - 120) - 3208) (by omega) (by omega)) (fun r117 h116 q115 => ?_) (fun E h1 q => q.elim)
    obtain ⟨g9, τ9, s9, oq9, q115a⟩ := q115
    have kx2 := s9.2.1.k kx1 (by decide)
    have km2 := s9.2.1.k km1 (by decide)
    have ko2 := s9.2.1.k ko1 (by decide)
    rcases q115a with ⟨-, ht, eg9⟩ | ⟨z, -⟩ | ⟨z, -⟩
    · rw [eg9] at s9
      have ok9 : tw_ok5 d x m o g τ9 h116 := ⟨s9.1, ok.2.1, kx2, km2, ko2⟩
      have sp118 := tw_sp.rf ok9.1
      refine tw_istore [(6, .int r117), (5, .int 1), (0, .ref (d.2 98)), (1, .ref x), (2, .ref m), (3, .ref o), (4, .int (nI (5 * j)))] dL_law__711 (by decide) rfl ?_
      refine tw_aload_n 4 dL_law__713 rfl rfl ?_
      obtain ⟨e119, f120, th_121, td_122, ds_123, fr_124, ca_125, us_126, wo_127, cm_128, lc_129, lh_130, ld_131, rfl, k132, k133, k134, k135, k136, k137, k138, k139, k140, k141, k142, k143, k144, k145, k146, k147⟩ := sp118.1 m 36 ok9.2.2.2.1 (by decide)
      refine tw_bi (tw_callV (M := mL_law_) (pc := 714) okX10_thrown dL_law__714 w_1188 rfl f120 [] [] rfl rfl ⟨by decide, by decide⟩ (Nat.le_of_ble_eq_true rfl) (c_X10_thrown d g τ9 h116 sp118.1 m ok9.2.2.2.1) (((c + 900) - 20) - 802) (((n + 5000) - 120) - 3208) (by omega) (by omega)) (fun r150 h149 q148 => ?_) (fun E h1 q => q.elim)
      obtain ⟨q148a, q148b⟩ := q148
      rw [q148b, ht, q148a]
      refine tw_iload 1 dL_law__717 rfl ?_
      refine tw_icmp_eq 724 dL_law__719 (by decide) (fun _ => ?_) (fun c151 => absurd (by decide) c151)
      refine tw_iload 1 dL_law__724 rfl ?_
      refine tw_if_ne 742 dL_law__726 (by decide) (fun _ => ?_) (fun c152 => absurd c152 (by decide))
      refine tw_goto 1391 dL_law__742 (by decide) ?_
      refine tw_lv [2, 3, 4, 5, 6] rfl ?_
      refine tw_less (c2 := c) (n2 := n) (by omega) (by omega) ?_
      exact J _ _ _ ok9
    · exact absurd z q5cR
    · exact absurd z q5cR
  · rw [q5e]
    have kx1 := q5s.2.1.k ok.2.2.1 (by decide)
    have km1 := q5s.2.1.k ok.2.2.2.1 (by decide)
    have ko1 := q5s.2.1.k ok.2.2.2.2 (by decide)
    refine tw_istore [(5, .int 2), (0, .ref (d.2 98)), (1, .ref x), (2, .ref m), (3, .ref o), (4, .int (nI (5 * j)))] dL_law__699 (by decide) rfl ?_
    refine tw_aload_n 3 dL_law__701 rfl rfl ?_
    refine tw_aload_n 1 dL_law__702 rfl rfl ?_
    refine tw_iload 5 dL_law__703 rfl ?_
    refine tw_iconst (v := 1) dL_law__705 (by decide) ?_
    refine tw_iadd dL_law__706 ?_
    refine tw_nmi (fun v153 ev153 => ?_)
    have q154 : v153 = nI (5 * j + 1) := by rw [ev153]; exact tw_s1 _
    rw [q154]
    refine tw_ti (v := .int y4) (fun _ _ z => z.xs.2.2.2.2.2) dL_law__707 (vp_in_nI (by omega) (by omega)) (congrArg Value.int ey4) ?_
    obtain ⟨e155, f156, th_157, td_158, ds_159, fr_160, ca_161, us_162, wo_163, cm_164, lc_165, lh_166, ld_167, rfl, k168, k169, k170, k171, k172, k173, k174, k175, k176, k177, k178, k179, k180, k181, k182, k183⟩ := (tw_sp.rf q5s.1).1 m 36 km1 (by decide)
    refine tw_bi (tw_callV (M := mL_law_) (pc := 708) okX10_pass dL_law__708 w_1382 rfl f156 [.int y4] [] rfl rfl ⟨by decide, by decide⟩ (Nat.le_of_ble_eq_true rfl) (c2_X10_pass d g τc h6 (tw_sp.rf q5s.1).1 m km1 y4 o ko1) (((c + 900) - 20) - 802) (((n + 5000) - 120) - 3208) (by omega) (by omega)) (fun r186 h185 q184 => ?_) (fun E h1 q => q.elim)
    obtain ⟨g9, τ9, s9, oq9, q184a⟩ := q184
    have kx2 := s9.2.1.k kx1 (by decide)
    have km2 := s9.2.1.k km1 (by decide)
    have ko2 := s9.2.1.k ko1 (by decide)
    have q5cL3 : ¬ g.2 22 + tw_DN y4 ≤ 3000 := by rw [← ok.2.1.2.2.2.2.2.2]; exact q5cL
    rcases q184a with ⟨z, -⟩ | ⟨-, -, ht, eg9⟩ | ⟨-, z, -⟩
    · exact absurd q5cR z
    · rw [eg9] at s9
      have ok9 : tw_ok5 d x m o g τ9 h185 := ⟨s9.1, ok.2.1, kx2, km2, ko2⟩
      have sp187 := tw_sp.rf ok9.1
      refine tw_istore [(6, .int r186), (5, .int 2), (0, .ref (d.2 98)), (1, .ref x), (2, .ref m), (3, .ref o), (4, .int (nI (5 * j)))] dL_law__711 (by decide) rfl ?_
      refine tw_aload_n 4 dL_law__713 rfl rfl ?_
      obtain ⟨e188, f189, th_190, td_191, ds_192, fr_193, ca_194, us_195, wo_196, cm_197, lc_198, lh_199, ld_200, rfl, k201, k202, k203, k204, k205, k206, k207, k208, k209, k210, k211, k212, k213, k214, k215, k216⟩ := sp187.1 m 36 ok9.2.2.2.1 (by decide)
      refine tw_bi (tw_callV (M := mL_law_) (pc := 714) okX10_thrown dL_law__714 w_1188 rfl f189 [] [] rfl rfl ⟨by decide, by decide⟩ (Nat.le_of_ble_eq_true rfl) (c_X10_thrown d g τ9 h185 sp187.1 m ok9.2.2.2.1) (((c + 900) - 20) - 802) (((n + 5000) - 120) - 3208) (by omega) (by omega)) (fun r219 h218 q217 => ?_) (fun E h1 q => q.elim)
      obtain ⟨q217a, q217b⟩ := q217
      rw [q217b, ht, q217a]
      refine tw_iload 1 dL_law__717 rfl ?_
      refine tw_icmp_eq 724 dL_law__719 (by decide) (fun _ => ?_) (fun c220 => absurd (by decide) c220)
      refine tw_iload 1 dL_law__724 rfl ?_
      refine tw_if_ne 742 dL_law__726 (by decide) (fun _ => ?_) (fun c221 => absurd c221 (by decide))
      refine tw_goto 1391 dL_law__742 (by decide) ?_
      refine tw_lv [2, 3, 4, 5, 6] rfl ?_
      refine tw_less (c2 := c) (n2 := n) (by omega) (by omega) ?_
      exact J _ _ _ ok9
    · exact absurd z q5cL3

set_option maxHeartbeats 4000000 in
set_option maxRecDepth 100000 in
theorem law_case_11 (d : tw_D) (x m o j c n : Nat) (Q : tw_O → tw_H → Prop) (hL : d.2 97 ≤ 2560) (hj : 5 * j + 5 ≤ d.2 97) (J : tw_J d x m o j Q c n) (g : tw_G) (τ : tw_K) (h : tw_H) (ok : tw_ok5 d x m o g τ h) : tw_W d mL_law_ Q 745 (tw_lv5 d x m o j) [] h (c + 900) (n + 5000) := by
  show tw_W d mL_law_ Q 745 [(0, .ref (d.2 98)), (1, .ref x), (2, .ref m), (3, .ref o), (4, .int (nI (5 * j)))] [] h (c + 900) (n + 5000)
  have sp1 := tw_sp.rf ok.1
  refine tw_aload_n 1 dL_law__745 rfl rfl ?_
  refine tw_aload_n 0 dL_law__746 rfl rfl ?_
  refine tw_iload 4 dL_law__747 rfl ?_
  refine tw_iconst (v := 1) dL_law__749 (by decide) ?_
  refine tw_iadd dL_law__750 ?_
  refine tw_nmi (fun v2 ev2 => ?_)
  have q3 : v2 = nI (5 * j + 1) := by rw [ev2]; exact tw_s1 _
  rw [q3]
  obtain ⟨y4, ey4⟩ : ∃ y : Int32, Int32.ofNat (d.2 (1000 + (nI (5 * j + 1)).toNatClampNeg)) = y := ⟨_, rfl⟩
  refine tw_ti (v := .int y4) (fun _ _ z => z.xs.2.2.2.2.2) dL_law__751 (vp_in_nI (by omega) (by omega)) (congrArg Value.int ey4) ?_
  refine tw_aload_n 0 dL_law__752 rfl rfl ?_
  refine tw_iload 4 dL_law__753 rfl ?_
  refine tw_iconst (v := 2) dL_law__755 (by decide) ?_
  refine tw_iadd dL_law__756 ?_
  refine tw_nmi (fun v5 ev5 => ?_)
  have q6 : v5 = nI (5 * j + 2) := by rw [ev5]; exact tw_s2 _
  rw [q6]
  obtain ⟨y7, ey7⟩ : ∃ y : Int32, Int32.ofNat (d.2 (1000 + (nI (5 * j + 2)).toNatClampNeg)) = y := ⟨_, rfl⟩
  refine tw_ti (v := .int y7) (fun _ _ z => z.xs.2.2.2.2.2) dL_law__757 (vp_in_nI (by omega) (by omega)) (congrArg Value.int ey7) ?_
  refine tw_aload_n 0 dL_law__758 rfl rfl ?_
  refine tw_iload 4 dL_law__759 rfl ?_
  refine tw_iconst (v := 3) dL_law__761 (by decide) ?_
  refine tw_iadd dL_law__762 ?_
  refine tw_nmi (fun v8 ev8 => ?_)
  have q9 : v8 = nI (5 * j + 3) := by rw [ev8]; exact tw_s3 _
  rw [q9]
  obtain ⟨y10, ey10⟩ : ∃ y : Int32, Int32.ofNat (d.2 (1000 + (nI (5 * j + 3)).toNatClampNeg)) = y := ⟨_, rfl⟩
  refine tw_ti (v := .int y10) (fun _ _ z => z.xs.2.2.2.2.2) dL_law__763 (vp_in_nI (by omega) (by omega)) (congrArg Value.int ey10) ?_
  refine tw_aload_n 0 dL_law__764 rfl rfl ?_
  refine tw_iload 4 dL_law__765 rfl ?_
  refine tw_iconst (v := 4) dL_law__767 (by decide) ?_
  refine tw_iadd dL_law__768 ?_
  refine tw_nmi (fun v11 ev11 => ?_)
  have q12 : v11 = nI (5 * j + 4) := by rw [ev11]; exact tw_s4 _
  rw [q12]
  obtain ⟨y13, ey13⟩ : ∃ y : Int32, Int32.ofNat (d.2 (1000 + (nI (5 * j + 4)).toNatClampNeg)) = y := ⟨_, rfl⟩
  refine tw_ti (v := .int y13) (fun _ _ z => z.xs.2.2.2.2.2) dL_law__769 (vp_in_nI (by omega) (by omega)) (congrArg Value.int ey13) ?_
  refine tw_aload_n 3 dL_law__770 rfl rfl ?_
  refine tw_bi (tw_callSH (M := mL_law_) (pc := 771) okL_owe dL_law__771 w_707 [.ref x, .int y4, .int y7, .int y10, .int y13, .ref o] [] rfl rfl ⟨by decide, by decide⟩ (Nat.le_of_ble_eq_true rfl) (c_L_owe d g τ h sp1.1 x ok.2.2.1 y4 y7 y10 y13 o ok.2.2.2.2 ok.2.1.2.2.2.2.2.1) ((c + 900) - 20) ((n + 5000) - 120) (by omega) (by omega)) (fun r16 h15 q14 => ?_) (fun E h1 q => q.elim)
  rcases q14 with ⟨q14e, q14cI, q14cR, q14cL, q14n, τc, q14s⟩ | ⟨q14e, q14cI, τc, q14s⟩ | ⟨q14e, q14cI, q14cR, τc, q14s⟩ | ⟨q14e, q14cI, q14cR, q14cL, τc, q14s⟩
  · rw [q14e]
    have kx1 := q14s.2.1.k ok.2.2.1 (by decide)
    have km1 := q14s.2.1.k ok.2.2.2.1 (by decide)
    have ko1 := q14s.2.1.k ok.2.2.2.2 (by decide)
    refine tw_istore [(5, .int 0), (0, .ref (d.2 98)), (1, .ref x), (2, .ref m), (3, .ref o), (4, .int (nI (5 * j)))] dL_law__774 (by decide) rfl ?_
    refine tw_aload_n 3 dL_law__776 rfl rfl ?_
    refine tw_aload_n 1 dL_law__777 rfl rfl ?_
    refine tw_iload 5 dL_law__778 rfl ?_
    refine tw_iconst (v := 1) dL_law__780 (by decide) ?_
    refine tw_iadd dL_law__781 ?_
    refine tw_nmi (fun v17 ev17 => ?_)
    have q18 : v17 = nI (5 * j + 1) := by rw [ev17]; exact tw_s1 _
    rw [q18]
    refine tw_ti (v := .int y4) (fun _ _ z => z.xs.2.2.2.2.2) dL_law__782 (vp_in_nI (by omega) (by omega)) (congrArg Value.int ey4) ?_
    refine tw_aload_n 1 dL_law__783 rfl rfl ?_
    refine tw_iload 5 dL_law__784 rfl ?_
    refine tw_iconst (v := 2) dL_law__786 (by decide) ?_
    refine tw_iadd dL_law__787 ?_
    refine tw_nmi (fun v19 ev19 => ?_)
    have q20 : v19 = nI (5 * j + 2) := by rw [ev19]; exact tw_s2 _
    rw [q20]
    refine tw_ti (v := .int y7) (fun _ _ z => z.xs.2.2.2.2.2) dL_law__788 (vp_in_nI (by omega) (by omega)) (congrArg Value.int ey7) ?_
    refine tw_aload_n 1 dL_law__789 rfl rfl ?_
    refine tw_iload 5 dL_law__790 rfl ?_
    refine tw_iconst (v := 3) dL_law__792 (by decide) ?_
    refine tw_iadd dL_law__793 ?_
    refine tw_nmi (fun v21 ev21 => ?_)
    have q22 : v21 = nI (5 * j + 3) := by rw [ev21]; exact tw_s3 _
    rw [q22]
    refine tw_ti (v := .int y10) (fun _ _ z => z.xs.2.2.2.2.2) dL_law__794 (vp_in_nI (by omega) (by omega)) (congrArg Value.int ey10) ?_
    refine tw_aload_n 1 dL_law__795 rfl rfl ?_
    refine tw_iload 5 dL_law__796 rfl ?_
    refine tw_iconst (v := 4) dL_law__798 (by decide) ?_
    refine tw_iadd dL_law__799 ?_
    refine tw_nmi (fun v23 ev23 => ?_)
    have q24 : v23 = nI (5 * j + 4) := by rw [ev23]; exact tw_s4 _
    rw [q24]
    refine tw_ti (v := .int y13) (fun _ _ z => z.xs.2.2.2.2.2) dL_law__800 (vp_in_nI (by omega) (by omega)) (congrArg Value.int ey13) ?_
    obtain ⟨e25, f26, th_27, td_28, ds_29, fr_30, ca_31, us_32, wo_33, cm_34, lc_35, lh_36, ld_37, rfl, k38, k39, k40, k41, k42, k43, k44, k45, k46, k47, k48, k49, k50, k51, k52, k53⟩ := (tw_sp.rf q14s.1).1 m 36 km1 (by decide)
    refine tw_bi (tw_callV (M := mL_law_) (pc := 801) okX10_owe dL_law__801 w_1433 rfl f26 [.int y4, .int y7, .int y10, .int y13] [] rfl rfl ⟨by decide, by decide⟩ (Nat.le_of_ble_eq_true rfl) (c2_X10_owe d (tw_gI g 8 2) τc h15 (tw_sp.rf q14s.1).1 m km1 y4 y7 y10 y13 o ko1) (((c + 900) - 20) - 10) (((n + 5000) - 120) - 60) (by omega) (by omega)) (fun r56 h55 q54 => ?_) (fun E h1 q => q.elim)
    obtain ⟨g9, τ9, s9, oq9, q54a⟩ := q54
    have kx2 := s9.2.1.k kx1 (by decide)
    have km2 := s9.2.1.k km1 (by decide)
    have ko2 := s9.2.1.k ko1 (by decide)
    have q14cI3 : (tw_ix (g.2 4) y4 ∧ tw_ix (g.2 4) y7) := by rw [← ok.2.1.2.2.2.2.1.trans ok.2.1.2.1]; exact q14cI
    have q14cL3 : g.2 5 < 10 := by rw [← ok.2.1.2.2.1]; exact q14cL
    rcases q54a with ⟨z, -⟩ | ⟨-, z, -⟩ | ⟨-, -, z, -⟩ | ⟨-, -, -, hr2, ht, gk9⟩
    · exact absurd q14cI3 z
    · exact absurd q14cR z
    · exact absurd q14cL3 z
    · rw [hr2]
      have ok9 : tw_ok5 d x m o g9 τ9 h55 := ⟨s9.1, ok.2.1.owe gk9, kx2, km2, ko2⟩
      have hlg : tw_lg (h55 o) = (nI (g.2 2)).toInt64 := by rw [oq9]; exact q14n
      have sp57 := tw_sp.rf ok9.1
      refine tw_istore [(6, .int (nI ((tw_gI g 8 2).2 5))), (5, .int 0), (0, .ref (d.2 98)), (1, .ref x), (2, .ref m), (3, .ref o), (4, .int (nI (5 * j)))] dL_law__804 (by decide) rfl ?_
      refine tw_goto 1391 dL_law__806 (by decide) ?_
      refine tw_lv [2, 3, 4, 5, 6] rfl ?_
      refine tw_less (c2 := c) (n2 := n) (by omega) (by omega) ?_
      exact J _ _ _ ok9
  · rw [q14e]
    have kx1 := q14s.2.1.k ok.2.2.1 (by decide)
    have km1 := q14s.2.1.k ok.2.2.2.1 (by decide)
    have ko1 := q14s.2.1.k ok.2.2.2.2 (by decide)
    refine tw_istore [(5, .int 1), (0, .ref (d.2 98)), (1, .ref x), (2, .ref m), (3, .ref o), (4, .int (nI (5 * j)))] dL_law__774 (by decide) rfl ?_
    refine tw_aload_n 3 dL_law__776 rfl rfl ?_
    refine tw_aload_n 1 dL_law__777 rfl rfl ?_
    refine tw_iload 5 dL_law__778 rfl ?_
    refine tw_iconst (v := 1) dL_law__780 (by decide) ?_
    refine tw_iadd dL_law__781 ?_
    refine tw_nmi (fun v58 ev58 => ?_)
    have q59 : v58 = nI (5 * j + 1) := by rw [ev58]; exact tw_s1 _
    rw [q59]
    refine tw_ti (v := .int y4) (fun _ _ z => z.xs.2.2.2.2.2) dL_law__782 (vp_in_nI (by omega) (by omega)) (congrArg Value.int ey4) ?_
    refine tw_aload_n 1 dL_law__783 rfl rfl ?_
    refine tw_iload 5 dL_law__784 rfl ?_
    refine tw_iconst (v := 2) dL_law__786 (by decide) ?_
    refine tw_iadd dL_law__787 ?_
    refine tw_nmi (fun v60 ev60 => ?_)
    have q61 : v60 = nI (5 * j + 2) := by rw [ev60]; exact tw_s2 _
    rw [q61]
    refine tw_ti (v := .int y7) (fun _ _ z => z.xs.2.2.2.2.2) dL_law__788 (vp_in_nI (by omega) (by omega)) (congrArg Value.int ey7) ?_
    refine tw_aload_n 1 dL_law__789 rfl rfl ?_
    refine tw_iload 5 dL_law__790 rfl ?_
    refine tw_iconst (v := 3) dL_law__792 (by decide) ?_
    refine tw_iadd dL_law__793 ?_
    refine tw_nmi (fun v62 ev62 => ?_)
    have q63 : v62 = nI (5 * j + 3) := by rw [ev62]; exact tw_s3 _
    rw [q63]
    refine tw_ti (v := .int y10) (fun _ _ z => z.xs.2.2.2.2.2) dL_law__794 (vp_in_nI (by omega) (by omega)) (congrArg Value.int ey10) ?_
    refine tw_aload_n 1 dL_law__795 rfl rfl ?_
    refine tw_iload 5 dL_law__796 rfl ?_
    refine tw_iconst (v := 4) dL_law__798 (by decide) ?_
    refine tw_iadd dL_law__799 ?_
    refine tw_nmi (fun v64 ev64 => ?_)
    have q65 : v64 = nI (5 * j + 4) := by rw [ev64]; exact tw_s4 _
    rw [q65]
    refine tw_ti (v := .int y13) (fun _ _ z => z.xs.2.2.2.2.2) dL_law__800 (vp_in_nI (by omega) (by omega)) (congrArg Value.int ey13) ?_
    obtain ⟨e66, f67, th_68, td_69, ds_70, fr_71, ca_72, us_73, wo_74, cm_75, lc_76, lh_77, ld_78, rfl, k79, k80, k81, k82, k83, k84, k85, k86, k87, k88, k89, k90, k91, k92, k93, k94⟩ := (tw_sp.rf q14s.1).1 m 36 km1 (by decide)
    refine tw_bi (tw_callV (M := mL_law_) (pc := 801) okX10_owe dL_law__801 w_1433 rfl f67 [.int y4, .int y7, .int y10, .int y13] [] rfl rfl ⟨by decide, by decide⟩ (Nat.le_of_ble_eq_true rfl) (c2_X10_owe d g τc h15 (tw_sp.rf q14s.1).1 m km1 y4 y7 y10 y13 o ko1) (((c + 900) - 20) - 10) (((n + 5000) - 120) - 60) (by omega) (by omega)) (fun r97 h96 q95 => ?_) (fun E h1 q => q.elim)
    obtain ⟨g9, τ9, s9, oq9, q95a⟩ := q95
    have kx2 := s9.2.1.k kx1 (by decide)
    have km2 := s9.2.1.k km1 (by decide)
    have ko2 := s9.2.1.k ko1 (by decide)
    have q14cI3 : ¬ (tw_ix (g.2 4) y4 ∧ tw_ix (g.2 4) y7) := by rw [← ok.2.1.2.2.2.2.1.trans ok.2.1.2.1]; exact q14cI
    rcases q95a with ⟨-, ht, eg9⟩ | ⟨z, -⟩ | ⟨z, -⟩ | ⟨z, -⟩
    · rw [eg9] at s9
      have ok9 : tw_ok5 d x m o g τ9 h96 := ⟨s9.1, ok.2.1, kx2, km2, ko2⟩
      have sp98 := tw_sp.rf ok9.1
      refine tw_istore [(6, .int r97), (5, .int 1), (0, .ref (d.2 98)), (1, .ref x), (2, .ref m), (3, .ref o), (4, .int (nI (5 * j)))] dL_law__804 (by decide) rfl ?_
      refine tw_goto 1391 dL_law__806 (by decide) ?_
      refine tw_lv [2, 3, 4, 5, 6] rfl ?_
      refine tw_less (c2 := c) (n2 := n) (by omega) (by omega) ?_
      exact J _ _ _ ok9
    · exact absurd z q14cI3
    · exact absurd z q14cI3
    · exact absurd z q14cI3
  · rw [q14e]
    have kx1 := q14s.2.1.k ok.2.2.1 (by decide)
    have km1 := q14s.2.1.k ok.2.2.2.1 (by decide)
    have ko1 := q14s.2.1.k ok.2.2.2.2 (by decide)
    refine tw_istore [(5, .int 2), (0, .ref (d.2 98)), (1, .ref x), (2, .ref m), (3, .ref o), (4, .int (nI (5 * j)))] dL_law__774 (by decide) rfl ?_
    refine tw_aload_n 3 dL_law__776 rfl rfl ?_
    refine tw_aload_n 1 dL_law__777 rfl rfl ?_
    refine tw_iload 5 dL_law__778 rfl ?_
    refine tw_iconst (v := 1) dL_law__780 (by decide) ?_
    refine tw_iadd dL_law__781 ?_
    refine tw_nmi (fun v99 ev99 => ?_)
    have q100 : v99 = nI (5 * j + 1) := by rw [ev99]; exact tw_s1 _
    rw [q100]
    refine tw_ti (v := .int y4) (fun _ _ z => z.xs.2.2.2.2.2) dL_law__782 (vp_in_nI (by omega) (by omega)) (congrArg Value.int ey4) ?_
    refine tw_aload_n 1 dL_law__783 rfl rfl ?_
    refine tw_iload 5 dL_law__784 rfl ?_
    refine tw_iconst (v := 2) dL_law__786 (by decide) ?_
    refine tw_iadd dL_law__787 ?_
    refine tw_nmi (fun v101 ev101 => ?_)
    have q102 : v101 = nI (5 * j + 2) := by rw [ev101]; exact tw_s2 _
    rw [q102]
    refine tw_ti (v := .int y7) (fun _ _ z => z.xs.2.2.2.2.2) dL_law__788 (vp_in_nI (by omega) (by omega)) (congrArg Value.int ey7) ?_
    refine tw_aload_n 1 dL_law__789 rfl rfl ?_
    refine tw_iload 5 dL_law__790 rfl ?_
    refine tw_iconst (v := 3) dL_law__792 (by decide) ?_
    refine tw_iadd dL_law__793 ?_
    refine tw_nmi (fun v103 ev103 => ?_)
    have q104 : v103 = nI (5 * j + 3) := by rw [ev103]; exact tw_s3 _
    rw [q104]
    refine tw_ti (v := .int y10) (fun _ _ z => z.xs.2.2.2.2.2) dL_law__794 (vp_in_nI (by omega) (by omega)) (congrArg Value.int ey10) ?_
    refine tw_aload_n 1 dL_law__795 rfl rfl ?_
    refine tw_iload 5 dL_law__796 rfl ?_
    refine tw_iconst (v := 4) dL_law__798 (by decide) ?_
    refine tw_iadd dL_law__799 ?_
    refine tw_nmi (fun v105 ev105 => ?_)
    have q106 : v105 = nI (5 * j + 4) := by rw [ev105]; exact tw_s4 _
    rw [q106]
    refine tw_ti (v := .int y13) (fun _ _ z => z.xs.2.2.2.2.2) dL_law__800 (vp_in_nI (by omega) (by omega)) (congrArg Value.int ey13) ?_
    obtain ⟨e107, f108, th_109, td_110, ds_111, fr_112, ca_113, us_114, wo_115, cm_116, lc_117, lh_118, ld_119, rfl, k120, k121, k122, k123, k124, k125, k126, k127, k128, k129, k130, k131, k132, k133, k134, k135⟩ := (tw_sp.rf q14s.1).1 m 36 km1 (by decide)
    refine tw_bi (tw_callV (M := mL_law_) (pc := 801) okX10_owe dL_law__801 w_1433 rfl f108 [.int y4, .int y7, .int y10, .int y13] [] rfl rfl ⟨by decide, by decide⟩ (Nat.le_of_ble_eq_true rfl) (c2_X10_owe d g τc h15 (tw_sp.rf q14s.1).1 m km1 y4 y7 y10 y13 o ko1) (((c + 900) - 20) - 10) (((n + 5000) - 120) - 60) (by omega) (by omega)) (fun r138 h137 q136 => ?_) (fun E h1 q => q.elim)
    obtain ⟨g9, τ9, s9, oq9, q136a⟩ := q136
    have kx2 := s9.2.1.k kx1 (by decide)
    have km2 := s9.2.1.k km1 (by decide)
    have ko2 := s9.2.1.k ko1 (by decide)
    have q14cI3 : (tw_ix (g.2 4) y4 ∧ tw_ix (g.2 4) y7) := by rw [← ok.2.1.2.2.2.2.1.trans ok.2.1.2.1]; exact q14cI
    rcases q136a with ⟨z, -⟩ | ⟨-, -, ht, eg9⟩ | ⟨-, z, -⟩ | ⟨-, z, -⟩
    · exact absurd q14cI3 z
    · rw [eg9] at s9
      have ok9 : tw_ok5 d x m o g τ9 h137 := ⟨s9.1, ok.2.1, kx2, km2, ko2⟩
      have sp139 := tw_sp.rf ok9.1
      refine tw_istore [(6, .int r138), (5, .int 2), (0, .ref (d.2 98)), (1, .ref x), (2, .ref m), (3, .ref o), (4, .int (nI (5 * j)))] dL_law__804 (by decide) rfl ?_
      refine tw_goto 1391 dL_law__806 (by decide) ?_
      refine tw_lv [2, 3, 4, 5, 6] rfl ?_
      refine tw_less (c2 := c) (n2 := n) (by omega) (by omega) ?_
      exact J _ _ _ ok9
    · exact absurd z q14cR
    · exact absurd z q14cR
  · rw [q14e]
    have kx1 := q14s.2.1.k ok.2.2.1 (by decide)
    have km1 := q14s.2.1.k ok.2.2.2.1 (by decide)
    have ko1 := q14s.2.1.k ok.2.2.2.2 (by decide)
    refine tw_istore [(5, .int 3), (0, .ref (d.2 98)), (1, .ref x), (2, .ref m), (3, .ref o), (4, .int (nI (5 * j)))] dL_law__774 (by decide) rfl ?_
    refine tw_aload_n 3 dL_law__776 rfl rfl ?_
    refine tw_aload_n 1 dL_law__777 rfl rfl ?_
    refine tw_iload 5 dL_law__778 rfl ?_
    refine tw_iconst (v := 1) dL_law__780 (by decide) ?_
    refine tw_iadd dL_law__781 ?_
    refine tw_nmi (fun v140 ev140 => ?_)
    have q141 : v140 = nI (5 * j + 1) := by rw [ev140]; exact tw_s1 _
    rw [q141]
    refine tw_ti (v := .int y4) (fun _ _ z => z.xs.2.2.2.2.2) dL_law__782 (vp_in_nI (by omega) (by omega)) (congrArg Value.int ey4) ?_
    refine tw_aload_n 1 dL_law__783 rfl rfl ?_
    refine tw_iload 5 dL_law__784 rfl ?_
    refine tw_iconst (v := 2) dL_law__786 (by decide) ?_
    refine tw_iadd dL_law__787 ?_
    refine tw_nmi (fun v142 ev142 => ?_)
    have q143 : v142 = nI (5 * j + 2) := by rw [ev142]; exact tw_s2 _
    rw [q143]
    refine tw_ti (v := .int y7) (fun _ _ z => z.xs.2.2.2.2.2) dL_law__788 (vp_in_nI (by omega) (by omega)) (congrArg Value.int ey7) ?_
    refine tw_aload_n 1 dL_law__789 rfl rfl ?_
    refine tw_iload 5 dL_law__790 rfl ?_
    refine tw_iconst (v := 3) dL_law__792 (by decide) ?_
    refine tw_iadd dL_law__793 ?_
    refine tw_nmi (fun v144 ev144 => ?_)
    have q145 : v144 = nI (5 * j + 3) := by rw [ev144]; exact tw_s3 _
    rw [q145]
    refine tw_ti (v := .int y10) (fun _ _ z => z.xs.2.2.2.2.2) dL_law__794 (vp_in_nI (by omega) (by omega)) (congrArg Value.int ey10) ?_
    refine tw_aload_n 1 dL_law__795 rfl rfl ?_
    refine tw_iload 5 dL_law__796 rfl ?_
    refine tw_iconst (v := 4) dL_law__798 (by decide) ?_
    refine tw_iadd dL_law__799 ?_
    refine tw_nmi (fun v146 ev146 => ?_)
    have q147 : v146 = nI (5 * j + 4) := by rw [ev146]; exact tw_s4 _
    rw [q147]
    refine tw_ti (v := .int y13) (fun _ _ z => z.xs.2.2.2.2.2) dL_law__800 (vp_in_nI (by omega) (by omega)) (congrArg Value.int ey13) ?_
    obtain ⟨e148, f149, th_150, td_151, ds_152, fr_153, ca_154, us_155, wo_156, cm_157, lc_158, lh_159, ld_160, rfl, k161, k162, k163, k164, k165, k166, k167, k168, k169, k170, k171, k172, k173, k174, k175, k176⟩ := (tw_sp.rf q14s.1).1 m 36 km1 (by decide)
    refine tw_bi (tw_callV (M := mL_law_) (pc := 801) okX10_owe dL_law__801 w_1433 rfl f149 [.int y4, .int y7, .int y10, .int y13] [] rfl rfl ⟨by decide, by decide⟩ (Nat.le_of_ble_eq_true rfl) (c2_X10_owe d g τc h15 (tw_sp.rf q14s.1).1 m km1 y4 y7 y10 y13 o ko1) (((c + 900) - 20) - 10) (((n + 5000) - 120) - 60) (by omega) (by omega)) (fun r179 h178 q177 => ?_) (fun E h1 q => q.elim)
    obtain ⟨g9, τ9, s9, oq9, q177a⟩ := q177
    have kx2 := s9.2.1.k kx1 (by decide)
    have km2 := s9.2.1.k km1 (by decide)
    have ko2 := s9.2.1.k ko1 (by decide)
    have q14cI3 : (tw_ix (g.2 4) y4 ∧ tw_ix (g.2 4) y7) := by rw [← ok.2.1.2.2.2.2.1.trans ok.2.1.2.1]; exact q14cI
    have q14cL3 : ¬ g.2 5 < 10 := by rw [← ok.2.1.2.2.1]; exact q14cL
    rcases q177a with ⟨z, -⟩ | ⟨-, z, -⟩ | ⟨-, -, -, ht, eg9⟩ | ⟨-, -, z, -⟩
    · exact absurd q14cI3 z
    · exact absurd q14cR z
    · rw [eg9] at s9
      have ok9 : tw_ok5 d x m o g τ9 h178 := ⟨s9.1, ok.2.1, kx2, km2, ko2⟩
      have sp180 := tw_sp.rf ok9.1
      refine tw_istore [(6, .int r179), (5, .int 3), (0, .ref (d.2 98)), (1, .ref x), (2, .ref m), (3, .ref o), (4, .int (nI (5 * j)))] dL_law__804 (by decide) rfl ?_
      refine tw_goto 1391 dL_law__806 (by decide) ?_
      refine tw_lv [2, 3, 4, 5, 6] rfl ?_
      refine tw_less (c2 := c) (n2 := n) (by omega) (by omega) ?_
      exact J _ _ _ ok9
    · exact absurd z q14cL3

set_option maxHeartbeats 4000000 in
set_option maxRecDepth 100000 in
theorem law_case_12 (d : tw_D) (x m o j c n : Nat) (Q : tw_O → tw_H → Prop) (hL : d.2 97 ≤ 2560) (hj : 5 * j + 5 ≤ d.2 97) (J : tw_J d x m o j Q c n) (g : tw_G) (τ : tw_K) (h : tw_H) (ok : tw_ok5 d x m o g τ h) : tw_W d mL_law_ Q 809 (tw_lv5 d x m o j) [] h (c + 900) (n + 5000) := by
  show tw_W d mL_law_ Q 809 [(0, .ref (d.2 98)), (1, .ref x), (2, .ref m), (3, .ref o), (4, .int (nI (5 * j)))] [] h (c + 900) (n + 5000)
  have sp1 := tw_sp.rf ok.1
  refine tw_aload_n 1 dL_law__809 rfl rfl ?_
  refine tw_aload_n 0 dL_law__810 rfl rfl ?_
  refine tw_iload 4 dL_law__811 rfl ?_
  refine tw_iconst (v := 1) dL_law__813 (by decide) ?_
  refine tw_iadd dL_law__814 ?_
  refine tw_nmi (fun v2 ev2 => ?_)
  have q3 : v2 = nI (5 * j + 1) := by rw [ev2]; exact tw_s1 _
  rw [q3]
  obtain ⟨y4, ey4⟩ : ∃ y : Int32, Int32.ofNat (d.2 (1000 + (nI (5 * j + 1)).toNatClampNeg)) = y := ⟨_, rfl⟩
  refine tw_ti (v := .int y4) (fun _ _ z => z.xs.2.2.2.2.2) dL_law__815 (vp_in_nI (by omega) (by omega)) (congrArg Value.int ey4) ?_
  refine tw_aload_n 0 dL_law__816 rfl rfl ?_
  refine tw_iload 4 dL_law__817 rfl ?_
  refine tw_iconst (v := 2) dL_law__819 (by decide) ?_
  refine tw_iadd dL_law__820 ?_
  refine tw_nmi (fun v5 ev5 => ?_)
  have q6 : v5 = nI (5 * j + 2) := by rw [ev5]; exact tw_s2 _
  rw [q6]
  obtain ⟨y7, ey7⟩ : ∃ y : Int32, Int32.ofNat (d.2 (1000 + (nI (5 * j + 2)).toNatClampNeg)) = y := ⟨_, rfl⟩
  refine tw_ti (v := .int y7) (fun _ _ z => z.xs.2.2.2.2.2) dL_law__821 (vp_in_nI (by omega) (by omega)) (congrArg Value.int ey7) ?_
  refine tw_aload_n 3 dL_law__822 rfl rfl ?_
  refine tw_bi (tw_callSH (M := mL_law_) (pc := 823) okL_settle dL_law__823 w_740 [.ref x, .int y4, .int y7, .ref o] [] rfl rfl ⟨by decide, by decide⟩ (Nat.le_of_ble_eq_true rfl) (c_L_settle d g τ h sp1.1 x ok.2.2.1 y4 y7 o ok.2.2.2.2) ((c + 900) - 20) ((n + 5000) - 120) (by omega) (by omega)) (fun r10 h9 q8 => ?_) (fun E h1 q => q.elim)
  obtain ⟨g11, τ12, q8g, q8s⟩ := q8
  have ok13 := ok.go (by rw [q8g]; exact ok.2.1) q8s
  have sp14 := tw_sp.rf ok13.1
  refine tw_istore [(5, .int r10), (0, .ref (d.2 98)), (1, .ref x), (2, .ref m), (3, .ref o), (4, .int (nI (5 * j)))] dL_law__826 (by decide) rfl ?_
  refine tw_aload_n 3 dL_law__828 rfl rfl ?_
  refine tw_aload_n 1 dL_law__829 rfl rfl ?_
  refine tw_iload 5 dL_law__830 rfl ?_
  refine tw_iconst (v := 1) dL_law__832 (by decide) ?_
  refine tw_iadd dL_law__833 ?_
  refine tw_nmi (fun v15 ev15 => ?_)
  have q16 : v15 = nI (5 * j + 1) := by rw [ev15]; exact tw_s1 _
  rw [q16]
  refine tw_ti (v := .int y4) (fun _ _ z => z.xs.2.2.2.2.2) dL_law__834 (vp_in_nI (by omega) (by omega)) (congrArg Value.int ey4) ?_
  refine tw_aload_n 1 dL_law__835 rfl rfl ?_
  refine tw_iload 5 dL_law__836 rfl ?_
  refine tw_iconst (v := 2) dL_law__838 (by decide) ?_
  refine tw_iadd dL_law__839 ?_
  refine tw_nmi (fun v17 ev17 => ?_)
  have q18 : v17 = nI (5 * j + 2) := by rw [ev17]; exact tw_s2 _
  rw [q18]
  refine tw_ti (v := .int y7) (fun _ _ z => z.xs.2.2.2.2.2) dL_law__840 (vp_in_nI (by omega) (by omega)) (congrArg Value.int ey7) ?_
  obtain ⟨e19, f20, th_21, td_22, ds_23, fr_24, ca_25, us_26, wo_27, cm_28, lc_29, lh_30, ld_31, rfl, k32, k33, k34, k35, k36, k37, k38, k39, k40, k41, k42, k43, k44, k45, k46, k47⟩ := sp14.1 m 36 ok13.2.2.2.1 (by decide)
  refine tw_bi (tw_callV (M := mL_law_) (pc := 841) okX10_settle dL_law__841 w_1459 rfl f20 [.int y4, .int y7] [] rfl rfl ⟨by decide, by decide⟩ (Nat.le_of_ble_eq_true rfl) (c_X10_settle d g11 τ12 h9 sp14.1 m ok13.2.2.2.1 y4 y7) ((c + 900) - 20) ((n + 5000) - 120) (by omega) (by omega)) (fun r50 h49 q48 => ?_) (fun E h1 q => q.elim)
  have q48s := q48
  have ok51 := ok13.go ok13.2.1 q48s
  have sp52 := tw_sp.rf ok51.1
  refine tw_istore [(6, .int r50), (5, .int r10), (0, .ref (d.2 98)), (1, .ref x), (2, .ref m), (3, .ref o), (4, .int (nI (5 * j)))] dL_law__844 (by decide) rfl ?_
  refine tw_goto 1391 dL_law__846 (by decide) ?_
  refine tw_lv [2, 3, 4, 5, 6] rfl ?_
  refine tw_less (c2 := c) (n2 := n) (by omega) (by omega) ?_
  exact J _ _ _ ok51

set_option maxHeartbeats 4000000 in
set_option maxRecDepth 100000 in
theorem law_case_13 (d : tw_D) (x m o j c n : Nat) (Q : tw_O → tw_H → Prop) (hL : d.2 97 ≤ 2560) (hj : 5 * j + 5 ≤ d.2 97) (J : tw_J d x m o j Q c n) (g : tw_G) (τ : tw_K) (h : tw_H) (ok : tw_ok5 d x m o g τ h) : tw_W d mL_law_ Q 849 (tw_lv5 d x m o j) [] h (c + 900) (n + 5000) := by
  show tw_W d mL_law_ Q 849 [(0, .ref (d.2 98)), (1, .ref x), (2, .ref m), (3, .ref o), (4, .int (nI (5 * j)))] [] h (c + 900) (n + 5000)
  have sp1 := tw_sp.rf ok.1
  refine tw_aload_n 1 dL_law__849 rfl rfl ?_
  refine tw_aload_n 0 dL_law__850 rfl rfl ?_
  refine tw_iload 4 dL_law__851 rfl ?_
  refine tw_iconst (v := 1) dL_law__853 (by decide) ?_
  refine tw_iadd dL_law__854 ?_
  refine tw_nmi (fun v2 ev2 => ?_)
  have q3 : v2 = nI (5 * j + 1) := by rw [ev2]; exact tw_s1 _
  rw [q3]
  obtain ⟨y4, ey4⟩ : ∃ y : Int32, Int32.ofNat (d.2 (1000 + (nI (5 * j + 1)).toNatClampNeg)) = y := ⟨_, rfl⟩
  refine tw_ti (v := .int y4) (fun _ _ z => z.xs.2.2.2.2.2) dL_law__855 (vp_in_nI (by omega) (by omega)) (congrArg Value.int ey4) ?_
  refine tw_aload_n 0 dL_law__856 rfl rfl ?_
  refine tw_iload 4 dL_law__857 rfl ?_
  refine tw_iconst (v := 2) dL_law__859 (by decide) ?_
  refine tw_iadd dL_law__860 ?_
  refine tw_nmi (fun v5 ev5 => ?_)
  have q6 : v5 = nI (5 * j + 2) := by rw [ev5]; exact tw_s2 _
  rw [q6]
  obtain ⟨y7, ey7⟩ : ∃ y : Int32, Int32.ofNat (d.2 (1000 + (nI (5 * j + 2)).toNatClampNeg)) = y := ⟨_, rfl⟩
  refine tw_ti (v := .int y7) (fun _ _ z => z.xs.2.2.2.2.2) dL_law__861 (vp_in_nI (by omega) (by omega)) (congrArg Value.int ey7) ?_
  refine tw_aload_n 0 dL_law__862 rfl rfl ?_
  refine tw_iload 4 dL_law__863 rfl ?_
  refine tw_iconst (v := 3) dL_law__865 (by decide) ?_
  refine tw_iadd dL_law__866 ?_
  refine tw_nmi (fun v8 ev8 => ?_)
  have q9 : v8 = nI (5 * j + 3) := by rw [ev8]; exact tw_s3 _
  rw [q9]
  obtain ⟨y10, ey10⟩ : ∃ y : Int32, Int32.ofNat (d.2 (1000 + (nI (5 * j + 3)).toNatClampNeg)) = y := ⟨_, rfl⟩
  refine tw_ti (v := .int y10) (fun _ _ z => z.xs.2.2.2.2.2) dL_law__867 (vp_in_nI (by omega) (by omega)) (congrArg Value.int ey10) ?_
  refine tw_aload_n 3 dL_law__868 rfl rfl ?_
  refine tw_bi (tw_callSH (M := mL_law_) (pc := 869) okL_till dL_law__869 w_754 [.ref x, .int y4, .int y7, .int y10, .ref o] [] rfl rfl ⟨by decide, by decide⟩ (Nat.le_of_ble_eq_true rfl) (c_L_till d g τ h sp1.1 x ok.2.2.1 y4 y7 y10 o ok.2.2.2.2) ((c + 900) - 20) ((n + 5000) - 120) (by omega) (by omega)) (fun r13 h12 q11 => ?_) (fun E h1 q => q.elim)
  obtain ⟨g14, τ15, q11g, q11s⟩ := q11
  have ok16 := ok.go (by rw [q11g]; exact ok.2.1) q11s
  have sp17 := tw_sp.rf ok16.1
  refine tw_istore [(5, .int r13), (0, .ref (d.2 98)), (1, .ref x), (2, .ref m), (3, .ref o), (4, .int (nI (5 * j)))] dL_law__872 (by decide) rfl ?_
  refine tw_aload_n 3 dL_law__874 rfl rfl ?_
  refine tw_aload_n 1 dL_law__875 rfl rfl ?_
  refine tw_iload 5 dL_law__876 rfl ?_
  refine tw_iconst (v := 1) dL_law__878 (by decide) ?_
  refine tw_iadd dL_law__879 ?_
  refine tw_nmi (fun v18 ev18 => ?_)
  have q19 : v18 = nI (5 * j + 1) := by rw [ev18]; exact tw_s1 _
  rw [q19]
  refine tw_ti (v := .int y4) (fun _ _ z => z.xs.2.2.2.2.2) dL_law__880 (vp_in_nI (by omega) (by omega)) (congrArg Value.int ey4) ?_
  refine tw_aload_n 1 dL_law__881 rfl rfl ?_
  refine tw_iload 5 dL_law__882 rfl ?_
  refine tw_iconst (v := 2) dL_law__884 (by decide) ?_
  refine tw_iadd dL_law__885 ?_
  refine tw_nmi (fun v20 ev20 => ?_)
  have q21 : v20 = nI (5 * j + 2) := by rw [ev20]; exact tw_s2 _
  rw [q21]
  refine tw_ti (v := .int y7) (fun _ _ z => z.xs.2.2.2.2.2) dL_law__886 (vp_in_nI (by omega) (by omega)) (congrArg Value.int ey7) ?_
  refine tw_aload_n 1 dL_law__887 rfl rfl ?_
  refine tw_iload 5 dL_law__888 rfl ?_
  refine tw_iconst (v := 3) dL_law__890 (by decide) ?_
  refine tw_iadd dL_law__891 ?_
  refine tw_nmi (fun v22 ev22 => ?_)
  have q23 : v22 = nI (5 * j + 3) := by rw [ev22]; exact tw_s3 _
  rw [q23]
  refine tw_ti (v := .int y10) (fun _ _ z => z.xs.2.2.2.2.2) dL_law__892 (vp_in_nI (by omega) (by omega)) (congrArg Value.int ey10) ?_
  obtain ⟨e24, f25, th_26, td_27, ds_28, fr_29, ca_30, us_31, wo_32, cm_33, lc_34, lh_35, ld_36, rfl, k37, k38, k39, k40, k41, k42, k43, k44, k45, k46, k47, k48, k49, k50, k51, k52⟩ := sp17.1 m 36 ok16.2.2.2.1 (by decide)
  refine tw_bi (tw_callV (M := mL_law_) (pc := 893) okX10_till dL_law__893 w_1476 rfl f25 [.int y4, .int y7, .int y10] [] rfl rfl ⟨by decide, by decide⟩ (Nat.le_of_ble_eq_true rfl) (c_X10_till d g14 τ15 h12 sp17.1 m ok16.2.2.2.1 y4 y7 y10) ((c + 900) - 20) ((n + 5000) - 120) (by omega) (by omega)) (fun r55 h54 q53 => ?_) (fun E h1 q => q.elim)
  have q53s := q53
  have ok56 := ok16.go ok16.2.1 q53s
  have sp57 := tw_sp.rf ok56.1
  refine tw_istore [(6, .int r55), (5, .int r13), (0, .ref (d.2 98)), (1, .ref x), (2, .ref m), (3, .ref o), (4, .int (nI (5 * j)))] dL_law__896 (by decide) rfl ?_
  refine tw_goto 1391 dL_law__898 (by decide) ?_
  refine tw_lv [2, 3, 4, 5, 6] rfl ?_
  refine tw_less (c2 := c) (n2 := n) (by omega) (by omega) ?_
  exact J _ _ _ ok56

set_option maxHeartbeats 4000000 in
set_option maxRecDepth 100000 in
theorem law_case_14 (d : tw_D) (x m o j c n : Nat) (Q : tw_O → tw_H → Prop) (hL : d.2 97 ≤ 2560) (hj : 5 * j + 5 ≤ d.2 97) (J : tw_J d x m o j Q c n) (g : tw_G) (τ : tw_K) (h : tw_H) (ok : tw_ok5 d x m o g τ h) : tw_W d mL_law_ Q 901 (tw_lv5 d x m o j) [] h (c + 900) (n + 5000) := by
  show tw_W d mL_law_ Q 901 [(0, .ref (d.2 98)), (1, .ref x), (2, .ref m), (3, .ref o), (4, .int (nI (5 * j)))] [] h (c + 900) (n + 5000)
  have sp1 := tw_sp.rf ok.1
  refine tw_aload_n 1 dL_law__901 rfl rfl ?_
  refine tw_aload_n 0 dL_law__902 rfl rfl ?_
  refine tw_iload 4 dL_law__903 rfl ?_
  refine tw_iconst (v := 1) dL_law__905 (by decide) ?_
  refine tw_iadd dL_law__906 ?_
  refine tw_nmi (fun v2 ev2 => ?_)
  have q3 : v2 = nI (5 * j + 1) := by rw [ev2]; exact tw_s1 _
  rw [q3]
  obtain ⟨y4, ey4⟩ : ∃ y : Int32, Int32.ofNat (d.2 (1000 + (nI (5 * j + 1)).toNatClampNeg)) = y := ⟨_, rfl⟩
  refine tw_ti (v := .int y4) (fun _ _ z => z.xs.2.2.2.2.2) dL_law__907 (vp_in_nI (by omega) (by omega)) (congrArg Value.int ey4) ?_
  refine tw_aload_n 0 dL_law__908 rfl rfl ?_
  refine tw_iload 4 dL_law__909 rfl ?_
  refine tw_iconst (v := 2) dL_law__911 (by decide) ?_
  refine tw_iadd dL_law__912 ?_
  refine tw_nmi (fun v5 ev5 => ?_)
  have q6 : v5 = nI (5 * j + 2) := by rw [ev5]; exact tw_s2 _
  rw [q6]
  obtain ⟨y7, ey7⟩ : ∃ y : Int32, Int32.ofNat (d.2 (1000 + (nI (5 * j + 2)).toNatClampNeg)) = y := ⟨_, rfl⟩
  refine tw_ti (v := .int y7) (fun _ _ z => z.xs.2.2.2.2.2) dL_law__913 (vp_in_nI (by omega) (by omega)) (congrArg Value.int ey7) ?_
  refine tw_aload_n 3 dL_law__914 rfl rfl ?_
  refine tw_bi (tw_callSH (M := mL_law_) (pc := 915) okL_give dL_law__915 w_767 [.ref x, .int y4, .int y7, .ref o] [] rfl rfl ⟨by decide, by decide⟩ (Nat.le_of_ble_eq_true rfl) (c_L_give d g τ h sp1.1 x ok.2.2.1 y4 y7 o ok.2.2.2.2) ((c + 900) - 20) ((n + 5000) - 120) (by omega) (by omega)) (fun r10 h9 q8 => ?_) (fun E h1 q => q.elim)
  obtain ⟨g11, τ12, q8g, q8s⟩ := q8
  have ok13 := ok.go (by rw [q8g]; exact ok.2.1) q8s
  have sp14 := tw_sp.rf ok13.1
  refine tw_istore [(5, .int r10), (0, .ref (d.2 98)), (1, .ref x), (2, .ref m), (3, .ref o), (4, .int (nI (5 * j)))] dL_law__918 (by decide) rfl ?_
  refine tw_aload_n 3 dL_law__920 rfl rfl ?_
  refine tw_aload_n 1 dL_law__921 rfl rfl ?_
  refine tw_iload 5 dL_law__922 rfl ?_
  refine tw_iconst (v := 1) dL_law__924 (by decide) ?_
  refine tw_iadd dL_law__925 ?_
  refine tw_nmi (fun v15 ev15 => ?_)
  have q16 : v15 = nI (5 * j + 1) := by rw [ev15]; exact tw_s1 _
  rw [q16]
  refine tw_ti (v := .int y4) (fun _ _ z => z.xs.2.2.2.2.2) dL_law__926 (vp_in_nI (by omega) (by omega)) (congrArg Value.int ey4) ?_
  refine tw_aload_n 1 dL_law__927 rfl rfl ?_
  refine tw_iload 5 dL_law__928 rfl ?_
  refine tw_iconst (v := 2) dL_law__930 (by decide) ?_
  refine tw_iadd dL_law__931 ?_
  refine tw_nmi (fun v17 ev17 => ?_)
  have q18 : v17 = nI (5 * j + 2) := by rw [ev17]; exact tw_s2 _
  rw [q18]
  refine tw_ti (v := .int y7) (fun _ _ z => z.xs.2.2.2.2.2) dL_law__932 (vp_in_nI (by omega) (by omega)) (congrArg Value.int ey7) ?_
  obtain ⟨e19, f20, th_21, td_22, ds_23, fr_24, ca_25, us_26, wo_27, cm_28, lc_29, lh_30, ld_31, rfl, k32, k33, k34, k35, k36, k37, k38, k39, k40, k41, k42, k43, k44, k45, k46, k47⟩ := sp14.1 m 36 ok13.2.2.2.1 (by decide)
  refine tw_bi (tw_callV (M := mL_law_) (pc := 933) okX10_give dL_law__933 w_1480 rfl f20 [.int y4, .int y7] [] rfl rfl ⟨by decide, by decide⟩ (Nat.le_of_ble_eq_true rfl) (c_X10_give d g11 τ12 h9 sp14.1 m ok13.2.2.2.1 y4 y7) (((c + 900) - 20) - 500) (((n + 5000) - 120) - 2500) (by omega) (by omega)) (fun r50 h49 q48 => ?_) (fun E h1 q => q.elim)
  have q48s := q48
  have ok51 := ok13.go ok13.2.1 q48s
  have sp52 := tw_sp.rf ok51.1
  refine tw_istore [(6, .int r50), (5, .int r10), (0, .ref (d.2 98)), (1, .ref x), (2, .ref m), (3, .ref o), (4, .int (nI (5 * j)))] dL_law__936 (by decide) rfl ?_
  refine tw_goto 1391 dL_law__938 (by decide) ?_
  refine tw_lv [2, 3, 4, 5, 6] rfl ?_
  refine tw_less (c2 := c) (n2 := n) (by omega) (by omega) ?_
  exact J _ _ _ ok51

set_option maxHeartbeats 4000000 in
set_option maxRecDepth 100000 in
theorem law_case_15 (d : tw_D) (x m o j c n : Nat) (Q : tw_O → tw_H → Prop) (hL : d.2 97 ≤ 2560) (hj : 5 * j + 5 ≤ d.2 97) (J : tw_J d x m o j Q c n) (g : tw_G) (τ : tw_K) (h : tw_H) (ok : tw_ok5 d x m o g τ h) : tw_W d mL_law_ Q 941 (tw_lv5 d x m o j) [] h (c + 900) (n + 5000) := by
  show tw_W d mL_law_ Q 941 [(0, .ref (d.2 98)), (1, .ref x), (2, .ref m), (3, .ref o), (4, .int (nI (5 * j)))] [] h (c + 900) (n + 5000)
  have sp1 := tw_sp.rf ok.1
  refine tw_aload_n 1 dL_law__941 rfl rfl ?_
  refine tw_aload_n 0 dL_law__942 rfl rfl ?_
  refine tw_iload 4 dL_law__943 rfl ?_
  refine tw_iconst (v := 1) dL_law__945 (by decide) ?_
  refine tw_iadd dL_law__946 ?_
  refine tw_nmi (fun v2 ev2 => ?_)
  have q3 : v2 = nI (5 * j + 1) := by rw [ev2]; exact tw_s1 _
  rw [q3]
  obtain ⟨y4, ey4⟩ : ∃ y : Int32, Int32.ofNat (d.2 (1000 + (nI (5 * j + 1)).toNatClampNeg)) = y := ⟨_, rfl⟩
  refine tw_ti (v := .int y4) (fun _ _ z => z.xs.2.2.2.2.2) dL_law__947 (vp_in_nI (by omega) (by omega)) (congrArg Value.int ey4) ?_
  refine tw_aload_n 0 dL_law__948 rfl rfl ?_
  refine tw_iload 4 dL_law__949 rfl ?_
  refine tw_iconst (v := 2) dL_law__951 (by decide) ?_
  refine tw_iadd dL_law__952 ?_
  refine tw_nmi (fun v5 ev5 => ?_)
  have q6 : v5 = nI (5 * j + 2) := by rw [ev5]; exact tw_s2 _
  rw [q6]
  obtain ⟨y7, ey7⟩ : ∃ y : Int32, Int32.ofNat (d.2 (1000 + (nI (5 * j + 2)).toNatClampNeg)) = y := ⟨_, rfl⟩
  refine tw_ti (v := .int y7) (fun _ _ z => z.xs.2.2.2.2.2) dL_law__953 (vp_in_nI (by omega) (by omega)) (congrArg Value.int ey7) ?_
  refine tw_aload_n 3 dL_law__954 rfl rfl ?_
  refine tw_bi (tw_callSH (M := mL_law_) (pc := 955) okL_coins dL_law__955 w_780 [.ref x, .int y4, .int y7, .ref o] [] rfl rfl ⟨by decide, by decide⟩ (Nat.le_of_ble_eq_true rfl) (c_L_coins d g τ h sp1.1 x ok.2.2.1 y4 y7 o ok.2.2.2.2) ((c + 900) - 20) ((n + 5000) - 120) (by omega) (by omega)) (fun r10 h9 q8 => ?_) (fun E h1 q => q.elim)
  obtain ⟨g11, τ12, q8g, q8s⟩ := q8
  have ok13 := ok.go (by rw [q8g]; exact ok.2.1) q8s
  have sp14 := tw_sp.rf ok13.1
  refine tw_istore [(5, .int r10), (0, .ref (d.2 98)), (1, .ref x), (2, .ref m), (3, .ref o), (4, .int (nI (5 * j)))] dL_law__958 (by decide) rfl ?_
  refine tw_aload_n 3 dL_law__960 rfl rfl ?_
  refine tw_aload_n 1 dL_law__961 rfl rfl ?_
  refine tw_iload 5 dL_law__962 rfl ?_
  refine tw_iconst (v := 1) dL_law__964 (by decide) ?_
  refine tw_iadd dL_law__965 ?_
  refine tw_nmi (fun v15 ev15 => ?_)
  have q16 : v15 = nI (5 * j + 1) := by rw [ev15]; exact tw_s1 _
  rw [q16]
  refine tw_ti (v := .int y4) (fun _ _ z => z.xs.2.2.2.2.2) dL_law__966 (vp_in_nI (by omega) (by omega)) (congrArg Value.int ey4) ?_
  refine tw_aload_n 1 dL_law__967 rfl rfl ?_
  refine tw_iload 5 dL_law__968 rfl ?_
  refine tw_iconst (v := 2) dL_law__970 (by decide) ?_
  refine tw_iadd dL_law__971 ?_
  refine tw_nmi (fun v17 ev17 => ?_)
  have q18 : v17 = nI (5 * j + 2) := by rw [ev17]; exact tw_s2 _
  rw [q18]
  refine tw_ti (v := .int y7) (fun _ _ z => z.xs.2.2.2.2.2) dL_law__972 (vp_in_nI (by omega) (by omega)) (congrArg Value.int ey7) ?_
  obtain ⟨e19, f20, th_21, td_22, ds_23, fr_24, ca_25, us_26, wo_27, cm_28, lc_29, lh_30, ld_31, rfl, k32, k33, k34, k35, k36, k37, k38, k39, k40, k41, k42, k43, k44, k45, k46, k47⟩ := sp14.1 m 36 ok13.2.2.2.1 (by decide)
  refine tw_bi (tw_callV (M := mL_law_) (pc := 973) okX10_coins dL_law__973 w_1493 rfl f20 [.int y4, .int y7] [] rfl rfl ⟨by decide, by decide⟩ (Nat.le_of_ble_eq_true rfl) (c_X10_coins d g11 τ12 h9 sp14.1 m ok13.2.2.2.1 y4 y7) (((c + 900) - 20) - 500) (((n + 5000) - 120) - 2500) (by omega) (by omega)) (fun r50 h49 q48 => ?_) (fun E h1 q => q.elim)
  have q48s := q48
  have ok51 := ok13.go ok13.2.1 q48s
  have sp52 := tw_sp.rf ok51.1
  refine tw_istore [(6, .int r50), (5, .int r10), (0, .ref (d.2 98)), (1, .ref x), (2, .ref m), (3, .ref o), (4, .int (nI (5 * j)))] dL_law__976 (by decide) rfl ?_
  refine tw_goto 1391 dL_law__978 (by decide) ?_
  refine tw_lv [2, 3, 4, 5, 6] rfl ?_
  refine tw_less (c2 := c) (n2 := n) (by omega) (by omega) ?_
  exact J _ _ _ ok51

set_option maxHeartbeats 4000000 in
set_option maxRecDepth 100000 in
theorem law_case_16 (d : tw_D) (x m o j c n : Nat) (Q : tw_O → tw_H → Prop) (hL : d.2 97 ≤ 2560) (hj : 5 * j + 5 ≤ d.2 97) (J : tw_J d x m o j Q c n) (g : tw_G) (τ : tw_K) (h : tw_H) (ok : tw_ok5 d x m o g τ h) : tw_W d mL_law_ Q 981 (tw_lv5 d x m o j) [] h (c + 900) (n + 5000) := by
  show tw_W d mL_law_ Q 981 [(0, .ref (d.2 98)), (1, .ref x), (2, .ref m), (3, .ref o), (4, .int (nI (5 * j)))] [] h (c + 900) (n + 5000)
  have sp1 := tw_sp.rf ok.1
  refine tw_aload_n 1 dL_law__981 rfl rfl ?_
  refine tw_aload_n 0 dL_law__982 rfl rfl ?_
  refine tw_iload 4 dL_law__983 rfl ?_
  refine tw_iconst (v := 1) dL_law__985 (by decide) ?_
  refine tw_iadd dL_law__986 ?_
  refine tw_nmi (fun v2 ev2 => ?_)
  have q3 : v2 = nI (5 * j + 1) := by rw [ev2]; exact tw_s1 _
  rw [q3]
  obtain ⟨y4, ey4⟩ : ∃ y : Int32, Int32.ofNat (d.2 (1000 + (nI (5 * j + 1)).toNatClampNeg)) = y := ⟨_, rfl⟩
  refine tw_ti (v := .int y4) (fun _ _ z => z.xs.2.2.2.2.2) dL_law__987 (vp_in_nI (by omega) (by omega)) (congrArg Value.int ey4) ?_
  refine tw_aload_n 0 dL_law__988 rfl rfl ?_
  refine tw_iload 4 dL_law__989 rfl ?_
  refine tw_iconst (v := 2) dL_law__991 (by decide) ?_
  refine tw_iadd dL_law__992 ?_
  refine tw_nmi (fun v5 ev5 => ?_)
  have q6 : v5 = nI (5 * j + 2) := by rw [ev5]; exact tw_s2 _
  rw [q6]
  obtain ⟨y7, ey7⟩ : ∃ y : Int32, Int32.ofNat (d.2 (1000 + (nI (5 * j + 2)).toNatClampNeg)) = y := ⟨_, rfl⟩
  refine tw_ti (v := .int y7) (fun _ _ z => z.xs.2.2.2.2.2) dL_law__993 (vp_in_nI (by omega) (by omega)) (congrArg Value.int ey7) ?_
  refine tw_aload_n 3 dL_law__994 rfl rfl ?_
  refine tw_bi (tw_callSH (M := mL_law_) (pc := 995) okL_ofCountry dL_law__995 w_787 [.ref x, .int y4, .int y7, .ref o] [] rfl rfl ⟨by decide, by decide⟩ (Nat.le_of_ble_eq_true rfl) (c_L_ofCountry d g τ h sp1.1 x ok.2.2.1 y4 y7 o ok.2.2.2.2) ((c + 900) - 20) ((n + 5000) - 120) (by omega) (by omega)) (fun r10 h9 q8 => ?_) (fun E h1 q => q.elim)
  obtain ⟨g11, τ12, q8g, q8s⟩ := q8
  have ok13 := ok.go (by rw [q8g]; exact ok.2.1) q8s
  have sp14 := tw_sp.rf ok13.1
  refine tw_istore [(5, .int r10), (0, .ref (d.2 98)), (1, .ref x), (2, .ref m), (3, .ref o), (4, .int (nI (5 * j)))] dL_law__998 (by decide) rfl ?_
  refine tw_aload_n 3 dL_law__1000 rfl rfl ?_
  refine tw_aload_n 1 dL_law__1001 rfl rfl ?_
  refine tw_iload 5 dL_law__1002 rfl ?_
  refine tw_iconst (v := 1) dL_law__1004 (by decide) ?_
  refine tw_iadd dL_law__1005 ?_
  refine tw_nmi (fun v15 ev15 => ?_)
  have q16 : v15 = nI (5 * j + 1) := by rw [ev15]; exact tw_s1 _
  rw [q16]
  refine tw_ti (v := .int y4) (fun _ _ z => z.xs.2.2.2.2.2) dL_law__1006 (vp_in_nI (by omega) (by omega)) (congrArg Value.int ey4) ?_
  refine tw_aload_n 1 dL_law__1007 rfl rfl ?_
  refine tw_iload 5 dL_law__1008 rfl ?_
  refine tw_iconst (v := 2) dL_law__1010 (by decide) ?_
  refine tw_iadd dL_law__1011 ?_
  refine tw_nmi (fun v17 ev17 => ?_)
  have q18 : v17 = nI (5 * j + 2) := by rw [ev17]; exact tw_s2 _
  rw [q18]
  refine tw_ti (v := .int y7) (fun _ _ z => z.xs.2.2.2.2.2) dL_law__1012 (vp_in_nI (by omega) (by omega)) (congrArg Value.int ey7) ?_
  obtain ⟨e19, f20, th_21, td_22, ds_23, fr_24, ca_25, us_26, wo_27, cm_28, lc_29, lh_30, ld_31, rfl, k32, k33, k34, k35, k36, k37, k38, k39, k40, k41, k42, k43, k44, k45, k46, k47⟩ := sp14.1 m 36 ok13.2.2.2.1 (by decide)
  refine tw_bi (tw_callV (M := mL_law_) (pc := 1013) okX10_ofCountry dL_law__1013 w_1501 rfl f20 [.int y4, .int y7] [] rfl rfl ⟨by decide, by decide⟩ (Nat.le_of_ble_eq_true rfl) (c_X10_ofCountry d g11 τ12 h9 sp14.1 m ok13.2.2.2.1 y4 y7) (((c + 900) - 20) - 3) (((n + 5000) - 120) - 17) (by omega) (by omega)) (fun r50 h49 q48 => ?_) (fun E h1 q => q.elim)
  have q48s := q48
  have ok51 := ok13.go ok13.2.1 q48s
  have sp52 := tw_sp.rf ok51.1
  refine tw_istore [(6, .int r50), (5, .int r10), (0, .ref (d.2 98)), (1, .ref x), (2, .ref m), (3, .ref o), (4, .int (nI (5 * j)))] dL_law__1016 (by decide) rfl ?_
  refine tw_goto 1391 dL_law__1018 (by decide) ?_
  refine tw_lv [2, 3, 4, 5, 6] rfl ?_
  refine tw_less (c2 := c) (n2 := n) (by omega) (by omega) ?_
  exact J _ _ _ ok51

set_option maxHeartbeats 4000000 in
set_option maxRecDepth 100000 in
theorem law_case_17 (d : tw_D) (x m o j c n : Nat) (Q : tw_O → tw_H → Prop) (hL : d.2 97 ≤ 2560) (hj : 5 * j + 5 ≤ d.2 97) (J : tw_J d x m o j Q c n) (g : tw_G) (τ : tw_K) (h : tw_H) (ok : tw_ok5 d x m o g τ h) : tw_W d mL_law_ Q 1021 (tw_lv5 d x m o j) [] h (c + 900) (n + 5000) := by
  show tw_W d mL_law_ Q 1021 [(0, .ref (d.2 98)), (1, .ref x), (2, .ref m), (3, .ref o), (4, .int (nI (5 * j)))] [] h (c + 900) (n + 5000)
  have sp1 := tw_sp.rf ok.1
  refine tw_aload_n 1 dL_law__1021 rfl rfl ?_
  refine tw_aload_n 0 dL_law__1022 rfl rfl ?_
  refine tw_iload 4 dL_law__1023 rfl ?_
  refine tw_iconst (v := 1) dL_law__1025 (by decide) ?_
  refine tw_iadd dL_law__1026 ?_
  refine tw_nmi (fun v2 ev2 => ?_)
  have q3 : v2 = nI (5 * j + 1) := by rw [ev2]; exact tw_s1 _
  rw [q3]
  obtain ⟨y4, ey4⟩ : ∃ y : Int32, Int32.ofNat (d.2 (1000 + (nI (5 * j + 1)).toNatClampNeg)) = y := ⟨_, rfl⟩
  refine tw_ti (v := .int y4) (fun _ _ z => z.xs.2.2.2.2.2) dL_law__1027 (vp_in_nI (by omega) (by omega)) (congrArg Value.int ey4) ?_
  refine tw_aload_n 0 dL_law__1028 rfl rfl ?_
  refine tw_iload 4 dL_law__1029 rfl ?_
  refine tw_iconst (v := 2) dL_law__1031 (by decide) ?_
  refine tw_iadd dL_law__1032 ?_
  refine tw_nmi (fun v5 ev5 => ?_)
  have q6 : v5 = nI (5 * j + 2) := by rw [ev5]; exact tw_s2 _
  rw [q6]
  obtain ⟨y7, ey7⟩ : ∃ y : Int32, Int32.ofNat (d.2 (1000 + (nI (5 * j + 2)).toNatClampNeg)) = y := ⟨_, rfl⟩
  refine tw_ti (v := .int y7) (fun _ _ z => z.xs.2.2.2.2.2) dL_law__1033 (vp_in_nI (by omega) (by omega)) (congrArg Value.int ey7) ?_
  refine tw_aload_n 3 dL_law__1034 rfl rfl ?_
  refine tw_bi (tw_callSH (M := mL_law_) (pc := 1035) okL_ofHouse dL_law__1035 w_794 [.ref x, .int y4, .int y7, .ref o] [] rfl rfl ⟨by decide, by decide⟩ (Nat.le_of_ble_eq_true rfl) (c_L_ofHouse d g τ h sp1.1 x ok.2.2.1 y4 y7 o ok.2.2.2.2) ((c + 900) - 20) ((n + 5000) - 120) (by omega) (by omega)) (fun r10 h9 q8 => ?_) (fun E h1 q => q.elim)
  obtain ⟨g11, τ12, q8g, q8s⟩ := q8
  have ok13 := ok.go (by rw [q8g]; exact ok.2.1) q8s
  have sp14 := tw_sp.rf ok13.1
  refine tw_istore [(5, .int r10), (0, .ref (d.2 98)), (1, .ref x), (2, .ref m), (3, .ref o), (4, .int (nI (5 * j)))] dL_law__1038 (by decide) rfl ?_
  refine tw_aload_n 3 dL_law__1040 rfl rfl ?_
  refine tw_aload_n 1 dL_law__1041 rfl rfl ?_
  refine tw_iload 5 dL_law__1042 rfl ?_
  refine tw_iconst (v := 1) dL_law__1044 (by decide) ?_
  refine tw_iadd dL_law__1045 ?_
  refine tw_nmi (fun v15 ev15 => ?_)
  have q16 : v15 = nI (5 * j + 1) := by rw [ev15]; exact tw_s1 _
  rw [q16]
  refine tw_ti (v := .int y4) (fun _ _ z => z.xs.2.2.2.2.2) dL_law__1046 (vp_in_nI (by omega) (by omega)) (congrArg Value.int ey4) ?_
  refine tw_aload_n 1 dL_law__1047 rfl rfl ?_
  refine tw_iload 5 dL_law__1048 rfl ?_
  refine tw_iconst (v := 2) dL_law__1050 (by decide) ?_
  refine tw_iadd dL_law__1051 ?_
  refine tw_nmi (fun v17 ev17 => ?_)
  have q18 : v17 = nI (5 * j + 2) := by rw [ev17]; exact tw_s2 _
  rw [q18]
  refine tw_ti (v := .int y7) (fun _ _ z => z.xs.2.2.2.2.2) dL_law__1052 (vp_in_nI (by omega) (by omega)) (congrArg Value.int ey7) ?_
  obtain ⟨e19, f20, th_21, td_22, ds_23, fr_24, ca_25, us_26, wo_27, cm_28, lc_29, lh_30, ld_31, rfl, k32, k33, k34, k35, k36, k37, k38, k39, k40, k41, k42, k43, k44, k45, k46, k47⟩ := sp14.1 m 36 ok13.2.2.2.1 (by decide)
  refine tw_bi (tw_callV (M := mL_law_) (pc := 1053) okX10_ofHouse dL_law__1053 w_1513 rfl f20 [.int y4, .int y7] [] rfl rfl ⟨by decide, by decide⟩ (Nat.le_of_ble_eq_true rfl) (c_X10_ofHouse d g11 τ12 h9 sp14.1 m ok13.2.2.2.1 y4 y7) (((c + 900) - 20) - 2) (((n + 5000) - 120) - 12) (by omega) (by omega)) (fun r50 h49 q48 => ?_) (fun E h1 q => q.elim)
  have q48s := q48
  have ok51 := ok13.go ok13.2.1 q48s
  have sp52 := tw_sp.rf ok51.1
  refine tw_istore [(6, .int r50), (5, .int r10), (0, .ref (d.2 98)), (1, .ref x), (2, .ref m), (3, .ref o), (4, .int (nI (5 * j)))] dL_law__1056 (by decide) rfl ?_
  refine tw_goto 1391 dL_law__1058 (by decide) ?_
  refine tw_lv [2, 3, 4, 5, 6] rfl ?_
  refine tw_less (c2 := c) (n2 := n) (by omega) (by omega) ?_
  exact J _ _ _ ok51

set_option maxHeartbeats 4000000 in
set_option maxRecDepth 100000 in
theorem law_case_18 (d : tw_D) (x m o j c n : Nat) (Q : tw_O → tw_H → Prop) (hL : d.2 97 ≤ 2560) (hj : 5 * j + 5 ≤ d.2 97) (J : tw_J d x m o j Q c n) (g : tw_G) (τ : tw_K) (h : tw_H) (ok : tw_ok5 d x m o g τ h) : tw_W d mL_law_ Q 1061 (tw_lv5 d x m o j) [] h (c + 900) (n + 5000) := by
  show tw_W d mL_law_ Q 1061 [(0, .ref (d.2 98)), (1, .ref x), (2, .ref m), (3, .ref o), (4, .int (nI (5 * j)))] [] h (c + 900) (n + 5000)
  have sp1 := tw_sp.rf ok.1
  refine tw_aload_n 1 dL_law__1061 rfl rfl ?_
  refine tw_aload_n 0 dL_law__1062 rfl rfl ?_
  refine tw_iload 4 dL_law__1063 rfl ?_
  refine tw_iconst (v := 1) dL_law__1065 (by decide) ?_
  refine tw_iadd dL_law__1066 ?_
  refine tw_nmi (fun v2 ev2 => ?_)
  have q3 : v2 = nI (5 * j + 1) := by rw [ev2]; exact tw_s1 _
  rw [q3]
  obtain ⟨y4, ey4⟩ : ∃ y : Int32, Int32.ofNat (d.2 (1000 + (nI (5 * j + 1)).toNatClampNeg)) = y := ⟨_, rfl⟩
  refine tw_ti (v := .int y4) (fun _ _ z => z.xs.2.2.2.2.2) dL_law__1067 (vp_in_nI (by omega) (by omega)) (congrArg Value.int ey4) ?_
  refine tw_aload_n 0 dL_law__1068 rfl rfl ?_
  refine tw_iload 4 dL_law__1069 rfl ?_
  refine tw_iconst (v := 2) dL_law__1071 (by decide) ?_
  refine tw_iadd dL_law__1072 ?_
  refine tw_nmi (fun v5 ev5 => ?_)
  have q6 : v5 = nI (5 * j + 2) := by rw [ev5]; exact tw_s2 _
  rw [q6]
  obtain ⟨y7, ey7⟩ : ∃ y : Int32, Int32.ofNat (d.2 (1000 + (nI (5 * j + 2)).toNatClampNeg)) = y := ⟨_, rfl⟩
  refine tw_ti (v := .int y7) (fun _ _ z => z.xs.2.2.2.2.2) dL_law__1073 (vp_in_nI (by omega) (by omega)) (congrArg Value.int ey7) ?_
  refine tw_aload_n 3 dL_law__1074 rfl rfl ?_
  refine tw_bi (tw_callSH (M := mL_law_) (pc := 1075) okL_ofDebt dL_law__1075 w_801 [.ref x, .int y4, .int y7, .ref o] [] rfl rfl ⟨by decide, by decide⟩ (Nat.le_of_ble_eq_true rfl) (c_L_ofDebt d g τ h sp1.1 x ok.2.2.1 y4 y7 o ok.2.2.2.2) ((c + 900) - 20) ((n + 5000) - 120) (by omega) (by omega)) (fun r10 h9 q8 => ?_) (fun E h1 q => q.elim)
  obtain ⟨g11, τ12, q8g, q8s⟩ := q8
  have ok13 := ok.go (by rw [q8g]; exact ok.2.1) q8s
  have sp14 := tw_sp.rf ok13.1
  refine tw_istore [(5, .int r10), (0, .ref (d.2 98)), (1, .ref x), (2, .ref m), (3, .ref o), (4, .int (nI (5 * j)))] dL_law__1078 (by decide) rfl ?_
  refine tw_aload_n 3 dL_law__1080 rfl rfl ?_
  refine tw_aload_n 1 dL_law__1081 rfl rfl ?_
  refine tw_iload 5 dL_law__1082 rfl ?_
  refine tw_iconst (v := 1) dL_law__1084 (by decide) ?_
  refine tw_iadd dL_law__1085 ?_
  refine tw_nmi (fun v15 ev15 => ?_)
  have q16 : v15 = nI (5 * j + 1) := by rw [ev15]; exact tw_s1 _
  rw [q16]
  refine tw_ti (v := .int y4) (fun _ _ z => z.xs.2.2.2.2.2) dL_law__1086 (vp_in_nI (by omega) (by omega)) (congrArg Value.int ey4) ?_
  refine tw_aload_n 1 dL_law__1087 rfl rfl ?_
  refine tw_iload 5 dL_law__1088 rfl ?_
  refine tw_iconst (v := 2) dL_law__1090 (by decide) ?_
  refine tw_iadd dL_law__1091 ?_
  refine tw_nmi (fun v17 ev17 => ?_)
  have q18 : v17 = nI (5 * j + 2) := by rw [ev17]; exact tw_s2 _
  rw [q18]
  refine tw_ti (v := .int y7) (fun _ _ z => z.xs.2.2.2.2.2) dL_law__1092 (vp_in_nI (by omega) (by omega)) (congrArg Value.int ey7) ?_
  obtain ⟨e19, f20, th_21, td_22, ds_23, fr_24, ca_25, us_26, wo_27, cm_28, lc_29, lh_30, ld_31, rfl, k32, k33, k34, k35, k36, k37, k38, k39, k40, k41, k42, k43, k44, k45, k46, k47⟩ := sp14.1 m 36 ok13.2.2.2.1 (by decide)
  refine tw_bi (tw_callV (M := mL_law_) (pc := 1093) okX10_ofDebt dL_law__1093 w_1521 rfl f20 [.int y4, .int y7] [] rfl rfl ⟨by decide, by decide⟩ (Nat.le_of_ble_eq_true rfl) (c_X10_ofDebt d g11 τ12 h9 sp14.1 m ok13.2.2.2.1 y4 y7) (((c + 900) - 20) - 1) (((n + 5000) - 120) - 7) (by omega) (by omega)) (fun r50 h49 q48 => ?_) (fun E h1 q => q.elim)
  have q48s := q48
  have ok51 := ok13.go ok13.2.1 q48s
  have sp52 := tw_sp.rf ok51.1
  refine tw_istore [(6, .int r50), (5, .int r10), (0, .ref (d.2 98)), (1, .ref x), (2, .ref m), (3, .ref o), (4, .int (nI (5 * j)))] dL_law__1096 (by decide) rfl ?_
  refine tw_goto 1391 dL_law__1098 (by decide) ?_
  refine tw_lv [2, 3, 4, 5, 6] rfl ?_
  refine tw_less (c2 := c) (n2 := n) (by omega) (by omega) ?_
  exact J _ _ _ ok51

set_option maxHeartbeats 4000000 in
set_option maxRecDepth 100000 in
theorem law_case_19 (d : tw_D) (x m o j c n : Nat) (Q : tw_O → tw_H → Prop) (hL : d.2 97 ≤ 2560) (hj : 5 * j + 5 ≤ d.2 97) (J : tw_J d x m o j Q c n) (g : tw_G) (τ : tw_K) (h : tw_H) (ok : tw_ok5 d x m o g τ h) : tw_W d mL_law_ Q 1101 (tw_lv5 d x m o j) [] h (c + 900) (n + 5000) := by
  show tw_W d mL_law_ Q 1101 [(0, .ref (d.2 98)), (1, .ref x), (2, .ref m), (3, .ref o), (4, .int (nI (5 * j)))] [] h (c + 900) (n + 5000)
  have sp1 := tw_sp.rf ok.1
  refine tw_aload_n 1 dL_law__1101 rfl rfl ?_
  refine tw_aload_n 0 dL_law__1102 rfl rfl ?_
  refine tw_iload 4 dL_law__1103 rfl ?_
  refine tw_iconst (v := 1) dL_law__1105 (by decide) ?_
  refine tw_iadd dL_law__1106 ?_
  refine tw_nmi (fun v2 ev2 => ?_)
  have q3 : v2 = nI (5 * j + 1) := by rw [ev2]; exact tw_s1 _
  rw [q3]
  obtain ⟨y4, ey4⟩ : ∃ y : Int32, Int32.ofNat (d.2 (1000 + (nI (5 * j + 1)).toNatClampNeg)) = y := ⟨_, rfl⟩
  refine tw_ti (v := .int y4) (fun _ _ z => z.xs.2.2.2.2.2) dL_law__1107 (vp_in_nI (by omega) (by omega)) (congrArg Value.int ey4) ?_
  refine tw_aload_n 0 dL_law__1108 rfl rfl ?_
  refine tw_iload 4 dL_law__1109 rfl ?_
  refine tw_iconst (v := 2) dL_law__1111 (by decide) ?_
  refine tw_iadd dL_law__1112 ?_
  refine tw_nmi (fun v5 ev5 => ?_)
  have q6 : v5 = nI (5 * j + 2) := by rw [ev5]; exact tw_s2 _
  rw [q6]
  obtain ⟨y7, ey7⟩ : ∃ y : Int32, Int32.ofNat (d.2 (1000 + (nI (5 * j + 2)).toNatClampNeg)) = y := ⟨_, rfl⟩
  refine tw_ti (v := .int y7) (fun _ _ z => z.xs.2.2.2.2.2) dL_law__1113 (vp_in_nI (by omega) (by omega)) (congrArg Value.int ey7) ?_
  refine tw_aload_n 3 dL_law__1114 rfl rfl ?_
  refine tw_bi (tw_callSH (M := mL_law_) (pc := 1115) okL_world dL_law__1115 w_808 [.ref x, .int y4, .int y7, .ref o] [] rfl rfl ⟨by decide, by decide⟩ (Nat.le_of_ble_eq_true rfl) (c_L_world d g τ h sp1.1 x ok.2.2.1 y4 y7 o ok.2.2.2.2) ((c + 900) - 20) ((n + 5000) - 120) (by omega) (by omega)) (fun r10 h9 q8 => ?_) (fun E h1 q => q.elim)
  obtain ⟨g11, τ12, q8g, q8s⟩ := q8
  have ok13 := ok.go (by rw [q8g]; exact ok.2.1) q8s
  have sp14 := tw_sp.rf ok13.1
  refine tw_istore [(5, .int r10), (0, .ref (d.2 98)), (1, .ref x), (2, .ref m), (3, .ref o), (4, .int (nI (5 * j)))] dL_law__1118 (by decide) rfl ?_
  refine tw_aload_n 3 dL_law__1120 rfl rfl ?_
  refine tw_aload_n 1 dL_law__1121 rfl rfl ?_
  refine tw_iload 5 dL_law__1122 rfl ?_
  refine tw_iconst (v := 1) dL_law__1124 (by decide) ?_
  refine tw_iadd dL_law__1125 ?_
  refine tw_nmi (fun v15 ev15 => ?_)
  have q16 : v15 = nI (5 * j + 1) := by rw [ev15]; exact tw_s1 _
  rw [q16]
  refine tw_ti (v := .int y4) (fun _ _ z => z.xs.2.2.2.2.2) dL_law__1126 (vp_in_nI (by omega) (by omega)) (congrArg Value.int ey4) ?_
  refine tw_aload_n 1 dL_law__1127 rfl rfl ?_
  refine tw_iload 5 dL_law__1128 rfl ?_
  refine tw_iconst (v := 2) dL_law__1130 (by decide) ?_
  refine tw_iadd dL_law__1131 ?_
  refine tw_nmi (fun v17 ev17 => ?_)
  have q18 : v17 = nI (5 * j + 2) := by rw [ev17]; exact tw_s2 _
  rw [q18]
  refine tw_ti (v := .int y7) (fun _ _ z => z.xs.2.2.2.2.2) dL_law__1132 (vp_in_nI (by omega) (by omega)) (congrArg Value.int ey7) ?_
  obtain ⟨e19, f20, th_21, td_22, ds_23, fr_24, ca_25, us_26, wo_27, cm_28, lc_29, lh_30, ld_31, rfl, k32, k33, k34, k35, k36, k37, k38, k39, k40, k41, k42, k43, k44, k45, k46, k47⟩ := sp14.1 m 36 ok13.2.2.2.1 (by decide)
  refine tw_bi (tw_callV (M := mL_law_) (pc := 1133) okX10_world dL_law__1133 w_1533 rfl f20 [.int y4, .int y7] [] rfl rfl ⟨by decide, by decide⟩ (Nat.le_of_ble_eq_true rfl) (c_X10_world d g11 τ12 h9 sp14.1 m ok13.2.2.2.1 y4 y7) (((c + 900) - 20) - 3) (((n + 5000) - 120) - 14) (by omega) (by omega)) (fun r50 h49 q48 => ?_) (fun E h1 q => q.elim)
  have q48s := q48
  have ok51 := ok13.go ok13.2.1 q48s
  have sp52 := tw_sp.rf ok51.1
  refine tw_istore [(6, .int r50), (5, .int r10), (0, .ref (d.2 98)), (1, .ref x), (2, .ref m), (3, .ref o), (4, .int (nI (5 * j)))] dL_law__1136 (by decide) rfl ?_
  refine tw_goto 1391 dL_law__1138 (by decide) ?_
  refine tw_lv [2, 3, 4, 5, 6] rfl ?_
  refine tw_less (c2 := c) (n2 := n) (by omega) (by omega) ?_
  exact J _ _ _ ok51

set_option maxHeartbeats 4000000 in
set_option maxRecDepth 100000 in
theorem law_case_20 (d : tw_D) (x m o j c n : Nat) (Q : tw_O → tw_H → Prop) (hL : d.2 97 ≤ 2560) (hj : 5 * j + 5 ≤ d.2 97) (J : tw_J d x m o j Q c n) (g : tw_G) (τ : tw_K) (h : tw_H) (ok : tw_ok5 d x m o g τ h) : tw_W d mL_law_ Q 1141 (tw_lv5 d x m o j) [] h (c + 900) (n + 5000) := by
  show tw_W d mL_law_ Q 1141 [(0, .ref (d.2 98)), (1, .ref x), (2, .ref m), (3, .ref o), (4, .int (nI (5 * j)))] [] h (c + 900) (n + 5000)
  have sp1 := tw_sp.rf ok.1
  refine tw_aload_n 1 dL_law__1141 rfl rfl ?_
  refine tw_aload_n 0 dL_law__1142 rfl rfl ?_
  refine tw_iload 4 dL_law__1143 rfl ?_
  refine tw_iconst (v := 1) dL_law__1145 (by decide) ?_
  refine tw_iadd dL_law__1146 ?_
  refine tw_nmi (fun v2 ev2 => ?_)
  have q3 : v2 = nI (5 * j + 1) := by rw [ev2]; exact tw_s1 _
  rw [q3]
  obtain ⟨y4, ey4⟩ : ∃ y : Int32, Int32.ofNat (d.2 (1000 + (nI (5 * j + 1)).toNatClampNeg)) = y := ⟨_, rfl⟩
  refine tw_ti (v := .int y4) (fun _ _ z => z.xs.2.2.2.2.2) dL_law__1147 (vp_in_nI (by omega) (by omega)) (congrArg Value.int ey4) ?_
  refine tw_aload_n 3 dL_law__1148 rfl rfl ?_
  refine tw_bi (tw_callSH (M := mL_law_) (pc := 1149) okL_sign dL_law__1149 w_815 [.ref x, .int y4, .ref o] [] rfl rfl ⟨by decide, by decide⟩ (Nat.le_of_ble_eq_true rfl) (c_L_sign d g τ h sp1.1 x ok.2.2.1 y4 o ok.2.2.2.2) ((c + 900) - 6) ((n + 5000) - 64) (by omega) (by omega)) (fun r7 h6 q5 => ?_) (fun E h1 q => q.elim)
  obtain ⟨g8, τ9, q5g, q5s⟩ := q5
  have ok10 := ok.go (by rw [q5g]; exact ok.2.1) q5s
  have sp11 := tw_sp.rf ok10.1
  refine tw_istore [(5, .int r7), (0, .ref (d.2 98)), (1, .ref x), (2, .ref m), (3, .ref o), (4, .int (nI (5 * j)))] dL_law__1152 (by decide) rfl ?_
  refine tw_aload_n 3 dL_law__1154 rfl rfl ?_
  refine tw_aload_n 1 dL_law__1155 rfl rfl ?_
  refine tw_iload 5 dL_law__1156 rfl ?_
  refine tw_iconst (v := 1) dL_law__1158 (by decide) ?_
  refine tw_iadd dL_law__1159 ?_
  refine tw_nmi (fun v12 ev12 => ?_)
  have q13 : v12 = nI (5 * j + 1) := by rw [ev12]; exact tw_s1 _
  rw [q13]
  refine tw_ti (v := .int y4) (fun _ _ z => z.xs.2.2.2.2.2) dL_law__1160 (vp_in_nI (by omega) (by omega)) (congrArg Value.int ey4) ?_
  obtain ⟨e14, f15, th_16, td_17, ds_18, fr_19, ca_20, us_21, wo_22, cm_23, lc_24, lh_25, ld_26, rfl, k27, k28, k29, k30, k31, k32, k33, k34, k35, k36, k37, k38, k39, k40, k41, k42⟩ := sp11.1 m 36 ok10.2.2.2.1 (by decide)
  refine tw_br (tw_callV (M := mL_law_) (pc := 1161) okX10_sign dL_law__1161 w_1541 rfl f15 [.int y4] [] rfl rfl ⟨by decide, by decide⟩ (Nat.le_of_ble_eq_true rfl) (c_X10_sign d g8 τ9 h6 sp11.1 m ok10.2.2.2.1 y4) (((c + 900) - 6) - 6) (((n + 5000) - 64) - 64) (by omega) (by omega)) (fun r45 h44 q43 => ?_) (fun E h1 q => q.elim)
  have q43s := q43
  have ok46 := ok10.go ok10.2.1 q43s
  have sp47 := tw_sp.rf ok46.1
  refine tw_astore [(6, .ref r45), (5, .int r7), (0, .ref (d.2 98)), (1, .ref x), (2, .ref m), (3, .ref o), (4, .int (nI (5 * j)))] dL_law__1164 (by decide) rfl ?_
  refine tw_goto 1391 dL_law__1166 (by decide) ?_
  refine tw_lv [2, 3, 4, 5, 6] rfl ?_
  refine tw_less (c2 := c) (n2 := n) (by omega) (by omega) ?_
  exact J _ _ _ ok46

set_option maxHeartbeats 4000000 in
set_option maxRecDepth 100000 in
theorem law_case_21 (d : tw_D) (x m o j c n : Nat) (Q : tw_O → tw_H → Prop) (hL : d.2 97 ≤ 2560) (hj : 5 * j + 5 ≤ d.2 97) (J : tw_J d x m o j Q c n) (g : tw_G) (τ : tw_K) (h : tw_H) (ok : tw_ok5 d x m o g τ h) : tw_W d mL_law_ Q 1169 (tw_lv5 d x m o j) [] h (c + 900) (n + 5000) := by
  show tw_W d mL_law_ Q 1169 [(0, .ref (d.2 98)), (1, .ref x), (2, .ref m), (3, .ref o), (4, .int (nI (5 * j)))] [] h (c + 900) (n + 5000)
  have sp1 := tw_sp.rf ok.1
  refine tw_aload_n 1 dL_law__1169 rfl rfl ?_
  refine tw_aload_n 0 dL_law__1170 rfl rfl ?_
  refine tw_iload 4 dL_law__1171 rfl ?_
  refine tw_iconst (v := 1) dL_law__1173 (by decide) ?_
  refine tw_iadd dL_law__1174 ?_
  refine tw_nmi (fun v2 ev2 => ?_)
  have q3 : v2 = nI (5 * j + 1) := by rw [ev2]; exact tw_s1 _
  rw [q3]
  obtain ⟨y4, ey4⟩ : ∃ y : Int32, Int32.ofNat (d.2 (1000 + (nI (5 * j + 1)).toNatClampNeg)) = y := ⟨_, rfl⟩
  refine tw_ti (v := .int y4) (fun _ _ z => z.xs.2.2.2.2.2) dL_law__1175 (vp_in_nI (by omega) (by omega)) (congrArg Value.int ey4) ?_
  refine tw_aload_n 0 dL_law__1176 rfl rfl ?_
  refine tw_iload 4 dL_law__1177 rfl ?_
  refine tw_iconst (v := 2) dL_law__1179 (by decide) ?_
  refine tw_iadd dL_law__1180 ?_
  refine tw_nmi (fun v5 ev5 => ?_)
  have q6 : v5 = nI (5 * j + 2) := by rw [ev5]; exact tw_s2 _
  rw [q6]
  obtain ⟨y7, ey7⟩ : ∃ y : Int32, Int32.ofNat (d.2 (1000 + (nI (5 * j + 2)).toNatClampNeg)) = y := ⟨_, rfl⟩
  refine tw_ti (v := .int y7) (fun _ _ z => z.xs.2.2.2.2.2) dL_law__1181 (vp_in_nI (by omega) (by omega)) (congrArg Value.int ey7) ?_
  refine tw_aload_n 0 dL_law__1182 rfl rfl ?_
  refine tw_iload 4 dL_law__1183 rfl ?_
  refine tw_iconst (v := 3) dL_law__1185 (by decide) ?_
  refine tw_iadd dL_law__1186 ?_
  refine tw_nmi (fun v8 ev8 => ?_)
  have q9 : v8 = nI (5 * j + 3) := by rw [ev8]; exact tw_s3 _
  rw [q9]
  obtain ⟨y10, ey10⟩ : ∃ y : Int32, Int32.ofNat (d.2 (1000 + (nI (5 * j + 3)).toNatClampNeg)) = y := ⟨_, rfl⟩
  refine tw_ti (v := .int y10) (fun _ _ z => z.xs.2.2.2.2.2) dL_law__1187 (vp_in_nI (by omega) (by omega)) (congrArg Value.int ey10) ?_
  refine tw_aload_n 0 dL_law__1188 rfl rfl ?_
  refine tw_iload 4 dL_law__1189 rfl ?_
  refine tw_iconst (v := 4) dL_law__1191 (by decide) ?_
  refine tw_iadd dL_law__1192 ?_
  refine tw_nmi (fun v11 ev11 => ?_)
  have q12 : v11 = nI (5 * j + 4) := by rw [ev11]; exact tw_s4 _
  rw [q12]
  obtain ⟨y13, ey13⟩ : ∃ y : Int32, Int32.ofNat (d.2 (1000 + (nI (5 * j + 4)).toNatClampNeg)) = y := ⟨_, rfl⟩
  refine tw_ti (v := .int y13) (fun _ _ z => z.xs.2.2.2.2.2) dL_law__1193 (vp_in_nI (by omega) (by omega)) (congrArg Value.int ey13) ?_
  refine tw_aload_n 3 dL_law__1194 rfl rfl ?_
  refine tw_bi (tw_callSH (M := mL_law_) (pc := 1195) okL_trip dL_law__1195 w_1085 [.ref x, .int y4, .int y7, .int y10, .int y13, .ref o] [] rfl rfl ⟨by decide, by decide⟩ (Nat.le_of_ble_eq_true rfl) (c_L_trip d g τ h sp1.1 x ok.2.2.1 y4 y7 y10 y13 o ok.2.2.2.2) ((c + 900) - 20) ((n + 5000) - 120) (by omega) (by omega)) (fun r16 h15 q14 => ?_) (fun E h1 q => q.elim)
  obtain ⟨g17, τ18, q14g, q14s⟩ := q14
  have ok19 := ok.go (by rw [q14g]; exact ok.2.1) q14s
  have sp20 := tw_sp.rf ok19.1
  refine tw_istore [(5, .int r16), (0, .ref (d.2 98)), (1, .ref x), (2, .ref m), (3, .ref o), (4, .int (nI (5 * j)))] dL_law__1198 (by decide) rfl ?_
  refine tw_aload_n 3 dL_law__1200 rfl rfl ?_
  refine tw_aload_n 1 dL_law__1201 rfl rfl ?_
  refine tw_iload 5 dL_law__1202 rfl ?_
  refine tw_iconst (v := 1) dL_law__1204 (by decide) ?_
  refine tw_iadd dL_law__1205 ?_
  refine tw_nmi (fun v21 ev21 => ?_)
  have q22 : v21 = nI (5 * j + 1) := by rw [ev21]; exact tw_s1 _
  rw [q22]
  refine tw_ti (v := .int y4) (fun _ _ z => z.xs.2.2.2.2.2) dL_law__1206 (vp_in_nI (by omega) (by omega)) (congrArg Value.int ey4) ?_
  refine tw_aload_n 1 dL_law__1207 rfl rfl ?_
  refine tw_iload 5 dL_law__1208 rfl ?_
  refine tw_iconst (v := 2) dL_law__1210 (by decide) ?_
  refine tw_iadd dL_law__1211 ?_
  refine tw_nmi (fun v23 ev23 => ?_)
  have q24 : v23 = nI (5 * j + 2) := by rw [ev23]; exact tw_s2 _
  rw [q24]
  refine tw_ti (v := .int y7) (fun _ _ z => z.xs.2.2.2.2.2) dL_law__1212 (vp_in_nI (by omega) (by omega)) (congrArg Value.int ey7) ?_
  refine tw_aload_n 1 dL_law__1213 rfl rfl ?_
  refine tw_iload 5 dL_law__1214 rfl ?_
  refine tw_iconst (v := 3) dL_law__1216 (by decide) ?_
  refine tw_iadd dL_law__1217 ?_
  refine tw_nmi (fun v25 ev25 => ?_)
  have q26 : v25 = nI (5 * j + 3) := by rw [ev25]; exact tw_s3 _
  rw [q26]
  refine tw_ti (v := .int y10) (fun _ _ z => z.xs.2.2.2.2.2) dL_law__1218 (vp_in_nI (by omega) (by omega)) (congrArg Value.int ey10) ?_
  refine tw_aload_n 1 dL_law__1219 rfl rfl ?_
  refine tw_iload 5 dL_law__1220 rfl ?_
  refine tw_iconst (v := 4) dL_law__1222 (by decide) ?_
  refine tw_iadd dL_law__1223 ?_
  refine tw_nmi (fun v27 ev27 => ?_)
  have q28 : v27 = nI (5 * j + 4) := by rw [ev27]; exact tw_s4 _
  rw [q28]
  refine tw_ti (v := .int y13) (fun _ _ z => z.xs.2.2.2.2.2) dL_law__1224 (vp_in_nI (by omega) (by omega)) (congrArg Value.int ey13) ?_
  obtain ⟨e29, f30, th_31, td_32, ds_33, fr_34, ca_35, us_36, wo_37, cm_38, lc_39, lh_40, ld_41, rfl, k42, k43, k44, k45, k46, k47, k48, k49, k50, k51, k52, k53, k54, k55, k56, k57⟩ := sp20.1 m 36 ok19.2.2.2.1 (by decide)
  refine tw_bi (tw_callV (M := mL_law_) (pc := 1225) okX10_trip dL_law__1225 w_1553 rfl f30 [.int y4, .int y7, .int y10, .int y13] [] rfl rfl ⟨by decide, by decide⟩ (Nat.le_of_ble_eq_true rfl) (c_X10_trip d g17 τ18 h15 sp20.1 m ok19.2.2.2.1 y4 y7 y10 y13) ((c + 900) - 20) ((n + 5000) - 120) (by omega) (by omega)) (fun r60 h59 q58 => ?_) (fun E h1 q => q.elim)
  have q58s := q58
  have ok61 := ok19.go ok19.2.1 q58s
  have sp62 := tw_sp.rf ok61.1
  refine tw_istore [(6, .int r60), (5, .int r16), (0, .ref (d.2 98)), (1, .ref x), (2, .ref m), (3, .ref o), (4, .int (nI (5 * j)))] dL_law__1228 (by decide) rfl ?_
  refine tw_goto 1391 dL_law__1230 (by decide) ?_
  refine tw_lv [2, 3, 4, 5, 6] rfl ?_
  refine tw_less (c2 := c) (n2 := n) (by omega) (by omega) ?_
  exact J _ _ _ ok61

set_option maxHeartbeats 4000000 in
set_option maxRecDepth 100000 in
theorem law_case_22 (d : tw_D) (x m o j c n : Nat) (Q : tw_O → tw_H → Prop) (hL : d.2 97 ≤ 2560) (hj : 5 * j + 5 ≤ d.2 97) (J : tw_J d x m o j Q c n) (g : tw_G) (τ : tw_K) (h : tw_H) (ok : tw_ok5 d x m o g τ h) : tw_W d mL_law_ Q 1233 (tw_lv5 d x m o j) [] h (c + 900) (n + 5000) := by
  show tw_W d mL_law_ Q 1233 [(0, .ref (d.2 98)), (1, .ref x), (2, .ref m), (3, .ref o), (4, .int (nI (5 * j)))] [] h (c + 900) (n + 5000)
  have sp1 := tw_sp.rf ok.1
  refine tw_aload_n 1 dL_law__1233 rfl rfl ?_
  refine tw_aload_n 0 dL_law__1234 rfl rfl ?_
  refine tw_iload 4 dL_law__1235 rfl ?_
  refine tw_iconst (v := 1) dL_law__1237 (by decide) ?_
  refine tw_iadd dL_law__1238 ?_
  refine tw_nmi (fun v2 ev2 => ?_)
  have q3 : v2 = nI (5 * j + 1) := by rw [ev2]; exact tw_s1 _
  rw [q3]
  obtain ⟨y4, ey4⟩ : ∃ y : Int32, Int32.ofNat (d.2 (1000 + (nI (5 * j + 1)).toNatClampNeg)) = y := ⟨_, rfl⟩
  refine tw_ti (v := .int y4) (fun _ _ z => z.xs.2.2.2.2.2) dL_law__1239 (vp_in_nI (by omega) (by omega)) (congrArg Value.int ey4) ?_
  refine tw_aload_n 0 dL_law__1240 rfl rfl ?_
  refine tw_iload 4 dL_law__1241 rfl ?_
  refine tw_iconst (v := 2) dL_law__1243 (by decide) ?_
  refine tw_iadd dL_law__1244 ?_
  refine tw_nmi (fun v5 ev5 => ?_)
  have q6 : v5 = nI (5 * j + 2) := by rw [ev5]; exact tw_s2 _
  rw [q6]
  obtain ⟨y7, ey7⟩ : ∃ y : Int32, Int32.ofNat (d.2 (1000 + (nI (5 * j + 2)).toNatClampNeg)) = y := ⟨_, rfl⟩
  refine tw_ti (v := .int y7) (fun _ _ z => z.xs.2.2.2.2.2) dL_law__1245 (vp_in_nI (by omega) (by omega)) (congrArg Value.int ey7) ?_
  refine tw_aload_n 0 dL_law__1246 rfl rfl ?_
  refine tw_iload 4 dL_law__1247 rfl ?_
  refine tw_iconst (v := 3) dL_law__1249 (by decide) ?_
  refine tw_iadd dL_law__1250 ?_
  refine tw_nmi (fun v8 ev8 => ?_)
  have q9 : v8 = nI (5 * j + 3) := by rw [ev8]; exact tw_s3 _
  rw [q9]
  obtain ⟨y10, ey10⟩ : ∃ y : Int32, Int32.ofNat (d.2 (1000 + (nI (5 * j + 3)).toNatClampNeg)) = y := ⟨_, rfl⟩
  refine tw_ti (v := .int y10) (fun _ _ z => z.xs.2.2.2.2.2) dL_law__1251 (vp_in_nI (by omega) (by omega)) (congrArg Value.int ey10) ?_
  refine tw_aload_n 3 dL_law__1252 rfl rfl ?_
  refine tw_bi (tw_callSH (M := mL_law_) (pc := 1253) okL_bestTrip dL_law__1253 w_1092 [.ref x, .int y4, .int y7, .int y10, .ref o] [] rfl rfl ⟨by decide, by decide⟩ (Nat.le_of_ble_eq_true rfl) (c_L_bestTrip d g τ h sp1.1 x ok.2.2.1 y4 y7 y10 o ok.2.2.2.2) ((c + 900) - 20) ((n + 5000) - 120) (by omega) (by omega)) (fun r13 h12 q11 => ?_) (fun E h1 q => q.elim)
  obtain ⟨g14, τ15, q11g, q11s⟩ := q11
  have ok16 := ok.go (by rw [q11g]; exact ok.2.1) q11s
  have sp17 := tw_sp.rf ok16.1
  refine tw_istore [(5, .int r13), (0, .ref (d.2 98)), (1, .ref x), (2, .ref m), (3, .ref o), (4, .int (nI (5 * j)))] dL_law__1256 (by decide) rfl ?_
  refine tw_aload_n 3 dL_law__1258 rfl rfl ?_
  refine tw_aload_n 1 dL_law__1259 rfl rfl ?_
  refine tw_iload 5 dL_law__1260 rfl ?_
  refine tw_iconst (v := 1) dL_law__1262 (by decide) ?_
  refine tw_iadd dL_law__1263 ?_
  refine tw_nmi (fun v18 ev18 => ?_)
  have q19 : v18 = nI (5 * j + 1) := by rw [ev18]; exact tw_s1 _
  rw [q19]
  refine tw_ti (v := .int y4) (fun _ _ z => z.xs.2.2.2.2.2) dL_law__1264 (vp_in_nI (by omega) (by omega)) (congrArg Value.int ey4) ?_
  refine tw_aload_n 1 dL_law__1265 rfl rfl ?_
  refine tw_iload 5 dL_law__1266 rfl ?_
  refine tw_iconst (v := 2) dL_law__1268 (by decide) ?_
  refine tw_iadd dL_law__1269 ?_
  refine tw_nmi (fun v20 ev20 => ?_)
  have q21 : v20 = nI (5 * j + 2) := by rw [ev20]; exact tw_s2 _
  rw [q21]
  refine tw_ti (v := .int y7) (fun _ _ z => z.xs.2.2.2.2.2) dL_law__1270 (vp_in_nI (by omega) (by omega)) (congrArg Value.int ey7) ?_
  refine tw_aload_n 1 dL_law__1271 rfl rfl ?_
  refine tw_iload 5 dL_law__1272 rfl ?_
  refine tw_iconst (v := 3) dL_law__1274 (by decide) ?_
  refine tw_iadd dL_law__1275 ?_
  refine tw_nmi (fun v22 ev22 => ?_)
  have q23 : v22 = nI (5 * j + 3) := by rw [ev22]; exact tw_s3 _
  rw [q23]
  refine tw_ti (v := .int y10) (fun _ _ z => z.xs.2.2.2.2.2) dL_law__1276 (vp_in_nI (by omega) (by omega)) (congrArg Value.int ey10) ?_
  obtain ⟨e24, f25, th_26, td_27, ds_28, fr_29, ca_30, us_31, wo_32, cm_33, lc_34, lh_35, ld_36, rfl, k37, k38, k39, k40, k41, k42, k43, k44, k45, k46, k47, k48, k49, k50, k51, k52⟩ := sp17.1 m 36 ok16.2.2.2.1 (by decide)
  refine tw_bi (tw_callV (M := mL_law_) (pc := 1277) okX10_bestTrip dL_law__1277 w_1561 rfl f25 [.int y4, .int y7, .int y10] [] rfl rfl ⟨by decide, by decide⟩ (Nat.le_of_ble_eq_true rfl) (c_X10_bestTrip d g14 τ15 h12 sp17.1 m ok16.2.2.2.1 y4 y7 y10) ((c + 900) - 20) ((n + 5000) - 120) (by omega) (by omega)) (fun r55 h54 q53 => ?_) (fun E h1 q => q.elim)
  have q53s := q53
  have ok56 := ok16.go ok16.2.1 q53s
  have sp57 := tw_sp.rf ok56.1
  refine tw_istore [(6, .int r55), (5, .int r13), (0, .ref (d.2 98)), (1, .ref x), (2, .ref m), (3, .ref o), (4, .int (nI (5 * j)))] dL_law__1280 (by decide) rfl ?_
  refine tw_goto 1391 dL_law__1282 (by decide) ?_
  refine tw_lv [2, 3, 4, 5, 6] rfl ?_
  refine tw_less (c2 := c) (n2 := n) (by omega) (by omega) ?_
  exact J _ _ _ ok56

set_option maxHeartbeats 4000000 in
set_option maxRecDepth 100000 in
theorem law_case_23 (d : tw_D) (x m o j c n : Nat) (Q : tw_O → tw_H → Prop) (hL : d.2 97 ≤ 2560) (hj : 5 * j + 5 ≤ d.2 97) (J : tw_J d x m o j Q c n) (g : tw_G) (τ : tw_K) (h : tw_H) (ok : tw_ok5 d x m o g τ h) : tw_W d mL_law_ Q 1285 (tw_lv5 d x m o j) [] h (c + 900) (n + 5000) := by
  show tw_W d mL_law_ Q 1285 [(0, .ref (d.2 98)), (1, .ref x), (2, .ref m), (3, .ref o), (4, .int (nI (5 * j)))] [] h (c + 900) (n + 5000)
  have sp1 := tw_sp.rf ok.1
  refine tw_aload_n 1 dL_law__1285 rfl rfl ?_
  refine tw_aload_n 0 dL_law__1286 rfl rfl ?_
  refine tw_iload 4 dL_law__1287 rfl ?_
  refine tw_iconst (v := 1) dL_law__1289 (by decide) ?_
  refine tw_iadd dL_law__1290 ?_
  refine tw_nmi (fun v2 ev2 => ?_)
  have q3 : v2 = nI (5 * j + 1) := by rw [ev2]; exact tw_s1 _
  rw [q3]
  obtain ⟨y4, ey4⟩ : ∃ y : Int32, Int32.ofNat (d.2 (1000 + (nI (5 * j + 1)).toNatClampNeg)) = y := ⟨_, rfl⟩
  refine tw_ti (v := .int y4) (fun _ _ z => z.xs.2.2.2.2.2) dL_law__1291 (vp_in_nI (by omega) (by omega)) (congrArg Value.int ey4) ?_
  refine tw_aload_n 3 dL_law__1292 rfl rfl ?_
  refine tw_bi (tw_callSH (M := mL_law_) (pc := 1293) okL_rest dL_law__1293 w_1099 [.ref x, .int y4, .ref o] [] rfl rfl ⟨by decide, by decide⟩ (Nat.le_of_ble_eq_true rfl) (c_L_rest d g τ h sp1.1 x ok.2.2.1 y4 o ok.2.2.2.2) ((c + 900) - 20) ((n + 5000) - 120) (by omega) (by omega)) (fun r7 h6 q5 => ?_) (fun E h1 q => q.elim)
  obtain ⟨g8, τ9, q5g, q5s⟩ := q5
  have ok10 := ok.go (by rw [q5g]; exact ok.2.1) q5s
  have sp11 := tw_sp.rf ok10.1
  refine tw_istore [(5, .int r7), (0, .ref (d.2 98)), (1, .ref x), (2, .ref m), (3, .ref o), (4, .int (nI (5 * j)))] dL_law__1296 (by decide) rfl ?_
  refine tw_aload_n 3 dL_law__1298 rfl rfl ?_
  refine tw_aload_n 1 dL_law__1299 rfl rfl ?_
  refine tw_iload 5 dL_law__1300 rfl ?_
  refine tw_iconst (v := 1) dL_law__1302 (by decide) ?_
  refine tw_iadd dL_law__1303 ?_
  refine tw_nmi (fun v12 ev12 => ?_)
  have q13 : v12 = nI (5 * j + 1) := by rw [ev12]; exact tw_s1 _
  rw [q13]
  refine tw_ti (v := .int y4) (fun _ _ z => z.xs.2.2.2.2.2) dL_law__1304 (vp_in_nI (by omega) (by omega)) (congrArg Value.int ey4) ?_
  obtain ⟨e14, f15, th_16, td_17, ds_18, fr_19, ca_20, us_21, wo_22, cm_23, lc_24, lh_25, ld_26, rfl, k27, k28, k29, k30, k31, k32, k33, k34, k35, k36, k37, k38, k39, k40, k41, k42⟩ := sp11.1 m 36 ok10.2.2.2.1 (by decide)
  refine tw_bi (tw_callV (M := mL_law_) (pc := 1305) okX10_rest dL_law__1305 w_1569 rfl f15 [.int y4] [] rfl rfl ⟨by decide, by decide⟩ (Nat.le_of_ble_eq_true rfl) (c_X10_rest d g8 τ9 h6 sp11.1 m ok10.2.2.2.1 y4) ((c + 900) - 20) ((n + 5000) - 120) (by omega) (by omega)) (fun r45 h44 q43 => ?_) (fun E h1 q => q.elim)
  have q43s := q43.1
  have ok46 := ok10.go ok10.2.1 q43s
  have sp47 := tw_sp.rf ok46.1
  refine tw_istore [(6, .int r45), (5, .int r7), (0, .ref (d.2 98)), (1, .ref x), (2, .ref m), (3, .ref o), (4, .int (nI (5 * j)))] dL_law__1308 (by decide) rfl ?_
  refine tw_goto 1391 dL_law__1310 (by decide) ?_
  refine tw_lv [2, 3, 4, 5, 6] rfl ?_
  refine tw_less (c2 := c) (n2 := n) (by omega) (by omega) ?_
  exact J _ _ _ ok46

set_option maxHeartbeats 4000000 in
set_option maxRecDepth 100000 in
theorem law_case_24 (d : tw_D) (x m o j c n : Nat) (Q : tw_O → tw_H → Prop) (hL : d.2 97 ≤ 2560) (hj : 5 * j + 5 ≤ d.2 97) (J : tw_J d x m o j Q c n) (g : tw_G) (τ : tw_K) (h : tw_H) (ok : tw_ok5 d x m o g τ h) : tw_W d mL_law_ Q 1313 (tw_lv5 d x m o j) [] h (c + 900) (n + 5000) := by
  show tw_W d mL_law_ Q 1313 [(0, .ref (d.2 98)), (1, .ref x), (2, .ref m), (3, .ref o), (4, .int (nI (5 * j)))] [] h (c + 900) (n + 5000)
  have sp1 := tw_sp.rf ok.1
  refine tw_aload_n 1 dL_law__1313 rfl rfl ?_
  refine tw_aload_n 0 dL_law__1314 rfl rfl ?_
  refine tw_iload 4 dL_law__1315 rfl ?_
  refine tw_iconst (v := 1) dL_law__1317 (by decide) ?_
  refine tw_iadd dL_law__1318 ?_
  refine tw_nmi (fun v2 ev2 => ?_)
  have q3 : v2 = nI (5 * j + 1) := by rw [ev2]; exact tw_s1 _
  rw [q3]
  obtain ⟨y4, ey4⟩ : ∃ y : Int32, Int32.ofNat (d.2 (1000 + (nI (5 * j + 1)).toNatClampNeg)) = y := ⟨_, rfl⟩
  refine tw_ti (v := .int y4) (fun _ _ z => z.xs.2.2.2.2.2) dL_law__1319 (vp_in_nI (by omega) (by omega)) (congrArg Value.int ey4) ?_
  refine tw_aload_n 0 dL_law__1320 rfl rfl ?_
  refine tw_iload 4 dL_law__1321 rfl ?_
  refine tw_iconst (v := 2) dL_law__1323 (by decide) ?_
  refine tw_iadd dL_law__1324 ?_
  refine tw_nmi (fun v5 ev5 => ?_)
  have q6 : v5 = nI (5 * j + 2) := by rw [ev5]; exact tw_s2 _
  rw [q6]
  obtain ⟨y7, ey7⟩ : ∃ y : Int32, Int32.ofNat (d.2 (1000 + (nI (5 * j + 2)).toNatClampNeg)) = y := ⟨_, rfl⟩
  refine tw_ti (v := .int y7) (fun _ _ z => z.xs.2.2.2.2.2) dL_law__1325 (vp_in_nI (by omega) (by omega)) (congrArg Value.int ey7) ?_
  refine tw_aload_n 0 dL_law__1326 rfl rfl ?_
  refine tw_iload 4 dL_law__1327 rfl ?_
  refine tw_iconst (v := 3) dL_law__1329 (by decide) ?_
  refine tw_iadd dL_law__1330 ?_
  refine tw_nmi (fun v8 ev8 => ?_)
  have q9 : v8 = nI (5 * j + 3) := by rw [ev8]; exact tw_s3 _
  rw [q9]
  obtain ⟨y10, ey10⟩ : ∃ y : Int32, Int32.ofNat (d.2 (1000 + (nI (5 * j + 3)).toNatClampNeg)) = y := ⟨_, rfl⟩
  refine tw_ti (v := .int y10) (fun _ _ z => z.xs.2.2.2.2.2) dL_law__1331 (vp_in_nI (by omega) (by omega)) (congrArg Value.int ey10) ?_
  refine tw_aload_n 3 dL_law__1332 rfl rfl ?_
  refine tw_bi (tw_callSH (M := mL_law_) (pc := 1333) okL_last dL_law__1333 w_1106 [.ref x, .int y4, .int y7, .int y10, .ref o] [] rfl rfl ⟨by decide, by decide⟩ (Nat.le_of_ble_eq_true rfl) (c_L_last d g τ h sp1.1 x ok.2.2.1 y4 y7 y10 o ok.2.2.2.2) ((c + 900) - 20) ((n + 5000) - 120) (by omega) (by omega)) (fun r13 h12 q11 => ?_) (fun E h1 q => q.elim)
  obtain ⟨g14, τ15, q11g, q11s⟩ := q11
  have ok16 := ok.go (by rw [q11g]; exact ok.2.1) q11s
  have sp17 := tw_sp.rf ok16.1
  refine tw_istore [(5, .int r13), (0, .ref (d.2 98)), (1, .ref x), (2, .ref m), (3, .ref o), (4, .int (nI (5 * j)))] dL_law__1336 (by decide) rfl ?_
  refine tw_aload_n 3 dL_law__1338 rfl rfl ?_
  refine tw_aload_n 1 dL_law__1339 rfl rfl ?_
  refine tw_iload 5 dL_law__1340 rfl ?_
  refine tw_iconst (v := 1) dL_law__1342 (by decide) ?_
  refine tw_iadd dL_law__1343 ?_
  refine tw_nmi (fun v18 ev18 => ?_)
  have q19 : v18 = nI (5 * j + 1) := by rw [ev18]; exact tw_s1 _
  rw [q19]
  refine tw_ti (v := .int y4) (fun _ _ z => z.xs.2.2.2.2.2) dL_law__1344 (vp_in_nI (by omega) (by omega)) (congrArg Value.int ey4) ?_
  refine tw_aload_n 1 dL_law__1345 rfl rfl ?_
  refine tw_iload 5 dL_law__1346 rfl ?_
  refine tw_iconst (v := 2) dL_law__1348 (by decide) ?_
  refine tw_iadd dL_law__1349 ?_
  refine tw_nmi (fun v20 ev20 => ?_)
  have q21 : v20 = nI (5 * j + 2) := by rw [ev20]; exact tw_s2 _
  rw [q21]
  refine tw_ti (v := .int y7) (fun _ _ z => z.xs.2.2.2.2.2) dL_law__1350 (vp_in_nI (by omega) (by omega)) (congrArg Value.int ey7) ?_
  refine tw_aload_n 1 dL_law__1351 rfl rfl ?_
  refine tw_iload 5 dL_law__1352 rfl ?_
  refine tw_iconst (v := 3) dL_law__1354 (by decide) ?_
  refine tw_iadd dL_law__1355 ?_
  refine tw_nmi (fun v22 ev22 => ?_)
  have q23 : v22 = nI (5 * j + 3) := by rw [ev22]; exact tw_s3 _
  rw [q23]
  refine tw_ti (v := .int y10) (fun _ _ z => z.xs.2.2.2.2.2) dL_law__1356 (vp_in_nI (by omega) (by omega)) (congrArg Value.int ey10) ?_
  obtain ⟨e24, f25, th_26, td_27, ds_28, fr_29, ca_30, us_31, wo_32, cm_33, lc_34, lh_35, ld_36, rfl, k37, k38, k39, k40, k41, k42, k43, k44, k45, k46, k47, k48, k49, k50, k51, k52⟩ := sp17.1 m 36 ok16.2.2.2.1 (by decide)
  refine tw_bi (tw_callV (M := mL_law_) (pc := 1357) okX10_last dL_law__1357 w_1577 rfl f25 [.int y4, .int y7, .int y10] [] rfl rfl ⟨by decide, by decide⟩ (Nat.le_of_ble_eq_true rfl) (c_X10_last d g14 τ15 h12 sp17.1 m ok16.2.2.2.1 y4 y7 y10) ((c + 900) - 20) ((n + 5000) - 120) (by omega) (by omega)) (fun r55 h54 q53 => ?_) (fun E h1 q => q.elim)
  have q53s := q53
  have ok56 := ok16.go ok16.2.1 q53s
  have sp57 := tw_sp.rf ok56.1
  refine tw_istore [(6, .int r55), (5, .int r13), (0, .ref (d.2 98)), (1, .ref x), (2, .ref m), (3, .ref o), (4, .int (nI (5 * j)))] dL_law__1360 (by decide) rfl ?_
  refine tw_goto 1391 dL_law__1362 (by decide) ?_
  refine tw_lv [2, 3, 4, 5, 6] rfl ?_
  refine tw_less (c2 := c) (n2 := n) (by omega) (by omega) ?_
  exact J _ _ _ ok56

set_option maxHeartbeats 4000000 in
set_option maxRecDepth 100000 in
theorem law_case_25 (d : tw_D) (x m o j c n : Nat) (Q : tw_O → tw_H → Prop) (hL : d.2 97 ≤ 2560) (hj : 5 * j + 5 ≤ d.2 97) (J : tw_J d x m o j Q c n) (g : tw_G) (τ : tw_K) (h : tw_H) (ok : tw_ok5 d x m o g τ h) : tw_W d mL_law_ Q 1365 (tw_lv5 d x m o j) [] h (c + 900) (n + 5000) := by
  show tw_W d mL_law_ Q 1365 [(0, .ref (d.2 98)), (1, .ref x), (2, .ref m), (3, .ref o), (4, .int (nI (5 * j)))] [] h (c + 900) (n + 5000)
  have sp1 := tw_sp.rf ok.1
  refine tw_aload_n 1 dL_law__1365 rfl rfl ?_
  obtain ⟨e2, f3, td_4, ca_5, ha_6, da_7, c1_8, c2_9, c3_10, c4_11, rfl, k12, k13, k14, k15, k16, k17, k18, k19, k20, k21, k22, k23, k24⟩ := sp1.1 x 11 ok.2.2.1 (by decide)
  refine tw_bi (tw_callV (M := mL_law_) (pc := 1366) okX5_isSound dL_law__1366 w_177 rfl f3 [] [] rfl rfl ⟨by decide, by decide⟩ (Nat.le_of_ble_eq_true rfl) (c_X5_isSound d g τ h sp1.1 x ok.2.2.1) (c + 900) (n + 5000) (by omega) (by omega)) (fun r27 h26 q25 => ?_) (fun E h1 q => q.elim)
  rw [q25.1]
  refine tw_pop dL_law__1369 rfl ?_
  refine tw_aload_n 2 dL_law__1370 rfl rfl ?_
  obtain ⟨e28, f29, th_30, td_31, ds_32, fr_33, ca_34, us_35, wo_36, cm_37, lc_38, lh_39, ld_40, rfl, k41, k42, k43, k44, k45, k46, k47, k48, k49, k50, k51, k52, k53, k54, k55, k56⟩ := sp1.1 m 36 ok.2.2.2.1 (by decide)
  refine tw_bi (tw_callV (M := mL_law_) (pc := 1371) okX10_isSound dL_law__1371 w_1585 rfl f29 [] [] rfl rfl ⟨by decide, by decide⟩ (Nat.le_of_ble_eq_true rfl) (c_X10_isSound d g τ h sp1.1 m ok.2.2.2.1) ((c + 900) - 62) ((n + 5000) - 284) (by omega) (by omega)) (fun r59 h58 q57 => ?_) (fun E h1 q => q.elim)
  have q57s := q57.1
  have ok60 := ok.go ok.2.1 q57s
  have sp61 := tw_sp.rf ok60.1
  refine tw_pop dL_law__1374 rfl ?_
  refine tw_goto 1391 dL_law__1375 (by decide) ?_
  refine tw_lv [0, 1, 2, 3, 4] rfl ?_
  refine tw_less (c2 := c) (n2 := n) (by omega) (by omega) ?_
  exact J _ _ _ ok60

set_option maxHeartbeats 4000000 in
set_option maxRecDepth 100000 in
theorem law_case_26 (d : tw_D) (x m o j c n : Nat) (Q : tw_O → tw_H → Prop) (hL : d.2 97 ≤ 2560) (hj : 5 * j + 5 ≤ d.2 97) (J : tw_J d x m o j Q c n) (g : tw_G) (τ : tw_K) (h : tw_H) (ok : tw_ok5 d x m o g τ h) : tw_W d mL_law_ Q 1378 (tw_lv5 d x m o j) [] h (c + 900) (n + 5000) := by
  show tw_W d mL_law_ Q 1378 [(0, .ref (d.2 98)), (1, .ref x), (2, .ref m), (3, .ref o), (4, .int (nI (5 * j)))] [] h (c + 900) (n + 5000)
  have sp1 := tw_sp.rf ok.1
  refine tw_aload_n 1 dL_law__1378 rfl rfl ?_
  obtain ⟨e2, f3, td_4, ca_5, ha_6, da_7, c1_8, c2_9, c3_10, c4_11, rfl, k12, k13, k14, k15, k16, k17, k18, k19, k20, k21, k22, k23, k24⟩ := sp1.1 x 11 ok.2.2.1 (by decide)
  refine tw_bl (tw_callV (M := mL_law_) (pc := 1379) okX5_digest dL_law__1379 w_235 rfl f3 [] [] rfl rfl ⟨by decide, by decide⟩ (Nat.le_of_ble_eq_true rfl) (c_X5_digest d g τ h sp1.1 x ok.2.2.1) (c + 900) (n + 5000) (by omega) (by omega)) (fun r27 h26 q25 => ?_) (fun E h1 q => q.elim)
  rw [q25]
  refine tw_pop2l dL_law__1382 ?_
  refine tw_aload_n 2 dL_law__1383 rfl rfl ?_
  obtain ⟨e28, f29, th_30, td_31, ds_32, fr_33, ca_34, us_35, wo_36, cm_37, lc_38, lh_39, ld_40, rfl, k41, k42, k43, k44, k45, k46, k47, k48, k49, k50, k51, k52, k53, k54, k55, k56⟩ := sp1.1 m 36 ok.2.2.2.1 (by decide)
  refine tw_bl (tw_callV (M := mL_law_) (pc := 1384) okX10_digest dL_law__1384 w_1593 rfl f29 [] [] rfl rfl ⟨by decide, by decide⟩ (Nat.le_of_ble_eq_true rfl) (c_X10_digest d g τ h sp1.1 m ok.2.2.2.1) ((c + 900) - 866) ((n + 5000) - 4596) (by omega) (by omega)) (fun r59 h58 q57 => ?_) (fun E h1 q => q.elim)
  have q57s := q57
  have ok60 := ok.go ok.2.1 q57s
  have sp61 := tw_sp.rf ok60.1
  refine tw_pop2l dL_law__1387 ?_
  refine tw_goto 1391 dL_law__1388 (by decide) ?_
  refine tw_lv [0, 1, 2, 3, 4] rfl ?_
  refine tw_less (c2 := c) (n2 := n) (by omega) (by omega) ?_
  exact J _ _ _ ok60

set_option maxHeartbeats 4000000 in
set_option maxRecDepth 100000 in
theorem law_loop (d : tw_D) (x m o : Nat) (hL : d.2 97 ≤ 2560) : ∀ (r j : Nat) (g : tw_G) (τ : tw_K) (h : tw_H), tw_ok5 d x m o g τ h → 512 ≤ j + r → j ≤ 512 → tw_W d mL_law_ (tw_qi (fun r _ => r = 1) tw_nx) 27 (tw_lv5 d x m o j) [] h (900 * r) (5000 * r) := by
  intro r
  induction r with
  | zero =>
    intro j g τ h ok h1 h2
    show tw_W d mL_law_ _ 27 [(0, .ref (d.2 98)), (1, .ref x), (2, .ref m), (3, .ref o), (4, .int (nI (5 * j)))] [] h (900 * 0) (5000 * 0)
    have sp1 := tw_sp.rf ok.1
    refine tw_iload 4 dL_law__27 rfl ?_
    refine tw_aload_n 0 dL_law__29 rfl rfl ?_
    refine tw_tlen (N := d.2 97) (fun _ _ z => z.xs.2.2.2.2.2) dL_law__30 ?_
    refine tw_iconst (v := 5) dL_law__31 (by decide) ?_
    refine tw_isub dL_law__32 ?_
    refine tw_nmi (fun v2 ev2 => ?_)
    refine tw_icmp_gt 1397 dL_law__33 (by decide) (fun _ => ?_) (fun c3 => absurd (by rw [ev2]; exact (tw_l5 hL h2).mpr (by omega)) c3)
    refine tw_iconst (v := 1) dL_law__1397 (by decide) ?_
    exact tw_zret dL_law__1398 rfl rfl (Or.inl ⟨_, rfl, rfl⟩)
  | succ r ih =>
    intro j g τ h ok h1 h2
    show tw_W d mL_law_ _ 27 [(0, .ref (d.2 98)), (1, .ref x), (2, .ref m), (3, .ref o), (4, .int (nI (5 * j)))] [] h (900 * (r + 1)) (5000 * (r + 1))
    have sp1 := tw_sp.rf ok.1
    refine tw_iload 4 dL_law__27 rfl ?_
    refine tw_aload_n 0 dL_law__29 rfl rfl ?_
    refine tw_tlen (N := d.2 97) (fun _ _ z => z.xs.2.2.2.2.2) dL_law__30 ?_
    refine tw_iconst (v := 5) dL_law__31 (by decide) ?_
    refine tw_isub dL_law__32 ?_
    refine tw_nmi (fun v2 ev2 => ?_)
    refine tw_icmp_gt 1397 dL_law__33 (by decide) (fun c3 => ?_) (fun c3 => ?_)
    · refine tw_iconst (v := 1) dL_law__1397 (by decide) ?_
      exact tw_zret dL_law__1398 rfl rfl (Or.inl ⟨_, rfl, rfl⟩)
    · have hj : 5 * j + 5 ≤ d.2 97 := by rcases Nat.lt_or_ge (d.2 97) (5 * j + 5) with z | z; exact absurd ((tw_l5 hL h2).mpr z) (by have z9 := c3; rw [ev2] at z9; exact z9); exact z
      have J : tw_J d x m o j (tw_qi (fun r _ => r = 1) tw_nx) (900 * r) (5000 * r) := by
        intro g τ h ok
        show tw_W d mL_law_ _ 1391 [(0, .ref (d.2 98)), (1, .ref x), (2, .ref m), (3, .ref o), (4, .int (nI (5 * j)))] [] h _ _
        obtain ⟨v4, ev4⟩ : ∃ y : Int32, y = (nI (5 * j)) + 5 := ⟨_, rfl⟩
        refine tw_iinc [(4, .int v4), (0, .ref (d.2 98)), (1, .ref x), (2, .ref m), (3, .ref o)] 4 dL_law__1391 rfl (by rw [ev4]; rfl) (by decide) rfl ?_
        refine tw_goto 27 dL_law__1394 (by decide) ?_
        have q5 : v4 = nI (5 * (j + 1)) := by rw [ev4]; exact tw_s5 j
        rw [q5]
        refine tw_lv [1, 2, 3, 4, 0] rfl ?_
        exact ih (j + 1) g τ h ok (by omega) (by omega)
      refine tw_aload_n 0 dL_law__36 rfl rfl ?_
      refine tw_iload 4 dL_law__37 rfl ?_
      obtain ⟨y6, ey6⟩ : ∃ y : Int32, Int32.ofNat (d.2 (1000 + (nI (5 * j)).toNatClampNeg)) = y := ⟨_, rfl⟩
      refine tw_ti (v := .int y6) (fun _ _ z => z.xs.2.2.2.2.2) dL_law__39 (vp_in_nI (by omega) (by omega)) (congrArg Value.int ey6) ?_
      refine tw_bipush (v := 31) dL_law__40 (by decide) ?_
      refine tw_iand dL_law__42 ?_
      refine tw_nmi (fun v7 ev7 => ?_)
      by_cases cs0 : (v7).toInt < 0 ∨ 26 < (v7).toInt
      · refine tw_tabOut 1391 dL_law__43 cs0 (by decide) ?_
        refine tw_less (c2 := 900 * r) (n2 := 5000 * r) (by omega) (by omega) ?_
        exact J _ _ _ ok
      · have csl : ¬ (v7).toInt < 0 := fun q => cs0 (Or.inl q)
        have csh : ¬ 26 < (v7).toInt := fun q => cs0 (Or.inr q)
        rcases (show (v7).toInt = 0 ∨ (v7).toInt = 1 ∨ (v7).toInt = 2 ∨ (v7).toInt = 3 ∨ (v7).toInt = 4 ∨ (v7).toInt = 5 ∨ (v7).toInt = 6 ∨ (v7).toInt = 7 ∨ (v7).toInt = 8 ∨ (v7).toInt = 9 ∨ (v7).toInt = 10 ∨ (v7).toInt = 11 ∨ (v7).toInt = 12 ∨ (v7).toInt = 13 ∨ (v7).toInt = 14 ∨ (v7).toInt = 15 ∨ (v7).toInt = 16 ∨ (v7).toInt = 17 ∨ (v7).toInt = 18 ∨ (v7).toInt = 19 ∨ (v7).toInt = 20 ∨ (v7).toInt = 21 ∨ (v7).toInt = 22 ∨ (v7).toInt = 23 ∨ (v7).toInt = 24 ∨ (v7).toInt = 25 ∨ (v7).toInt = 26 by omega) with cs1 | cs1 | cs1 | cs1 | cs1 | cs1 | cs1 | cs1 | cs1 | cs1 | cs1 | cs1 | cs1 | cs1 | cs1 | cs1 | cs1 | cs1 | cs1 | cs1 | cs1 | cs1 | cs1 | cs1 | cs1 | cs1 | cs1
        · refine tw_tabIn (off := 121) 164 dL_law__43 csl csh (by rw [cs1]; rfl) (by decide) ?_
          rw [show 900 * (r + 1) = 900 * r + 900 by omega, show 5000 * (r + 1) = 5000 * r + 5000 by omega]
          exact law_case_0 d x m o j _ _ _ hL hj J g τ h ok
        · refine tw_tabIn (off := 185) 228 dL_law__43 csl csh (by rw [cs1]; rfl) (by decide) ?_
          rw [show 900 * (r + 1) = 900 * r + 900 by omega, show 5000 * (r + 1) = 5000 * r + 5000 by omega]
          exact law_case_1 d x m o j _ _ _ hL hj J g τ h ok
        · refine tw_tabIn (off := 237) 280 dL_law__43 csl csh (by rw [cs1]; rfl) (by decide) ?_
          rw [show 900 * (r + 1) = 900 * r + 900 by omega, show 5000 * (r + 1) = 5000 * r + 5000 by omega]
          exact law_case_2 d x m o j _ _ _ hL hj J g τ h ok
        · refine tw_tabIn (off := 305) 348 dL_law__43 csl csh (by rw [cs1]; rfl) (by decide) ?_
          rw [show 900 * (r + 1) = 900 * r + 900 by omega, show 5000 * (r + 1) = 5000 * r + 5000 by omega]
          exact law_case_3 d x m o j _ _ _ hL hj J g τ h ok
        · refine tw_tabIn (off := 333) 376 dL_law__43 csl csh (by rw [cs1]; rfl) (by decide) ?_
          rw [show 900 * (r + 1) = 900 * r + 900 by omega, show 5000 * (r + 1) = 5000 * r + 5000 by omega]
          exact law_case_4 d x m o j _ _ _ hL hj J g τ h ok
        · refine tw_tabIn (off := 397) 440 dL_law__43 csl csh (by rw [cs1]; rfl) (by decide) ?_
          rw [show 900 * (r + 1) = 900 * r + 900 by omega, show 5000 * (r + 1) = 5000 * r + 5000 by omega]
          exact law_case_5 d x m o j _ _ _ hL hj J g τ h ok
        · refine tw_tabIn (off := 449) 492 dL_law__43 csl csh (by rw [cs1]; rfl) (by decide) ?_
          rw [show 900 * (r + 1) = 900 * r + 900 by omega, show 5000 * (r + 1) = 5000 * r + 5000 by omega]
          exact law_case_6 d x m o j _ _ _ hL hj J g τ h ok
        · refine tw_tabIn (off := 501) 544 dL_law__43 csl csh (by rw [cs1]; rfl) (by decide) ?_
          rw [show 900 * (r + 1) = 900 * r + 900 by omega, show 5000 * (r + 1) = 5000 * r + 5000 by omega]
          exact law_case_7 d x m o j _ _ _ hL hj J g τ h ok
        · refine tw_tabIn (off := 553) 596 dL_law__43 csl csh (by rw [cs1]; rfl) (by decide) ?_
          rw [show 900 * (r + 1) = 900 * r + 900 by omega, show 5000 * (r + 1) = 5000 * r + 5000 by omega]
          exact law_case_8 d x m o j _ _ _ hL hj J g τ h ok
        · refine tw_tabIn (off := 605) 648 dL_law__43 csl csh (by rw [cs1]; rfl) (by decide) ?_
          rw [show 900 * (r + 1) = 900 * r + 900 by omega, show 5000 * (r + 1) = 5000 * r + 5000 by omega]
          exact law_case_9 d x m o j _ _ _ hL hj J g τ h ok
        · refine tw_tabIn (off := 645) 688 dL_law__43 csl csh (by rw [cs1]; rfl) (by decide) ?_
          rw [show 900 * (r + 1) = 900 * r + 900 by omega, show 5000 * (r + 1) = 5000 * r + 5000 by omega]
          exact law_case_10 d x m o j _ _ _ hL hj J g τ h ok
        · refine tw_tabIn (off := 702) 745 dL_law__43 csl csh (by rw [cs1]; rfl) (by decide) ?_
          rw [show 900 * (r + 1) = 900 * r + 900 by omega, show 5000 * (r + 1) = 5000 * r + 5000 by omega]
          exact law_case_11 d x m o j _ _ _ hL hj J g τ h ok
        · refine tw_tabIn (off := 766) 809 dL_law__43 csl csh (by rw [cs1]; rfl) (by decide) ?_
          rw [show 900 * (r + 1) = 900 * r + 900 by omega, show 5000 * (r + 1) = 5000 * r + 5000 by omega]
          exact law_case_12 d x m o j _ _ _ hL hj J g τ h ok
        · refine tw_tabIn (off := 806) 849 dL_law__43 csl csh (by rw [cs1]; rfl) (by decide) ?_
          rw [show 900 * (r + 1) = 900 * r + 900 by omega, show 5000 * (r + 1) = 5000 * r + 5000 by omega]
          exact law_case_13 d x m o j _ _ _ hL hj J g τ h ok
        · refine tw_tabIn (off := 858) 901 dL_law__43 csl csh (by rw [cs1]; rfl) (by decide) ?_
          rw [show 900 * (r + 1) = 900 * r + 900 by omega, show 5000 * (r + 1) = 5000 * r + 5000 by omega]
          exact law_case_14 d x m o j _ _ _ hL hj J g τ h ok
        · refine tw_tabIn (off := 898) 941 dL_law__43 csl csh (by rw [cs1]; rfl) (by decide) ?_
          rw [show 900 * (r + 1) = 900 * r + 900 by omega, show 5000 * (r + 1) = 5000 * r + 5000 by omega]
          exact law_case_15 d x m o j _ _ _ hL hj J g τ h ok
        · refine tw_tabIn (off := 938) 981 dL_law__43 csl csh (by rw [cs1]; rfl) (by decide) ?_
          rw [show 900 * (r + 1) = 900 * r + 900 by omega, show 5000 * (r + 1) = 5000 * r + 5000 by omega]
          exact law_case_16 d x m o j _ _ _ hL hj J g τ h ok
        · refine tw_tabIn (off := 978) 1021 dL_law__43 csl csh (by rw [cs1]; rfl) (by decide) ?_
          rw [show 900 * (r + 1) = 900 * r + 900 by omega, show 5000 * (r + 1) = 5000 * r + 5000 by omega]
          exact law_case_17 d x m o j _ _ _ hL hj J g τ h ok
        · refine tw_tabIn (off := 1018) 1061 dL_law__43 csl csh (by rw [cs1]; rfl) (by decide) ?_
          rw [show 900 * (r + 1) = 900 * r + 900 by omega, show 5000 * (r + 1) = 5000 * r + 5000 by omega]
          exact law_case_18 d x m o j _ _ _ hL hj J g τ h ok
        · refine tw_tabIn (off := 1058) 1101 dL_law__43 csl csh (by rw [cs1]; rfl) (by decide) ?_
          rw [show 900 * (r + 1) = 900 * r + 900 by omega, show 5000 * (r + 1) = 5000 * r + 5000 by omega]
          exact law_case_19 d x m o j _ _ _ hL hj J g τ h ok
        · refine tw_tabIn (off := 1098) 1141 dL_law__43 csl csh (by rw [cs1]; rfl) (by decide) ?_
          rw [show 900 * (r + 1) = 900 * r + 900 by omega, show 5000 * (r + 1) = 5000 * r + 5000 by omega]
          exact law_case_20 d x m o j _ _ _ hL hj J g τ h ok
        · refine tw_tabIn (off := 1126) 1169 dL_law__43 csl csh (by rw [cs1]; rfl) (by decide) ?_
          rw [show 900 * (r + 1) = 900 * r + 900 by omega, show 5000 * (r + 1) = 5000 * r + 5000 by omega]
          exact law_case_21 d x m o j _ _ _ hL hj J g τ h ok
        · refine tw_tabIn (off := 1190) 1233 dL_law__43 csl csh (by rw [cs1]; rfl) (by decide) ?_
          rw [show 900 * (r + 1) = 900 * r + 900 by omega, show 5000 * (r + 1) = 5000 * r + 5000 by omega]
          exact law_case_22 d x m o j _ _ _ hL hj J g τ h ok
        · refine tw_tabIn (off := 1242) 1285 dL_law__43 csl csh (by rw [cs1]; rfl) (by decide) ?_
          rw [show 900 * (r + 1) = 900 * r + 900 by omega, show 5000 * (r + 1) = 5000 * r + 5000 by omega]
          exact law_case_23 d x m o j _ _ _ hL hj J g τ h ok
        · refine tw_tabIn (off := 1270) 1313 dL_law__43 csl csh (by rw [cs1]; rfl) (by decide) ?_
          rw [show 900 * (r + 1) = 900 * r + 900 by omega, show 5000 * (r + 1) = 5000 * r + 5000 by omega]
          exact law_case_24 d x m o j _ _ _ hL hj J g τ h ok
        · refine tw_tabIn (off := 1322) 1365 dL_law__43 csl csh (by rw [cs1]; rfl) (by decide) ?_
          rw [show 900 * (r + 1) = 900 * r + 900 by omega, show 5000 * (r + 1) = 5000 * r + 5000 by omega]
          exact law_case_25 d x m o j _ _ _ hL hj J g τ h ok
        · refine tw_tabIn (off := 1335) 1378 dL_law__43 csl csh (by rw [cs1]; rfl) (by decide) ?_
          rw [show 900 * (r + 1) = 900 * r + 900 by omega, show 5000 * (r + 1) = 5000 * r + 5000 by omega]
          exact law_case_26 d x m o j _ _ _ hL hj J g τ h ok

/-- the class's kinds alone -/
def tw_cl (τ : tw_K) : tw_K := fun a => if τ a < 13 then τ a else 0
theorem tw_cl_k {τ : tw_K} {a k : Nat} (h : τ a = k) (hk : k < 13) : tw_cl τ a = k := by
  unfold tw_cl
  rw [h, if_pos hk]
theorem tw_cl_lt (τ : tw_K) (a : Nat) : tw_cl τ a < 13 := by
  unfold tw_cl
  split
  · assumption
  · decide
theorem tw_sh_cl {d : tw_D} {g : tw_G} {τ : tw_K} {x k : Nat} {e : va_E} (hk : k < 13) (h : tw_sh d g τ x k e) : tw_sh d g (tw_cl τ) x k e := by
  have L : ∀ {a k : Nat}, τ a = k → k < 13 → tw_cl τ a = k := fun q z => tw_cl_k q z
  rcases (show k = 0 ∨ k = 1 ∨ k = 2 ∨ k = 3 ∨ k = 4 ∨ k = 5 ∨ k = 6 ∨ k = 7 ∨ k = 8 ∨ k = 9 ∨ k = 10 ∨ k = 11 ∨ k = 12 by omega) with rfl | rfl | rfl | rfl | rfl | rfl | rfl | rfl | rfl | rfl | rfl | rfl | rfl
  · exact h.elim
  · exact h
  · obtain ⟨n, r, c, go, so, v, rd, rf, t, h1, h2, h3, h4, h5, h6⟩ := h
    exact ⟨n, r, c, go, so, v, rd, rf, t, h1, L h2 (by decide), L h3 (by decide), L h4 (by decide), L h5 (by decide), h6⟩
  · obtain ⟨n, ar, p, pl, go, h1, h2, h3, h4⟩ := h
    exact ⟨n, ar, p, pl, go, h1, L h2 (by decide), fun q hq => L (h3 q hq) (by decide), fun q hq => L (h4 q hq) (by decide)⟩
  · obtain ⟨v, dy, pd, a, b, h1, h2, h3, h4⟩ := h
    exact ⟨v, dy, pd, a, b, h1, L h2 (by decide), L h3 (by decide), h4⟩
  · obtain ⟨m, h1, h2⟩ := h
    exact ⟨m, h1, L h2 (by decide)⟩
  · exact h
  · exact h
  · obtain ⟨f, h1, h2, h3⟩ := h
    exact ⟨f, h1, fun j q hq => L (h2 j q hq) (by decide), h3⟩
  · obtain ⟨f, h1, h2, h3⟩ := h
    exact ⟨f, h1, fun j q hq => L (h2 j q hq) (by decide), h3⟩
  · obtain ⟨f, h1, h2, h3⟩ := h
    exact ⟨f, h1, fun j q hq => L (h2 j q hq) (by decide), h3⟩
  · obtain ⟨td, ca, ha, da, c1, c2, c3, c4, h1, k1, k2, k3, k4, k5, k6, k7, k8⟩ := h
    exact ⟨td, ca, ha, da, c1, c2, c3, c4, h1, L k1 (by decide), L k2 (by decide), L k3 (by decide), L k4 (by decide), L k5 (by decide), L k6 (by decide), L k7 (by decide), k8⟩
  · exact h
theorem tw_wt.cl {d : tw_D} {g : tw_G} {τ : tw_K} {h : tw_H} (hw : tw_wt d g τ h) : tw_wt d g (tw_cl τ) h := by
  intro a k hk h0
  have h13 : k < 13 := by rw [← hk]; exact tw_cl_lt τ a
  have e : τ a = k := by
    unfold tw_cl at hk
    split at hk
    · exact hk
    · exact absurd hk.symm h0
  obtain ⟨x, a1, a2⟩ := hw a k e h0
  exact ⟨x, a1, tw_sh_cl h13 a2⟩
theorem tw_cl_no (τ : tw_K) : tw_no (tw_cl τ) := fun a => Or.inl (Nat.lt_trans (tw_cl_lt τ a) (by decide))
theorem tw_cl_0 {τ : tw_K} {a : Nat} (h : τ a = 0) : tw_cl τ a = 0 := tw_cl_k h (by decide)
set_option maxHeartbeats 4000000 in
set_option maxRecDepth 100000 in
theorem law_start (d : tw_D) (hL : d.2 97 ≤ 2560) : tw_W d mL_law_ (tw_qi (fun r _ => r = 1) tw_nx) 0 [(0, .ref (d.2 98))] [] (fun _ => none) 460900 2560200 := by
  refine tw_new (ci := 9) rfl in_9 tyX5 tyX5_ok dL_law__0 w_111 w_112 w_77 (fs := [.int 0, .int 0, .null, .int 0, .null, .int 0, .null, .int 0, .null, .null, .null, .null]) (fun j hj => by rcases (show j = 0 ∨ j = 1 ∨ j = 2 ∨ j = 3 ∨ j = 4 ∨ j = 5 ∨ j = 6 ∨ j = 7 ∨ j = 8 ∨ j = 9 ∨ j = 10 ∨ j = 11 by omega) with rfl | rfl | rfl | rfl | rfl | rfl | rfl | rfl | rfl | rfl | rfl | rfl <;> rfl) 460899 2560188 (Nat.le_of_ble_eq_true rfl) (Nat.le_of_ble_eq_true rfl) (fun x hx hA_x => ?_)
  obtain ⟨h1, eh1⟩ : ∃ z : tw_H, z = tw_up (fun _ => none) x (.inr (9, [.int 0, .int 0, .null, .int 0, .null, .int 0, .null, .int 0, .null, .null, .null, .null])) := ⟨_, rfl⟩
  rw [← eh1]
  have f1 : h1 x = some (.inr (9, [.int 0, .int 0, .null, .int 0, .null, .int 0, .null, .int 0, .null, .null, .null, .null])) := by rw [eh1]; exact tw_up_s
  have hw : tw_wt d ((fun _ => 0, fun _ => 0) : tw_G) (fun _ => 0) h1 := fun a k hk h0 => absurd hk.symm h0
  refine tw_dup dL_law__3 rfl ?_
  refine tw_bv (tw_callI (M := mL_law_) (pc := 4) okX5_init dL_law__4 w_113 rfl [] [.ref x] rfl rfl ⟨by decide, by decide⟩ (Nat.le_of_ble_eq_true rfl) (c2_X5_init d ((fun _ => 0, fun _ => 0) : tw_G) (fun _ => 0) h1 hw (fun _ => rfl) x rfl f1) 460888 2560136 (Nat.le_of_ble_eq_true rfl) (Nat.le_of_ble_eq_true rfl)) (fun h2 q1 => ?_) (fun E h1 q => q.elim)
  obtain ⟨g, τ1, ⟨eg0, eg2⟩, i1⟩ := q1
  refine tw_astore_n [(1, .ref x), (0, .ref (d.2 98))] dL_law__7 rfl (by decide) rfl ?_
  refine tw_new (ci := 14) rfl in_14 tyX10 tyX10_ok dL_law__8 w_1113 w_1114 w_79 (fs := [.int 0, .int 0, .int 0, .null, .null, .null, .null, .null, .null, .null, .null, .null]) (fun j hj => by rcases (show j = 0 ∨ j = 1 ∨ j = 2 ∨ j = 3 ∨ j = 4 ∨ j = 5 ∨ j = 6 ∨ j = 7 ∨ j = 8 ∨ j = 9 ∨ j = 10 ∨ j = 11 by omega) with rfl | rfl | rfl | rfl | rfl | rfl | rfl | rfl | rfl | rfl | rfl | rfl <;> rfl) 460887 2560124 (Nat.le_of_ble_eq_true rfl) (Nat.le_of_ble_eq_true rfl) (fun m hm hA_m => ?_)
  obtain ⟨h3, eh3⟩ : ∃ z : tw_H, z = tw_up h2 m (.inr (14, [.int 0, .int 0, .int 0, .null, .null, .null, .null, .null, .null, .null, .null, .null])) := ⟨_, rfl⟩
  rw [← eh3]
  have f3 : h3 m = some (.inr (14, [.int 0, .int 0, .int 0, .null, .null, .null, .null, .null, .null, .null, .null, .null])) := by rw [eh3]; exact tw_up_s
  have z3 : tw_cl τ1 m = 0 := tw_cl_0 (i1.1.none hm)
  have hw3 : tw_wt d g (tw_cl τ1) h3 := by rw [eh3]; exact i1.1.cl.loc z3
  refine tw_dup dL_law__11 rfl ?_
  refine tw_bv (tw_callI (M := mL_law_) (pc := 12) okX10_init dL_law__12 w_1115 rfl [] [.ref m] rfl rfl ⟨by decide, by decide⟩ (Nat.le_of_ble_eq_true rfl) (c2_X10_init d g (tw_cl τ1) h3 hw3 (tw_cl_no τ1) m z3 f3) 460869 2560052 (Nat.le_of_ble_eq_true rfl) (Nat.le_of_ble_eq_true rfl)) (fun h4 q3 => ?_) (fun E h1 q => q.elim)
  obtain ⟨g1, τ2, ⟨a0, a1, a2, a6, a3, a21, a22⟩, i3⟩ := q3
  have kx : τ2 x = 11 := i3.2.1.k (tw_cl_k i1.2.2.1 (by decide)) (by decide)
  have km : τ2 m = 36 := i3.2.2.1
  have hg : tw_I9 g1 := by have y0 : g1.2 0 = 0 := (a2 0 (by decide)).trans (eg2 0 (by decide)); have y1 : g1.2 1 = 0 := (a2 1 (by decide)).trans (eg2 1 (by decide)); have y2 : g1.2 2 = 0 := (a2 2 (by decide)).trans (eg2 2 (by decide)); have y3 : g1.2 3 = 0 := a3 3 (by decide) (by decide); have y4 : g1.2 4 = 0 := a3 4 (by decide) (by decide); have y5 : g1.2 5 = 0 := a3 5 (by decide) (by decide); have y6 : g1.2 6 = 0 := (a6 6 (by decide) (by decide)).trans (eg2 6 (by decide)); have y7 : g1.2 7 = 0 := (a6 7 (by decide) (by decide)).trans (eg2 7 (by decide)); have y8 : g1.2 8 = 0 := (a6 8 (by decide) (by decide)).trans (eg2 8 (by decide)); have y21 : g1.2 21 = 0 := a21.trans (eg2 21 (by decide)); have y22 : g1.2 22 = 0 := a22; unfold tw_I9; omega
  refine tw_astore_n [(2, .ref m), (1, .ref x), (0, .ref (d.2 98))] dL_law__15 rfl (by decide) rfl ?_
  refine tw_new (ci := 10) rfl in_10 tyX6 tyX6_ok dL_law__16 w_374 w_375 w_83 (fs := [.long 0, .null]) (fun j hj => by rcases (show j = 0 ∨ j = 1 by omega) with rfl | rfl <;> rfl) 460868 2560050 (Nat.le_of_ble_eq_true rfl) (Nat.le_of_ble_eq_true rfl) (fun o ho hA_o => ?_)
  obtain ⟨h5, eh5⟩ : ∃ z : tw_H, z = tw_up h4 o (.inr (10, [.long 0, .null])) := ⟨_, rfl⟩
  rw [← eh5]
  have f5 : h5 o = some (.inr (10, [.long 0, .null])) := by rw [eh5]; exact tw_up_s
  have z5 : τ2 o = 0 := i3.1.none ho
  have sp5 : tw_sp d τ2 h4 g1 τ2 h5 := by rw [eh5]; exact (tw_sp.rf i3.1).mk ho
  refine tw_dup dL_law__19 rfl ?_
  refine tw_bv (tw_callIN (M := mL_law_) (pc := 20) okX6_init dL_law__20 w_376 rfl [] [.ref o] rfl rfl ⟨by decide, by decide⟩ (Nat.le_of_ble_eq_true rfl) (c_X6_init d h5 o) 460867 2560048 (Nat.le_of_ble_eq_true rfl) (Nat.le_of_ble_eq_true rfl)) (fun h6 q5 => ?_) (fun E h1 q => q.elim)
  rw [q5]
  refine tw_astore_n [(3, .ref o), (2, .ref m), (1, .ref x), (0, .ref (d.2 98))] dL_law__23 rfl (by decide) rfl ?_
  have t5 := sp5.ty (k := 12) ho z5 f5 ⟨0, none, rfl⟩
  have ok : tw_ok5 d x m o g1 (tw_ku τ2 o 12) h5 := ⟨t5.1, hg, (tw_ku_le z5).k kx (by decide), (tw_ku_le z5).k km (by decide), tw_ku_s⟩
  refine tw_iconst (v := 0) dL_law__24 (by decide) ?_
  refine tw_istore [(4, .int 0), (3, .ref o), (2, .ref m), (1, .ref x), (0, .ref (d.2 98))] dL_law__25 (by decide) rfl ?_
  refine tw_lv [4, 3, 2, 1, 0] rfl ?_
  refine tw_less (c2 := 900 * 512) (n2 := 5000 * 512) (Nat.le_of_ble_eq_true rfl) (Nat.le_of_ble_eq_true rfl) ?_
  exact law_loop d x m o hL 512 0 g1 _ h5 ok (by decide) (by decide)

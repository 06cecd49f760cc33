/-! the class's methods over the typed heap. Laid by wip/p5/mkclass.py. -/
set_option maxHeartbeats 4000000 in
set_option maxRecDepth 100000 in
theorem c_X10_all (d : tw_D) (h : tw_H) (x : Nat) (F : Nat → Int32) (hx : h x = some (.inl (d.2 0, 5, .inl F))) : tw_Ct d mX10_all 0 0 [.ref x] h (tw_qi (fun _ h1 => h1 = h) tw_nx) := by
  refine tw_of (by decide +kernel) (Nat.le_of_ble_eq_true rfl) ?_
  show tw_W d mX10_all _ 0 [(0, .ref x)] [] h 0 0
  refine tw_iconst (v := 0) dX10_all_0 (by decide) ?_
  refine tw_istore_n [(1, .int 0), (0, .ref x)] dX10_all_1 rfl (by decide) rfl ?_
  refine tw_aload_n 1 dX10_all_2 rfl rfl ?_
  refine tw_astore_n [(2, .ref x), (1, .int 0), (0, .ref x)] dX10_all_3 rfl (by decide) rfl ?_
  refine tw_aload_n 0 dX10_all_4 rfl rfl ?_
  refine tw_alen (v := nI 5) 0 rfl dX10_all_5 hx rfl ?_
  refine tw_istore_n [(3, .int (nI 5)), (2, .ref x), (1, .int 0), (0, .ref x)] dX10_all_6 rfl (by decide) rfl ?_
  refine tw_iconst (v := 0) dX10_all_7 (by decide) ?_
  refine tw_istore [(4, .int 0), (3, .int (nI 5)), (2, .ref x), (1, .int 0), (0, .ref x)] dX10_all_8 (by decide) rfl ?_
  have L5 : ∀ (r3 k2 : Nat) (x1 : Int32), 5 + 1 ≤ k2 + r3 → k2 ≤ 5 → tw_W d mX10_all (tw_qi (fun _ h1 => h1 = h) tw_nx) 10 [(0, .ref x), (1, .int x1), (2, .ref x), (3, .int (nI 5)), (4, .int (nI k2))] [] h 0 0 := by
    intro r3
    induction r3 with
    | zero => intro k2 x1 hk10 hk11; exact absurd hk10 (by omega)
    | succ r3 ih4 =>
      intro k2 x1 hk10 hk11
      refine tw_iload 4 dX10_all_10 rfl ?_
      refine tw_iload_n 3 dX10_all_12 rfl rfl ?_
      refine tw_icmp_ge 33 dX10_all_13 (by decide) (fun c12 => ?_) (fun c12 => ?_)
      · refine tw_iload_n 1 dX10_all_33 rfl rfl ?_
        exact tw_iret dX10_all_34 rfl (Or.inl ⟨_, rfl, rfl⟩)
      · have kl13 := tw_klt (N := 5) c12 hk11 (by decide)
        refine tw_aload_n 2 dX10_all_16 rfl rfl ?_
        refine tw_iload 4 dX10_all_17 rfl ?_
        obtain ⟨v14, ev14⟩ : ∃ y : Int32, F ((nI k2)).toNatClampNeg = y := ⟨_, rfl⟩
        refine tw_iald (v := v14) dX10_all_19 hx (vp_in_nI (by omega) (by decide)) ev14 ?_
        refine tw_istore [(5, .int v14), (0, .ref x), (1, .int x1), (2, .ref x), (3, .int (nI 5)), (4, .int (nI k2))] dX10_all_20 (by decide) rfl ?_
        refine tw_iload_n 2 dX10_all_22 rfl rfl ?_
        refine tw_iload 0 dX10_all_23 rfl ?_
        refine tw_iadd dX10_all_25 ?_
        refine tw_nmi (fun v15 ev15 => ?_)
        refine tw_istore_n [(1, .int v15), (5, .int v14), (0, .ref x), (2, .ref x), (3, .int (nI 5)), (4, .int (nI k2))] dX10_all_26 rfl (by decide) rfl ?_
        obtain ⟨v16, ev16⟩ : ∃ y : Int32, y = (nI k2) + 1 := ⟨_, rfl⟩
        refine tw_iinc [(4, .int v16), (1, .int v15), (5, .int v14), (0, .ref x), (2, .ref x), (3, .int (nI 5))] 5 dX10_all_27 rfl (by rw [ev16]; rfl) (by decide) rfl ?_
        refine tw_goto 10 dX10_all_30 (by decide) ?_
        have qv16 := tw_nI3 ev16
        rw [qv16]
        refine tw_lv [3, 1, 4, 5, 0] rfl ?_
        exact ih4 (k2 + 1) v15 (by omega) (by omega)
  refine tw_lv [4, 3, 2, 1, 0] rfl ?_
  exact L5 (5 + 1) 0 0 (by omega) (by omega)

set_option maxHeartbeats 4000000 in
set_option maxRecDepth 100000 in
theorem c_best0 (d : tw_D) (h : tw_H) (t l : Nat) (f : Nat → Int32) (hf : ∀ j, 0 ≤ f j ∧ f j ≤ 9) (hl : l ≤ 400) : tw_Ct d (mX10_best 0) (tw_wy 0 l) (5 * tw_wy 0 l) [.ref t, .int (nI 5), .int (nI l)] h (tw_qq (fun r h1 => tw_gw h h1 ∧ ∀ q, r = some q → h q = none ∧ ∃ F, h1 q = some (.inl (d.2 0, 5, .inl F)) ∧ ∀ j, 0 ≤ F j ∧ F j ≤ f j) tw_nx) := by
  refine tw_of okX10_best_0.1.2.2.2 (Nat.le_of_ble_eq_true rfl) ?_
  show tw_W d (mX10_best 0) _ 0 [(0, .ref t), (1, .int (nI 5)), (2, .int (nI l))] [] h (tw_wy 0 l) (5 * tw_wy 0 l)
  refine tw_iload_n 1 dX10_best_0 rfl rfl ?_
  refine tw_iconst (v := 5) dX10_best_1 (by decide) ?_
  refine tw_icmp_ne 17 dX10_best_2 (by decide) (fun c1 => absurd (rfl) c1) (fun _ => ?_)
  refine tw_iload_n 2 dX10_best_5 rfl rfl ?_
  refine tw_if_ne 15 dX10_best_6 (by decide) (fun c2 => ?_) (fun c2 => ?_)
  · refine tw_null dX10_best_15 ?_
    exact tw_aretN dX10_best_16 rfl (Or.inr ⟨_, rfl⟩) (Or.inl ⟨none, rfl, tw_gw.rf, fun q z => by cases z⟩)
  · refine tw_iconst (v := 5) dX10_best_9 (by decide) ?_
    have hl0 : l = 0 := tw_nIj (by show nI l = nI 0; exact c2) (by omega) (by decide)
    have hc0 : tw_wy 0 l = 1 := by rw [hl0]; rfl
    refine tw_newa (a0 := (5, .inl (fun _ => 0))) 0 rfl dX10_best_10 rfl w_500 (fun _ => rfl) (by decide) (by decide) (by decide) 0 0 (by omega) (by omega) (fun q hq hA => ?_)
    refine tw_goto 16 dX10_best_12 (by decide) ?_
    exact tw_aret dX10_best_16 rfl (Or.inr ⟨_, rfl⟩) (Or.inl ⟨some q, rfl, tw_gw.up tw_gw.rf hq, fun b z => by cases z; exact ⟨hq, _, tw_up_s, fun j => ⟨by decide, (hf j).1⟩⟩⟩)

set_option maxHeartbeats 4000000 in
set_option maxRecDepth 100000 in
theorem c_best1 (d : tw_D) (m k : Nat) (hk : k + m = 4) (ih : ∀ m9, m9 ≤ m → ∀ (h : tw_H) (t l : Nat) (f : Nat → Int32), h t = some (.inl (d.2 0, 5, .inl f)) → (∀ j, 0 ≤ f j ∧ f j ≤ 9) → l ≤ 400 → tw_Ct d (mX10_best m9) (tw_wy m9 l) (5 * tw_wy m9 l) [.ref t, .int (nI (5 - m9)), .int (nI l)] h (tw_qq (fun r h1 => tw_gw h h1 ∧ ∀ q, r = some q → h q = none ∧ ∃ F, h1 q = some (.inl (d.2 0, 5, .inl F)) ∧ ∀ j, 0 ≤ F j ∧ F j ≤ f j) tw_nx)) (h : tw_H) (t l : Nat) (f : Nat → Int32) (ht : h t = some (.inl (d.2 0, 5, .inl f))) (hf : ∀ j, 0 ≤ f j ∧ f j ≤ 9) (hl : l ≤ 400) : tw_Ct d (mX10_best (m + 1)) (tw_wy (m + 1) l) (5 * tw_wy (m + 1) l) [.ref t, .int (nI k), .int (nI l)] h (tw_qq (fun r h1 => tw_gw h h1 ∧ ∀ q, r = some q → h q = none ∧ ∃ F, h1 q = some (.inl (d.2 0, 5, .inl F)) ∧ ∀ j, 0 ≤ F j ∧ F j ≤ f j) tw_nx) := by
  refine tw_of okX10_best_0.1.2.2.2 (Nat.le_of_ble_eq_true rfl) ?_
  show tw_W d (mX10_best (m + 1)) _ 0 [(0, .ref t), (1, .int (nI k)), (2, .int (nI l))] [] h (tw_wy (m + 1) l) (5 * tw_wy (m + 1) l)
  have hwy : tw_wy (m + 1) l = tw_sm (fun i => tw_wy m (l - i * tw_ps k)) (min 9 (l / tw_ps k) + 1) := by show tw_sm _ _ = _; rw [show 4 - m = k by omega]
  refine tw_iload_n 1 dX10_best_0 rfl rfl ?_
  refine tw_iconst (v := 5) dX10_best_1 (by decide) ?_
  refine tw_icmp_ne 17 dX10_best_2 (by decide) (fun _ => ?_) (fun c1 => absurd c1 (fun q => absurd (tw_nIj (show nI k = nI 5 from q) (by omega) (by decide)) (by omega)))
  refine tw_null dX10_best_17 ?_
  refine tw_astore_nN [(3, .null), (0, .ref t), (1, .int (nI k)), (2, .int (nI l))] dX10_best_18 rfl (Nat.le_of_ble_eq_true rfl) rfl ?_
  refine tw_aload_n 1 dX10_best_19 rfl rfl ?_
  refine tw_iload_n 2 dX10_best_20 rfl rfl ?_
  obtain ⟨v2, ev2⟩ : ∃ y : Int32, f k = y := ⟨_, rfl⟩
  refine tw_iald (v := v2) dX10_best_21 ht (vp_in_nI (by omega) (by decide)) (by rw [nI_clamp (by omega)]; exact ev2) ?_
  refine tw_iload_n 3 dX10_best_22 rfl rfl ?_
  refine tw_gets (fun _ _ z => z.2.2.2.2.1.1) rfl dX10_best_23 w_1483 ?_
  refine tw_iload_n 2 dX10_best_26 rfl rfl ?_
  refine tw_ti (v := .int (tw_pnd k)) (fun _ _ z => z.2.2.2.2.1.2) dX10_best_27 (vp_in_nI (by omega) (by decide)) (by rw [nI_clamp (by omega)]; rfl) ?_
  refine tw_idiv dX10_best_28 (tw_pndz (by omega)) ?_
  refine tw_nmi (fun v3 ev3 => ?_)
  have qd := tw_divP hl (by omega) ev3
  subst qd
  refine tw_mmin dX10_best_29 w_1485 w_290 w_93 w_291 ⟨by show 1 ≤ 1 + (m + 1); omega, by show 0 + 13 ≤ 25 + (m + 1) * 25; omega⟩ ?_
  refine tw_nmi (fun v4 ev4 => ?_)
  obtain ⟨c9, ec9, hc9, hcf⟩ := tw_minT (by rw [← ev2]; exact (hf k).1) (by rw [← ev2]; exact (hf k).2) (Nat.le_trans (Nat.div_le_self _ _) hl) ev4
  subst ec9
  rw [← ev2] at hcf
  refine tw_istore [(4, .int (nI c9)), (3, .null), (0, .ref t), (1, .int (nI k)), (2, .int (nI l))] dX10_best_32 (Nat.le_of_ble_eq_true rfl) rfl ?_
  have hcp : c9 * tw_ps k ≤ l := Nat.le_trans (Nat.mul_le_mul_right _ (show c9 ≤ l / tw_ps k by omega)) (Nat.div_mul_le_self _ _)
  have L : ∀ (n : Nat) (hk : tw_H) (o : Option Nat), n ≤ c9 + 1 → tw_gw h hk → (∀ q, o = some q → h q = none ∧ ∃ F, hk q = some (.inl (d.2 0, 5, .inl F)) ∧ ∀ j, 0 ≤ F j ∧ F j ≤ f j) → tw_W d (mX10_best (m + 1)) (tw_qq (fun r h1 => tw_gw h h1 ∧ ∀ q, r = some q → h q = none ∧ ∃ F, h1 q = some (.inl (d.2 0, 5, .inl F)) ∧ ∀ j, 0 ≤ F j ∧ F j ≤ f j) tw_nx) 34 [(4, .int (nI n + (-1))), (3, va_rf o), (0, .ref t), (1, .int (nI k)), (2, .int (nI l))] [] hk (tw_sm (fun i => tw_wy m (l - i * tw_ps k)) n) (5 * tw_sm (fun i => tw_wy m (l - i * tw_ps k)) n) := by
    intro n
    induction n with
    | zero =>
      intro hk o hn gw1 ob0
      refine tw_iload 0 dX10_best_34 rfl ?_
      refine tw_if_lt 97 dX10_best_36 (by decide) (fun _ => ?_) (fun c5 => absurd (by decide) c5)
      cases o with
      | none =>
        refine tw_aload_nN 1 dX10_best_97 rfl rfl ?_
        exact tw_aretN dX10_best_98 rfl (Or.inr ⟨_, rfl⟩) (Or.inl ⟨none, rfl, gw1, fun q z => by cases z⟩)
      | some b =>
        obtain ⟨hb0, G, hG, hGb⟩ := ob0 b rfl
        refine tw_aload_n 1 dX10_best_97 rfl rfl ?_
        exact tw_aret dX10_best_98 rfl (Or.inr ⟨_, rfl⟩) (Or.inl ⟨some b, rfl, gw1, fun q z => by cases z; exact ⟨hb0, G, hG, hGb⟩⟩)
    | succ n9 L =>
      intro hk o hn gw1 ob0
      rw [tw_nIm1 n9]
      refine tw_iload 0 dX10_best_34 rfl ?_
      refine tw_if_lt 97 dX10_best_36 (by decide) (fun c6 => absurd c6 (nI_pos (by omega))) (fun _ => ?_)
      refine tw_aload_n 2 dX10_best_39 rfl rfl ?_
      refine tw_iload_n 3 dX10_best_40 rfl rfl ?_
      refine tw_iconst (v := 1) dX10_best_41 (by decide) ?_
      refine tw_iadd dX10_best_42 ?_
      refine tw_nmi (fun v7 ev7 => ?_)
      refine tw_iload_n 4 dX10_best_43 rfl rfl ?_
      refine tw_iload 0 dX10_best_44 rfl ?_
      refine tw_gets (fun _ _ z => z.2.2.2.2.1.1) rfl dX10_best_46 w_1483 ?_
      refine tw_iload_n 3 dX10_best_49 rfl rfl ?_
      refine tw_ti (v := .int (tw_pnd k)) (fun _ _ z => z.2.2.2.2.1.2) dX10_best_50 (vp_in_nI (by omega) (by decide)) (by rw [nI_clamp (by omega)]; rfl) ?_
      refine tw_imul dX10_best_51 ?_
      refine tw_nmi (fun v8 ev8 => ?_)
      refine tw_isub dX10_best_52 ?_
      refine tw_nmi (fun v9 ev9 => ?_)
      have hnp : n9 * tw_ps k ≤ l := Nat.le_trans (Nat.mul_le_mul_right _ (by omega)) hcp
      have qk : v7 = nI (5 - m) := by rw [ev7, nI_1, show k + 1 = 5 - m by omega]
      subst qk
      have ql := tw_subM hl (by omega) hnp ev8 ev9
      subst ql
      refine tw_bq (tw_callS (okX10_best m) dX10_best_53 w_1480 [.ref t, .int (nI (5 - m)), .int (nI (l - n9 * tw_ps k))] [] rfl rfl ⟨by show 1 + m + 1 ≤ 1 + (m + 1); omega, by show 8 + (6 + 11) + (25 + m * 25) ≤ 25 + (m + 1) * 25; omega⟩ (Nat.le_of_ble_eq_true rfl) (ih m (by omega) hk t (l - n9 * tw_ps k) f (gw1 _ _ ht) hf (by omega)) (tw_sm (fun i => tw_wy m (l - i * tw_ps k)) n9) (5 * tw_sm (fun i => tw_wy m (l - i * tw_ps k)) n9) (Nat.le_refl _) (by rw [← Nat.mul_add]; exact Nat.le_refl _)) (fun r h1 q => ?_) (fun E h1 q => q.elim)
      obtain ⟨qg, qr⟩ := q
      have gw2 := gw1.tr qg
      cases r with
      | none =>
        refine tw_astoreN [(5, .null), (4, .int (nI n9)), (3, va_rf o), (0, .ref t), (1, .int (nI k)), (2, .int (nI l))] dX10_best_56 (Nat.le_of_ble_eq_true rfl) rfl ?_
        refine tw_aloadN 0 dX10_best_58 rfl ?_
        refine tw_ifnonnullN dX10_best_60 ?_
        refine tw_goto 91 dX10_best_63 (by decide) ?_
        cases o with
        | none =>
          obtain ⟨v10, ev10⟩ : ∃ y : Int32, y = (nI n9) + (-1) := ⟨_, rfl⟩
          refine tw_iinc [(4, .int v10), (5, .null), (3, .null), (0, .ref t), (1, .int (nI k)), (2, .int (nI l))] 1 dX10_best_91 rfl (by rw [ev10]; rfl) (Nat.le_of_ble_eq_true rfl) rfl ?_
          refine tw_goto 34 dX10_best_94 (by decide) ?_
          rw [ev10]
          refine tw_lv [0, 2, 3, 4, 5] rfl ?_
          exact L h1 none (by omega) gw2 (fun q z => by cases z)
        | some b =>
          obtain ⟨hb0, G, hG, hGb⟩ := ob0 b rfl
          obtain ⟨v11, ev11⟩ : ∃ y : Int32, y = (nI n9) + (-1) := ⟨_, rfl⟩
          refine tw_iinc [(4, .int v11), (5, .null), (3, .ref b), (0, .ref t), (1, .int (nI k)), (2, .int (nI l))] 1 dX10_best_91 rfl (by rw [ev11]; rfl) (Nat.le_of_ble_eq_true rfl) rfl ?_
          refine tw_goto 34 dX10_best_94 (by decide) ?_
          rw [ev11]
          refine tw_lv [0, 2, 3, 4, 5] rfl ?_
          exact L h1 (some b) (by omega) gw2 (fun q z => by cases z; exact ⟨hb0, G, qg b _ hG, hGb⟩)
      | some q =>
        obtain ⟨hq, F, hF, hFb⟩ := qr q rfl
        refine tw_astore [(5, .ref q), (4, .int (nI n9)), (3, va_rf o), (0, .ref t), (1, .int (nI k)), (2, .int (nI l))] dX10_best_56 (Nat.le_of_ble_eq_true rfl) rfl ?_
        refine tw_aload 0 dX10_best_58 rfl ?_
        refine tw_ifnonnull 66 dX10_best_60 (by decide) ?_
        refine tw_aload 0 dX10_best_66 rfl ?_
        refine tw_iload_n 4 dX10_best_68 rfl rfl ?_
        refine tw_iload 1 dX10_best_69 rfl ?_
        refine tw_iast dX10_best_71 hF (vp_in_nI (by omega) (by decide)) ?_
        rw [nI_clamp (by omega)]
        obtain ⟨h2, eh2⟩ : ∃ z : tw_H, z = tw_up h1 q (.inl (d.2 0, 5, .inl (upd F k (nI n9)))) := ⟨_, rfl⟩
        rw [← eh2]
        have hF2 : h2 q = some (.inl (d.2 0, 5, .inl (upd F k (nI n9)))) := by rw [eh2]; exact tw_up_s
        have gw3 : tw_gw h h2 := by rw [eh2]; exact gw2.up (gw1.nn hq)
        have hFb2 := tw_upB (n := n9) hFb (show n9 ≤ c9 by omega) hcf (by omega)
        cases o with
        | none =>
          refine tw_aload_nN 2 dX10_best_72 rfl rfl ?_
          refine tw_ifnullN 88 dX10_best_73 (by decide) ?_
          refine tw_aload 0 dX10_best_88 rfl ?_
          refine tw_astore_n [(3, .ref q), (5, .ref q), (4, .int (nI n9)), (0, .ref t), (1, .int (nI k)), (2, .int (nI l))] dX10_best_90 rfl (Nat.le_of_ble_eq_true rfl) rfl ?_
          obtain ⟨v12, ev12⟩ : ∃ y : Int32, y = (nI n9) + (-1) := ⟨_, rfl⟩
          refine tw_iinc [(4, .int v12), (3, .ref q), (5, .ref q), (0, .ref t), (1, .int (nI k)), (2, .int (nI l))] 2 dX10_best_91 rfl (by rw [ev12]; rfl) (Nat.le_of_ble_eq_true rfl) rfl ?_
          refine tw_goto 34 dX10_best_94 (by decide) ?_
          rw [ev12]
          refine tw_lv [0, 1, 3, 4, 5] rfl ?_
          exact L h2 (some q) (by omega) gw3 (fun q z => by cases z; exact ⟨gw1.nn hq, _, hF2, hFb2⟩)
        | some b =>
          obtain ⟨hb0, G, hG, hGb⟩ := ob0 b rfl
          have hG2 : h2 b = some (.inl (d.2 0, 5, .inl G)) := by rw [eh2, tw_up_n (tw_neF hG hq)]; exact qg b _ hG
          refine tw_aload_n 2 dX10_best_72 rfl rfl ?_
          refine tw_ifnull dX10_best_73 ?_
          refine tw_aload 0 dX10_best_76 rfl ?_
          refine tw_bi (tw_callS okX10_all dX10_best_78 w_1486 [.ref q] [] rfl rfl ⟨by show 0 + 1 ≤ 1 + (m + 1); omega, by show 8 + (6 + 11) + 0 ≤ 25 + (m + 1) * 25; omega⟩ (Nat.le_of_ble_eq_true rfl) (c_X10_all d h2 q (upd F k (nI n9)) hF2) (tw_sm (fun i => tw_wy m (l - i * tw_ps k)) n9) (5 * tw_sm (fun i => tw_wy m (l - i * tw_ps k)) n9) (by omega) (by omega)) (fun r15 h14 q13 => ?_) (fun E h1 q => q.elim)
          rw [q13]
          refine tw_aload_n 2 dX10_best_81 rfl rfl ?_
          refine tw_bi (tw_callS okX10_all dX10_best_82 w_1486 [.ref b] [.int r15] rfl rfl ⟨by show 0 + 1 ≤ 1 + (m + 1); omega, by show 8 + (6 + 11) + 0 ≤ 25 + (m + 1) * 25; omega⟩ (Nat.le_of_ble_eq_true rfl) (c_X10_all d h2 b G hG2) (tw_sm (fun i => tw_wy m (l - i * tw_ps k)) n9) (5 * tw_sm (fun i => tw_wy m (l - i * tw_ps k)) n9) (by omega) (by omega)) (fun r18 h17 q16 => ?_) (fun E h1 q => q.elim)
          rw [q16]
          refine tw_icmp_ge 91 dX10_best_85 (by decide) (fun c19 => ?_) (fun c19 => ?_)
          · obtain ⟨v20, ev20⟩ : ∃ y : Int32, y = (nI n9) + (-1) := ⟨_, rfl⟩
            refine tw_iinc [(4, .int v20), (5, .ref q), (3, .ref b), (0, .ref t), (1, .int (nI k)), (2, .int (nI l))] 1 dX10_best_91 rfl (by rw [ev20]; rfl) (Nat.le_of_ble_eq_true rfl) rfl ?_
            refine tw_goto 34 dX10_best_94 (by decide) ?_
            rw [ev20]
            refine tw_lv [0, 2, 3, 4, 5] rfl ?_
            exact L h2 (some b) (by omega) gw3 (fun q z => by cases z; exact ⟨hb0, G, hG2, hGb⟩)
          · refine tw_aload 0 dX10_best_88 rfl ?_
            refine tw_astore_n [(3, .ref q), (5, .ref q), (4, .int (nI n9)), (0, .ref t), (1, .int (nI k)), (2, .int (nI l))] dX10_best_90 rfl (Nat.le_of_ble_eq_true rfl) rfl ?_
            obtain ⟨v21, ev21⟩ : ∃ y : Int32, y = (nI n9) + (-1) := ⟨_, rfl⟩
            refine tw_iinc [(4, .int v21), (3, .ref q), (5, .ref q), (0, .ref t), (1, .int (nI k)), (2, .int (nI l))] 2 dX10_best_91 rfl (by rw [ev21]; rfl) (Nat.le_of_ble_eq_true rfl) rfl ?_
            refine tw_goto 34 dX10_best_94 (by decide) ?_
            rw [ev21]
            refine tw_lv [0, 1, 3, 4, 5] rfl ?_
            exact L h2 (some q) (by omega) gw3 (fun q z => by cases z; exact ⟨gw1.nn hq, _, hF2, hFb2⟩)
  rw [← tw_nIm1 c9]
  refine tw_lv [0, 1, 2, 3, 4] rfl ?_
  refine tw_less (c2 := tw_sm (fun i => tw_wy m (l - i * tw_ps k)) (c9 + 1)) (n2 := 5 * tw_sm (fun i => tw_wy m (l - i * tw_ps k)) (c9 + 1)) (by rw [hwy]; exact tw_sm_le (by omega)) (Nat.mul_le_mul_left 5 (by rw [hwy]; exact tw_sm_le (by omega))) ?_
  exact L (c9 + 1) h none (Nat.le_refl _) tw_gw.rf (fun q z => by cases z)

theorem c_best (d : tw_D) : ∀ M9 m, m ≤ M9 → m ≤ 5 → ∀ (h : tw_H) (t l : Nat) (f : Nat → Int32), h t = some (.inl (d.2 0, 5, .inl f)) → (∀ j, 0 ≤ f j ∧ f j ≤ 9) → l ≤ 400 → tw_Ct d (mX10_best m) (tw_wy m l) (5 * tw_wy m l) [.ref t, .int (nI (5 - m)), .int (nI l)] h (tw_qq (fun r h1 => tw_gw h h1 ∧ ∀ q, r = some q → h q = none ∧ ∃ F, h1 q = some (.inl (d.2 0, 5, .inl F)) ∧ ∀ j, 0 ≤ F j ∧ F j ≤ f j) tw_nx) := by
  intro M9
  induction M9 with
  | zero =>
    intro m hm _ h t l f ht hf hl
    obtain rfl : m = 0 := by omega
    exact c_best0 d h t l f hf hl
  | succ M9 ih =>
    intro m hm h5 h t l f ht hf hl
    cases m with
    | zero => exact c_best0 d h t l f hf hl
    | succ m =>
      rw [show 5 - (m + 1) = 4 - m by omega]
      exact c_best1 d m (4 - m) (by omega) (fun m9 h9 => ih m9 (by omega) (by omega)) h t l f ht hf hl

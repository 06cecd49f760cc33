/-! the class's methods over the typed heap. Laid by wip/p5/mkclass.py. -/
/-! what is asked, the reference -/
theorem tw_sum_s {f : Nat → Nat} (a : Nat) : ∀ m, tw_sum f (a + m) = tw_sum f a + tw_sum (fun j => f (a + j)) m
  | 0 => rfl
  | m + 1 => by
    show tw_sum f (a + m) + f (a + m) = tw_sum f a + (tw_sum (fun j => f (a + j)) m + f (a + m))
    rw [tw_sum_s a m, Nat.add_assoc]
theorem tw_sum_m {f : Nat → Nat} {m : Nat} : ∀ n, m ≤ n → tw_sum f m ≤ tw_sum f n
  | 0, h => by rw [show m = 0 by omega]; exact Nat.le_refl _
  | n + 1, h => by
    show tw_sum f m ≤ tw_sum f n + f n
    by_cases q : m = n + 1
    · rw [q]
      exact Nat.le_refl _
    · exact Nat.le_trans (tw_sum_m n (by omega)) (Nat.le_add_right _ _)
def tw_wM (g : tw_G) (k : Nat) : Nat → Nat
  | 0 => tw_sum (fun j => tw_DN (g.1 (480 + 64 * j + 16 + k))) (g.2 3)
  | 1 => tw_sum (fun j => tw_DN (g.1 (960 + 32 * j + 8 + k))) (g.2 4)
  | w + 2 => tw_DN (g.1 (1344 + 8 * w + k))
theorem tw_AM.w0 {B : Nat} {g : tw_G} (h : tw_AM B g) {k m : Nat} (hk : k < 2) (hm : m ≤ 4) : tw_sum (fun j => tw_DN (g.1 (480 + 64 * j + 16 + k))) m ≤ B := by
  have e : tw_sum (fun j => tw_DN (g.1 (480 + 64 * j + 16 + k))) m = tw_sum (fun i => tw_am g i k) m := tw_sum_c m (fun j hj => by unfold tw_am; rw [tw_ac_v (by omega), show 496 + 64 * j + k = 480 + 64 * j + 16 + k by omega])
  have l := tw_sum_m (f := fun i => tw_am g i k) (m := m) 13 (by omega)
  have z := h.2 k hk
  omega
theorem tw_AM.w1 {B : Nat} {g : tw_G} (h : tw_AM B g) {k m : Nat} (hk : k < 2) (hm : m ≤ 6) : tw_sum (fun j => tw_DN (g.1 (960 + 32 * j + 8 + k))) m ≤ B := by
  have e : tw_sum (fun j => tw_DN (g.1 (960 + 32 * j + 8 + k))) m = tw_sum (fun j => tw_am g (4 + j) k) m := tw_sum_c m (fun j hj => by unfold tw_am; rw [tw_ac_h (by omega) (by omega), show 840 + 32 * (4 + j) + k = 960 + 32 * j + 8 + k by omega])
  have l := tw_sum_m (f := fun i => tw_am g i k) (m := 4 + m) 13 (by omega)
  have s := tw_sum_s (f := fun i => tw_am g i k) 4 m
  have z := h.2 k hk
  omega
theorem tw_AM.wle {B : Nat} {g : tw_G} (h : tw_AM B g) {k w : Nat} (hk : k < 2) (hw : w ≤ 5) (h3 : g.2 3 ≤ 4) (h4 : g.2 4 ≤ 6) : tw_wM g k w ≤ B := by
  rcases (show w = 0 ∨ w = 1 ∨ ∃ s, s < 4 ∧ w = s + 2 by rcases (show w = 0 ∨ w = 1 ∨ 2 ≤ w by omega) with z | z | z; exact Or.inl z; exact Or.inr (Or.inl z); exact Or.inr (Or.inr ⟨w - 2, by omega, by omega⟩)) with rfl | rfl | ⟨s, hs, rfl⟩
  · exact h.w0 hk h3
  · exact h.w1 hk h4
  · exact (h.s hs hk).2
set_option maxHeartbeats 4000000 in
set_option maxRecDepth 100000 in
theorem c4_X10_worldNow (d : tw_D) (g : tw_G) (τ : tw_K) (h : tw_H) (hw : tw_wt d g τ h) (x : Nat) (kx : τ x = 36) (k : Nat) (hk : k < 2) (w : Nat) (hw9 : w ≤ 5) (o : Nat) (ko : τ o = 12) (he : tw_AM 59000000 g) : tw_Ct d mX10_worldNow 3 14 [.ref x, .int (nI k), .int (nI w)] h (tw_qi (fun r h1 => tw_sp d τ h g τ h1 ∧ tw_th (h1 x) = tw_th (h x) ∧ h1 o = h o ∧ r = nI (tw_wM g k w)) tw_nx) := by
  refine tw_of (by decide +kernel) (Nat.le_of_ble_eq_true rfl) ?_
  show tw_W d mX10_worldNow _ 0 [(0, .ref x), (1, .int (nI k)), (2, .int (nI w))] [] h 3 14
  have sp0 := tw_sp.rf hw
  have th0 : tw_th (h x) = tw_th (h x) := rfl
  have oq0 : h o = h o := rfl
  have b93 := tw_b3 hw kx
  have b94 := tw_b4 hw kx
  refine tw_lconst (v := 0) dX10_worldNow_0 (by decide) ?_
  refine tw_lstore_n [(3, .long 0), (0, .ref x), (1, .int (nI k)), (2, .int (nI w))] dX10_worldNow_1 rfl (by decide) rfl ?_
  refine tw_lconst (v := 0) dX10_worldNow_2 (by decide) ?_
  refine tw_lstore [(5, .long 0), (3, .long 0), (0, .ref x), (1, .int (nI k)), (2, .int (nI w))] dX10_worldNow_3 (by decide) rfl ?_
  refine tw_aload_n 2 dX10_worldNow_5 rfl rfl ?_
  obtain ⟨e1, f2, th_3, td_4, ds_5, fr_6, ca_7, us_8, wo_9, cm_10, lc_11, lh_12, ld_13, rfl, k14, k15, k16, k17, k18, k19, k20, k21, k22, k23, k24, k25, k26, k27, k28, k29, k30, k31, k32, k33, k34, k35⟩ := sp0.1 x 36 kx (by decide)
  refine tw_get (v := .ref lc_11) rfl in_14 9 dX10_worldNow_6 w_1160 rfl (by decide) f2 rfl ?_
  obtain ⟨e36, f37, ⟨el38, rfl, k39⟩, k40⟩ := sp0.1 lc_11 24 k20 (by decide)
  refine tw_br (tw_callV (M := mX10_worldNow) (pc := 9) okJx4a65c_iterator_32c93 dX10_worldNow_9 w_1386 rfl f37 [] [] rfl rfl ⟨by decide, by decide⟩ (Nat.le_of_ble_eq_true rfl) (c_iterator d h lc_11 el38 (g.1 3) (nI (g.2 3)) f37) 2 10 (Nat.le_of_ble_eq_true rfl) (Nat.le_of_ble_eq_true rfl)) (fun it41 h42 q43 => ?_) (fun E h1 q => q.elim)
  obtain ⟨q43n, q43e⟩ := q43
  rw [q43e]
  have n44 := sp0.nn q43n
  have z45 := sp0.1.none q43n
  obtain ⟨h46, eh46⟩ : ∃ z : tw_H, z = tw_up h it41 (.inr (2, [.int 0, .int (-1), .int (g.1 3), .ref lc_11])) := ⟨_, rfl⟩
  rw [← eh46]
  have th47 : tw_th (h46 x) = tw_th (h x) := by rw [eh46, tw_up_n (tw_kF sp0.1 kx (by decide) q43n)] <;> exact th0
  have oq48 : h46 o = h o := by rw [eh46, tw_up_n (tw_kF sp0.1 ko (by decide) q43n)] <;> exact oq0
  have sp49 : tw_sp d τ h g τ h46 := by rw [eh46]; exact sp0.mk q43n
  have f50 : h46 it41 = some (.inr (2, [.int 0, .int (-1), .int (g.1 3), .ref lc_11])) := by rw [eh46]; exact tw_up_s
  refine tw_astore [(7, .ref it41), (5, .long 0), (3, .long 0), (0, .ref x), (1, .int (nI k)), (2, .int (nI w))] dX10_worldNow_12 (by decide) rfl ?_
  have L56 : ∀ (r52 j53 : Nat) (l54 : Int32) (x51 : Int64) (h57 : tw_H) (sp58 : tw_sp d τ (tw_rm h46 it41) g τ h57) (ft59 : h57 it41 = some (.inr (2, [.int (nI j53), .int l54, .int (g.1 3), .ref lc_11]))) (zt60 : τ it41 = 0) (th61 : tw_th (h57 x) = tw_th (h x)) (oq62 : h57 o = h o) (li63 : x51 = tw_L (tw_sum (fun j => tw_DN (g.1 (480 + 64 * j + 16 + k))) j53)), g.2 3 + 1 ≤ j53 + r52 → j53 ≤ g.2 3 → tw_W d mX10_worldNow (tw_qi (fun r h1 => tw_sp d τ h g τ h1 ∧ tw_th (h1 x) = tw_th (h x) ∧ h1 o = h o ∧ r = nI (tw_wM g k w)) tw_nx) 14 [(0, .ref x), (1, .int (nI k)), (2, .int (nI w)), (3, .long x51), (5, .long 0), (7, .ref it41)] [] h57 2 10 := by
    intro r52
    induction r52 with
    | zero => intro j53 l54 x51 h57 sp58 ft59 zt60 th61 oq62 li63 hk64 hk65; exact absurd hk64 (by omega)
    | succ r52 ih55 =>
      intro j53 l54 x51 h57 sp58 ft59 zt60 th61 oq62 li63 hk64 hk65
      refine tw_aload 5 dX10_worldNow_14 rfl ?_
      obtain ⟨e66, f67, ⟨el68, rfl, k69⟩, k70⟩ := sp58.1 lc_11 24 k20 (by decide)
      refine tw_bi (tw_callF (M := mX10_worldNow) (pc := 16) (n9 := 0) (ci := 2) tw_hasNext ok_itHas w_1416 w_1414 (fun s H z => z.2.2.2.2.2.2.2.2.1) (by decide +kernel) dX10_worldNow_16 w_1410 rfl ft59 [] [] rfl rfl ⟨by decide, by decide⟩ (Nat.le_of_ble_eq_true rfl) (c_hasNext d h57 it41 lc_11 el68 j53 (g.2 3) l54 (g.1 3) (g.1 3) ft59 f67 (by omega) (tw_lim24 sp58.1 k20)) 2 10 (Nat.le_of_ble_eq_true rfl) (Nat.le_of_ble_eq_true rfl)) (fun r73 h72 q71 => ?_) (fun E h1 q => q.elim)
      obtain ⟨q71e, q71q⟩ := q71
      rw [q71e]
      rcases q71q with ⟨q71r, q71j⟩ | ⟨q71r, q71j⟩
      · rw [q71r]
        refine tw_if_eq 49 dX10_worldNow_21 (by decide) (fun _ => ?_) (fun c74 => absurd (by decide) c74)
        have s09 : x51 = tw_L (tw_wM g k 0) := by rw [li63, show j53 = g.2 3 by have z := q71j; omega]; rfl
        refine tw_aload_n 0 dX10_worldNow_49 rfl rfl ?_
        obtain ⟨e75, f76, th_77, td_78, ds_79, fr_80, ca_81, us_82, wo_83, cm_84, lc_85, lh_86, ld_87, rfl, k88, k89, k90, k91, k92, k93, k94, k95, k96, k97, k98, k99, k100, k101, k102, k103, k104, k105, k106, k107, k108, k109⟩ := sp58.1 x 36 kx (by decide)
        refine tw_get (v := .ref lh_86) rfl in_14 10 dX10_worldNow_50 w_1161 rfl (by decide) f76 rfl ?_
        obtain ⟨e110, f111, ⟨el112, rfl, k113⟩, k114⟩ := sp58.1 lh_86 25 k95 (by decide)
        refine tw_br (tw_callV (M := mX10_worldNow) (pc := 53) okJx4a65c_iterator_32c93 dX10_worldNow_53 w_1386 rfl f111 [] [] rfl rfl ⟨by decide, by decide⟩ (Nat.le_of_ble_eq_true rfl) (c_iterator d h57 lh_86 el112 (g.1 4) (nI (g.2 4)) f111) 1 6 (Nat.le_of_ble_eq_true rfl) (Nat.le_of_ble_eq_true rfl)) (fun it115 h116 q117 => ?_) (fun E h1 q => q.elim)
        obtain ⟨q117n, q117e⟩ := q117
        rw [q117e]
        have n118 := sp58.nn q117n
        have z119 := sp58.1.none q117n
        have ne120 := tw_neF ft59 q117n
        obtain ⟨h121, eh121⟩ : ∃ z : tw_H, z = tw_up h57 it115 (.inr (2, [.int 0, .int (-1), .int (g.1 4), .ref lh_86])) := ⟨_, rfl⟩
        rw [← eh121]
        have th122 : tw_th (h121 x) = tw_th (h x) := by rw [eh121, tw_up_n (tw_kF sp58.1 kx (by decide) q117n)] <;> exact th61
        have oq123 : h121 o = h o := by rw [eh121, tw_up_n (tw_kF sp58.1 ko (by decide) q117n)] <;> exact oq62
        have sp124 : tw_sp d τ (tw_rm h46 it41) g τ h121 := by rw [eh121]; exact sp58.mk q117n
        have f125 : h121 it41 = some (.inr (2, [.int (nI j53), .int l54, .int (g.1 3), .ref lc_11])) := by rw [eh121, tw_up_n ne120]; exact ft59
        have f126 : h121 it115 = some (.inr (2, [.int 0, .int (-1), .int (g.1 4), .ref lh_86])) := by rw [eh121]; exact tw_up_s
        refine tw_astore [(7, .ref it115), (0, .ref x), (1, .int (nI k)), (2, .int (nI w)), (3, .long x51), (5, .long 0)] dX10_worldNow_56 (by decide) rfl ?_
        have L132 : ∀ (r128 j129 : Nat) (l130 : Int32) (x127 : Int64) (h133 : tw_H) (sp134 : tw_sp d τ (tw_rm h121 it115) g τ h133) (ft135 : h133 it115 = some (.inr (2, [.int (nI j129), .int l130, .int (g.1 4), .ref lh_86]))) (zt136 : τ it115 = 0) (th137 : tw_th (h133 x) = tw_th (h x)) (oq138 : h133 o = h o) (li139 : x127 = tw_L (tw_sum (fun j => tw_DN (g.1 (960 + 32 * j + 8 + k))) j129)), g.2 4 + 1 ≤ j129 + r128 → j129 ≤ g.2 4 → tw_W d mX10_worldNow (tw_qi (fun r h1 => tw_sp d τ h g τ h1 ∧ tw_th (h1 x) = tw_th (h x) ∧ h1 o = h o ∧ r = nI (tw_wM g k w)) tw_nx) 58 [(0, .ref x), (1, .int (nI k)), (2, .int (nI w)), (3, .long x51), (5, .long x127), (7, .ref it115)] [] h133 1 6 := by
          intro r128
          induction r128 with
          | zero => intro j129 l130 x127 h133 sp134 ft135 zt136 th137 oq138 li139 hk140 hk141; exact absurd hk140 (by omega)
          | succ r128 ih131 =>
            intro j129 l130 x127 h133 sp134 ft135 zt136 th137 oq138 li139 hk140 hk141
            have f142 := (sp134.2.2 _ _ (by unfold tw_rm; rw [if_neg ne120]; exact f125) zt60).1
            have z143 := (sp134.2.2 _ _ (by unfold tw_rm; rw [if_neg ne120]; exact f125) zt60).2
            refine tw_aload 5 dX10_worldNow_58 rfl ?_
            obtain ⟨e144, f145, ⟨el146, rfl, k147⟩, k148⟩ := sp134.1 lh_86 25 k95 (by decide)
            refine tw_bi (tw_callF (M := mX10_worldNow) (pc := 60) (n9 := 0) (ci := 2) tw_hasNext ok_itHas w_1416 w_1414 (fun s H z => z.2.2.2.2.2.2.2.2.1) (by decide +kernel) dX10_worldNow_60 w_1410 rfl ft135 [] [] rfl rfl ⟨by decide, by decide⟩ (Nat.le_of_ble_eq_true rfl) (c_hasNext d h133 it115 lh_86 el146 j129 (g.2 4) l130 (g.1 4) (g.1 4) ft135 f145 (by omega) (tw_lim25 sp134.1 k95)) 1 6 (Nat.le_of_ble_eq_true rfl) (Nat.le_of_ble_eq_true rfl)) (fun r151 h150 q149 => ?_) (fun E h1 q => q.elim)
            obtain ⟨q149e, q149q⟩ := q149
            rw [q149e]
            rcases q149q with ⟨q149r, q149j⟩ | ⟨q149r, q149j⟩
            · rw [q149r]
              refine tw_if_eq 95 dX10_worldNow_65 (by decide) (fun _ => ?_) (fun c152 => absurd (by decide) c152)
              have s19 : x127 = tw_L (tw_wM g k 1) := by rw [li139, show j129 = g.2 4 by have z := q149j; omega]; rfl
              refine tw_bipush (v := 6) dX10_worldNow_95 (by decide) ?_
              refine tw_newa (a0 := (6, .inr (.inl (fun _ => 0)))) 1 rfl dX10_worldNow_97 rfl w_1150 (fun _ => rfl) (by decide) (by decide) (by decide) 0 0 (Nat.le_of_ble_eq_true rfl) (Nat.le_of_ble_eq_true rfl) (fun q153 hq154 hA155 => ?_)
              have n156 := sp134.nn hq154
              have z157 := sp134.1.none hq154
              have ne158 := tw_neF f142 hq154
              have ne159 := tw_neF ft135 hq154
              obtain ⟨h160, eh160⟩ : ∃ z : tw_H, z = tw_up h133 q153 (.inl (d.2 1, 6, .inr (.inl (fun _ => 0)))) := ⟨_, rfl⟩
              rw [← eh160]
              have th161 : tw_th (h160 x) = tw_th (h x) := by rw [eh160, tw_up_n (tw_kF sp134.1 kx (by decide) hq154)] <;> exact th137
              have oq162 : h160 o = h o := by rw [eh160, tw_up_n (tw_kF sp134.1 ko (by decide) hq154)] <;> exact oq138
              have sp163 : tw_sp d τ (tw_rm h121 it115) g τ h160 := by rw [eh160]; exact sp134.mk hq154
              have f164 : h160 it41 = some (.inr (2, [.int (nI j53), .int l54, .int (g.1 3), .ref lc_11])) := by rw [eh160, tw_up_n ne158]; exact f142
              have f165 : h160 it115 = some (.inr (2, [.int (nI j129), .int l130, .int (g.1 4), .ref lh_86])) := by rw [eh160, tw_up_n ne159]; exact ft135
              have f166 : h160 q153 = some (.inl (d.2 1, 6, .inr (.inl (fun _ => 0)))) := by rw [eh160]; exact tw_up_s
              refine tw_dup dX10_worldNow_99 rfl ?_
              refine tw_iconst (v := 0) dX10_worldNow_100 (by decide) ?_
              refine tw_lload_n 3 dX10_worldNow_101 rfl rfl ?_
              refine tw_last dX10_worldNow_102 f166 (vp_in_nI (n := 0) (by decide) (by decide)) ?_
              obtain ⟨F167, eF167⟩ : ∃ z : Nat → Int64, z = vp_updL (fun _ => 0) (0 : Int32).toNatClampNeg x51 := ⟨_, rfl⟩
              rw [← eF167]
              obtain ⟨h168, eh168⟩ : ∃ z : tw_H, z = tw_up h160 q153 (.inl (d.2 1, 6, .inr (.inl F167))) := ⟨_, rfl⟩
              rw [← eh168]
              have th169 : tw_th (h168 x) = tw_th (h x) := by rw [eh168, tw_up_n (tw_nk kx z157 (by decide))] <;> exact th161
              have oq170 : h168 o = h o := by rw [eh168, tw_up_n (tw_nk ko z157 (by decide))] <;> exact oq162
              have sp171 : tw_sp d τ (tw_rm h121 it115) g τ h168 := by rw [eh168]; exact sp163.wl n156 z157
              have f172 : h168 it41 = some (.inr (2, [.int (nI j53), .int l54, .int (g.1 3), .ref lc_11])) := by rw [eh168, tw_up_n ne158]; exact f164
              have f173 : h168 it115 = some (.inr (2, [.int (nI j129), .int l130, .int (g.1 4), .ref lh_86])) := by rw [eh168, tw_up_n ne159]; exact f165
              have f174 : h168 q153 = some (.inl (d.2 1, 6, .inr (.inl F167))) := by rw [eh168]; exact tw_up_s
              refine tw_dup dX10_worldNow_103 rfl ?_
              refine tw_iconst (v := 1) dX10_worldNow_104 (by decide) ?_
              refine tw_lload 4 dX10_worldNow_105 rfl ?_
              refine tw_last dX10_worldNow_107 f174 (vp_in_nI (n := 1) (by decide) (by decide)) ?_
              obtain ⟨F175, eF175⟩ : ∃ z : Nat → Int64, z = vp_updL F167 (1 : Int32).toNatClampNeg x127 := ⟨_, rfl⟩
              rw [← eF175]
              obtain ⟨h176, eh176⟩ : ∃ z : tw_H, z = tw_up h168 q153 (.inl (d.2 1, 6, .inr (.inl F175))) := ⟨_, rfl⟩
              rw [← eh176]
              have th177 : tw_th (h176 x) = tw_th (h x) := by rw [eh176, tw_up_n (tw_nk kx z157 (by decide))] <;> exact th169
              have oq178 : h176 o = h o := by rw [eh176, tw_up_n (tw_nk ko z157 (by decide))] <;> exact oq170
              have sp179 : tw_sp d τ (tw_rm h121 it115) g τ h176 := by rw [eh176]; exact sp171.wl n156 z157
              have f180 : h176 it41 = some (.inr (2, [.int (nI j53), .int l54, .int (g.1 3), .ref lc_11])) := by rw [eh176, tw_up_n ne158]; exact f172
              have f181 : h176 it115 = some (.inr (2, [.int (nI j129), .int l130, .int (g.1 4), .ref lh_86])) := by rw [eh176, tw_up_n ne159]; exact f173
              have f182 : h176 q153 = some (.inl (d.2 1, 6, .inr (.inl F175))) := by rw [eh176]; exact tw_up_s
              refine tw_dup dX10_worldNow_108 rfl ?_
              refine tw_iconst (v := 2) dX10_worldNow_109 (by decide) ?_
              refine tw_aload_n 0 dX10_worldNow_110 rfl rfl ?_
              obtain ⟨e183, f184, th_185, td_186, ds_187, fr_188, ca_189, us_190, wo_191, cm_192, lc_193, lh_194, ld_195, rfl, k196, k197, k198, k199, k200, k201, k202, k203, k204, k205, k206, k207, k208, k209, k210, k211, k212, k213, k214, k215, k216, k217⟩ := sp179.1 x 36 kx (by decide)
              refine tw_get (v := .ref ca_189) rfl in_14 5 dX10_worldNow_111 w_1156 rfl (by decide) f184 rfl ?_
              refine tw_iload_n 1 dX10_worldNow_114 rfl rfl ?_
              obtain ⟨e218, f219, F220, rfl, ⟨b222, ow223, wv224⟩⟩ := sp179.1 ca_189 31 k198 (by decide)
              obtain rfl : 1344 = b222 := (ow223.b k214).symm
              have ev225 : F220 ((nI k)).toNatClampNeg = (g.1 (1344 + k)).toInt64 := by rw [nI_clamp (by omega)]; exact wv224 k (by omega)
              refine tw_lald (v := (g.1 (1344 + k)).toInt64) dX10_worldNow_115 f219 (vp_in_nI (by omega) (by decide)) ev225 ?_
              refine tw_last dX10_worldNow_116 f182 (vp_in_nI (n := 2) (by decide) (by decide)) ?_
              obtain ⟨F226, eF226⟩ : ∃ z : Nat → Int64, z = vp_updL F175 (2 : Int32).toNatClampNeg ((g.1 (1344 + k)).toInt64) := ⟨_, rfl⟩
              rw [← eF226]
              obtain ⟨h227, eh227⟩ : ∃ z : tw_H, z = tw_up h176 q153 (.inl (d.2 1, 6, .inr (.inl F226))) := ⟨_, rfl⟩
              rw [← eh227]
              have th228 : tw_th (h227 x) = tw_th (h x) := by rw [eh227, tw_up_n (tw_nk kx z157 (by decide))] <;> exact th177
              have oq229 : h227 o = h o := by rw [eh227, tw_up_n (tw_nk ko z157 (by decide))] <;> exact oq178
              have sp230 : tw_sp d τ (tw_rm h121 it115) g τ h227 := by rw [eh227]; exact sp179.wl n156 z157
              have f231 : h227 it41 = some (.inr (2, [.int (nI j53), .int l54, .int (g.1 3), .ref lc_11])) := by rw [eh227, tw_up_n ne158]; exact f180
              have f232 : h227 it115 = some (.inr (2, [.int (nI j129), .int l130, .int (g.1 4), .ref lh_86])) := by rw [eh227, tw_up_n ne159]; exact f181
              have f233 : h227 q153 = some (.inl (d.2 1, 6, .inr (.inl F226))) := by rw [eh227]; exact tw_up_s
              refine tw_dup dX10_worldNow_117 rfl ?_
              refine tw_iconst (v := 3) dX10_worldNow_118 (by decide) ?_
              refine tw_aload_n 0 dX10_worldNow_119 rfl rfl ?_
              obtain ⟨e234, f235, th_236, td_237, ds_238, fr_239, ca_240, us_241, wo_242, cm_243, lc_244, lh_245, ld_246, rfl, k247, k248, k249, k250, k251, k252, k253, k254, k255, k256, k257, k258, k259, k260, k261, k262, k263, k264, k265, k266, k267, k268⟩ := sp230.1 x 36 kx (by decide)
              refine tw_get (v := .ref us_241) rfl in_14 6 dX10_worldNow_120 w_1157 rfl (by decide) f235 rfl ?_
              refine tw_iload_n 1 dX10_worldNow_123 rfl rfl ?_
              obtain ⟨e269, f270, F271, rfl, ⟨b273, ow274, wv275⟩⟩ := sp230.1 us_241 31 k250 (by decide)
              obtain rfl : 1352 = b273 := (ow274.b k266).symm
              have ev276 : F271 ((nI k)).toNatClampNeg = (g.1 (1352 + k)).toInt64 := by rw [nI_clamp (by omega)]; exact wv275 k (by omega)
              refine tw_lald (v := (g.1 (1352 + k)).toInt64) dX10_worldNow_124 f270 (vp_in_nI (by omega) (by decide)) ev276 ?_
              refine tw_last dX10_worldNow_125 f233 (vp_in_nI (n := 3) (by decide) (by decide)) ?_
              obtain ⟨F277, eF277⟩ : ∃ z : Nat → Int64, z = vp_updL F226 (3 : Int32).toNatClampNeg ((g.1 (1352 + k)).toInt64) := ⟨_, rfl⟩
              rw [← eF277]
              obtain ⟨h278, eh278⟩ : ∃ z : tw_H, z = tw_up h227 q153 (.inl (d.2 1, 6, .inr (.inl F277))) := ⟨_, rfl⟩
              rw [← eh278]
              have th279 : tw_th (h278 x) = tw_th (h x) := by rw [eh278, tw_up_n (tw_nk kx z157 (by decide))] <;> exact th228
              have oq280 : h278 o = h o := by rw [eh278, tw_up_n (tw_nk ko z157 (by decide))] <;> exact oq229
              have sp281 : tw_sp d τ (tw_rm h121 it115) g τ h278 := by rw [eh278]; exact sp230.wl n156 z157
              have f282 : h278 it41 = some (.inr (2, [.int (nI j53), .int l54, .int (g.1 3), .ref lc_11])) := by rw [eh278, tw_up_n ne158]; exact f231
              have f283 : h278 it115 = some (.inr (2, [.int (nI j129), .int l130, .int (g.1 4), .ref lh_86])) := by rw [eh278, tw_up_n ne159]; exact f232
              have f284 : h278 q153 = some (.inl (d.2 1, 6, .inr (.inl F277))) := by rw [eh278]; exact tw_up_s
              refine tw_dup dX10_worldNow_126 rfl ?_
              refine tw_iconst (v := 4) dX10_worldNow_127 (by decide) ?_
              refine tw_aload_n 0 dX10_worldNow_128 rfl rfl ?_
              obtain ⟨e285, f286, th_287, td_288, ds_289, fr_290, ca_291, us_292, wo_293, cm_294, lc_295, lh_296, ld_297, rfl, k298, k299, k300, k301, k302, k303, k304, k305, k306, k307, k308, k309, k310, k311, k312, k313, k314, k315, k316, k317, k318, k319⟩ := sp281.1 x 36 kx (by decide)
              refine tw_get (v := .ref wo_293) rfl in_14 7 dX10_worldNow_129 w_1158 rfl (by decide) f286 rfl ?_
              refine tw_iload_n 1 dX10_worldNow_132 rfl rfl ?_
              obtain ⟨e320, f321, F322, rfl, ⟨b324, ow325, wv326⟩⟩ := sp281.1 wo_293 31 k302 (by decide)
              obtain rfl : 1360 = b324 := (ow325.b k318).symm
              have ev327 : F322 ((nI k)).toNatClampNeg = (g.1 (1360 + k)).toInt64 := by rw [nI_clamp (by omega)]; exact wv326 k (by omega)
              refine tw_lald (v := (g.1 (1360 + k)).toInt64) dX10_worldNow_133 f321 (vp_in_nI (by omega) (by decide)) ev327 ?_
              refine tw_last dX10_worldNow_134 f284 (vp_in_nI (n := 4) (by decide) (by decide)) ?_
              obtain ⟨F328, eF328⟩ : ∃ z : Nat → Int64, z = vp_updL F277 (4 : Int32).toNatClampNeg ((g.1 (1360 + k)).toInt64) := ⟨_, rfl⟩
              rw [← eF328]
              obtain ⟨h329, eh329⟩ : ∃ z : tw_H, z = tw_up h278 q153 (.inl (d.2 1, 6, .inr (.inl F328))) := ⟨_, rfl⟩
              rw [← eh329]
              have th330 : tw_th (h329 x) = tw_th (h x) := by rw [eh329, tw_up_n (tw_nk kx z157 (by decide))] <;> exact th279
              have oq331 : h329 o = h o := by rw [eh329, tw_up_n (tw_nk ko z157 (by decide))] <;> exact oq280
              have sp332 : tw_sp d τ (tw_rm h121 it115) g τ h329 := by rw [eh329]; exact sp281.wl n156 z157
              have f333 : h329 it41 = some (.inr (2, [.int (nI j53), .int l54, .int (g.1 3), .ref lc_11])) := by rw [eh329, tw_up_n ne158]; exact f282
              have f334 : h329 it115 = some (.inr (2, [.int (nI j129), .int l130, .int (g.1 4), .ref lh_86])) := by rw [eh329, tw_up_n ne159]; exact f283
              have f335 : h329 q153 = some (.inl (d.2 1, 6, .inr (.inl F328))) := by rw [eh329]; exact tw_up_s
              refine tw_dup dX10_worldNow_135 rfl ?_
              refine tw_iconst (v := 5) dX10_worldNow_136 (by decide) ?_
              refine tw_aload_n 0 dX10_worldNow_137 rfl rfl ?_
              obtain ⟨e336, f337, th_338, td_339, ds_340, fr_341, ca_342, us_343, wo_344, cm_345, lc_346, lh_347, ld_348, rfl, k349, k350, k351, k352, k353, k354, k355, k356, k357, k358, k359, k360, k361, k362, k363, k364, k365, k366, k367, k368, k369, k370⟩ := sp332.1 x 36 kx (by decide)
              refine tw_get (v := .ref cm_345) rfl in_14 8 dX10_worldNow_138 w_1159 rfl (by decide) f337 rfl ?_
              refine tw_iload_n 1 dX10_worldNow_141 rfl rfl ?_
              obtain ⟨e371, f372, F373, rfl, ⟨b375, ow376, wv377⟩⟩ := sp332.1 cm_345 31 k354 (by decide)
              obtain rfl : 1368 = b375 := (ow376.b k370).symm
              have ev378 : F373 ((nI k)).toNatClampNeg = (g.1 (1368 + k)).toInt64 := by rw [nI_clamp (by omega)]; exact wv377 k (by omega)
              refine tw_lald (v := (g.1 (1368 + k)).toInt64) dX10_worldNow_142 f372 (vp_in_nI (by omega) (by decide)) ev378 ?_
              refine tw_last dX10_worldNow_143 f335 (vp_in_nI (n := 5) (by decide) (by decide)) ?_
              obtain ⟨F379, eF379⟩ : ∃ z : Nat → Int64, z = vp_updL F328 (5 : Int32).toNatClampNeg ((g.1 (1368 + k)).toInt64) := ⟨_, rfl⟩
              rw [← eF379]
              obtain ⟨h380, eh380⟩ : ∃ z : tw_H, z = tw_up h329 q153 (.inl (d.2 1, 6, .inr (.inl F379))) := ⟨_, rfl⟩
              rw [← eh380]
              have th381 : tw_th (h380 x) = tw_th (h x) := by rw [eh380, tw_up_n (tw_nk kx z157 (by decide))] <;> exact th330
              have oq382 : h380 o = h o := by rw [eh380, tw_up_n (tw_nk ko z157 (by decide))] <;> exact oq331
              have sp383 : tw_sp d τ (tw_rm h121 it115) g τ h380 := by rw [eh380]; exact sp332.wl n156 z157
              have f384 : h380 it41 = some (.inr (2, [.int (nI j53), .int l54, .int (g.1 3), .ref lc_11])) := by rw [eh380, tw_up_n ne158]; exact f333
              have f385 : h380 it115 = some (.inr (2, [.int (nI j129), .int l130, .int (g.1 4), .ref lh_86])) := by rw [eh380, tw_up_n ne159]; exact f334
              have f386 : h380 q153 = some (.inl (d.2 1, 6, .inr (.inl F379))) := by rw [eh380]; exact tw_up_s
              refine tw_astore [(7, .ref q153), (0, .ref x), (1, .int (nI k)), (2, .int (nI w)), (3, .long x51), (5, .long x127)] dX10_worldNow_144 (by decide) rfl ?_
              refine tw_aload 0 dX10_worldNow_146 rfl ?_
              refine tw_iload_n 3 dX10_worldNow_148 rfl rfl ?_
              obtain ⟨v387, ev387⟩ : ∃ y : Int64, F379 ((nI w)).toNatClampNeg = y := ⟨_, rfl⟩
              refine tw_lald (v := v387) dX10_worldNow_149 f386 (vp_in_nI (by omega) (by decide)) ev387 ?_
              refine tw_l2i dX10_worldNow_150 ?_
              refine tw_nmi (fun v388 ev388 => ?_)
              have rv9 : v388 = nI (tw_wM g k w) := by
                rw [ev388, ← ev387, nI_clamp (by omega), eF379, eF328, eF277, eF226, eF175, eF167]
                rw [show ((0 : Int32)).toNatClampNeg = 0 by decide]
                rw [show ((1 : Int32)).toNatClampNeg = 1 by decide]
                rw [show ((2 : Int32)).toNatClampNeg = 2 by decide]
                rw [show ((3 : Int32)).toNatClampNeg = 3 by decide]
                rw [show ((4 : Int32)).toNatClampNeg = 4 by decide]
                rw [show ((5 : Int32)).toNatClampNeg = 5 by decide]
                rcases (show w = 0 ∨ w = 1 ∨ w = 2 ∨ w = 3 ∨ w = 4 ∨ w = 5 by omega) with rfl | rfl | rfl | rfl | rfl | rfl
                · exact (congrArg Int64.toInt32 s09).trans (tw_L_32 (Nat.lt_of_le_of_lt (he.wle hk (w := 0) (by decide) b93 b94) (by decide)))
                · exact (congrArg Int64.toInt32 s19).trans (tw_L_32 (Nat.lt_of_le_of_lt (he.wle hk (w := 1) (by decide) b93 b94) (by decide)))
                · exact (Int32.toInt32_toInt64 _).trans (he.s (s := 0) (k := k) (by decide) hk).1
                · exact (Int32.toInt32_toInt64 _).trans (he.s (s := 1) (k := k) (by decide) hk).1
                · exact (Int32.toInt32_toInt64 _).trans (he.s (s := 2) (k := k) (by decide) hk).1
                · exact (Int32.toInt32_toInt64 _).trans (he.s (s := 3) (k := k) (by decide) hk).1
              exact tw_iret dX10_worldNow_151 rfl (Or.inl ⟨_, rfl, (sp49.trm n44 (sp124.trm n118 sp383)), th381, oq382, rv9⟩)
            · rw [q149r]
              refine tw_if_eq 95 dX10_worldNow_65 (by decide) (fun c389 => absurd c389 (by decide)) (fun _ => ?_)
              refine tw_aload 5 dX10_worldNow_68 rfl ?_
              have k390 : τ el146 = 28 := k147.resolve_left (fun q => absurd q149j (by rw [q.2.1]; exact Nat.not_lt_zero _))
              obtain ⟨e391, f392, ⟨F393, rfl, hc394, hc395⟩, un396⟩ := sp134.1 el146 28 k390 (by decide)
              obtain ⟨y397, hy398, ky399⟩ := hc395 j129 q149j
              refine tw_br (tw_callF (M := mX10_worldNow) (pc := 70) (n9 := 0) (ci := 2) tw_next ok_itNext w_1425 w_1423 (fun s H z => z.2.2.2.2.2.2.2.2.2) (by decide +kernel) dX10_worldNow_70 w_1420 rfl ft135 [] [] rfl rfl ⟨by decide, by decide⟩ (Nat.le_of_ble_eq_true rfl) (c_next d h133 it115 lh_86 el146 j129 (g.2 4) y397 l130 (g.1 4) F393 ft135 f145 f392 q149j hc394 hy398) 1 6 (Nat.le_of_ble_eq_true rfl) (Nat.le_of_ble_eq_true rfl)) (fun r402 h401 q400 => ?_) (fun E h1 q => q.elim)
              obtain ⟨q400r, q400e⟩ := q400
              rw [q400r]
              have sp403 : tw_sp d τ (tw_rm h121 it115) g τ h401 := by rw [q400e]; exact sp134.wl tw_rm_s zt136
              have id404 : g.2 (4096 + y397) = 960 + 32 * j129 := un396.2.2 _ _ F393 rfl j129 y397 q149j hy398
              have f405 : h401 it41 = some (.inr (2, [.int (nI j53), .int l54, .int (g.1 3), .ref lc_11])) := by rw [q400e, tw_up_n ne120]; exact f142
              have th406 : tw_th (h401 x) = tw_th (h x) := by rw [q400e, tw_up_n (tw_nk kx zt136 (by decide))] <;> exact th137
              have oq407 : h401 o = h o := by rw [q400e, tw_up_n (tw_nk ko zt136 (by decide))] <;> exact oq138
              have f408 : h401 it115 = some (.inr (2, [.int (nI (j129 + 1)), .int (nI j129), .int (g.1 4), .ref lh_86])) := by rw [q400e]; exact tw_up_s
              obtain ⟨e409, f410, x_411, y_412, dy_413, p_414, rfl, k415, k416, k417, k418⟩ := sp403.1 y397 23 ky399 (by decide)
              obtain ⟨j419, ow420, fd9, fa9, ft9, lp421⟩ := k418
              obtain rfl : j129 = j419 := by have z := ow420.b id404; omega
              subst fd9 fa9 ft9
              refine tw_castS (ci := 13) rfl dX10_worldNow_75 w_1336 f410 ?_
              refine tw_astore [(8, .ref y397), (0, .ref x), (1, .int (nI k)), (2, .int (nI w)), (3, .long x51), (5, .long x127), (7, .ref it115)] dX10_worldNow_78 (by decide) rfl ?_
              refine tw_lload 5 dX10_worldNow_80 rfl ?_
              refine tw_aload 0 dX10_worldNow_82 rfl ?_
              refine tw_get (v := .ref p_414) rfl in_13 3 dX10_worldNow_84 w_1348 rfl (by decide) f410 rfl ?_
              refine tw_iload_n 2 dX10_worldNow_87 rfl rfl ?_
              obtain ⟨e422, f423, F424, rfl, ⟨b426, ow427, wv428⟩⟩ := sp403.1 p_414 31 k415 (by decide)
              obtain rfl : (960 + 32 * j129 + 8) = b426 := (ow427.b lp421).symm
              have ev429 : F424 ((nI k)).toNatClampNeg = (g.1 ((960 + 32 * j129 + 8) + k)).toInt64 := by rw [nI_clamp (by omega)]; exact wv428 k (by omega)
              refine tw_lald (v := (g.1 ((960 + 32 * j129 + 8) + k)).toInt64) dX10_worldNow_88 f423 (vp_in_nI (by omega) (by decide)) ev429 ?_
              refine tw_ladd dX10_worldNow_89 ?_
              refine tw_nml (fun v430 ev430 => ?_)
              refine tw_lstore [(5, .long v430), (8, .ref y397), (0, .ref x), (1, .int (nI k)), (2, .int (nI w)), (3, .long x51), (7, .ref it115)] dX10_worldNow_90 (by decide) rfl ?_
              refine tw_goto 58 dX10_worldNow_92 (by decide) ?_
              refine tw_lv [2, 3, 4, 5, 0, 6] rfl ?_
              exact ih131 ((j129 + 1)) (nI j129) v430 _ sp403 f408 zt136 th406 oq407 (by show v430 = tw_L (tw_sum (fun j => tw_DN (g.1 (960 + 32 * j + 8 + k))) j129 + tw_DN (g.1 (960 + 32 * j129 + 8 + k))); rw [ev430, li139, (congrArg Int32.toInt64 (he.p (j := j129) (k := k) (by omega) hk).1).trans (tw_L_i (Nat.lt_of_le_of_lt (he.p (j := j129) (k := k) (by omega) hk).2 (by decide)))]; exact tw_L_ad _ _) (by omega) (by omega)
        refine tw_lv [1, 2, 3, 4, 5, 0] rfl ?_
        exact L132 (g.2 4 + 1) 0 (-1) 0 _ (tw_sp.rm sp124.1 it115) f126 z119 th122 oq123 (rfl) (by omega) (Nat.zero_le _)
      · rw [q71r]
        refine tw_if_eq 49 dX10_worldNow_21 (by decide) (fun c431 => absurd c431 (by decide)) (fun _ => ?_)
        refine tw_aload 5 dX10_worldNow_24 rfl ?_
        have k432 : τ el68 = 27 := k69.resolve_left (fun q => absurd q71j (by rw [q.2.1]; exact Nat.not_lt_zero _))
        obtain ⟨e433, f434, ⟨F435, rfl, hc436, hc437⟩, un438⟩ := sp58.1 el68 27 k432 (by decide)
        obtain ⟨y439, hy440, ky441⟩ := hc437 j53 q71j
        refine tw_br (tw_callF (M := mX10_worldNow) (pc := 26) (n9 := 0) (ci := 2) tw_next ok_itNext w_1425 w_1423 (fun s H z => z.2.2.2.2.2.2.2.2.2) (by decide +kernel) dX10_worldNow_26 w_1420 rfl ft59 [] [] rfl rfl ⟨by decide, by decide⟩ (Nat.le_of_ble_eq_true rfl) (c_next d h57 it41 lc_11 el68 j53 (g.2 3) y439 l54 (g.1 3) F435 ft59 f67 f434 q71j hc436 hy440) 2 10 (Nat.le_of_ble_eq_true rfl) (Nat.le_of_ble_eq_true rfl)) (fun r444 h443 q442 => ?_) (fun E h1 q => q.elim)
        obtain ⟨q442r, q442e⟩ := q442
        rw [q442r]
        have sp445 : tw_sp d τ (tw_rm h46 it41) g τ h443 := by rw [q442e]; exact sp58.wl tw_rm_s zt60
        have id446 : g.2 (4096 + y439) = 480 + 64 * j53 := un438.2.2 _ _ F435 rfl j53 y439 q71j hy440
        have th447 : tw_th (h443 x) = tw_th (h x) := by rw [q442e, tw_up_n (tw_nk kx zt60 (by decide))] <;> exact th61
        have oq448 : h443 o = h o := by rw [q442e, tw_up_n (tw_nk ko zt60 (by decide))] <;> exact oq62
        have f449 : h443 it41 = some (.inr (2, [.int (nI (j53 + 1)), .int (nI j53), .int (g.1 3), .ref lc_11])) := by rw [q442e]; exact tw_up_s
        obtain ⟨e450, f451, r_452, c_453, v_454, o_455, t_456, rfl, k457, k458, k459, k460, k461, k462⟩ := sp445.1 y439 21 ky441 (by decide)
        obtain ⟨j463, ow464, fr9, fc9, q465, q466, q467⟩ := k462
        obtain rfl : j53 = j463 := by have z := ow464.b id446; omega
        subst fr9 fc9
        refine tw_castS (ci := 11) rfl dX10_worldNow_31 w_1212 f451 ?_
        refine tw_astore [(8, .ref y439), (0, .ref x), (1, .int (nI k)), (2, .int (nI w)), (3, .long x51), (5, .long 0), (7, .ref it41)] dX10_worldNow_34 (by decide) rfl ?_
        refine tw_lload_n 4 dX10_worldNow_36 rfl rfl ?_
        refine tw_aload 0 dX10_worldNow_37 rfl ?_
        refine tw_get (v := .ref v_454) rfl in_11 2 dX10_worldNow_39 w_1221 rfl (by decide) f451 rfl ?_
        refine tw_iload_n 2 dX10_worldNow_42 rfl rfl ?_
        obtain ⟨e468, f469, F470, rfl, ⟨b472, ow473, wv474⟩⟩ := sp445.1 v_454 31 k457 (by decide)
        obtain rfl : (480 + 64 * j53 + 16) = b472 := (ow473.b q467).symm
        have ev475 : F470 ((nI k)).toNatClampNeg = (g.1 ((480 + 64 * j53 + 16) + k)).toInt64 := by rw [nI_clamp (by omega)]; exact wv474 k (by omega)
        refine tw_lald (v := (g.1 ((480 + 64 * j53 + 16) + k)).toInt64) dX10_worldNow_43 f469 (vp_in_nI (by omega) (by decide)) ev475 ?_
        refine tw_ladd dX10_worldNow_44 ?_
        refine tw_nml (fun v476 ev476 => ?_)
        refine tw_lstore_n [(3, .long v476), (8, .ref y439), (0, .ref x), (1, .int (nI k)), (2, .int (nI w)), (5, .long 0), (7, .ref it41)] dX10_worldNow_45 rfl (by decide) rfl ?_
        refine tw_goto 14 dX10_worldNow_46 (by decide) ?_
        refine tw_lv [2, 3, 4, 0, 5, 6] rfl ?_
        exact ih55 ((j53 + 1)) (nI j53) v476 _ sp445 f449 zt60 th447 oq448 (by show v476 = tw_L (tw_sum (fun j => tw_DN (g.1 (480 + 64 * j + 16 + k))) j53 + tw_DN (g.1 (480 + 64 * j53 + 16 + k))); rw [ev476, li63, (congrArg Int32.toInt64 (he.v (j := j53) (k := k) (by omega) hk).1).trans (tw_L_i (Nat.lt_of_le_of_lt (he.v (j := j53) (k := k) (by omega) hk).2 (by decide)))]; exact tw_L_ad _ _) (by omega) (by omega)
  refine tw_lv [3, 4, 5, 2, 1, 0] rfl ?_
  exact L56 (g.2 3 + 1) 0 (-1) 0 _ (tw_sp.rm sp49.1 it41) f50 z45 th47 oq48 (rfl) (by omega) (Nat.zero_le _)

set_option maxHeartbeats 4000000 in
set_option maxRecDepth 100000 in
theorem c2_X10_world (d : tw_D) (g : tw_G) (τ : tw_K) (h : tw_H) (hw : tw_wt d g τ h) (x : Nat) (kx : τ x = 36) (m : Int32) (wh : Int32) (o : Nat) (ko : τ o = 12) (he : tw_AM 59000000 g) : tw_Ct d mX10_world 3 14 [.ref x, .int m, .int wh] h (tw_qi (fun r9 h1 => ∃ g1 τ1, tw_sp d τ h g1 τ1 h1 ∧ h1 o = h o ∧ ((¬ tw_RW m wh ∧ tw_th (h1 x) = 1 ∧ g1 = g) ∨ (tw_RW m wh ∧ r9 = nI (tw_wM g (tw_DN m) (tw_DN wh)) ∧ tw_th (h1 x) = 0 ∧ g1 = g))) tw_nx) := by
  refine tw_of (by decide +kernel) (Nat.le_of_ble_eq_true rfl) ?_
  show tw_W d mX10_world _ 0 [(0, .ref x), (1, .int m), (2, .int wh)] [] h 3 14
  have sp0 := tw_sp.rf hw
  have oq0 : h o = h o := rfl
  refine tw_aload_n 0 dX10_world_0 rfl rfl ?_
  refine tw_iload_n 1 dX10_world_1 rfl rfl ?_
  refine tw_bi (tw_callS (M := mX10_world) (pc := 2) okX10_isNoMetal dX10_world_2 w_1312 [.int m] [.ref x] rfl rfl ⟨by decide, by decide⟩ (Nat.le_of_ble_eq_true rfl) (c2_X10_isNoMetal d g τ h sp0.1 m) 3 14 (Nat.le_of_ble_eq_true rfl) (Nat.le_of_ble_eq_true rfl)) (fun r3 h2 q1 => ?_) (fun E h1 q => q.elim)
  obtain ⟨q1e, q1d⟩ := q1
  rw [q1e]
  rcases q1d with ⟨q1r, q1n⟩ | ⟨q1r, q1i⟩
  · rw [q1r]
    refine tw_if_ne 17 dX10_world_5 (by decide) (fun _ => ?_) (fun c4 => absurd c4 (by decide))
    refine tw_iconst (v := 1) dX10_world_17 (by decide) ?_
    refine tw_goto 22 dX10_world_18 (by decide) ?_
    refine tw_iconst (v := 1) dX10_world_22 (by decide) ?_
    obtain ⟨e8, f9, th_10, td_11, ds_12, fr_13, ca_14, us_15, wo_16, cm_17, lc_18, lh_19, ld_20, rfl, k21, k22, k23, k24, k25, k26, k27, k28, k29, k30, k31, k32, k33, k34, k35, k36, k37, k38, k39, k40, k41, k42⟩ := sp0.1 x 36 kx (by decide)
    refine tw_bi (tw_callV (M := mX10_world) (pc := 23) okX10_start dX10_world_23 w_1200 rfl f9 [.int 1, .int 1] [] rfl rfl ⟨by decide, by decide⟩ (Nat.le_of_ble_eq_true rfl) (c_X10_start d g τ h sp0.1 x kx 1 1 (by decide)) 3 14 (Nat.le_of_ble_eq_true rfl) (Nat.le_of_ble_eq_true rfl)) (fun r45 h44 q43 => ?_) (fun E h1 q => q.elim)
    obtain ⟨e46, he47, hs48, hr49, hc50⟩ := q43
    obtain ⟨rz51, tz52⟩ := hc50.2 rfl
    have th53 : tw_th (h44 x) = 1 := by rw [he47, tw_up_s]; exact tz52
    have sp54 : tw_sp d τ h g τ h44 := by rw [he47]; exact sp0.set kx (by decide) hs48
    rw [rz51]
    have oq55 : h44 o = h o := by rw [he47, tw_up_n (tw_nk ko kx (by decide))] <;> exact oq0
    refine tw_if_eq 33 dX10_world_26 (by decide) (fun c56 => absurd c56 (by decide)) (fun _ => ?_)
    refine tw_iconst (v := 0) dX10_world_29 (by decide) ?_
    refine tw_goto 39 dX10_world_30 (by decide) ?_
    exact tw_iret dX10_world_39 rfl (Or.inl ⟨_, rfl, _, _, sp54, oq55, Or.inl ⟨fun z => q1n z.1, th53, rfl⟩⟩)
  · rw [q1r]
    have rcm := q1i
    obtain ⟨k, hk, km⟩ := q1i.k
    subst km
    have cDm : tw_DN (nI k) = k := nI_clamp (by omega)
    refine tw_if_ne 17 dX10_world_5 (by decide) (fun c57 => absurd (by decide) c57) (fun _ => ?_)
    refine tw_iload_n 2 dX10_world_8 rfl rfl ?_
    refine tw_iconst (v := 0) dX10_world_9 (by decide) ?_
    refine tw_iconst (v := 5) dX10_world_10 (by decide) ?_
    refine tw_bi (tw_callS (M := mX10_world) (pc := 11) okX10_isIn dX10_world_11 w_1196 [.int wh, .int 0, .int 5] [.ref x] rfl rfl ⟨by decide, by decide⟩ (Nat.le_of_ble_eq_true rfl) (c_X10_isIn d g τ h sp0.1 wh 0 5) 3 14 (Nat.le_of_ble_eq_true rfl) (Nat.le_of_ble_eq_true rfl)) (fun r60 h59 q58 => ?_) (fun E h1 q => q.elim)
    obtain ⟨q58e, q58d⟩ := q58
    rw [q58e]
    rcases q58d with ⟨q58r, q58n⟩ | ⟨q58r, rlw⟩
    · rw [q58r]
      refine tw_if_ne 21 dX10_world_14 (by decide) (fun c61 => absurd (by decide) c61) (fun _ => ?_)
      refine tw_iconst (v := 1) dX10_world_17 (by decide) ?_
      refine tw_goto 22 dX10_world_18 (by decide) ?_
      refine tw_iconst (v := 1) dX10_world_22 (by decide) ?_
      obtain ⟨e65, f66, th_67, td_68, ds_69, fr_70, ca_71, us_72, wo_73, cm_74, lc_75, lh_76, ld_77, rfl, k78, k79, k80, k81, k82, k83, k84, k85, k86, k87, k88, k89, k90, k91, k92, k93, k94, k95, k96, k97, k98, k99⟩ := sp0.1 x 36 kx (by decide)
      refine tw_bi (tw_callV (M := mX10_world) (pc := 23) okX10_start dX10_world_23 w_1200 rfl f66 [.int 1, .int 1] [] rfl rfl ⟨by decide, by decide⟩ (Nat.le_of_ble_eq_true rfl) (c_X10_start d g τ h sp0.1 x kx 1 1 (by decide)) 3 14 (Nat.le_of_ble_eq_true rfl) (Nat.le_of_ble_eq_true rfl)) (fun r102 h101 q100 => ?_) (fun E h1 q => q.elim)
      obtain ⟨e103, he104, hs105, hr106, hc107⟩ := q100
      obtain ⟨rz108, tz109⟩ := hc107.2 rfl
      have th110 : tw_th (h101 x) = 1 := by rw [he104, tw_up_s]; exact tz109
      have sp111 : tw_sp d τ h g τ h101 := by rw [he104]; exact sp0.set kx (by decide) hs105
      rw [rz108]
      have oq112 : h101 o = h o := by rw [he104, tw_up_n (tw_nk ko kx (by decide))] <;> exact oq0
      refine tw_if_eq 33 dX10_world_26 (by decide) (fun c113 => absurd c113 (by decide)) (fun _ => ?_)
      refine tw_iconst (v := 0) dX10_world_29 (by decide) ?_
      refine tw_goto 39 dX10_world_30 (by decide) ?_
      exact tw_iret dX10_world_39 rfl (Or.inl ⟨_, rfl, _, _, sp111, oq112, Or.inl ⟨fun z => q58n z.2, th110, rfl⟩⟩)
    · rw [q58r]
      have rc9 : tw_RW (nI k) wh := ⟨rcm, rlw⟩
      obtain ⟨w9, -, hw9, ew⟩ := tw_I_rng (a := 0) (b := 5) rlw.1 rlw.2 (by decide) (by decide)
      subst ew
      have cDwh : tw_DN (nI w9) = w9 := nI_clamp (by omega)
      refine tw_if_ne 21 dX10_world_14 (by decide) (fun _ => ?_) (fun c114 => absurd c114 (by decide))
      refine tw_iconst (v := 0) dX10_world_21 (by decide) ?_
      refine tw_iconst (v := 1) dX10_world_22 (by decide) ?_
      obtain ⟨e118, f119, th_120, td_121, ds_122, fr_123, ca_124, us_125, wo_126, cm_127, lc_128, lh_129, ld_130, rfl, k131, k132, k133, k134, k135, k136, k137, k138, k139, k140, k141, k142, k143, k144, k145, k146, k147, k148, k149, k150, k151, k152⟩ := sp0.1 x 36 kx (by decide)
      refine tw_bi (tw_callV (M := mX10_world) (pc := 23) okX10_start dX10_world_23 w_1200 rfl f119 [.int 0, .int 1] [] rfl rfl ⟨by decide, by decide⟩ (Nat.le_of_ble_eq_true rfl) (c_X10_start d g τ h sp0.1 x kx 0 1 (by decide)) 3 14 (Nat.le_of_ble_eq_true rfl) (Nat.le_of_ble_eq_true rfl)) (fun r155 h154 q153 => ?_) (fun E h1 q => q.elim)
      obtain ⟨e156, he157, hs158, hr159, hc160⟩ := q153
      obtain ⟨rz161, tz162⟩ := hc160.1 rfl
      have th163 : tw_th (h154 x) = 0 := by rw [he157, tw_up_s]; exact tz162
      have sp164 : tw_sp d τ h g τ h154 := by rw [he157]; exact sp0.set kx (by decide) hs158
      rw [rz161]
      have oq165 : h154 o = h o := by rw [he157, tw_up_n (tw_nk ko kx (by decide))] <;> exact oq0
      refine tw_if_eq 33 dX10_world_26 (by decide) (fun _ => ?_) (fun c166 => absurd (by decide) c166)
      refine tw_aload_n 0 dX10_world_33 rfl rfl ?_
      refine tw_iload_n 1 dX10_world_34 rfl rfl ?_
      refine tw_iload_n 2 dX10_world_35 rfl rfl ?_
      obtain ⟨e173, f174, th_175, td_176, ds_177, fr_178, ca_179, us_180, wo_181, cm_182, lc_183, lh_184, ld_185, rfl, k186, k187, k188, k189, k190, k191, k192, k193, k194, k195, k196, k197, k198, k199, k200, k201, k202, k203, k204, k205, k206, k207⟩ := sp164.1 x 36 kx (by decide)
      refine tw_bi (tw_callV (M := mX10_world) (pc := 36) okX10_worldNow dX10_world_36 w_1537 rfl f174 [.int (nI k), .int (nI w9)] [] rfl rfl ⟨by decide, by decide⟩ (Nat.le_of_ble_eq_true rfl) (c4_X10_worldNow d g τ h154 sp164.1 x kx k hk w9 hw9 o ko he) 0 0 (Nat.le_of_ble_eq_true rfl) (Nat.le_of_ble_eq_true rfl)) (fun r172 h171 q170 => ?_) (fun E h1 q => q.elim)
      obtain ⟨q170s, q170t, q170o, q170v⟩ := q170
      have sp208 := sp164.tr q170s
      have th209 := q170t.trans th163
      have oq210 := q170o.trans oq165
      exact tw_iret dX10_world_39 rfl (Or.inl ⟨_, rfl, _, _, sp208, oq210, Or.inr ⟨rc9, (by rw [cDm, cDwh]; exact q170v), th209, rfl⟩⟩)

set_option maxHeartbeats 4000000 in
set_option maxRecDepth 100000 in
theorem c2_X10_market (d : tw_D) (g : tw_G) (τ : tw_K) (h : tw_H) (hw : tw_wt d g τ h) (x : Nat) (kx : τ x = 36) (m : Int32) (o : Nat) (ko : τ o = 12) : tw_Ct d mX10_market 0 0 [.ref x, .int m] h (tw_qi (fun r9 h1 => ∃ g1 τ1, tw_sp d τ h g1 τ1 h1 ∧ h1 o = h o ∧ ((¬ (100 ≤ m ∧ m ≤ 200) ∧ tw_th (h1 x) = 1 ∧ g1 = g) ∨ ((100 ≤ m ∧ m ≤ 200) ∧ r9 = g.1 1 ∧ tw_th (h1 x) = 0 ∧ g1 = tw_g1 g 1 m))) tw_nx) := by
  refine tw_of (by decide +kernel) (Nat.le_of_ble_eq_true rfl) ?_
  show tw_W d mX10_market _ 0 [(0, .ref x), (1, .int m)] [] h 0 0
  have sp0 := tw_sp.rf hw
  refine tw_aload_n 0 dX10_market_0 rfl rfl ?_
  refine tw_iload_n 1 dX10_market_1 rfl rfl ?_
  refine tw_bipush (v := 100) dX10_market_2 (by decide) ?_
  refine tw_sipush (v := 200) dX10_market_4 (by decide) ?_
  refine tw_bi (tw_callS (M := mX10_market) (pc := 7) okX10_isIn dX10_market_7 w_1196 [.int m, .int 100, .int 200] [.ref x] rfl rfl ⟨by decide, by decide⟩ (Nat.le_of_ble_eq_true rfl) (c_X10_isIn d g τ h sp0.1 m 100 200) 0 0 (Nat.le_of_ble_eq_true rfl) (Nat.le_of_ble_eq_true rfl)) (fun r3 h2 q1 => ?_) (fun E h1 q => q.elim)
  obtain ⟨q1e, q1d⟩ := q1
  rw [q1e]
  rcases q1d with ⟨q1r, q1n⟩ | ⟨q1r, q1a, q1b⟩
  · rw [q1r]
    refine tw_if_ne 17 dX10_market_10 (by decide) (fun c4 => absurd (by decide) c4) (fun _ => ?_)
    refine tw_iconst (v := 1) dX10_market_13 (by decide) ?_
    refine tw_goto 18 dX10_market_14 (by decide) ?_
    refine tw_iconst (v := 1) dX10_market_18 (by decide) ?_
    obtain ⟨e5, f6, th_7, td_8, ds_9, fr_10, ca_11, us_12, wo_13, cm_14, lc_15, lh_16, ld_17, rfl, k18, k19, k20, k21, k22, k23, k24, k25, k26, k27, k28, k29, k30, k31, k32, k33, k34, k35, k36, k37, k38, k39⟩ := sp0.1 x 36 kx (by decide)
    refine tw_bi (tw_callV (M := mX10_market) (pc := 19) okX10_start dX10_market_19 w_1200 rfl f6 [.int 1, .int 1] [] rfl rfl ⟨by decide, by decide⟩ (Nat.le_of_ble_eq_true rfl) (c_X10_start d g τ h sp0.1 x kx 1 1 (by decide)) 0 0 (Nat.le_of_ble_eq_true rfl) (Nat.le_of_ble_eq_true rfl)) (fun r h1 q => ?_) (fun E h1 q => q.elim)
    obtain ⟨e, he, hs, hr, h3a, h3b⟩ := q
    have sp1 : tw_sp d τ h g τ h1 := by rw [he]; exact sp0.set kx (by decide) hs
    obtain ⟨r1, t1⟩ := h3b rfl
    rw [r1]
    refine tw_if_eq 27 dX10_market_22 (by decide) (fun c40 => absurd c40 (by decide)) (fun _ => ?_)
    refine tw_iconst (v := 0) dX10_market_25 (by decide) ?_
    exact tw_iret dX10_market_26 rfl (Or.inl ⟨_, rfl, _, _, sp1, by rw [he, tw_up_n (tw_nk ko kx (by decide))], Or.inl ⟨q1n, by rw [he, tw_up_s]; exact t1, rfl⟩⟩)
  · rw [q1r]
    refine tw_if_ne 17 dX10_market_10 (by decide) (fun _ => ?_) (fun c41 => absurd c41 (by decide))
    refine tw_iconst (v := 0) dX10_market_17 (by decide) ?_
    refine tw_iconst (v := 1) dX10_market_18 (by decide) ?_
    obtain ⟨e42, f43, th_44, td_45, ds_46, fr_47, ca_48, us_49, wo_50, cm_51, lc_52, lh_53, ld_54, rfl, k55, k56, k57, k58, k59, k60, k61, k62, k63, k64, k65, k66, k67, k68, k69, k70, k71, k72, k73, k74, k75, k76⟩ := sp0.1 x 36 kx (by decide)
    refine tw_bi (tw_callV (M := mX10_market) (pc := 19) okX10_start dX10_market_19 w_1200 rfl f43 [.int 0, .int 1] [] rfl rfl ⟨by decide, by decide⟩ (Nat.le_of_ble_eq_true rfl) (c_X10_start d g τ h sp0.1 x kx 0 1 (by decide)) 0 0 (Nat.le_of_ble_eq_true rfl) (Nat.le_of_ble_eq_true rfl)) (fun r h1 q => ?_) (fun E h1 q => q.elim)
    obtain ⟨e, he, hs, hr, h3a, h3b⟩ := q
    have sp1 : tw_sp d τ h g τ h1 := by rw [he]; exact sp0.set kx (by decide) hs
    obtain ⟨r1, t1⟩ := h3a rfl
    rw [r1]
    refine tw_if_eq 27 dX10_market_22 (by decide) (fun _ => ?_) (fun c77 => absurd (by decide) c77)
    refine tw_aload_n 0 dX10_market_27 rfl rfl ?_
    obtain ⟨e78, f79, th_80, td_81, ds_82, fr_83, ca_84, us_85, wo_86, cm_87, lc_88, lh_89, ld_90, rfl, k91, k92, k93, k94, k95, k96, k97, k98, k99, k100, k101, k102, k103, k104, k105, k106, k107, k108, k109, k110, k111, k112⟩ := sp1.1 x 36 kx (by decide)
    refine tw_get (v := .int (g.1 1)) rfl in_14 2 dX10_market_28 w_1153 rfl (by decide) f79 rfl ?_
    refine tw_istore_n [(2, .int (g.1 1)), (0, .ref x), (1, .int m)] dX10_market_31 rfl (by decide) rfl ?_
    refine tw_aload_n 1 dX10_market_32 rfl rfl ?_
    refine tw_iload_n 2 dX10_market_33 rfl rfl ?_
    have z0 : tw_th (h1 x) = 0 := by rw [he, tw_up_s]; exact t1
    rw [f79] at z0
    have q0 : th_80 = 0 := z0
    refine tw_put rfl in_14 tyX10 tyX10_ok nmX10 2 dX10_market_34 w_1153 rfl (by decide) f79 rfl rfl rfl rfl (Nat.le_of_ble_eq_true rfl) [.int th_80, .int td_81, .int m, .ref ds_82, .ref fr_83, .ref ca_84, .ref us_85, .ref wo_86, .ref cm_87, .ref lc_88, .ref lh_89, .ref ld_90] rfl ?_
    obtain ⟨h113, eh113⟩ : ∃ z : tw_H, z = tw_up h1 x (.inr (14, [.int th_80, .int td_81, .int m, .ref ds_82, .ref fr_83, .ref ca_84, .ref us_85, .ref wo_86, .ref cm_87, .ref lc_88, .ref lh_89, .ref ld_90])) := ⟨_, rfl⟩
    rw [← eh113]
    have f114 : h113 x = some (.inr (14, [.int th_80, .int td_81, .int m, .ref ds_82, .ref fr_83, .ref ca_84, .ref us_85, .ref wo_86, .ref cm_87, .ref lc_88, .ref lh_89, .ref ld_90])) := by rw [eh113]; exact tw_up_s
    have sp2 : tw_sp d τ h (tw_g1 g 1 m) τ h113 := by rw [eh113]; exact sp1.m36 kx ⟨th_80, td_81, ds_82, fr_83, ca_84, us_85, wo_86, cm_87, lc_88, lh_89, ld_90, rfl, k91, k92, k93, k94, k95, k96, k97, k98, k99, k100, k101, k102, k103, k104, k105, k106, k107, k108, k109, k110, k111, k112⟩
    refine tw_iload_n 0 dX10_market_37 rfl rfl ?_
    exact tw_iret dX10_market_38 rfl (Or.inl ⟨_, rfl, _, _, sp2, by rw [eh113, tw_up_n (tw_nk ko kx (by decide)), he, tw_up_n (tw_nk ko kx (by decide))], Or.inr ⟨⟨q1a, q1b⟩, rfl, by rw [f114]; exact q0, rfl⟩⟩)

def tw_hM (g : tw_G) (a : Nat) : Nat → Int32
  | 0 => g.1 (960 + 32 * a + 1)
  | 1 => g.1 (960 + 32 * a + 2)
  | 2 => g.1 (960 + 32 * a + 0)
  | 3 => g.1 (960 + 32 * a + 8 + 0)
  | 4 => g.1 (960 + 32 * a + 8 + 1)
  | 5 => tw_wo (g.1 (960 + 32 * a + 8 + 0)) (g.1 (960 + 32 * a + 8 + 1)) (g.1 1)
  | 6 => tw_isum (fun j => if g.1 (1232 + 8 * j + 2) = 0 ∧ g.1 (1232 + 8 * j + 3) = nI a then 1 else 0) (g.2 5)
  | _ + 7 => tw_isum (fun j => if g.1 (1232 + 8 * j + 2) = 0 ∧ g.1 (1232 + 8 * j + 4) = nI a then 1 else 0) (g.2 5)
def tw_dM (g : tw_G) (a : Nat) : Nat → Int32
  | 0 => g.1 (1232 + 8 * a + 3)
  | 1 => g.1 (1232 + 8 * a + 4)
  | 2 => g.1 (1232 + 8 * a + 0)
  | 3 => g.1 (1232 + 8 * a + 1)
  | 4 => if g.1 (1232 + 8 * a + 2) = 0 then nI (tw_md g a) else 0
  | 5 => if g.1 (1232 + 8 * a + 2) = 0 then 0 else 1
  | _ + 6 => if g.1 (1232 + 8 * a + 2) = 0 ∧ g.1 (960 + 32 * tw_eF g a + 1) ≠ -1 then tw_ck (tw_ms g a 0) (tw_md g a) (tw_DN (g.1 1)) else -1
def tw_oM (g : tw_G) (a : Nat) : Nat → Int32
  | 0 => g.1 (480 + 64 * a)
  | 1 => g.1 (480 + 64 * a + 1)
  | 2 => g.1 (480 + 64 * a + 16 + 0)
  | 3 => g.1 (480 + 64 * a + 16 + 1)
  | 4 => tw_oS (g.1 (480 + 64 * a + 8 + 0)) (g.1 (480 + 64 * a + 8 + 1))
  | 5 => tw_isum (fun j => if g.1 (960 + 32 * j + 1) = nI a then 1 else 0) (g.2 4)
  | 6 => tw_wo (g.1 (480 + 64 * a + 16 + 0)) (g.1 (480 + 64 * a + 16 + 1)) (g.1 1)
  | 7 => tw_pn (fun k => g.1 (480 + 64 * a + 24 + k))
  | _ + 8 => tw_isum (fun j => if g.1 (480 + 64 * j) = g.1 (480 + 64 * a) then 1 else 0) (g.2 3)
def tw_SQ (g : tw_G) : Prop := (∀ k, k < 2 → nI (tw_wM g k 0) + nI (tw_wM g k 1) + nI (tw_wM g k 2) + nI (tw_wM g k 3) + nI (tw_wM g k 4) = nI (tw_wM g k 5)) ∧ (∀ j, j < g.2 4 → g.1 (960 + 32 * j + 1) = -1 → nI (g.2 22) < g.1 (960 + 32 * j + 0)) ∧ (∀ j, j < g.2 3 → ∀ k, k < 5 → 0 ≤ g.1 (480 + 64 * j + 24 + k)) ∧ ∀ a b, a < 4 → b < 4 → g.1 (416 + 8 * a + b) = g.1 (416 + 8 * b + a) ∧ g.1 (448 + 8 * a + b) = g.1 (448 + 8 * b + a)
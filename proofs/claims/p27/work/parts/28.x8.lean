/-! the class's methods over the typed heap. Laid by wip/p5/mkclass.py. -/
/-! what is asked, the reference -/
theorem tw_sum_s {f : Nat → Nat} (a : Nat) : ∀ m, tw_sum f (a + m) = tw_sum f a + tw_sum (fun j => f (a + j)) m
  | 0 => rfl
  | m + 1 => by
    show tw_sum f (a + m) + f (a + m) = tw_sum f a + (tw_sum (fun j => f (a + j)) m + f (a + m))
    rw [tw_sum_s a m, Nat.add_assoc]
theorem tw_sum_m {f : Nat → Nat} {m : Nat} : ∀ n, m ≤ n → tw_sum f m ≤ tw_sum f n
  | 0, h => by rw [show m = 0 by omega]; exact Nat.le_refl _
  | n + 1, h => by
    show tw_sum f m ≤ tw_sum f n + f n
    by_cases q : m = n + 1
    · rw [q]
      exact Nat.le_refl _
    · exact Nat.le_trans (tw_sum_m n (by omega)) (Nat.le_add_right _ _)
def tw_wM (g : tw_G) (k : Nat) : Nat → Nat
  | 0 => tw_sum (fun j => tw_DN (g.1 (480 + 64 * j + 16 + k))) (g.2 3)
  | 1 => tw_sum (fun j => tw_DN (g.1 (960 + 32 * j + 8 + k))) (g.2 4)
  | w + 2 => tw_DN (g.1 (1344 + 8 * w + k))
theorem tw_AM.w0 {B : Nat} {g : tw_G} (h : tw_AM B g) {k m : Nat} (hk : k < 2) (hm : m ≤ 4) : tw_sum (fun j => tw_DN (g.1 (480 + 64 * j + 16 + k))) m ≤ B := by
  have e : tw_sum (fun j => tw_DN (g.1 (480 + 64 * j + 16 + k))) m = tw_sum (fun i => tw_am g i k) m := tw_sum_c m (fun j hj => by unfold tw_am; rw [tw_ac_v (by omega), show 496 + 64 * j + k = 480 + 64 * j + 16 + k by omega])
  have l := tw_sum_m (f := fun i => tw_am g i k) (m := m) 13 (by omega)
  have z := h.2 k hk
  omega
theorem tw_AM.w1 {B : Nat} {g : tw_G} (h : tw_AM B g) {k m : Nat} (hk : k < 2) (hm : m ≤ 6) : tw_sum (fun j => tw_DN (g.1 (960 + 32 * j + 8 + k))) m ≤ B := by
  have e : tw_sum (fun j => tw_DN (g.1 (960 + 32 * j + 8 + k))) m = tw_sum (fun j => tw_am g (4 + j) k) m := tw_sum_c m (fun j hj => by unfold tw_am; rw [tw_ac_h (by omega) (by omega), show 840 + 32 * (4 + j) + k = 960 + 32 * j + 8 + k by omega])
  have l := tw_sum_m (f := fun i => tw_am g i k) (m := 4 + m) 13 (by omega)
  have s := tw_sum_s (f := fun i => tw_am g i k) 4 m
  have z := h.2 k hk
  omega
theorem tw_AM.wle {B : Nat} {g : tw_G} (h : tw_AM B g) {k w : Nat} (hk : k < 2) (hw : w ≤ 5) (h3 : g.2 3 ≤ 4) (h4 : g.2 4 ≤ 6) : tw_wM g k w ≤ B := by
  rcases (show w = 0 ∨ w = 1 ∨ ∃ s, s < 4 ∧ w = s + 2 by rcases (show w = 0 ∨ w = 1 ∨ 2 ≤ w by omega) with z | z | z; exact Or.inl z; exact Or.inr (Or.inl z); exact Or.inr (Or.inr ⟨w - 2, by omega, by omega⟩)) with rfl | rfl | ⟨s, hs, rfl⟩
  · exact h.w0 hk h3
  · exact h.w1 hk h4
  · exact (h.s hs hk).2
set_option maxHeartbeats 4000000 in
set_option maxRecDepth 100000 in
theorem c4_X10_worldNow (d : tw_D) (g : tw_G) (τ : tw_K) (h : tw_H) (hw : tw_wt d g τ h) (x : Nat) (kx : τ x = 36) (k : Nat) (hk : k < 2) (w : Nat) (hw9 : w ≤ 5) (o : Nat) (ko : τ o = 12) (he : tw_AM 59000000 g) : tw_Ct d mX10_worldNow 3 14 [.ref x, .int (nI k), .int (nI w)] h (tw_qi (fun r h1 => tw_sp d τ h g τ h1 ∧ tw_th (h1 x) = tw_th (h x) ∧ h1 o = h o ∧ r = nI (tw_wM g k w)) tw_nx) := by
  refine tw_of (by decide +kernel) (Nat.le_of_ble_eq_true rfl) ?_
  show tw_W d mX10_worldNow _ 0 [(0, .ref x), (1, .int (nI k)), (2, .int (nI w))] [] h 3 14
  have sp0 := tw_sp.rf hw
  have th0 : tw_th (h x) = tw_th (h x) := rfl
  have oq0 : h o = h o := rfl
  have b93 := tw_b3 hw kx
  have b94 := tw_b4 hw kx
  refine tw_lconst (v := 0) dX10_worldNow_0 (by decide) ?_
  refine tw_lstore_n [(3, .long 0), (0, .ref x), (1, .int (nI k)), (2, .int (nI w))] dX10_worldNow_1 rfl (by decide) rfl ?_
  refine tw_lconst (v := 0) dX10_worldNow_2 (by decide) ?_
  refine tw_lstore [(5, .long 0), (3, .long 0), (0, .ref x), (1, .int (nI k)), (2, .int (nI w))] dX10_worldNow_3 (by decide) rfl ?_
  refine tw_aload_n 2 dX10_worldNow_5 rfl rfl ?_
  obtain ⟨e1, f2, th_3, td_4, ds_5, fr_6, ca_7, us_8, wo_9, cm_10, lc_11, lh_12, ld_13, rfl, k14, k15, k16, k17, k18, k19, k20, k21, k22, k23, k24, k25, k26, k27, k28, k29, k30, k31, k32, k33, k34, k35⟩ := sp0.1 x 36 kx (by decide)
  refine tw_get (v := .ref lc_11) rfl in_14 9 dX10_worldNow_6 w_1160 rfl (by decide) f2 rfl ?_
  obtain ⟨e36, f37, ⟨el38, rfl, k39⟩, k40⟩ := sp0.1 lc_11 24 k20 (by decide)
  refine tw_br (tw_callV (M := mX10_worldNow) (pc := 9) okJx4a65c_iterator_32c93 dX10_worldNow_9 w_1382 rfl f37 [] [] rfl rfl ⟨by decide, by decide⟩ (Nat.le_of_ble_eq_true rfl) (c_iterator d h lc_11 el38 (g.1 3) (nI (g.2 3)) f37) 2 10 (Nat.le_of_ble_eq_true rfl) (Nat.le_of_ble_eq_true rfl)) (fun it41 h42 q43 => ?_) (fun E h1 q => q.elim)
  obtain ⟨q43n, q43e⟩ := q43
  rw [q43e]
  have n44 := sp0.nn q43n
  have z45 := sp0.1.none q43n
  obtain ⟨h46, eh46⟩ : ∃ z : tw_H, z = tw_up h it41 (.inr (2, [.int 0, .int (-1), .int (g.1 3), .ref lc_11])) := ⟨_, rfl⟩
  rw [← eh46]
  have th47 : tw_th (h46 x) = tw_th (h x) := by rw [eh46, tw_up_n (tw_kF sp0.1 kx (by decide) q43n)] <;> exact th0
  have oq48 : h46 o = h o := by rw [eh46, tw_up_n (tw_kF sp0.1 ko (by decide) q43n)] <;> exact oq0
  have sp49 : tw_sp d τ h g τ h46 := by rw [eh46]; exact sp0.mk q43n
  have f50 : h46 it41 = some (.inr (2, [.int 0, .int (-1), .int (g.1 3), .ref lc_11])) := by rw [eh46]; exact tw_up_s
  refine tw_astore [(7, .ref it41), (5, .long 0), (3, .long 0), (0, .ref x), (1, .int (nI k)), (2, .int (nI w))] dX10_worldNow_12 (by decide) rfl ?_
  have L56 : ∀ (r52 j53 : Nat) (l54 : Int32) (x51 : Int64) (h57 : tw_H) (sp58 : tw_sp d τ (tw_rm h46 it41) g τ h57) (ft59 : h57 it41 = some (.inr (2, [.int (nI j53), .int l54, .int (g.1 3), .ref lc_11]))) (zt60 : τ it41 = 0) (th61 : tw_th (h57 x) = tw_th (h x)) (oq62 : h57 o = h o) (li63 : x51 = tw_L (tw_sum (fun j => tw_DN (g.1 (480 + 64 * j + 16 + k))) j53)), g.2 3 + 1 ≤ j53 + r52 → j53 ≤ g.2 3 → tw_W d mX10_worldNow (tw_qi (fun r h1 => tw_sp d τ h g τ h1 ∧ tw_th (h1 x) = tw_th (h x) ∧ h1 o = h o ∧ r = nI (tw_wM g k w)) tw_nx) 14 [(0, .ref x), (1, .int (nI k)), (2, .int (nI w)), (3, .long x51), (5, .long 0), (7, .ref it41)] [] h57 2 10 := by
    intro r52
    induction r52 with
    | zero => intro j53 l54 x51 h57 sp58 ft59 zt60 th61 oq62 li63 hk64 hk65; exact absurd hk64 (by omega)
    | succ r52 ih55 =>
      intro j53 l54 x51 h57 sp58 ft59 zt60 th61 oq62 li63 hk64 hk65
      refine tw_aload 5 dX10_worldNow_14 rfl ?_
      obtain ⟨e66, f67, ⟨el68, rfl, k69⟩, k70⟩ := sp58.1 lc_11 24 k20 (by decide)
      refine tw_bi (tw_callF (M := mX10_worldNow) (pc := 16) (n9 := 0) (ci := 2) tw_hasNext ok_itHas w_1412 w_1410 (fun s H z => z.2.2.2.2.2.2.2.2.1) (by decide +kernel) dX10_worldNow_16 w_1406 rfl ft59 [] [] rfl rfl ⟨by decide, by decide⟩ (Nat.le_of_ble_eq_true rfl) (c_hasNext d h57 it41 lc_11 el68 j53 (g.2 3) l54 (g.1 3) (g.1 3) ft59 f67 (by omega) (tw_lim24 sp58.1 k20)) 2 10 (Nat.le_of_ble_eq_true rfl) (Nat.le_of_ble_eq_true rfl)) (fun r73 h72 q71 => ?_) (fun E h1 q => q.elim)
      obtain ⟨q71e, q71q⟩ := q71
      rw [q71e]
      rcases q71q with ⟨q71r, q71j⟩ | ⟨q71r, q71j⟩
      · rw [q71r]
        refine tw_if_eq 49 dX10_worldNow_21 (by decide) (fun _ => ?_) (fun c74 => absurd (by decide) c74)
        have s09 : x51 = tw_L (tw_wM g k 0) := by rw [li63, show j53 = g.2 3 by have z := q71j; omega]; rfl
        refine tw_aload_n 0 dX10_worldNow_49 rfl rfl ?_
        obtain ⟨e75, f76, th_77, td_78, ds_79, fr_80, ca_81, us_82, wo_83, cm_84, lc_85, lh_86, ld_87, rfl, k88, k89, k90, k91, k92, k93, k94, k95, k96, k97, k98, k99, k100, k101, k102, k103, k104, k105, k106, k107, k108, k109⟩ := sp58.1 x 36 kx (by decide)
        refine tw_get (v := .ref lh_86) rfl in_14 10 dX10_worldNow_50 w_1161 rfl (by decide) f76 rfl ?_
        obtain ⟨e110, f111, ⟨el112, rfl, k113⟩, k114⟩ := sp58.1 lh_86 25 k95 (by decide)
        refine tw_br (tw_callV (M := mX10_worldNow) (pc := 53) okJx4a65c_iterator_32c93 dX10_worldNow_53 w_1382 rfl f111 [] [] rfl rfl ⟨by decide, by decide⟩ (Nat.le_of_ble_eq_true rfl) (c_iterator d h57 lh_86 el112 (g.1 4) (nI (g.2 4)) f111) 1 6 (Nat.le_of_ble_eq_true rfl) (Nat.le_of_ble_eq_true rfl)) (fun it115 h116 q117 => ?_) (fun E h1 q => q.elim)
        obtain ⟨q117n, q117e⟩ := q117
        rw [q117e]
        have n118 := sp58.nn q117n
        have z119 := sp58.1.none q117n
        have ne120 := tw_neF ft59 q117n
        obtain ⟨h121, eh121⟩ : ∃ z : tw_H, z = tw_up h57 it115 (.inr (2, [.int 0, .int (-1), .int (g.1 4), .ref lh_86])) := ⟨_, rfl⟩
        rw [← eh121]
        have th122 : tw_th (h121 x) = tw_th (h x) := by rw [eh121, tw_up_n (tw_kF sp58.1 kx (by decide) q117n)] <;> exact th61
        have oq123 : h121 o = h o := by rw [eh121, tw_up_n (tw_kF sp58.1 ko (by decide) q117n)] <;> exact oq62
        have sp124 : tw_sp d τ (tw_rm h46 it41) g τ h121 := by rw [eh121]; exact sp58.mk q117n
        have f125 : h121 it41 = some (.inr (2, [.int (nI j53), .int l54, .int (g.1 3), .ref lc_11])) := by rw [eh121, tw_up_n ne120]; exact ft59
        have f126 : h121 it115 = some (.inr (2, [.int 0, .int (-1), .int (g.1 4), .ref lh_86])) := by rw [eh121]; exact tw_up_s
        refine tw_astore [(7, .ref it115), (0, .ref x), (1, .int (nI k)), (2, .int (nI w)), (3, .long x51), (5, .long 0)] dX10_worldNow_56 (by decide) rfl ?_
        have L132 : ∀ (r128 j129 : Nat) (l130 : Int32) (x127 : Int64) (h133 : tw_H) (sp134 : tw_sp d τ (tw_rm h121 it115) g τ h133) (ft135 : h133 it115 = some (.inr (2, [.int (nI j129), .int l130, .int (g.1 4), .ref lh_86]))) (zt136 : τ it115 = 0) (th137 : tw_th (h133 x) = tw_th (h x)) (oq138 : h133 o = h o) (li139 : x127 = tw_L (tw_sum (fun j => tw_DN (g.1 (960 + 32 * j + 8 + k))) j129)), g.2 4 + 1 ≤ j129 + r128 → j129 ≤ g.2 4 → tw_W d mX10_worldNow (tw_qi (fun r h1 => tw_sp d τ h g τ h1 ∧ tw_th (h1 x) = tw_th (h x) ∧ h1 o = h o ∧ r = nI (tw_wM g k w)) tw_nx) 58 [(0, .ref x), (1, .int (nI k)), (2, .int (nI w)), (3, .long x51), (5, .long x127), (7, .ref it115)] [] h133 1 6 := by
          intro r128
          induction r128 with
          | zero => intro j129 l130 x127 h133 sp134 ft135 zt136 th137 oq138 li139 hk140 hk141; exact absurd hk140 (by omega)
          | succ r128 ih131 =>
            intro j129 l130 x127 h133 sp134 ft135 zt136 th137 oq138 li139 hk140 hk141
            have f142 := (sp134.2.2 _ _ (by unfold tw_rm; rw [if_neg ne120]; exact f125) zt60).1
            have z143 := (sp134.2.2 _ _ (by unfold tw_rm; rw [if_neg ne120]; exact f125) zt60).2
            refine tw_aload 5 dX10_worldNow_58 rfl ?_
            obtain ⟨e144, f145, ⟨el146, rfl, k147⟩, k148⟩ := sp134.1 lh_86 25 k95 (by decide)
            refine tw_bi (tw_callF (M := mX10_worldNow) (pc := 60) (n9 := 0) (ci := 2) tw_hasNext ok_itHas w_1412 w_1410 (fun s H z => z.2.2.2.2.2.2.2.2.1) (by decide +kernel) dX10_worldNow_60 w_1406 rfl ft135 [] [] rfl rfl ⟨by decide, by decide⟩ (Nat.le_of_ble_eq_true rfl) (c_hasNext d h133 it115 lh_86 el146 j129 (g.2 4) l130 (g.1 4) (g.1 4) ft135 f145 (by omega) (tw_lim25 sp134.1 k95)) 1 6 (Nat.le_of_ble_eq_true rfl) (Nat.le_of_ble_eq_true rfl)) (fun r151 h150 q149 => ?_) (fun E h1 q => q.elim)
            obtain ⟨q149e, q149q⟩ := q149
            rw [q149e]
            rcases q149q with ⟨q149r, q149j⟩ | ⟨q149r, q149j⟩
            · rw [q149r]
              refine tw_if_eq 95 dX10_worldNow_65 (by decide) (fun _ => ?_) (fun c152 => absurd (by decide) c152)
              have s19 : x127 = tw_L (tw_wM g k 1) := by rw [li139, show j129 = g.2 4 by have z := q149j; omega]; rfl
              refine tw_bipush (v := 6) dX10_worldNow_95 (by decide) ?_
              refine tw_newa (a0 := (6, .inr (.inl (fun _ => 0)))) 1 rfl dX10_worldNow_97 rfl w_1150 (fun _ => rfl) (by decide) (by decide) (by decide) 0 0 (Nat.le_of_ble_eq_true rfl) (Nat.le_of_ble_eq_true rfl) (fun q153 hq154 hA155 => ?_)
              have n156 := sp134.nn hq154
              have z157 := sp134.1.none hq154
              have ne158 := tw_neF f142 hq154
              have ne159 := tw_neF ft135 hq154
              obtain ⟨h160, eh160⟩ : ∃ z : tw_H, z = tw_up h133 q153 (.inl (d.2 1, 6, .inr (.inl (fun _ => 0)))) := ⟨_, rfl⟩
              rw [← eh160]
              have th161 : tw_th (h160 x) = tw_th (h x) := by rw [eh160, tw_up_n (tw_kF sp134.1 kx (by decide) hq154)] <;> exact th137
              have oq162 : h160 o = h o := by rw [eh160, tw_up_n (tw_kF sp134.1 ko (by decide) hq154)] <;> exact oq138
              have sp163 : tw_sp d τ (tw_rm h121 it115) g τ h160 := by rw [eh160]; exact sp134.mk hq154
              have f164 : h160 it41 = some (.inr (2, [.int (nI j53), .int l54, .int (g.1 3), .ref lc_11])) := by rw [eh160, tw_up_n ne158]; exact f142
              have f165 : h160 it115 = some (.inr (2, [.int (nI j129), .int l130, .int (g.1 4), .ref lh_86])) := by rw [eh160, tw_up_n ne159]; exact ft135
              have f166 : h160 q153 = some (.inl (d.2 1, 6, .inr (.inl (fun _ => 0)))) := by rw [eh160]; exact tw_up_s
              refine tw_dup dX10_worldNow_99 rfl ?_
              refine tw_iconst (v := 0) dX10_worldNow_100 (by decide) ?_
              refine tw_lload_n 3 dX10_worldNow_101 rfl rfl ?_
              refine tw_last dX10_worldNow_102 f166 (vp_in_nI (n := 0) (by decide) (by decide)) ?_
              obtain ⟨F167, eF167⟩ : ∃ z : Nat → Int64, z = vp_updL (fun _ => 0) (0 : Int32).toNatClampNeg x51 := ⟨_, rfl⟩
              rw [← eF167]
              obtain ⟨h168, eh168⟩ : ∃ z : tw_H, z = tw_up h160 q153 (.inl (d.2 1, 6, .inr (.inl F167))) := ⟨_, rfl⟩
              rw [← eh168]
              have th169 : tw_th (h168 x) = tw_th (h x) := by rw [eh168, tw_up_n (tw_nk kx z157 (by decide))] <;> exact th161
              have oq170 : h168 o = h o := by rw [eh168, tw_up_n (tw_nk ko z157 (by decide))] <;> exact oq162
              have sp171 : tw_sp d τ (tw_rm h121 it115) g τ h168 := by rw [eh168]; exact sp163.wl n156 z157
              have f172 : h168 it41 = some (.inr (2, [.int (nI j53), .int l54, .int (g.1 3), .ref lc_11])) := by rw [eh168, tw_up_n ne158]; exact f164
              have f173 : h168 it115 = some (.inr (2, [.int (nI j129), .int l130, .int (g.1 4), .ref lh_86])) := by rw [eh168, tw_up_n ne159]; exact f165
              have f174 : h168 q153 = some (.inl (d.2 1, 6, .inr (.inl F167))) := by rw [eh168]; exact tw_up_s
              refine tw_dup dX10_worldNow_103 rfl ?_
              refine tw_iconst (v := 1) dX10_worldNow_104 (by decide) ?_
              refine tw_lload 4 dX10_worldNow_105 rfl ?_
              refine tw_last dX10_worldNow_107 f174 (vp_in_nI (n := 1) (by decide) (by decide)) ?_
              obtain ⟨F175, eF175⟩ : ∃ z : Nat → Int64, z = vp_updL F167 (1 : Int32).toNatClampNeg x127 := ⟨_, rfl⟩
              rw [← eF175]
              obtain ⟨h176, eh176⟩ : ∃ z : tw_H, z = tw_up h168 q153 (.inl (d.2 1, 6, .inr (.inl F175))) := ⟨_, rfl⟩
              rw [← eh176]
              have th177 : tw_th (h176 x) = tw_th (h x) := by rw [eh176, tw_up_n (tw_nk kx z157 (by decide))] <;> exact th169
              have oq178 : h176 o = h o := by rw [eh176, tw_up_n (tw_nk ko z157 (by decide))] <;> exact oq170
              have sp179 : tw_sp d τ (tw_rm h121 it115) g τ h176 := by rw [eh176]; exact sp171.wl n156 z157
              have f180 : h176 it41 = some (.inr (2, [.int (nI j53), .int l54, .int (g.1 3), .ref lc_11])) := by rw [eh176, tw_up_n ne158]; exact f172
              have f181 : h176 it115 = some (.inr (2, [.int (nI j129), .int l130, .int (g.1 4), .ref lh_86])) := by rw [eh176, tw_up_n ne159]; exact f173
              have f182 : h176 q153 = some (.inl (d.2 1, 6, .inr (.inl F175))) := by rw [eh176]; exact tw_up_s
              refine tw_dup dX10_worldNow_108 rfl ?_
              refine tw_iconst (v := 2) dX10_worldNow_109 (by decide) ?_
              refine tw_aload_n 0 dX10_worldNow_110 rfl rfl ?_
              obtain ⟨e183, f184, th_185, td_186, ds_187, fr_188, ca_189, us_190, wo_191, cm_192, lc_193, lh_194, ld_195, rfl, k196, k197, k198, k199, k200, k201, k202, k203, k204, k205, k206, k207, k208, k209, k210, k211, k212, k213, k214, k215, k216, k217⟩ := sp179.1 x 36 kx (by decide)
              refine tw_get (v := .ref ca_189) rfl in_14 5 dX10_worldNow_111 w_1156 rfl (by decide) f184 rfl ?_
              refine tw_iload_n 1 dX10_worldNow_114 rfl rfl ?_
              obtain ⟨e218, f219, F220, rfl, ⟨b222, ow223, wv224⟩⟩ := sp179.1 ca_189 31 k198 (by decide)
              obtain rfl : 1344 = b222 := (ow223.b k214).symm
              have ev225 : F220 ((nI k)).toNatClampNeg = (g.1 (1344 + k)).toInt64 := by rw [nI_clamp (by omega)]; exact wv224 k (by omega)
              refine tw_lald (v := (g.1 (1344 + k)).toInt64) dX10_worldNow_115 f219 (vp_in_nI (by omega) (by decide)) ev225 ?_
              refine tw_last dX10_worldNow_116 f182 (vp_in_nI (n := 2) (by decide) (by decide)) ?_
              obtain ⟨F226, eF226⟩ : ∃ z : Nat → Int64, z = vp_updL F175 (2 : Int32).toNatClampNeg ((g.1 (1344 + k)).toInt64) := ⟨_, rfl⟩
              rw [← eF226]
              obtain ⟨h227, eh227⟩ : ∃ z : tw_H, z = tw_up h176 q153 (.inl (d.2 1, 6, .inr (.inl F226))) := ⟨_, rfl⟩
              rw [← eh227]
              have th228 : tw_th (h227 x) = tw_th (h x) := by rw [eh227, tw_up_n (tw_nk kx z157 (by decide))] <;> exact th177
              have oq229 : h227 o = h o := by rw [eh227, tw_up_n (tw_nk ko z157 (by decide))] <;> exact oq178
              have sp230 : tw_sp d τ (tw_rm h121 it115) g τ h227 := by rw [eh227]; exact sp179.wl n156 z157
              have f231 : h227 it41 = some (.inr (2, [.int (nI j53), .int l54, .int (g.1 3), .ref lc_11])) := by rw [eh227, tw_up_n ne158]; exact f180
              have f232 : h227 it115 = some (.inr (2, [.int (nI j129), .int l130, .int (g.1 4), .ref lh_86])) := by rw [eh227, tw_up_n ne159]; exact f181
              have f233 : h227 q153 = some (.inl (d.2 1, 6, .inr (.inl F226))) := by rw [eh227]; exact tw_up_s
              refine tw_dup dX10_worldNow_117 rfl ?_
              refine tw_iconst (v := 3) dX10_worldNow_118 (by decide) ?_
              refine tw_aload_n 0 dX10_worldNow_119 rfl rfl ?_
              obtain ⟨e234, f235, th_236, td_237, ds_238, fr_239, ca_240, us_241, wo_242, cm_243, lc_244, lh_245, ld_246, rfl, k247, k248, k249, k250, k251, k252, k253, k254, k255, k256, k257, k258, k259, k260, k261, k262, k263, k264, k265, k266, k267, k268⟩ := sp230.1 x 36 kx (by decide)
              refine tw_get (v := .ref us_241) rfl in_14 6 dX10_worldNow_120 w_1157 rfl (by decide) f235 rfl ?_
              refine tw_iload_n 1 dX10_worldNow_123 rfl rfl ?_
              obtain ⟨e269, f270, F271, rfl, ⟨b273, ow274, wv275⟩⟩ := sp230.1 us_241 31 k250 (by decide)
              obtain rfl : 1352 = b273 := (ow274.b k266).symm
              have ev276 : F271 ((nI k)).toNatClampNeg = (g.1 (1352 + k)).toInt64 := by rw [nI_clamp (by omega)]; exact wv275 k (by omega)
              refine tw_lald (v := (g.1 (1352 + k)).toInt64) dX10_worldNow_124 f270 (vp_in_nI (by omega) (by decide)) ev276 ?_
              refine tw_last dX10_worldNow_125 f233 (vp_in_nI (n := 3) (by decide) (by decide)) ?_
              obtain ⟨F277, eF277⟩ : ∃ z : Nat → Int64, z = vp_updL F226 (3 : Int32).toNatClampNeg ((g.1 (1352 + k)).toInt64) := ⟨_, rfl⟩
              rw [← eF277]
              obtain ⟨h278, eh278⟩ : ∃ z : tw_H, z = tw_up h227 q153 (.inl (d.2 1, 6, .inr (.inl F277))) := ⟨_, rfl⟩
              rw [← eh278]
              have th279 : tw_th (h278 x) = tw_th (h x) := by rw [eh278, tw_up_n (tw_nk kx z157 (by decide))] <;> exact th228
              have oq280 : h278 o = h o := by rw [eh278, tw_up_n (tw_nk ko z157 (by decide))] <;> exact oq229
              have sp281 : tw_sp d τ (tw_rm h121 it115) g τ h278 := by rw [eh278]; exact sp230.wl n156 z157
              have f282 : h278 it41 = some (.inr (2, [.int (nI j53), .int l54, .int (g.1 3), .ref lc_11])) := by rw [eh278, tw_up_n ne158]; exact f231
              have f283 : h278 it115 = some (.inr (2, [.int (nI j129), .int l130, .int (g.1 4), .ref lh_86])) := by rw [eh278, tw_up_n ne159]; exact f232
              have f284 : h278 q153 = some (.inl (d.2 1, 6, .inr (.inl F277))) := by rw [eh278]; exact tw_up_s
              refine tw_dup dX10_worldNow_126 rfl ?_
              refine tw_iconst (v := 4) dX10_worldNow_127 (by decide) ?_
              refine tw_aload_n 0 dX10_worldNow_128 rfl rfl ?_
              obtain ⟨e285, f286, th_287, td_288, ds_289, fr_290, ca_291, us_292, wo_293, cm_294, lc_295, lh_296, ld_297, rfl, k298, k299, k300, k301, k302, k303, k304, k305, k306, k307, k308, k309, k310, k311, k312, k313, k314, k315, k316, k317, k318, k319⟩ := sp281.1 x 36 kx (by decide)
              refine tw_get (v := .ref wo_293) rfl in_14 7 dX10_worldNow_129 w_1158 rfl (by decide) f286 rfl ?_
              refine tw_iload_n 1 dX10_worldNow_132 rfl rfl ?_
              obtain ⟨e320, f321, F322, rfl, ⟨b324, ow325, wv326⟩⟩ := sp281.1 wo_293 31 k302 (by decide)
              obtain rfl : 1360 = b324 := (ow325.b k318).symm
              have ev327 : F322 ((nI k)).toNatClampNeg = (g.1 (1360 + k)).toInt64 := by rw [nI_clamp (by omega)]; exact wv326 k (by omega)
              refine tw_lald (v := (g.1 (1360 + k)).toInt64) dX10_worldNow_133 f321 (vp_in_nI (by omega) (by decide)) ev327 ?_
              refine tw_last dX10_worldNow_134 f284 (vp_in_nI (n := 4) (by decide) (by decide)) ?_
              obtain ⟨F328, eF328⟩ : ∃ z : Nat → Int64, z = vp_updL F277 (4 : Int32).toNatClampNeg ((g.1 (1360 + k)).toInt64) := ⟨_, rfl⟩
              rw [← eF328]
              obtain ⟨h329, eh329⟩ : ∃ z : tw_H, z = tw_up h278 q153 (.inl (d.2 1, 6, .inr (.inl F328))) := ⟨_, rfl⟩
              rw [← eh329]
              have th330 : tw_th (h329 x) = tw_th (h x) := by rw [eh329, tw_up_n (tw_nk kx z157 (by decide))] <;> exact th279
              have oq331 : h329 o = h o := by rw [eh329, tw_up_n (tw_nk ko z157 (by decide))] <;> exact oq280
              have sp332 : tw_sp d τ (tw_rm h121 it115) g τ h329 := by rw [eh329]; exact sp281.wl n156 z157
              have f333 : h329 it41 = some (.inr (2, [.int (nI j53), .int l54, .int (g.1 3), .ref lc_11])) := by rw [eh329, tw_up_n ne158]; exact f282
              have f334 : h329 it115 = some (.inr (2, [.int (nI j129), .int l130, .int (g.1 4), .ref lh_86])) := by rw [eh329, tw_up_n ne159]; exact f283
              have f335 : h329 q153 = some (.inl (d.2 1, 6, .inr (.inl F328))) := by rw [eh329]; exact tw_up_s
              refine tw_dup dX10_worldNow_135 rfl ?_
              refine tw_iconst (v := 5) dX10_worldNow_136 (by decide) ?_
              refine tw_aload_n 0 dX10_worldNow_137 rfl rfl ?_
              obtain ⟨e336, f337, th_338, td_339, ds_340, fr_341, ca_342, us_343, wo_344, cm_345, lc_346, lh_347, ld_348, rfl, k349, k350, k351, k352, k353, k354, k355, k356, k357, k358, k359, k360, k361, k362, k363, k364, k365, k366, k367, k368, k369, k370⟩ := sp332.1 x 36 kx (by decide)
              refine tw_get (v := .ref cm_345) rfl in_14 8 dX10_worldNow_138 w_1159 rfl (by decide) f337 rfl ?_
              refine tw_iload_n 1 dX10_worldNow_141 rfl rfl ?_
              obtain ⟨e371, f372, F373, rfl, ⟨b375, ow376, wv377⟩⟩ := sp332.1 cm_345 31 k354 (by decide)
              obtain rfl : 1368 = b375 := (ow376.b k370).symm
              have ev378 : F373 ((nI k)).toNatClampNeg = (g.1 (1368 + k)).toInt64 := by rw [nI_clamp (by omega)]; exact wv377 k (by omega)
              refine tw_lald (v := (g.1 (1368 + k)).toInt64) dX10_worldNow_142 f372 (vp_in_nI (by omega) (by decide)) ev378 ?_
              refine tw_last dX10_worldNow_143 f335 (vp_in_nI (n := 5) (by decide) (by decide)) ?_
              obtain ⟨F379, eF379⟩ : ∃ z : Nat → Int64, z = vp_updL F328 (5 : Int32).toNatClampNeg ((g.1 (1368 + k)).toInt64) := ⟨_, rfl⟩
              rw [← eF379]
              obtain ⟨h380, eh380⟩ : ∃ z : tw_H, z = tw_up h329 q153 (.inl (d.2 1, 6, .inr (.inl F379))) := ⟨_, rfl⟩
              rw [← eh380]
              have th381 : tw_th (h380 x) = tw_th (h x) := by rw [eh380, tw_up_n (tw_nk kx z157 (by decide))] <;> exact th330
              have oq382 : h380 o = h o := by rw [eh380, tw_up_n (tw_nk ko z157 (by decide))] <;> exact oq331
              have sp383 : tw_sp d τ (tw_rm h121 it115) g τ h380 := by rw [eh380]; exact sp332.wl n156 z157
              have f384 : h380 it41 = some (.inr (2, [.int (nI j53), .int l54, .int (g.1 3), .ref lc_11])) := by rw [eh380, tw_up_n ne158]; exact f333
              have f385 : h380 it115 = some (.inr (2, [.int (nI j129), .int l130, .int (g.1 4), .ref lh_86])) := by rw [eh380, tw_up_n ne159]; exact f334
              have f386 : h380 q153 = some (.inl (d.2 1, 6, .inr (.inl F379))) := by rw [eh380]; exact tw_up_s
              refine tw_astore [(7, .ref q153), (0, .ref x), (1, .int (nI k)), (2, .int (nI w)), (3, .long x51), (5, .long x127)] dX10_worldNow_144 (by decide) rfl ?_
              refine tw_aload 0 dX10_worldNow_146 rfl ?_
              refine tw_iload_n 3 dX10_worldNow_148 rfl rfl ?_
              obtain ⟨v387, ev387⟩ : ∃ y : Int64, F379 ((nI w)).toNatClampNeg = y := ⟨_, rfl⟩
              refine tw_lald (v := v387) dX10_worldNow_149 f386 (vp_in_nI (by omega) (by decide)) ev387 ?_
              refine tw_l2i dX10_worldNow_150 ?_
              refine tw_nmi (fun v388 ev388 => ?_)
              have rv9 : v388 = nI (tw_wM g k w) := by
                rw [ev388, ← ev387, nI_clamp (by omega), eF379, eF328, eF277, eF226, eF175, eF167]
                rw [show ((0 : Int32)).toNatClampNeg = 0 by decide]
                rw [show ((1 : Int32)).toNatClampNeg = 1 by decide]
                rw [show ((2 : Int32)).toNatClampNeg = 2 by decide]
                rw [show ((3 : Int32)).toNatClampNeg = 3 by decide]
                rw [show ((4 : Int32)).toNatClampNeg = 4 by decide]
                rw [show ((5 : Int32)).toNatClampNeg = 5 by decide]
                rcases (show w = 0 ∨ w = 1 ∨ w = 2 ∨ w = 3 ∨ w = 4 ∨ w = 5 by omega) with rfl | rfl | rfl | rfl | rfl | rfl
                · exact (congrArg Int64.toInt32 s09).trans (tw_L_32 (Nat.lt_of_le_of_lt (he.wle hk (w := 0) (by decide) b93 b94) (by decide)))
                · exact (congrArg Int64.toInt32 s19).trans (tw_L_32 (Nat.lt_of_le_of_lt (he.wle hk (w := 1) (by decide) b93 b94) (by decide)))
                · exact (Int32.toInt32_toInt64 _).trans (he.s (s := 0) (k := k) (by decide) hk).1
                · exact (Int32.toInt32_toInt64 _).trans (he.s (s := 1) (k := k) (by decide) hk).1
                · exact (Int32.toInt32_toInt64 _).trans (he.s (s := 2) (k := k) (by decide) hk).1
                · exact (Int32.toInt32_toInt64 _).trans (he.s (s := 3) (k := k) (by decide) hk).1
              exact tw_iret dX10_worldNow_151 rfl (Or.inl ⟨_, rfl, (sp49.trm n44 (sp124.trm n118 sp383)), th381, oq382, rv9⟩)
            · rw [q149r]
              refine tw_if_eq 95 dX10_worldNow_65 (by decide) (fun c389 => absurd c389 (by decide)) (fun _ => ?_)
              refine tw_aload 5 dX10_worldNow_68 rfl ?_
              have k390 : τ el146 = 28 := k147.resolve_left (fun q => absurd q149j (by rw [q.2.1]; exact Nat.not_lt_zero _))
              obtain ⟨e391, f392, ⟨F393, rfl, hc394, hc395⟩, un396⟩ := sp134.1 el146 28 k390 (by decide)
              obtain ⟨y397, hy398, ky399⟩ := hc395 j129 q149j
              refine tw_br (tw_callF (M := mX10_worldNow) (pc := 70) (n9 := 0) (ci := 2) tw_next ok_itNext w_1421 w_1419 (fun s H z => z.2.2.2.2.2.2.2.2.2) (by decide +kernel) dX10_worldNow_70 w_1416 rfl ft135 [] [] rfl rfl ⟨by decide, by decide⟩ (Nat.le_of_ble_eq_true rfl) (c_next d h133 it115 lh_86 el146 j129 (g.2 4) y397 l130 (g.1 4) F393 ft135 f145 f392 q149j hc394 hy398) 1 6 (Nat.le_of_ble_eq_true rfl) (Nat.le_of_ble_eq_true rfl)) (fun r402 h401 q400 => ?_) (fun E h1 q => q.elim)
              obtain ⟨q400r, q400e⟩ := q400
              rw [q400r]
              have sp403 : tw_sp d τ (tw_rm h121 it115) g τ h401 := by rw [q400e]; exact sp134.wl tw_rm_s zt136
              have id404 : g.2 (4096 + y397) = 960 + 32 * j129 := un396.2.2 _ _ F393 rfl j129 y397 q149j hy398
              have f405 : h401 it41 = some (.inr (2, [.int (nI j53), .int l54, .int (g.1 3), .ref lc_11])) := by rw [q400e, tw_up_n ne120]; exact f142
              have th406 : tw_th (h401 x) = tw_th (h x) := by rw [q400e, tw_up_n (tw_nk kx zt136 (by decide))] <;> exact th137
              have oq407 : h401 o = h o := by rw [q400e, tw_up_n (tw_nk ko zt136 (by decide))] <;> exact oq138
              have f408 : h401 it115 = some (.inr (2, [.int (nI (j129 + 1)), .int (nI j129), .int (g.1 4), .ref lh_86])) := by rw [q400e]; exact tw_up_s
              obtain ⟨e409, f410, x_411, y_412, dy_413, p_414, rfl, k415, k416, k417, k418⟩ := sp403.1 y397 23 ky399 (by decide)
              obtain ⟨j419, ow420, fd9, fa9, ft9, lp421⟩ := k418
              obtain rfl : j129 = j419 := by have z := ow420.b id404; omega
              subst fd9 fa9 ft9
              refine tw_castS (ci := 13) rfl dX10_worldNow_75 w_1332 f410 ?_
              refine tw_astore [(8, .ref y397), (0, .ref x), (1, .int (nI k)), (2, .int (nI w)), (3, .long x51), (5, .long x127), (7, .ref it115)] dX10_worldNow_78 (by decide) rfl ?_
              refine tw_lload 5 dX10_worldNow_80 rfl ?_
              refine tw_aload 0 dX10_worldNow_82 rfl ?_
              refine tw_get (v := .ref p_414) rfl in_13 3 dX10_worldNow_84 w_1344 rfl (by decide) f410 rfl ?_
              refine tw_iload_n 2 dX10_worldNow_87 rfl rfl ?_
              obtain ⟨e422, f423, F424, rfl, ⟨b426, ow427, wv428⟩⟩ := sp403.1 p_414 31 k415 (by decide)
              obtain rfl : (960 + 32 * j129 + 8) = b426 := (ow427.b lp421).symm
              have ev429 : F424 ((nI k)).toNatClampNeg = (g.1 ((960 + 32 * j129 + 8) + k)).toInt64 := by rw [nI_clamp (by omega)]; exact wv428 k (by omega)
              refine tw_lald (v := (g.1 ((960 + 32 * j129 + 8) + k)).toInt64) dX10_worldNow_88 f423 (vp_in_nI (by omega) (by decide)) ev429 ?_
              refine tw_ladd dX10_worldNow_89 ?_
              refine tw_nml (fun v430 ev430 => ?_)
              refine tw_lstore [(5, .long v430), (8, .ref y397), (0, .ref x), (1, .int (nI k)), (2, .int (nI w)), (3, .long x51), (7, .ref it115)] dX10_worldNow_90 (by decide) rfl ?_
              refine tw_goto 58 dX10_worldNow_92 (by decide) ?_
              refine tw_lv [2, 3, 4, 5, 0, 6] rfl ?_
              exact ih131 ((j129 + 1)) (nI j129) v430 _ sp403 f408 zt136 th406 oq407 (by show v430 = tw_L (tw_sum (fun j => tw_DN (g.1 (960 + 32 * j + 8 + k))) j129 + tw_DN (g.1 (960 + 32 * j129 + 8 + k))); rw [ev430, li139, (congrArg Int32.toInt64 (he.p (j := j129) (k := k) (by omega) hk).1).trans (tw_L_i (Nat.lt_of_le_of_lt (he.p (j := j129) (k := k) (by omega) hk).2 (by decide)))]; exact tw_L_ad _ _) (by omega) (by omega)
        refine tw_lv [1, 2, 3, 4, 5, 0] rfl ?_
        exact L132 (g.2 4 + 1) 0 (-1) 0 _ (tw_sp.rm sp124.1 it115) f126 z119 th122 oq123 (rfl) (by omega) (Nat.zero_le _)
      · rw [q71r]
        refine tw_if_eq 49 dX10_worldNow_21 (by decide) (fun c431 => absurd c431 (by decide)) (fun _ => ?_)
        refine tw_aload 5 dX10_worldNow_24 rfl ?_
        have k432 : τ el68 = 27 := k69.resolve_left (fun q => absurd q71j (by rw [q.2.1]; exact Nat.not_lt_zero _))
        obtain ⟨e433, f434, ⟨F435, rfl, hc436, hc437⟩, un438⟩ := sp58.1 el68 27 k432 (by decide)
        obtain ⟨y439, hy440, ky441⟩ := hc437 j53 q71j
        refine tw_br (tw_callF (M := mX10_worldNow) (pc := 26) (n9 := 0) (ci := 2) tw_next ok_itNext w_1421 w_1419 (fun s H z => z.2.2.2.2.2.2.2.2.2) (by decide +kernel) dX10_worldNow_26 w_1416 rfl ft59 [] [] rfl rfl ⟨by decide, by decide⟩ (Nat.le_of_ble_eq_true rfl) (c_next d h57 it41 lc_11 el68 j53 (g.2 3) y439 l54 (g.1 3) F435 ft59 f67 f434 q71j hc436 hy440) 2 10 (Nat.le_of_ble_eq_true rfl) (Nat.le_of_ble_eq_true rfl)) (fun r444 h443 q442 => ?_) (fun E h1 q => q.elim)
        obtain ⟨q442r, q442e⟩ := q442
        rw [q442r]
        have sp445 : tw_sp d τ (tw_rm h46 it41) g τ h443 := by rw [q442e]; exact sp58.wl tw_rm_s zt60
        have id446 : g.2 (4096 + y439) = 480 + 64 * j53 := un438.2.2 _ _ F435 rfl j53 y439 q71j hy440
        have th447 : tw_th (h443 x) = tw_th (h x) := by rw [q442e, tw_up_n (tw_nk kx zt60 (by decide))] <;> exact th61
        have oq448 : h443 o = h o := by rw [q442e, tw_up_n (tw_nk ko zt60 (by decide))] <;> exact oq62
        have f449 : h443 it41 = some (.inr (2, [.int (nI (j53 + 1)), .int (nI j53), .int (g.1 3), .ref lc_11])) := by rw [q442e]; exact tw_up_s
        obtain ⟨e450, f451, r_452, c_453, v_454, o_455, t_456, rfl, k457, k458, k459, k460, k461, k462⟩ := sp445.1 y439 21 ky441 (by decide)
        obtain ⟨j463, ow464, fr9, fc9, q465, q466, q467⟩ := k462
        obtain rfl : j53 = j463 := by have z := ow464.b id446; omega
        subst fr9 fc9
        refine tw_castS (ci := 11) rfl dX10_worldNow_31 w_1208 f451 ?_
        refine tw_astore [(8, .ref y439), (0, .ref x), (1, .int (nI k)), (2, .int (nI w)), (3, .long x51), (5, .long 0), (7, .ref it41)] dX10_worldNow_34 (by decide) rfl ?_
        refine tw_lload_n 4 dX10_worldNow_36 rfl rfl ?_
        refine tw_aload 0 dX10_worldNow_37 rfl ?_
        refine tw_get (v := .ref v_454) rfl in_11 2 dX10_worldNow_39 w_1217 rfl (by decide) f451 rfl ?_
        refine tw_iload_n 2 dX10_worldNow_42 rfl rfl ?_
        obtain ⟨e468, f469, F470, rfl, ⟨b472, ow473, wv474⟩⟩ := sp445.1 v_454 31 k457 (by decide)
        obtain rfl : (480 + 64 * j53 + 16) = b472 := (ow473.b q467).symm
        have ev475 : F470 ((nI k)).toNatClampNeg = (g.1 ((480 + 64 * j53 + 16) + k)).toInt64 := by rw [nI_clamp (by omega)]; exact wv474 k (by omega)
        refine tw_lald (v := (g.1 ((480 + 64 * j53 + 16) + k)).toInt64) dX10_worldNow_43 f469 (vp_in_nI (by omega) (by decide)) ev475 ?_
        refine tw_ladd dX10_worldNow_44 ?_
        refine tw_nml (fun v476 ev476 => ?_)
        refine tw_lstore_n [(3, .long v476), (8, .ref y439), (0, .ref x), (1, .int (nI k)), (2, .int (nI w)), (5, .long 0), (7, .ref it41)] dX10_worldNow_45 rfl (by decide) rfl ?_
        refine tw_goto 14 dX10_worldNow_46 (by decide) ?_
        refine tw_lv [2, 3, 4, 0, 5, 6] rfl ?_
        exact ih55 ((j53 + 1)) (nI j53) v476 _ sp445 f449 zt60 th447 oq448 (by show v476 = tw_L (tw_sum (fun j => tw_DN (g.1 (480 + 64 * j + 16 + k))) j53 + tw_DN (g.1 (480 + 64 * j53 + 16 + k))); rw [ev476, li63, (congrArg Int32.toInt64 (he.v (j := j53) (k := k) (by omega) hk).1).trans (tw_L_i (Nat.lt_of_le_of_lt (he.v (j := j53) (k := k) (by omega) hk).2 (by decide)))]; exact tw_L_ad _ _) (by omega) (by omega)
  refine tw_lv [3, 4, 5, 2, 1, 0] rfl ?_
  exact L56 (g.2 3 + 1) 0 (-1) 0 _ (tw_sp.rm sp49.1 it41) f50 z45 th47 oq48 (rfl) (by omega) (Nat.zero_le _)

set_option maxHeartbeats 4000000 in
set_option maxRecDepth 100000 in
theorem c2_X10_market (d : tw_D) (g : tw_G) (τ : tw_K) (h : tw_H) (hw : tw_wt d g τ h) (x : Nat) (kx : τ x = 36) (m : Int32) (o : Nat) (ko : τ o = 12) : tw_Ct d mX10_market 0 0 [.ref x, .int m] h (tw_qi (fun r9 h1 => ∃ g1 τ1, tw_sp d τ h g1 τ1 h1 ∧ h1 o = h o ∧ ((¬ (100 ≤ m ∧ m ≤ 200) ∧ tw_th (h1 x) = 1 ∧ g1 = g) ∨ ((100 ≤ m ∧ m ≤ 200) ∧ r9 = g.1 1 ∧ tw_th (h1 x) = 0 ∧ g1 = tw_g1 g 1 m))) tw_nx) := by
  refine tw_of (by decide +kernel) (Nat.le_of_ble_eq_true rfl) ?_
  show tw_W d mX10_market _ 0 [(0, .ref x), (1, .int m)] [] h 0 0
  have sp0 := tw_sp.rf hw
  refine tw_aload_n 0 dX10_market_0 rfl rfl ?_
  refine tw_iload_n 1 dX10_market_1 rfl rfl ?_
  refine tw_bipush (v := 100) dX10_market_2 (by decide) ?_
  refine tw_sipush (v := 200) dX10_market_4 (by decide) ?_
  refine tw_bi (tw_callS (M := mX10_market) (pc := 7) okX10_isIn dX10_market_7 w_1192 [.int m, .int 100, .int 200] [.ref x] rfl rfl ⟨by decide, by decide⟩ (Nat.le_of_ble_eq_true rfl) (c_X10_isIn d g τ h sp0.1 m 100 200) 0 0 (Nat.le_of_ble_eq_true rfl) (Nat.le_of_ble_eq_true rfl)) (fun r3 h2 q1 => ?_) (fun E h1 q => q.elim)
  obtain ⟨q1e, q1d⟩ := q1
  rw [q1e]
  rcases q1d with ⟨q1r, q1n⟩ | ⟨q1r, q1a, q1b⟩
  · rw [q1r]
    refine tw_if_ne 17 dX10_market_10 (by decide) (fun c4 => absurd (by decide) c4) (fun _ => ?_)
    refine tw_iconst (v := 1) dX10_market_13 (by decide) ?_
    refine tw_goto 18 dX10_market_14 (by decide) ?_
    refine tw_iconst (v := 1) dX10_market_18 (by decide) ?_
    obtain ⟨e5, f6, th_7, td_8, ds_9, fr_10, ca_11, us_12, wo_13, cm_14, lc_15, lh_16, ld_17, rfl, k18, k19, k20, k21, k22, k23, k24, k25, k26, k27, k28, k29, k30, k31, k32, k33, k34, k35, k36, k37, k38, k39⟩ := sp0.1 x 36 kx (by decide)
    refine tw_bi (tw_callV (M := mX10_market) (pc := 19) okX10_start dX10_market_19 w_1196 rfl f6 [.int 1, .int 1] [] rfl rfl ⟨by decide, by decide⟩ (Nat.le_of_ble_eq_true rfl) (c_X10_start d g τ h sp0.1 x kx 1 1 (by decide)) 0 0 (Nat.le_of_ble_eq_true rfl) (Nat.le_of_ble_eq_true rfl)) (fun r h1 q => ?_) (fun E h1 q => q.elim)
    obtain ⟨e, he, hs, hr, h3a, h3b⟩ := q
    have sp1 : tw_sp d τ h g τ h1 := by rw [he]; exact sp0.set kx (by decide) hs
    obtain ⟨r1, t1⟩ := h3b rfl
    rw [r1]
    refine tw_if_eq 27 dX10_market_22 (by decide) (fun c40 => absurd c40 (by decide)) (fun _ => ?_)
    refine tw_iconst (v := 0) dX10_market_25 (by decide) ?_
    exact tw_iret dX10_market_26 rfl (Or.inl ⟨_, rfl, _, _, sp1, by rw [he, tw_up_n (tw_nk ko kx (by decide))], Or.inl ⟨q1n, by rw [he, tw_up_s]; exact t1, rfl⟩⟩)
  · rw [q1r]
    refine tw_if_ne 17 dX10_market_10 (by decide) (fun _ => ?_) (fun c41 => absurd c41 (by decide))
    refine tw_iconst (v := 0) dX10_market_17 (by decide) ?_
    refine tw_iconst (v := 1) dX10_market_18 (by decide) ?_
    obtain ⟨e42, f43, th_44, td_45, ds_46, fr_47, ca_48, us_49, wo_50, cm_51, lc_52, lh_53, ld_54, rfl, k55, k56, k57, k58, k59, k60, k61, k62, k63, k64, k65, k66, k67, k68, k69, k70, k71, k72, k73, k74, k75, k76⟩ := sp0.1 x 36 kx (by decide)
    refine tw_bi (tw_callV (M := mX10_market) (pc := 19) okX10_start dX10_market_19 w_1196 rfl f43 [.int 0, .int 1] [] rfl rfl ⟨by decide, by decide⟩ (Nat.le_of_ble_eq_true rfl) (c_X10_start d g τ h sp0.1 x kx 0 1 (by decide)) 0 0 (Nat.le_of_ble_eq_true rfl) (Nat.le_of_ble_eq_true rfl)) (fun r h1 q => ?_) (fun E h1 q => q.elim)
    obtain ⟨e, he, hs, hr, h3a, h3b⟩ := q
    have sp1 : tw_sp d τ h g τ h1 := by rw [he]; exact sp0.set kx (by decide) hs
    obtain ⟨r1, t1⟩ := h3a rfl
    rw [r1]
    refine tw_if_eq 27 dX10_market_22 (by decide) (fun _ => ?_) (fun c77 => absurd (by decide) c77)
    refine tw_aload_n 0 dX10_market_27 rfl rfl ?_
    obtain ⟨e78, f79, th_80, td_81, ds_82, fr_83, ca_84, us_85, wo_86, cm_87, lc_88, lh_89, ld_90, rfl, k91, k92, k93, k94, k95, k96, k97, k98, k99, k100, k101, k102, k103, k104, k105, k106, k107, k108, k109, k110, k111, k112⟩ := sp1.1 x 36 kx (by decide)
    refine tw_get (v := .int (g.1 1)) rfl in_14 2 dX10_market_28 w_1153 rfl (by decide) f79 rfl ?_
    refine tw_istore_n [(2, .int (g.1 1)), (0, .ref x), (1, .int m)] dX10_market_31 rfl (by decide) rfl ?_
    refine tw_aload_n 1 dX10_market_32 rfl rfl ?_
    refine tw_iload_n 2 dX10_market_33 rfl rfl ?_
    have z0 : tw_th (h1 x) = 0 := by rw [he, tw_up_s]; exact t1
    rw [f79] at z0
    have q0 : th_80 = 0 := z0
    refine tw_put rfl in_14 tyX10 tyX10_ok nmX10 2 dX10_market_34 w_1153 rfl (by decide) f79 rfl rfl rfl rfl (Nat.le_of_ble_eq_true rfl) [.int th_80, .int td_81, .int m, .ref ds_82, .ref fr_83, .ref ca_84, .ref us_85, .ref wo_86, .ref cm_87, .ref lc_88, .ref lh_89, .ref ld_90] rfl ?_
    obtain ⟨h113, eh113⟩ : ∃ z : tw_H, z = tw_up h1 x (.inr (14, [.int th_80, .int td_81, .int m, .ref ds_82, .ref fr_83, .ref ca_84, .ref us_85, .ref wo_86, .ref cm_87, .ref lc_88, .ref lh_89, .ref ld_90])) := ⟨_, rfl⟩
    rw [← eh113]
    have f114 : h113 x = some (.inr (14, [.int th_80, .int td_81, .int m, .ref ds_82, .ref fr_83, .ref ca_84, .ref us_85, .ref wo_86, .ref cm_87, .ref lc_88, .ref lh_89, .ref ld_90])) := by rw [eh113]; exact tw_up_s
    have sp2 : tw_sp d τ h (tw_g1 g 1 m) τ h113 := by rw [eh113]; exact sp1.m36 kx ⟨th_80, td_81, ds_82, fr_83, ca_84, us_85, wo_86, cm_87, lc_88, lh_89, ld_90, rfl, k91, k92, k93, k94, k95, k96, k97, k98, k99, k100, k101, k102, k103, k104, k105, k106, k107, k108, k109, k110, k111, k112⟩
    refine tw_iload_n 0 dX10_market_37 rfl rfl ?_
    exact tw_iret dX10_market_38 rfl (Or.inl ⟨_, rfl, _, _, sp2, by rw [eh113, tw_up_n (tw_nk ko kx (by decide)), he, tw_up_n (tw_nk ko kx (by decide))], Or.inr ⟨⟨q1a, q1b⟩, rfl, by rw [f114]; exact q0, rfl⟩⟩)

def tw_hM (g : tw_G) (a : Nat) : Nat → Int32
  | 0 => g.1 (960 + 32 * a + 1)
  | 1 => g.1 (960 + 32 * a + 2)
  | 2 => g.1 (960 + 32 * a + 0)
  | 3 => g.1 (960 + 32 * a + 8 + 0)
  | 4 => g.1 (960 + 32 * a + 8 + 1)
  | 5 => tw_wo (g.1 (960 + 32 * a + 8 + 0)) (g.1 (960 + 32 * a + 8 + 1)) (g.1 1)
  | 6 => tw_isum (fun j => if g.1 (1232 + 8 * j + 2) = 0 ∧ g.1 (1232 + 8 * j + 3) = nI a then 1 else 0) (g.2 5)
  | _ + 7 => tw_isum (fun j => if g.1 (1232 + 8 * j + 2) = 0 ∧ g.1 (1232 + 8 * j + 4) = nI a then 1 else 0) (g.2 5)
def tw_dM (g : tw_G) (a : Nat) : Nat → Int32
  | 0 => g.1 (1232 + 8 * a + 3)
  | 1 => g.1 (1232 + 8 * a + 4)
  | 2 => g.1 (1232 + 8 * a + 0)
  | 3 => g.1 (1232 + 8 * a + 1)
  | 4 => if g.1 (1232 + 8 * a + 2) = 0 then nI (tw_md g a) else 0
  | 5 => if g.1 (1232 + 8 * a + 2) = 0 then 0 else 1
  | _ + 6 => if g.1 (1232 + 8 * a + 2) = 0 ∧ g.1 (960 + 32 * tw_eF g a + 1) ≠ -1 then tw_ck (tw_ms g a 0) (tw_md g a) (tw_DN (g.1 1)) else -1
def tw_oM (g : tw_G) (a : Nat) : Nat → Int32
  | 0 => g.1 (480 + 64 * a)
  | 1 => g.1 (480 + 64 * a + 1)
  | 2 => g.1 (480 + 64 * a + 16 + 0)
  | 3 => g.1 (480 + 64 * a + 16 + 1)
  | 4 => tw_oS (g.1 (480 + 64 * a + 8 + 0)) (g.1 (480 + 64 * a + 8 + 1))
  | 5 => tw_isum (fun j => if g.1 (960 + 32 * j + 1) = nI a then 1 else 0) (g.2 4)
  | 6 => tw_wo (g.1 (480 + 64 * a + 16 + 0)) (g.1 (480 + 64 * a + 16 + 1)) (g.1 1)
  | 7 => tw_pn (fun k => g.1 (480 + 64 * a + 24 + k))
  | _ + 8 => tw_isum (fun j => if g.1 (480 + 64 * j) = g.1 (480 + 64 * a) then 1 else 0) (g.2 3)
def tw_SQ (g : tw_G) : Prop := (∀ k, k < 2 → nI (tw_wM g k 0) + nI (tw_wM g k 1) + nI (tw_wM g k 2) + nI (tw_wM g k 3) + nI (tw_wM g k 4) = nI (tw_wM g k 5)) ∧ (∀ j, j < g.2 4 → g.1 (960 + 32 * j + 1) = -1 → nI (g.2 22) < g.1 (960 + 32 * j + 0)) ∧ (∀ j, j < g.2 3 → ∀ k, k < 5 → 0 ≤ g.1 (480 + 64 * j + 24 + k)) ∧ ∀ a b, a < 4 → b < 4 → g.1 (416 + 8 * a + b) = g.1 (416 + 8 * b + a) ∧ g.1 (448 + 8 * a + b) = g.1 (448 + 8 * b + a)
theorem tw_L_0 (n : Nat) (h : n ≤ 59000000) : ¬ lg_cmp (tw_L n) 0 < 0 := fun z => absurd z (by have y := (tw_cmp_ge (a := n) (b := 0) (by omega) (by decide)).mpr (Nat.zero_le _); exact Int32.not_lt.mpr y)
set_option maxHeartbeats 4000000 in
set_option maxRecDepth 100000 in
theorem c4_X10_isSoundNow (d : tw_D) (g : tw_G) (τ : tw_K) (h : tw_H) (hw : tw_wt d g τ h) (x : Nat) (kx : τ x = 36) (o : Nat) (ko : τ o = 12) (he : tw_AM 59000000 g) (he9 : tw_SQ g) : tw_Ct d mX10_isSoundNow 62 284 [.ref x] h (tw_qi (fun r h1 => tw_sp d τ h g τ h1 ∧ tw_th (h1 x) = tw_th (h x) ∧ h1 o = h o ∧ r = 1) tw_nx) := by
  refine tw_of (by decide +kernel) (Nat.le_of_ble_eq_true rfl) ?_
  show tw_W d mX10_isSoundNow _ 0 [(0, .ref x)] [] h 62 284
  have sp0 := tw_sp.rf hw
  have th0 : tw_th (h x) = tw_th (h x) := rfl
  have oq0 : h o = h o := rfl
  have b93 := tw_b3 hw kx
  have b94 := tw_b4 hw kx
  refine tw_iconst (v := 0) dX10_isSoundNow_0 (by decide) ?_
  refine tw_istore_n [(1, .int 0), (0, .ref x)] dX10_isSoundNow_1 rfl (by decide) rfl ?_
  have L4 : ∀ (r2 k1 : Nat) (h5 : tw_H) (sp6 : tw_sp d τ h g τ h5) (li7 : tw_th (h5 x) = tw_th (h x) ∧ h5 o = h o), 2 + 1 ≤ k1 + r2 → k1 ≤ 2 → tw_W d mX10_isSoundNow (tw_qi (fun r h1 => tw_sp d τ h g τ h1 ∧ tw_th (h1 x) = tw_th (h x) ∧ h1 o = h o ∧ r = 1) tw_nx) 2 [(0, .ref x), (1, .int (nI k1))] [] h5 (2 + 20 * r2) (8 + 92 * r2) := by
    intro r2
    induction r2 with
    | zero => intro k1 h5 sp6 li7 hk8 hk9; exact absurd hk8 (by omega)
    | succ r2 ih3 =>
      intro k1 h5 sp6 li7 hk8 hk9
      refine tw_iload_n 1 dX10_isSoundNow_2 rfl rfl ?_
      refine tw_iconst (v := 2) dX10_isSoundNow_3 (by decide) ?_
      refine tw_icmp_ge 163 dX10_isSoundNow_4 (by decide) (fun c10 => ?_) (fun c10 => ?_)
      · refine tw_aload_n 0 dX10_isSoundNow_163 rfl rfl ?_
        obtain ⟨e11, f12, th_13, td_14, ds_15, fr_16, ca_17, us_18, wo_19, cm_20, lc_21, lh_22, ld_23, rfl, k24, k25, k26, k27, k28, k29, k30, k31, k32, k33, k34, k35, k36, k37, k38, k39, k40, k41, k42, k43, k44, k45⟩ := sp6.1 x 36 kx (by decide)
        refine tw_get (v := .ref lc_21) rfl in_14 9 dX10_isSoundNow_164 w_1160 rfl (by decide) f12 rfl ?_
        obtain ⟨e46, f47, ⟨el48, rfl, k49⟩, k50⟩ := sp6.1 lc_21 24 k30 (by decide)
        refine tw_br (tw_callV (M := mX10_isSoundNow) (pc := 167) okJx4a65c_iterator_32c93 dX10_isSoundNow_167 w_1382 rfl f47 [] [] rfl rfl ⟨by decide, by decide⟩ (Nat.le_of_ble_eq_true rfl) (c_iterator d h5 lc_21 el48 (g.1 3) (nI (g.2 3)) f47) ((2 + 20 * (r2 + 1)) - 1) ((8 + 92 * (r2 + 1)) - 4) (by omega) (by omega)) (fun it51 h52 q53 => ?_) (fun E h1 q => q.elim)
        obtain ⟨q53n, q53e⟩ := q53
        rw [q53e]
        have n54 := sp6.nn q53n
        have z55 := sp6.1.none q53n
        obtain ⟨h56, eh56⟩ : ∃ z : tw_H, z = tw_up h5 it51 (.inr (2, [.int 0, .int (-1), .int (g.1 3), .ref lc_21])) := ⟨_, rfl⟩
        rw [← eh56]
        have th57 : tw_th (h56 x) = tw_th (h x) := by rw [eh56, tw_up_n (tw_kF sp6.1 kx (by decide) q53n)] <;> exact li7.1
        have oq58 : h56 o = h o := by rw [eh56, tw_up_n (tw_kF sp6.1 ko (by decide) q53n)] <;> exact li7.2
        have sp59 : tw_sp d τ h g τ h56 := by rw [eh56]; exact sp6.mk q53n
        have f60 : h56 it51 = some (.inr (2, [.int 0, .int (-1), .int (g.1 3), .ref lc_21])) := by rw [eh56]; exact tw_up_s
        refine tw_astore_n [(1, .ref it51), (0, .ref x)] dX10_isSoundNow_170 rfl (by decide) rfl ?_
        have L65 : ∀ (r61 j62 : Nat) (l63 : Int32) (h66 : tw_H) (sp67 : tw_sp d τ (tw_rm h56 it51) g τ h66) (ft68 : h66 it51 = some (.inr (2, [.int (nI j62), .int l63, .int (g.1 3), .ref lc_21]))) (zt69 : τ it51 = 0) (th70 : tw_th (h66 x) = tw_th (h x)) (oq71 : h66 o = h o), g.2 3 + 1 ≤ j62 + r61 → j62 ≤ g.2 3 → tw_W d mX10_isSoundNow (tw_qi (fun r h1 => tw_sp d τ h g τ h1 ∧ tw_th (h1 x) = tw_th (h x) ∧ h1 o = h o ∧ r = 1) tw_nx) 171 [(0, .ref x), (1, .ref it51)] [] h66 ((2 + 20 * (r2 + 1)) - 1) ((8 + 92 * (r2 + 1)) - 4) := by
          intro r61
          induction r61 with
          | zero => intro j62 l63 h66 sp67 ft68 zt69 th70 oq71 hk72 hk73; exact absurd hk72 (by omega)
          | succ r61 ih64 =>
            intro j62 l63 h66 sp67 ft68 zt69 th70 oq71 hk72 hk73
            refine tw_aload_n 1 dX10_isSoundNow_171 rfl rfl ?_
            obtain ⟨e74, f75, ⟨el76, rfl, k77⟩, k78⟩ := sp67.1 lc_21 24 k30 (by decide)
            refine tw_bi (tw_callF (M := mX10_isSoundNow) (pc := 172) (n9 := 0) (ci := 2) tw_hasNext ok_itHas w_1412 w_1410 (fun s H z => z.2.2.2.2.2.2.2.2.1) (by decide +kernel) dX10_isSoundNow_172 w_1406 rfl ft68 [] [] rfl rfl ⟨by decide, by decide⟩ (Nat.le_of_ble_eq_true rfl) (c_hasNext d h66 it51 lc_21 el76 j62 (g.2 3) l63 (g.1 3) (g.1 3) ft68 f75 (by omega) (tw_lim24 sp67.1 k30)) ((2 + 20 * (r2 + 1)) - 1) ((8 + 92 * (r2 + 1)) - 4) (by omega) (by omega)) (fun r81 h80 q79 => ?_) (fun E h1 q => q.elim)
            obtain ⟨q79e, q79q⟩ := q79
            rw [q79e]
            rcases q79q with ⟨q79r, q79j⟩ | ⟨q79r, q79j⟩
            · rw [q79r]
              refine tw_if_eq 231 dX10_isSoundNow_177 (by decide) (fun _ => ?_) (fun c82 => absurd (by decide) c82)
              refine tw_iconst (v := 0) dX10_isSoundNow_231 (by decide) ?_
              refine tw_istore_n [(1, .int 0), (0, .ref x)] dX10_isSoundNow_232 rfl (by decide) rfl ?_
              have L86 : ∀ (r84 k83 : Nat), 4 + 1 ≤ k83 + r84 → k83 ≤ 4 → tw_W d mX10_isSoundNow (tw_qi (fun r h1 => tw_sp d τ h g τ h1 ∧ tw_th (h1 x) = tw_th (h x) ∧ h1 o = h o ∧ r = 1) tw_nx) 233 [(0, .ref x), (1, .int (nI k83))] [] h66 ((2 + 20 * (r2 + 1)) - 1) ((8 + 92 * (r2 + 1)) - 4) := by
                intro r84
                induction r84 with
                | zero => intro k83  hk90 hk91; exact absurd hk90 (by omega)
                | succ r84 ih85 =>
                  intro k83  hk90 hk91
                  refine tw_iload_n 1 dX10_isSoundNow_233 rfl rfl ?_
                  refine tw_iconst (v := 4) dX10_isSoundNow_234 (by decide) ?_
                  refine tw_icmp_ge 297 dX10_isSoundNow_235 (by decide) (fun c92 => ?_) (fun c92 => ?_)
                  · refine tw_iconst (v := 1) dX10_isSoundNow_297 (by decide) ?_
                    exact tw_zret dX10_isSoundNow_298 rfl rfl (Or.inl ⟨_, rfl, (sp0.tr (sp59.trm n54 sp67)), th70, oq71, rfl⟩)
                  · have kl93 := tw_klt (N := 4) c92 hk91 (by decide)
                    refine tw_iconst (v := 0) dX10_isSoundNow_238 (by decide) ?_
                    refine tw_istore_n [(2, .int 0), (0, .ref x), (1, .int (nI k83))] dX10_isSoundNow_239 rfl (by decide) rfl ?_
                    have L97 : ∀ (r95 k94 : Nat), 4 + 1 ≤ k94 + r95 → k94 ≤ 4 → tw_W d mX10_isSoundNow (tw_qi (fun r h1 => tw_sp d τ h g τ h1 ∧ tw_th (h1 x) = tw_th (h x) ∧ h1 o = h o ∧ r = 1) tw_nx) 240 [(0, .ref x), (1, .int (nI k83)), (2, .int (nI k94))] [] h66 ((2 + 20 * (r2 + 1)) - 1) ((8 + 92 * (r2 + 1)) - 4) := by
                      intro r95
                      induction r95 with
                      | zero => intro k94  hk101 hk102; exact absurd hk101 (by omega)
                      | succ r95 ih96 =>
                        intro k94  hk101 hk102
                        refine tw_iload_n 2 dX10_isSoundNow_240 rfl rfl ?_
                        refine tw_iconst (v := 4) dX10_isSoundNow_241 (by decide) ?_
                        refine tw_icmp_ge 291 dX10_isSoundNow_242 (by decide) (fun c103 => ?_) (fun c103 => ?_)
                        · obtain ⟨v104, ev104⟩ : ∃ y : Int32, y = (nI k83) + 1 := ⟨_, rfl⟩
                          refine tw_iinc [(1, .int v104), (0, .ref x), (2, .int (nI k94))] 1 dX10_isSoundNow_291 rfl (by rw [ev104]; rfl) (by decide) rfl ?_
                          refine tw_goto 233 dX10_isSoundNow_294 (by decide) ?_
                          have qv104 := tw_nI3 ev104
                          rw [qv104]
                          refine tw_lv [1, 0] rfl ?_
                          exact ih85 (k83 + 1)  (by omega) (by omega)
                        · have kl105 := tw_klt (N := 4) c103 hk102 (by decide)
                          refine tw_aload_n 0 dX10_isSoundNow_245 rfl rfl ?_
                          obtain ⟨e106, f107, th_108, td_109, ds_110, fr_111, ca_112, us_113, wo_114, cm_115, lc_116, lh_117, ld_118, rfl, k119, k120, k121, k122, k123, k124, k125, k126, k127, k128, k129, k130, k131, k132, k133, k134, k135, k136, k137, k138, k139, k140⟩ := sp67.1 x 36 kx (by decide)
                          refine tw_get (v := .ref ds_110) rfl in_14 3 dX10_isSoundNow_246 w_1154 rfl (by decide) f107 rfl ?_
                          refine tw_iload_n 1 dX10_isSoundNow_249 rfl rfl ?_
                          obtain ⟨e143, f144, F141, rfl, k142⟩ := sp67.1 ds_110 34 k119 (by decide)
                          obtain ⟨q145, k146, k147, iq148⟩ := k142 ((nI k83)).toNatClampNeg (by rw [nI_clamp (by omega)]; omega)
                          refine tw_aald (v := .ref q145) 8 rfl rfl dX10_isSoundNow_250 f144 (vp_in_nI (by omega) (by decide)) (by rw [k146]; rfl) ?_
                          have id149 : g.2 (4096 + q145) = 416 + 8 * k83 := by have z := iq148; rw [nI_clamp (by omega), k135] at z; exact z
                          refine tw_iload_n 2 dX10_isSoundNow_251 rfl rfl ?_
                          obtain ⟨e150, f151, F152, rfl, ⟨b154, ow155, wv156⟩⟩ := sp67.1 q145 6 k147 (by decide)
                          obtain rfl : b154 = (416 + 8 * k83) := ow155.b id149
                          have ev157 : F152 ((nI k94)).toNatClampNeg = (g.1 ((416 + 8 * k83) + k94)) := by rw [nI_clamp (by omega)]; exact wv156 k94 (by omega)
                          refine tw_iald (v := (g.1 ((416 + 8 * k83) + k94))) dX10_isSoundNow_252 f151 (vp_in_nI (by omega) (by decide)) ev157 ?_
                          refine tw_aload_n 0 dX10_isSoundNow_253 rfl rfl ?_
                          refine tw_get (v := .ref ds_110) rfl in_14 3 dX10_isSoundNow_254 w_1154 rfl (by decide) f107 rfl ?_
                          refine tw_iload_n 2 dX10_isSoundNow_257 rfl rfl ?_
                          obtain ⟨q158, k159, k160, iq161⟩ := k142 ((nI k94)).toNatClampNeg (by rw [nI_clamp (by omega)]; omega)
                          refine tw_aald (v := .ref q158) 8 rfl rfl dX10_isSoundNow_258 f144 (vp_in_nI (by omega) (by decide)) (by rw [k159]; rfl) ?_
                          have id162 : g.2 (4096 + q158) = 416 + 8 * k94 := by have z := iq161; rw [nI_clamp (by omega), k135] at z; exact z
                          refine tw_iload_n 1 dX10_isSoundNow_259 rfl rfl ?_
                          obtain ⟨e163, f164, F165, rfl, ⟨b167, ow168, wv169⟩⟩ := sp67.1 q158 6 k160 (by decide)
                          obtain rfl : b167 = (416 + 8 * k94) := ow168.b id162
                          have ev170 : F165 ((nI k83)).toNatClampNeg = (g.1 ((416 + 8 * k94) + k83)) := by rw [nI_clamp (by omega)]; exact wv169 k83 (by omega)
                          refine tw_iald (v := (g.1 ((416 + 8 * k94) + k83))) dX10_isSoundNow_260 f164 (vp_in_nI (by omega) (by decide)) ev170 ?_
                          refine tw_icmp_ne 283 dX10_isSoundNow_261 (by decide) (fun c171 => absurd ((by exact (he9.2.2.2 k83 k94 kl93 kl105).1)) c171) (fun _ => ?_)
                          refine tw_aload_n 0 dX10_isSoundNow_264 rfl rfl ?_
                          refine tw_get (v := .ref fr_111) rfl in_14 4 dX10_isSoundNow_265 w_1155 rfl (by decide) f107 rfl ?_
                          refine tw_iload_n 1 dX10_isSoundNow_268 rfl rfl ?_
                          obtain ⟨e174, f175, F172, rfl, k173⟩ := sp67.1 fr_111 34 k120 (by decide)
                          obtain ⟨q176, k177, k178, iq179⟩ := k173 ((nI k83)).toNatClampNeg (by rw [nI_clamp (by omega)]; omega)
                          refine tw_aald (v := .ref q176) 8 rfl rfl dX10_isSoundNow_269 f175 (vp_in_nI (by omega) (by decide)) (by rw [k177]; rfl) ?_
                          have id180 : g.2 (4096 + q176) = 448 + 8 * k83 := by have z := iq179; rw [nI_clamp (by omega), k136] at z; exact z
                          refine tw_iload_n 2 dX10_isSoundNow_270 rfl rfl ?_
                          obtain ⟨e181, f182, F183, rfl, ⟨b185, ow186, wv187⟩⟩ := sp67.1 q176 6 k178 (by decide)
                          obtain rfl : b185 = (448 + 8 * k83) := ow186.b id180
                          have ev188 : F183 ((nI k94)).toNatClampNeg = (g.1 ((448 + 8 * k83) + k94)) := by rw [nI_clamp (by omega)]; exact wv187 k94 (by omega)
                          refine tw_iald (v := (g.1 ((448 + 8 * k83) + k94))) dX10_isSoundNow_271 f182 (vp_in_nI (by omega) (by decide)) ev188 ?_
                          refine tw_aload_n 0 dX10_isSoundNow_272 rfl rfl ?_
                          refine tw_get (v := .ref fr_111) rfl in_14 4 dX10_isSoundNow_273 w_1155 rfl (by decide) f107 rfl ?_
                          refine tw_iload_n 2 dX10_isSoundNow_276 rfl rfl ?_
                          obtain ⟨q189, k190, k191, iq192⟩ := k173 ((nI k94)).toNatClampNeg (by rw [nI_clamp (by omega)]; omega)
                          refine tw_aald (v := .ref q189) 8 rfl rfl dX10_isSoundNow_277 f175 (vp_in_nI (by omega) (by decide)) (by rw [k190]; rfl) ?_
                          have id193 : g.2 (4096 + q189) = 448 + 8 * k94 := by have z := iq192; rw [nI_clamp (by omega), k136] at z; exact z
                          refine tw_iload_n 1 dX10_isSoundNow_278 rfl rfl ?_
                          obtain ⟨e194, f195, F196, rfl, ⟨b198, ow199, wv200⟩⟩ := sp67.1 q189 6 k191 (by decide)
                          obtain rfl : b198 = (448 + 8 * k94) := ow199.b id193
                          have ev201 : F196 ((nI k83)).toNatClampNeg = (g.1 ((448 + 8 * k94) + k83)) := by rw [nI_clamp (by omega)]; exact wv200 k83 (by omega)
                          refine tw_iald (v := (g.1 ((448 + 8 * k94) + k83))) dX10_isSoundNow_279 f195 (vp_in_nI (by omega) (by decide)) ev201 ?_
                          refine tw_icmp_eq 285 dX10_isSoundNow_280 (by decide) (fun _ => ?_) (fun c202 => absurd ((by exact (he9.2.2.2 k83 k94 kl93 kl105).2)) c202)
                          obtain ⟨v203, ev203⟩ : ∃ y : Int32, y = (nI k94) + 1 := ⟨_, rfl⟩
                          refine tw_iinc [(2, .int v203), (0, .ref x), (1, .int (nI k83))] 2 dX10_isSoundNow_285 rfl (by rw [ev203]; rfl) (by decide) rfl ?_
                          refine tw_goto 240 dX10_isSoundNow_288 (by decide) ?_
                          have qv203 := tw_nI3 ev203
                          rw [qv203]
                          refine tw_lv [1, 2, 0] rfl ?_
                          exact ih96 (k94 + 1)  (by omega) (by omega)
                    refine tw_lv [1, 2, 0] rfl ?_
                    exact L97 (4 + 1) 0  (by omega) (by omega)
              refine tw_lv [1, 0] rfl ?_
              exact L86 (4 + 1) 0  (by omega) (by omega)
            · rw [q79r]
              refine tw_if_eq 231 dX10_isSoundNow_177 (by decide) (fun c204 => absurd c204 (by decide)) (fun _ => ?_)
              refine tw_aload_n 1 dX10_isSoundNow_180 rfl rfl ?_
              have k205 : τ el76 = 27 := k77.resolve_left (fun q => absurd q79j (by rw [q.2.1]; exact Nat.not_lt_zero _))
              obtain ⟨e206, f207, ⟨F208, rfl, hc209, hc210⟩, un211⟩ := sp67.1 el76 27 k205 (by decide)
              obtain ⟨y212, hy213, ky214⟩ := hc210 j62 q79j
              refine tw_br (tw_callF (M := mX10_isSoundNow) (pc := 181) (n9 := 0) (ci := 2) tw_next ok_itNext w_1421 w_1419 (fun s H z => z.2.2.2.2.2.2.2.2.2) (by decide +kernel) dX10_isSoundNow_181 w_1416 rfl ft68 [] [] rfl rfl ⟨by decide, by decide⟩ (Nat.le_of_ble_eq_true rfl) (c_next d h66 it51 lc_21 el76 j62 (g.2 3) y212 l63 (g.1 3) F208 ft68 f75 f207 q79j hc209 hy213) ((2 + 20 * (r2 + 1)) - 1) ((8 + 92 * (r2 + 1)) - 4) (by omega) (by omega)) (fun r217 h216 q215 => ?_) (fun E h1 q => q.elim)
              obtain ⟨q215r, q215e⟩ := q215
              rw [q215r]
              have sp218 : tw_sp d τ (tw_rm h56 it51) g τ h216 := by rw [q215e]; exact sp67.wl tw_rm_s zt69
              have id219 : g.2 (4096 + y212) = 480 + 64 * j62 := un211.2.2 _ _ F208 rfl j62 y212 q79j hy213
              have th220 : tw_th (h216 x) = tw_th (h x) := by rw [q215e, tw_up_n (tw_nk kx zt69 (by decide))] <;> exact th70
              have oq221 : h216 o = h o := by rw [q215e, tw_up_n (tw_nk ko zt69 (by decide))] <;> exact oq71
              have f222 : h216 it51 = some (.inr (2, [.int (nI (j62 + 1)), .int (nI j62), .int (g.1 3), .ref lc_21])) := by rw [q215e]; exact tw_up_s
              obtain ⟨e223, f224, r_225, c_226, v_227, o_228, t_229, rfl, k230, k231, k232, k233, k234, k235⟩ := sp218.1 y212 21 ky214 (by decide)
              obtain ⟨j236, ow237, fr9, fc9, q238, q239, q240⟩ := k235
              obtain rfl : j62 = j236 := by have z := ow237.b id219; omega
              subst fr9 fc9
              refine tw_castS (ci := 11) rfl dX10_isSoundNow_186 w_1208 f224 ?_
              refine tw_astore_n [(2, .ref y212), (0, .ref x), (1, .ref it51)] dX10_isSoundNow_189 rfl (by decide) rfl ?_
              refine tw_aload_n 0 dX10_isSoundNow_190 rfl rfl ?_
              refine tw_get (v := .ref t_229) rfl in_11 4 dX10_isSoundNow_191 w_1221 rfl (by decide) f224 rfl ?_
              refine tw_astore_n [(3, .ref t_229), (2, .ref y212), (0, .ref x), (1, .ref it51)] dX10_isSoundNow_194 rfl (by decide) rfl ?_
              refine tw_aload_n 0 dX10_isSoundNow_195 rfl rfl ?_
              obtain ⟨e241, f242, F243, rfl, k245, ⟨b246, ow247, wv248⟩⟩ := sp218.1 t_229 33 k232 (by decide)
              obtain rfl : b246 = (480 + 64 * j62 + 24) := ow247.b q239
              refine tw_alen (v := nI 5) 0 rfl dX10_isSoundNow_196 f242 rfl ?_
              refine tw_istore [(4, .int (nI 5)), (3, .ref t_229), (2, .ref y212), (0, .ref x), (1, .ref it51)] dX10_isSoundNow_197 (by decide) rfl ?_
              refine tw_iconst (v := 0) dX10_isSoundNow_199 (by decide) ?_
              refine tw_istore [(5, .int 0), (4, .int (nI 5)), (3, .ref t_229), (2, .ref y212), (0, .ref x), (1, .ref it51)] dX10_isSoundNow_200 (by decide) rfl ?_
              have L252 : ∀ (r250 k249 : Nat), 5 + 1 ≤ k249 + r250 → k249 ≤ 5 → tw_W d mX10_isSoundNow (tw_qi (fun r h1 => tw_sp d τ h g τ h1 ∧ tw_th (h1 x) = tw_th (h x) ∧ h1 o = h o ∧ r = 1) tw_nx) 202 [(0, .ref x), (1, .ref it51), (2, .ref y212), (3, .ref t_229), (4, .int (nI 5)), (5, .int (nI k249))] [] h216 ((2 + 20 * (r2 + 1)) - 1) ((8 + 92 * (r2 + 1)) - 4) := by
                intro r250
                induction r250 with
                | zero => intro k249  hk256 hk257; exact absurd hk256 (by omega)
                | succ r250 ih251 =>
                  intro k249  hk256 hk257
                  refine tw_iload 5 dX10_isSoundNow_202 rfl ?_
                  refine tw_iload 4 dX10_isSoundNow_204 rfl ?_
                  refine tw_icmp_ge 228 dX10_isSoundNow_206 (by decide) (fun c258 => ?_) (fun c258 => ?_)
                  · refine tw_goto 171 dX10_isSoundNow_228 (by decide) ?_
                    refine tw_lv [0, 1] rfl ?_
                    exact ih64 ((j62 + 1)) (nI j62)  _ sp218 f222 zt69 th220 oq221 (by omega) (by omega)
                  · have kl259 := tw_klt (N := 5) c258 hk257 (by decide)
                    refine tw_aload_n 3 dX10_isSoundNow_209 rfl rfl ?_
                    refine tw_iload 5 dX10_isSoundNow_210 rfl ?_
                    have ev260 : F243 ((nI k249)).toNatClampNeg = (g.1 ((480 + 64 * j62 + 24) + k249)) := by rw [nI_clamp (by omega)]; exact wv248 k249 (by omega)
                    refine tw_iald (v := (g.1 ((480 + 64 * j62 + 24) + k249))) dX10_isSoundNow_212 f242 (vp_in_nI (by omega) (by decide)) ev260 ?_
                    refine tw_istore [(6, .int (g.1 ((480 + 64 * j62 + 24) + k249))), (0, .ref x), (1, .ref it51), (2, .ref y212), (3, .ref t_229), (4, .int (nI 5)), (5, .int (nI k249))] dX10_isSoundNow_213 (by decide) rfl ?_
                    refine tw_iload 0 dX10_isSoundNow_215 rfl ?_
                    refine tw_if_ge 222 dX10_isSoundNow_217 (by decide) (fun _ => ?_) (fun c261 => absurd ((by exact he9.2.2.1 j62 (by omega) k249 (by omega))) c261)
                    obtain ⟨v262, ev262⟩ : ∃ y : Int32, y = (nI k249) + 1 := ⟨_, rfl⟩
                    refine tw_iinc [(5, .int v262), (6, .int (g.1 ((480 + 64 * j62 + 24) + k249))), (0, .ref x), (1, .ref it51), (2, .ref y212), (3, .ref t_229), (4, .int (nI 5))] 6 dX10_isSoundNow_222 rfl (by rw [ev262]; rfl) (by decide) rfl ?_
                    refine tw_goto 202 dX10_isSoundNow_225 (by decide) ?_
                    have qv262 := tw_nI3 ev262
                    rw [qv262]
                    refine tw_lv [2, 3, 4, 5, 6, 0] rfl ?_
                    exact ih251 (k249 + 1)  (by omega) (by omega)
              refine tw_lv [4, 5, 3, 2, 1, 0] rfl ?_
              exact L252 (5 + 1) 0  (by omega) (by omega)
        refine tw_lv [1, 0] rfl ?_
        exact L65 (g.2 3 + 1) 0 (-1)  _ (tw_sp.rm sp59.1 it51) f60 z55 th57 oq58 (by omega) (Nat.zero_le _)
      · have kl263 := tw_klt (N := 2) c10 hk9 (by decide)
        refine tw_aload_n 0 dX10_isSoundNow_7 rfl rfl ?_
        refine tw_iload_n 1 dX10_isSoundNow_8 rfl rfl ?_
        refine tw_iconst (v := 0) dX10_isSoundNow_9 (by decide) ?_
        obtain ⟨e267, f268, th_269, td_270, ds_271, fr_272, ca_273, us_274, wo_275, cm_276, lc_277, lh_278, ld_279, rfl, k280, k281, k282, k283, k284, k285, k286, k287, k288, k289, k290, k291, k292, k293, k294, k295, k296, k297, k298, k299, k300, k301⟩ := sp6.1 x 36 kx (by decide)
        refine tw_bi (tw_callV (M := mX10_isSoundNow) (pc := 10) okX10_worldNow dX10_isSoundNow_10 w_1533 rfl f268 [.int (nI k1), .int 0] [] rfl rfl ⟨by decide, by decide⟩ (Nat.le_of_ble_eq_true rfl) (c4_X10_worldNow d g τ h5 sp6.1 x kx k1 kl263 0 (by decide) o ko he) ((2 + 20 * (r2 + 1)) - 3) ((8 + 92 * (r2 + 1)) - 14) (by omega) (by omega)) (fun r266 h265 q264 => ?_) (fun E h1 q => q.elim)
        obtain ⟨q264s, q264t, q264o, q264v⟩ := q264
        have sp302 := sp6.tr q264s
        have th303 := q264t.trans li7.1
        have oq304 := q264o.trans li7.2
        refine tw_aload_n 0 dX10_isSoundNow_13 rfl rfl ?_
        refine tw_iload_n 1 dX10_isSoundNow_14 rfl rfl ?_
        refine tw_iconst (v := 1) dX10_isSoundNow_15 (by decide) ?_
        obtain ⟨e308, f309, th_310, td_311, ds_312, fr_313, ca_314, us_315, wo_316, cm_317, lc_318, lh_319, ld_320, rfl, k321, k322, k323, k324, k325, k326, k327, k328, k329, k330, k331, k332, k333, k334, k335, k336, k337, k338, k339, k340, k341, k342⟩ := sp302.1 x 36 kx (by decide)
        refine tw_bi (tw_callV (M := mX10_isSoundNow) (pc := 16) okX10_worldNow dX10_isSoundNow_16 w_1533 rfl f309 [.int (nI k1), .int 1] [.int r266] rfl rfl ⟨by decide, by decide⟩ (Nat.le_of_ble_eq_true rfl) (c4_X10_worldNow d g τ h265 sp302.1 x kx k1 kl263 1 (by decide) o ko he) (((2 + 20 * (r2 + 1)) - 3) - 3) (((8 + 92 * (r2 + 1)) - 14) - 14) (by omega) (by omega)) (fun r307 h306 q305 => ?_) (fun E h1 q => q.elim)
        obtain ⟨q305s, q305t, q305o, q305v⟩ := q305
        have sp343 := sp302.tr q305s
        have th344 := q305t.trans th303
        have oq345 := q305o.trans oq304
        refine tw_iadd dX10_isSoundNow_19 ?_
        refine tw_nmi (fun v346 ev346 => ?_)
        refine tw_aload_n 0 dX10_isSoundNow_20 rfl rfl ?_
        refine tw_iload_n 1 dX10_isSoundNow_21 rfl rfl ?_
        refine tw_iconst (v := 2) dX10_isSoundNow_22 (by decide) ?_
        obtain ⟨e350, f351, th_352, td_353, ds_354, fr_355, ca_356, us_357, wo_358, cm_359, lc_360, lh_361, ld_362, rfl, k363, k364, k365, k366, k367, k368, k369, k370, k371, k372, k373, k374, k375, k376, k377, k378, k379, k380, k381, k382, k383, k384⟩ := sp343.1 x 36 kx (by decide)
        refine tw_bi (tw_callV (M := mX10_isSoundNow) (pc := 23) okX10_worldNow dX10_isSoundNow_23 w_1533 rfl f351 [.int (nI k1), .int 2] [.int v346] rfl rfl ⟨by decide, by decide⟩ (Nat.le_of_ble_eq_true rfl) (c4_X10_worldNow d g τ h306 sp343.1 x kx k1 kl263 2 (by decide) o ko he) ((((2 + 20 * (r2 + 1)) - 3) - 3) - 3) ((((8 + 92 * (r2 + 1)) - 14) - 14) - 14) (by omega) (by omega)) (fun r349 h348 q347 => ?_) (fun E h1 q => q.elim)
        obtain ⟨q347s, q347t, q347o, q347v⟩ := q347
        have sp385 := sp343.tr q347s
        have th386 := q347t.trans th344
        have oq387 := q347o.trans oq345
        refine tw_iadd dX10_isSoundNow_26 ?_
        refine tw_nmi (fun v388 ev388 => ?_)
        refine tw_aload_n 0 dX10_isSoundNow_27 rfl rfl ?_
        refine tw_iload_n 1 dX10_isSoundNow_28 rfl rfl ?_
        refine tw_iconst (v := 3) dX10_isSoundNow_29 (by decide) ?_
        obtain ⟨e392, f393, th_394, td_395, ds_396, fr_397, ca_398, us_399, wo_400, cm_401, lc_402, lh_403, ld_404, rfl, k405, k406, k407, k408, k409, k410, k411, k412, k413, k414, k415, k416, k417, k418, k419, k420, k421, k422, k423, k424, k425, k426⟩ := sp385.1 x 36 kx (by decide)
        refine tw_bi (tw_callV (M := mX10_isSoundNow) (pc := 30) okX10_worldNow dX10_isSoundNow_30 w_1533 rfl f393 [.int (nI k1), .int 3] [.int v388] rfl rfl ⟨by decide, by decide⟩ (Nat.le_of_ble_eq_true rfl) (c4_X10_worldNow d g τ h348 sp385.1 x kx k1 kl263 3 (by decide) o ko he) (((((2 + 20 * (r2 + 1)) - 3) - 3) - 3) - 3) (((((8 + 92 * (r2 + 1)) - 14) - 14) - 14) - 14) (by omega) (by omega)) (fun r391 h390 q389 => ?_) (fun E h1 q => q.elim)
        obtain ⟨q389s, q389t, q389o, q389v⟩ := q389
        have sp427 := sp385.tr q389s
        have th428 := q389t.trans th386
        have oq429 := q389o.trans oq387
        refine tw_iadd dX10_isSoundNow_33 ?_
        refine tw_nmi (fun v430 ev430 => ?_)
        refine tw_aload_n 0 dX10_isSoundNow_34 rfl rfl ?_
        refine tw_iload_n 1 dX10_isSoundNow_35 rfl rfl ?_
        refine tw_iconst (v := 4) dX10_isSoundNow_36 (by decide) ?_
        obtain ⟨e434, f435, th_436, td_437, ds_438, fr_439, ca_440, us_441, wo_442, cm_443, lc_444, lh_445, ld_446, rfl, k447, k448, k449, k450, k451, k452, k453, k454, k455, k456, k457, k458, k459, k460, k461, k462, k463, k464, k465, k466, k467, k468⟩ := sp427.1 x 36 kx (by decide)
        refine tw_bi (tw_callV (M := mX10_isSoundNow) (pc := 37) okX10_worldNow dX10_isSoundNow_37 w_1533 rfl f435 [.int (nI k1), .int 4] [.int v430] rfl rfl ⟨by decide, by decide⟩ (Nat.le_of_ble_eq_true rfl) (c4_X10_worldNow d g τ h390 sp427.1 x kx k1 kl263 4 (by decide) o ko he) ((((((2 + 20 * (r2 + 1)) - 3) - 3) - 3) - 3) - 3) ((((((8 + 92 * (r2 + 1)) - 14) - 14) - 14) - 14) - 14) (by omega) (by omega)) (fun r433 h432 q431 => ?_) (fun E h1 q => q.elim)
        obtain ⟨q431s, q431t, q431o, q431v⟩ := q431
        have sp469 := sp427.tr q431s
        have th470 := q431t.trans th428
        have oq471 := q431o.trans oq429
        refine tw_iadd dX10_isSoundNow_40 ?_
        refine tw_nmi (fun v472 ev472 => ?_)
        refine tw_aload_n 0 dX10_isSoundNow_41 rfl rfl ?_
        refine tw_iload_n 1 dX10_isSoundNow_42 rfl rfl ?_
        refine tw_iconst (v := 5) dX10_isSoundNow_43 (by decide) ?_
        obtain ⟨e476, f477, th_478, td_479, ds_480, fr_481, ca_482, us_483, wo_484, cm_485, lc_486, lh_487, ld_488, rfl, k489, k490, k491, k492, k493, k494, k495, k496, k497, k498, k499, k500, k501, k502, k503, k504, k505, k506, k507, k508, k509, k510⟩ := sp469.1 x 36 kx (by decide)
        refine tw_bi (tw_callV (M := mX10_isSoundNow) (pc := 44) okX10_worldNow dX10_isSoundNow_44 w_1533 rfl f477 [.int (nI k1), .int 5] [.int v472] rfl rfl ⟨by decide, by decide⟩ (Nat.le_of_ble_eq_true rfl) (c4_X10_worldNow d g τ h432 sp469.1 x kx k1 kl263 5 (by decide) o ko he) (((((((2 + 20 * (r2 + 1)) - 3) - 3) - 3) - 3) - 3) - 3) (((((((8 + 92 * (r2 + 1)) - 14) - 14) - 14) - 14) - 14) - 14) (by omega) (by omega)) (fun r475 h474 q473 => ?_) (fun E h1 q => q.elim)
        obtain ⟨q473s, q473t, q473o, q473v⟩ := q473
        have sp511 := sp469.tr q473s
        have th512 := q473t.trans th470
        have oq513 := q473o.trans oq471
        refine tw_icmp_eq 52 dX10_isSoundNow_47 (by decide) (fun _ => ?_) (fun c514 => absurd ((by rw [ev472, ev430, ev388, ev346, q264v, q305v, q347v, q389v, q431v, q473v]; exact he9.1 k1 kl263)) c514)
        refine tw_aload_n 0 dX10_isSoundNow_52 rfl rfl ?_
        obtain ⟨e515, f516, th_517, td_518, ds_519, fr_520, ca_521, us_522, wo_523, cm_524, lc_525, lh_526, ld_527, rfl, k528, k529, k530, k531, k532, k533, k534, k535, k536, k537, k538, k539, k540, k541, k542, k543, k544, k545, k546, k547, k548, k549⟩ := sp511.1 x 36 kx (by decide)
        refine tw_get (v := .ref lc_525) rfl in_14 9 dX10_isSoundNow_53 w_1160 rfl (by decide) f516 rfl ?_
        obtain ⟨e550, f551, ⟨el552, rfl, k553⟩, k554⟩ := sp511.1 lc_525 24 k534 (by decide)
        refine tw_br (tw_callV (M := mX10_isSoundNow) (pc := 56) okJx4a65c_iterator_32c93 dX10_isSoundNow_56 w_1382 rfl f551 [] [] rfl rfl ⟨by decide, by decide⟩ (Nat.le_of_ble_eq_true rfl) (c_iterator d h474 lc_525 el552 (g.1 3) (nI (g.2 3)) f551) ((((((((2 + 20 * (r2 + 1)) - 3) - 3) - 3) - 3) - 3) - 3) - 1) ((((((((8 + 92 * (r2 + 1)) - 14) - 14) - 14) - 14) - 14) - 14) - 4) (by omega) (by omega)) (fun it555 h556 q557 => ?_) (fun E h1 q => q.elim)
        obtain ⟨q557n, q557e⟩ := q557
        rw [q557e]
        have n558 := sp511.nn q557n
        have z559 := sp511.1.none q557n
        obtain ⟨h560, eh560⟩ : ∃ z : tw_H, z = tw_up h474 it555 (.inr (2, [.int 0, .int (-1), .int (g.1 3), .ref lc_525])) := ⟨_, rfl⟩
        rw [← eh560]
        have th561 : tw_th (h560 x) = tw_th (h x) := by rw [eh560, tw_up_n (tw_kF sp511.1 kx (by decide) q557n)] <;> exact th512
        have oq562 : h560 o = h o := by rw [eh560, tw_up_n (tw_kF sp511.1 ko (by decide) q557n)] <;> exact oq513
        have sp563 : tw_sp d τ h g τ h560 := by rw [eh560]; exact sp511.mk q557n
        have f564 : h560 it555 = some (.inr (2, [.int 0, .int (-1), .int (g.1 3), .ref lc_525])) := by rw [eh560]; exact tw_up_s
        refine tw_astore_n [(2, .ref it555), (0, .ref x), (1, .int (nI k1))] dX10_isSoundNow_59 rfl (by decide) rfl ?_
        have L569 : ∀ (r565 j566 : Nat) (l567 : Int32) (h570 : tw_H) (sp571 : tw_sp d τ (tw_rm h560 it555) g τ h570) (ft572 : h570 it555 = some (.inr (2, [.int (nI j566), .int l567, .int (g.1 3), .ref lc_525]))) (zt573 : τ it555 = 0) (th574 : tw_th (h570 x) = tw_th (h x)) (oq575 : h570 o = h o), g.2 3 + 1 ≤ j566 + r565 → j566 ≤ g.2 3 → tw_W d mX10_isSoundNow (tw_qi (fun r h1 => tw_sp d τ h g τ h1 ∧ tw_th (h1 x) = tw_th (h x) ∧ h1 o = h o ∧ r = 1) tw_nx) 60 [(0, .ref x), (1, .int (nI k1)), (2, .ref it555)] [] h570 ((((((((2 + 20 * (r2 + 1)) - 3) - 3) - 3) - 3) - 3) - 3) - 1) ((((((((8 + 92 * (r2 + 1)) - 14) - 14) - 14) - 14) - 14) - 14) - 4) := by
          intro r565
          induction r565 with
          | zero => intro j566 l567 h570 sp571 ft572 zt573 th574 oq575 hk576 hk577; exact absurd hk576 (by omega)
          | succ r565 ih568 =>
            intro j566 l567 h570 sp571 ft572 zt573 th574 oq575 hk576 hk577
            refine tw_aload_n 2 dX10_isSoundNow_60 rfl rfl ?_
            obtain ⟨e578, f579, ⟨el580, rfl, k581⟩, k582⟩ := sp571.1 lc_525 24 k534 (by decide)
            refine tw_bi (tw_callF (M := mX10_isSoundNow) (pc := 61) (n9 := 0) (ci := 2) tw_hasNext ok_itHas w_1412 w_1410 (fun s H z => z.2.2.2.2.2.2.2.2.1) (by decide +kernel) dX10_isSoundNow_61 w_1406 rfl ft572 [] [] rfl rfl ⟨by decide, by decide⟩ (Nat.le_of_ble_eq_true rfl) (c_hasNext d h570 it555 lc_525 el580 j566 (g.2 3) l567 (g.1 3) (g.1 3) ft572 f579 (by omega) (tw_lim24 sp571.1 k534)) ((((((((2 + 20 * (r2 + 1)) - 3) - 3) - 3) - 3) - 3) - 3) - 1) ((((((((8 + 92 * (r2 + 1)) - 14) - 14) - 14) - 14) - 14) - 14) - 4) (by omega) (by omega)) (fun r585 h584 q583 => ?_) (fun E h1 q => q.elim)
            obtain ⟨q583e, q583q⟩ := q583
            rw [q583e]
            rcases q583q with ⟨q583r, q583j⟩ | ⟨q583r, q583j⟩
            · rw [q583r]
              refine tw_if_eq 95 dX10_isSoundNow_66 (by decide) (fun _ => ?_) (fun c586 => absurd (by decide) c586)
              refine tw_aload_n 0 dX10_isSoundNow_95 rfl rfl ?_
              obtain ⟨e587, f588, th_589, td_590, ds_591, fr_592, ca_593, us_594, wo_595, cm_596, lc_597, lh_598, ld_599, rfl, k600, k601, k602, k603, k604, k605, k606, k607, k608, k609, k610, k611, k612, k613, k614, k615, k616, k617, k618, k619, k620, k621⟩ := sp571.1 x 36 kx (by decide)
              refine tw_get (v := .ref lh_598) rfl in_14 10 dX10_isSoundNow_96 w_1161 rfl (by decide) f588 rfl ?_
              obtain ⟨e622, f623, ⟨el624, rfl, k625⟩, k626⟩ := sp571.1 lh_598 25 k607 (by decide)
              refine tw_br (tw_callV (M := mX10_isSoundNow) (pc := 99) okJx4a65c_iterator_32c93 dX10_isSoundNow_99 w_1382 rfl f623 [] [] rfl rfl ⟨by decide, by decide⟩ (Nat.le_of_ble_eq_true rfl) (c_iterator d h570 lh_598 el624 (g.1 4) (nI (g.2 4)) f623) (((((((((2 + 20 * (r2 + 1)) - 3) - 3) - 3) - 3) - 3) - 3) - 1) - 1) (((((((((8 + 92 * (r2 + 1)) - 14) - 14) - 14) - 14) - 14) - 14) - 4) - 4) (by omega) (by omega)) (fun it627 h628 q629 => ?_) (fun E h1 q => q.elim)
              obtain ⟨q629n, q629e⟩ := q629
              rw [q629e]
              have n630 := sp571.nn q629n
              have z631 := sp571.1.none q629n
              have ne632 := tw_neF ft572 q629n
              obtain ⟨h633, eh633⟩ : ∃ z : tw_H, z = tw_up h570 it627 (.inr (2, [.int 0, .int (-1), .int (g.1 4), .ref lh_598])) := ⟨_, rfl⟩
              rw [← eh633]
              have th634 : tw_th (h633 x) = tw_th (h x) := by rw [eh633, tw_up_n (tw_kF sp571.1 kx (by decide) q629n)] <;> exact th574
              have oq635 : h633 o = h o := by rw [eh633, tw_up_n (tw_kF sp571.1 ko (by decide) q629n)] <;> exact oq575
              have sp636 : tw_sp d τ (tw_rm h560 it555) g τ h633 := by rw [eh633]; exact sp571.mk q629n
              have f637 : h633 it555 = some (.inr (2, [.int (nI j566), .int l567, .int (g.1 3), .ref lc_525])) := by rw [eh633, tw_up_n ne632]; exact ft572
              have f638 : h633 it627 = some (.inr (2, [.int 0, .int (-1), .int (g.1 4), .ref lh_598])) := by rw [eh633]; exact tw_up_s
              refine tw_astore_n [(2, .ref it627), (0, .ref x), (1, .int (nI k1))] dX10_isSoundNow_102 rfl (by decide) rfl ?_
              have L643 : ∀ (r639 j640 : Nat) (l641 : Int32) (h644 : tw_H) (sp645 : tw_sp d τ (tw_rm h633 it627) g τ h644) (ft646 : h644 it627 = some (.inr (2, [.int (nI j640), .int l641, .int (g.1 4), .ref lh_598]))) (zt647 : τ it627 = 0) (th648 : tw_th (h644 x) = tw_th (h x)) (oq649 : h644 o = h o), g.2 4 + 1 ≤ j640 + r639 → j640 ≤ g.2 4 → tw_W d mX10_isSoundNow (tw_qi (fun r h1 => tw_sp d τ h g τ h1 ∧ tw_th (h1 x) = tw_th (h x) ∧ h1 o = h o ∧ r = 1) tw_nx) 103 [(0, .ref x), (1, .int (nI k1)), (2, .ref it627)] [] h644 (((((((((2 + 20 * (r2 + 1)) - 3) - 3) - 3) - 3) - 3) - 3) - 1) - 1) (((((((((8 + 92 * (r2 + 1)) - 14) - 14) - 14) - 14) - 14) - 14) - 4) - 4) := by
                intro r639
                induction r639 with
                | zero => intro j640 l641 h644 sp645 ft646 zt647 th648 oq649 hk650 hk651; exact absurd hk650 (by omega)
                | succ r639 ih642 =>
                  intro j640 l641 h644 sp645 ft646 zt647 th648 oq649 hk650 hk651
                  have f652 := (sp645.2.2 _ _ (by unfold tw_rm; rw [if_neg ne632]; exact f637) zt573).1
                  have z653 := (sp645.2.2 _ _ (by unfold tw_rm; rw [if_neg ne632]; exact f637) zt573).2
                  refine tw_aload_n 2 dX10_isSoundNow_103 rfl rfl ?_
                  obtain ⟨e654, f655, ⟨el656, rfl, k657⟩, k658⟩ := sp645.1 lh_598 25 k607 (by decide)
                  refine tw_bi (tw_callF (M := mX10_isSoundNow) (pc := 104) (n9 := 0) (ci := 2) tw_hasNext ok_itHas w_1412 w_1410 (fun s H z => z.2.2.2.2.2.2.2.2.1) (by decide +kernel) dX10_isSoundNow_104 w_1406 rfl ft646 [] [] rfl rfl ⟨by decide, by decide⟩ (Nat.le_of_ble_eq_true rfl) (c_hasNext d h644 it627 lh_598 el656 j640 (g.2 4) l641 (g.1 4) (g.1 4) ft646 f655 (by omega) (tw_lim25 sp645.1 k607)) (((((((((2 + 20 * (r2 + 1)) - 3) - 3) - 3) - 3) - 3) - 3) - 1) - 1) (((((((((8 + 92 * (r2 + 1)) - 14) - 14) - 14) - 14) - 14) - 14) - 4) - 4) (by omega) (by omega)) (fun r661 h660 q659 => ?_) (fun E h1 q => q.elim)
                  obtain ⟨q659e, q659q⟩ := q659
                  rw [q659e]
                  rcases q659q with ⟨q659r, q659j⟩ | ⟨q659r, q659j⟩
                  · rw [q659r]
                    refine tw_if_eq 157 dX10_isSoundNow_109 (by decide) (fun _ => ?_) (fun c662 => absurd (by decide) c662)
                    obtain ⟨v663, ev663⟩ : ∃ y : Int32, y = (nI k1) + 1 := ⟨_, rfl⟩
                    refine tw_iinc [(1, .int v663), (0, .ref x), (2, .ref it627)] 1 dX10_isSoundNow_157 rfl (by rw [ev663]; rfl) (by decide) rfl ?_
                    refine tw_goto 2 dX10_isSoundNow_160 (by decide) ?_
                    have qv663 := tw_nI3 ev663
                    rw [qv663]
                    refine tw_lv [1, 0] rfl ?_
                    refine tw_less (c2 := 2 + 20 * r2) (n2 := 8 + 92 * r2) (by omega) (by omega) ?_
                    exact ih3 (k1 + 1)  _ (sp563.trm n558 (sp636.trm n630 sp645)) (⟨th648, oq649⟩) (by omega) (by omega)
                  · rw [q659r]
                    refine tw_if_eq 157 dX10_isSoundNow_109 (by decide) (fun c664 => absurd c664 (by decide)) (fun _ => ?_)
                    refine tw_aload_n 2 dX10_isSoundNow_112 rfl rfl ?_
                    have k665 : τ el656 = 28 := k657.resolve_left (fun q => absurd q659j (by rw [q.2.1]; exact Nat.not_lt_zero _))
                    obtain ⟨e666, f667, ⟨F668, rfl, hc669, hc670⟩, un671⟩ := sp645.1 el656 28 k665 (by decide)
                    obtain ⟨y672, hy673, ky674⟩ := hc670 j640 q659j
                    refine tw_br (tw_callF (M := mX10_isSoundNow) (pc := 113) (n9 := 0) (ci := 2) tw_next ok_itNext w_1421 w_1419 (fun s H z => z.2.2.2.2.2.2.2.2.2) (by decide +kernel) dX10_isSoundNow_113 w_1416 rfl ft646 [] [] rfl rfl ⟨by decide, by decide⟩ (Nat.le_of_ble_eq_true rfl) (c_next d h644 it627 lh_598 el656 j640 (g.2 4) y672 l641 (g.1 4) F668 ft646 f655 f667 q659j hc669 hy673) (((((((((2 + 20 * (r2 + 1)) - 3) - 3) - 3) - 3) - 3) - 3) - 1) - 1) (((((((((8 + 92 * (r2 + 1)) - 14) - 14) - 14) - 14) - 14) - 14) - 4) - 4) (by omega) (by omega)) (fun r677 h676 q675 => ?_) (fun E h1 q => q.elim)
                    obtain ⟨q675r, q675e⟩ := q675
                    rw [q675r]
                    have sp678 : tw_sp d τ (tw_rm h633 it627) g τ h676 := by rw [q675e]; exact sp645.wl tw_rm_s zt647
                    have id679 : g.2 (4096 + y672) = 960 + 32 * j640 := un671.2.2 _ _ F668 rfl j640 y672 q659j hy673
                    have f680 : h676 it555 = some (.inr (2, [.int (nI j566), .int l567, .int (g.1 3), .ref lc_525])) := by rw [q675e, tw_up_n ne632]; exact f652
                    have th681 : tw_th (h676 x) = tw_th (h x) := by rw [q675e, tw_up_n (tw_nk kx zt647 (by decide))] <;> exact th648
                    have oq682 : h676 o = h o := by rw [q675e, tw_up_n (tw_nk ko zt647 (by decide))] <;> exact oq649
                    have f683 : h676 it627 = some (.inr (2, [.int (nI (j640 + 1)), .int (nI j640), .int (g.1 4), .ref lh_598])) := by rw [q675e]; exact tw_up_s
                    obtain ⟨e684, f685, x_686, y_687, dy_688, p_689, rfl, k690, k691, k692, k693⟩ := sp678.1 y672 23 ky674 (by decide)
                    obtain ⟨j694, ow695, fd9, fa9, ft9, lp696⟩ := k693
                    obtain rfl : j640 = j694 := by have z := ow695.b id679; omega
                    subst fd9 fa9 ft9
                    refine tw_castS (ci := 13) rfl dX10_isSoundNow_118 w_1332 f685 ?_
                    refine tw_astore_n [(3, .ref y672), (0, .ref x), (1, .int (nI k1)), (2, .ref it627)] dX10_isSoundNow_121 rfl (by decide) rfl ?_
                    refine tw_aload_n 0 dX10_isSoundNow_122 rfl rfl ?_
                    refine tw_get (v := .ref p_689) rfl in_13 3 dX10_isSoundNow_123 w_1344 rfl (by decide) f685 rfl ?_
                    refine tw_iload_n 2 dX10_isSoundNow_126 rfl rfl ?_
                    obtain ⟨e697, f698, F699, rfl, ⟨b701, ow702, wv703⟩⟩ := sp678.1 p_689 31 k690 (by decide)
                    obtain rfl : (960 + 32 * j640 + 8) = b701 := (ow702.b lp696).symm
                    have ev704 : F699 ((nI k1)).toNatClampNeg = (g.1 ((960 + 32 * j640 + 8) + k1)).toInt64 := by rw [nI_clamp (by omega)]; exact wv703 k1 (by omega)
                    refine tw_lald (v := (g.1 ((960 + 32 * j640 + 8) + k1)).toInt64) dX10_isSoundNow_127 f698 (vp_in_nI (by omega) (by decide)) ev704 ?_
                    refine tw_lconst (v := 0) dX10_isSoundNow_128 (by decide) ?_
                    refine tw_lcmp dX10_isSoundNow_129 ?_
                    refine tw_nmi (fun v705 ev705 => ?_)
                    refine tw_if_lt 152 dX10_isSoundNow_130 (by decide) (fun c706 => absurd c706 ((by rw [ev705, (congrArg Int32.toInt64 (he.p (j := j640) (k := k1) (by omega) kl263).1).trans (tw_L_i (Nat.lt_of_le_of_lt (he.p (j := j640) (k := k1) (by omega) kl263).2 (by decide)))]; exact tw_L_0 _ (he.p (j := j640) (k := k1) (by omega) kl263).2))) (fun _ => ?_)
                    refine tw_aload_n 0 dX10_isSoundNow_133 rfl rfl ?_
                    refine tw_get (v := .int (g.1 (960 + 32 * j640 + 1))) rfl in_13 0 dX10_isSoundNow_134 w_1338 rfl (by decide) f685 rfl ?_
                    refine tw_iconst (v := -1) dX10_isSoundNow_137 (by decide) ?_
                    refine tw_icmp_ne 154 dX10_isSoundNow_138 (by decide) (fun c707 => ?_) (fun c707 => ?_)
                    · refine tw_goto 103 dX10_isSoundNow_154 (by decide) ?_
                      refine tw_lv [1, 2, 3] rfl ?_
                      exact ih642 ((j640 + 1)) (nI j640)  _ sp678 f683 zt647 th681 oq682 (by omega) (by omega)
                    · refine tw_aload_n 0 dX10_isSoundNow_141 rfl rfl ?_
                      refine tw_get (v := .int (g.1 (960 + 32 * j640 + 0))) rfl in_13 2 dX10_isSoundNow_142 w_1342 rfl (by decide) f685 rfl ?_
                      refine tw_aload_n 1 dX10_isSoundNow_145 rfl rfl ?_
                      obtain ⟨e708, f709, th_710, td_711, ds_712, fr_713, ca_714, us_715, wo_716, cm_717, lc_718, lh_719, ld_720, rfl, k721, k722, k723, k724, k725, k726, k727, k728, k729, k730, k731, k732, k733, k734, k735, k736, k737, k738, k739, k740, k741, k742⟩ := sp678.1 x 36 kx (by decide)
                      refine tw_get (v := .int td_711) rfl in_14 1 dX10_isSoundNow_146 w_1152 rfl (by decide) f709 rfl ?_
                      refine tw_icmp_gt 154 dX10_isSoundNow_149 (by decide) (fun _ => ?_) (fun c743 => absurd ((by have z := he9.2.1 j640 (by omega) c707; exact by rw [k735]; exact z)) c743)
                      refine tw_goto 103 dX10_isSoundNow_154 (by decide) ?_
                      refine tw_lv [1, 2, 3] rfl ?_
                      exact ih642 ((j640 + 1)) (nI j640)  _ sp678 f683 zt647 th681 oq682 (by omega) (by omega)
              refine tw_lv [1, 2, 0] rfl ?_
              exact L643 (g.2 4 + 1) 0 (-1)  _ (tw_sp.rm sp636.1 it627) f638 z631 th634 oq635 (by omega) (Nat.zero_le _)
            · rw [q583r]
              refine tw_if_eq 95 dX10_isSoundNow_66 (by decide) (fun c744 => absurd c744 (by decide)) (fun _ => ?_)
              refine tw_aload_n 2 dX10_isSoundNow_69 rfl rfl ?_
              have k745 : τ el580 = 27 := k581.resolve_left (fun q => absurd q583j (by rw [q.2.1]; exact Nat.not_lt_zero _))
              obtain ⟨e746, f747, ⟨F748, rfl, hc749, hc750⟩, un751⟩ := sp571.1 el580 27 k745 (by decide)
              obtain ⟨y752, hy753, ky754⟩ := hc750 j566 q583j
              refine tw_br (tw_callF (M := mX10_isSoundNow) (pc := 70) (n9 := 0) (ci := 2) tw_next ok_itNext w_1421 w_1419 (fun s H z => z.2.2.2.2.2.2.2.2.2) (by decide +kernel) dX10_isSoundNow_70 w_1416 rfl ft572 [] [] rfl rfl ⟨by decide, by decide⟩ (Nat.le_of_ble_eq_true rfl) (c_next d h570 it555 lc_525 el580 j566 (g.2 3) y752 l567 (g.1 3) F748 ft572 f579 f747 q583j hc749 hy753) ((((((((2 + 20 * (r2 + 1)) - 3) - 3) - 3) - 3) - 3) - 3) - 1) ((((((((8 + 92 * (r2 + 1)) - 14) - 14) - 14) - 14) - 14) - 14) - 4) (by omega) (by omega)) (fun r757 h756 q755 => ?_) (fun E h1 q => q.elim)
              obtain ⟨q755r, q755e⟩ := q755
              rw [q755r]
              have sp758 : tw_sp d τ (tw_rm h560 it555) g τ h756 := by rw [q755e]; exact sp571.wl tw_rm_s zt573
              have id759 : g.2 (4096 + y752) = 480 + 64 * j566 := un751.2.2 _ _ F748 rfl j566 y752 q583j hy753
              have th760 : tw_th (h756 x) = tw_th (h x) := by rw [q755e, tw_up_n (tw_nk kx zt573 (by decide))] <;> exact th574
              have oq761 : h756 o = h o := by rw [q755e, tw_up_n (tw_nk ko zt573 (by decide))] <;> exact oq575
              have f762 : h756 it555 = some (.inr (2, [.int (nI (j566 + 1)), .int (nI j566), .int (g.1 3), .ref lc_525])) := by rw [q755e]; exact tw_up_s
              obtain ⟨e763, f764, r_765, c_766, v_767, o_768, t_769, rfl, k770, k771, k772, k773, k774, k775⟩ := sp758.1 y752 21 ky754 (by decide)
              obtain ⟨j776, ow777, fr9, fc9, q778, q779, q780⟩ := k775
              obtain rfl : j566 = j776 := by have z := ow777.b id759; omega
              subst fr9 fc9
              refine tw_castS (ci := 11) rfl dX10_isSoundNow_75 w_1208 f764 ?_
              refine tw_astore_n [(3, .ref y752), (0, .ref x), (1, .int (nI k1)), (2, .ref it555)] dX10_isSoundNow_78 rfl (by decide) rfl ?_
              refine tw_aload_n 0 dX10_isSoundNow_79 rfl rfl ?_
              refine tw_get (v := .ref v_767) rfl in_11 2 dX10_isSoundNow_80 w_1217 rfl (by decide) f764 rfl ?_
              refine tw_iload_n 2 dX10_isSoundNow_83 rfl rfl ?_
              obtain ⟨e781, f782, F783, rfl, ⟨b785, ow786, wv787⟩⟩ := sp758.1 v_767 31 k770 (by decide)
              obtain rfl : (480 + 64 * j566 + 16) = b785 := (ow786.b q780).symm
              have ev788 : F783 ((nI k1)).toNatClampNeg = (g.1 ((480 + 64 * j566 + 16) + k1)).toInt64 := by rw [nI_clamp (by omega)]; exact wv787 k1 (by omega)
              refine tw_lald (v := (g.1 ((480 + 64 * j566 + 16) + k1)).toInt64) dX10_isSoundNow_84 f782 (vp_in_nI (by omega) (by decide)) ev788 ?_
              refine tw_lconst (v := 0) dX10_isSoundNow_85 (by decide) ?_
              refine tw_lcmp dX10_isSoundNow_86 ?_
              refine tw_nmi (fun v789 ev789 => ?_)
              refine tw_if_ge 92 dX10_isSoundNow_87 (by decide) (fun _ => ?_) (fun c790 => absurd ((by rw [ev789, (congrArg Int32.toInt64 (he.v (j := j566) (k := k1) (by omega) kl263).1).trans (tw_L_i (Nat.lt_of_le_of_lt (he.v (j := j566) (k := k1) (by omega) kl263).2 (by decide)))]; exact Int32.not_lt.mp (tw_L_0 _ (he.v (j := j566) (k := k1) (by omega) kl263).2))) c790)
              refine tw_goto 60 dX10_isSoundNow_92 (by decide) ?_
              refine tw_lv [1, 2, 3] rfl ?_
              exact ih568 ((j566 + 1)) (nI j566)  _ sp758 f762 zt573 th760 oq761 (by omega) (by omega)
        refine tw_lv [1, 2, 0] rfl ?_
        exact L569 (g.2 3 + 1) 0 (-1)  _ (tw_sp.rm sp563.1 it555) f564 z559 th561 oq562 (by omega) (Nat.zero_le _)
  refine tw_lv [1, 0] rfl ?_
  refine tw_less (c2 := 2 + 20 * 3) (n2 := 8 + 92 * 3) (by omega) (by omega) ?_
  exact L4 3 0  _ (tw_sp.rf sp0.1) (⟨th0, oq0⟩) (by omega) (by omega)

set_option maxHeartbeats 4000000 in
set_option maxRecDepth 100000 in
theorem c4_X10_isSound (d : tw_D) (g : tw_G) (τ : tw_K) (h : tw_H) (hw : tw_wt d g τ h) (x : Nat) (kx : τ x = 36) (o : Nat) (ko : τ o = 12) (he : tw_AM 59000000 g) (he9 : tw_SQ g) : tw_Ct d mX10_isSound 62 284 [.ref x] h (tw_qi (fun r h1 => tw_sp d τ h g τ h1 ∧ h1 o = h o ∧ r = 1) tw_nx) := by
  refine tw_of (by decide +kernel) (Nat.le_of_ble_eq_true rfl) ?_
  show tw_W d mX10_isSound _ 0 [(0, .ref x)] [] h 62 284
  have sp0 := tw_sp.rf hw
  have oq0 : h o = h o := rfl
  refine tw_aload_n 0 dX10_isSound_0 rfl rfl ?_
  refine tw_iconst (v := 0) dX10_isSound_1 (by decide) ?_
  obtain ⟨e1, f2, th_3, td_4, ds_5, fr_6, ca_7, us_8, wo_9, cm_10, lc_11, lh_12, ld_13, rfl, k14, k15, k16, k17, k18, k19, k20, k21, k22, k23, k24, k25, k26, k27, k28, k29, k30, k31, k32, k33, k34, k35⟩ := sp0.1 x 36 kx (by decide)
  refine tw_put rfl in_14 tyX10 tyX10_ok nmX10 0 dX10_isSound_2 w_1151 rfl (by decide) f2 rfl rfl rfl rfl (Nat.le_of_ble_eq_true rfl) [.int 0, .int td_4, .int (g.1 1), .ref ds_5, .ref fr_6, .ref ca_7, .ref us_8, .ref wo_9, .ref cm_10, .ref lc_11, .ref lh_12, .ref ld_13] rfl ?_
  obtain ⟨h36, eh36⟩ : ∃ z : tw_H, z = tw_up h x (.inr (14, [.int 0, .int td_4, .int (g.1 1), .ref ds_5, .ref fr_6, .ref ca_7, .ref us_8, .ref wo_9, .ref cm_10, .ref lc_11, .ref lh_12, .ref ld_13])) := ⟨_, rfl⟩
  rw [← eh36]
  have oq37 : h36 o = h o := by rw [eh36, tw_up_n (tw_nk ko kx (by decide))] <;> exact oq0
  have sp38 : tw_sp d τ h g τ h36 := by rw [eh36]; exact sp0.set kx (by decide) ⟨0, td_4, ds_5, fr_6, ca_7, us_8, wo_9, cm_10, lc_11, lh_12, ld_13, rfl, k14, k15, k16, k17, k18, k19, k20, k21, k22, k23, k24, k25, k26, (by decide), k28, k29, k30, k31, k32, k33, k34, k35⟩
  have f39 : h36 x = some (.inr (14, [.int 0, .int td_4, .int (g.1 1), .ref ds_5, .ref fr_6, .ref ca_7, .ref us_8, .ref wo_9, .ref cm_10, .ref lc_11, .ref lh_12, .ref ld_13])) := by rw [eh36]; exact tw_up_s
  refine tw_aload_n 0 dX10_isSound_5 rfl rfl ?_
  refine tw_bi (tw_callV (M := mX10_isSound) (pc := 6) okX10_isSoundNow dX10_isSound_6 w_1585 rfl f39 [] [] rfl rfl ⟨by decide, by decide⟩ (Nat.le_of_ble_eq_true rfl) (c4_X10_isSoundNow d g τ h36 sp38.1 x kx o ko he he9) 0 0 (Nat.le_of_ble_eq_true rfl) (Nat.le_of_ble_eq_true rfl)) (fun r42 h41 q40 => ?_) (fun E h1 q => q.elim)
  obtain ⟨q40s, q40t, q40o, q40v⟩ := q40
  have sp43 := sp38.tr q40s
  have oq44 := q40o.trans oq37
  rw [q40v]
  exact tw_zret dX10_isSound_9 rfl rfl (Or.inl ⟨_, rfl, sp43, oq44, rfl⟩)

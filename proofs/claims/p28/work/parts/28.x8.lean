/-! the class's methods over the typed heap. Laid by wip/p5/mkclass.py. -/
/-! what is asked, the reference -/
theorem tw_sum_s {f : Nat → Nat} (a : Nat) : ∀ m, tw_sum f (a + m) = tw_sum f a + tw_sum (fun j => f (a + j)) m
  | 0 => rfl
  | m + 1 => by
    show tw_sum f (a + m) + f (a + m) = tw_sum f a + (tw_sum (fun j => f (a + j)) m + f (a + m))
    rw [tw_sum_s a m, Nat.add_assoc]
theorem tw_sum_m {f : Nat → Nat} {m : Nat} : ∀ n, m ≤ n → tw_sum f m ≤ tw_sum f n
  | 0, h => by rw [show m = 0 by omega]; exact Nat.le_refl _
  | n + 1, h => by
    show tw_sum f m ≤ tw_sum f n + f n
    by_cases q : m = n + 1
    · rw [q]
      exact Nat.le_refl _
    · exact Nat.le_trans (tw_sum_m n (by omega)) (Nat.le_add_right _ _)
def tw_wM (g : tw_G) (k : Nat) : Nat → Nat
  | 0 => tw_sum (fun j => tw_DN (g.1 (480 + 64 * j + 16 + k))) (g.2 3)
  | 1 => tw_sum (fun j => tw_DN (g.1 (960 + 32 * j + 8 + k))) (g.2 4)
  | w + 2 => tw_DN (g.1 (1344 + 8 * w + k))
theorem tw_AM.w0 {B : Nat} {g : tw_G} (h : tw_AM B g) {k m : Nat} (hk : k < 2) (hm : m ≤ 4) : tw_sum (fun j => tw_DN (g.1 (480 + 64 * j + 16 + k))) m ≤ B := by
  have e : tw_sum (fun j => tw_DN (g.1 (480 + 64 * j + 16 + k))) m = tw_sum (fun i => tw_am g i k) m := tw_sum_c m (fun j hj => by unfold tw_am; rw [tw_ac_v (by omega), show 496 + 64 * j + k = 480 + 64 * j + 16 + k by omega])
  have l := tw_sum_m (f := fun i => tw_am g i k) (m := m) 13 (by omega)
  have z := h.2 k hk
  omega
theorem tw_AM.w1 {B : Nat} {g : tw_G} (h : tw_AM B g) {k m : Nat} (hk : k < 2) (hm : m ≤ 6) : tw_sum (fun j => tw_DN (g.1 (960 + 32 * j + 8 + k))) m ≤ B := by
  have e : tw_sum (fun j => tw_DN (g.1 (960 + 32 * j + 8 + k))) m = tw_sum (fun j => tw_am g (4 + j) k) m := tw_sum_c m (fun j hj => by unfold tw_am; rw [tw_ac_h (by omega) (by omega), show 840 + 32 * (4 + j) + k = 960 + 32 * j + 8 + k by omega])
  have l := tw_sum_m (f := fun i => tw_am g i k) (m := 4 + m) 13 (by omega)
  have s := tw_sum_s (f := fun i => tw_am g i k) 4 m
  have z := h.2 k hk
  omega
theorem tw_AM.wle {B : Nat} {g : tw_G} (h : tw_AM B g) {k w : Nat} (hk : k < 2) (hw : w ≤ 5) (h3 : g.2 3 ≤ 4) (h4 : g.2 4 ≤ 6) : tw_wM g k w ≤ B := by
  rcases (show w = 0 ∨ w = 1 ∨ ∃ s, s < 4 ∧ w = s + 2 by rcases (show w = 0 ∨ w = 1 ∨ 2 ≤ w by omega) with z | z | z; exact Or.inl z; exact Or.inr (Or.inl z); exact Or.inr (Or.inr ⟨w - 2, by omega, by omega⟩)) with rfl | rfl | ⟨s, hs, rfl⟩
  · exact h.w0 hk h3
  · exact h.w1 hk h4
  · exact (h.s hs hk).2
set_option maxHeartbeats 4000000 in
set_option maxRecDepth 100000 in
theorem c4_X10_worldNow (d : tw_D) (g : tw_G) (τ : tw_K) (h : tw_H) (hw : tw_wt d g τ h) (x : Nat) (kx : τ x = 36) (k : Nat) (hk : k < 2) (w : Nat) (hw9 : w ≤ 5) (o : Nat) (ko : τ o = 12) (he : tw_AM 59000000 g) : tw_Ct d mX10_worldNow 3 14 [.ref x, .int (nI k), .int (nI w)] h (tw_qi (fun r h1 => tw_sp d τ h g τ h1 ∧ tw_th (h1 x) = tw_th (h x) ∧ h1 o = h o ∧ r = nI (tw_wM g k w)) tw_nx) := by
  refine tw_of (by decide +kernel) (Nat.le_of_ble_eq_true rfl) ?_
  show tw_W d mX10_worldNow _ 0 [(0, .ref x), (1, .int (nI k)), (2, .int (nI w))] [] h 3 14
  have sp0 := tw_sp.rf hw
  have th0 : tw_th (h x) = tw_th (h x) := rfl
  have oq0 : h o = h o := rfl
  have b93 := tw_b3 hw kx
  have b94 := tw_b4 hw kx
  refine tw_lconst (v := 0) dX10_worldNow_0 (by decide) ?_
  refine tw_lstore_n [(3, .long 0), (0, .ref x), (1, .int (nI k)), (2, .int (nI w))] dX10_worldNow_1 rfl (by decide) rfl ?_
  refine tw_lconst (v := 0) dX10_worldNow_2 (by decide) ?_
  refine tw_lstore [(5, .long 0), (3, .long 0), (0, .ref x), (1, .int (nI k)), (2, .int (nI w))] dX10_worldNow_3 (by decide) rfl ?_
  refine tw_aload_n 2 dX10_worldNow_5 rfl rfl ?_
  obtain ⟨e1, f2, th_3, td_4, ds_5, fr_6, ca_7, us_8, wo_9, cm_10, lc_11, lh_12, ld_13, rfl, k14, k15, k16, k17, k18, k19, k20, k21, k22, k23, k24, k25, k26, k27, k28, k29, k30, k31, k32, k33, k34, k35⟩ := sp0.1 x 36 kx (by decide)
  refine tw_get (v := .ref lc_11) rfl in_14 9 dX10_worldNow_6 w_1160 rfl (by decide) f2 rfl ?_
  obtain ⟨e36, f37, ⟨el38, rfl, k39⟩, k40⟩ := sp0.1 lc_11 24 k20 (by decide)
  refine tw_br (tw_callV (M := mX10_worldNow) (pc := 9) okJx4a65c_iterator_32c93 dX10_worldNow_9 w_1382 rfl f37 [] [] rfl rfl ⟨by decide, by decide⟩ (Nat.le_of_ble_eq_true rfl) (c_iterator d h lc_11 el38 (g.1 3) (nI (g.2 3)) f37) 2 10 (Nat.le_of_ble_eq_true rfl) (Nat.le_of_ble_eq_true rfl)) (fun it41 h42 q43 => ?_) (fun E h1 q => q.elim)
  obtain ⟨q43n, q43e⟩ := q43
  rw [q43e]
  have n44 := sp0.nn q43n
  have z45 := sp0.1.none q43n
  obtain ⟨h46, eh46⟩ : ∃ z : tw_H, z = tw_up h it41 (.inr (2, [.int 0, .int (-1), .int (g.1 3), .ref lc_11])) := ⟨_, rfl⟩
  rw [← eh46]
  have th47 : tw_th (h46 x) = tw_th (h x) := by rw [eh46, tw_up_n (tw_kF sp0.1 kx (by decide) q43n)] <;> exact th0
  have oq48 : h46 o = h o := by rw [eh46, tw_up_n (tw_kF sp0.1 ko (by decide) q43n)] <;> exact oq0
  have sp49 : tw_sp d τ h g τ h46 := by rw [eh46]; exact sp0.mk q43n
  have f50 : h46 it41 = some (.inr (2, [.int 0, .int (-1), .int (g.1 3), .ref lc_11])) := by rw [eh46]; exact tw_up_s
  refine tw_astore [(7, .ref it41), (5, .long 0), (3, .long 0), (0, .ref x), (1, .int (nI k)), (2, .int (nI w))] dX10_worldNow_12 (by decide) rfl ?_
  have L56 : ∀ (r52 j53 : Nat) (l54 : Int32) (x51 : Int64) (h57 : tw_H) (sp58 : tw_sp d τ (tw_rm h46 it41) g τ h57) (ft59 : h57 it41 = some (.inr (2, [.int (nI j53), .int l54, .int (g.1 3), .ref lc_11]))) (zt60 : τ it41 = 0) (th61 : tw_th (h57 x) = tw_th (h x)) (oq62 : h57 o = h o) (li63 : x51 = tw_L (tw_sum (fun j => tw_DN (g.1 (480 + 64 * j + 16 + k))) j53)), g.2 3 + 1 ≤ j53 + r52 → j53 ≤ g.2 3 → tw_W d mX10_worldNow (tw_qi (fun r h1 => tw_sp d τ h g τ h1 ∧ tw_th (h1 x) = tw_th (h x) ∧ h1 o = h o ∧ r = nI (tw_wM g k w)) tw_nx) 14 [(0, .ref x), (1, .int (nI k)), (2, .int (nI w)), (3, .long x51), (5, .long 0), (7, .ref it41)] [] h57 2 10 := by
    intro r52
    induction r52 with
    | zero => intro j53 l54 x51 h57 sp58 ft59 zt60 th61 oq62 li63 hk64 hk65; exact absurd hk64 (by omega)
    | succ r52 ih55 =>
      intro j53 l54 x51 h57 sp58 ft59 zt60 th61 oq62 li63 hk64 hk65
      refine tw_aload 5 dX10_worldNow_14 rfl ?_
      obtain ⟨e66, f67, ⟨el68, rfl, k69⟩, k70⟩ := sp58.1 lc_11 24 k20 (by decide)
      refine tw_bi (tw_callF (M := mX10_worldNow) (pc := 16) (n9 := 0) (ci := 2) tw_hasNext ok_itHas w_1412 w_1410 (fun s H z => z.2.2.2.2.2.2.2.2.1) (by decide +kernel) dX10_worldNow_16 w_1406 rfl ft59 [] [] rfl rfl ⟨by decide, by decide⟩ (Nat.le_of_ble_eq_true rfl) (c_hasNext d h57 it41 lc_11 el68 j53 (g.2 3) l54 (g.1 3) (g.1 3) ft59 f67 (by omega) (tw_lim24 sp58.1 k20)) 2 10 (Nat.le_of_ble_eq_true rfl) (Nat.le_of_ble_eq_true rfl)) (fun r73 h72 q71 => ?_) (fun E h1 q => q.elim)
      obtain ⟨q71e, q71q⟩ := q71
      rw [q71e]
      rcases q71q with ⟨q71r, q71j⟩ | ⟨q71r, q71j⟩
      · rw [q71r]
        refine tw_if_eq 49 dX10_worldNow_21 (by decide) (fun _ => ?_) (fun c74 => absurd (by decide) c74)
        have s09 : x51 = tw_L (tw_wM g k 0) := by rw [li63, show j53 = g.2 3 by have z := q71j; omega]; rfl
        refine tw_aload_n 0 dX10_worldNow_49 rfl rfl ?_
        obtain ⟨e75, f76, th_77, td_78, ds_79, fr_80, ca_81, us_82, wo_83, cm_84, lc_85, lh_86, ld_87, rfl, k88, k89, k90, k91, k92, k93, k94, k95, k96, k97, k98, k99, k100, k101, k102, k103, k104, k105, k106, k107, k108, k109⟩ := sp58.1 x 36 kx (by decide)
        refine tw_get (v := .ref lh_86) rfl in_14 10 dX10_worldNow_50 w_1161 rfl (by decide) f76 rfl ?_
        obtain ⟨e110, f111, ⟨el112, rfl, k113⟩, k114⟩ := sp58.1 lh_86 25 k95 (by decide)
        refine tw_br (tw_callV (M := mX10_worldNow) (pc := 53) okJx4a65c_iterator_32c93 dX10_worldNow_53 w_1382 rfl f111 [] [] rfl rfl ⟨by decide, by decide⟩ (Nat.le_of_ble_eq_true rfl) (c_iterator d h57 lh_86 el112 (g.1 4) (nI (g.2 4)) f111) 1 6 (Nat.le_of_ble_eq_true rfl) (Nat.le_of_ble_eq_true rfl)) (fun it115 h116 q117 => ?_) (fun E h1 q => q.elim)
        obtain ⟨q117n, q117e⟩ := q117
        rw [q117e]
        have n118 := sp58.nn q117n
        have z119 := sp58.1.none q117n
        have ne120 := tw_neF ft59 q117n
        obtain ⟨h121, eh121⟩ : ∃ z : tw_H, z = tw_up h57 it115 (.inr (2, [.int 0, .int (-1), .int (g.1 4), .ref lh_86])) := ⟨_, rfl⟩
        rw [← eh121]
        have th122 : tw_th (h121 x) = tw_th (h x) := by rw [eh121, tw_up_n (tw_kF sp58.1 kx (by decide) q117n)] <;> exact th61
        have oq123 : h121 o = h o := by rw [eh121, tw_up_n (tw_kF sp58.1 ko (by decide) q117n)] <;> exact oq62
        have sp124 : tw_sp d τ (tw_rm h46 it41) g τ h121 := by rw [eh121]; exact sp58.mk q117n
        have f125 : h121 it41 = some (.inr (2, [.int (nI j53), .int l54, .int (g.1 3), .ref lc_11])) := by rw [eh121, tw_up_n ne120]; exact ft59
        have f126 : h121 it115 = some (.inr (2, [.int 0, .int (-1), .int (g.1 4), .ref lh_86])) := by rw [eh121]; exact tw_up_s
        refine tw_astore [(7, .ref it115), (0, .ref x), (1, .int (nI k)), (2, .int (nI w)), (3, .long x51), (5, .long 0)] dX10_worldNow_56 (by decide) rfl ?_
        have L132 : ∀ (r128 j129 : Nat) (l130 : Int32) (x127 : Int64) (h133 : tw_H) (sp134 : tw_sp d τ (tw_rm h121 it115) g τ h133) (ft135 : h133 it115 = some (.inr (2, [.int (nI j129), .int l130, .int (g.1 4), .ref lh_86]))) (zt136 : τ it115 = 0) (th137 : tw_th (h133 x) = tw_th (h x)) (oq138 : h133 o = h o) (li139 : x127 = tw_L (tw_sum (fun j => tw_DN (g.1 (960 + 32 * j + 8 + k))) j129)), g.2 4 + 1 ≤ j129 + r128 → j129 ≤ g.2 4 → tw_W d mX10_worldNow (tw_qi (fun r h1 => tw_sp d τ h g τ h1 ∧ tw_th (h1 x) = tw_th (h x) ∧ h1 o = h o ∧ r = nI (tw_wM g k w)) tw_nx) 58 [(0, .ref x), (1, .int (nI k)), (2, .int (nI w)), (3, .long x51), (5, .long x127), (7, .ref it115)] [] h133 1 6 := by
          intro r128
          induction r128 with
          | zero => intro j129 l130 x127 h133 sp134 ft135 zt136 th137 oq138 li139 hk140 hk141; exact absurd hk140 (by omega)
          | succ r128 ih131 =>
            intro j129 l130 x127 h133 sp134 ft135 zt136 th137 oq138 li139 hk140 hk141
            have f142 := (sp134.2.2 _ _ (by unfold tw_rm; rw [if_neg ne120]; exact f125) zt60).1
            have z143 := (sp134.2.2 _ _ (by unfold tw_rm; rw [if_neg ne120]; exact f125) zt60).2
            refine tw_aload 5 dX10_worldNow_58 rfl ?_
            obtain ⟨e144, f145, ⟨el146, rfl, k147⟩, k148⟩ := sp134.1 lh_86 25 k95 (by decide)
            refine tw_bi (tw_callF (M := mX10_worldNow) (pc := 60) (n9 := 0) (ci := 2) tw_hasNext ok_itHas w_1412 w_1410 (fun s H z => z.2.2.2.2.2.2.2.2.1) (by decide +kernel) dX10_worldNow_60 w_1406 rfl ft135 [] [] rfl rfl ⟨by decide, by decide⟩ (Nat.le_of_ble_eq_true rfl) (c_hasNext d h133 it115 lh_86 el146 j129 (g.2 4) l130 (g.1 4) (g.1 4) ft135 f145 (by omega) (tw_lim25 sp134.1 k95)) 1 6 (Nat.le_of_ble_eq_true rfl) (Nat.le_of_ble_eq_true rfl)) (fun r151 h150 q149 => ?_) (fun E h1 q => q.elim)
            obtain ⟨q149e, q149q⟩ := q149
            rw [q149e]
            rcases q149q with ⟨q149r, q149j⟩ | ⟨q149r, q149j⟩
            · rw [q149r]
              refine tw_if_eq 95 dX10_worldNow_65 (by decide) (fun _ => ?_) (fun c152 => absurd (by decide) c152)
              have s19 : x127 = tw_L (tw_wM g k 1) := by rw [li139, show j129 = g.2 4 by have z := q149j; omega]; rfl
              refine tw_bipush (v := 6) dX10_worldNow_95 (by decide) ?_
              refine tw_newa (a0 := (6, .inr (.inl (fun _ => 0)))) 1 rfl dX10_worldNow_97 rfl w_1150 (fun _ => rfl) (by decide) (by decide) (by decide) 0 0 (Nat.le_of_ble_eq_true rfl) (Nat.le_of_ble_eq_true rfl) (fun q153 hq154 hA155 => ?_)
              have n156 := sp134.nn hq154
              have z157 := sp134.1.none hq154
              have ne158 := tw_neF f142 hq154
              have ne159 := tw_neF ft135 hq154
              obtain ⟨h160, eh160⟩ : ∃ z : tw_H, z = tw_up h133 q153 (.inl (d.2 1, 6, .inr (.inl (fun _ => 0)))) := ⟨_, rfl⟩
              rw [← eh160]
              have th161 : tw_th (h160 x) = tw_th (h x) := by rw [eh160, tw_up_n (tw_kF sp134.1 kx (by decide) hq154)] <;> exact th137
              have oq162 : h160 o = h o := by rw [eh160, tw_up_n (tw_kF sp134.1 ko (by decide) hq154)] <;> exact oq138
              have sp163 : tw_sp d τ (tw_rm h121 it115) g τ h160 := by rw [eh160]; exact sp134.mk hq154
              have f164 : h160 it41 = some (.inr (2, [.int (nI j53), .int l54, .int (g.1 3), .ref lc_11])) := by rw [eh160, tw_up_n ne158]; exact f142
              have f165 : h160 it115 = some (.inr (2, [.int (nI j129), .int l130, .int (g.1 4), .ref lh_86])) := by rw [eh160, tw_up_n ne159]; exact ft135
              have f166 : h160 q153 = some (.inl (d.2 1, 6, .inr (.inl (fun _ => 0)))) := by rw [eh160]; exact tw_up_s
              refine tw_dup dX10_worldNow_99 rfl ?_
              refine tw_iconst (v := 0) dX10_worldNow_100 (by decide) ?_
              refine tw_lload_n 3 dX10_worldNow_101 rfl rfl ?_
              refine tw_last dX10_worldNow_102 f166 (vp_in_nI (n := 0) (by decide) (by decide)) ?_
              obtain ⟨F167, eF167⟩ : ∃ z : Nat → Int64, z = vp_updL (fun _ => 0) (0 : Int32).toNatClampNeg x51 := ⟨_, rfl⟩
              rw [← eF167]
              obtain ⟨h168, eh168⟩ : ∃ z : tw_H, z = tw_up h160 q153 (.inl (d.2 1, 6, .inr (.inl F167))) := ⟨_, rfl⟩
              rw [← eh168]
              have th169 : tw_th (h168 x) = tw_th (h x) := by rw [eh168, tw_up_n (tw_nk kx z157 (by decide))] <;> exact th161
              have oq170 : h168 o = h o := by rw [eh168, tw_up_n (tw_nk ko z157 (by decide))] <;> exact oq162
              have sp171 : tw_sp d τ (tw_rm h121 it115) g τ h168 := by rw [eh168]; exact sp163.wl n156 z157
              have f172 : h168 it41 = some (.inr (2, [.int (nI j53), .int l54, .int (g.1 3), .ref lc_11])) := by rw [eh168, tw_up_n ne158]; exact f164
              have f173 : h168 it115 = some (.inr (2, [.int (nI j129), .int l130, .int (g.1 4), .ref lh_86])) := by rw [eh168, tw_up_n ne159]; exact f165
              have f174 : h168 q153 = some (.inl (d.2 1, 6, .inr (.inl F167))) := by rw [eh168]; exact tw_up_s
              refine tw_dup dX10_worldNow_103 rfl ?_
              refine tw_iconst (v := 1) dX10_worldNow_104 (by decide) ?_
              refine tw_lload 4 dX10_worldNow_105 rfl ?_
              refine tw_last dX10_worldNow_107 f174 (vp_in_nI (n := 1) (by decide) (by decide)) ?_
              obtain ⟨F175, eF175⟩ : ∃ z : Nat → Int64, z = vp_updL F167 (1 : Int32).toNatClampNeg x127 := ⟨_, rfl⟩
              rw [← eF175]
              obtain ⟨h176, eh176⟩ : ∃ z : tw_H, z = tw_up h168 q153 (.inl (d.2 1, 6, .inr (.inl F175))) := ⟨_, rfl⟩
              rw [← eh176]
              have th177 : tw_th (h176 x) = tw_th (h x) := by rw [eh176, tw_up_n (tw_nk kx z157 (by decide))] <;> exact th169
              have oq178 : h176 o = h o := by rw [eh176, tw_up_n (tw_nk ko z157 (by decide))] <;> exact oq170
              have sp179 : tw_sp d τ (tw_rm h121 it115) g τ h176 := by rw [eh176]; exact sp171.wl n156 z157
              have f180 : h176 it41 = some (.inr (2, [.int (nI j53), .int l54, .int (g.1 3), .ref lc_11])) := by rw [eh176, tw_up_n ne158]; exact f172
              have f181 : h176 it115 = some (.inr (2, [.int (nI j129), .int l130, .int (g.1 4), .ref lh_86])) := by rw [eh176, tw_up_n ne159]; exact f173
              have f182 : h176 q153 = some (.inl (d.2 1, 6, .inr (.inl F175))) := by rw [eh176]; exact tw_up_s
              refine tw_dup dX10_worldNow_108 rfl ?_
              refine tw_iconst (v := 2) dX10_worldNow_109 (by decide) ?_
              refine tw_aload_n 0 dX10_worldNow_110 rfl rfl ?_
              obtain ⟨e183, f184, th_185, td_186, ds_187, fr_188, ca_189, us_190, wo_191, cm_192, lc_193, lh_194, ld_195, rfl, k196, k197, k198, k199, k200, k201, k202, k203, k204, k205, k206, k207, k208, k209, k210, k211, k212, k213, k214, k215, k216, k217⟩ := sp179.1 x 36 kx (by decide)
              refine tw_get (v := .ref ca_189) rfl in_14 5 dX10_worldNow_111 w_1156 rfl (by decide) f184 rfl ?_
              refine tw_iload_n 1 dX10_worldNow_114 rfl rfl ?_
              obtain ⟨e218, f219, F220, rfl, ⟨b222, ow223, wv224⟩⟩ := sp179.1 ca_189 31 k198 (by decide)
              obtain rfl : 1344 = b222 := (ow223.b k214).symm
              have ev225 : F220 ((nI k)).toNatClampNeg = (g.1 (1344 + k)).toInt64 := by rw [nI_clamp (by omega)]; exact wv224 k (by omega)
              refine tw_lald (v := (g.1 (1344 + k)).toInt64) dX10_worldNow_115 f219 (vp_in_nI (by omega) (by decide)) ev225 ?_
              refine tw_last dX10_worldNow_116 f182 (vp_in_nI (n := 2) (by decide) (by decide)) ?_
              obtain ⟨F226, eF226⟩ : ∃ z : Nat → Int64, z = vp_updL F175 (2 : Int32).toNatClampNeg ((g.1 (1344 + k)).toInt64) := ⟨_, rfl⟩
              rw [← eF226]
              obtain ⟨h227, eh227⟩ : ∃ z : tw_H, z = tw_up h176 q153 (.inl (d.2 1, 6, .inr (.inl F226))) := ⟨_, rfl⟩
              rw [← eh227]
              have th228 : tw_th (h227 x) = tw_th (h x) := by rw [eh227, tw_up_n (tw_nk kx z157 (by decide))] <;> exact th177
              have oq229 : h227 o = h o := by rw [eh227, tw_up_n (tw_nk ko z157 (by decide))] <;> exact oq178
              have sp230 : tw_sp d τ (tw_rm h121 it115) g τ h227 := by rw [eh227]; exact sp179.wl n156 z157
              have f231 : h227 it41 = some (.inr (2, [.int (nI j53), .int l54, .int (g.1 3), .ref lc_11])) := by rw [eh227, tw_up_n ne158]; exact f180
              have f232 : h227 it115 = some (.inr (2, [.int (nI j129), .int l130, .int (g.1 4), .ref lh_86])) := by rw [eh227, tw_up_n ne159]; exact f181
              have f233 : h227 q153 = some (.inl (d.2 1, 6, .inr (.inl F226))) := by rw [eh227]; exact tw_up_s
              refine tw_dup dX10_worldNow_117 rfl ?_
              refine tw_iconst (v := 3) dX10_worldNow_118 (by decide) ?_
              refine tw_aload_n 0 dX10_worldNow_119 rfl rfl ?_
              obtain ⟨e234, f235, th_236, td_237, ds_238, fr_239, ca_240, us_241, wo_242, cm_243, lc_244, lh_245, ld_246, rfl, k247, k248, k249, k250, k251, k252, k253, k254, k255, k256, k257, k258, k259, k260, k261, k262, k263, k264, k265, k266, k267, k268⟩ := sp230.1 x 36 kx (by decide)
              refine tw_get (v := .ref us_241) rfl in_14 6 dX10_worldNow_120 w_1157 rfl (by decide) f235 rfl ?_
              refine tw_iload_n 1 dX10_worldNow_123 rfl rfl ?_
              obtain ⟨e269, f270, F271, rfl, ⟨b273, ow274, wv275⟩⟩ := sp230.1 us_241 31 k250 (by decide)
              obtain rfl : 1352 = b273 := (ow274.b k266).symm
              have ev276 : F271 ((nI k)).toNatClampNeg = (g.1 (1352 + k)).toInt64 := by rw [nI_clamp (by omega)]; exact wv275 k (by omega)
              refine tw_lald (v := (g.1 (1352 + k)).toInt64) dX10_worldNow_124 f270 (vp_in_nI (by omega) (by decide)) ev276 ?_
              refine tw_last dX10_worldNow_125 f233 (vp_in_nI (n := 3) (by decide) (by decide)) ?_
              obtain ⟨F277, eF277⟩ : ∃ z : Nat → Int64, z = vp_updL F226 (3 : Int32).toNatClampNeg ((g.1 (1352 + k)).toInt64) := ⟨_, rfl⟩
              rw [← eF277]
              obtain ⟨h278, eh278⟩ : ∃ z : tw_H, z = tw_up h227 q153 (.inl (d.2 1, 6, .inr (.inl F277))) := ⟨_, rfl⟩
              rw [← eh278]
              have th279 : tw_th (h278 x) = tw_th (h x) := by rw [eh278, tw_up_n (tw_nk kx z157 (by decide))] <;> exact th228
              have oq280 : h278 o = h o := by rw [eh278, tw_up_n (tw_nk ko z157 (by decide))] <;> exact oq229
              have sp281 : tw_sp d τ (tw_rm h121 it115) g τ h278 := by rw [eh278]; exact sp230.wl n156 z157
              have f282 : h278 it41 = some (.inr (2, [.int (nI j53), .int l54, .int (g.1 3), .ref lc_11])) := by rw [eh278, tw_up_n ne158]; exact f231
              have f283 : h278 it115 = some (.inr (2, [.int (nI j129), .int l130, .int (g.1 4), .ref lh_86])) := by rw [eh278, tw_up_n ne159]; exact f232
              have f284 : h278 q153 = some (.inl (d.2 1, 6, .inr (.inl F277))) := by rw [eh278]; exact tw_up_s
              refine tw_dup dX10_worldNow_126 rfl ?_
              refine tw_iconst (v := 4) dX10_worldNow_127 (by decide) ?_
              refine tw_aload_n 0 dX10_worldNow_128 rfl rfl ?_
              obtain ⟨e285, f286, th_287, td_288, ds_289, fr_290, ca_291, us_292, wo_293, cm_294, lc_295, lh_296, ld_297, rfl, k298, k299, k300, k301, k302, k303, k304, k305, k306, k307, k308, k309, k310, k311, k312, k313, k314, k315, k316, k317, k318, k319⟩ := sp281.1 x 36 kx (by decide)
              refine tw_get (v := .ref wo_293) rfl in_14 7 dX10_worldNow_129 w_1158 rfl (by decide) f286 rfl ?_
              refine tw_iload_n 1 dX10_worldNow_132 rfl rfl ?_
              obtain ⟨e320, f321, F322, rfl, ⟨b324, ow325, wv326⟩⟩ := sp281.1 wo_293 31 k302 (by decide)
              obtain rfl : 1360 = b324 := (ow325.b k318).symm
              have ev327 : F322 ((nI k)).toNatClampNeg = (g.1 (1360 + k)).toInt64 := by rw [nI_clamp (by omega)]; exact wv326 k (by omega)
              refine tw_lald (v := (g.1 (1360 + k)).toInt64) dX10_worldNow_133 f321 (vp_in_nI (by omega) (by decide)) ev327 ?_
              refine tw_last dX10_worldNow_134 f284 (vp_in_nI (n := 4) (by decide) (by decide)) ?_
              obtain ⟨F328, eF328⟩ : ∃ z : Nat → Int64, z = vp_updL F277 (4 : Int32).toNatClampNeg ((g.1 (1360 + k)).toInt64) := ⟨_, rfl⟩
              rw [← eF328]
              obtain ⟨h329, eh329⟩ : ∃ z : tw_H, z = tw_up h278 q153 (.inl (d.2 1, 6, .inr (.inl F328))) := ⟨_, rfl⟩
              rw [← eh329]
              have th330 : tw_th (h329 x) = tw_th (h x) := by rw [eh329, tw_up_n (tw_nk kx z157 (by decide))] <;> exact th279
              have oq331 : h329 o = h o := by rw [eh329, tw_up_n (tw_nk ko z157 (by decide))] <;> exact oq280
              have sp332 : tw_sp d τ (tw_rm h121 it115) g τ h329 := by rw [eh329]; exact sp281.wl n156 z157
              have f333 : h329 it41 = some (.inr (2, [.int (nI j53), .int l54, .int (g.1 3), .ref lc_11])) := by rw [eh329, tw_up_n ne158]; exact f282
              have f334 : h329 it115 = some (.inr (2, [.int (nI j129), .int l130, .int (g.1 4), .ref lh_86])) := by rw [eh329, tw_up_n ne159]; exact f283
              have f335 : h329 q153 = some (.inl (d.2 1, 6, .inr (.inl F328))) := by rw [eh329]; exact tw_up_s
              refine tw_dup dX10_worldNow_135 rfl ?_
              refine tw_iconst (v := 5) dX10_worldNow_136 (by decide) ?_
              refine tw_aload_n 0 dX10_worldNow_137 rfl rfl ?_
              obtain ⟨e336, f337, th_338, td_339, ds_340, fr_341, ca_342, us_343, wo_344, cm_345, lc_346, lh_347, ld_348, rfl, k349, k350, k351, k352, k353, k354, k355, k356, k357, k358, k359, k360, k361, k362, k363, k364, k365, k366, k367, k368, k369, k370⟩ := sp332.1 x 36 kx (by decide)
              refine tw_get (v := .ref cm_345) rfl in_14 8 dX10_worldNow_138 w_1159 rfl (by decide) f337 rfl ?_
              refine tw_iload_n 1 dX10_worldNow_141 rfl rfl ?_
              obtain ⟨e371, f372, F373, rfl, ⟨b375, ow376, wv377⟩⟩ := sp332.1 cm_345 31 k354 (by decide)
              obtain rfl : 1368 = b375 := (ow376.b k370).symm
              have ev378 : F373 ((nI k)).toNatClampNeg = (g.1 (1368 + k)).toInt64 := by rw [nI_clamp (by omega)]; exact wv377 k (by omega)
              refine tw_lald (v := (g.1 (1368 + k)).toInt64) dX10_worldNow_142 f372 (vp_in_nI (by omega) (by decide)) ev378 ?_
              refine tw_last dX10_worldNow_143 f335 (vp_in_nI (n := 5) (by decide) (by decide)) ?_
              obtain ⟨F379, eF379⟩ : ∃ z : Nat → Int64, z = vp_updL F328 (5 : Int32).toNatClampNeg ((g.1 (1368 + k)).toInt64) := ⟨_, rfl⟩
              rw [← eF379]
              obtain ⟨h380, eh380⟩ : ∃ z : tw_H, z = tw_up h329 q153 (.inl (d.2 1, 6, .inr (.inl F379))) := ⟨_, rfl⟩
              rw [← eh380]
              have th381 : tw_th (h380 x) = tw_th (h x) := by rw [eh380, tw_up_n (tw_nk kx z157 (by decide))] <;> exact th330
              have oq382 : h380 o = h o := by rw [eh380, tw_up_n (tw_nk ko z157 (by decide))] <;> exact oq331
              have sp383 : tw_sp d τ (tw_rm h121 it115) g τ h380 := by rw [eh380]; exact sp332.wl n156 z157
              have f384 : h380 it41 = some (.inr (2, [.int (nI j53), .int l54, .int (g.1 3), .ref lc_11])) := by rw [eh380, tw_up_n ne158]; exact f333
              have f385 : h380 it115 = some (.inr (2, [.int (nI j129), .int l130, .int (g.1 4), .ref lh_86])) := by rw [eh380, tw_up_n ne159]; exact f334
              have f386 : h380 q153 = some (.inl (d.2 1, 6, .inr (.inl F379))) := by rw [eh380]; exact tw_up_s
              refine tw_astore [(7, .ref q153), (0, .ref x), (1, .int (nI k)), (2, .int (nI w)), (3, .long x51), (5, .long x127)] dX10_worldNow_144 (by decide) rfl ?_
              refine tw_aload 0 dX10_worldNow_146 rfl ?_
              refine tw_iload_n 3 dX10_worldNow_148 rfl rfl ?_
              obtain ⟨v387, ev387⟩ : ∃ y : Int64, F379 ((nI w)).toNatClampNeg = y := ⟨_, rfl⟩
              refine tw_lald (v := v387) dX10_worldNow_149 f386 (vp_in_nI (by omega) (by decide)) ev387 ?_
              refine tw_l2i dX10_worldNow_150 ?_
              refine tw_nmi (fun v388 ev388 => ?_)
              have rv9 : v388 = nI (tw_wM g k w) := by
                rw [ev388, ← ev387, nI_clamp (by omega), eF379, eF328, eF277, eF226, eF175, eF167]
                rw [show ((0 : Int32)).toNatClampNeg = 0 by decide]
                rw [show ((1 : Int32)).toNatClampNeg = 1 by decide]
                rw [show ((2 : Int32)).toNatClampNeg = 2 by decide]
                rw [show ((3 : Int32)).toNatClampNeg = 3 by decide]
                rw [show ((4 : Int32)).toNatClampNeg = 4 by decide]
                rw [show ((5 : Int32)).toNatClampNeg = 5 by decide]
                rcases (show w = 0 ∨ w = 1 ∨ w = 2 ∨ w = 3 ∨ w = 4 ∨ w = 5 by omega) with rfl | rfl | rfl | rfl | rfl | rfl
                · exact (congrArg Int64.toInt32 s09).trans (tw_L_32 (Nat.lt_of_le_of_lt (he.wle hk (w := 0) (by decide) b93 b94) (by decide)))
                · exact (congrArg Int64.toInt32 s19).trans (tw_L_32 (Nat.lt_of_le_of_lt (he.wle hk (w := 1) (by decide) b93 b94) (by decide)))
                · exact (Int32.toInt32_toInt64 _).trans (he.s (s := 0) (k := k) (by decide) hk).1
                · exact (Int32.toInt32_toInt64 _).trans (he.s (s := 1) (k := k) (by decide) hk).1
                · exact (Int32.toInt32_toInt64 _).trans (he.s (s := 2) (k := k) (by decide) hk).1
                · exact (Int32.toInt32_toInt64 _).trans (he.s (s := 3) (k := k) (by decide) hk).1
              exact tw_iret dX10_worldNow_151 rfl (Or.inl ⟨_, rfl, (sp49.trm n44 (sp124.trm n118 sp383)), th381, oq382, rv9⟩)
            · rw [q149r]
              refine tw_if_eq 95 dX10_worldNow_65 (by decide) (fun c389 => absurd c389 (by decide)) (fun _ => ?_)
              refine tw_aload 5 dX10_worldNow_68 rfl ?_
              have k390 : τ el146 = 28 := k147.resolve_left (fun q => absurd q149j (by rw [q.2.1]; exact Nat.not_lt_zero _))
              obtain ⟨e391, f392, ⟨F393, rfl, hc394, hc395⟩, un396⟩ := sp134.1 el146 28 k390 (by decide)
              obtain ⟨y397, hy398, ky399⟩ := hc395 j129 q149j
              refine tw_br (tw_callF (M := mX10_worldNow) (pc := 70) (n9 := 0) (ci := 2) tw_next ok_itNext w_1421 w_1419 (fun s H z => z.2.2.2.2.2.2.2.2.2) (by decide +kernel) dX10_worldNow_70 w_1416 rfl ft135 [] [] rfl rfl ⟨by decide, by decide⟩ (Nat.le_of_ble_eq_true rfl) (c_next d h133 it115 lh_86 el146 j129 (g.2 4) y397 l130 (g.1 4) F393 ft135 f145 f392 q149j hc394 hy398) 1 6 (Nat.le_of_ble_eq_true rfl) (Nat.le_of_ble_eq_true rfl)) (fun r402 h401 q400 => ?_) (fun E h1 q => q.elim)
              obtain ⟨q400r, q400e⟩ := q400
              rw [q400r]
              have sp403 : tw_sp d τ (tw_rm h121 it115) g τ h401 := by rw [q400e]; exact sp134.wl tw_rm_s zt136
              have id404 : g.2 (4096 + y397) = 960 + 32 * j129 := un396.2.2 _ _ F393 rfl j129 y397 q149j hy398
              have f405 : h401 it41 = some (.inr (2, [.int (nI j53), .int l54, .int (g.1 3), .ref lc_11])) := by rw [q400e, tw_up_n ne120]; exact f142
              have th406 : tw_th (h401 x) = tw_th (h x) := by rw [q400e, tw_up_n (tw_nk kx zt136 (by decide))] <;> exact th137
              have oq407 : h401 o = h o := by rw [q400e, tw_up_n (tw_nk ko zt136 (by decide))] <;> exact oq138
              have f408 : h401 it115 = some (.inr (2, [.int (nI (j129 + 1)), .int (nI j129), .int (g.1 4), .ref lh_86])) := by rw [q400e]; exact tw_up_s
              obtain ⟨e409, f410, x_411, y_412, dy_413, p_414, rfl, k415, k416, k417, k418⟩ := sp403.1 y397 23 ky399 (by decide)
              obtain ⟨j419, ow420, fd9, fa9, ft9, lp421⟩ := k418
              obtain rfl : j129 = j419 := by have z := ow420.b id404; omega
              subst fd9 fa9 ft9
              refine tw_castS (ci := 13) rfl dX10_worldNow_75 w_1332 f410 ?_
              refine tw_astore [(8, .ref y397), (0, .ref x), (1, .int (nI k)), (2, .int (nI w)), (3, .long x51), (5, .long x127), (7, .ref it115)] dX10_worldNow_78 (by decide) rfl ?_
              refine tw_lload 5 dX10_worldNow_80 rfl ?_
              refine tw_aload 0 dX10_worldNow_82 rfl ?_
              refine tw_get (v := .ref p_414) rfl in_13 3 dX10_worldNow_84 w_1344 rfl (by decide) f410 rfl ?_
              refine tw_iload_n 2 dX10_worldNow_87 rfl rfl ?_
              obtain ⟨e422, f423, F424, rfl, ⟨b426, ow427, wv428⟩⟩ := sp403.1 p_414 31 k415 (by decide)
              obtain rfl : (960 + 32 * j129 + 8) = b426 := (ow427.b lp421).symm
              have ev429 : F424 ((nI k)).toNatClampNeg = (g.1 ((960 + 32 * j129 + 8) + k)).toInt64 := by rw [nI_clamp (by omega)]; exact wv428 k (by omega)
              refine tw_lald (v := (g.1 ((960 + 32 * j129 + 8) + k)).toInt64) dX10_worldNow_88 f423 (vp_in_nI (by omega) (by decide)) ev429 ?_
              refine tw_ladd dX10_worldNow_89 ?_
              refine tw_nml (fun v430 ev430 => ?_)
              refine tw_lstore [(5, .long v430), (8, .ref y397), (0, .ref x), (1, .int (nI k)), (2, .int (nI w)), (3, .long x51), (7, .ref it115)] dX10_worldNow_90 (by decide) rfl ?_
              refine tw_goto 58 dX10_worldNow_92 (by decide) ?_
              refine tw_lv [2, 3, 4, 5, 0, 6] rfl ?_
              exact ih131 ((j129 + 1)) (nI j129) v430 _ sp403 f408 zt136 th406 oq407 (by show v430 = tw_L (tw_sum (fun j => tw_DN (g.1 (960 + 32 * j + 8 + k))) j129 + tw_DN (g.1 (960 + 32 * j129 + 8 + k))); rw [ev430, li139, (congrArg Int32.toInt64 (he.p (j := j129) (k := k) (by omega) hk).1).trans (tw_L_i (Nat.lt_of_le_of_lt (he.p (j := j129) (k := k) (by omega) hk).2 (by decide)))]; exact tw_L_ad _ _) (by omega) (by omega)
        refine tw_lv [1, 2, 3, 4, 5, 0] rfl ?_
        exact L132 (g.2 4 + 1) 0 (-1) 0 _ (tw_sp.rm sp124.1 it115) f126 z119 th122 oq123 (rfl) (by omega) (Nat.zero_le _)
      · rw [q71r]
        refine tw_if_eq 49 dX10_worldNow_21 (by decide) (fun c431 => absurd c431 (by decide)) (fun _ => ?_)
        refine tw_aload 5 dX10_worldNow_24 rfl ?_
        have k432 : τ el68 = 27 := k69.resolve_left (fun q => absurd q71j (by rw [q.2.1]; exact Nat.not_lt_zero _))
        obtain ⟨e433, f434, ⟨F435, rfl, hc436, hc437⟩, un438⟩ := sp58.1 el68 27 k432 (by decide)
        obtain ⟨y439, hy440, ky441⟩ := hc437 j53 q71j
        refine tw_br (tw_callF (M := mX10_worldNow) (pc := 26) (n9 := 0) (ci := 2) tw_next ok_itNext w_1421 w_1419 (fun s H z => z.2.2.2.2.2.2.2.2.2) (by decide +kernel) dX10_worldNow_26 w_1416 rfl ft59 [] [] rfl rfl ⟨by decide, by decide⟩ (Nat.le_of_ble_eq_true rfl) (c_next d h57 it41 lc_11 el68 j53 (g.2 3) y439 l54 (g.1 3) F435 ft59 f67 f434 q71j hc436 hy440) 2 10 (Nat.le_of_ble_eq_true rfl) (Nat.le_of_ble_eq_true rfl)) (fun r444 h443 q442 => ?_) (fun E h1 q => q.elim)
        obtain ⟨q442r, q442e⟩ := q442
        rw [q442r]
        have sp445 : tw_sp d τ (tw_rm h46 it41) g τ h443 := by rw [q442e]; exact sp58.wl tw_rm_s zt60
        have id446 : g.2 (4096 + y439) = 480 + 64 * j53 := un438.2.2 _ _ F435 rfl j53 y439 q71j hy440
        have th447 : tw_th (h443 x) = tw_th (h x) := by rw [q442e, tw_up_n (tw_nk kx zt60 (by decide))] <;> exact th61
        have oq448 : h443 o = h o := by rw [q442e, tw_up_n (tw_nk ko zt60 (by decide))] <;> exact oq62
        have f449 : h443 it41 = some (.inr (2, [.int (nI (j53 + 1)), .int (nI j53), .int (g.1 3), .ref lc_11])) := by rw [q442e]; exact tw_up_s
        obtain ⟨e450, f451, r_452, c_453, v_454, o_455, t_456, rfl, k457, k458, k459, k460, k461, k462⟩ := sp445.1 y439 21 ky441 (by decide)
        obtain ⟨j463, ow464, fr9, fc9, q465, q466, q467⟩ := k462
        obtain rfl : j53 = j463 := by have z := ow464.b id446; omega
        subst fr9 fc9
        refine tw_castS (ci := 11) rfl dX10_worldNow_31 w_1208 f451 ?_
        refine tw_astore [(8, .ref y439), (0, .ref x), (1, .int (nI k)), (2, .int (nI w)), (3, .long x51), (5, .long 0), (7, .ref it41)] dX10_worldNow_34 (by decide) rfl ?_
        refine tw_lload_n 4 dX10_worldNow_36 rfl rfl ?_
        refine tw_aload 0 dX10_worldNow_37 rfl ?_
        refine tw_get (v := .ref v_454) rfl in_11 2 dX10_worldNow_39 w_1217 rfl (by decide) f451 rfl ?_
        refine tw_iload_n 2 dX10_worldNow_42 rfl rfl ?_
        obtain ⟨e468, f469, F470, rfl, ⟨b472, ow473, wv474⟩⟩ := sp445.1 v_454 31 k457 (by decide)
        obtain rfl : (480 + 64 * j53 + 16) = b472 := (ow473.b q467).symm
        have ev475 : F470 ((nI k)).toNatClampNeg = (g.1 ((480 + 64 * j53 + 16) + k)).toInt64 := by rw [nI_clamp (by omega)]; exact wv474 k (by omega)
        refine tw_lald (v := (g.1 ((480 + 64 * j53 + 16) + k)).toInt64) dX10_worldNow_43 f469 (vp_in_nI (by omega) (by decide)) ev475 ?_
        refine tw_ladd dX10_worldNow_44 ?_
        refine tw_nml (fun v476 ev476 => ?_)
        refine tw_lstore_n [(3, .long v476), (8, .ref y439), (0, .ref x), (1, .int (nI k)), (2, .int (nI w)), (5, .long 0), (7, .ref it41)] dX10_worldNow_45 rfl (by decide) rfl ?_
        refine tw_goto 14 dX10_worldNow_46 (by decide) ?_
        refine tw_lv [2, 3, 4, 0, 5, 6] rfl ?_
        exact ih55 ((j53 + 1)) (nI j53) v476 _ sp445 f449 zt60 th447 oq448 (by show v476 = tw_L (tw_sum (fun j => tw_DN (g.1 (480 + 64 * j + 16 + k))) j53 + tw_DN (g.1 (480 + 64 * j53 + 16 + k))); rw [ev476, li63, (congrArg Int32.toInt64 (he.v (j := j53) (k := k) (by omega) hk).1).trans (tw_L_i (Nat.lt_of_le_of_lt (he.v (j := j53) (k := k) (by omega) hk).2 (by decide)))]; exact tw_L_ad _ _) (by omega) (by omega)
  refine tw_lv [3, 4, 5, 2, 1, 0] rfl ?_
  exact L56 (g.2 3 + 1) 0 (-1) 0 _ (tw_sp.rm sp49.1 it41) f50 z45 th47 oq48 (rfl) (by omega) (Nat.zero_le _)

set_option maxHeartbeats 4000000 in
set_option maxRecDepth 100000 in
theorem c4_X10_lastNow (d : tw_D) (g : tw_G) (τ : tw_K) (h : tw_H) (hw : tw_wt d g τ h)  (x : Nat) (kx : τ x = 36) (a : Nat) (ha : a < g.2 3) (k : Nat) (hk : k < 2) (n : Nat) (hn : n ≤ 99999) (L0 : Nat) (eL : g.1 (480 + 64 * a + 16 + k) = nI L0) (hL : L0 ≤ 59000000) : tw_Ct d mX10_lastNow 0 0 [.ref x, .int (nI a), .int (nI k), .int (nI n)] h (tw_qi (fun r h1 => h1 = h ∧ r = tw_ld (g.2 22) k n (3001 - g.2 22) (g.2 22) L0) tw_nx) := by
  refine tw_of (by decide +kernel) (Nat.le_of_ble_eq_true rfl) ?_
  show tw_W d mX10_lastNow _ 0 [(0, .ref x), (1, .int (nI a)), (2, .int (nI k)), (3, .int (nI n))] [] h 0 0
  have sp0 := tw_sp.rf hw
  have b9 := tw_b3 hw kx
  refine tw_aload_n 0 dX10_lastNow_0 rfl rfl ?_
  obtain ⟨e1, f2, th_3, td_4, ds_5, fr_6, ca_7, us_8, wo_9, cm_10, lc_11, lh_12, ld_13, rfl, k14, k15, k16, k17, k18, k19, k20, k21, k22, k23, k24, k25, k26, k27, k28, k29, k30, k31, k32, k33, k34, k35⟩ := sp0.1 x 36 kx (by decide)
  refine tw_get (v := .ref lc_11) rfl in_14 9 dX10_lastNow_1 w_1160 rfl (by decide) f2 rfl ?_
  refine tw_iload_n 1 dX10_lastNow_4 rfl rfl ?_
  obtain ⟨e36, f37, ⟨el38, rfl, k39⟩, k40⟩ := sp0.1 lc_11 24 k20 (by decide)
  refine tw_br (tw_callV (M := mX10_lastNow) (pc := 5) okJx4a65c_get_915e3 dX10_lastNow_5 w_1292 rfl f37 [.int (nI a)] [] rfl rfl ⟨by decide, by decide⟩ (Nat.le_of_ble_eq_true rfl) (c24_get d g τ h sp0.1 lc_11 k20 a (by omega) (by omega)) 0 0 (Nat.le_of_ble_eq_true rfl) (Nat.le_of_ble_eq_true rfl)) (fun r43 h42 q41 => ?_) (fun E h1 q => q.elim)
  obtain ⟨q41e, q41k⟩ := q41
  rw [q41e]
  have el44 : tw_el h (g.2 12) a = r43 := by rw [← k40]; exact q41k.2.symm
  have kl45 : τ (g.2 12) = 24 := by rw [← k40]; exact k20
  have id46 : g.2 (4096 + r43) = 480 + 64 * a := by rw [← el44]; exact tw_eli24 sp0.1 kl45 (by omega)
  obtain ⟨e47, f48, r_49, c_50, v_51, o_52, t_53, rfl, k54, k55, k56, k57, k58, k59⟩ := sp0.1 r43 21 q41k.1 (by decide)
  obtain ⟨j60, ow61, fr9, fc9, q62, q63, q64⟩ := k59
  obtain rfl : a = j60 := by have z := ow61.b id46; omega
  subst fr9 fc9
  refine tw_castS (ci := 11) rfl dX10_lastNow_8 w_1208 f48 ?_
  refine tw_get (v := .ref v_51) rfl in_11 2 dX10_lastNow_11 w_1217 rfl (by decide) f48 rfl ?_
  refine tw_iload_n 2 dX10_lastNow_14 rfl rfl ?_
  obtain ⟨e65, f66, F67, rfl, ⟨b69, ow70, wv71⟩⟩ := sp0.1 v_51 31 k54 (by decide)
  obtain rfl : (480 + 64 * a + 16) = b69 := (ow70.b q64).symm
  have ev72 : F67 ((nI k)).toNatClampNeg = (g.1 ((480 + 64 * a + 16) + k)).toInt64 := by rw [nI_clamp (by omega)]; exact wv71 k (by omega)
  refine tw_lald (v := (g.1 ((480 + 64 * a + 16) + k)).toInt64) dX10_lastNow_15 f66 (vp_in_nI (by omega) (by decide)) ev72 ?_
  refine tw_lstore [(4, .long ((g.1 ((480 + 64 * a + 16) + k)).toInt64)), (0, .ref x), (1, .int (nI a)), (2, .int (nI k)), (3, .int (nI n))] dX10_lastNow_16 (by decide) rfl ?_
  refine tw_aload_n 1 dX10_lastNow_18 rfl rfl ?_
  refine tw_get (v := .int td_4) rfl in_14 1 dX10_lastNow_19 w_1152 rfl (by decide) f2 rfl ?_
  refine tw_istore [(6, .int td_4), (4, .long ((g.1 ((480 + 64 * a + 16) + k)).toInt64)), (0, .ref x), (1, .int (nI a)), (2, .int (nI k)), (3, .int (nI n))] dX10_lastNow_22 (by decide) rfl ?_
  have L77 : ∀ (r75 : Nat) (x73 : Int64) (x74 : Int32), (∃ D L, x74 = nI D ∧ x73 = tw_L L ∧ g.2 22 ≤ D ∧ D ≤ 3001 ∧ L ≤ 59000000 ∧ tw_ld (g.2 22) k n (3001 - g.2 22) (g.2 22) L0 = tw_ld (g.2 22) k n (3001 - D) D L) → ((3001 : Int) - x74.toInt).toNat < r75 → tw_W d mX10_lastNow (tw_qi (fun r h1 => h1 = h ∧ r = tw_ld (g.2 22) k n (3001 - g.2 22) (g.2 22) L0) tw_nx) 24 [(0, .ref x), (1, .int (nI a)), (2, .int (nI k)), (3, .int (nI n)), (4, .long x73), (6, .int x74)] [] h 0 0 := by
    intro r75
    induction r75 with
    | zero => intro x73 x74 hi81 hk80; exact absurd hk80 (Nat.not_lt_zero _)
    | succ r75 ih76 =>
      intro x73 x74 hi81 hk80
      refine tw_iload 5 dX10_lastNow_24 rfl ?_
      obtain ⟨D, L, eD, eL9, hT9, hD31, hL9, eq9⟩ := hi81
      subst eD
      refine tw_sipush (v := 3000) dX10_lastNow_26 (by decide) ?_
      refine tw_icmp_gt 89 dX10_lastNow_29 (by decide) (fun c82 => ?_) (fun c82 => ?_)
      · have hD9 : D = 3001 := by have z := c82; rw [show (3000 : Int32) = nI 3000 from rfl] at z; have y := (nI_ltI (by decide) (by omega)).mp z; omega
        refine tw_iconst (v := -1) dX10_lastNow_89 (by decide) ?_
        exact tw_iret dX10_lastNow_90 rfl (Or.inl ⟨_, rfl, rfl, by rw [eq9, hD9]; rfl⟩)
      · have hD9 : D ≤ 3000 := by have z := c82; rw [show (3000 : Int32) = nI 3000 from rfl] at z; rcases Nat.lt_or_ge 3000 D with y | y; exact absurd ((nI_ltI (by decide) (by omega)).mpr y) z; exact y
        refine tw_iload 5 dX10_lastNow_32 rfl ?_
        refine tw_aload_n 0 dX10_lastNow_34 rfl rfl ?_
        refine tw_get (v := .int td_4) rfl in_14 1 dX10_lastNow_35 w_1152 rfl (by decide) f2 rfl ?_
        refine tw_icmp_le 65 dX10_lastNow_38 (by decide) (fun c83 => ?_) (fun c83 => ?_)
        · obtain ⟨L9, eM9⟩ : ∃ z, z = L := ⟨_, rfl⟩
          have lw9 : tw_lw (g.2 22) k D L = L9 := by rw [eM9]; exact if_neg (fun z => by have y := c83; rw [k28] at y; have y2 := (tw_nIle (by omega) (by omega)).mp y; omega)
          have l9b : L9 ≤ L := by rw [← lw9]; exact tw_lw_le _ _ _ _
          have lv9 : x73 = tw_L L9 := by rw [eM9]; exact eL9
          refine tw_lload 4 dX10_lastNow_65 rfl ?_
          refine tw_iload_n 3 dX10_lastNow_67 rfl rfl ?_
          refine tw_i2l dX10_lastNow_68 ?_
          refine tw_nml (fun v84 ev84 => ?_)
          have cy9 : v84 = tw_L n := by rw [ev84]; exact tw_L_i (by omega)
          refine tw_lcmp dX10_lastNow_69 ?_
          refine tw_nmi (fun v85 ev85 => ?_)
          refine tw_if_ge 76 dX10_lastNow_70 (by decide) (fun c86 => ?_) (fun c86 => ?_)
          · have cv9 := c86
            rw [ev85, lv9, cy9] at cv9
            have ge9 : ¬ L9 < n := by have z := (tw_cmp_ge (a := L9) (b := n) (by omega) (by omega)).mp cv9; omega
            refine tw_lload 4 dX10_lastNow_76 rfl ?_
            refine tw_iload_n 3 dX10_lastNow_78 rfl rfl ?_
            refine tw_i2l dX10_lastNow_79 ?_
            refine tw_nml (fun v87 ev87 => ?_)
            refine tw_lsub dX10_lastNow_80 ?_
            refine tw_nml (fun v88 ev88 => ?_)
            refine tw_lstore [(4, .long v88), (0, .ref x), (1, .int (nI a)), (2, .int (nI k)), (3, .int (nI n)), (6, .int (nI D))] dX10_lastNow_81 (by decide) rfl ?_
            obtain ⟨v89, ev89⟩ : ∃ y : Int32, y = (nI D) + 1 := ⟨_, rfl⟩
            refine tw_iinc [(6, .int v89), (4, .long v88), (0, .ref x), (1, .int (nI a)), (2, .int (nI k)), (3, .int (nI n))] 5 dX10_lastNow_83 rfl (by rw [ev89]; rfl) (by decide) rfl ?_
            refine tw_goto 24 dX10_lastNow_86 (by decide) ?_
            refine tw_lv [2, 3, 4, 5, 1, 0] rfl ?_
            exact ih76 v88 v89 (⟨D + 1, L9 - n, by rw [ev89]; exact nI_1 D, by rw [ev88, lv9, show v87 = tw_L n from by rw [ev87]; exact tw_L_i (by omega)]; exact tw_L_sub (by omega) (by omega), by omega, by omega, by omega, by rw [eq9, tw_ld_s hD9 lw9, if_neg ge9]⟩) (tw_mle ev89 c82 hk80)
          · have cv9 := c86
            rw [ev85, lv9, cy9] at cv9
            have lt9 : L9 < n := by rcases Nat.lt_or_ge L9 n with y | y; exact y; exact absurd ((tw_cmp_ge (a := L9) (b := n) (by omega) (by omega)).mpr y) cv9
            refine tw_iload 5 dX10_lastNow_73 rfl ?_
            exact tw_iret dX10_lastNow_75 rfl (Or.inl ⟨_, rfl, rfl, by rw [eq9, tw_ld_s hD9 lw9, if_pos lt9]⟩)
        · refine tw_iload 5 dX10_lastNow_41 rfl ?_
          refine tw_bipush (v := 30) dX10_lastNow_43 (by decide) ?_
          refine tw_irem dX10_lastNow_45 (by decide) ?_
          refine tw_nmi (fun v90 ev90 => ?_)
          refine tw_if_ne 65 dX10_lastNow_46 (by decide) (fun c91 => ?_) (fun c91 => ?_)
          · have m9 : v90 = nI (D % 30) := by rw [ev90]; exact tw_I_mod (b := 30) (by omega) (by decide) (by decide)
            have wd9 : ¬ D % 30 = 0 := fun z => by have y := c91; rw [m9, z] at y; exact y rfl
            obtain ⟨L9, eM9⟩ : ∃ z, z = L := ⟨_, rfl⟩
            have lw9 : tw_lw (g.2 22) k D L = L9 := by rw [eM9]; exact if_neg (fun z => wd9 z.2.2)
            have l9b : L9 ≤ L := by rw [← lw9]; exact tw_lw_le _ _ _ _
            have lv9 : x73 = tw_L L9 := by rw [eM9]; exact eL9
            refine tw_lload 4 dX10_lastNow_65 rfl ?_
            refine tw_iload_n 3 dX10_lastNow_67 rfl rfl ?_
            refine tw_i2l dX10_lastNow_68 ?_
            refine tw_nml (fun v92 ev92 => ?_)
            have cy9 : v92 = tw_L n := by rw [ev92]; exact tw_L_i (by omega)
            refine tw_lcmp dX10_lastNow_69 ?_
            refine tw_nmi (fun v93 ev93 => ?_)
            refine tw_if_ge 76 dX10_lastNow_70 (by decide) (fun c94 => ?_) (fun c94 => ?_)
            · have cv9 := c94
              rw [ev93, lv9, cy9] at cv9
              have ge9 : ¬ L9 < n := by have z := (tw_cmp_ge (a := L9) (b := n) (by omega) (by omega)).mp cv9; omega
              refine tw_lload 4 dX10_lastNow_76 rfl ?_
              refine tw_iload_n 3 dX10_lastNow_78 rfl rfl ?_
              refine tw_i2l dX10_lastNow_79 ?_
              refine tw_nml (fun v95 ev95 => ?_)
              refine tw_lsub dX10_lastNow_80 ?_
              refine tw_nml (fun v96 ev96 => ?_)
              refine tw_lstore [(4, .long v96), (0, .ref x), (1, .int (nI a)), (2, .int (nI k)), (3, .int (nI n)), (6, .int (nI D))] dX10_lastNow_81 (by decide) rfl ?_
              obtain ⟨v97, ev97⟩ : ∃ y : Int32, y = (nI D) + 1 := ⟨_, rfl⟩
              refine tw_iinc [(6, .int v97), (4, .long v96), (0, .ref x), (1, .int (nI a)), (2, .int (nI k)), (3, .int (nI n))] 5 dX10_lastNow_83 rfl (by rw [ev97]; rfl) (by decide) rfl ?_
              refine tw_goto 24 dX10_lastNow_86 (by decide) ?_
              refine tw_lv [2, 3, 4, 5, 1, 0] rfl ?_
              exact ih76 v96 v97 (⟨D + 1, L9 - n, by rw [ev97]; exact nI_1 D, by rw [ev96, lv9, show v95 = tw_L n from by rw [ev95]; exact tw_L_i (by omega)]; exact tw_L_sub (by omega) (by omega), by omega, by omega, by omega, by rw [eq9, tw_ld_s hD9 lw9, if_neg ge9]⟩) (tw_mle ev97 c82 hk80)
            · have cv9 := c94
              rw [ev93, lv9, cy9] at cv9
              have lt9 : L9 < n := by rcases Nat.lt_or_ge L9 n with y | y; exact y; exact absurd ((tw_cmp_ge (a := L9) (b := n) (by omega) (by omega)).mpr y) cv9
              refine tw_iload 5 dX10_lastNow_73 rfl ?_
              exact tw_iret dX10_lastNow_75 rfl (Or.inl ⟨_, rfl, rfl, by rw [eq9, tw_ld_s hD9 lw9, if_pos lt9]⟩)
          · have m9 : v90 = nI (D % 30) := by rw [ev90]; exact tw_I_mod (b := 30) (by omega) (by decide) (by decide)
            have wd9 : D % 30 = 0 := by have y := c91; rw [m9] at y; exact tw_nIj (b := 0) y (by omega) (by decide)
            refine tw_iload_n 2 dX10_lastNow_49 rfl rfl ?_
            refine tw_iconst (v := 1) dX10_lastNow_50 (by decide) ?_
            refine tw_icmp_ne 65 dX10_lastNow_51 (by decide) (fun c98 => ?_) (fun c98 => ?_)
            · obtain ⟨L9, eM9⟩ : ∃ z, z = L := ⟨_, rfl⟩
              have lw9 : tw_lw (g.2 22) k D L = L9 := by rw [eM9]; exact if_neg (fun z => c98 (by rw [z.1]; rfl))
              have l9b : L9 ≤ L := by rw [← lw9]; exact tw_lw_le _ _ _ _
              have lv9 : x73 = tw_L L9 := by rw [eM9]; exact eL9
              refine tw_lload 4 dX10_lastNow_65 rfl ?_
              refine tw_iload_n 3 dX10_lastNow_67 rfl rfl ?_
              refine tw_i2l dX10_lastNow_68 ?_
              refine tw_nml (fun v99 ev99 => ?_)
              have cy9 : v99 = tw_L n := by rw [ev99]; exact tw_L_i (by omega)
              refine tw_lcmp dX10_lastNow_69 ?_
              refine tw_nmi (fun v100 ev100 => ?_)
              refine tw_if_ge 76 dX10_lastNow_70 (by decide) (fun c101 => ?_) (fun c101 => ?_)
              · have cv9 := c101
                rw [ev100, lv9, cy9] at cv9
                have ge9 : ¬ L9 < n := by have z := (tw_cmp_ge (a := L9) (b := n) (by omega) (by omega)).mp cv9; omega
                refine tw_lload 4 dX10_lastNow_76 rfl ?_
                refine tw_iload_n 3 dX10_lastNow_78 rfl rfl ?_
                refine tw_i2l dX10_lastNow_79 ?_
                refine tw_nml (fun v102 ev102 => ?_)
                refine tw_lsub dX10_lastNow_80 ?_
                refine tw_nml (fun v103 ev103 => ?_)
                refine tw_lstore [(4, .long v103), (0, .ref x), (1, .int (nI a)), (2, .int (nI k)), (3, .int (nI n)), (6, .int (nI D))] dX10_lastNow_81 (by decide) rfl ?_
                obtain ⟨v104, ev104⟩ : ∃ y : Int32, y = (nI D) + 1 := ⟨_, rfl⟩
                refine tw_iinc [(6, .int v104), (4, .long v103), (0, .ref x), (1, .int (nI a)), (2, .int (nI k)), (3, .int (nI n))] 5 dX10_lastNow_83 rfl (by rw [ev104]; rfl) (by decide) rfl ?_
                refine tw_goto 24 dX10_lastNow_86 (by decide) ?_
                refine tw_lv [2, 3, 4, 5, 1, 0] rfl ?_
                exact ih76 v103 v104 (⟨D + 1, L9 - n, by rw [ev104]; exact nI_1 D, by rw [ev103, lv9, show v102 = tw_L n from by rw [ev102]; exact tw_L_i (by omega)]; exact tw_L_sub (by omega) (by omega), by omega, by omega, by omega, by rw [eq9, tw_ld_s hD9 lw9, if_neg ge9]⟩) (tw_mle ev104 c82 hk80)
              · have cv9 := c101
                rw [ev100, lv9, cy9] at cv9
                have lt9 : L9 < n := by rcases Nat.lt_or_ge L9 n with y | y; exact y; exact absurd ((tw_cmp_ge (a := L9) (b := n) (by omega) (by omega)).mpr y) cv9
                refine tw_iload 5 dX10_lastNow_73 rfl ?_
                exact tw_iret dX10_lastNow_75 rfl (Or.inl ⟨_, rfl, rfl, by rw [eq9, tw_ld_s hD9 lw9, if_pos lt9]⟩)
            · refine tw_lload 4 dX10_lastNow_54 rfl ?_
              refine tw_lload 4 dX10_lastNow_56 rfl ?_
              refine tw_ldc2 (v := 10000) dX10_lastNow_58 w_1428 ?_
              refine tw_ldiv dX10_lastNow_61 (by decide) ?_
              refine tw_nml (fun v105 ev105 => ?_)
              refine tw_lsub dX10_lastNow_62 ?_
              refine tw_nml (fun v106 ev106 => ?_)
              refine tw_lstore [(4, .long v106), (0, .ref x), (1, .int (nI a)), (2, .int (nI k)), (3, .int (nI n)), (6, .int (nI D))] dX10_lastNow_63 (by decide) rfl ?_
              obtain ⟨L9, eM9⟩ : ∃ z, z = (L - L / 10000) := ⟨_, rfl⟩
              have lw9 : tw_lw (g.2 22) k D L = L9 := by rw [eM9]; exact if_pos ⟨tw_nIj (b := 1) c98 (by omega) (by decide), by rcases Nat.lt_or_ge (g.2 22) D with y | y; exact y; exact absurd (by rw [k28]; exact (tw_nIle (by omega) (by omega)).mpr y) c83, wd9⟩
              have l9b : L9 ≤ L := by rw [← lw9]; exact tw_lw_le _ _ _ _
              have lv9 : v106 = tw_L L9 := by rw [ev106, ev105, eM9, eL9, show (10000 : Int64) = tw_L 10000 from rfl, tw_L_div (by omega) (by decide)]; exact tw_L_sub (by omega) (Nat.div_le_self _ _)
              refine tw_lload 0 dX10_lastNow_65 rfl ?_
              refine tw_iload_n 4 dX10_lastNow_67 rfl rfl ?_
              refine tw_i2l dX10_lastNow_68 ?_
              refine tw_nml (fun v107 ev107 => ?_)
              have cy9 : v107 = tw_L n := by rw [ev107]; exact tw_L_i (by omega)
              refine tw_lcmp dX10_lastNow_69 ?_
              refine tw_nmi (fun v108 ev108 => ?_)
              refine tw_if_ge 76 dX10_lastNow_70 (by decide) (fun c109 => ?_) (fun c109 => ?_)
              · have cv9 := c109
                rw [ev108, lv9, cy9] at cv9
                have ge9 : ¬ L9 < n := by have z := (tw_cmp_ge (a := L9) (b := n) (by omega) (by omega)).mp cv9; omega
                refine tw_lload 0 dX10_lastNow_76 rfl ?_
                refine tw_iload_n 4 dX10_lastNow_78 rfl rfl ?_
                refine tw_i2l dX10_lastNow_79 ?_
                refine tw_nml (fun v110 ev110 => ?_)
                refine tw_lsub dX10_lastNow_80 ?_
                refine tw_nml (fun v111 ev111 => ?_)
                refine tw_lstore [(4, .long v111), (0, .ref x), (1, .int (nI a)), (2, .int (nI k)), (3, .int (nI n)), (6, .int (nI D))] dX10_lastNow_81 (by decide) rfl ?_
                obtain ⟨v112, ev112⟩ : ∃ y : Int32, y = (nI D) + 1 := ⟨_, rfl⟩
                refine tw_iinc [(6, .int v112), (4, .long v111), (0, .ref x), (1, .int (nI a)), (2, .int (nI k)), (3, .int (nI n))] 5 dX10_lastNow_83 rfl (by rw [ev112]; rfl) (by decide) rfl ?_
                refine tw_goto 24 dX10_lastNow_86 (by decide) ?_
                refine tw_lv [2, 3, 4, 5, 1, 0] rfl ?_
                exact ih76 v111 v112 (⟨D + 1, L9 - n, by rw [ev112]; exact nI_1 D, by rw [ev111, lv9, show v110 = tw_L n from by rw [ev110]; exact tw_L_i (by omega)]; exact tw_L_sub (by omega) (by omega), by omega, by omega, by omega, by rw [eq9, tw_ld_s hD9 lw9, if_neg ge9]⟩) (tw_mle ev112 c82 hk80)
              · have cv9 := c109
                rw [ev108, lv9, cy9] at cv9
                have lt9 : L9 < n := by rcases Nat.lt_or_ge L9 n with y | y; exact y; exact absurd ((tw_cmp_ge (a := L9) (b := n) (by omega) (by omega)).mpr y) cv9
                refine tw_iload 5 dX10_lastNow_73 rfl ?_
                exact tw_iret dX10_lastNow_75 rfl (Or.inl ⟨_, rfl, rfl, by rw [eq9, tw_ld_s hD9 lw9, if_pos lt9]⟩)
  refine tw_lv [2, 3, 4, 5, 1, 0] rfl ?_
  exact L77 _ ((g.1 ((480 + 64 * a + 16) + k)).toInt64) td_4 (⟨g.2 22, L0, k28, by exact (congrArg Int32.toInt64 eL).trans (tw_L_i (by omega)), Nat.le_refl _, by have z := k29; omega, hL, rfl⟩) (Nat.lt_succ_self _)

set_option maxHeartbeats 4000000 in
set_option maxRecDepth 100000 in
theorem c2_X10_market (d : tw_D) (g : tw_G) (τ : tw_K) (h : tw_H) (hw : tw_wt d g τ h) (x : Nat) (kx : τ x = 36) (m : Int32) (o : Nat) (ko : τ o = 12) : tw_Ct d mX10_market 0 0 [.ref x, .int m] h (tw_qi (fun r9 h1 => ∃ g1 τ1, tw_sp d τ h g1 τ1 h1 ∧ h1 o = h o ∧ ((¬ (100 ≤ m ∧ m ≤ 200) ∧ tw_th (h1 x) = 1 ∧ g1 = g) ∨ ((100 ≤ m ∧ m ≤ 200) ∧ r9 = g.1 1 ∧ tw_th (h1 x) = 0 ∧ g1 = tw_g1 g 1 m))) tw_nx) := by
  refine tw_of (by decide +kernel) (Nat.le_of_ble_eq_true rfl) ?_
  show tw_W d mX10_market _ 0 [(0, .ref x), (1, .int m)] [] h 0 0
  have sp0 := tw_sp.rf hw
  refine tw_aload_n 0 dX10_market_0 rfl rfl ?_
  refine tw_iload_n 1 dX10_market_1 rfl rfl ?_
  refine tw_bipush (v := 100) dX10_market_2 (by decide) ?_
  refine tw_sipush (v := 200) dX10_market_4 (by decide) ?_
  refine tw_bi (tw_callS (M := mX10_market) (pc := 7) okX10_isIn dX10_market_7 w_1192 [.int m, .int 100, .int 200] [.ref x] rfl rfl ⟨by decide, by decide⟩ (Nat.le_of_ble_eq_true rfl) (c_X10_isIn d g τ h sp0.1 m 100 200) 0 0 (Nat.le_of_ble_eq_true rfl) (Nat.le_of_ble_eq_true rfl)) (fun r3 h2 q1 => ?_) (fun E h1 q => q.elim)
  obtain ⟨q1e, q1d⟩ := q1
  rw [q1e]
  rcases q1d with ⟨q1r, q1n⟩ | ⟨q1r, q1a, q1b⟩
  · rw [q1r]
    refine tw_if_ne 17 dX10_market_10 (by decide) (fun c4 => absurd (by decide) c4) (fun _ => ?_)
    refine tw_iconst (v := 1) dX10_market_13 (by decide) ?_
    refine tw_goto 18 dX10_market_14 (by decide) ?_
    refine tw_iconst (v := 1) dX10_market_18 (by decide) ?_
    obtain ⟨e5, f6, th_7, td_8, ds_9, fr_10, ca_11, us_12, wo_13, cm_14, lc_15, lh_16, ld_17, rfl, k18, k19, k20, k21, k22, k23, k24, k25, k26, k27, k28, k29, k30, k31, k32, k33, k34, k35, k36, k37, k38, k39⟩ := sp0.1 x 36 kx (by decide)
    refine tw_bi (tw_callV (M := mX10_market) (pc := 19) okX10_start dX10_market_19 w_1196 rfl f6 [.int 1, .int 1] [] rfl rfl ⟨by decide, by decide⟩ (Nat.le_of_ble_eq_true rfl) (c_X10_start d g τ h sp0.1 x kx 1 1 (by decide)) 0 0 (Nat.le_of_ble_eq_true rfl) (Nat.le_of_ble_eq_true rfl)) (fun r h1 q => ?_) (fun E h1 q => q.elim)
    obtain ⟨e, he, hs, hr, h3a, h3b⟩ := q
    have sp1 : tw_sp d τ h g τ h1 := by rw [he]; exact sp0.set kx (by decide) hs
    obtain ⟨r1, t1⟩ := h3b rfl
    rw [r1]
    refine tw_if_eq 27 dX10_market_22 (by decide) (fun c40 => absurd c40 (by decide)) (fun _ => ?_)
    refine tw_iconst (v := 0) dX10_market_25 (by decide) ?_
    exact tw_iret dX10_market_26 rfl (Or.inl ⟨_, rfl, _, _, sp1, by rw [he, tw_up_n (tw_nk ko kx (by decide))], Or.inl ⟨q1n, by rw [he, tw_up_s]; exact t1, rfl⟩⟩)
  · rw [q1r]
    refine tw_if_ne 17 dX10_market_10 (by decide) (fun _ => ?_) (fun c41 => absurd c41 (by decide))
    refine tw_iconst (v := 0) dX10_market_17 (by decide) ?_
    refine tw_iconst (v := 1) dX10_market_18 (by decide) ?_
    obtain ⟨e42, f43, th_44, td_45, ds_46, fr_47, ca_48, us_49, wo_50, cm_51, lc_52, lh_53, ld_54, rfl, k55, k56, k57, k58, k59, k60, k61, k62, k63, k64, k65, k66, k67, k68, k69, k70, k71, k72, k73, k74, k75, k76⟩ := sp0.1 x 36 kx (by decide)
    refine tw_bi (tw_callV (M := mX10_market) (pc := 19) okX10_start dX10_market_19 w_1196 rfl f43 [.int 0, .int 1] [] rfl rfl ⟨by decide, by decide⟩ (Nat.le_of_ble_eq_true rfl) (c_X10_start d g τ h sp0.1 x kx 0 1 (by decide)) 0 0 (Nat.le_of_ble_eq_true rfl) (Nat.le_of_ble_eq_true rfl)) (fun r h1 q => ?_) (fun E h1 q => q.elim)
    obtain ⟨e, he, hs, hr, h3a, h3b⟩ := q
    have sp1 : tw_sp d τ h g τ h1 := by rw [he]; exact sp0.set kx (by decide) hs
    obtain ⟨r1, t1⟩ := h3a rfl
    rw [r1]
    refine tw_if_eq 27 dX10_market_22 (by decide) (fun _ => ?_) (fun c77 => absurd (by decide) c77)
    refine tw_aload_n 0 dX10_market_27 rfl rfl ?_
    obtain ⟨e78, f79, th_80, td_81, ds_82, fr_83, ca_84, us_85, wo_86, cm_87, lc_88, lh_89, ld_90, rfl, k91, k92, k93, k94, k95, k96, k97, k98, k99, k100, k101, k102, k103, k104, k105, k106, k107, k108, k109, k110, k111, k112⟩ := sp1.1 x 36 kx (by decide)
    refine tw_get (v := .int (g.1 1)) rfl in_14 2 dX10_market_28 w_1153 rfl (by decide) f79 rfl ?_
    refine tw_istore_n [(2, .int (g.1 1)), (0, .ref x), (1, .int m)] dX10_market_31 rfl (by decide) rfl ?_
    refine tw_aload_n 1 dX10_market_32 rfl rfl ?_
    refine tw_iload_n 2 dX10_market_33 rfl rfl ?_
    have z0 : tw_th (h1 x) = 0 := by rw [he, tw_up_s]; exact t1
    rw [f79] at z0
    have q0 : th_80 = 0 := z0
    refine tw_put rfl in_14 tyX10 tyX10_ok nmX10 2 dX10_market_34 w_1153 rfl (by decide) f79 rfl rfl rfl rfl (Nat.le_of_ble_eq_true rfl) [.int th_80, .int td_81, .int m, .ref ds_82, .ref fr_83, .ref ca_84, .ref us_85, .ref wo_86, .ref cm_87, .ref lc_88, .ref lh_89, .ref ld_90] rfl ?_
    obtain ⟨h113, eh113⟩ : ∃ z : tw_H, z = tw_up h1 x (.inr (14, [.int th_80, .int td_81, .int m, .ref ds_82, .ref fr_83, .ref ca_84, .ref us_85, .ref wo_86, .ref cm_87, .ref lc_88, .ref lh_89, .ref ld_90])) := ⟨_, rfl⟩
    rw [← eh113]
    have f114 : h113 x = some (.inr (14, [.int th_80, .int td_81, .int m, .ref ds_82, .ref fr_83, .ref ca_84, .ref us_85, .ref wo_86, .ref cm_87, .ref lc_88, .ref lh_89, .ref ld_90])) := by rw [eh113]; exact tw_up_s
    have sp2 : tw_sp d τ h (tw_g1 g 1 m) τ h113 := by rw [eh113]; exact sp1.m36 kx ⟨th_80, td_81, ds_82, fr_83, ca_84, us_85, wo_86, cm_87, lc_88, lh_89, ld_90, rfl, k91, k92, k93, k94, k95, k96, k97, k98, k99, k100, k101, k102, k103, k104, k105, k106, k107, k108, k109, k110, k111, k112⟩
    refine tw_iload_n 0 dX10_market_37 rfl rfl ?_
    exact tw_iret dX10_market_38 rfl (Or.inl ⟨_, rfl, _, _, sp2, by rw [eh113, tw_up_n (tw_nk ko kx (by decide)), he, tw_up_n (tw_nk ko kx (by decide))], Or.inr ⟨⟨q1a, q1b⟩, rfl, by rw [f114]; exact q0, rfl⟩⟩)

set_option maxHeartbeats 4000000 in
set_option maxRecDepth 100000 in
theorem c4_X10_worth (d : tw_D) (g : tw_G) (τ : tw_K) (h : tw_H) (hw : tw_wt d g τ h)  (x : Nat) (kx : τ x = 36) (p : Nat) (kp : τ p = 31) (b : Nat) (hb : g.2 (4096 + p) = b) (A Bn R : Nat) (ea : g.1 (b + 0) = nI A) (eb : g.1 (b + 1) = nI Bn) (er : g.1 1 = nI R) (hA : A ≤ 59000000) (hB : Bn ≤ 59000000) (hR : R ≤ 200) : tw_Ct d mX10_worth 0 0 [.ref x, .ref p] h (tw_ql (fun r h1 => h1 = h ∧ r = tw_L (Bn + A * R / 10)) tw_nx) := by
  refine tw_of (by decide +kernel) (Nat.le_of_ble_eq_true rfl) ?_
  show tw_W d mX10_worth _ 0 [(0, .ref x), (1, .ref p)] [] h 0 0
  have sp0 := tw_sp.rf hw
  have m9 : A * R ≤ 59000000 * 200 := Nat.mul_le_mul hA hR
  refine tw_aload_n 1 dX10_worth_0 rfl rfl ?_
  refine tw_iconst (v := 1) dX10_worth_1 (by decide) ?_
  obtain ⟨e1, f2, F3, rfl, ⟨b5, ow6, wv7⟩⟩ := sp0.1 p 31 kp (by decide)
  obtain rfl : b = b5 := (ow6.b hb).symm
  have ev8 : F3 (1 : Int32).toNatClampNeg = (g.1 (b + 1)).toInt64 := by rw [show (1 : Int32).toNatClampNeg = 1 by decide]; exact wv7 1 (by omega)
  refine tw_lald (v := (g.1 (b + 1)).toInt64) dX10_worth_2 f2 (vp_in_nI (n := 1) (by decide) (by decide)) ev8 ?_
  refine tw_aload_n 1 dX10_worth_3 rfl rfl ?_
  refine tw_iconst (v := 0) dX10_worth_4 (by decide) ?_
  have ev9 : F3 (0 : Int32).toNatClampNeg = (g.1 (b + 0)).toInt64 := by rw [show (0 : Int32).toNatClampNeg = 0 by decide]; exact wv7 0 (by omega)
  refine tw_lald (v := (g.1 (b + 0)).toInt64) dX10_worth_5 f2 (vp_in_nI (n := 0) (by decide) (by decide)) ev9 ?_
  refine tw_aload_n 0 dX10_worth_6 rfl rfl ?_
  obtain ⟨e10, f11, th_12, td_13, ds_14, fr_15, ca_16, us_17, wo_18, cm_19, lc_20, lh_21, ld_22, rfl, k23, k24, k25, k26, k27, k28, k29, k30, k31, k32, k33, k34, k35, k36, k37, k38, k39, k40, k41, k42, k43, k44⟩ := sp0.1 x 36 kx (by decide)
  refine tw_get (v := .int (g.1 1)) rfl in_14 2 dX10_worth_7 w_1153 rfl (by decide) f11 rfl ?_
  refine tw_i2l dX10_worth_10 ?_
  refine tw_nml (fun v45 ev45 => ?_)
  refine tw_lmul dX10_worth_11 ?_
  refine tw_nml (fun v46 ev46 => ?_)
  refine tw_ldc2 (v := 10) dX10_worth_12 w_1369 ?_
  refine tw_ldiv dX10_worth_15 (by decide) ?_
  refine tw_nml (fun v47 ev47 => ?_)
  refine tw_ladd dX10_worth_16 ?_
  refine tw_nml (fun v48 ev48 => ?_)
  exact tw_lret dX10_worth_17 rfl (Or.inl ⟨_, rfl, rfl, by rw [ev48, ev47, ev46, ev45, ea, eb, er, tw_L_i (by omega), tw_L_i (by omega), tw_L_i (by omega), show (10 : Int64) = tw_L 10 from rfl, tw_L_mul (by omega) (by omega) (by omega), tw_L_div (by omega) (by decide), tw_L_ad]⟩)

def tw_hM (g : tw_G) (a : Nat) : Nat → Int32
  | 0 => g.1 (960 + 32 * a + 1)
  | 1 => g.1 (960 + 32 * a + 2)
  | 2 => g.1 (960 + 32 * a + 0)
  | 3 => g.1 (960 + 32 * a + 8 + 0)
  | 4 => g.1 (960 + 32 * a + 8 + 1)
  | 5 => tw_wo (g.1 (960 + 32 * a + 8 + 0)) (g.1 (960 + 32 * a + 8 + 1)) (g.1 1)
  | 6 => tw_isum (fun j => if g.1 (1232 + 8 * j + 2) = 0 ∧ g.1 (1232 + 8 * j + 3) = nI a then 1 else 0) (g.2 5)
  | _ + 7 => tw_isum (fun j => if g.1 (1232 + 8 * j + 2) = 0 ∧ g.1 (1232 + 8 * j + 4) = nI a then 1 else 0) (g.2 5)
def tw_MW (g : tw_G) : Prop := g.1 1 = nI (tw_DN (g.1 1)) ∧ tw_DN (g.1 1) ≤ 200
theorem tw_wo_lt {A Bn M : Nat} (hA : A ≤ 59000000) (hB : Bn ≤ 59000000) (hM : M ≤ 200) : Bn + A * M / 10 < 2 ^ 31 := by
  have m9 : A * M ≤ 59000000 * 200 := Nat.mul_le_mul hA hM
  omega
set_option maxHeartbeats 4000000 in
set_option maxRecDepth 100000 in
theorem c4_X10_ofHouseNow (d : tw_D) (g : tw_G) (τ : tw_K) (h : tw_H) (hw : tw_wt d g τ h) (x : Nat) (kx : τ x = 36) (a : Nat) (ha : a < g.2 4) (w : Nat) (hw9 : w ≤ 7) (o : Nat) (ko : τ o = 12) (he : tw_AM 59000000 g) (hk9 : tw_MW g) : tw_Ct d mX10_ofHouseNow 2 12 [.ref x, .int (nI a), .int (nI w)] h (tw_qi (fun r h1 => tw_sp d τ h g τ h1 ∧ tw_th (h1 x) = tw_th (h x) ∧ h1 o = h o ∧ r = tw_hM g a w) tw_nx) := by
  refine tw_of (by decide +kernel) (Nat.le_of_ble_eq_true rfl) ?_
  show tw_W d mX10_ofHouseNow _ 0 [(0, .ref x), (1, .int (nI a)), (2, .int (nI w))] [] h 2 12
  have sp0 := tw_sp.rf hw
  have th0 : tw_th (h x) = tw_th (h x) := rfl
  have oq0 : h o = h o := rfl
  have b93 := tw_b3 hw kx
  have b94 := tw_b4 hw kx
  refine tw_aload_n 0 dX10_ofHouseNow_0 rfl rfl ?_
  obtain ⟨e1, f2, th_3, td_4, ds_5, fr_6, ca_7, us_8, wo_9, cm_10, lc_11, lh_12, ld_13, rfl, k14, k15, k16, k17, k18, k19, k20, k21, k22, k23, k24, k25, k26, k27, k28, k29, k30, k31, k32, k33, k34, k35⟩ := sp0.1 x 36 kx (by decide)
  refine tw_get (v := .ref lh_12) rfl in_14 10 dX10_ofHouseNow_1 w_1161 rfl (by decide) f2 rfl ?_
  refine tw_iload_n 1 dX10_ofHouseNow_4 rfl rfl ?_
  obtain ⟨e36, f37, ⟨el38, rfl, k39⟩, k40⟩ := sp0.1 lh_12 25 k21 (by decide)
  refine tw_br (tw_callV (M := mX10_ofHouseNow) (pc := 5) okJx4a65c_get_915e3 dX10_ofHouseNow_5 w_1292 rfl f37 [.int (nI a)] [] rfl rfl ⟨by decide, by decide⟩ (Nat.le_of_ble_eq_true rfl) (c25_get d g τ h sp0.1 lh_12 k21 a (by omega) (by omega)) 2 12 (Nat.le_of_ble_eq_true rfl) (Nat.le_of_ble_eq_true rfl)) (fun r43 h42 q41 => ?_) (fun E h1 q => q.elim)
  obtain ⟨q41e, q41k⟩ := q41
  rw [q41e]
  have el44 : tw_el h (g.2 13) a = r43 := by rw [← k40]; exact q41k.2.symm
  have kl45 : τ (g.2 13) = 25 := by rw [← k40]; exact k21
  have id46 : g.2 (4096 + r43) = 960 + 32 * a := by rw [← el44]; exact tw_eli25 sp0.1 kl45 (by omega)
  obtain ⟨e47, f48, x_49, y_50, dy_51, p_52, rfl, k53, k54, k55, k56⟩ := sp0.1 r43 23 q41k.1 (by decide)
  obtain ⟨j57, ow58, fd9, fa9, ft9, lp59⟩ := k56
  obtain rfl : a = j57 := by have z := ow58.b id46; omega
  subst fd9 fa9 ft9
  refine tw_castS (ci := 13) rfl dX10_ofHouseNow_8 w_1332 f48 ?_
  refine tw_astore_n [(3, .ref r43), (0, .ref x), (1, .int (nI a)), (2, .int (nI w))] dX10_ofHouseNow_11 rfl (by decide) rfl ?_
  refine tw_iconst (v := 0) dX10_ofHouseNow_12 (by decide) ?_
  refine tw_istore [(4, .int 0), (3, .ref r43), (0, .ref x), (1, .int (nI a)), (2, .int (nI w))] dX10_ofHouseNow_13 (by decide) rfl ?_
  refine tw_iconst (v := 0) dX10_ofHouseNow_15 (by decide) ?_
  refine tw_istore [(5, .int 0), (4, .int 0), (3, .ref r43), (0, .ref x), (1, .int (nI a)), (2, .int (nI w))] dX10_ofHouseNow_16 (by decide) rfl ?_
  refine tw_aload_n 3 dX10_ofHouseNow_18 rfl rfl ?_
  refine tw_get (v := .ref ld_13) rfl in_14 11 dX10_ofHouseNow_19 w_1162 rfl (by decide) f2 rfl ?_
  obtain ⟨e60, f61, ⟨el62, rfl, k63⟩, k64⟩ := sp0.1 ld_13 26 k22 (by decide)
  refine tw_br (tw_callV (M := mX10_ofHouseNow) (pc := 22) okJx4a65c_iterator_32c93 dX10_ofHouseNow_22 w_1382 rfl f61 [] [] rfl rfl ⟨by decide, by decide⟩ (Nat.le_of_ble_eq_true rfl) (c_iterator d h ld_13 el62 (g.1 5) (nI (g.2 5)) f61) 1 8 (Nat.le_of_ble_eq_true rfl) (Nat.le_of_ble_eq_true rfl)) (fun it65 h66 q67 => ?_) (fun E h1 q => q.elim)
  obtain ⟨q67n, q67e⟩ := q67
  rw [q67e]
  have n68 := sp0.nn q67n
  have z69 := sp0.1.none q67n
  obtain ⟨h70, eh70⟩ : ∃ z : tw_H, z = tw_up h it65 (.inr (2, [.int 0, .int (-1), .int (g.1 5), .ref ld_13])) := ⟨_, rfl⟩
  rw [← eh70]
  have th71 : tw_th (h70 x) = tw_th (h x) := by rw [eh70, tw_up_n (tw_kF sp0.1 kx (by decide) q67n)] <;> exact th0
  have oq72 : h70 o = h o := by rw [eh70, tw_up_n (tw_kF sp0.1 ko (by decide) q67n)] <;> exact oq0
  have sp73 : tw_sp d τ h g τ h70 := by rw [eh70]; exact sp0.mk q67n
  have f74 : h70 it65 = some (.inr (2, [.int 0, .int (-1), .int (g.1 5), .ref ld_13])) := by rw [eh70]; exact tw_up_s
  refine tw_astore [(6, .ref it65), (5, .int 0), (4, .int 0), (3, .ref r43), (0, .ref x), (1, .int (nI a)), (2, .int (nI w))] dX10_ofHouseNow_25 (by decide) rfl ?_
  have L81 : ∀ (r77 j78 : Nat) (l79 : Int32) (x75 : Int32) (x76 : Int32) (h82 : tw_H) (sp83 : tw_sp d τ (tw_rm h70 it65) g τ h82) (ft84 : h82 it65 = some (.inr (2, [.int (nI j78), .int l79, .int (g.1 5), .ref ld_13]))) (zt85 : τ it65 = 0) (th86 : tw_th (h82 x) = tw_th (h x)) (oq87 : h82 o = h o) (li88 : x75 = tw_isum (fun j => if g.1 (1232 + 8 * j + 2) = 0 ∧ g.1 (1232 + 8 * j + 3) = nI a then 1 else 0) j78 ∧ x76 = tw_isum (fun j => if g.1 (1232 + 8 * j + 2) = 0 ∧ g.1 (1232 + 8 * j + 4) = nI a then 1 else 0) j78), g.2 5 + 1 ≤ j78 + r77 → j78 ≤ g.2 5 → tw_W d mX10_ofHouseNow (tw_qi (fun r h1 => tw_sp d τ h g τ h1 ∧ tw_th (h1 x) = tw_th (h x) ∧ h1 o = h o ∧ r = tw_hM g a w) tw_nx) 27 [(0, .ref x), (1, .int (nI a)), (2, .int (nI w)), (3, .ref r43), (4, .int x75), (5, .int x76), (6, .ref it65)] [] h82 1 8 := by
    intro r77
    induction r77 with
    | zero => intro j78 l79 x75 x76 h82 sp83 ft84 zt85 th86 oq87 li88 hk89 hk90; exact absurd hk89 (by omega)
    | succ r77 ih80 =>
      intro j78 l79 x75 x76 h82 sp83 ft84 zt85 th86 oq87 li88 hk89 hk90
      refine tw_aload 6 dX10_ofHouseNow_27 rfl ?_
      obtain ⟨e91, f92, ⟨el93, rfl, k94⟩, k95⟩ := sp83.1 ld_13 26 k22 (by decide)
      refine tw_bi (tw_callF (M := mX10_ofHouseNow) (pc := 29) (n9 := 0) (ci := 2) tw_hasNext ok_itHas w_1412 w_1410 (fun s H z => z.2.2.2.2.2.2.2.2.1) (by decide +kernel) dX10_ofHouseNow_29 w_1406 rfl ft84 [] [] rfl rfl ⟨by decide, by decide⟩ (Nat.le_of_ble_eq_true rfl) (c_hasNext d h82 it65 ld_13 el93 j78 (g.2 5) l79 (g.1 5) (g.1 5) ft84 f92 (by omega) (tw_lim26 sp83.1 k22)) 1 8 (Nat.le_of_ble_eq_true rfl) (Nat.le_of_ble_eq_true rfl)) (fun r98 h97 q96 => ?_) (fun E h1 q => q.elim)
      obtain ⟨q96e, q96q⟩ := q96
      rw [q96e]
      rcases q96q with ⟨q96r, q96j⟩ | ⟨q96r, q96j⟩
      · rw [q96r]
        refine tw_if_eq 106 dX10_ofHouseNow_34 (by decide) (fun _ => ?_) (fun c99 => absurd (by decide) c99)
        have s69 := li88
        rw [show j78 = g.2 5 by have z := q96j; omega] at s69
        refine tw_bipush (v := 8) dX10_ofHouseNow_106 (by decide) ?_
        refine tw_newa (a0 := (8, .inr (.inl (fun _ => 0)))) 1 rfl dX10_ofHouseNow_108 rfl w_1150 (fun _ => rfl) (by decide) (by decide) (by decide) 0 0 (Nat.le_of_ble_eq_true rfl) (Nat.le_of_ble_eq_true rfl) (fun q100 hq101 hA102 => ?_)
        have n103 := sp83.nn hq101
        have z104 := sp83.1.none hq101
        have ne105 := tw_neF ft84 hq101
        obtain ⟨h106, eh106⟩ : ∃ z : tw_H, z = tw_up h82 q100 (.inl (d.2 1, 8, .inr (.inl (fun _ => 0)))) := ⟨_, rfl⟩
        rw [← eh106]
        have th107 : tw_th (h106 x) = tw_th (h x) := by rw [eh106, tw_up_n (tw_kF sp83.1 kx (by decide) hq101)] <;> exact th86
        have oq108 : h106 o = h o := by rw [eh106, tw_up_n (tw_kF sp83.1 ko (by decide) hq101)] <;> exact oq87
        have sp109 : tw_sp d τ (tw_rm h70 it65) g τ h106 := by rw [eh106]; exact sp83.mk hq101
        have f110 : h106 it65 = some (.inr (2, [.int (nI j78), .int l79, .int (g.1 5), .ref ld_13])) := by rw [eh106, tw_up_n ne105]; exact ft84
        have f111 : h106 q100 = some (.inl (d.2 1, 8, .inr (.inl (fun _ => 0)))) := by rw [eh106]; exact tw_up_s
        refine tw_dup dX10_ofHouseNow_110 rfl ?_
        refine tw_iconst (v := 0) dX10_ofHouseNow_111 (by decide) ?_
        refine tw_aload_n 3 dX10_ofHouseNow_112 rfl rfl ?_
        obtain ⟨e112, f113, x_114, y_115, dy_116, p_117, rfl, k118, k119, k120, k121⟩ := sp109.1 r43 23 q41k.1 (by decide)
        obtain ⟨j122, ow123, fd9, fa9, ft9, lp124⟩ := k121
        obtain rfl : a = j122 := by have z := ow123.b id46; omega
        subst fd9 fa9 ft9
        refine tw_get (v := .int (g.1 (960 + 32 * a + 1))) rfl in_13 0 dX10_ofHouseNow_113 w_1338 rfl (by decide) f113 rfl ?_
        refine tw_i2l dX10_ofHouseNow_116 ?_
        refine tw_nml (fun v125 ev125 => ?_)
        refine tw_last dX10_ofHouseNow_117 f111 (vp_in_nI (n := 0) (by decide) (by decide)) ?_
        obtain ⟨F126, eF126⟩ : ∃ z : Nat → Int64, z = vp_updL (fun _ => 0) (0 : Int32).toNatClampNeg v125 := ⟨_, rfl⟩
        rw [← eF126]
        obtain ⟨h127, eh127⟩ : ∃ z : tw_H, z = tw_up h106 q100 (.inl (d.2 1, 8, .inr (.inl F126))) := ⟨_, rfl⟩
        rw [← eh127]
        have th128 : tw_th (h127 x) = tw_th (h x) := by rw [eh127, tw_up_n (tw_nk kx z104 (by decide))] <;> exact th107
        have oq129 : h127 o = h o := by rw [eh127, tw_up_n (tw_nk ko z104 (by decide))] <;> exact oq108
        have sp130 : tw_sp d τ (tw_rm h70 it65) g τ h127 := by rw [eh127]; exact sp109.wl n103 z104
        have f131 : h127 it65 = some (.inr (2, [.int (nI j78), .int l79, .int (g.1 5), .ref ld_13])) := by rw [eh127, tw_up_n ne105]; exact f110
        have f132 : h127 q100 = some (.inl (d.2 1, 8, .inr (.inl F126))) := by rw [eh127]; exact tw_up_s
        refine tw_dup dX10_ofHouseNow_118 rfl ?_
        refine tw_iconst (v := 1) dX10_ofHouseNow_119 (by decide) ?_
        refine tw_aload_n 3 dX10_ofHouseNow_120 rfl rfl ?_
        obtain ⟨e133, f134, x_135, y_136, dy_137, p_138, rfl, k139, k140, k141, k142⟩ := sp130.1 r43 23 q41k.1 (by decide)
        obtain ⟨j143, ow144, fd9, fa9, ft9, lp145⟩ := k142
        obtain rfl : a = j143 := by have z := ow144.b id46; omega
        subst fd9 fa9 ft9
        refine tw_get (v := .int (g.1 (960 + 32 * a + 2))) rfl in_13 1 dX10_ofHouseNow_121 w_1340 rfl (by decide) f134 rfl ?_
        refine tw_i2l dX10_ofHouseNow_124 ?_
        refine tw_nml (fun v146 ev146 => ?_)
        refine tw_last dX10_ofHouseNow_125 f132 (vp_in_nI (n := 1) (by decide) (by decide)) ?_
        obtain ⟨F147, eF147⟩ : ∃ z : Nat → Int64, z = vp_updL F126 (1 : Int32).toNatClampNeg v146 := ⟨_, rfl⟩
        rw [← eF147]
        obtain ⟨h148, eh148⟩ : ∃ z : tw_H, z = tw_up h127 q100 (.inl (d.2 1, 8, .inr (.inl F147))) := ⟨_, rfl⟩
        rw [← eh148]
        have th149 : tw_th (h148 x) = tw_th (h x) := by rw [eh148, tw_up_n (tw_nk kx z104 (by decide))] <;> exact th128
        have oq150 : h148 o = h o := by rw [eh148, tw_up_n (tw_nk ko z104 (by decide))] <;> exact oq129
        have sp151 : tw_sp d τ (tw_rm h70 it65) g τ h148 := by rw [eh148]; exact sp130.wl n103 z104
        have f152 : h148 it65 = some (.inr (2, [.int (nI j78), .int l79, .int (g.1 5), .ref ld_13])) := by rw [eh148, tw_up_n ne105]; exact f131
        have f153 : h148 q100 = some (.inl (d.2 1, 8, .inr (.inl F147))) := by rw [eh148]; exact tw_up_s
        refine tw_dup dX10_ofHouseNow_126 rfl ?_
        refine tw_iconst (v := 2) dX10_ofHouseNow_127 (by decide) ?_
        refine tw_aload_n 3 dX10_ofHouseNow_128 rfl rfl ?_
        obtain ⟨e154, f155, x_156, y_157, dy_158, p_159, rfl, k160, k161, k162, k163⟩ := sp151.1 r43 23 q41k.1 (by decide)
        obtain ⟨j164, ow165, fd9, fa9, ft9, lp166⟩ := k163
        obtain rfl : a = j164 := by have z := ow165.b id46; omega
        subst fd9 fa9 ft9
        refine tw_get (v := .int (g.1 (960 + 32 * a + 0))) rfl in_13 2 dX10_ofHouseNow_129 w_1342 rfl (by decide) f155 rfl ?_
        refine tw_i2l dX10_ofHouseNow_132 ?_
        refine tw_nml (fun v167 ev167 => ?_)
        refine tw_last dX10_ofHouseNow_133 f153 (vp_in_nI (n := 2) (by decide) (by decide)) ?_
        obtain ⟨F168, eF168⟩ : ∃ z : Nat → Int64, z = vp_updL F147 (2 : Int32).toNatClampNeg v167 := ⟨_, rfl⟩
        rw [← eF168]
        obtain ⟨h169, eh169⟩ : ∃ z : tw_H, z = tw_up h148 q100 (.inl (d.2 1, 8, .inr (.inl F168))) := ⟨_, rfl⟩
        rw [← eh169]
        have th170 : tw_th (h169 x) = tw_th (h x) := by rw [eh169, tw_up_n (tw_nk kx z104 (by decide))] <;> exact th149
        have oq171 : h169 o = h o := by rw [eh169, tw_up_n (tw_nk ko z104 (by decide))] <;> exact oq150
        have sp172 : tw_sp d τ (tw_rm h70 it65) g τ h169 := by rw [eh169]; exact sp151.wl n103 z104
        have f173 : h169 it65 = some (.inr (2, [.int (nI j78), .int l79, .int (g.1 5), .ref ld_13])) := by rw [eh169, tw_up_n ne105]; exact f152
        have f174 : h169 q100 = some (.inl (d.2 1, 8, .inr (.inl F168))) := by rw [eh169]; exact tw_up_s
        refine tw_dup dX10_ofHouseNow_134 rfl ?_
        refine tw_iconst (v := 3) dX10_ofHouseNow_135 (by decide) ?_
        refine tw_aload_n 3 dX10_ofHouseNow_136 rfl rfl ?_
        obtain ⟨e175, f176, x_177, y_178, dy_179, p_180, rfl, k181, k182, k183, k184⟩ := sp172.1 r43 23 q41k.1 (by decide)
        obtain ⟨j185, ow186, fd9, fa9, ft9, lp187⟩ := k184
        obtain rfl : a = j185 := by have z := ow186.b id46; omega
        subst fd9 fa9 ft9
        refine tw_get (v := .ref p_180) rfl in_13 3 dX10_ofHouseNow_137 w_1344 rfl (by decide) f176 rfl ?_
        refine tw_iconst (v := 0) dX10_ofHouseNow_140 (by decide) ?_
        obtain ⟨e188, f189, F190, rfl, ⟨b192, ow193, wv194⟩⟩ := sp172.1 p_180 31 k181 (by decide)
        obtain rfl : (960 + 32 * a + 8) = b192 := (ow193.b lp187).symm
        have ev195 : F190 (0 : Int32).toNatClampNeg = (g.1 ((960 + 32 * a + 8) + 0)).toInt64 := by rw [show (0 : Int32).toNatClampNeg = 0 by decide]; exact wv194 0 (by omega)
        refine tw_lald (v := (g.1 ((960 + 32 * a + 8) + 0)).toInt64) dX10_ofHouseNow_141 f189 (vp_in_nI (n := 0) (by decide) (by decide)) ev195 ?_
        refine tw_last dX10_ofHouseNow_142 f174 (vp_in_nI (n := 3) (by decide) (by decide)) ?_
        obtain ⟨F196, eF196⟩ : ∃ z : Nat → Int64, z = vp_updL F168 (3 : Int32).toNatClampNeg ((g.1 ((960 + 32 * a + 8) + 0)).toInt64) := ⟨_, rfl⟩
        rw [← eF196]
        obtain ⟨h197, eh197⟩ : ∃ z : tw_H, z = tw_up h169 q100 (.inl (d.2 1, 8, .inr (.inl F196))) := ⟨_, rfl⟩
        rw [← eh197]
        have th198 : tw_th (h197 x) = tw_th (h x) := by rw [eh197, tw_up_n (tw_nk kx z104 (by decide))] <;> exact th170
        have oq199 : h197 o = h o := by rw [eh197, tw_up_n (tw_nk ko z104 (by decide))] <;> exact oq171
        have sp200 : tw_sp d τ (tw_rm h70 it65) g τ h197 := by rw [eh197]; exact sp172.wl n103 z104
        have f201 : h197 it65 = some (.inr (2, [.int (nI j78), .int l79, .int (g.1 5), .ref ld_13])) := by rw [eh197, tw_up_n ne105]; exact f173
        have f202 : h197 q100 = some (.inl (d.2 1, 8, .inr (.inl F196))) := by rw [eh197]; exact tw_up_s
        refine tw_dup dX10_ofHouseNow_143 rfl ?_
        refine tw_iconst (v := 4) dX10_ofHouseNow_144 (by decide) ?_
        refine tw_aload_n 3 dX10_ofHouseNow_145 rfl rfl ?_
        obtain ⟨e203, f204, x_205, y_206, dy_207, p_208, rfl, k209, k210, k211, k212⟩ := sp200.1 r43 23 q41k.1 (by decide)
        obtain ⟨j213, ow214, fd9, fa9, ft9, lp215⟩ := k212
        obtain rfl : a = j213 := by have z := ow214.b id46; omega
        subst fd9 fa9 ft9
        refine tw_get (v := .ref p_208) rfl in_13 3 dX10_ofHouseNow_146 w_1344 rfl (by decide) f204 rfl ?_
        refine tw_iconst (v := 1) dX10_ofHouseNow_149 (by decide) ?_
        obtain ⟨e216, f217, F218, rfl, ⟨b220, ow221, wv222⟩⟩ := sp200.1 p_208 31 k209 (by decide)
        obtain rfl : (960 + 32 * a + 8) = b220 := (ow221.b lp215).symm
        have ev223 : F218 (1 : Int32).toNatClampNeg = (g.1 ((960 + 32 * a + 8) + 1)).toInt64 := by rw [show (1 : Int32).toNatClampNeg = 1 by decide]; exact wv222 1 (by omega)
        refine tw_lald (v := (g.1 ((960 + 32 * a + 8) + 1)).toInt64) dX10_ofHouseNow_150 f217 (vp_in_nI (n := 1) (by decide) (by decide)) ev223 ?_
        refine tw_last dX10_ofHouseNow_151 f202 (vp_in_nI (n := 4) (by decide) (by decide)) ?_
        obtain ⟨F224, eF224⟩ : ∃ z : Nat → Int64, z = vp_updL F196 (4 : Int32).toNatClampNeg ((g.1 ((960 + 32 * a + 8) + 1)).toInt64) := ⟨_, rfl⟩
        rw [← eF224]
        obtain ⟨h225, eh225⟩ : ∃ z : tw_H, z = tw_up h197 q100 (.inl (d.2 1, 8, .inr (.inl F224))) := ⟨_, rfl⟩
        rw [← eh225]
        have th226 : tw_th (h225 x) = tw_th (h x) := by rw [eh225, tw_up_n (tw_nk kx z104 (by decide))] <;> exact th198
        have oq227 : h225 o = h o := by rw [eh225, tw_up_n (tw_nk ko z104 (by decide))] <;> exact oq199
        have sp228 : tw_sp d τ (tw_rm h70 it65) g τ h225 := by rw [eh225]; exact sp200.wl n103 z104
        have f229 : h225 it65 = some (.inr (2, [.int (nI j78), .int l79, .int (g.1 5), .ref ld_13])) := by rw [eh225, tw_up_n ne105]; exact f201
        have f230 : h225 q100 = some (.inl (d.2 1, 8, .inr (.inl F224))) := by rw [eh225]; exact tw_up_s
        refine tw_dup dX10_ofHouseNow_152 rfl ?_
        refine tw_iconst (v := 5) dX10_ofHouseNow_153 (by decide) ?_
        refine tw_aload_n 0 dX10_ofHouseNow_154 rfl rfl ?_
        refine tw_aload_n 3 dX10_ofHouseNow_155 rfl rfl ?_
        obtain ⟨e231, f232, x_233, y_234, dy_235, p_236, rfl, k237, k238, k239, k240⟩ := sp228.1 r43 23 q41k.1 (by decide)
        obtain ⟨j241, ow242, fd9, fa9, ft9, lp243⟩ := k240
        obtain rfl : a = j241 := by have z := ow242.b id46; omega
        subst fd9 fa9 ft9
        refine tw_get (v := .ref p_236) rfl in_13 3 dX10_ofHouseNow_156 w_1344 rfl (by decide) f232 rfl ?_
        obtain ⟨e247, f248, th_249, td_250, ds_251, fr_252, ca_253, us_254, wo_255, cm_256, lc_257, lh_258, ld_259, rfl, k260, k261, k262, k263, k264, k265, k266, k267, k268, k269, k270, k271, k272, k273, k274, k275, k276, k277, k278, k279, k280, k281⟩ := sp228.1 x 36 kx (by decide)
        refine tw_bl (tw_callV (M := mX10_ofHouseNow) (pc := 159) okX10_worth dX10_ofHouseNow_159 w_1505 rfl f248 [.ref p_236] [.int 5, .ref q100, .ref q100] rfl rfl ⟨by decide, by decide⟩ (Nat.le_of_ble_eq_true rfl) (c4_X10_worth d g τ h225 sp228.1 x kx p_236 k237 (960 + 32 * a + 8) lp243 _ _ _ (he.p (j := a) (k := 0) (by omega) (by decide)).1 (he.p (j := a) (k := 1) (by omega) (by decide)).1 hk9.1 (he.p (j := a) (k := 0) (by omega) (by decide)).2 (he.p (j := a) (k := 1) (by omega) (by decide)).2 hk9.2) 0 0 (Nat.le_of_ble_eq_true rfl) (Nat.le_of_ble_eq_true rfl)) (fun r246 h245 q244 => ?_) (fun E h1 q => q.elim)
        obtain ⟨q244e, q244v⟩ := q244
        rw [q244e]
        refine tw_last dX10_ofHouseNow_162 f230 (vp_in_nI (n := 5) (by decide) (by decide)) ?_
        obtain ⟨F282, eF282⟩ : ∃ z : Nat → Int64, z = vp_updL F224 (5 : Int32).toNatClampNeg r246 := ⟨_, rfl⟩
        rw [← eF282]
        obtain ⟨h283, eh283⟩ : ∃ z : tw_H, z = tw_up h225 q100 (.inl (d.2 1, 8, .inr (.inl F282))) := ⟨_, rfl⟩
        rw [← eh283]
        have th284 : tw_th (h283 x) = tw_th (h x) := by rw [eh283, tw_up_n (tw_nk kx z104 (by decide))] <;> exact th226
        have oq285 : h283 o = h o := by rw [eh283, tw_up_n (tw_nk ko z104 (by decide))] <;> exact oq227
        have sp286 : tw_sp d τ (tw_rm h70 it65) g τ h283 := by rw [eh283]; exact sp228.wl n103 z104
        have f287 : h283 it65 = some (.inr (2, [.int (nI j78), .int l79, .int (g.1 5), .ref ld_13])) := by rw [eh283, tw_up_n ne105]; exact f229
        have f288 : h283 q100 = some (.inl (d.2 1, 8, .inr (.inl F282))) := by rw [eh283]; exact tw_up_s
        refine tw_dup dX10_ofHouseNow_163 rfl ?_
        refine tw_bipush (v := 6) dX10_ofHouseNow_164 (by decide) ?_
        refine tw_iload 4 dX10_ofHouseNow_166 rfl ?_
        refine tw_i2l dX10_ofHouseNow_168 ?_
        refine tw_nml (fun v289 ev289 => ?_)
        refine tw_last dX10_ofHouseNow_169 f288 (vp_in_nI (n := 6) (by decide) (by decide)) ?_
        obtain ⟨F290, eF290⟩ : ∃ z : Nat → Int64, z = vp_updL F282 (6 : Int32).toNatClampNeg v289 := ⟨_, rfl⟩
        rw [← eF290]
        obtain ⟨h291, eh291⟩ : ∃ z : tw_H, z = tw_up h283 q100 (.inl (d.2 1, 8, .inr (.inl F290))) := ⟨_, rfl⟩
        rw [← eh291]
        have th292 : tw_th (h291 x) = tw_th (h x) := by rw [eh291, tw_up_n (tw_nk kx z104 (by decide))] <;> exact th284
        have oq293 : h291 o = h o := by rw [eh291, tw_up_n (tw_nk ko z104 (by decide))] <;> exact oq285
        have sp294 : tw_sp d τ (tw_rm h70 it65) g τ h291 := by rw [eh291]; exact sp286.wl n103 z104
        have f295 : h291 it65 = some (.inr (2, [.int (nI j78), .int l79, .int (g.1 5), .ref ld_13])) := by rw [eh291, tw_up_n ne105]; exact f287
        have f296 : h291 q100 = some (.inl (d.2 1, 8, .inr (.inl F290))) := by rw [eh291]; exact tw_up_s
        refine tw_dup dX10_ofHouseNow_170 rfl ?_
        refine tw_bipush (v := 7) dX10_ofHouseNow_171 (by decide) ?_
        refine tw_iload 5 dX10_ofHouseNow_173 rfl ?_
        refine tw_i2l dX10_ofHouseNow_175 ?_
        refine tw_nml (fun v297 ev297 => ?_)
        refine tw_last dX10_ofHouseNow_176 f296 (vp_in_nI (n := 7) (by decide) (by decide)) ?_
        obtain ⟨F298, eF298⟩ : ∃ z : Nat → Int64, z = vp_updL F290 (7 : Int32).toNatClampNeg v297 := ⟨_, rfl⟩
        rw [← eF298]
        obtain ⟨h299, eh299⟩ : ∃ z : tw_H, z = tw_up h291 q100 (.inl (d.2 1, 8, .inr (.inl F298))) := ⟨_, rfl⟩
        rw [← eh299]
        have th300 : tw_th (h299 x) = tw_th (h x) := by rw [eh299, tw_up_n (tw_nk kx z104 (by decide))] <;> exact th292
        have oq301 : h299 o = h o := by rw [eh299, tw_up_n (tw_nk ko z104 (by decide))] <;> exact oq293
        have sp302 : tw_sp d τ (tw_rm h70 it65) g τ h299 := by rw [eh299]; exact sp294.wl n103 z104
        have f303 : h299 it65 = some (.inr (2, [.int (nI j78), .int l79, .int (g.1 5), .ref ld_13])) := by rw [eh299, tw_up_n ne105]; exact f295
        have f304 : h299 q100 = some (.inl (d.2 1, 8, .inr (.inl F298))) := by rw [eh299]; exact tw_up_s
        refine tw_astore [(6, .ref q100), (0, .ref x), (1, .int (nI a)), (2, .int (nI w)), (3, .ref r43), (4, .int x75), (5, .int x76)] dX10_ofHouseNow_177 (by decide) rfl ?_
        refine tw_aload 0 dX10_ofHouseNow_179 rfl ?_
        refine tw_iload_n 3 dX10_ofHouseNow_181 rfl rfl ?_
        obtain ⟨v305, ev305⟩ : ∃ y : Int64, F298 ((nI w)).toNatClampNeg = y := ⟨_, rfl⟩
        refine tw_lald (v := v305) dX10_ofHouseNow_182 f304 (vp_in_nI (by omega) (by decide)) ev305 ?_
        refine tw_l2i dX10_ofHouseNow_183 ?_
        refine tw_nmi (fun v306 ev306 => ?_)
        have rv9 : v306 = tw_hM g a w := by
          rw [ev306, ← ev305, nI_clamp (by omega), eF298, eF290, eF282, eF224, eF196, eF168, eF147, eF126]
          rw [show ((0 : Int32)).toNatClampNeg = 0 by decide]
          rw [show ((1 : Int32)).toNatClampNeg = 1 by decide]
          rw [show ((2 : Int32)).toNatClampNeg = 2 by decide]
          rw [show ((3 : Int32)).toNatClampNeg = 3 by decide]
          rw [show ((4 : Int32)).toNatClampNeg = 4 by decide]
          rw [show ((5 : Int32)).toNatClampNeg = 5 by decide]
          rw [show ((6 : Int32)).toNatClampNeg = 6 by decide]
          rw [show ((7 : Int32)).toNatClampNeg = 7 by decide]
          rcases (show w = 0 ∨ w = 1 ∨ w = 2 ∨ w = 3 ∨ w = 4 ∨ w = 5 ∨ w = 6 ∨ w = 7 by omega) with rfl | rfl | rfl | rfl | rfl | rfl | rfl | rfl
          · exact (congrArg Int64.toInt32 ev125).trans (Int32.toInt32_toInt64 _)
          · exact (congrArg Int64.toInt32 ev146).trans (Int32.toInt32_toInt64 _)
          · exact (congrArg Int64.toInt32 ev167).trans (Int32.toInt32_toInt64 _)
          · exact Int32.toInt32_toInt64 _
          · exact Int32.toInt32_toInt64 _
          · exact (congrArg Int64.toInt32 q244v).trans (tw_L_32 (tw_wo_lt (he.p (j := a) (k := 0) (by omega) (by decide)).2 (he.p (j := a) (k := 1) (by omega) (by decide)).2 hk9.2))
          · exact ((congrArg Int64.toInt32 ev289).trans (Int32.toInt32_toInt64 _)).trans s69.1
          · exact ((congrArg Int64.toInt32 ev297).trans (Int32.toInt32_toInt64 _)).trans s69.2
        exact tw_iret dX10_ofHouseNow_184 rfl (Or.inl ⟨_, rfl, (sp73.trm n68 sp302), th300, oq301, rv9⟩)
      · rw [q96r]
        refine tw_if_eq 106 dX10_ofHouseNow_34 (by decide) (fun c307 => absurd c307 (by decide)) (fun _ => ?_)
        refine tw_aload 6 dX10_ofHouseNow_37 rfl ?_
        have k308 : τ el93 = 29 := k94.resolve_left (fun q => absurd q96j (by rw [q.2.1]; exact Nat.not_lt_zero _))
        obtain ⟨e309, f310, ⟨F311, rfl, hc312, hc313⟩, un314⟩ := sp83.1 el93 29 k308 (by decide)
        obtain ⟨y315, hy316, ky317⟩ := hc313 j78 q96j
        refine tw_br (tw_callF (M := mX10_ofHouseNow) (pc := 39) (n9 := 0) (ci := 2) tw_next ok_itNext w_1421 w_1419 (fun s H z => z.2.2.2.2.2.2.2.2.2) (by decide +kernel) dX10_ofHouseNow_39 w_1416 rfl ft84 [] [] rfl rfl ⟨by decide, by decide⟩ (Nat.le_of_ble_eq_true rfl) (c_next d h82 it65 ld_13 el93 j78 (g.2 5) y315 l79 (g.1 5) F311 ft84 f92 f310 q96j hc312 hy316) 1 8 (Nat.le_of_ble_eq_true rfl) (Nat.le_of_ble_eq_true rfl)) (fun r320 h319 q318 => ?_) (fun E h1 q => q.elim)
        obtain ⟨q318r, q318e⟩ := q318
        rw [q318r]
        have sp321 : tw_sp d τ (tw_rm h70 it65) g τ h319 := by rw [q318e]; exact sp83.wl tw_rm_s zt85
        have id322 : g.2 (4096 + y315) = 1232 + 8 * j78 := un314.2.2 _ _ F311 rfl j78 y315 q96j hy316
        have th323 : tw_th (h319 x) = tw_th (h x) := by rw [q318e, tw_up_n (tw_nk kx zt85 (by decide))] <;> exact th86
        have oq324 : h319 o = h o := by rw [q318e, tw_up_n (tw_nk ko zt85 (by decide))] <;> exact oq87
        have f325 : h319 it65 = some (.inr (2, [.int (nI (j78 + 1)), .int (nI j78), .int (g.1 5), .ref ld_13])) := by rw [q318e]; exact tw_up_s
        obtain ⟨e326, f327, v_328, dy_329, pd_330, i_331, j_332, rfl, k333, k334, k335, k336⟩ := sp321.1 y315 22 ky317 (by decide)
        obtain ⟨j337, ow338, fv9, fd9, fp9, ei339, ej340⟩ := k336
        obtain rfl : j78 = j337 := by have z := ow338.b id322; omega
        subst fv9 fd9 fp9
        refine tw_castS (ci := 12) rfl dX10_ofHouseNow_44 w_1433 f327 ?_
        refine tw_astore [(7, .ref y315), (0, .ref x), (1, .int (nI a)), (2, .int (nI w)), (3, .ref r43), (4, .int x75), (5, .int x76), (6, .ref it65)] dX10_ofHouseNow_47 (by decide) rfl ?_
        refine tw_iload 5 dX10_ofHouseNow_49 rfl ?_
        refine tw_aload 0 dX10_ofHouseNow_51 rfl ?_
        refine tw_get (v := .int (g.1 (1232 + 8 * j78 + 2))) rfl in_12 4 dX10_ofHouseNow_53 w_1443 rfl (by decide) f327 rfl ?_
        refine tw_if_ne 72 dX10_ofHouseNow_56 (by decide) (fun c341 => ?_) (fun c341 => ?_)
        · have f39 : (if g.1 (1232 + 8 * j78 + 2) = 0 ∧ g.1 (1232 + 8 * j78 + 3) = nI a then 1 else 0 : Int32) = 0 := if_neg (fun z => c341 z.1)
          have f49 : (if g.1 (1232 + 8 * j78 + 2) = 0 ∧ g.1 (1232 + 8 * j78 + 4) = nI a then 1 else 0 : Int32) = 0 := if_neg (fun z => c341 z.1)
          refine tw_iconst (v := 0) dX10_ofHouseNow_72 (by decide) ?_
          refine tw_iadd dX10_ofHouseNow_73 ?_
          refine tw_nmi (fun v342 ev342 => ?_)
          refine tw_istore [(4, .int v342), (7, .ref y315), (0, .ref x), (1, .int (nI a)), (2, .int (nI w)), (3, .ref r43), (5, .int x76), (6, .ref it65)] dX10_ofHouseNow_74 (by decide) rfl ?_
          refine tw_iload 6 dX10_ofHouseNow_76 rfl ?_
          refine tw_aload 1 dX10_ofHouseNow_78 rfl ?_
          refine tw_get (v := .int (g.1 (1232 + 8 * j78 + 2))) rfl in_12 4 dX10_ofHouseNow_80 w_1443 rfl (by decide) f327 rfl ?_
          refine tw_if_ne 99 dX10_ofHouseNow_83 (by decide) (fun _ => ?_) (fun c343 => absurd c343 (c341))
          refine tw_iconst (v := 0) dX10_ofHouseNow_99 (by decide) ?_
          refine tw_iadd dX10_ofHouseNow_100 ?_
          refine tw_nmi (fun v344 ev344 => ?_)
          refine tw_istore [(5, .int v344), (4, .int v342), (7, .ref y315), (0, .ref x), (1, .int (nI a)), (2, .int (nI w)), (3, .ref r43), (6, .ref it65)] dX10_ofHouseNow_101 (by decide) rfl ?_
          refine tw_goto 27 dX10_ofHouseNow_103 (by decide) ?_
          refine tw_lv [3, 4, 5, 6, 1, 0, 7] rfl ?_
          exact ih80 ((j78 + 1)) (nI j78) v342 v344 _ sp321 f325 zt85 th323 oq324 (⟨by show v342 = tw_isum (fun j => if g.1 (1232 + 8 * j + 2) = 0 ∧ g.1 (1232 + 8 * j + 3) = nI a then 1 else 0) j78 + (if g.1 (1232 + 8 * j78 + 2) = 0 ∧ g.1 (1232 + 8 * j78 + 3) = nI a then 1 else 0 : Int32); rw [ev342, f39, li88.1], by show v344 = tw_isum (fun j => if g.1 (1232 + 8 * j + 2) = 0 ∧ g.1 (1232 + 8 * j + 4) = nI a then 1 else 0) j78 + (if g.1 (1232 + 8 * j78 + 2) = 0 ∧ g.1 (1232 + 8 * j78 + 4) = nI a then 1 else 0 : Int32); rw [ev344, f49, li88.2]⟩) (by omega) (by omega)
        · refine tw_aload 0 dX10_ofHouseNow_59 rfl ?_
          refine tw_get (v := .int (nI i_331)) rfl in_12 0 dX10_ofHouseNow_61 w_1439 rfl (by decide) f327 rfl ?_
          refine tw_iload_n 2 dX10_ofHouseNow_64 rfl rfl ?_
          refine tw_icmp_ne 72 dX10_ofHouseNow_65 (by decide) (fun c345 => ?_) (fun c345 => ?_)
          · have f39 : (if g.1 (1232 + 8 * j78 + 2) = 0 ∧ g.1 (1232 + 8 * j78 + 3) = nI a then 1 else 0 : Int32) = 0 := if_neg (fun z => c345 (ei339.trans z.2))
            refine tw_iconst (v := 0) dX10_ofHouseNow_72 (by decide) ?_
            refine tw_iadd dX10_ofHouseNow_73 ?_
            refine tw_nmi (fun v346 ev346 => ?_)
            refine tw_istore [(4, .int v346), (7, .ref y315), (0, .ref x), (1, .int (nI a)), (2, .int (nI w)), (3, .ref r43), (5, .int x76), (6, .ref it65)] dX10_ofHouseNow_74 (by decide) rfl ?_
            refine tw_iload 6 dX10_ofHouseNow_76 rfl ?_
            refine tw_aload 1 dX10_ofHouseNow_78 rfl ?_
            refine tw_get (v := .int (g.1 (1232 + 8 * j78 + 2))) rfl in_12 4 dX10_ofHouseNow_80 w_1443 rfl (by decide) f327 rfl ?_
            refine tw_if_ne 99 dX10_ofHouseNow_83 (by decide) (fun c347 => absurd (c341) c347) (fun _ => ?_)
            refine tw_aload 1 dX10_ofHouseNow_86 rfl ?_
            refine tw_get (v := .int (nI j_332)) rfl in_12 1 dX10_ofHouseNow_88 w_1440 rfl (by decide) f327 rfl ?_
            refine tw_iload_n 3 dX10_ofHouseNow_91 rfl rfl ?_
            refine tw_icmp_ne 99 dX10_ofHouseNow_92 (by decide) (fun c348 => ?_) (fun c348 => ?_)
            · have f49 : (if g.1 (1232 + 8 * j78 + 2) = 0 ∧ g.1 (1232 + 8 * j78 + 4) = nI a then 1 else 0 : Int32) = 0 := if_neg (fun z => c348 (ej340.trans z.2))
              refine tw_iconst (v := 0) dX10_ofHouseNow_99 (by decide) ?_
              refine tw_iadd dX10_ofHouseNow_100 ?_
              refine tw_nmi (fun v349 ev349 => ?_)
              refine tw_istore [(5, .int v349), (4, .int v346), (7, .ref y315), (0, .ref x), (1, .int (nI a)), (2, .int (nI w)), (3, .ref r43), (6, .ref it65)] dX10_ofHouseNow_101 (by decide) rfl ?_
              refine tw_goto 27 dX10_ofHouseNow_103 (by decide) ?_
              refine tw_lv [3, 4, 5, 6, 1, 0, 7] rfl ?_
              exact ih80 ((j78 + 1)) (nI j78) v346 v349 _ sp321 f325 zt85 th323 oq324 (⟨by show v346 = tw_isum (fun j => if g.1 (1232 + 8 * j + 2) = 0 ∧ g.1 (1232 + 8 * j + 3) = nI a then 1 else 0) j78 + (if g.1 (1232 + 8 * j78 + 2) = 0 ∧ g.1 (1232 + 8 * j78 + 3) = nI a then 1 else 0 : Int32); rw [ev346, f39, li88.1], by show v349 = tw_isum (fun j => if g.1 (1232 + 8 * j + 2) = 0 ∧ g.1 (1232 + 8 * j + 4) = nI a then 1 else 0) j78 + (if g.1 (1232 + 8 * j78 + 2) = 0 ∧ g.1 (1232 + 8 * j78 + 4) = nI a then 1 else 0 : Int32); rw [ev349, f49, li88.2]⟩) (by omega) (by omega)
            · have f49 : (if g.1 (1232 + 8 * j78 + 2) = 0 ∧ g.1 (1232 + 8 * j78 + 4) = nI a then 1 else 0 : Int32) = 1 := if_pos ⟨c341, ej340.symm.trans c348⟩
              refine tw_iconst (v := 1) dX10_ofHouseNow_95 (by decide) ?_
              refine tw_goto 100 dX10_ofHouseNow_96 (by decide) ?_
              refine tw_iadd dX10_ofHouseNow_100 ?_
              refine tw_nmi (fun v350 ev350 => ?_)
              refine tw_istore [(5, .int v350), (4, .int v346), (7, .ref y315), (0, .ref x), (1, .int (nI a)), (2, .int (nI w)), (3, .ref r43), (6, .ref it65)] dX10_ofHouseNow_101 (by decide) rfl ?_
              refine tw_goto 27 dX10_ofHouseNow_103 (by decide) ?_
              refine tw_lv [3, 4, 5, 6, 1, 0, 7] rfl ?_
              exact ih80 ((j78 + 1)) (nI j78) v346 v350 _ sp321 f325 zt85 th323 oq324 (⟨by show v346 = tw_isum (fun j => if g.1 (1232 + 8 * j + 2) = 0 ∧ g.1 (1232 + 8 * j + 3) = nI a then 1 else 0) j78 + (if g.1 (1232 + 8 * j78 + 2) = 0 ∧ g.1 (1232 + 8 * j78 + 3) = nI a then 1 else 0 : Int32); rw [ev346, f39, li88.1], by show v350 = tw_isum (fun j => if g.1 (1232 + 8 * j + 2) = 0 ∧ g.1 (1232 + 8 * j + 4) = nI a then 1 else 0) j78 + (if g.1 (1232 + 8 * j78 + 2) = 0 ∧ g.1 (1232 + 8 * j78 + 4) = nI a then 1 else 0 : Int32); rw [ev350, f49, li88.2]⟩) (by omega) (by omega)
          · have f39 : (if g.1 (1232 + 8 * j78 + 2) = 0 ∧ g.1 (1232 + 8 * j78 + 3) = nI a then 1 else 0 : Int32) = 1 := if_pos ⟨c341, ei339.symm.trans c345⟩
            refine tw_iconst (v := 1) dX10_ofHouseNow_68 (by decide) ?_
            refine tw_goto 73 dX10_ofHouseNow_69 (by decide) ?_
            refine tw_iadd dX10_ofHouseNow_73 ?_
            refine tw_nmi (fun v351 ev351 => ?_)
            refine tw_istore [(4, .int v351), (7, .ref y315), (0, .ref x), (1, .int (nI a)), (2, .int (nI w)), (3, .ref r43), (5, .int x76), (6, .ref it65)] dX10_ofHouseNow_74 (by decide) rfl ?_
            refine tw_iload 6 dX10_ofHouseNow_76 rfl ?_
            refine tw_aload 1 dX10_ofHouseNow_78 rfl ?_
            refine tw_get (v := .int (g.1 (1232 + 8 * j78 + 2))) rfl in_12 4 dX10_ofHouseNow_80 w_1443 rfl (by decide) f327 rfl ?_
            refine tw_if_ne 99 dX10_ofHouseNow_83 (by decide) (fun c352 => absurd (c341) c352) (fun _ => ?_)
            refine tw_aload 1 dX10_ofHouseNow_86 rfl ?_
            refine tw_get (v := .int (nI j_332)) rfl in_12 1 dX10_ofHouseNow_88 w_1440 rfl (by decide) f327 rfl ?_
            refine tw_iload_n 3 dX10_ofHouseNow_91 rfl rfl ?_
            refine tw_icmp_ne 99 dX10_ofHouseNow_92 (by decide) (fun c353 => ?_) (fun c353 => ?_)
            · have f49 : (if g.1 (1232 + 8 * j78 + 2) = 0 ∧ g.1 (1232 + 8 * j78 + 4) = nI a then 1 else 0 : Int32) = 0 := if_neg (fun z => c353 (ej340.trans z.2))
              refine tw_iconst (v := 0) dX10_ofHouseNow_99 (by decide) ?_
              refine tw_iadd dX10_ofHouseNow_100 ?_
              refine tw_nmi (fun v354 ev354 => ?_)
              refine tw_istore [(5, .int v354), (4, .int v351), (7, .ref y315), (0, .ref x), (1, .int (nI a)), (2, .int (nI w)), (3, .ref r43), (6, .ref it65)] dX10_ofHouseNow_101 (by decide) rfl ?_
              refine tw_goto 27 dX10_ofHouseNow_103 (by decide) ?_
              refine tw_lv [3, 4, 5, 6, 1, 0, 7] rfl ?_
              exact ih80 ((j78 + 1)) (nI j78) v351 v354 _ sp321 f325 zt85 th323 oq324 (⟨by show v351 = tw_isum (fun j => if g.1 (1232 + 8 * j + 2) = 0 ∧ g.1 (1232 + 8 * j + 3) = nI a then 1 else 0) j78 + (if g.1 (1232 + 8 * j78 + 2) = 0 ∧ g.1 (1232 + 8 * j78 + 3) = nI a then 1 else 0 : Int32); rw [ev351, f39, li88.1], by show v354 = tw_isum (fun j => if g.1 (1232 + 8 * j + 2) = 0 ∧ g.1 (1232 + 8 * j + 4) = nI a then 1 else 0) j78 + (if g.1 (1232 + 8 * j78 + 2) = 0 ∧ g.1 (1232 + 8 * j78 + 4) = nI a then 1 else 0 : Int32); rw [ev354, f49, li88.2]⟩) (by omega) (by omega)
            · have f49 : (if g.1 (1232 + 8 * j78 + 2) = 0 ∧ g.1 (1232 + 8 * j78 + 4) = nI a then 1 else 0 : Int32) = 1 := if_pos ⟨c341, ej340.symm.trans c353⟩
              refine tw_iconst (v := 1) dX10_ofHouseNow_95 (by decide) ?_
              refine tw_goto 100 dX10_ofHouseNow_96 (by decide) ?_
              refine tw_iadd dX10_ofHouseNow_100 ?_
              refine tw_nmi (fun v355 ev355 => ?_)
              refine tw_istore [(5, .int v355), (4, .int v351), (7, .ref y315), (0, .ref x), (1, .int (nI a)), (2, .int (nI w)), (3, .ref r43), (6, .ref it65)] dX10_ofHouseNow_101 (by decide) rfl ?_
              refine tw_goto 27 dX10_ofHouseNow_103 (by decide) ?_
              refine tw_lv [3, 4, 5, 6, 1, 0, 7] rfl ?_
              exact ih80 ((j78 + 1)) (nI j78) v351 v355 _ sp321 f325 zt85 th323 oq324 (⟨by show v351 = tw_isum (fun j => if g.1 (1232 + 8 * j + 2) = 0 ∧ g.1 (1232 + 8 * j + 3) = nI a then 1 else 0) j78 + (if g.1 (1232 + 8 * j78 + 2) = 0 ∧ g.1 (1232 + 8 * j78 + 3) = nI a then 1 else 0 : Int32); rw [ev351, f39, li88.1], by show v355 = tw_isum (fun j => if g.1 (1232 + 8 * j + 2) = 0 ∧ g.1 (1232 + 8 * j + 4) = nI a then 1 else 0) j78 + (if g.1 (1232 + 8 * j78 + 2) = 0 ∧ g.1 (1232 + 8 * j78 + 4) = nI a then 1 else 0 : Int32); rw [ev355, f49, li88.2]⟩) (by omega) (by omega)
  refine tw_lv [4, 5, 6, 3, 2, 1, 0] rfl ?_
  exact L81 (g.2 5 + 1) 0 (-1) 0 0 _ (tw_sp.rm sp73.1 it65) f74 z69 th71 oq72 (⟨rfl, rfl⟩) (by omega) (Nat.zero_le _)

set_option maxHeartbeats 4000000 in
set_option maxRecDepth 100000 in
theorem c5n_X10_due (d : tw_D) (g : tw_G) (τ : tw_K) (h : tw_H) (hw : tw_wt d g τ h) (x : Nat) (kx : τ x = 36) (y : Nat) (ky : τ y = 22) (j : Nat) (hj : j < g.2 5) (hj9 : j < 10) (hb : g.2 (4096 + y) = 1232 + 8 * j) (hp : ¬ g.1 (1232 + 8 * j + 2) = 0) : tw_Ct d mX10_due 0 0 [.ref x, .ref y] h (tw_qi (fun r h1 => h1 = h ∧ r = 0) tw_nx) := by
  refine tw_of (by decide +kernel) (Nat.le_of_ble_eq_true rfl) ?_
  show tw_W d mX10_due _ 0 [(0, .ref x), (1, .ref y)] [] h 0 0
  have sp0 := tw_sp.rf hw
  refine tw_aload_n 1 dX10_due_0 rfl rfl ?_
  obtain ⟨e1, f2, v_3, dy_4, pd_5, i_6, j_7, rfl, k8, k9, k10, k11⟩ := sp0.1 y 22 ky (by decide)
  obtain ⟨j12, ow13, fv9, fd9, fp9, ei14, ej15⟩ := k11
  obtain rfl : j = j12 := by have z := ow13.b hb; omega
  subst fv9 fd9 fp9
  refine tw_get (v := .int (g.1 (1232 + 8 * j + 2))) rfl in_12 4 dX10_due_1 w_1443 rfl (by decide) f2 rfl ?_
  refine tw_if_eq 11 dX10_due_4 (by decide) (fun c16 => absurd c16 (hp)) (fun _ => ?_)
  refine tw_iconst (v := 0) dX10_due_7 (by decide) ?_
  refine tw_goto 40 dX10_due_8 (by decide) ?_
  exact tw_iret dX10_due_40 rfl (Or.inl ⟨_, rfl, rfl, rfl⟩)

theorem c5_X10_due (d : tw_D) (g : tw_G) (τ : tw_K) (h : tw_H) (hw : tw_wt d g τ h) (x : Nat) (kx : τ x = 36) (y : Nat) (ky : τ y = 22) (j : Nat) (hj : j < g.2 5) (hj9 : j < 10) (hb : g.2 (4096 + y) = 1232 + 8 * j) (he : tw_MH g) : tw_Ct d mX10_due 0 0 [.ref x, .ref y] h (tw_qi (fun r h1 => h1 = h ∧ r = if g.1 (1232 + 8 * j + 2) = 0 then nI (tw_md g j) else 0) tw_nx) := by
  by_cases hp : g.1 (1232 + 8 * j + 2) = 0
  · simp only [if_pos hp]
    exact c4_X10_due d g τ h hw x kx y ky j hj hj9 hb hp he
  · simp only [if_neg hp]
    exact c5n_X10_due d g τ h hw x kx y ky j hj hj9 hb hp
def tw_dM (g : tw_G) (a : Nat) : Nat → Int32
  | 0 => g.1 (1232 + 8 * a + 3)
  | 1 => g.1 (1232 + 8 * a + 4)
  | 2 => g.1 (1232 + 8 * a + 0)
  | 3 => g.1 (1232 + 8 * a + 1)
  | 4 => if g.1 (1232 + 8 * a + 2) = 0 then nI (tw_md g a) else 0
  | 5 => if g.1 (1232 + 8 * a + 2) = 0 then 0 else 1
  | _ + 6 => if g.1 (1232 + 8 * a + 2) = 0 ∧ g.1 (960 + 32 * tw_eF g a + 1) ≠ -1 then tw_ck (tw_ms g a 0) (tw_md g a) (tw_DN (g.1 1)) else -1
theorem tw_msb {g : tw_G} {j k : Nat} (he : tw_MH g) (hm : tw_EM g) (hj : j < g.2 5) (hT : g.2 22 ≤ 3000) (h3 : tw_mP g (tw_eF g j) < g.2 3) (_ : g.1 (960 + 32 * tw_eF g j + 1) ≠ -1) : tw_ms g j k ≤ 40000 := tw_ms_le he hj hT (hm _ h3).1.1
set_option maxHeartbeats 4000000 in
set_option maxRecDepth 100000 in
theorem c4_X10_cheaper (d : tw_D) (g : tw_G) (τ : tw_K) (h : tw_H) (hw : tw_wt d g τ h) (x : Nat) (kx : τ x = 36) (y : Nat) (ky : τ y = 22) (j : Nat) (hj : j < g.2 5) (hj9 : j < 10) (hb : g.2 (4096 + y) = 1232 + 8 * j) (he9 : tw_MH g) (hm : tw_EM g) (hT9 : g.2 22 ≤ 3000) (hk9 : tw_MW g) (hs9 : ∀ i, i < g.2 4 → g.1 (960 + 32 * i + 1) ≠ -1 → tw_mP g i < g.2 3) : tw_Ct d mX10_cheaper 0 0 [.ref x, .ref y] h (tw_qi (fun r h1 => h1 = h ∧ r = tw_dM g j 6) tw_nx) := by
  refine tw_of (by decide +kernel) (Nat.le_of_ble_eq_true rfl) ?_
  show tw_W d mX10_cheaper _ 0 [(0, .ref x), (1, .ref y)] [] h 0 0
  have sp0 := tw_sp.rf hw
  have b9 := tw_b3 hw kx
  have b94 := tw_b4 hw kx
  refine tw_aload_n 1 dX10_cheaper_0 rfl rfl ?_
  obtain ⟨e1, f2, v_3, dy_4, pd_5, i_6, j_7, rfl, k8, k9, k10, k11⟩ := sp0.1 y 22 ky (by decide)
  obtain ⟨j12, ow13, fv9, fd9, fp9, ei14, ej15⟩ := k11
  obtain rfl : j = j12 := by have z := ow13.b hb; omega
  subst fv9 fd9 fp9
  refine tw_get (v := .int (g.1 (1232 + 8 * j + 2))) rfl in_12 4 dX10_cheaper_1 w_1443 rfl (by decide) f2 rfl ?_
  refine tw_if_ne 28 dX10_cheaper_4 (by decide) (fun c16 => ?_) (fun c16 => ?_)
  · refine tw_iconst (v := -1) dX10_cheaper_28 (by decide) ?_
    exact tw_iret dX10_cheaper_29 rfl (Or.inl ⟨_, rfl, rfl, (if_neg (fun z => c16 z.1)).symm⟩)
  · have pd9 := c16
    refine tw_aload_n 0 dX10_cheaper_7 rfl rfl ?_
    obtain ⟨e17, f18, th_19, td_20, ds_21, fr_22, ca_23, us_24, wo_25, cm_26, lc_27, lh_28, ld_29, rfl, k30, k31, k32, k33, k34, k35, k36, k37, k38, k39, k40, k41, k42, k43, k44, k45, k46, k47, k48, k49, k50, k51⟩ := sp0.1 x 36 kx (by decide)
    refine tw_get (v := .ref lh_28) rfl in_14 10 dX10_cheaper_8 w_1161 rfl (by decide) f18 rfl ?_
    refine tw_aload_n 1 dX10_cheaper_11 rfl rfl ?_
    refine tw_get (v := .int (nI i_6)) rfl in_12 0 dX10_cheaper_12 w_1439 rfl (by decide) f2 rfl ?_
    obtain ⟨e52, f53, ⟨el54, rfl, k55⟩, k56⟩ := sp0.1 lh_28 25 k37 (by decide)
    refine tw_br (tw_callV (M := mX10_cheaper) (pc := 15) okJx4a65c_get_915e3 dX10_cheaper_15 w_1292 rfl f53 [.int (nI i_6)] [] rfl rfl ⟨by decide, by decide⟩ (Nat.le_of_ble_eq_true rfl) (c25_get d g τ h sp0.1 lh_28 k37 i_6 (by omega) (by omega)) 0 0 (Nat.le_of_ble_eq_true rfl) (Nat.le_of_ble_eq_true rfl)) (fun r59 h58 q57 => ?_) (fun E h1 q => q.elim)
    obtain ⟨q57e, q57k⟩ := q57
    rw [q57e]
    have el60 : tw_el h (g.2 13) i_6 = r59 := by rw [← k56]; exact q57k.2.symm
    have kl61 : τ (g.2 13) = 25 := by rw [← k56]; exact k37
    have id62 : g.2 (4096 + r59) = 960 + 32 * i_6 := by rw [← el60]; exact tw_eli25 sp0.1 kl61 (by omega)
    obtain ⟨e63, f64, x_65, y_66, dy_67, p_68, rfl, k69, k70, k71, k72⟩ := sp0.1 r59 23 q57k.1 (by decide)
    obtain ⟨j73, ow74, fd9, fa9, ft9, lp75⟩ := k72
    obtain rfl : i_6 = j73 := by have z := ow74.b id62; omega
    subst fd9 fa9 ft9
    refine tw_castS (ci := 13) rfl dX10_cheaper_18 w_1332 f64 ?_
    refine tw_get (v := .int (g.1 (960 + 32 * i_6 + 1))) rfl in_13 0 dX10_cheaper_21 w_1338 rfl (by decide) f64 rfl ?_
    refine tw_iconst (v := -1) dX10_cheaper_24 (by decide) ?_
    refine tw_icmp_ne 30 dX10_cheaper_25 (by decide) (fun c76 => ?_) (fun c76 => ?_)
    · have ef9 : tw_eF g j = _ := tw_eN_e (c := 3) ei14 (by omega)
      have hF9 : g.1 (960 + 32 * tw_eF g j + 1) ≠ -1 := by rw [ef9]; exact c76
      refine tw_aload_n 0 dX10_cheaper_30 rfl rfl ?_
      refine tw_aload_n 1 dX10_cheaper_31 rfl rfl ?_
      refine tw_iconst (v := 0) dX10_cheaper_32 (by decide) ?_
      refine tw_bl (tw_callV (M := mX10_cheaper) (pc := 33) okX10_toPay dX10_cheaper_33 w_1463 rfl f18 [.ref y, .int 0] [] rfl rfl ⟨by decide, by decide⟩ (Nat.le_of_ble_eq_true rfl) (c4_X10_toPay d g τ h sp0.1 x kx y ky j hj hj9 hb 0 (by decide) pd9 hF9 he9 hm hT9) 0 0 (Nat.le_of_ble_eq_true rfl) (Nat.le_of_ble_eq_true rfl)) (fun r79 h78 q77 => ?_) (fun E h1 q => q.elim)
      obtain ⟨q77e, tp0⟩ := q77
      rw [q77e]
      refine tw_aload_n 0 dX10_cheaper_36 rfl rfl ?_
      refine tw_get (v := .int (g.1 1)) rfl in_14 2 dX10_cheaper_37 w_1153 rfl (by decide) f18 rfl ?_
      refine tw_i2l dX10_cheaper_40 ?_
      refine tw_nml (fun v80 ev80 => ?_)
      refine tw_lmul dX10_cheaper_41 ?_
      refine tw_nml (fun v81 ev81 => ?_)
      refine tw_ldc2 (v := 10) dX10_cheaper_42 w_1369 ?_
      refine tw_ldiv dX10_cheaper_45 (by decide) ?_
      refine tw_nml (fun v82 ev82 => ?_)
      refine tw_aload_n 0 dX10_cheaper_46 rfl rfl ?_
      refine tw_aload_n 1 dX10_cheaper_47 rfl rfl ?_
      refine tw_iconst (v := 1) dX10_cheaper_48 (by decide) ?_
      refine tw_bl (tw_callV (M := mX10_cheaper) (pc := 49) okX10_toPay dX10_cheaper_49 w_1463 rfl f18 [.ref y, .int 1] [.long v82] rfl rfl ⟨by decide, by decide⟩ (Nat.le_of_ble_eq_true rfl) (c4_X10_toPay d g τ h sp0.1 x kx y ky j hj hj9 hb 1 (by decide) pd9 hF9 he9 hm hT9) 0 0 (Nat.le_of_ble_eq_true rfl) (Nat.le_of_ble_eq_true rfl)) (fun r85 h84 q83 => ?_) (fun E h1 q => q.elim)
      obtain ⟨q83e, tp1⟩ := q83
      rw [q83e]
      refine tw_lcmp dX10_cheaper_52 ?_
      refine tw_nmi (fun v86 ev86 => ?_)
      refine tw_if_ge 60 dX10_cheaper_53 (by decide) (fun c87 => ?_) (fun c87 => ?_)
      · have bb9 := tw_msb (k := 0) he9 hm hj hT9 (hs9 _ (by rw [ef9]; omega) hF9) hF9
        have ml9 : tw_ms g j 0 * tw_DN (g.1 1) ≤ 40000 * 200 := Nat.mul_le_mul bb9 hk9.2
        have hm2 := hk9.2
        have cv9 := c87
        rw [ev86, ev82, ev81, ev80, tp0, tp1, hk9.1, tw_L_i (by omega), show (10 : Int64) = tw_L 10 from rfl, tw_L_mul (by omega) (by omega) (by omega), tw_L_div (by omega) (by decide)] at cv9
        have ck9 : ¬ tw_ms g j 0 * tw_DN (g.1 1) / 10 < tw_md g j := by have z := (tw_cmp_ge (by omega) (tw_ms_lt he9 hj hT9)).mp cv9; rw [show tw_ms g j 1 = tw_md g j from rfl] at z; omega
        refine tw_iconst (v := 1) dX10_cheaper_60 (by decide) ?_
        exact tw_iret dX10_cheaper_61 rfl (Or.inl ⟨_, rfl, rfl, ((if_pos ⟨pd9, hF9⟩).trans (if_neg ck9)).symm⟩)
      · have bb9 := tw_msb (k := 0) he9 hm hj hT9 (hs9 _ (by rw [ef9]; omega) hF9) hF9
        have ml9 : tw_ms g j 0 * tw_DN (g.1 1) ≤ 40000 * 200 := Nat.mul_le_mul bb9 hk9.2
        have hm2 := hk9.2
        have cv9 := c87
        rw [ev86, ev82, ev81, ev80, tp0, tp1, hk9.1, tw_L_i (by omega), show (10 : Int64) = tw_L 10 from rfl, tw_L_mul (by omega) (by omega) (by omega), tw_L_div (by omega) (by decide)] at cv9
        have ck9 : tw_ms g j 0 * tw_DN (g.1 1) / 10 < tw_md g j := by rcases Nat.lt_or_ge (tw_ms g j 0 * tw_DN (g.1 1) / 10) (tw_md g j) with y | y; exact y; exact absurd ((tw_cmp_ge (by omega) (tw_ms_lt he9 hj hT9)).mpr y) cv9
        refine tw_iconst (v := 0) dX10_cheaper_56 (by decide) ?_
        refine tw_goto 61 dX10_cheaper_57 (by decide) ?_
        exact tw_iret dX10_cheaper_61 rfl (Or.inl ⟨_, rfl, rfl, ((if_pos ⟨pd9, hF9⟩).trans (if_pos ck9)).symm⟩)
    · have ef9 : tw_eF g j = _ := tw_eN_e (c := 3) ei14 (by omega)
      have nF9 : g.1 (960 + 32 * tw_eF g j + 1) = -1 := by rw [ef9]; exact c76
      refine tw_iconst (v := -1) dX10_cheaper_28 (by decide) ?_
      exact tw_iret dX10_cheaper_29 rfl (Or.inl ⟨_, rfl, rfl, (if_neg (fun z => z.2 nF9)).symm⟩)

set_option maxHeartbeats 4000000 in
set_option maxRecDepth 100000 in
theorem c4_X10_ofDebtNow (d : tw_D) (g : tw_G) (τ : tw_K) (h : tw_H) (hw : tw_wt d g τ h) (x : Nat) (kx : τ x = 36) (y : Nat) (ky : τ y = 22) (j : Nat) (hj : j < g.2 5) (hj9 : j < 10) (hb : g.2 (4096 + y) = 1232 + 8 * j) (w : Nat) (hw9 : w ≤ 6) (o : Nat) (ko : τ o = 12) (he9 : tw_MH g) (hm : tw_EM g) (hT9 : g.2 22 ≤ 3000) (hk9 : tw_MW g) (hs9 : ∀ i, i < g.2 4 → g.1 (960 + 32 * i + 1) ≠ -1 → tw_mP g i < g.2 3) : tw_Ct d mX10_ofDebtNow 1 7 [.ref x, .ref y, .int (nI w)] h (tw_qi (fun r h1 => tw_sp d τ h g τ h1 ∧ tw_th (h1 x) = tw_th (h x) ∧ h1 o = h o ∧ r = tw_dM g j w) tw_nx) := by
  refine tw_of (by decide +kernel) (Nat.le_of_ble_eq_true rfl) ?_
  show tw_W d mX10_ofDebtNow _ 0 [(0, .ref x), (1, .ref y), (2, .int (nI w))] [] h 1 7
  have sp0 := tw_sp.rf hw
  have th0 : tw_th (h x) = tw_th (h x) := rfl
  have oq0 : h o = h o := rfl
  have b93 := tw_b3 hw kx
  have b94 := tw_b4 hw kx
  refine tw_bipush (v := 7) dX10_ofDebtNow_0 (by decide) ?_
  refine tw_newa (a0 := (7, .inl (fun _ => 0))) 0 rfl dX10_ofDebtNow_2 rfl w_500 (fun _ => rfl) (by decide) (by decide) (by decide) 0 0 (Nat.le_of_ble_eq_true rfl) (Nat.le_of_ble_eq_true rfl) (fun q1 hq2 hA3 => ?_)
  have n4 := sp0.nn hq2
  have z5 := sp0.1.none hq2
  obtain ⟨h6, eh6⟩ : ∃ z : tw_H, z = tw_up h q1 (.inl (d.2 0, 7, .inl (fun _ => 0))) := ⟨_, rfl⟩
  rw [← eh6]
  have th7 : tw_th (h6 x) = tw_th (h x) := by rw [eh6, tw_up_n (tw_kF sp0.1 kx (by decide) hq2)] <;> exact th0
  have oq8 : h6 o = h o := by rw [eh6, tw_up_n (tw_kF sp0.1 ko (by decide) hq2)] <;> exact oq0
  have sp9 : tw_sp d τ h g τ h6 := by rw [eh6]; exact sp0.mk hq2
  have f10 : h6 q1 = some (.inl (d.2 0, 7, .inl (fun _ => 0))) := by rw [eh6]; exact tw_up_s
  refine tw_dup dX10_ofDebtNow_4 rfl ?_
  refine tw_iconst (v := 0) dX10_ofDebtNow_5 (by decide) ?_
  refine tw_aload_n 1 dX10_ofDebtNow_6 rfl rfl ?_
  obtain ⟨e11, f12, v_13, dy_14, pd_15, i_16, j_17, rfl, k18, k19, k20, k21⟩ := sp9.1 y 22 ky (by decide)
  obtain ⟨j22, ow23, fv9, fd9, fp9, ei24, ej25⟩ := k21
  obtain rfl : j = j22 := by have z := ow23.b hb; omega
  subst fv9 fd9 fp9
  refine tw_get (v := .int (nI i_16)) rfl in_12 0 dX10_ofDebtNow_7 w_1439 rfl (by decide) f12 rfl ?_
  refine tw_iast dX10_ofDebtNow_10 f10 (vp_in_nI (n := 0) (by decide) (by decide)) ?_
  obtain ⟨F26, eF26⟩ : ∃ z : Nat → Int32, z = upd (fun _ => 0) (0 : Int32).toNatClampNeg (nI i_16) := ⟨_, rfl⟩
  rw [← eF26]
  obtain ⟨h27, eh27⟩ : ∃ z : tw_H, z = tw_up h6 q1 (.inl (d.2 0, 7, .inl F26)) := ⟨_, rfl⟩
  rw [← eh27]
  have th28 : tw_th (h27 x) = tw_th (h x) := by rw [eh27, tw_up_n (tw_nk kx z5 (by decide))] <;> exact th7
  have oq29 : h27 o = h o := by rw [eh27, tw_up_n (tw_nk ko z5 (by decide))] <;> exact oq8
  have sp30 : tw_sp d τ h g τ h27 := by rw [eh27]; exact sp9.wl n4 z5
  have f31 : h27 q1 = some (.inl (d.2 0, 7, .inl F26)) := by rw [eh27]; exact tw_up_s
  refine tw_dup dX10_ofDebtNow_11 rfl ?_
  refine tw_iconst (v := 1) dX10_ofDebtNow_12 (by decide) ?_
  refine tw_aload_n 1 dX10_ofDebtNow_13 rfl rfl ?_
  obtain ⟨e32, f33, v_34, dy_35, pd_36, i_37, j_38, rfl, k39, k40, k41, k42⟩ := sp30.1 y 22 ky (by decide)
  obtain ⟨j43, ow44, fv9, fd9, fp9, ei45, ej46⟩ := k42
  obtain rfl : j = j43 := by have z := ow44.b hb; omega
  subst fv9 fd9 fp9
  obtain rfl : i_16 = i_37 := by have y := ei45; (repeat (first | rw [tw_ad_ne (by omega)] at y | rw [tw_g1_ne (by omega)] at y)); have z := tw_b4 sp30.1 kx; exact tw_nIj (ei24.trans y.symm) (by omega) (by omega)
  obtain rfl : j_17 = j_38 := by have y := ej46; (repeat (first | rw [tw_ad_ne (by omega)] at y | rw [tw_g1_ne (by omega)] at y)); have z := tw_b4 sp30.1 kx; exact tw_nIj (ej25.trans y.symm) (by omega) (by omega)
  refine tw_get (v := .int (nI j_17)) rfl in_12 1 dX10_ofDebtNow_14 w_1440 rfl (by decide) f33 rfl ?_
  refine tw_iast dX10_ofDebtNow_17 f31 (vp_in_nI (n := 1) (by decide) (by decide)) ?_
  obtain ⟨F47, eF47⟩ : ∃ z : Nat → Int32, z = upd F26 (1 : Int32).toNatClampNeg (nI j_17) := ⟨_, rfl⟩
  rw [← eF47]
  obtain ⟨h48, eh48⟩ : ∃ z : tw_H, z = tw_up h27 q1 (.inl (d.2 0, 7, .inl F47)) := ⟨_, rfl⟩
  rw [← eh48]
  have th49 : tw_th (h48 x) = tw_th (h x) := by rw [eh48, tw_up_n (tw_nk kx z5 (by decide))] <;> exact th28
  have oq50 : h48 o = h o := by rw [eh48, tw_up_n (tw_nk ko z5 (by decide))] <;> exact oq29
  have sp51 : tw_sp d τ h g τ h48 := by rw [eh48]; exact sp30.wl n4 z5
  have f52 : h48 q1 = some (.inl (d.2 0, 7, .inl F47)) := by rw [eh48]; exact tw_up_s
  refine tw_dup dX10_ofDebtNow_18 rfl ?_
  refine tw_iconst (v := 2) dX10_ofDebtNow_19 (by decide) ?_
  refine tw_aload_n 1 dX10_ofDebtNow_20 rfl rfl ?_
  obtain ⟨e53, f54, v_55, dy_56, pd_57, i_58, j_59, rfl, k60, k61, k62, k63⟩ := sp51.1 y 22 ky (by decide)
  obtain ⟨j64, ow65, fv9, fd9, fp9, ei66, ej67⟩ := k63
  obtain rfl : j = j64 := by have z := ow65.b hb; omega
  subst fv9 fd9 fp9
  obtain rfl : i_16 = i_58 := by have y := ei66; (repeat (first | rw [tw_ad_ne (by omega)] at y | rw [tw_g1_ne (by omega)] at y)); have z := tw_b4 sp51.1 kx; exact tw_nIj (ei24.trans y.symm) (by omega) (by omega)
  obtain rfl : j_17 = j_59 := by have y := ej67; (repeat (first | rw [tw_ad_ne (by omega)] at y | rw [tw_g1_ne (by omega)] at y)); have z := tw_b4 sp51.1 kx; exact tw_nIj (ej25.trans y.symm) (by omega) (by omega)
  refine tw_get (v := .int (g.1 (1232 + 8 * j + 0))) rfl in_12 2 dX10_ofDebtNow_21 w_1441 rfl (by decide) f54 rfl ?_
  refine tw_iast dX10_ofDebtNow_24 f52 (vp_in_nI (n := 2) (by decide) (by decide)) ?_
  obtain ⟨F68, eF68⟩ : ∃ z : Nat → Int32, z = upd F47 (2 : Int32).toNatClampNeg (g.1 (1232 + 8 * j + 0)) := ⟨_, rfl⟩
  rw [← eF68]
  obtain ⟨h69, eh69⟩ : ∃ z : tw_H, z = tw_up h48 q1 (.inl (d.2 0, 7, .inl F68)) := ⟨_, rfl⟩
  rw [← eh69]
  have th70 : tw_th (h69 x) = tw_th (h x) := by rw [eh69, tw_up_n (tw_nk kx z5 (by decide))] <;> exact th49
  have oq71 : h69 o = h o := by rw [eh69, tw_up_n (tw_nk ko z5 (by decide))] <;> exact oq50
  have sp72 : tw_sp d τ h g τ h69 := by rw [eh69]; exact sp51.wl n4 z5
  have f73 : h69 q1 = some (.inl (d.2 0, 7, .inl F68)) := by rw [eh69]; exact tw_up_s
  refine tw_dup dX10_ofDebtNow_25 rfl ?_
  refine tw_iconst (v := 3) dX10_ofDebtNow_26 (by decide) ?_
  refine tw_aload_n 1 dX10_ofDebtNow_27 rfl rfl ?_
  obtain ⟨e74, f75, v_76, dy_77, pd_78, i_79, j_80, rfl, k81, k82, k83, k84⟩ := sp72.1 y 22 ky (by decide)
  obtain ⟨j85, ow86, fv9, fd9, fp9, ei87, ej88⟩ := k84
  obtain rfl : j = j85 := by have z := ow86.b hb; omega
  subst fv9 fd9 fp9
  obtain rfl : i_16 = i_79 := by have y := ei87; (repeat (first | rw [tw_ad_ne (by omega)] at y | rw [tw_g1_ne (by omega)] at y)); have z := tw_b4 sp72.1 kx; exact tw_nIj (ei24.trans y.symm) (by omega) (by omega)
  obtain rfl : j_17 = j_80 := by have y := ej88; (repeat (first | rw [tw_ad_ne (by omega)] at y | rw [tw_g1_ne (by omega)] at y)); have z := tw_b4 sp72.1 kx; exact tw_nIj (ej25.trans y.symm) (by omega) (by omega)
  refine tw_get (v := .int (g.1 (1232 + 8 * j + 1))) rfl in_12 3 dX10_ofDebtNow_28 w_1442 rfl (by decide) f75 rfl ?_
  refine tw_iast dX10_ofDebtNow_31 f73 (vp_in_nI (n := 3) (by decide) (by decide)) ?_
  obtain ⟨F89, eF89⟩ : ∃ z : Nat → Int32, z = upd F68 (3 : Int32).toNatClampNeg (g.1 (1232 + 8 * j + 1)) := ⟨_, rfl⟩
  rw [← eF89]
  obtain ⟨h90, eh90⟩ : ∃ z : tw_H, z = tw_up h69 q1 (.inl (d.2 0, 7, .inl F89)) := ⟨_, rfl⟩
  rw [← eh90]
  have th91 : tw_th (h90 x) = tw_th (h x) := by rw [eh90, tw_up_n (tw_nk kx z5 (by decide))] <;> exact th70
  have oq92 : h90 o = h o := by rw [eh90, tw_up_n (tw_nk ko z5 (by decide))] <;> exact oq71
  have sp93 : tw_sp d τ h g τ h90 := by rw [eh90]; exact sp72.wl n4 z5
  have f94 : h90 q1 = some (.inl (d.2 0, 7, .inl F89)) := by rw [eh90]; exact tw_up_s
  refine tw_dup dX10_ofDebtNow_32 rfl ?_
  refine tw_iconst (v := 4) dX10_ofDebtNow_33 (by decide) ?_
  refine tw_aload_n 0 dX10_ofDebtNow_34 rfl rfl ?_
  refine tw_aload_n 1 dX10_ofDebtNow_35 rfl rfl ?_
  obtain ⟨e98, f99, th_100, td_101, ds_102, fr_103, ca_104, us_105, wo_106, cm_107, lc_108, lh_109, ld_110, rfl, k111, k112, k113, k114, k115, k116, k117, k118, k119, k120, k121, k122, k123, k124, k125, k126, k127, k128, k129, k130, k131, k132⟩ := sp93.1 x 36 kx (by decide)
  refine tw_bi (tw_callV (M := mX10_ofDebtNow) (pc := 36) okX10_due dX10_ofDebtNow_36 w_1467 rfl f99 [.ref y] [.int 4, .ref q1, .ref q1] rfl rfl ⟨by decide, by decide⟩ (Nat.le_of_ble_eq_true rfl) (c5_X10_due d g τ h90 sp93.1 x kx y ky j hj hj9 hb he9) 0 0 (Nat.le_of_ble_eq_true rfl) (Nat.le_of_ble_eq_true rfl)) (fun r97 h96 q95 => ?_) (fun E h1 q => q.elim)
  obtain ⟨q95e, q95v⟩ := q95
  rw [q95e]
  refine tw_iast dX10_ofDebtNow_39 f94 (vp_in_nI (n := 4) (by decide) (by decide)) ?_
  obtain ⟨F133, eF133⟩ : ∃ z : Nat → Int32, z = upd F89 (4 : Int32).toNatClampNeg r97 := ⟨_, rfl⟩
  rw [← eF133]
  obtain ⟨h134, eh134⟩ : ∃ z : tw_H, z = tw_up h90 q1 (.inl (d.2 0, 7, .inl F133)) := ⟨_, rfl⟩
  rw [← eh134]
  have th135 : tw_th (h134 x) = tw_th (h x) := by rw [eh134, tw_up_n (tw_nk kx z5 (by decide))] <;> exact th91
  have oq136 : h134 o = h o := by rw [eh134, tw_up_n (tw_nk ko z5 (by decide))] <;> exact oq92
  have sp137 : tw_sp d τ h g τ h134 := by rw [eh134]; exact sp93.wl n4 z5
  have f138 : h134 q1 = some (.inl (d.2 0, 7, .inl F133)) := by rw [eh134]; exact tw_up_s
  refine tw_dup dX10_ofDebtNow_40 rfl ?_
  refine tw_iconst (v := 5) dX10_ofDebtNow_41 (by decide) ?_
  refine tw_aload_n 1 dX10_ofDebtNow_42 rfl rfl ?_
  obtain ⟨e139, f140, v_141, dy_142, pd_143, i_144, j_145, rfl, k146, k147, k148, k149⟩ := sp137.1 y 22 ky (by decide)
  obtain ⟨j150, ow151, fv9, fd9, fp9, ei152, ej153⟩ := k149
  obtain rfl : j = j150 := by have z := ow151.b hb; omega
  subst fv9 fd9 fp9
  obtain rfl : i_16 = i_144 := by have y := ei152; (repeat (first | rw [tw_ad_ne (by omega)] at y | rw [tw_g1_ne (by omega)] at y)); have z := tw_b4 sp137.1 kx; exact tw_nIj (ei24.trans y.symm) (by omega) (by omega)
  obtain rfl : j_17 = j_145 := by have y := ej153; (repeat (first | rw [tw_ad_ne (by omega)] at y | rw [tw_g1_ne (by omega)] at y)); have z := tw_b4 sp137.1 kx; exact tw_nIj (ej25.trans y.symm) (by omega) (by omega)
  refine tw_get (v := .int (g.1 (1232 + 8 * j + 2))) rfl in_12 4 dX10_ofDebtNow_43 w_1443 rfl (by decide) f140 rfl ?_
  refine tw_if_eq 53 dX10_ofDebtNow_46 (by decide) (fun c154 => ?_) (fun c154 => ?_)
  · refine tw_iconst (v := 0) dX10_ofDebtNow_53 (by decide) ?_
    refine tw_iast dX10_ofDebtNow_54 f138 (vp_in_nI (n := 5) (by decide) (by decide)) ?_
    obtain ⟨F155, eF155⟩ : ∃ z : Nat → Int32, z = upd F133 (5 : Int32).toNatClampNeg 0 := ⟨_, rfl⟩
    rw [← eF155]
    obtain ⟨h156, eh156⟩ : ∃ z : tw_H, z = tw_up h134 q1 (.inl (d.2 0, 7, .inl F155)) := ⟨_, rfl⟩
    rw [← eh156]
    have th157 : tw_th (h156 x) = tw_th (h x) := by rw [eh156, tw_up_n (tw_nk kx z5 (by decide))] <;> exact th135
    have oq158 : h156 o = h o := by rw [eh156, tw_up_n (tw_nk ko z5 (by decide))] <;> exact oq136
    have sp159 : tw_sp d τ h g τ h156 := by rw [eh156]; exact sp137.wl n4 z5
    have f160 : h156 q1 = some (.inl (d.2 0, 7, .inl F155)) := by rw [eh156]; exact tw_up_s
    refine tw_dup dX10_ofDebtNow_55 rfl ?_
    refine tw_bipush (v := 6) dX10_ofDebtNow_56 (by decide) ?_
    refine tw_aload_n 0 dX10_ofDebtNow_58 rfl rfl ?_
    refine tw_aload_n 1 dX10_ofDebtNow_59 rfl rfl ?_
    obtain ⟨e164, f165, th_166, td_167, ds_168, fr_169, ca_170, us_171, wo_172, cm_173, lc_174, lh_175, ld_176, rfl, k177, k178, k179, k180, k181, k182, k183, k184, k185, k186, k187, k188, k189, k190, k191, k192, k193, k194, k195, k196, k197, k198⟩ := sp159.1 x 36 kx (by decide)
    refine tw_bi (tw_callV (M := mX10_ofDebtNow) (pc := 60) okX10_cheaper dX10_ofDebtNow_60 w_1525 rfl f165 [.ref y] [.int 6, .ref q1, .ref q1] rfl rfl ⟨by decide, by decide⟩ (Nat.le_of_ble_eq_true rfl) (c4_X10_cheaper d g τ h156 sp159.1 x kx y ky j hj hj9 hb he9 hm hT9 hk9 hs9) 0 0 (Nat.le_of_ble_eq_true rfl) (Nat.le_of_ble_eq_true rfl)) (fun r163 h162 q161 => ?_) (fun E h1 q => q.elim)
    obtain ⟨q161e, q161v⟩ := q161
    rw [q161e]
    refine tw_iast dX10_ofDebtNow_63 f160 (vp_in_nI (n := 6) (by decide) (by decide)) ?_
    obtain ⟨F199, eF199⟩ : ∃ z : Nat → Int32, z = upd F155 (6 : Int32).toNatClampNeg r163 := ⟨_, rfl⟩
    rw [← eF199]
    obtain ⟨h200, eh200⟩ : ∃ z : tw_H, z = tw_up h156 q1 (.inl (d.2 0, 7, .inl F199)) := ⟨_, rfl⟩
    rw [← eh200]
    have th201 : tw_th (h200 x) = tw_th (h x) := by rw [eh200, tw_up_n (tw_nk kx z5 (by decide))] <;> exact th157
    have oq202 : h200 o = h o := by rw [eh200, tw_up_n (tw_nk ko z5 (by decide))] <;> exact oq158
    have sp203 : tw_sp d τ h g τ h200 := by rw [eh200]; exact sp159.wl n4 z5
    have f204 : h200 q1 = some (.inl (d.2 0, 7, .inl F199)) := by rw [eh200]; exact tw_up_s
    refine tw_astore_n [(3, .ref q1), (0, .ref x), (1, .ref y), (2, .int (nI w))] dX10_ofDebtNow_64 rfl (by decide) rfl ?_
    refine tw_aload_n 0 dX10_ofDebtNow_65 rfl rfl ?_
    refine tw_iload_n 3 dX10_ofDebtNow_66 rfl rfl ?_
    obtain ⟨v205, ev205⟩ : ∃ y : Int32, F199 ((nI w)).toNatClampNeg = y := ⟨_, rfl⟩
    refine tw_iald (v := v205) dX10_ofDebtNow_67 f204 (vp_in_nI (by omega) (by decide)) ev205 ?_
    have rv9 : v205 = tw_dM g j w := by
      rw [← ev205, nI_clamp (by omega), eF199, eF155, eF133, eF89, eF68, eF47, eF26]
      rw [show ((0 : Int32)).toNatClampNeg = 0 by decide]
      rw [show ((1 : Int32)).toNatClampNeg = 1 by decide]
      rw [show ((2 : Int32)).toNatClampNeg = 2 by decide]
      rw [show ((3 : Int32)).toNatClampNeg = 3 by decide]
      rw [show ((4 : Int32)).toNatClampNeg = 4 by decide]
      rw [show ((5 : Int32)).toNatClampNeg = 5 by decide]
      rw [show ((6 : Int32)).toNatClampNeg = 6 by decide]
      rcases (show w = 0 ∨ w = 1 ∨ w = 2 ∨ w = 3 ∨ w = 4 ∨ w = 5 ∨ w = 6 by omega) with rfl | rfl | rfl | rfl | rfl | rfl | rfl
      · exact ei152
      · exact ej153
      · exact rfl
      · exact rfl
      · exact q95v
      · exact (if_pos c154).symm
      · exact q161v
    exact tw_iret dX10_ofDebtNow_68 rfl (Or.inl ⟨_, rfl, sp203, th201, oq202, rv9⟩)
  · refine tw_iconst (v := 1) dX10_ofDebtNow_49 (by decide) ?_
    refine tw_goto 54 dX10_ofDebtNow_50 (by decide) ?_
    refine tw_iast dX10_ofDebtNow_54 f138 (vp_in_nI (n := 5) (by decide) (by decide)) ?_
    obtain ⟨F206, eF206⟩ : ∃ z : Nat → Int32, z = upd F133 (5 : Int32).toNatClampNeg 1 := ⟨_, rfl⟩
    rw [← eF206]
    obtain ⟨h207, eh207⟩ : ∃ z : tw_H, z = tw_up h134 q1 (.inl (d.2 0, 7, .inl F206)) := ⟨_, rfl⟩
    rw [← eh207]
    have th208 : tw_th (h207 x) = tw_th (h x) := by rw [eh207, tw_up_n (tw_nk kx z5 (by decide))] <;> exact th135
    have oq209 : h207 o = h o := by rw [eh207, tw_up_n (tw_nk ko z5 (by decide))] <;> exact oq136
    have sp210 : tw_sp d τ h g τ h207 := by rw [eh207]; exact sp137.wl n4 z5
    have f211 : h207 q1 = some (.inl (d.2 0, 7, .inl F206)) := by rw [eh207]; exact tw_up_s
    refine tw_dup dX10_ofDebtNow_55 rfl ?_
    refine tw_bipush (v := 6) dX10_ofDebtNow_56 (by decide) ?_
    refine tw_aload_n 0 dX10_ofDebtNow_58 rfl rfl ?_
    refine tw_aload_n 1 dX10_ofDebtNow_59 rfl rfl ?_
    obtain ⟨e215, f216, th_217, td_218, ds_219, fr_220, ca_221, us_222, wo_223, cm_224, lc_225, lh_226, ld_227, rfl, k228, k229, k230, k231, k232, k233, k234, k235, k236, k237, k238, k239, k240, k241, k242, k243, k244, k245, k246, k247, k248, k249⟩ := sp210.1 x 36 kx (by decide)
    refine tw_bi (tw_callV (M := mX10_ofDebtNow) (pc := 60) okX10_cheaper dX10_ofDebtNow_60 w_1525 rfl f216 [.ref y] [.int 6, .ref q1, .ref q1] rfl rfl ⟨by decide, by decide⟩ (Nat.le_of_ble_eq_true rfl) (c4_X10_cheaper d g τ h207 sp210.1 x kx y ky j hj hj9 hb he9 hm hT9 hk9 hs9) 0 0 (Nat.le_of_ble_eq_true rfl) (Nat.le_of_ble_eq_true rfl)) (fun r214 h213 q212 => ?_) (fun E h1 q => q.elim)
    obtain ⟨q212e, q212v⟩ := q212
    rw [q212e]
    refine tw_iast dX10_ofDebtNow_63 f211 (vp_in_nI (n := 6) (by decide) (by decide)) ?_
    obtain ⟨F250, eF250⟩ : ∃ z : Nat → Int32, z = upd F206 (6 : Int32).toNatClampNeg r214 := ⟨_, rfl⟩
    rw [← eF250]
    obtain ⟨h251, eh251⟩ : ∃ z : tw_H, z = tw_up h207 q1 (.inl (d.2 0, 7, .inl F250)) := ⟨_, rfl⟩
    rw [← eh251]
    have th252 : tw_th (h251 x) = tw_th (h x) := by rw [eh251, tw_up_n (tw_nk kx z5 (by decide))] <;> exact th208
    have oq253 : h251 o = h o := by rw [eh251, tw_up_n (tw_nk ko z5 (by decide))] <;> exact oq209
    have sp254 : tw_sp d τ h g τ h251 := by rw [eh251]; exact sp210.wl n4 z5
    have f255 : h251 q1 = some (.inl (d.2 0, 7, .inl F250)) := by rw [eh251]; exact tw_up_s
    refine tw_astore_n [(3, .ref q1), (0, .ref x), (1, .ref y), (2, .int (nI w))] dX10_ofDebtNow_64 rfl (by decide) rfl ?_
    refine tw_aload_n 0 dX10_ofDebtNow_65 rfl rfl ?_
    refine tw_iload_n 3 dX10_ofDebtNow_66 rfl rfl ?_
    obtain ⟨v256, ev256⟩ : ∃ y : Int32, F250 ((nI w)).toNatClampNeg = y := ⟨_, rfl⟩
    refine tw_iald (v := v256) dX10_ofDebtNow_67 f255 (vp_in_nI (by omega) (by decide)) ev256 ?_
    have rv9 : v256 = tw_dM g j w := by
      rw [← ev256, nI_clamp (by omega), eF250, eF206, eF133, eF89, eF68, eF47, eF26]
      rw [show ((0 : Int32)).toNatClampNeg = 0 by decide]
      rw [show ((1 : Int32)).toNatClampNeg = 1 by decide]
      rw [show ((2 : Int32)).toNatClampNeg = 2 by decide]
      rw [show ((3 : Int32)).toNatClampNeg = 3 by decide]
      rw [show ((4 : Int32)).toNatClampNeg = 4 by decide]
      rw [show ((5 : Int32)).toNatClampNeg = 5 by decide]
      rw [show ((6 : Int32)).toNatClampNeg = 6 by decide]
      rcases (show w = 0 ∨ w = 1 ∨ w = 2 ∨ w = 3 ∨ w = 4 ∨ w = 5 ∨ w = 6 by omega) with rfl | rfl | rfl | rfl | rfl | rfl | rfl
      · exact ei152
      · exact ej153
      · exact rfl
      · exact rfl
      · exact q95v
      · exact (if_neg c154).symm
      · exact q212v
    exact tw_iret dX10_ofDebtNow_68 rfl (Or.inl ⟨_, rfl, sp254, th252, oq253, rv9⟩)

def tw_oM (g : tw_G) (a : Nat) : Nat → Int32
  | 0 => g.1 (480 + 64 * a)
  | 1 => g.1 (480 + 64 * a + 1)
  | 2 => g.1 (480 + 64 * a + 16 + 0)
  | 3 => g.1 (480 + 64 * a + 16 + 1)
  | 4 => tw_oS (g.1 (480 + 64 * a + 8 + 0)) (g.1 (480 + 64 * a + 8 + 1))
  | 5 => tw_isum (fun j => if g.1 (960 + 32 * j + 1) = nI a then 1 else 0) (g.2 4)
  | 6 => tw_wo (g.1 (480 + 64 * a + 16 + 0)) (g.1 (480 + 64 * a + 16 + 1)) (g.1 1)
  | 7 => tw_pn (fun k => g.1 (480 + 64 * a + 24 + k))
  | _ + 8 => tw_isum (fun j => if g.1 (480 + 64 * j) = g.1 (480 + 64 * a) then 1 else 0) (g.2 3)
theorem tw_pn_s (f : Nat → Int32) : tw_isum (fun j => tw_pnd j * f j) 5 = tw_pn f := by
  show 0 + 20 * f 0 + 10 * f 1 + 5 * f 2 + 2 * f 3 + 1 * f 4 = 20 * f 0 + 10 * f 1 + 5 * f 2 + 2 * f 3 + f 4
  rw [Int32.zero_add, Int32.one_mul]
set_option maxHeartbeats 4000000 in
set_option maxRecDepth 100000 in
theorem c4_X10_ofCountryNow (d : tw_D) (g : tw_G) (τ : tw_K) (h : tw_H) (hw : tw_wt d g τ h) (x : Nat) (kx : τ x = 36) (a : Nat) (ha : a < g.2 3) (w : Nat) (hw9 : w ≤ 8) (o : Nat) (ko : τ o = 12) (he : tw_AM 59000000 g) (hk9 : tw_MW g) : tw_Ct d mX10_ofCountryNow 3 17 [.ref x, .int (nI a), .int (nI w)] h (tw_qi (fun r h1 => tw_sp d τ h g τ h1 ∧ tw_th (h1 x) = tw_th (h x) ∧ h1 o = h o ∧ r = tw_oM g a w) tw_nx) := by
  refine tw_of (by decide +kernel) (Nat.le_of_ble_eq_true rfl) ?_
  show tw_W d mX10_ofCountryNow _ 0 [(0, .ref x), (1, .int (nI a)), (2, .int (nI w))] [] h 3 17
  have sp0 := tw_sp.rf hw
  have th0 : tw_th (h x) = tw_th (h x) := rfl
  have oq0 : h o = h o := rfl
  have b93 := tw_b3 hw kx
  have b94 := tw_b4 hw kx
  refine tw_aload_n 0 dX10_ofCountryNow_0 rfl rfl ?_
  obtain ⟨e1, f2, th_3, td_4, ds_5, fr_6, ca_7, us_8, wo_9, cm_10, lc_11, lh_12, ld_13, rfl, k14, k15, k16, k17, k18, k19, k20, k21, k22, k23, k24, k25, k26, k27, k28, k29, k30, k31, k32, k33, k34, k35⟩ := sp0.1 x 36 kx (by decide)
  refine tw_get (v := .ref lc_11) rfl in_14 9 dX10_ofCountryNow_1 w_1160 rfl (by decide) f2 rfl ?_
  refine tw_iload_n 1 dX10_ofCountryNow_4 rfl rfl ?_
  obtain ⟨e36, f37, ⟨el38, rfl, k39⟩, k40⟩ := sp0.1 lc_11 24 k20 (by decide)
  refine tw_br (tw_callV (M := mX10_ofCountryNow) (pc := 5) okJx4a65c_get_915e3 dX10_ofCountryNow_5 w_1292 rfl f37 [.int (nI a)] [] rfl rfl ⟨by decide, by decide⟩ (Nat.le_of_ble_eq_true rfl) (c24_get d g τ h sp0.1 lc_11 k20 a (by omega) (by omega)) 3 17 (Nat.le_of_ble_eq_true rfl) (Nat.le_of_ble_eq_true rfl)) (fun r43 h42 q41 => ?_) (fun E h1 q => q.elim)
  obtain ⟨q41e, q41k⟩ := q41
  rw [q41e]
  have el44 : tw_el h (g.2 12) a = r43 := by rw [← k40]; exact q41k.2.symm
  have kl45 : τ (g.2 12) = 24 := by rw [← k40]; exact k20
  have id46 : g.2 (4096 + r43) = 480 + 64 * a := by rw [← el44]; exact tw_eli24 sp0.1 kl45 (by omega)
  obtain ⟨e47, f48, r_49, c_50, v_51, o_52, t_53, rfl, k54, k55, k56, k57, k58, k59⟩ := sp0.1 r43 21 q41k.1 (by decide)
  obtain ⟨j60, ow61, fr9, fc9, q62, q63, q64⟩ := k59
  obtain rfl : a = j60 := by have z := ow61.b id46; omega
  subst fr9 fc9
  refine tw_castS (ci := 11) rfl dX10_ofCountryNow_8 w_1208 f48 ?_
  refine tw_astore_n [(3, .ref r43), (0, .ref x), (1, .int (nI a)), (2, .int (nI w))] dX10_ofCountryNow_11 rfl (by decide) rfl ?_
  refine tw_iconst (v := 0) dX10_ofCountryNow_12 (by decide) ?_
  refine tw_istore [(4, .int 0), (3, .ref r43), (0, .ref x), (1, .int (nI a)), (2, .int (nI w))] dX10_ofCountryNow_13 (by decide) rfl ?_
  refine tw_iconst (v := 0) dX10_ofCountryNow_15 (by decide) ?_
  refine tw_istore [(5, .int 0), (4, .int 0), (3, .ref r43), (0, .ref x), (1, .int (nI a)), (2, .int (nI w))] dX10_ofCountryNow_16 (by decide) rfl ?_
  refine tw_iconst (v := 0) dX10_ofCountryNow_18 (by decide) ?_
  refine tw_istore [(6, .int 0), (5, .int 0), (4, .int 0), (3, .ref r43), (0, .ref x), (1, .int (nI a)), (2, .int (nI w))] dX10_ofCountryNow_19 (by decide) rfl ?_
  refine tw_aload_n 4 dX10_ofCountryNow_21 rfl rfl ?_
  refine tw_get (v := .ref lh_12) rfl in_14 10 dX10_ofCountryNow_22 w_1161 rfl (by decide) f2 rfl ?_
  obtain ⟨e65, f66, ⟨el67, rfl, k68⟩, k69⟩ := sp0.1 lh_12 25 k21 (by decide)
  refine tw_br (tw_callV (M := mX10_ofCountryNow) (pc := 25) okJx4a65c_iterator_32c93 dX10_ofCountryNow_25 w_1382 rfl f66 [] [] rfl rfl ⟨by decide, by decide⟩ (Nat.le_of_ble_eq_true rfl) (c_iterator d h lh_12 el67 (g.1 4) (nI (g.2 4)) f66) 2 13 (Nat.le_of_ble_eq_true rfl) (Nat.le_of_ble_eq_true rfl)) (fun it70 h71 q72 => ?_) (fun E h1 q => q.elim)
  obtain ⟨q72n, q72e⟩ := q72
  rw [q72e]
  have n73 := sp0.nn q72n
  have z74 := sp0.1.none q72n
  obtain ⟨h75, eh75⟩ : ∃ z : tw_H, z = tw_up h it70 (.inr (2, [.int 0, .int (-1), .int (g.1 4), .ref lh_12])) := ⟨_, rfl⟩
  rw [← eh75]
  have th76 : tw_th (h75 x) = tw_th (h x) := by rw [eh75, tw_up_n (tw_kF sp0.1 kx (by decide) q72n)] <;> exact th0
  have oq77 : h75 o = h o := by rw [eh75, tw_up_n (tw_kF sp0.1 ko (by decide) q72n)] <;> exact oq0
  have sp78 : tw_sp d τ h g τ h75 := by rw [eh75]; exact sp0.mk q72n
  have f79 : h75 it70 = some (.inr (2, [.int 0, .int (-1), .int (g.1 4), .ref lh_12])) := by rw [eh75]; exact tw_up_s
  refine tw_astore [(7, .ref it70), (6, .int 0), (5, .int 0), (4, .int 0), (3, .ref r43), (0, .ref x), (1, .int (nI a)), (2, .int (nI w))] dX10_ofCountryNow_28 (by decide) rfl ?_
  have L85 : ∀ (r81 j82 : Nat) (l83 : Int32) (x80 : Int32) (h86 : tw_H) (sp87 : tw_sp d τ (tw_rm h75 it70) g τ h86) (ft88 : h86 it70 = some (.inr (2, [.int (nI j82), .int l83, .int (g.1 4), .ref lh_12]))) (zt89 : τ it70 = 0) (th90 : tw_th (h86 x) = tw_th (h x)) (oq91 : h86 o = h o) (li92 : x80 = tw_isum (fun j => if g.1 (960 + 32 * j + 1) = nI a then 1 else 0) j82), g.2 4 + 1 ≤ j82 + r81 → j82 ≤ g.2 4 → tw_W d mX10_ofCountryNow (tw_qi (fun r h1 => tw_sp d τ h g τ h1 ∧ tw_th (h1 x) = tw_th (h x) ∧ h1 o = h o ∧ r = tw_oM g a w) tw_nx) 30 [(0, .ref x), (1, .int (nI a)), (2, .int (nI w)), (3, .ref r43), (4, .int x80), (5, .int 0), (6, .int 0), (7, .ref it70)] [] h86 2 13 := by
    intro r81
    induction r81 with
    | zero => intro j82 l83 x80 h86 sp87 ft88 zt89 th90 oq91 li92 hk93 hk94; exact absurd hk93 (by omega)
    | succ r81 ih84 =>
      intro j82 l83 x80 h86 sp87 ft88 zt89 th90 oq91 li92 hk93 hk94
      refine tw_aload 7 dX10_ofCountryNow_30 rfl ?_
      obtain ⟨e95, f96, ⟨el97, rfl, k98⟩, k99⟩ := sp87.1 lh_12 25 k21 (by decide)
      refine tw_bi (tw_callF (M := mX10_ofCountryNow) (pc := 32) (n9 := 0) (ci := 2) tw_hasNext ok_itHas w_1412 w_1410 (fun s H z => z.2.2.2.2.2.2.2.2.1) (by decide +kernel) dX10_ofCountryNow_32 w_1406 rfl ft88 [] [] rfl rfl ⟨by decide, by decide⟩ (Nat.le_of_ble_eq_true rfl) (c_hasNext d h86 it70 lh_12 el97 j82 (g.2 4) l83 (g.1 4) (g.1 4) ft88 f96 (by omega) (tw_lim25 sp87.1 k21)) 2 13 (Nat.le_of_ble_eq_true rfl) (Nat.le_of_ble_eq_true rfl)) (fun r102 h101 q100 => ?_) (fun E h1 q => q.elim)
      obtain ⟨q100e, q100q⟩ := q100
      rw [q100e]
      rcases q100q with ⟨q100r, q100j⟩ | ⟨q100r, q100j⟩
      · rw [q100r]
        refine tw_if_eq 74 dX10_ofCountryNow_37 (by decide) (fun _ => ?_) (fun c103 => absurd (by decide) c103)
        have s49 := li92
        rw [show j82 = g.2 4 by have z := q100j; omega] at s49
        refine tw_iconst (v := 0) dX10_ofCountryNow_74 (by decide) ?_
        refine tw_istore [(7, .int 0), (0, .ref x), (1, .int (nI a)), (2, .int (nI w)), (3, .ref r43), (4, .int x80), (5, .int 0), (6, .int 0)] dX10_ofCountryNow_75 (by decide) rfl ?_
        have L108 : ∀ (r106 k105 : Nat) (x104 : Int32) (li111 : x104 = tw_isum (fun j => tw_pnd j * g.1 (480 + 64 * a + 24 + j)) k105), 5 + 1 ≤ k105 + r106 → k105 ≤ 5 → tw_W d mX10_ofCountryNow (tw_qi (fun r h1 => tw_sp d τ h g τ h1 ∧ tw_th (h1 x) = tw_th (h x) ∧ h1 o = h o ∧ r = tw_oM g a w) tw_nx) 77 [(0, .ref x), (1, .int (nI a)), (2, .int (nI w)), (3, .ref r43), (4, .int x80), (5, .int x104), (6, .int 0), (7, .int (nI k105))] [] h86 2 13 := by
          intro r106
          induction r106 with
          | zero => intro k105 x104 li111 hk112 hk113; exact absurd hk112 (by omega)
          | succ r106 ih107 =>
            intro k105 x104 li111 hk112 hk113
            refine tw_iload 7 dX10_ofCountryNow_77 rfl ?_
            refine tw_iconst (v := 5) dX10_ofCountryNow_79 (by decide) ?_
            refine tw_icmp_ge 108 dX10_ofCountryNow_80 (by decide) (fun c114 => ?_) (fun c114 => ?_)
            · have s59 := li111
              rw [show k105 = 5 by have z := tw_kge (N := 5) c114 (by omega); omega] at s59
              have s58 := s59.trans (tw_pn_s (fun k => g.1 (480 + 64 * a + 24 + k)))
              refine tw_aload_n 0 dX10_ofCountryNow_108 rfl rfl ?_
              obtain ⟨e115, f116, th_117, td_118, ds_119, fr_120, ca_121, us_122, wo_123, cm_124, lc_125, lh_126, ld_127, rfl, k128, k129, k130, k131, k132, k133, k134, k135, k136, k137, k138, k139, k140, k141, k142, k143, k144, k145, k146, k147, k148, k149⟩ := sp87.1 x 36 kx (by decide)
              refine tw_get (v := .ref lc_125) rfl in_14 9 dX10_ofCountryNow_109 w_1160 rfl (by decide) f116 rfl ?_
              obtain ⟨e150, f151, ⟨el152, rfl, k153⟩, k154⟩ := sp87.1 lc_125 24 k134 (by decide)
              refine tw_br (tw_callV (M := mX10_ofCountryNow) (pc := 112) okJx4a65c_iterator_32c93 dX10_ofCountryNow_112 w_1382 rfl f151 [] [] rfl rfl ⟨by decide, by decide⟩ (Nat.le_of_ble_eq_true rfl) (c_iterator d h86 lc_125 el152 (g.1 3) (nI (g.2 3)) f151) 1 9 (Nat.le_of_ble_eq_true rfl) (Nat.le_of_ble_eq_true rfl)) (fun it155 h156 q157 => ?_) (fun E h1 q => q.elim)
              obtain ⟨q157n, q157e⟩ := q157
              rw [q157e]
              have n158 := sp87.nn q157n
              have z159 := sp87.1.none q157n
              have ne160 := tw_neF ft88 q157n
              obtain ⟨h161, eh161⟩ : ∃ z : tw_H, z = tw_up h86 it155 (.inr (2, [.int 0, .int (-1), .int (g.1 3), .ref lc_125])) := ⟨_, rfl⟩
              rw [← eh161]
              have th162 : tw_th (h161 x) = tw_th (h x) := by rw [eh161, tw_up_n (tw_kF sp87.1 kx (by decide) q157n)] <;> exact th90
              have oq163 : h161 o = h o := by rw [eh161, tw_up_n (tw_kF sp87.1 ko (by decide) q157n)] <;> exact oq91
              have sp164 : tw_sp d τ (tw_rm h75 it70) g τ h161 := by rw [eh161]; exact sp87.mk q157n
              have f165 : h161 it70 = some (.inr (2, [.int (nI j82), .int l83, .int (g.1 4), .ref lh_12])) := by rw [eh161, tw_up_n ne160]; exact ft88
              have f166 : h161 it155 = some (.inr (2, [.int 0, .int (-1), .int (g.1 3), .ref lc_125])) := by rw [eh161]; exact tw_up_s
              refine tw_astore [(7, .ref it155), (0, .ref x), (1, .int (nI a)), (2, .int (nI w)), (3, .ref r43), (4, .int x80), (5, .int x104), (6, .int 0)] dX10_ofCountryNow_115 (by decide) rfl ?_
              have L172 : ∀ (r168 j169 : Nat) (l170 : Int32) (x167 : Int32) (h173 : tw_H) (sp174 : tw_sp d τ (tw_rm h161 it155) g τ h173) (ft175 : h173 it155 = some (.inr (2, [.int (nI j169), .int l170, .int (g.1 3), .ref lc_125]))) (zt176 : τ it155 = 0) (th177 : tw_th (h173 x) = tw_th (h x)) (oq178 : h173 o = h o) (li179 : x167 = tw_isum (fun j => if g.1 (480 + 64 * j) = g.1 (480 + 64 * a) then 1 else 0) j169), g.2 3 + 1 ≤ j169 + r168 → j169 ≤ g.2 3 → tw_W d mX10_ofCountryNow (tw_qi (fun r h1 => tw_sp d τ h g τ h1 ∧ tw_th (h1 x) = tw_th (h x) ∧ h1 o = h o ∧ r = tw_oM g a w) tw_nx) 117 [(0, .ref x), (1, .int (nI a)), (2, .int (nI w)), (3, .ref r43), (4, .int x80), (5, .int x104), (6, .int x167), (7, .ref it155)] [] h173 1 9 := by
                intro r168
                induction r168 with
                | zero => intro j169 l170 x167 h173 sp174 ft175 zt176 th177 oq178 li179 hk180 hk181; exact absurd hk180 (by omega)
                | succ r168 ih171 =>
                  intro j169 l170 x167 h173 sp174 ft175 zt176 th177 oq178 li179 hk180 hk181
                  have f182 := (sp174.2.2 _ _ (by unfold tw_rm; rw [if_neg ne160]; exact f165) zt89).1
                  have z183 := (sp174.2.2 _ _ (by unfold tw_rm; rw [if_neg ne160]; exact f165) zt89).2
                  refine tw_aload 7 dX10_ofCountryNow_117 rfl ?_
                  obtain ⟨e184, f185, ⟨el186, rfl, k187⟩, k188⟩ := sp174.1 lc_125 24 k134 (by decide)
                  refine tw_bi (tw_callF (M := mX10_ofCountryNow) (pc := 119) (n9 := 0) (ci := 2) tw_hasNext ok_itHas w_1412 w_1410 (fun s H z => z.2.2.2.2.2.2.2.2.1) (by decide +kernel) dX10_ofCountryNow_119 w_1406 rfl ft175 [] [] rfl rfl ⟨by decide, by decide⟩ (Nat.le_of_ble_eq_true rfl) (c_hasNext d h173 it155 lc_125 el186 j169 (g.2 3) l170 (g.1 3) (g.1 3) ft175 f185 (by omega) (tw_lim24 sp174.1 k134)) 1 9 (Nat.le_of_ble_eq_true rfl) (Nat.le_of_ble_eq_true rfl)) (fun r191 h190 q189 => ?_) (fun E h1 q => q.elim)
                  obtain ⟨q189e, q189q⟩ := q189
                  rw [q189e]
                  rcases q189q with ⟨q189r, q189j⟩ | ⟨q189r, q189j⟩
                  · rw [q189r]
                    refine tw_if_eq 164 dX10_ofCountryNow_124 (by decide) (fun _ => ?_) (fun c192 => absurd (by decide) c192)
                    have s69 := li179
                    rw [show j169 = g.2 3 by have z := q189j; omega] at s69
                    refine tw_bipush (v := 9) dX10_ofCountryNow_164 (by decide) ?_
                    refine tw_newa (a0 := (9, .inr (.inl (fun _ => 0)))) 1 rfl dX10_ofCountryNow_166 rfl w_1150 (fun _ => rfl) (by decide) (by decide) (by decide) 0 0 (Nat.le_of_ble_eq_true rfl) (Nat.le_of_ble_eq_true rfl) (fun q193 hq194 hA195 => ?_)
                    have n196 := sp174.nn hq194
                    have z197 := sp174.1.none hq194
                    have ne198 := tw_neF f182 hq194
                    have ne199 := tw_neF ft175 hq194
                    obtain ⟨h200, eh200⟩ : ∃ z : tw_H, z = tw_up h173 q193 (.inl (d.2 1, 9, .inr (.inl (fun _ => 0)))) := ⟨_, rfl⟩
                    rw [← eh200]
                    have th201 : tw_th (h200 x) = tw_th (h x) := by rw [eh200, tw_up_n (tw_kF sp174.1 kx (by decide) hq194)] <;> exact th177
                    have oq202 : h200 o = h o := by rw [eh200, tw_up_n (tw_kF sp174.1 ko (by decide) hq194)] <;> exact oq178
                    have sp203 : tw_sp d τ (tw_rm h161 it155) g τ h200 := by rw [eh200]; exact sp174.mk hq194
                    have f204 : h200 it70 = some (.inr (2, [.int (nI j82), .int l83, .int (g.1 4), .ref lh_12])) := by rw [eh200, tw_up_n ne198]; exact f182
                    have f205 : h200 it155 = some (.inr (2, [.int (nI j169), .int l170, .int (g.1 3), .ref lc_125])) := by rw [eh200, tw_up_n ne199]; exact ft175
                    have f206 : h200 q193 = some (.inl (d.2 1, 9, .inr (.inl (fun _ => 0)))) := by rw [eh200]; exact tw_up_s
                    refine tw_dup dX10_ofCountryNow_168 rfl ?_
                    refine tw_iconst (v := 0) dX10_ofCountryNow_169 (by decide) ?_
                    refine tw_aload_n 3 dX10_ofCountryNow_170 rfl rfl ?_
                    obtain ⟨e207, f208, r_209, c_210, v_211, o_212, t_213, rfl, k214, k215, k216, k217, k218, k219⟩ := sp203.1 r43 21 q41k.1 (by decide)
                    obtain ⟨j220, ow221, fr9, fc9, q222, q223, q224⟩ := k219
                    obtain rfl : a = j220 := by have z := ow221.b id46; omega
                    subst fr9 fc9
                    refine tw_get (v := .int (g.1 (480 + 64 * a))) rfl in_11 0 dX10_ofCountryNow_171 w_1214 rfl (by decide) f208 rfl ?_
                    refine tw_i2l dX10_ofCountryNow_174 ?_
                    refine tw_nml (fun v225 ev225 => ?_)
                    refine tw_last dX10_ofCountryNow_175 f206 (vp_in_nI (n := 0) (by decide) (by decide)) ?_
                    obtain ⟨F226, eF226⟩ : ∃ z : Nat → Int64, z = vp_updL (fun _ => 0) (0 : Int32).toNatClampNeg v225 := ⟨_, rfl⟩
                    rw [← eF226]
                    obtain ⟨h227, eh227⟩ : ∃ z : tw_H, z = tw_up h200 q193 (.inl (d.2 1, 9, .inr (.inl F226))) := ⟨_, rfl⟩
                    rw [← eh227]
                    have th228 : tw_th (h227 x) = tw_th (h x) := by rw [eh227, tw_up_n (tw_nk kx z197 (by decide))] <;> exact th201
                    have oq229 : h227 o = h o := by rw [eh227, tw_up_n (tw_nk ko z197 (by decide))] <;> exact oq202
                    have sp230 : tw_sp d τ (tw_rm h161 it155) g τ h227 := by rw [eh227]; exact sp203.wl n196 z197
                    have f231 : h227 it70 = some (.inr (2, [.int (nI j82), .int l83, .int (g.1 4), .ref lh_12])) := by rw [eh227, tw_up_n ne198]; exact f204
                    have f232 : h227 it155 = some (.inr (2, [.int (nI j169), .int l170, .int (g.1 3), .ref lc_125])) := by rw [eh227, tw_up_n ne199]; exact f205
                    have f233 : h227 q193 = some (.inl (d.2 1, 9, .inr (.inl F226))) := by rw [eh227]; exact tw_up_s
                    refine tw_dup dX10_ofCountryNow_176 rfl ?_
                    refine tw_iconst (v := 1) dX10_ofCountryNow_177 (by decide) ?_
                    refine tw_aload_n 3 dX10_ofCountryNow_178 rfl rfl ?_
                    obtain ⟨e234, f235, r_236, c_237, v_238, o_239, t_240, rfl, k241, k242, k243, k244, k245, k246⟩ := sp230.1 r43 21 q41k.1 (by decide)
                    obtain ⟨j247, ow248, fr9, fc9, q249, q250, q251⟩ := k246
                    obtain rfl : a = j247 := by have z := ow248.b id46; omega
                    subst fr9 fc9
                    refine tw_get (v := .int (g.1 (480 + 64 * a + 1))) rfl in_11 1 dX10_ofCountryNow_179 w_1215 rfl (by decide) f235 rfl ?_
                    refine tw_i2l dX10_ofCountryNow_182 ?_
                    refine tw_nml (fun v252 ev252 => ?_)
                    refine tw_last dX10_ofCountryNow_183 f233 (vp_in_nI (n := 1) (by decide) (by decide)) ?_
                    obtain ⟨F253, eF253⟩ : ∃ z : Nat → Int64, z = vp_updL F226 (1 : Int32).toNatClampNeg v252 := ⟨_, rfl⟩
                    rw [← eF253]
                    obtain ⟨h254, eh254⟩ : ∃ z : tw_H, z = tw_up h227 q193 (.inl (d.2 1, 9, .inr (.inl F253))) := ⟨_, rfl⟩
                    rw [← eh254]
                    have th255 : tw_th (h254 x) = tw_th (h x) := by rw [eh254, tw_up_n (tw_nk kx z197 (by decide))] <;> exact th228
                    have oq256 : h254 o = h o := by rw [eh254, tw_up_n (tw_nk ko z197 (by decide))] <;> exact oq229
                    have sp257 : tw_sp d τ (tw_rm h161 it155) g τ h254 := by rw [eh254]; exact sp230.wl n196 z197
                    have f258 : h254 it70 = some (.inr (2, [.int (nI j82), .int l83, .int (g.1 4), .ref lh_12])) := by rw [eh254, tw_up_n ne198]; exact f231
                    have f259 : h254 it155 = some (.inr (2, [.int (nI j169), .int l170, .int (g.1 3), .ref lc_125])) := by rw [eh254, tw_up_n ne199]; exact f232
                    have f260 : h254 q193 = some (.inl (d.2 1, 9, .inr (.inl F253))) := by rw [eh254]; exact tw_up_s
                    refine tw_dup dX10_ofCountryNow_184 rfl ?_
                    refine tw_iconst (v := 2) dX10_ofCountryNow_185 (by decide) ?_
                    refine tw_aload_n 3 dX10_ofCountryNow_186 rfl rfl ?_
                    obtain ⟨e261, f262, r_263, c_264, v_265, o_266, t_267, rfl, k268, k269, k270, k271, k272, k273⟩ := sp257.1 r43 21 q41k.1 (by decide)
                    obtain ⟨j274, ow275, fr9, fc9, q276, q277, q278⟩ := k273
                    obtain rfl : a = j274 := by have z := ow275.b id46; omega
                    subst fr9 fc9
                    refine tw_get (v := .ref v_265) rfl in_11 2 dX10_ofCountryNow_187 w_1217 rfl (by decide) f262 rfl ?_
                    refine tw_iconst (v := 0) dX10_ofCountryNow_190 (by decide) ?_
                    obtain ⟨e279, f280, F281, rfl, ⟨b283, ow284, wv285⟩⟩ := sp257.1 v_265 31 k268 (by decide)
                    obtain rfl : (480 + 64 * a + 16) = b283 := (ow284.b q278).symm
                    have ev286 : F281 (0 : Int32).toNatClampNeg = (g.1 ((480 + 64 * a + 16) + 0)).toInt64 := by rw [show (0 : Int32).toNatClampNeg = 0 by decide]; exact wv285 0 (by omega)
                    refine tw_lald (v := (g.1 ((480 + 64 * a + 16) + 0)).toInt64) dX10_ofCountryNow_191 f280 (vp_in_nI (n := 0) (by decide) (by decide)) ev286 ?_
                    refine tw_last dX10_ofCountryNow_192 f260 (vp_in_nI (n := 2) (by decide) (by decide)) ?_
                    obtain ⟨F287, eF287⟩ : ∃ z : Nat → Int64, z = vp_updL F253 (2 : Int32).toNatClampNeg ((g.1 ((480 + 64 * a + 16) + 0)).toInt64) := ⟨_, rfl⟩
                    rw [← eF287]
                    obtain ⟨h288, eh288⟩ : ∃ z : tw_H, z = tw_up h254 q193 (.inl (d.2 1, 9, .inr (.inl F287))) := ⟨_, rfl⟩
                    rw [← eh288]
                    have th289 : tw_th (h288 x) = tw_th (h x) := by rw [eh288, tw_up_n (tw_nk kx z197 (by decide))] <;> exact th255
                    have oq290 : h288 o = h o := by rw [eh288, tw_up_n (tw_nk ko z197 (by decide))] <;> exact oq256
                    have sp291 : tw_sp d τ (tw_rm h161 it155) g τ h288 := by rw [eh288]; exact sp257.wl n196 z197
                    have f292 : h288 it70 = some (.inr (2, [.int (nI j82), .int l83, .int (g.1 4), .ref lh_12])) := by rw [eh288, tw_up_n ne198]; exact f258
                    have f293 : h288 it155 = some (.inr (2, [.int (nI j169), .int l170, .int (g.1 3), .ref lc_125])) := by rw [eh288, tw_up_n ne199]; exact f259
                    have f294 : h288 q193 = some (.inl (d.2 1, 9, .inr (.inl F287))) := by rw [eh288]; exact tw_up_s
                    refine tw_dup dX10_ofCountryNow_193 rfl ?_
                    refine tw_iconst (v := 3) dX10_ofCountryNow_194 (by decide) ?_
                    refine tw_aload_n 3 dX10_ofCountryNow_195 rfl rfl ?_
                    obtain ⟨e295, f296, r_297, c_298, v_299, o_300, t_301, rfl, k302, k303, k304, k305, k306, k307⟩ := sp291.1 r43 21 q41k.1 (by decide)
                    obtain ⟨j308, ow309, fr9, fc9, q310, q311, q312⟩ := k307
                    obtain rfl : a = j308 := by have z := ow309.b id46; omega
                    subst fr9 fc9
                    refine tw_get (v := .ref v_299) rfl in_11 2 dX10_ofCountryNow_196 w_1217 rfl (by decide) f296 rfl ?_
                    refine tw_iconst (v := 1) dX10_ofCountryNow_199 (by decide) ?_
                    obtain ⟨e313, f314, F315, rfl, ⟨b317, ow318, wv319⟩⟩ := sp291.1 v_299 31 k302 (by decide)
                    obtain rfl : (480 + 64 * a + 16) = b317 := (ow318.b q312).symm
                    have ev320 : F315 (1 : Int32).toNatClampNeg = (g.1 ((480 + 64 * a + 16) + 1)).toInt64 := by rw [show (1 : Int32).toNatClampNeg = 1 by decide]; exact wv319 1 (by omega)
                    refine tw_lald (v := (g.1 ((480 + 64 * a + 16) + 1)).toInt64) dX10_ofCountryNow_200 f314 (vp_in_nI (n := 1) (by decide) (by decide)) ev320 ?_
                    refine tw_last dX10_ofCountryNow_201 f294 (vp_in_nI (n := 3) (by decide) (by decide)) ?_
                    obtain ⟨F321, eF321⟩ : ∃ z : Nat → Int64, z = vp_updL F287 (3 : Int32).toNatClampNeg ((g.1 ((480 + 64 * a + 16) + 1)).toInt64) := ⟨_, rfl⟩
                    rw [← eF321]
                    obtain ⟨h322, eh322⟩ : ∃ z : tw_H, z = tw_up h288 q193 (.inl (d.2 1, 9, .inr (.inl F321))) := ⟨_, rfl⟩
                    rw [← eh322]
                    have th323 : tw_th (h322 x) = tw_th (h x) := by rw [eh322, tw_up_n (tw_nk kx z197 (by decide))] <;> exact th289
                    have oq324 : h322 o = h o := by rw [eh322, tw_up_n (tw_nk ko z197 (by decide))] <;> exact oq290
                    have sp325 : tw_sp d τ (tw_rm h161 it155) g τ h322 := by rw [eh322]; exact sp291.wl n196 z197
                    have f326 : h322 it70 = some (.inr (2, [.int (nI j82), .int l83, .int (g.1 4), .ref lh_12])) := by rw [eh322, tw_up_n ne198]; exact f292
                    have f327 : h322 it155 = some (.inr (2, [.int (nI j169), .int l170, .int (g.1 3), .ref lc_125])) := by rw [eh322, tw_up_n ne199]; exact f293
                    have f328 : h322 q193 = some (.inl (d.2 1, 9, .inr (.inl F321))) := by rw [eh322]; exact tw_up_s
                    refine tw_dup dX10_ofCountryNow_202 rfl ?_
                    refine tw_iconst (v := 4) dX10_ofCountryNow_203 (by decide) ?_
                    refine tw_aload_n 3 dX10_ofCountryNow_204 rfl rfl ?_
                    obtain ⟨e329, f330, r_331, c_332, v_333, o_334, t_335, rfl, k336, k337, k338, k339, k340, k341⟩ := sp325.1 r43 21 q41k.1 (by decide)
                    obtain ⟨j342, ow343, fr9, fc9, q344, q345, q346⟩ := k341
                    obtain rfl : a = j342 := by have z := ow343.b id46; omega
                    subst fr9 fc9
                    refine tw_get (v := .ref o_334) rfl in_11 3 dX10_ofCountryNow_205 w_1219 rfl (by decide) f330 rfl ?_
                    refine tw_iconst (v := 0) dX10_ofCountryNow_208 (by decide) ?_
                    obtain ⟨e347, f348, F349, rfl, k351, ⟨b352, ow353, wv354⟩⟩ := sp325.1 o_334 32 k337 (by decide)
                    obtain rfl : b352 = (480 + 64 * a + 8) := ow353.b q344
                    have ev355 : F349 (0 : Int32).toNatClampNeg = (g.1 ((480 + 64 * a + 8) + 0)) := by rw [show (0 : Int32).toNatClampNeg = 0 by decide]; exact wv354 0 (by omega)
                    refine tw_zald (v := (g.1 ((480 + 64 * a + 8) + 0))) dX10_ofCountryNow_209 f348 (vp_in_nI (n := 0) (by decide) (by decide)) ev355 ?_
                    refine tw_if_eq 217 dX10_ofCountryNow_210 (by decide) (fun c356 => ?_) (fun c356 => ?_)
                    · refine tw_iconst (v := 0) dX10_ofCountryNow_217 (by decide) ?_
                      refine tw_aload_n 3 dX10_ofCountryNow_218 rfl rfl ?_
                      refine tw_get (v := .ref o_334) rfl in_11 3 dX10_ofCountryNow_219 w_1219 rfl (by decide) f330 rfl ?_
                      refine tw_iconst (v := 1) dX10_ofCountryNow_222 (by decide) ?_
                      have ev357 : F349 (1 : Int32).toNatClampNeg = (g.1 ((480 + 64 * a + 8) + 1)) := by rw [show (1 : Int32).toNatClampNeg = 1 by decide]; exact wv354 1 (by omega)
                      refine tw_zald (v := (g.1 ((480 + 64 * a + 8) + 1))) dX10_ofCountryNow_223 f348 (vp_in_nI (n := 1) (by decide) (by decide)) ev357 ?_
                      refine tw_if_eq 231 dX10_ofCountryNow_224 (by decide) (fun c358 => ?_) (fun c358 => ?_)
                      · refine tw_iconst (v := 0) dX10_ofCountryNow_231 (by decide) ?_
                        refine tw_iadd dX10_ofCountryNow_232 ?_
                        refine tw_nmi (fun v359 ev359 => ?_)
                        refine tw_i2l dX10_ofCountryNow_233 ?_
                        refine tw_nml (fun v360 ev360 => ?_)
                        refine tw_last dX10_ofCountryNow_234 f328 (vp_in_nI (n := 4) (by decide) (by decide)) ?_
                        obtain ⟨F361, eF361⟩ : ∃ z : Nat → Int64, z = vp_updL F321 (4 : Int32).toNatClampNeg v360 := ⟨_, rfl⟩
                        rw [← eF361]
                        obtain ⟨h362, eh362⟩ : ∃ z : tw_H, z = tw_up h322 q193 (.inl (d.2 1, 9, .inr (.inl F361))) := ⟨_, rfl⟩
                        rw [← eh362]
                        have th363 : tw_th (h362 x) = tw_th (h x) := by rw [eh362, tw_up_n (tw_nk kx z197 (by decide))] <;> exact th323
                        have oq364 : h362 o = h o := by rw [eh362, tw_up_n (tw_nk ko z197 (by decide))] <;> exact oq324
                        have sp365 : tw_sp d τ (tw_rm h161 it155) g τ h362 := by rw [eh362]; exact sp325.wl n196 z197
                        have f366 : h362 it70 = some (.inr (2, [.int (nI j82), .int l83, .int (g.1 4), .ref lh_12])) := by rw [eh362, tw_up_n ne198]; exact f326
                        have f367 : h362 it155 = some (.inr (2, [.int (nI j169), .int l170, .int (g.1 3), .ref lc_125])) := by rw [eh362, tw_up_n ne199]; exact f327
                        have f368 : h362 q193 = some (.inl (d.2 1, 9, .inr (.inl F361))) := by rw [eh362]; exact tw_up_s
                        refine tw_dup dX10_ofCountryNow_235 rfl ?_
                        refine tw_iconst (v := 5) dX10_ofCountryNow_236 (by decide) ?_
                        refine tw_iload 4 dX10_ofCountryNow_237 rfl ?_
                        refine tw_i2l dX10_ofCountryNow_239 ?_
                        refine tw_nml (fun v369 ev369 => ?_)
                        refine tw_last dX10_ofCountryNow_240 f368 (vp_in_nI (n := 5) (by decide) (by decide)) ?_
                        obtain ⟨F370, eF370⟩ : ∃ z : Nat → Int64, z = vp_updL F361 (5 : Int32).toNatClampNeg v369 := ⟨_, rfl⟩
                        rw [← eF370]
                        obtain ⟨h371, eh371⟩ : ∃ z : tw_H, z = tw_up h362 q193 (.inl (d.2 1, 9, .inr (.inl F370))) := ⟨_, rfl⟩
                        rw [← eh371]
                        have th372 : tw_th (h371 x) = tw_th (h x) := by rw [eh371, tw_up_n (tw_nk kx z197 (by decide))] <;> exact th363
                        have oq373 : h371 o = h o := by rw [eh371, tw_up_n (tw_nk ko z197 (by decide))] <;> exact oq364
                        have sp374 : tw_sp d τ (tw_rm h161 it155) g τ h371 := by rw [eh371]; exact sp365.wl n196 z197
                        have f375 : h371 it70 = some (.inr (2, [.int (nI j82), .int l83, .int (g.1 4), .ref lh_12])) := by rw [eh371, tw_up_n ne198]; exact f366
                        have f376 : h371 it155 = some (.inr (2, [.int (nI j169), .int l170, .int (g.1 3), .ref lc_125])) := by rw [eh371, tw_up_n ne199]; exact f367
                        have f377 : h371 q193 = some (.inl (d.2 1, 9, .inr (.inl F370))) := by rw [eh371]; exact tw_up_s
                        refine tw_dup dX10_ofCountryNow_241 rfl ?_
                        refine tw_bipush (v := 6) dX10_ofCountryNow_242 (by decide) ?_
                        refine tw_aload_n 0 dX10_ofCountryNow_244 rfl rfl ?_
                        refine tw_aload_n 3 dX10_ofCountryNow_245 rfl rfl ?_
                        obtain ⟨e378, f379, r_380, c_381, v_382, o_383, t_384, rfl, k385, k386, k387, k388, k389, k390⟩ := sp374.1 r43 21 q41k.1 (by decide)
                        obtain ⟨j391, ow392, fr9, fc9, q393, q394, q395⟩ := k390
                        obtain rfl : a = j391 := by have z := ow392.b id46; omega
                        subst fr9 fc9
                        refine tw_get (v := .ref v_382) rfl in_11 2 dX10_ofCountryNow_246 w_1217 rfl (by decide) f379 rfl ?_
                        obtain ⟨e399, f400, th_401, td_402, ds_403, fr_404, ca_405, us_406, wo_407, cm_408, lc_409, lh_410, ld_411, rfl, k412, k413, k414, k415, k416, k417, k418, k419, k420, k421, k422, k423, k424, k425, k426, k427, k428, k429, k430, k431, k432, k433⟩ := sp374.1 x 36 kx (by decide)
                        refine tw_bl (tw_callV (M := mX10_ofCountryNow) (pc := 249) okX10_worth dX10_ofCountryNow_249 w_1505 rfl f400 [.ref v_382] [.int 6, .ref q193, .ref q193] rfl rfl ⟨by decide, by decide⟩ (Nat.le_of_ble_eq_true rfl) (c4_X10_worth d g τ h371 sp374.1 x kx v_382 k385 (480 + 64 * a + 16) q395 _ _ _ (he.v (j := a) (k := 0) (by omega) (by decide)).1 (he.v (j := a) (k := 1) (by omega) (by decide)).1 hk9.1 (he.v (j := a) (k := 0) (by omega) (by decide)).2 (he.v (j := a) (k := 1) (by omega) (by decide)).2 hk9.2) 0 0 (Nat.le_of_ble_eq_true rfl) (Nat.le_of_ble_eq_true rfl)) (fun r398 h397 q396 => ?_) (fun E h1 q => q.elim)
                        obtain ⟨q396e, q396v⟩ := q396
                        rw [q396e]
                        refine tw_last dX10_ofCountryNow_252 f377 (vp_in_nI (n := 6) (by decide) (by decide)) ?_
                        obtain ⟨F434, eF434⟩ : ∃ z : Nat → Int64, z = vp_updL F370 (6 : Int32).toNatClampNeg r398 := ⟨_, rfl⟩
                        rw [← eF434]
                        obtain ⟨h435, eh435⟩ : ∃ z : tw_H, z = tw_up h371 q193 (.inl (d.2 1, 9, .inr (.inl F434))) := ⟨_, rfl⟩
                        rw [← eh435]
                        have th436 : tw_th (h435 x) = tw_th (h x) := by rw [eh435, tw_up_n (tw_nk kx z197 (by decide))] <;> exact th372
                        have oq437 : h435 o = h o := by rw [eh435, tw_up_n (tw_nk ko z197 (by decide))] <;> exact oq373
                        have sp438 : tw_sp d τ (tw_rm h161 it155) g τ h435 := by rw [eh435]; exact sp374.wl n196 z197
                        have f439 : h435 it70 = some (.inr (2, [.int (nI j82), .int l83, .int (g.1 4), .ref lh_12])) := by rw [eh435, tw_up_n ne198]; exact f375
                        have f440 : h435 it155 = some (.inr (2, [.int (nI j169), .int l170, .int (g.1 3), .ref lc_125])) := by rw [eh435, tw_up_n ne199]; exact f376
                        have f441 : h435 q193 = some (.inl (d.2 1, 9, .inr (.inl F434))) := by rw [eh435]; exact tw_up_s
                        refine tw_dup dX10_ofCountryNow_253 rfl ?_
                        refine tw_bipush (v := 7) dX10_ofCountryNow_254 (by decide) ?_
                        refine tw_iload 5 dX10_ofCountryNow_256 rfl ?_
                        refine tw_i2l dX10_ofCountryNow_258 ?_
                        refine tw_nml (fun v442 ev442 => ?_)
                        refine tw_last dX10_ofCountryNow_259 f441 (vp_in_nI (n := 7) (by decide) (by decide)) ?_
                        obtain ⟨F443, eF443⟩ : ∃ z : Nat → Int64, z = vp_updL F434 (7 : Int32).toNatClampNeg v442 := ⟨_, rfl⟩
                        rw [← eF443]
                        obtain ⟨h444, eh444⟩ : ∃ z : tw_H, z = tw_up h435 q193 (.inl (d.2 1, 9, .inr (.inl F443))) := ⟨_, rfl⟩
                        rw [← eh444]
                        have th445 : tw_th (h444 x) = tw_th (h x) := by rw [eh444, tw_up_n (tw_nk kx z197 (by decide))] <;> exact th436
                        have oq446 : h444 o = h o := by rw [eh444, tw_up_n (tw_nk ko z197 (by decide))] <;> exact oq437
                        have sp447 : tw_sp d τ (tw_rm h161 it155) g τ h444 := by rw [eh444]; exact sp438.wl n196 z197
                        have f448 : h444 it70 = some (.inr (2, [.int (nI j82), .int l83, .int (g.1 4), .ref lh_12])) := by rw [eh444, tw_up_n ne198]; exact f439
                        have f449 : h444 it155 = some (.inr (2, [.int (nI j169), .int l170, .int (g.1 3), .ref lc_125])) := by rw [eh444, tw_up_n ne199]; exact f440
                        have f450 : h444 q193 = some (.inl (d.2 1, 9, .inr (.inl F443))) := by rw [eh444]; exact tw_up_s
                        refine tw_dup dX10_ofCountryNow_260 rfl ?_
                        refine tw_bipush (v := 8) dX10_ofCountryNow_261 (by decide) ?_
                        refine tw_iload 6 dX10_ofCountryNow_263 rfl ?_
                        refine tw_i2l dX10_ofCountryNow_265 ?_
                        refine tw_nml (fun v451 ev451 => ?_)
                        refine tw_last dX10_ofCountryNow_266 f450 (vp_in_nI (n := 8) (by decide) (by decide)) ?_
                        obtain ⟨F452, eF452⟩ : ∃ z : Nat → Int64, z = vp_updL F443 (8 : Int32).toNatClampNeg v451 := ⟨_, rfl⟩
                        rw [← eF452]
                        obtain ⟨h453, eh453⟩ : ∃ z : tw_H, z = tw_up h444 q193 (.inl (d.2 1, 9, .inr (.inl F452))) := ⟨_, rfl⟩
                        rw [← eh453]
                        have th454 : tw_th (h453 x) = tw_th (h x) := by rw [eh453, tw_up_n (tw_nk kx z197 (by decide))] <;> exact th445
                        have oq455 : h453 o = h o := by rw [eh453, tw_up_n (tw_nk ko z197 (by decide))] <;> exact oq446
                        have sp456 : tw_sp d τ (tw_rm h161 it155) g τ h453 := by rw [eh453]; exact sp447.wl n196 z197
                        have f457 : h453 it70 = some (.inr (2, [.int (nI j82), .int l83, .int (g.1 4), .ref lh_12])) := by rw [eh453, tw_up_n ne198]; exact f448
                        have f458 : h453 it155 = some (.inr (2, [.int (nI j169), .int l170, .int (g.1 3), .ref lc_125])) := by rw [eh453, tw_up_n ne199]; exact f449
                        have f459 : h453 q193 = some (.inl (d.2 1, 9, .inr (.inl F452))) := by rw [eh453]; exact tw_up_s
                        refine tw_astore [(7, .ref q193), (0, .ref x), (1, .int (nI a)), (2, .int (nI w)), (3, .ref r43), (4, .int x80), (5, .int x104), (6, .int x167)] dX10_ofCountryNow_267 (by decide) rfl ?_
                        refine tw_aload 0 dX10_ofCountryNow_269 rfl ?_
                        refine tw_iload_n 3 dX10_ofCountryNow_271 rfl rfl ?_
                        obtain ⟨v460, ev460⟩ : ∃ y : Int64, F452 ((nI w)).toNatClampNeg = y := ⟨_, rfl⟩
                        refine tw_lald (v := v460) dX10_ofCountryNow_272 f459 (vp_in_nI (by omega) (by decide)) ev460 ?_
                        refine tw_l2i dX10_ofCountryNow_273 ?_
                        refine tw_nmi (fun v461 ev461 => ?_)
                        have rv9 : v461 = tw_oM g a w := by
                          rw [ev461, ← ev460, nI_clamp (by omega), eF452, eF443, eF434, eF370, eF361, eF321, eF287, eF253, eF226]
                          rw [show ((0 : Int32)).toNatClampNeg = 0 by decide]
                          rw [show ((1 : Int32)).toNatClampNeg = 1 by decide]
                          rw [show ((2 : Int32)).toNatClampNeg = 2 by decide]
                          rw [show ((3 : Int32)).toNatClampNeg = 3 by decide]
                          rw [show ((4 : Int32)).toNatClampNeg = 4 by decide]
                          rw [show ((5 : Int32)).toNatClampNeg = 5 by decide]
                          rw [show ((6 : Int32)).toNatClampNeg = 6 by decide]
                          rw [show ((7 : Int32)).toNatClampNeg = 7 by decide]
                          rw [show ((8 : Int32)).toNatClampNeg = 8 by decide]
                          rcases (show w = 0 ∨ w = 1 ∨ w = 2 ∨ w = 3 ∨ w = 4 ∨ w = 5 ∨ w = 6 ∨ w = 7 ∨ w = 8 by omega) with rfl | rfl | rfl | rfl | rfl | rfl | rfl | rfl | rfl
                          · exact (congrArg Int64.toInt32 ev225).trans (Int32.toInt32_toInt64 _)
                          · exact (congrArg Int64.toInt32 ev252).trans (Int32.toInt32_toInt64 _)
                          · exact Int32.toInt32_toInt64 _
                          · exact Int32.toInt32_toInt64 _
                          · exact ((congrArg Int64.toInt32 ev360).trans (Int32.toInt32_toInt64 _)).trans (by show _ = tw_oS (g.1 (480 + 64 * a + 8 + 0)) (g.1 (480 + 64 * a + 8 + 1)); unfold tw_oS; rw [if_pos c356, if_pos c358, ev359])
                          · exact ((congrArg Int64.toInt32 ev369).trans (Int32.toInt32_toInt64 _)).trans s49
                          · exact (congrArg Int64.toInt32 q396v).trans (tw_L_32 (tw_wo_lt (he.v (j := a) (k := 0) (by omega) (by decide)).2 (he.v (j := a) (k := 1) (by omega) (by decide)).2 hk9.2))
                          · exact ((congrArg Int64.toInt32 ev442).trans (Int32.toInt32_toInt64 _)).trans s58
                          · exact ((congrArg Int64.toInt32 ev451).trans (Int32.toInt32_toInt64 _)).trans s69
                        exact tw_iret dX10_ofCountryNow_274 rfl (Or.inl ⟨_, rfl, (sp78.trm n73 (sp164.trm n158 sp456)), th454, oq455, rv9⟩)
                      · refine tw_iconst (v := 2) dX10_ofCountryNow_227 (by decide) ?_
                        refine tw_goto 232 dX10_ofCountryNow_228 (by decide) ?_
                        refine tw_iadd dX10_ofCountryNow_232 ?_
                        refine tw_nmi (fun v462 ev462 => ?_)
                        refine tw_i2l dX10_ofCountryNow_233 ?_
                        refine tw_nml (fun v463 ev463 => ?_)
                        refine tw_last dX10_ofCountryNow_234 f328 (vp_in_nI (n := 4) (by decide) (by decide)) ?_
                        obtain ⟨F464, eF464⟩ : ∃ z : Nat → Int64, z = vp_updL F321 (4 : Int32).toNatClampNeg v463 := ⟨_, rfl⟩
                        rw [← eF464]
                        obtain ⟨h465, eh465⟩ : ∃ z : tw_H, z = tw_up h322 q193 (.inl (d.2 1, 9, .inr (.inl F464))) := ⟨_, rfl⟩
                        rw [← eh465]
                        have th466 : tw_th (h465 x) = tw_th (h x) := by rw [eh465, tw_up_n (tw_nk kx z197 (by decide))] <;> exact th323
                        have oq467 : h465 o = h o := by rw [eh465, tw_up_n (tw_nk ko z197 (by decide))] <;> exact oq324
                        have sp468 : tw_sp d τ (tw_rm h161 it155) g τ h465 := by rw [eh465]; exact sp325.wl n196 z197
                        have f469 : h465 it70 = some (.inr (2, [.int (nI j82), .int l83, .int (g.1 4), .ref lh_12])) := by rw [eh465, tw_up_n ne198]; exact f326
                        have f470 : h465 it155 = some (.inr (2, [.int (nI j169), .int l170, .int (g.1 3), .ref lc_125])) := by rw [eh465, tw_up_n ne199]; exact f327
                        have f471 : h465 q193 = some (.inl (d.2 1, 9, .inr (.inl F464))) := by rw [eh465]; exact tw_up_s
                        refine tw_dup dX10_ofCountryNow_235 rfl ?_
                        refine tw_iconst (v := 5) dX10_ofCountryNow_236 (by decide) ?_
                        refine tw_iload 4 dX10_ofCountryNow_237 rfl ?_
                        refine tw_i2l dX10_ofCountryNow_239 ?_
                        refine tw_nml (fun v472 ev472 => ?_)
                        refine tw_last dX10_ofCountryNow_240 f471 (vp_in_nI (n := 5) (by decide) (by decide)) ?_
                        obtain ⟨F473, eF473⟩ : ∃ z : Nat → Int64, z = vp_updL F464 (5 : Int32).toNatClampNeg v472 := ⟨_, rfl⟩
                        rw [← eF473]
                        obtain ⟨h474, eh474⟩ : ∃ z : tw_H, z = tw_up h465 q193 (.inl (d.2 1, 9, .inr (.inl F473))) := ⟨_, rfl⟩
                        rw [← eh474]
                        have th475 : tw_th (h474 x) = tw_th (h x) := by rw [eh474, tw_up_n (tw_nk kx z197 (by decide))] <;> exact th466
                        have oq476 : h474 o = h o := by rw [eh474, tw_up_n (tw_nk ko z197 (by decide))] <;> exact oq467
                        have sp477 : tw_sp d τ (tw_rm h161 it155) g τ h474 := by rw [eh474]; exact sp468.wl n196 z197
                        have f478 : h474 it70 = some (.inr (2, [.int (nI j82), .int l83, .int (g.1 4), .ref lh_12])) := by rw [eh474, tw_up_n ne198]; exact f469
                        have f479 : h474 it155 = some (.inr (2, [.int (nI j169), .int l170, .int (g.1 3), .ref lc_125])) := by rw [eh474, tw_up_n ne199]; exact f470
                        have f480 : h474 q193 = some (.inl (d.2 1, 9, .inr (.inl F473))) := by rw [eh474]; exact tw_up_s
                        refine tw_dup dX10_ofCountryNow_241 rfl ?_
                        refine tw_bipush (v := 6) dX10_ofCountryNow_242 (by decide) ?_
                        refine tw_aload_n 0 dX10_ofCountryNow_244 rfl rfl ?_
                        refine tw_aload_n 3 dX10_ofCountryNow_245 rfl rfl ?_
                        obtain ⟨e481, f482, r_483, c_484, v_485, o_486, t_487, rfl, k488, k489, k490, k491, k492, k493⟩ := sp477.1 r43 21 q41k.1 (by decide)
                        obtain ⟨j494, ow495, fr9, fc9, q496, q497, q498⟩ := k493
                        obtain rfl : a = j494 := by have z := ow495.b id46; omega
                        subst fr9 fc9
                        refine tw_get (v := .ref v_485) rfl in_11 2 dX10_ofCountryNow_246 w_1217 rfl (by decide) f482 rfl ?_
                        obtain ⟨e502, f503, th_504, td_505, ds_506, fr_507, ca_508, us_509, wo_510, cm_511, lc_512, lh_513, ld_514, rfl, k515, k516, k517, k518, k519, k520, k521, k522, k523, k524, k525, k526, k527, k528, k529, k530, k531, k532, k533, k534, k535, k536⟩ := sp477.1 x 36 kx (by decide)
                        refine tw_bl (tw_callV (M := mX10_ofCountryNow) (pc := 249) okX10_worth dX10_ofCountryNow_249 w_1505 rfl f503 [.ref v_485] [.int 6, .ref q193, .ref q193] rfl rfl ⟨by decide, by decide⟩ (Nat.le_of_ble_eq_true rfl) (c4_X10_worth d g τ h474 sp477.1 x kx v_485 k488 (480 + 64 * a + 16) q498 _ _ _ (he.v (j := a) (k := 0) (by omega) (by decide)).1 (he.v (j := a) (k := 1) (by omega) (by decide)).1 hk9.1 (he.v (j := a) (k := 0) (by omega) (by decide)).2 (he.v (j := a) (k := 1) (by omega) (by decide)).2 hk9.2) 0 0 (Nat.le_of_ble_eq_true rfl) (Nat.le_of_ble_eq_true rfl)) (fun r501 h500 q499 => ?_) (fun E h1 q => q.elim)
                        obtain ⟨q499e, q499v⟩ := q499
                        rw [q499e]
                        refine tw_last dX10_ofCountryNow_252 f480 (vp_in_nI (n := 6) (by decide) (by decide)) ?_
                        obtain ⟨F537, eF537⟩ : ∃ z : Nat → Int64, z = vp_updL F473 (6 : Int32).toNatClampNeg r501 := ⟨_, rfl⟩
                        rw [← eF537]
                        obtain ⟨h538, eh538⟩ : ∃ z : tw_H, z = tw_up h474 q193 (.inl (d.2 1, 9, .inr (.inl F537))) := ⟨_, rfl⟩
                        rw [← eh538]
                        have th539 : tw_th (h538 x) = tw_th (h x) := by rw [eh538, tw_up_n (tw_nk kx z197 (by decide))] <;> exact th475
                        have oq540 : h538 o = h o := by rw [eh538, tw_up_n (tw_nk ko z197 (by decide))] <;> exact oq476
                        have sp541 : tw_sp d τ (tw_rm h161 it155) g τ h538 := by rw [eh538]; exact sp477.wl n196 z197
                        have f542 : h538 it70 = some (.inr (2, [.int (nI j82), .int l83, .int (g.1 4), .ref lh_12])) := by rw [eh538, tw_up_n ne198]; exact f478
                        have f543 : h538 it155 = some (.inr (2, [.int (nI j169), .int l170, .int (g.1 3), .ref lc_125])) := by rw [eh538, tw_up_n ne199]; exact f479
                        have f544 : h538 q193 = some (.inl (d.2 1, 9, .inr (.inl F537))) := by rw [eh538]; exact tw_up_s
                        refine tw_dup dX10_ofCountryNow_253 rfl ?_
                        refine tw_bipush (v := 7) dX10_ofCountryNow_254 (by decide) ?_
                        refine tw_iload 5 dX10_ofCountryNow_256 rfl ?_
                        refine tw_i2l dX10_ofCountryNow_258 ?_
                        refine tw_nml (fun v545 ev545 => ?_)
                        refine tw_last dX10_ofCountryNow_259 f544 (vp_in_nI (n := 7) (by decide) (by decide)) ?_
                        obtain ⟨F546, eF546⟩ : ∃ z : Nat → Int64, z = vp_updL F537 (7 : Int32).toNatClampNeg v545 := ⟨_, rfl⟩
                        rw [← eF546]
                        obtain ⟨h547, eh547⟩ : ∃ z : tw_H, z = tw_up h538 q193 (.inl (d.2 1, 9, .inr (.inl F546))) := ⟨_, rfl⟩
                        rw [← eh547]
                        have th548 : tw_th (h547 x) = tw_th (h x) := by rw [eh547, tw_up_n (tw_nk kx z197 (by decide))] <;> exact th539
                        have oq549 : h547 o = h o := by rw [eh547, tw_up_n (tw_nk ko z197 (by decide))] <;> exact oq540
                        have sp550 : tw_sp d τ (tw_rm h161 it155) g τ h547 := by rw [eh547]; exact sp541.wl n196 z197
                        have f551 : h547 it70 = some (.inr (2, [.int (nI j82), .int l83, .int (g.1 4), .ref lh_12])) := by rw [eh547, tw_up_n ne198]; exact f542
                        have f552 : h547 it155 = some (.inr (2, [.int (nI j169), .int l170, .int (g.1 3), .ref lc_125])) := by rw [eh547, tw_up_n ne199]; exact f543
                        have f553 : h547 q193 = some (.inl (d.2 1, 9, .inr (.inl F546))) := by rw [eh547]; exact tw_up_s
                        refine tw_dup dX10_ofCountryNow_260 rfl ?_
                        refine tw_bipush (v := 8) dX10_ofCountryNow_261 (by decide) ?_
                        refine tw_iload 6 dX10_ofCountryNow_263 rfl ?_
                        refine tw_i2l dX10_ofCountryNow_265 ?_
                        refine tw_nml (fun v554 ev554 => ?_)
                        refine tw_last dX10_ofCountryNow_266 f553 (vp_in_nI (n := 8) (by decide) (by decide)) ?_
                        obtain ⟨F555, eF555⟩ : ∃ z : Nat → Int64, z = vp_updL F546 (8 : Int32).toNatClampNeg v554 := ⟨_, rfl⟩
                        rw [← eF555]
                        obtain ⟨h556, eh556⟩ : ∃ z : tw_H, z = tw_up h547 q193 (.inl (d.2 1, 9, .inr (.inl F555))) := ⟨_, rfl⟩
                        rw [← eh556]
                        have th557 : tw_th (h556 x) = tw_th (h x) := by rw [eh556, tw_up_n (tw_nk kx z197 (by decide))] <;> exact th548
                        have oq558 : h556 o = h o := by rw [eh556, tw_up_n (tw_nk ko z197 (by decide))] <;> exact oq549
                        have sp559 : tw_sp d τ (tw_rm h161 it155) g τ h556 := by rw [eh556]; exact sp550.wl n196 z197
                        have f560 : h556 it70 = some (.inr (2, [.int (nI j82), .int l83, .int (g.1 4), .ref lh_12])) := by rw [eh556, tw_up_n ne198]; exact f551
                        have f561 : h556 it155 = some (.inr (2, [.int (nI j169), .int l170, .int (g.1 3), .ref lc_125])) := by rw [eh556, tw_up_n ne199]; exact f552
                        have f562 : h556 q193 = some (.inl (d.2 1, 9, .inr (.inl F555))) := by rw [eh556]; exact tw_up_s
                        refine tw_astore [(7, .ref q193), (0, .ref x), (1, .int (nI a)), (2, .int (nI w)), (3, .ref r43), (4, .int x80), (5, .int x104), (6, .int x167)] dX10_ofCountryNow_267 (by decide) rfl ?_
                        refine tw_aload 0 dX10_ofCountryNow_269 rfl ?_
                        refine tw_iload_n 3 dX10_ofCountryNow_271 rfl rfl ?_
                        obtain ⟨v563, ev563⟩ : ∃ y : Int64, F555 ((nI w)).toNatClampNeg = y := ⟨_, rfl⟩
                        refine tw_lald (v := v563) dX10_ofCountryNow_272 f562 (vp_in_nI (by omega) (by decide)) ev563 ?_
                        refine tw_l2i dX10_ofCountryNow_273 ?_
                        refine tw_nmi (fun v564 ev564 => ?_)
                        have rv9 : v564 = tw_oM g a w := by
                          rw [ev564, ← ev563, nI_clamp (by omega), eF555, eF546, eF537, eF473, eF464, eF321, eF287, eF253, eF226]
                          rw [show ((0 : Int32)).toNatClampNeg = 0 by decide]
                          rw [show ((1 : Int32)).toNatClampNeg = 1 by decide]
                          rw [show ((2 : Int32)).toNatClampNeg = 2 by decide]
                          rw [show ((3 : Int32)).toNatClampNeg = 3 by decide]
                          rw [show ((4 : Int32)).toNatClampNeg = 4 by decide]
                          rw [show ((5 : Int32)).toNatClampNeg = 5 by decide]
                          rw [show ((6 : Int32)).toNatClampNeg = 6 by decide]
                          rw [show ((7 : Int32)).toNatClampNeg = 7 by decide]
                          rw [show ((8 : Int32)).toNatClampNeg = 8 by decide]
                          rcases (show w = 0 ∨ w = 1 ∨ w = 2 ∨ w = 3 ∨ w = 4 ∨ w = 5 ∨ w = 6 ∨ w = 7 ∨ w = 8 by omega) with rfl | rfl | rfl | rfl | rfl | rfl | rfl | rfl | rfl
                          · exact (congrArg Int64.toInt32 ev225).trans (Int32.toInt32_toInt64 _)
                          · exact (congrArg Int64.toInt32 ev252).trans (Int32.toInt32_toInt64 _)
                          · exact Int32.toInt32_toInt64 _
                          · exact Int32.toInt32_toInt64 _
                          · exact ((congrArg Int64.toInt32 ev463).trans (Int32.toInt32_toInt64 _)).trans (by show _ = tw_oS (g.1 (480 + 64 * a + 8 + 0)) (g.1 (480 + 64 * a + 8 + 1)); unfold tw_oS; rw [if_pos c356, if_neg c358, ev462])
                          · exact ((congrArg Int64.toInt32 ev472).trans (Int32.toInt32_toInt64 _)).trans s49
                          · exact (congrArg Int64.toInt32 q499v).trans (tw_L_32 (tw_wo_lt (he.v (j := a) (k := 0) (by omega) (by decide)).2 (he.v (j := a) (k := 1) (by omega) (by decide)).2 hk9.2))
                          · exact ((congrArg Int64.toInt32 ev545).trans (Int32.toInt32_toInt64 _)).trans s58
                          · exact ((congrArg Int64.toInt32 ev554).trans (Int32.toInt32_toInt64 _)).trans s69
                        exact tw_iret dX10_ofCountryNow_274 rfl (Or.inl ⟨_, rfl, (sp78.trm n73 (sp164.trm n158 sp559)), th557, oq558, rv9⟩)
                    · refine tw_iconst (v := 1) dX10_ofCountryNow_213 (by decide) ?_
                      refine tw_goto 218 dX10_ofCountryNow_214 (by decide) ?_
                      refine tw_aload_n 3 dX10_ofCountryNow_218 rfl rfl ?_
                      refine tw_get (v := .ref o_334) rfl in_11 3 dX10_ofCountryNow_219 w_1219 rfl (by decide) f330 rfl ?_
                      refine tw_iconst (v := 1) dX10_ofCountryNow_222 (by decide) ?_
                      have ev565 : F349 (1 : Int32).toNatClampNeg = (g.1 ((480 + 64 * a + 8) + 1)) := by rw [show (1 : Int32).toNatClampNeg = 1 by decide]; exact wv354 1 (by omega)
                      refine tw_zald (v := (g.1 ((480 + 64 * a + 8) + 1))) dX10_ofCountryNow_223 f348 (vp_in_nI (n := 1) (by decide) (by decide)) ev565 ?_
                      refine tw_if_eq 231 dX10_ofCountryNow_224 (by decide) (fun c566 => ?_) (fun c566 => ?_)
                      · refine tw_iconst (v := 0) dX10_ofCountryNow_231 (by decide) ?_
                        refine tw_iadd dX10_ofCountryNow_232 ?_
                        refine tw_nmi (fun v567 ev567 => ?_)
                        refine tw_i2l dX10_ofCountryNow_233 ?_
                        refine tw_nml (fun v568 ev568 => ?_)
                        refine tw_last dX10_ofCountryNow_234 f328 (vp_in_nI (n := 4) (by decide) (by decide)) ?_
                        obtain ⟨F569, eF569⟩ : ∃ z : Nat → Int64, z = vp_updL F321 (4 : Int32).toNatClampNeg v568 := ⟨_, rfl⟩
                        rw [← eF569]
                        obtain ⟨h570, eh570⟩ : ∃ z : tw_H, z = tw_up h322 q193 (.inl (d.2 1, 9, .inr (.inl F569))) := ⟨_, rfl⟩
                        rw [← eh570]
                        have th571 : tw_th (h570 x) = tw_th (h x) := by rw [eh570, tw_up_n (tw_nk kx z197 (by decide))] <;> exact th323
                        have oq572 : h570 o = h o := by rw [eh570, tw_up_n (tw_nk ko z197 (by decide))] <;> exact oq324
                        have sp573 : tw_sp d τ (tw_rm h161 it155) g τ h570 := by rw [eh570]; exact sp325.wl n196 z197
                        have f574 : h570 it70 = some (.inr (2, [.int (nI j82), .int l83, .int (g.1 4), .ref lh_12])) := by rw [eh570, tw_up_n ne198]; exact f326
                        have f575 : h570 it155 = some (.inr (2, [.int (nI j169), .int l170, .int (g.1 3), .ref lc_125])) := by rw [eh570, tw_up_n ne199]; exact f327
                        have f576 : h570 q193 = some (.inl (d.2 1, 9, .inr (.inl F569))) := by rw [eh570]; exact tw_up_s
                        refine tw_dup dX10_ofCountryNow_235 rfl ?_
                        refine tw_iconst (v := 5) dX10_ofCountryNow_236 (by decide) ?_
                        refine tw_iload 4 dX10_ofCountryNow_237 rfl ?_
                        refine tw_i2l dX10_ofCountryNow_239 ?_
                        refine tw_nml (fun v577 ev577 => ?_)
                        refine tw_last dX10_ofCountryNow_240 f576 (vp_in_nI (n := 5) (by decide) (by decide)) ?_
                        obtain ⟨F578, eF578⟩ : ∃ z : Nat → Int64, z = vp_updL F569 (5 : Int32).toNatClampNeg v577 := ⟨_, rfl⟩
                        rw [← eF578]
                        obtain ⟨h579, eh579⟩ : ∃ z : tw_H, z = tw_up h570 q193 (.inl (d.2 1, 9, .inr (.inl F578))) := ⟨_, rfl⟩
                        rw [← eh579]
                        have th580 : tw_th (h579 x) = tw_th (h x) := by rw [eh579, tw_up_n (tw_nk kx z197 (by decide))] <;> exact th571
                        have oq581 : h579 o = h o := by rw [eh579, tw_up_n (tw_nk ko z197 (by decide))] <;> exact oq572
                        have sp582 : tw_sp d τ (tw_rm h161 it155) g τ h579 := by rw [eh579]; exact sp573.wl n196 z197
                        have f583 : h579 it70 = some (.inr (2, [.int (nI j82), .int l83, .int (g.1 4), .ref lh_12])) := by rw [eh579, tw_up_n ne198]; exact f574
                        have f584 : h579 it155 = some (.inr (2, [.int (nI j169), .int l170, .int (g.1 3), .ref lc_125])) := by rw [eh579, tw_up_n ne199]; exact f575
                        have f585 : h579 q193 = some (.inl (d.2 1, 9, .inr (.inl F578))) := by rw [eh579]; exact tw_up_s
                        refine tw_dup dX10_ofCountryNow_241 rfl ?_
                        refine tw_bipush (v := 6) dX10_ofCountryNow_242 (by decide) ?_
                        refine tw_aload_n 0 dX10_ofCountryNow_244 rfl rfl ?_
                        refine tw_aload_n 3 dX10_ofCountryNow_245 rfl rfl ?_
                        obtain ⟨e586, f587, r_588, c_589, v_590, o_591, t_592, rfl, k593, k594, k595, k596, k597, k598⟩ := sp582.1 r43 21 q41k.1 (by decide)
                        obtain ⟨j599, ow600, fr9, fc9, q601, q602, q603⟩ := k598
                        obtain rfl : a = j599 := by have z := ow600.b id46; omega
                        subst fr9 fc9
                        refine tw_get (v := .ref v_590) rfl in_11 2 dX10_ofCountryNow_246 w_1217 rfl (by decide) f587 rfl ?_
                        obtain ⟨e607, f608, th_609, td_610, ds_611, fr_612, ca_613, us_614, wo_615, cm_616, lc_617, lh_618, ld_619, rfl, k620, k621, k622, k623, k624, k625, k626, k627, k628, k629, k630, k631, k632, k633, k634, k635, k636, k637, k638, k639, k640, k641⟩ := sp582.1 x 36 kx (by decide)
                        refine tw_bl (tw_callV (M := mX10_ofCountryNow) (pc := 249) okX10_worth dX10_ofCountryNow_249 w_1505 rfl f608 [.ref v_590] [.int 6, .ref q193, .ref q193] rfl rfl ⟨by decide, by decide⟩ (Nat.le_of_ble_eq_true rfl) (c4_X10_worth d g τ h579 sp582.1 x kx v_590 k593 (480 + 64 * a + 16) q603 _ _ _ (he.v (j := a) (k := 0) (by omega) (by decide)).1 (he.v (j := a) (k := 1) (by omega) (by decide)).1 hk9.1 (he.v (j := a) (k := 0) (by omega) (by decide)).2 (he.v (j := a) (k := 1) (by omega) (by decide)).2 hk9.2) 0 0 (Nat.le_of_ble_eq_true rfl) (Nat.le_of_ble_eq_true rfl)) (fun r606 h605 q604 => ?_) (fun E h1 q => q.elim)
                        obtain ⟨q604e, q604v⟩ := q604
                        rw [q604e]
                        refine tw_last dX10_ofCountryNow_252 f585 (vp_in_nI (n := 6) (by decide) (by decide)) ?_
                        obtain ⟨F642, eF642⟩ : ∃ z : Nat → Int64, z = vp_updL F578 (6 : Int32).toNatClampNeg r606 := ⟨_, rfl⟩
                        rw [← eF642]
                        obtain ⟨h643, eh643⟩ : ∃ z : tw_H, z = tw_up h579 q193 (.inl (d.2 1, 9, .inr (.inl F642))) := ⟨_, rfl⟩
                        rw [← eh643]
                        have th644 : tw_th (h643 x) = tw_th (h x) := by rw [eh643, tw_up_n (tw_nk kx z197 (by decide))] <;> exact th580
                        have oq645 : h643 o = h o := by rw [eh643, tw_up_n (tw_nk ko z197 (by decide))] <;> exact oq581
                        have sp646 : tw_sp d τ (tw_rm h161 it155) g τ h643 := by rw [eh643]; exact sp582.wl n196 z197
                        have f647 : h643 it70 = some (.inr (2, [.int (nI j82), .int l83, .int (g.1 4), .ref lh_12])) := by rw [eh643, tw_up_n ne198]; exact f583
                        have f648 : h643 it155 = some (.inr (2, [.int (nI j169), .int l170, .int (g.1 3), .ref lc_125])) := by rw [eh643, tw_up_n ne199]; exact f584
                        have f649 : h643 q193 = some (.inl (d.2 1, 9, .inr (.inl F642))) := by rw [eh643]; exact tw_up_s
                        refine tw_dup dX10_ofCountryNow_253 rfl ?_
                        refine tw_bipush (v := 7) dX10_ofCountryNow_254 (by decide) ?_
                        refine tw_iload 5 dX10_ofCountryNow_256 rfl ?_
                        refine tw_i2l dX10_ofCountryNow_258 ?_
                        refine tw_nml (fun v650 ev650 => ?_)
                        refine tw_last dX10_ofCountryNow_259 f649 (vp_in_nI (n := 7) (by decide) (by decide)) ?_
                        obtain ⟨F651, eF651⟩ : ∃ z : Nat → Int64, z = vp_updL F642 (7 : Int32).toNatClampNeg v650 := ⟨_, rfl⟩
                        rw [← eF651]
                        obtain ⟨h652, eh652⟩ : ∃ z : tw_H, z = tw_up h643 q193 (.inl (d.2 1, 9, .inr (.inl F651))) := ⟨_, rfl⟩
                        rw [← eh652]
                        have th653 : tw_th (h652 x) = tw_th (h x) := by rw [eh652, tw_up_n (tw_nk kx z197 (by decide))] <;> exact th644
                        have oq654 : h652 o = h o := by rw [eh652, tw_up_n (tw_nk ko z197 (by decide))] <;> exact oq645
                        have sp655 : tw_sp d τ (tw_rm h161 it155) g τ h652 := by rw [eh652]; exact sp646.wl n196 z197
                        have f656 : h652 it70 = some (.inr (2, [.int (nI j82), .int l83, .int (g.1 4), .ref lh_12])) := by rw [eh652, tw_up_n ne198]; exact f647
                        have f657 : h652 it155 = some (.inr (2, [.int (nI j169), .int l170, .int (g.1 3), .ref lc_125])) := by rw [eh652, tw_up_n ne199]; exact f648
                        have f658 : h652 q193 = some (.inl (d.2 1, 9, .inr (.inl F651))) := by rw [eh652]; exact tw_up_s
                        refine tw_dup dX10_ofCountryNow_260 rfl ?_
                        refine tw_bipush (v := 8) dX10_ofCountryNow_261 (by decide) ?_
                        refine tw_iload 6 dX10_ofCountryNow_263 rfl ?_
                        refine tw_i2l dX10_ofCountryNow_265 ?_
                        refine tw_nml (fun v659 ev659 => ?_)
                        refine tw_last dX10_ofCountryNow_266 f658 (vp_in_nI (n := 8) (by decide) (by decide)) ?_
                        obtain ⟨F660, eF660⟩ : ∃ z : Nat → Int64, z = vp_updL F651 (8 : Int32).toNatClampNeg v659 := ⟨_, rfl⟩
                        rw [← eF660]
                        obtain ⟨h661, eh661⟩ : ∃ z : tw_H, z = tw_up h652 q193 (.inl (d.2 1, 9, .inr (.inl F660))) := ⟨_, rfl⟩
                        rw [← eh661]
                        have th662 : tw_th (h661 x) = tw_th (h x) := by rw [eh661, tw_up_n (tw_nk kx z197 (by decide))] <;> exact th653
                        have oq663 : h661 o = h o := by rw [eh661, tw_up_n (tw_nk ko z197 (by decide))] <;> exact oq654
                        have sp664 : tw_sp d τ (tw_rm h161 it155) g τ h661 := by rw [eh661]; exact sp655.wl n196 z197
                        have f665 : h661 it70 = some (.inr (2, [.int (nI j82), .int l83, .int (g.1 4), .ref lh_12])) := by rw [eh661, tw_up_n ne198]; exact f656
                        have f666 : h661 it155 = some (.inr (2, [.int (nI j169), .int l170, .int (g.1 3), .ref lc_125])) := by rw [eh661, tw_up_n ne199]; exact f657
                        have f667 : h661 q193 = some (.inl (d.2 1, 9, .inr (.inl F660))) := by rw [eh661]; exact tw_up_s
                        refine tw_astore [(7, .ref q193), (0, .ref x), (1, .int (nI a)), (2, .int (nI w)), (3, .ref r43), (4, .int x80), (5, .int x104), (6, .int x167)] dX10_ofCountryNow_267 (by decide) rfl ?_
                        refine tw_aload 0 dX10_ofCountryNow_269 rfl ?_
                        refine tw_iload_n 3 dX10_ofCountryNow_271 rfl rfl ?_
                        obtain ⟨v668, ev668⟩ : ∃ y : Int64, F660 ((nI w)).toNatClampNeg = y := ⟨_, rfl⟩
                        refine tw_lald (v := v668) dX10_ofCountryNow_272 f667 (vp_in_nI (by omega) (by decide)) ev668 ?_
                        refine tw_l2i dX10_ofCountryNow_273 ?_
                        refine tw_nmi (fun v669 ev669 => ?_)
                        have rv9 : v669 = tw_oM g a w := by
                          rw [ev669, ← ev668, nI_clamp (by omega), eF660, eF651, eF642, eF578, eF569, eF321, eF287, eF253, eF226]
                          rw [show ((0 : Int32)).toNatClampNeg = 0 by decide]
                          rw [show ((1 : Int32)).toNatClampNeg = 1 by decide]
                          rw [show ((2 : Int32)).toNatClampNeg = 2 by decide]
                          rw [show ((3 : Int32)).toNatClampNeg = 3 by decide]
                          rw [show ((4 : Int32)).toNatClampNeg = 4 by decide]
                          rw [show ((5 : Int32)).toNatClampNeg = 5 by decide]
                          rw [show ((6 : Int32)).toNatClampNeg = 6 by decide]
                          rw [show ((7 : Int32)).toNatClampNeg = 7 by decide]
                          rw [show ((8 : Int32)).toNatClampNeg = 8 by decide]
                          rcases (show w = 0 ∨ w = 1 ∨ w = 2 ∨ w = 3 ∨ w = 4 ∨ w = 5 ∨ w = 6 ∨ w = 7 ∨ w = 8 by omega) with rfl | rfl | rfl | rfl | rfl | rfl | rfl | rfl | rfl
                          · exact (congrArg Int64.toInt32 ev225).trans (Int32.toInt32_toInt64 _)
                          · exact (congrArg Int64.toInt32 ev252).trans (Int32.toInt32_toInt64 _)
                          · exact Int32.toInt32_toInt64 _
                          · exact Int32.toInt32_toInt64 _
                          · exact ((congrArg Int64.toInt32 ev568).trans (Int32.toInt32_toInt64 _)).trans (by show _ = tw_oS (g.1 (480 + 64 * a + 8 + 0)) (g.1 (480 + 64 * a + 8 + 1)); unfold tw_oS; rw [if_neg c356, if_pos c566, ev567])
                          · exact ((congrArg Int64.toInt32 ev577).trans (Int32.toInt32_toInt64 _)).trans s49
                          · exact (congrArg Int64.toInt32 q604v).trans (tw_L_32 (tw_wo_lt (he.v (j := a) (k := 0) (by omega) (by decide)).2 (he.v (j := a) (k := 1) (by omega) (by decide)).2 hk9.2))
                          · exact ((congrArg Int64.toInt32 ev650).trans (Int32.toInt32_toInt64 _)).trans s58
                          · exact ((congrArg Int64.toInt32 ev659).trans (Int32.toInt32_toInt64 _)).trans s69
                        exact tw_iret dX10_ofCountryNow_274 rfl (Or.inl ⟨_, rfl, (sp78.trm n73 (sp164.trm n158 sp664)), th662, oq663, rv9⟩)
                      · refine tw_iconst (v := 2) dX10_ofCountryNow_227 (by decide) ?_
                        refine tw_goto 232 dX10_ofCountryNow_228 (by decide) ?_
                        refine tw_iadd dX10_ofCountryNow_232 ?_
                        refine tw_nmi (fun v670 ev670 => ?_)
                        refine tw_i2l dX10_ofCountryNow_233 ?_
                        refine tw_nml (fun v671 ev671 => ?_)
                        refine tw_last dX10_ofCountryNow_234 f328 (vp_in_nI (n := 4) (by decide) (by decide)) ?_
                        obtain ⟨F672, eF672⟩ : ∃ z : Nat → Int64, z = vp_updL F321 (4 : Int32).toNatClampNeg v671 := ⟨_, rfl⟩
                        rw [← eF672]
                        obtain ⟨h673, eh673⟩ : ∃ z : tw_H, z = tw_up h322 q193 (.inl (d.2 1, 9, .inr (.inl F672))) := ⟨_, rfl⟩
                        rw [← eh673]
                        have th674 : tw_th (h673 x) = tw_th (h x) := by rw [eh673, tw_up_n (tw_nk kx z197 (by decide))] <;> exact th323
                        have oq675 : h673 o = h o := by rw [eh673, tw_up_n (tw_nk ko z197 (by decide))] <;> exact oq324
                        have sp676 : tw_sp d τ (tw_rm h161 it155) g τ h673 := by rw [eh673]; exact sp325.wl n196 z197
                        have f677 : h673 it70 = some (.inr (2, [.int (nI j82), .int l83, .int (g.1 4), .ref lh_12])) := by rw [eh673, tw_up_n ne198]; exact f326
                        have f678 : h673 it155 = some (.inr (2, [.int (nI j169), .int l170, .int (g.1 3), .ref lc_125])) := by rw [eh673, tw_up_n ne199]; exact f327
                        have f679 : h673 q193 = some (.inl (d.2 1, 9, .inr (.inl F672))) := by rw [eh673]; exact tw_up_s
                        refine tw_dup dX10_ofCountryNow_235 rfl ?_
                        refine tw_iconst (v := 5) dX10_ofCountryNow_236 (by decide) ?_
                        refine tw_iload 4 dX10_ofCountryNow_237 rfl ?_
                        refine tw_i2l dX10_ofCountryNow_239 ?_
                        refine tw_nml (fun v680 ev680 => ?_)
                        refine tw_last dX10_ofCountryNow_240 f679 (vp_in_nI (n := 5) (by decide) (by decide)) ?_
                        obtain ⟨F681, eF681⟩ : ∃ z : Nat → Int64, z = vp_updL F672 (5 : Int32).toNatClampNeg v680 := ⟨_, rfl⟩
                        rw [← eF681]
                        obtain ⟨h682, eh682⟩ : ∃ z : tw_H, z = tw_up h673 q193 (.inl (d.2 1, 9, .inr (.inl F681))) := ⟨_, rfl⟩
                        rw [← eh682]
                        have th683 : tw_th (h682 x) = tw_th (h x) := by rw [eh682, tw_up_n (tw_nk kx z197 (by decide))] <;> exact th674
                        have oq684 : h682 o = h o := by rw [eh682, tw_up_n (tw_nk ko z197 (by decide))] <;> exact oq675
                        have sp685 : tw_sp d τ (tw_rm h161 it155) g τ h682 := by rw [eh682]; exact sp676.wl n196 z197
                        have f686 : h682 it70 = some (.inr (2, [.int (nI j82), .int l83, .int (g.1 4), .ref lh_12])) := by rw [eh682, tw_up_n ne198]; exact f677
                        have f687 : h682 it155 = some (.inr (2, [.int (nI j169), .int l170, .int (g.1 3), .ref lc_125])) := by rw [eh682, tw_up_n ne199]; exact f678
                        have f688 : h682 q193 = some (.inl (d.2 1, 9, .inr (.inl F681))) := by rw [eh682]; exact tw_up_s
                        refine tw_dup dX10_ofCountryNow_241 rfl ?_
                        refine tw_bipush (v := 6) dX10_ofCountryNow_242 (by decide) ?_
                        refine tw_aload_n 0 dX10_ofCountryNow_244 rfl rfl ?_
                        refine tw_aload_n 3 dX10_ofCountryNow_245 rfl rfl ?_
                        obtain ⟨e689, f690, r_691, c_692, v_693, o_694, t_695, rfl, k696, k697, k698, k699, k700, k701⟩ := sp685.1 r43 21 q41k.1 (by decide)
                        obtain ⟨j702, ow703, fr9, fc9, q704, q705, q706⟩ := k701
                        obtain rfl : a = j702 := by have z := ow703.b id46; omega
                        subst fr9 fc9
                        refine tw_get (v := .ref v_693) rfl in_11 2 dX10_ofCountryNow_246 w_1217 rfl (by decide) f690 rfl ?_
                        obtain ⟨e710, f711, th_712, td_713, ds_714, fr_715, ca_716, us_717, wo_718, cm_719, lc_720, lh_721, ld_722, rfl, k723, k724, k725, k726, k727, k728, k729, k730, k731, k732, k733, k734, k735, k736, k737, k738, k739, k740, k741, k742, k743, k744⟩ := sp685.1 x 36 kx (by decide)
                        refine tw_bl (tw_callV (M := mX10_ofCountryNow) (pc := 249) okX10_worth dX10_ofCountryNow_249 w_1505 rfl f711 [.ref v_693] [.int 6, .ref q193, .ref q193] rfl rfl ⟨by decide, by decide⟩ (Nat.le_of_ble_eq_true rfl) (c4_X10_worth d g τ h682 sp685.1 x kx v_693 k696 (480 + 64 * a + 16) q706 _ _ _ (he.v (j := a) (k := 0) (by omega) (by decide)).1 (he.v (j := a) (k := 1) (by omega) (by decide)).1 hk9.1 (he.v (j := a) (k := 0) (by omega) (by decide)).2 (he.v (j := a) (k := 1) (by omega) (by decide)).2 hk9.2) 0 0 (Nat.le_of_ble_eq_true rfl) (Nat.le_of_ble_eq_true rfl)) (fun r709 h708 q707 => ?_) (fun E h1 q => q.elim)
                        obtain ⟨q707e, q707v⟩ := q707
                        rw [q707e]
                        refine tw_last dX10_ofCountryNow_252 f688 (vp_in_nI (n := 6) (by decide) (by decide)) ?_
                        obtain ⟨F745, eF745⟩ : ∃ z : Nat → Int64, z = vp_updL F681 (6 : Int32).toNatClampNeg r709 := ⟨_, rfl⟩
                        rw [← eF745]
                        obtain ⟨h746, eh746⟩ : ∃ z : tw_H, z = tw_up h682 q193 (.inl (d.2 1, 9, .inr (.inl F745))) := ⟨_, rfl⟩
                        rw [← eh746]
                        have th747 : tw_th (h746 x) = tw_th (h x) := by rw [eh746, tw_up_n (tw_nk kx z197 (by decide))] <;> exact th683
                        have oq748 : h746 o = h o := by rw [eh746, tw_up_n (tw_nk ko z197 (by decide))] <;> exact oq684
                        have sp749 : tw_sp d τ (tw_rm h161 it155) g τ h746 := by rw [eh746]; exact sp685.wl n196 z197
                        have f750 : h746 it70 = some (.inr (2, [.int (nI j82), .int l83, .int (g.1 4), .ref lh_12])) := by rw [eh746, tw_up_n ne198]; exact f686
                        have f751 : h746 it155 = some (.inr (2, [.int (nI j169), .int l170, .int (g.1 3), .ref lc_125])) := by rw [eh746, tw_up_n ne199]; exact f687
                        have f752 : h746 q193 = some (.inl (d.2 1, 9, .inr (.inl F745))) := by rw [eh746]; exact tw_up_s
                        refine tw_dup dX10_ofCountryNow_253 rfl ?_
                        refine tw_bipush (v := 7) dX10_ofCountryNow_254 (by decide) ?_
                        refine tw_iload 5 dX10_ofCountryNow_256 rfl ?_
                        refine tw_i2l dX10_ofCountryNow_258 ?_
                        refine tw_nml (fun v753 ev753 => ?_)
                        refine tw_last dX10_ofCountryNow_259 f752 (vp_in_nI (n := 7) (by decide) (by decide)) ?_
                        obtain ⟨F754, eF754⟩ : ∃ z : Nat → Int64, z = vp_updL F745 (7 : Int32).toNatClampNeg v753 := ⟨_, rfl⟩
                        rw [← eF754]
                        obtain ⟨h755, eh755⟩ : ∃ z : tw_H, z = tw_up h746 q193 (.inl (d.2 1, 9, .inr (.inl F754))) := ⟨_, rfl⟩
                        rw [← eh755]
                        have th756 : tw_th (h755 x) = tw_th (h x) := by rw [eh755, tw_up_n (tw_nk kx z197 (by decide))] <;> exact th747
                        have oq757 : h755 o = h o := by rw [eh755, tw_up_n (tw_nk ko z197 (by decide))] <;> exact oq748
                        have sp758 : tw_sp d τ (tw_rm h161 it155) g τ h755 := by rw [eh755]; exact sp749.wl n196 z197
                        have f759 : h755 it70 = some (.inr (2, [.int (nI j82), .int l83, .int (g.1 4), .ref lh_12])) := by rw [eh755, tw_up_n ne198]; exact f750
                        have f760 : h755 it155 = some (.inr (2, [.int (nI j169), .int l170, .int (g.1 3), .ref lc_125])) := by rw [eh755, tw_up_n ne199]; exact f751
                        have f761 : h755 q193 = some (.inl (d.2 1, 9, .inr (.inl F754))) := by rw [eh755]; exact tw_up_s
                        refine tw_dup dX10_ofCountryNow_260 rfl ?_
                        refine tw_bipush (v := 8) dX10_ofCountryNow_261 (by decide) ?_
                        refine tw_iload 6 dX10_ofCountryNow_263 rfl ?_
                        refine tw_i2l dX10_ofCountryNow_265 ?_
                        refine tw_nml (fun v762 ev762 => ?_)
                        refine tw_last dX10_ofCountryNow_266 f761 (vp_in_nI (n := 8) (by decide) (by decide)) ?_
                        obtain ⟨F763, eF763⟩ : ∃ z : Nat → Int64, z = vp_updL F754 (8 : Int32).toNatClampNeg v762 := ⟨_, rfl⟩
                        rw [← eF763]
                        obtain ⟨h764, eh764⟩ : ∃ z : tw_H, z = tw_up h755 q193 (.inl (d.2 1, 9, .inr (.inl F763))) := ⟨_, rfl⟩
                        rw [← eh764]
                        have th765 : tw_th (h764 x) = tw_th (h x) := by rw [eh764, tw_up_n (tw_nk kx z197 (by decide))] <;> exact th756
                        have oq766 : h764 o = h o := by rw [eh764, tw_up_n (tw_nk ko z197 (by decide))] <;> exact oq757
                        have sp767 : tw_sp d τ (tw_rm h161 it155) g τ h764 := by rw [eh764]; exact sp758.wl n196 z197
                        have f768 : h764 it70 = some (.inr (2, [.int (nI j82), .int l83, .int (g.1 4), .ref lh_12])) := by rw [eh764, tw_up_n ne198]; exact f759
                        have f769 : h764 it155 = some (.inr (2, [.int (nI j169), .int l170, .int (g.1 3), .ref lc_125])) := by rw [eh764, tw_up_n ne199]; exact f760
                        have f770 : h764 q193 = some (.inl (d.2 1, 9, .inr (.inl F763))) := by rw [eh764]; exact tw_up_s
                        refine tw_astore [(7, .ref q193), (0, .ref x), (1, .int (nI a)), (2, .int (nI w)), (3, .ref r43), (4, .int x80), (5, .int x104), (6, .int x167)] dX10_ofCountryNow_267 (by decide) rfl ?_
                        refine tw_aload 0 dX10_ofCountryNow_269 rfl ?_
                        refine tw_iload_n 3 dX10_ofCountryNow_271 rfl rfl ?_
                        obtain ⟨v771, ev771⟩ : ∃ y : Int64, F763 ((nI w)).toNatClampNeg = y := ⟨_, rfl⟩
                        refine tw_lald (v := v771) dX10_ofCountryNow_272 f770 (vp_in_nI (by omega) (by decide)) ev771 ?_
                        refine tw_l2i dX10_ofCountryNow_273 ?_
                        refine tw_nmi (fun v772 ev772 => ?_)
                        have rv9 : v772 = tw_oM g a w := by
                          rw [ev772, ← ev771, nI_clamp (by omega), eF763, eF754, eF745, eF681, eF672, eF321, eF287, eF253, eF226]
                          rw [show ((0 : Int32)).toNatClampNeg = 0 by decide]
                          rw [show ((1 : Int32)).toNatClampNeg = 1 by decide]
                          rw [show ((2 : Int32)).toNatClampNeg = 2 by decide]
                          rw [show ((3 : Int32)).toNatClampNeg = 3 by decide]
                          rw [show ((4 : Int32)).toNatClampNeg = 4 by decide]
                          rw [show ((5 : Int32)).toNatClampNeg = 5 by decide]
                          rw [show ((6 : Int32)).toNatClampNeg = 6 by decide]
                          rw [show ((7 : Int32)).toNatClampNeg = 7 by decide]
                          rw [show ((8 : Int32)).toNatClampNeg = 8 by decide]
                          rcases (show w = 0 ∨ w = 1 ∨ w = 2 ∨ w = 3 ∨ w = 4 ∨ w = 5 ∨ w = 6 ∨ w = 7 ∨ w = 8 by omega) with rfl | rfl | rfl | rfl | rfl | rfl | rfl | rfl | rfl
                          · exact (congrArg Int64.toInt32 ev225).trans (Int32.toInt32_toInt64 _)
                          · exact (congrArg Int64.toInt32 ev252).trans (Int32.toInt32_toInt64 _)
                          · exact Int32.toInt32_toInt64 _
                          · exact Int32.toInt32_toInt64 _
                          · exact ((congrArg Int64.toInt32 ev671).trans (Int32.toInt32_toInt64 _)).trans (by show _ = tw_oS (g.1 (480 + 64 * a + 8 + 0)) (g.1 (480 + 64 * a + 8 + 1)); unfold tw_oS; rw [if_neg c356, if_neg c566, ev670])
                          · exact ((congrArg Int64.toInt32 ev680).trans (Int32.toInt32_toInt64 _)).trans s49
                          · exact (congrArg Int64.toInt32 q707v).trans (tw_L_32 (tw_wo_lt (he.v (j := a) (k := 0) (by omega) (by decide)).2 (he.v (j := a) (k := 1) (by omega) (by decide)).2 hk9.2))
                          · exact ((congrArg Int64.toInt32 ev753).trans (Int32.toInt32_toInt64 _)).trans s58
                          · exact ((congrArg Int64.toInt32 ev762).trans (Int32.toInt32_toInt64 _)).trans s69
                        exact tw_iret dX10_ofCountryNow_274 rfl (Or.inl ⟨_, rfl, (sp78.trm n73 (sp164.trm n158 sp767)), th765, oq766, rv9⟩)
                  · rw [q189r]
                    refine tw_if_eq 164 dX10_ofCountryNow_124 (by decide) (fun c773 => absurd c773 (by decide)) (fun _ => ?_)
                    refine tw_aload 7 dX10_ofCountryNow_127 rfl ?_
                    have k774 : τ el186 = 27 := k187.resolve_left (fun q => absurd q189j (by rw [q.2.1]; exact Nat.not_lt_zero _))
                    obtain ⟨e775, f776, ⟨F777, rfl, hc778, hc779⟩, un780⟩ := sp174.1 el186 27 k774 (by decide)
                    obtain ⟨y781, hy782, ky783⟩ := hc779 j169 q189j
                    refine tw_br (tw_callF (M := mX10_ofCountryNow) (pc := 129) (n9 := 0) (ci := 2) tw_next ok_itNext w_1421 w_1419 (fun s H z => z.2.2.2.2.2.2.2.2.2) (by decide +kernel) dX10_ofCountryNow_129 w_1416 rfl ft175 [] [] rfl rfl ⟨by decide, by decide⟩ (Nat.le_of_ble_eq_true rfl) (c_next d h173 it155 lc_125 el186 j169 (g.2 3) y781 l170 (g.1 3) F777 ft175 f185 f776 q189j hc778 hy782) 1 9 (Nat.le_of_ble_eq_true rfl) (Nat.le_of_ble_eq_true rfl)) (fun r786 h785 q784 => ?_) (fun E h1 q => q.elim)
                    obtain ⟨q784r, q784e⟩ := q784
                    rw [q784r]
                    have sp787 : tw_sp d τ (tw_rm h161 it155) g τ h785 := by rw [q784e]; exact sp174.wl tw_rm_s zt176
                    have id788 : g.2 (4096 + y781) = 480 + 64 * j169 := un780.2.2 _ _ F777 rfl j169 y781 q189j hy782
                    have f789 : h785 it70 = some (.inr (2, [.int (nI j82), .int l83, .int (g.1 4), .ref lh_12])) := by rw [q784e, tw_up_n ne160]; exact f182
                    have th790 : tw_th (h785 x) = tw_th (h x) := by rw [q784e, tw_up_n (tw_nk kx zt176 (by decide))] <;> exact th177
                    have oq791 : h785 o = h o := by rw [q784e, tw_up_n (tw_nk ko zt176 (by decide))] <;> exact oq178
                    have f792 : h785 it155 = some (.inr (2, [.int (nI (j169 + 1)), .int (nI j169), .int (g.1 3), .ref lc_125])) := by rw [q784e]; exact tw_up_s
                    obtain ⟨e793, f794, r_795, c_796, v_797, o_798, t_799, rfl, k800, k801, k802, k803, k804, k805⟩ := sp787.1 y781 21 ky783 (by decide)
                    obtain ⟨j806, ow807, fr9, fc9, q808, q809, q810⟩ := k805
                    obtain rfl : j169 = j806 := by have z := ow807.b id788; omega
                    subst fr9 fc9
                    refine tw_castS (ci := 11) rfl dX10_ofCountryNow_134 w_1208 f794 ?_
                    refine tw_astore [(8, .ref y781), (0, .ref x), (1, .int (nI a)), (2, .int (nI w)), (3, .ref r43), (4, .int x80), (5, .int x104), (6, .int x167), (7, .ref it155)] dX10_ofCountryNow_137 (by decide) rfl ?_
                    refine tw_iload 7 dX10_ofCountryNow_139 rfl ?_
                    refine tw_aload 0 dX10_ofCountryNow_141 rfl ?_
                    refine tw_get (v := .int (g.1 (480 + 64 * j169))) rfl in_11 0 dX10_ofCountryNow_143 w_1214 rfl (by decide) f794 rfl ?_
                    refine tw_aload_n 4 dX10_ofCountryNow_146 rfl rfl ?_
                    obtain ⟨e811, f812, r_813, c_814, v_815, o_816, t_817, rfl, k818, k819, k820, k821, k822, k823⟩ := sp787.1 r43 21 q41k.1 (by decide)
                    obtain ⟨j824, ow825, fr9, fc9, q826, q827, q828⟩ := k823
                    obtain rfl : a = j824 := by have z := ow825.b id46; omega
                    subst fr9 fc9
                    refine tw_get (v := .int (g.1 (480 + 64 * a))) rfl in_11 0 dX10_ofCountryNow_147 w_1214 rfl (by decide) f812 rfl ?_
                    refine tw_icmp_ne 157 dX10_ofCountryNow_150 (by decide) (fun c829 => ?_) (fun c829 => ?_)
                    · have f69 : (if g.1 (480 + 64 * j169) = g.1 (480 + 64 * a) then 1 else 0 : Int32) = 0 := if_neg c829
                      refine tw_iconst (v := 0) dX10_ofCountryNow_157 (by decide) ?_
                      refine tw_iadd dX10_ofCountryNow_158 ?_
                      refine tw_nmi (fun v830 ev830 => ?_)
                      refine tw_istore [(6, .int v830), (8, .ref y781), (0, .ref x), (1, .int (nI a)), (2, .int (nI w)), (3, .ref r43), (4, .int x80), (5, .int x104), (7, .ref it155)] dX10_ofCountryNow_159 (by decide) rfl ?_
                      refine tw_goto 117 dX10_ofCountryNow_161 (by decide) ?_
                      refine tw_lv [2, 3, 4, 5, 6, 7, 0, 8] rfl ?_
                      exact ih171 ((j169 + 1)) (nI j169) v830 _ sp787 f792 zt176 th790 oq791 (by show v830 = tw_isum (fun j => if g.1 (480 + 64 * j) = g.1 (480 + 64 * a) then 1 else 0) j169 + (if g.1 (480 + 64 * j169) = g.1 (480 + 64 * a) then 1 else 0 : Int32); rw [ev830, f69, li179]) (by omega) (by omega)
                    · have f69 : (if g.1 (480 + 64 * j169) = g.1 (480 + 64 * a) then 1 else 0 : Int32) = 1 := if_pos c829
                      refine tw_iconst (v := 1) dX10_ofCountryNow_153 (by decide) ?_
                      refine tw_goto 158 dX10_ofCountryNow_154 (by decide) ?_
                      refine tw_iadd dX10_ofCountryNow_158 ?_
                      refine tw_nmi (fun v831 ev831 => ?_)
                      refine tw_istore [(6, .int v831), (8, .ref y781), (0, .ref x), (1, .int (nI a)), (2, .int (nI w)), (3, .ref r43), (4, .int x80), (5, .int x104), (7, .ref it155)] dX10_ofCountryNow_159 (by decide) rfl ?_
                      refine tw_goto 117 dX10_ofCountryNow_161 (by decide) ?_
                      refine tw_lv [2, 3, 4, 5, 6, 7, 0, 8] rfl ?_
                      exact ih171 ((j169 + 1)) (nI j169) v831 _ sp787 f792 zt176 th790 oq791 (by show v831 = tw_isum (fun j => if g.1 (480 + 64 * j) = g.1 (480 + 64 * a) then 1 else 0) j169 + (if g.1 (480 + 64 * j169) = g.1 (480 + 64 * a) then 1 else 0 : Int32); rw [ev831, f69, li179]) (by omega) (by omega)
              refine tw_lv [1, 2, 3, 4, 5, 6, 7, 0] rfl ?_
              exact L172 (g.2 3 + 1) 0 (-1) 0 _ (tw_sp.rm sp164.1 it155) f166 z159 th162 oq163 (rfl) (by omega) (Nat.zero_le _)
            · have kl832 := tw_klt (N := 5) c114 hk113 (by decide)
              refine tw_iload 5 dX10_ofCountryNow_83 rfl ?_
              refine tw_gets (fun _ _ z => z.2.2.2.2.1.1) rfl dX10_ofCountryNow_85 w_1483 ?_
              refine tw_iload 7 dX10_ofCountryNow_88 rfl ?_
              refine tw_ti (v := .int (tw_pnd k105)) (fun _ _ z => z.2.2.2.2.1.2) dX10_ofCountryNow_90 (vp_in_nI (by omega) (by decide)) (by rw [nI_clamp (by omega)]; rfl) ?_
              refine tw_aload_n 3 dX10_ofCountryNow_91 rfl rfl ?_
              obtain ⟨e833, f834, r_835, c_836, v_837, o_838, t_839, rfl, k840, k841, k842, k843, k844, k845⟩ := sp87.1 r43 21 q41k.1 (by decide)
              obtain ⟨j846, ow847, fr9, fc9, q848, q849, q850⟩ := k845
              obtain rfl : a = j846 := by have z := ow847.b id46; omega
              subst fr9 fc9
              refine tw_get (v := .ref t_839) rfl in_11 4 dX10_ofCountryNow_92 w_1221 rfl (by decide) f834 rfl ?_
              refine tw_iload 7 dX10_ofCountryNow_95 rfl ?_
              obtain ⟨e851, f852, F853, rfl, k855, ⟨b856, ow857, wv858⟩⟩ := sp87.1 t_839 33 k842 (by decide)
              obtain rfl : b856 = (480 + 64 * a + 24) := ow857.b q849
              have ev859 : F853 ((nI k105)).toNatClampNeg = (g.1 ((480 + 64 * a + 24) + k105)) := by rw [nI_clamp (by omega)]; exact wv858 k105 (by omega)
              refine tw_iald (v := (g.1 ((480 + 64 * a + 24) + k105))) dX10_ofCountryNow_97 f852 (vp_in_nI (by omega) (by decide)) ev859 ?_
              refine tw_imul dX10_ofCountryNow_98 ?_
              refine tw_nmi (fun v860 ev860 => ?_)
              refine tw_iadd dX10_ofCountryNow_99 ?_
              refine tw_nmi (fun v861 ev861 => ?_)
              refine tw_istore [(5, .int v861), (0, .ref x), (1, .int (nI a)), (2, .int (nI w)), (3, .ref r43), (4, .int x80), (6, .int 0), (7, .int (nI k105))] dX10_ofCountryNow_100 (by decide) rfl ?_
              obtain ⟨v862, ev862⟩ : ∃ y : Int32, y = (nI k105) + 1 := ⟨_, rfl⟩
              refine tw_iinc [(7, .int v862), (5, .int v861), (0, .ref x), (1, .int (nI a)), (2, .int (nI w)), (3, .ref r43), (4, .int x80), (6, .int 0)] 7 dX10_ofCountryNow_102 rfl (by rw [ev862]; rfl) (by decide) rfl ?_
              refine tw_goto 77 dX10_ofCountryNow_105 (by decide) ?_
              have qv862 := tw_nI3 ev862
              rw [qv862]
              refine tw_lv [2, 3, 4, 5, 6, 1, 7, 0] rfl ?_
              exact ih107 (k105 + 1) v861 (by show v861 = tw_isum (fun j => tw_pnd j * g.1 (480 + 64 * a + 24 + j)) k105 + (tw_pnd k105 * g.1 (480 + 64 * a + 24 + k105) : Int32); rw [ev861, ev860, li111]) (by omega) (by omega)
        refine tw_lv [1, 2, 3, 4, 5, 6, 7, 0] rfl ?_
        exact L108 (5 + 1) 0 0 (rfl) (by omega) (by omega)
      · rw [q100r]
        refine tw_if_eq 74 dX10_ofCountryNow_37 (by decide) (fun c863 => absurd c863 (by decide)) (fun _ => ?_)
        refine tw_aload 7 dX10_ofCountryNow_40 rfl ?_
        have k864 : τ el97 = 28 := k98.resolve_left (fun q => absurd q100j (by rw [q.2.1]; exact Nat.not_lt_zero _))
        obtain ⟨e865, f866, ⟨F867, rfl, hc868, hc869⟩, un870⟩ := sp87.1 el97 28 k864 (by decide)
        obtain ⟨y871, hy872, ky873⟩ := hc869 j82 q100j
        refine tw_br (tw_callF (M := mX10_ofCountryNow) (pc := 42) (n9 := 0) (ci := 2) tw_next ok_itNext w_1421 w_1419 (fun s H z => z.2.2.2.2.2.2.2.2.2) (by decide +kernel) dX10_ofCountryNow_42 w_1416 rfl ft88 [] [] rfl rfl ⟨by decide, by decide⟩ (Nat.le_of_ble_eq_true rfl) (c_next d h86 it70 lh_12 el97 j82 (g.2 4) y871 l83 (g.1 4) F867 ft88 f96 f866 q100j hc868 hy872) 2 13 (Nat.le_of_ble_eq_true rfl) (Nat.le_of_ble_eq_true rfl)) (fun r876 h875 q874 => ?_) (fun E h1 q => q.elim)
        obtain ⟨q874r, q874e⟩ := q874
        rw [q874r]
        have sp877 : tw_sp d τ (tw_rm h75 it70) g τ h875 := by rw [q874e]; exact sp87.wl tw_rm_s zt89
        have id878 : g.2 (4096 + y871) = 960 + 32 * j82 := un870.2.2 _ _ F867 rfl j82 y871 q100j hy872
        have th879 : tw_th (h875 x) = tw_th (h x) := by rw [q874e, tw_up_n (tw_nk kx zt89 (by decide))] <;> exact th90
        have oq880 : h875 o = h o := by rw [q874e, tw_up_n (tw_nk ko zt89 (by decide))] <;> exact oq91
        have f881 : h875 it70 = some (.inr (2, [.int (nI (j82 + 1)), .int (nI j82), .int (g.1 4), .ref lh_12])) := by rw [q874e]; exact tw_up_s
        obtain ⟨e882, f883, x_884, y_885, dy_886, p_887, rfl, k888, k889, k890, k891⟩ := sp877.1 y871 23 ky873 (by decide)
        obtain ⟨j892, ow893, fd9, fa9, ft9, lp894⟩ := k891
        obtain rfl : j82 = j892 := by have z := ow893.b id878; omega
        subst fd9 fa9 ft9
        refine tw_castS (ci := 13) rfl dX10_ofCountryNow_47 w_1332 f883 ?_
        refine tw_astore [(8, .ref y871), (0, .ref x), (1, .int (nI a)), (2, .int (nI w)), (3, .ref r43), (4, .int x80), (5, .int 0), (6, .int 0), (7, .ref it70)] dX10_ofCountryNow_50 (by decide) rfl ?_
        refine tw_iload 5 dX10_ofCountryNow_52 rfl ?_
        refine tw_aload 0 dX10_ofCountryNow_54 rfl ?_
        refine tw_get (v := .int (g.1 (960 + 32 * j82 + 1))) rfl in_13 0 dX10_ofCountryNow_56 w_1338 rfl (by decide) f883 rfl ?_
        refine tw_iload_n 2 dX10_ofCountryNow_59 rfl rfl ?_
        refine tw_icmp_ne 67 dX10_ofCountryNow_60 (by decide) (fun c895 => ?_) (fun c895 => ?_)
        · have f49 : (if g.1 (960 + 32 * j82 + 1) = nI a then 1 else 0 : Int32) = 0 := if_neg c895
          refine tw_iconst (v := 0) dX10_ofCountryNow_67 (by decide) ?_
          refine tw_iadd dX10_ofCountryNow_68 ?_
          refine tw_nmi (fun v896 ev896 => ?_)
          refine tw_istore [(4, .int v896), (8, .ref y871), (0, .ref x), (1, .int (nI a)), (2, .int (nI w)), (3, .ref r43), (5, .int 0), (6, .int 0), (7, .ref it70)] dX10_ofCountryNow_69 (by decide) rfl ?_
          refine tw_goto 30 dX10_ofCountryNow_71 (by decide) ?_
          refine tw_lv [2, 3, 4, 5, 0, 6, 7, 8] rfl ?_
          exact ih84 ((j82 + 1)) (nI j82) v896 _ sp877 f881 zt89 th879 oq880 (by show v896 = tw_isum (fun j => if g.1 (960 + 32 * j + 1) = nI a then 1 else 0) j82 + (if g.1 (960 + 32 * j82 + 1) = nI a then 1 else 0 : Int32); rw [ev896, f49, li92]) (by omega) (by omega)
        · have f49 : (if g.1 (960 + 32 * j82 + 1) = nI a then 1 else 0 : Int32) = 1 := if_pos c895
          refine tw_iconst (v := 1) dX10_ofCountryNow_63 (by decide) ?_
          refine tw_goto 68 dX10_ofCountryNow_64 (by decide) ?_
          refine tw_iadd dX10_ofCountryNow_68 ?_
          refine tw_nmi (fun v897 ev897 => ?_)
          refine tw_istore [(4, .int v897), (8, .ref y871), (0, .ref x), (1, .int (nI a)), (2, .int (nI w)), (3, .ref r43), (5, .int 0), (6, .int 0), (7, .ref it70)] dX10_ofCountryNow_69 (by decide) rfl ?_
          refine tw_goto 30 dX10_ofCountryNow_71 (by decide) ?_
          refine tw_lv [2, 3, 4, 5, 0, 6, 7, 8] rfl ?_
          exact ih84 ((j82 + 1)) (nI j82) v897 _ sp877 f881 zt89 th879 oq880 (by show v897 = tw_isum (fun j => if g.1 (960 + 32 * j + 1) = nI a then 1 else 0) j82 + (if g.1 (960 + 32 * j82 + 1) = nI a then 1 else 0 : Int32); rw [ev897, f49, li92]) (by omega) (by omega)
  refine tw_lv [5, 6, 7, 4, 3, 2, 1, 0] rfl ?_
  exact L85 (g.2 4 + 1) 0 (-1) 0 _ (tw_sp.rm sp78.1 it70) f79 z74 th76 oq77 (rfl) (by omega) (Nat.zero_le _)

def tw_SQ (g : tw_G) : Prop := (∀ k, k < 2 → nI (tw_wM g k 0) + nI (tw_wM g k 1) + nI (tw_wM g k 2) + nI (tw_wM g k 3) + nI (tw_wM g k 4) = nI (tw_wM g k 5)) ∧ (∀ j, j < g.2 4 → g.1 (960 + 32 * j + 1) = -1 → nI (g.2 22) < g.1 (960 + 32 * j + 0)) ∧ (∀ j, j < g.2 3 → ∀ k, k < 5 → 0 ≤ g.1 (480 + 64 * j + 24 + k)) ∧ ∀ a b, a < 4 → b < 4 → g.1 (416 + 8 * a + b) = g.1 (416 + 8 * b + a) ∧ g.1 (448 + 8 * a + b) = g.1 (448 + 8 * b + a)
theorem tw_L_0 (n : Nat) (h : n ≤ 59000000) : ¬ lg_cmp (tw_L n) 0 < 0 := fun z => absurd z (by have y := (tw_cmp_ge (a := n) (b := 0) (by omega) (by decide)).mpr (Nat.zero_le _); exact Int32.not_lt.mpr y)
set_option maxHeartbeats 4000000 in
set_option maxRecDepth 100000 in
theorem c4_X10_isSoundNow (d : tw_D) (g : tw_G) (τ : tw_K) (h : tw_H) (hw : tw_wt d g τ h) (x : Nat) (kx : τ x = 36) (o : Nat) (ko : τ o = 12) (he : tw_AM 59000000 g) (he9 : tw_SQ g) : tw_Ct d mX10_isSoundNow 62 284 [.ref x] h (tw_qi (fun r h1 => tw_sp d τ h g τ h1 ∧ tw_th (h1 x) = tw_th (h x) ∧ h1 o = h o ∧ r = 1) tw_nx) := by
  refine tw_of (by decide +kernel) (Nat.le_of_ble_eq_true rfl) ?_
  show tw_W d mX10_isSoundNow _ 0 [(0, .ref x)] [] h 62 284
  have sp0 := tw_sp.rf hw
  have th0 : tw_th (h x) = tw_th (h x) := rfl
  have oq0 : h o = h o := rfl
  have b93 := tw_b3 hw kx
  have b94 := tw_b4 hw kx
  refine tw_iconst (v := 0) dX10_isSoundNow_0 (by decide) ?_
  refine tw_istore_n [(1, .int 0), (0, .ref x)] dX10_isSoundNow_1 rfl (by decide) rfl ?_
  have L4 : ∀ (r2 k1 : Nat) (h5 : tw_H) (sp6 : tw_sp d τ h g τ h5) (li7 : tw_th (h5 x) = tw_th (h x) ∧ h5 o = h o), 2 + 1 ≤ k1 + r2 → k1 ≤ 2 → tw_W d mX10_isSoundNow (tw_qi (fun r h1 => tw_sp d τ h g τ h1 ∧ tw_th (h1 x) = tw_th (h x) ∧ h1 o = h o ∧ r = 1) tw_nx) 2 [(0, .ref x), (1, .int (nI k1))] [] h5 (2 + 20 * r2) (8 + 92 * r2) := by
    intro r2
    induction r2 with
    | zero => intro k1 h5 sp6 li7 hk8 hk9; exact absurd hk8 (by omega)
    | succ r2 ih3 =>
      intro k1 h5 sp6 li7 hk8 hk9
      refine tw_iload_n 1 dX10_isSoundNow_2 rfl rfl ?_
      refine tw_iconst (v := 2) dX10_isSoundNow_3 (by decide) ?_
      refine tw_icmp_ge 163 dX10_isSoundNow_4 (by decide) (fun c10 => ?_) (fun c10 => ?_)
      · refine tw_aload_n 0 dX10_isSoundNow_163 rfl rfl ?_
        obtain ⟨e11, f12, th_13, td_14, ds_15, fr_16, ca_17, us_18, wo_19, cm_20, lc_21, lh_22, ld_23, rfl, k24, k25, k26, k27, k28, k29, k30, k31, k32, k33, k34, k35, k36, k37, k38, k39, k40, k41, k42, k43, k44, k45⟩ := sp6.1 x 36 kx (by decide)
        refine tw_get (v := .ref lc_21) rfl in_14 9 dX10_isSoundNow_164 w_1160 rfl (by decide) f12 rfl ?_
        obtain ⟨e46, f47, ⟨el48, rfl, k49⟩, k50⟩ := sp6.1 lc_21 24 k30 (by decide)
        refine tw_br (tw_callV (M := mX10_isSoundNow) (pc := 167) okJx4a65c_iterator_32c93 dX10_isSoundNow_167 w_1382 rfl f47 [] [] rfl rfl ⟨by decide, by decide⟩ (Nat.le_of_ble_eq_true rfl) (c_iterator d h5 lc_21 el48 (g.1 3) (nI (g.2 3)) f47) ((2 + 20 * (r2 + 1)) - 1) ((8 + 92 * (r2 + 1)) - 4) (by omega) (by omega)) (fun it51 h52 q53 => ?_) (fun E h1 q => q.elim)
        obtain ⟨q53n, q53e⟩ := q53
        rw [q53e]
        have n54 := sp6.nn q53n
        have z55 := sp6.1.none q53n
        obtain ⟨h56, eh56⟩ : ∃ z : tw_H, z = tw_up h5 it51 (.inr (2, [.int 0, .int (-1), .int (g.1 3), .ref lc_21])) := ⟨_, rfl⟩
        rw [← eh56]
        have th57 : tw_th (h56 x) = tw_th (h x) := by rw [eh56, tw_up_n (tw_kF sp6.1 kx (by decide) q53n)] <;> exact li7.1
        have oq58 : h56 o = h o := by rw [eh56, tw_up_n (tw_kF sp6.1 ko (by decide) q53n)] <;> exact li7.2
        have sp59 : tw_sp d τ h g τ h56 := by rw [eh56]; exact sp6.mk q53n
        have f60 : h56 it51 = some (.inr (2, [.int 0, .int (-1), .int (g.1 3), .ref lc_21])) := by rw [eh56]; exact tw_up_s
        refine tw_astore_n [(1, .ref it51), (0, .ref x)] dX10_isSoundNow_170 rfl (by decide) rfl ?_
        have L65 : ∀ (r61 j62 : Nat) (l63 : Int32) (h66 : tw_H) (sp67 : tw_sp d τ (tw_rm h56 it51) g τ h66) (ft68 : h66 it51 = some (.inr (2, [.int (nI j62), .int l63, .int (g.1 3), .ref lc_21]))) (zt69 : τ it51 = 0) (th70 : tw_th (h66 x) = tw_th (h x)) (oq71 : h66 o = h o), g.2 3 + 1 ≤ j62 + r61 → j62 ≤ g.2 3 → tw_W d mX10_isSoundNow (tw_qi (fun r h1 => tw_sp d τ h g τ h1 ∧ tw_th (h1 x) = tw_th (h x) ∧ h1 o = h o ∧ r = 1) tw_nx) 171 [(0, .ref x), (1, .ref it51)] [] h66 ((2 + 20 * (r2 + 1)) - 1) ((8 + 92 * (r2 + 1)) - 4) := by
          intro r61
          induction r61 with
          | zero => intro j62 l63 h66 sp67 ft68 zt69 th70 oq71 hk72 hk73; exact absurd hk72 (by omega)
          | succ r61 ih64 =>
            intro j62 l63 h66 sp67 ft68 zt69 th70 oq71 hk72 hk73
            refine tw_aload_n 1 dX10_isSoundNow_171 rfl rfl ?_
            obtain ⟨e74, f75, ⟨el76, rfl, k77⟩, k78⟩ := sp67.1 lc_21 24 k30 (by decide)
            refine tw_bi (tw_callF (M := mX10_isSoundNow) (pc := 172) (n9 := 0) (ci := 2) tw_hasNext ok_itHas w_1412 w_1410 (fun s H z => z.2.2.2.2.2.2.2.2.1) (by decide +kernel) dX10_isSoundNow_172 w_1406 rfl ft68 [] [] rfl rfl ⟨by decide, by decide⟩ (Nat.le_of_ble_eq_true rfl) (c_hasNext d h66 it51 lc_21 el76 j62 (g.2 3) l63 (g.1 3) (g.1 3) ft68 f75 (by omega) (tw_lim24 sp67.1 k30)) ((2 + 20 * (r2 + 1)) - 1) ((8 + 92 * (r2 + 1)) - 4) (by omega) (by omega)) (fun r81 h80 q79 => ?_) (fun E h1 q => q.elim)
            obtain ⟨q79e, q79q⟩ := q79
            rw [q79e]
            rcases q79q with ⟨q79r, q79j⟩ | ⟨q79r, q79j⟩
            · rw [q79r]
              refine tw_if_eq 231 dX10_isSoundNow_177 (by decide) (fun _ => ?_) (fun c82 => absurd (by decide) c82)
              refine tw_iconst (v := 0) dX10_isSoundNow_231 (by decide) ?_
              refine tw_istore_n [(1, .int 0), (0, .ref x)] dX10_isSoundNow_232 rfl (by decide) rfl ?_
              have L86 : ∀ (r84 k83 : Nat), 4 + 1 ≤ k83 + r84 → k83 ≤ 4 → tw_W d mX10_isSoundNow (tw_qi (fun r h1 => tw_sp d τ h g τ h1 ∧ tw_th (h1 x) = tw_th (h x) ∧ h1 o = h o ∧ r = 1) tw_nx) 233 [(0, .ref x), (1, .int (nI k83))] [] h66 ((2 + 20 * (r2 + 1)) - 1) ((8 + 92 * (r2 + 1)) - 4) := by
                intro r84
                induction r84 with
                | zero => intro k83  hk90 hk91; exact absurd hk90 (by omega)
                | succ r84 ih85 =>
                  intro k83  hk90 hk91
                  refine tw_iload_n 1 dX10_isSoundNow_233 rfl rfl ?_
                  refine tw_iconst (v := 4) dX10_isSoundNow_234 (by decide) ?_
                  refine tw_icmp_ge 297 dX10_isSoundNow_235 (by decide) (fun c92 => ?_) (fun c92 => ?_)
                  · refine tw_iconst (v := 1) dX10_isSoundNow_297 (by decide) ?_
                    exact tw_zret dX10_isSoundNow_298 rfl rfl (Or.inl ⟨_, rfl, (sp0.tr (sp59.trm n54 sp67)), th70, oq71, rfl⟩)
                  · have kl93 := tw_klt (N := 4) c92 hk91 (by decide)
                    refine tw_iconst (v := 0) dX10_isSoundNow_238 (by decide) ?_
                    refine tw_istore_n [(2, .int 0), (0, .ref x), (1, .int (nI k83))] dX10_isSoundNow_239 rfl (by decide) rfl ?_
                    have L97 : ∀ (r95 k94 : Nat), 4 + 1 ≤ k94 + r95 → k94 ≤ 4 → tw_W d mX10_isSoundNow (tw_qi (fun r h1 => tw_sp d τ h g τ h1 ∧ tw_th (h1 x) = tw_th (h x) ∧ h1 o = h o ∧ r = 1) tw_nx) 240 [(0, .ref x), (1, .int (nI k83)), (2, .int (nI k94))] [] h66 ((2 + 20 * (r2 + 1)) - 1) ((8 + 92 * (r2 + 1)) - 4) := by
                      intro r95
                      induction r95 with
                      | zero => intro k94  hk101 hk102; exact absurd hk101 (by omega)
                      | succ r95 ih96 =>
                        intro k94  hk101 hk102
                        refine tw_iload_n 2 dX10_isSoundNow_240 rfl rfl ?_
                        refine tw_iconst (v := 4) dX10_isSoundNow_241 (by decide) ?_
                        refine tw_icmp_ge 291 dX10_isSoundNow_242 (by decide) (fun c103 => ?_) (fun c103 => ?_)
                        · obtain ⟨v104, ev104⟩ : ∃ y : Int32, y = (nI k83) + 1 := ⟨_, rfl⟩
                          refine tw_iinc [(1, .int v104), (0, .ref x), (2, .int (nI k94))] 1 dX10_isSoundNow_291 rfl (by rw [ev104]; rfl) (by decide) rfl ?_
                          refine tw_goto 233 dX10_isSoundNow_294 (by decide) ?_
                          have qv104 := tw_nI3 ev104
                          rw [qv104]
                          refine tw_lv [1, 0] rfl ?_
                          exact ih85 (k83 + 1)  (by omega) (by omega)
                        · have kl105 := tw_klt (N := 4) c103 hk102 (by decide)
                          refine tw_aload_n 0 dX10_isSoundNow_245 rfl rfl ?_
                          obtain ⟨e106, f107, th_108, td_109, ds_110, fr_111, ca_112, us_113, wo_114, cm_115, lc_116, lh_117, ld_118, rfl, k119, k120, k121, k122, k123, k124, k125, k126, k127, k128, k129, k130, k131, k132, k133, k134, k135, k136, k137, k138, k139, k140⟩ := sp67.1 x 36 kx (by decide)
                          refine tw_get (v := .ref ds_110) rfl in_14 3 dX10_isSoundNow_246 w_1154 rfl (by decide) f107 rfl ?_
                          refine tw_iload_n 1 dX10_isSoundNow_249 rfl rfl ?_
                          obtain ⟨e143, f144, F141, rfl, k142⟩ := sp67.1 ds_110 34 k119 (by decide)
                          obtain ⟨q145, k146, k147, iq148⟩ := k142 ((nI k83)).toNatClampNeg (by rw [nI_clamp (by omega)]; omega)
                          refine tw_aald (v := .ref q145) 8 rfl rfl dX10_isSoundNow_250 f144 (vp_in_nI (by omega) (by decide)) (by rw [k146]; rfl) ?_
                          have id149 : g.2 (4096 + q145) = 416 + 8 * k83 := by have z := iq148; rw [nI_clamp (by omega), k135] at z; exact z
                          refine tw_iload_n 2 dX10_isSoundNow_251 rfl rfl ?_
                          obtain ⟨e150, f151, F152, rfl, ⟨b154, ow155, wv156⟩⟩ := sp67.1 q145 6 k147 (by decide)
                          obtain rfl : b154 = (416 + 8 * k83) := ow155.b id149
                          have ev157 : F152 ((nI k94)).toNatClampNeg = (g.1 ((416 + 8 * k83) + k94)) := by rw [nI_clamp (by omega)]; exact wv156 k94 (by omega)
                          refine tw_iald (v := (g.1 ((416 + 8 * k83) + k94))) dX10_isSoundNow_252 f151 (vp_in_nI (by omega) (by decide)) ev157 ?_
                          refine tw_aload_n 0 dX10_isSoundNow_253 rfl rfl ?_
                          refine tw_get (v := .ref ds_110) rfl in_14 3 dX10_isSoundNow_254 w_1154 rfl (by decide) f107 rfl ?_
                          refine tw_iload_n 2 dX10_isSoundNow_257 rfl rfl ?_
                          obtain ⟨q158, k159, k160, iq161⟩ := k142 ((nI k94)).toNatClampNeg (by rw [nI_clamp (by omega)]; omega)
                          refine tw_aald (v := .ref q158) 8 rfl rfl dX10_isSoundNow_258 f144 (vp_in_nI (by omega) (by decide)) (by rw [k159]; rfl) ?_
                          have id162 : g.2 (4096 + q158) = 416 + 8 * k94 := by have z := iq161; rw [nI_clamp (by omega), k135] at z; exact z
                          refine tw_iload_n 1 dX10_isSoundNow_259 rfl rfl ?_
                          obtain ⟨e163, f164, F165, rfl, ⟨b167, ow168, wv169⟩⟩ := sp67.1 q158 6 k160 (by decide)
                          obtain rfl : b167 = (416 + 8 * k94) := ow168.b id162
                          have ev170 : F165 ((nI k83)).toNatClampNeg = (g.1 ((416 + 8 * k94) + k83)) := by rw [nI_clamp (by omega)]; exact wv169 k83 (by omega)
                          refine tw_iald (v := (g.1 ((416 + 8 * k94) + k83))) dX10_isSoundNow_260 f164 (vp_in_nI (by omega) (by decide)) ev170 ?_
                          refine tw_icmp_ne 283 dX10_isSoundNow_261 (by decide) (fun c171 => absurd ((by exact (he9.2.2.2 k83 k94 kl93 kl105).1)) c171) (fun _ => ?_)
                          refine tw_aload_n 0 dX10_isSoundNow_264 rfl rfl ?_
                          refine tw_get (v := .ref fr_111) rfl in_14 4 dX10_isSoundNow_265 w_1155 rfl (by decide) f107 rfl ?_
                          refine tw_iload_n 1 dX10_isSoundNow_268 rfl rfl ?_
                          obtain ⟨e174, f175, F172, rfl, k173⟩ := sp67.1 fr_111 34 k120 (by decide)
                          obtain ⟨q176, k177, k178, iq179⟩ := k173 ((nI k83)).toNatClampNeg (by rw [nI_clamp (by omega)]; omega)
                          refine tw_aald (v := .ref q176) 8 rfl rfl dX10_isSoundNow_269 f175 (vp_in_nI (by omega) (by decide)) (by rw [k177]; rfl) ?_
                          have id180 : g.2 (4096 + q176) = 448 + 8 * k83 := by have z := iq179; rw [nI_clamp (by omega), k136] at z; exact z
                          refine tw_iload_n 2 dX10_isSoundNow_270 rfl rfl ?_
                          obtain ⟨e181, f182, F183, rfl, ⟨b185, ow186, wv187⟩⟩ := sp67.1 q176 6 k178 (by decide)
                          obtain rfl : b185 = (448 + 8 * k83) := ow186.b id180
                          have ev188 : F183 ((nI k94)).toNatClampNeg = (g.1 ((448 + 8 * k83) + k94)) := by rw [nI_clamp (by omega)]; exact wv187 k94 (by omega)
                          refine tw_iald (v := (g.1 ((448 + 8 * k83) + k94))) dX10_isSoundNow_271 f182 (vp_in_nI (by omega) (by decide)) ev188 ?_
                          refine tw_aload_n 0 dX10_isSoundNow_272 rfl rfl ?_
                          refine tw_get (v := .ref fr_111) rfl in_14 4 dX10_isSoundNow_273 w_1155 rfl (by decide) f107 rfl ?_
                          refine tw_iload_n 2 dX10_isSoundNow_276 rfl rfl ?_
                          obtain ⟨q189, k190, k191, iq192⟩ := k173 ((nI k94)).toNatClampNeg (by rw [nI_clamp (by omega)]; omega)
                          refine tw_aald (v := .ref q189) 8 rfl rfl dX10_isSoundNow_277 f175 (vp_in_nI (by omega) (by decide)) (by rw [k190]; rfl) ?_
                          have id193 : g.2 (4096 + q189) = 448 + 8 * k94 := by have z := iq192; rw [nI_clamp (by omega), k136] at z; exact z
                          refine tw_iload_n 1 dX10_isSoundNow_278 rfl rfl ?_
                          obtain ⟨e194, f195, F196, rfl, ⟨b198, ow199, wv200⟩⟩ := sp67.1 q189 6 k191 (by decide)
                          obtain rfl : b198 = (448 + 8 * k94) := ow199.b id193
                          have ev201 : F196 ((nI k83)).toNatClampNeg = (g.1 ((448 + 8 * k94) + k83)) := by rw [nI_clamp (by omega)]; exact wv200 k83 (by omega)
                          refine tw_iald (v := (g.1 ((448 + 8 * k94) + k83))) dX10_isSoundNow_279 f195 (vp_in_nI (by omega) (by decide)) ev201 ?_
                          refine tw_icmp_eq 285 dX10_isSoundNow_280 (by decide) (fun _ => ?_) (fun c202 => absurd ((by exact (he9.2.2.2 k83 k94 kl93 kl105).2)) c202)
                          obtain ⟨v203, ev203⟩ : ∃ y : Int32, y = (nI k94) + 1 := ⟨_, rfl⟩
                          refine tw_iinc [(2, .int v203), (0, .ref x), (1, .int (nI k83))] 2 dX10_isSoundNow_285 rfl (by rw [ev203]; rfl) (by decide) rfl ?_
                          refine tw_goto 240 dX10_isSoundNow_288 (by decide) ?_
                          have qv203 := tw_nI3 ev203
                          rw [qv203]
                          refine tw_lv [1, 2, 0] rfl ?_
                          exact ih96 (k94 + 1)  (by omega) (by omega)
                    refine tw_lv [1, 2, 0] rfl ?_
                    exact L97 (4 + 1) 0  (by omega) (by omega)
              refine tw_lv [1, 0] rfl ?_
              exact L86 (4 + 1) 0  (by omega) (by omega)
            · rw [q79r]
              refine tw_if_eq 231 dX10_isSoundNow_177 (by decide) (fun c204 => absurd c204 (by decide)) (fun _ => ?_)
              refine tw_aload_n 1 dX10_isSoundNow_180 rfl rfl ?_
              have k205 : τ el76 = 27 := k77.resolve_left (fun q => absurd q79j (by rw [q.2.1]; exact Nat.not_lt_zero _))
              obtain ⟨e206, f207, ⟨F208, rfl, hc209, hc210⟩, un211⟩ := sp67.1 el76 27 k205 (by decide)
              obtain ⟨y212, hy213, ky214⟩ := hc210 j62 q79j
              refine tw_br (tw_callF (M := mX10_isSoundNow) (pc := 181) (n9 := 0) (ci := 2) tw_next ok_itNext w_1421 w_1419 (fun s H z => z.2.2.2.2.2.2.2.2.2) (by decide +kernel) dX10_isSoundNow_181 w_1416 rfl ft68 [] [] rfl rfl ⟨by decide, by decide⟩ (Nat.le_of_ble_eq_true rfl) (c_next d h66 it51 lc_21 el76 j62 (g.2 3) y212 l63 (g.1 3) F208 ft68 f75 f207 q79j hc209 hy213) ((2 + 20 * (r2 + 1)) - 1) ((8 + 92 * (r2 + 1)) - 4) (by omega) (by omega)) (fun r217 h216 q215 => ?_) (fun E h1 q => q.elim)
              obtain ⟨q215r, q215e⟩ := q215
              rw [q215r]
              have sp218 : tw_sp d τ (tw_rm h56 it51) g τ h216 := by rw [q215e]; exact sp67.wl tw_rm_s zt69
              have id219 : g.2 (4096 + y212) = 480 + 64 * j62 := un211.2.2 _ _ F208 rfl j62 y212 q79j hy213
              have th220 : tw_th (h216 x) = tw_th (h x) := by rw [q215e, tw_up_n (tw_nk kx zt69 (by decide))] <;> exact th70
              have oq221 : h216 o = h o := by rw [q215e, tw_up_n (tw_nk ko zt69 (by decide))] <;> exact oq71
              have f222 : h216 it51 = some (.inr (2, [.int (nI (j62 + 1)), .int (nI j62), .int (g.1 3), .ref lc_21])) := by rw [q215e]; exact tw_up_s
              obtain ⟨e223, f224, r_225, c_226, v_227, o_228, t_229, rfl, k230, k231, k232, k233, k234, k235⟩ := sp218.1 y212 21 ky214 (by decide)
              obtain ⟨j236, ow237, fr9, fc9, q238, q239, q240⟩ := k235
              obtain rfl : j62 = j236 := by have z := ow237.b id219; omega
              subst fr9 fc9
              refine tw_castS (ci := 11) rfl dX10_isSoundNow_186 w_1208 f224 ?_
              refine tw_astore_n [(2, .ref y212), (0, .ref x), (1, .ref it51)] dX10_isSoundNow_189 rfl (by decide) rfl ?_
              refine tw_aload_n 0 dX10_isSoundNow_190 rfl rfl ?_
              refine tw_get (v := .ref t_229) rfl in_11 4 dX10_isSoundNow_191 w_1221 rfl (by decide) f224 rfl ?_
              refine tw_astore_n [(3, .ref t_229), (2, .ref y212), (0, .ref x), (1, .ref it51)] dX10_isSoundNow_194 rfl (by decide) rfl ?_
              refine tw_aload_n 0 dX10_isSoundNow_195 rfl rfl ?_
              obtain ⟨e241, f242, F243, rfl, k245, ⟨b246, ow247, wv248⟩⟩ := sp218.1 t_229 33 k232 (by decide)
              obtain rfl : b246 = (480 + 64 * j62 + 24) := ow247.b q239
              refine tw_alen (v := nI 5) 0 rfl dX10_isSoundNow_196 f242 rfl ?_
              refine tw_istore [(4, .int (nI 5)), (3, .ref t_229), (2, .ref y212), (0, .ref x), (1, .ref it51)] dX10_isSoundNow_197 (by decide) rfl ?_
              refine tw_iconst (v := 0) dX10_isSoundNow_199 (by decide) ?_
              refine tw_istore [(5, .int 0), (4, .int (nI 5)), (3, .ref t_229), (2, .ref y212), (0, .ref x), (1, .ref it51)] dX10_isSoundNow_200 (by decide) rfl ?_
              have L252 : ∀ (r250 k249 : Nat), 5 + 1 ≤ k249 + r250 → k249 ≤ 5 → tw_W d mX10_isSoundNow (tw_qi (fun r h1 => tw_sp d τ h g τ h1 ∧ tw_th (h1 x) = tw_th (h x) ∧ h1 o = h o ∧ r = 1) tw_nx) 202 [(0, .ref x), (1, .ref it51), (2, .ref y212), (3, .ref t_229), (4, .int (nI 5)), (5, .int (nI k249))] [] h216 ((2 + 20 * (r2 + 1)) - 1) ((8 + 92 * (r2 + 1)) - 4) := by
                intro r250
                induction r250 with
                | zero => intro k249  hk256 hk257; exact absurd hk256 (by omega)
                | succ r250 ih251 =>
                  intro k249  hk256 hk257
                  refine tw_iload 5 dX10_isSoundNow_202 rfl ?_
                  refine tw_iload 4 dX10_isSoundNow_204 rfl ?_
                  refine tw_icmp_ge 228 dX10_isSoundNow_206 (by decide) (fun c258 => ?_) (fun c258 => ?_)
                  · refine tw_goto 171 dX10_isSoundNow_228 (by decide) ?_
                    refine tw_lv [0, 1] rfl ?_
                    exact ih64 ((j62 + 1)) (nI j62)  _ sp218 f222 zt69 th220 oq221 (by omega) (by omega)
                  · have kl259 := tw_klt (N := 5) c258 hk257 (by decide)
                    refine tw_aload_n 3 dX10_isSoundNow_209 rfl rfl ?_
                    refine tw_iload 5 dX10_isSoundNow_210 rfl ?_
                    have ev260 : F243 ((nI k249)).toNatClampNeg = (g.1 ((480 + 64 * j62 + 24) + k249)) := by rw [nI_clamp (by omega)]; exact wv248 k249 (by omega)
                    refine tw_iald (v := (g.1 ((480 + 64 * j62 + 24) + k249))) dX10_isSoundNow_212 f242 (vp_in_nI (by omega) (by decide)) ev260 ?_
                    refine tw_istore [(6, .int (g.1 ((480 + 64 * j62 + 24) + k249))), (0, .ref x), (1, .ref it51), (2, .ref y212), (3, .ref t_229), (4, .int (nI 5)), (5, .int (nI k249))] dX10_isSoundNow_213 (by decide) rfl ?_
                    refine tw_iload 0 dX10_isSoundNow_215 rfl ?_
                    refine tw_if_ge 222 dX10_isSoundNow_217 (by decide) (fun _ => ?_) (fun c261 => absurd ((by exact he9.2.2.1 j62 (by omega) k249 (by omega))) c261)
                    obtain ⟨v262, ev262⟩ : ∃ y : Int32, y = (nI k249) + 1 := ⟨_, rfl⟩
                    refine tw_iinc [(5, .int v262), (6, .int (g.1 ((480 + 64 * j62 + 24) + k249))), (0, .ref x), (1, .ref it51), (2, .ref y212), (3, .ref t_229), (4, .int (nI 5))] 6 dX10_isSoundNow_222 rfl (by rw [ev262]; rfl) (by decide) rfl ?_
                    refine tw_goto 202 dX10_isSoundNow_225 (by decide) ?_
                    have qv262 := tw_nI3 ev262
                    rw [qv262]
                    refine tw_lv [2, 3, 4, 5, 6, 0] rfl ?_
                    exact ih251 (k249 + 1)  (by omega) (by omega)
              refine tw_lv [4, 5, 3, 2, 1, 0] rfl ?_
              exact L252 (5 + 1) 0  (by omega) (by omega)
        refine tw_lv [1, 0] rfl ?_
        exact L65 (g.2 3 + 1) 0 (-1)  _ (tw_sp.rm sp59.1 it51) f60 z55 th57 oq58 (by omega) (Nat.zero_le _)
      · have kl263 := tw_klt (N := 2) c10 hk9 (by decide)
        refine tw_aload_n 0 dX10_isSoundNow_7 rfl rfl ?_
        refine tw_iload_n 1 dX10_isSoundNow_8 rfl rfl ?_
        refine tw_iconst (v := 0) dX10_isSoundNow_9 (by decide) ?_
        obtain ⟨e267, f268, th_269, td_270, ds_271, fr_272, ca_273, us_274, wo_275, cm_276, lc_277, lh_278, ld_279, rfl, k280, k281, k282, k283, k284, k285, k286, k287, k288, k289, k290, k291, k292, k293, k294, k295, k296, k297, k298, k299, k300, k301⟩ := sp6.1 x 36 kx (by decide)
        refine tw_bi (tw_callV (M := mX10_isSoundNow) (pc := 10) okX10_worldNow dX10_isSoundNow_10 w_1533 rfl f268 [.int (nI k1), .int 0] [] rfl rfl ⟨by decide, by decide⟩ (Nat.le_of_ble_eq_true rfl) (c4_X10_worldNow d g τ h5 sp6.1 x kx k1 kl263 0 (by decide) o ko he) ((2 + 20 * (r2 + 1)) - 3) ((8 + 92 * (r2 + 1)) - 14) (by omega) (by omega)) (fun r266 h265 q264 => ?_) (fun E h1 q => q.elim)
        obtain ⟨q264s, q264t, q264o, q264v⟩ := q264
        have sp302 := sp6.tr q264s
        have th303 := q264t.trans li7.1
        have oq304 := q264o.trans li7.2
        refine tw_aload_n 0 dX10_isSoundNow_13 rfl rfl ?_
        refine tw_iload_n 1 dX10_isSoundNow_14 rfl rfl ?_
        refine tw_iconst (v := 1) dX10_isSoundNow_15 (by decide) ?_
        obtain ⟨e308, f309, th_310, td_311, ds_312, fr_313, ca_314, us_315, wo_316, cm_317, lc_318, lh_319, ld_320, rfl, k321, k322, k323, k324, k325, k326, k327, k328, k329, k330, k331, k332, k333, k334, k335, k336, k337, k338, k339, k340, k341, k342⟩ := sp302.1 x 36 kx (by decide)
        refine tw_bi (tw_callV (M := mX10_isSoundNow) (pc := 16) okX10_worldNow dX10_isSoundNow_16 w_1533 rfl f309 [.int (nI k1), .int 1] [.int r266] rfl rfl ⟨by decide, by decide⟩ (Nat.le_of_ble_eq_true rfl) (c4_X10_worldNow d g τ h265 sp302.1 x kx k1 kl263 1 (by decide) o ko he) (((2 + 20 * (r2 + 1)) - 3) - 3) (((8 + 92 * (r2 + 1)) - 14) - 14) (by omega) (by omega)) (fun r307 h306 q305 => ?_) (fun E h1 q => q.elim)
        obtain ⟨q305s, q305t, q305o, q305v⟩ := q305
        have sp343 := sp302.tr q305s
        have th344 := q305t.trans th303
        have oq345 := q305o.trans oq304
        refine tw_iadd dX10_isSoundNow_19 ?_
        refine tw_nmi (fun v346 ev346 => ?_)
        refine tw_aload_n 0 dX10_isSoundNow_20 rfl rfl ?_
        refine tw_iload_n 1 dX10_isSoundNow_21 rfl rfl ?_
        refine tw_iconst (v := 2) dX10_isSoundNow_22 (by decide) ?_
        obtain ⟨e350, f351, th_352, td_353, ds_354, fr_355, ca_356, us_357, wo_358, cm_359, lc_360, lh_361, ld_362, rfl, k363, k364, k365, k366, k367, k368, k369, k370, k371, k372, k373, k374, k375, k376, k377, k378, k379, k380, k381, k382, k383, k384⟩ := sp343.1 x 36 kx (by decide)
        refine tw_bi (tw_callV (M := mX10_isSoundNow) (pc := 23) okX10_worldNow dX10_isSoundNow_23 w_1533 rfl f351 [.int (nI k1), .int 2] [.int v346] rfl rfl ⟨by decide, by decide⟩ (Nat.le_of_ble_eq_true rfl) (c4_X10_worldNow d g τ h306 sp343.1 x kx k1 kl263 2 (by decide) o ko he) ((((2 + 20 * (r2 + 1)) - 3) - 3) - 3) ((((8 + 92 * (r2 + 1)) - 14) - 14) - 14) (by omega) (by omega)) (fun r349 h348 q347 => ?_) (fun E h1 q => q.elim)
        obtain ⟨q347s, q347t, q347o, q347v⟩ := q347
        have sp385 := sp343.tr q347s
        have th386 := q347t.trans th344
        have oq387 := q347o.trans oq345
        refine tw_iadd dX10_isSoundNow_26 ?_
        refine tw_nmi (fun v388 ev388 => ?_)
        refine tw_aload_n 0 dX10_isSoundNow_27 rfl rfl ?_
        refine tw_iload_n 1 dX10_isSoundNow_28 rfl rfl ?_
        refine tw_iconst (v := 3) dX10_isSoundNow_29 (by decide) ?_
        obtain ⟨e392, f393, th_394, td_395, ds_396, fr_397, ca_398, us_399, wo_400, cm_401, lc_402, lh_403, ld_404, rfl, k405, k406, k407, k408, k409, k410, k411, k412, k413, k414, k415, k416, k417, k418, k419, k420, k421, k422, k423, k424, k425, k426⟩ := sp385.1 x 36 kx (by decide)
        refine tw_bi (tw_callV (M := mX10_isSoundNow) (pc := 30) okX10_worldNow dX10_isSoundNow_30 w_1533 rfl f393 [.int (nI k1), .int 3] [.int v388] rfl rfl ⟨by decide, by decide⟩ (Nat.le_of_ble_eq_true rfl) (c4_X10_worldNow d g τ h348 sp385.1 x kx k1 kl263 3 (by decide) o ko he) (((((2 + 20 * (r2 + 1)) - 3) - 3) - 3) - 3) (((((8 + 92 * (r2 + 1)) - 14) - 14) - 14) - 14) (by omega) (by omega)) (fun r391 h390 q389 => ?_) (fun E h1 q => q.elim)
        obtain ⟨q389s, q389t, q389o, q389v⟩ := q389
        have sp427 := sp385.tr q389s
        have th428 := q389t.trans th386
        have oq429 := q389o.trans oq387
        refine tw_iadd dX10_isSoundNow_33 ?_
        refine tw_nmi (fun v430 ev430 => ?_)
        refine tw_aload_n 0 dX10_isSoundNow_34 rfl rfl ?_
        refine tw_iload_n 1 dX10_isSoundNow_35 rfl rfl ?_
        refine tw_iconst (v := 4) dX10_isSoundNow_36 (by decide) ?_
        obtain ⟨e434, f435, th_436, td_437, ds_438, fr_439, ca_440, us_441, wo_442, cm_443, lc_444, lh_445, ld_446, rfl, k447, k448, k449, k450, k451, k452, k453, k454, k455, k456, k457, k458, k459, k460, k461, k462, k463, k464, k465, k466, k467, k468⟩ := sp427.1 x 36 kx (by decide)
        refine tw_bi (tw_callV (M := mX10_isSoundNow) (pc := 37) okX10_worldNow dX10_isSoundNow_37 w_1533 rfl f435 [.int (nI k1), .int 4] [.int v430] rfl rfl ⟨by decide, by decide⟩ (Nat.le_of_ble_eq_true rfl) (c4_X10_worldNow d g τ h390 sp427.1 x kx k1 kl263 4 (by decide) o ko he) ((((((2 + 20 * (r2 + 1)) - 3) - 3) - 3) - 3) - 3) ((((((8 + 92 * (r2 + 1)) - 14) - 14) - 14) - 14) - 14) (by omega) (by omega)) (fun r433 h432 q431 => ?_) (fun E h1 q => q.elim)
        obtain ⟨q431s, q431t, q431o, q431v⟩ := q431
        have sp469 := sp427.tr q431s
        have th470 := q431t.trans th428
        have oq471 := q431o.trans oq429
        refine tw_iadd dX10_isSoundNow_40 ?_
        refine tw_nmi (fun v472 ev472 => ?_)
        refine tw_aload_n 0 dX10_isSoundNow_41 rfl rfl ?_
        refine tw_iload_n 1 dX10_isSoundNow_42 rfl rfl ?_
        refine tw_iconst (v := 5) dX10_isSoundNow_43 (by decide) ?_
        obtain ⟨e476, f477, th_478, td_479, ds_480, fr_481, ca_482, us_483, wo_484, cm_485, lc_486, lh_487, ld_488, rfl, k489, k490, k491, k492, k493, k494, k495, k496, k497, k498, k499, k500, k501, k502, k503, k504, k505, k506, k507, k508, k509, k510⟩ := sp469.1 x 36 kx (by decide)
        refine tw_bi (tw_callV (M := mX10_isSoundNow) (pc := 44) okX10_worldNow dX10_isSoundNow_44 w_1533 rfl f477 [.int (nI k1), .int 5] [.int v472] rfl rfl ⟨by decide, by decide⟩ (Nat.le_of_ble_eq_true rfl) (c4_X10_worldNow d g τ h432 sp469.1 x kx k1 kl263 5 (by decide) o ko he) (((((((2 + 20 * (r2 + 1)) - 3) - 3) - 3) - 3) - 3) - 3) (((((((8 + 92 * (r2 + 1)) - 14) - 14) - 14) - 14) - 14) - 14) (by omega) (by omega)) (fun r475 h474 q473 => ?_) (fun E h1 q => q.elim)
        obtain ⟨q473s, q473t, q473o, q473v⟩ := q473
        have sp511 := sp469.tr q473s
        have th512 := q473t.trans th470
        have oq513 := q473o.trans oq471
        refine tw_icmp_eq 52 dX10_isSoundNow_47 (by decide) (fun _ => ?_) (fun c514 => absurd ((by rw [ev472, ev430, ev388, ev346, q264v, q305v, q347v, q389v, q431v, q473v]; exact he9.1 k1 kl263)) c514)
        refine tw_aload_n 0 dX10_isSoundNow_52 rfl rfl ?_
        obtain ⟨e515, f516, th_517, td_518, ds_519, fr_520, ca_521, us_522, wo_523, cm_524, lc_525, lh_526, ld_527, rfl, k528, k529, k530, k531, k532, k533, k534, k535, k536, k537, k538, k539, k540, k541, k542, k543, k544, k545, k546, k547, k548, k549⟩ := sp511.1 x 36 kx (by decide)
        refine tw_get (v := .ref lc_525) rfl in_14 9 dX10_isSoundNow_53 w_1160 rfl (by decide) f516 rfl ?_
        obtain ⟨e550, f551, ⟨el552, rfl, k553⟩, k554⟩ := sp511.1 lc_525 24 k534 (by decide)
        refine tw_br (tw_callV (M := mX10_isSoundNow) (pc := 56) okJx4a65c_iterator_32c93 dX10_isSoundNow_56 w_1382 rfl f551 [] [] rfl rfl ⟨by decide, by decide⟩ (Nat.le_of_ble_eq_true rfl) (c_iterator d h474 lc_525 el552 (g.1 3) (nI (g.2 3)) f551) ((((((((2 + 20 * (r2 + 1)) - 3) - 3) - 3) - 3) - 3) - 3) - 1) ((((((((8 + 92 * (r2 + 1)) - 14) - 14) - 14) - 14) - 14) - 14) - 4) (by omega) (by omega)) (fun it555 h556 q557 => ?_) (fun E h1 q => q.elim)
        obtain ⟨q557n, q557e⟩ := q557
        rw [q557e]
        have n558 := sp511.nn q557n
        have z559 := sp511.1.none q557n
        obtain ⟨h560, eh560⟩ : ∃ z : tw_H, z = tw_up h474 it555 (.inr (2, [.int 0, .int (-1), .int (g.1 3), .ref lc_525])) := ⟨_, rfl⟩
        rw [← eh560]
        have th561 : tw_th (h560 x) = tw_th (h x) := by rw [eh560, tw_up_n (tw_kF sp511.1 kx (by decide) q557n)] <;> exact th512
        have oq562 : h560 o = h o := by rw [eh560, tw_up_n (tw_kF sp511.1 ko (by decide) q557n)] <;> exact oq513
        have sp563 : tw_sp d τ h g τ h560 := by rw [eh560]; exact sp511.mk q557n
        have f564 : h560 it555 = some (.inr (2, [.int 0, .int (-1), .int (g.1 3), .ref lc_525])) := by rw [eh560]; exact tw_up_s
        refine tw_astore_n [(2, .ref it555), (0, .ref x), (1, .int (nI k1))] dX10_isSoundNow_59 rfl (by decide) rfl ?_
        have L569 : ∀ (r565 j566 : Nat) (l567 : Int32) (h570 : tw_H) (sp571 : tw_sp d τ (tw_rm h560 it555) g τ h570) (ft572 : h570 it555 = some (.inr (2, [.int (nI j566), .int l567, .int (g.1 3), .ref lc_525]))) (zt573 : τ it555 = 0) (th574 : tw_th (h570 x) = tw_th (h x)) (oq575 : h570 o = h o), g.2 3 + 1 ≤ j566 + r565 → j566 ≤ g.2 3 → tw_W d mX10_isSoundNow (tw_qi (fun r h1 => tw_sp d τ h g τ h1 ∧ tw_th (h1 x) = tw_th (h x) ∧ h1 o = h o ∧ r = 1) tw_nx) 60 [(0, .ref x), (1, .int (nI k1)), (2, .ref it555)] [] h570 ((((((((2 + 20 * (r2 + 1)) - 3) - 3) - 3) - 3) - 3) - 3) - 1) ((((((((8 + 92 * (r2 + 1)) - 14) - 14) - 14) - 14) - 14) - 14) - 4) := by
          intro r565
          induction r565 with
          | zero => intro j566 l567 h570 sp571 ft572 zt573 th574 oq575 hk576 hk577; exact absurd hk576 (by omega)
          | succ r565 ih568 =>
            intro j566 l567 h570 sp571 ft572 zt573 th574 oq575 hk576 hk577
            refine tw_aload_n 2 dX10_isSoundNow_60 rfl rfl ?_
            obtain ⟨e578, f579, ⟨el580, rfl, k581⟩, k582⟩ := sp571.1 lc_525 24 k534 (by decide)
            refine tw_bi (tw_callF (M := mX10_isSoundNow) (pc := 61) (n9 := 0) (ci := 2) tw_hasNext ok_itHas w_1412 w_1410 (fun s H z => z.2.2.2.2.2.2.2.2.1) (by decide +kernel) dX10_isSoundNow_61 w_1406 rfl ft572 [] [] rfl rfl ⟨by decide, by decide⟩ (Nat.le_of_ble_eq_true rfl) (c_hasNext d h570 it555 lc_525 el580 j566 (g.2 3) l567 (g.1 3) (g.1 3) ft572 f579 (by omega) (tw_lim24 sp571.1 k534)) ((((((((2 + 20 * (r2 + 1)) - 3) - 3) - 3) - 3) - 3) - 3) - 1) ((((((((8 + 92 * (r2 + 1)) - 14) - 14) - 14) - 14) - 14) - 14) - 4) (by omega) (by omega)) (fun r585 h584 q583 => ?_) (fun E h1 q => q.elim)
            obtain ⟨q583e, q583q⟩ := q583
            rw [q583e]
            rcases q583q with ⟨q583r, q583j⟩ | ⟨q583r, q583j⟩
            · rw [q583r]
              refine tw_if_eq 95 dX10_isSoundNow_66 (by decide) (fun _ => ?_) (fun c586 => absurd (by decide) c586)
              refine tw_aload_n 0 dX10_isSoundNow_95 rfl rfl ?_
              obtain ⟨e587, f588, th_589, td_590, ds_591, fr_592, ca_593, us_594, wo_595, cm_596, lc_597, lh_598, ld_599, rfl, k600, k601, k602, k603, k604, k605, k606, k607, k608, k609, k610, k611, k612, k613, k614, k615, k616, k617, k618, k619, k620, k621⟩ := sp571.1 x 36 kx (by decide)
              refine tw_get (v := .ref lh_598) rfl in_14 10 dX10_isSoundNow_96 w_1161 rfl (by decide) f588 rfl ?_
              obtain ⟨e622, f623, ⟨el624, rfl, k625⟩, k626⟩ := sp571.1 lh_598 25 k607 (by decide)
              refine tw_br (tw_callV (M := mX10_isSoundNow) (pc := 99) okJx4a65c_iterator_32c93 dX10_isSoundNow_99 w_1382 rfl f623 [] [] rfl rfl ⟨by decide, by decide⟩ (Nat.le_of_ble_eq_true rfl) (c_iterator d h570 lh_598 el624 (g.1 4) (nI (g.2 4)) f623) (((((((((2 + 20 * (r2 + 1)) - 3) - 3) - 3) - 3) - 3) - 3) - 1) - 1) (((((((((8 + 92 * (r2 + 1)) - 14) - 14) - 14) - 14) - 14) - 14) - 4) - 4) (by omega) (by omega)) (fun it627 h628 q629 => ?_) (fun E h1 q => q.elim)
              obtain ⟨q629n, q629e⟩ := q629
              rw [q629e]
              have n630 := sp571.nn q629n
              have z631 := sp571.1.none q629n
              have ne632 := tw_neF ft572 q629n
              obtain ⟨h633, eh633⟩ : ∃ z : tw_H, z = tw_up h570 it627 (.inr (2, [.int 0, .int (-1), .int (g.1 4), .ref lh_598])) := ⟨_, rfl⟩
              rw [← eh633]
              have th634 : tw_th (h633 x) = tw_th (h x) := by rw [eh633, tw_up_n (tw_kF sp571.1 kx (by decide) q629n)] <;> exact th574
              have oq635 : h633 o = h o := by rw [eh633, tw_up_n (tw_kF sp571.1 ko (by decide) q629n)] <;> exact oq575
              have sp636 : tw_sp d τ (tw_rm h560 it555) g τ h633 := by rw [eh633]; exact sp571.mk q629n
              have f637 : h633 it555 = some (.inr (2, [.int (nI j566), .int l567, .int (g.1 3), .ref lc_525])) := by rw [eh633, tw_up_n ne632]; exact ft572
              have f638 : h633 it627 = some (.inr (2, [.int 0, .int (-1), .int (g.1 4), .ref lh_598])) := by rw [eh633]; exact tw_up_s
              refine tw_astore_n [(2, .ref it627), (0, .ref x), (1, .int (nI k1))] dX10_isSoundNow_102 rfl (by decide) rfl ?_
              have L643 : ∀ (r639 j640 : Nat) (l641 : Int32) (h644 : tw_H) (sp645 : tw_sp d τ (tw_rm h633 it627) g τ h644) (ft646 : h644 it627 = some (.inr (2, [.int (nI j640), .int l641, .int (g.1 4), .ref lh_598]))) (zt647 : τ it627 = 0) (th648 : tw_th (h644 x) = tw_th (h x)) (oq649 : h644 o = h o), g.2 4 + 1 ≤ j640 + r639 → j640 ≤ g.2 4 → tw_W d mX10_isSoundNow (tw_qi (fun r h1 => tw_sp d τ h g τ h1 ∧ tw_th (h1 x) = tw_th (h x) ∧ h1 o = h o ∧ r = 1) tw_nx) 103 [(0, .ref x), (1, .int (nI k1)), (2, .ref it627)] [] h644 (((((((((2 + 20 * (r2 + 1)) - 3) - 3) - 3) - 3) - 3) - 3) - 1) - 1) (((((((((8 + 92 * (r2 + 1)) - 14) - 14) - 14) - 14) - 14) - 14) - 4) - 4) := by
                intro r639
                induction r639 with
                | zero => intro j640 l641 h644 sp645 ft646 zt647 th648 oq649 hk650 hk651; exact absurd hk650 (by omega)
                | succ r639 ih642 =>
                  intro j640 l641 h644 sp645 ft646 zt647 th648 oq649 hk650 hk651
                  have f652 := (sp645.2.2 _ _ (by unfold tw_rm; rw [if_neg ne632]; exact f637) zt573).1
                  have z653 := (sp645.2.2 _ _ (by unfold tw_rm; rw [if_neg ne632]; exact f637) zt573).2
                  refine tw_aload_n 2 dX10_isSoundNow_103 rfl rfl ?_
                  obtain ⟨e654, f655, ⟨el656, rfl, k657⟩, k658⟩ := sp645.1 lh_598 25 k607 (by decide)
                  refine tw_bi (tw_callF (M := mX10_isSoundNow) (pc := 104) (n9 := 0) (ci := 2) tw_hasNext ok_itHas w_1412 w_1410 (fun s H z => z.2.2.2.2.2.2.2.2.1) (by decide +kernel) dX10_isSoundNow_104 w_1406 rfl ft646 [] [] rfl rfl ⟨by decide, by decide⟩ (Nat.le_of_ble_eq_true rfl) (c_hasNext d h644 it627 lh_598 el656 j640 (g.2 4) l641 (g.1 4) (g.1 4) ft646 f655 (by omega) (tw_lim25 sp645.1 k607)) (((((((((2 + 20 * (r2 + 1)) - 3) - 3) - 3) - 3) - 3) - 3) - 1) - 1) (((((((((8 + 92 * (r2 + 1)) - 14) - 14) - 14) - 14) - 14) - 14) - 4) - 4) (by omega) (by omega)) (fun r661 h660 q659 => ?_) (fun E h1 q => q.elim)
                  obtain ⟨q659e, q659q⟩ := q659
                  rw [q659e]
                  rcases q659q with ⟨q659r, q659j⟩ | ⟨q659r, q659j⟩
                  · rw [q659r]
                    refine tw_if_eq 157 dX10_isSoundNow_109 (by decide) (fun _ => ?_) (fun c662 => absurd (by decide) c662)
                    obtain ⟨v663, ev663⟩ : ∃ y : Int32, y = (nI k1) + 1 := ⟨_, rfl⟩
                    refine tw_iinc [(1, .int v663), (0, .ref x), (2, .ref it627)] 1 dX10_isSoundNow_157 rfl (by rw [ev663]; rfl) (by decide) rfl ?_
                    refine tw_goto 2 dX10_isSoundNow_160 (by decide) ?_
                    have qv663 := tw_nI3 ev663
                    rw [qv663]
                    refine tw_lv [1, 0] rfl ?_
                    refine tw_less (c2 := 2 + 20 * r2) (n2 := 8 + 92 * r2) (by omega) (by omega) ?_
                    exact ih3 (k1 + 1)  _ (sp563.trm n558 (sp636.trm n630 sp645)) (⟨th648, oq649⟩) (by omega) (by omega)
                  · rw [q659r]
                    refine tw_if_eq 157 dX10_isSoundNow_109 (by decide) (fun c664 => absurd c664 (by decide)) (fun _ => ?_)
                    refine tw_aload_n 2 dX10_isSoundNow_112 rfl rfl ?_
                    have k665 : τ el656 = 28 := k657.resolve_left (fun q => absurd q659j (by rw [q.2.1]; exact Nat.not_lt_zero _))
                    obtain ⟨e666, f667, ⟨F668, rfl, hc669, hc670⟩, un671⟩ := sp645.1 el656 28 k665 (by decide)
                    obtain ⟨y672, hy673, ky674⟩ := hc670 j640 q659j
                    refine tw_br (tw_callF (M := mX10_isSoundNow) (pc := 113) (n9 := 0) (ci := 2) tw_next ok_itNext w_1421 w_1419 (fun s H z => z.2.2.2.2.2.2.2.2.2) (by decide +kernel) dX10_isSoundNow_113 w_1416 rfl ft646 [] [] rfl rfl ⟨by decide, by decide⟩ (Nat.le_of_ble_eq_true rfl) (c_next d h644 it627 lh_598 el656 j640 (g.2 4) y672 l641 (g.1 4) F668 ft646 f655 f667 q659j hc669 hy673) (((((((((2 + 20 * (r2 + 1)) - 3) - 3) - 3) - 3) - 3) - 3) - 1) - 1) (((((((((8 + 92 * (r2 + 1)) - 14) - 14) - 14) - 14) - 14) - 14) - 4) - 4) (by omega) (by omega)) (fun r677 h676 q675 => ?_) (fun E h1 q => q.elim)
                    obtain ⟨q675r, q675e⟩ := q675
                    rw [q675r]
                    have sp678 : tw_sp d τ (tw_rm h633 it627) g τ h676 := by rw [q675e]; exact sp645.wl tw_rm_s zt647
                    have id679 : g.2 (4096 + y672) = 960 + 32 * j640 := un671.2.2 _ _ F668 rfl j640 y672 q659j hy673
                    have f680 : h676 it555 = some (.inr (2, [.int (nI j566), .int l567, .int (g.1 3), .ref lc_525])) := by rw [q675e, tw_up_n ne632]; exact f652
                    have th681 : tw_th (h676 x) = tw_th (h x) := by rw [q675e, tw_up_n (tw_nk kx zt647 (by decide))] <;> exact th648
                    have oq682 : h676 o = h o := by rw [q675e, tw_up_n (tw_nk ko zt647 (by decide))] <;> exact oq649
                    have f683 : h676 it627 = some (.inr (2, [.int (nI (j640 + 1)), .int (nI j640), .int (g.1 4), .ref lh_598])) := by rw [q675e]; exact tw_up_s
                    obtain ⟨e684, f685, x_686, y_687, dy_688, p_689, rfl, k690, k691, k692, k693⟩ := sp678.1 y672 23 ky674 (by decide)
                    obtain ⟨j694, ow695, fd9, fa9, ft9, lp696⟩ := k693
                    obtain rfl : j640 = j694 := by have z := ow695.b id679; omega
                    subst fd9 fa9 ft9
                    refine tw_castS (ci := 13) rfl dX10_isSoundNow_118 w_1332 f685 ?_
                    refine tw_astore_n [(3, .ref y672), (0, .ref x), (1, .int (nI k1)), (2, .ref it627)] dX10_isSoundNow_121 rfl (by decide) rfl ?_
                    refine tw_aload_n 0 dX10_isSoundNow_122 rfl rfl ?_
                    refine tw_get (v := .ref p_689) rfl in_13 3 dX10_isSoundNow_123 w_1344 rfl (by decide) f685 rfl ?_
                    refine tw_iload_n 2 dX10_isSoundNow_126 rfl rfl ?_
                    obtain ⟨e697, f698, F699, rfl, ⟨b701, ow702, wv703⟩⟩ := sp678.1 p_689 31 k690 (by decide)
                    obtain rfl : (960 + 32 * j640 + 8) = b701 := (ow702.b lp696).symm
                    have ev704 : F699 ((nI k1)).toNatClampNeg = (g.1 ((960 + 32 * j640 + 8) + k1)).toInt64 := by rw [nI_clamp (by omega)]; exact wv703 k1 (by omega)
                    refine tw_lald (v := (g.1 ((960 + 32 * j640 + 8) + k1)).toInt64) dX10_isSoundNow_127 f698 (vp_in_nI (by omega) (by decide)) ev704 ?_
                    refine tw_lconst (v := 0) dX10_isSoundNow_128 (by decide) ?_
                    refine tw_lcmp dX10_isSoundNow_129 ?_
                    refine tw_nmi (fun v705 ev705 => ?_)
                    refine tw_if_lt 152 dX10_isSoundNow_130 (by decide) (fun c706 => absurd c706 ((by rw [ev705, (congrArg Int32.toInt64 (he.p (j := j640) (k := k1) (by omega) kl263).1).trans (tw_L_i (Nat.lt_of_le_of_lt (he.p (j := j640) (k := k1) (by omega) kl263).2 (by decide)))]; exact tw_L_0 _ (he.p (j := j640) (k := k1) (by omega) kl263).2))) (fun _ => ?_)
                    refine tw_aload_n 0 dX10_isSoundNow_133 rfl rfl ?_
                    refine tw_get (v := .int (g.1 (960 + 32 * j640 + 1))) rfl in_13 0 dX10_isSoundNow_134 w_1338 rfl (by decide) f685 rfl ?_
                    refine tw_iconst (v := -1) dX10_isSoundNow_137 (by decide) ?_
                    refine tw_icmp_ne 154 dX10_isSoundNow_138 (by decide) (fun c707 => ?_) (fun c707 => ?_)
                    · refine tw_goto 103 dX10_isSoundNow_154 (by decide) ?_
                      refine tw_lv [1, 2, 3] rfl ?_
                      exact ih642 ((j640 + 1)) (nI j640)  _ sp678 f683 zt647 th681 oq682 (by omega) (by omega)
                    · refine tw_aload_n 0 dX10_isSoundNow_141 rfl rfl ?_
                      refine tw_get (v := .int (g.1 (960 + 32 * j640 + 0))) rfl in_13 2 dX10_isSoundNow_142 w_1342 rfl (by decide) f685 rfl ?_
                      refine tw_aload_n 1 dX10_isSoundNow_145 rfl rfl ?_
                      obtain ⟨e708, f709, th_710, td_711, ds_712, fr_713, ca_714, us_715, wo_716, cm_717, lc_718, lh_719, ld_720, rfl, k721, k722, k723, k724, k725, k726, k727, k728, k729, k730, k731, k732, k733, k734, k735, k736, k737, k738, k739, k740, k741, k742⟩ := sp678.1 x 36 kx (by decide)
                      refine tw_get (v := .int td_711) rfl in_14 1 dX10_isSoundNow_146 w_1152 rfl (by decide) f709 rfl ?_
                      refine tw_icmp_gt 154 dX10_isSoundNow_149 (by decide) (fun _ => ?_) (fun c743 => absurd ((by have z := he9.2.1 j640 (by omega) c707; exact by rw [k735]; exact z)) c743)
                      refine tw_goto 103 dX10_isSoundNow_154 (by decide) ?_
                      refine tw_lv [1, 2, 3] rfl ?_
                      exact ih642 ((j640 + 1)) (nI j640)  _ sp678 f683 zt647 th681 oq682 (by omega) (by omega)
              refine tw_lv [1, 2, 0] rfl ?_
              exact L643 (g.2 4 + 1) 0 (-1)  _ (tw_sp.rm sp636.1 it627) f638 z631 th634 oq635 (by omega) (Nat.zero_le _)
            · rw [q583r]
              refine tw_if_eq 95 dX10_isSoundNow_66 (by decide) (fun c744 => absurd c744 (by decide)) (fun _ => ?_)
              refine tw_aload_n 2 dX10_isSoundNow_69 rfl rfl ?_
              have k745 : τ el580 = 27 := k581.resolve_left (fun q => absurd q583j (by rw [q.2.1]; exact Nat.not_lt_zero _))
              obtain ⟨e746, f747, ⟨F748, rfl, hc749, hc750⟩, un751⟩ := sp571.1 el580 27 k745 (by decide)
              obtain ⟨y752, hy753, ky754⟩ := hc750 j566 q583j
              refine tw_br (tw_callF (M := mX10_isSoundNow) (pc := 70) (n9 := 0) (ci := 2) tw_next ok_itNext w_1421 w_1419 (fun s H z => z.2.2.2.2.2.2.2.2.2) (by decide +kernel) dX10_isSoundNow_70 w_1416 rfl ft572 [] [] rfl rfl ⟨by decide, by decide⟩ (Nat.le_of_ble_eq_true rfl) (c_next d h570 it555 lc_525 el580 j566 (g.2 3) y752 l567 (g.1 3) F748 ft572 f579 f747 q583j hc749 hy753) ((((((((2 + 20 * (r2 + 1)) - 3) - 3) - 3) - 3) - 3) - 3) - 1) ((((((((8 + 92 * (r2 + 1)) - 14) - 14) - 14) - 14) - 14) - 14) - 4) (by omega) (by omega)) (fun r757 h756 q755 => ?_) (fun E h1 q => q.elim)
              obtain ⟨q755r, q755e⟩ := q755
              rw [q755r]
              have sp758 : tw_sp d τ (tw_rm h560 it555) g τ h756 := by rw [q755e]; exact sp571.wl tw_rm_s zt573
              have id759 : g.2 (4096 + y752) = 480 + 64 * j566 := un751.2.2 _ _ F748 rfl j566 y752 q583j hy753
              have th760 : tw_th (h756 x) = tw_th (h x) := by rw [q755e, tw_up_n (tw_nk kx zt573 (by decide))] <;> exact th574
              have oq761 : h756 o = h o := by rw [q755e, tw_up_n (tw_nk ko zt573 (by decide))] <;> exact oq575
              have f762 : h756 it555 = some (.inr (2, [.int (nI (j566 + 1)), .int (nI j566), .int (g.1 3), .ref lc_525])) := by rw [q755e]; exact tw_up_s
              obtain ⟨e763, f764, r_765, c_766, v_767, o_768, t_769, rfl, k770, k771, k772, k773, k774, k775⟩ := sp758.1 y752 21 ky754 (by decide)
              obtain ⟨j776, ow777, fr9, fc9, q778, q779, q780⟩ := k775
              obtain rfl : j566 = j776 := by have z := ow777.b id759; omega
              subst fr9 fc9
              refine tw_castS (ci := 11) rfl dX10_isSoundNow_75 w_1208 f764 ?_
              refine tw_astore_n [(3, .ref y752), (0, .ref x), (1, .int (nI k1)), (2, .ref it555)] dX10_isSoundNow_78 rfl (by decide) rfl ?_
              refine tw_aload_n 0 dX10_isSoundNow_79 rfl rfl ?_
              refine tw_get (v := .ref v_767) rfl in_11 2 dX10_isSoundNow_80 w_1217 rfl (by decide) f764 rfl ?_
              refine tw_iload_n 2 dX10_isSoundNow_83 rfl rfl ?_
              obtain ⟨e781, f782, F783, rfl, ⟨b785, ow786, wv787⟩⟩ := sp758.1 v_767 31 k770 (by decide)
              obtain rfl : (480 + 64 * j566 + 16) = b785 := (ow786.b q780).symm
              have ev788 : F783 ((nI k1)).toNatClampNeg = (g.1 ((480 + 64 * j566 + 16) + k1)).toInt64 := by rw [nI_clamp (by omega)]; exact wv787 k1 (by omega)
              refine tw_lald (v := (g.1 ((480 + 64 * j566 + 16) + k1)).toInt64) dX10_isSoundNow_84 f782 (vp_in_nI (by omega) (by decide)) ev788 ?_
              refine tw_lconst (v := 0) dX10_isSoundNow_85 (by decide) ?_
              refine tw_lcmp dX10_isSoundNow_86 ?_
              refine tw_nmi (fun v789 ev789 => ?_)
              refine tw_if_ge 92 dX10_isSoundNow_87 (by decide) (fun _ => ?_) (fun c790 => absurd ((by rw [ev789, (congrArg Int32.toInt64 (he.v (j := j566) (k := k1) (by omega) kl263).1).trans (tw_L_i (Nat.lt_of_le_of_lt (he.v (j := j566) (k := k1) (by omega) kl263).2 (by decide)))]; exact Int32.not_lt.mp (tw_L_0 _ (he.v (j := j566) (k := k1) (by omega) kl263).2))) c790)
              refine tw_goto 60 dX10_isSoundNow_92 (by decide) ?_
              refine tw_lv [1, 2, 3] rfl ?_
              exact ih568 ((j566 + 1)) (nI j566)  _ sp758 f762 zt573 th760 oq761 (by omega) (by omega)
        refine tw_lv [1, 2, 0] rfl ?_
        exact L569 (g.2 3 + 1) 0 (-1)  _ (tw_sp.rm sp563.1 it555) f564 z559 th561 oq562 (by omega) (Nat.zero_le _)
  refine tw_lv [1, 0] rfl ?_
  refine tw_less (c2 := 2 + 20 * 3) (n2 := 8 + 92 * 3) (by omega) (by omega) ?_
  exact L4 3 0  _ (tw_sp.rf sp0.1) (⟨th0, oq0⟩) (by omega) (by omega)

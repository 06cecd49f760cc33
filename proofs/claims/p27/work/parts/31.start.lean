/-! The world at the start. Laid by wip/p5/mkstart.py. -/
def lw_T0 : List Jvm.Cond := flatC (Jvm.Cond.and given_1 narrow_1)
theorem d2_of (c : Nat → Nat) (L b z t1 t2 t3 t4 : Nat) (adV ad adK sc : Nat → Nat) : ∃ d2 : Nat → Nat, (∀ i, i < 9 → d2 i = c i) ∧ d2 97 = L ∧ d2 98 = b ∧ d2 100 = z ∧ d2 101 = t1 ∧ d2 102 = t2 ∧ d2 103 = t3 ∧ d2 104 = t4 ∧ (∀ i, i < 2 → d2 (105 + i) = adV i) ∧ (∀ i, i < 19 → d2 (200 + i) = ad i) ∧ (∀ i, i < 2 → d2 (219 + i) = adK i) ∧ ∀ j, d2 (1000 + j) = sc j := by
  refine ⟨fun n => if n < 9 then c n else if n < 98 then L else if n < 99 then b else if n < 101 then z else if n < 102 then t1 else if n < 103 then t2 else if n < 104 then t3 else if n < 105 then t4 else if n < 200 then adV (n - 105) else if n < 219 then ad (n - 200) else if n < 1000 then adK (n - 219) else sc (n - 1000), ?_, rfl, rfl, rfl, rfl, rfl, rfl, rfl, ?_, ?_, ?_, ?_⟩
  · intro i hi
    show (if i < 9 then _ else _) = _
    rw [if_pos hi]
  · intro i hi
    dsimp only
    rw [if_neg (by omega), if_neg (by omega), if_neg (by omega), if_neg (by omega), if_neg (by omega), if_neg (by omega), if_neg (by omega), if_neg (by omega), if_pos (by omega)]
    exact congrArg adV (by omega)
  · intro i hi
    dsimp only
    rw [if_neg (by omega), if_neg (by omega), if_neg (by omega), if_neg (by omega), if_neg (by omega), if_neg (by omega), if_neg (by omega), if_neg (by omega), if_neg (by omega), if_pos (by omega)]
    exact congrArg ad (by omega)
  · intro i hi
    dsimp only
    rw [if_neg (by omega), if_neg (by omega), if_neg (by omega), if_neg (by omega), if_neg (by omega), if_neg (by omega), if_neg (by omega), if_neg (by omega), if_neg (by omega), if_neg (by omega), if_pos (by omega)]
    exact congrArg adK (by omega)
  · intro j
    dsimp only
    rw [if_neg (by omega), if_neg (by omega), if_neg (by omega), if_neg (by omega), if_neg (by omega), if_neg (by omega), if_neg (by omega), if_neg (by omega), if_neg (by omega), if_neg (by omega), if_neg (by omega)]
    exact congrArg sc (by omega)
theorem vk_S.congr {N : Nat} {len : List Nat} {byt : List (List Int32)} {aK aV bK bV : Nat → Nat} {A : Nat → Prop} {U : State} {H : Heap} (h : vk_S N len byt aK aV A U H) (e1 : ∀ i, i < N → bK i = aK i) (e2 : ∀ i, i < N → bV i = aV i) : vk_S N len byt bK bV A U H :=
  ⟨fun i hi => by rw [e1 i hi, e2 i hi]; exact h.1 i hi, fun i j hi hj e => h.2 i j hi hj (by rw [← e1 i hi, ← e1 j hj]; exact e)⟩
theorem i32_of (x : Int32) : ∃ n : Nat, Int32.ofNat n = x := ⟨x.toBitVec.toNat, by
  apply Int32.toBitVec_inj.mp
  simp [Int32.ofNat]⟩

theorem st_cls {s : State} {args : Array Value} (hT : ∀ w ∈ TW, w.before args s = true) : ∃ G : va_G, ∀ (c : Nat) (q : vw_C), vwCl[c]? = some q → u_Kn s q.1 q.2.1 q.2.2 (G.1 c) (G.2 c) := by
  have h0 : ∀ c : Nat, ∃ z : ClassId × (Nat → Nat), ∀ q : vw_C, vwCl[c]? = some q → u_Kn s q.1 q.2.1 q.2.2 z.1 z.2 := by
    intro c
    match c with
    | 0 => obtain ⟨cC, iS, k⟩ := u_known hT in_0 (hT _ w_985); exact ⟨(cC, iS), fun q hq => by cases hq; exact k⟩
    | 1 => obtain ⟨cC, iS, k⟩ := u_known hT in_1 (hT _ w_823); exact ⟨(cC, iS), fun q hq => by cases hq; exact k⟩
    | 2 => obtain ⟨cC, iS, k⟩ := u_known hT in_2 (hT _ w_1387); exact ⟨(cC, iS), fun q hq => by cases hq; exact k⟩
    | 3 => obtain ⟨cC, iS, k⟩ := u_known hT in_3 (hT _ w_1122); exact ⟨(cC, iS), fun q hq => by cases hq; exact k⟩
    | 4 => obtain ⟨cC, iS, k⟩ := u_known hT in_4 (hT _ w_229); exact ⟨(cC, iS), fun q hq => by cases hq; exact k⟩
    | 5 => obtain ⟨cC, iS, k⟩ := u_known hT in_5 (hT _ w_358); exact ⟨(cC, iS), fun q hq => by cases hq; exact k⟩
    | 6 => obtain ⟨cC, iS, k⟩ := u_known hT in_6 (hT _ w_217); exact ⟨(cC, iS), fun q hq => by cases hq; exact k⟩
    | 7 => obtain ⟨cC, iS, k⟩ := u_known hT in_7 (hT _ w_126); exact ⟨(cC, iS), fun q hq => by cases hq; exact k⟩
    | 8 => obtain ⟨cC, iS, k⟩ := u_known hT in_8 (hT _ w_208); exact ⟨(cC, iS), fun q hq => by cases hq; exact k⟩
    | 9 => obtain ⟨cC, iS, k⟩ := u_known hT in_9 (hT _ w_112); exact ⟨(cC, iS), fun q hq => by cases hq; exact k⟩
    | 10 => obtain ⟨cC, iS, k⟩ := u_known hT in_10 (hT _ w_375); exact ⟨(cC, iS), fun q hq => by cases hq; exact k⟩
    | 11 => obtain ⟨cC, iS, k⟩ := u_known hT in_11 (hT _ w_1209); exact ⟨(cC, iS), fun q hq => by cases hq; exact k⟩
    | 12 => obtain ⟨cC, iS, k⟩ := u_known hT in_12 (hT _ w_1434); exact ⟨(cC, iS), fun q hq => by cases hq; exact k⟩
    | 13 => obtain ⟨cC, iS, k⟩ := u_known hT in_13 (hT _ w_1333); exact ⟨(cC, iS), fun q hq => by cases hq; exact k⟩
    | 14 => obtain ⟨cC, iS, k⟩ := u_known hT in_14 (hT _ w_1114); exact ⟨(cC, iS), fun q hq => by cases hq; exact k⟩
    | k + 15 => exact ⟨(0, fun _ => 0), fun q hq => by cases hq⟩
  obtain ⟨f, hf⟩ := Classical.axiomOfChoice h0
  exact ⟨(fun c => (f c).1, fun c => (f c).2), hf⟩
theorem st_obj {s : State} {C : String} (h : va_AO C s) : ∃ cA : ClassId, ArrOfT s cA (.object C) ∧ va_RA s cA (.object C) := by
  obtain ⟨comp, c, k, h1, h2, h3, h4, h5⟩ := Cond.arrayOver_spec h
  exact ⟨c, fun n z => ⟨fun k h => (by cases h), k, h3, comp, h4⟩, ⟨k, comp, h3, h4, h1, h5⟩⟩
theorem st_aoa {s : State} {t : FieldType} (h : va_AOA t s) : ∃ cA : ClassId, ArrOfT s cA (.array t) ∧ va_RA s cA (.array t) := by
  obtain ⟨comp, c, k, h1, h2, h3, h4, h5⟩ := tw_AOA_spec h
  exact ⟨c, fun n z => ⟨fun k h => (by cases h), k, h3, comp, h4⟩, h5⟩
theorem st_int {s : State} {args : Array Value} (h : (Cond.arrayClass .int).before args s = true) : ∃ cA : ClassId, ArrOfT s cA .int ∧ va_RA s cA .int := by
  obtain ⟨cA, kA, comp, hfind, hk, hkind⟩ := Cond.arrayClass_spec h
  exact ⟨cA, fun n z => ⟨fun k h => (by cases h), kA, hk, comp, hkind⟩, hfind⟩
theorem st_long {s : State} {args : Array Value} (h : (Cond.arrayClass .long).before args s = true) : ∃ cA : ClassId, ArrOfT s cA .long ∧ va_RA s cA .long := by
  obtain ⟨cA, kA, comp, hfind, hk, hkind⟩ := Cond.arrayClass_spec h
  exact ⟨cA, fun n z => ⟨fun k h => (by cases h), kA, hk, comp, hkind⟩, hfind⟩
theorem st_boolean {s : State} {args : Array Value} (h : (Cond.arrayClass .boolean).before args s = true) : ∃ cA : ClassId, ArrOfT s cA .boolean ∧ va_RA s cA .boolean := by
  obtain ⟨cA, kA, comp, hfind, hk, hkind⟩ := Cond.arrayClass_spec h
  exact ⟨cA, fun n z => ⟨fun k h => (by cases h), kA, hk, comp, hkind⟩, hfind⟩
theorem st_byte {s : State} {args : Array Value} (h : (Cond.arrayClass .byte).before args s = true) : ∃ cA : ClassId, ArrOfT s cA .byte ∧ va_RA s cA .byte := by
  obtain ⟨cA, kA, comp, hfind, hk, hkind⟩ := Cond.arrayClass_spec h
  exact ⟨cA, fun n z => ⟨fun k h => (by cases h), kA, hk, comp, hkind⟩, hfind⟩
theorem st_ones {s : State} {args : Array Value} (hts : ∀ w ∈ lw_tbl, w.before args s = true) (hT : ∀ w ∈ TW, w.before args s = true) (hf : ∀ (i : Nat) (w : Jvm.Cond), lw_T0[i]? = some w → w.before args s = true) (A : Nat → Prop) (hA : ∀ a : Nat, a < s.heap.size → ¬ A a) : ∃ t : Nat, va_Z "java/lang/Integer" "DigitOnes" "[B" (.ref t) A s s.heap ∧ va_T .byte t 100 (fun j => .int (nI (48 + j % 10))) A s s.heap := by
  have e : ∀ j, j < 100 → lw_T0[10 + j]? = some (Jvm.Cond.eq (.elem (.static "java/lang/Integer" "DigitOnes" "[B") (.int (Int32.ofNat j))) (.int (nI (48 + j % 10)))) := by decide +kernel
  obtain ⟨t, h1, h2⟩ := va_Tof (tm := .static "java/lang/Integer" "DigitOnes" "[B") (ty := .byte) (N := 100) (f := (fun j => .int (nI (48 + j % 10)))) (A := A) (by decide) (hf 8 (Jvm.Cond.arrayOf (Jvm.Term.static "java/lang/Integer" "DigitOnes" "[B") Jvm.ClassFile.FieldType.byte) (by decide +kernel)) (va_eqt (hf 9 (Jvm.Cond.eq (Jvm.Term.length (Jvm.Term.static "java/lang/Integer" "DigitOnes" "[B")) (Jvm.Term.int (100 : Int32))) (by decide +kernel))) (fun j hj => va_eqt (hf (10 + j) (Jvm.Cond.eq (.elem (.static "java/lang/Integer" "DigitOnes" "[B") (.int (Int32.ofNat j))) (.int (nI (48 + j % 10)))) (e j hj))) hA
  exact ⟨t, va_Zof (hts _ w_905) (hT _ w_109) h1 hA, h2⟩
theorem st_tens {s : State} {args : Array Value} (hts : ∀ w ∈ lw_tbl, w.before args s = true) (hT : ∀ w ∈ TW, w.before args s = true) (hf : ∀ (i : Nat) (w : Jvm.Cond), lw_T0[i]? = some w → w.before args s = true) (A : Nat → Prop) (hA : ∀ a : Nat, a < s.heap.size → ¬ A a) : ∃ t : Nat, va_Z "java/lang/Integer" "DigitTens" "[B" (.ref t) A s s.heap ∧ va_T .byte t 100 (fun j => .int (nI (48 + j / 10))) A s s.heap := by
  have e : ∀ j, j < 100 → lw_T0[113 + j]? = some (Jvm.Cond.eq (.elem (.static "java/lang/Integer" "DigitTens" "[B") (.int (Int32.ofNat j))) (.int (nI (48 + j / 10)))) := by decide +kernel
  obtain ⟨t, h1, h2⟩ := va_Tof (tm := .static "java/lang/Integer" "DigitTens" "[B") (ty := .byte) (N := 100) (f := (fun j => .int (nI (48 + j / 10)))) (A := A) (by decide) (hf 111 (Jvm.Cond.arrayOf (Jvm.Term.static "java/lang/Integer" "DigitTens" "[B") Jvm.ClassFile.FieldType.byte) (by decide +kernel)) (va_eqt (hf 112 (Jvm.Cond.eq (Jvm.Term.length (Jvm.Term.static "java/lang/Integer" "DigitTens" "[B")) (Jvm.Term.int (100 : Int32))) (by decide +kernel))) (fun j hj => va_eqt (hf (113 + j) (Jvm.Cond.eq (.elem (.static "java/lang/Integer" "DigitTens" "[B") (.int (Int32.ofNat j))) (.int (nI (48 + j / 10)))) (e j hj))) hA
  exact ⟨t, va_Zof (hts _ w_907) (hT _ w_109) h1 hA, h2⟩
theorem st_pounds {s : State} {args : Array Value} (hts : ∀ w ∈ lw_tbl, w.before args s = true) (hT : ∀ w ∈ TW, w.before args s = true) (hf : ∀ (i : Nat) (w : Jvm.Cond), lw_T0[i]? = some w → w.before args s = true) (A : Nat → Prop) (hA : ∀ a : Nat, a < s.heap.size → ¬ A a) : ∃ t : Nat, va_Z "TwocoinModel" "POUNDS" "[I" (.ref t) A s s.heap ∧ va_T .int t 5 tw_pounds A s s.heap := by
  obtain ⟨t, h1, h2⟩ := va_Tof (tm := .static "TwocoinModel" "POUNDS" "[I") (ty := .int) (N := 5) (f := tw_pounds) (A := A) (by decide) (hf 222 (Jvm.Cond.arrayOf (Jvm.Term.static "TwocoinModel" "POUNDS" "[I") Jvm.ClassFile.FieldType.int) (by decide +kernel)) (va_eqt (hf 223 (Jvm.Cond.eq (Jvm.Term.length (Jvm.Term.static "TwocoinModel" "POUNDS" "[I")) (Jvm.Term.int (5 : Int32))) (by decide +kernel))) (fun j hj => by
      rcases (show j = 0 ∨ j = 1 ∨ j = 2 ∨ j = 3 ∨ j = 4 by omega) with rfl | rfl | rfl | rfl | rfl
      · exact va_eqt (hf 224 (Jvm.Cond.eq (Jvm.Term.elem (Jvm.Term.static "TwocoinModel" "POUNDS" "[I") (Jvm.Term.int (0 : Int32))) (Jvm.Term.int (20 : Int32))) (by decide +kernel))
      · exact va_eqt (hf 225 (Jvm.Cond.eq (Jvm.Term.elem (Jvm.Term.static "TwocoinModel" "POUNDS" "[I") (Jvm.Term.int (1 : Int32))) (Jvm.Term.int (10 : Int32))) (by decide +kernel))
      · exact va_eqt (hf 226 (Jvm.Cond.eq (Jvm.Term.elem (Jvm.Term.static "TwocoinModel" "POUNDS" "[I") (Jvm.Term.int (2 : Int32))) (Jvm.Term.int (5 : Int32))) (by decide +kernel))
      · exact va_eqt (hf 227 (Jvm.Cond.eq (Jvm.Term.elem (Jvm.Term.static "TwocoinModel" "POUNDS" "[I") (Jvm.Term.int (3 : Int32))) (Jvm.Term.int (2 : Int32))) (by decide +kernel))
      · exact va_eqt (hf 228 (Jvm.Cond.eq (Jvm.Term.elem (Jvm.Term.static "TwocoinModel" "POUNDS" "[I") (Jvm.Term.int (4 : Int32))) (Jvm.Term.int (1 : Int32))) (by decide +kernel))) hA
  exact ⟨t, va_Zof (hts _ w_1484) (hT _ w_79) h1 hA, h2⟩
theorem st_edat {s : State} {args : Array Value} (hts : ∀ w ∈ lw_tbl, w.before args s = true) (hT : ∀ w ∈ TW, w.before args s = true) (hf : ∀ (i : Nat) (w : Jvm.Cond), lw_T0[i]? = some w → w.before args s = true) (A : Nat → Prop) (hA : ∀ a : Nat, a < s.heap.size → ¬ A a) : ∃ t : Nat, va_Z "java/util/ArrayList" "DEFAULTCAPACITY_EMPTY_ELEMENTDATA" "[Ljava/lang/Object;" (.ref t) A s s.heap ∧ va_T (.object "java/lang/Object") t 0 (fun _ => .null) A s s.heap := by
  obtain ⟨t, h1, h2⟩ := va_Tof (tm := .static "java/util/ArrayList" "DEFAULTCAPACITY_EMPTY_ELEMENTDATA" "[Ljava/lang/Object;") (ty := (.object "java/lang/Object")) (N := 0) (f := (fun _ => .null)) (A := A) (by decide) (hf 218 (Jvm.Cond.arrayOf (Jvm.Term.static "java/util/ArrayList" "DEFAULTCAPACITY_EMPTY_ELEMENTDATA" "[Ljava/lang/Object;") (Jvm.ClassFile.FieldType.object "java/lang/Object")) (by decide +kernel)) (va_eqt (hf 220 (Jvm.Cond.eq (Jvm.Term.length (Jvm.Term.static "java/util/ArrayList" "DEFAULTCAPACITY_EMPTY_ELEMENTDATA" "[Ljava/lang/Object;")) (Jvm.Term.int (0 : Int32))) (by decide +kernel))) (fun j hj => absurd hj (by omega)) hA
  exact ⟨t, va_Zof (hts _ w_1134) (hT _ w_82) h1 hA, h2⟩
theorem st_strs2 {s : State} {args : Array Value} (hf : ∀ (i : Nat) (w : Jvm.Cond), lw_T0[i]? = some w → w.before args s = true) (A : Nat → Prop) (hA : ∀ a : Nat, a < s.heap.size → ¬ A a) : ∃ adK adV : Nat → Nat, vk_S 2 [0, 1] [[], [42]] adK adV A s s.heap ∧ (Term.string "TwocoinModel" 226).eval args s none [] s = some (.ref (adK 0)) ∧ (Term.string "TwocoinModel" 238).eval args s none [] s = some (.ref (adK 1)) := by
  obtain ⟨adK, adV, h1, h2⟩ := vk_Sof (args := args) (s := s) (N := 2) (tm := (fun i => if i = 0 then .string "TwocoinModel" 226 else .string "TwocoinModel" 238)) (len := [0, 1]) (byt := [[], [42]]) (A := A) (by decide)
    (fun i hi => by
      rcases (show i = 0 ∨ i = 1 by omega) with rfl | rfl
      · exact (hf 1015 (Jvm.Cond.exactly (Jvm.Term.string "TwocoinModel" (226 : Nat)) "java/lang/String") (by decide +kernel))
      · exact (hf 1039 (Jvm.Cond.exactly (Jvm.Term.string "TwocoinModel" (238 : Nat)) "java/lang/String") (by decide +kernel)))
    (fun i hi => by
      rcases (show i = 0 ∨ i = 1 by omega) with rfl | rfl
      · exact (hf 1016 (Jvm.Cond.eq (Jvm.Term.field (Jvm.Term.string "TwocoinModel" (226 : Nat)) "java/lang/String" "coder" "B") (Jvm.Term.int (0 : Int32))) (by decide +kernel))
      · exact (hf 1040 (Jvm.Cond.eq (Jvm.Term.field (Jvm.Term.string "TwocoinModel" (238 : Nat)) "java/lang/String" "coder" "B") (Jvm.Term.int (0 : Int32))) (by decide +kernel)))
    (fun i hi => by
      rcases (show i = 0 ∨ i = 1 by omega) with rfl | rfl
      · exact (hf 1017 (Jvm.Cond.arrayOf (Jvm.Term.field (Jvm.Term.string "TwocoinModel" (226 : Nat)) "java/lang/String" "value" "[B") Jvm.ClassFile.FieldType.byte) (by decide +kernel))
      · exact (hf 1041 (Jvm.Cond.arrayOf (Jvm.Term.field (Jvm.Term.string "TwocoinModel" (238 : Nat)) "java/lang/String" "value" "[B") Jvm.ClassFile.FieldType.byte) (by decide +kernel)))
    (fun i hi => by
      rcases (show i = 0 ∨ i = 1 by omega) with rfl | rfl
      · exact (hf 1018 (Jvm.Cond.eq (Jvm.Term.length (Jvm.Term.field (Jvm.Term.string "TwocoinModel" (226 : Nat)) "java/lang/String" "value" "[B")) (Jvm.Term.int (0 : Int32))) (by decide +kernel))
      · exact (hf 1042 (Jvm.Cond.eq (Jvm.Term.length (Jvm.Term.field (Jvm.Term.string "TwocoinModel" (238 : Nat)) "java/lang/String" "value" "[B")) (Jvm.Term.int (1 : Int32))) (by decide +kernel)))
    (fun i hi => by
      rcases (show i = 0 ∨ i = 1 by omega) with rfl | rfl
      · exact fun j hj => absurd hj (Nat.not_lt_zero j)
      · intro j hj
        have hj : j < 1 := hj
        obtain rfl : j = 0 := by omega
        exact (hf 1043 (Jvm.Cond.eq (Jvm.Term.elem (Jvm.Term.field (Jvm.Term.string "TwocoinModel" (238 : Nat)) "java/lang/String" "value" "[B") (Jvm.Term.int (0 : Int32))) (Jvm.Term.int (42 : Int32))) (by decide +kernel)))
    (fun i j hi hj n => by
      rcases (show i = 0 ∨ i = 1 by omega) with rfl | rfl
      · rcases (show j = 0 ∨ j = 1 by omega) with rfl | rfl
        · exact absurd rfl n
        · exact Or.inl (hf 1064 (Jvm.Cond.not (Jvm.Cond.eq (Jvm.Term.string "TwocoinModel" (226 : Nat)) (Jvm.Term.string "TwocoinModel" (238 : Nat)))) (by decide +kernel))
      · rcases (show j = 0 ∨ j = 1 by omega) with rfl | rfl
        · exact Or.inr (hf 1064 (Jvm.Cond.not (Jvm.Cond.eq (Jvm.Term.string "TwocoinModel" (226 : Nat)) (Jvm.Term.string "TwocoinModel" (238 : Nat)))) (by decide +kernel))
        · exact absurd rfl n) hA
  exact ⟨adK, adV, h1, h2 0 (by decide), h2 1 (by decide)⟩
theorem st_strs {s : State} {args : Array Value} (hf : ∀ (i : Nat) (w : Jvm.Cond), lw_T0[i]? = some w → w.before args s = true) : ∃ ad : Nat → Nat, ∀ i, i < 19 → ∀ q : String × Nat × String, tw_strs[i]? = some q → (Term.string q.1 q.2.1).eval args s none [] s = some (.ref (ad i)) := by
  have h0 : ∀ i : Nat, ∃ a : Nat, i < 19 → ∀ q : String × Nat × String, tw_strs[i]? = some q → (Term.string q.1 q.2.1).eval args s none [] s = some (.ref a) := by
    intro i
    match i with
    | 0 => obtain ⟨a, c, cA, kA, q1, -⟩ := Cond.exactly_spec (args := args) (first := s) (o := none) (s := s) (idx := []) (t := .string "Twocoin" 399) (cls := "java/lang/String") (hf 335 (Jvm.Cond.exactly (Jvm.Term.string "Twocoin" (399 : Nat)) "java/lang/String") (by decide +kernel)); exact ⟨a, fun _ q hq => by cases hq; exact q1⟩
    | 1 => obtain ⟨a, c, cA, kA, q1, -⟩ := Cond.exactly_spec (args := args) (first := s) (o := none) (s := s) (idx := []) (t := .string "Twocoin" 62) (cls := "java/lang/String") (hf 367 (Jvm.Cond.exactly (Jvm.Term.string "Twocoin" (62 : Nat)) "java/lang/String") (by decide +kernel)); exact ⟨a, fun _ q hq => by cases hq; exact q1⟩
    | 2 => obtain ⟨a, c, cA, kA, q1, -⟩ := Cond.exactly_spec (args := args) (first := s) (o := none) (s := s) (idx := []) (t := .string "Twocoin" 391) (cls := "java/lang/String") (hf 399 (Jvm.Cond.exactly (Jvm.Term.string "Twocoin" (391 : Nat)) "java/lang/String") (by decide +kernel)); exact ⟨a, fun _ q hq => by cases hq; exact q1⟩
    | 3 => obtain ⟨a, c, cA, kA, q1, -⟩ := Cond.exactly_spec (args := args) (first := s) (o := none) (s := s) (idx := []) (t := .string "Twocoin" 402) (cls := "java/lang/String") (hf 420 (Jvm.Cond.exactly (Jvm.Term.string "Twocoin" (402 : Nat)) "java/lang/String") (by decide +kernel)); exact ⟨a, fun _ q hq => by cases hq; exact q1⟩
    | 4 => obtain ⟨a, c, cA, kA, q1, -⟩ := Cond.exactly_spec (args := args) (first := s) (o := none) (s := s) (idx := []) (t := .string "Twocoin" 404) (cls := "java/lang/String") (hf 440 (Jvm.Cond.exactly (Jvm.Term.string "Twocoin" (404 : Nat)) "java/lang/String") (by decide +kernel)); exact ⟨a, fun _ q hq => by cases hq; exact q1⟩
    | 5 => obtain ⟨a, c, cA, kA, q1, -⟩ := Cond.exactly_spec (args := args) (first := s) (o := none) (s := s) (idx := []) (t := .string "Twocoin" 115) (cls := "java/lang/String") (hf 465 (Jvm.Cond.exactly (Jvm.Term.string "Twocoin" (115 : Nat)) "java/lang/String") (by decide +kernel)); exact ⟨a, fun _ q hq => by cases hq; exact q1⟩
    | 6 => obtain ⟨a, c, cA, kA, q1, -⟩ := Cond.exactly_spec (args := args) (first := s) (o := none) (s := s) (idx := []) (t := .string "Twocoin" 117) (cls := "java/lang/String") (hf 503 (Jvm.Cond.exactly (Jvm.Term.string "Twocoin" (117 : Nat)) "java/lang/String") (by decide +kernel)); exact ⟨a, fun _ q hq => by cases hq; exact q1⟩
    | 7 => obtain ⟨a, c, cA, kA, q1, -⟩ := Cond.exactly_spec (args := args) (first := s) (o := none) (s := s) (idx := []) (t := .string "Twocoin" 122) (cls := "java/lang/String") (hf 531 (Jvm.Cond.exactly (Jvm.Term.string "Twocoin" (122 : Nat)) "java/lang/String") (by decide +kernel)); exact ⟨a, fun _ q hq => by cases hq; exact q1⟩
    | 8 => obtain ⟨a, c, cA, kA, q1, -⟩ := Cond.exactly_spec (args := args) (first := s) (o := none) (s := s) (idx := []) (t := .string "Twocoin" 393) (cls := "java/lang/String") (hf 567 (Jvm.Cond.exactly (Jvm.Term.string "Twocoin" (393 : Nat)) "java/lang/String") (by decide +kernel)); exact ⟨a, fun _ q hq => by cases hq; exact q1⟩
    | 9 => obtain ⟨a, c, cA, kA, q1, -⟩ := Cond.exactly_spec (args := args) (first := s) (o := none) (s := s) (idx := []) (t := .string "Twocoin" 138) (cls := "java/lang/String") (hf 592 (Jvm.Cond.exactly (Jvm.Term.string "Twocoin" (138 : Nat)) "java/lang/String") (by decide +kernel)); exact ⟨a, fun _ q hq => by cases hq; exact q1⟩
    | 10 => obtain ⟨a, c, cA, kA, q1, -⟩ := Cond.exactly_spec (args := args) (first := s) (o := none) (s := s) (idx := []) (t := .string "Twocoin" 147) (cls := "java/lang/String") (hf 629 (Jvm.Cond.exactly (Jvm.Term.string "Twocoin" (147 : Nat)) "java/lang/String") (by decide +kernel)); exact ⟨a, fun _ q hq => by cases hq; exact q1⟩
    | 11 => obtain ⟨a, c, cA, kA, q1, -⟩ := Cond.exactly_spec (args := args) (first := s) (o := none) (s := s) (idx := []) (t := .string "Twocoin" 149) (cls := "java/lang/String") (hf 658 (Jvm.Cond.exactly (Jvm.Term.string "Twocoin" (149 : Nat)) "java/lang/String") (by decide +kernel)); exact ⟨a, fun _ q hq => by cases hq; exact q1⟩
    | 12 => obtain ⟨a, c, cA, kA, q1, -⟩ := Cond.exactly_spec (args := args) (first := s) (o := none) (s := s) (idx := []) (t := .string "Twocoin" 171) (cls := "java/lang/String") (hf 702 (Jvm.Cond.exactly (Jvm.Term.string "Twocoin" (171 : Nat)) "java/lang/String") (by decide +kernel)); exact ⟨a, fun _ q hq => by cases hq; exact q1⟩
    | 13 => obtain ⟨a, c, cA, kA, q1, -⟩ := Cond.exactly_spec (args := args) (first := s) (o := none) (s := s) (idx := []) (t := .string "Twocoin" 191) (cls := "java/lang/String") (hf 745 (Jvm.Cond.exactly (Jvm.Term.string "Twocoin" (191 : Nat)) "java/lang/String") (by decide +kernel)); exact ⟨a, fun _ q hq => by cases hq; exact q1⟩
    | 14 => obtain ⟨a, c, cA, kA, q1, -⟩ := Cond.exactly_spec (args := args) (first := s) (o := none) (s := s) (idx := []) (t := .string "Twocoin" 395) (cls := "java/lang/String") (hf 786 (Jvm.Cond.exactly (Jvm.Term.string "Twocoin" (395 : Nat)) "java/lang/String") (by decide +kernel)); exact ⟨a, fun _ q hq => by cases hq; exact q1⟩
    | 15 => obtain ⟨a, c, cA, kA, q1, -⟩ := Cond.exactly_spec (args := args) (first := s) (o := none) (s := s) (idx := []) (t := .string "Twocoin" 211) (cls := "java/lang/String") (hf 816 (Jvm.Cond.exactly (Jvm.Term.string "Twocoin" (211 : Nat)) "java/lang/String") (by decide +kernel)); exact ⟨a, fun _ q hq => by cases hq; exact q1⟩
    | 16 => obtain ⟨a, c, cA, kA, q1, -⟩ := Cond.exactly_spec (args := args) (first := s) (o := none) (s := s) (idx := []) (t := .string "Twocoin" 219) (cls := "java/lang/String") (hf 870 (Jvm.Cond.exactly (Jvm.Term.string "Twocoin" (219 : Nat)) "java/lang/String") (by decide +kernel)); exact ⟨a, fun _ q hq => by cases hq; exact q1⟩
    | 17 => obtain ⟨a, c, cA, kA, q1, -⟩ := Cond.exactly_spec (args := args) (first := s) (o := none) (s := s) (idx := []) (t := .string "Twocoin" 227) (cls := "java/lang/String") (hf 909 (Jvm.Cond.exactly (Jvm.Term.string "Twocoin" (227 : Nat)) "java/lang/String") (by decide +kernel)); exact ⟨a, fun _ q hq => by cases hq; exact q1⟩
    | 18 => obtain ⟨a, c, cA, kA, q1, -⟩ := Cond.exactly_spec (args := args) (first := s) (o := none) (s := s) (idx := []) (t := .string "Twocoin" 241) (cls := "java/lang/String") (hf 942 (Jvm.Cond.exactly (Jvm.Term.string "Twocoin" (241 : Nat)) "java/lang/String") (by decide +kernel)); exact ⟨a, fun _ q hq => by cases hq; exact q1⟩
    | k + 19 => exact ⟨0, fun h => absurd h (by omega)⟩
  exact Classical.axiomOfChoice h0
theorem st_refs {s : State} {args : Array Value} (hT : ∀ w ∈ TW, w.before args s = true) (hts : ∀ w ∈ lw_tbl, w.before args s = true) : ∀ (i : Nat) (q : String × Nat × String), tw_strs[i]? = some q → (Cond.stringRef q.1 q.2.1 q.2.2).before args s = true := by
  intro i q hq
  match i, hq with
  | 0, hq => cases hq; exact hts _ w_443
  | 1, hq => cases hq; exact hts _ w_480
  | 2, hq => cases hq; exact hts _ w_559
  | 3, hq => cases hq; exact hts _ w_576
  | 4, hq => cases hq; exact hts _ w_602
  | 5, hq => cases hq; exact hts _ w_615
  | 6, hq => cases hq; exact hts _ w_623
  | 7, hq => cases hq; exact hts _ w_631
  | 8, hq => cases hq; exact hts _ w_668
  | 9, hq => cases hq; exact hts _ w_669
  | 10, hq => cases hq; exact hts _ w_670
  | 11, hq => cases hq; exact hts _ w_678
  | 12, hq => cases hq; exact hts _ w_694
  | 13, hq => cases hq; exact hts _ w_714
  | 14, hq => cases hq; exact hts _ w_751
  | 15, hq => cases hq; exact hts _ w_752
  | 16, hq => cases hq; exact hts _ w_753
  | 17, hq => cases hq; exact hts _ w_761
  | 18, hq => cases hq; exact hts _ w_774
  | 19, hq => cases hq; exact hts _ w_1541
  | 20, hq => cases hq; exact hts _ w_1546
  | k + 21, hq => cases hq
theorem st_all {s : State} {b L : Nat} {xs : Nat → Int32} (hts : ∀ w ∈ lw_tbl, w.before #[Value.ref b] s = true) (hX : va_X b L xs s s.heap) (hbl : b < s.heap.size) (hgv : (Jvm.Cond.and given_1 narrow_1).before #[Value.ref b] s = true) : ∃ d : tw_D, d.2 97 = L ∧ d.2 98 = b ∧ d.2 100 = s.heap.size ∧ va_K d.1 vwCl (tw_tys d) s ∧ tw_St d s s.heap := by
  have hT : ∀ w ∈ TW, w.before #[Value.ref b] s = true := fun w h => hts w (List.mem_filter.mp h).1
  have hN : ∀ w ∈ tw_NG, w.before #[Value.ref b] s = true := fun w h => hts w (List.mem_filter.mp h).1
  have hf : ∀ (i : Nat) (w : Jvm.Cond), lw_T0[i]? = some w → w.before #[Value.ref b] s = true := fun i w h => flat_of_before _ hgv w (List.mem_of_getElem? h)
  have hA : ∀ a : Nat, a < s.heap.size → ¬ s.heap.size ≤ a := fun a h => Nat.not_le.mpr h
  obtain ⟨G, hG⟩ := st_cls hT
  obtain ⟨c0, k0⟩ := st_int (args := #[Value.ref b]) (s := s) (hT _ w_500)
  obtain ⟨c1, k1⟩ := st_long (args := #[Value.ref b]) (s := s) (hT _ w_1150)
  obtain ⟨c2, k2⟩ := st_boolean (args := #[Value.ref b]) (s := s) (hT _ w_1233)
  obtain ⟨c3, k3⟩ := st_byte (args := #[Value.ref b]) (s := s) (hT _ w_469)
  have a4 : va_AO "Twocoin$Country" s := va_AO.of (A := #[Value.ref b]) (hts _ w_120)
  have a5 : va_AO "Twocoin$House" s := va_AO.of (A := #[Value.ref b]) (hts _ w_122)
  have a6 : va_AO "Twocoin$Debt" s := va_AO.of (A := #[Value.ref b]) (hts _ w_124)
  have a7 : va_AO "java/lang/Object" s := va_AO.of (A := #[Value.ref b]) (hts _ w_1280)
  have a8 : va_AOA .int s := (hts _ w_1120)
  obtain ⟨c4, k4⟩ := st_obj a4
  obtain ⟨c5, k5⟩ := st_obj a5
  obtain ⟨c6, k6⟩ := st_obj a6
  obtain ⟨c7, k7⟩ := st_obj a7
  obtain ⟨c8, k8⟩ := st_aoa a8
  obtain ⟨t1, p1, p2⟩ := st_pounds hts hT hf (fun q => s.heap.size ≤ q) hA
  obtain ⟨t2, e1, e2⟩ := st_edat hts hT hf (fun q => s.heap.size ≤ q) hA
  obtain ⟨t3, o1, o2⟩ := st_ones hts hT hf (fun q => s.heap.size ≤ q) hA
  obtain ⟨t4, u1, u2⟩ := st_tens hts hT hf (fun q => s.heap.size ≤ q) hA
  obtain ⟨adK, adV, v1, v2, v3⟩ := st_strs2 hf (fun q => s.heap.size ≤ q) hA
  obtain ⟨ad, had⟩ := st_strs hf
  obtain ⟨sc, hsc⟩ := Classical.axiomOfChoice (fun j => i32_of (xs j))
  obtain ⟨d2, f0, f97, f98, f100, f101, f102, f103, f104, f105, f200, f219, f1000⟩ := d2_of (fun i => match i with | 0 => c0 | 1 => c1 | 2 => c2 | 3 => c3 | 4 => c4 | 5 => c5 | 6 => c6 | 7 => c7 | _ => c8) L b s.heap.size t1 t2 t3 t4 adV ad adK sc
  have hAd : tw_A (G, d2) = fun q => s.heap.size ≤ q := by
    funext q
    show (d2 100 ≤ q) = _
    rw [f100]
  refine ⟨(G, d2), f97, f98, f100, ⟨hG, ?_⟩, ?_⟩
  · intro k q hq
    have g0 := f0 0 (by decide)
    have g1 := f0 1 (by decide)
    have g2 := f0 2 (by decide)
    have g3 := f0 3 (by decide)
    have g4 := f0 4 (by decide)
    have g5 := f0 5 (by decide)
    have g6 := f0 6 (by decide)
    have g7 := f0 7 (by decide)
    have g8 := f0 8 (by decide)
    unfold tw_tys at hq
    dsimp only at hq g0 g1 g2 g3 g4 g5 g6 g7 g8
    rw [g0, g1, g2, g3, g4, g5, g6, g7, g8] at hq
    match k, hq with
    | 0, hq => cases hq; exact k0
    | 1, hq => cases hq; exact k1
    | 2, hq => cases hq; exact k2
    | 3, hq => cases hq; exact k3
    | 4, hq => cases hq; exact k4
    | 5, hq => cases hq; exact k5
    | 6, hq => cases hq; exact k6
    | 7, hq => cases hq; exact k7
    | 8, hq => cases hq; exact k8
    | k + 9, hq => cases hq
  · unfold tw_St tw_Xs
    rw [hAd]
    dsimp only
    rw [f101, f102, f103, f104, f97, f98]
    refine ⟨fun w hw => va_tabs (tw_ngt hw) rfl (hN w hw), fun i q hi => ?_, vx_Zqof (hts _ w_429) (hT _ w_84) (hf 4 (Jvm.Cond.isRef (Jvm.Term.static "java/lang/Throwable" "UNASSIGNED_STACK" "[Ljava/lang/StackTraceElement;")) (by decide +kernel)) hA, vx_Zqof (hts _ w_431) (hT _ w_84) (hf 5 (Jvm.Cond.isRef (Jvm.Term.static "java/lang/Throwable" "SUPPRESSED_SENTINEL" "Ljava/util/List;")) (by decide +kernel)) hA, ⟨p1, p2⟩, ⟨e1, e2⟩, ⟨va_Zof (hts _ w_832) (hT _ w_106) (va_eqt (hf 6 (Jvm.Cond.eq (Jvm.Term.static "java/lang/String" "COMPACT_STRINGS" "Z") (Jvm.Term.int (1 : Int32))) (by decide +kernel))) hA, a8, ⟨o1, o2⟩, ⟨u1, u2⟩, vk_S.congr v1 f219 f105, ?_, ⟨va_Nc.of (hf 268 (Jvm.Cond.not (Jvm.Cond.castable "java/lang/IllegalArgumentException" "java/lang/IndexOutOfBoundsException")) (by decide +kernel)), va_Nc.of (hf 269 (Jvm.Cond.not (Jvm.Cond.castable "java/lang/IllegalStateException" "java/lang/IndexOutOfBoundsException")) (by decide +kernel)), va_Nc.of (hf 234 (Jvm.Cond.not (Jvm.Cond.castable "java/lang/IllegalStateException" "java/lang/IllegalArgumentException")) (by decide +kernel))⟩, ?_⟩, ⟨a4, a5, a6, a7⟩, ?_, ?_⟩
    · have r := st_refs hT hts i q hi
      rcases Nat.lt_or_ge i 19 with h19 | h19
      · rw [f200 i h19]
        exact vk_R.of r (had i h19 q hi)
      · obtain ⟨j, rfl⟩ : ∃ j, i = 19 + j := ⟨i - 19, by omega⟩
        match j, hi, r with
        | 0, hi, r => cases hi; exact vk_R.of r (by rw [show d2 (200 + (19 + 0)) = adK 0 from f219 0 (by decide)]; exact v2)
        | 1, hi, r => cases hi; exact vk_R.of r (by rw [show d2 (200 + (19 + 1)) = adK 1 from f219 1 (by decide)]; exact v3)
        | k + 2, hi, r => exact absurd hi (by rw [show 19 + (k + 2) = k + 21 by omega]; intro h; cases h)
    · intro x hx
      rcases List.mem_cons.mp hx with rfl | hx
      · exact va_tabs rfl rfl (hts _ w_864)
      rcases List.mem_cons.mp hx with rfl | hx
      · exact va_tabs rfl rfl (hts _ w_1045)
      rcases List.mem_cons.mp hx with rfl | hx
      · exact va_tabs rfl rfl (hts _ w_1049)
      cases hx
    · obtain ⟨scr, x1, x2, x3, x4, x5⟩ := hX
      exact ⟨scr, x1, x2, x3, Nat.le_of_eq x4.symm, by rw [x4], fun j hj => by show scr.slots[j]? = some (.int (Int32.ofNat (d2 (1000 + j)))); rw [f1000 j, hsc j]; exact x5 j hj, hA b hbl⟩
    · exact va_Fw.of (hN _ w_1408) (hts _ w_1407) (hts _ w_1413) (hts _ w_1411) (hN _ w_1409)
    · exact va_Fw.of (hN _ w_1418) (hts _ w_1417) (hts _ w_1422) (hts _ w_1420) (hN _ w_1409)

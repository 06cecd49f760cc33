/-! the grid int[4][4], and a constructor's lists -/
section
variable {d : tw_D} {M : tw_M} {Q : tw_O → tw_H → Prop} {pc : Nat} {lv : List (Nat × Value)} {st : List Value} {h : tw_H} {c n : Nat}
def tw_row (d : tw_D) : va_E := .inl (d.2 0, 4, .inl (fun _ => 0))
def tw_grid (d : tw_D) (r : Nat → Nat) : va_E := .inl (d.2 8, 4, .inr (.inr (.inr (.inr (fun i => if i < 4 then some (r i) else none)))))
theorem tw_mna {ix : Nat} (hd : decode M.2.1 pc = .ok (.multianewarray ix 2, 4)) (hw : Cond.classLink M.1.cls ix "[[I" ∈ TW) (hw2 : Cond.arrayClass .int ∈ TW) (c2 n2 : Nat) (hc2 : c2 + 5 ≤ c) (hn2 : n2 + 20 ≤ n)
    (kk : ∀ (q : Nat) (r : Nat → Nat) (h1 : tw_H), h q = none → (∀ i, i < 4 → h (r i) = none ∧ r i ≠ q) → (∀ i j, i < 4 → j < 4 → r i = r j → i = j) → h1 q = some (tw_grid d r) → (∀ i, i < 4 → h1 (r i) = some (tw_row d)) → (∀ b e, h b = some e → h1 b = some e) → tw_W d M Q (pc + 4) lv (.ref q :: st) h1 c2 n2) : tw_W d M Q pc lv (.int 4 :: .int 4 :: st) h c n := by
  intro p l e R s m args below meth cd H locs ls cells slots X hl hh hS hc hn
  obtain ⟨hx, hb, hml, hr, hown, hts, hlocks, hname, hlt, hno, hRf, hRl, hK, hSt, hbase⟩ := id X
  obtain ⟨ws, hP, hD, hw9⟩ := id hh
  have hP0 : va_P d.1 vwCl (ws ++ va_pl [] (fun _ => tw_row d)) H := by simpa [va_pl] using hP
  have hD0 : va_D (tw_A d) (ws ++ va_pl [] (fun _ => tw_row d)) := by simpa [va_pl] using hD
  refine va_mna (X := ws) (L := []) (f := fun _ => tw_row d) (ty := .int) (cy := d.2 0) (z := (4, .inl (fun _ => 0))) (N' := 4) (K' := 4) hx hb hown (hts _ (List.mem_cons_of_mem _ hw)) hSt.2.2.2.2.2.2.1.2.1 (hts _ (List.mem_cons_of_mem _ hw2)) (hK.2 0 (d.2 0, .int) rfl).2 hK hP0 hD0 hS (fun q hq => Nat.le_trans hbase hq) (by decide) (by decide) rfl rfl (by decide) (by decide) (by decide) rfl rfl (by omega) (by omega) (fun _ => rfl) hd (fun q r cA H1 hinj hnL hK1 hP1 hD1 hS1 => ?_)
  have hcA : cA = d.2 8 := by
    have h1 := (hK1.2 (tw_tys d).length (cA, .array .int) (by simp)).2
    have h2 := (hK.2 8 (d.2 8, .array .int) rfl).2
    exact Option.some.inj (Eq.trans (Eq.symm h1) h2)
  subst hcA
  have hg : ∃ k : Nat, ((ws ++ [(q, tw_grid d r)]) ++ va_pl ([] ++ (List.range 4).map r) (vr_up (fun _ => tw_row d) ((List.range 4).map r) (tw_row d)))[k]? = some (q, tw_grid d r) := List.getElem?_of_mem (List.mem_append_left _ (List.mem_append_right _ (List.mem_singleton.mpr rfl)))
  have hrow : ∀ i, i < 4 → ∃ k : Nat, ((ws ++ [(q, tw_grid d r)]) ++ va_pl ([] ++ (List.range 4).map r) (vr_up (fun _ => tw_row d) ((List.range 4).map r) (tw_row d)))[k]? = some (r i, tw_row d) := fun i hi => by
    apply List.getElem?_of_mem
    apply List.mem_append_right
    refine List.mem_map.mpr ⟨r i, List.mem_append_right _ (List.mem_map.mpr ⟨i, List.mem_range.mpr hi, rfl⟩), ?_⟩
    show (r i, vr_up _ _ _ _) = _
    unfold vr_up
    split <;> rfl
  have hold : ∀ b f, h b = some f → ∃ k : Nat, k < ws.length ∧ ((ws ++ [(q, tw_grid d r)]) ++ va_pl ([] ++ (List.range 4).map r) (vr_up (fun _ => tw_row d) ((List.range 4).map r) (tw_row d)))[k]? = some (b, f) := fun b f hb => by
    obtain ⟨k, hk⟩ := hw9 b f hb
    have hlt := (List.getElem?_eq_some_iff.mp hk).1
    exact ⟨k, hlt, by rw [List.append_assoc, List.getElem?_append_left hlt]; exact hk⟩
  have hq0 : h q = none := by
    cases z : h q with
    | none => rfl
    | some f =>
      obtain ⟨k, h1, h2⟩ := hold q f z
      have h3 : ((ws ++ [(q, tw_grid d r)]) ++ va_pl ([] ++ (List.range 4).map r) (vr_up (fun _ => tw_row d) ((List.range 4).map r) (tw_row d)))[ws.length]? = some (q, tw_grid d r) := by
        rw [List.append_assoc, List.getElem?_append_right (Nat.le_refl _)]
        simp
      have := hD1.1 _ _ _ _ h2 h3 rfl
      omega
  have hr0 : ∀ i, i < 4 → ∃ k : Nat, ws.length < k ∧ ((ws ++ [(q, tw_grid d r)]) ++ va_pl ([] ++ (List.range 4).map r) (vr_up (fun _ => tw_row d) ((List.range 4).map r) (tw_row d)))[k]? = some (r i, tw_row d) := fun i hi => by
    refine ⟨ws.length + 1 + i, by omega, ?_⟩
    rw [List.getElem?_append_right (by rw [List.length_append]; show ws.length + 1 ≤ _; omega)]
    have : ws.length + 1 + i - (ws ++ [(q, tw_grid d r)]).length = i := by rw [List.length_append]; show ws.length + 1 + i - (ws.length + 1) = i; omega
    rw [this]
    unfold va_pl vr_up
    simp [hi]
  refine kk q r (fun b => if b = q then some (tw_grid d r) else if b ∈ (List.range 4).map r then some (tw_row d) else h b) hq0 (fun i hi => ⟨?_, ?_⟩) hinj (if_pos rfl) (fun i hi => ?_) (fun b f hb => ?_) p l e R s m args below meth cd H1 locs ls (cells + 1 + 4) (slots + 4 + 4 * 4) X hl ⟨_, hP1, hD1, fun b f hb => ?_⟩ hS1 (by omega) (by omega)
  · cases z : h (r i) with
    | none => rfl
    | some f =>
      obtain ⟨k, h1, h2⟩ := hold _ f z
      obtain ⟨k2, h3, h4⟩ := hr0 i hi
      have := hD1.1 _ _ _ _ h2 h4 rfl
      omega
  · intro z
    obtain ⟨k2, h3, h4⟩ := hr0 i hi
    have h5 : ((ws ++ [(q, tw_grid d r)]) ++ va_pl ([] ++ (List.range 4).map r) (vr_up (fun _ => tw_row d) ((List.range 4).map r) (tw_row d)))[ws.length]? = some (q, tw_grid d r) := by
      rw [List.append_assoc, List.getElem?_append_right (Nat.le_refl _)]
      simp
    have := hD1.1 _ _ _ _ h4 h5 z
    omega
  · have hne : r i ≠ q := by
      intro z
      obtain ⟨k2, h3, h4⟩ := hr0 i hi
      have h5 : ((ws ++ [(q, tw_grid d r)]) ++ va_pl ([] ++ (List.range 4).map r) (vr_up (fun _ => tw_row d) ((List.range 4).map r) (tw_row d)))[ws.length]? = some (q, tw_grid d r) := by
        rw [List.append_assoc, List.getElem?_append_right (Nat.le_refl _)]
        simp
      have := hD1.1 _ _ _ _ h4 h5 z
      omega
    show (if r i = q then _ else _) = _
    rw [if_neg hne, if_pos (List.mem_map.mpr ⟨i, List.mem_range.mpr hi, rfl⟩)]
  · have h1 : b ≠ q := fun z => by rw [z, hq0] at hb; cases hb
    have h2 : b ∉ (List.range 4).map r := fun z => by
      obtain ⟨i, hi, rfl⟩ := List.mem_map.mp z
      obtain ⟨k, h1, h2⟩ := hold _ f hb
      obtain ⟨k2, h3, h4⟩ := hr0 i (List.mem_range.mp hi)
      have := hD1.1 _ _ _ _ h2 h4 rfl
      omega
    show (if b = q then _ else _) = _
    rw [if_neg h1, if_neg h2]
    exact hb
  · have hb : (if b = q then some (tw_grid d r) else if b ∈ (List.range 4).map r then some (tw_row d) else h b) = some f := hb
    by_cases z : b = q
    · rw [if_pos z] at hb
      cases hb
      rw [z]
      exact hg
    · rw [if_neg z] at hb
      by_cases z2 : b ∈ (List.range 4).map r
      · rw [if_pos z2] at hb
        cases hb
        obtain ⟨i, hi, rfl⟩ := List.mem_map.mp z2
        exact hrow i (List.mem_range.mp hi)
      · rw [if_neg z2] at hb
        obtain ⟨k, -, h2⟩ := hold b f hb
        exact ⟨k, h2⟩
end

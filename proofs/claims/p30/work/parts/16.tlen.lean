section
variable {d : tw_D} {M : tw_M} {Q : tw_O → tw_H → Prop} {pc : Nat} {lv : List (Nat × Value)} {st : List Value} {h : tw_H} {c n : Nat}
theorem tw_tlen {t N : Nat} {f : Nat → Value} {ty : FieldType} (hT : ∀ (s : State) (H : Heap), tw_St d s H → va_T ty t N f (tw_A d) s H) (hd : decode M.2.1 pc = .ok (.arraylength, 1)) (kk : tw_W d M Q (pc + 1) lv (.int (Int32.ofNat N) :: st) h c n) : tw_W d M Q pc lv (.ref t :: st) h c n := by
  intro p l e R s m args below meth cd H locs ls cells slots X hl hh hS hc hn
  obtain ⟨hx, hb, hml, hr, hown, hts, hlocks, hname, hlt, hno, hRf, hRl, hK, hSt, hbase⟩ := id X
  obtain ⟨cell, h1, h2, h3, h4, h5, h6, h7⟩ := (hT s _ hSt).kept hS.2.1
  exact W.alen hx hb h1 h2 h5 rfl rfl hd (kk p l e R s m args below meth cd H locs ls cells slots X hl hh hS hc hn)
end

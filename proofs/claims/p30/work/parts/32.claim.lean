/-! p30 at 093d0bd, by emptiness alone (REPORT.md, S1): no launch meets the claims' first condition, for the law's own method has handlers.
    This says NOTHING of the class; it is evidence for S1, not a proof of the property. -/
theorem nx_mem (y : MethodName) (b : ByteArray) (n : Nat) (r : Option ClassFile.FieldType) (ts : List Cond) (room : Room) :
    (y, b, n, r) ∈ (Jvm.D.headSpec (Cond.code y b n r :: ts) room).pre.codes ++ (Jvm.D.headSpec (Cond.code y b n r :: ts) room).post.codes := by
  simp [Jvm.D.headSpec, Jvm.D.allAtoms, Cond.codes]

theorem nx_any (l : Launch) (f : ClassFile.Facts.File) (y : MethodName) (b : ByteArray) (n : Nat) (r : Option ClassFile.FieldType)
    (h : l.file? y.cls = some f) (h1 : ((l.file? y.cls).any fun f => f.hasCode y b n r) = true) : f.hasCode y b n r = true := by
  rw [h] at h1
  exact h1

theorem nx_fall : classFile.hasCode x code maxLocals ret = false := by decide +kernel

theorem nx_empty (l : Launch) (h : Jvm.D.Lists l classFile x code maxLocals ret tables_1 room_1) : False := by
  have h1 := h.2.2.1.1 (x, code, maxLocals, ret) (nx_mem x code maxLocals ret tables_1 room_1)
  have h2 : ((l.file? x.cls).any fun f => f.hasCode x code maxLocals ret) = true := h1
  have h3 := nx_any l classFile x code maxLocals ret h.2.1 h2
  rw [nx_fall] at h3
  exact Bool.noConfusion h3

theorem i_vc : Claimed_1_1 ∧ Claimed_1_2 := by
  refine ⟨?_, ?_⟩
  · intro l hf hL hW
    exact (nx_empty l hL).elim
  · intro l hf hL hW
    exact (nx_empty l hL).elim

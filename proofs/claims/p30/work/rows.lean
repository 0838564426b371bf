section
/-! ===== why p30's printed modules don't compile: the law's entry has an exception table of three rows; the Statement names it by the word for a method without one ===== -/
/-- the file has another code for the law than the Statement says of it: not the bytes differ, but the exception table, which isn't empty -/
theorem e_plain : ClassFile.Facts.File.hasCode classFile x code maxLocals ret = false := by decide +kernel
/-- bytes, number of locals and answer's type are the file's, beside an exception table of three rows (catch type 65: IllegalStateException) -/
theorem e_with : ClassFile.Facts.File.hasCodeWith classFile x code maxLocals ret [(188, 254, 258, 65), (448, 479, 483, 65), (907, 998, 1002, 65)] = true := by decide +kernel
theorem e_mem : (x, code, maxLocals, ret) ∈ (headSpec (Cond.code x code maxLocals ret :: tables_1) room_1).pre.codes := by
  show (x, code, maxLocals, ret) ∈ (allAtoms (Cond.code x code maxLocals ret :: tables_1)).codes
  first
  | exact List.mem_append.mpr (Or.inl List.mem_cons_self)
  | exact List.mem_cons_self
  | simp [allAtoms, Cond.codes]
theorem e_gen {l : Launch} {F : ClassFile.Facts.File} {y : MethodName} {c : ByteArray} {n : Nat} {r : Option FieldType} (h1 : l.file? y.cls = some F) (h3 : ((l.file? y.cls).any fun f => f.hasCode y c n r) = true) : F.hasCode y c n r = true := by
  rw [h1] at h3
  exact h3
/-- no launch has what the Statement asks of it -/
theorem e_lists (l : Launch) : ¬ Lists l classFile x code maxLocals ret tables_1 room_1 := by
  intro h
  obtain ⟨-, h1, h2, -⟩ := h
  have h3 := e_gen h1 (h2.1 (x, code, maxLocals, ret) (List.mem_append.mpr (Or.inl e_mem)))
  rw [e_plain] at h3
  exact Bool.noConfusion h3
end
section
/-- true, and empty: no launch meets its premises (e_lists). It says nothing of the class -/
theorem i_vc : Claimed_1_1 ∧ Claimed_1_2 := ⟨fun l _ h _ => absurd h (e_lists l), fun l _ h _ => absurd h (e_lists l)⟩
end

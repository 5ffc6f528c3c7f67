section
-- NO PROOF of p27's words: these rows show that the statement as it is printed speaks of no launch at all.
-- Its head says of the law's entry that its code has no exception table; the law's class file has one there (one row: a catch).
theorem p27_nocode : Jvm.ClassFile.Facts.File.hasCode classFile x code maxLocals ret = false := by decide +kernel
theorem p27_nolaunch (l : Launch) : ¬ Jvm.D.Lists l classFile x code maxLocals ret tables_1 room_1 := by
  intro h
  obtain ⟨-, hf, hL, -⟩ := h
  have h1 := hL.1 (x, code, maxLocals, ret) (List.mem_append_left _ (List.mem_append_left _ (List.mem_singleton.mpr rfl)))
  have hf' : l.file? x.cls = some classFile := hf
  simp only [hf', Option.any_some, p27_nocode] at h1
  exact absurd h1 (by decide)
theorem i_vc : Claimed_1_1 ∧ Claimed_1_2 := ⟨fun l _ h _ => absurd h (p27_nolaunch l), fun l _ h _ => absurd h (p27_nolaunch l)⟩
end

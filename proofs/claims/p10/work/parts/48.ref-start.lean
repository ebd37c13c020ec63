/-! A START OF THE STATEMENT WITH THIS SCRIPT: the witness's, its script put anew. So the claim itself is false. -/
def badV : Array Value := (badS.map Value.int).toArray
def badA : State := start1.aboutOf badV
theorem bad_vm : start1.about.vm = badA.vm := rfl
set_option maxRecDepth 100000 in
theorem bad_heapwords : (Cond.code x code maxLocals ret :: tables_1).all (fun c => c.onTables || c.before start1.args0 badA) = true := by decide +kernel
theorem bad_words : ∀ c ∈ (Cond.code x code maxLocals ret :: tables_1), c.before start1.args0 badA = true := by
  intro c hc
  cases ho : c.onTables with
  | true => exact va_tabs ho bad_vm (start1.words c hc)
  | false =>
    have h := List.all_eq_true.mp bad_heapwords c hc
    rw [ho, Bool.false_or] at h
    exact h
set_option maxRecDepth 100000 in
theorem bad_start : AtStart classFile x code maxLocals ret World_1 tables_1 room_1 Calls_1 rest_1 Pre_1 launch0 start1.p0 start1.e0 badA ⟨0, 0⟩ start1.args0 Lib.HandBits.below0 := by
  have hroom := launch0.hasRoom_least badA room_1 (by decide +kernel) (by decide +kernel) (by decide +kernel) (by decide +kernel) (by decide +kernel) (by decide +kernel)
  have happ : (headSpec (Cond.code x code maxLocals ret :: tables_1) room_1).applies x start1.e0.platform badA = true := (Spec.applies_iff rfl).mpr ⟨rfl, rfl, rfl, by decide +kernel, by decide +kernel, by decide +kernel, hroom, atoms_intro bad_words⟩
  have hrest : rest_1_c.before start1.args0 badA = true := by decide +kernel
  have hpre : (Cond.and given_1 narrow_1).before start1.args0 badA = true := by decide +kernel
  exact ⟨lists_1, trivial, launch0.admits_env _ _ _, launch0.least_env, fairChoices_fair.cas, fairChoices_fair.clock, rfl, by decide +kernel, by decide +kernel, happ, trivial, hrest, hpre⟩
set_option maxRecDepth 100000 in
theorem bad_ints : badA.IntsAt 0 badS := ⟨_, rfl, rfl, ⟨(fun _ h => nomatch h), _, rfl, _, rfl⟩, by decide +kernel⟩
/-- THE CLAIM IS FALSE -/
theorem p10_refuted : ¬ (Claimed_1_1 ∧ Claimed_1_2) := fun h => p10_false h.2 rfl bad_start 0 rfl bad_ints

/-! the closed refutation: the printed witness's own start (start1), its script four zeros instead -/
def st2 : State := start1.aboutOf #[.int 0, .int 0, .int 0, .int 0]
set_option maxRecDepth 16384 in
theorem tabs2 : (Jvm.Cond.code x code maxLocals ret :: tables_1).all (fun w => w.onTables || w.before start1.args0 st2) = true := by decide +kernel
/-- the tables are the same, so the tables' words are -/
theorem words2 : ∀ w ∈ (Jvm.Cond.code x code maxLocals ret :: tables_1), w.before start1.args0 st2 = true := by
  intro w h
  have h1 := List.all_eq_true.mp tabs2 w h
  rw [Bool.or_eq_true] at h1
  rcases h1 with h1 | h1
  · exact va_Nw.use h1 (va_Nw.same h1 (u := start1.about) (U := st2) rfl (va_Nw.of h1 (start1.words w h)))
  · exact h1
set_option maxRecDepth 16384 in
theorem atStart2 : AtStart classFile x code maxLocals ret World_1 tables_1 room_1 Calls_1 rest_1 Pre_1 launch0 start1.p0 start1.e0 st2 ⟨0, 0⟩ start1.args0 Lib.HandBits.below0 :=
  ⟨lists_1, trivial, launch0.admits_env _ _ _, launch0.least_env, fairChoices_fair.cas, fairChoices_fair.clock, rfl, by decide +kernel, by decide +kernel,
    (Spec.applies_iff rfl).mpr ⟨rfl, rfl, rfl, by decide +kernel, by decide +kernel, by decide +kernel, launch0.hasRoom_least _ room_1 (by decide +kernel) (by decide +kernel) (by decide +kernel) (by decide +kernel) (by decide +kernel) (by decide +kernel), atoms_intro words2⟩,
    trivial, (show rest_1_c.before start1.args0 st2 = true by decide +kernel), (show (Jvm.Cond.and given_1 narrow_1).before start1.args0 st2 = true by decide +kernel)⟩
theorem room2 : st2.hasRoom start1.e0.platform R2 = true := launch0.hasRoom_least _ R2 (by decide +kernel) (by decide +kernel) (by decide +kernel) (by decide +kernel) (by decide +kernel) (by decide +kernel)
theorem ints2 : st2.IntsAt 0 [0, 0, 0, 0] := ⟨{ cls := 17, slots := #[.int 0, .int 0, .int 0, .int 0], vm := .none }, rfl, rfl, ⟨(by intro k h; cases h), start1.cArr "[I" 16 .int, rfl, 16, rfl⟩, by decide⟩
theorem p25_false_1 : ¬ Claimed_1_1 := p25_falls (l := launch0) rfl atStart2 room2 rfl ints2 (by decide) (by decide) (fun j hj => by rcases (show j = 0 ∨ j = 1 ∨ j = 2 ∨ j = 3 by omega) with rfl | rfl | rfl | rfl <;> rfl)
/-- what p25 owes is false -/
theorem p25_false : ¬ (Claimed_1_1 ∧ Claimed_1_2) := fun h => p25_false_1 h.1

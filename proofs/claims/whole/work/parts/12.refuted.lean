set_option maxRecDepth 16384
theorem start2.args_fit : argsFit start2.about.vm ⟨0, 0⟩ start2.args0 = true := by decide +kernel
theorem start2.heap_fit : heapFits start2.about = true := by decide +kernel
theorem start2.rest_holds : rest_1_c.before start2.args0 start2.about = true := by decide +kernel
theorem start2.pre_holds : (Cond.and given_1 narrow_1).before start2.args0 start2.about = true := by decide +kernel
theorem start2.atStart : AtStart classFile x code maxLocals ret World_1 tables_1 room_1 Calls_1 rest_1 Pre_1 launch0 start2.p0 start2.e0 start2.about ⟨0, 0⟩ start2.args0 Lib.HandBits.below0 :=
  ⟨lv_lists_1, trivial, launch0.admits_env _ _ _, launch0.least_env, fairChoices_fair.cas, fairChoices_fair.clock, rfl, start2.args_fit, start2.heap_fit,
    (Spec.applies_iff rfl).mpr ⟨rfl, rfl, rfl, by decide +kernel, by decide +kernel, by decide +kernel, launch0.hasRoom_least _ room_1 (by decide +kernel) (by decide +kernel) (by decide +kernel) (by decide +kernel) (by decide +kernel) (by decide +kernel), atoms_intro start2.words⟩,
    trivial, start2.rest_holds, start2.pre_holds⟩
theorem start2.big : (headSpec (Jvm.Cond.code x code maxLocals ret :: tables_1) room_big).applies x start2.e0.platform start2.about = true :=
  (Spec.applies_iff rfl).mpr ⟨rfl, rfl, rfl, by decide +kernel, by decide +kernel, by decide +kernel, launch0.hasRoom_least _ room_big (by decide +kernel) (by decide +kernel) (by decide +kernel) (by decide +kernel) (by decide +kernel) (by decide +kernel), atoms_intro start2.words⟩
theorem start2.arr : start2.about.isArrayOf { cls := 55, slots := start2.cells0, vm := .none } .int :=
  ⟨fun k h => by cases h, { start2.cArr "[I" 54 .int with interfaces := #[26] }, rfl, 54, rfl⟩
theorem start2.script : start2.about.IntsAt 0 start2.ints :=
  ⟨{ cls := 55, slots := start2.cells0, vm := .none }, rfl, rfl, start2.arr, by decide +kernel⟩
theorem start2.long : start2.ints.length = 6656 := by decide +kernel
theorem start2.calls : big_sc (fun j => start2.ints.getD j 0) := by
  unfold big_sc
  decide +kernel
/-- THE STATEMENT IS FALSE: Claimed_1_1 does not hold, and so not both -/
theorem whole_refuted : ¬ Claimed_1_1 := whole_false (l := launch0) rfl start2.atStart start2.big start2.script start2.long start2.calls
theorem whole_refuted2 : ¬ (Claimed_1_1 ∧ Claimed_1_2) := fun h => whole_refuted h.1

set_option maxRecDepth 16384
theorem sv_rep (l : List Int32) (k : Nat) (hk : l.length = k) : ∀ (n N j : Nat), n < N → j < k → (List.replicate N l).flatten[k * n + j]? = l[j]? := by
  intro n
  induction n with
  | zero =>
    intro N j hn hj
    obtain ⟨M, rfl⟩ : ∃ M, N = M + 1 := ⟨N - 1, by omega⟩
    rw [List.replicate_succ, List.flatten_cons, Nat.mul_zero, Nat.zero_add, List.getElem?_append_left (by omega)]
  | succ n ih =>
    intro N j hn hj
    obtain ⟨M, rfl⟩ : ∃ M, N = M + 1 := ⟨N - 1, by omega⟩
    rw [List.replicate_succ, List.flatten_cons, List.getElem?_append_right (by rw [hk, Nat.mul_succ]; omega), hk, show k * (n + 1) + j - k = k * n + j by rw [Nat.mul_succ]; omega]
    exact ih M j (by omega) hj
theorem sv_at (n j : Nat) (v : Int32) (hn : n < 512) (hj : j < 13) (hv : ([21, 0, 0, 1, 0, 0, 0, 0, 0, 0, 0, 0, 0] : List Int32)[j]? = some v) : start2.ints.getD (13 * n + j) 0 = v := by
  rw [List.getD_eq_getElem?_getD, show start2.ints = (List.replicate 512 [21, 0, 0, 1, 0, 0, 0, 0, 0, 0, 0, 0, 0]).flatten from rfl, sv_rep _ 13 rfl n 512 j hn hj, hv]
  rfl
theorem sv_slot (i : Nat) (v : Value) (h : start2.cells0[i]? = some v) : ∃ k : Int32, v = .int k := by
  have h1 : (start2.ints.map Value.int)[i]? = some v := by
    rw [← Array.getElem?_toList] at h
    exact h
  rw [List.getElem?_map] at h1
  cases hk : start2.ints[i]? with
  | none => rw [hk] at h1; cases h1
  | some k => rw [hk] at h1; exact ⟨k, (Option.some.inj h1).symm⟩
theorem sv_fold {f : Nat → Option Bool} : ∀ (l : List Nat), (∀ i ∈ l, f i = some true) → l.foldl (fun acc i => match acc with | some true => f i | x => x) (some true) = some true := by
  intro l
  induction l with
  | nil => intro _; rfl
  | cons a l ih =>
    intro h
    rw [List.foldl_cons]
    show l.foldl _ (f a) = some true
    rw [h a List.mem_cons_self]
    exact ih (fun i hi => h i (List.mem_cons_of_mem _ hi))
theorem start2.long : start2.ints.length = 6656 := by decide +kernel
theorem start2.size : start2.cells0.size = 6656 := by
  show (start2.ints.map Value.int).length = 6656
  rw [List.length_map, start2.long]
abbrev start2.cell : Cell := { cls := 55, slots := start2.cells0, vm := .none }
theorem start2.args_fit : argsFit start2.about.vm ⟨0, 0⟩ start2.args0 = true := by decide +kernel
theorem start2.cell_fit : cellFits start2.about start2.cell = true := by
  unfold cellFits
  refine List.all_eq_true.mpr (fun i _ => ?_)
  cases h : start2.cell.slots[i]? with
  | none => rfl
  | some v =>
    obtain ⟨k, rfl⟩ := sv_slot i v h
    rfl
theorem start2.heap_fit : heapFits start2.about = true := by
  have hk : start2.about.heap.toList = start2.cell :: start2.about.heap.toList.tail := rfl
  show start2.about.heap.all (cellFits start2.about) = true
  rw [← Array.all_toList, hk, List.all_cons, start2.cell_fit, Bool.true_and]
  decide +kernel
theorem start2.at0 : start2.about.arrayAt? 0 = some start2.cell := rfl
theorem start2.rest_holds : rest_1_c.before start2.args0 start2.about = true := by
  show (Cond.and (.isInt (.length (.arg 0))) (.all (.arg 0) (.isInt (.elem (.arg 0) (.index 0))))).before start2.args0 start2.about = true
  rw [Cond.before_and, show (Cond.isInt (.length (.arg 0))).before start2.args0 start2.about = true by decide +kernel, Bool.true_and]
  have hi : ∀ i ∈ List.range start2.cells0.size, (Cond.isInt (.elem (.arg 0) (.index 0))).value start2.args0 start2.about none start2.about [i] = some true := by
    intro i hi
    have hlt : i < 6656 := by rw [← start2.size]; exact List.mem_range.mp hi
    obtain ⟨v, hv⟩ : ∃ v, start2.cells0[i]? = some v := ⟨_, Array.getElem?_eq_getElem (by rw [start2.size]; exact hlt)⟩
    obtain ⟨k, rfl⟩ := sv_slot i v hv
    have e1 : ¬ (nI i) < 0 := nI_pos (by omega)
    have e2 : (nI i).toNatClampNeg = i := nI_clamp (by omega)
    have he : Term.eval start2.args0 start2.about none [i] start2.about (.elem (.arg 0) (.index 0)) = some (.int k) := by
      show (if nI i < 0 then none else (start2.about.arrayAt? 0).bind (fun c => c.slots[(nI i).toNatClampNeg]?)) = some (.int k)
      rw [if_neg e1, start2.at0, e2]
      exact hv
    simp only [Cond.value, he]
    rfl
  have hv : (Cond.all (.arg 0) (.isInt (.elem (.arg 0) (.index 0)))).value start2.args0 start2.about none start2.about [] = some true := by
    show (List.range start2.cells0.size).foldl (fun acc i => match acc with | some true => (Cond.isInt (.elem (.arg 0) (.index 0))).value start2.args0 start2.about none start2.about [i] | x => x) (some true) = some true
    exact sv_fold (f := fun i => (Cond.isInt (.elem (.arg 0) (.index 0))).value start2.args0 start2.about none start2.about [i]) _ hi
  unfold Cond.before Cond.holds
  rw [hv]
  rfl
theorem start2.pre_holds : (Cond.and given_1 narrow_1).before start2.args0 start2.about = true := by decide +kernel
theorem start2.atStart : AtStart classFile x code maxLocals ret World_1 tables_1 room_1 Calls_1 rest_1 Pre_1 launch0 start2.p0 start2.e0 start2.about ⟨0, 0⟩ start2.args0 Lib.HandBits.below0 :=
  ⟨lv_lists_1, trivial, launch0.admits_env _ _ _, launch0.least_env, fairChoices_fair.cas, fairChoices_fair.clock, rfl, start2.args_fit, start2.heap_fit,
    (Spec.applies_iff rfl).mpr ⟨rfl, rfl, rfl, by decide +kernel, by decide +kernel, by decide +kernel, launch0.hasRoom_least _ room_1 (by decide +kernel) (by decide +kernel) (by decide +kernel) (by decide +kernel) (by decide +kernel) (by decide +kernel), atoms_intro start2.words⟩,
    trivial, start2.rest_holds, start2.pre_holds⟩
theorem start2.big : (headSpec (Jvm.Cond.code x code maxLocals ret :: tables_1) room_big).applies x start2.e0.platform start2.about = true :=
  (Spec.applies_iff rfl).mpr ⟨rfl, rfl, rfl, by decide +kernel, by decide +kernel, by decide +kernel, launch0.hasRoom_least _ room_big (by decide +kernel) (by decide +kernel) (by decide +kernel) (by decide +kernel) (by decide +kernel) (by decide +kernel), atoms_intro start2.words⟩
theorem start2.arr : start2.about.isArrayOf { cls := 55, slots := start2.cells0, vm := .none } .int :=
  ⟨(fun k h => by cases h), { start2.cArr "[I" 54 .int with interfaces := #[26] }, rfl, 54, rfl⟩
theorem start2.script : start2.about.IntsAt 0 start2.ints :=
  ⟨start2.cell, rfl, rfl, start2.arr, by rw [start2.long]; decide⟩
theorem start2.calls : big_sc (fun j => start2.ints.getD j 0) := by
  intro n hn
  exact ⟨sv_at n 0 21 hn (by decide) rfl, sv_at n 1 0 hn (by decide) rfl, sv_at n 2 0 hn (by decide) rfl, sv_at n 3 1 hn (by decide) rfl, sv_at n 4 0 hn (by decide) rfl⟩
/-- THE STATEMENT IS FALSE: Claimed_1_1 does not hold, and so not both -/
theorem whole_refuted : ¬ Claimed_1_1 := whole_false (l := launch0) rfl start2.atStart start2.big start2.script start2.long start2.calls
theorem whole_refuted2 : ¬ (Claimed_1_1 ∧ Claimed_1_2) := fun h => whole_refuted h.1

set_option maxHeartbeats 4000000 in
set_option maxRecDepth 100000 in
theorem c_Model_fine (l : Launch) (dC : Nat → ClassId) (dI : Nat → Nat → Nat) (z : Nat) (o : Nat) (fo : List Value) (st : Nat) (sz : Nat) (hl_fo : fo.length = 55) (hf_fo_1 : fo[1]? = some (.ref st)) : Met l yX15_fine_ (Cond.code yX15_fine_ cX15_fine_ 3 (some .boolean) :: G) ({ frames := 1, cells := 0, slots := 0, locals := 12 }) (va_Pc [.ref o, .int 1, .int 1] (pre_ dC dI [(o, .inr (14, fo))] [] sz z)) (va_Qi (fun (r : Int32) (_ : Unit) => r = 1) (fun _ t => ∃ (fs1 : List Value), va_P (dC, dI) classes [(o, .inr (14, fs1))] t.heap ∧ va_K (dC, dI) classes [] t ∧ va_D (va_A [(o, .inr (14, fo))] sz) [(o, .inr (14, fs1))] ∧ fs1.length = 55 ∧ fs1[0]? = some (.int 0) ∧ fs1[1]? = some (.ref st)) (va_A [(o, .inr (14, fo))] sz)) 0 0 (va_A [(o, .inr (14, fo))] sz) := by
  refine Met.ofW (cc := cX15_fine_) (maxL := 3) (ret := (some .boolean)) (by decide) rfl ?_
  intro p e s m args below meth c s₁ B hml hv
  obtain ⟨rfl, hv⟩ := hv
  obtain ⟨hsz, hP, hK, hD0, hN, hZ⟩ := hv
  have hx := B.exec
  have hb := B.bytes
  have hr := B.returns
  have hG : ∀ w ∈ G, w.before _ s = true := fun w h => atoms_spec (ws := Cond.code yX15_fine_ cX15_fine_ 3 (some .boolean) :: G) B.pre w (List.mem_cons_of_mem _ h)
  have hown : s.vm.findClass "SeattableModel" = some m.cls := findClass_of_methodNamed B.named
  have hlocks := B.notSynchronized
  subst hsz
  have hD := hD0.self (sz := s.heap.size)
  generalize hAe : va_A [(o, .inr (14, fo))] s.heap.size = A at hD hZ ⊢
  have hA : ∀ q : Nat, s.heap.size ≤ q → A q := fun q h => by rw [← hAe]; exact Or.inr h
  have hS : va_S A s.heap s.heap [] := va_S.rf
  have hP : va_P (dC, dI) classes [(o, .inr (14, fo))] s.heap := hP
  have hl := lv_entry ([.ref o, .int 1, .int 1]) (n := 3) (Nat.le_of_ble_eq_true rfl)
  rw [lg_entry_eq]
  generalize (lg_sl ([.ref o, .int 1, .int 1]) ++ List.replicate (3 - (lg_sl ([.ref o, .int 1, .int 1])).length) Slot.unset).toArray = ls at hl ⊢
  have hl : lv_has ls 3 [(0, .ref o), (1, .int 1), (2, .int 1)] := hl
  refine lv_aload_n hx hb dX15_fine__0 rfl (lv_at hl 0 rfl) ?_
  refine lv_iload_n hx hb dX15_fine__1 rfl (lv_at hl 1 rfl) ?_
  refine lv_if_ne (tgt := 9) hx hb dX15_fine__2 (by decide) (fun _ => ?_) (fun c9 => absurd c9 (by decide))
  refine lv_iload_n hx hb dX15_fine__9 rfl (lv_at hl 2 rfl) ?_
  refine lv_if_ne (tgt := 17) hx hb dX15_fine__10 (by decide) (fun _ => ?_) (fun c9 => absurd c9 (by decide))
  refine lv_iconst (v := 0) hx hb dX15_fine__17 (by decide) ?_
  refine va_put (D := (dC, dI)) (ci := 14) (v := .int 0) (ty := .int) (C := RX15) (T := TX15) (N := 55) hx hb hG iX15 tyX15 tyX15_ok nmX15 hown hK hP hD hS 0 rfl rfl 0 (by decide) (hG _ m_299) (fun _ h9 => h9) rfl (by decide +kernel) rfl rfl (by rw [hl_fo]; decide) dX15_fine__18 (fun H locs hP hD hS => ?_)
  have hP : va_P (dC, dI) classes [(o, .inr (14, (fo.set 0 (.int 0))))] H := hP
  have hD : va_D A [(o, .inr (14, (fo.set 0 (.int 0))))] := hD
  obtain ⟨fs1, efs1⟩ : ∃ y : List Value, y = fo.set 0 (.int 0) := ⟨_, rfl⟩
  rw [← efs1] at hP hD
  have hl_2 : fs1.length = 55 := by rw [efs1, List.length_set]; exact hl_fo
  have hf_3 : fs1[1]? = some (.ref st) := by rw [efs1]; exact fs_set_ne hf_fo_1 (by decide)
  have hf_4 : fs1[0]? = some (.int 0) := by rw [efs1]; exact fs_set_eq hl_fo (by decide)
  refine lv_aload_n hx hb dX15_fine__21 rfl (lv_at hl 0 rfl) ?_
  refine va_get (D := (dC, dI)) (ci := 14) (v := .int 0) (C := RX15) (T := TX15) (N := 55) hx hb hG iX15 hown hK hP 0 rfl rfl 0 (by decide) (hG _ m_299) (fun _ h9 => h9) hf_4 dX15_fine__22 ?_
  refine lv_if_ne (tgt := 32) hx hb dX15_fine__25 (by decide) (fun c9 => absurd (by decide) c9) (fun _ => ?_)
  refine lv_iconst (v := 1) hx hb dX15_fine__28 (by decide) ?_
  refine lv_goto (tgt := 33) hx hb dX15_fine__29 (by decide) ?_
  have hP9 := hP.sub (ws' := [(o, .inr (14, fs1))]) [0] rfl
  have hD9 := hD.sub (ws' := [(o, .inr (14, fs1))]) [0] (by decide) rfl
  have hK9 := hK.sub (tys' := []) [] rfl
  exact W.zret (v := 1) (ty := .boolean) hx hb hr (by decide) (fun t ht hW => ⟨⟨1, (), rfl, rfl, fs1, by rw [ht]; exact hP9, va_K.moved hW.alike hK9, hD9, hl_2, hf_4, hf_3⟩, hS.F ht⟩) hS.2.2 dX15_fine__33

set_option maxHeartbeats 4000000 in
set_option maxRecDepth 100000 in
theorem c_Model_thrown (l : Launch) (dC : Nat → ClassId) (dI : Nat → Nat → Nat) (z : Nat) (o : Nat) (fo : List Value) (sz : Nat) (hl_fo : fo.length = 55) (hf_fo_0 : fo[0]? = some (.int 0)) : Met l yX15_thrown (Cond.code yX15_thrown cX15_thrown 1 (some .int) :: G) ({ frames := 1, cells := 0, slots := 0, locals := 12 }) (va_Pc [.ref o] (pre_ dC dI [(o, .inr (14, fo))] [] sz z)) (va_Qi (fun (r : Int32) (_ : Unit) => r = 0) (fun _ t => va_P (dC, dI) classes [(o, .inr (14, fo))] t.heap ∧ va_K (dC, dI) classes [] t ∧ va_D (va_A [(o, .inr (14, fo))] sz) [(o, .inr (14, fo))]) (va_A [(o, .inr (14, fo))] sz)) 0 0 (va_A [(o, .inr (14, fo))] sz) := by
  refine Met.ofW (cc := cX15_thrown) (maxL := 1) (ret := (some .int)) (by decide) rfl ?_
  intro p e s m args below meth c s₁ B hml hv
  obtain ⟨rfl, hv⟩ := hv
  obtain ⟨hsz, hP, hK, hD0, hN, hZ⟩ := hv
  have hx := B.exec
  have hb := B.bytes
  have hr := B.returns
  have hG : ∀ w ∈ G, w.before _ s = true := fun w h => atoms_spec (ws := Cond.code yX15_thrown cX15_thrown 1 (some .int) :: G) B.pre w (List.mem_cons_of_mem _ h)
  have hown : s.vm.findClass "SeattableModel" = some m.cls := findClass_of_methodNamed B.named
  have hlocks := B.notSynchronized
  subst hsz
  have hD := hD0.self (sz := s.heap.size)
  generalize hAe : va_A [(o, .inr (14, fo))] s.heap.size = A at hD hZ ⊢
  have hA : ∀ q : Nat, s.heap.size ≤ q → A q := fun q h => by rw [← hAe]; exact Or.inr h
  have hS : va_S A s.heap s.heap [] := va_S.rf
  have hP : va_P (dC, dI) classes [(o, .inr (14, fo))] s.heap := hP
  have hl := lv_entry ([.ref o]) (n := 1) (Nat.le_of_ble_eq_true rfl)
  rw [lg_entry_eq]
  generalize (lg_sl ([.ref o]) ++ List.replicate (1 - (lg_sl ([.ref o])).length) Slot.unset).toArray = ls at hl ⊢
  have hl : lv_has ls 1 [(0, .ref o)] := hl
  refine lv_aload_n hx hb dX15_thrown_0 rfl (lv_at hl 0 rfl) ?_
  refine va_get (D := (dC, dI)) (ci := 14) (v := .int 0) (C := RX15) (T := TX15) (N := 55) hx hb hG iX15 hown hK hP 0 rfl rfl 0 (by decide) (hG _ m_299) (fun _ h9 => h9) hf_fo_0 dX15_thrown_1 ?_
  have hP9 := hP.sub (ws' := [(o, .inr (14, fo))]) [0] rfl
  have hD9 := hD.sub (ws' := [(o, .inr (14, fo))]) [0] (by decide) rfl
  have hK9 := hK.sub (tys' := []) [] rfl
  exact W.iret (v := 0) hx hb hr (fun t ht hW => ⟨⟨0, (), rfl, rfl, by rw [ht]; exact hP9, va_K.moved hW.alike hK9, hD9⟩, hS.F ht⟩) hS.2.2 dX15_thrown_4

set_option maxHeartbeats 4000000 in
set_option maxRecDepth 100000 in
theorem c_Model_in_004 (l : Launch) (dC : Nat → ClassId) (dI : Nat → Nat → Nat) (z : Nat) (sz : Nat) : Met l yX15_in (Cond.code yX15_in cX15_in 6 (some .boolean) :: G) ({ frames := 1, cells := 0, slots := 0, locals := 12 }) (va_Pc [.long 0, .long 0, .long 4] (pre_ dC dI [] [] sz z)) (va_Qi (fun (r : Int32) (_ : Unit) => r = 1) (fun _ t => va_P (dC, dI) classes [] t.heap ∧ va_K (dC, dI) classes [] t ∧ va_D (va_A [] sz) []) (va_A [] sz)) 0 0 (va_A [] sz) := by
  refine Met.ofW (cc := cX15_in) (maxL := 6) (ret := (some .boolean)) (by decide) rfl ?_
  intro p e s m args below meth c s₁ B hml hv
  obtain ⟨rfl, hv⟩ := hv
  obtain ⟨hsz, hP, hK, hD0, hN, hZ⟩ := hv
  have hx := B.exec
  have hb := B.bytes
  have hr := B.returns
  have hG : ∀ w ∈ G, w.before _ s = true := fun w h => atoms_spec (ws := Cond.code yX15_in cX15_in 6 (some .boolean) :: G) B.pre w (List.mem_cons_of_mem _ h)
  have hown : s.vm.findClass "SeattableModel" = some m.cls := findClass_of_methodNamed B.named
  have hlocks := B.notSynchronized
  subst hsz
  have hD := hD0.self (sz := s.heap.size)
  generalize hAe : va_A [] s.heap.size = A at hD hZ ⊢
  have hA : ∀ q : Nat, s.heap.size ≤ q → A q := fun q h => by rw [← hAe]; exact Or.inr h
  have hS : va_S A s.heap s.heap [] := va_S.rf
  have hP : va_P (dC, dI) classes [] s.heap := hP
  have hl := lv_entry ([.long 0, .long 0, .long 4]) (n := 6) (Nat.le_of_ble_eq_true rfl)
  rw [lg_entry_eq]
  generalize (lg_sl ([.long 0, .long 0, .long 4]) ++ List.replicate (6 - (lg_sl ([.long 0, .long 0, .long 4])).length) Slot.unset).toArray = ls at hl ⊢
  have hl : lv_has ls 6 [(0, .long 0), (2, .long 0), (4, .long 4)] := hl
  refine lv_lload_n hx hb dX15_in_0 rfl (lv_at hl 0 rfl) ?_
  refine lv_lload_n hx hb dX15_in_1 rfl (lv_at hl 1 rfl) ?_
  refine W.lcmp hx hb dX15_in_2 ?_
  refine lv_topi (fun x1 ex1 => ?_)
  have ex1 : x1 = 0 := by rw [ex1]; decide
  subst ex1
  refine lv_if_lt (tgt := 17) hx hb dX15_in_3 (by decide) (fun c9 => absurd c9 (by decide)) (fun _ => ?_)
  refine lv_lload_n hx hb dX15_in_6 rfl (lv_at hl 0 rfl) ?_
  refine lv_lload hx hb dX15_in_7 (lv_at hl 2 rfl) ?_
  refine W.lcmp hx hb dX15_in_9 ?_
  refine lv_topi (fun x2 ex2 => ?_)
  have ex2 : x2 = (-1) := by rw [ex2]; decide
  subst ex2
  refine lv_if_gt (tgt := 17) hx hb dX15_in_10 (by decide) (fun c9 => absurd c9 (by decide)) (fun _ => ?_)
  refine lv_iconst (v := 1) hx hb dX15_in_13 (by decide) ?_
  refine lv_goto (tgt := 18) hx hb dX15_in_14 (by decide) ?_
  have hP9 := hP.sub (ws' := []) [] rfl
  have hD9 := hD.sub (ws' := []) [] (by decide) rfl
  have hK9 := hK.sub (tys' := []) [] rfl
  exact W.zret (v := 1) (ty := .boolean) hx hb hr (by decide) (fun t ht hW => ⟨⟨1, (), rfl, rfl, by rw [ht]; exact hP9, va_K.moved hW.alike hK9, hD9⟩, hS.F ht⟩) hS.2.2 dX15_in_18

set_option maxHeartbeats 4000000 in
set_option maxRecDepth 100000 in
theorem c_Model_in_11400 (l : Launch) (dC : Nat → ClassId) (dI : Nat → Nat → Nat) (z : Nat) (sz : Nat) : Met l yX15_in (Cond.code yX15_in cX15_in 6 (some .boolean) :: G) ({ frames := 1, cells := 0, slots := 0, locals := 12 }) (va_Pc [.long 1, .long 1, .long 400] (pre_ dC dI [] [] sz z)) (va_Qi (fun (r : Int32) (_ : Unit) => r = 1) (fun _ t => va_P (dC, dI) classes [] t.heap ∧ va_K (dC, dI) classes [] t ∧ va_D (va_A [] sz) []) (va_A [] sz)) 0 0 (va_A [] sz) := by
  refine Met.ofW (cc := cX15_in) (maxL := 6) (ret := (some .boolean)) (by decide) rfl ?_
  intro p e s m args below meth c s₁ B hml hv
  obtain ⟨rfl, hv⟩ := hv
  obtain ⟨hsz, hP, hK, hD0, hN, hZ⟩ := hv
  have hx := B.exec
  have hb := B.bytes
  have hr := B.returns
  have hG : ∀ w ∈ G, w.before _ s = true := fun w h => atoms_spec (ws := Cond.code yX15_in cX15_in 6 (some .boolean) :: G) B.pre w (List.mem_cons_of_mem _ h)
  have hown : s.vm.findClass "SeattableModel" = some m.cls := findClass_of_methodNamed B.named
  have hlocks := B.notSynchronized
  subst hsz
  have hD := hD0.self (sz := s.heap.size)
  generalize hAe : va_A [] s.heap.size = A at hD hZ ⊢
  have hA : ∀ q : Nat, s.heap.size ≤ q → A q := fun q h => by rw [← hAe]; exact Or.inr h
  have hS : va_S A s.heap s.heap [] := va_S.rf
  have hP : va_P (dC, dI) classes [] s.heap := hP
  have hl := lv_entry ([.long 1, .long 1, .long 400]) (n := 6) (Nat.le_of_ble_eq_true rfl)
  rw [lg_entry_eq]
  generalize (lg_sl ([.long 1, .long 1, .long 400]) ++ List.replicate (6 - (lg_sl ([.long 1, .long 1, .long 400])).length) Slot.unset).toArray = ls at hl ⊢
  have hl : lv_has ls 6 [(0, .long 1), (2, .long 1), (4, .long 400)] := hl
  refine lv_lload_n hx hb dX15_in_0 rfl (lv_at hl 0 rfl) ?_
  refine lv_lload_n hx hb dX15_in_1 rfl (lv_at hl 1 rfl) ?_
  refine W.lcmp hx hb dX15_in_2 ?_
  refine lv_topi (fun x1 ex1 => ?_)
  have ex1 : x1 = 0 := by rw [ex1]; decide
  subst ex1
  refine lv_if_lt (tgt := 17) hx hb dX15_in_3 (by decide) (fun c9 => absurd c9 (by decide)) (fun _ => ?_)
  refine lv_lload_n hx hb dX15_in_6 rfl (lv_at hl 0 rfl) ?_
  refine lv_lload hx hb dX15_in_7 (lv_at hl 2 rfl) ?_
  refine W.lcmp hx hb dX15_in_9 ?_
  refine lv_topi (fun x2 ex2 => ?_)
  have ex2 : x2 = (-1) := by rw [ex2]; decide
  subst ex2
  refine lv_if_gt (tgt := 17) hx hb dX15_in_10 (by decide) (fun c9 => absurd c9 (by decide)) (fun _ => ?_)
  refine lv_iconst (v := 1) hx hb dX15_in_13 (by decide) ?_
  refine lv_goto (tgt := 18) hx hb dX15_in_14 (by decide) ?_
  have hP9 := hP.sub (ws' := []) [] rfl
  have hD9 := hD.sub (ws' := []) [] (by decide) rfl
  have hK9 := hK.sub (tys' := []) [] rfl
  exact W.zret (v := 1) (ty := .boolean) hx hb hr (by decide) (fun t ht hW => ⟨⟨1, (), rfl, rfl, by rw [ht]; exact hP9, va_K.moved hW.alike hK9, hD9⟩, hS.F ht⟩) hS.2.2 dX15_in_18

set_option maxHeartbeats 4000000 in
set_option maxRecDepth 100000 in
theorem c_Model_manyOf (l : Launch) (dC : Nat → ClassId) (dI : Nat → Nat → Nat) (z : Nat) (o : Nat) (fo : List Value) (st : Nat) (fS : List Value) (sz : Nat) (hl_fo : fo.length = 55) (hf_fo_1 : fo[1]? = some (.ref st)) (hl_fS : fS.length = 28) (hf_fS_0 : fS[0]? = some (.int 0)) (hf_fS_1 : fS[1]? = some (.int 0)) : Met l yX15_manyOf (Cond.code yX15_manyOf cX15_manyOf 2 (some .int) :: G) ({ frames := 1, cells := 0, slots := 0, locals := 12 }) (va_Pc [.ref o, .int 0] (pre_ dC dI [(o, .inr (14, fo)), (st, .inr (13, fS))] [] sz z)) (va_Qi (fun (r : Int32) (_ : Unit) => r = 0) (fun _ t => va_P (dC, dI) classes [(o, .inr (14, fo)), (st, .inr (13, fS))] t.heap ∧ va_K (dC, dI) classes [] t ∧ va_D (va_A [(o, .inr (14, fo)), (st, .inr (13, fS))] sz) [(o, .inr (14, fo)), (st, .inr (13, fS))]) (va_A [(o, .inr (14, fo)), (st, .inr (13, fS))] sz)) 0 0 (va_A [(o, .inr (14, fo)), (st, .inr (13, fS))] sz) := by
  refine Met.ofW (cc := cX15_manyOf) (maxL := 2) (ret := (some .int)) (by decide) rfl ?_
  intro p e s m args below meth c s₁ B hml hv
  obtain ⟨rfl, hv⟩ := hv
  obtain ⟨hsz, hP, hK, hD0, hN, hZ⟩ := hv
  have hx := B.exec
  have hb := B.bytes
  have hr := B.returns
  have hG : ∀ w ∈ G, w.before _ s = true := fun w h => atoms_spec (ws := Cond.code yX15_manyOf cX15_manyOf 2 (some .int) :: G) B.pre w (List.mem_cons_of_mem _ h)
  have hown : s.vm.findClass "SeattableModel" = some m.cls := findClass_of_methodNamed B.named
  have hlocks := B.notSynchronized
  subst hsz
  have hD := hD0.self (sz := s.heap.size)
  generalize hAe : va_A [(o, .inr (14, fo)), (st, .inr (13, fS))] s.heap.size = A at hD hZ ⊢
  have hA : ∀ q : Nat, s.heap.size ≤ q → A q := fun q h => by rw [← hAe]; exact Or.inr h
  have hS : va_S A s.heap s.heap [] := va_S.rf
  have hP : va_P (dC, dI) classes [(o, .inr (14, fo)), (st, .inr (13, fS))] s.heap := hP
  have hl := lv_entry ([.ref o, .int 0]) (n := 2) (Nat.le_of_ble_eq_true rfl)
  rw [lg_entry_eq]
  generalize (lg_sl ([.ref o, .int 0]) ++ List.replicate (2 - (lg_sl ([.ref o, .int 0])).length) Slot.unset).toArray = ls at hl ⊢
  have hl : lv_has ls 2 [(0, .ref o), (1, .int 0)] := hl
  refine lv_iload_n hx hb dX15_manyOf_0 rfl (lv_at hl 1 rfl) ?_
  refine lv_iconst (v := 2) hx hb dX15_manyOf_1 (by decide) ?_
  refine lv_icmp_ne (tgt := 15) hx hb dX15_manyOf_2 (by decide) (fun _ => ?_) (fun c9 => absurd c9 (by decide))
  refine lv_aload_n hx hb dX15_manyOf_15 rfl (lv_at hl 0 rfl) ?_
  refine va_get (D := (dC, dI)) (ci := 14) (v := .ref st) (C := RX15) (T := TX15) (N := 55) hx hb hG iX15 hown hK hP 0 rfl rfl 1 (by decide) (hG _ m_223) (fun _ h9 => h9) hf_fo_1 dX15_manyOf_16 ?_
  refine va_getN (D := (dC, dI)) (ci := 13) (v := .int 0) (C := RX14) (T := TX14) (N := 28) hx hb hG iX14 hown hK hP 1 rfl rfl 0 (by decide) (va_Nw.use rfl (nw_nest_10 hN)) (fun _ h9 => h9) hf_fS_0 dX15_manyOf_19 ?_
  have hP9 := hP.sub (ws' := [(o, .inr (14, fo)), (st, .inr (13, fS))]) [0, 1] rfl
  have hD9 := hD.sub (ws' := [(o, .inr (14, fo)), (st, .inr (13, fS))]) [0, 1] (by decide) rfl
  have hK9 := hK.sub (tys' := []) [] rfl
  exact W.iret (v := 0) hx hb hr (fun t ht hW => ⟨⟨0, (), rfl, rfl, by rw [ht]; exact hP9, va_K.moved hW.alike hK9, hD9⟩, hS.F ht⟩) hS.2.2 dX15_manyOf_22

set_option maxHeartbeats 4000000 in
set_option maxRecDepth 100000 in
theorem c_Model_bounds (l : Launch) (dC : Nat → ClassId) (dI : Nat → Nat → Nat) (z : Nat) (o : Nat) (fo : List Value) (st : Nat) (fS : List Value) (sz : Nat) (hl_fo : fo.length = 55) (hf_fo_1 : fo[1]? = some (.ref st)) (hl_fS : fS.length = 28) (hf_fS_0 : fS[0]? = some (.int 0)) (hf_fS_1 : fS[1]? = some (.int 0)) : Met l yX15_bounds (Cond.code yX15_bounds cX15_bounds 3 none :: G) ({ frames := 2, cells := 0, slots := 0, locals := 33 }) (va_Pc [.ref o, .int 0] (pre_ dC dI [(o, .inr (14, fo)), (st, .inr (13, fS))] [] sz z)) (va_Qv (fun _ : Unit => True) (fun _ t => va_P (dC, dI) classes [(o, .inr (14, fo)), (st, .inr (13, fS))] t.heap ∧ va_K (dC, dI) classes [] t ∧ va_D (va_A [(o, .inr (14, fo)), (st, .inr (13, fS))] sz) [(o, .inr (14, fo)), (st, .inr (13, fS))]) (va_A [(o, .inr (14, fo)), (st, .inr (13, fS))] sz)) 0 0 (va_A [(o, .inr (14, fo)), (st, .inr (13, fS))] sz) := by
  refine Met.ofW (cc := cX15_bounds) (maxL := 3) (ret := none) (by decide) rfl ?_
  intro p e s m args below meth c s₁ B hml hv
  obtain ⟨rfl, hv⟩ := hv
  obtain ⟨hsz, hP, hK, hD0, hN, hZ⟩ := hv
  have hx := B.exec
  have hb := B.bytes
  have hr := B.returns
  have hG : ∀ w ∈ G, w.before _ s = true := fun w h => atoms_spec (ws := Cond.code yX15_bounds cX15_bounds 3 none :: G) B.pre w (List.mem_cons_of_mem _ h)
  have hown : s.vm.findClass "SeattableModel" = some m.cls := findClass_of_methodNamed B.named
  have hlocks := B.notSynchronized
  subst hsz
  have hD := hD0.self (sz := s.heap.size)
  generalize hAe : va_A [(o, .inr (14, fo)), (st, .inr (13, fS))] s.heap.size = A at hD hZ ⊢
  have hA : ∀ q : Nat, s.heap.size ≤ q → A q := fun q h => by rw [← hAe]; exact Or.inr h
  have hS : va_S A s.heap s.heap [] := va_S.rf
  have hP : va_P (dC, dI) classes [(o, .inr (14, fo)), (st, .inr (13, fS))] s.heap := hP
  have hl := lv_entry ([.ref o, .int 0]) (n := 3) (Nat.le_of_ble_eq_true rfl)
  rw [lg_entry_eq]
  generalize (lg_sl ([.ref o, .int 0]) ++ List.replicate (3 - (lg_sl ([.ref o, .int 0])).length) Slot.unset).toArray = ls at hl ⊢
  have hl : lv_has ls 3 [(0, .ref o), (1, .int 0)] := hl
  refine lv_iconst (v := 0) hx hb dX15_bounds_0 (by decide) ?_
  refine lv_istore_n (lv' := [(2, .int 0), (0, .ref o), (1, .int 0)]) hx hb dX15_bounds_1 rfl hl (by decide) rfl (fun ls hl => ?_)
  refine lv_iload_n hx hb dX15_bounds_2 rfl (lv_at hl 0 rfl) ?_
  refine lv_aload_n hx hb dX15_bounds_3 rfl (lv_at hl 1 rfl) ?_
  refine lv_iload_n hx hb dX15_bounds_4 rfl (lv_at hl 2 rfl) ?_
  have hPc := hP.sub (ws' := [(o, .inr (14, fo)), (st, .inr (13, fS))]) [0, 1] rfl
  have hDc := hD.sub (ws' := [(o, .inr (14, fo)), (st, .inr (13, fS))]) [0, 1] (by decide) rfl
  have hKc := hK.sub (tys' := []) [] rfl
  have hFc := va_free (wc := [(o, .inr (14, fo)), (st, .inr (13, fS))]) hD hS hA [0, 1] rfl
  refine va_calli (va_runV (C := "SeattableModel") (As := [.int 0]) (rest := [.int 0]) ⟨hx, hb, hml, hown, hG⟩ (c_Model_manyOf l dC dI z o fo st fS s.heap.size hl_fo hf_fo_1 hl_fS hf_fS_0 hf_fS_1) (cwV 1 hG (gV m_301 m_302 m_303 m_304 m_300) rfl rfl rfl (by decide +kernel) ⟨Nat.le_of_ble_eq_true rfl, Nat.le_of_ble_eq_true rfl⟩) ⟨pre_blind, va_recv hKc hPc (ci := 14) (q0 := 0) rfl rfl, fun U hU hW => ⟨rfl, pre_call hU hW hPc hKc hDc hN (zkeep hZ hS) hFc⟩⟩ rfl rfl hl.1 rfl (lv_room (Nat.le_of_ble_eq_true rfl)) dX15_bounds_5 ⟨Nat.le_of_ble_eq_true rfl, Nat.le_of_ble_eq_true rfl⟩) hS (fun q _ h => hFc q h) hFc (fun r1 u t H locs ht hvm hw hB hz1 hk1 hS => ?_)
  obtain ⟨hP1, hK1, hD1⟩ := hB
  rw [ht] at hP1
  have hK1 := va_K.moved hvm.symm hK1
  try dsimp only at hw
  subst hw
  obtain ⟨hP, hD⟩ := va_join (wr := []) (w1 := [(o, .inr (14, fo)), (st, .inr (13, fS))]) hP hD [0, 1] [] rfl rfl (by decide) (by decide) hk1 hFc hP1 hD1
  have hK := (hK.sub (tys' := []) [] rfl).app hK1
  have hP : va_P (dC, dI) classes [(o, .inr (14, fo)), (st, .inr (13, fS))] H := hP
  have hD : va_D A [(o, .inr (14, fo)), (st, .inr (13, fS))] := hD
  have hK : va_K (dC, dI) classes [] s := hK
  refine lv_icmp_ge (tgt := 73) hx hb dX15_bounds_8 (by decide) (fun _ => ?_) (fun c9 => absurd (by decide) c9)
  have hP9 := hP.sub (ws' := [(o, .inr (14, fo)), (st, .inr (13, fS))]) [0, 1] rfl
  have hD9 := hD.sub (ws' := [(o, .inr (14, fo)), (st, .inr (13, fS))]) [0, 1] (by decide) rfl
  have hK9 := hK.sub (tys' := []) [] rfl
  exact W.vret hx hb hr (fun t ht hW => ⟨⟨(), rfl, trivial, by rw [ht]; exact hP9, va_K.moved hW.alike hK9, hD9⟩, hS.F ht⟩) hS.2.2 dX15_bounds_73

set_option maxHeartbeats 4000000 in
set_option maxRecDepth 100000 in
theorem c_Model_claims (l : Launch) (dC : Nat → ClassId) (dI : Nat → Nat → Nat) (z : Nat) (o : Nat) (fo : List Value) (st : Nat) (fS : List Value) (sz : Nat) (hl_fo : fo.length = 55) (hf_fo_1 : fo[1]? = some (.ref st)) (hl_fS : fS.length = 28) (hf_fS_0 : fS[0]? = some (.int 0)) (hf_fS_1 : fS[1]? = some (.int 0)) : Met l yX15_claims (Cond.code yX15_claims cX15_claims 8 (some (.array .long)) :: G) ({ frames := 2, cells := 1, slots := 0, locals := 33 }) (va_Pc [.ref o, .int 0, .int 0] (pre_ dC dI [(o, .inr (14, fo)), (st, .inr (13, fS))] [] sz z)) (va_Qr (fun _ : Unit => True) (fun (_ : Unit) (q2 : Nat) t => ∃ (cA3 : ClassId), ∃ (f4 : Nat → Int64), va_P (dC, dI) classes [(o, .inr (14, fo)), (st, .inr (13, fS)), (q2, .inl (cA3, 0, .inr (.inl f4)))] t.heap ∧ va_K (dC, dI) classes [(cA3, .long)] t ∧ va_D (va_A [(o, .inr (14, fo)), (st, .inr (13, fS))] sz) [(o, .inr (14, fo)), (st, .inr (13, fS)), (q2, .inl (cA3, 0, .inr (.inl f4)))]) (va_A [(o, .inr (14, fo)), (st, .inr (13, fS))] sz)) 1 0 (va_A [(o, .inr (14, fo)), (st, .inr (13, fS))] sz) := by
  refine Met.ofW (cc := cX15_claims) (maxL := 8) (ret := (some (.array .long))) (by decide) rfl ?_
  intro p e s m args below meth c s₁ B hml hv
  obtain ⟨rfl, hv⟩ := hv
  obtain ⟨hsz, hP, hK, hD0, hN, hZ⟩ := hv
  have hx := B.exec
  have hb := B.bytes
  have hr := B.returns
  have hG : ∀ w ∈ G, w.before _ s = true := fun w h => atoms_spec (ws := Cond.code yX15_claims cX15_claims 8 (some (.array .long)) :: G) B.pre w (List.mem_cons_of_mem _ h)
  have hown : s.vm.findClass "SeattableModel" = some m.cls := findClass_of_methodNamed B.named
  have hlocks := B.notSynchronized
  subst hsz
  have hD := hD0.self (sz := s.heap.size)
  generalize hAe : va_A [(o, .inr (14, fo)), (st, .inr (13, fS))] s.heap.size = A at hD hZ ⊢
  have hA : ∀ q : Nat, s.heap.size ≤ q → A q := fun q h => by rw [← hAe]; exact Or.inr h
  have hS : va_S A s.heap s.heap [] := va_S.rf
  have hP : va_P (dC, dI) classes [(o, .inr (14, fo)), (st, .inr (13, fS))] s.heap := hP
  have hl := lv_entry ([.ref o, .int 0, .int 0]) (n := 8) (Nat.le_of_ble_eq_true rfl)
  rw [lg_entry_eq]
  generalize (lg_sl ([.ref o, .int 0, .int 0]) ++ List.replicate (8 - (lg_sl ([.ref o, .int 0, .int 0])).length) Slot.unset).toArray = ls at hl ⊢
  have hl : lv_has ls 8 [(0, .ref o), (1, .int 0), (2, .int 0)] := hl
  refine lv_aload_n hx hb dX15_claims_0 rfl (lv_at hl 0 rfl) ?_
  refine lv_iload_n hx hb dX15_claims_1 rfl (lv_at hl 1 rfl) ?_
  have hPc := hP.sub (ws' := [(o, .inr (14, fo)), (st, .inr (13, fS))]) [0, 1] rfl
  have hDc := hD.sub (ws' := [(o, .inr (14, fo)), (st, .inr (13, fS))]) [0, 1] (by decide) rfl
  have hKc := hK.sub (tys' := []) [] rfl
  have hFc := va_free (wc := [(o, .inr (14, fo)), (st, .inr (13, fS))]) hD hS hA [0, 1] rfl
  refine va_calli (va_runV (C := "SeattableModel") (As := [.int 0]) (rest := []) ⟨hx, hb, hml, hown, hG⟩ (c_Model_manyOf l dC dI z o fo st fS s.heap.size hl_fo hf_fo_1 hl_fS hf_fS_0 hf_fS_1) (cwV 1 hG (gV m_301 m_302 m_303 m_304 m_300) rfl rfl rfl (by decide +kernel) ⟨Nat.le_of_ble_eq_true rfl, Nat.le_of_ble_eq_true rfl⟩) ⟨pre_blind, va_recv hKc hPc (ci := 14) (q0 := 0) rfl rfl, fun U hU hW => ⟨rfl, pre_call hU hW hPc hKc hDc hN (zkeep hZ hS) hFc⟩⟩ rfl rfl hl.1 rfl (lv_room (Nat.le_of_ble_eq_true rfl)) dX15_claims_2 ⟨Nat.le_of_ble_eq_true rfl, Nat.le_of_ble_eq_true rfl⟩) hS (fun q _ h => hFc q h) hFc (fun r1 u t H locs ht hvm hw hB hz1 hk1 hS => ?_)
  obtain ⟨hP1, hK1, hD1⟩ := hB
  rw [ht] at hP1
  have hK1 := va_K.moved hvm.symm hK1
  try dsimp only at hw
  subst hw
  obtain ⟨hP, hD⟩ := va_join (wr := []) (w1 := [(o, .inr (14, fo)), (st, .inr (13, fS))]) hP hD [0, 1] [] rfl rfl (by decide) (by decide) hk1 hFc hP1 hD1
  have hK := (hK.sub (tys' := []) [] rfl).app hK1
  have hP : va_P (dC, dI) classes [(o, .inr (14, fo)), (st, .inr (13, fS))] H := hP
  have hD : va_D A [(o, .inr (14, fo)), (st, .inr (13, fS))] := hD
  have hK : va_K (dC, dI) classes [] s := hK
  refine va_newa (D := (dC, dI)) (atype := .long) (ty := .long) (N' := 0) (a0 := (0, .inr (.inl (fun _ => 0)))) hx hb (hG _ m_60) rfl hK hP hD hS hA (fun cA => rfl) (by decide) (by decide) (Nat.le_of_ble_eq_true rfl) (Nat.le_of_ble_eq_true rfl) (Nat.le_of_ble_eq_true rfl) dX15_claims_5 (fun q2 cA3 H hK hP hD hS => ?_)
  have hP : va_P (dC, dI) classes [(o, .inr (14, fo)), (st, .inr (13, fS)), (q2, .inl (cA3, 0, .inr (.inl (fun _ => 0))))] H := hP
  have hD : va_D A [(o, .inr (14, fo)), (st, .inr (13, fS)), (q2, .inl (cA3, 0, .inr (.inl (fun _ => 0))))] := hD
  have hK : va_K (dC, dI) classes [(cA3, .long)] s := hK
  obtain ⟨f4, ef4⟩ : ∃ y : Nat → Int64, y = (fun _ => 0) := ⟨_, rfl⟩
  rw [← ef4] at hP hD
  refine W.widen (k := 1) (n := 0) (Nat.le_of_ble_eq_true rfl) (Nat.le_of_ble_eq_true rfl) ?_
  refine lv_astore_n (lv' := [(3, .ref q2), (0, .ref o), (1, .int 0), (2, .int 0)]) hx hb dX15_claims_7 rfl hl (by decide) rfl (fun ls hl => ?_)
  refine lv_lconst (v := 0) hx hb dX15_claims_8 (by decide) ?_
  refine lv_lstore (lv' := [(4, .long 0), (3, .ref q2), (0, .ref o), (1, .int 0), (2, .int 0)]) hx hb dX15_claims_9 hl (by decide) rfl (fun ls hl => ?_)
  refine lv_iconst (v := 0) hx hb dX15_claims_11 (by decide) ?_
  refine lv_istore (lv' := [(6, .int 0), (4, .long 0), (3, .ref q2), (0, .ref o), (1, .int 0), (2, .int 0)]) hx hb dX15_claims_12 hl (by decide) rfl (fun ls hl => ?_)
  refine lv_iload hx hb dX15_claims_14 (lv_at hl 0 rfl) ?_
  refine lv_aload_n hx hb dX15_claims_16 rfl (lv_at hl 2 rfl) ?_
  refine va_alen (D := (dC, dI)) (v := 0) hx hb hK hP 2 0 rfl rfl rfl dX15_claims_17 ?_
  refine lv_icmp_ge (tgt := 134) hx hb dX15_claims_18 (by decide) (fun _ => ?_) (fun c9 => absurd (by decide) c9)
  refine lv_iconst (v := 0) hx hb dX15_claims_134 (by decide) ?_
  refine lv_istore (lv' := [(6, .int 0), (4, .long 0), (3, .ref q2), (0, .ref o), (1, .int 0), (2, .int 0)]) hx hb dX15_claims_135 hl (by decide) rfl (fun ls hl => ?_)
  refine lv_iload hx hb dX15_claims_137 (lv_at hl 0 rfl) ?_
  refine lv_aload_n hx hb dX15_claims_139 rfl (lv_at hl 2 rfl) ?_
  refine va_alen (D := (dC, dI)) (v := 0) hx hb hK hP 2 0 rfl rfl rfl dX15_claims_140 ?_
  refine lv_icmp_ge (tgt := 195) hx hb dX15_claims_141 (by decide) (fun _ => ?_) (fun c9 => absurd (by decide) c9)
  refine lv_aload_n hx hb dX15_claims_195 rfl (lv_at hl 2 rfl) ?_
  have hP9 := hP.sub (ws' := [(o, .inr (14, fo)), (st, .inr (13, fS)), (q2, .inl (cA3, 0, .inr (.inl f4)))]) [0, 1, 2] rfl
  have hD9 := hD.sub (ws' := [(o, .inr (14, fo)), (st, .inr (13, fS)), (q2, .inl (cA3, 0, .inr (.inl f4)))]) [0, 1, 2] (by decide) rfl
  have hK9 := hK.sub (tys' := [(cA3, .long)]) [0] rfl
  exact W.aret (v := .ref q2) (rt := (.array .long)) hx hb hr (Or.inr ⟨_, rfl⟩) (Or.inr ⟨_, rfl⟩) (fun t ht hW => ⟨⟨(), q2, rfl, trivial, cA3, f4, by rw [ht]; exact hP9, va_K.moved hW.alike hK9, hD9⟩, hS.F ht⟩) hS.2.2 dX15_claims_196

set_option maxHeartbeats 4000000 in
set_option maxRecDepth 100000 in
theorem c_Model_least (l : Launch) (dC : Nat → ClassId) (dI : Nat → Nat → Nat) (z : Nat) (o : Nat) (fo : List Value) (cl : Nat) (cC : ClassId) (k : Nat → Int64) (n : Nat) (se : Nat) (sz : Nat) (hl_fo : fo.length = 55) (hn1 : 1 ≤ n) (hn2 : n ≤ 400) : Met l yX15_least (Cond.code yX15_least cX15_least 7 (some .int) :: G) ({ frames := 1, cells := 0, slots := 0, locals := 12 }) (va_Pc [.ref o, .ref cl, .int (nI n), .ref se] (pre_ dC dI [(o, .inr (14, fo)), (cl, .inl (cC, 0, .inr (.inl k)))] [(cC, .long)] sz z)) (va_Qi (fun (r : Int32) (_ : Unit) => r = (-1)) (fun _ t => va_P (dC, dI) classes [(o, .inr (14, fo)), (cl, .inl (cC, 0, .inr (.inl k)))] t.heap ∧ va_K (dC, dI) classes [(cC, .long)] t ∧ va_D (va_A [(o, .inr (14, fo)), (cl, .inl (cC, 0, .inr (.inl k)))] sz) [(o, .inr (14, fo)), (cl, .inl (cC, 0, .inr (.inl k)))]) (va_A [(o, .inr (14, fo)), (cl, .inl (cC, 0, .inr (.inl k)))] sz)) 0 0 (va_A [(o, .inr (14, fo)), (cl, .inl (cC, 0, .inr (.inl k)))] sz) := by
  refine Met.ofW (cc := cX15_least) (maxL := 7) (ret := (some .int)) (by decide) rfl ?_
  intro p e s m args below meth c s₁ B hml hv
  obtain ⟨rfl, hv⟩ := hv
  obtain ⟨hsz, hP, hK, hD0, hN, hZ⟩ := hv
  have hx := B.exec
  have hb := B.bytes
  have hr := B.returns
  have hG : ∀ w ∈ G, w.before _ s = true := fun w h => atoms_spec (ws := Cond.code yX15_least cX15_least 7 (some .int) :: G) B.pre w (List.mem_cons_of_mem _ h)
  have hown : s.vm.findClass "SeattableModel" = some m.cls := findClass_of_methodNamed B.named
  have hlocks := B.notSynchronized
  subst hsz
  have hD := hD0.self (sz := s.heap.size)
  generalize hAe : va_A [(o, .inr (14, fo)), (cl, .inl (cC, 0, .inr (.inl k)))] s.heap.size = A at hD hZ ⊢
  have hA : ∀ q : Nat, s.heap.size ≤ q → A q := fun q h => by rw [← hAe]; exact Or.inr h
  have hS : va_S A s.heap s.heap [] := va_S.rf
  have hP : va_P (dC, dI) classes [(o, .inr (14, fo)), (cl, .inl (cC, 0, .inr (.inl k)))] s.heap := hP
  have hl := lv_entry ([.ref o, .ref cl, .int (nI n), .ref se]) (n := 7) (Nat.le_of_ble_eq_true rfl)
  rw [lg_entry_eq]
  generalize (lg_sl ([.ref o, .ref cl, .int (nI n), .ref se]) ++ List.replicate (7 - (lg_sl ([.ref o, .ref cl, .int (nI n), .ref se])).length) Slot.unset).toArray = ls at hl ⊢
  have hl : lv_has ls 7 [(0, .ref o), (1, .ref cl), (2, .int (nI n)), (3, .ref se)] := hl
  refine lv_iload_n hx hb dX15_least_0 rfl (lv_at hl 2 rfl) ?_
  refine lv_istore (lv' := [(4, .int (nI n)), (0, .ref o), (1, .ref cl), (2, .int (nI n)), (3, .ref se)]) hx hb dX15_least_1 hl (by decide) rfl (fun ls hl => ?_)
  refine lv_iconst (v := 0) hx hb dX15_least_3 (by decide) ?_
  refine lv_istore (lv' := [(5, .int 0), (4, .int (nI n)), (0, .ref o), (1, .ref cl), (2, .int (nI n)), (3, .ref se)]) hx hb dX15_least_4 hl (by decide) rfl (fun ls hl => ?_)
  refine lv_iconst (v := 0) hx hb dX15_least_6 (by decide) ?_
  refine lv_istore (lv' := [(6, .int 0), (5, .int 0), (4, .int (nI n)), (0, .ref o), (1, .ref cl), (2, .int (nI n)), (3, .ref se)]) hx hb dX15_least_7 hl (by decide) rfl (fun ls hl => ?_)
  refine lv_iload hx hb dX15_least_9 (lv_at hl 0 rfl) ?_
  refine lv_aload_n hx hb dX15_least_11 rfl (lv_at hl 4 rfl) ?_
  refine va_alen (D := (dC, dI)) (v := 0) hx hb hK hP 1 0 rfl rfl rfl dX15_least_12 ?_
  refine lv_icmp_ge (tgt := 76) hx hb dX15_least_13 (by decide) (fun _ => ?_) (fun c9 => absurd (by decide) c9)
  refine lv_iload_n hx hb dX15_least_76 rfl (lv_at hl 5 rfl) ?_
  refine lv_iload hx hb dX15_least_77 (lv_at hl 1 rfl) ?_
  refine lv_icmp_le (tgt := 86) hx hb dX15_least_79 (by decide) (fun c9 => absurd c9 (nI_nle (by omega) (by omega))) (fun _ => ?_)
  refine lv_iconst (v := (-1)) hx hb dX15_least_82 (by decide) ?_
  refine lv_goto (tgt := 88) hx hb dX15_least_83 (by decide) ?_
  have hP9 := hP.sub (ws' := [(o, .inr (14, fo)), (cl, .inl (cC, 0, .inr (.inl k)))]) [0, 1] rfl
  have hD9 := hD.sub (ws' := [(o, .inr (14, fo)), (cl, .inl (cC, 0, .inr (.inl k)))]) [0, 1] (by decide) rfl
  have hK9 := hK.sub (tys' := [(cC, .long)]) [0] rfl
  exact W.iret (v := (-1)) hx hb hr (fun t ht hW => ⟨⟨(-1), (), rfl, rfl, by rw [ht]; exact hP9, va_K.moved hW.alike hK9, hD9⟩, hS.F ht⟩) hS.2.2 dX15_least_88

set_option maxHeartbeats 4000000 in
set_option maxRecDepth 100000 in
theorem c_Model_dealt (l : Launch) (dC : Nat → ClassId) (dI : Nat → Nat → Nat) (z : Nat) (o : Nat) (fo : List Value) (cl : Nat) (cC : ClassId) (k : Nat → Int64) (n : Nat) (sz : Nat) (hl_fo : fo.length = 55) (hn1 : 1 ≤ n) (hn2 : n ≤ 400) : Met l yX15_dealt (Cond.code yX15_dealt cX15_dealt 18 (some (.object "java/util/ArrayList")) :: G) ({ frames := 4, cells := 3, slots := 3, locals := 72 }) (va_Pc [.ref o, .ref cl, .int 0, .int (nI n), .int 1] (pre_ dC dI [(o, .inr (14, fo)), (cl, .inl (cC, 0, .inr (.inl k)))] [(cC, .long)] sz z)) (va_Qr (fun _ : Unit => True) (fun (_ : Unit) (q1 : Nat) t => ∃ (fs6 : List Value), va_P (dC, dI) classes [(o, .inr (14, fo)), (cl, .inl (cC, 0, .inr (.inl k))), (q1, .inr (0, fs6))] t.heap ∧ va_K (dC, dI) classes [(cC, .long)] t ∧ va_D (va_A [(o, .inr (14, fo)), (cl, .inl (cC, 0, .inr (.inl k)))] sz) [(o, .inr (14, fo)), (cl, .inl (cC, 0, .inr (.inl k))), (q1, .inr (0, fs6))] ∧ fs6.length = 3 ∧ fs6[2]? = some (.int 0) ∧ sz + 3 ≤ t.heap.size) (va_A [(o, .inr (14, fo)), (cl, .inl (cC, 0, .inr (.inl k)))] sz)) 3 3 (va_A [(o, .inr (14, fo)), (cl, .inl (cC, 0, .inr (.inl k)))] sz) := by
  refine Met.ofW (cc := cX15_dealt) (maxL := 18) (ret := (some (.object "java/util/ArrayList"))) (by decide) rfl ?_
  intro p e s m args below meth c s₁ B hml hv
  obtain ⟨rfl, hv⟩ := hv
  obtain ⟨hsz, hP, hK, hD0, hN, hZ⟩ := hv
  have hx := B.exec
  have hb := B.bytes
  have hr := B.returns
  have hG : ∀ w ∈ G, w.before _ s = true := fun w h => atoms_spec (ws := Cond.code yX15_dealt cX15_dealt 18 (some (.object "java/util/ArrayList")) :: G) B.pre w (List.mem_cons_of_mem _ h)
  have hown : s.vm.findClass "SeattableModel" = some m.cls := findClass_of_methodNamed B.named
  have hlocks := B.notSynchronized
  subst hsz
  have hD := hD0.self (sz := s.heap.size)
  generalize hAe : va_A [(o, .inr (14, fo)), (cl, .inl (cC, 0, .inr (.inl k)))] s.heap.size = A at hD hZ ⊢
  have hA : ∀ q : Nat, s.heap.size ≤ q → A q := fun q h => by rw [← hAe]; exact Or.inr h
  have hS : va_S A s.heap s.heap [] := va_S.rf
  have hP : va_P (dC, dI) classes [(o, .inr (14, fo)), (cl, .inl (cC, 0, .inr (.inl k)))] s.heap := hP
  have hg : s.heap.size + 0 ≤ s.heap.size := Nat.le_refl _
  have hl := lv_entry ([.ref o, .ref cl, .int 0, .int (nI n), .int 1]) (n := 18) (Nat.le_of_ble_eq_true rfl)
  rw [lg_entry_eq]
  generalize (lg_sl ([.ref o, .ref cl, .int 0, .int (nI n), .int 1]) ++ List.replicate (18 - (lg_sl ([.ref o, .ref cl, .int 0, .int (nI n), .int 1])).length) Slot.unset).toArray = ls at hl ⊢
  have hl : lv_has ls 18 [(0, .ref o), (1, .ref cl), (2, .int 0), (3, .int (nI n)), (4, .int 1)] := hl
  refine va_newS (D := (dC, dI)) (ci := 0) (fs := (List.range 3).map (fun k => defaultValue (tyJx4a65c k))) (C := RJx4a65c) (T := TJx4a65c) (N := 3) hx hb hG iJx4a65c tyJx4a65c tyJx4a65c_ok hown (hG _ m_224) (hG _ m_210) (hG _ m_211) hK hP hD hS hA rfl (fs_new 3 tyJx4a65c) (Nat.le_of_ble_eq_true rfl) (Nat.le_of_ble_eq_true rfl) dX15_dealt_0 (fun q1 H hP hD hS hz9 => ?_)
  have hP : va_P (dC, dI) classes [(o, .inr (14, fo)), (cl, .inl (cC, 0, .inr (.inl k))), (q1, .inr (0, ((List.range 3).map (fun k => defaultValue (tyJx4a65c k)))))] H := hP
  have hD : va_D A [(o, .inr (14, fo)), (cl, .inl (cC, 0, .inr (.inl k))), (q1, .inr (0, ((List.range 3).map (fun k => defaultValue (tyJx4a65c k)))))] := hD
  obtain ⟨fs2, efs2⟩ : ∃ y : List Value, y = (List.range 3).map (fun k => defaultValue (tyJx4a65c k)) := ⟨_, rfl⟩
  rw [← efs2] at hP hD
  have hl_3 : fs2.length = 3 := by rw [efs2, List.length_map, List.length_range]
  have hf_4 : fs2[2]? = some (.int 0) := by rw [efs2]; rfl
  have hg : s.heap.size + 1 ≤ H.size := by omega
  refine W.widen (k := 1) (n := 3) (Nat.le_of_ble_eq_true rfl) (Nat.le_of_ble_eq_true rfl) ?_
  refine lv_dup hx hb dX15_dealt_3 rfl ?_
  have hPc := hP.sub (ws' := [(q1, .inr (0, fs2))]) [2] rfl
  have hDc := hD.sub (ws' := [(q1, .inr (0, fs2))]) [2] (by decide) rfl
  have hKc := hK.sub (tys' := []) [] rfl
  have hFc := va_free (wc := [(q1, .inr (0, fs2))]) hD hS hA [2] rfl
  refine va_callv (va_runI (As := []) (rest := [.ref q1]) ⟨hx, hb, hml, hown, hG⟩ (c_ArrayList_init l dC dI z q1 fs2 H.size hl_3 hf_4) (cwI 0 hG (gI m_212) rfl rfl rfl (hG _ m_211) (hG _ m_225) (hG _ m_214) rfl (by decide +kernel) ⟨Nat.le_of_ble_eq_true rfl, Nat.le_of_ble_eq_true rfl⟩) ⟨pre_blind, fun U hU hW => ⟨rfl, pre_call hU hW hPc hKc hDc hN (zkeep hZ hS) hFc⟩⟩ rfl rfl hl.1 rfl (lv_room (Nat.le_of_ble_eq_true rfl)) dX15_dealt_4 ⟨Nat.le_of_ble_eq_true rfl, Nat.le_of_ble_eq_true rfl⟩) hS (fun q _ h => hFc q h) hFc (fun u t H locs ht hvm hw hB hz1 hk1 hS => ?_)
  obtain ⟨fs6, hP1, hK1, hD1, hy7, hy8⟩ := hB
  rw [ht] at hP1
  have hK1 := va_K.moved hvm.symm hK1
  obtain ⟨hP, hD⟩ := va_join (wr := [(o, .inr (14, fo)), (cl, .inl (cC, 0, .inr (.inl k)))]) (w1 := [(q1, .inr (0, fs6))]) hP hD [2] [0, 1] rfl rfl (by decide) (by decide) hk1 hFc hP1 hD1
  have hK := (hK.sub (tys' := [(cC, .long)]) [0] rfl).app hK1
  have hP : va_P (dC, dI) classes [(o, .inr (14, fo)), (cl, .inl (cC, 0, .inr (.inl k))), (q1, .inr (0, fs6))] H := hP
  have hD : va_D A [(o, .inr (14, fo)), (cl, .inl (cC, 0, .inr (.inl k))), (q1, .inr (0, fs6))] := hD
  have hK : va_K (dC, dI) classes [(cC, .long)] s := hK
  have hg : s.heap.size + 1 ≤ H.size := Nat.le_trans hg hz1
  refine lv_astore (lv' := [(5, .ref q1), (0, .ref o), (1, .ref cl), (2, .int 0), (3, .int (nI n)), (4, .int 1)]) hx hb dX15_dealt_7 hl (by decide) rfl (fun ls hl => ?_)
  refine lv_aload_n hx hb dX15_dealt_9 rfl (lv_at hl 2 rfl) ?_
  refine va_alen (D := (dC, dI)) (v := 0) hx hb hK hP 1 0 rfl rfl rfl dX15_dealt_10 ?_
  refine lv_istore (lv' := [(6, .int 0), (5, .ref q1), (0, .ref o), (1, .ref cl), (2, .int 0), (3, .int (nI n)), (4, .int 1)]) hx hb dX15_dealt_11 hl (by decide) rfl (fun ls hl => ?_)
  refine lv_iload hx hb dX15_dealt_13 (lv_at hl 0 rfl) ?_
  refine nf_newa (D := (dC, dI)) (atype := .int) (N' := 0) hx hb (hG _ m_16) hP hS (by decide) (by decide) (Nat.le_of_ble_eq_true rfl) (Nat.le_of_ble_eq_true rfl) (Nat.le_of_ble_eq_true rfl) dX15_dealt_15 (fun q9 H hP hS hz9 => ?_)
  have hg : s.heap.size + 2 ≤ H.size := by omega
  refine W.widen (k := 2) (n := 3) (Nat.le_of_ble_eq_true rfl) (Nat.le_of_ble_eq_true rfl) ?_
  refine lv_astore (lv' := [(7, .ref q9), (6, .int 0), (5, .ref q1), (0, .ref o), (1, .ref cl), (2, .int 0), (3, .int (nI n)), (4, .int 1)]) hx hb dX15_dealt_17 hl (by decide) rfl (fun ls hl => ?_)
  refine lv_iload hx hb dX15_dealt_19 (lv_at hl 1 rfl) ?_
  refine nf_newa (D := (dC, dI)) (atype := .long) (N' := 0) hx hb (hG _ m_60) hP hS (by decide) (by decide) (Nat.le_of_ble_eq_true rfl) (Nat.le_of_ble_eq_true rfl) (Nat.le_of_ble_eq_true rfl) dX15_dealt_21 (fun q10 H hP hS hz9 => ?_)
  have hg : s.heap.size + 3 ≤ H.size := by omega
  refine W.widen (k := 3) (n := 3) (Nat.le_of_ble_eq_true rfl) (Nat.le_of_ble_eq_true rfl) ?_
  refine lv_astore (lv' := [(8, .ref q10), (7, .ref q9), (6, .int 0), (5, .ref q1), (0, .ref o), (1, .ref cl), (2, .int 0), (3, .int (nI n)), (4, .int 1)]) hx hb dX15_dealt_23 hl (by decide) rfl (fun ls hl => ?_)
  refine lv_iload_n hx hb dX15_dealt_25 rfl (lv_at hl 6 rfl) ?_
  refine lv_iconst (v := 3) hx hb dX15_dealt_26 (by decide) ?_
  refine lv_icmp_ge (tgt := 41) hx hb dX15_dealt_27 (by decide) (fun c9 => absurd c9 (by decide)) (fun _ => ?_)
  refine lv_aload_n hx hb dX15_dealt_30 rfl (lv_at hl 4 rfl) ?_
  refine lv_aload_n hx hb dX15_dealt_31 rfl (lv_at hl 5 rfl) ?_
  refine lv_iload_n hx hb dX15_dealt_32 rfl (lv_at hl 7 rfl) ?_
  refine lv_aload hx hb dX15_dealt_33 (lv_at hl 1 rfl) ?_
  have hPc := hP.sub (ws' := [(o, .inr (14, fo)), (cl, .inl (cC, 0, .inr (.inl k)))]) [0, 1] rfl
  have hDc := hD.sub (ws' := [(o, .inr (14, fo)), (cl, .inl (cC, 0, .inr (.inl k)))]) [0, 1] (by decide) rfl
  have hKc := hK.sub (tys' := [(cC, .long)]) [0] rfl
  have hFc := va_free (wc := [(o, .inr (14, fo)), (cl, .inl (cC, 0, .inr (.inl k)))]) hD hS hA [0, 1] rfl
  refine va_calli (va_runV (C := "SeattableModel") (As := [.ref cl, .int (nI n), .ref q9]) (rest := []) ⟨hx, hb, hml, hown, hG⟩ (c_Model_least l dC dI z o fo cl cC k n q9 H.size hl_fo hn1 hn2) (cwV 3 hG (gV m_306 m_307 m_308 m_304 m_305) rfl rfl rfl (by decide +kernel) ⟨Nat.le_of_ble_eq_true rfl, Nat.le_of_ble_eq_true rfl⟩) ⟨pre_blind, va_recv hKc hPc (ci := 14) (q0 := 0) rfl rfl, fun U hU hW => ⟨rfl, pre_call hU hW hPc hKc hDc hN (zkeep hZ hS) hFc⟩⟩ rfl rfl hl.1 rfl (lv_room (Nat.le_of_ble_eq_true rfl)) dX15_dealt_35 ⟨Nat.le_of_ble_eq_true rfl, Nat.le_of_ble_eq_true rfl⟩) hS (fun q _ h => hFc q h) hFc (fun r11 u t H locs ht hvm hw hB hz1 hk1 hS => ?_)
  obtain ⟨hP1, hK1, hD1⟩ := hB
  rw [ht] at hP1
  have hK1 := va_K.moved hvm.symm hK1
  try dsimp only at hw
  subst hw
  obtain ⟨hP, hD⟩ := va_join (wr := [(q1, .inr (0, fs6))]) (w1 := [(o, .inr (14, fo)), (cl, .inl (cC, 0, .inr (.inl k)))]) hP hD [0, 1] [2] rfl rfl (by decide) (by decide) hk1 hFc hP1 hD1
  have hK := (hK.sub (tys' := []) [] rfl).app hK1
  have hP : va_P (dC, dI) classes [(q1, .inr (0, fs6)), (o, .inr (14, fo)), (cl, .inl (cC, 0, .inr (.inl k)))] H := hP
  have hD : va_D A [(q1, .inr (0, fs6)), (o, .inr (14, fo)), (cl, .inl (cC, 0, .inr (.inl k)))] := hD
  have hK : va_K (dC, dI) classes [(cC, .long)] s := hK
  have hg : s.heap.size + 3 ≤ H.size := Nat.le_trans hg hz1
  refine lv_goto (tgt := 51) hx hb dX15_dealt_38 (by decide) ?_
  refine lv_istore (lv' := [(9, .int (-1)), (8, .ref q10), (7, .ref q9), (6, .int 0), (5, .ref q1), (0, .ref o), (1, .ref cl), (2, .int 0), (3, .int (nI n)), (4, .int 1)]) hx hb dX15_dealt_51 hl (by decide) rfl (fun ls hl => ?_)
  refine lv_iload hx hb dX15_dealt_53 (lv_at hl 0 rfl) ?_
  refine lv_if_ge (tgt := 61) hx hb dX15_dealt_55 (by decide) (fun c9 => absurd c9 (by decide)) (fun _ => ?_)
  refine lv_aload hx hb dX15_dealt_58 (lv_at hl 4 rfl) ?_
  have hP9 := hP.sub (ws' := [(o, .inr (14, fo)), (cl, .inl (cC, 0, .inr (.inl k))), (q1, .inr (0, fs6))]) [1, 2, 0] rfl
  have hD9 := hD.sub (ws' := [(o, .inr (14, fo)), (cl, .inl (cC, 0, .inr (.inl k))), (q1, .inr (0, fs6))]) [1, 2, 0] (by decide) rfl
  have hK9 := hK.sub (tys' := [(cC, .long)]) [0] rfl
  exact W.aret (v := .ref q1) (rt := (.object "java/util/ArrayList")) hx hb hr (Or.inl ⟨_, rfl⟩) (Or.inr ⟨_, rfl⟩) (fun t ht hW => ⟨⟨(), q1, rfl, trivial, fs6, by rw [ht]; exact hP9, va_K.moved hW.alike hK9, hD9, hy7, hy8, (by rw [ht]; exact hg)⟩, hS.F ht⟩) hS.2.2 dX15_dealt_60

set_option maxHeartbeats 4000000 in
set_option maxRecDepth 100000 in
theorem c_Model_first (l : Launch) (dC : Nat → ClassId) (dI : Nat → Nat → Nat) (z : Nat) (o : Nat) (fo : List Value) (cl : Nat) (cC : ClassId) (k : Nat → Int64) (n : Nat) (sz : Nat) (hl_fo : fo.length = 55) (hn1 : 1 ≤ n) (hn2 : n ≤ 400) : Met l yX15_first (Cond.code yX15_first cX15_first 5 (some (.array .int)) :: G) ({ frames := 5, cells := 3, slots := 3, locals := 109 }) (va_Pc [.ref o, .ref cl, .int 0, .int (nI n)] (pre_ dC dI [(o, .inr (14, fo)), (cl, .inl (cC, 0, .inr (.inl k)))] [(cC, .long)] sz z)) (va_Qq (fun (r : Option Nat) (_ : Unit) => r = none) (fun _ t => va_P (dC, dI) classes [(o, .inr (14, fo)), (cl, .inl (cC, 0, .inr (.inl k)))] t.heap ∧ va_K (dC, dI) classes [(cC, .long)] t ∧ va_D (va_A [(o, .inr (14, fo)), (cl, .inl (cC, 0, .inr (.inl k)))] sz) [(o, .inr (14, fo)), (cl, .inl (cC, 0, .inr (.inl k)))] ∧ sz + 3 ≤ t.heap.size) (va_A [(o, .inr (14, fo)), (cl, .inl (cC, 0, .inr (.inl k)))] sz)) 3 3 (va_A [(o, .inr (14, fo)), (cl, .inl (cC, 0, .inr (.inl k)))] sz) := by
  refine Met.ofW (cc := cX15_first) (maxL := 5) (ret := (some (.array .int))) (by decide) rfl ?_
  intro p e s m args below meth c s₁ B hml hv
  obtain ⟨rfl, hv⟩ := hv
  obtain ⟨hsz, hP, hK, hD0, hN, hZ⟩ := hv
  have hx := B.exec
  have hb := B.bytes
  have hr := B.returns
  have hG : ∀ w ∈ G, w.before _ s = true := fun w h => atoms_spec (ws := Cond.code yX15_first cX15_first 5 (some (.array .int)) :: G) B.pre w (List.mem_cons_of_mem _ h)
  have hown : s.vm.findClass "SeattableModel" = some m.cls := findClass_of_methodNamed B.named
  have hlocks := B.notSynchronized
  subst hsz
  have hD := hD0.self (sz := s.heap.size)
  generalize hAe : va_A [(o, .inr (14, fo)), (cl, .inl (cC, 0, .inr (.inl k)))] s.heap.size = A at hD hZ ⊢
  have hA : ∀ q : Nat, s.heap.size ≤ q → A q := fun q h => by rw [← hAe]; exact Or.inr h
  have hS : va_S A s.heap s.heap [] := va_S.rf
  have hP : va_P (dC, dI) classes [(o, .inr (14, fo)), (cl, .inl (cC, 0, .inr (.inl k)))] s.heap := hP
  have hg : s.heap.size + 0 ≤ s.heap.size := Nat.le_refl _
  have hl := lv_entry ([.ref o, .ref cl, .int 0, .int (nI n)]) (n := 5) (Nat.le_of_ble_eq_true rfl)
  rw [lg_entry_eq]
  generalize (lg_sl ([.ref o, .ref cl, .int 0, .int (nI n)]) ++ List.replicate (5 - (lg_sl ([.ref o, .ref cl, .int 0, .int (nI n)])).length) Slot.unset).toArray = ls at hl ⊢
  have hl : lv_has ls 5 [(0, .ref o), (1, .ref cl), (2, .int 0), (3, .int (nI n))] := hl
  refine lv_aload_n hx hb dX15_first_0 rfl (lv_at hl 0 rfl) ?_
  refine lv_aload_n hx hb dX15_first_1 rfl (lv_at hl 1 rfl) ?_
  refine lv_iload_n hx hb dX15_first_2 rfl (lv_at hl 2 rfl) ?_
  refine lv_iload_n hx hb dX15_first_3 rfl (lv_at hl 3 rfl) ?_
  refine lv_iconst (v := 1) hx hb dX15_first_4 (by decide) ?_
  have hPc := hP.sub (ws' := [(o, .inr (14, fo)), (cl, .inl (cC, 0, .inr (.inl k)))]) [0, 1] rfl
  have hDc := hD.sub (ws' := [(o, .inr (14, fo)), (cl, .inl (cC, 0, .inr (.inl k)))]) [0, 1] (by decide) rfl
  have hKc := hK.sub (tys' := [(cC, .long)]) [0] rfl
  have hFc := va_free (wc := [(o, .inr (14, fo)), (cl, .inl (cC, 0, .inr (.inl k)))]) hD hS hA [0, 1] rfl
  refine va_callr (va_runV (C := "SeattableModel") (As := [.ref cl, .int 0, .int (nI n), .int 1]) (rest := []) ⟨hx, hb, hml, hown, hG⟩ (c_Model_dealt l dC dI z o fo cl cC k n s.heap.size hl_fo hn1 hn2) (cwV 4 hG (gV m_310 m_311 m_312 m_304 m_309) rfl rfl rfl (by decide +kernel) ⟨Nat.le_of_ble_eq_true rfl, Nat.le_of_ble_eq_true rfl⟩) ⟨pre_blind, va_recv hKc hPc (ci := 14) (q0 := 0) rfl rfl, fun U hU hW => ⟨rfl, pre_call hU hW hPc hKc hDc hN (zkeep hZ hS) hFc⟩⟩ rfl rfl hl.1 rfl (lv_room (Nat.le_of_ble_eq_true rfl)) dX15_first_5 ⟨Nat.le_of_ble_eq_true rfl, Nat.le_of_ble_eq_true rfl⟩) hS (fun q _ h => hFc q h) hFc (fun u r1 t H locs ht hvm hw hB hz1 hk1 hS => ?_)
  obtain ⟨fs2, hP1, hK1, hD1, hy3, hy4, hy5⟩ := hB
  rw [ht] at hP1
  have hK1 := va_K.moved hvm.symm hK1
  obtain ⟨hP, hD⟩ := va_join (wr := []) (w1 := [(o, .inr (14, fo)), (cl, .inl (cC, 0, .inr (.inl k))), (r1, .inr (0, fs2))]) hP hD [0, 1] [] rfl rfl (by decide) (by decide) hk1 hFc hP1 hD1
  have hK := (hK.sub (tys' := []) [] rfl).app hK1
  have hP : va_P (dC, dI) classes [(o, .inr (14, fo)), (cl, .inl (cC, 0, .inr (.inl k))), (r1, .inr (0, fs2))] H := hP
  have hD : va_D A [(o, .inr (14, fo)), (cl, .inl (cC, 0, .inr (.inl k))), (r1, .inr (0, fs2))] := hD
  have hK : va_K (dC, dI) classes [(cC, .long)] s := hK
  rw [ht] at hy5
  have hg : s.heap.size + 3 ≤ H.size := by omega
  refine W.widen (k := 3) (n := 3) (Nat.le_of_ble_eq_true rfl) (Nat.le_of_ble_eq_true rfl) ?_
  refine lv_astore (lv' := [(4, .ref r1), (0, .ref o), (1, .ref cl), (2, .int 0), (3, .int (nI n))]) hx hb dX15_first_8 hl (by decide) rfl (fun ls hl => ?_)
  refine lv_aload hx hb dX15_first_10 (lv_at hl 0 rfl) ?_
  have hPc := hP.sub (ws' := [(r1, .inr (0, fs2))]) [2] rfl
  have hDc := hD.sub (ws' := [(r1, .inr (0, fs2))]) [2] (by decide) rfl
  have hKc := hK.sub (tys' := []) [] rfl
  have hFc := va_free (wc := [(r1, .inr (0, fs2))]) hD hS hA [2] rfl
  refine va_calli (va_runV (C := "java/util/ArrayList") (As := []) (rest := []) ⟨hx, hb, hml, hown, hG⟩ (c_ArrayList_isEmpty l dC dI z r1 fs2 H.size hy3 hy4) (cwV 0 hG (gV m_314 m_315 m_316 m_211 m_313) rfl rfl rfl (by decide +kernel) ⟨Nat.le_of_ble_eq_true rfl, Nat.le_of_ble_eq_true rfl⟩) ⟨pre_blind, va_recv hKc hPc (ci := 0) (q0 := 0) rfl rfl, fun U hU hW => ⟨rfl, pre_call hU hW hPc hKc hDc hN (zkeep hZ hS) hFc⟩⟩ rfl rfl hl.1 rfl (lv_room (Nat.le_of_ble_eq_true rfl)) dX15_first_12 ⟨Nat.le_of_ble_eq_true rfl, Nat.le_of_ble_eq_true rfl⟩) hS (fun q _ h => hFc q h) hFc (fun r6 u t H locs ht hvm hw hB hz1 hk1 hS => ?_)
  obtain ⟨hP1, hK1, hD1⟩ := hB
  rw [ht] at hP1
  have hK1 := va_K.moved hvm.symm hK1
  try dsimp only at hw
  subst hw
  obtain ⟨hP, hD⟩ := va_join (wr := [(o, .inr (14, fo)), (cl, .inl (cC, 0, .inr (.inl k)))]) (w1 := [(r1, .inr (0, fs2))]) hP hD [2] [0, 1] rfl rfl (by decide) (by decide) hk1 hFc hP1 hD1
  have hK := (hK.sub (tys' := [(cC, .long)]) [0] rfl).app hK1
  have hP : va_P (dC, dI) classes [(o, .inr (14, fo)), (cl, .inl (cC, 0, .inr (.inl k))), (r1, .inr (0, fs2))] H := hP
  have hD : va_D A [(o, .inr (14, fo)), (cl, .inl (cC, 0, .inr (.inl k))), (r1, .inr (0, fs2))] := hD
  have hK : va_K (dC, dI) classes [(cC, .long)] s := hK
  have hg : s.heap.size + 3 ≤ H.size := Nat.le_trans hg hz1
  refine lv_if_eq (tgt := 22) hx hb dX15_first_15 (by decide) (fun c9 => absurd c9 (by decide)) (fun _ => ?_)
  refine lv_null hx hb dX15_first_18 ?_
  refine lv_goto (tgt := 31) hx hb dX15_first_19 (by decide) ?_
  have hP9 := hP.sub (ws' := [(o, .inr (14, fo)), (cl, .inl (cC, 0, .inr (.inl k)))]) [0, 1] rfl
  have hD9 := hD.sub (ws' := [(o, .inr (14, fo)), (cl, .inl (cC, 0, .inr (.inl k)))]) [0, 1] (by decide) rfl
  have hK9 := hK.sub (tys' := [(cC, .long)]) [0] rfl
  exact W.aret (v := .null) (rt := (.array .int)) hx hb hr (Or.inr ⟨_, rfl⟩) (Or.inl rfl) (fun t ht hW => ⟨⟨none, (), rfl, rfl, by rw [ht]; exact hP9, va_K.moved hW.alike hK9, hD9, (by rw [ht]; exact hg)⟩, hS.F ht⟩) hS.2.2 dX15_first_31

set_option maxHeartbeats 4000000 in
set_option maxRecDepth 100000 in
theorem c_Model_tiers (l : Launch) (dC : Nat → ClassId) (dI : Nat → Nat → Nat) (z : Nat) (o : Nat) (fo : List Value) (st : Nat) (fS : List Value) (sz : Nat) (hl_fo : fo.length = 55) (hf_fo_1 : fo[1]? = some (.ref st)) (hl_fS : fS.length = 28) (hf_fS_0 : fS[0]? = some (.int 0)) (hf_fS_1 : fS[1]? = some (.int 0)) : Met l yX15_tiers (Cond.code yX15_tiers cX15_tiers 11 (some .int) :: G) ({ frames := 6, cells := 1202, slots := 1206, locals := 133 }) (va_Pc [.ref o, .int 0, .int 0, .int 1, .int 0] (pre_ dC dI [(o, .inr (14, fo)), (st, .inr (13, fS))] [] sz z)) (va_Qi (fun (r : Int32) (_ : Unit) => r = (-1)) (fun _ t => ∃ (fs5 : List Value), va_P (dC, dI) classes [(o, .inr (14, fs5)), (st, .inr (13, fS))] t.heap ∧ va_K (dC, dI) classes [] t ∧ va_D (va_A [(o, .inr (14, fo)), (st, .inr (13, fS))] sz) [(o, .inr (14, fs5)), (st, .inr (13, fS))] ∧ fs5.length = 55 ∧ fs5[0]? = some (.int 0) ∧ fs5[1]? = some (.ref st) ∧ sz + 1200 ≤ t.heap.size) (va_A [(o, .inr (14, fo)), (st, .inr (13, fS))] sz)) 1202 1206 (va_A [(o, .inr (14, fo)), (st, .inr (13, fS))] sz) := by
  refine Met.ofW (cc := cX15_tiers) (maxL := 11) (ret := (some .int)) (by decide) rfl ?_
  intro p e s m args below meth c s₁ B hml hv
  obtain ⟨rfl, hv⟩ := hv
  obtain ⟨hsz, hP, hK, hD0, hN, hZ⟩ := hv
  have hx := B.exec
  have hb := B.bytes
  have hr := B.returns
  have hG : ∀ w ∈ G, w.before _ s = true := fun w h => atoms_spec (ws := Cond.code yX15_tiers cX15_tiers 11 (some .int) :: G) B.pre w (List.mem_cons_of_mem _ h)
  have hown : s.vm.findClass "SeattableModel" = some m.cls := findClass_of_methodNamed B.named
  have hlocks := B.notSynchronized
  subst hsz
  have hD := hD0.self (sz := s.heap.size)
  generalize hAe : va_A [(o, .inr (14, fo)), (st, .inr (13, fS))] s.heap.size = A at hD hZ ⊢
  have hA : ∀ q : Nat, s.heap.size ≤ q → A q := fun q h => by rw [← hAe]; exact Or.inr h
  have hS : va_S A s.heap s.heap [] := va_S.rf
  have hP : va_P (dC, dI) classes [(o, .inr (14, fo)), (st, .inr (13, fS))] s.heap := hP
  have hg : s.heap.size + 0 ≤ s.heap.size := Nat.le_refl _
  have hl := lv_entry ([.ref o, .int 0, .int 0, .int 1, .int 0]) (n := 11) (Nat.le_of_ble_eq_true rfl)
  rw [lg_entry_eq]
  generalize (lg_sl ([.ref o, .int 0, .int 0, .int 1, .int 0]) ++ List.replicate (11 - (lg_sl ([.ref o, .int 0, .int 0, .int 1, .int 0])).length) Slot.unset).toArray = ls at hl ⊢
  have hl : lv_has ls 11 [(0, .ref o), (1, .int 0), (2, .int 0), (3, .int 1), (4, .int 0)] := hl
  refine lv_aload_n hx hb dX15_tiers_0 rfl (lv_at hl 0 rfl) ?_
  refine lv_iload_n hx hb dX15_tiers_1 rfl (lv_at hl 1 rfl) ?_
  refine lv_i2l (v := 0) hx hb dX15_tiers_2 (by decide) ?_
  refine lv_lconst (v := 0) hx hb dX15_tiers_3 (by decide) ?_
  refine lv_ldc2 (v := 4) hx hb hown (hG _ m_317) dX15_tiers_4 ?_
  have hPc := hP.sub (ws' := []) [] rfl
  have hDc := hD.sub (ws' := []) [] (by decide) rfl
  have hKc := hK.sub (tys' := []) [] rfl
  have hFc := va_free (wc := []) hD hS hA [] rfl
  refine va_calli (va_runS (As := [.long 0, .long 0, .long 4]) (rest := [.ref o]) ⟨hx, hb, hml, hown, hG⟩ (c_Model_in_004 l dC dI z s.heap.size) (va_cwS 3 hG (gS m_319 m_320 m_304 m_318) rfl rfl rfl (by decide +kernel) ⟨Nat.le_of_ble_eq_true rfl, Nat.le_of_ble_eq_true rfl⟩) ⟨pre_blind, fun U hU hW => ⟨rfl, pre_call hU hW hPc hKc hDc hN (zkeep hZ hS) hFc⟩⟩ rfl rfl hl.1 rfl (lv_room (Nat.le_of_ble_eq_true rfl)) dX15_tiers_7 ⟨Nat.le_of_ble_eq_true rfl, Nat.le_of_ble_eq_true rfl⟩) hS (fun q _ h => hFc q h) hFc (fun r1 u t H locs ht hvm hw hB hz1 hk1 hS => ?_)
  obtain ⟨hP1, hK1, hD1⟩ := hB
  rw [ht] at hP1
  have hK1 := va_K.moved hvm.symm hK1
  try dsimp only at hw
  subst hw
  obtain ⟨hP, hD⟩ := va_join (wr := [(o, .inr (14, fo)), (st, .inr (13, fS))]) (w1 := []) hP hD [] [0, 1] rfl rfl (by decide) (by decide) hk1 hFc hP1 hD1
  have hK := (hK.sub (tys' := []) [] rfl).app hK1
  have hP : va_P (dC, dI) classes [(o, .inr (14, fo)), (st, .inr (13, fS))] H := hP
  have hD : va_D A [(o, .inr (14, fo)), (st, .inr (13, fS))] := hD
  have hK : va_K (dC, dI) classes [] s := hK
  have hg : s.heap.size + 0 ≤ H.size := Nat.le_trans hg hz1
  refine lv_if_eq (tgt := 41) hx hb dX15_tiers_10 (by decide) (fun c9 => absurd c9 (by decide)) (fun _ => ?_)
  refine lv_iload_n hx hb dX15_tiers_13 rfl (lv_at hl 2 rfl) ?_
  refine lv_i2l (v := 0) hx hb dX15_tiers_14 (by decide) ?_
  refine lv_lconst (v := 0) hx hb dX15_tiers_15 (by decide) ?_
  refine lv_ldc2 (v := 4) hx hb hown (hG _ m_317) dX15_tiers_16 ?_
  have hPc := hP.sub (ws' := []) [] rfl
  have hDc := hD.sub (ws' := []) [] (by decide) rfl
  have hKc := hK.sub (tys' := []) [] rfl
  have hFc := va_free (wc := []) hD hS hA [] rfl
  refine va_calli (va_runS (As := [.long 0, .long 0, .long 4]) (rest := [.ref o]) ⟨hx, hb, hml, hown, hG⟩ (c_Model_in_004 l dC dI z H.size) (va_cwS 3 hG (gS m_319 m_320 m_304 m_318) rfl rfl rfl (by decide +kernel) ⟨Nat.le_of_ble_eq_true rfl, Nat.le_of_ble_eq_true rfl⟩) ⟨pre_blind, fun U hU hW => ⟨rfl, pre_call hU hW hPc hKc hDc hN (zkeep hZ hS) hFc⟩⟩ rfl rfl hl.1 rfl (lv_room (Nat.le_of_ble_eq_true rfl)) dX15_tiers_19 ⟨Nat.le_of_ble_eq_true rfl, Nat.le_of_ble_eq_true rfl⟩) hS (fun q _ h => hFc q h) hFc (fun r2 u t H locs ht hvm hw hB hz1 hk1 hS => ?_)
  obtain ⟨hP1, hK1, hD1⟩ := hB
  rw [ht] at hP1
  have hK1 := va_K.moved hvm.symm hK1
  try dsimp only at hw
  subst hw
  obtain ⟨hP, hD⟩ := va_join (wr := [(o, .inr (14, fo)), (st, .inr (13, fS))]) (w1 := []) hP hD [] [0, 1] rfl rfl (by decide) (by decide) hk1 hFc hP1 hD1
  have hK := (hK.sub (tys' := []) [] rfl).app hK1
  have hP : va_P (dC, dI) classes [(o, .inr (14, fo)), (st, .inr (13, fS))] H := hP
  have hD : va_D A [(o, .inr (14, fo)), (st, .inr (13, fS))] := hD
  have hK : va_K (dC, dI) classes [] s := hK
  have hg : s.heap.size + 0 ≤ H.size := Nat.le_trans hg hz1
  refine lv_if_eq (tgt := 41) hx hb dX15_tiers_22 (by decide) (fun c9 => absurd c9 (by decide)) (fun _ => ?_)
  refine lv_iload_n hx hb dX15_tiers_25 rfl (lv_at hl 3 rfl) ?_
  refine lv_i2l (v := 1) hx hb dX15_tiers_26 (by decide) ?_
  refine lv_lconst (v := 1) hx hb dX15_tiers_27 (by decide) ?_
  refine lv_ldc2 (v := 400) hx hb hown (hG _ m_321) dX15_tiers_28 ?_
  have hPc := hP.sub (ws' := []) [] rfl
  have hDc := hD.sub (ws' := []) [] (by decide) rfl
  have hKc := hK.sub (tys' := []) [] rfl
  have hFc := va_free (wc := []) hD hS hA [] rfl
  refine va_calli (va_runS (As := [.long 1, .long 1, .long 400]) (rest := [.ref o]) ⟨hx, hb, hml, hown, hG⟩ (c_Model_in_11400 l dC dI z H.size) (va_cwS 3 hG (gS m_319 m_320 m_304 m_318) rfl rfl rfl (by decide +kernel) ⟨Nat.le_of_ble_eq_true rfl, Nat.le_of_ble_eq_true rfl⟩) ⟨pre_blind, fun U hU hW => ⟨rfl, pre_call hU hW hPc hKc hDc hN (zkeep hZ hS) hFc⟩⟩ rfl rfl hl.1 rfl (lv_room (Nat.le_of_ble_eq_true rfl)) dX15_tiers_31 ⟨Nat.le_of_ble_eq_true rfl, Nat.le_of_ble_eq_true rfl⟩) hS (fun q _ h => hFc q h) hFc (fun r3 u t H locs ht hvm hw hB hz1 hk1 hS => ?_)
  obtain ⟨hP1, hK1, hD1⟩ := hB
  rw [ht] at hP1
  have hK1 := va_K.moved hvm.symm hK1
  try dsimp only at hw
  subst hw
  obtain ⟨hP, hD⟩ := va_join (wr := [(o, .inr (14, fo)), (st, .inr (13, fS))]) (w1 := []) hP hD [] [0, 1] rfl rfl (by decide) (by decide) hk1 hFc hP1 hD1
  have hK := (hK.sub (tys' := []) [] rfl).app hK1
  have hP : va_P (dC, dI) classes [(o, .inr (14, fo)), (st, .inr (13, fS))] H := hP
  have hD : va_D A [(o, .inr (14, fo)), (st, .inr (13, fS))] := hD
  have hK : va_K (dC, dI) classes [] s := hK
  have hg : s.heap.size + 0 ≤ H.size := Nat.le_trans hg hz1
  refine lv_if_eq (tgt := 41) hx hb dX15_tiers_34 (by decide) (fun c9 => absurd c9 (by decide)) (fun _ => ?_)
  refine lv_iconst (v := 1) hx hb dX15_tiers_37 (by decide) ?_
  refine lv_goto (tgt := 42) hx hb dX15_tiers_38 (by decide) ?_
  refine lv_iload hx hb dX15_tiers_42 (lv_at hl 4 rfl) ?_
  refine lv_if_eq (tgt := 64) hx hb dX15_tiers_44 (by decide) (fun _ => ?_) (fun c9 => absurd (by decide) c9)
  refine lv_iconst (v := 1) hx hb dX15_tiers_64 (by decide) ?_
  refine lv_goto (tgt := 69) hx hb dX15_tiers_65 (by decide) ?_
  have hPc := hP.sub (ws' := [(o, .inr (14, fo))]) [0] rfl
  have hDc := hD.sub (ws' := [(o, .inr (14, fo))]) [0] (by decide) rfl
  have hKc := hK.sub (tys' := []) [] rfl
  have hFc := va_free (wc := [(o, .inr (14, fo))]) hD hS hA [0] rfl
  refine va_calli (va_runV (C := "SeattableModel") (As := [.int 1, .int 1]) (rest := []) ⟨hx, hb, hml, hown, hG⟩ (c_Model_fine l dC dI z o fo st H.size hl_fo hf_fo_1) (cwV 2 hG (gV m_323 m_324 m_325 m_304 m_322) rfl rfl rfl (by decide +kernel) ⟨Nat.le_of_ble_eq_true rfl, Nat.le_of_ble_eq_true rfl⟩) ⟨pre_blind, va_recv hKc hPc (ci := 14) (q0 := 0) rfl rfl, fun U hU hW => ⟨rfl, pre_call hU hW hPc hKc hDc hN (zkeep hZ hS) hFc⟩⟩ rfl rfl hl.1 rfl (lv_room (Nat.le_of_ble_eq_true rfl)) dX15_tiers_69 ⟨Nat.le_of_ble_eq_true rfl, Nat.le_of_ble_eq_true rfl⟩) hS (fun q _ h => hFc q h) hFc (fun r4 u t H locs ht hvm hw hB hz1 hk1 hS => ?_)
  obtain ⟨fs5, hP1, hK1, hD1, hy6, hy7, hy8⟩ := hB
  rw [ht] at hP1
  have hK1 := va_K.moved hvm.symm hK1
  try dsimp only at hw
  subst hw
  obtain ⟨hP, hD⟩ := va_join (wr := [(st, .inr (13, fS))]) (w1 := [(o, .inr (14, fs5))]) hP hD [0] [1] rfl rfl (by decide) (by decide) hk1 hFc hP1 hD1
  have hK := (hK.sub (tys' := []) [] rfl).app hK1
  have hP : va_P (dC, dI) classes [(st, .inr (13, fS)), (o, .inr (14, fs5))] H := hP
  have hD : va_D A [(st, .inr (13, fS)), (o, .inr (14, fs5))] := hD
  have hK : va_K (dC, dI) classes [] s := hK
  have hg : s.heap.size + 0 ≤ H.size := Nat.le_trans hg hz1
  refine lv_if_ne (tgt := 77) hx hb dX15_tiers_72 (by decide) (fun _ => ?_) (fun c9 => absurd c9 (by decide))
  refine lv_aload_n hx hb dX15_tiers_77 rfl (lv_at hl 0 rfl) ?_
  refine lv_iconst (v := 0) hx hb dX15_tiers_78 (by decide) ?_
  have hPc := hP.sub (ws' := [(o, .inr (14, fs5)), (st, .inr (13, fS))]) [1, 0] rfl
  have hDc := hD.sub (ws' := [(o, .inr (14, fs5)), (st, .inr (13, fS))]) [1, 0] (by decide) rfl
  have hKc := hK.sub (tys' := []) [] rfl
  have hFc := va_free (wc := [(o, .inr (14, fs5)), (st, .inr (13, fS))]) hD hS hA [1, 0] rfl
  refine va_callv (va_runV (C := "SeattableModel") (As := [.int 0]) (rest := []) ⟨hx, hb, hml, hown, hG⟩ (c_Model_bounds l dC dI z o fs5 st fS H.size hy6 hy8 hl_fS hf_fS_0 hf_fS_1) (cwV 1 hG (gV m_327 m_328 m_329 m_304 m_326) rfl rfl rfl (by decide +kernel) ⟨Nat.le_of_ble_eq_true rfl, Nat.le_of_ble_eq_true rfl⟩) ⟨pre_blind, va_recv hKc hPc (ci := 14) (q0 := 0) rfl rfl, fun U hU hW => ⟨rfl, pre_call hU hW hPc hKc hDc hN (zkeep hZ hS) hFc⟩⟩ rfl rfl hl.1 rfl (lv_room (Nat.le_of_ble_eq_true rfl)) dX15_tiers_79 ⟨Nat.le_of_ble_eq_true rfl, Nat.le_of_ble_eq_true rfl⟩) hS (fun q _ h => hFc q h) hFc (fun u t H locs ht hvm hw hB hz1 hk1 hS => ?_)
  obtain ⟨hP1, hK1, hD1⟩ := hB
  rw [ht] at hP1
  have hK1 := va_K.moved hvm.symm hK1
  obtain ⟨hP, hD⟩ := va_join (wr := []) (w1 := [(o, .inr (14, fs5)), (st, .inr (13, fS))]) hP hD [1, 0] [] rfl rfl (by decide) (by decide) hk1 hFc hP1 hD1
  have hK := (hK.sub (tys' := []) [] rfl).app hK1
  have hP : va_P (dC, dI) classes [(o, .inr (14, fs5)), (st, .inr (13, fS))] H := hP
  have hD : va_D A [(o, .inr (14, fs5)), (st, .inr (13, fS))] := hD
  have hK : va_K (dC, dI) classes [] s := hK
  have hg : s.heap.size + 0 ≤ H.size := Nat.le_trans hg hz1
  refine lv_bipush (v := 6) hx hb dX15_tiers_82 (by decide) ?_
  refine nf_newa (D := (dC, dI)) (atype := .int) (N' := 6) hx hb (hG _ m_16) hP hS (by decide) (by decide) (Nat.le_of_ble_eq_true rfl) (Nat.le_of_ble_eq_true rfl) (Nat.le_of_ble_eq_true rfl) dX15_tiers_84 (fun q10 H hP hS hz9 => ?_)
  have hg : s.heap.size + 1 ≤ H.size := by omega
  refine W.widen (k := 1) (n := 6) (Nat.le_of_ble_eq_true rfl) (Nat.le_of_ble_eq_true rfl) ?_
  refine lv_astore (lv' := [(5, .ref q10), (0, .ref o), (1, .int 0), (2, .int 0), (3, .int 1), (4, .int 0)]) hx hb dX15_tiers_86 hl (by decide) rfl (fun ls hl => ?_)
  refine lv_iconst (v := 0) hx hb dX15_tiers_88 (by decide) ?_
  refine lv_istore (lv' := [(6, .int 0), (5, .ref q10), (0, .ref o), (1, .int 0), (2, .int 0), (3, .int 1), (4, .int 0)]) hx hb dX15_tiers_89 hl (by decide) rfl (fun ls hl => ?_)
  refine lv_iload hx hb dX15_tiers_91 (lv_at hl 0 rfl) ?_
  refine lv_aload_n hx hb dX15_tiers_93 rfl (lv_at hl 2 rfl) ?_
  refine va_get (D := (dC, dI)) (ci := 14) (v := .ref st) (C := RX15) (T := TX15) (N := 55) hx hb hG iX15 hown hK hP 0 rfl rfl 1 (by decide) (hG _ m_223) (fun _ h9 => h9) hy8 dX15_tiers_94 ?_
  refine va_getN (D := (dC, dI)) (ci := 13) (v := .int 0) (C := RX14) (T := TX14) (N := 28) hx hb hG iX14 hown hK hP 1 rfl rfl 1 (by decide) (va_Nw.use rfl (nw_nest_11 hN)) (fun _ h9 => h9) hf_fS_1 dX15_tiers_97 ?_
  refine lv_icmp_ge (tgt := 195) hx hb dX15_tiers_100 (by decide) (fun _ => ?_) (fun c9 => absurd (by decide) c9)
  refine lv_iload hx hb dX15_tiers_195 (lv_at hl 6 rfl) ?_
  refine lv_iconst (v := 1) hx hb dX15_tiers_197 (by decide) ?_
  refine lv_icmp_le (tgt := 209) hx hb dX15_tiers_198 (by decide) (fun _ => ?_) (fun c9 => absurd (by decide) c9)
  refine lv_aload_n hx hb dX15_tiers_209 rfl (lv_at hl 2 rfl) ?_
  refine lv_iconst (v := 0) hx hb dX15_tiers_210 (by decide) ?_
  refine lv_iconst (v := 0) hx hb dX15_tiers_211 (by decide) ?_
  have hPc := hP.sub (ws' := [(o, .inr (14, fs5)), (st, .inr (13, fS))]) [0, 1] rfl
  have hDc := hD.sub (ws' := [(o, .inr (14, fs5)), (st, .inr (13, fS))]) [0, 1] (by decide) rfl
  have hKc := hK.sub (tys' := []) [] rfl
  have hFc := va_free (wc := [(o, .inr (14, fs5)), (st, .inr (13, fS))]) hD hS hA [0, 1] rfl
  refine va_callr (va_runV (C := "SeattableModel") (As := [.int 0, .int 0]) (rest := []) ⟨hx, hb, hml, hown, hG⟩ (c_Model_claims l dC dI z o fs5 st fS H.size hy6 hy8 hl_fS hf_fS_0 hf_fS_1) (cwV 2 hG (gV m_331 m_332 m_333 m_304 m_330) rfl rfl rfl (by decide +kernel) ⟨Nat.le_of_ble_eq_true rfl, Nat.le_of_ble_eq_true rfl⟩) ⟨pre_blind, va_recv hKc hPc (ci := 14) (q0 := 0) rfl rfl, fun U hU hW => ⟨rfl, pre_call hU hW hPc hKc hDc hN (zkeep hZ hS) hFc⟩⟩ rfl rfl hl.1 rfl (lv_room (Nat.le_of_ble_eq_true rfl)) dX15_tiers_212 ⟨Nat.le_of_ble_eq_true rfl, Nat.le_of_ble_eq_true rfl⟩) hS (fun q _ h => hFc q h) hFc (fun u r11 t H locs ht hvm hw hB hz1 hk1 hS => ?_)
  obtain ⟨cA12, f13, hP1, hK1, hD1⟩ := hB
  rw [ht] at hP1
  have hK1 := va_K.moved hvm.symm hK1
  obtain ⟨hP, hD⟩ := va_join (wr := []) (w1 := [(o, .inr (14, fs5)), (st, .inr (13, fS)), (r11, .inl (cA12, 0, .inr (.inl f13)))]) hP hD [0, 1] [] rfl rfl (by decide) (by decide) hk1 hFc hP1 hD1
  have hK := (hK.sub (tys' := []) [] rfl).app hK1
  have hP : va_P (dC, dI) classes [(o, .inr (14, fs5)), (st, .inr (13, fS)), (r11, .inl (cA12, 0, .inr (.inl f13)))] H := hP
  have hD : va_D A [(o, .inr (14, fs5)), (st, .inr (13, fS)), (r11, .inl (cA12, 0, .inr (.inl f13)))] := hD
  have hK : va_K (dC, dI) classes [(cA12, .long)] s := hK
  have hg : s.heap.size + 1 ≤ H.size := Nat.le_trans hg hz1
  refine W.widen (k := 2) (n := 6) (Nat.le_of_ble_eq_true rfl) (Nat.le_of_ble_eq_true rfl) ?_
  refine lv_astore (lv' := [(6, .ref r11), (5, .ref q10), (0, .ref o), (1, .int 0), (2, .int 0), (3, .int 1), (4, .int 0)]) hx hb dX15_tiers_215 hl (by decide) rfl (fun ls hl => ?_)
  refine lv_iload hx hb dX15_tiers_217 (lv_at hl 6 rfl) ?_
  refine lv_iconst (v := 1) hx hb dX15_tiers_219 (by decide) ?_
  refine lv_icmp_ne (tgt := 294) hx hb dX15_tiers_220 (by decide) (fun _ => ?_) (fun c9 => absurd c9 (by decide))
  refine lv_iload_n hx hb dX15_tiers_294 rfl (lv_at hl 5 rfl) ?_
  refine lv_istore (lv' := [(7, .int 1), (6, .ref r11), (5, .ref q10), (0, .ref o), (1, .int 0), (2, .int 0), (3, .int 1), (4, .int 0)]) hx hb dX15_tiers_295 hl (by decide) rfl (fun ls hl => ?_)
  refine loopW (I := fun n H locs ls => 1 ≤ n ∧ va_P (dC, dI) classes [(o, .inr (14, fs5)), (st, .inr (13, fS)), (r11, .inl (cA12, 0, .inr (.inl f13)))] H ∧ va_S A s.heap H locs ∧ lv_has ls 11 [(0, .ref o), (2, .int 0), (6, .ref r11), (7, .int (nI n))] ∧ s.heap.size + 3 * (n - 1) ≤ H.size) (C := fun n => (2 + 3 * (n - 1), 6 + 3 * (n - 1))) 401 ?_ ?_ 1 (by decide) H locs ls ⟨by decide, hP, hS, lv_sub hl [3, 5, 1, 0] rfl, by omega⟩
  · intro H locs ls hI
    obtain ⟨hn1, hP, hS, hl, hg⟩ := hI
    refine lv_iload hx hb dX15_tiers_297 (lv_at hl 3 rfl) ?_
    refine lv_sipush (v := 400) hx hb dX15_tiers_299 (by decide) ?_
    refine lv_icmp_gt (tgt := 388) hx hb dX15_tiers_302 (by decide) (fun _ => ?_) (fun c9 => absurd (by decide) c9)
    refine lv_iconst (v := (-1)) hx hb dX15_tiers_388 (by decide) ?_
    have hP9 := hP.sub (ws' := [(o, .inr (14, fs5)), (st, .inr (13, fS))]) [0, 1] rfl
    have hD9 := hD.sub (ws' := [(o, .inr (14, fs5)), (st, .inr (13, fS))]) [0, 1] (by decide) rfl
    have hK9 := hK.sub (tys' := []) [] rfl
    exact W.iret (v := (-1)) hx hb hr (fun t ht hW => ⟨⟨(-1), (), rfl, rfl, fs5, by rw [ht]; exact hP9, va_K.moved hW.alike hK9, hD9, hy6, hy7, hy8, (by rw [ht]; exact hg)⟩, hS.F ht⟩) hS.2.2 dX15_tiers_389
  · intro n hh ih H locs ls hI
    obtain ⟨hn1, hP, hS, hl, hg⟩ := hI
    refine lv_iload hx hb dX15_tiers_297 (lv_at hl 3 rfl) ?_
    refine lv_sipush (v := 400) hx hb dX15_tiers_299 (by decide) ?_
    refine lv_icmp_gt (tgt := 388) hx hb dX15_tiers_302 (by decide) (fun c9 => absurd c9 (nI_ngt n hh)) (fun _ => ?_)
    refine lv_aload_n hx hb dX15_tiers_305 rfl (lv_at hl 0 rfl) ?_
    refine lv_aload hx hb dX15_tiers_306 (lv_at hl 2 rfl) ?_
    refine lv_iload_n hx hb dX15_tiers_308 rfl (lv_at hl 1 rfl) ?_
    refine lv_iload hx hb dX15_tiers_309 (lv_at hl 3 rfl) ?_
    have hPc := hP.sub (ws' := [(o, .inr (14, fs5)), (r11, .inl (cA12, 0, .inr (.inl f13)))]) [0, 2] rfl
    have hDc := hD.sub (ws' := [(o, .inr (14, fs5)), (r11, .inl (cA12, 0, .inr (.inl f13)))]) [0, 2] (by decide) rfl
    have hKc := hK.sub (tys' := [(cA12, .long)]) [0] rfl
    have hFc := va_free (wc := [(o, .inr (14, fs5)), (r11, .inl (cA12, 0, .inr (.inl f13)))]) hD hS hA [0, 2] rfl
    refine va_callq (va_runV (C := "SeattableModel") (As := [.ref r11, .int 0, .int (nI n)]) (rest := []) ⟨hx, hb, hml, hown, hG⟩ (c_Model_first l dC dI z o fs5 r11 cA12 f13 n H.size hy6 hn1 (by omega)) (cwV 3 hG (gV m_335 m_336 m_337 m_304 m_334) rfl rfl rfl (by decide +kernel) ⟨Nat.le_of_ble_eq_true rfl, Nat.le_of_ble_eq_true rfl⟩) ⟨pre_blind, va_recv hKc hPc (ci := 14) (q0 := 0) rfl rfl, fun U hU hW => ⟨rfl, pre_call hU hW hPc hKc hDc hN (zkeep hZ hS) hFc⟩⟩ rfl rfl hl.1 rfl (lv_room (Nat.le_of_ble_eq_true rfl)) dX15_tiers_311 ⟨by show 2 + 3 * (n - 1) + 3 ≤ 1202; omega, by show 6 + 3 * (n - 1) + 3 ≤ 1206; omega⟩) hS (fun q _ h => hFc q h) hFc (fun r14 u t H locs ht hvm hw hB hz1 hk1 hS => ?_)
    obtain ⟨hP1, hK1, hD1, hy15⟩ := hB
    rw [ht] at hP1
    have hK1 := va_K.moved hvm.symm hK1
    try dsimp only at hw
    subst hw
    obtain ⟨hP, hD⟩ := va_join (wr := [(st, .inr (13, fS))]) (w1 := [(o, .inr (14, fs5)), (r11, .inl (cA12, 0, .inr (.inl f13)))]) hP hD [0, 2] [1] rfl rfl (by decide) (by decide) hk1 hFc hP1 hD1
    have hK := (hK.sub (tys' := []) [] rfl).app hK1
    have hP : va_P (dC, dI) classes [(st, .inr (13, fS)), (o, .inr (14, fs5)), (r11, .inl (cA12, 0, .inr (.inl f13)))] H := hP
    have hD : va_D A [(st, .inr (13, fS)), (o, .inr (14, fs5)), (r11, .inl (cA12, 0, .inr (.inl f13)))] := hD
    have hK : va_K (dC, dI) classes [(cA12, .long)] s := hK
    rw [ht] at hy15
    have hg : s.heap.size + (3 * (n - 1) + 3) ≤ H.size := by omega
    refine W.widen (k := 2 + 3 * (n + 1 - 1)) (n := 6 + 3 * (n + 1 - 1)) (by show 2 + 3 * (n - 1) + 3 ≤ _; omega) (by show 6 + 3 * (n - 1) + 3 ≤ _; omega) ?_
    refine W.eq (g2 := F0 m 314 ls (.null :: [])) rfl ?_
    refine lv_astoreN (lv' := [(8, .null), (0, .ref o), (2, .int 0), (6, .ref r11), (7, .int (nI n))]) hx hb dX15_tiers_314 hl (by decide) rfl (fun ls hl => ?_)
    refine lv_aloadN hx hb dX15_tiers_316 (lv_at hl 0 rfl) ?_
    refine lv_ifnullN (tgt := 325) hx hb dX15_tiers_318 (by decide) ?_
    refine lv_iconst (v := 0) hx hb dX15_tiers_325 (by decide) ?_
    refine lv_istore (lv' := [(9, .int 0), (8, .null), (0, .ref o), (2, .int 0), (6, .ref r11), (7, .int (nI n))]) hx hb dX15_tiers_326 hl (by decide) rfl (fun ls hl => ?_)
    refine lv_iconst (v := 0) hx hb dX15_tiers_328 (by decide) ?_
    refine lv_istore (lv' := [(10, .int 0), (9, .int 0), (8, .null), (0, .ref o), (2, .int 0), (6, .ref r11), (7, .int (nI n))]) hx hb dX15_tiers_329 hl (by decide) rfl (fun ls hl => ?_)
    refine lv_iload hx hb dX15_tiers_331 (lv_at hl 1 rfl) ?_
    refine lv_if_eq (tgt := 374) hx hb dX15_tiers_333 (by decide) (fun _ => ?_) (fun c9 => absurd (by decide) c9)
    refine lv_iload hx hb dX15_tiers_374 (lv_at hl 1 rfl) ?_
    refine lv_if_eq (tgt := 382) hx hb dX15_tiers_376 (by decide) (fun _ => ?_) (fun c9 => absurd (by decide) c9)
    refine lv_iinc (v := nI (n + 1)) (lv' := [(7, .int (nI (n + 1))), (10, .int 0), (9, .int 0), (8, .null), (0, .ref o), (2, .int 0), (6, .ref r11)]) hx hb dX15_tiers_382 hl (k := 6) rfl (nI_1 n) (by decide) rfl (fun ls hl => ?_)
    refine lv_goto (tgt := 297) hx hb dX15_tiers_385 (by decide) ?_
    have hP := hP.sub (ws' := [(o, .inr (14, fs5)), (st, .inr (13, fS)), (r11, .inl (cA12, 0, .inr (.inl f13)))]) [1, 0, 2] rfl
    have hD := hD.sub (ws' := [(o, .inr (14, fs5)), (st, .inr (13, fS)), (r11, .inl (cA12, 0, .inr (.inl f13)))]) [1, 0, 2] (by decide) rfl
    have hK := hK.sub (tys' := [(cA12, .long)]) [0] rfl
    exact ih H locs ls ⟨by omega, hP, hS, lv_sub hl [4, 5, 6, 0] rfl, by omega⟩

set_option maxHeartbeats 4000000 in
set_option maxRecDepth 100000 in
theorem c_Law_tiers (l : Launch) (dC : Nat → ClassId) (dI : Nat → Nat → Nat) (z : Nat) (x : Nat) (fx : List Value) (h : Nat) (fh : List Value) (hd : Nat) (cH : ClassId) (f : Nat → Int32) (d : Nat) (fd : List Value) (fl : Nat) (cF : ClassId) (g : Nat → Int32) (ou : Nat) (cO : ClassId) (k : Nat → Int64) (sz : Nat) (hl_fx : fx.length = 14) (hf_fx_0 : fx[0]? = some (.ref h)) (hf_fx_8 : fx[8]? = some (.ref d)) (hl_fh : fh.length = 19) (hf_fh_0 : fh[0]? = some (.ref hd)) (hl_fd : fd.length = 13) (hf_fd_1 : fd[1]? = some (.ref fl)) (hv_0 : f 0 = 0) (hv_1 : f 1 = 0) : Met l yL_tiers (Cond.codeWith yL_tiers cL_tiers 7 (some .int) [(0, 14, 17, 24), (0, 14, 21, 22)] :: G) ({ frames := 6, cells := 0, slots := 0, locals := 130 }) (va_Pc [.ref x, .int 0, .int 0, .int 1, .int 0, .ref ou] (pre_ dC dI [(x, .inr (12, fx)), (h, .inr (2, fh)), (d, .inr (5, fd)), (hd, .inl (cH, 12, .inl f)), (fl, .inl (cF, 6, .inl g)), (ou, .inl (cO, 1, .inr (.inl k)))] [(cH, .int), (cF, .int), (cO, .long)] sz z)) (va_Qi (fun (r : Int32) (_ : Unit) => r = 0) (fun _ t => ∃ (fs2 : List Value), ∃ (f3 : Nat → Int32), ∃ (f6 : Nat → Int64), va_P (dC, dI) classes [(x, .inr (12, fx)), (h, .inr (2, fh)), (d, .inr (5, fs2)), (hd, .inl (cH, 12, .inl f)), (fl, .inl (cF, 6, .inl f3)), (ou, .inl (cO, 1, .inr (.inl f6)))] t.heap ∧ va_K (dC, dI) classes [(cH, .int), (cF, .int), (cO, .long)] t ∧ va_D (va_A [(x, .inr (12, fx)), (h, .inr (2, fh)), (d, .inr (5, fd)), (hd, .inl (cH, 12, .inl f)), (fl, .inl (cF, 6, .inl g)), (ou, .inl (cO, 1, .inr (.inl k)))] sz) [(x, .inr (12, fx)), (h, .inr (2, fh)), (d, .inr (5, fs2)), (hd, .inl (cH, 12, .inl f)), (fl, .inl (cF, 6, .inl f3)), (ou, .inl (cO, 1, .inr (.inl f6)))] ∧ fs2.length = 13 ∧ fs2[1]? = some (.ref fl) ∧ f6 0 = (-1)) (va_A [(x, .inr (12, fx)), (h, .inr (2, fh)), (d, .inr (5, fd)), (hd, .inl (cH, 12, .inl f)), (fl, .inl (cF, 6, .inl g)), (ou, .inl (cO, 1, .inr (.inl k)))] sz)) 0 0 (va_A [(x, .inr (12, fx)), (h, .inr (2, fh)), (d, .inr (5, fd)), (hd, .inl (cH, 12, .inl f)), (fl, .inl (cF, 6, .inl g)), (ou, .inl (cO, 1, .inr (.inl k)))] sz) := by
  refine Met_ofWH (cc := cL_tiers) (maxL := 7) (ret := (some .int)) (hh := [(0, 14, 17, 24), (0, 14, 21, 22)]) (by decide) rfl ?_
  intro p e s m args below meth c s₁ B hml hv
  obtain ⟨rfl, hv⟩ := hv
  obtain ⟨hsz, hP, hK, hD0, hN, hZ⟩ := hv
  have hx := B.exec
  have hb := B.bytes
  have hr := B.returns
  have hG : ∀ w ∈ G, w.before _ s = true := fun w h => atoms_spec (ws := Cond.codeWith yL_tiers cL_tiers 7 (some .int) [(0, 14, 17, 24), (0, 14, 21, 22)] :: G) B.pre w (List.mem_cons_of_mem _ h)
  have hown : s.vm.findClass "SeattableLaw" = some m.cls := findClass_of_methodNamed B.named
  have hlocks := B.notSynchronized
  subst hsz
  have hD := hD0.self (sz := s.heap.size)
  generalize hAe : va_A [(x, .inr (12, fx)), (h, .inr (2, fh)), (d, .inr (5, fd)), (hd, .inl (cH, 12, .inl f)), (fl, .inl (cF, 6, .inl g)), (ou, .inl (cO, 1, .inr (.inl k)))] s.heap.size = A at hD hZ ⊢
  have hA : ∀ q : Nat, s.heap.size ≤ q → A q := fun q h => by rw [← hAe]; exact Or.inr h
  have hS : va_S A s.heap s.heap [] := va_S.rf
  have hP : va_P (dC, dI) classes [(x, .inr (12, fx)), (h, .inr (2, fh)), (d, .inr (5, fd)), (hd, .inl (cH, 12, .inl f)), (fl, .inl (cF, 6, .inl g)), (ou, .inl (cO, 1, .inr (.inl k)))] s.heap := hP
  have hl := lv_entry ([.ref x, .int 0, .int 0, .int 1, .int 0, .ref ou]) (n := 7) (Nat.le_of_ble_eq_true rfl)
  rw [lg_entry_eq]
  generalize (lg_sl ([.ref x, .int 0, .int 0, .int 1, .int 0, .ref ou]) ++ List.replicate (7 - (lg_sl ([.ref x, .int 0, .int 0, .int 1, .int 0, .ref ou])).length) Slot.unset).toArray = ls at hl ⊢
  have hl : lv_has ls 7 [(0, .ref x), (1, .int 0), (2, .int 0), (3, .int 1), (4, .int 0), (5, .ref ou)] := hl
  refine lv_aload hx hb dL_tiers_0 (lv_at hl 5 rfl) ?_
  refine lv_iconst (v := 0) hx hb dL_tiers_2 (by decide) ?_
  refine lv_aload_n hx hb dL_tiers_3 rfl (lv_at hl 0 rfl) ?_
  refine lv_iload_n hx hb dL_tiers_4 rfl (lv_at hl 1 rfl) ?_
  refine lv_iload_n hx hb dL_tiers_5 rfl (lv_at hl 2 rfl) ?_
  refine lv_iload_n hx hb dL_tiers_6 rfl (lv_at hl 3 rfl) ?_
  refine lv_iload hx hb dL_tiers_7 (lv_at hl 4 rfl) ?_
  have hPc := hP.sub (ws' := [(x, .inr (12, fx)), (h, .inr (2, fh)), (d, .inr (5, fd)), (hd, .inl (cH, 12, .inl f)), (fl, .inl (cF, 6, .inl g))]) [0, 1, 2, 3, 4] rfl
  have hDc := hD.sub (ws' := [(x, .inr (12, fx)), (h, .inr (2, fh)), (d, .inr (5, fd)), (hd, .inl (cH, 12, .inl f)), (fl, .inl (cF, 6, .inl g))]) [0, 1, 2, 3, 4] (by decide) rfl
  have hKc := hK.sub (tys' := [(cH, .int), (cF, .int)]) [0, 1] rfl
  have hFc := va_free (wc := [(x, .inr (12, fx)), (h, .inr (2, fh)), (d, .inr (5, fd)), (hd, .inl (cH, 12, .inl f)), (fl, .inl (cF, 6, .inl g))]) hD hS hA [0, 1, 2, 3, 4] rfl
  refine va_calli (va_runV (C := "Seattable") (As := [.int 0, .int 0, .int 1, .int 0]) (rest := [.int 0, .ref ou]) ⟨hx, hb, hml, hown, hG⟩ (c_Seattable_tiers l dC dI z x fx h fh hd cH f d fd fl cF g s.heap.size hl_fx hf_fx_0 hf_fx_8 hl_fh hf_fh_0 hl_fd hf_fd_1 hv_0 hv_1) (cwV 4 hG (gV m_339 m_340 m_341 m_286 m_338) rfl rfl rfl (by decide +kernel) ⟨Nat.le_of_ble_eq_true rfl, Nat.le_of_ble_eq_true rfl⟩) ⟨pre_blind, va_recv hKc hPc (ci := 12) (q0 := 0) rfl rfl, fun U hU hW => ⟨rfl, pre_call hU hW hPc hKc hDc hN (zkeep hZ hS) hFc⟩⟩ rfl rfl hl.1 rfl (lv_room (Nat.le_of_ble_eq_true rfl)) dL_tiers_9 ⟨Nat.le_of_ble_eq_true rfl, Nat.le_of_ble_eq_true rfl⟩) hS (fun q _ h => hFc q h) hFc (fun r1 u t H locs ht hvm hw hB hz1 hk1 hS => ?_)
  obtain ⟨fs2, f3, hP1, hK1, hD1, hy4, hy5⟩ := hB
  rw [ht] at hP1
  have hK1 := va_K.moved hvm.symm hK1
  try dsimp only at hw
  subst hw
  obtain ⟨hP, hD⟩ := va_join (wr := [(ou, .inl (cO, 1, .inr (.inl k)))]) (w1 := [(x, .inr (12, fx)), (h, .inr (2, fh)), (d, .inr (5, fs2)), (hd, .inl (cH, 12, .inl f)), (fl, .inl (cF, 6, .inl f3))]) hP hD [0, 1, 2, 3, 4] [5] rfl rfl (by decide) (by decide) hk1 hFc hP1 hD1
  have hK := (hK.sub (tys' := [(cO, .long)]) [2] rfl).app hK1
  have hP : va_P (dC, dI) classes [(ou, .inl (cO, 1, .inr (.inl k))), (x, .inr (12, fx)), (h, .inr (2, fh)), (d, .inr (5, fs2)), (hd, .inl (cH, 12, .inl f)), (fl, .inl (cF, 6, .inl f3))] H := hP
  have hD : va_D A [(ou, .inl (cO, 1, .inr (.inl k))), (x, .inr (12, fx)), (h, .inr (2, fh)), (d, .inr (5, fs2)), (hd, .inl (cH, 12, .inl f)), (fl, .inl (cF, 6, .inl f3))] := hD
  have hK : va_K (dC, dI) classes [(cO, .long), (cH, .int), (cF, .int)] s := hK
  refine lv_i2l (v := (-1)) hx hb dL_tiers_12 (by decide) ?_
  refine va_last (D := (dC, dI)) hx hb hK hP hD hS 0 0 rfl rfl (by unfold vp_in; decide) dL_tiers_13 (fun H locs hP hD hS => ?_)
  have hP : va_P (dC, dI) classes [(ou, .inl (cO, 1, .inr (.inl (vp_updL k (0 : Int32).toNatClampNeg (-1))))), (x, .inr (12, fx)), (h, .inr (2, fh)), (d, .inr (5, fs2)), (hd, .inl (cH, 12, .inl f)), (fl, .inl (cF, 6, .inl f3))] H := hP
  have hD : va_D A [(ou, .inl (cO, 1, .inr (.inl (vp_updL k (0 : Int32).toNatClampNeg (-1))))), (x, .inr (12, fx)), (h, .inr (2, fh)), (d, .inr (5, fs2)), (hd, .inl (cH, 12, .inl f)), (fl, .inl (cF, 6, .inl f3))] := hD
  obtain ⟨f6, ef6⟩ : ∃ y : Nat → Int64, y = (vp_updL k (0 : Int32).toNatClampNeg (-1)) := ⟨_, rfl⟩
  rw [← ef6] at hP hD
  have hv_7 : f6 0 = (-1) := by rw [ef6, show (0 : Int32).toNatClampNeg = 0 from by decide]; exact pk_uLs
  refine lv_goto (tgt := 25) hx hb dL_tiers_14 (by decide) ?_
  refine lv_iconst (v := 0) hx hb dL_tiers_25 (by decide) ?_
  have hP9 := hP.sub (ws' := [(x, .inr (12, fx)), (h, .inr (2, fh)), (d, .inr (5, fs2)), (hd, .inl (cH, 12, .inl f)), (fl, .inl (cF, 6, .inl f3)), (ou, .inl (cO, 1, .inr (.inl f6)))]) [1, 2, 3, 4, 5, 0] rfl
  have hD9 := hD.sub (ws' := [(x, .inr (12, fx)), (h, .inr (2, fh)), (d, .inr (5, fs2)), (hd, .inl (cH, 12, .inl f)), (fl, .inl (cF, 6, .inl f3)), (ou, .inl (cO, 1, .inr (.inl f6)))]) [1, 2, 3, 4, 5, 0] (by decide) rfl
  have hK9 := hK.sub (tys' := [(cH, .int), (cF, .int), (cO, .long)]) [1, 2, 0] rfl
  exact W.iret (v := 0) hx hb hr (fun t ht hW => ⟨⟨0, (), rfl, rfl, fs2, f3, f6, by rw [ht]; exact hP9, va_K.moved hW.alike hK9, hD9, hy4, hy5, hv_7⟩, hS.F ht⟩) hS.2.2 dL_tiers_26

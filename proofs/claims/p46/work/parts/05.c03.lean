set_option maxHeartbeats 4000000 in
set_option maxRecDepth 100000 in
theorem c_Maps_init (l : Launch) (dC : Nat → ClassId) (dI : Nat → Nat → Nat) (z : Nat) (a : Nat) (fs : List Value) (sz : Nat) (hl_fs : fs.length = 10) : Met l yX6_init (Cond.code yX6_init cX6_init 1 none :: G) ({ frames := 1, cells := 4, slots := 533, locals := 12 }) (va_Pc [.ref a] (pre_ dC dI [(a, .inr (9, fs))] [] sz z)) (va_Qv (fun _ : Unit => True) (fun _ t => ∃ (fs11 : List Value), va_P (dC, dI) classes [(a, .inr (9, fs11))] t.heap ∧ va_K (dC, dI) classes [] t ∧ va_D (va_A [(a, .inr (9, fs))] sz) [(a, .inr (9, fs11))] ∧ fs11.length = 10) (va_A [(a, .inr (9, fs))] sz)) 4 533 (va_A [(a, .inr (9, fs))] sz) := by
  refine Met.ofW (cc := cX6_init) (maxL := 1) (ret := none) (by decide) rfl ?_
  intro p e s m args below meth c s₁ B hml hv
  obtain ⟨rfl, hv⟩ := hv
  obtain ⟨hsz, hP, hK, hD0, hN, hZ⟩ := hv
  have hx := B.exec
  have hb := B.bytes
  have hr := B.returns
  have hG : ∀ w ∈ G, w.before _ s = true := fun w h => atoms_spec (ws := Cond.code yX6_init cX6_init 1 none :: G) B.pre w (List.mem_cons_of_mem _ h)
  have hown : s.vm.findClass "Seattable$Maps" = some m.cls := findClass_of_methodNamed B.named
  have hlocks := B.notSynchronized
  have hin : meth.name = "<init>" := (name_of_methodNamed B.named B.method).1
  subst hsz
  have hD := hD0.self (sz := s.heap.size)
  generalize hAe : va_A [(a, .inr (9, fs))] s.heap.size = A at hD hZ ⊢
  have hA : ∀ q : Nat, s.heap.size ≤ q → A q := fun q h => by rw [← hAe]; exact Or.inr h
  have hS : va_S A s.heap s.heap [] := va_S.rf
  have hP : va_P (dC, dI) classes [(a, .inr (9, fs))] s.heap := hP
  have hl := lv_entry ([.ref a]) (n := 1) (Nat.le_of_ble_eq_true rfl)
  rw [lg_entry_eq]
  generalize (lg_sl ([.ref a]) ++ List.replicate (1 - (lg_sl ([.ref a])).length) Slot.unset).toArray = ls at hl ⊢
  have hl : lv_has ls 1 [(0, .ref a)] := hl
  refine lv_aload_n hx hb dX6_init_0 rfl (lv_at hl 0 rfl) ?_
  refine W.objInit hx hb hown (hG _ m_113) (hG _ m_1) (hG _ m_2) rfl (by rw [hml]; exact hl.1) rfl dX6_init_1 (Nat.le_of_ble_eq_true rfl) (Nat.le_of_ble_eq_true rfl) ?_
  refine W.eq (g2 := F0 m 4 ls []) rfl ?_
  refine lv_aload_n hx hb dX6_init_4 rfl (lv_at hl 0 rfl) ?_
  refine lv_sipush (v := 512) hx hb dX6_init_5 (by decide) ?_
  refine nf_newa (D := (dC, dI)) (atype := .boolean) (N' := 512) hx hb (hG _ m_114) hP hS (by decide) (by decide) (Nat.le_of_ble_eq_true rfl) (Nat.le_of_ble_eq_true rfl) (Nat.le_of_ble_eq_true rfl) dX6_init_8 (fun q1 H hP hS hz9 => ?_)
  refine W.widen (k := 1) (n := 512) (Nat.le_of_ble_eq_true rfl) (Nat.le_of_ble_eq_true rfl) ?_
  refine va_putF (D := (dC, dI)) (ci := 9) (v := .ref q1) (ty := .array .boolean) (C := RX6) (T := TX6) (N := 10) hx hb hG iX6 tyX6 tyX6_ok nmX6 hown hK hP hD hS 0 rfl rfl 0 (by decide) (hG _ m_115) (fun _ h9 => h9) rfl hin rfl (by decide +kernel) rfl rfl (by rw [hl_fs]; decide) dX6_init_10 (fun H locs hP hD hS => ?_)
  have hP : va_P (dC, dI) classes [(a, .inr (9, (fs.set 0 (.ref q1))))] H := hP
  have hD : va_D A [(a, .inr (9, (fs.set 0 (.ref q1))))] := hD
  obtain ⟨fs2, efs2⟩ : ∃ y : List Value, y = fs.set 0 (.ref q1) := ⟨_, rfl⟩
  rw [← efs2] at hP hD
  have hl_3 : fs2.length = 10 := by rw [efs2, List.length_set]; exact hl_fs
  refine lv_aload_n hx hb dX6_init_13 rfl (lv_at hl 0 rfl) ?_
  refine lv_bipush (v := 9) hx hb dX6_init_14 (by decide) ?_
  refine nf_newa (D := (dC, dI)) (atype := .int) (N' := 9) hx hb (hG _ m_16) hP hS (by decide) (by decide) (Nat.le_of_ble_eq_true rfl) (Nat.le_of_ble_eq_true rfl) (Nat.le_of_ble_eq_true rfl) dX6_init_16 (fun q4 H hP hS hz9 => ?_)
  refine W.widen (k := 2) (n := 521) (Nat.le_of_ble_eq_true rfl) (Nat.le_of_ble_eq_true rfl) ?_
  refine va_putF (D := (dC, dI)) (ci := 9) (v := .ref q4) (ty := .array .int) (C := RX6) (T := TX6) (N := 10) hx hb hG iX6 tyX6 tyX6_ok nmX6 hown hK hP hD hS 0 rfl rfl 1 (by decide) (hG _ m_116) (fun _ h9 => h9) rfl hin rfl (by decide +kernel) rfl rfl (by rw [hl_3]; decide) dX6_init_18 (fun H locs hP hD hS => ?_)
  have hP : va_P (dC, dI) classes [(a, .inr (9, (fs2.set 1 (.ref q4))))] H := hP
  have hD : va_D A [(a, .inr (9, (fs2.set 1 (.ref q4))))] := hD
  obtain ⟨fs5, efs5⟩ : ∃ y : List Value, y = fs2.set 1 (.ref q4) := ⟨_, rfl⟩
  rw [← efs5] at hP hD
  have hl_6 : fs5.length = 10 := by rw [efs5, List.length_set]; exact hl_3
  refine lv_aload_n hx hb dX6_init_21 rfl (lv_at hl 0 rfl) ?_
  refine lv_iconst (v := 3) hx hb dX6_init_22 (by decide) ?_
  refine nf_newa (D := (dC, dI)) (atype := .int) (N' := 3) hx hb (hG _ m_16) hP hS (by decide) (by decide) (Nat.le_of_ble_eq_true rfl) (Nat.le_of_ble_eq_true rfl) (Nat.le_of_ble_eq_true rfl) dX6_init_23 (fun q7 H hP hS hz9 => ?_)
  refine W.widen (k := 3) (n := 524) (Nat.le_of_ble_eq_true rfl) (Nat.le_of_ble_eq_true rfl) ?_
  refine va_putF (D := (dC, dI)) (ci := 9) (v := .ref q7) (ty := .array .int) (C := RX6) (T := TX6) (N := 10) hx hb hG iX6 tyX6 tyX6_ok nmX6 hown hK hP hD hS 0 rfl rfl 2 (by decide) (hG _ m_117) (fun _ h9 => h9) rfl hin rfl (by decide +kernel) rfl rfl (by rw [hl_6]; decide) dX6_init_25 (fun H locs hP hD hS => ?_)
  have hP : va_P (dC, dI) classes [(a, .inr (9, (fs5.set 2 (.ref q7))))] H := hP
  have hD : va_D A [(a, .inr (9, (fs5.set 2 (.ref q7))))] := hD
  obtain ⟨fs8, efs8⟩ : ∃ y : List Value, y = fs5.set 2 (.ref q7) := ⟨_, rfl⟩
  rw [← efs8] at hP hD
  have hl_9 : fs8.length = 10 := by rw [efs8, List.length_set]; exact hl_6
  refine lv_aload_n hx hb dX6_init_28 rfl (lv_at hl 0 rfl) ?_
  refine lv_bipush (v := 9) hx hb dX6_init_29 (by decide) ?_
  refine nf_newa (D := (dC, dI)) (atype := .int) (N' := 9) hx hb (hG _ m_16) hP hS (by decide) (by decide) (Nat.le_of_ble_eq_true rfl) (Nat.le_of_ble_eq_true rfl) (Nat.le_of_ble_eq_true rfl) dX6_init_31 (fun q10 H hP hS hz9 => ?_)
  refine W.widen (k := 4) (n := 533) (Nat.le_of_ble_eq_true rfl) (Nat.le_of_ble_eq_true rfl) ?_
  refine va_putF (D := (dC, dI)) (ci := 9) (v := .ref q10) (ty := .array .int) (C := RX6) (T := TX6) (N := 10) hx hb hG iX6 tyX6 tyX6_ok nmX6 hown hK hP hD hS 0 rfl rfl 3 (by decide) (hG _ m_118) (fun _ h9 => h9) rfl hin rfl (by decide +kernel) rfl rfl (by rw [hl_9]; decide) dX6_init_33 (fun H locs hP hD hS => ?_)
  have hP : va_P (dC, dI) classes [(a, .inr (9, (fs8.set 3 (.ref q10))))] H := hP
  have hD : va_D A [(a, .inr (9, (fs8.set 3 (.ref q10))))] := hD
  obtain ⟨fs11, efs11⟩ : ∃ y : List Value, y = fs8.set 3 (.ref q10) := ⟨_, rfl⟩
  rw [← efs11] at hP hD
  have hl_12 : fs11.length = 10 := by rw [efs11, List.length_set]; exact hl_9
  have hP9 := hP.sub (ws' := [(a, .inr (9, fs11))]) [0] rfl
  have hD9 := hD.sub (ws' := [(a, .inr (9, fs11))]) [0] (by decide) rfl
  have hK9 := hK.sub (tys' := []) [] rfl
  exact W.vret hx hb hr (fun t ht hW => ⟨⟨(), rfl, trivial, fs11, by rw [ht]; exact hP9, va_K.moved hW.alike hK9, hD9, hl_12⟩, hS.F ht⟩) hS.2.2 dX6_init_36

set_option maxHeartbeats 4000000 in
set_option maxRecDepth 100000 in
theorem c_Panels_init (l : Launch) (dC : Nat → ClassId) (dI : Nat → Nat → Nat) (z : Nat) (a : Nat) (fs : List Value) (sz : Nat) (hl_fs : fs.length = 9) : Met l yX7_init (Cond.code yX7_init cX7_init 1 none :: G) ({ frames := 1, cells := 4, slots := 1531, locals := 12 }) (va_Pc [.ref a] (pre_ dC dI [(a, .inr (10, fs))] [] sz z)) (va_Qv (fun _ : Unit => True) (fun _ t => ∃ (fs11 : List Value), va_P (dC, dI) classes [(a, .inr (10, fs11))] t.heap ∧ va_K (dC, dI) classes [] t ∧ va_D (va_A [(a, .inr (10, fs))] sz) [(a, .inr (10, fs11))] ∧ fs11.length = 9) (va_A [(a, .inr (10, fs))] sz)) 4 1531 (va_A [(a, .inr (10, fs))] sz) := by
  refine Met.ofW (cc := cX7_init) (maxL := 1) (ret := none) (by decide) rfl ?_
  intro p e s m args below meth c s₁ B hml hv
  obtain ⟨rfl, hv⟩ := hv
  obtain ⟨hsz, hP, hK, hD0, hN, hZ⟩ := hv
  have hx := B.exec
  have hb := B.bytes
  have hr := B.returns
  have hG : ∀ w ∈ G, w.before _ s = true := fun w h => atoms_spec (ws := Cond.code yX7_init cX7_init 1 none :: G) B.pre w (List.mem_cons_of_mem _ h)
  have hown : s.vm.findClass "Seattable$Panels" = some m.cls := findClass_of_methodNamed B.named
  have hlocks := B.notSynchronized
  have hin : meth.name = "<init>" := (name_of_methodNamed B.named B.method).1
  subst hsz
  have hD := hD0.self (sz := s.heap.size)
  generalize hAe : va_A [(a, .inr (10, fs))] s.heap.size = A at hD hZ ⊢
  have hA : ∀ q : Nat, s.heap.size ≤ q → A q := fun q h => by rw [← hAe]; exact Or.inr h
  have hS : va_S A s.heap s.heap [] := va_S.rf
  have hP : va_P (dC, dI) classes [(a, .inr (10, fs))] s.heap := hP
  have hl := lv_entry ([.ref a]) (n := 1) (Nat.le_of_ble_eq_true rfl)
  rw [lg_entry_eq]
  generalize (lg_sl ([.ref a]) ++ List.replicate (1 - (lg_sl ([.ref a])).length) Slot.unset).toArray = ls at hl ⊢
  have hl : lv_has ls 1 [(0, .ref a)] := hl
  refine lv_aload_n hx hb dX7_init_0 rfl (lv_at hl 0 rfl) ?_
  refine W.objInit hx hb hown (hG _ m_119) (hG _ m_1) (hG _ m_2) rfl (by rw [hml]; exact hl.1) rfl dX7_init_1 (Nat.le_of_ble_eq_true rfl) (Nat.le_of_ble_eq_true rfl) ?_
  refine W.eq (g2 := F0 m 4 ls []) rfl ?_
  refine lv_aload_n hx hb dX7_init_4 rfl (lv_at hl 0 rfl) ?_
  refine lv_bipush (v := 126) hx hb dX7_init_5 (by decide) ?_
  refine nf_newa (D := (dC, dI)) (atype := .int) (N' := 126) hx hb (hG _ m_16) hP hS (by decide) (by decide) (Nat.le_of_ble_eq_true rfl) (Nat.le_of_ble_eq_true rfl) (Nat.le_of_ble_eq_true rfl) dX7_init_7 (fun q1 H hP hS hz9 => ?_)
  refine W.widen (k := 1) (n := 126) (Nat.le_of_ble_eq_true rfl) (Nat.le_of_ble_eq_true rfl) ?_
  refine va_putF (D := (dC, dI)) (ci := 10) (v := .ref q1) (ty := .array .int) (C := RX7) (T := TX7) (N := 9) hx hb hG iX7 tyX7 tyX7_ok nmX7 hown hK hP hD hS 0 rfl rfl 0 (by decide) (hG _ m_120) (fun _ h9 => h9) rfl hin rfl (by decide +kernel) rfl rfl (by rw [hl_fs]; decide) dX7_init_9 (fun H locs hP hD hS => ?_)
  have hP : va_P (dC, dI) classes [(a, .inr (10, (fs.set 0 (.ref q1))))] H := hP
  have hD : va_D A [(a, .inr (10, (fs.set 0 (.ref q1))))] := hD
  obtain ⟨fs2, efs2⟩ : ∃ y : List Value, y = fs.set 0 (.ref q1) := ⟨_, rfl⟩
  rw [← efs2] at hP hD
  have hl_3 : fs2.length = 9 := by rw [efs2, List.length_set]; exact hl_fs
  refine lv_aload_n hx hb dX7_init_12 rfl (lv_at hl 0 rfl) ?_
  refine lv_sipush (v := 1270) hx hb dX7_init_13 (by decide) ?_
  refine nf_newa (D := (dC, dI)) (atype := .long) (N' := 1270) hx hb (hG _ m_60) hP hS (by decide) (by decide) (Nat.le_of_ble_eq_true rfl) (Nat.le_of_ble_eq_true rfl) (Nat.le_of_ble_eq_true rfl) dX7_init_16 (fun q4 H hP hS hz9 => ?_)
  refine W.widen (k := 2) (n := 1396) (Nat.le_of_ble_eq_true rfl) (Nat.le_of_ble_eq_true rfl) ?_
  refine va_putF (D := (dC, dI)) (ci := 10) (v := .ref q4) (ty := .array .long) (C := RX7) (T := TX7) (N := 9) hx hb hG iX7 tyX7 tyX7_ok nmX7 hown hK hP hD hS 0 rfl rfl 4 (by decide) (hG _ m_121) (fun _ h9 => h9) rfl hin rfl (by decide +kernel) rfl rfl (by rw [hl_3]; decide) dX7_init_18 (fun H locs hP hD hS => ?_)
  have hP : va_P (dC, dI) classes [(a, .inr (10, (fs2.set 4 (.ref q4))))] H := hP
  have hD : va_D A [(a, .inr (10, (fs2.set 4 (.ref q4))))] := hD
  obtain ⟨fs5, efs5⟩ : ∃ y : List Value, y = fs2.set 4 (.ref q4) := ⟨_, rfl⟩
  rw [← efs5] at hP hD
  have hl_6 : fs5.length = 9 := by rw [efs5, List.length_set]; exact hl_3
  refine lv_aload_n hx hb dX7_init_21 rfl (lv_at hl 0 rfl) ?_
  refine lv_bipush (v := 126) hx hb dX7_init_22 (by decide) ?_
  refine nf_newa (D := (dC, dI)) (atype := .int) (N' := 126) hx hb (hG _ m_16) hP hS (by decide) (by decide) (Nat.le_of_ble_eq_true rfl) (Nat.le_of_ble_eq_true rfl) (Nat.le_of_ble_eq_true rfl) dX7_init_24 (fun q7 H hP hS hz9 => ?_)
  refine W.widen (k := 3) (n := 1522) (Nat.le_of_ble_eq_true rfl) (Nat.le_of_ble_eq_true rfl) ?_
  refine va_putF (D := (dC, dI)) (ci := 10) (v := .ref q7) (ty := .array .int) (C := RX7) (T := TX7) (N := 9) hx hb hG iX7 tyX7 tyX7_ok nmX7 hown hK hP hD hS 0 rfl rfl 6 (by decide) (hG _ m_122) (fun _ h9 => h9) rfl hin rfl (by decide +kernel) rfl rfl (by rw [hl_6]; decide) dX7_init_26 (fun H locs hP hD hS => ?_)
  have hP : va_P (dC, dI) classes [(a, .inr (10, (fs5.set 6 (.ref q7))))] H := hP
  have hD : va_D A [(a, .inr (10, (fs5.set 6 (.ref q7))))] := hD
  obtain ⟨fs8, efs8⟩ : ∃ y : List Value, y = fs5.set 6 (.ref q7) := ⟨_, rfl⟩
  rw [← efs8] at hP hD
  have hl_9 : fs8.length = 9 := by rw [efs8, List.length_set]; exact hl_6
  refine lv_aload_n hx hb dX7_init_29 rfl (lv_at hl 0 rfl) ?_
  refine lv_bipush (v := 9) hx hb dX7_init_30 (by decide) ?_
  refine nf_newa (D := (dC, dI)) (atype := .int) (N' := 9) hx hb (hG _ m_16) hP hS (by decide) (by decide) (Nat.le_of_ble_eq_true rfl) (Nat.le_of_ble_eq_true rfl) (Nat.le_of_ble_eq_true rfl) dX7_init_32 (fun q10 H hP hS hz9 => ?_)
  refine W.widen (k := 4) (n := 1531) (Nat.le_of_ble_eq_true rfl) (Nat.le_of_ble_eq_true rfl) ?_
  refine va_putF (D := (dC, dI)) (ci := 10) (v := .ref q10) (ty := .array .int) (C := RX7) (T := TX7) (N := 9) hx hb hG iX7 tyX7 tyX7_ok nmX7 hown hK hP hD hS 0 rfl rfl 7 (by decide) (hG _ m_123) (fun _ h9 => h9) rfl hin rfl (by decide +kernel) rfl rfl (by rw [hl_9]; decide) dX7_init_34 (fun H locs hP hD hS => ?_)
  have hP : va_P (dC, dI) classes [(a, .inr (10, (fs8.set 7 (.ref q10))))] H := hP
  have hD : va_D A [(a, .inr (10, (fs8.set 7 (.ref q10))))] := hD
  obtain ⟨fs11, efs11⟩ : ∃ y : List Value, y = fs8.set 7 (.ref q10) := ⟨_, rfl⟩
  rw [← efs11] at hP hD
  have hl_12 : fs11.length = 9 := by rw [efs11, List.length_set]; exact hl_9
  have hP9 := hP.sub (ws' := [(a, .inr (10, fs11))]) [0] rfl
  have hD9 := hD.sub (ws' := [(a, .inr (10, fs11))]) [0] (by decide) rfl
  have hK9 := hK.sub (tys' := []) [] rfl
  exact W.vret hx hb hr (fun t ht hW => ⟨⟨(), rfl, trivial, fs11, by rw [ht]; exact hP9, va_K.moved hW.alike hK9, hD9, hl_12⟩, hS.F ht⟩) hS.2.2 dX7_init_37

set_option maxHeartbeats 4000000 in
set_option maxRecDepth 100000 in
theorem c_Weights_init (l : Launch) (dC : Nat → ClassId) (dI : Nat → Nat → Nat) (z : Nat) (a : Nat) (fs : List Value) (sz : Nat) (hl_fs : fs.length = 7) : Met l yX10_init (Cond.code yX10_init cX10_init 1 none :: G) ({ frames := 1, cells := 5, slots := 88, locals := 12 }) (va_Pc [.ref a] (pre_ dC dI [(a, .inr (11, fs))] [] sz z)) (va_Qv (fun _ : Unit => True) (fun _ t => ∃ (fs14 : List Value), va_P (dC, dI) classes [(a, .inr (11, fs14))] t.heap ∧ va_K (dC, dI) classes [] t ∧ va_D (va_A [(a, .inr (11, fs))] sz) [(a, .inr (11, fs14))] ∧ fs14.length = 7) (va_A [(a, .inr (11, fs))] sz)) 5 88 (va_A [(a, .inr (11, fs))] sz) := by
  refine Met.ofW (cc := cX10_init) (maxL := 1) (ret := none) (by decide) rfl ?_
  intro p e s m args below meth c s₁ B hml hv
  obtain ⟨rfl, hv⟩ := hv
  obtain ⟨hsz, hP, hK, hD0, hN, hZ⟩ := hv
  have hx := B.exec
  have hb := B.bytes
  have hr := B.returns
  have hG : ∀ w ∈ G, w.before _ s = true := fun w h => atoms_spec (ws := Cond.code yX10_init cX10_init 1 none :: G) B.pre w (List.mem_cons_of_mem _ h)
  have hown : s.vm.findClass "Seattable$Weights" = some m.cls := findClass_of_methodNamed B.named
  have hlocks := B.notSynchronized
  have hin : meth.name = "<init>" := (name_of_methodNamed B.named B.method).1
  subst hsz
  have hD := hD0.self (sz := s.heap.size)
  generalize hAe : va_A [(a, .inr (11, fs))] s.heap.size = A at hD hZ ⊢
  have hA : ∀ q : Nat, s.heap.size ≤ q → A q := fun q h => by rw [← hAe]; exact Or.inr h
  have hS : va_S A s.heap s.heap [] := va_S.rf
  have hP : va_P (dC, dI) classes [(a, .inr (11, fs))] s.heap := hP
  have hl := lv_entry ([.ref a]) (n := 1) (Nat.le_of_ble_eq_true rfl)
  rw [lg_entry_eq]
  generalize (lg_sl ([.ref a]) ++ List.replicate (1 - (lg_sl ([.ref a])).length) Slot.unset).toArray = ls at hl ⊢
  have hl : lv_has ls 1 [(0, .ref a)] := hl
  refine lv_aload_n hx hb dX10_init_0 rfl (lv_at hl 0 rfl) ?_
  refine W.objInit hx hb hown (hG _ m_124) (hG _ m_1) (hG _ m_2) rfl (by rw [hml]; exact hl.1) rfl dX10_init_1 (Nat.le_of_ble_eq_true rfl) (Nat.le_of_ble_eq_true rfl) ?_
  refine W.eq (g2 := F0 m 4 ls []) rfl ?_
  refine lv_aload_n hx hb dX10_init_4 rfl (lv_at hl 0 rfl) ?_
  refine lv_bipush (v := 6) hx hb dX10_init_5 (by decide) ?_
  refine nf_newa (D := (dC, dI)) (atype := .int) (N' := 6) hx hb (hG _ m_16) hP hS (by decide) (by decide) (Nat.le_of_ble_eq_true rfl) (Nat.le_of_ble_eq_true rfl) (Nat.le_of_ble_eq_true rfl) dX10_init_7 (fun q1 H hP hS hz9 => ?_)
  refine W.widen (k := 1) (n := 6) (Nat.le_of_ble_eq_true rfl) (Nat.le_of_ble_eq_true rfl) ?_
  refine va_putF (D := (dC, dI)) (ci := 11) (v := .ref q1) (ty := .array .int) (C := RX10) (T := TX10) (N := 7) hx hb hG iX10 tyX10 tyX10_ok nmX10 hown hK hP hD hS 0 rfl rfl 0 (by decide) (hG _ m_125) (fun _ h9 => h9) rfl hin rfl (by decide +kernel) rfl rfl (by rw [hl_fs]; decide) dX10_init_9 (fun H locs hP hD hS => ?_)
  have hP : va_P (dC, dI) classes [(a, .inr (11, (fs.set 0 (.ref q1))))] H := hP
  have hD : va_D A [(a, .inr (11, (fs.set 0 (.ref q1))))] := hD
  obtain ⟨fs2, efs2⟩ : ∃ y : List Value, y = fs.set 0 (.ref q1) := ⟨_, rfl⟩
  rw [← efs2] at hP hD
  have hl_3 : fs2.length = 7 := by rw [efs2, List.length_set]; exact hl_fs
  refine lv_aload_n hx hb dX10_init_12 rfl (lv_at hl 0 rfl) ?_
  refine lv_bipush (v := 64) hx hb dX10_init_13 (by decide) ?_
  refine nf_newa (D := (dC, dI)) (atype := .boolean) (N' := 64) hx hb (hG _ m_114) hP hS (by decide) (by decide) (Nat.le_of_ble_eq_true rfl) (Nat.le_of_ble_eq_true rfl) (Nat.le_of_ble_eq_true rfl) dX10_init_15 (fun q4 H hP hS hz9 => ?_)
  refine W.widen (k := 2) (n := 70) (Nat.le_of_ble_eq_true rfl) (Nat.le_of_ble_eq_true rfl) ?_
  refine va_putF (D := (dC, dI)) (ci := 11) (v := .ref q4) (ty := .array .boolean) (C := RX10) (T := TX10) (N := 7) hx hb hG iX10 tyX10 tyX10_ok nmX10 hown hK hP hD hS 0 rfl rfl 1 (by decide) (hG _ m_126) (fun _ h9 => h9) rfl hin rfl (by decide +kernel) rfl rfl (by rw [hl_3]; decide) dX10_init_17 (fun H locs hP hD hS => ?_)
  have hP : va_P (dC, dI) classes [(a, .inr (11, (fs2.set 1 (.ref q4))))] H := hP
  have hD : va_D A [(a, .inr (11, (fs2.set 1 (.ref q4))))] := hD
  obtain ⟨fs5, efs5⟩ : ∃ y : List Value, y = fs2.set 1 (.ref q4) := ⟨_, rfl⟩
  rw [← efs5] at hP hD
  have hl_6 : fs5.length = 7 := by rw [efs5, List.length_set]; exact hl_3
  refine lv_aload_n hx hb dX10_init_20 rfl (lv_at hl 0 rfl) ?_
  refine lv_bipush (v := 6) hx hb dX10_init_21 (by decide) ?_
  refine nf_newa (D := (dC, dI)) (atype := .int) (N' := 6) hx hb (hG _ m_16) hP hS (by decide) (by decide) (Nat.le_of_ble_eq_true rfl) (Nat.le_of_ble_eq_true rfl) (Nat.le_of_ble_eq_true rfl) dX10_init_23 (fun q7 H hP hS hz9 => ?_)
  refine W.widen (k := 3) (n := 76) (Nat.le_of_ble_eq_true rfl) (Nat.le_of_ble_eq_true rfl) ?_
  refine va_putF (D := (dC, dI)) (ci := 11) (v := .ref q7) (ty := .array .int) (C := RX10) (T := TX10) (N := 7) hx hb hG iX10 tyX10 tyX10_ok nmX10 hown hK hP hD hS 0 rfl rfl 3 (by decide) (hG _ m_127) (fun _ h9 => h9) rfl hin rfl (by decide +kernel) rfl rfl (by rw [hl_6]; decide) dX10_init_25 (fun H locs hP hD hS => ?_)
  have hP : va_P (dC, dI) classes [(a, .inr (11, (fs5.set 3 (.ref q7))))] H := hP
  have hD : va_D A [(a, .inr (11, (fs5.set 3 (.ref q7))))] := hD
  obtain ⟨fs8, efs8⟩ : ∃ y : List Value, y = fs5.set 3 (.ref q7) := ⟨_, rfl⟩
  rw [← efs8] at hP hD
  have hl_9 : fs8.length = 7 := by rw [efs8, List.length_set]; exact hl_6
  refine lv_aload_n hx hb dX10_init_28 rfl (lv_at hl 0 rfl) ?_
  refine lv_bipush (v := 6) hx hb dX10_init_29 (by decide) ?_
  refine nf_newa (D := (dC, dI)) (atype := .int) (N' := 6) hx hb (hG _ m_16) hP hS (by decide) (by decide) (Nat.le_of_ble_eq_true rfl) (Nat.le_of_ble_eq_true rfl) (Nat.le_of_ble_eq_true rfl) dX10_init_31 (fun q10 H hP hS hz9 => ?_)
  refine W.widen (k := 4) (n := 82) (Nat.le_of_ble_eq_true rfl) (Nat.le_of_ble_eq_true rfl) ?_
  refine va_putF (D := (dC, dI)) (ci := 11) (v := .ref q10) (ty := .array .int) (C := RX10) (T := TX10) (N := 7) hx hb hG iX10 tyX10 tyX10_ok nmX10 hown hK hP hD hS 0 rfl rfl 4 (by decide) (hG _ m_128) (fun _ h9 => h9) rfl hin rfl (by decide +kernel) rfl rfl (by rw [hl_9]; decide) dX10_init_33 (fun H locs hP hD hS => ?_)
  have hP : va_P (dC, dI) classes [(a, .inr (11, (fs8.set 4 (.ref q10))))] H := hP
  have hD : va_D A [(a, .inr (11, (fs8.set 4 (.ref q10))))] := hD
  obtain ⟨fs11, efs11⟩ : ∃ y : List Value, y = fs8.set 4 (.ref q10) := ⟨_, rfl⟩
  rw [← efs11] at hP hD
  have hl_12 : fs11.length = 7 := by rw [efs11, List.length_set]; exact hl_9
  refine lv_aload_n hx hb dX10_init_36 rfl (lv_at hl 0 rfl) ?_
  refine lv_bipush (v := 6) hx hb dX10_init_37 (by decide) ?_
  refine nf_newa (D := (dC, dI)) (atype := .int) (N' := 6) hx hb (hG _ m_16) hP hS (by decide) (by decide) (Nat.le_of_ble_eq_true rfl) (Nat.le_of_ble_eq_true rfl) (Nat.le_of_ble_eq_true rfl) dX10_init_39 (fun q13 H hP hS hz9 => ?_)
  refine W.widen (k := 5) (n := 88) (Nat.le_of_ble_eq_true rfl) (Nat.le_of_ble_eq_true rfl) ?_
  refine va_putF (D := (dC, dI)) (ci := 11) (v := .ref q13) (ty := .array .int) (C := RX10) (T := TX10) (N := 7) hx hb hG iX10 tyX10 tyX10_ok nmX10 hown hK hP hD hS 0 rfl rfl 5 (by decide) (hG _ m_129) (fun _ h9 => h9) rfl hin rfl (by decide +kernel) rfl rfl (by rw [hl_12]; decide) dX10_init_41 (fun H locs hP hD hS => ?_)
  have hP : va_P (dC, dI) classes [(a, .inr (11, (fs11.set 5 (.ref q13))))] H := hP
  have hD : va_D A [(a, .inr (11, (fs11.set 5 (.ref q13))))] := hD
  obtain ⟨fs14, efs14⟩ : ∃ y : List Value, y = fs11.set 5 (.ref q13) := ⟨_, rfl⟩
  rw [← efs14] at hP hD
  have hl_15 : fs14.length = 7 := by rw [efs14, List.length_set]; exact hl_12
  have hP9 := hP.sub (ws' := [(a, .inr (11, fs14))]) [0] rfl
  have hD9 := hD.sub (ws' := [(a, .inr (11, fs14))]) [0] (by decide) rfl
  have hK9 := hK.sub (tys' := []) [] rfl
  exact W.vret hx hb hr (fun t ht hW => ⟨⟨(), rfl, trivial, fs14, by rw [ht]; exact hP9, va_K.moved hW.alike hK9, hD9, hl_15⟩, hS.F ht⟩) hS.2.2 dX10_init_44

set_option maxHeartbeats 4000000 in
set_option maxRecDepth 100000 in
theorem c_Seattable_init (l : Launch) (dC : Nat → ClassId) (dI : Nat → Nat → Nat) (z : Nat) (a : Nat) (fs : List Value) (sz : Nat) (hl_fs : fs.length = 14) : Met l yX11_init (Cond.code yX11_init cX11_init 2 none :: G) ({ frames := 4, cells := 460, slots := 52562, locals := 73 }) (va_Pc [.ref a] (pre_ dC dI [(a, .inr (12, fs))] [] sz z)) (va_Qv (fun _ : Unit => True) (fun _ t => ∃ (fs115 : List Value), ∃ (q1 : Nat), ∃ (fs6 : List Value), ∃ (q49 : Nat), ∃ (fs54 : List Value), ∃ (q7 : Nat), ∃ (cA8 : ClassId), ∃ (f9 : Nat → Int32), ∃ (q55 : Nat), ∃ (cA56 : ClassId), ∃ (f57 : Nat → Int32), va_P (dC, dI) classes [(a, .inr (12, fs115)), (q1, .inr (2, fs6)), (q49, .inr (5, fs54)), (q7, .inl (cA8, 12, .inl f9)), (q55, .inl (cA56, 6, .inl f57))] t.heap ∧ va_K (dC, dI) classes [(cA8, .int), (cA56, .int)] t ∧ va_D (va_A [(a, .inr (12, fs))] sz) [(a, .inr (12, fs115)), (q1, .inr (2, fs6)), (q49, .inr (5, fs54)), (q7, .inl (cA8, 12, .inl f9)), (q55, .inl (cA56, 6, .inl f57))] ∧ fs115.length = 14 ∧ fs115[0]? = some (.ref q1) ∧ fs115[8]? = some (.ref q49) ∧ fs6.length = 19 ∧ fs6[0]? = some (.ref q7) ∧ fs54.length = 13 ∧ fs54[1]? = some (.ref q55) ∧ f9 0 = 0 ∧ f9 1 = 0) (va_A [(a, .inr (12, fs))] sz)) 460 52562 (va_A [(a, .inr (12, fs))] sz) := by
  refine Met.ofW (cc := cX11_init) (maxL := 2) (ret := none) (by decide) rfl ?_
  intro p e s m args below meth c s₁ B hml hv
  obtain ⟨rfl, hv⟩ := hv
  obtain ⟨hsz, hP, hK, hD0, hN, hZ⟩ := hv
  have hx := B.exec
  have hb := B.bytes
  have hr := B.returns
  have hG : ∀ w ∈ G, w.before _ s = true := fun w h => atoms_spec (ws := Cond.code yX11_init cX11_init 2 none :: G) B.pre w (List.mem_cons_of_mem _ h)
  have hown : s.vm.findClass "Seattable" = some m.cls := findClass_of_methodNamed B.named
  have hlocks := B.notSynchronized
  have hin : meth.name = "<init>" := (name_of_methodNamed B.named B.method).1
  subst hsz
  have hD := hD0.self (sz := s.heap.size)
  generalize hAe : va_A [(a, .inr (12, fs))] s.heap.size = A at hD hZ ⊢
  have hA : ∀ q : Nat, s.heap.size ≤ q → A q := fun q h => by rw [← hAe]; exact Or.inr h
  have hS : va_S A s.heap s.heap [] := va_S.rf
  have hP : va_P (dC, dI) classes [(a, .inr (12, fs))] s.heap := hP
  have hl := lv_entry ([.ref a]) (n := 2) (Nat.le_of_ble_eq_true rfl)
  rw [lg_entry_eq]
  generalize (lg_sl ([.ref a]) ++ List.replicate (2 - (lg_sl ([.ref a])).length) Slot.unset).toArray = ls at hl ⊢
  have hl : lv_has ls 2 [(0, .ref a)] := hl
  refine lv_aload_n hx hb dX11_init_0 rfl (lv_at hl 0 rfl) ?_
  refine W.objInit hx hb hown (hG _ m_130) (hG _ m_1) (hG _ m_2) rfl (by rw [hml]; exact hl.1) rfl dX11_init_1 (Nat.le_of_ble_eq_true rfl) (Nat.le_of_ble_eq_true rfl) ?_
  refine W.eq (g2 := F0 m 4 ls []) rfl ?_
  refine lv_aload_n hx hb dX11_init_4 rfl (lv_at hl 0 rfl) ?_
  refine va_new (D := (dC, dI)) (ci := 2) (fs := (List.range 19).map (fun k => defaultValue (tyX5 k))) (C := RX5) (T := TX5) (N := 19) hx hb hG iX5 tyX5 tyX5_ok hown (hG _ m_131) (hG _ m_132) (hG _ m_133) hK hP hD hS hA rfl (fs_new 19 tyX5) (Nat.le_of_ble_eq_true rfl) (Nat.le_of_ble_eq_true rfl) dX11_init_5 (fun q1 H hP hD hS => ?_)
  have hP : va_P (dC, dI) classes [(a, .inr (12, fs)), (q1, .inr (2, ((List.range 19).map (fun k => defaultValue (tyX5 k)))))] H := hP
  have hD : va_D A [(a, .inr (12, fs)), (q1, .inr (2, ((List.range 19).map (fun k => defaultValue (tyX5 k)))))] := hD
  obtain ⟨fs2, efs2⟩ : ∃ y : List Value, y = (List.range 19).map (fun k => defaultValue (tyX5 k)) := ⟨_, rfl⟩
  rw [← efs2] at hP hD
  have hl_3 : fs2.length = 19 := by rw [efs2, List.length_map, List.length_range]
  have hf_4 : fs2[0]? = some (.null) := by rw [efs2]; rfl
  refine W.widen (k := 1) (n := 19) (Nat.le_of_ble_eq_true rfl) (Nat.le_of_ble_eq_true rfl) ?_
  refine lv_dup hx hb dX11_init_8 rfl ?_
  have hPc := hP.sub (ws' := [(q1, .inr (2, fs2))]) [1] rfl
  have hDc := hD.sub (ws' := [(q1, .inr (2, fs2))]) [1] (by decide) rfl
  have hKc := hK.sub (tys' := []) [] rfl
  have hFc := va_free (wc := [(q1, .inr (2, fs2))]) hD hS hA [1] rfl
  refine va_callv (va_runI (As := []) (rest := [.ref q1, .ref a]) ⟨hx, hb, hml, hown, hG⟩ (c_House_init l dC dI z q1 fs2 H.size hl_3) (cwI 0 hG (gI m_134) rfl rfl rfl (hG _ m_133) (hG _ m_135) (hG _ m_136) rfl (by decide +kernel) ⟨Nat.le_of_ble_eq_true rfl, Nat.le_of_ble_eq_true rfl⟩) ⟨pre_blind, fun U hU hW => ⟨rfl, pre_call hU hW hPc hKc hDc hN (zkeep hZ hS) hFc⟩⟩ rfl rfl hl.1 rfl (lv_room (Nat.le_of_ble_eq_true rfl)) dX11_init_9 ⟨Nat.le_of_ble_eq_true rfl, Nat.le_of_ble_eq_true rfl⟩) hS (fun q _ h => hFc q h) hFc (fun u t H locs ht hvm hw hB hz1 hk1 hS => ?_)
  obtain ⟨fs6, q7, cA8, f9, hP1, hK1, hD1, hy10, hy11, hy12, hy13⟩ := hB
  rw [ht] at hP1
  have hK1 := va_K.moved hvm.symm hK1
  obtain ⟨hP, hD⟩ := va_join (wr := [(a, .inr (12, fs))]) (w1 := [(q1, .inr (2, fs6)), (q7, .inl (cA8, 12, .inl f9))]) hP hD [1] [0] rfl rfl (by decide) (by decide) hk1 hFc hP1 hD1
  have hK := (hK.sub (tys' := []) [] rfl).app hK1
  have hP : va_P (dC, dI) classes [(a, .inr (12, fs)), (q1, .inr (2, fs6)), (q7, .inl (cA8, 12, .inl f9))] H := hP
  have hD : va_D A [(a, .inr (12, fs)), (q1, .inr (2, fs6)), (q7, .inl (cA8, 12, .inl f9))] := hD
  have hK : va_K (dC, dI) classes [(cA8, .int)] s := hK
  refine W.widen (k := 20) (n := 2763) (Nat.le_of_ble_eq_true rfl) (Nat.le_of_ble_eq_true rfl) ?_
  refine va_putF (D := (dC, dI)) (ci := 12) (v := .ref q1) (ty := .object "Seattable$House") (C := RX11) (T := TX11) (N := 14) hx hb hG iX11 tyX11 tyX11_ok nmX11 hown hK hP hD hS 0 rfl rfl 0 (by decide) (hG _ m_137) (fun _ h9 => h9) rfl hin rfl (by decide +kernel) rfl rfl (by rw [hl_fs]; decide) dX11_init_12 (fun H locs hP hD hS => ?_)
  have hP : va_P (dC, dI) classes [(a, .inr (12, (fs.set 0 (.ref q1)))), (q1, .inr (2, fs6)), (q7, .inl (cA8, 12, .inl f9))] H := hP
  have hD : va_D A [(a, .inr (12, (fs.set 0 (.ref q1)))), (q1, .inr (2, fs6)), (q7, .inl (cA8, 12, .inl f9))] := hD
  obtain ⟨fs14, efs14⟩ : ∃ y : List Value, y = fs.set 0 (.ref q1) := ⟨_, rfl⟩
  rw [← efs14] at hP hD
  have hl_15 : fs14.length = 14 := by rw [efs14, List.length_set]; exact hl_fs
  have hf_16 : fs14[0]? = some (.ref q1) := by rw [efs14]; exact fs_set_eq hl_fs (by decide)
  refine lv_aload_n hx hb dX11_init_15 rfl (lv_at hl 0 rfl) ?_
  refine lv_bipush (v := 12) hx hb dX11_init_16 (by decide) ?_
  refine va_newq (D := (dC, dI)) (C := "Seattable$House") (N' := 12) hx hb hown (hG _ m_131) (nw_over_1 hN) hK hP hD hS hA (by decide) (by decide) (Nat.le_of_ble_eq_true rfl) (Nat.le_of_ble_eq_true rfl) (Nat.le_of_ble_eq_true rfl) dX11_init_18 (fun q17 cA18 H hK hP hD hS => ?_)
  have hP : va_P (dC, dI) classes [(a, .inr (12, fs14)), (q1, .inr (2, fs6)), (q7, .inl (cA8, 12, .inl f9)), (q17, .inl (cA18, 12, .inr (.inr (.inr (.inr (fun _ => none))))))] H := hP
  have hD : va_D A [(a, .inr (12, fs14)), (q1, .inr (2, fs6)), (q7, .inl (cA8, 12, .inl f9)), (q17, .inl (cA18, 12, .inr (.inr (.inr (.inr (fun _ => none))))))] := hD
  have hK : va_K (dC, dI) classes [(cA8, .int), (cA18, .object "Seattable$House")] s := hK
  obtain ⟨f19, ef19⟩ : ∃ y : Nat → Option Nat, y = (fun _ => none) := ⟨_, rfl⟩
  rw [← ef19] at hP hD
  refine W.widen (k := 21) (n := 2775) (Nat.le_of_ble_eq_true rfl) (Nat.le_of_ble_eq_true rfl) ?_
  refine va_putF (D := (dC, dI)) (ci := 12) (v := .ref q17) (ty := .array (.object "Seattable$House")) (C := RX11) (T := TX11) (N := 14) hx hb hG iX11 tyX11 tyX11_ok nmX11 hown hK hP hD hS 0 rfl rfl 1 (by decide) (hG _ m_138) (fun _ h9 => h9) rfl hin rfl (by decide +kernel) rfl rfl (by rw [hl_15]; decide) dX11_init_21 (fun H locs hP hD hS => ?_)
  have hP : va_P (dC, dI) classes [(a, .inr (12, (fs14.set 1 (.ref q17)))), (q1, .inr (2, fs6)), (q7, .inl (cA8, 12, .inl f9)), (q17, .inl (cA18, 12, .inr (.inr (.inr (.inr f19)))))] H := hP
  have hD : va_D A [(a, .inr (12, (fs14.set 1 (.ref q17)))), (q1, .inr (2, fs6)), (q7, .inl (cA8, 12, .inl f9)), (q17, .inl (cA18, 12, .inr (.inr (.inr (.inr f19)))))] := hD
  obtain ⟨fs20, efs20⟩ : ∃ y : List Value, y = fs14.set 1 (.ref q17) := ⟨_, rfl⟩
  rw [← efs20] at hP hD
  have hl_21 : fs20.length = 14 := by rw [efs20, List.length_set]; exact hl_15
  have hf_22 : fs20[0]? = some (.ref q1) := by rw [efs20]; exact fs_set_ne hf_16 (by decide)
  have hf_23 : fs20[1]? = some (.ref q17) := by rw [efs20]; exact fs_set_eq hl_15 (by decide)
  refine lv_aload_n hx hb dX11_init_24 rfl (lv_at hl 0 rfl) ?_
  refine va_new (D := (dC, dI)) (ci := 3) (fs := (List.range 16).map (fun k => defaultValue (tyX9 k))) (C := RX9) (T := TX9) (N := 16) hx hb hG iX9 tyX9 tyX9_ok hown (hG _ m_139) (hG _ m_140) (hG _ m_141) hK hP hD hS hA rfl (fs_new 16 tyX9) (Nat.le_of_ble_eq_true rfl) (Nat.le_of_ble_eq_true rfl) dX11_init_25 (fun q24 H hP hD hS => ?_)
  have hP : va_P (dC, dI) classes [(a, .inr (12, fs20)), (q1, .inr (2, fs6)), (q7, .inl (cA8, 12, .inl f9)), (q17, .inl (cA18, 12, .inr (.inr (.inr (.inr f19))))), (q24, .inr (3, ((List.range 16).map (fun k => defaultValue (tyX9 k)))))] H := hP
  have hD : va_D A [(a, .inr (12, fs20)), (q1, .inr (2, fs6)), (q7, .inl (cA8, 12, .inl f9)), (q17, .inl (cA18, 12, .inr (.inr (.inr (.inr f19))))), (q24, .inr (3, ((List.range 16).map (fun k => defaultValue (tyX9 k)))))] := hD
  obtain ⟨fs25, efs25⟩ : ∃ y : List Value, y = (List.range 16).map (fun k => defaultValue (tyX9 k)) := ⟨_, rfl⟩
  rw [← efs25] at hP hD
  have hl_26 : fs25.length = 16 := by rw [efs25, List.length_map, List.length_range]
  refine W.widen (k := 22) (n := 2791) (Nat.le_of_ble_eq_true rfl) (Nat.le_of_ble_eq_true rfl) ?_
  refine lv_dup hx hb dX11_init_28 rfl ?_
  have hPc := hP.sub (ws' := [(q24, .inr (3, fs25))]) [4] rfl
  have hDc := hD.sub (ws' := [(q24, .inr (3, fs25))]) [4] (by decide) rfl
  have hKc := hK.sub (tys' := []) [] rfl
  have hFc := va_free (wc := [(q24, .inr (3, fs25))]) hD hS hA [4] rfl
  refine va_callv (va_runIN (As := []) (rest := [.ref q24, .ref a]) ⟨hx, hb, hml, hown, hG⟩ (c_Script_init l dC dI z q24 fs25 H.size hl_26) ⟨va_cnB (host := "Seattable") 0 hG (gI m_142) rfl rfl rfl (nw_nest_4 hN) (hG _ m_141) (by decide +kernel) ⟨Nat.le_of_ble_eq_true rfl, Nat.le_of_ble_eq_true rfl⟩, rfl, (hG _ m_143)⟩ ⟨pre_blind, fun U hU hW => ⟨rfl, pre_call hU hW hPc hKc hDc hN (zkeep hZ hS) hFc⟩⟩ rfl rfl hl.1 rfl (lv_room (Nat.le_of_ble_eq_true rfl)) dX11_init_29 ⟨Nat.le_of_ble_eq_true rfl, Nat.le_of_ble_eq_true rfl⟩) hS (fun q _ h => hFc q h) hFc (fun u t H locs ht hvm hw hB hz1 hk1 hS => ?_)
  obtain ⟨fs28, hP1, hK1, hD1, hy29⟩ := hB
  rw [ht] at hP1
  have hK1 := va_K.moved hvm.symm hK1
  obtain ⟨hP, hD⟩ := va_join (wr := [(a, .inr (12, fs20)), (q1, .inr (2, fs6)), (q7, .inl (cA8, 12, .inl f9)), (q17, .inl (cA18, 12, .inr (.inr (.inr (.inr f19)))))]) (w1 := [(q24, .inr (3, fs28))]) hP hD [4] [0, 1, 2, 3] rfl rfl (by decide) (by decide) hk1 hFc hP1 hD1
  have hK := (hK.sub (tys' := [(cA8, .int), (cA18, .object "Seattable$House")]) [0, 1] rfl).app hK1
  have hP : va_P (dC, dI) classes [(a, .inr (12, fs20)), (q1, .inr (2, fs6)), (q7, .inl (cA8, 12, .inl f9)), (q17, .inl (cA18, 12, .inr (.inr (.inr (.inr f19))))), (q24, .inr (3, fs28))] H := hP
  have hD : va_D A [(a, .inr (12, fs20)), (q1, .inr (2, fs6)), (q7, .inl (cA8, 12, .inl f9)), (q17, .inl (cA18, 12, .inr (.inr (.inr (.inr f19))))), (q24, .inr (3, fs28))] := hD
  have hK : va_K (dC, dI) classes [(cA8, .int), (cA18, .object "Seattable$House")] s := hK
  refine W.widen (k := 23) (n := 3391) (Nat.le_of_ble_eq_true rfl) (Nat.le_of_ble_eq_true rfl) ?_
  refine va_putF (D := (dC, dI)) (ci := 12) (v := .ref q24) (ty := .object "Seattable$Script") (C := RX11) (T := TX11) (N := 14) hx hb hG iX11 tyX11 tyX11_ok nmX11 hown hK hP hD hS 0 rfl rfl 4 (by decide) (hG _ m_144) (fun _ h9 => h9) rfl hin rfl (by decide +kernel) rfl rfl (by rw [hl_21]; decide) dX11_init_32 (fun H locs hP hD hS => ?_)
  have hP : va_P (dC, dI) classes [(a, .inr (12, (fs20.set 4 (.ref q24)))), (q1, .inr (2, fs6)), (q7, .inl (cA8, 12, .inl f9)), (q17, .inl (cA18, 12, .inr (.inr (.inr (.inr f19))))), (q24, .inr (3, fs28))] H := hP
  have hD : va_D A [(a, .inr (12, (fs20.set 4 (.ref q24)))), (q1, .inr (2, fs6)), (q7, .inl (cA8, 12, .inl f9)), (q17, .inl (cA18, 12, .inr (.inr (.inr (.inr f19))))), (q24, .inr (3, fs28))] := hD
  obtain ⟨fs30, efs30⟩ : ∃ y : List Value, y = fs20.set 4 (.ref q24) := ⟨_, rfl⟩
  rw [← efs30] at hP hD
  have hl_31 : fs30.length = 14 := by rw [efs30, List.length_set]; exact hl_21
  have hf_32 : fs30[0]? = some (.ref q1) := by rw [efs30]; exact fs_set_ne hf_22 (by decide)
  have hf_33 : fs30[1]? = some (.ref q17) := by rw [efs30]; exact fs_set_ne hf_23 (by decide)
  have hP := hP.sub (ws' := [(a, .inr (12, fs30)), (q1, .inr (2, fs6)), (q7, .inl (cA8, 12, .inl f9)), (q17, .inl (cA18, 12, .inr (.inr (.inr (.inr f19)))))]) [0, 1, 2, 3] rfl
  have hD := hD.sub (ws' := [(a, .inr (12, fs30)), (q1, .inr (2, fs6)), (q7, .inl (cA8, 12, .inl f9)), (q17, .inl (cA18, 12, .inr (.inr (.inr (.inr f19)))))]) [0, 1, 2, 3] (by decide) rfl
  have hK := hK.sub (tys' := [(cA8, .int), (cA18, .object "Seattable$House")]) [0, 1] rfl
  refine lv_aload_n hx hb dX11_init_35 rfl (lv_at hl 0 rfl) ?_
  refine va_new (D := (dC, dI)) (ci := 4) (fs := (List.range 6).map (fun k => defaultValue (tyX4 k))) (C := RX4) (T := TX4) (N := 6) hx hb hG iX4 tyX4 tyX4_ok hown (hG _ m_145) (hG _ m_146) (hG _ m_147) hK hP hD hS hA rfl (fs_new 6 tyX4) (Nat.le_of_ble_eq_true rfl) (Nat.le_of_ble_eq_true rfl) dX11_init_36 (fun q34 H hP hD hS => ?_)
  have hP : va_P (dC, dI) classes [(a, .inr (12, fs30)), (q1, .inr (2, fs6)), (q7, .inl (cA8, 12, .inl f9)), (q17, .inl (cA18, 12, .inr (.inr (.inr (.inr f19))))), (q34, .inr (4, ((List.range 6).map (fun k => defaultValue (tyX4 k)))))] H := hP
  have hD : va_D A [(a, .inr (12, fs30)), (q1, .inr (2, fs6)), (q7, .inl (cA8, 12, .inl f9)), (q17, .inl (cA18, 12, .inr (.inr (.inr (.inr f19))))), (q34, .inr (4, ((List.range 6).map (fun k => defaultValue (tyX4 k)))))] := hD
  obtain ⟨fs35, efs35⟩ : ∃ y : List Value, y = (List.range 6).map (fun k => defaultValue (tyX4 k)) := ⟨_, rfl⟩
  rw [← efs35] at hP hD
  have hl_36 : fs35.length = 6 := by rw [efs35, List.length_map, List.length_range]
  refine W.widen (k := 24) (n := 3397) (Nat.le_of_ble_eq_true rfl) (Nat.le_of_ble_eq_true rfl) ?_
  refine lv_dup hx hb dX11_init_39 rfl ?_
  have hPc := hP.sub (ws' := [(q34, .inr (4, fs35))]) [4] rfl
  have hDc := hD.sub (ws' := [(q34, .inr (4, fs35))]) [4] (by decide) rfl
  have hKc := hK.sub (tys' := []) [] rfl
  have hFc := va_free (wc := [(q34, .inr (4, fs35))]) hD hS hA [4] rfl
  refine va_callv (va_runI (As := []) (rest := [.ref q34, .ref a]) ⟨hx, hb, hml, hown, hG⟩ (c_Fraction_init l dC dI z q34 fs35 H.size hl_36) (cwI 0 hG (gI m_148) rfl rfl rfl (hG _ m_147) (hG _ m_149) (hG _ m_150) rfl (by decide +kernel) ⟨Nat.le_of_ble_eq_true rfl, Nat.le_of_ble_eq_true rfl⟩) ⟨pre_blind, fun U hU hW => ⟨rfl, pre_call hU hW hPc hKc hDc hN (zkeep hZ hS) hFc⟩⟩ rfl rfl hl.1 rfl (lv_room (Nat.le_of_ble_eq_true rfl)) dX11_init_40 ⟨Nat.le_of_ble_eq_true rfl, Nat.le_of_ble_eq_true rfl⟩) hS (fun q _ h => hFc q h) hFc (fun u t H locs ht hvm hw hB hz1 hk1 hS => ?_)
  obtain ⟨fs38, hP1, hK1, hD1, hy39⟩ := hB
  rw [ht] at hP1
  have hK1 := va_K.moved hvm.symm hK1
  obtain ⟨hP, hD⟩ := va_join (wr := [(a, .inr (12, fs30)), (q1, .inr (2, fs6)), (q7, .inl (cA8, 12, .inl f9)), (q17, .inl (cA18, 12, .inr (.inr (.inr (.inr f19)))))]) (w1 := [(q34, .inr (4, fs38))]) hP hD [4] [0, 1, 2, 3] rfl rfl (by decide) (by decide) hk1 hFc hP1 hD1
  have hK := (hK.sub (tys' := [(cA8, .int), (cA18, .object "Seattable$House")]) [0, 1] rfl).app hK1
  have hP : va_P (dC, dI) classes [(a, .inr (12, fs30)), (q1, .inr (2, fs6)), (q7, .inl (cA8, 12, .inl f9)), (q17, .inl (cA18, 12, .inr (.inr (.inr (.inr f19))))), (q34, .inr (4, fs38))] H := hP
  have hD : va_D A [(a, .inr (12, fs30)), (q1, .inr (2, fs6)), (q7, .inl (cA8, 12, .inl f9)), (q17, .inl (cA18, 12, .inr (.inr (.inr (.inr f19))))), (q34, .inr (4, fs38))] := hD
  have hK : va_K (dC, dI) classes [(cA8, .int), (cA18, .object "Seattable$House")] s := hK
  refine W.widen (k := 36) (n := 3985) (Nat.le_of_ble_eq_true rfl) (Nat.le_of_ble_eq_true rfl) ?_
  refine va_putF (D := (dC, dI)) (ci := 12) (v := .ref q34) (ty := .object "Seattable$Fraction") (C := RX11) (T := TX11) (N := 14) hx hb hG iX11 tyX11 tyX11_ok nmX11 hown hK hP hD hS 0 rfl rfl 5 (by decide) (hG _ m_151) (fun _ h9 => h9) rfl hin rfl (by decide +kernel) rfl rfl (by rw [hl_31]; decide) dX11_init_43 (fun H locs hP hD hS => ?_)
  have hP : va_P (dC, dI) classes [(a, .inr (12, (fs30.set 5 (.ref q34)))), (q1, .inr (2, fs6)), (q7, .inl (cA8, 12, .inl f9)), (q17, .inl (cA18, 12, .inr (.inr (.inr (.inr f19))))), (q34, .inr (4, fs38))] H := hP
  have hD : va_D A [(a, .inr (12, (fs30.set 5 (.ref q34)))), (q1, .inr (2, fs6)), (q7, .inl (cA8, 12, .inl f9)), (q17, .inl (cA18, 12, .inr (.inr (.inr (.inr f19))))), (q34, .inr (4, fs38))] := hD
  obtain ⟨fs40, efs40⟩ : ∃ y : List Value, y = fs30.set 5 (.ref q34) := ⟨_, rfl⟩
  rw [← efs40] at hP hD
  have hl_41 : fs40.length = 14 := by rw [efs40, List.length_set]; exact hl_31
  have hf_42 : fs40[0]? = some (.ref q1) := by rw [efs40]; exact fs_set_ne hf_32 (by decide)
  have hf_43 : fs40[1]? = some (.ref q17) := by rw [efs40]; exact fs_set_ne hf_33 (by decide)
  have hP := hP.sub (ws' := [(a, .inr (12, fs40)), (q1, .inr (2, fs6)), (q7, .inl (cA8, 12, .inl f9)), (q17, .inl (cA18, 12, .inr (.inr (.inr (.inr f19)))))]) [0, 1, 2, 3] rfl
  have hD := hD.sub (ws' := [(a, .inr (12, fs40)), (q1, .inr (2, fs6)), (q7, .inl (cA8, 12, .inl f9)), (q17, .inl (cA18, 12, .inr (.inr (.inr (.inr f19)))))]) [0, 1, 2, 3] (by decide) rfl
  have hK := hK.sub (tys' := [(cA8, .int), (cA18, .object "Seattable$House")]) [0, 1] rfl
  refine lv_aload_n hx hb dX11_init_46 rfl (lv_at hl 0 rfl) ?_
  refine lv_sipush (v := 6000) hx hb dX11_init_47 (by decide) ?_
  refine nf_newa (D := (dC, dI)) (atype := .byte) (N' := 6000) hx hb (hG _ m_41) hP hS (by decide) (by decide) (Nat.le_of_ble_eq_true rfl) (Nat.le_of_ble_eq_true rfl) (Nat.le_of_ble_eq_true rfl) dX11_init_50 (fun q44 H hP hS hz9 => ?_)
  refine W.widen (k := 37) (n := 9985) (Nat.le_of_ble_eq_true rfl) (Nat.le_of_ble_eq_true rfl) ?_
  refine va_putF (D := (dC, dI)) (ci := 12) (v := .ref q44) (ty := .array .byte) (C := RX11) (T := TX11) (N := 14) hx hb hG iX11 tyX11 tyX11_ok nmX11 hown hK hP hD hS 0 rfl rfl 6 (by decide) (hG _ m_152) (fun _ h9 => h9) rfl hin rfl (by decide +kernel) rfl rfl (by rw [hl_41]; decide) dX11_init_52 (fun H locs hP hD hS => ?_)
  have hP : va_P (dC, dI) classes [(a, .inr (12, (fs40.set 6 (.ref q44)))), (q1, .inr (2, fs6)), (q7, .inl (cA8, 12, .inl f9)), (q17, .inl (cA18, 12, .inr (.inr (.inr (.inr f19)))))] H := hP
  have hD : va_D A [(a, .inr (12, (fs40.set 6 (.ref q44)))), (q1, .inr (2, fs6)), (q7, .inl (cA8, 12, .inl f9)), (q17, .inl (cA18, 12, .inr (.inr (.inr (.inr f19)))))] := hD
  obtain ⟨fs45, efs45⟩ : ∃ y : List Value, y = fs40.set 6 (.ref q44) := ⟨_, rfl⟩
  rw [← efs45] at hP hD
  have hl_46 : fs45.length = 14 := by rw [efs45, List.length_set]; exact hl_41
  have hf_47 : fs45[0]? = some (.ref q1) := by rw [efs45]; exact fs_set_ne hf_42 (by decide)
  have hf_48 : fs45[1]? = some (.ref q17) := by rw [efs45]; exact fs_set_ne hf_43 (by decide)
  refine lv_aload_n hx hb dX11_init_55 rfl (lv_at hl 0 rfl) ?_
  refine va_new (D := (dC, dI)) (ci := 5) (fs := (List.range 13).map (fun k => defaultValue (tyX2 k))) (C := RX2) (T := TX2) (N := 13) hx hb hG iX2 tyX2 tyX2_ok hown (hG _ m_153) (hG _ m_154) (hG _ m_155) hK hP hD hS hA rfl (fs_new 13 tyX2) (Nat.le_of_ble_eq_true rfl) (Nat.le_of_ble_eq_true rfl) dX11_init_56 (fun q49 H hP hD hS => ?_)
  have hP : va_P (dC, dI) classes [(a, .inr (12, fs45)), (q1, .inr (2, fs6)), (q7, .inl (cA8, 12, .inl f9)), (q17, .inl (cA18, 12, .inr (.inr (.inr (.inr f19))))), (q49, .inr (5, ((List.range 13).map (fun k => defaultValue (tyX2 k)))))] H := hP
  have hD : va_D A [(a, .inr (12, fs45)), (q1, .inr (2, fs6)), (q7, .inl (cA8, 12, .inl f9)), (q17, .inl (cA18, 12, .inr (.inr (.inr (.inr f19))))), (q49, .inr (5, ((List.range 13).map (fun k => defaultValue (tyX2 k)))))] := hD
  obtain ⟨fs50, efs50⟩ : ∃ y : List Value, y = (List.range 13).map (fun k => defaultValue (tyX2 k)) := ⟨_, rfl⟩
  rw [← efs50] at hP hD
  have hl_51 : fs50.length = 13 := by rw [efs50, List.length_map, List.length_range]
  have hf_52 : fs50[1]? = some (.null) := by rw [efs50]; rfl
  refine W.widen (k := 38) (n := 9998) (Nat.le_of_ble_eq_true rfl) (Nat.le_of_ble_eq_true rfl) ?_
  refine lv_dup hx hb dX11_init_59 rfl ?_
  have hPc := hP.sub (ws' := [(q49, .inr (5, fs50))]) [4] rfl
  have hDc := hD.sub (ws' := [(q49, .inr (5, fs50))]) [4] (by decide) rfl
  have hKc := hK.sub (tys' := []) [] rfl
  have hFc := va_free (wc := [(q49, .inr (5, fs50))]) hD hS hA [4] rfl
  refine va_callv (va_runIN (As := []) (rest := [.ref q49, .ref a]) ⟨hx, hb, hml, hown, hG⟩ (c_Dealer_init l dC dI z q49 fs50 H.size hl_51) ⟨va_cnB (host := "Seattable") 0 hG (gI m_156) rfl rfl rfl (nw_nest_5 hN) (hG _ m_155) (by decide +kernel) ⟨Nat.le_of_ble_eq_true rfl, Nat.le_of_ble_eq_true rfl⟩, rfl, (hG _ m_157)⟩ ⟨pre_blind, fun U hU hW => ⟨rfl, pre_call hU hW hPc hKc hDc hN (zkeep hZ hS) hFc⟩⟩ rfl rfl hl.1 rfl (lv_room (Nat.le_of_ble_eq_true rfl)) dX11_init_60 ⟨Nat.le_of_ble_eq_true rfl, Nat.le_of_ble_eq_true rfl⟩) hS (fun q _ h => hFc q h) hFc (fun u t H locs ht hvm hw hB hz1 hk1 hS => ?_)
  obtain ⟨fs54, q55, cA56, f57, hP1, hK1, hD1, hy58, hy59⟩ := hB
  rw [ht] at hP1
  have hK1 := va_K.moved hvm.symm hK1
  obtain ⟨hP, hD⟩ := va_join (wr := [(a, .inr (12, fs45)), (q1, .inr (2, fs6)), (q7, .inl (cA8, 12, .inl f9)), (q17, .inl (cA18, 12, .inr (.inr (.inr (.inr f19)))))]) (w1 := [(q49, .inr (5, fs54)), (q55, .inl (cA56, 6, .inl f57))]) hP hD [4] [0, 1, 2, 3] rfl rfl (by decide) (by decide) hk1 hFc hP1 hD1
  have hK := (hK.sub (tys' := [(cA8, .int), (cA18, .object "Seattable$House")]) [0, 1] rfl).app hK1
  have hP : va_P (dC, dI) classes [(a, .inr (12, fs45)), (q1, .inr (2, fs6)), (q7, .inl (cA8, 12, .inl f9)), (q17, .inl (cA18, 12, .inr (.inr (.inr (.inr f19))))), (q49, .inr (5, fs54)), (q55, .inl (cA56, 6, .inl f57))] H := hP
  have hD : va_D A [(a, .inr (12, fs45)), (q1, .inr (2, fs6)), (q7, .inl (cA8, 12, .inl f9)), (q17, .inl (cA18, 12, .inr (.inr (.inr (.inr f19))))), (q49, .inr (5, fs54)), (q55, .inl (cA56, 6, .inl f57))] := hD
  have hK : va_K (dC, dI) classes [(cA8, .int), (cA18, .object "Seattable$House"), (cA56, .int)] s := hK
  refine W.widen (k := 46) (n := 10046) (Nat.le_of_ble_eq_true rfl) (Nat.le_of_ble_eq_true rfl) ?_
  refine va_putF (D := (dC, dI)) (ci := 12) (v := .ref q49) (ty := .object "Seattable$Dealer") (C := RX11) (T := TX11) (N := 14) hx hb hG iX11 tyX11 tyX11_ok nmX11 hown hK hP hD hS 0 rfl rfl 8 (by decide) (hG _ m_158) (fun _ h9 => h9) rfl hin rfl (by decide +kernel) rfl rfl (by rw [hl_46]; decide) dX11_init_63 (fun H locs hP hD hS => ?_)
  have hP : va_P (dC, dI) classes [(a, .inr (12, (fs45.set 8 (.ref q49)))), (q1, .inr (2, fs6)), (q7, .inl (cA8, 12, .inl f9)), (q17, .inl (cA18, 12, .inr (.inr (.inr (.inr f19))))), (q49, .inr (5, fs54)), (q55, .inl (cA56, 6, .inl f57))] H := hP
  have hD : va_D A [(a, .inr (12, (fs45.set 8 (.ref q49)))), (q1, .inr (2, fs6)), (q7, .inl (cA8, 12, .inl f9)), (q17, .inl (cA18, 12, .inr (.inr (.inr (.inr f19))))), (q49, .inr (5, fs54)), (q55, .inl (cA56, 6, .inl f57))] := hD
  obtain ⟨fs60, efs60⟩ : ∃ y : List Value, y = fs45.set 8 (.ref q49) := ⟨_, rfl⟩
  rw [← efs60] at hP hD
  have hl_61 : fs60.length = 14 := by rw [efs60, List.length_set]; exact hl_46
  have hf_62 : fs60[0]? = some (.ref q1) := by rw [efs60]; exact fs_set_ne hf_47 (by decide)
  have hf_63 : fs60[1]? = some (.ref q17) := by rw [efs60]; exact fs_set_ne hf_48 (by decide)
  have hf_64 : fs60[8]? = some (.ref q49) := by rw [efs60]; exact fs_set_eq hl_46 (by decide)
  refine lv_aload_n hx hb dX11_init_66 rfl (lv_at hl 0 rfl) ?_
  refine va_new (D := (dC, dI)) (ci := 7) (fs := (List.range 10).map (fun k => defaultValue (tyX3 k))) (C := RX3) (T := TX3) (N := 10) hx hb hG iX3 tyX3 tyX3_ok hown (hG _ m_159) (hG _ m_160) (hG _ m_161) hK hP hD hS hA rfl (fs_new 10 tyX3) (Nat.le_of_ble_eq_true rfl) (Nat.le_of_ble_eq_true rfl) dX11_init_67 (fun q65 H hP hD hS => ?_)
  have hP : va_P (dC, dI) classes [(a, .inr (12, fs60)), (q1, .inr (2, fs6)), (q7, .inl (cA8, 12, .inl f9)), (q17, .inl (cA18, 12, .inr (.inr (.inr (.inr f19))))), (q49, .inr (5, fs54)), (q55, .inl (cA56, 6, .inl f57)), (q65, .inr (7, ((List.range 10).map (fun k => defaultValue (tyX3 k)))))] H := hP
  have hD : va_D A [(a, .inr (12, fs60)), (q1, .inr (2, fs6)), (q7, .inl (cA8, 12, .inl f9)), (q17, .inl (cA18, 12, .inr (.inr (.inr (.inr f19))))), (q49, .inr (5, fs54)), (q55, .inl (cA56, 6, .inl f57)), (q65, .inr (7, ((List.range 10).map (fun k => defaultValue (tyX3 k)))))] := hD
  obtain ⟨fs66, efs66⟩ : ∃ y : List Value, y = (List.range 10).map (fun k => defaultValue (tyX3 k)) := ⟨_, rfl⟩
  rw [← efs66] at hP hD
  have hl_67 : fs66.length = 10 := by rw [efs66, List.length_map, List.length_range]
  refine W.widen (k := 47) (n := 10056) (Nat.le_of_ble_eq_true rfl) (Nat.le_of_ble_eq_true rfl) ?_
  refine lv_dup hx hb dX11_init_70 rfl ?_
  have hPc := hP.sub (ws' := [(q65, .inr (7, fs66))]) [6] rfl
  have hDc := hD.sub (ws' := [(q65, .inr (7, fs66))]) [6] (by decide) rfl
  have hKc := hK.sub (tys' := []) [] rfl
  have hFc := va_free (wc := [(q65, .inr (7, fs66))]) hD hS hA [6] rfl
  refine va_callv (va_runIN (As := []) (rest := [.ref q65, .ref a]) ⟨hx, hb, hml, hown, hG⟩ (c_Filler_init l dC dI z q65 fs66 H.size hl_67) ⟨va_cnB (host := "Seattable") 0 hG (gI m_162) rfl rfl rfl (nw_nest_6 hN) (hG _ m_161) (by decide +kernel) ⟨Nat.le_of_ble_eq_true rfl, Nat.le_of_ble_eq_true rfl⟩, rfl, (hG _ m_163)⟩ ⟨pre_blind, fun U hU hW => ⟨rfl, pre_call hU hW hPc hKc hDc hN (zkeep hZ hS) hFc⟩⟩ rfl rfl hl.1 rfl (lv_room (Nat.le_of_ble_eq_true rfl)) dX11_init_71 ⟨Nat.le_of_ble_eq_true rfl, Nat.le_of_ble_eq_true rfl⟩) hS (fun q _ h => hFc q h) hFc (fun u t H locs ht hvm hw hB hz1 hk1 hS => ?_)
  obtain ⟨fs69, hP1, hK1, hD1, hy70⟩ := hB
  rw [ht] at hP1
  have hK1 := va_K.moved hvm.symm hK1
  obtain ⟨hP, hD⟩ := va_join (wr := [(a, .inr (12, fs60)), (q1, .inr (2, fs6)), (q7, .inl (cA8, 12, .inl f9)), (q17, .inl (cA18, 12, .inr (.inr (.inr (.inr f19))))), (q49, .inr (5, fs54)), (q55, .inl (cA56, 6, .inl f57))]) (w1 := [(q65, .inr (7, fs69))]) hP hD [6] [0, 1, 2, 3, 4, 5] rfl rfl (by decide) (by decide) hk1 hFc hP1 hD1
  have hK := (hK.sub (tys' := [(cA8, .int), (cA18, .object "Seattable$House"), (cA56, .int)]) [0, 1, 2] rfl).app hK1
  have hP : va_P (dC, dI) classes [(a, .inr (12, fs60)), (q1, .inr (2, fs6)), (q7, .inl (cA8, 12, .inl f9)), (q17, .inl (cA18, 12, .inr (.inr (.inr (.inr f19))))), (q49, .inr (5, fs54)), (q55, .inl (cA56, 6, .inl f57)), (q65, .inr (7, fs69))] H := hP
  have hD : va_D A [(a, .inr (12, fs60)), (q1, .inr (2, fs6)), (q7, .inl (cA8, 12, .inl f9)), (q17, .inl (cA18, 12, .inr (.inr (.inr (.inr f19))))), (q49, .inr (5, fs54)), (q55, .inl (cA56, 6, .inl f57)), (q65, .inr (7, fs69))] := hD
  have hK : va_K (dC, dI) classes [(cA8, .int), (cA18, .object "Seattable$House"), (cA56, .int)] s := hK
  refine W.widen (k := 119) (n := 13265) (Nat.le_of_ble_eq_true rfl) (Nat.le_of_ble_eq_true rfl) ?_
  refine va_putF (D := (dC, dI)) (ci := 12) (v := .ref q65) (ty := .object "Seattable$Filler") (C := RX11) (T := TX11) (N := 14) hx hb hG iX11 tyX11 tyX11_ok nmX11 hown hK hP hD hS 0 rfl rfl 9 (by decide) (hG _ m_164) (fun _ h9 => h9) rfl hin rfl (by decide +kernel) rfl rfl (by rw [hl_61]; decide) dX11_init_74 (fun H locs hP hD hS => ?_)
  have hP : va_P (dC, dI) classes [(a, .inr (12, (fs60.set 9 (.ref q65)))), (q1, .inr (2, fs6)), (q7, .inl (cA8, 12, .inl f9)), (q17, .inl (cA18, 12, .inr (.inr (.inr (.inr f19))))), (q49, .inr (5, fs54)), (q55, .inl (cA56, 6, .inl f57)), (q65, .inr (7, fs69))] H := hP
  have hD : va_D A [(a, .inr (12, (fs60.set 9 (.ref q65)))), (q1, .inr (2, fs6)), (q7, .inl (cA8, 12, .inl f9)), (q17, .inl (cA18, 12, .inr (.inr (.inr (.inr f19))))), (q49, .inr (5, fs54)), (q55, .inl (cA56, 6, .inl f57)), (q65, .inr (7, fs69))] := hD
  obtain ⟨fs71, efs71⟩ : ∃ y : List Value, y = fs60.set 9 (.ref q65) := ⟨_, rfl⟩
  rw [← efs71] at hP hD
  have hl_72 : fs71.length = 14 := by rw [efs71, List.length_set]; exact hl_61
  have hf_73 : fs71[0]? = some (.ref q1) := by rw [efs71]; exact fs_set_ne hf_62 (by decide)
  have hf_74 : fs71[1]? = some (.ref q17) := by rw [efs71]; exact fs_set_ne hf_63 (by decide)
  have hf_75 : fs71[8]? = some (.ref q49) := by rw [efs71]; exact fs_set_ne hf_64 (by decide)
  have hP := hP.sub (ws' := [(a, .inr (12, fs71)), (q1, .inr (2, fs6)), (q7, .inl (cA8, 12, .inl f9)), (q17, .inl (cA18, 12, .inr (.inr (.inr (.inr f19))))), (q49, .inr (5, fs54)), (q55, .inl (cA56, 6, .inl f57))]) [0, 1, 2, 3, 4, 5] rfl
  have hD := hD.sub (ws' := [(a, .inr (12, fs71)), (q1, .inr (2, fs6)), (q7, .inl (cA8, 12, .inl f9)), (q17, .inl (cA18, 12, .inr (.inr (.inr (.inr f19))))), (q49, .inr (5, fs54)), (q55, .inl (cA56, 6, .inl f57))]) [0, 1, 2, 3, 4, 5] (by decide) rfl
  have hK := hK.sub (tys' := [(cA8, .int), (cA18, .object "Seattable$House"), (cA56, .int)]) [0, 1, 2] rfl
  refine lv_aload_n hx hb dX11_init_77 rfl (lv_at hl 0 rfl) ?_
  refine va_new (D := (dC, dI)) (ci := 8) (fs := (List.range 20).map (fun k => defaultValue (tyX0 k))) (C := RX0) (T := TX0) (N := 20) hx hb hG iX0 tyX0 tyX0_ok hown (hG _ m_165) (hG _ m_166) (hG _ m_167) hK hP hD hS hA rfl (fs_new 20 tyX0) (Nat.le_of_ble_eq_true rfl) (Nat.le_of_ble_eq_true rfl) dX11_init_78 (fun q76 H hP hD hS => ?_)
  have hP : va_P (dC, dI) classes [(a, .inr (12, fs71)), (q1, .inr (2, fs6)), (q7, .inl (cA8, 12, .inl f9)), (q17, .inl (cA18, 12, .inr (.inr (.inr (.inr f19))))), (q49, .inr (5, fs54)), (q55, .inl (cA56, 6, .inl f57)), (q76, .inr (8, ((List.range 20).map (fun k => defaultValue (tyX0 k)))))] H := hP
  have hD : va_D A [(a, .inr (12, fs71)), (q1, .inr (2, fs6)), (q7, .inl (cA8, 12, .inl f9)), (q17, .inl (cA18, 12, .inr (.inr (.inr (.inr f19))))), (q49, .inr (5, fs54)), (q55, .inl (cA56, 6, .inl f57)), (q76, .inr (8, ((List.range 20).map (fun k => defaultValue (tyX0 k)))))] := hD
  obtain ⟨fs77, efs77⟩ : ∃ y : List Value, y = (List.range 20).map (fun k => defaultValue (tyX0 k)) := ⟨_, rfl⟩
  rw [← efs77] at hP hD
  have hl_78 : fs77.length = 20 := by rw [efs77, List.length_map, List.length_range]
  refine W.widen (k := 120) (n := 13285) (Nat.le_of_ble_eq_true rfl) (Nat.le_of_ble_eq_true rfl) ?_
  refine lv_dup hx hb dX11_init_81 rfl ?_
  have hPc := hP.sub (ws' := [(q76, .inr (8, fs77))]) [6] rfl
  have hDc := hD.sub (ws' := [(q76, .inr (8, fs77))]) [6] (by decide) rfl
  have hKc := hK.sub (tys' := []) [] rfl
  have hFc := va_free (wc := [(q76, .inr (8, fs77))]) hD hS hA [6] rfl
  refine va_callv (va_runI (As := []) (rest := [.ref q76, .ref a]) ⟨hx, hb, hml, hown, hG⟩ (c_Ballots_init l dC dI z q76 fs77 H.size hl_78) (cwI 0 hG (gI m_168) rfl rfl rfl (hG _ m_167) (hG _ m_169) (hG _ m_170) rfl (by decide +kernel) ⟨Nat.le_of_ble_eq_true rfl, Nat.le_of_ble_eq_true rfl⟩) ⟨pre_blind, fun U hU hW => ⟨rfl, pre_call hU hW hPc hKc hDc hN (zkeep hZ hS) hFc⟩⟩ rfl rfl hl.1 rfl (lv_room (Nat.le_of_ble_eq_true rfl)) dX11_init_82 ⟨Nat.le_of_ble_eq_true rfl, Nat.le_of_ble_eq_true rfl⟩) hS (fun q _ h => hFc q h) hFc (fun u t H locs ht hvm hw hB hz1 hk1 hS => ?_)
  obtain ⟨fs80, hP1, hK1, hD1, hy81⟩ := hB
  rw [ht] at hP1
  have hK1 := va_K.moved hvm.symm hK1
  obtain ⟨hP, hD⟩ := va_join (wr := [(a, .inr (12, fs71)), (q1, .inr (2, fs6)), (q7, .inl (cA8, 12, .inl f9)), (q17, .inl (cA18, 12, .inr (.inr (.inr (.inr f19))))), (q49, .inr (5, fs54)), (q55, .inl (cA56, 6, .inl f57))]) (w1 := [(q76, .inr (8, fs80))]) hP hD [6] [0, 1, 2, 3, 4, 5] rfl rfl (by decide) (by decide) hk1 hFc hP1 hD1
  have hK := (hK.sub (tys' := [(cA8, .int), (cA18, .object "Seattable$House"), (cA56, .int)]) [0, 1, 2] rfl).app hK1
  have hP : va_P (dC, dI) classes [(a, .inr (12, fs71)), (q1, .inr (2, fs6)), (q7, .inl (cA8, 12, .inl f9)), (q17, .inl (cA18, 12, .inr (.inr (.inr (.inr f19))))), (q49, .inr (5, fs54)), (q55, .inl (cA56, 6, .inl f57)), (q76, .inr (8, fs80))] H := hP
  have hD : va_D A [(a, .inr (12, fs71)), (q1, .inr (2, fs6)), (q7, .inl (cA8, 12, .inl f9)), (q17, .inl (cA18, 12, .inr (.inr (.inr (.inr f19))))), (q49, .inr (5, fs54)), (q55, .inl (cA56, 6, .inl f57)), (q76, .inr (8, fs80))] := hD
  have hK : va_K (dC, dI) classes [(cA8, .int), (cA18, .object "Seattable$House"), (cA56, .int)] s := hK
  refine W.widen (k := 204) (n := 17228) (Nat.le_of_ble_eq_true rfl) (Nat.le_of_ble_eq_true rfl) ?_
  refine va_putF (D := (dC, dI)) (ci := 12) (v := .ref q76) (ty := .object "Seattable$Ballots") (C := RX11) (T := TX11) (N := 14) hx hb hG iX11 tyX11 tyX11_ok nmX11 hown hK hP hD hS 0 rfl rfl 10 (by decide) (hG _ m_171) (fun _ h9 => h9) rfl hin rfl (by decide +kernel) rfl rfl (by rw [hl_72]; decide) dX11_init_85 (fun H locs hP hD hS => ?_)
  have hP : va_P (dC, dI) classes [(a, .inr (12, (fs71.set 10 (.ref q76)))), (q1, .inr (2, fs6)), (q7, .inl (cA8, 12, .inl f9)), (q17, .inl (cA18, 12, .inr (.inr (.inr (.inr f19))))), (q49, .inr (5, fs54)), (q55, .inl (cA56, 6, .inl f57)), (q76, .inr (8, fs80))] H := hP
  have hD : va_D A [(a, .inr (12, (fs71.set 10 (.ref q76)))), (q1, .inr (2, fs6)), (q7, .inl (cA8, 12, .inl f9)), (q17, .inl (cA18, 12, .inr (.inr (.inr (.inr f19))))), (q49, .inr (5, fs54)), (q55, .inl (cA56, 6, .inl f57)), (q76, .inr (8, fs80))] := hD
  obtain ⟨fs82, efs82⟩ : ∃ y : List Value, y = fs71.set 10 (.ref q76) := ⟨_, rfl⟩
  rw [← efs82] at hP hD
  have hl_83 : fs82.length = 14 := by rw [efs82, List.length_set]; exact hl_72
  have hf_84 : fs82[0]? = some (.ref q1) := by rw [efs82]; exact fs_set_ne hf_73 (by decide)
  have hf_85 : fs82[1]? = some (.ref q17) := by rw [efs82]; exact fs_set_ne hf_74 (by decide)
  have hf_86 : fs82[8]? = some (.ref q49) := by rw [efs82]; exact fs_set_ne hf_75 (by decide)
  have hP := hP.sub (ws' := [(a, .inr (12, fs82)), (q1, .inr (2, fs6)), (q7, .inl (cA8, 12, .inl f9)), (q17, .inl (cA18, 12, .inr (.inr (.inr (.inr f19))))), (q49, .inr (5, fs54)), (q55, .inl (cA56, 6, .inl f57))]) [0, 1, 2, 3, 4, 5] rfl
  have hD := hD.sub (ws' := [(a, .inr (12, fs82)), (q1, .inr (2, fs6)), (q7, .inl (cA8, 12, .inl f9)), (q17, .inl (cA18, 12, .inr (.inr (.inr (.inr f19))))), (q49, .inr (5, fs54)), (q55, .inl (cA56, 6, .inl f57))]) [0, 1, 2, 3, 4, 5] (by decide) rfl
  have hK := hK.sub (tys' := [(cA8, .int), (cA18, .object "Seattable$House"), (cA56, .int)]) [0, 1, 2] rfl
  refine lv_aload_n hx hb dX11_init_88 rfl (lv_at hl 0 rfl) ?_
  refine va_new (D := (dC, dI)) (ci := 9) (fs := (List.range 10).map (fun k => defaultValue (tyX6 k))) (C := RX6) (T := TX6) (N := 10) hx hb hG iX6 tyX6 tyX6_ok hown (hG _ m_172) (hG _ m_173) (hG _ m_174) hK hP hD hS hA rfl (fs_new 10 tyX6) (Nat.le_of_ble_eq_true rfl) (Nat.le_of_ble_eq_true rfl) dX11_init_89 (fun q87 H hP hD hS => ?_)
  have hP : va_P (dC, dI) classes [(a, .inr (12, fs82)), (q1, .inr (2, fs6)), (q7, .inl (cA8, 12, .inl f9)), (q17, .inl (cA18, 12, .inr (.inr (.inr (.inr f19))))), (q49, .inr (5, fs54)), (q55, .inl (cA56, 6, .inl f57)), (q87, .inr (9, ((List.range 10).map (fun k => defaultValue (tyX6 k)))))] H := hP
  have hD : va_D A [(a, .inr (12, fs82)), (q1, .inr (2, fs6)), (q7, .inl (cA8, 12, .inl f9)), (q17, .inl (cA18, 12, .inr (.inr (.inr (.inr f19))))), (q49, .inr (5, fs54)), (q55, .inl (cA56, 6, .inl f57)), (q87, .inr (9, ((List.range 10).map (fun k => defaultValue (tyX6 k)))))] := hD
  obtain ⟨fs88, efs88⟩ : ∃ y : List Value, y = (List.range 10).map (fun k => defaultValue (tyX6 k)) := ⟨_, rfl⟩
  rw [← efs88] at hP hD
  have hl_89 : fs88.length = 10 := by rw [efs88, List.length_map, List.length_range]
  refine W.widen (k := 205) (n := 17238) (Nat.le_of_ble_eq_true rfl) (Nat.le_of_ble_eq_true rfl) ?_
  refine lv_dup hx hb dX11_init_92 rfl ?_
  have hPc := hP.sub (ws' := [(q87, .inr (9, fs88))]) [6] rfl
  have hDc := hD.sub (ws' := [(q87, .inr (9, fs88))]) [6] (by decide) rfl
  have hKc := hK.sub (tys' := []) [] rfl
  have hFc := va_free (wc := [(q87, .inr (9, fs88))]) hD hS hA [6] rfl
  refine va_callv (va_runIN (As := []) (rest := [.ref q87, .ref a]) ⟨hx, hb, hml, hown, hG⟩ (c_Maps_init l dC dI z q87 fs88 H.size hl_89) ⟨va_cnB (host := "Seattable") 0 hG (gI m_175) rfl rfl rfl (nw_nest_7 hN) (hG _ m_174) (by decide +kernel) ⟨Nat.le_of_ble_eq_true rfl, Nat.le_of_ble_eq_true rfl⟩, rfl, (hG _ m_176)⟩ ⟨pre_blind, fun U hU hW => ⟨rfl, pre_call hU hW hPc hKc hDc hN (zkeep hZ hS) hFc⟩⟩ rfl rfl hl.1 rfl (lv_room (Nat.le_of_ble_eq_true rfl)) dX11_init_93 ⟨Nat.le_of_ble_eq_true rfl, Nat.le_of_ble_eq_true rfl⟩) hS (fun q _ h => hFc q h) hFc (fun u t H locs ht hvm hw hB hz1 hk1 hS => ?_)
  obtain ⟨fs91, hP1, hK1, hD1, hy92⟩ := hB
  rw [ht] at hP1
  have hK1 := va_K.moved hvm.symm hK1
  obtain ⟨hP, hD⟩ := va_join (wr := [(a, .inr (12, fs82)), (q1, .inr (2, fs6)), (q7, .inl (cA8, 12, .inl f9)), (q17, .inl (cA18, 12, .inr (.inr (.inr (.inr f19))))), (q49, .inr (5, fs54)), (q55, .inl (cA56, 6, .inl f57))]) (w1 := [(q87, .inr (9, fs91))]) hP hD [6] [0, 1, 2, 3, 4, 5] rfl rfl (by decide) (by decide) hk1 hFc hP1 hD1
  have hK := (hK.sub (tys' := [(cA8, .int), (cA18, .object "Seattable$House"), (cA56, .int)]) [0, 1, 2] rfl).app hK1
  have hP : va_P (dC, dI) classes [(a, .inr (12, fs82)), (q1, .inr (2, fs6)), (q7, .inl (cA8, 12, .inl f9)), (q17, .inl (cA18, 12, .inr (.inr (.inr (.inr f19))))), (q49, .inr (5, fs54)), (q55, .inl (cA56, 6, .inl f57)), (q87, .inr (9, fs91))] H := hP
  have hD : va_D A [(a, .inr (12, fs82)), (q1, .inr (2, fs6)), (q7, .inl (cA8, 12, .inl f9)), (q17, .inl (cA18, 12, .inr (.inr (.inr (.inr f19))))), (q49, .inr (5, fs54)), (q55, .inl (cA56, 6, .inl f57)), (q87, .inr (9, fs91))] := hD
  have hK : va_K (dC, dI) classes [(cA8, .int), (cA18, .object "Seattable$House"), (cA56, .int)] s := hK
  refine W.widen (k := 209) (n := 17771) (Nat.le_of_ble_eq_true rfl) (Nat.le_of_ble_eq_true rfl) ?_
  refine va_putF (D := (dC, dI)) (ci := 12) (v := .ref q87) (ty := .object "Seattable$Maps") (C := RX11) (T := TX11) (N := 14) hx hb hG iX11 tyX11 tyX11_ok nmX11 hown hK hP hD hS 0 rfl rfl 11 (by decide) (hG _ m_177) (fun _ h9 => h9) rfl hin rfl (by decide +kernel) rfl rfl (by rw [hl_83]; decide) dX11_init_96 (fun H locs hP hD hS => ?_)
  have hP : va_P (dC, dI) classes [(a, .inr (12, (fs82.set 11 (.ref q87)))), (q1, .inr (2, fs6)), (q7, .inl (cA8, 12, .inl f9)), (q17, .inl (cA18, 12, .inr (.inr (.inr (.inr f19))))), (q49, .inr (5, fs54)), (q55, .inl (cA56, 6, .inl f57)), (q87, .inr (9, fs91))] H := hP
  have hD : va_D A [(a, .inr (12, (fs82.set 11 (.ref q87)))), (q1, .inr (2, fs6)), (q7, .inl (cA8, 12, .inl f9)), (q17, .inl (cA18, 12, .inr (.inr (.inr (.inr f19))))), (q49, .inr (5, fs54)), (q55, .inl (cA56, 6, .inl f57)), (q87, .inr (9, fs91))] := hD
  obtain ⟨fs93, efs93⟩ : ∃ y : List Value, y = fs82.set 11 (.ref q87) := ⟨_, rfl⟩
  rw [← efs93] at hP hD
  have hl_94 : fs93.length = 14 := by rw [efs93, List.length_set]; exact hl_83
  have hf_95 : fs93[0]? = some (.ref q1) := by rw [efs93]; exact fs_set_ne hf_84 (by decide)
  have hf_96 : fs93[1]? = some (.ref q17) := by rw [efs93]; exact fs_set_ne hf_85 (by decide)
  have hf_97 : fs93[8]? = some (.ref q49) := by rw [efs93]; exact fs_set_ne hf_86 (by decide)
  have hP := hP.sub (ws' := [(a, .inr (12, fs93)), (q1, .inr (2, fs6)), (q7, .inl (cA8, 12, .inl f9)), (q17, .inl (cA18, 12, .inr (.inr (.inr (.inr f19))))), (q49, .inr (5, fs54)), (q55, .inl (cA56, 6, .inl f57))]) [0, 1, 2, 3, 4, 5] rfl
  have hD := hD.sub (ws' := [(a, .inr (12, fs93)), (q1, .inr (2, fs6)), (q7, .inl (cA8, 12, .inl f9)), (q17, .inl (cA18, 12, .inr (.inr (.inr (.inr f19))))), (q49, .inr (5, fs54)), (q55, .inl (cA56, 6, .inl f57))]) [0, 1, 2, 3, 4, 5] (by decide) rfl
  have hK := hK.sub (tys' := [(cA8, .int), (cA18, .object "Seattable$House"), (cA56, .int)]) [0, 1, 2] rfl
  refine lv_aload_n hx hb dX11_init_99 rfl (lv_at hl 0 rfl) ?_
  refine va_new (D := (dC, dI)) (ci := 10) (fs := (List.range 9).map (fun k => defaultValue (tyX7 k))) (C := RX7) (T := TX7) (N := 9) hx hb hG iX7 tyX7 tyX7_ok hown (hG _ m_178) (hG _ m_179) (hG _ m_180) hK hP hD hS hA rfl (fs_new 9 tyX7) (Nat.le_of_ble_eq_true rfl) (Nat.le_of_ble_eq_true rfl) dX11_init_100 (fun q98 H hP hD hS => ?_)
  have hP : va_P (dC, dI) classes [(a, .inr (12, fs93)), (q1, .inr (2, fs6)), (q7, .inl (cA8, 12, .inl f9)), (q17, .inl (cA18, 12, .inr (.inr (.inr (.inr f19))))), (q49, .inr (5, fs54)), (q55, .inl (cA56, 6, .inl f57)), (q98, .inr (10, ((List.range 9).map (fun k => defaultValue (tyX7 k)))))] H := hP
  have hD : va_D A [(a, .inr (12, fs93)), (q1, .inr (2, fs6)), (q7, .inl (cA8, 12, .inl f9)), (q17, .inl (cA18, 12, .inr (.inr (.inr (.inr f19))))), (q49, .inr (5, fs54)), (q55, .inl (cA56, 6, .inl f57)), (q98, .inr (10, ((List.range 9).map (fun k => defaultValue (tyX7 k)))))] := hD
  obtain ⟨fs99, efs99⟩ : ∃ y : List Value, y = (List.range 9).map (fun k => defaultValue (tyX7 k)) := ⟨_, rfl⟩
  rw [← efs99] at hP hD
  have hl_100 : fs99.length = 9 := by rw [efs99, List.length_map, List.length_range]
  refine W.widen (k := 210) (n := 17780) (Nat.le_of_ble_eq_true rfl) (Nat.le_of_ble_eq_true rfl) ?_
  refine lv_dup hx hb dX11_init_103 rfl ?_
  have hPc := hP.sub (ws' := [(q98, .inr (10, fs99))]) [6] rfl
  have hDc := hD.sub (ws' := [(q98, .inr (10, fs99))]) [6] (by decide) rfl
  have hKc := hK.sub (tys' := []) [] rfl
  have hFc := va_free (wc := [(q98, .inr (10, fs99))]) hD hS hA [6] rfl
  refine va_callv (va_runIN (As := []) (rest := [.ref q98, .ref a]) ⟨hx, hb, hml, hown, hG⟩ (c_Panels_init l dC dI z q98 fs99 H.size hl_100) ⟨va_cnB (host := "Seattable") 0 hG (gI m_181) rfl rfl rfl (nw_nest_8 hN) (hG _ m_180) (by decide +kernel) ⟨Nat.le_of_ble_eq_true rfl, Nat.le_of_ble_eq_true rfl⟩, rfl, (hG _ m_182)⟩ ⟨pre_blind, fun U hU hW => ⟨rfl, pre_call hU hW hPc hKc hDc hN (zkeep hZ hS) hFc⟩⟩ rfl rfl hl.1 rfl (lv_room (Nat.le_of_ble_eq_true rfl)) dX11_init_104 ⟨Nat.le_of_ble_eq_true rfl, Nat.le_of_ble_eq_true rfl⟩) hS (fun q _ h => hFc q h) hFc (fun u t H locs ht hvm hw hB hz1 hk1 hS => ?_)
  obtain ⟨fs102, hP1, hK1, hD1, hy103⟩ := hB
  rw [ht] at hP1
  have hK1 := va_K.moved hvm.symm hK1
  obtain ⟨hP, hD⟩ := va_join (wr := [(a, .inr (12, fs93)), (q1, .inr (2, fs6)), (q7, .inl (cA8, 12, .inl f9)), (q17, .inl (cA18, 12, .inr (.inr (.inr (.inr f19))))), (q49, .inr (5, fs54)), (q55, .inl (cA56, 6, .inl f57))]) (w1 := [(q98, .inr (10, fs102))]) hP hD [6] [0, 1, 2, 3, 4, 5] rfl rfl (by decide) (by decide) hk1 hFc hP1 hD1
  have hK := (hK.sub (tys' := [(cA8, .int), (cA18, .object "Seattable$House"), (cA56, .int)]) [0, 1, 2] rfl).app hK1
  have hP : va_P (dC, dI) classes [(a, .inr (12, fs93)), (q1, .inr (2, fs6)), (q7, .inl (cA8, 12, .inl f9)), (q17, .inl (cA18, 12, .inr (.inr (.inr (.inr f19))))), (q49, .inr (5, fs54)), (q55, .inl (cA56, 6, .inl f57)), (q98, .inr (10, fs102))] H := hP
  have hD : va_D A [(a, .inr (12, fs93)), (q1, .inr (2, fs6)), (q7, .inl (cA8, 12, .inl f9)), (q17, .inl (cA18, 12, .inr (.inr (.inr (.inr f19))))), (q49, .inr (5, fs54)), (q55, .inl (cA56, 6, .inl f57)), (q98, .inr (10, fs102))] := hD
  have hK : va_K (dC, dI) classes [(cA8, .int), (cA18, .object "Seattable$House"), (cA56, .int)] s := hK
  refine W.widen (k := 214) (n := 19311) (Nat.le_of_ble_eq_true rfl) (Nat.le_of_ble_eq_true rfl) ?_
  refine va_putF (D := (dC, dI)) (ci := 12) (v := .ref q98) (ty := .object "Seattable$Panels") (C := RX11) (T := TX11) (N := 14) hx hb hG iX11 tyX11 tyX11_ok nmX11 hown hK hP hD hS 0 rfl rfl 12 (by decide) (hG _ m_183) (fun _ h9 => h9) rfl hin rfl (by decide +kernel) rfl rfl (by rw [hl_94]; decide) dX11_init_107 (fun H locs hP hD hS => ?_)
  have hP : va_P (dC, dI) classes [(a, .inr (12, (fs93.set 12 (.ref q98)))), (q1, .inr (2, fs6)), (q7, .inl (cA8, 12, .inl f9)), (q17, .inl (cA18, 12, .inr (.inr (.inr (.inr f19))))), (q49, .inr (5, fs54)), (q55, .inl (cA56, 6, .inl f57)), (q98, .inr (10, fs102))] H := hP
  have hD : va_D A [(a, .inr (12, (fs93.set 12 (.ref q98)))), (q1, .inr (2, fs6)), (q7, .inl (cA8, 12, .inl f9)), (q17, .inl (cA18, 12, .inr (.inr (.inr (.inr f19))))), (q49, .inr (5, fs54)), (q55, .inl (cA56, 6, .inl f57)), (q98, .inr (10, fs102))] := hD
  obtain ⟨fs104, efs104⟩ : ∃ y : List Value, y = fs93.set 12 (.ref q98) := ⟨_, rfl⟩
  rw [← efs104] at hP hD
  have hl_105 : fs104.length = 14 := by rw [efs104, List.length_set]; exact hl_94
  have hf_106 : fs104[0]? = some (.ref q1) := by rw [efs104]; exact fs_set_ne hf_95 (by decide)
  have hf_107 : fs104[1]? = some (.ref q17) := by rw [efs104]; exact fs_set_ne hf_96 (by decide)
  have hf_108 : fs104[8]? = some (.ref q49) := by rw [efs104]; exact fs_set_ne hf_97 (by decide)
  have hP := hP.sub (ws' := [(a, .inr (12, fs104)), (q1, .inr (2, fs6)), (q7, .inl (cA8, 12, .inl f9)), (q17, .inl (cA18, 12, .inr (.inr (.inr (.inr f19))))), (q49, .inr (5, fs54)), (q55, .inl (cA56, 6, .inl f57))]) [0, 1, 2, 3, 4, 5] rfl
  have hD := hD.sub (ws' := [(a, .inr (12, fs104)), (q1, .inr (2, fs6)), (q7, .inl (cA8, 12, .inl f9)), (q17, .inl (cA18, 12, .inr (.inr (.inr (.inr f19))))), (q49, .inr (5, fs54)), (q55, .inl (cA56, 6, .inl f57))]) [0, 1, 2, 3, 4, 5] (by decide) rfl
  have hK := hK.sub (tys' := [(cA8, .int), (cA18, .object "Seattable$House"), (cA56, .int)]) [0, 1, 2] rfl
  refine lv_aload_n hx hb dX11_init_110 rfl (lv_at hl 0 rfl) ?_
  refine va_new (D := (dC, dI)) (ci := 11) (fs := (List.range 7).map (fun k => defaultValue (tyX10 k))) (C := RX10) (T := TX10) (N := 7) hx hb hG iX10 tyX10 tyX10_ok hown (hG _ m_184) (hG _ m_185) (hG _ m_186) hK hP hD hS hA rfl (fs_new 7 tyX10) (Nat.le_of_ble_eq_true rfl) (Nat.le_of_ble_eq_true rfl) dX11_init_111 (fun q109 H hP hD hS => ?_)
  have hP : va_P (dC, dI) classes [(a, .inr (12, fs104)), (q1, .inr (2, fs6)), (q7, .inl (cA8, 12, .inl f9)), (q17, .inl (cA18, 12, .inr (.inr (.inr (.inr f19))))), (q49, .inr (5, fs54)), (q55, .inl (cA56, 6, .inl f57)), (q109, .inr (11, ((List.range 7).map (fun k => defaultValue (tyX10 k)))))] H := hP
  have hD : va_D A [(a, .inr (12, fs104)), (q1, .inr (2, fs6)), (q7, .inl (cA8, 12, .inl f9)), (q17, .inl (cA18, 12, .inr (.inr (.inr (.inr f19))))), (q49, .inr (5, fs54)), (q55, .inl (cA56, 6, .inl f57)), (q109, .inr (11, ((List.range 7).map (fun k => defaultValue (tyX10 k)))))] := hD
  obtain ⟨fs110, efs110⟩ : ∃ y : List Value, y = (List.range 7).map (fun k => defaultValue (tyX10 k)) := ⟨_, rfl⟩
  rw [← efs110] at hP hD
  have hl_111 : fs110.length = 7 := by rw [efs110, List.length_map, List.length_range]
  refine W.widen (k := 215) (n := 19318) (Nat.le_of_ble_eq_true rfl) (Nat.le_of_ble_eq_true rfl) ?_
  refine lv_dup hx hb dX11_init_114 rfl ?_
  have hPc := hP.sub (ws' := [(q109, .inr (11, fs110))]) [6] rfl
  have hDc := hD.sub (ws' := [(q109, .inr (11, fs110))]) [6] (by decide) rfl
  have hKc := hK.sub (tys' := []) [] rfl
  have hFc := va_free (wc := [(q109, .inr (11, fs110))]) hD hS hA [6] rfl
  refine va_callv (va_runIN (As := []) (rest := [.ref q109, .ref a]) ⟨hx, hb, hml, hown, hG⟩ (c_Weights_init l dC dI z q109 fs110 H.size hl_111) ⟨va_cnB (host := "Seattable") 0 hG (gI m_187) rfl rfl rfl (nw_nest_9 hN) (hG _ m_186) (by decide +kernel) ⟨Nat.le_of_ble_eq_true rfl, Nat.le_of_ble_eq_true rfl⟩, rfl, (hG _ m_188)⟩ ⟨pre_blind, fun U hU hW => ⟨rfl, pre_call hU hW hPc hKc hDc hN (zkeep hZ hS) hFc⟩⟩ rfl rfl hl.1 rfl (lv_room (Nat.le_of_ble_eq_true rfl)) dX11_init_115 ⟨Nat.le_of_ble_eq_true rfl, Nat.le_of_ble_eq_true rfl⟩) hS (fun q _ h => hFc q h) hFc (fun u t H locs ht hvm hw hB hz1 hk1 hS => ?_)
  obtain ⟨fs113, hP1, hK1, hD1, hy114⟩ := hB
  rw [ht] at hP1
  have hK1 := va_K.moved hvm.symm hK1
  obtain ⟨hP, hD⟩ := va_join (wr := [(a, .inr (12, fs104)), (q1, .inr (2, fs6)), (q7, .inl (cA8, 12, .inl f9)), (q17, .inl (cA18, 12, .inr (.inr (.inr (.inr f19))))), (q49, .inr (5, fs54)), (q55, .inl (cA56, 6, .inl f57))]) (w1 := [(q109, .inr (11, fs113))]) hP hD [6] [0, 1, 2, 3, 4, 5] rfl rfl (by decide) (by decide) hk1 hFc hP1 hD1
  have hK := (hK.sub (tys' := [(cA8, .int), (cA18, .object "Seattable$House"), (cA56, .int)]) [0, 1, 2] rfl).app hK1
  have hP : va_P (dC, dI) classes [(a, .inr (12, fs104)), (q1, .inr (2, fs6)), (q7, .inl (cA8, 12, .inl f9)), (q17, .inl (cA18, 12, .inr (.inr (.inr (.inr f19))))), (q49, .inr (5, fs54)), (q55, .inl (cA56, 6, .inl f57)), (q109, .inr (11, fs113))] H := hP
  have hD : va_D A [(a, .inr (12, fs104)), (q1, .inr (2, fs6)), (q7, .inl (cA8, 12, .inl f9)), (q17, .inl (cA18, 12, .inr (.inr (.inr (.inr f19))))), (q49, .inr (5, fs54)), (q55, .inl (cA56, 6, .inl f57)), (q109, .inr (11, fs113))] := hD
  have hK : va_K (dC, dI) classes [(cA8, .int), (cA18, .object "Seattable$House"), (cA56, .int)] s := hK
  refine W.widen (k := 220) (n := 19406) (Nat.le_of_ble_eq_true rfl) (Nat.le_of_ble_eq_true rfl) ?_
  refine va_putF (D := (dC, dI)) (ci := 12) (v := .ref q109) (ty := .object "Seattable$Weights") (C := RX11) (T := TX11) (N := 14) hx hb hG iX11 tyX11 tyX11_ok nmX11 hown hK hP hD hS 0 rfl rfl 13 (by decide) (hG _ m_189) (fun _ h9 => h9) rfl hin rfl (by decide +kernel) rfl rfl (by rw [hl_105]; decide) dX11_init_118 (fun H locs hP hD hS => ?_)
  have hP : va_P (dC, dI) classes [(a, .inr (12, (fs104.set 13 (.ref q109)))), (q1, .inr (2, fs6)), (q7, .inl (cA8, 12, .inl f9)), (q17, .inl (cA18, 12, .inr (.inr (.inr (.inr f19))))), (q49, .inr (5, fs54)), (q55, .inl (cA56, 6, .inl f57)), (q109, .inr (11, fs113))] H := hP
  have hD : va_D A [(a, .inr (12, (fs104.set 13 (.ref q109)))), (q1, .inr (2, fs6)), (q7, .inl (cA8, 12, .inl f9)), (q17, .inl (cA18, 12, .inr (.inr (.inr (.inr f19))))), (q49, .inr (5, fs54)), (q55, .inl (cA56, 6, .inl f57)), (q109, .inr (11, fs113))] := hD
  obtain ⟨fs115, efs115⟩ : ∃ y : List Value, y = fs104.set 13 (.ref q109) := ⟨_, rfl⟩
  rw [← efs115] at hP hD
  have hl_116 : fs115.length = 14 := by rw [efs115, List.length_set]; exact hl_105
  have hf_117 : fs115[0]? = some (.ref q1) := by rw [efs115]; exact fs_set_ne hf_106 (by decide)
  have hf_118 : fs115[1]? = some (.ref q17) := by rw [efs115]; exact fs_set_ne hf_107 (by decide)
  have hf_119 : fs115[8]? = some (.ref q49) := by rw [efs115]; exact fs_set_ne hf_108 (by decide)
  have hP := hP.sub (ws' := [(a, .inr (12, fs115)), (q1, .inr (2, fs6)), (q7, .inl (cA8, 12, .inl f9)), (q17, .inl (cA18, 12, .inr (.inr (.inr (.inr f19))))), (q49, .inr (5, fs54)), (q55, .inl (cA56, 6, .inl f57))]) [0, 1, 2, 3, 4, 5] rfl
  have hD := hD.sub (ws' := [(a, .inr (12, fs115)), (q1, .inr (2, fs6)), (q7, .inl (cA8, 12, .inl f9)), (q17, .inl (cA18, 12, .inr (.inr (.inr (.inr f19))))), (q49, .inr (5, fs54)), (q55, .inl (cA56, 6, .inl f57))]) [0, 1, 2, 3, 4, 5] (by decide) rfl
  have hK := hK.sub (tys' := [(cA8, .int), (cA18, .object "Seattable$House"), (cA56, .int)]) [0, 1, 2] rfl
  refine lv_iconst (v := 0) hx hb dX11_init_121 (by decide) ?_
  refine lv_istore_n (lv' := [(1, .int 0), (0, .ref a)]) hx hb dX11_init_122 rfl hl (by decide) rfl (fun ls hl => ?_)
  refine lv_iload_n hx hb dX11_init_123 rfl (lv_at hl 0 rfl) ?_
  refine lv_bipush (v := 12) hx hb dX11_init_124 (by decide) ?_
  refine lv_icmp_ge (tgt := 148) hx hb dX11_init_126 (by decide) (fun c9 => absurd c9 (by decide)) (fun _ => ?_)
  refine lv_aload_n hx hb dX11_init_129 rfl (lv_at hl 1 rfl) ?_
  refine va_get (D := (dC, dI)) (ci := 12) (v := .ref q17) (C := RX11) (T := TX11) (N := 14) hx hb hG iX11 hown hK hP 0 rfl rfl 1 (by decide) (hG _ m_138) (fun _ h9 => h9) hf_118 dX11_init_130 ?_
  refine lv_iload_n hx hb dX11_init_133 rfl (lv_at hl 0 rfl) ?_
  refine va_new (D := (dC, dI)) (ci := 2) (fs := (List.range 19).map (fun k => defaultValue (tyX5 k))) (C := RX5) (T := TX5) (N := 19) hx hb hG iX5 tyX5 tyX5_ok hown (hG _ m_131) (hG _ m_132) (hG _ m_133) hK hP hD hS hA rfl (fs_new 19 tyX5) (Nat.le_of_ble_eq_true rfl) (Nat.le_of_ble_eq_true rfl) dX11_init_134 (fun q120 H hP hD hS => ?_)
  have hP : va_P (dC, dI) classes [(a, .inr (12, fs115)), (q1, .inr (2, fs6)), (q7, .inl (cA8, 12, .inl f9)), (q17, .inl (cA18, 12, .inr (.inr (.inr (.inr f19))))), (q49, .inr (5, fs54)), (q55, .inl (cA56, 6, .inl f57)), (q120, .inr (2, ((List.range 19).map (fun k => defaultValue (tyX5 k)))))] H := hP
  have hD : va_D A [(a, .inr (12, fs115)), (q1, .inr (2, fs6)), (q7, .inl (cA8, 12, .inl f9)), (q17, .inl (cA18, 12, .inr (.inr (.inr (.inr f19))))), (q49, .inr (5, fs54)), (q55, .inl (cA56, 6, .inl f57)), (q120, .inr (2, ((List.range 19).map (fun k => defaultValue (tyX5 k)))))] := hD
  obtain ⟨fs121, efs121⟩ : ∃ y : List Value, y = (List.range 19).map (fun k => defaultValue (tyX5 k)) := ⟨_, rfl⟩
  rw [← efs121] at hP hD
  have hl_122 : fs121.length = 19 := by rw [efs121, List.length_map, List.length_range]
  have hf_123 : fs121[0]? = some (.null) := by rw [efs121]; rfl
  refine W.widen (k := 221) (n := 19425) (Nat.le_of_ble_eq_true rfl) (Nat.le_of_ble_eq_true rfl) ?_
  refine lv_dup hx hb dX11_init_137 rfl ?_
  have hPc := hP.sub (ws' := [(q120, .inr (2, fs121))]) [6] rfl
  have hDc := hD.sub (ws' := [(q120, .inr (2, fs121))]) [6] (by decide) rfl
  have hKc := hK.sub (tys' := []) [] rfl
  have hFc := va_free (wc := [(q120, .inr (2, fs121))]) hD hS hA [6] rfl
  refine va_callv (va_runI (As := []) (rest := [.ref q120, .int 0, .ref q17]) ⟨hx, hb, hml, hown, hG⟩ (c_House_init l dC dI z q120 fs121 H.size hl_122) (cwI 0 hG (gI m_134) rfl rfl rfl (hG _ m_133) (hG _ m_135) (hG _ m_136) rfl (by decide +kernel) ⟨Nat.le_of_ble_eq_true rfl, Nat.le_of_ble_eq_true rfl⟩) ⟨pre_blind, fun U hU hW => ⟨rfl, pre_call hU hW hPc hKc hDc hN (zkeep hZ hS) hFc⟩⟩ rfl rfl hl.1 rfl (lv_room (Nat.le_of_ble_eq_true rfl)) dX11_init_138 ⟨Nat.le_of_ble_eq_true rfl, Nat.le_of_ble_eq_true rfl⟩) hS (fun q _ h => hFc q h) hFc (fun u t H locs ht hvm hw hB hz1 hk1 hS => ?_)
  obtain ⟨fs125, q126, cA127, f128, hP1, hK1, hD1, hy129, hy130, hy131, hy132⟩ := hB
  rw [ht] at hP1
  have hK1 := va_K.moved hvm.symm hK1
  obtain ⟨hP, hD⟩ := va_join (wr := [(a, .inr (12, fs115)), (q1, .inr (2, fs6)), (q7, .inl (cA8, 12, .inl f9)), (q17, .inl (cA18, 12, .inr (.inr (.inr (.inr f19))))), (q49, .inr (5, fs54)), (q55, .inl (cA56, 6, .inl f57))]) (w1 := [(q120, .inr (2, fs125)), (q126, .inl (cA127, 12, .inl f128))]) hP hD [6] [0, 1, 2, 3, 4, 5] rfl rfl (by decide) (by decide) hk1 hFc hP1 hD1
  have hK := (hK.sub (tys' := [(cA8, .int), (cA18, .object "Seattable$House"), (cA56, .int)]) [0, 1, 2] rfl).app hK1
  have hP : va_P (dC, dI) classes [(a, .inr (12, fs115)), (q1, .inr (2, fs6)), (q7, .inl (cA8, 12, .inl f9)), (q17, .inl (cA18, 12, .inr (.inr (.inr (.inr f19))))), (q49, .inr (5, fs54)), (q55, .inl (cA56, 6, .inl f57)), (q120, .inr (2, fs125)), (q126, .inl (cA127, 12, .inl f128))] H := hP
  have hD : va_D A [(a, .inr (12, fs115)), (q1, .inr (2, fs6)), (q7, .inl (cA8, 12, .inl f9)), (q17, .inl (cA18, 12, .inr (.inr (.inr (.inr f19))))), (q49, .inr (5, fs54)), (q55, .inl (cA56, 6, .inl f57)), (q120, .inr (2, fs125)), (q126, .inl (cA127, 12, .inl f128))] := hD
  have hK : va_K (dC, dI) classes [(cA8, .int), (cA18, .object "Seattable$House"), (cA56, .int), (cA127, .int)] s := hK
  refine W.widen (k := 240) (n := 22169) (Nat.le_of_ble_eq_true rfl) (Nat.le_of_ble_eq_true rfl) ?_
  refine va_astq (D := (dC, dI)) (ci := 2) (r := (RX5, TX5, 19)) hx hb hK hP hD hS 3 1 6 rfl rfl rfl rfl (by unfold vp_in; decide) dX11_init_141 (fun H locs hP hD hS => ?_)
  have hP : va_P (dC, dI) classes [(a, .inr (12, fs115)), (q1, .inr (2, fs6)), (q7, .inl (cA8, 12, .inl f9)), (q17, .inl (cA18, 12, .inr (.inr (.inr (.inr (va_up f19 (0 : Int32).toNatClampNeg (some q120))))))), (q49, .inr (5, fs54)), (q55, .inl (cA56, 6, .inl f57)), (q120, .inr (2, fs125)), (q126, .inl (cA127, 12, .inl f128))] H := hP
  have hD : va_D A [(a, .inr (12, fs115)), (q1, .inr (2, fs6)), (q7, .inl (cA8, 12, .inl f9)), (q17, .inl (cA18, 12, .inr (.inr (.inr (.inr (va_up f19 (0 : Int32).toNatClampNeg (some q120))))))), (q49, .inr (5, fs54)), (q55, .inl (cA56, 6, .inl f57)), (q120, .inr (2, fs125)), (q126, .inl (cA127, 12, .inl f128))] := hD
  obtain ⟨f133, ef133⟩ : ∃ y : Nat → Option Nat, y = (va_up f19 (0 : Int32).toNatClampNeg (some q120)) := ⟨_, rfl⟩
  rw [← ef133] at hP hD
  have hP := hP.sub (ws' := [(a, .inr (12, fs115)), (q1, .inr (2, fs6)), (q7, .inl (cA8, 12, .inl f9)), (q17, .inl (cA18, 12, .inr (.inr (.inr (.inr f133))))), (q49, .inr (5, fs54)), (q55, .inl (cA56, 6, .inl f57))]) [0, 1, 2, 3, 4, 5] rfl
  have hD := hD.sub (ws' := [(a, .inr (12, fs115)), (q1, .inr (2, fs6)), (q7, .inl (cA8, 12, .inl f9)), (q17, .inl (cA18, 12, .inr (.inr (.inr (.inr f133))))), (q49, .inr (5, fs54)), (q55, .inl (cA56, 6, .inl f57))]) [0, 1, 2, 3, 4, 5] (by decide) rfl
  have hK := hK.sub (tys' := [(cA8, .int), (cA18, .object "Seattable$House"), (cA56, .int)]) [0, 1, 2] rfl
  refine lv_iinc (v := 1) (lv' := [(1, .int 1), (0, .ref a)]) hx hb dX11_init_142 hl (k := 0) rfl (by decide) (by decide) rfl (fun ls hl => ?_)
  refine lv_goto (tgt := 123) hx hb dX11_init_145 (by decide) ?_
  refine lv_iload_n hx hb dX11_init_123 rfl (lv_at hl 0 rfl) ?_
  refine lv_bipush (v := 12) hx hb dX11_init_124 (by decide) ?_
  refine lv_icmp_ge (tgt := 148) hx hb dX11_init_126 (by decide) (fun c9 => absurd c9 (by decide)) (fun _ => ?_)
  refine lv_aload_n hx hb dX11_init_129 rfl (lv_at hl 1 rfl) ?_
  refine va_get (D := (dC, dI)) (ci := 12) (v := .ref q17) (C := RX11) (T := TX11) (N := 14) hx hb hG iX11 hown hK hP 0 rfl rfl 1 (by decide) (hG _ m_138) (fun _ h9 => h9) hf_118 dX11_init_130 ?_
  refine lv_iload_n hx hb dX11_init_133 rfl (lv_at hl 0 rfl) ?_
  refine va_new (D := (dC, dI)) (ci := 2) (fs := (List.range 19).map (fun k => defaultValue (tyX5 k))) (C := RX5) (T := TX5) (N := 19) hx hb hG iX5 tyX5 tyX5_ok hown (hG _ m_131) (hG _ m_132) (hG _ m_133) hK hP hD hS hA rfl (fs_new 19 tyX5) (Nat.le_of_ble_eq_true rfl) (Nat.le_of_ble_eq_true rfl) dX11_init_134 (fun q134 H hP hD hS => ?_)
  have hP : va_P (dC, dI) classes [(a, .inr (12, fs115)), (q1, .inr (2, fs6)), (q7, .inl (cA8, 12, .inl f9)), (q17, .inl (cA18, 12, .inr (.inr (.inr (.inr f133))))), (q49, .inr (5, fs54)), (q55, .inl (cA56, 6, .inl f57)), (q134, .inr (2, ((List.range 19).map (fun k => defaultValue (tyX5 k)))))] H := hP
  have hD : va_D A [(a, .inr (12, fs115)), (q1, .inr (2, fs6)), (q7, .inl (cA8, 12, .inl f9)), (q17, .inl (cA18, 12, .inr (.inr (.inr (.inr f133))))), (q49, .inr (5, fs54)), (q55, .inl (cA56, 6, .inl f57)), (q134, .inr (2, ((List.range 19).map (fun k => defaultValue (tyX5 k)))))] := hD
  obtain ⟨fs135, efs135⟩ : ∃ y : List Value, y = (List.range 19).map (fun k => defaultValue (tyX5 k)) := ⟨_, rfl⟩
  rw [← efs135] at hP hD
  have hl_136 : fs135.length = 19 := by rw [efs135, List.length_map, List.length_range]
  have hf_137 : fs135[0]? = some (.null) := by rw [efs135]; rfl
  refine W.widen (k := 241) (n := 22188) (Nat.le_of_ble_eq_true rfl) (Nat.le_of_ble_eq_true rfl) ?_
  refine lv_dup hx hb dX11_init_137 rfl ?_
  have hPc := hP.sub (ws' := [(q134, .inr (2, fs135))]) [6] rfl
  have hDc := hD.sub (ws' := [(q134, .inr (2, fs135))]) [6] (by decide) rfl
  have hKc := hK.sub (tys' := []) [] rfl
  have hFc := va_free (wc := [(q134, .inr (2, fs135))]) hD hS hA [6] rfl
  refine va_callv (va_runI (As := []) (rest := [.ref q134, .int 1, .ref q17]) ⟨hx, hb, hml, hown, hG⟩ (c_House_init l dC dI z q134 fs135 H.size hl_136) (cwI 0 hG (gI m_134) rfl rfl rfl (hG _ m_133) (hG _ m_135) (hG _ m_136) rfl (by decide +kernel) ⟨Nat.le_of_ble_eq_true rfl, Nat.le_of_ble_eq_true rfl⟩) ⟨pre_blind, fun U hU hW => ⟨rfl, pre_call hU hW hPc hKc hDc hN (zkeep hZ hS) hFc⟩⟩ rfl rfl hl.1 rfl (lv_room (Nat.le_of_ble_eq_true rfl)) dX11_init_138 ⟨Nat.le_of_ble_eq_true rfl, Nat.le_of_ble_eq_true rfl⟩) hS (fun q _ h => hFc q h) hFc (fun u t H locs ht hvm hw hB hz1 hk1 hS => ?_)
  obtain ⟨fs139, q140, cA141, f142, hP1, hK1, hD1, hy143, hy144, hy145, hy146⟩ := hB
  rw [ht] at hP1
  have hK1 := va_K.moved hvm.symm hK1
  obtain ⟨hP, hD⟩ := va_join (wr := [(a, .inr (12, fs115)), (q1, .inr (2, fs6)), (q7, .inl (cA8, 12, .inl f9)), (q17, .inl (cA18, 12, .inr (.inr (.inr (.inr f133))))), (q49, .inr (5, fs54)), (q55, .inl (cA56, 6, .inl f57))]) (w1 := [(q134, .inr (2, fs139)), (q140, .inl (cA141, 12, .inl f142))]) hP hD [6] [0, 1, 2, 3, 4, 5] rfl rfl (by decide) (by decide) hk1 hFc hP1 hD1
  have hK := (hK.sub (tys' := [(cA8, .int), (cA18, .object "Seattable$House"), (cA56, .int)]) [0, 1, 2] rfl).app hK1
  have hP : va_P (dC, dI) classes [(a, .inr (12, fs115)), (q1, .inr (2, fs6)), (q7, .inl (cA8, 12, .inl f9)), (q17, .inl (cA18, 12, .inr (.inr (.inr (.inr f133))))), (q49, .inr (5, fs54)), (q55, .inl (cA56, 6, .inl f57)), (q134, .inr (2, fs139)), (q140, .inl (cA141, 12, .inl f142))] H := hP
  have hD : va_D A [(a, .inr (12, fs115)), (q1, .inr (2, fs6)), (q7, .inl (cA8, 12, .inl f9)), (q17, .inl (cA18, 12, .inr (.inr (.inr (.inr f133))))), (q49, .inr (5, fs54)), (q55, .inl (cA56, 6, .inl f57)), (q134, .inr (2, fs139)), (q140, .inl (cA141, 12, .inl f142))] := hD
  have hK : va_K (dC, dI) classes [(cA8, .int), (cA18, .object "Seattable$House"), (cA56, .int), (cA141, .int)] s := hK
  refine W.widen (k := 260) (n := 24932) (Nat.le_of_ble_eq_true rfl) (Nat.le_of_ble_eq_true rfl) ?_
  refine va_astq (D := (dC, dI)) (ci := 2) (r := (RX5, TX5, 19)) hx hb hK hP hD hS 3 1 6 rfl rfl rfl rfl (by unfold vp_in; decide) dX11_init_141 (fun H locs hP hD hS => ?_)
  have hP : va_P (dC, dI) classes [(a, .inr (12, fs115)), (q1, .inr (2, fs6)), (q7, .inl (cA8, 12, .inl f9)), (q17, .inl (cA18, 12, .inr (.inr (.inr (.inr (va_up f133 (1 : Int32).toNatClampNeg (some q134))))))), (q49, .inr (5, fs54)), (q55, .inl (cA56, 6, .inl f57)), (q134, .inr (2, fs139)), (q140, .inl (cA141, 12, .inl f142))] H := hP
  have hD : va_D A [(a, .inr (12, fs115)), (q1, .inr (2, fs6)), (q7, .inl (cA8, 12, .inl f9)), (q17, .inl (cA18, 12, .inr (.inr (.inr (.inr (va_up f133 (1 : Int32).toNatClampNeg (some q134))))))), (q49, .inr (5, fs54)), (q55, .inl (cA56, 6, .inl f57)), (q134, .inr (2, fs139)), (q140, .inl (cA141, 12, .inl f142))] := hD
  obtain ⟨f147, ef147⟩ : ∃ y : Nat → Option Nat, y = (va_up f133 (1 : Int32).toNatClampNeg (some q134)) := ⟨_, rfl⟩
  rw [← ef147] at hP hD
  have hP := hP.sub (ws' := [(a, .inr (12, fs115)), (q1, .inr (2, fs6)), (q7, .inl (cA8, 12, .inl f9)), (q17, .inl (cA18, 12, .inr (.inr (.inr (.inr f147))))), (q49, .inr (5, fs54)), (q55, .inl (cA56, 6, .inl f57))]) [0, 1, 2, 3, 4, 5] rfl
  have hD := hD.sub (ws' := [(a, .inr (12, fs115)), (q1, .inr (2, fs6)), (q7, .inl (cA8, 12, .inl f9)), (q17, .inl (cA18, 12, .inr (.inr (.inr (.inr f147))))), (q49, .inr (5, fs54)), (q55, .inl (cA56, 6, .inl f57))]) [0, 1, 2, 3, 4, 5] (by decide) rfl
  have hK := hK.sub (tys' := [(cA8, .int), (cA18, .object "Seattable$House"), (cA56, .int)]) [0, 1, 2] rfl
  refine lv_iinc (v := 2) (lv' := [(1, .int 2), (0, .ref a)]) hx hb dX11_init_142 hl (k := 0) rfl (by decide) (by decide) rfl (fun ls hl => ?_)
  refine lv_goto (tgt := 123) hx hb dX11_init_145 (by decide) ?_
  refine lv_iload_n hx hb dX11_init_123 rfl (lv_at hl 0 rfl) ?_
  refine lv_bipush (v := 12) hx hb dX11_init_124 (by decide) ?_
  refine lv_icmp_ge (tgt := 148) hx hb dX11_init_126 (by decide) (fun c9 => absurd c9 (by decide)) (fun _ => ?_)
  refine lv_aload_n hx hb dX11_init_129 rfl (lv_at hl 1 rfl) ?_
  refine va_get (D := (dC, dI)) (ci := 12) (v := .ref q17) (C := RX11) (T := TX11) (N := 14) hx hb hG iX11 hown hK hP 0 rfl rfl 1 (by decide) (hG _ m_138) (fun _ h9 => h9) hf_118 dX11_init_130 ?_
  refine lv_iload_n hx hb dX11_init_133 rfl (lv_at hl 0 rfl) ?_
  refine va_new (D := (dC, dI)) (ci := 2) (fs := (List.range 19).map (fun k => defaultValue (tyX5 k))) (C := RX5) (T := TX5) (N := 19) hx hb hG iX5 tyX5 tyX5_ok hown (hG _ m_131) (hG _ m_132) (hG _ m_133) hK hP hD hS hA rfl (fs_new 19 tyX5) (Nat.le_of_ble_eq_true rfl) (Nat.le_of_ble_eq_true rfl) dX11_init_134 (fun q148 H hP hD hS => ?_)
  have hP : va_P (dC, dI) classes [(a, .inr (12, fs115)), (q1, .inr (2, fs6)), (q7, .inl (cA8, 12, .inl f9)), (q17, .inl (cA18, 12, .inr (.inr (.inr (.inr f147))))), (q49, .inr (5, fs54)), (q55, .inl (cA56, 6, .inl f57)), (q148, .inr (2, ((List.range 19).map (fun k => defaultValue (tyX5 k)))))] H := hP
  have hD : va_D A [(a, .inr (12, fs115)), (q1, .inr (2, fs6)), (q7, .inl (cA8, 12, .inl f9)), (q17, .inl (cA18, 12, .inr (.inr (.inr (.inr f147))))), (q49, .inr (5, fs54)), (q55, .inl (cA56, 6, .inl f57)), (q148, .inr (2, ((List.range 19).map (fun k => defaultValue (tyX5 k)))))] := hD
  obtain ⟨fs149, efs149⟩ : ∃ y : List Value, y = (List.range 19).map (fun k => defaultValue (tyX5 k)) := ⟨_, rfl⟩
  rw [← efs149] at hP hD
  have hl_150 : fs149.length = 19 := by rw [efs149, List.length_map, List.length_range]
  have hf_151 : fs149[0]? = some (.null) := by rw [efs149]; rfl
  refine W.widen (k := 261) (n := 24951) (Nat.le_of_ble_eq_true rfl) (Nat.le_of_ble_eq_true rfl) ?_
  refine lv_dup hx hb dX11_init_137 rfl ?_
  have hPc := hP.sub (ws' := [(q148, .inr (2, fs149))]) [6] rfl
  have hDc := hD.sub (ws' := [(q148, .inr (2, fs149))]) [6] (by decide) rfl
  have hKc := hK.sub (tys' := []) [] rfl
  have hFc := va_free (wc := [(q148, .inr (2, fs149))]) hD hS hA [6] rfl
  refine va_callv (va_runI (As := []) (rest := [.ref q148, .int 2, .ref q17]) ⟨hx, hb, hml, hown, hG⟩ (c_House_init l dC dI z q148 fs149 H.size hl_150) (cwI 0 hG (gI m_134) rfl rfl rfl (hG _ m_133) (hG _ m_135) (hG _ m_136) rfl (by decide +kernel) ⟨Nat.le_of_ble_eq_true rfl, Nat.le_of_ble_eq_true rfl⟩) ⟨pre_blind, fun U hU hW => ⟨rfl, pre_call hU hW hPc hKc hDc hN (zkeep hZ hS) hFc⟩⟩ rfl rfl hl.1 rfl (lv_room (Nat.le_of_ble_eq_true rfl)) dX11_init_138 ⟨Nat.le_of_ble_eq_true rfl, Nat.le_of_ble_eq_true rfl⟩) hS (fun q _ h => hFc q h) hFc (fun u t H locs ht hvm hw hB hz1 hk1 hS => ?_)
  obtain ⟨fs153, q154, cA155, f156, hP1, hK1, hD1, hy157, hy158, hy159, hy160⟩ := hB
  rw [ht] at hP1
  have hK1 := va_K.moved hvm.symm hK1
  obtain ⟨hP, hD⟩ := va_join (wr := [(a, .inr (12, fs115)), (q1, .inr (2, fs6)), (q7, .inl (cA8, 12, .inl f9)), (q17, .inl (cA18, 12, .inr (.inr (.inr (.inr f147))))), (q49, .inr (5, fs54)), (q55, .inl (cA56, 6, .inl f57))]) (w1 := [(q148, .inr (2, fs153)), (q154, .inl (cA155, 12, .inl f156))]) hP hD [6] [0, 1, 2, 3, 4, 5] rfl rfl (by decide) (by decide) hk1 hFc hP1 hD1
  have hK := (hK.sub (tys' := [(cA8, .int), (cA18, .object "Seattable$House"), (cA56, .int)]) [0, 1, 2] rfl).app hK1
  have hP : va_P (dC, dI) classes [(a, .inr (12, fs115)), (q1, .inr (2, fs6)), (q7, .inl (cA8, 12, .inl f9)), (q17, .inl (cA18, 12, .inr (.inr (.inr (.inr f147))))), (q49, .inr (5, fs54)), (q55, .inl (cA56, 6, .inl f57)), (q148, .inr (2, fs153)), (q154, .inl (cA155, 12, .inl f156))] H := hP
  have hD : va_D A [(a, .inr (12, fs115)), (q1, .inr (2, fs6)), (q7, .inl (cA8, 12, .inl f9)), (q17, .inl (cA18, 12, .inr (.inr (.inr (.inr f147))))), (q49, .inr (5, fs54)), (q55, .inl (cA56, 6, .inl f57)), (q148, .inr (2, fs153)), (q154, .inl (cA155, 12, .inl f156))] := hD
  have hK : va_K (dC, dI) classes [(cA8, .int), (cA18, .object "Seattable$House"), (cA56, .int), (cA155, .int)] s := hK
  refine W.widen (k := 280) (n := 27695) (Nat.le_of_ble_eq_true rfl) (Nat.le_of_ble_eq_true rfl) ?_
  refine va_astq (D := (dC, dI)) (ci := 2) (r := (RX5, TX5, 19)) hx hb hK hP hD hS 3 1 6 rfl rfl rfl rfl (by unfold vp_in; decide) dX11_init_141 (fun H locs hP hD hS => ?_)
  have hP : va_P (dC, dI) classes [(a, .inr (12, fs115)), (q1, .inr (2, fs6)), (q7, .inl (cA8, 12, .inl f9)), (q17, .inl (cA18, 12, .inr (.inr (.inr (.inr (va_up f147 (2 : Int32).toNatClampNeg (some q148))))))), (q49, .inr (5, fs54)), (q55, .inl (cA56, 6, .inl f57)), (q148, .inr (2, fs153)), (q154, .inl (cA155, 12, .inl f156))] H := hP
  have hD : va_D A [(a, .inr (12, fs115)), (q1, .inr (2, fs6)), (q7, .inl (cA8, 12, .inl f9)), (q17, .inl (cA18, 12, .inr (.inr (.inr (.inr (va_up f147 (2 : Int32).toNatClampNeg (some q148))))))), (q49, .inr (5, fs54)), (q55, .inl (cA56, 6, .inl f57)), (q148, .inr (2, fs153)), (q154, .inl (cA155, 12, .inl f156))] := hD
  obtain ⟨f161, ef161⟩ : ∃ y : Nat → Option Nat, y = (va_up f147 (2 : Int32).toNatClampNeg (some q148)) := ⟨_, rfl⟩
  rw [← ef161] at hP hD
  have hP := hP.sub (ws' := [(a, .inr (12, fs115)), (q1, .inr (2, fs6)), (q7, .inl (cA8, 12, .inl f9)), (q17, .inl (cA18, 12, .inr (.inr (.inr (.inr f161))))), (q49, .inr (5, fs54)), (q55, .inl (cA56, 6, .inl f57))]) [0, 1, 2, 3, 4, 5] rfl
  have hD := hD.sub (ws' := [(a, .inr (12, fs115)), (q1, .inr (2, fs6)), (q7, .inl (cA8, 12, .inl f9)), (q17, .inl (cA18, 12, .inr (.inr (.inr (.inr f161))))), (q49, .inr (5, fs54)), (q55, .inl (cA56, 6, .inl f57))]) [0, 1, 2, 3, 4, 5] (by decide) rfl
  have hK := hK.sub (tys' := [(cA8, .int), (cA18, .object "Seattable$House"), (cA56, .int)]) [0, 1, 2] rfl
  refine lv_iinc (v := 3) (lv' := [(1, .int 3), (0, .ref a)]) hx hb dX11_init_142 hl (k := 0) rfl (by decide) (by decide) rfl (fun ls hl => ?_)
  refine lv_goto (tgt := 123) hx hb dX11_init_145 (by decide) ?_
  refine lv_iload_n hx hb dX11_init_123 rfl (lv_at hl 0 rfl) ?_
  refine lv_bipush (v := 12) hx hb dX11_init_124 (by decide) ?_
  refine lv_icmp_ge (tgt := 148) hx hb dX11_init_126 (by decide) (fun c9 => absurd c9 (by decide)) (fun _ => ?_)
  refine lv_aload_n hx hb dX11_init_129 rfl (lv_at hl 1 rfl) ?_
  refine va_get (D := (dC, dI)) (ci := 12) (v := .ref q17) (C := RX11) (T := TX11) (N := 14) hx hb hG iX11 hown hK hP 0 rfl rfl 1 (by decide) (hG _ m_138) (fun _ h9 => h9) hf_118 dX11_init_130 ?_
  refine lv_iload_n hx hb dX11_init_133 rfl (lv_at hl 0 rfl) ?_
  refine va_new (D := (dC, dI)) (ci := 2) (fs := (List.range 19).map (fun k => defaultValue (tyX5 k))) (C := RX5) (T := TX5) (N := 19) hx hb hG iX5 tyX5 tyX5_ok hown (hG _ m_131) (hG _ m_132) (hG _ m_133) hK hP hD hS hA rfl (fs_new 19 tyX5) (Nat.le_of_ble_eq_true rfl) (Nat.le_of_ble_eq_true rfl) dX11_init_134 (fun q162 H hP hD hS => ?_)
  have hP : va_P (dC, dI) classes [(a, .inr (12, fs115)), (q1, .inr (2, fs6)), (q7, .inl (cA8, 12, .inl f9)), (q17, .inl (cA18, 12, .inr (.inr (.inr (.inr f161))))), (q49, .inr (5, fs54)), (q55, .inl (cA56, 6, .inl f57)), (q162, .inr (2, ((List.range 19).map (fun k => defaultValue (tyX5 k)))))] H := hP
  have hD : va_D A [(a, .inr (12, fs115)), (q1, .inr (2, fs6)), (q7, .inl (cA8, 12, .inl f9)), (q17, .inl (cA18, 12, .inr (.inr (.inr (.inr f161))))), (q49, .inr (5, fs54)), (q55, .inl (cA56, 6, .inl f57)), (q162, .inr (2, ((List.range 19).map (fun k => defaultValue (tyX5 k)))))] := hD
  obtain ⟨fs163, efs163⟩ : ∃ y : List Value, y = (List.range 19).map (fun k => defaultValue (tyX5 k)) := ⟨_, rfl⟩
  rw [← efs163] at hP hD
  have hl_164 : fs163.length = 19 := by rw [efs163, List.length_map, List.length_range]
  have hf_165 : fs163[0]? = some (.null) := by rw [efs163]; rfl
  refine W.widen (k := 281) (n := 27714) (Nat.le_of_ble_eq_true rfl) (Nat.le_of_ble_eq_true rfl) ?_
  refine lv_dup hx hb dX11_init_137 rfl ?_
  have hPc := hP.sub (ws' := [(q162, .inr (2, fs163))]) [6] rfl
  have hDc := hD.sub (ws' := [(q162, .inr (2, fs163))]) [6] (by decide) rfl
  have hKc := hK.sub (tys' := []) [] rfl
  have hFc := va_free (wc := [(q162, .inr (2, fs163))]) hD hS hA [6] rfl
  refine va_callv (va_runI (As := []) (rest := [.ref q162, .int 3, .ref q17]) ⟨hx, hb, hml, hown, hG⟩ (c_House_init l dC dI z q162 fs163 H.size hl_164) (cwI 0 hG (gI m_134) rfl rfl rfl (hG _ m_133) (hG _ m_135) (hG _ m_136) rfl (by decide +kernel) ⟨Nat.le_of_ble_eq_true rfl, Nat.le_of_ble_eq_true rfl⟩) ⟨pre_blind, fun U hU hW => ⟨rfl, pre_call hU hW hPc hKc hDc hN (zkeep hZ hS) hFc⟩⟩ rfl rfl hl.1 rfl (lv_room (Nat.le_of_ble_eq_true rfl)) dX11_init_138 ⟨Nat.le_of_ble_eq_true rfl, Nat.le_of_ble_eq_true rfl⟩) hS (fun q _ h => hFc q h) hFc (fun u t H locs ht hvm hw hB hz1 hk1 hS => ?_)
  obtain ⟨fs167, q168, cA169, f170, hP1, hK1, hD1, hy171, hy172, hy173, hy174⟩ := hB
  rw [ht] at hP1
  have hK1 := va_K.moved hvm.symm hK1
  obtain ⟨hP, hD⟩ := va_join (wr := [(a, .inr (12, fs115)), (q1, .inr (2, fs6)), (q7, .inl (cA8, 12, .inl f9)), (q17, .inl (cA18, 12, .inr (.inr (.inr (.inr f161))))), (q49, .inr (5, fs54)), (q55, .inl (cA56, 6, .inl f57))]) (w1 := [(q162, .inr (2, fs167)), (q168, .inl (cA169, 12, .inl f170))]) hP hD [6] [0, 1, 2, 3, 4, 5] rfl rfl (by decide) (by decide) hk1 hFc hP1 hD1
  have hK := (hK.sub (tys' := [(cA8, .int), (cA18, .object "Seattable$House"), (cA56, .int)]) [0, 1, 2] rfl).app hK1
  have hP : va_P (dC, dI) classes [(a, .inr (12, fs115)), (q1, .inr (2, fs6)), (q7, .inl (cA8, 12, .inl f9)), (q17, .inl (cA18, 12, .inr (.inr (.inr (.inr f161))))), (q49, .inr (5, fs54)), (q55, .inl (cA56, 6, .inl f57)), (q162, .inr (2, fs167)), (q168, .inl (cA169, 12, .inl f170))] H := hP
  have hD : va_D A [(a, .inr (12, fs115)), (q1, .inr (2, fs6)), (q7, .inl (cA8, 12, .inl f9)), (q17, .inl (cA18, 12, .inr (.inr (.inr (.inr f161))))), (q49, .inr (5, fs54)), (q55, .inl (cA56, 6, .inl f57)), (q162, .inr (2, fs167)), (q168, .inl (cA169, 12, .inl f170))] := hD
  have hK : va_K (dC, dI) classes [(cA8, .int), (cA18, .object "Seattable$House"), (cA56, .int), (cA169, .int)] s := hK
  refine W.widen (k := 300) (n := 30458) (Nat.le_of_ble_eq_true rfl) (Nat.le_of_ble_eq_true rfl) ?_
  refine va_astq (D := (dC, dI)) (ci := 2) (r := (RX5, TX5, 19)) hx hb hK hP hD hS 3 1 6 rfl rfl rfl rfl (by unfold vp_in; decide) dX11_init_141 (fun H locs hP hD hS => ?_)
  have hP : va_P (dC, dI) classes [(a, .inr (12, fs115)), (q1, .inr (2, fs6)), (q7, .inl (cA8, 12, .inl f9)), (q17, .inl (cA18, 12, .inr (.inr (.inr (.inr (va_up f161 (3 : Int32).toNatClampNeg (some q162))))))), (q49, .inr (5, fs54)), (q55, .inl (cA56, 6, .inl f57)), (q162, .inr (2, fs167)), (q168, .inl (cA169, 12, .inl f170))] H := hP
  have hD : va_D A [(a, .inr (12, fs115)), (q1, .inr (2, fs6)), (q7, .inl (cA8, 12, .inl f9)), (q17, .inl (cA18, 12, .inr (.inr (.inr (.inr (va_up f161 (3 : Int32).toNatClampNeg (some q162))))))), (q49, .inr (5, fs54)), (q55, .inl (cA56, 6, .inl f57)), (q162, .inr (2, fs167)), (q168, .inl (cA169, 12, .inl f170))] := hD
  obtain ⟨f175, ef175⟩ : ∃ y : Nat → Option Nat, y = (va_up f161 (3 : Int32).toNatClampNeg (some q162)) := ⟨_, rfl⟩
  rw [← ef175] at hP hD
  have hP := hP.sub (ws' := [(a, .inr (12, fs115)), (q1, .inr (2, fs6)), (q7, .inl (cA8, 12, .inl f9)), (q17, .inl (cA18, 12, .inr (.inr (.inr (.inr f175))))), (q49, .inr (5, fs54)), (q55, .inl (cA56, 6, .inl f57))]) [0, 1, 2, 3, 4, 5] rfl
  have hD := hD.sub (ws' := [(a, .inr (12, fs115)), (q1, .inr (2, fs6)), (q7, .inl (cA8, 12, .inl f9)), (q17, .inl (cA18, 12, .inr (.inr (.inr (.inr f175))))), (q49, .inr (5, fs54)), (q55, .inl (cA56, 6, .inl f57))]) [0, 1, 2, 3, 4, 5] (by decide) rfl
  have hK := hK.sub (tys' := [(cA8, .int), (cA18, .object "Seattable$House"), (cA56, .int)]) [0, 1, 2] rfl
  refine lv_iinc (v := 4) (lv' := [(1, .int 4), (0, .ref a)]) hx hb dX11_init_142 hl (k := 0) rfl (by decide) (by decide) rfl (fun ls hl => ?_)
  refine lv_goto (tgt := 123) hx hb dX11_init_145 (by decide) ?_
  refine lv_iload_n hx hb dX11_init_123 rfl (lv_at hl 0 rfl) ?_
  refine lv_bipush (v := 12) hx hb dX11_init_124 (by decide) ?_
  refine lv_icmp_ge (tgt := 148) hx hb dX11_init_126 (by decide) (fun c9 => absurd c9 (by decide)) (fun _ => ?_)
  refine lv_aload_n hx hb dX11_init_129 rfl (lv_at hl 1 rfl) ?_
  refine va_get (D := (dC, dI)) (ci := 12) (v := .ref q17) (C := RX11) (T := TX11) (N := 14) hx hb hG iX11 hown hK hP 0 rfl rfl 1 (by decide) (hG _ m_138) (fun _ h9 => h9) hf_118 dX11_init_130 ?_
  refine lv_iload_n hx hb dX11_init_133 rfl (lv_at hl 0 rfl) ?_
  refine va_new (D := (dC, dI)) (ci := 2) (fs := (List.range 19).map (fun k => defaultValue (tyX5 k))) (C := RX5) (T := TX5) (N := 19) hx hb hG iX5 tyX5 tyX5_ok hown (hG _ m_131) (hG _ m_132) (hG _ m_133) hK hP hD hS hA rfl (fs_new 19 tyX5) (Nat.le_of_ble_eq_true rfl) (Nat.le_of_ble_eq_true rfl) dX11_init_134 (fun q176 H hP hD hS => ?_)
  have hP : va_P (dC, dI) classes [(a, .inr (12, fs115)), (q1, .inr (2, fs6)), (q7, .inl (cA8, 12, .inl f9)), (q17, .inl (cA18, 12, .inr (.inr (.inr (.inr f175))))), (q49, .inr (5, fs54)), (q55, .inl (cA56, 6, .inl f57)), (q176, .inr (2, ((List.range 19).map (fun k => defaultValue (tyX5 k)))))] H := hP
  have hD : va_D A [(a, .inr (12, fs115)), (q1, .inr (2, fs6)), (q7, .inl (cA8, 12, .inl f9)), (q17, .inl (cA18, 12, .inr (.inr (.inr (.inr f175))))), (q49, .inr (5, fs54)), (q55, .inl (cA56, 6, .inl f57)), (q176, .inr (2, ((List.range 19).map (fun k => defaultValue (tyX5 k)))))] := hD
  obtain ⟨fs177, efs177⟩ : ∃ y : List Value, y = (List.range 19).map (fun k => defaultValue (tyX5 k)) := ⟨_, rfl⟩
  rw [← efs177] at hP hD
  have hl_178 : fs177.length = 19 := by rw [efs177, List.length_map, List.length_range]
  have hf_179 : fs177[0]? = some (.null) := by rw [efs177]; rfl
  refine W.widen (k := 301) (n := 30477) (Nat.le_of_ble_eq_true rfl) (Nat.le_of_ble_eq_true rfl) ?_
  refine lv_dup hx hb dX11_init_137 rfl ?_
  have hPc := hP.sub (ws' := [(q176, .inr (2, fs177))]) [6] rfl
  have hDc := hD.sub (ws' := [(q176, .inr (2, fs177))]) [6] (by decide) rfl
  have hKc := hK.sub (tys' := []) [] rfl
  have hFc := va_free (wc := [(q176, .inr (2, fs177))]) hD hS hA [6] rfl
  refine va_callv (va_runI (As := []) (rest := [.ref q176, .int 4, .ref q17]) ⟨hx, hb, hml, hown, hG⟩ (c_House_init l dC dI z q176 fs177 H.size hl_178) (cwI 0 hG (gI m_134) rfl rfl rfl (hG _ m_133) (hG _ m_135) (hG _ m_136) rfl (by decide +kernel) ⟨Nat.le_of_ble_eq_true rfl, Nat.le_of_ble_eq_true rfl⟩) ⟨pre_blind, fun U hU hW => ⟨rfl, pre_call hU hW hPc hKc hDc hN (zkeep hZ hS) hFc⟩⟩ rfl rfl hl.1 rfl (lv_room (Nat.le_of_ble_eq_true rfl)) dX11_init_138 ⟨Nat.le_of_ble_eq_true rfl, Nat.le_of_ble_eq_true rfl⟩) hS (fun q _ h => hFc q h) hFc (fun u t H locs ht hvm hw hB hz1 hk1 hS => ?_)
  obtain ⟨fs181, q182, cA183, f184, hP1, hK1, hD1, hy185, hy186, hy187, hy188⟩ := hB
  rw [ht] at hP1
  have hK1 := va_K.moved hvm.symm hK1
  obtain ⟨hP, hD⟩ := va_join (wr := [(a, .inr (12, fs115)), (q1, .inr (2, fs6)), (q7, .inl (cA8, 12, .inl f9)), (q17, .inl (cA18, 12, .inr (.inr (.inr (.inr f175))))), (q49, .inr (5, fs54)), (q55, .inl (cA56, 6, .inl f57))]) (w1 := [(q176, .inr (2, fs181)), (q182, .inl (cA183, 12, .inl f184))]) hP hD [6] [0, 1, 2, 3, 4, 5] rfl rfl (by decide) (by decide) hk1 hFc hP1 hD1
  have hK := (hK.sub (tys' := [(cA8, .int), (cA18, .object "Seattable$House"), (cA56, .int)]) [0, 1, 2] rfl).app hK1
  have hP : va_P (dC, dI) classes [(a, .inr (12, fs115)), (q1, .inr (2, fs6)), (q7, .inl (cA8, 12, .inl f9)), (q17, .inl (cA18, 12, .inr (.inr (.inr (.inr f175))))), (q49, .inr (5, fs54)), (q55, .inl (cA56, 6, .inl f57)), (q176, .inr (2, fs181)), (q182, .inl (cA183, 12, .inl f184))] H := hP
  have hD : va_D A [(a, .inr (12, fs115)), (q1, .inr (2, fs6)), (q7, .inl (cA8, 12, .inl f9)), (q17, .inl (cA18, 12, .inr (.inr (.inr (.inr f175))))), (q49, .inr (5, fs54)), (q55, .inl (cA56, 6, .inl f57)), (q176, .inr (2, fs181)), (q182, .inl (cA183, 12, .inl f184))] := hD
  have hK : va_K (dC, dI) classes [(cA8, .int), (cA18, .object "Seattable$House"), (cA56, .int), (cA183, .int)] s := hK
  refine W.widen (k := 320) (n := 33221) (Nat.le_of_ble_eq_true rfl) (Nat.le_of_ble_eq_true rfl) ?_
  refine va_astq (D := (dC, dI)) (ci := 2) (r := (RX5, TX5, 19)) hx hb hK hP hD hS 3 1 6 rfl rfl rfl rfl (by unfold vp_in; decide) dX11_init_141 (fun H locs hP hD hS => ?_)
  have hP : va_P (dC, dI) classes [(a, .inr (12, fs115)), (q1, .inr (2, fs6)), (q7, .inl (cA8, 12, .inl f9)), (q17, .inl (cA18, 12, .inr (.inr (.inr (.inr (va_up f175 (4 : Int32).toNatClampNeg (some q176))))))), (q49, .inr (5, fs54)), (q55, .inl (cA56, 6, .inl f57)), (q176, .inr (2, fs181)), (q182, .inl (cA183, 12, .inl f184))] H := hP
  have hD : va_D A [(a, .inr (12, fs115)), (q1, .inr (2, fs6)), (q7, .inl (cA8, 12, .inl f9)), (q17, .inl (cA18, 12, .inr (.inr (.inr (.inr (va_up f175 (4 : Int32).toNatClampNeg (some q176))))))), (q49, .inr (5, fs54)), (q55, .inl (cA56, 6, .inl f57)), (q176, .inr (2, fs181)), (q182, .inl (cA183, 12, .inl f184))] := hD
  obtain ⟨f189, ef189⟩ : ∃ y : Nat → Option Nat, y = (va_up f175 (4 : Int32).toNatClampNeg (some q176)) := ⟨_, rfl⟩
  rw [← ef189] at hP hD
  have hP := hP.sub (ws' := [(a, .inr (12, fs115)), (q1, .inr (2, fs6)), (q7, .inl (cA8, 12, .inl f9)), (q17, .inl (cA18, 12, .inr (.inr (.inr (.inr f189))))), (q49, .inr (5, fs54)), (q55, .inl (cA56, 6, .inl f57))]) [0, 1, 2, 3, 4, 5] rfl
  have hD := hD.sub (ws' := [(a, .inr (12, fs115)), (q1, .inr (2, fs6)), (q7, .inl (cA8, 12, .inl f9)), (q17, .inl (cA18, 12, .inr (.inr (.inr (.inr f189))))), (q49, .inr (5, fs54)), (q55, .inl (cA56, 6, .inl f57))]) [0, 1, 2, 3, 4, 5] (by decide) rfl
  have hK := hK.sub (tys' := [(cA8, .int), (cA18, .object "Seattable$House"), (cA56, .int)]) [0, 1, 2] rfl
  refine lv_iinc (v := 5) (lv' := [(1, .int 5), (0, .ref a)]) hx hb dX11_init_142 hl (k := 0) rfl (by decide) (by decide) rfl (fun ls hl => ?_)
  refine lv_goto (tgt := 123) hx hb dX11_init_145 (by decide) ?_
  refine lv_iload_n hx hb dX11_init_123 rfl (lv_at hl 0 rfl) ?_
  refine lv_bipush (v := 12) hx hb dX11_init_124 (by decide) ?_
  refine lv_icmp_ge (tgt := 148) hx hb dX11_init_126 (by decide) (fun c9 => absurd c9 (by decide)) (fun _ => ?_)
  refine lv_aload_n hx hb dX11_init_129 rfl (lv_at hl 1 rfl) ?_
  refine va_get (D := (dC, dI)) (ci := 12) (v := .ref q17) (C := RX11) (T := TX11) (N := 14) hx hb hG iX11 hown hK hP 0 rfl rfl 1 (by decide) (hG _ m_138) (fun _ h9 => h9) hf_118 dX11_init_130 ?_
  refine lv_iload_n hx hb dX11_init_133 rfl (lv_at hl 0 rfl) ?_
  refine va_new (D := (dC, dI)) (ci := 2) (fs := (List.range 19).map (fun k => defaultValue (tyX5 k))) (C := RX5) (T := TX5) (N := 19) hx hb hG iX5 tyX5 tyX5_ok hown (hG _ m_131) (hG _ m_132) (hG _ m_133) hK hP hD hS hA rfl (fs_new 19 tyX5) (Nat.le_of_ble_eq_true rfl) (Nat.le_of_ble_eq_true rfl) dX11_init_134 (fun q190 H hP hD hS => ?_)
  have hP : va_P (dC, dI) classes [(a, .inr (12, fs115)), (q1, .inr (2, fs6)), (q7, .inl (cA8, 12, .inl f9)), (q17, .inl (cA18, 12, .inr (.inr (.inr (.inr f189))))), (q49, .inr (5, fs54)), (q55, .inl (cA56, 6, .inl f57)), (q190, .inr (2, ((List.range 19).map (fun k => defaultValue (tyX5 k)))))] H := hP
  have hD : va_D A [(a, .inr (12, fs115)), (q1, .inr (2, fs6)), (q7, .inl (cA8, 12, .inl f9)), (q17, .inl (cA18, 12, .inr (.inr (.inr (.inr f189))))), (q49, .inr (5, fs54)), (q55, .inl (cA56, 6, .inl f57)), (q190, .inr (2, ((List.range 19).map (fun k => defaultValue (tyX5 k)))))] := hD
  obtain ⟨fs191, efs191⟩ : ∃ y : List Value, y = (List.range 19).map (fun k => defaultValue (tyX5 k)) := ⟨_, rfl⟩
  rw [← efs191] at hP hD
  have hl_192 : fs191.length = 19 := by rw [efs191, List.length_map, List.length_range]
  have hf_193 : fs191[0]? = some (.null) := by rw [efs191]; rfl
  refine W.widen (k := 321) (n := 33240) (Nat.le_of_ble_eq_true rfl) (Nat.le_of_ble_eq_true rfl) ?_
  refine lv_dup hx hb dX11_init_137 rfl ?_
  have hPc := hP.sub (ws' := [(q190, .inr (2, fs191))]) [6] rfl
  have hDc := hD.sub (ws' := [(q190, .inr (2, fs191))]) [6] (by decide) rfl
  have hKc := hK.sub (tys' := []) [] rfl
  have hFc := va_free (wc := [(q190, .inr (2, fs191))]) hD hS hA [6] rfl
  refine va_callv (va_runI (As := []) (rest := [.ref q190, .int 5, .ref q17]) ⟨hx, hb, hml, hown, hG⟩ (c_House_init l dC dI z q190 fs191 H.size hl_192) (cwI 0 hG (gI m_134) rfl rfl rfl (hG _ m_133) (hG _ m_135) (hG _ m_136) rfl (by decide +kernel) ⟨Nat.le_of_ble_eq_true rfl, Nat.le_of_ble_eq_true rfl⟩) ⟨pre_blind, fun U hU hW => ⟨rfl, pre_call hU hW hPc hKc hDc hN (zkeep hZ hS) hFc⟩⟩ rfl rfl hl.1 rfl (lv_room (Nat.le_of_ble_eq_true rfl)) dX11_init_138 ⟨Nat.le_of_ble_eq_true rfl, Nat.le_of_ble_eq_true rfl⟩) hS (fun q _ h => hFc q h) hFc (fun u t H locs ht hvm hw hB hz1 hk1 hS => ?_)
  obtain ⟨fs195, q196, cA197, f198, hP1, hK1, hD1, hy199, hy200, hy201, hy202⟩ := hB
  rw [ht] at hP1
  have hK1 := va_K.moved hvm.symm hK1
  obtain ⟨hP, hD⟩ := va_join (wr := [(a, .inr (12, fs115)), (q1, .inr (2, fs6)), (q7, .inl (cA8, 12, .inl f9)), (q17, .inl (cA18, 12, .inr (.inr (.inr (.inr f189))))), (q49, .inr (5, fs54)), (q55, .inl (cA56, 6, .inl f57))]) (w1 := [(q190, .inr (2, fs195)), (q196, .inl (cA197, 12, .inl f198))]) hP hD [6] [0, 1, 2, 3, 4, 5] rfl rfl (by decide) (by decide) hk1 hFc hP1 hD1
  have hK := (hK.sub (tys' := [(cA8, .int), (cA18, .object "Seattable$House"), (cA56, .int)]) [0, 1, 2] rfl).app hK1
  have hP : va_P (dC, dI) classes [(a, .inr (12, fs115)), (q1, .inr (2, fs6)), (q7, .inl (cA8, 12, .inl f9)), (q17, .inl (cA18, 12, .inr (.inr (.inr (.inr f189))))), (q49, .inr (5, fs54)), (q55, .inl (cA56, 6, .inl f57)), (q190, .inr (2, fs195)), (q196, .inl (cA197, 12, .inl f198))] H := hP
  have hD : va_D A [(a, .inr (12, fs115)), (q1, .inr (2, fs6)), (q7, .inl (cA8, 12, .inl f9)), (q17, .inl (cA18, 12, .inr (.inr (.inr (.inr f189))))), (q49, .inr (5, fs54)), (q55, .inl (cA56, 6, .inl f57)), (q190, .inr (2, fs195)), (q196, .inl (cA197, 12, .inl f198))] := hD
  have hK : va_K (dC, dI) classes [(cA8, .int), (cA18, .object "Seattable$House"), (cA56, .int), (cA197, .int)] s := hK
  refine W.widen (k := 340) (n := 35984) (Nat.le_of_ble_eq_true rfl) (Nat.le_of_ble_eq_true rfl) ?_
  refine va_astq (D := (dC, dI)) (ci := 2) (r := (RX5, TX5, 19)) hx hb hK hP hD hS 3 1 6 rfl rfl rfl rfl (by unfold vp_in; decide) dX11_init_141 (fun H locs hP hD hS => ?_)
  have hP : va_P (dC, dI) classes [(a, .inr (12, fs115)), (q1, .inr (2, fs6)), (q7, .inl (cA8, 12, .inl f9)), (q17, .inl (cA18, 12, .inr (.inr (.inr (.inr (va_up f189 (5 : Int32).toNatClampNeg (some q190))))))), (q49, .inr (5, fs54)), (q55, .inl (cA56, 6, .inl f57)), (q190, .inr (2, fs195)), (q196, .inl (cA197, 12, .inl f198))] H := hP
  have hD : va_D A [(a, .inr (12, fs115)), (q1, .inr (2, fs6)), (q7, .inl (cA8, 12, .inl f9)), (q17, .inl (cA18, 12, .inr (.inr (.inr (.inr (va_up f189 (5 : Int32).toNatClampNeg (some q190))))))), (q49, .inr (5, fs54)), (q55, .inl (cA56, 6, .inl f57)), (q190, .inr (2, fs195)), (q196, .inl (cA197, 12, .inl f198))] := hD
  obtain ⟨f203, ef203⟩ : ∃ y : Nat → Option Nat, y = (va_up f189 (5 : Int32).toNatClampNeg (some q190)) := ⟨_, rfl⟩
  rw [← ef203] at hP hD
  have hP := hP.sub (ws' := [(a, .inr (12, fs115)), (q1, .inr (2, fs6)), (q7, .inl (cA8, 12, .inl f9)), (q17, .inl (cA18, 12, .inr (.inr (.inr (.inr f203))))), (q49, .inr (5, fs54)), (q55, .inl (cA56, 6, .inl f57))]) [0, 1, 2, 3, 4, 5] rfl
  have hD := hD.sub (ws' := [(a, .inr (12, fs115)), (q1, .inr (2, fs6)), (q7, .inl (cA8, 12, .inl f9)), (q17, .inl (cA18, 12, .inr (.inr (.inr (.inr f203))))), (q49, .inr (5, fs54)), (q55, .inl (cA56, 6, .inl f57))]) [0, 1, 2, 3, 4, 5] (by decide) rfl
  have hK := hK.sub (tys' := [(cA8, .int), (cA18, .object "Seattable$House"), (cA56, .int)]) [0, 1, 2] rfl
  refine lv_iinc (v := 6) (lv' := [(1, .int 6), (0, .ref a)]) hx hb dX11_init_142 hl (k := 0) rfl (by decide) (by decide) rfl (fun ls hl => ?_)
  refine lv_goto (tgt := 123) hx hb dX11_init_145 (by decide) ?_
  refine lv_iload_n hx hb dX11_init_123 rfl (lv_at hl 0 rfl) ?_
  refine lv_bipush (v := 12) hx hb dX11_init_124 (by decide) ?_
  refine lv_icmp_ge (tgt := 148) hx hb dX11_init_126 (by decide) (fun c9 => absurd c9 (by decide)) (fun _ => ?_)
  refine lv_aload_n hx hb dX11_init_129 rfl (lv_at hl 1 rfl) ?_
  refine va_get (D := (dC, dI)) (ci := 12) (v := .ref q17) (C := RX11) (T := TX11) (N := 14) hx hb hG iX11 hown hK hP 0 rfl rfl 1 (by decide) (hG _ m_138) (fun _ h9 => h9) hf_118 dX11_init_130 ?_
  refine lv_iload_n hx hb dX11_init_133 rfl (lv_at hl 0 rfl) ?_
  refine va_new (D := (dC, dI)) (ci := 2) (fs := (List.range 19).map (fun k => defaultValue (tyX5 k))) (C := RX5) (T := TX5) (N := 19) hx hb hG iX5 tyX5 tyX5_ok hown (hG _ m_131) (hG _ m_132) (hG _ m_133) hK hP hD hS hA rfl (fs_new 19 tyX5) (Nat.le_of_ble_eq_true rfl) (Nat.le_of_ble_eq_true rfl) dX11_init_134 (fun q204 H hP hD hS => ?_)
  have hP : va_P (dC, dI) classes [(a, .inr (12, fs115)), (q1, .inr (2, fs6)), (q7, .inl (cA8, 12, .inl f9)), (q17, .inl (cA18, 12, .inr (.inr (.inr (.inr f203))))), (q49, .inr (5, fs54)), (q55, .inl (cA56, 6, .inl f57)), (q204, .inr (2, ((List.range 19).map (fun k => defaultValue (tyX5 k)))))] H := hP
  have hD : va_D A [(a, .inr (12, fs115)), (q1, .inr (2, fs6)), (q7, .inl (cA8, 12, .inl f9)), (q17, .inl (cA18, 12, .inr (.inr (.inr (.inr f203))))), (q49, .inr (5, fs54)), (q55, .inl (cA56, 6, .inl f57)), (q204, .inr (2, ((List.range 19).map (fun k => defaultValue (tyX5 k)))))] := hD
  obtain ⟨fs205, efs205⟩ : ∃ y : List Value, y = (List.range 19).map (fun k => defaultValue (tyX5 k)) := ⟨_, rfl⟩
  rw [← efs205] at hP hD
  have hl_206 : fs205.length = 19 := by rw [efs205, List.length_map, List.length_range]
  have hf_207 : fs205[0]? = some (.null) := by rw [efs205]; rfl
  refine W.widen (k := 341) (n := 36003) (Nat.le_of_ble_eq_true rfl) (Nat.le_of_ble_eq_true rfl) ?_
  refine lv_dup hx hb dX11_init_137 rfl ?_
  have hPc := hP.sub (ws' := [(q204, .inr (2, fs205))]) [6] rfl
  have hDc := hD.sub (ws' := [(q204, .inr (2, fs205))]) [6] (by decide) rfl
  have hKc := hK.sub (tys' := []) [] rfl
  have hFc := va_free (wc := [(q204, .inr (2, fs205))]) hD hS hA [6] rfl
  refine va_callv (va_runI (As := []) (rest := [.ref q204, .int 6, .ref q17]) ⟨hx, hb, hml, hown, hG⟩ (c_House_init l dC dI z q204 fs205 H.size hl_206) (cwI 0 hG (gI m_134) rfl rfl rfl (hG _ m_133) (hG _ m_135) (hG _ m_136) rfl (by decide +kernel) ⟨Nat.le_of_ble_eq_true rfl, Nat.le_of_ble_eq_true rfl⟩) ⟨pre_blind, fun U hU hW => ⟨rfl, pre_call hU hW hPc hKc hDc hN (zkeep hZ hS) hFc⟩⟩ rfl rfl hl.1 rfl (lv_room (Nat.le_of_ble_eq_true rfl)) dX11_init_138 ⟨Nat.le_of_ble_eq_true rfl, Nat.le_of_ble_eq_true rfl⟩) hS (fun q _ h => hFc q h) hFc (fun u t H locs ht hvm hw hB hz1 hk1 hS => ?_)
  obtain ⟨fs209, q210, cA211, f212, hP1, hK1, hD1, hy213, hy214, hy215, hy216⟩ := hB
  rw [ht] at hP1
  have hK1 := va_K.moved hvm.symm hK1
  obtain ⟨hP, hD⟩ := va_join (wr := [(a, .inr (12, fs115)), (q1, .inr (2, fs6)), (q7, .inl (cA8, 12, .inl f9)), (q17, .inl (cA18, 12, .inr (.inr (.inr (.inr f203))))), (q49, .inr (5, fs54)), (q55, .inl (cA56, 6, .inl f57))]) (w1 := [(q204, .inr (2, fs209)), (q210, .inl (cA211, 12, .inl f212))]) hP hD [6] [0, 1, 2, 3, 4, 5] rfl rfl (by decide) (by decide) hk1 hFc hP1 hD1
  have hK := (hK.sub (tys' := [(cA8, .int), (cA18, .object "Seattable$House"), (cA56, .int)]) [0, 1, 2] rfl).app hK1
  have hP : va_P (dC, dI) classes [(a, .inr (12, fs115)), (q1, .inr (2, fs6)), (q7, .inl (cA8, 12, .inl f9)), (q17, .inl (cA18, 12, .inr (.inr (.inr (.inr f203))))), (q49, .inr (5, fs54)), (q55, .inl (cA56, 6, .inl f57)), (q204, .inr (2, fs209)), (q210, .inl (cA211, 12, .inl f212))] H := hP
  have hD : va_D A [(a, .inr (12, fs115)), (q1, .inr (2, fs6)), (q7, .inl (cA8, 12, .inl f9)), (q17, .inl (cA18, 12, .inr (.inr (.inr (.inr f203))))), (q49, .inr (5, fs54)), (q55, .inl (cA56, 6, .inl f57)), (q204, .inr (2, fs209)), (q210, .inl (cA211, 12, .inl f212))] := hD
  have hK : va_K (dC, dI) classes [(cA8, .int), (cA18, .object "Seattable$House"), (cA56, .int), (cA211, .int)] s := hK
  refine W.widen (k := 360) (n := 38747) (Nat.le_of_ble_eq_true rfl) (Nat.le_of_ble_eq_true rfl) ?_
  refine va_astq (D := (dC, dI)) (ci := 2) (r := (RX5, TX5, 19)) hx hb hK hP hD hS 3 1 6 rfl rfl rfl rfl (by unfold vp_in; decide) dX11_init_141 (fun H locs hP hD hS => ?_)
  have hP : va_P (dC, dI) classes [(a, .inr (12, fs115)), (q1, .inr (2, fs6)), (q7, .inl (cA8, 12, .inl f9)), (q17, .inl (cA18, 12, .inr (.inr (.inr (.inr (va_up f203 (6 : Int32).toNatClampNeg (some q204))))))), (q49, .inr (5, fs54)), (q55, .inl (cA56, 6, .inl f57)), (q204, .inr (2, fs209)), (q210, .inl (cA211, 12, .inl f212))] H := hP
  have hD : va_D A [(a, .inr (12, fs115)), (q1, .inr (2, fs6)), (q7, .inl (cA8, 12, .inl f9)), (q17, .inl (cA18, 12, .inr (.inr (.inr (.inr (va_up f203 (6 : Int32).toNatClampNeg (some q204))))))), (q49, .inr (5, fs54)), (q55, .inl (cA56, 6, .inl f57)), (q204, .inr (2, fs209)), (q210, .inl (cA211, 12, .inl f212))] := hD
  obtain ⟨f217, ef217⟩ : ∃ y : Nat → Option Nat, y = (va_up f203 (6 : Int32).toNatClampNeg (some q204)) := ⟨_, rfl⟩
  rw [← ef217] at hP hD
  have hP := hP.sub (ws' := [(a, .inr (12, fs115)), (q1, .inr (2, fs6)), (q7, .inl (cA8, 12, .inl f9)), (q17, .inl (cA18, 12, .inr (.inr (.inr (.inr f217))))), (q49, .inr (5, fs54)), (q55, .inl (cA56, 6, .inl f57))]) [0, 1, 2, 3, 4, 5] rfl
  have hD := hD.sub (ws' := [(a, .inr (12, fs115)), (q1, .inr (2, fs6)), (q7, .inl (cA8, 12, .inl f9)), (q17, .inl (cA18, 12, .inr (.inr (.inr (.inr f217))))), (q49, .inr (5, fs54)), (q55, .inl (cA56, 6, .inl f57))]) [0, 1, 2, 3, 4, 5] (by decide) rfl
  have hK := hK.sub (tys' := [(cA8, .int), (cA18, .object "Seattable$House"), (cA56, .int)]) [0, 1, 2] rfl
  refine lv_iinc (v := 7) (lv' := [(1, .int 7), (0, .ref a)]) hx hb dX11_init_142 hl (k := 0) rfl (by decide) (by decide) rfl (fun ls hl => ?_)
  refine lv_goto (tgt := 123) hx hb dX11_init_145 (by decide) ?_
  refine lv_iload_n hx hb dX11_init_123 rfl (lv_at hl 0 rfl) ?_
  refine lv_bipush (v := 12) hx hb dX11_init_124 (by decide) ?_
  refine lv_icmp_ge (tgt := 148) hx hb dX11_init_126 (by decide) (fun c9 => absurd c9 (by decide)) (fun _ => ?_)
  refine lv_aload_n hx hb dX11_init_129 rfl (lv_at hl 1 rfl) ?_
  refine va_get (D := (dC, dI)) (ci := 12) (v := .ref q17) (C := RX11) (T := TX11) (N := 14) hx hb hG iX11 hown hK hP 0 rfl rfl 1 (by decide) (hG _ m_138) (fun _ h9 => h9) hf_118 dX11_init_130 ?_
  refine lv_iload_n hx hb dX11_init_133 rfl (lv_at hl 0 rfl) ?_
  refine va_new (D := (dC, dI)) (ci := 2) (fs := (List.range 19).map (fun k => defaultValue (tyX5 k))) (C := RX5) (T := TX5) (N := 19) hx hb hG iX5 tyX5 tyX5_ok hown (hG _ m_131) (hG _ m_132) (hG _ m_133) hK hP hD hS hA rfl (fs_new 19 tyX5) (Nat.le_of_ble_eq_true rfl) (Nat.le_of_ble_eq_true rfl) dX11_init_134 (fun q218 H hP hD hS => ?_)
  have hP : va_P (dC, dI) classes [(a, .inr (12, fs115)), (q1, .inr (2, fs6)), (q7, .inl (cA8, 12, .inl f9)), (q17, .inl (cA18, 12, .inr (.inr (.inr (.inr f217))))), (q49, .inr (5, fs54)), (q55, .inl (cA56, 6, .inl f57)), (q218, .inr (2, ((List.range 19).map (fun k => defaultValue (tyX5 k)))))] H := hP
  have hD : va_D A [(a, .inr (12, fs115)), (q1, .inr (2, fs6)), (q7, .inl (cA8, 12, .inl f9)), (q17, .inl (cA18, 12, .inr (.inr (.inr (.inr f217))))), (q49, .inr (5, fs54)), (q55, .inl (cA56, 6, .inl f57)), (q218, .inr (2, ((List.range 19).map (fun k => defaultValue (tyX5 k)))))] := hD
  obtain ⟨fs219, efs219⟩ : ∃ y : List Value, y = (List.range 19).map (fun k => defaultValue (tyX5 k)) := ⟨_, rfl⟩
  rw [← efs219] at hP hD
  have hl_220 : fs219.length = 19 := by rw [efs219, List.length_map, List.length_range]
  have hf_221 : fs219[0]? = some (.null) := by rw [efs219]; rfl
  refine W.widen (k := 361) (n := 38766) (Nat.le_of_ble_eq_true rfl) (Nat.le_of_ble_eq_true rfl) ?_
  refine lv_dup hx hb dX11_init_137 rfl ?_
  have hPc := hP.sub (ws' := [(q218, .inr (2, fs219))]) [6] rfl
  have hDc := hD.sub (ws' := [(q218, .inr (2, fs219))]) [6] (by decide) rfl
  have hKc := hK.sub (tys' := []) [] rfl
  have hFc := va_free (wc := [(q218, .inr (2, fs219))]) hD hS hA [6] rfl
  refine va_callv (va_runI (As := []) (rest := [.ref q218, .int 7, .ref q17]) ⟨hx, hb, hml, hown, hG⟩ (c_House_init l dC dI z q218 fs219 H.size hl_220) (cwI 0 hG (gI m_134) rfl rfl rfl (hG _ m_133) (hG _ m_135) (hG _ m_136) rfl (by decide +kernel) ⟨Nat.le_of_ble_eq_true rfl, Nat.le_of_ble_eq_true rfl⟩) ⟨pre_blind, fun U hU hW => ⟨rfl, pre_call hU hW hPc hKc hDc hN (zkeep hZ hS) hFc⟩⟩ rfl rfl hl.1 rfl (lv_room (Nat.le_of_ble_eq_true rfl)) dX11_init_138 ⟨Nat.le_of_ble_eq_true rfl, Nat.le_of_ble_eq_true rfl⟩) hS (fun q _ h => hFc q h) hFc (fun u t H locs ht hvm hw hB hz1 hk1 hS => ?_)
  obtain ⟨fs223, q224, cA225, f226, hP1, hK1, hD1, hy227, hy228, hy229, hy230⟩ := hB
  rw [ht] at hP1
  have hK1 := va_K.moved hvm.symm hK1
  obtain ⟨hP, hD⟩ := va_join (wr := [(a, .inr (12, fs115)), (q1, .inr (2, fs6)), (q7, .inl (cA8, 12, .inl f9)), (q17, .inl (cA18, 12, .inr (.inr (.inr (.inr f217))))), (q49, .inr (5, fs54)), (q55, .inl (cA56, 6, .inl f57))]) (w1 := [(q218, .inr (2, fs223)), (q224, .inl (cA225, 12, .inl f226))]) hP hD [6] [0, 1, 2, 3, 4, 5] rfl rfl (by decide) (by decide) hk1 hFc hP1 hD1
  have hK := (hK.sub (tys' := [(cA8, .int), (cA18, .object "Seattable$House"), (cA56, .int)]) [0, 1, 2] rfl).app hK1
  have hP : va_P (dC, dI) classes [(a, .inr (12, fs115)), (q1, .inr (2, fs6)), (q7, .inl (cA8, 12, .inl f9)), (q17, .inl (cA18, 12, .inr (.inr (.inr (.inr f217))))), (q49, .inr (5, fs54)), (q55, .inl (cA56, 6, .inl f57)), (q218, .inr (2, fs223)), (q224, .inl (cA225, 12, .inl f226))] H := hP
  have hD : va_D A [(a, .inr (12, fs115)), (q1, .inr (2, fs6)), (q7, .inl (cA8, 12, .inl f9)), (q17, .inl (cA18, 12, .inr (.inr (.inr (.inr f217))))), (q49, .inr (5, fs54)), (q55, .inl (cA56, 6, .inl f57)), (q218, .inr (2, fs223)), (q224, .inl (cA225, 12, .inl f226))] := hD
  have hK : va_K (dC, dI) classes [(cA8, .int), (cA18, .object "Seattable$House"), (cA56, .int), (cA225, .int)] s := hK
  refine W.widen (k := 380) (n := 41510) (Nat.le_of_ble_eq_true rfl) (Nat.le_of_ble_eq_true rfl) ?_
  refine va_astq (D := (dC, dI)) (ci := 2) (r := (RX5, TX5, 19)) hx hb hK hP hD hS 3 1 6 rfl rfl rfl rfl (by unfold vp_in; decide) dX11_init_141 (fun H locs hP hD hS => ?_)
  have hP : va_P (dC, dI) classes [(a, .inr (12, fs115)), (q1, .inr (2, fs6)), (q7, .inl (cA8, 12, .inl f9)), (q17, .inl (cA18, 12, .inr (.inr (.inr (.inr (va_up f217 (7 : Int32).toNatClampNeg (some q218))))))), (q49, .inr (5, fs54)), (q55, .inl (cA56, 6, .inl f57)), (q218, .inr (2, fs223)), (q224, .inl (cA225, 12, .inl f226))] H := hP
  have hD : va_D A [(a, .inr (12, fs115)), (q1, .inr (2, fs6)), (q7, .inl (cA8, 12, .inl f9)), (q17, .inl (cA18, 12, .inr (.inr (.inr (.inr (va_up f217 (7 : Int32).toNatClampNeg (some q218))))))), (q49, .inr (5, fs54)), (q55, .inl (cA56, 6, .inl f57)), (q218, .inr (2, fs223)), (q224, .inl (cA225, 12, .inl f226))] := hD
  obtain ⟨f231, ef231⟩ : ∃ y : Nat → Option Nat, y = (va_up f217 (7 : Int32).toNatClampNeg (some q218)) := ⟨_, rfl⟩
  rw [← ef231] at hP hD
  have hP := hP.sub (ws' := [(a, .inr (12, fs115)), (q1, .inr (2, fs6)), (q7, .inl (cA8, 12, .inl f9)), (q17, .inl (cA18, 12, .inr (.inr (.inr (.inr f231))))), (q49, .inr (5, fs54)), (q55, .inl (cA56, 6, .inl f57))]) [0, 1, 2, 3, 4, 5] rfl
  have hD := hD.sub (ws' := [(a, .inr (12, fs115)), (q1, .inr (2, fs6)), (q7, .inl (cA8, 12, .inl f9)), (q17, .inl (cA18, 12, .inr (.inr (.inr (.inr f231))))), (q49, .inr (5, fs54)), (q55, .inl (cA56, 6, .inl f57))]) [0, 1, 2, 3, 4, 5] (by decide) rfl
  have hK := hK.sub (tys' := [(cA8, .int), (cA18, .object "Seattable$House"), (cA56, .int)]) [0, 1, 2] rfl
  refine lv_iinc (v := 8) (lv' := [(1, .int 8), (0, .ref a)]) hx hb dX11_init_142 hl (k := 0) rfl (by decide) (by decide) rfl (fun ls hl => ?_)
  refine lv_goto (tgt := 123) hx hb dX11_init_145 (by decide) ?_
  refine lv_iload_n hx hb dX11_init_123 rfl (lv_at hl 0 rfl) ?_
  refine lv_bipush (v := 12) hx hb dX11_init_124 (by decide) ?_
  refine lv_icmp_ge (tgt := 148) hx hb dX11_init_126 (by decide) (fun c9 => absurd c9 (by decide)) (fun _ => ?_)
  refine lv_aload_n hx hb dX11_init_129 rfl (lv_at hl 1 rfl) ?_
  refine va_get (D := (dC, dI)) (ci := 12) (v := .ref q17) (C := RX11) (T := TX11) (N := 14) hx hb hG iX11 hown hK hP 0 rfl rfl 1 (by decide) (hG _ m_138) (fun _ h9 => h9) hf_118 dX11_init_130 ?_
  refine lv_iload_n hx hb dX11_init_133 rfl (lv_at hl 0 rfl) ?_
  refine va_new (D := (dC, dI)) (ci := 2) (fs := (List.range 19).map (fun k => defaultValue (tyX5 k))) (C := RX5) (T := TX5) (N := 19) hx hb hG iX5 tyX5 tyX5_ok hown (hG _ m_131) (hG _ m_132) (hG _ m_133) hK hP hD hS hA rfl (fs_new 19 tyX5) (Nat.le_of_ble_eq_true rfl) (Nat.le_of_ble_eq_true rfl) dX11_init_134 (fun q232 H hP hD hS => ?_)
  have hP : va_P (dC, dI) classes [(a, .inr (12, fs115)), (q1, .inr (2, fs6)), (q7, .inl (cA8, 12, .inl f9)), (q17, .inl (cA18, 12, .inr (.inr (.inr (.inr f231))))), (q49, .inr (5, fs54)), (q55, .inl (cA56, 6, .inl f57)), (q232, .inr (2, ((List.range 19).map (fun k => defaultValue (tyX5 k)))))] H := hP
  have hD : va_D A [(a, .inr (12, fs115)), (q1, .inr (2, fs6)), (q7, .inl (cA8, 12, .inl f9)), (q17, .inl (cA18, 12, .inr (.inr (.inr (.inr f231))))), (q49, .inr (5, fs54)), (q55, .inl (cA56, 6, .inl f57)), (q232, .inr (2, ((List.range 19).map (fun k => defaultValue (tyX5 k)))))] := hD
  obtain ⟨fs233, efs233⟩ : ∃ y : List Value, y = (List.range 19).map (fun k => defaultValue (tyX5 k)) := ⟨_, rfl⟩
  rw [← efs233] at hP hD
  have hl_234 : fs233.length = 19 := by rw [efs233, List.length_map, List.length_range]
  have hf_235 : fs233[0]? = some (.null) := by rw [efs233]; rfl
  refine W.widen (k := 381) (n := 41529) (Nat.le_of_ble_eq_true rfl) (Nat.le_of_ble_eq_true rfl) ?_
  refine lv_dup hx hb dX11_init_137 rfl ?_
  have hPc := hP.sub (ws' := [(q232, .inr (2, fs233))]) [6] rfl
  have hDc := hD.sub (ws' := [(q232, .inr (2, fs233))]) [6] (by decide) rfl
  have hKc := hK.sub (tys' := []) [] rfl
  have hFc := va_free (wc := [(q232, .inr (2, fs233))]) hD hS hA [6] rfl
  refine va_callv (va_runI (As := []) (rest := [.ref q232, .int 8, .ref q17]) ⟨hx, hb, hml, hown, hG⟩ (c_House_init l dC dI z q232 fs233 H.size hl_234) (cwI 0 hG (gI m_134) rfl rfl rfl (hG _ m_133) (hG _ m_135) (hG _ m_136) rfl (by decide +kernel) ⟨Nat.le_of_ble_eq_true rfl, Nat.le_of_ble_eq_true rfl⟩) ⟨pre_blind, fun U hU hW => ⟨rfl, pre_call hU hW hPc hKc hDc hN (zkeep hZ hS) hFc⟩⟩ rfl rfl hl.1 rfl (lv_room (Nat.le_of_ble_eq_true rfl)) dX11_init_138 ⟨Nat.le_of_ble_eq_true rfl, Nat.le_of_ble_eq_true rfl⟩) hS (fun q _ h => hFc q h) hFc (fun u t H locs ht hvm hw hB hz1 hk1 hS => ?_)
  obtain ⟨fs237, q238, cA239, f240, hP1, hK1, hD1, hy241, hy242, hy243, hy244⟩ := hB
  rw [ht] at hP1
  have hK1 := va_K.moved hvm.symm hK1
  obtain ⟨hP, hD⟩ := va_join (wr := [(a, .inr (12, fs115)), (q1, .inr (2, fs6)), (q7, .inl (cA8, 12, .inl f9)), (q17, .inl (cA18, 12, .inr (.inr (.inr (.inr f231))))), (q49, .inr (5, fs54)), (q55, .inl (cA56, 6, .inl f57))]) (w1 := [(q232, .inr (2, fs237)), (q238, .inl (cA239, 12, .inl f240))]) hP hD [6] [0, 1, 2, 3, 4, 5] rfl rfl (by decide) (by decide) hk1 hFc hP1 hD1
  have hK := (hK.sub (tys' := [(cA8, .int), (cA18, .object "Seattable$House"), (cA56, .int)]) [0, 1, 2] rfl).app hK1
  have hP : va_P (dC, dI) classes [(a, .inr (12, fs115)), (q1, .inr (2, fs6)), (q7, .inl (cA8, 12, .inl f9)), (q17, .inl (cA18, 12, .inr (.inr (.inr (.inr f231))))), (q49, .inr (5, fs54)), (q55, .inl (cA56, 6, .inl f57)), (q232, .inr (2, fs237)), (q238, .inl (cA239, 12, .inl f240))] H := hP
  have hD : va_D A [(a, .inr (12, fs115)), (q1, .inr (2, fs6)), (q7, .inl (cA8, 12, .inl f9)), (q17, .inl (cA18, 12, .inr (.inr (.inr (.inr f231))))), (q49, .inr (5, fs54)), (q55, .inl (cA56, 6, .inl f57)), (q232, .inr (2, fs237)), (q238, .inl (cA239, 12, .inl f240))] := hD
  have hK : va_K (dC, dI) classes [(cA8, .int), (cA18, .object "Seattable$House"), (cA56, .int), (cA239, .int)] s := hK
  refine W.widen (k := 400) (n := 44273) (Nat.le_of_ble_eq_true rfl) (Nat.le_of_ble_eq_true rfl) ?_
  refine va_astq (D := (dC, dI)) (ci := 2) (r := (RX5, TX5, 19)) hx hb hK hP hD hS 3 1 6 rfl rfl rfl rfl (by unfold vp_in; decide) dX11_init_141 (fun H locs hP hD hS => ?_)
  have hP : va_P (dC, dI) classes [(a, .inr (12, fs115)), (q1, .inr (2, fs6)), (q7, .inl (cA8, 12, .inl f9)), (q17, .inl (cA18, 12, .inr (.inr (.inr (.inr (va_up f231 (8 : Int32).toNatClampNeg (some q232))))))), (q49, .inr (5, fs54)), (q55, .inl (cA56, 6, .inl f57)), (q232, .inr (2, fs237)), (q238, .inl (cA239, 12, .inl f240))] H := hP
  have hD : va_D A [(a, .inr (12, fs115)), (q1, .inr (2, fs6)), (q7, .inl (cA8, 12, .inl f9)), (q17, .inl (cA18, 12, .inr (.inr (.inr (.inr (va_up f231 (8 : Int32).toNatClampNeg (some q232))))))), (q49, .inr (5, fs54)), (q55, .inl (cA56, 6, .inl f57)), (q232, .inr (2, fs237)), (q238, .inl (cA239, 12, .inl f240))] := hD
  obtain ⟨f245, ef245⟩ : ∃ y : Nat → Option Nat, y = (va_up f231 (8 : Int32).toNatClampNeg (some q232)) := ⟨_, rfl⟩
  rw [← ef245] at hP hD
  have hP := hP.sub (ws' := [(a, .inr (12, fs115)), (q1, .inr (2, fs6)), (q7, .inl (cA8, 12, .inl f9)), (q17, .inl (cA18, 12, .inr (.inr (.inr (.inr f245))))), (q49, .inr (5, fs54)), (q55, .inl (cA56, 6, .inl f57))]) [0, 1, 2, 3, 4, 5] rfl
  have hD := hD.sub (ws' := [(a, .inr (12, fs115)), (q1, .inr (2, fs6)), (q7, .inl (cA8, 12, .inl f9)), (q17, .inl (cA18, 12, .inr (.inr (.inr (.inr f245))))), (q49, .inr (5, fs54)), (q55, .inl (cA56, 6, .inl f57))]) [0, 1, 2, 3, 4, 5] (by decide) rfl
  have hK := hK.sub (tys' := [(cA8, .int), (cA18, .object "Seattable$House"), (cA56, .int)]) [0, 1, 2] rfl
  refine lv_iinc (v := 9) (lv' := [(1, .int 9), (0, .ref a)]) hx hb dX11_init_142 hl (k := 0) rfl (by decide) (by decide) rfl (fun ls hl => ?_)
  refine lv_goto (tgt := 123) hx hb dX11_init_145 (by decide) ?_
  refine lv_iload_n hx hb dX11_init_123 rfl (lv_at hl 0 rfl) ?_
  refine lv_bipush (v := 12) hx hb dX11_init_124 (by decide) ?_
  refine lv_icmp_ge (tgt := 148) hx hb dX11_init_126 (by decide) (fun c9 => absurd c9 (by decide)) (fun _ => ?_)
  refine lv_aload_n hx hb dX11_init_129 rfl (lv_at hl 1 rfl) ?_
  refine va_get (D := (dC, dI)) (ci := 12) (v := .ref q17) (C := RX11) (T := TX11) (N := 14) hx hb hG iX11 hown hK hP 0 rfl rfl 1 (by decide) (hG _ m_138) (fun _ h9 => h9) hf_118 dX11_init_130 ?_
  refine lv_iload_n hx hb dX11_init_133 rfl (lv_at hl 0 rfl) ?_
  refine va_new (D := (dC, dI)) (ci := 2) (fs := (List.range 19).map (fun k => defaultValue (tyX5 k))) (C := RX5) (T := TX5) (N := 19) hx hb hG iX5 tyX5 tyX5_ok hown (hG _ m_131) (hG _ m_132) (hG _ m_133) hK hP hD hS hA rfl (fs_new 19 tyX5) (Nat.le_of_ble_eq_true rfl) (Nat.le_of_ble_eq_true rfl) dX11_init_134 (fun q246 H hP hD hS => ?_)
  have hP : va_P (dC, dI) classes [(a, .inr (12, fs115)), (q1, .inr (2, fs6)), (q7, .inl (cA8, 12, .inl f9)), (q17, .inl (cA18, 12, .inr (.inr (.inr (.inr f245))))), (q49, .inr (5, fs54)), (q55, .inl (cA56, 6, .inl f57)), (q246, .inr (2, ((List.range 19).map (fun k => defaultValue (tyX5 k)))))] H := hP
  have hD : va_D A [(a, .inr (12, fs115)), (q1, .inr (2, fs6)), (q7, .inl (cA8, 12, .inl f9)), (q17, .inl (cA18, 12, .inr (.inr (.inr (.inr f245))))), (q49, .inr (5, fs54)), (q55, .inl (cA56, 6, .inl f57)), (q246, .inr (2, ((List.range 19).map (fun k => defaultValue (tyX5 k)))))] := hD
  obtain ⟨fs247, efs247⟩ : ∃ y : List Value, y = (List.range 19).map (fun k => defaultValue (tyX5 k)) := ⟨_, rfl⟩
  rw [← efs247] at hP hD
  have hl_248 : fs247.length = 19 := by rw [efs247, List.length_map, List.length_range]
  have hf_249 : fs247[0]? = some (.null) := by rw [efs247]; rfl
  refine W.widen (k := 401) (n := 44292) (Nat.le_of_ble_eq_true rfl) (Nat.le_of_ble_eq_true rfl) ?_
  refine lv_dup hx hb dX11_init_137 rfl ?_
  have hPc := hP.sub (ws' := [(q246, .inr (2, fs247))]) [6] rfl
  have hDc := hD.sub (ws' := [(q246, .inr (2, fs247))]) [6] (by decide) rfl
  have hKc := hK.sub (tys' := []) [] rfl
  have hFc := va_free (wc := [(q246, .inr (2, fs247))]) hD hS hA [6] rfl
  refine va_callv (va_runI (As := []) (rest := [.ref q246, .int 9, .ref q17]) ⟨hx, hb, hml, hown, hG⟩ (c_House_init l dC dI z q246 fs247 H.size hl_248) (cwI 0 hG (gI m_134) rfl rfl rfl (hG _ m_133) (hG _ m_135) (hG _ m_136) rfl (by decide +kernel) ⟨Nat.le_of_ble_eq_true rfl, Nat.le_of_ble_eq_true rfl⟩) ⟨pre_blind, fun U hU hW => ⟨rfl, pre_call hU hW hPc hKc hDc hN (zkeep hZ hS) hFc⟩⟩ rfl rfl hl.1 rfl (lv_room (Nat.le_of_ble_eq_true rfl)) dX11_init_138 ⟨Nat.le_of_ble_eq_true rfl, Nat.le_of_ble_eq_true rfl⟩) hS (fun q _ h => hFc q h) hFc (fun u t H locs ht hvm hw hB hz1 hk1 hS => ?_)
  obtain ⟨fs251, q252, cA253, f254, hP1, hK1, hD1, hy255, hy256, hy257, hy258⟩ := hB
  rw [ht] at hP1
  have hK1 := va_K.moved hvm.symm hK1
  obtain ⟨hP, hD⟩ := va_join (wr := [(a, .inr (12, fs115)), (q1, .inr (2, fs6)), (q7, .inl (cA8, 12, .inl f9)), (q17, .inl (cA18, 12, .inr (.inr (.inr (.inr f245))))), (q49, .inr (5, fs54)), (q55, .inl (cA56, 6, .inl f57))]) (w1 := [(q246, .inr (2, fs251)), (q252, .inl (cA253, 12, .inl f254))]) hP hD [6] [0, 1, 2, 3, 4, 5] rfl rfl (by decide) (by decide) hk1 hFc hP1 hD1
  have hK := (hK.sub (tys' := [(cA8, .int), (cA18, .object "Seattable$House"), (cA56, .int)]) [0, 1, 2] rfl).app hK1
  have hP : va_P (dC, dI) classes [(a, .inr (12, fs115)), (q1, .inr (2, fs6)), (q7, .inl (cA8, 12, .inl f9)), (q17, .inl (cA18, 12, .inr (.inr (.inr (.inr f245))))), (q49, .inr (5, fs54)), (q55, .inl (cA56, 6, .inl f57)), (q246, .inr (2, fs251)), (q252, .inl (cA253, 12, .inl f254))] H := hP
  have hD : va_D A [(a, .inr (12, fs115)), (q1, .inr (2, fs6)), (q7, .inl (cA8, 12, .inl f9)), (q17, .inl (cA18, 12, .inr (.inr (.inr (.inr f245))))), (q49, .inr (5, fs54)), (q55, .inl (cA56, 6, .inl f57)), (q246, .inr (2, fs251)), (q252, .inl (cA253, 12, .inl f254))] := hD
  have hK : va_K (dC, dI) classes [(cA8, .int), (cA18, .object "Seattable$House"), (cA56, .int), (cA253, .int)] s := hK
  refine W.widen (k := 420) (n := 47036) (Nat.le_of_ble_eq_true rfl) (Nat.le_of_ble_eq_true rfl) ?_
  refine va_astq (D := (dC, dI)) (ci := 2) (r := (RX5, TX5, 19)) hx hb hK hP hD hS 3 1 6 rfl rfl rfl rfl (by unfold vp_in; decide) dX11_init_141 (fun H locs hP hD hS => ?_)
  have hP : va_P (dC, dI) classes [(a, .inr (12, fs115)), (q1, .inr (2, fs6)), (q7, .inl (cA8, 12, .inl f9)), (q17, .inl (cA18, 12, .inr (.inr (.inr (.inr (va_up f245 (9 : Int32).toNatClampNeg (some q246))))))), (q49, .inr (5, fs54)), (q55, .inl (cA56, 6, .inl f57)), (q246, .inr (2, fs251)), (q252, .inl (cA253, 12, .inl f254))] H := hP
  have hD : va_D A [(a, .inr (12, fs115)), (q1, .inr (2, fs6)), (q7, .inl (cA8, 12, .inl f9)), (q17, .inl (cA18, 12, .inr (.inr (.inr (.inr (va_up f245 (9 : Int32).toNatClampNeg (some q246))))))), (q49, .inr (5, fs54)), (q55, .inl (cA56, 6, .inl f57)), (q246, .inr (2, fs251)), (q252, .inl (cA253, 12, .inl f254))] := hD
  obtain ⟨f259, ef259⟩ : ∃ y : Nat → Option Nat, y = (va_up f245 (9 : Int32).toNatClampNeg (some q246)) := ⟨_, rfl⟩
  rw [← ef259] at hP hD
  have hP := hP.sub (ws' := [(a, .inr (12, fs115)), (q1, .inr (2, fs6)), (q7, .inl (cA8, 12, .inl f9)), (q17, .inl (cA18, 12, .inr (.inr (.inr (.inr f259))))), (q49, .inr (5, fs54)), (q55, .inl (cA56, 6, .inl f57))]) [0, 1, 2, 3, 4, 5] rfl
  have hD := hD.sub (ws' := [(a, .inr (12, fs115)), (q1, .inr (2, fs6)), (q7, .inl (cA8, 12, .inl f9)), (q17, .inl (cA18, 12, .inr (.inr (.inr (.inr f259))))), (q49, .inr (5, fs54)), (q55, .inl (cA56, 6, .inl f57))]) [0, 1, 2, 3, 4, 5] (by decide) rfl
  have hK := hK.sub (tys' := [(cA8, .int), (cA18, .object "Seattable$House"), (cA56, .int)]) [0, 1, 2] rfl
  refine lv_iinc (v := 10) (lv' := [(1, .int 10), (0, .ref a)]) hx hb dX11_init_142 hl (k := 0) rfl (by decide) (by decide) rfl (fun ls hl => ?_)
  refine lv_goto (tgt := 123) hx hb dX11_init_145 (by decide) ?_
  refine lv_iload_n hx hb dX11_init_123 rfl (lv_at hl 0 rfl) ?_
  refine lv_bipush (v := 12) hx hb dX11_init_124 (by decide) ?_
  refine lv_icmp_ge (tgt := 148) hx hb dX11_init_126 (by decide) (fun c9 => absurd c9 (by decide)) (fun _ => ?_)
  refine lv_aload_n hx hb dX11_init_129 rfl (lv_at hl 1 rfl) ?_
  refine va_get (D := (dC, dI)) (ci := 12) (v := .ref q17) (C := RX11) (T := TX11) (N := 14) hx hb hG iX11 hown hK hP 0 rfl rfl 1 (by decide) (hG _ m_138) (fun _ h9 => h9) hf_118 dX11_init_130 ?_
  refine lv_iload_n hx hb dX11_init_133 rfl (lv_at hl 0 rfl) ?_
  refine va_new (D := (dC, dI)) (ci := 2) (fs := (List.range 19).map (fun k => defaultValue (tyX5 k))) (C := RX5) (T := TX5) (N := 19) hx hb hG iX5 tyX5 tyX5_ok hown (hG _ m_131) (hG _ m_132) (hG _ m_133) hK hP hD hS hA rfl (fs_new 19 tyX5) (Nat.le_of_ble_eq_true rfl) (Nat.le_of_ble_eq_true rfl) dX11_init_134 (fun q260 H hP hD hS => ?_)
  have hP : va_P (dC, dI) classes [(a, .inr (12, fs115)), (q1, .inr (2, fs6)), (q7, .inl (cA8, 12, .inl f9)), (q17, .inl (cA18, 12, .inr (.inr (.inr (.inr f259))))), (q49, .inr (5, fs54)), (q55, .inl (cA56, 6, .inl f57)), (q260, .inr (2, ((List.range 19).map (fun k => defaultValue (tyX5 k)))))] H := hP
  have hD : va_D A [(a, .inr (12, fs115)), (q1, .inr (2, fs6)), (q7, .inl (cA8, 12, .inl f9)), (q17, .inl (cA18, 12, .inr (.inr (.inr (.inr f259))))), (q49, .inr (5, fs54)), (q55, .inl (cA56, 6, .inl f57)), (q260, .inr (2, ((List.range 19).map (fun k => defaultValue (tyX5 k)))))] := hD
  obtain ⟨fs261, efs261⟩ : ∃ y : List Value, y = (List.range 19).map (fun k => defaultValue (tyX5 k)) := ⟨_, rfl⟩
  rw [← efs261] at hP hD
  have hl_262 : fs261.length = 19 := by rw [efs261, List.length_map, List.length_range]
  have hf_263 : fs261[0]? = some (.null) := by rw [efs261]; rfl
  refine W.widen (k := 421) (n := 47055) (Nat.le_of_ble_eq_true rfl) (Nat.le_of_ble_eq_true rfl) ?_
  refine lv_dup hx hb dX11_init_137 rfl ?_
  have hPc := hP.sub (ws' := [(q260, .inr (2, fs261))]) [6] rfl
  have hDc := hD.sub (ws' := [(q260, .inr (2, fs261))]) [6] (by decide) rfl
  have hKc := hK.sub (tys' := []) [] rfl
  have hFc := va_free (wc := [(q260, .inr (2, fs261))]) hD hS hA [6] rfl
  refine va_callv (va_runI (As := []) (rest := [.ref q260, .int 10, .ref q17]) ⟨hx, hb, hml, hown, hG⟩ (c_House_init l dC dI z q260 fs261 H.size hl_262) (cwI 0 hG (gI m_134) rfl rfl rfl (hG _ m_133) (hG _ m_135) (hG _ m_136) rfl (by decide +kernel) ⟨Nat.le_of_ble_eq_true rfl, Nat.le_of_ble_eq_true rfl⟩) ⟨pre_blind, fun U hU hW => ⟨rfl, pre_call hU hW hPc hKc hDc hN (zkeep hZ hS) hFc⟩⟩ rfl rfl hl.1 rfl (lv_room (Nat.le_of_ble_eq_true rfl)) dX11_init_138 ⟨Nat.le_of_ble_eq_true rfl, Nat.le_of_ble_eq_true rfl⟩) hS (fun q _ h => hFc q h) hFc (fun u t H locs ht hvm hw hB hz1 hk1 hS => ?_)
  obtain ⟨fs265, q266, cA267, f268, hP1, hK1, hD1, hy269, hy270, hy271, hy272⟩ := hB
  rw [ht] at hP1
  have hK1 := va_K.moved hvm.symm hK1
  obtain ⟨hP, hD⟩ := va_join (wr := [(a, .inr (12, fs115)), (q1, .inr (2, fs6)), (q7, .inl (cA8, 12, .inl f9)), (q17, .inl (cA18, 12, .inr (.inr (.inr (.inr f259))))), (q49, .inr (5, fs54)), (q55, .inl (cA56, 6, .inl f57))]) (w1 := [(q260, .inr (2, fs265)), (q266, .inl (cA267, 12, .inl f268))]) hP hD [6] [0, 1, 2, 3, 4, 5] rfl rfl (by decide) (by decide) hk1 hFc hP1 hD1
  have hK := (hK.sub (tys' := [(cA8, .int), (cA18, .object "Seattable$House"), (cA56, .int)]) [0, 1, 2] rfl).app hK1
  have hP : va_P (dC, dI) classes [(a, .inr (12, fs115)), (q1, .inr (2, fs6)), (q7, .inl (cA8, 12, .inl f9)), (q17, .inl (cA18, 12, .inr (.inr (.inr (.inr f259))))), (q49, .inr (5, fs54)), (q55, .inl (cA56, 6, .inl f57)), (q260, .inr (2, fs265)), (q266, .inl (cA267, 12, .inl f268))] H := hP
  have hD : va_D A [(a, .inr (12, fs115)), (q1, .inr (2, fs6)), (q7, .inl (cA8, 12, .inl f9)), (q17, .inl (cA18, 12, .inr (.inr (.inr (.inr f259))))), (q49, .inr (5, fs54)), (q55, .inl (cA56, 6, .inl f57)), (q260, .inr (2, fs265)), (q266, .inl (cA267, 12, .inl f268))] := hD
  have hK : va_K (dC, dI) classes [(cA8, .int), (cA18, .object "Seattable$House"), (cA56, .int), (cA267, .int)] s := hK
  refine W.widen (k := 440) (n := 49799) (Nat.le_of_ble_eq_true rfl) (Nat.le_of_ble_eq_true rfl) ?_
  refine va_astq (D := (dC, dI)) (ci := 2) (r := (RX5, TX5, 19)) hx hb hK hP hD hS 3 1 6 rfl rfl rfl rfl (by unfold vp_in; decide) dX11_init_141 (fun H locs hP hD hS => ?_)
  have hP : va_P (dC, dI) classes [(a, .inr (12, fs115)), (q1, .inr (2, fs6)), (q7, .inl (cA8, 12, .inl f9)), (q17, .inl (cA18, 12, .inr (.inr (.inr (.inr (va_up f259 (10 : Int32).toNatClampNeg (some q260))))))), (q49, .inr (5, fs54)), (q55, .inl (cA56, 6, .inl f57)), (q260, .inr (2, fs265)), (q266, .inl (cA267, 12, .inl f268))] H := hP
  have hD : va_D A [(a, .inr (12, fs115)), (q1, .inr (2, fs6)), (q7, .inl (cA8, 12, .inl f9)), (q17, .inl (cA18, 12, .inr (.inr (.inr (.inr (va_up f259 (10 : Int32).toNatClampNeg (some q260))))))), (q49, .inr (5, fs54)), (q55, .inl (cA56, 6, .inl f57)), (q260, .inr (2, fs265)), (q266, .inl (cA267, 12, .inl f268))] := hD
  obtain ⟨f273, ef273⟩ : ∃ y : Nat → Option Nat, y = (va_up f259 (10 : Int32).toNatClampNeg (some q260)) := ⟨_, rfl⟩
  rw [← ef273] at hP hD
  have hP := hP.sub (ws' := [(a, .inr (12, fs115)), (q1, .inr (2, fs6)), (q7, .inl (cA8, 12, .inl f9)), (q17, .inl (cA18, 12, .inr (.inr (.inr (.inr f273))))), (q49, .inr (5, fs54)), (q55, .inl (cA56, 6, .inl f57))]) [0, 1, 2, 3, 4, 5] rfl
  have hD := hD.sub (ws' := [(a, .inr (12, fs115)), (q1, .inr (2, fs6)), (q7, .inl (cA8, 12, .inl f9)), (q17, .inl (cA18, 12, .inr (.inr (.inr (.inr f273))))), (q49, .inr (5, fs54)), (q55, .inl (cA56, 6, .inl f57))]) [0, 1, 2, 3, 4, 5] (by decide) rfl
  have hK := hK.sub (tys' := [(cA8, .int), (cA18, .object "Seattable$House"), (cA56, .int)]) [0, 1, 2] rfl
  refine lv_iinc (v := 11) (lv' := [(1, .int 11), (0, .ref a)]) hx hb dX11_init_142 hl (k := 0) rfl (by decide) (by decide) rfl (fun ls hl => ?_)
  refine lv_goto (tgt := 123) hx hb dX11_init_145 (by decide) ?_
  refine lv_iload_n hx hb dX11_init_123 rfl (lv_at hl 0 rfl) ?_
  refine lv_bipush (v := 12) hx hb dX11_init_124 (by decide) ?_
  refine lv_icmp_ge (tgt := 148) hx hb dX11_init_126 (by decide) (fun c9 => absurd c9 (by decide)) (fun _ => ?_)
  refine lv_aload_n hx hb dX11_init_129 rfl (lv_at hl 1 rfl) ?_
  refine va_get (D := (dC, dI)) (ci := 12) (v := .ref q17) (C := RX11) (T := TX11) (N := 14) hx hb hG iX11 hown hK hP 0 rfl rfl 1 (by decide) (hG _ m_138) (fun _ h9 => h9) hf_118 dX11_init_130 ?_
  refine lv_iload_n hx hb dX11_init_133 rfl (lv_at hl 0 rfl) ?_
  refine va_new (D := (dC, dI)) (ci := 2) (fs := (List.range 19).map (fun k => defaultValue (tyX5 k))) (C := RX5) (T := TX5) (N := 19) hx hb hG iX5 tyX5 tyX5_ok hown (hG _ m_131) (hG _ m_132) (hG _ m_133) hK hP hD hS hA rfl (fs_new 19 tyX5) (Nat.le_of_ble_eq_true rfl) (Nat.le_of_ble_eq_true rfl) dX11_init_134 (fun q274 H hP hD hS => ?_)
  have hP : va_P (dC, dI) classes [(a, .inr (12, fs115)), (q1, .inr (2, fs6)), (q7, .inl (cA8, 12, .inl f9)), (q17, .inl (cA18, 12, .inr (.inr (.inr (.inr f273))))), (q49, .inr (5, fs54)), (q55, .inl (cA56, 6, .inl f57)), (q274, .inr (2, ((List.range 19).map (fun k => defaultValue (tyX5 k)))))] H := hP
  have hD : va_D A [(a, .inr (12, fs115)), (q1, .inr (2, fs6)), (q7, .inl (cA8, 12, .inl f9)), (q17, .inl (cA18, 12, .inr (.inr (.inr (.inr f273))))), (q49, .inr (5, fs54)), (q55, .inl (cA56, 6, .inl f57)), (q274, .inr (2, ((List.range 19).map (fun k => defaultValue (tyX5 k)))))] := hD
  obtain ⟨fs275, efs275⟩ : ∃ y : List Value, y = (List.range 19).map (fun k => defaultValue (tyX5 k)) := ⟨_, rfl⟩
  rw [← efs275] at hP hD
  have hl_276 : fs275.length = 19 := by rw [efs275, List.length_map, List.length_range]
  have hf_277 : fs275[0]? = some (.null) := by rw [efs275]; rfl
  refine W.widen (k := 441) (n := 49818) (Nat.le_of_ble_eq_true rfl) (Nat.le_of_ble_eq_true rfl) ?_
  refine lv_dup hx hb dX11_init_137 rfl ?_
  have hPc := hP.sub (ws' := [(q274, .inr (2, fs275))]) [6] rfl
  have hDc := hD.sub (ws' := [(q274, .inr (2, fs275))]) [6] (by decide) rfl
  have hKc := hK.sub (tys' := []) [] rfl
  have hFc := va_free (wc := [(q274, .inr (2, fs275))]) hD hS hA [6] rfl
  refine va_callv (va_runI (As := []) (rest := [.ref q274, .int 11, .ref q17]) ⟨hx, hb, hml, hown, hG⟩ (c_House_init l dC dI z q274 fs275 H.size hl_276) (cwI 0 hG (gI m_134) rfl rfl rfl (hG _ m_133) (hG _ m_135) (hG _ m_136) rfl (by decide +kernel) ⟨Nat.le_of_ble_eq_true rfl, Nat.le_of_ble_eq_true rfl⟩) ⟨pre_blind, fun U hU hW => ⟨rfl, pre_call hU hW hPc hKc hDc hN (zkeep hZ hS) hFc⟩⟩ rfl rfl hl.1 rfl (lv_room (Nat.le_of_ble_eq_true rfl)) dX11_init_138 ⟨Nat.le_of_ble_eq_true rfl, Nat.le_of_ble_eq_true rfl⟩) hS (fun q _ h => hFc q h) hFc (fun u t H locs ht hvm hw hB hz1 hk1 hS => ?_)
  obtain ⟨fs279, q280, cA281, f282, hP1, hK1, hD1, hy283, hy284, hy285, hy286⟩ := hB
  rw [ht] at hP1
  have hK1 := va_K.moved hvm.symm hK1
  obtain ⟨hP, hD⟩ := va_join (wr := [(a, .inr (12, fs115)), (q1, .inr (2, fs6)), (q7, .inl (cA8, 12, .inl f9)), (q17, .inl (cA18, 12, .inr (.inr (.inr (.inr f273))))), (q49, .inr (5, fs54)), (q55, .inl (cA56, 6, .inl f57))]) (w1 := [(q274, .inr (2, fs279)), (q280, .inl (cA281, 12, .inl f282))]) hP hD [6] [0, 1, 2, 3, 4, 5] rfl rfl (by decide) (by decide) hk1 hFc hP1 hD1
  have hK := (hK.sub (tys' := [(cA8, .int), (cA18, .object "Seattable$House"), (cA56, .int)]) [0, 1, 2] rfl).app hK1
  have hP : va_P (dC, dI) classes [(a, .inr (12, fs115)), (q1, .inr (2, fs6)), (q7, .inl (cA8, 12, .inl f9)), (q17, .inl (cA18, 12, .inr (.inr (.inr (.inr f273))))), (q49, .inr (5, fs54)), (q55, .inl (cA56, 6, .inl f57)), (q274, .inr (2, fs279)), (q280, .inl (cA281, 12, .inl f282))] H := hP
  have hD : va_D A [(a, .inr (12, fs115)), (q1, .inr (2, fs6)), (q7, .inl (cA8, 12, .inl f9)), (q17, .inl (cA18, 12, .inr (.inr (.inr (.inr f273))))), (q49, .inr (5, fs54)), (q55, .inl (cA56, 6, .inl f57)), (q274, .inr (2, fs279)), (q280, .inl (cA281, 12, .inl f282))] := hD
  have hK : va_K (dC, dI) classes [(cA8, .int), (cA18, .object "Seattable$House"), (cA56, .int), (cA281, .int)] s := hK
  refine W.widen (k := 460) (n := 52562) (Nat.le_of_ble_eq_true rfl) (Nat.le_of_ble_eq_true rfl) ?_
  refine va_astq (D := (dC, dI)) (ci := 2) (r := (RX5, TX5, 19)) hx hb hK hP hD hS 3 1 6 rfl rfl rfl rfl (by unfold vp_in; decide) dX11_init_141 (fun H locs hP hD hS => ?_)
  have hP : va_P (dC, dI) classes [(a, .inr (12, fs115)), (q1, .inr (2, fs6)), (q7, .inl (cA8, 12, .inl f9)), (q17, .inl (cA18, 12, .inr (.inr (.inr (.inr (va_up f273 (11 : Int32).toNatClampNeg (some q274))))))), (q49, .inr (5, fs54)), (q55, .inl (cA56, 6, .inl f57)), (q274, .inr (2, fs279)), (q280, .inl (cA281, 12, .inl f282))] H := hP
  have hD : va_D A [(a, .inr (12, fs115)), (q1, .inr (2, fs6)), (q7, .inl (cA8, 12, .inl f9)), (q17, .inl (cA18, 12, .inr (.inr (.inr (.inr (va_up f273 (11 : Int32).toNatClampNeg (some q274))))))), (q49, .inr (5, fs54)), (q55, .inl (cA56, 6, .inl f57)), (q274, .inr (2, fs279)), (q280, .inl (cA281, 12, .inl f282))] := hD
  obtain ⟨f287, ef287⟩ : ∃ y : Nat → Option Nat, y = (va_up f273 (11 : Int32).toNatClampNeg (some q274)) := ⟨_, rfl⟩
  rw [← ef287] at hP hD
  have hP := hP.sub (ws' := [(a, .inr (12, fs115)), (q1, .inr (2, fs6)), (q7, .inl (cA8, 12, .inl f9)), (q17, .inl (cA18, 12, .inr (.inr (.inr (.inr f287))))), (q49, .inr (5, fs54)), (q55, .inl (cA56, 6, .inl f57))]) [0, 1, 2, 3, 4, 5] rfl
  have hD := hD.sub (ws' := [(a, .inr (12, fs115)), (q1, .inr (2, fs6)), (q7, .inl (cA8, 12, .inl f9)), (q17, .inl (cA18, 12, .inr (.inr (.inr (.inr f287))))), (q49, .inr (5, fs54)), (q55, .inl (cA56, 6, .inl f57))]) [0, 1, 2, 3, 4, 5] (by decide) rfl
  have hK := hK.sub (tys' := [(cA8, .int), (cA18, .object "Seattable$House"), (cA56, .int)]) [0, 1, 2] rfl
  refine lv_iinc (v := 12) (lv' := [(1, .int 12), (0, .ref a)]) hx hb dX11_init_142 hl (k := 0) rfl (by decide) (by decide) rfl (fun ls hl => ?_)
  refine lv_goto (tgt := 123) hx hb dX11_init_145 (by decide) ?_
  refine lv_iload_n hx hb dX11_init_123 rfl (lv_at hl 0 rfl) ?_
  refine lv_bipush (v := 12) hx hb dX11_init_124 (by decide) ?_
  refine lv_icmp_ge (tgt := 148) hx hb dX11_init_126 (by decide) (fun _ => ?_) (fun c9 => absurd (by decide) c9)
  have hP9 := hP.sub (ws' := [(a, .inr (12, fs115)), (q1, .inr (2, fs6)), (q49, .inr (5, fs54)), (q7, .inl (cA8, 12, .inl f9)), (q55, .inl (cA56, 6, .inl f57))]) [0, 1, 4, 2, 5] rfl
  have hD9 := hD.sub (ws' := [(a, .inr (12, fs115)), (q1, .inr (2, fs6)), (q49, .inr (5, fs54)), (q7, .inl (cA8, 12, .inl f9)), (q55, .inl (cA56, 6, .inl f57))]) [0, 1, 4, 2, 5] (by decide) rfl
  have hK9 := hK.sub (tys' := [(cA8, .int), (cA56, .int)]) [0, 2] rfl
  exact W.vret hx hb hr (fun t ht hW => ⟨⟨(), rfl, trivial, fs115, q1, fs6, q49, fs54, q7, cA8, f9, q55, cA56, f57, by rw [ht]; exact hP9, va_K.moved hW.alike hK9, hD9, hl_116, hf_117, hf_119, hy10, hy11, hy58, hy59, hy12, hy13⟩, hS.F ht⟩) hS.2.2 dX11_init_148

set_option maxHeartbeats 4000000 in
set_option maxRecDepth 100000 in
theorem c_State_init (l : Launch) (dC : Nat → ClassId) (dI : Nat → Nat → Nat) (z : Nat) (a : Nat) (fs : List Value) (sz : Nat) (hl_fs : fs.length = 28) (hf_fs_0 : fs[0]? = some (.int 0)) (hf_fs_1 : fs[1]? = some (.int 0)) : Met l yX14_init (Cond.code yX14_init cX14_init 2 none :: G) ({ frames := 4, cells := 13, slots := 189, locals := 72 }) (va_Pc [.ref a] (pre_ dC dI [(a, .inr (13, fs))] [] sz z)) (va_Qv (fun _ : Unit => True) (fun _ t => ∃ (fs116 : List Value), va_P (dC, dI) classes [(a, .inr (13, fs116))] t.heap ∧ va_K (dC, dI) classes [] t ∧ va_D (va_A [(a, .inr (13, fs))] sz) [(a, .inr (13, fs116))] ∧ fs116.length = 28 ∧ fs116[0]? = some (.int 0) ∧ fs116[1]? = some (.int 0)) (va_A [(a, .inr (13, fs))] sz)) 13 189 (va_A [(a, .inr (13, fs))] sz) := by
  refine Met.ofW (cc := cX14_init) (maxL := 2) (ret := none) (by decide) rfl ?_
  intro p e s m args below meth c s₁ B hml hv
  obtain ⟨rfl, hv⟩ := hv
  obtain ⟨hsz, hP, hK, hD0, hN, hZ⟩ := hv
  have hx := B.exec
  have hb := B.bytes
  have hr := B.returns
  have hG : ∀ w ∈ G, w.before _ s = true := fun w h => atoms_spec (ws := Cond.code yX14_init cX14_init 2 none :: G) B.pre w (List.mem_cons_of_mem _ h)
  have hown : s.vm.findClass "SeattableModel$State" = some m.cls := findClass_of_methodNamed B.named
  have hlocks := B.notSynchronized
  have hin : meth.name = "<init>" := (name_of_methodNamed B.named B.method).1
  subst hsz
  have hD := hD0.self (sz := s.heap.size)
  generalize hAe : va_A [(a, .inr (13, fs))] s.heap.size = A at hD hZ ⊢
  have hA : ∀ q : Nat, s.heap.size ≤ q → A q := fun q h => by rw [← hAe]; exact Or.inr h
  have hS : va_S A s.heap s.heap [] := va_S.rf
  have hP : va_P (dC, dI) classes [(a, .inr (13, fs))] s.heap := hP
  have hl := lv_entry ([.ref a]) (n := 2) (Nat.le_of_ble_eq_true rfl)
  rw [lg_entry_eq]
  generalize (lg_sl ([.ref a]) ++ List.replicate (2 - (lg_sl ([.ref a])).length) Slot.unset).toArray = ls at hl ⊢
  have hl : lv_has ls 2 [(0, .ref a)] := hl
  refine lv_aload_n hx hb dX14_init_0 rfl (lv_at hl 0 rfl) ?_
  refine W.objInit hx hb hown (hG _ m_190) (hG _ m_1) (hG _ m_2) rfl (by rw [hml]; exact hl.1) rfl dX14_init_1 (Nat.le_of_ble_eq_true rfl) (Nat.le_of_ble_eq_true rfl) ?_
  refine W.eq (g2 := F0 m 4 ls []) rfl ?_
  refine lv_aload_n hx hb dX14_init_4 rfl (lv_at hl 0 rfl) ?_
  refine lv_bipush (v := 30) hx hb dX14_init_5 (by decide) ?_
  refine nf_newa (D := (dC, dI)) (atype := .int) (N' := 30) hx hb (hG _ m_16) hP hS (by decide) (by decide) (Nat.le_of_ble_eq_true rfl) (Nat.le_of_ble_eq_true rfl) (Nat.le_of_ble_eq_true rfl) dX14_init_7 (fun q1 H hP hS hz9 => ?_)
  refine W.widen (k := 1) (n := 30) (Nat.le_of_ble_eq_true rfl) (Nat.le_of_ble_eq_true rfl) ?_
  refine va_put (D := (dC, dI)) (ci := 13) (v := .ref q1) (ty := .array .int) (C := RX14) (T := TX14) (N := 28) hx hb hG iX14 tyX14 tyX14_ok nmX14 hown hK hP hD hS 0 rfl rfl 2 (by decide) (hG _ m_191) (fun _ h9 => h9) rfl (by decide +kernel) rfl rfl (by rw [hl_fs]; decide) dX14_init_9 (fun H locs hP hD hS => ?_)
  have hP : va_P (dC, dI) classes [(a, .inr (13, (fs.set 2 (.ref q1))))] H := hP
  have hD : va_D A [(a, .inr (13, (fs.set 2 (.ref q1))))] := hD
  obtain ⟨fs2, efs2⟩ : ∃ y : List Value, y = fs.set 2 (.ref q1) := ⟨_, rfl⟩
  rw [← efs2] at hP hD
  have hl_3 : fs2.length = 28 := by rw [efs2, List.length_set]; exact hl_fs
  have hf_4 : fs2[0]? = some (.int 0) := by rw [efs2]; exact fs_set_ne hf_fs_0 (by decide)
  have hf_5 : fs2[1]? = some (.int 0) := by rw [efs2]; exact fs_set_ne hf_fs_1 (by decide)
  refine lv_aload_n hx hb dX14_init_12 rfl (lv_at hl 0 rfl) ?_
  refine lv_iconst (v := 5) hx hb dX14_init_13 (by decide) ?_
  refine nf_newa (D := (dC, dI)) (atype := .int) (N' := 5) hx hb (hG _ m_16) hP hS (by decide) (by decide) (Nat.le_of_ble_eq_true rfl) (Nat.le_of_ble_eq_true rfl) (Nat.le_of_ble_eq_true rfl) dX14_init_14 (fun q6 H hP hS hz9 => ?_)
  refine W.widen (k := 2) (n := 35) (Nat.le_of_ble_eq_true rfl) (Nat.le_of_ble_eq_true rfl) ?_
  refine va_put (D := (dC, dI)) (ci := 13) (v := .ref q6) (ty := .array .int) (C := RX14) (T := TX14) (N := 28) hx hb hG iX14 tyX14 tyX14_ok nmX14 hown hK hP hD hS 0 rfl rfl 3 (by decide) (hG _ m_192) (fun _ h9 => h9) rfl (by decide +kernel) rfl rfl (by rw [hl_3]; decide) dX14_init_16 (fun H locs hP hD hS => ?_)
  have hP : va_P (dC, dI) classes [(a, .inr (13, (fs2.set 3 (.ref q6))))] H := hP
  have hD : va_D A [(a, .inr (13, (fs2.set 3 (.ref q6))))] := hD
  obtain ⟨fs7, efs7⟩ : ∃ y : List Value, y = fs2.set 3 (.ref q6) := ⟨_, rfl⟩
  rw [← efs7] at hP hD
  have hl_8 : fs7.length = 28 := by rw [efs7, List.length_set]; exact hl_3
  have hf_9 : fs7[0]? = some (.int 0) := by rw [efs7]; exact fs_set_ne hf_4 (by decide)
  have hf_10 : fs7[1]? = some (.int 0) := by rw [efs7]; exact fs_set_ne hf_5 (by decide)
  refine lv_aload_n hx hb dX14_init_19 rfl (lv_at hl 0 rfl) ?_
  refine lv_bipush (v := 11) hx hb dX14_init_20 (by decide) ?_
  refine nf_newa (D := (dC, dI)) (atype := .int) (N' := 11) hx hb (hG _ m_16) hP hS (by decide) (by decide) (Nat.le_of_ble_eq_true rfl) (Nat.le_of_ble_eq_true rfl) (Nat.le_of_ble_eq_true rfl) dX14_init_22 (fun q11 H hP hS hz9 => ?_)
  refine W.widen (k := 3) (n := 46) (Nat.le_of_ble_eq_true rfl) (Nat.le_of_ble_eq_true rfl) ?_
  refine va_put (D := (dC, dI)) (ci := 13) (v := .ref q11) (ty := .array .int) (C := RX14) (T := TX14) (N := 28) hx hb hG iX14 tyX14 tyX14_ok nmX14 hown hK hP hD hS 0 rfl rfl 4 (by decide) (hG _ m_193) (fun _ h9 => h9) rfl (by decide +kernel) rfl rfl (by rw [hl_8]; decide) dX14_init_24 (fun H locs hP hD hS => ?_)
  have hP : va_P (dC, dI) classes [(a, .inr (13, (fs7.set 4 (.ref q11))))] H := hP
  have hD : va_D A [(a, .inr (13, (fs7.set 4 (.ref q11))))] := hD
  obtain ⟨fs12, efs12⟩ : ∃ y : List Value, y = fs7.set 4 (.ref q11) := ⟨_, rfl⟩
  rw [← efs12] at hP hD
  have hl_13 : fs12.length = 28 := by rw [efs12, List.length_set]; exact hl_8
  have hf_14 : fs12[0]? = some (.int 0) := by rw [efs12]; exact fs_set_ne hf_9 (by decide)
  have hf_15 : fs12[1]? = some (.int 0) := by rw [efs12]; exact fs_set_ne hf_10 (by decide)
  refine lv_aload_n hx hb dX14_init_27 rfl (lv_at hl 0 rfl) ?_
  refine lv_bipush (v := 11) hx hb dX14_init_28 (by decide) ?_
  refine va_newa (D := (dC, dI)) (atype := .int) (ty := .int) (N' := 11) (a0 := (11, .inl (fun _ => 0))) hx hb (hG _ m_16) rfl hK hP hD hS hA (fun cA => rfl) (by decide) (by decide) (Nat.le_of_ble_eq_true rfl) (Nat.le_of_ble_eq_true rfl) (Nat.le_of_ble_eq_true rfl) dX14_init_30 (fun q16 cA17 H hK hP hD hS => ?_)
  have hP : va_P (dC, dI) classes [(a, .inr (13, fs12)), (q16, .inl (cA17, 11, .inl (fun _ => 0)))] H := hP
  have hD : va_D A [(a, .inr (13, fs12)), (q16, .inl (cA17, 11, .inl (fun _ => 0)))] := hD
  have hK : va_K (dC, dI) classes [(cA17, .int)] s := hK
  obtain ⟨f18, ef18⟩ : ∃ y : Nat → Int32, y = (fun _ => 0) := ⟨_, rfl⟩
  rw [← ef18] at hP hD
  refine W.widen (k := 4) (n := 57) (Nat.le_of_ble_eq_true rfl) (Nat.le_of_ble_eq_true rfl) ?_
  refine va_put (D := (dC, dI)) (ci := 13) (v := .ref q16) (ty := .array .int) (C := RX14) (T := TX14) (N := 28) hx hb hG iX14 tyX14 tyX14_ok nmX14 hown hK hP hD hS 0 rfl rfl 5 (by decide) (hG _ m_194) (fun _ h9 => h9) rfl (by decide +kernel) rfl rfl (by rw [hl_13]; decide) dX14_init_32 (fun H locs hP hD hS => ?_)
  have hP : va_P (dC, dI) classes [(a, .inr (13, (fs12.set 5 (.ref q16)))), (q16, .inl (cA17, 11, .inl f18))] H := hP
  have hD : va_D A [(a, .inr (13, (fs12.set 5 (.ref q16)))), (q16, .inl (cA17, 11, .inl f18))] := hD
  obtain ⟨fs19, efs19⟩ : ∃ y : List Value, y = fs12.set 5 (.ref q16) := ⟨_, rfl⟩
  rw [← efs19] at hP hD
  have hl_20 : fs19.length = 28 := by rw [efs19, List.length_set]; exact hl_13
  have hf_21 : fs19[0]? = some (.int 0) := by rw [efs19]; exact fs_set_ne hf_14 (by decide)
  have hf_22 : fs19[1]? = some (.int 0) := by rw [efs19]; exact fs_set_ne hf_15 (by decide)
  have hf_23 : fs19[5]? = some (.ref q16) := by rw [efs19]; exact fs_set_eq hl_13 (by decide)
  refine lv_aload_n hx hb dX14_init_35 rfl (lv_at hl 0 rfl) ?_
  refine lv_bipush (v := 11) hx hb dX14_init_36 (by decide) ?_
  refine nf_newa (D := (dC, dI)) (atype := .int) (N' := 11) hx hb (hG _ m_16) hP hS (by decide) (by decide) (Nat.le_of_ble_eq_true rfl) (Nat.le_of_ble_eq_true rfl) (Nat.le_of_ble_eq_true rfl) dX14_init_38 (fun q24 H hP hS hz9 => ?_)
  refine W.widen (k := 5) (n := 68) (Nat.le_of_ble_eq_true rfl) (Nat.le_of_ble_eq_true rfl) ?_
  refine va_put (D := (dC, dI)) (ci := 13) (v := .ref q24) (ty := .array .int) (C := RX14) (T := TX14) (N := 28) hx hb hG iX14 tyX14 tyX14_ok nmX14 hown hK hP hD hS 0 rfl rfl 6 (by decide) (hG _ m_195) (fun _ h9 => h9) rfl (by decide +kernel) rfl rfl (by rw [hl_20]; decide) dX14_init_40 (fun H locs hP hD hS => ?_)
  have hP : va_P (dC, dI) classes [(a, .inr (13, (fs19.set 6 (.ref q24)))), (q16, .inl (cA17, 11, .inl f18))] H := hP
  have hD : va_D A [(a, .inr (13, (fs19.set 6 (.ref q24)))), (q16, .inl (cA17, 11, .inl f18))] := hD
  obtain ⟨fs25, efs25⟩ : ∃ y : List Value, y = fs19.set 6 (.ref q24) := ⟨_, rfl⟩
  rw [← efs25] at hP hD
  have hl_26 : fs25.length = 28 := by rw [efs25, List.length_set]; exact hl_20
  have hf_27 : fs25[0]? = some (.int 0) := by rw [efs25]; exact fs_set_ne hf_21 (by decide)
  have hf_28 : fs25[1]? = some (.int 0) := by rw [efs25]; exact fs_set_ne hf_22 (by decide)
  have hf_29 : fs25[5]? = some (.ref q16) := by rw [efs25]; exact fs_set_ne hf_23 (by decide)
  refine lv_aload_n hx hb dX14_init_43 rfl (lv_at hl 0 rfl) ?_
  refine lv_iconst (v := 1) hx hb dX14_init_44 (by decide) ?_
  refine va_put (D := (dC, dI)) (ci := 13) (v := .int 1) (ty := .int) (C := RX14) (T := TX14) (N := 28) hx hb hG iX14 tyX14 tyX14_ok nmX14 hown hK hP hD hS 0 rfl rfl 8 (by decide) (hG _ m_196) (fun _ h9 => h9) rfl (by decide +kernel) rfl rfl (by rw [hl_26]; decide) dX14_init_45 (fun H locs hP hD hS => ?_)
  have hP : va_P (dC, dI) classes [(a, .inr (13, (fs25.set 8 (.int 1)))), (q16, .inl (cA17, 11, .inl f18))] H := hP
  have hD : va_D A [(a, .inr (13, (fs25.set 8 (.int 1)))), (q16, .inl (cA17, 11, .inl f18))] := hD
  obtain ⟨fs30, efs30⟩ : ∃ y : List Value, y = fs25.set 8 (.int 1) := ⟨_, rfl⟩
  rw [← efs30] at hP hD
  have hl_31 : fs30.length = 28 := by rw [efs30, List.length_set]; exact hl_26
  have hf_32 : fs30[0]? = some (.int 0) := by rw [efs30]; exact fs_set_ne hf_27 (by decide)
  have hf_33 : fs30[1]? = some (.int 0) := by rw [efs30]; exact fs_set_ne hf_28 (by decide)
  have hf_34 : fs30[5]? = some (.ref q16) := by rw [efs30]; exact fs_set_ne hf_29 (by decide)
  refine lv_aload_n hx hb dX14_init_48 rfl (lv_at hl 0 rfl) ?_
  refine lv_iconst (v := 1) hx hb dX14_init_49 (by decide) ?_
  refine va_put (D := (dC, dI)) (ci := 13) (v := .int 1) (ty := .int) (C := RX14) (T := TX14) (N := 28) hx hb hG iX14 tyX14 tyX14_ok nmX14 hown hK hP hD hS 0 rfl rfl 9 (by decide) (hG _ m_197) (fun _ h9 => h9) rfl (by decide +kernel) rfl rfl (by rw [hl_31]; decide) dX14_init_50 (fun H locs hP hD hS => ?_)
  have hP : va_P (dC, dI) classes [(a, .inr (13, (fs30.set 9 (.int 1)))), (q16, .inl (cA17, 11, .inl f18))] H := hP
  have hD : va_D A [(a, .inr (13, (fs30.set 9 (.int 1)))), (q16, .inl (cA17, 11, .inl f18))] := hD
  obtain ⟨fs35, efs35⟩ : ∃ y : List Value, y = fs30.set 9 (.int 1) := ⟨_, rfl⟩
  rw [← efs35] at hP hD
  have hl_36 : fs35.length = 28 := by rw [efs35, List.length_set]; exact hl_31
  have hf_37 : fs35[0]? = some (.int 0) := by rw [efs35]; exact fs_set_ne hf_32 (by decide)
  have hf_38 : fs35[1]? = some (.int 0) := by rw [efs35]; exact fs_set_ne hf_33 (by decide)
  have hf_39 : fs35[5]? = some (.ref q16) := by rw [efs35]; exact fs_set_ne hf_34 (by decide)
  refine lv_aload_n hx hb dX14_init_53 rfl (lv_at hl 0 rfl) ?_
  refine lv_iconst (v := 2) hx hb dX14_init_54 (by decide) ?_
  refine va_put (D := (dC, dI)) (ci := 13) (v := .int 2) (ty := .int) (C := RX14) (T := TX14) (N := 28) hx hb hG iX14 tyX14 tyX14_ok nmX14 hown hK hP hD hS 0 rfl rfl 10 (by decide) (hG _ m_198) (fun _ h9 => h9) rfl (by decide +kernel) rfl rfl (by rw [hl_36]; decide) dX14_init_55 (fun H locs hP hD hS => ?_)
  have hP : va_P (dC, dI) classes [(a, .inr (13, (fs35.set 10 (.int 2)))), (q16, .inl (cA17, 11, .inl f18))] H := hP
  have hD : va_D A [(a, .inr (13, (fs35.set 10 (.int 2)))), (q16, .inl (cA17, 11, .inl f18))] := hD
  obtain ⟨fs40, efs40⟩ : ∃ y : List Value, y = fs35.set 10 (.int 2) := ⟨_, rfl⟩
  rw [← efs40] at hP hD
  have hl_41 : fs40.length = 28 := by rw [efs40, List.length_set]; exact hl_36
  have hf_42 : fs40[0]? = some (.int 0) := by rw [efs40]; exact fs_set_ne hf_37 (by decide)
  have hf_43 : fs40[1]? = some (.int 0) := by rw [efs40]; exact fs_set_ne hf_38 (by decide)
  have hf_44 : fs40[5]? = some (.ref q16) := by rw [efs40]; exact fs_set_ne hf_39 (by decide)
  refine lv_aload_n hx hb dX14_init_58 rfl (lv_at hl 0 rfl) ?_
  refine lv_iconst (v := 2) hx hb dX14_init_59 (by decide) ?_
  refine va_put (D := (dC, dI)) (ci := 13) (v := .int 2) (ty := .int) (C := RX14) (T := TX14) (N := 28) hx hb hG iX14 tyX14 tyX14_ok nmX14 hown hK hP hD hS 0 rfl rfl 11 (by decide) (hG _ m_199) (fun _ h9 => h9) rfl (by decide +kernel) rfl rfl (by rw [hl_41]; decide) dX14_init_60 (fun H locs hP hD hS => ?_)
  have hP : va_P (dC, dI) classes [(a, .inr (13, (fs40.set 11 (.int 2)))), (q16, .inl (cA17, 11, .inl f18))] H := hP
  have hD : va_D A [(a, .inr (13, (fs40.set 11 (.int 2)))), (q16, .inl (cA17, 11, .inl f18))] := hD
  obtain ⟨fs45, efs45⟩ : ∃ y : List Value, y = fs40.set 11 (.int 2) := ⟨_, rfl⟩
  rw [← efs45] at hP hD
  have hl_46 : fs45.length = 28 := by rw [efs45, List.length_set]; exact hl_41
  have hf_47 : fs45[0]? = some (.int 0) := by rw [efs45]; exact fs_set_ne hf_42 (by decide)
  have hf_48 : fs45[1]? = some (.int 0) := by rw [efs45]; exact fs_set_ne hf_43 (by decide)
  have hf_49 : fs45[5]? = some (.ref q16) := by rw [efs45]; exact fs_set_ne hf_44 (by decide)
  refine lv_aload_n hx hb dX14_init_63 rfl (lv_at hl 0 rfl) ?_
  refine lv_bipush (v := 20) hx hb dX14_init_64 (by decide) ?_
  refine nf_newa (D := (dC, dI)) (atype := .int) (N' := 20) hx hb (hG _ m_16) hP hS (by decide) (by decide) (Nat.le_of_ble_eq_true rfl) (Nat.le_of_ble_eq_true rfl) (Nat.le_of_ble_eq_true rfl) dX14_init_66 (fun q50 H hP hS hz9 => ?_)
  refine W.widen (k := 6) (n := 88) (Nat.le_of_ble_eq_true rfl) (Nat.le_of_ble_eq_true rfl) ?_
  refine va_put (D := (dC, dI)) (ci := 13) (v := .ref q50) (ty := .array .int) (C := RX14) (T := TX14) (N := 28) hx hb hG iX14 tyX14 tyX14_ok nmX14 hown hK hP hD hS 0 rfl rfl 13 (by decide) (hG _ m_200) (fun _ h9 => h9) rfl (by decide +kernel) rfl rfl (by rw [hl_46]; decide) dX14_init_68 (fun H locs hP hD hS => ?_)
  have hP : va_P (dC, dI) classes [(a, .inr (13, (fs45.set 13 (.ref q50)))), (q16, .inl (cA17, 11, .inl f18))] H := hP
  have hD : va_D A [(a, .inr (13, (fs45.set 13 (.ref q50)))), (q16, .inl (cA17, 11, .inl f18))] := hD
  obtain ⟨fs51, efs51⟩ : ∃ y : List Value, y = fs45.set 13 (.ref q50) := ⟨_, rfl⟩
  rw [← efs51] at hP hD
  have hl_52 : fs51.length = 28 := by rw [efs51, List.length_set]; exact hl_46
  have hf_53 : fs51[0]? = some (.int 0) := by rw [efs51]; exact fs_set_ne hf_47 (by decide)
  have hf_54 : fs51[1]? = some (.int 0) := by rw [efs51]; exact fs_set_ne hf_48 (by decide)
  have hf_55 : fs51[5]? = some (.ref q16) := by rw [efs51]; exact fs_set_ne hf_49 (by decide)
  refine lv_aload_n hx hb dX14_init_71 rfl (lv_at hl 0 rfl) ?_
  refine lv_bipush (v := 20) hx hb dX14_init_72 (by decide) ?_
  refine nf_newa (D := (dC, dI)) (atype := .int) (N' := 20) hx hb (hG _ m_16) hP hS (by decide) (by decide) (Nat.le_of_ble_eq_true rfl) (Nat.le_of_ble_eq_true rfl) (Nat.le_of_ble_eq_true rfl) dX14_init_74 (fun q56 H hP hS hz9 => ?_)
  refine W.widen (k := 7) (n := 108) (Nat.le_of_ble_eq_true rfl) (Nat.le_of_ble_eq_true rfl) ?_
  refine va_put (D := (dC, dI)) (ci := 13) (v := .ref q56) (ty := .array .int) (C := RX14) (T := TX14) (N := 28) hx hb hG iX14 tyX14 tyX14_ok nmX14 hown hK hP hD hS 0 rfl rfl 14 (by decide) (hG _ m_201) (fun _ h9 => h9) rfl (by decide +kernel) rfl rfl (by rw [hl_52]; decide) dX14_init_76 (fun H locs hP hD hS => ?_)
  have hP : va_P (dC, dI) classes [(a, .inr (13, (fs51.set 14 (.ref q56)))), (q16, .inl (cA17, 11, .inl f18))] H := hP
  have hD : va_D A [(a, .inr (13, (fs51.set 14 (.ref q56)))), (q16, .inl (cA17, 11, .inl f18))] := hD
  obtain ⟨fs57, efs57⟩ : ∃ y : List Value, y = fs51.set 14 (.ref q56) := ⟨_, rfl⟩
  rw [← efs57] at hP hD
  have hl_58 : fs57.length = 28 := by rw [efs57, List.length_set]; exact hl_52
  have hf_59 : fs57[0]? = some (.int 0) := by rw [efs57]; exact fs_set_ne hf_53 (by decide)
  have hf_60 : fs57[1]? = some (.int 0) := by rw [efs57]; exact fs_set_ne hf_54 (by decide)
  have hf_61 : fs57[5]? = some (.ref q16) := by rw [efs57]; exact fs_set_ne hf_55 (by decide)
  refine lv_aload_n hx hb dX14_init_79 rfl (lv_at hl 0 rfl) ?_
  refine lv_bipush (v := 27) hx hb dX14_init_80 (by decide) ?_
  refine nf_newa (D := (dC, dI)) (atype := .int) (N' := 27) hx hb (hG _ m_16) hP hS (by decide) (by decide) (Nat.le_of_ble_eq_true rfl) (Nat.le_of_ble_eq_true rfl) (Nat.le_of_ble_eq_true rfl) dX14_init_82 (fun q62 H hP hS hz9 => ?_)
  refine W.widen (k := 8) (n := 135) (Nat.le_of_ble_eq_true rfl) (Nat.le_of_ble_eq_true rfl) ?_
  refine va_put (D := (dC, dI)) (ci := 13) (v := .ref q62) (ty := .array .int) (C := RX14) (T := TX14) (N := 28) hx hb hG iX14 tyX14 tyX14_ok nmX14 hown hK hP hD hS 0 rfl rfl 16 (by decide) (hG _ m_202) (fun _ h9 => h9) rfl (by decide +kernel) rfl rfl (by rw [hl_58]; decide) dX14_init_84 (fun H locs hP hD hS => ?_)
  have hP : va_P (dC, dI) classes [(a, .inr (13, (fs57.set 16 (.ref q62)))), (q16, .inl (cA17, 11, .inl f18))] H := hP
  have hD : va_D A [(a, .inr (13, (fs57.set 16 (.ref q62)))), (q16, .inl (cA17, 11, .inl f18))] := hD
  obtain ⟨fs63, efs63⟩ : ∃ y : List Value, y = fs57.set 16 (.ref q62) := ⟨_, rfl⟩
  rw [← efs63] at hP hD
  have hl_64 : fs63.length = 28 := by rw [efs63, List.length_set]; exact hl_58
  have hf_65 : fs63[0]? = some (.int 0) := by rw [efs63]; exact fs_set_ne hf_59 (by decide)
  have hf_66 : fs63[1]? = some (.int 0) := by rw [efs63]; exact fs_set_ne hf_60 (by decide)
  have hf_67 : fs63[5]? = some (.ref q16) := by rw [efs63]; exact fs_set_ne hf_61 (by decide)
  refine lv_aload_n hx hb dX14_init_87 rfl (lv_at hl 0 rfl) ?_
  refine lv_bipush (v := 9) hx hb dX14_init_88 (by decide) ?_
  refine nf_newa (D := (dC, dI)) (atype := .int) (N' := 9) hx hb (hG _ m_16) hP hS (by decide) (by decide) (Nat.le_of_ble_eq_true rfl) (Nat.le_of_ble_eq_true rfl) (Nat.le_of_ble_eq_true rfl) dX14_init_90 (fun q68 H hP hS hz9 => ?_)
  refine W.widen (k := 9) (n := 144) (Nat.le_of_ble_eq_true rfl) (Nat.le_of_ble_eq_true rfl) ?_
  refine va_put (D := (dC, dI)) (ci := 13) (v := .ref q68) (ty := .array .int) (C := RX14) (T := TX14) (N := 28) hx hb hG iX14 tyX14 tyX14_ok nmX14 hown hK hP hD hS 0 rfl rfl 17 (by decide) (hG _ m_203) (fun _ h9 => h9) rfl (by decide +kernel) rfl rfl (by rw [hl_64]; decide) dX14_init_92 (fun H locs hP hD hS => ?_)
  have hP : va_P (dC, dI) classes [(a, .inr (13, (fs63.set 17 (.ref q68)))), (q16, .inl (cA17, 11, .inl f18))] H := hP
  have hD : va_D A [(a, .inr (13, (fs63.set 17 (.ref q68)))), (q16, .inl (cA17, 11, .inl f18))] := hD
  obtain ⟨fs69, efs69⟩ : ∃ y : List Value, y = fs63.set 17 (.ref q68) := ⟨_, rfl⟩
  rw [← efs69] at hP hD
  have hl_70 : fs69.length = 28 := by rw [efs69, List.length_set]; exact hl_64
  have hf_71 : fs69[0]? = some (.int 0) := by rw [efs69]; exact fs_set_ne hf_65 (by decide)
  have hf_72 : fs69[1]? = some (.int 0) := by rw [efs69]; exact fs_set_ne hf_66 (by decide)
  have hf_73 : fs69[5]? = some (.ref q16) := by rw [efs69]; exact fs_set_ne hf_67 (by decide)
  refine lv_aload_n hx hb dX14_init_95 rfl (lv_at hl 0 rfl) ?_
  refine lv_bipush (v := 27) hx hb dX14_init_96 (by decide) ?_
  refine nf_newa (D := (dC, dI)) (atype := .int) (N' := 27) hx hb (hG _ m_16) hP hS (by decide) (by decide) (Nat.le_of_ble_eq_true rfl) (Nat.le_of_ble_eq_true rfl) (Nat.le_of_ble_eq_true rfl) dX14_init_98 (fun q74 H hP hS hz9 => ?_)
  refine W.widen (k := 10) (n := 171) (Nat.le_of_ble_eq_true rfl) (Nat.le_of_ble_eq_true rfl) ?_
  refine va_put (D := (dC, dI)) (ci := 13) (v := .ref q74) (ty := .array .int) (C := RX14) (T := TX14) (N := 28) hx hb hG iX14 tyX14 tyX14_ok nmX14 hown hK hP hD hS 0 rfl rfl 19 (by decide) (hG _ m_204) (fun _ h9 => h9) rfl (by decide +kernel) rfl rfl (by rw [hl_70]; decide) dX14_init_100 (fun H locs hP hD hS => ?_)
  have hP : va_P (dC, dI) classes [(a, .inr (13, (fs69.set 19 (.ref q74)))), (q16, .inl (cA17, 11, .inl f18))] H := hP
  have hD : va_D A [(a, .inr (13, (fs69.set 19 (.ref q74)))), (q16, .inl (cA17, 11, .inl f18))] := hD
  obtain ⟨fs75, efs75⟩ : ∃ y : List Value, y = fs69.set 19 (.ref q74) := ⟨_, rfl⟩
  rw [← efs75] at hP hD
  have hl_76 : fs75.length = 28 := by rw [efs75, List.length_set]; exact hl_70
  have hf_77 : fs75[0]? = some (.int 0) := by rw [efs75]; exact fs_set_ne hf_71 (by decide)
  have hf_78 : fs75[1]? = some (.int 0) := by rw [efs75]; exact fs_set_ne hf_72 (by decide)
  have hf_79 : fs75[5]? = some (.ref q16) := by rw [efs75]; exact fs_set_ne hf_73 (by decide)
  refine lv_aload_n hx hb dX14_init_103 rfl (lv_at hl 0 rfl) ?_
  refine lv_bipush (v := 9) hx hb dX14_init_104 (by decide) ?_
  refine va_newa (D := (dC, dI)) (atype := .int) (ty := .int) (N' := 9) (a0 := (9, .inl (fun _ => 0))) hx hb (hG _ m_16) rfl hK hP hD hS hA (fun cA => rfl) (by decide) (by decide) (Nat.le_of_ble_eq_true rfl) (Nat.le_of_ble_eq_true rfl) (Nat.le_of_ble_eq_true rfl) dX14_init_106 (fun q80 cA81 H hK hP hD hS => ?_)
  have hP : va_P (dC, dI) classes [(a, .inr (13, fs75)), (q16, .inl (cA17, 11, .inl f18)), (q80, .inl (cA81, 9, .inl (fun _ => 0)))] H := hP
  have hD : va_D A [(a, .inr (13, fs75)), (q16, .inl (cA17, 11, .inl f18)), (q80, .inl (cA81, 9, .inl (fun _ => 0)))] := hD
  have hK : va_K (dC, dI) classes [(cA17, .int), (cA81, .int)] s := hK
  obtain ⟨f82, ef82⟩ : ∃ y : Nat → Int32, y = (fun _ => 0) := ⟨_, rfl⟩
  rw [← ef82] at hP hD
  refine W.widen (k := 11) (n := 180) (Nat.le_of_ble_eq_true rfl) (Nat.le_of_ble_eq_true rfl) ?_
  refine va_put (D := (dC, dI)) (ci := 13) (v := .ref q80) (ty := .array .int) (C := RX14) (T := TX14) (N := 28) hx hb hG iX14 tyX14 tyX14_ok nmX14 hown hK hP hD hS 0 rfl rfl 20 (by decide) (hG _ m_205) (fun _ h9 => h9) rfl (by decide +kernel) rfl rfl (by rw [hl_76]; decide) dX14_init_108 (fun H locs hP hD hS => ?_)
  have hP : va_P (dC, dI) classes [(a, .inr (13, (fs75.set 20 (.ref q80)))), (q16, .inl (cA17, 11, .inl f18)), (q80, .inl (cA81, 9, .inl f82))] H := hP
  have hD : va_D A [(a, .inr (13, (fs75.set 20 (.ref q80)))), (q16, .inl (cA17, 11, .inl f18)), (q80, .inl (cA81, 9, .inl f82))] := hD
  obtain ⟨fs83, efs83⟩ : ∃ y : List Value, y = fs75.set 20 (.ref q80) := ⟨_, rfl⟩
  rw [← efs83] at hP hD
  have hl_84 : fs83.length = 28 := by rw [efs83, List.length_set]; exact hl_76
  have hf_85 : fs83[0]? = some (.int 0) := by rw [efs83]; exact fs_set_ne hf_77 (by decide)
  have hf_86 : fs83[1]? = some (.int 0) := by rw [efs83]; exact fs_set_ne hf_78 (by decide)
  have hf_87 : fs83[5]? = some (.ref q16) := by rw [efs83]; exact fs_set_ne hf_79 (by decide)
  have hf_88 : fs83[20]? = some (.ref q80) := by rw [efs83]; exact fs_set_eq hl_76 (by decide)
  refine lv_aload_n hx hb dX14_init_111 rfl (lv_at hl 0 rfl) ?_
  refine lv_bipush (v := 6) hx hb dX14_init_112 (by decide) ?_
  refine nf_newa (D := (dC, dI)) (atype := .int) (N' := 6) hx hb (hG _ m_16) hP hS (by decide) (by decide) (Nat.le_of_ble_eq_true rfl) (Nat.le_of_ble_eq_true rfl) (Nat.le_of_ble_eq_true rfl) dX14_init_114 (fun q89 H hP hS hz9 => ?_)
  refine W.widen (k := 12) (n := 186) (Nat.le_of_ble_eq_true rfl) (Nat.le_of_ble_eq_true rfl) ?_
  refine va_put (D := (dC, dI)) (ci := 13) (v := .ref q89) (ty := .array .int) (C := RX14) (T := TX14) (N := 28) hx hb hG iX14 tyX14 tyX14_ok nmX14 hown hK hP hD hS 0 rfl rfl 22 (by decide) (hG _ m_206) (fun _ h9 => h9) rfl (by decide +kernel) rfl rfl (by rw [hl_84]; decide) dX14_init_116 (fun H locs hP hD hS => ?_)
  have hP : va_P (dC, dI) classes [(a, .inr (13, (fs83.set 22 (.ref q89)))), (q16, .inl (cA17, 11, .inl f18)), (q80, .inl (cA81, 9, .inl f82))] H := hP
  have hD : va_D A [(a, .inr (13, (fs83.set 22 (.ref q89)))), (q16, .inl (cA17, 11, .inl f18)), (q80, .inl (cA81, 9, .inl f82))] := hD
  obtain ⟨fs90, efs90⟩ : ∃ y : List Value, y = fs83.set 22 (.ref q89) := ⟨_, rfl⟩
  rw [← efs90] at hP hD
  have hl_91 : fs90.length = 28 := by rw [efs90, List.length_set]; exact hl_84
  have hf_92 : fs90[0]? = some (.int 0) := by rw [efs90]; exact fs_set_ne hf_85 (by decide)
  have hf_93 : fs90[1]? = some (.int 0) := by rw [efs90]; exact fs_set_ne hf_86 (by decide)
  have hf_94 : fs90[5]? = some (.ref q16) := by rw [efs90]; exact fs_set_ne hf_87 (by decide)
  have hf_95 : fs90[20]? = some (.ref q80) := by rw [efs90]; exact fs_set_ne hf_88 (by decide)
  refine lv_aload_n hx hb dX14_init_119 rfl (lv_at hl 0 rfl) ?_
  refine lv_iconst (v := 1) hx hb dX14_init_120 (by decide) ?_
  refine va_put (D := (dC, dI)) (ci := 13) (v := .int 1) (ty := .int) (C := RX14) (T := TX14) (N := 28) hx hb hG iX14 tyX14 tyX14_ok nmX14 hown hK hP hD hS 0 rfl rfl 23 (by decide) (hG _ m_207) (fun _ h9 => h9) rfl (by decide +kernel) rfl rfl (by rw [hl_91]; decide) dX14_init_121 (fun H locs hP hD hS => ?_)
  have hP : va_P (dC, dI) classes [(a, .inr (13, (fs90.set 23 (.int 1)))), (q16, .inl (cA17, 11, .inl f18)), (q80, .inl (cA81, 9, .inl f82))] H := hP
  have hD : va_D A [(a, .inr (13, (fs90.set 23 (.int 1)))), (q16, .inl (cA17, 11, .inl f18)), (q80, .inl (cA81, 9, .inl f82))] := hD
  obtain ⟨fs96, efs96⟩ : ∃ y : List Value, y = fs90.set 23 (.int 1) := ⟨_, rfl⟩
  rw [← efs96] at hP hD
  have hl_97 : fs96.length = 28 := by rw [efs96, List.length_set]; exact hl_91
  have hf_98 : fs96[0]? = some (.int 0) := by rw [efs96]; exact fs_set_ne hf_92 (by decide)
  have hf_99 : fs96[1]? = some (.int 0) := by rw [efs96]; exact fs_set_ne hf_93 (by decide)
  have hf_100 : fs96[5]? = some (.ref q16) := by rw [efs96]; exact fs_set_ne hf_94 (by decide)
  have hf_101 : fs96[20]? = some (.ref q80) := by rw [efs96]; exact fs_set_ne hf_95 (by decide)
  refine lv_aload_n hx hb dX14_init_124 rfl (lv_at hl 0 rfl) ?_
  refine lv_iconst (v := (-1)) hx hb dX14_init_125 (by decide) ?_
  refine va_put (D := (dC, dI)) (ci := 13) (v := .int (-1)) (ty := .int) (C := RX14) (T := TX14) (N := 28) hx hb hG iX14 tyX14 tyX14_ok nmX14 hown hK hP hD hS 0 rfl rfl 24 (by decide) (hG _ m_208) (fun _ h9 => h9) rfl (by decide +kernel) rfl rfl (by rw [hl_97]; decide) dX14_init_126 (fun H locs hP hD hS => ?_)
  have hP : va_P (dC, dI) classes [(a, .inr (13, (fs96.set 24 (.int (-1))))), (q16, .inl (cA17, 11, .inl f18)), (q80, .inl (cA81, 9, .inl f82))] H := hP
  have hD : va_D A [(a, .inr (13, (fs96.set 24 (.int (-1))))), (q16, .inl (cA17, 11, .inl f18)), (q80, .inl (cA81, 9, .inl f82))] := hD
  obtain ⟨fs102, efs102⟩ : ∃ y : List Value, y = fs96.set 24 (.int (-1)) := ⟨_, rfl⟩
  rw [← efs102] at hP hD
  have hl_103 : fs102.length = 28 := by rw [efs102, List.length_set]; exact hl_97
  have hf_104 : fs102[0]? = some (.int 0) := by rw [efs102]; exact fs_set_ne hf_98 (by decide)
  have hf_105 : fs102[1]? = some (.int 0) := by rw [efs102]; exact fs_set_ne hf_99 (by decide)
  have hf_106 : fs102[5]? = some (.ref q16) := by rw [efs102]; exact fs_set_ne hf_100 (by decide)
  have hf_107 : fs102[20]? = some (.ref q80) := by rw [efs102]; exact fs_set_ne hf_101 (by decide)
  refine lv_aload_n hx hb dX14_init_129 rfl (lv_at hl 0 rfl) ?_
  refine va_new (D := (dC, dI)) (ci := 0) (fs := (List.range 3).map (fun k => defaultValue (tyJx4a65c k))) (C := RJx4a65c) (T := TJx4a65c) (N := 3) hx hb hG iJx4a65c tyJx4a65c tyJx4a65c_ok hown (hG _ m_209) (hG _ m_210) (hG _ m_211) hK hP hD hS hA rfl (fs_new 3 tyJx4a65c) (Nat.le_of_ble_eq_true rfl) (Nat.le_of_ble_eq_true rfl) dX14_init_130 (fun q108 H hP hD hS => ?_)
  have hP : va_P (dC, dI) classes [(a, .inr (13, fs102)), (q16, .inl (cA17, 11, .inl f18)), (q80, .inl (cA81, 9, .inl f82)), (q108, .inr (0, ((List.range 3).map (fun k => defaultValue (tyJx4a65c k)))))] H := hP
  have hD : va_D A [(a, .inr (13, fs102)), (q16, .inl (cA17, 11, .inl f18)), (q80, .inl (cA81, 9, .inl f82)), (q108, .inr (0, ((List.range 3).map (fun k => defaultValue (tyJx4a65c k)))))] := hD
  obtain ⟨fs109, efs109⟩ : ∃ y : List Value, y = (List.range 3).map (fun k => defaultValue (tyJx4a65c k)) := ⟨_, rfl⟩
  rw [← efs109] at hP hD
  have hl_110 : fs109.length = 3 := by rw [efs109, List.length_map, List.length_range]
  have hf_111 : fs109[2]? = some (.int 0) := by rw [efs109]; rfl
  refine W.widen (k := 13) (n := 189) (Nat.le_of_ble_eq_true rfl) (Nat.le_of_ble_eq_true rfl) ?_
  refine lv_dup hx hb dX14_init_133 rfl ?_
  have hPc := hP.sub (ws' := [(q108, .inr (0, fs109))]) [3] rfl
  have hDc := hD.sub (ws' := [(q108, .inr (0, fs109))]) [3] (by decide) rfl
  have hKc := hK.sub (tys' := []) [] rfl
  have hFc := va_free (wc := [(q108, .inr (0, fs109))]) hD hS hA [3] rfl
  refine va_callv (va_runI (As := []) (rest := [.ref q108, .ref a]) ⟨hx, hb, hml, hown, hG⟩ (c_ArrayList_init l dC dI z q108 fs109 H.size hl_110 hf_111) (cwI 0 hG (gI m_212) rfl rfl rfl (hG _ m_211) (hG _ m_213) (hG _ m_214) rfl (by decide +kernel) ⟨Nat.le_of_ble_eq_true rfl, Nat.le_of_ble_eq_true rfl⟩) ⟨pre_blind, fun U hU hW => ⟨rfl, pre_call hU hW hPc hKc hDc hN (zkeep hZ hS) hFc⟩⟩ rfl rfl hl.1 rfl (lv_room (Nat.le_of_ble_eq_true rfl)) dX14_init_134 ⟨Nat.le_of_ble_eq_true rfl, Nat.le_of_ble_eq_true rfl⟩) hS (fun q _ h => hFc q h) hFc (fun u t H locs ht hvm hw hB hz1 hk1 hS => ?_)
  obtain ⟨fs113, hP1, hK1, hD1, hy114, hy115⟩ := hB
  rw [ht] at hP1
  have hK1 := va_K.moved hvm.symm hK1
  obtain ⟨hP, hD⟩ := va_join (wr := [(a, .inr (13, fs102)), (q16, .inl (cA17, 11, .inl f18)), (q80, .inl (cA81, 9, .inl f82))]) (w1 := [(q108, .inr (0, fs113))]) hP hD [3] [0, 1, 2] rfl rfl (by decide) (by decide) hk1 hFc hP1 hD1
  have hK := (hK.sub (tys' := [(cA17, .int), (cA81, .int)]) [0, 1] rfl).app hK1
  have hP : va_P (dC, dI) classes [(a, .inr (13, fs102)), (q16, .inl (cA17, 11, .inl f18)), (q80, .inl (cA81, 9, .inl f82)), (q108, .inr (0, fs113))] H := hP
  have hD : va_D A [(a, .inr (13, fs102)), (q16, .inl (cA17, 11, .inl f18)), (q80, .inl (cA81, 9, .inl f82)), (q108, .inr (0, fs113))] := hD
  have hK : va_K (dC, dI) classes [(cA17, .int), (cA81, .int)] s := hK
  refine va_put (D := (dC, dI)) (ci := 13) (v := .ref q108) (ty := .object "java/util/ArrayList") (C := RX14) (T := TX14) (N := 28) hx hb hG iX14 tyX14 tyX14_ok nmX14 hown hK hP hD hS 0 rfl rfl 25 (by decide) (hG _ m_215) (fun _ h9 => h9) rfl (by decide +kernel) rfl rfl (by rw [hl_103]; decide) dX14_init_137 (fun H locs hP hD hS => ?_)
  have hP : va_P (dC, dI) classes [(a, .inr (13, (fs102.set 25 (.ref q108)))), (q16, .inl (cA17, 11, .inl f18)), (q80, .inl (cA81, 9, .inl f82)), (q108, .inr (0, fs113))] H := hP
  have hD : va_D A [(a, .inr (13, (fs102.set 25 (.ref q108)))), (q16, .inl (cA17, 11, .inl f18)), (q80, .inl (cA81, 9, .inl f82)), (q108, .inr (0, fs113))] := hD
  obtain ⟨fs116, efs116⟩ : ∃ y : List Value, y = fs102.set 25 (.ref q108) := ⟨_, rfl⟩
  rw [← efs116] at hP hD
  have hl_117 : fs116.length = 28 := by rw [efs116, List.length_set]; exact hl_103
  have hf_118 : fs116[0]? = some (.int 0) := by rw [efs116]; exact fs_set_ne hf_104 (by decide)
  have hf_119 : fs116[1]? = some (.int 0) := by rw [efs116]; exact fs_set_ne hf_105 (by decide)
  have hf_120 : fs116[5]? = some (.ref q16) := by rw [efs116]; exact fs_set_ne hf_106 (by decide)
  have hf_121 : fs116[20]? = some (.ref q80) := by rw [efs116]; exact fs_set_ne hf_107 (by decide)
  have hP := hP.sub (ws' := [(a, .inr (13, fs116)), (q16, .inl (cA17, 11, .inl f18)), (q80, .inl (cA81, 9, .inl f82))]) [0, 1, 2] rfl
  have hD := hD.sub (ws' := [(a, .inr (13, fs116)), (q16, .inl (cA17, 11, .inl f18)), (q80, .inl (cA81, 9, .inl f82))]) [0, 1, 2] (by decide) rfl
  have hK := hK.sub (tys' := [(cA17, .int), (cA81, .int)]) [0, 1] rfl
  refine lv_iconst (v := 0) hx hb dX14_init_140 (by decide) ?_
  refine lv_istore_n (lv' := [(1, .int 0), (0, .ref a)]) hx hb dX14_init_141 rfl hl (by decide) rfl (fun ls hl => ?_)
  refine lv_iload_n hx hb dX14_init_142 rfl (lv_at hl 0 rfl) ?_
  refine lv_bipush (v := 11) hx hb dX14_init_143 (by decide) ?_
  refine lv_icmp_ge (tgt := 163) hx hb dX14_init_145 (by decide) (fun c9 => absurd c9 (by decide)) (fun _ => ?_)
  refine lv_aload_n hx hb dX14_init_148 rfl (lv_at hl 1 rfl) ?_
  refine va_get (D := (dC, dI)) (ci := 13) (v := .ref q16) (C := RX14) (T := TX14) (N := 28) hx hb hG iX14 hown hK hP 0 rfl rfl 5 (by decide) (hG _ m_194) (fun _ h9 => h9) hf_120 dX14_init_149 ?_
  refine lv_iload_n hx hb dX14_init_152 rfl (lv_at hl 0 rfl) ?_
  refine lv_sipush (v := 400) hx hb dX14_init_153 (by decide) ?_
  refine va_iast (D := (dC, dI)) hx hb hK hP hD hS 1 0 rfl rfl (by unfold vp_in; decide) dX14_init_156 (fun H locs hP hD hS => ?_)
  have hP : va_P (dC, dI) classes [(a, .inr (13, fs116)), (q16, .inl (cA17, 11, .inl (upd f18 (0 : Int32).toNatClampNeg 400))), (q80, .inl (cA81, 9, .inl f82))] H := hP
  have hD : va_D A [(a, .inr (13, fs116)), (q16, .inl (cA17, 11, .inl (upd f18 (0 : Int32).toNatClampNeg 400))), (q80, .inl (cA81, 9, .inl f82))] := hD
  obtain ⟨f122, ef122⟩ : ∃ y : Nat → Int32, y = (upd f18 (0 : Int32).toNatClampNeg 400) := ⟨_, rfl⟩
  rw [← ef122] at hP hD
  refine lv_iinc (v := 1) (lv' := [(1, .int 1), (0, .ref a)]) hx hb dX14_init_157 hl (k := 0) rfl (by decide) (by decide) rfl (fun ls hl => ?_)
  refine lv_goto (tgt := 142) hx hb dX14_init_160 (by decide) ?_
  refine lv_iload_n hx hb dX14_init_142 rfl (lv_at hl 0 rfl) ?_
  refine lv_bipush (v := 11) hx hb dX14_init_143 (by decide) ?_
  refine lv_icmp_ge (tgt := 163) hx hb dX14_init_145 (by decide) (fun c9 => absurd c9 (by decide)) (fun _ => ?_)
  refine lv_aload_n hx hb dX14_init_148 rfl (lv_at hl 1 rfl) ?_
  refine va_get (D := (dC, dI)) (ci := 13) (v := .ref q16) (C := RX14) (T := TX14) (N := 28) hx hb hG iX14 hown hK hP 0 rfl rfl 5 (by decide) (hG _ m_194) (fun _ h9 => h9) hf_120 dX14_init_149 ?_
  refine lv_iload_n hx hb dX14_init_152 rfl (lv_at hl 0 rfl) ?_
  refine lv_sipush (v := 400) hx hb dX14_init_153 (by decide) ?_
  refine va_iast (D := (dC, dI)) hx hb hK hP hD hS 1 0 rfl rfl (by unfold vp_in; decide) dX14_init_156 (fun H locs hP hD hS => ?_)
  have hP : va_P (dC, dI) classes [(a, .inr (13, fs116)), (q16, .inl (cA17, 11, .inl (upd f122 (1 : Int32).toNatClampNeg 400))), (q80, .inl (cA81, 9, .inl f82))] H := hP
  have hD : va_D A [(a, .inr (13, fs116)), (q16, .inl (cA17, 11, .inl (upd f122 (1 : Int32).toNatClampNeg 400))), (q80, .inl (cA81, 9, .inl f82))] := hD
  obtain ⟨f123, ef123⟩ : ∃ y : Nat → Int32, y = (upd f122 (1 : Int32).toNatClampNeg 400) := ⟨_, rfl⟩
  rw [← ef123] at hP hD
  refine lv_iinc (v := 2) (lv' := [(1, .int 2), (0, .ref a)]) hx hb dX14_init_157 hl (k := 0) rfl (by decide) (by decide) rfl (fun ls hl => ?_)
  refine lv_goto (tgt := 142) hx hb dX14_init_160 (by decide) ?_
  refine lv_iload_n hx hb dX14_init_142 rfl (lv_at hl 0 rfl) ?_
  refine lv_bipush (v := 11) hx hb dX14_init_143 (by decide) ?_
  refine lv_icmp_ge (tgt := 163) hx hb dX14_init_145 (by decide) (fun c9 => absurd c9 (by decide)) (fun _ => ?_)
  refine lv_aload_n hx hb dX14_init_148 rfl (lv_at hl 1 rfl) ?_
  refine va_get (D := (dC, dI)) (ci := 13) (v := .ref q16) (C := RX14) (T := TX14) (N := 28) hx hb hG iX14 hown hK hP 0 rfl rfl 5 (by decide) (hG _ m_194) (fun _ h9 => h9) hf_120 dX14_init_149 ?_
  refine lv_iload_n hx hb dX14_init_152 rfl (lv_at hl 0 rfl) ?_
  refine lv_sipush (v := 400) hx hb dX14_init_153 (by decide) ?_
  refine va_iast (D := (dC, dI)) hx hb hK hP hD hS 1 0 rfl rfl (by unfold vp_in; decide) dX14_init_156 (fun H locs hP hD hS => ?_)
  have hP : va_P (dC, dI) classes [(a, .inr (13, fs116)), (q16, .inl (cA17, 11, .inl (upd f123 (2 : Int32).toNatClampNeg 400))), (q80, .inl (cA81, 9, .inl f82))] H := hP
  have hD : va_D A [(a, .inr (13, fs116)), (q16, .inl (cA17, 11, .inl (upd f123 (2 : Int32).toNatClampNeg 400))), (q80, .inl (cA81, 9, .inl f82))] := hD
  obtain ⟨f124, ef124⟩ : ∃ y : Nat → Int32, y = (upd f123 (2 : Int32).toNatClampNeg 400) := ⟨_, rfl⟩
  rw [← ef124] at hP hD
  refine lv_iinc (v := 3) (lv' := [(1, .int 3), (0, .ref a)]) hx hb dX14_init_157 hl (k := 0) rfl (by decide) (by decide) rfl (fun ls hl => ?_)
  refine lv_goto (tgt := 142) hx hb dX14_init_160 (by decide) ?_
  refine lv_iload_n hx hb dX14_init_142 rfl (lv_at hl 0 rfl) ?_
  refine lv_bipush (v := 11) hx hb dX14_init_143 (by decide) ?_
  refine lv_icmp_ge (tgt := 163) hx hb dX14_init_145 (by decide) (fun c9 => absurd c9 (by decide)) (fun _ => ?_)
  refine lv_aload_n hx hb dX14_init_148 rfl (lv_at hl 1 rfl) ?_
  refine va_get (D := (dC, dI)) (ci := 13) (v := .ref q16) (C := RX14) (T := TX14) (N := 28) hx hb hG iX14 hown hK hP 0 rfl rfl 5 (by decide) (hG _ m_194) (fun _ h9 => h9) hf_120 dX14_init_149 ?_
  refine lv_iload_n hx hb dX14_init_152 rfl (lv_at hl 0 rfl) ?_
  refine lv_sipush (v := 400) hx hb dX14_init_153 (by decide) ?_
  refine va_iast (D := (dC, dI)) hx hb hK hP hD hS 1 0 rfl rfl (by unfold vp_in; decide) dX14_init_156 (fun H locs hP hD hS => ?_)
  have hP : va_P (dC, dI) classes [(a, .inr (13, fs116)), (q16, .inl (cA17, 11, .inl (upd f124 (3 : Int32).toNatClampNeg 400))), (q80, .inl (cA81, 9, .inl f82))] H := hP
  have hD : va_D A [(a, .inr (13, fs116)), (q16, .inl (cA17, 11, .inl (upd f124 (3 : Int32).toNatClampNeg 400))), (q80, .inl (cA81, 9, .inl f82))] := hD
  obtain ⟨f125, ef125⟩ : ∃ y : Nat → Int32, y = (upd f124 (3 : Int32).toNatClampNeg 400) := ⟨_, rfl⟩
  rw [← ef125] at hP hD
  refine lv_iinc (v := 4) (lv' := [(1, .int 4), (0, .ref a)]) hx hb dX14_init_157 hl (k := 0) rfl (by decide) (by decide) rfl (fun ls hl => ?_)
  refine lv_goto (tgt := 142) hx hb dX14_init_160 (by decide) ?_
  refine lv_iload_n hx hb dX14_init_142 rfl (lv_at hl 0 rfl) ?_
  refine lv_bipush (v := 11) hx hb dX14_init_143 (by decide) ?_
  refine lv_icmp_ge (tgt := 163) hx hb dX14_init_145 (by decide) (fun c9 => absurd c9 (by decide)) (fun _ => ?_)
  refine lv_aload_n hx hb dX14_init_148 rfl (lv_at hl 1 rfl) ?_
  refine va_get (D := (dC, dI)) (ci := 13) (v := .ref q16) (C := RX14) (T := TX14) (N := 28) hx hb hG iX14 hown hK hP 0 rfl rfl 5 (by decide) (hG _ m_194) (fun _ h9 => h9) hf_120 dX14_init_149 ?_
  refine lv_iload_n hx hb dX14_init_152 rfl (lv_at hl 0 rfl) ?_
  refine lv_sipush (v := 400) hx hb dX14_init_153 (by decide) ?_
  refine va_iast (D := (dC, dI)) hx hb hK hP hD hS 1 0 rfl rfl (by unfold vp_in; decide) dX14_init_156 (fun H locs hP hD hS => ?_)
  have hP : va_P (dC, dI) classes [(a, .inr (13, fs116)), (q16, .inl (cA17, 11, .inl (upd f125 (4 : Int32).toNatClampNeg 400))), (q80, .inl (cA81, 9, .inl f82))] H := hP
  have hD : va_D A [(a, .inr (13, fs116)), (q16, .inl (cA17, 11, .inl (upd f125 (4 : Int32).toNatClampNeg 400))), (q80, .inl (cA81, 9, .inl f82))] := hD
  obtain ⟨f126, ef126⟩ : ∃ y : Nat → Int32, y = (upd f125 (4 : Int32).toNatClampNeg 400) := ⟨_, rfl⟩
  rw [← ef126] at hP hD
  refine lv_iinc (v := 5) (lv' := [(1, .int 5), (0, .ref a)]) hx hb dX14_init_157 hl (k := 0) rfl (by decide) (by decide) rfl (fun ls hl => ?_)
  refine lv_goto (tgt := 142) hx hb dX14_init_160 (by decide) ?_
  refine lv_iload_n hx hb dX14_init_142 rfl (lv_at hl 0 rfl) ?_
  refine lv_bipush (v := 11) hx hb dX14_init_143 (by decide) ?_
  refine lv_icmp_ge (tgt := 163) hx hb dX14_init_145 (by decide) (fun c9 => absurd c9 (by decide)) (fun _ => ?_)
  refine lv_aload_n hx hb dX14_init_148 rfl (lv_at hl 1 rfl) ?_
  refine va_get (D := (dC, dI)) (ci := 13) (v := .ref q16) (C := RX14) (T := TX14) (N := 28) hx hb hG iX14 hown hK hP 0 rfl rfl 5 (by decide) (hG _ m_194) (fun _ h9 => h9) hf_120 dX14_init_149 ?_
  refine lv_iload_n hx hb dX14_init_152 rfl (lv_at hl 0 rfl) ?_
  refine lv_sipush (v := 400) hx hb dX14_init_153 (by decide) ?_
  refine va_iast (D := (dC, dI)) hx hb hK hP hD hS 1 0 rfl rfl (by unfold vp_in; decide) dX14_init_156 (fun H locs hP hD hS => ?_)
  have hP : va_P (dC, dI) classes [(a, .inr (13, fs116)), (q16, .inl (cA17, 11, .inl (upd f126 (5 : Int32).toNatClampNeg 400))), (q80, .inl (cA81, 9, .inl f82))] H := hP
  have hD : va_D A [(a, .inr (13, fs116)), (q16, .inl (cA17, 11, .inl (upd f126 (5 : Int32).toNatClampNeg 400))), (q80, .inl (cA81, 9, .inl f82))] := hD
  obtain ⟨f127, ef127⟩ : ∃ y : Nat → Int32, y = (upd f126 (5 : Int32).toNatClampNeg 400) := ⟨_, rfl⟩
  rw [← ef127] at hP hD
  refine lv_iinc (v := 6) (lv' := [(1, .int 6), (0, .ref a)]) hx hb dX14_init_157 hl (k := 0) rfl (by decide) (by decide) rfl (fun ls hl => ?_)
  refine lv_goto (tgt := 142) hx hb dX14_init_160 (by decide) ?_
  refine lv_iload_n hx hb dX14_init_142 rfl (lv_at hl 0 rfl) ?_
  refine lv_bipush (v := 11) hx hb dX14_init_143 (by decide) ?_
  refine lv_icmp_ge (tgt := 163) hx hb dX14_init_145 (by decide) (fun c9 => absurd c9 (by decide)) (fun _ => ?_)
  refine lv_aload_n hx hb dX14_init_148 rfl (lv_at hl 1 rfl) ?_
  refine va_get (D := (dC, dI)) (ci := 13) (v := .ref q16) (C := RX14) (T := TX14) (N := 28) hx hb hG iX14 hown hK hP 0 rfl rfl 5 (by decide) (hG _ m_194) (fun _ h9 => h9) hf_120 dX14_init_149 ?_
  refine lv_iload_n hx hb dX14_init_152 rfl (lv_at hl 0 rfl) ?_
  refine lv_sipush (v := 400) hx hb dX14_init_153 (by decide) ?_
  refine va_iast (D := (dC, dI)) hx hb hK hP hD hS 1 0 rfl rfl (by unfold vp_in; decide) dX14_init_156 (fun H locs hP hD hS => ?_)
  have hP : va_P (dC, dI) classes [(a, .inr (13, fs116)), (q16, .inl (cA17, 11, .inl (upd f127 (6 : Int32).toNatClampNeg 400))), (q80, .inl (cA81, 9, .inl f82))] H := hP
  have hD : va_D A [(a, .inr (13, fs116)), (q16, .inl (cA17, 11, .inl (upd f127 (6 : Int32).toNatClampNeg 400))), (q80, .inl (cA81, 9, .inl f82))] := hD
  obtain ⟨f128, ef128⟩ : ∃ y : Nat → Int32, y = (upd f127 (6 : Int32).toNatClampNeg 400) := ⟨_, rfl⟩
  rw [← ef128] at hP hD
  refine lv_iinc (v := 7) (lv' := [(1, .int 7), (0, .ref a)]) hx hb dX14_init_157 hl (k := 0) rfl (by decide) (by decide) rfl (fun ls hl => ?_)
  refine lv_goto (tgt := 142) hx hb dX14_init_160 (by decide) ?_
  refine lv_iload_n hx hb dX14_init_142 rfl (lv_at hl 0 rfl) ?_
  refine lv_bipush (v := 11) hx hb dX14_init_143 (by decide) ?_
  refine lv_icmp_ge (tgt := 163) hx hb dX14_init_145 (by decide) (fun c9 => absurd c9 (by decide)) (fun _ => ?_)
  refine lv_aload_n hx hb dX14_init_148 rfl (lv_at hl 1 rfl) ?_
  refine va_get (D := (dC, dI)) (ci := 13) (v := .ref q16) (C := RX14) (T := TX14) (N := 28) hx hb hG iX14 hown hK hP 0 rfl rfl 5 (by decide) (hG _ m_194) (fun _ h9 => h9) hf_120 dX14_init_149 ?_
  refine lv_iload_n hx hb dX14_init_152 rfl (lv_at hl 0 rfl) ?_
  refine lv_sipush (v := 400) hx hb dX14_init_153 (by decide) ?_
  refine va_iast (D := (dC, dI)) hx hb hK hP hD hS 1 0 rfl rfl (by unfold vp_in; decide) dX14_init_156 (fun H locs hP hD hS => ?_)
  have hP : va_P (dC, dI) classes [(a, .inr (13, fs116)), (q16, .inl (cA17, 11, .inl (upd f128 (7 : Int32).toNatClampNeg 400))), (q80, .inl (cA81, 9, .inl f82))] H := hP
  have hD : va_D A [(a, .inr (13, fs116)), (q16, .inl (cA17, 11, .inl (upd f128 (7 : Int32).toNatClampNeg 400))), (q80, .inl (cA81, 9, .inl f82))] := hD
  obtain ⟨f129, ef129⟩ : ∃ y : Nat → Int32, y = (upd f128 (7 : Int32).toNatClampNeg 400) := ⟨_, rfl⟩
  rw [← ef129] at hP hD
  refine lv_iinc (v := 8) (lv' := [(1, .int 8), (0, .ref a)]) hx hb dX14_init_157 hl (k := 0) rfl (by decide) (by decide) rfl (fun ls hl => ?_)
  refine lv_goto (tgt := 142) hx hb dX14_init_160 (by decide) ?_
  refine lv_iload_n hx hb dX14_init_142 rfl (lv_at hl 0 rfl) ?_
  refine lv_bipush (v := 11) hx hb dX14_init_143 (by decide) ?_
  refine lv_icmp_ge (tgt := 163) hx hb dX14_init_145 (by decide) (fun c9 => absurd c9 (by decide)) (fun _ => ?_)
  refine lv_aload_n hx hb dX14_init_148 rfl (lv_at hl 1 rfl) ?_
  refine va_get (D := (dC, dI)) (ci := 13) (v := .ref q16) (C := RX14) (T := TX14) (N := 28) hx hb hG iX14 hown hK hP 0 rfl rfl 5 (by decide) (hG _ m_194) (fun _ h9 => h9) hf_120 dX14_init_149 ?_
  refine lv_iload_n hx hb dX14_init_152 rfl (lv_at hl 0 rfl) ?_
  refine lv_sipush (v := 400) hx hb dX14_init_153 (by decide) ?_
  refine va_iast (D := (dC, dI)) hx hb hK hP hD hS 1 0 rfl rfl (by unfold vp_in; decide) dX14_init_156 (fun H locs hP hD hS => ?_)
  have hP : va_P (dC, dI) classes [(a, .inr (13, fs116)), (q16, .inl (cA17, 11, .inl (upd f129 (8 : Int32).toNatClampNeg 400))), (q80, .inl (cA81, 9, .inl f82))] H := hP
  have hD : va_D A [(a, .inr (13, fs116)), (q16, .inl (cA17, 11, .inl (upd f129 (8 : Int32).toNatClampNeg 400))), (q80, .inl (cA81, 9, .inl f82))] := hD
  obtain ⟨f130, ef130⟩ : ∃ y : Nat → Int32, y = (upd f129 (8 : Int32).toNatClampNeg 400) := ⟨_, rfl⟩
  rw [← ef130] at hP hD
  refine lv_iinc (v := 9) (lv' := [(1, .int 9), (0, .ref a)]) hx hb dX14_init_157 hl (k := 0) rfl (by decide) (by decide) rfl (fun ls hl => ?_)
  refine lv_goto (tgt := 142) hx hb dX14_init_160 (by decide) ?_
  refine lv_iload_n hx hb dX14_init_142 rfl (lv_at hl 0 rfl) ?_
  refine lv_bipush (v := 11) hx hb dX14_init_143 (by decide) ?_
  refine lv_icmp_ge (tgt := 163) hx hb dX14_init_145 (by decide) (fun c9 => absurd c9 (by decide)) (fun _ => ?_)
  refine lv_aload_n hx hb dX14_init_148 rfl (lv_at hl 1 rfl) ?_
  refine va_get (D := (dC, dI)) (ci := 13) (v := .ref q16) (C := RX14) (T := TX14) (N := 28) hx hb hG iX14 hown hK hP 0 rfl rfl 5 (by decide) (hG _ m_194) (fun _ h9 => h9) hf_120 dX14_init_149 ?_
  refine lv_iload_n hx hb dX14_init_152 rfl (lv_at hl 0 rfl) ?_
  refine lv_sipush (v := 400) hx hb dX14_init_153 (by decide) ?_
  refine va_iast (D := (dC, dI)) hx hb hK hP hD hS 1 0 rfl rfl (by unfold vp_in; decide) dX14_init_156 (fun H locs hP hD hS => ?_)
  have hP : va_P (dC, dI) classes [(a, .inr (13, fs116)), (q16, .inl (cA17, 11, .inl (upd f130 (9 : Int32).toNatClampNeg 400))), (q80, .inl (cA81, 9, .inl f82))] H := hP
  have hD : va_D A [(a, .inr (13, fs116)), (q16, .inl (cA17, 11, .inl (upd f130 (9 : Int32).toNatClampNeg 400))), (q80, .inl (cA81, 9, .inl f82))] := hD
  obtain ⟨f131, ef131⟩ : ∃ y : Nat → Int32, y = (upd f130 (9 : Int32).toNatClampNeg 400) := ⟨_, rfl⟩
  rw [← ef131] at hP hD
  refine lv_iinc (v := 10) (lv' := [(1, .int 10), (0, .ref a)]) hx hb dX14_init_157 hl (k := 0) rfl (by decide) (by decide) rfl (fun ls hl => ?_)
  refine lv_goto (tgt := 142) hx hb dX14_init_160 (by decide) ?_
  refine lv_iload_n hx hb dX14_init_142 rfl (lv_at hl 0 rfl) ?_
  refine lv_bipush (v := 11) hx hb dX14_init_143 (by decide) ?_
  refine lv_icmp_ge (tgt := 163) hx hb dX14_init_145 (by decide) (fun c9 => absurd c9 (by decide)) (fun _ => ?_)
  refine lv_aload_n hx hb dX14_init_148 rfl (lv_at hl 1 rfl) ?_
  refine va_get (D := (dC, dI)) (ci := 13) (v := .ref q16) (C := RX14) (T := TX14) (N := 28) hx hb hG iX14 hown hK hP 0 rfl rfl 5 (by decide) (hG _ m_194) (fun _ h9 => h9) hf_120 dX14_init_149 ?_
  refine lv_iload_n hx hb dX14_init_152 rfl (lv_at hl 0 rfl) ?_
  refine lv_sipush (v := 400) hx hb dX14_init_153 (by decide) ?_
  refine va_iast (D := (dC, dI)) hx hb hK hP hD hS 1 0 rfl rfl (by unfold vp_in; decide) dX14_init_156 (fun H locs hP hD hS => ?_)
  have hP : va_P (dC, dI) classes [(a, .inr (13, fs116)), (q16, .inl (cA17, 11, .inl (upd f131 (10 : Int32).toNatClampNeg 400))), (q80, .inl (cA81, 9, .inl f82))] H := hP
  have hD : va_D A [(a, .inr (13, fs116)), (q16, .inl (cA17, 11, .inl (upd f131 (10 : Int32).toNatClampNeg 400))), (q80, .inl (cA81, 9, .inl f82))] := hD
  obtain ⟨f132, ef132⟩ : ∃ y : Nat → Int32, y = (upd f131 (10 : Int32).toNatClampNeg 400) := ⟨_, rfl⟩
  rw [← ef132] at hP hD
  refine lv_iinc (v := 11) (lv' := [(1, .int 11), (0, .ref a)]) hx hb dX14_init_157 hl (k := 0) rfl (by decide) (by decide) rfl (fun ls hl => ?_)
  refine lv_goto (tgt := 142) hx hb dX14_init_160 (by decide) ?_
  refine lv_iload_n hx hb dX14_init_142 rfl (lv_at hl 0 rfl) ?_
  refine lv_bipush (v := 11) hx hb dX14_init_143 (by decide) ?_
  refine lv_icmp_ge (tgt := 163) hx hb dX14_init_145 (by decide) (fun _ => ?_) (fun c9 => absurd (by decide) c9)
  refine lv_iconst (v := 0) hx hb dX14_init_163 (by decide) ?_
  refine lv_istore_n (lv' := [(1, .int 0), (0, .ref a)]) hx hb dX14_init_164 rfl hl (by decide) rfl (fun ls hl => ?_)
  refine lv_iload_n hx hb dX14_init_165 rfl (lv_at hl 0 rfl) ?_
  refine lv_bipush (v := 9) hx hb dX14_init_166 (by decide) ?_
  refine lv_icmp_ge (tgt := 184) hx hb dX14_init_168 (by decide) (fun c9 => absurd c9 (by decide)) (fun _ => ?_)
  refine lv_aload_n hx hb dX14_init_171 rfl (lv_at hl 1 rfl) ?_
  refine va_get (D := (dC, dI)) (ci := 13) (v := .ref q80) (C := RX14) (T := TX14) (N := 28) hx hb hG iX14 hown hK hP 0 rfl rfl 20 (by decide) (hG _ m_205) (fun _ h9 => h9) hf_121 dX14_init_172 ?_
  refine lv_iload_n hx hb dX14_init_175 rfl (lv_at hl 0 rfl) ?_
  refine lv_iconst (v := (-1)) hx hb dX14_init_176 (by decide) ?_
  refine va_iast (D := (dC, dI)) hx hb hK hP hD hS 2 1 rfl rfl (by unfold vp_in; decide) dX14_init_177 (fun H locs hP hD hS => ?_)
  have hP : va_P (dC, dI) classes [(a, .inr (13, fs116)), (q16, .inl (cA17, 11, .inl f132)), (q80, .inl (cA81, 9, .inl (upd f82 (0 : Int32).toNatClampNeg (-1))))] H := hP
  have hD : va_D A [(a, .inr (13, fs116)), (q16, .inl (cA17, 11, .inl f132)), (q80, .inl (cA81, 9, .inl (upd f82 (0 : Int32).toNatClampNeg (-1))))] := hD
  obtain ⟨f133, ef133⟩ : ∃ y : Nat → Int32, y = (upd f82 (0 : Int32).toNatClampNeg (-1)) := ⟨_, rfl⟩
  rw [← ef133] at hP hD
  refine lv_iinc (v := 1) (lv' := [(1, .int 1), (0, .ref a)]) hx hb dX14_init_178 hl (k := 0) rfl (by decide) (by decide) rfl (fun ls hl => ?_)
  refine lv_goto (tgt := 165) hx hb dX14_init_181 (by decide) ?_
  refine lv_iload_n hx hb dX14_init_165 rfl (lv_at hl 0 rfl) ?_
  refine lv_bipush (v := 9) hx hb dX14_init_166 (by decide) ?_
  refine lv_icmp_ge (tgt := 184) hx hb dX14_init_168 (by decide) (fun c9 => absurd c9 (by decide)) (fun _ => ?_)
  refine lv_aload_n hx hb dX14_init_171 rfl (lv_at hl 1 rfl) ?_
  refine va_get (D := (dC, dI)) (ci := 13) (v := .ref q80) (C := RX14) (T := TX14) (N := 28) hx hb hG iX14 hown hK hP 0 rfl rfl 20 (by decide) (hG _ m_205) (fun _ h9 => h9) hf_121 dX14_init_172 ?_
  refine lv_iload_n hx hb dX14_init_175 rfl (lv_at hl 0 rfl) ?_
  refine lv_iconst (v := (-1)) hx hb dX14_init_176 (by decide) ?_
  refine va_iast (D := (dC, dI)) hx hb hK hP hD hS 2 1 rfl rfl (by unfold vp_in; decide) dX14_init_177 (fun H locs hP hD hS => ?_)
  have hP : va_P (dC, dI) classes [(a, .inr (13, fs116)), (q16, .inl (cA17, 11, .inl f132)), (q80, .inl (cA81, 9, .inl (upd f133 (1 : Int32).toNatClampNeg (-1))))] H := hP
  have hD : va_D A [(a, .inr (13, fs116)), (q16, .inl (cA17, 11, .inl f132)), (q80, .inl (cA81, 9, .inl (upd f133 (1 : Int32).toNatClampNeg (-1))))] := hD
  obtain ⟨f134, ef134⟩ : ∃ y : Nat → Int32, y = (upd f133 (1 : Int32).toNatClampNeg (-1)) := ⟨_, rfl⟩
  rw [← ef134] at hP hD
  refine lv_iinc (v := 2) (lv' := [(1, .int 2), (0, .ref a)]) hx hb dX14_init_178 hl (k := 0) rfl (by decide) (by decide) rfl (fun ls hl => ?_)
  refine lv_goto (tgt := 165) hx hb dX14_init_181 (by decide) ?_
  refine lv_iload_n hx hb dX14_init_165 rfl (lv_at hl 0 rfl) ?_
  refine lv_bipush (v := 9) hx hb dX14_init_166 (by decide) ?_
  refine lv_icmp_ge (tgt := 184) hx hb dX14_init_168 (by decide) (fun c9 => absurd c9 (by decide)) (fun _ => ?_)
  refine lv_aload_n hx hb dX14_init_171 rfl (lv_at hl 1 rfl) ?_
  refine va_get (D := (dC, dI)) (ci := 13) (v := .ref q80) (C := RX14) (T := TX14) (N := 28) hx hb hG iX14 hown hK hP 0 rfl rfl 20 (by decide) (hG _ m_205) (fun _ h9 => h9) hf_121 dX14_init_172 ?_
  refine lv_iload_n hx hb dX14_init_175 rfl (lv_at hl 0 rfl) ?_
  refine lv_iconst (v := (-1)) hx hb dX14_init_176 (by decide) ?_
  refine va_iast (D := (dC, dI)) hx hb hK hP hD hS 2 1 rfl rfl (by unfold vp_in; decide) dX14_init_177 (fun H locs hP hD hS => ?_)
  have hP : va_P (dC, dI) classes [(a, .inr (13, fs116)), (q16, .inl (cA17, 11, .inl f132)), (q80, .inl (cA81, 9, .inl (upd f134 (2 : Int32).toNatClampNeg (-1))))] H := hP
  have hD : va_D A [(a, .inr (13, fs116)), (q16, .inl (cA17, 11, .inl f132)), (q80, .inl (cA81, 9, .inl (upd f134 (2 : Int32).toNatClampNeg (-1))))] := hD
  obtain ⟨f135, ef135⟩ : ∃ y : Nat → Int32, y = (upd f134 (2 : Int32).toNatClampNeg (-1)) := ⟨_, rfl⟩
  rw [← ef135] at hP hD
  refine lv_iinc (v := 3) (lv' := [(1, .int 3), (0, .ref a)]) hx hb dX14_init_178 hl (k := 0) rfl (by decide) (by decide) rfl (fun ls hl => ?_)
  refine lv_goto (tgt := 165) hx hb dX14_init_181 (by decide) ?_
  refine lv_iload_n hx hb dX14_init_165 rfl (lv_at hl 0 rfl) ?_
  refine lv_bipush (v := 9) hx hb dX14_init_166 (by decide) ?_
  refine lv_icmp_ge (tgt := 184) hx hb dX14_init_168 (by decide) (fun c9 => absurd c9 (by decide)) (fun _ => ?_)
  refine lv_aload_n hx hb dX14_init_171 rfl (lv_at hl 1 rfl) ?_
  refine va_get (D := (dC, dI)) (ci := 13) (v := .ref q80) (C := RX14) (T := TX14) (N := 28) hx hb hG iX14 hown hK hP 0 rfl rfl 20 (by decide) (hG _ m_205) (fun _ h9 => h9) hf_121 dX14_init_172 ?_
  refine lv_iload_n hx hb dX14_init_175 rfl (lv_at hl 0 rfl) ?_
  refine lv_iconst (v := (-1)) hx hb dX14_init_176 (by decide) ?_
  refine va_iast (D := (dC, dI)) hx hb hK hP hD hS 2 1 rfl rfl (by unfold vp_in; decide) dX14_init_177 (fun H locs hP hD hS => ?_)
  have hP : va_P (dC, dI) classes [(a, .inr (13, fs116)), (q16, .inl (cA17, 11, .inl f132)), (q80, .inl (cA81, 9, .inl (upd f135 (3 : Int32).toNatClampNeg (-1))))] H := hP
  have hD : va_D A [(a, .inr (13, fs116)), (q16, .inl (cA17, 11, .inl f132)), (q80, .inl (cA81, 9, .inl (upd f135 (3 : Int32).toNatClampNeg (-1))))] := hD
  obtain ⟨f136, ef136⟩ : ∃ y : Nat → Int32, y = (upd f135 (3 : Int32).toNatClampNeg (-1)) := ⟨_, rfl⟩
  rw [← ef136] at hP hD
  refine lv_iinc (v := 4) (lv' := [(1, .int 4), (0, .ref a)]) hx hb dX14_init_178 hl (k := 0) rfl (by decide) (by decide) rfl (fun ls hl => ?_)
  refine lv_goto (tgt := 165) hx hb dX14_init_181 (by decide) ?_
  refine lv_iload_n hx hb dX14_init_165 rfl (lv_at hl 0 rfl) ?_
  refine lv_bipush (v := 9) hx hb dX14_init_166 (by decide) ?_
  refine lv_icmp_ge (tgt := 184) hx hb dX14_init_168 (by decide) (fun c9 => absurd c9 (by decide)) (fun _ => ?_)
  refine lv_aload_n hx hb dX14_init_171 rfl (lv_at hl 1 rfl) ?_
  refine va_get (D := (dC, dI)) (ci := 13) (v := .ref q80) (C := RX14) (T := TX14) (N := 28) hx hb hG iX14 hown hK hP 0 rfl rfl 20 (by decide) (hG _ m_205) (fun _ h9 => h9) hf_121 dX14_init_172 ?_
  refine lv_iload_n hx hb dX14_init_175 rfl (lv_at hl 0 rfl) ?_
  refine lv_iconst (v := (-1)) hx hb dX14_init_176 (by decide) ?_
  refine va_iast (D := (dC, dI)) hx hb hK hP hD hS 2 1 rfl rfl (by unfold vp_in; decide) dX14_init_177 (fun H locs hP hD hS => ?_)
  have hP : va_P (dC, dI) classes [(a, .inr (13, fs116)), (q16, .inl (cA17, 11, .inl f132)), (q80, .inl (cA81, 9, .inl (upd f136 (4 : Int32).toNatClampNeg (-1))))] H := hP
  have hD : va_D A [(a, .inr (13, fs116)), (q16, .inl (cA17, 11, .inl f132)), (q80, .inl (cA81, 9, .inl (upd f136 (4 : Int32).toNatClampNeg (-1))))] := hD
  obtain ⟨f137, ef137⟩ : ∃ y : Nat → Int32, y = (upd f136 (4 : Int32).toNatClampNeg (-1)) := ⟨_, rfl⟩
  rw [← ef137] at hP hD
  refine lv_iinc (v := 5) (lv' := [(1, .int 5), (0, .ref a)]) hx hb dX14_init_178 hl (k := 0) rfl (by decide) (by decide) rfl (fun ls hl => ?_)
  refine lv_goto (tgt := 165) hx hb dX14_init_181 (by decide) ?_
  refine lv_iload_n hx hb dX14_init_165 rfl (lv_at hl 0 rfl) ?_
  refine lv_bipush (v := 9) hx hb dX14_init_166 (by decide) ?_
  refine lv_icmp_ge (tgt := 184) hx hb dX14_init_168 (by decide) (fun c9 => absurd c9 (by decide)) (fun _ => ?_)
  refine lv_aload_n hx hb dX14_init_171 rfl (lv_at hl 1 rfl) ?_
  refine va_get (D := (dC, dI)) (ci := 13) (v := .ref q80) (C := RX14) (T := TX14) (N := 28) hx hb hG iX14 hown hK hP 0 rfl rfl 20 (by decide) (hG _ m_205) (fun _ h9 => h9) hf_121 dX14_init_172 ?_
  refine lv_iload_n hx hb dX14_init_175 rfl (lv_at hl 0 rfl) ?_
  refine lv_iconst (v := (-1)) hx hb dX14_init_176 (by decide) ?_
  refine va_iast (D := (dC, dI)) hx hb hK hP hD hS 2 1 rfl rfl (by unfold vp_in; decide) dX14_init_177 (fun H locs hP hD hS => ?_)
  have hP : va_P (dC, dI) classes [(a, .inr (13, fs116)), (q16, .inl (cA17, 11, .inl f132)), (q80, .inl (cA81, 9, .inl (upd f137 (5 : Int32).toNatClampNeg (-1))))] H := hP
  have hD : va_D A [(a, .inr (13, fs116)), (q16, .inl (cA17, 11, .inl f132)), (q80, .inl (cA81, 9, .inl (upd f137 (5 : Int32).toNatClampNeg (-1))))] := hD
  obtain ⟨f138, ef138⟩ : ∃ y : Nat → Int32, y = (upd f137 (5 : Int32).toNatClampNeg (-1)) := ⟨_, rfl⟩
  rw [← ef138] at hP hD
  refine lv_iinc (v := 6) (lv' := [(1, .int 6), (0, .ref a)]) hx hb dX14_init_178 hl (k := 0) rfl (by decide) (by decide) rfl (fun ls hl => ?_)
  refine lv_goto (tgt := 165) hx hb dX14_init_181 (by decide) ?_
  refine lv_iload_n hx hb dX14_init_165 rfl (lv_at hl 0 rfl) ?_
  refine lv_bipush (v := 9) hx hb dX14_init_166 (by decide) ?_
  refine lv_icmp_ge (tgt := 184) hx hb dX14_init_168 (by decide) (fun c9 => absurd c9 (by decide)) (fun _ => ?_)
  refine lv_aload_n hx hb dX14_init_171 rfl (lv_at hl 1 rfl) ?_
  refine va_get (D := (dC, dI)) (ci := 13) (v := .ref q80) (C := RX14) (T := TX14) (N := 28) hx hb hG iX14 hown hK hP 0 rfl rfl 20 (by decide) (hG _ m_205) (fun _ h9 => h9) hf_121 dX14_init_172 ?_
  refine lv_iload_n hx hb dX14_init_175 rfl (lv_at hl 0 rfl) ?_
  refine lv_iconst (v := (-1)) hx hb dX14_init_176 (by decide) ?_
  refine va_iast (D := (dC, dI)) hx hb hK hP hD hS 2 1 rfl rfl (by unfold vp_in; decide) dX14_init_177 (fun H locs hP hD hS => ?_)
  have hP : va_P (dC, dI) classes [(a, .inr (13, fs116)), (q16, .inl (cA17, 11, .inl f132)), (q80, .inl (cA81, 9, .inl (upd f138 (6 : Int32).toNatClampNeg (-1))))] H := hP
  have hD : va_D A [(a, .inr (13, fs116)), (q16, .inl (cA17, 11, .inl f132)), (q80, .inl (cA81, 9, .inl (upd f138 (6 : Int32).toNatClampNeg (-1))))] := hD
  obtain ⟨f139, ef139⟩ : ∃ y : Nat → Int32, y = (upd f138 (6 : Int32).toNatClampNeg (-1)) := ⟨_, rfl⟩
  rw [← ef139] at hP hD
  refine lv_iinc (v := 7) (lv' := [(1, .int 7), (0, .ref a)]) hx hb dX14_init_178 hl (k := 0) rfl (by decide) (by decide) rfl (fun ls hl => ?_)
  refine lv_goto (tgt := 165) hx hb dX14_init_181 (by decide) ?_
  refine lv_iload_n hx hb dX14_init_165 rfl (lv_at hl 0 rfl) ?_
  refine lv_bipush (v := 9) hx hb dX14_init_166 (by decide) ?_
  refine lv_icmp_ge (tgt := 184) hx hb dX14_init_168 (by decide) (fun c9 => absurd c9 (by decide)) (fun _ => ?_)
  refine lv_aload_n hx hb dX14_init_171 rfl (lv_at hl 1 rfl) ?_
  refine va_get (D := (dC, dI)) (ci := 13) (v := .ref q80) (C := RX14) (T := TX14) (N := 28) hx hb hG iX14 hown hK hP 0 rfl rfl 20 (by decide) (hG _ m_205) (fun _ h9 => h9) hf_121 dX14_init_172 ?_
  refine lv_iload_n hx hb dX14_init_175 rfl (lv_at hl 0 rfl) ?_
  refine lv_iconst (v := (-1)) hx hb dX14_init_176 (by decide) ?_
  refine va_iast (D := (dC, dI)) hx hb hK hP hD hS 2 1 rfl rfl (by unfold vp_in; decide) dX14_init_177 (fun H locs hP hD hS => ?_)
  have hP : va_P (dC, dI) classes [(a, .inr (13, fs116)), (q16, .inl (cA17, 11, .inl f132)), (q80, .inl (cA81, 9, .inl (upd f139 (7 : Int32).toNatClampNeg (-1))))] H := hP
  have hD : va_D A [(a, .inr (13, fs116)), (q16, .inl (cA17, 11, .inl f132)), (q80, .inl (cA81, 9, .inl (upd f139 (7 : Int32).toNatClampNeg (-1))))] := hD
  obtain ⟨f140, ef140⟩ : ∃ y : Nat → Int32, y = (upd f139 (7 : Int32).toNatClampNeg (-1)) := ⟨_, rfl⟩
  rw [← ef140] at hP hD
  refine lv_iinc (v := 8) (lv' := [(1, .int 8), (0, .ref a)]) hx hb dX14_init_178 hl (k := 0) rfl (by decide) (by decide) rfl (fun ls hl => ?_)
  refine lv_goto (tgt := 165) hx hb dX14_init_181 (by decide) ?_
  refine lv_iload_n hx hb dX14_init_165 rfl (lv_at hl 0 rfl) ?_
  refine lv_bipush (v := 9) hx hb dX14_init_166 (by decide) ?_
  refine lv_icmp_ge (tgt := 184) hx hb dX14_init_168 (by decide) (fun c9 => absurd c9 (by decide)) (fun _ => ?_)
  refine lv_aload_n hx hb dX14_init_171 rfl (lv_at hl 1 rfl) ?_
  refine va_get (D := (dC, dI)) (ci := 13) (v := .ref q80) (C := RX14) (T := TX14) (N := 28) hx hb hG iX14 hown hK hP 0 rfl rfl 20 (by decide) (hG _ m_205) (fun _ h9 => h9) hf_121 dX14_init_172 ?_
  refine lv_iload_n hx hb dX14_init_175 rfl (lv_at hl 0 rfl) ?_
  refine lv_iconst (v := (-1)) hx hb dX14_init_176 (by decide) ?_
  refine va_iast (D := (dC, dI)) hx hb hK hP hD hS 2 1 rfl rfl (by unfold vp_in; decide) dX14_init_177 (fun H locs hP hD hS => ?_)
  have hP : va_P (dC, dI) classes [(a, .inr (13, fs116)), (q16, .inl (cA17, 11, .inl f132)), (q80, .inl (cA81, 9, .inl (upd f140 (8 : Int32).toNatClampNeg (-1))))] H := hP
  have hD : va_D A [(a, .inr (13, fs116)), (q16, .inl (cA17, 11, .inl f132)), (q80, .inl (cA81, 9, .inl (upd f140 (8 : Int32).toNatClampNeg (-1))))] := hD
  obtain ⟨f141, ef141⟩ : ∃ y : Nat → Int32, y = (upd f140 (8 : Int32).toNatClampNeg (-1)) := ⟨_, rfl⟩
  rw [← ef141] at hP hD
  refine lv_iinc (v := 9) (lv' := [(1, .int 9), (0, .ref a)]) hx hb dX14_init_178 hl (k := 0) rfl (by decide) (by decide) rfl (fun ls hl => ?_)
  refine lv_goto (tgt := 165) hx hb dX14_init_181 (by decide) ?_
  refine lv_iload_n hx hb dX14_init_165 rfl (lv_at hl 0 rfl) ?_
  refine lv_bipush (v := 9) hx hb dX14_init_166 (by decide) ?_
  refine lv_icmp_ge (tgt := 184) hx hb dX14_init_168 (by decide) (fun _ => ?_) (fun c9 => absurd (by decide) c9)
  have hP9 := hP.sub (ws' := [(a, .inr (13, fs116))]) [0] rfl
  have hD9 := hD.sub (ws' := [(a, .inr (13, fs116))]) [0] (by decide) rfl
  have hK9 := hK.sub (tys' := []) [] rfl
  exact W.vret hx hb hr (fun t ht hW => ⟨⟨(), rfl, trivial, fs116, by rw [ht]; exact hP9, va_K.moved hW.alike hK9, hD9, hl_117, hf_118, hf_119⟩, hS.F ht⟩) hS.2.2 dX14_init_184

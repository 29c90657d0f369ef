set_option maxHeartbeats 4000000 in
set_option maxRecDepth 100000 in
theorem c_Dealer_init (l : Launch) (dC : Nat → ClassId) (dI : Nat → Nat → Nat) (z : Nat) (a : Nat) (fs : List Value) (sz : Nat) (hl_fs : fs.length = 13) : Met l yX2_init (Cond.code yX2_init cX2_init 1 none :: G) ({ frames := 1, cells := 8, slots := 48, locals := 12 }) (va_Pc [.ref a] (pre_ dC dI [(a, .inr (5, fs))] [] sz z)) (va_Qv (fun _ : Unit => True) (fun _ t => ∃ (fs31 : List Value), ∃ (q4 : Nat), ∃ (cA5 : ClassId), ∃ (f6 : Nat → Int32), va_P (dC, dI) classes [(a, .inr (5, fs31)), (q4, .inl (cA5, 6, .inl f6))] t.heap ∧ va_K (dC, dI) classes [(cA5, .int)] t ∧ va_D (va_A [(a, .inr (5, fs))] sz) [(a, .inr (5, fs31)), (q4, .inl (cA5, 6, .inl f6))] ∧ fs31.length = 13 ∧ fs31[1]? = some (.ref q4)) (va_A [(a, .inr (5, fs))] sz)) 8 48 (va_A [(a, .inr (5, fs))] sz) := by
  refine Met.ofW (cc := cX2_init) (maxL := 1) (ret := none) (by decide) rfl ?_
  intro p e s m args below meth c s₁ B hml hv
  obtain ⟨rfl, hv⟩ := hv
  obtain ⟨hsz, hP, hK, hD0, hN, hZ⟩ := hv
  have hx := B.exec
  have hb := B.bytes
  have hr := B.returns
  have hG : ∀ w ∈ G, w.before _ s = true := fun w h => atoms_spec (ws := Cond.code yX2_init cX2_init 1 none :: G) B.pre w (List.mem_cons_of_mem _ h)
  have hown : s.vm.findClass "Seattable$Dealer" = some m.cls := findClass_of_methodNamed B.named
  have hlocks := B.notSynchronized
  have hin : meth.name = "<init>" := (name_of_methodNamed B.named B.method).1
  subst hsz
  have hD := hD0.self (sz := s.heap.size)
  generalize hAe : va_A [(a, .inr (5, fs))] s.heap.size = A at hD hZ ⊢
  have hA : ∀ q : Nat, s.heap.size ≤ q → A q := fun q h => by rw [← hAe]; exact Or.inr h
  have hS : va_S A s.heap s.heap [] := va_S.rf
  have hP : va_P (dC, dI) classes [(a, .inr (5, fs))] s.heap := hP
  have hl := lv_entry ([.ref a]) (n := 1) (Nat.le_of_ble_eq_true rfl)
  rw [lg_entry_eq]
  generalize (lg_sl ([.ref a]) ++ List.replicate (1 - (lg_sl ([.ref a])).length) Slot.unset).toArray = ls at hl ⊢
  have hl : lv_has ls 1 [(0, .ref a)] := hl
  refine lv_aload_n hx hb dX2_init_0 rfl (lv_at hl 0 rfl) ?_
  refine W.objInit hx hb hown (hG _ m_59) (hG _ m_1) (hG _ m_2) rfl (by rw [hml]; exact hl.1) rfl dX2_init_1 (Nat.le_of_ble_eq_true rfl) (Nat.le_of_ble_eq_true rfl) ?_
  refine W.eq (g2 := F0 m 4 ls []) rfl ?_
  refine lv_aload_n hx hb dX2_init_4 rfl (lv_at hl 0 rfl) ?_
  refine lv_bipush (v := 6) hx hb dX2_init_5 (by decide) ?_
  refine nf_newa (D := (dC, dI)) (atype := .long) (N' := 6) hx hb (hG _ m_60) hP hS (by decide) (by decide) (Nat.le_of_ble_eq_true rfl) (Nat.le_of_ble_eq_true rfl) (Nat.le_of_ble_eq_true rfl) dX2_init_7 (fun q1 H hP hS hz9 => ?_)
  refine W.widen (k := 1) (n := 6) (Nat.le_of_ble_eq_true rfl) (Nat.le_of_ble_eq_true rfl) ?_
  refine va_putF (D := (dC, dI)) (ci := 5) (v := .ref q1) (ty := .array .long) (C := RX2) (T := TX2) (N := 13) hx hb hG iX2 tyX2 tyX2_ok nmX2 hown hK hP hD hS 0 rfl rfl 0 (by decide) (hG _ m_61) (fun _ h9 => h9) rfl hin rfl (by decide +kernel) rfl rfl (by rw [hl_fs]; decide) dX2_init_9 (fun H locs hP hD hS => ?_)
  have hP : va_P (dC, dI) classes [(a, .inr (5, (fs.set 0 (.ref q1))))] H := hP
  have hD : va_D A [(a, .inr (5, (fs.set 0 (.ref q1))))] := hD
  obtain ⟨fs2, efs2⟩ : ∃ y : List Value, y = fs.set 0 (.ref q1) := ⟨_, rfl⟩
  rw [← efs2] at hP hD
  have hl_3 : fs2.length = 13 := by rw [efs2, List.length_set]; exact hl_fs
  refine lv_aload_n hx hb dX2_init_12 rfl (lv_at hl 0 rfl) ?_
  refine lv_bipush (v := 6) hx hb dX2_init_13 (by decide) ?_
  refine va_newa (D := (dC, dI)) (atype := .int) (ty := .int) (N' := 6) (a0 := (6, .inl (fun _ => 0))) hx hb (hG _ m_16) rfl hK hP hD hS hA (fun cA => rfl) (by decide) (by decide) (Nat.le_of_ble_eq_true rfl) (Nat.le_of_ble_eq_true rfl) (Nat.le_of_ble_eq_true rfl) dX2_init_15 (fun q4 cA5 H hK hP hD hS => ?_)
  have hP : va_P (dC, dI) classes [(a, .inr (5, fs2)), (q4, .inl (cA5, 6, .inl (fun _ => 0)))] H := hP
  have hD : va_D A [(a, .inr (5, fs2)), (q4, .inl (cA5, 6, .inl (fun _ => 0)))] := hD
  have hK : va_K (dC, dI) classes [(cA5, .int)] s := hK
  obtain ⟨f6, ef6⟩ : ∃ y : Nat → Int32, y = (fun _ => 0) := ⟨_, rfl⟩
  rw [← ef6] at hP hD
  refine W.widen (k := 2) (n := 12) (Nat.le_of_ble_eq_true rfl) (Nat.le_of_ble_eq_true rfl) ?_
  refine va_putF (D := (dC, dI)) (ci := 5) (v := .ref q4) (ty := .array .int) (C := RX2) (T := TX2) (N := 13) hx hb hG iX2 tyX2 tyX2_ok nmX2 hown hK hP hD hS 0 rfl rfl 1 (by decide) (hG _ m_62) (fun _ h9 => h9) rfl hin rfl (by decide +kernel) rfl rfl (by rw [hl_3]; decide) dX2_init_17 (fun H locs hP hD hS => ?_)
  have hP : va_P (dC, dI) classes [(a, .inr (5, (fs2.set 1 (.ref q4)))), (q4, .inl (cA5, 6, .inl f6))] H := hP
  have hD : va_D A [(a, .inr (5, (fs2.set 1 (.ref q4)))), (q4, .inl (cA5, 6, .inl f6))] := hD
  obtain ⟨fs7, efs7⟩ : ∃ y : List Value, y = fs2.set 1 (.ref q4) := ⟨_, rfl⟩
  rw [← efs7] at hP hD
  have hl_8 : fs7.length = 13 := by rw [efs7, List.length_set]; exact hl_3
  have hf_9 : fs7[1]? = some (.ref q4) := by rw [efs7]; exact fs_set_eq hl_3 (by decide)
  refine lv_aload_n hx hb dX2_init_20 rfl (lv_at hl 0 rfl) ?_
  refine lv_bipush (v := 6) hx hb dX2_init_21 (by decide) ?_
  refine nf_newa (D := (dC, dI)) (atype := .long) (N' := 6) hx hb (hG _ m_60) hP hS (by decide) (by decide) (Nat.le_of_ble_eq_true rfl) (Nat.le_of_ble_eq_true rfl) (Nat.le_of_ble_eq_true rfl) dX2_init_23 (fun q10 H hP hS hz9 => ?_)
  refine W.widen (k := 3) (n := 18) (Nat.le_of_ble_eq_true rfl) (Nat.le_of_ble_eq_true rfl) ?_
  refine va_putF (D := (dC, dI)) (ci := 5) (v := .ref q10) (ty := .array .long) (C := RX2) (T := TX2) (N := 13) hx hb hG iX2 tyX2 tyX2_ok nmX2 hown hK hP hD hS 0 rfl rfl 2 (by decide) (hG _ m_63) (fun _ h9 => h9) rfl hin rfl (by decide +kernel) rfl rfl (by rw [hl_8]; decide) dX2_init_25 (fun H locs hP hD hS => ?_)
  have hP : va_P (dC, dI) classes [(a, .inr (5, (fs7.set 2 (.ref q10)))), (q4, .inl (cA5, 6, .inl f6))] H := hP
  have hD : va_D A [(a, .inr (5, (fs7.set 2 (.ref q10)))), (q4, .inl (cA5, 6, .inl f6))] := hD
  obtain ⟨fs11, efs11⟩ : ∃ y : List Value, y = fs7.set 2 (.ref q10) := ⟨_, rfl⟩
  rw [← efs11] at hP hD
  have hl_12 : fs11.length = 13 := by rw [efs11, List.length_set]; exact hl_8
  have hf_13 : fs11[1]? = some (.ref q4) := by rw [efs11]; exact fs_set_ne hf_9 (by decide)
  refine lv_aload_n hx hb dX2_init_28 rfl (lv_at hl 0 rfl) ?_
  refine lv_bipush (v := 6) hx hb dX2_init_29 (by decide) ?_
  refine nf_newa (D := (dC, dI)) (atype := .int) (N' := 6) hx hb (hG _ m_16) hP hS (by decide) (by decide) (Nat.le_of_ble_eq_true rfl) (Nat.le_of_ble_eq_true rfl) (Nat.le_of_ble_eq_true rfl) dX2_init_31 (fun q14 H hP hS hz9 => ?_)
  refine W.widen (k := 4) (n := 24) (Nat.le_of_ble_eq_true rfl) (Nat.le_of_ble_eq_true rfl) ?_
  refine va_putF (D := (dC, dI)) (ci := 5) (v := .ref q14) (ty := .array .int) (C := RX2) (T := TX2) (N := 13) hx hb hG iX2 tyX2 tyX2_ok nmX2 hown hK hP hD hS 0 rfl rfl 3 (by decide) (hG _ m_64) (fun _ h9 => h9) rfl hin rfl (by decide +kernel) rfl rfl (by rw [hl_12]; decide) dX2_init_33 (fun H locs hP hD hS => ?_)
  have hP : va_P (dC, dI) classes [(a, .inr (5, (fs11.set 3 (.ref q14)))), (q4, .inl (cA5, 6, .inl f6))] H := hP
  have hD : va_D A [(a, .inr (5, (fs11.set 3 (.ref q14)))), (q4, .inl (cA5, 6, .inl f6))] := hD
  obtain ⟨fs15, efs15⟩ : ∃ y : List Value, y = fs11.set 3 (.ref q14) := ⟨_, rfl⟩
  rw [← efs15] at hP hD
  have hl_16 : fs15.length = 13 := by rw [efs15, List.length_set]; exact hl_12
  have hf_17 : fs15[1]? = some (.ref q4) := by rw [efs15]; exact fs_set_ne hf_13 (by decide)
  refine lv_aload_n hx hb dX2_init_36 rfl (lv_at hl 0 rfl) ?_
  refine lv_bipush (v := 6) hx hb dX2_init_37 (by decide) ?_
  refine nf_newa (D := (dC, dI)) (atype := .int) (N' := 6) hx hb (hG _ m_16) hP hS (by decide) (by decide) (Nat.le_of_ble_eq_true rfl) (Nat.le_of_ble_eq_true rfl) (Nat.le_of_ble_eq_true rfl) dX2_init_39 (fun q18 H hP hS hz9 => ?_)
  refine W.widen (k := 5) (n := 30) (Nat.le_of_ble_eq_true rfl) (Nat.le_of_ble_eq_true rfl) ?_
  refine va_putF (D := (dC, dI)) (ci := 5) (v := .ref q18) (ty := .array .int) (C := RX2) (T := TX2) (N := 13) hx hb hG iX2 tyX2 tyX2_ok nmX2 hown hK hP hD hS 0 rfl rfl 4 (by decide) (hG _ m_65) (fun _ h9 => h9) rfl hin rfl (by decide +kernel) rfl rfl (by rw [hl_16]; decide) dX2_init_41 (fun H locs hP hD hS => ?_)
  have hP : va_P (dC, dI) classes [(a, .inr (5, (fs15.set 4 (.ref q18)))), (q4, .inl (cA5, 6, .inl f6))] H := hP
  have hD : va_D A [(a, .inr (5, (fs15.set 4 (.ref q18)))), (q4, .inl (cA5, 6, .inl f6))] := hD
  obtain ⟨fs19, efs19⟩ : ∃ y : List Value, y = fs15.set 4 (.ref q18) := ⟨_, rfl⟩
  rw [← efs19] at hP hD
  have hl_20 : fs19.length = 13 := by rw [efs19, List.length_set]; exact hl_16
  have hf_21 : fs19[1]? = some (.ref q4) := by rw [efs19]; exact fs_set_ne hf_17 (by decide)
  refine lv_aload_n hx hb dX2_init_44 rfl (lv_at hl 0 rfl) ?_
  refine lv_bipush (v := 6) hx hb dX2_init_45 (by decide) ?_
  refine nf_newa (D := (dC, dI)) (atype := .int) (N' := 6) hx hb (hG _ m_16) hP hS (by decide) (by decide) (Nat.le_of_ble_eq_true rfl) (Nat.le_of_ble_eq_true rfl) (Nat.le_of_ble_eq_true rfl) dX2_init_47 (fun q22 H hP hS hz9 => ?_)
  refine W.widen (k := 6) (n := 36) (Nat.le_of_ble_eq_true rfl) (Nat.le_of_ble_eq_true rfl) ?_
  refine va_putF (D := (dC, dI)) (ci := 5) (v := .ref q22) (ty := .array .int) (C := RX2) (T := TX2) (N := 13) hx hb hG iX2 tyX2 tyX2_ok nmX2 hown hK hP hD hS 0 rfl rfl 5 (by decide) (hG _ m_66) (fun _ h9 => h9) rfl hin rfl (by decide +kernel) rfl rfl (by rw [hl_20]; decide) dX2_init_49 (fun H locs hP hD hS => ?_)
  have hP : va_P (dC, dI) classes [(a, .inr (5, (fs19.set 5 (.ref q22)))), (q4, .inl (cA5, 6, .inl f6))] H := hP
  have hD : va_D A [(a, .inr (5, (fs19.set 5 (.ref q22)))), (q4, .inl (cA5, 6, .inl f6))] := hD
  obtain ⟨fs23, efs23⟩ : ∃ y : List Value, y = fs19.set 5 (.ref q22) := ⟨_, rfl⟩
  rw [← efs23] at hP hD
  have hl_24 : fs23.length = 13 := by rw [efs23, List.length_set]; exact hl_20
  have hf_25 : fs23[1]? = some (.ref q4) := by rw [efs23]; exact fs_set_ne hf_21 (by decide)
  refine lv_aload_n hx hb dX2_init_52 rfl (lv_at hl 0 rfl) ?_
  refine lv_bipush (v := 6) hx hb dX2_init_53 (by decide) ?_
  refine nf_newa (D := (dC, dI)) (atype := .int) (N' := 6) hx hb (hG _ m_16) hP hS (by decide) (by decide) (Nat.le_of_ble_eq_true rfl) (Nat.le_of_ble_eq_true rfl) (Nat.le_of_ble_eq_true rfl) dX2_init_55 (fun q26 H hP hS hz9 => ?_)
  refine W.widen (k := 7) (n := 42) (Nat.le_of_ble_eq_true rfl) (Nat.le_of_ble_eq_true rfl) ?_
  refine va_putF (D := (dC, dI)) (ci := 5) (v := .ref q26) (ty := .array .int) (C := RX2) (T := TX2) (N := 13) hx hb hG iX2 tyX2 tyX2_ok nmX2 hown hK hP hD hS 0 rfl rfl 8 (by decide) (hG _ m_67) (fun _ h9 => h9) rfl hin rfl (by decide +kernel) rfl rfl (by rw [hl_24]; decide) dX2_init_57 (fun H locs hP hD hS => ?_)
  have hP : va_P (dC, dI) classes [(a, .inr (5, (fs23.set 8 (.ref q26)))), (q4, .inl (cA5, 6, .inl f6))] H := hP
  have hD : va_D A [(a, .inr (5, (fs23.set 8 (.ref q26)))), (q4, .inl (cA5, 6, .inl f6))] := hD
  obtain ⟨fs27, efs27⟩ : ∃ y : List Value, y = fs23.set 8 (.ref q26) := ⟨_, rfl⟩
  rw [← efs27] at hP hD
  have hl_28 : fs27.length = 13 := by rw [efs27, List.length_set]; exact hl_24
  have hf_29 : fs27[1]? = some (.ref q4) := by rw [efs27]; exact fs_set_ne hf_25 (by decide)
  refine lv_aload_n hx hb dX2_init_60 rfl (lv_at hl 0 rfl) ?_
  refine lv_bipush (v := 6) hx hb dX2_init_61 (by decide) ?_
  refine nf_newa (D := (dC, dI)) (atype := .int) (N' := 6) hx hb (hG _ m_16) hP hS (by decide) (by decide) (Nat.le_of_ble_eq_true rfl) (Nat.le_of_ble_eq_true rfl) (Nat.le_of_ble_eq_true rfl) dX2_init_63 (fun q30 H hP hS hz9 => ?_)
  refine W.widen (k := 8) (n := 48) (Nat.le_of_ble_eq_true rfl) (Nat.le_of_ble_eq_true rfl) ?_
  refine va_putF (D := (dC, dI)) (ci := 5) (v := .ref q30) (ty := .array .int) (C := RX2) (T := TX2) (N := 13) hx hb hG iX2 tyX2 tyX2_ok nmX2 hown hK hP hD hS 0 rfl rfl 9 (by decide) (hG _ m_68) (fun _ h9 => h9) rfl hin rfl (by decide +kernel) rfl rfl (by rw [hl_28]; decide) dX2_init_65 (fun H locs hP hD hS => ?_)
  have hP : va_P (dC, dI) classes [(a, .inr (5, (fs27.set 9 (.ref q30)))), (q4, .inl (cA5, 6, .inl f6))] H := hP
  have hD : va_D A [(a, .inr (5, (fs27.set 9 (.ref q30)))), (q4, .inl (cA5, 6, .inl f6))] := hD
  obtain ⟨fs31, efs31⟩ : ∃ y : List Value, y = fs27.set 9 (.ref q30) := ⟨_, rfl⟩
  rw [← efs31] at hP hD
  have hl_32 : fs31.length = 13 := by rw [efs31, List.length_set]; exact hl_28
  have hf_33 : fs31[1]? = some (.ref q4) := by rw [efs31]; exact fs_set_ne hf_29 (by decide)
  have hP9 := hP.sub (ws' := [(a, .inr (5, fs31)), (q4, .inl (cA5, 6, .inl f6))]) [0, 1] rfl
  have hD9 := hD.sub (ws' := [(a, .inr (5, fs31)), (q4, .inl (cA5, 6, .inl f6))]) [0, 1] (by decide) rfl
  have hK9 := hK.sub (tys' := [(cA5, .int)]) [0] rfl
  exact W.vret hx hb hr (fun t ht hW => ⟨⟨(), rfl, trivial, fs31, q4, cA5, f6, by rw [ht]; exact hP9, va_K.moved hW.alike hK9, hD9, hl_32, hf_33⟩, hS.F ht⟩) hS.2.2 dX2_init_68

set_option maxHeartbeats 4000000 in
set_option maxRecDepth 100000 in
theorem c_Paths_init (l : Launch) (dC : Nat → ClassId) (dI : Nat → Nat → Nat) (z : Nat) (a : Nat) (fs : List Value) (sz : Nat) (hl_fs : fs.length = 15) : Met l yX8_init (Cond.code yX8_init cX8_init 2 none :: G) ({ frames := 2, cells := 57, slots := 2641, locals := 32 }) (va_Pc [.ref a] (pre_ dC dI [(a, .inr (6, fs))] [] sz z)) (va_Qv (fun _ : Unit => True) (fun _ t => ∃ (fs89 : List Value), va_P (dC, dI) classes [(a, .inr (6, fs89))] t.heap ∧ va_K (dC, dI) classes [] t ∧ va_D (va_A [(a, .inr (6, fs))] sz) [(a, .inr (6, fs89))] ∧ fs89.length = 15) (va_A [(a, .inr (6, fs))] sz)) 57 2641 (va_A [(a, .inr (6, fs))] sz) := by
  refine Met.ofW (cc := cX8_init) (maxL := 2) (ret := none) (by decide) rfl ?_
  intro p e s m args below meth c s₁ B hml hv
  obtain ⟨rfl, hv⟩ := hv
  obtain ⟨hsz, hP, hK, hD0, hN, hZ⟩ := hv
  have hx := B.exec
  have hb := B.bytes
  have hr := B.returns
  have hG : ∀ w ∈ G, w.before _ s = true := fun w h => atoms_spec (ws := Cond.code yX8_init cX8_init 2 none :: G) B.pre w (List.mem_cons_of_mem _ h)
  have hown : s.vm.findClass "Seattable$Paths" = some m.cls := findClass_of_methodNamed B.named
  have hlocks := B.notSynchronized
  have hin : meth.name = "<init>" := (name_of_methodNamed B.named B.method).1
  subst hsz
  have hD := hD0.self (sz := s.heap.size)
  generalize hAe : va_A [(a, .inr (6, fs))] s.heap.size = A at hD hZ ⊢
  have hA : ∀ q : Nat, s.heap.size ≤ q → A q := fun q h => by rw [← hAe]; exact Or.inr h
  have hS : va_S A s.heap s.heap [] := va_S.rf
  have hP : va_P (dC, dI) classes [(a, .inr (6, fs))] s.heap := hP
  have hl := lv_entry ([.ref a]) (n := 2) (Nat.le_of_ble_eq_true rfl)
  rw [lg_entry_eq]
  generalize (lg_sl ([.ref a]) ++ List.replicate (2 - (lg_sl ([.ref a])).length) Slot.unset).toArray = ls at hl ⊢
  have hl : lv_has ls 2 [(0, .ref a)] := hl
  refine lv_aload_n hx hb dX8_init_0 rfl (lv_at hl 0 rfl) ?_
  refine W.objInit hx hb hown (hG _ m_69) (hG _ m_1) (hG _ m_2) rfl (by rw [hml]; exact hl.1) rfl dX8_init_1 (Nat.le_of_ble_eq_true rfl) (Nat.le_of_ble_eq_true rfl) ?_
  refine W.eq (g2 := F0 m 4 ls []) rfl ?_
  refine lv_aload_n hx hb dX8_init_4 rfl (lv_at hl 0 rfl) ?_
  refine lv_bipush (v := 30) hx hb dX8_init_5 (by decide) ?_
  refine nf_newa (D := (dC, dI)) (atype := .int) (N' := 30) hx hb (hG _ m_16) hP hS (by decide) (by decide) (Nat.le_of_ble_eq_true rfl) (Nat.le_of_ble_eq_true rfl) (Nat.le_of_ble_eq_true rfl) dX8_init_7 (fun q1 H hP hS hz9 => ?_)
  refine W.widen (k := 1) (n := 30) (Nat.le_of_ble_eq_true rfl) (Nat.le_of_ble_eq_true rfl) ?_
  refine va_putF (D := (dC, dI)) (ci := 6) (v := .ref q1) (ty := .array .int) (C := RX8) (T := TX8) (N := 15) hx hb hG iX8 tyX8 tyX8_ok nmX8 hown hK hP hD hS 0 rfl rfl 0 (by decide) (hG _ m_70) (fun _ h9 => h9) rfl hin rfl (by decide +kernel) rfl rfl (by rw [hl_fs]; decide) dX8_init_9 (fun H locs hP hD hS => ?_)
  have hP : va_P (dC, dI) classes [(a, .inr (6, (fs.set 0 (.ref q1))))] H := hP
  have hD : va_D A [(a, .inr (6, (fs.set 0 (.ref q1))))] := hD
  obtain ⟨fs2, efs2⟩ : ∃ y : List Value, y = fs.set 0 (.ref q1) := ⟨_, rfl⟩
  rw [← efs2] at hP hD
  have hl_3 : fs2.length = 15 := by rw [efs2, List.length_set]; exact hl_fs
  refine lv_aload_n hx hb dX8_init_12 rfl (lv_at hl 0 rfl) ?_
  refine lv_bipush (v := 30) hx hb dX8_init_13 (by decide) ?_
  refine nf_newa (D := (dC, dI)) (atype := .int) (N' := 30) hx hb (hG _ m_16) hP hS (by decide) (by decide) (Nat.le_of_ble_eq_true rfl) (Nat.le_of_ble_eq_true rfl) (Nat.le_of_ble_eq_true rfl) dX8_init_15 (fun q4 H hP hS hz9 => ?_)
  refine W.widen (k := 2) (n := 60) (Nat.le_of_ble_eq_true rfl) (Nat.le_of_ble_eq_true rfl) ?_
  refine va_putF (D := (dC, dI)) (ci := 6) (v := .ref q4) (ty := .array .int) (C := RX8) (T := TX8) (N := 15) hx hb hG iX8 tyX8 tyX8_ok nmX8 hown hK hP hD hS 0 rfl rfl 1 (by decide) (hG _ m_71) (fun _ h9 => h9) rfl hin rfl (by decide +kernel) rfl rfl (by rw [hl_3]; decide) dX8_init_17 (fun H locs hP hD hS => ?_)
  have hP : va_P (dC, dI) classes [(a, .inr (6, (fs2.set 1 (.ref q4))))] H := hP
  have hD : va_D A [(a, .inr (6, (fs2.set 1 (.ref q4))))] := hD
  obtain ⟨fs5, efs5⟩ : ∃ y : List Value, y = fs2.set 1 (.ref q4) := ⟨_, rfl⟩
  rw [← efs5] at hP hD
  have hl_6 : fs5.length = 15 := by rw [efs5, List.length_set]; exact hl_3
  refine lv_aload_n hx hb dX8_init_20 rfl (lv_at hl 0 rfl) ?_
  refine lv_bipush (v := 11) hx hb dX8_init_21 (by decide) ?_
  refine va_newq (D := (dC, dI)) (C := "Seattable$Big") (N' := 11) hx hb hown (hG _ m_72) (nw_over_0 hN) hK hP hD hS hA (by decide) (by decide) (Nat.le_of_ble_eq_true rfl) (Nat.le_of_ble_eq_true rfl) (Nat.le_of_ble_eq_true rfl) dX8_init_23 (fun q7 cA8 H hK hP hD hS => ?_)
  have hP : va_P (dC, dI) classes [(a, .inr (6, fs5)), (q7, .inl (cA8, 11, .inr (.inr (.inr (.inr (fun _ => none))))))] H := hP
  have hD : va_D A [(a, .inr (6, fs5)), (q7, .inl (cA8, 11, .inr (.inr (.inr (.inr (fun _ => none))))))] := hD
  have hK : va_K (dC, dI) classes [(cA8, .object "Seattable$Big")] s := hK
  obtain ⟨f9, ef9⟩ : ∃ y : Nat → Option Nat, y = (fun _ => none) := ⟨_, rfl⟩
  rw [← ef9] at hP hD
  refine W.widen (k := 3) (n := 71) (Nat.le_of_ble_eq_true rfl) (Nat.le_of_ble_eq_true rfl) ?_
  refine va_putF (D := (dC, dI)) (ci := 6) (v := .ref q7) (ty := .array (.object "Seattable$Big")) (C := RX8) (T := TX8) (N := 15) hx hb hG iX8 tyX8 tyX8_ok nmX8 hown hK hP hD hS 0 rfl rfl 6 (by decide) (hG _ m_73) (fun _ h9 => h9) rfl hin rfl (by decide +kernel) rfl rfl (by rw [hl_6]; decide) dX8_init_26 (fun H locs hP hD hS => ?_)
  have hP : va_P (dC, dI) classes [(a, .inr (6, (fs5.set 6 (.ref q7)))), (q7, .inl (cA8, 11, .inr (.inr (.inr (.inr f9)))))] H := hP
  have hD : va_D A [(a, .inr (6, (fs5.set 6 (.ref q7)))), (q7, .inl (cA8, 11, .inr (.inr (.inr (.inr f9)))))] := hD
  obtain ⟨fs10, efs10⟩ : ∃ y : List Value, y = fs5.set 6 (.ref q7) := ⟨_, rfl⟩
  rw [← efs10] at hP hD
  have hl_11 : fs10.length = 15 := by rw [efs10, List.length_set]; exact hl_6
  have hf_12 : fs10[6]? = some (.ref q7) := by rw [efs10]; exact fs_set_eq hl_6 (by decide)
  refine lv_aload_n hx hb dX8_init_29 rfl (lv_at hl 0 rfl) ?_
  refine lv_bipush (v := 11) hx hb dX8_init_30 (by decide) ?_
  refine va_newq (D := (dC, dI)) (C := "Seattable$Big") (N' := 11) hx hb hown (hG _ m_72) (nw_over_0 hN) hK hP hD hS hA (by decide) (by decide) (Nat.le_of_ble_eq_true rfl) (Nat.le_of_ble_eq_true rfl) (Nat.le_of_ble_eq_true rfl) dX8_init_32 (fun q13 cA14 H hK hP hD hS => ?_)
  have hP : va_P (dC, dI) classes [(a, .inr (6, fs10)), (q7, .inl (cA8, 11, .inr (.inr (.inr (.inr f9))))), (q13, .inl (cA14, 11, .inr (.inr (.inr (.inr (fun _ => none))))))] H := hP
  have hD : va_D A [(a, .inr (6, fs10)), (q7, .inl (cA8, 11, .inr (.inr (.inr (.inr f9))))), (q13, .inl (cA14, 11, .inr (.inr (.inr (.inr (fun _ => none))))))] := hD
  have hK : va_K (dC, dI) classes [(cA8, .object "Seattable$Big"), (cA14, .object "Seattable$Big")] s := hK
  obtain ⟨f15, ef15⟩ : ∃ y : Nat → Option Nat, y = (fun _ => none) := ⟨_, rfl⟩
  rw [← ef15] at hP hD
  refine W.widen (k := 4) (n := 82) (Nat.le_of_ble_eq_true rfl) (Nat.le_of_ble_eq_true rfl) ?_
  refine va_putF (D := (dC, dI)) (ci := 6) (v := .ref q13) (ty := .array (.object "Seattable$Big")) (C := RX8) (T := TX8) (N := 15) hx hb hG iX8 tyX8 tyX8_ok nmX8 hown hK hP hD hS 0 rfl rfl 7 (by decide) (hG _ m_74) (fun _ h9 => h9) rfl hin rfl (by decide +kernel) rfl rfl (by rw [hl_11]; decide) dX8_init_35 (fun H locs hP hD hS => ?_)
  have hP : va_P (dC, dI) classes [(a, .inr (6, (fs10.set 7 (.ref q13)))), (q7, .inl (cA8, 11, .inr (.inr (.inr (.inr f9))))), (q13, .inl (cA14, 11, .inr (.inr (.inr (.inr f15)))))] H := hP
  have hD : va_D A [(a, .inr (6, (fs10.set 7 (.ref q13)))), (q7, .inl (cA8, 11, .inr (.inr (.inr (.inr f9))))), (q13, .inl (cA14, 11, .inr (.inr (.inr (.inr f15)))))] := hD
  obtain ⟨fs16, efs16⟩ : ∃ y : List Value, y = fs10.set 7 (.ref q13) := ⟨_, rfl⟩
  rw [← efs16] at hP hD
  have hl_17 : fs16.length = 15 := by rw [efs16, List.length_set]; exact hl_11
  have hf_18 : fs16[6]? = some (.ref q7) := by rw [efs16]; exact fs_set_ne hf_12 (by decide)
  have hf_19 : fs16[7]? = some (.ref q13) := by rw [efs16]; exact fs_set_eq hl_11 (by decide)
  refine lv_aload_n hx hb dX8_init_38 rfl (lv_at hl 0 rfl) ?_
  refine lv_bipush (v := 11) hx hb dX8_init_39 (by decide) ?_
  refine nf_newa (D := (dC, dI)) (atype := .int) (N' := 11) hx hb (hG _ m_16) hP hS (by decide) (by decide) (Nat.le_of_ble_eq_true rfl) (Nat.le_of_ble_eq_true rfl) (Nat.le_of_ble_eq_true rfl) dX8_init_41 (fun q20 H hP hS hz9 => ?_)
  refine W.widen (k := 5) (n := 93) (Nat.le_of_ble_eq_true rfl) (Nat.le_of_ble_eq_true rfl) ?_
  refine va_putF (D := (dC, dI)) (ci := 6) (v := .ref q20) (ty := .array .int) (C := RX8) (T := TX8) (N := 15) hx hb hG iX8 tyX8 tyX8_ok nmX8 hown hK hP hD hS 0 rfl rfl 8 (by decide) (hG _ m_75) (fun _ h9 => h9) rfl hin rfl (by decide +kernel) rfl rfl (by rw [hl_17]; decide) dX8_init_43 (fun H locs hP hD hS => ?_)
  have hP : va_P (dC, dI) classes [(a, .inr (6, (fs16.set 8 (.ref q20)))), (q7, .inl (cA8, 11, .inr (.inr (.inr (.inr f9))))), (q13, .inl (cA14, 11, .inr (.inr (.inr (.inr f15)))))] H := hP
  have hD : va_D A [(a, .inr (6, (fs16.set 8 (.ref q20)))), (q7, .inl (cA8, 11, .inr (.inr (.inr (.inr f9))))), (q13, .inl (cA14, 11, .inr (.inr (.inr (.inr f15)))))] := hD
  obtain ⟨fs21, efs21⟩ : ∃ y : List Value, y = fs16.set 8 (.ref q20) := ⟨_, rfl⟩
  rw [← efs21] at hP hD
  have hl_22 : fs21.length = 15 := by rw [efs21, List.length_set]; exact hl_17
  have hf_23 : fs21[6]? = some (.ref q7) := by rw [efs21]; exact fs_set_ne hf_18 (by decide)
  have hf_24 : fs21[7]? = some (.ref q13) := by rw [efs21]; exact fs_set_ne hf_19 (by decide)
  refine lv_aload_n hx hb dX8_init_46 rfl (lv_at hl 0 rfl) ?_
  refine va_new (D := (dC, dI)) (ci := 1) (fs := (List.range 2).map (fun k => defaultValue (tyX1 k))) (C := RX1) (T := TX1) (N := 2) hx hb hG iX1 tyX1 tyX1_ok hown (hG _ m_72) (hG _ m_45) (hG _ m_46) hK hP hD hS hA rfl (fs_new 2 tyX1) (Nat.le_of_ble_eq_true rfl) (Nat.le_of_ble_eq_true rfl) dX8_init_47 (fun q25 H hP hD hS => ?_)
  have hP : va_P (dC, dI) classes [(a, .inr (6, fs21)), (q7, .inl (cA8, 11, .inr (.inr (.inr (.inr f9))))), (q13, .inl (cA14, 11, .inr (.inr (.inr (.inr f15))))), (q25, .inr (1, ((List.range 2).map (fun k => defaultValue (tyX1 k)))))] H := hP
  have hD : va_D A [(a, .inr (6, fs21)), (q7, .inl (cA8, 11, .inr (.inr (.inr (.inr f9))))), (q13, .inl (cA14, 11, .inr (.inr (.inr (.inr f15))))), (q25, .inr (1, ((List.range 2).map (fun k => defaultValue (tyX1 k)))))] := hD
  obtain ⟨fs26, efs26⟩ : ∃ y : List Value, y = (List.range 2).map (fun k => defaultValue (tyX1 k)) := ⟨_, rfl⟩
  rw [← efs26] at hP hD
  have hl_27 : fs26.length = 2 := by rw [efs26, List.length_map, List.length_range]
  have hf_28 : fs26[0]? = some (.null) := by rw [efs26]; rfl
  have hf_29 : fs26[1]? = some (.int 0) := by rw [efs26]; rfl
  refine W.widen (k := 6) (n := 95) (Nat.le_of_ble_eq_true rfl) (Nat.le_of_ble_eq_true rfl) ?_
  refine lv_dup hx hb dX8_init_50 rfl ?_
  have hPc := hP.sub (ws' := [(q25, .inr (1, fs26))]) [3] rfl
  have hDc := hD.sub (ws' := [(q25, .inr (1, fs26))]) [3] (by decide) rfl
  have hKc := hK.sub (tys' := []) [] rfl
  have hFc := va_free (wc := [(q25, .inr (1, fs26))]) hD hS hA [3] rfl
  refine va_callv (va_runIN (As := []) (rest := [.ref q25, .ref a]) ⟨hx, hb, hml, hown, hG⟩ (c_Big_init l dC dI z q25 fs26 H.size hl_27 hf_29) ⟨va_cnB (host := "Seattable") 0 hG (gI m_47) rfl rfl rfl (nw_nest_1 hN) (hG _ m_46) (by decide +kernel) ⟨Nat.le_of_ble_eq_true rfl, Nat.le_of_ble_eq_true rfl⟩, rfl, (hG _ m_48)⟩ ⟨pre_blind, fun U hU hW => ⟨rfl, pre_call hU hW hPc hKc hDc hN (zkeep hZ hS) hFc⟩⟩ rfl rfl hl.1 rfl (lv_room (Nat.le_of_ble_eq_true rfl)) dX8_init_51 ⟨Nat.le_of_ble_eq_true rfl, Nat.le_of_ble_eq_true rfl⟩) hS (fun q _ h => hFc q h) hFc (fun u t H locs ht hvm hw hB hz1 hk1 hS => ?_)
  obtain ⟨fs31, q32, cA33, f34, hP1, hK1, hD1, hy35, hy36, hy37⟩ := hB
  rw [ht] at hP1
  have hK1 := va_K.moved hvm.symm hK1
  obtain ⟨hP, hD⟩ := va_join (wr := [(a, .inr (6, fs21)), (q7, .inl (cA8, 11, .inr (.inr (.inr (.inr f9))))), (q13, .inl (cA14, 11, .inr (.inr (.inr (.inr f15)))))]) (w1 := [(q25, .inr (1, fs31)), (q32, .inl (cA33, 96, .inl f34))]) hP hD [3] [0, 1, 2] rfl rfl (by decide) (by decide) hk1 hFc hP1 hD1
  have hK := (hK.sub (tys' := [(cA8, .object "Seattable$Big"), (cA14, .object "Seattable$Big")]) [0, 1] rfl).app hK1
  have hP : va_P (dC, dI) classes [(a, .inr (6, fs21)), (q7, .inl (cA8, 11, .inr (.inr (.inr (.inr f9))))), (q13, .inl (cA14, 11, .inr (.inr (.inr (.inr f15))))), (q25, .inr (1, fs31)), (q32, .inl (cA33, 96, .inl f34))] H := hP
  have hD : va_D A [(a, .inr (6, fs21)), (q7, .inl (cA8, 11, .inr (.inr (.inr (.inr f9))))), (q13, .inl (cA14, 11, .inr (.inr (.inr (.inr f15))))), (q25, .inr (1, fs31)), (q32, .inl (cA33, 96, .inl f34))] := hD
  have hK : va_K (dC, dI) classes [(cA8, .object "Seattable$Big"), (cA14, .object "Seattable$Big"), (cA33, .int)] s := hK
  refine W.widen (k := 7) (n := 191) (Nat.le_of_ble_eq_true rfl) (Nat.le_of_ble_eq_true rfl) ?_
  refine va_putF (D := (dC, dI)) (ci := 6) (v := .ref q25) (ty := .object "Seattable$Big") (C := RX8) (T := TX8) (N := 15) hx hb hG iX8 tyX8 tyX8_ok nmX8 hown hK hP hD hS 0 rfl rfl 11 (by decide) (hG _ m_76) (fun _ h9 => h9) rfl hin rfl (by decide +kernel) rfl rfl (by rw [hl_22]; decide) dX8_init_54 (fun H locs hP hD hS => ?_)
  have hP : va_P (dC, dI) classes [(a, .inr (6, (fs21.set 11 (.ref q25)))), (q7, .inl (cA8, 11, .inr (.inr (.inr (.inr f9))))), (q13, .inl (cA14, 11, .inr (.inr (.inr (.inr f15))))), (q25, .inr (1, fs31)), (q32, .inl (cA33, 96, .inl f34))] H := hP
  have hD : va_D A [(a, .inr (6, (fs21.set 11 (.ref q25)))), (q7, .inl (cA8, 11, .inr (.inr (.inr (.inr f9))))), (q13, .inl (cA14, 11, .inr (.inr (.inr (.inr f15))))), (q25, .inr (1, fs31)), (q32, .inl (cA33, 96, .inl f34))] := hD
  obtain ⟨fs38, efs38⟩ : ∃ y : List Value, y = fs21.set 11 (.ref q25) := ⟨_, rfl⟩
  rw [← efs38] at hP hD
  have hl_39 : fs38.length = 15 := by rw [efs38, List.length_set]; exact hl_22
  have hf_40 : fs38[6]? = some (.ref q7) := by rw [efs38]; exact fs_set_ne hf_23 (by decide)
  have hf_41 : fs38[7]? = some (.ref q13) := by rw [efs38]; exact fs_set_ne hf_24 (by decide)
  have hP := hP.sub (ws' := [(a, .inr (6, fs38)), (q7, .inl (cA8, 11, .inr (.inr (.inr (.inr f9))))), (q13, .inl (cA14, 11, .inr (.inr (.inr (.inr f15)))))]) [0, 1, 2] rfl
  have hD := hD.sub (ws' := [(a, .inr (6, fs38)), (q7, .inl (cA8, 11, .inr (.inr (.inr (.inr f9))))), (q13, .inl (cA14, 11, .inr (.inr (.inr (.inr f15)))))]) [0, 1, 2] (by decide) rfl
  have hK := hK.sub (tys' := [(cA8, .object "Seattable$Big"), (cA14, .object "Seattable$Big")]) [0, 1] rfl
  refine lv_aload_n hx hb dX8_init_57 rfl (lv_at hl 0 rfl) ?_
  refine va_new (D := (dC, dI)) (ci := 1) (fs := (List.range 2).map (fun k => defaultValue (tyX1 k))) (C := RX1) (T := TX1) (N := 2) hx hb hG iX1 tyX1 tyX1_ok hown (hG _ m_72) (hG _ m_45) (hG _ m_46) hK hP hD hS hA rfl (fs_new 2 tyX1) (Nat.le_of_ble_eq_true rfl) (Nat.le_of_ble_eq_true rfl) dX8_init_58 (fun q42 H hP hD hS => ?_)
  have hP : va_P (dC, dI) classes [(a, .inr (6, fs38)), (q7, .inl (cA8, 11, .inr (.inr (.inr (.inr f9))))), (q13, .inl (cA14, 11, .inr (.inr (.inr (.inr f15))))), (q42, .inr (1, ((List.range 2).map (fun k => defaultValue (tyX1 k)))))] H := hP
  have hD : va_D A [(a, .inr (6, fs38)), (q7, .inl (cA8, 11, .inr (.inr (.inr (.inr f9))))), (q13, .inl (cA14, 11, .inr (.inr (.inr (.inr f15))))), (q42, .inr (1, ((List.range 2).map (fun k => defaultValue (tyX1 k)))))] := hD
  obtain ⟨fs43, efs43⟩ : ∃ y : List Value, y = (List.range 2).map (fun k => defaultValue (tyX1 k)) := ⟨_, rfl⟩
  rw [← efs43] at hP hD
  have hl_44 : fs43.length = 2 := by rw [efs43, List.length_map, List.length_range]
  have hf_45 : fs43[0]? = some (.null) := by rw [efs43]; rfl
  have hf_46 : fs43[1]? = some (.int 0) := by rw [efs43]; rfl
  refine W.widen (k := 8) (n := 193) (Nat.le_of_ble_eq_true rfl) (Nat.le_of_ble_eq_true rfl) ?_
  refine lv_dup hx hb dX8_init_61 rfl ?_
  have hPc := hP.sub (ws' := [(q42, .inr (1, fs43))]) [3] rfl
  have hDc := hD.sub (ws' := [(q42, .inr (1, fs43))]) [3] (by decide) rfl
  have hKc := hK.sub (tys' := []) [] rfl
  have hFc := va_free (wc := [(q42, .inr (1, fs43))]) hD hS hA [3] rfl
  refine va_callv (va_runIN (As := []) (rest := [.ref q42, .ref a]) ⟨hx, hb, hml, hown, hG⟩ (c_Big_init l dC dI z q42 fs43 H.size hl_44 hf_46) ⟨va_cnB (host := "Seattable") 0 hG (gI m_47) rfl rfl rfl (nw_nest_1 hN) (hG _ m_46) (by decide +kernel) ⟨Nat.le_of_ble_eq_true rfl, Nat.le_of_ble_eq_true rfl⟩, rfl, (hG _ m_48)⟩ ⟨pre_blind, fun U hU hW => ⟨rfl, pre_call hU hW hPc hKc hDc hN (zkeep hZ hS) hFc⟩⟩ rfl rfl hl.1 rfl (lv_room (Nat.le_of_ble_eq_true rfl)) dX8_init_62 ⟨Nat.le_of_ble_eq_true rfl, Nat.le_of_ble_eq_true rfl⟩) hS (fun q _ h => hFc q h) hFc (fun u t H locs ht hvm hw hB hz1 hk1 hS => ?_)
  obtain ⟨fs48, q49, cA50, f51, hP1, hK1, hD1, hy52, hy53, hy54⟩ := hB
  rw [ht] at hP1
  have hK1 := va_K.moved hvm.symm hK1
  obtain ⟨hP, hD⟩ := va_join (wr := [(a, .inr (6, fs38)), (q7, .inl (cA8, 11, .inr (.inr (.inr (.inr f9))))), (q13, .inl (cA14, 11, .inr (.inr (.inr (.inr f15)))))]) (w1 := [(q42, .inr (1, fs48)), (q49, .inl (cA50, 96, .inl f51))]) hP hD [3] [0, 1, 2] rfl rfl (by decide) (by decide) hk1 hFc hP1 hD1
  have hK := (hK.sub (tys' := [(cA8, .object "Seattable$Big"), (cA14, .object "Seattable$Big")]) [0, 1] rfl).app hK1
  have hP : va_P (dC, dI) classes [(a, .inr (6, fs38)), (q7, .inl (cA8, 11, .inr (.inr (.inr (.inr f9))))), (q13, .inl (cA14, 11, .inr (.inr (.inr (.inr f15))))), (q42, .inr (1, fs48)), (q49, .inl (cA50, 96, .inl f51))] H := hP
  have hD : va_D A [(a, .inr (6, fs38)), (q7, .inl (cA8, 11, .inr (.inr (.inr (.inr f9))))), (q13, .inl (cA14, 11, .inr (.inr (.inr (.inr f15))))), (q42, .inr (1, fs48)), (q49, .inl (cA50, 96, .inl f51))] := hD
  have hK : va_K (dC, dI) classes [(cA8, .object "Seattable$Big"), (cA14, .object "Seattable$Big"), (cA50, .int)] s := hK
  refine W.widen (k := 9) (n := 289) (Nat.le_of_ble_eq_true rfl) (Nat.le_of_ble_eq_true rfl) ?_
  refine va_putF (D := (dC, dI)) (ci := 6) (v := .ref q42) (ty := .object "Seattable$Big") (C := RX8) (T := TX8) (N := 15) hx hb hG iX8 tyX8 tyX8_ok nmX8 hown hK hP hD hS 0 rfl rfl 12 (by decide) (hG _ m_77) (fun _ h9 => h9) rfl hin rfl (by decide +kernel) rfl rfl (by rw [hl_39]; decide) dX8_init_65 (fun H locs hP hD hS => ?_)
  have hP : va_P (dC, dI) classes [(a, .inr (6, (fs38.set 12 (.ref q42)))), (q7, .inl (cA8, 11, .inr (.inr (.inr (.inr f9))))), (q13, .inl (cA14, 11, .inr (.inr (.inr (.inr f15))))), (q42, .inr (1, fs48)), (q49, .inl (cA50, 96, .inl f51))] H := hP
  have hD : va_D A [(a, .inr (6, (fs38.set 12 (.ref q42)))), (q7, .inl (cA8, 11, .inr (.inr (.inr (.inr f9))))), (q13, .inl (cA14, 11, .inr (.inr (.inr (.inr f15))))), (q42, .inr (1, fs48)), (q49, .inl (cA50, 96, .inl f51))] := hD
  obtain ⟨fs55, efs55⟩ : ∃ y : List Value, y = fs38.set 12 (.ref q42) := ⟨_, rfl⟩
  rw [← efs55] at hP hD
  have hl_56 : fs55.length = 15 := by rw [efs55, List.length_set]; exact hl_39
  have hf_57 : fs55[6]? = some (.ref q7) := by rw [efs55]; exact fs_set_ne hf_40 (by decide)
  have hf_58 : fs55[7]? = some (.ref q13) := by rw [efs55]; exact fs_set_ne hf_41 (by decide)
  have hP := hP.sub (ws' := [(a, .inr (6, fs55)), (q7, .inl (cA8, 11, .inr (.inr (.inr (.inr f9))))), (q13, .inl (cA14, 11, .inr (.inr (.inr (.inr f15)))))]) [0, 1, 2] rfl
  have hD := hD.sub (ws' := [(a, .inr (6, fs55)), (q7, .inl (cA8, 11, .inr (.inr (.inr (.inr f9))))), (q13, .inl (cA14, 11, .inr (.inr (.inr (.inr f15)))))]) [0, 1, 2] (by decide) rfl
  have hK := hK.sub (tys' := [(cA8, .object "Seattable$Big"), (cA14, .object "Seattable$Big")]) [0, 1] rfl
  refine lv_aload_n hx hb dX8_init_68 rfl (lv_at hl 0 rfl) ?_
  refine va_new (D := (dC, dI)) (ci := 1) (fs := (List.range 2).map (fun k => defaultValue (tyX1 k))) (C := RX1) (T := TX1) (N := 2) hx hb hG iX1 tyX1 tyX1_ok hown (hG _ m_72) (hG _ m_45) (hG _ m_46) hK hP hD hS hA rfl (fs_new 2 tyX1) (Nat.le_of_ble_eq_true rfl) (Nat.le_of_ble_eq_true rfl) dX8_init_69 (fun q59 H hP hD hS => ?_)
  have hP : va_P (dC, dI) classes [(a, .inr (6, fs55)), (q7, .inl (cA8, 11, .inr (.inr (.inr (.inr f9))))), (q13, .inl (cA14, 11, .inr (.inr (.inr (.inr f15))))), (q59, .inr (1, ((List.range 2).map (fun k => defaultValue (tyX1 k)))))] H := hP
  have hD : va_D A [(a, .inr (6, fs55)), (q7, .inl (cA8, 11, .inr (.inr (.inr (.inr f9))))), (q13, .inl (cA14, 11, .inr (.inr (.inr (.inr f15))))), (q59, .inr (1, ((List.range 2).map (fun k => defaultValue (tyX1 k)))))] := hD
  obtain ⟨fs60, efs60⟩ : ∃ y : List Value, y = (List.range 2).map (fun k => defaultValue (tyX1 k)) := ⟨_, rfl⟩
  rw [← efs60] at hP hD
  have hl_61 : fs60.length = 2 := by rw [efs60, List.length_map, List.length_range]
  have hf_62 : fs60[0]? = some (.null) := by rw [efs60]; rfl
  have hf_63 : fs60[1]? = some (.int 0) := by rw [efs60]; rfl
  refine W.widen (k := 10) (n := 291) (Nat.le_of_ble_eq_true rfl) (Nat.le_of_ble_eq_true rfl) ?_
  refine lv_dup hx hb dX8_init_72 rfl ?_
  have hPc := hP.sub (ws' := [(q59, .inr (1, fs60))]) [3] rfl
  have hDc := hD.sub (ws' := [(q59, .inr (1, fs60))]) [3] (by decide) rfl
  have hKc := hK.sub (tys' := []) [] rfl
  have hFc := va_free (wc := [(q59, .inr (1, fs60))]) hD hS hA [3] rfl
  refine va_callv (va_runIN (As := []) (rest := [.ref q59, .ref a]) ⟨hx, hb, hml, hown, hG⟩ (c_Big_init l dC dI z q59 fs60 H.size hl_61 hf_63) ⟨va_cnB (host := "Seattable") 0 hG (gI m_47) rfl rfl rfl (nw_nest_1 hN) (hG _ m_46) (by decide +kernel) ⟨Nat.le_of_ble_eq_true rfl, Nat.le_of_ble_eq_true rfl⟩, rfl, (hG _ m_48)⟩ ⟨pre_blind, fun U hU hW => ⟨rfl, pre_call hU hW hPc hKc hDc hN (zkeep hZ hS) hFc⟩⟩ rfl rfl hl.1 rfl (lv_room (Nat.le_of_ble_eq_true rfl)) dX8_init_73 ⟨Nat.le_of_ble_eq_true rfl, Nat.le_of_ble_eq_true rfl⟩) hS (fun q _ h => hFc q h) hFc (fun u t H locs ht hvm hw hB hz1 hk1 hS => ?_)
  obtain ⟨fs65, q66, cA67, f68, hP1, hK1, hD1, hy69, hy70, hy71⟩ := hB
  rw [ht] at hP1
  have hK1 := va_K.moved hvm.symm hK1
  obtain ⟨hP, hD⟩ := va_join (wr := [(a, .inr (6, fs55)), (q7, .inl (cA8, 11, .inr (.inr (.inr (.inr f9))))), (q13, .inl (cA14, 11, .inr (.inr (.inr (.inr f15)))))]) (w1 := [(q59, .inr (1, fs65)), (q66, .inl (cA67, 96, .inl f68))]) hP hD [3] [0, 1, 2] rfl rfl (by decide) (by decide) hk1 hFc hP1 hD1
  have hK := (hK.sub (tys' := [(cA8, .object "Seattable$Big"), (cA14, .object "Seattable$Big")]) [0, 1] rfl).app hK1
  have hP : va_P (dC, dI) classes [(a, .inr (6, fs55)), (q7, .inl (cA8, 11, .inr (.inr (.inr (.inr f9))))), (q13, .inl (cA14, 11, .inr (.inr (.inr (.inr f15))))), (q59, .inr (1, fs65)), (q66, .inl (cA67, 96, .inl f68))] H := hP
  have hD : va_D A [(a, .inr (6, fs55)), (q7, .inl (cA8, 11, .inr (.inr (.inr (.inr f9))))), (q13, .inl (cA14, 11, .inr (.inr (.inr (.inr f15))))), (q59, .inr (1, fs65)), (q66, .inl (cA67, 96, .inl f68))] := hD
  have hK : va_K (dC, dI) classes [(cA8, .object "Seattable$Big"), (cA14, .object "Seattable$Big"), (cA67, .int)] s := hK
  refine W.widen (k := 11) (n := 387) (Nat.le_of_ble_eq_true rfl) (Nat.le_of_ble_eq_true rfl) ?_
  refine va_putF (D := (dC, dI)) (ci := 6) (v := .ref q59) (ty := .object "Seattable$Big") (C := RX8) (T := TX8) (N := 15) hx hb hG iX8 tyX8 tyX8_ok nmX8 hown hK hP hD hS 0 rfl rfl 13 (by decide) (hG _ m_78) (fun _ h9 => h9) rfl hin rfl (by decide +kernel) rfl rfl (by rw [hl_56]; decide) dX8_init_76 (fun H locs hP hD hS => ?_)
  have hP : va_P (dC, dI) classes [(a, .inr (6, (fs55.set 13 (.ref q59)))), (q7, .inl (cA8, 11, .inr (.inr (.inr (.inr f9))))), (q13, .inl (cA14, 11, .inr (.inr (.inr (.inr f15))))), (q59, .inr (1, fs65)), (q66, .inl (cA67, 96, .inl f68))] H := hP
  have hD : va_D A [(a, .inr (6, (fs55.set 13 (.ref q59)))), (q7, .inl (cA8, 11, .inr (.inr (.inr (.inr f9))))), (q13, .inl (cA14, 11, .inr (.inr (.inr (.inr f15))))), (q59, .inr (1, fs65)), (q66, .inl (cA67, 96, .inl f68))] := hD
  obtain ⟨fs72, efs72⟩ : ∃ y : List Value, y = fs55.set 13 (.ref q59) := ⟨_, rfl⟩
  rw [← efs72] at hP hD
  have hl_73 : fs72.length = 15 := by rw [efs72, List.length_set]; exact hl_56
  have hf_74 : fs72[6]? = some (.ref q7) := by rw [efs72]; exact fs_set_ne hf_57 (by decide)
  have hf_75 : fs72[7]? = some (.ref q13) := by rw [efs72]; exact fs_set_ne hf_58 (by decide)
  have hP := hP.sub (ws' := [(a, .inr (6, fs72)), (q7, .inl (cA8, 11, .inr (.inr (.inr (.inr f9))))), (q13, .inl (cA14, 11, .inr (.inr (.inr (.inr f15)))))]) [0, 1, 2] rfl
  have hD := hD.sub (ws' := [(a, .inr (6, fs72)), (q7, .inl (cA8, 11, .inr (.inr (.inr (.inr f9))))), (q13, .inl (cA14, 11, .inr (.inr (.inr (.inr f15)))))]) [0, 1, 2] (by decide) rfl
  have hK := hK.sub (tys' := [(cA8, .object "Seattable$Big"), (cA14, .object "Seattable$Big")]) [0, 1] rfl
  refine lv_aload_n hx hb dX8_init_79 rfl (lv_at hl 0 rfl) ?_
  refine va_new (D := (dC, dI)) (ci := 1) (fs := (List.range 2).map (fun k => defaultValue (tyX1 k))) (C := RX1) (T := TX1) (N := 2) hx hb hG iX1 tyX1 tyX1_ok hown (hG _ m_72) (hG _ m_45) (hG _ m_46) hK hP hD hS hA rfl (fs_new 2 tyX1) (Nat.le_of_ble_eq_true rfl) (Nat.le_of_ble_eq_true rfl) dX8_init_80 (fun q76 H hP hD hS => ?_)
  have hP : va_P (dC, dI) classes [(a, .inr (6, fs72)), (q7, .inl (cA8, 11, .inr (.inr (.inr (.inr f9))))), (q13, .inl (cA14, 11, .inr (.inr (.inr (.inr f15))))), (q76, .inr (1, ((List.range 2).map (fun k => defaultValue (tyX1 k)))))] H := hP
  have hD : va_D A [(a, .inr (6, fs72)), (q7, .inl (cA8, 11, .inr (.inr (.inr (.inr f9))))), (q13, .inl (cA14, 11, .inr (.inr (.inr (.inr f15))))), (q76, .inr (1, ((List.range 2).map (fun k => defaultValue (tyX1 k)))))] := hD
  obtain ⟨fs77, efs77⟩ : ∃ y : List Value, y = (List.range 2).map (fun k => defaultValue (tyX1 k)) := ⟨_, rfl⟩
  rw [← efs77] at hP hD
  have hl_78 : fs77.length = 2 := by rw [efs77, List.length_map, List.length_range]
  have hf_79 : fs77[0]? = some (.null) := by rw [efs77]; rfl
  have hf_80 : fs77[1]? = some (.int 0) := by rw [efs77]; rfl
  refine W.widen (k := 12) (n := 389) (Nat.le_of_ble_eq_true rfl) (Nat.le_of_ble_eq_true rfl) ?_
  refine lv_dup hx hb dX8_init_83 rfl ?_
  have hPc := hP.sub (ws' := [(q76, .inr (1, fs77))]) [3] rfl
  have hDc := hD.sub (ws' := [(q76, .inr (1, fs77))]) [3] (by decide) rfl
  have hKc := hK.sub (tys' := []) [] rfl
  have hFc := va_free (wc := [(q76, .inr (1, fs77))]) hD hS hA [3] rfl
  refine va_callv (va_runIN (As := []) (rest := [.ref q76, .ref a]) ⟨hx, hb, hml, hown, hG⟩ (c_Big_init l dC dI z q76 fs77 H.size hl_78 hf_80) ⟨va_cnB (host := "Seattable") 0 hG (gI m_47) rfl rfl rfl (nw_nest_1 hN) (hG _ m_46) (by decide +kernel) ⟨Nat.le_of_ble_eq_true rfl, Nat.le_of_ble_eq_true rfl⟩, rfl, (hG _ m_48)⟩ ⟨pre_blind, fun U hU hW => ⟨rfl, pre_call hU hW hPc hKc hDc hN (zkeep hZ hS) hFc⟩⟩ rfl rfl hl.1 rfl (lv_room (Nat.le_of_ble_eq_true rfl)) dX8_init_84 ⟨Nat.le_of_ble_eq_true rfl, Nat.le_of_ble_eq_true rfl⟩) hS (fun q _ h => hFc q h) hFc (fun u t H locs ht hvm hw hB hz1 hk1 hS => ?_)
  obtain ⟨fs82, q83, cA84, f85, hP1, hK1, hD1, hy86, hy87, hy88⟩ := hB
  rw [ht] at hP1
  have hK1 := va_K.moved hvm.symm hK1
  obtain ⟨hP, hD⟩ := va_join (wr := [(a, .inr (6, fs72)), (q7, .inl (cA8, 11, .inr (.inr (.inr (.inr f9))))), (q13, .inl (cA14, 11, .inr (.inr (.inr (.inr f15)))))]) (w1 := [(q76, .inr (1, fs82)), (q83, .inl (cA84, 96, .inl f85))]) hP hD [3] [0, 1, 2] rfl rfl (by decide) (by decide) hk1 hFc hP1 hD1
  have hK := (hK.sub (tys' := [(cA8, .object "Seattable$Big"), (cA14, .object "Seattable$Big")]) [0, 1] rfl).app hK1
  have hP : va_P (dC, dI) classes [(a, .inr (6, fs72)), (q7, .inl (cA8, 11, .inr (.inr (.inr (.inr f9))))), (q13, .inl (cA14, 11, .inr (.inr (.inr (.inr f15))))), (q76, .inr (1, fs82)), (q83, .inl (cA84, 96, .inl f85))] H := hP
  have hD : va_D A [(a, .inr (6, fs72)), (q7, .inl (cA8, 11, .inr (.inr (.inr (.inr f9))))), (q13, .inl (cA14, 11, .inr (.inr (.inr (.inr f15))))), (q76, .inr (1, fs82)), (q83, .inl (cA84, 96, .inl f85))] := hD
  have hK : va_K (dC, dI) classes [(cA8, .object "Seattable$Big"), (cA14, .object "Seattable$Big"), (cA84, .int)] s := hK
  refine W.widen (k := 13) (n := 485) (Nat.le_of_ble_eq_true rfl) (Nat.le_of_ble_eq_true rfl) ?_
  refine va_putF (D := (dC, dI)) (ci := 6) (v := .ref q76) (ty := .object "Seattable$Big") (C := RX8) (T := TX8) (N := 15) hx hb hG iX8 tyX8 tyX8_ok nmX8 hown hK hP hD hS 0 rfl rfl 14 (by decide) (hG _ m_79) (fun _ h9 => h9) rfl hin rfl (by decide +kernel) rfl rfl (by rw [hl_73]; decide) dX8_init_87 (fun H locs hP hD hS => ?_)
  have hP : va_P (dC, dI) classes [(a, .inr (6, (fs72.set 14 (.ref q76)))), (q7, .inl (cA8, 11, .inr (.inr (.inr (.inr f9))))), (q13, .inl (cA14, 11, .inr (.inr (.inr (.inr f15))))), (q76, .inr (1, fs82)), (q83, .inl (cA84, 96, .inl f85))] H := hP
  have hD : va_D A [(a, .inr (6, (fs72.set 14 (.ref q76)))), (q7, .inl (cA8, 11, .inr (.inr (.inr (.inr f9))))), (q13, .inl (cA14, 11, .inr (.inr (.inr (.inr f15))))), (q76, .inr (1, fs82)), (q83, .inl (cA84, 96, .inl f85))] := hD
  obtain ⟨fs89, efs89⟩ : ∃ y : List Value, y = fs72.set 14 (.ref q76) := ⟨_, rfl⟩
  rw [← efs89] at hP hD
  have hl_90 : fs89.length = 15 := by rw [efs89, List.length_set]; exact hl_73
  have hf_91 : fs89[6]? = some (.ref q7) := by rw [efs89]; exact fs_set_ne hf_74 (by decide)
  have hf_92 : fs89[7]? = some (.ref q13) := by rw [efs89]; exact fs_set_ne hf_75 (by decide)
  have hP := hP.sub (ws' := [(a, .inr (6, fs89)), (q7, .inl (cA8, 11, .inr (.inr (.inr (.inr f9))))), (q13, .inl (cA14, 11, .inr (.inr (.inr (.inr f15)))))]) [0, 1, 2] rfl
  have hD := hD.sub (ws' := [(a, .inr (6, fs89)), (q7, .inl (cA8, 11, .inr (.inr (.inr (.inr f9))))), (q13, .inl (cA14, 11, .inr (.inr (.inr (.inr f15)))))]) [0, 1, 2] (by decide) rfl
  have hK := hK.sub (tys' := [(cA8, .object "Seattable$Big"), (cA14, .object "Seattable$Big")]) [0, 1] rfl
  refine lv_iconst (v := 0) hx hb dX8_init_90 (by decide) ?_
  refine lv_istore_n (lv' := [(1, .int 0), (0, .ref a)]) hx hb dX8_init_91 rfl hl (by decide) rfl (fun ls hl => ?_)
  refine lv_iload_n hx hb dX8_init_92 rfl (lv_at hl 0 rfl) ?_
  refine lv_bipush (v := 11) hx hb dX8_init_93 (by decide) ?_
  refine lv_icmp_ge (tgt := 130) hx hb dX8_init_95 (by decide) (fun c9 => absurd c9 (by decide)) (fun _ => ?_)
  refine lv_aload_n hx hb dX8_init_98 rfl (lv_at hl 1 rfl) ?_
  refine va_get (D := (dC, dI)) (ci := 6) (v := .ref q7) (C := RX8) (T := TX8) (N := 15) hx hb hG iX8 hown hK hP 0 rfl rfl 6 (by decide) (hG _ m_73) (fun _ h9 => h9) hf_91 dX8_init_99 ?_
  refine lv_iload_n hx hb dX8_init_102 rfl (lv_at hl 0 rfl) ?_
  refine va_new (D := (dC, dI)) (ci := 1) (fs := (List.range 2).map (fun k => defaultValue (tyX1 k))) (C := RX1) (T := TX1) (N := 2) hx hb hG iX1 tyX1 tyX1_ok hown (hG _ m_72) (hG _ m_45) (hG _ m_46) hK hP hD hS hA rfl (fs_new 2 tyX1) (Nat.le_of_ble_eq_true rfl) (Nat.le_of_ble_eq_true rfl) dX8_init_103 (fun q93 H hP hD hS => ?_)
  have hP : va_P (dC, dI) classes [(a, .inr (6, fs89)), (q7, .inl (cA8, 11, .inr (.inr (.inr (.inr f9))))), (q13, .inl (cA14, 11, .inr (.inr (.inr (.inr f15))))), (q93, .inr (1, ((List.range 2).map (fun k => defaultValue (tyX1 k)))))] H := hP
  have hD : va_D A [(a, .inr (6, fs89)), (q7, .inl (cA8, 11, .inr (.inr (.inr (.inr f9))))), (q13, .inl (cA14, 11, .inr (.inr (.inr (.inr f15))))), (q93, .inr (1, ((List.range 2).map (fun k => defaultValue (tyX1 k)))))] := hD
  obtain ⟨fs94, efs94⟩ : ∃ y : List Value, y = (List.range 2).map (fun k => defaultValue (tyX1 k)) := ⟨_, rfl⟩
  rw [← efs94] at hP hD
  have hl_95 : fs94.length = 2 := by rw [efs94, List.length_map, List.length_range]
  have hf_96 : fs94[0]? = some (.null) := by rw [efs94]; rfl
  have hf_97 : fs94[1]? = some (.int 0) := by rw [efs94]; rfl
  refine W.widen (k := 14) (n := 487) (Nat.le_of_ble_eq_true rfl) (Nat.le_of_ble_eq_true rfl) ?_
  refine lv_dup hx hb dX8_init_106 rfl ?_
  have hPc := hP.sub (ws' := [(q93, .inr (1, fs94))]) [3] rfl
  have hDc := hD.sub (ws' := [(q93, .inr (1, fs94))]) [3] (by decide) rfl
  have hKc := hK.sub (tys' := []) [] rfl
  have hFc := va_free (wc := [(q93, .inr (1, fs94))]) hD hS hA [3] rfl
  refine va_callv (va_runIN (As := []) (rest := [.ref q93, .int 0, .ref q7]) ⟨hx, hb, hml, hown, hG⟩ (c_Big_init l dC dI z q93 fs94 H.size hl_95 hf_97) ⟨va_cnB (host := "Seattable") 0 hG (gI m_47) rfl rfl rfl (nw_nest_1 hN) (hG _ m_46) (by decide +kernel) ⟨Nat.le_of_ble_eq_true rfl, Nat.le_of_ble_eq_true rfl⟩, rfl, (hG _ m_48)⟩ ⟨pre_blind, fun U hU hW => ⟨rfl, pre_call hU hW hPc hKc hDc hN (zkeep hZ hS) hFc⟩⟩ rfl rfl hl.1 rfl (lv_room (Nat.le_of_ble_eq_true rfl)) dX8_init_107 ⟨Nat.le_of_ble_eq_true rfl, Nat.le_of_ble_eq_true rfl⟩) hS (fun q _ h => hFc q h) hFc (fun u t H locs ht hvm hw hB hz1 hk1 hS => ?_)
  obtain ⟨fs99, q100, cA101, f102, hP1, hK1, hD1, hy103, hy104, hy105⟩ := hB
  rw [ht] at hP1
  have hK1 := va_K.moved hvm.symm hK1
  obtain ⟨hP, hD⟩ := va_join (wr := [(a, .inr (6, fs89)), (q7, .inl (cA8, 11, .inr (.inr (.inr (.inr f9))))), (q13, .inl (cA14, 11, .inr (.inr (.inr (.inr f15)))))]) (w1 := [(q93, .inr (1, fs99)), (q100, .inl (cA101, 96, .inl f102))]) hP hD [3] [0, 1, 2] rfl rfl (by decide) (by decide) hk1 hFc hP1 hD1
  have hK := (hK.sub (tys' := [(cA8, .object "Seattable$Big"), (cA14, .object "Seattable$Big")]) [0, 1] rfl).app hK1
  have hP : va_P (dC, dI) classes [(a, .inr (6, fs89)), (q7, .inl (cA8, 11, .inr (.inr (.inr (.inr f9))))), (q13, .inl (cA14, 11, .inr (.inr (.inr (.inr f15))))), (q93, .inr (1, fs99)), (q100, .inl (cA101, 96, .inl f102))] H := hP
  have hD : va_D A [(a, .inr (6, fs89)), (q7, .inl (cA8, 11, .inr (.inr (.inr (.inr f9))))), (q13, .inl (cA14, 11, .inr (.inr (.inr (.inr f15))))), (q93, .inr (1, fs99)), (q100, .inl (cA101, 96, .inl f102))] := hD
  have hK : va_K (dC, dI) classes [(cA8, .object "Seattable$Big"), (cA14, .object "Seattable$Big"), (cA101, .int)] s := hK
  refine W.widen (k := 15) (n := 583) (Nat.le_of_ble_eq_true rfl) (Nat.le_of_ble_eq_true rfl) ?_
  refine va_astq (D := (dC, dI)) (ci := 1) (r := (RX1, TX1, 2)) hx hb hK hP hD hS 1 0 3 rfl rfl rfl rfl (by unfold vp_in; decide) dX8_init_110 (fun H locs hP hD hS => ?_)
  have hP : va_P (dC, dI) classes [(a, .inr (6, fs89)), (q7, .inl (cA8, 11, .inr (.inr (.inr (.inr (va_up f9 (0 : Int32).toNatClampNeg (some q93))))))), (q13, .inl (cA14, 11, .inr (.inr (.inr (.inr f15))))), (q93, .inr (1, fs99)), (q100, .inl (cA101, 96, .inl f102))] H := hP
  have hD : va_D A [(a, .inr (6, fs89)), (q7, .inl (cA8, 11, .inr (.inr (.inr (.inr (va_up f9 (0 : Int32).toNatClampNeg (some q93))))))), (q13, .inl (cA14, 11, .inr (.inr (.inr (.inr f15))))), (q93, .inr (1, fs99)), (q100, .inl (cA101, 96, .inl f102))] := hD
  obtain ⟨f106, ef106⟩ : ∃ y : Nat → Option Nat, y = (va_up f9 (0 : Int32).toNatClampNeg (some q93)) := ⟨_, rfl⟩
  rw [← ef106] at hP hD
  have hP := hP.sub (ws' := [(a, .inr (6, fs89)), (q7, .inl (cA8, 11, .inr (.inr (.inr (.inr f106))))), (q13, .inl (cA14, 11, .inr (.inr (.inr (.inr f15)))))]) [0, 1, 2] rfl
  have hD := hD.sub (ws' := [(a, .inr (6, fs89)), (q7, .inl (cA8, 11, .inr (.inr (.inr (.inr f106))))), (q13, .inl (cA14, 11, .inr (.inr (.inr (.inr f15)))))]) [0, 1, 2] (by decide) rfl
  have hK := hK.sub (tys' := [(cA8, .object "Seattable$Big"), (cA14, .object "Seattable$Big")]) [0, 1] rfl
  refine lv_aload_n hx hb dX8_init_111 rfl (lv_at hl 1 rfl) ?_
  refine va_get (D := (dC, dI)) (ci := 6) (v := .ref q13) (C := RX8) (T := TX8) (N := 15) hx hb hG iX8 hown hK hP 0 rfl rfl 7 (by decide) (hG _ m_74) (fun _ h9 => h9) hf_92 dX8_init_112 ?_
  refine lv_iload_n hx hb dX8_init_115 rfl (lv_at hl 0 rfl) ?_
  refine va_new (D := (dC, dI)) (ci := 1) (fs := (List.range 2).map (fun k => defaultValue (tyX1 k))) (C := RX1) (T := TX1) (N := 2) hx hb hG iX1 tyX1 tyX1_ok hown (hG _ m_72) (hG _ m_45) (hG _ m_46) hK hP hD hS hA rfl (fs_new 2 tyX1) (Nat.le_of_ble_eq_true rfl) (Nat.le_of_ble_eq_true rfl) dX8_init_116 (fun q107 H hP hD hS => ?_)
  have hP : va_P (dC, dI) classes [(a, .inr (6, fs89)), (q7, .inl (cA8, 11, .inr (.inr (.inr (.inr f106))))), (q13, .inl (cA14, 11, .inr (.inr (.inr (.inr f15))))), (q107, .inr (1, ((List.range 2).map (fun k => defaultValue (tyX1 k)))))] H := hP
  have hD : va_D A [(a, .inr (6, fs89)), (q7, .inl (cA8, 11, .inr (.inr (.inr (.inr f106))))), (q13, .inl (cA14, 11, .inr (.inr (.inr (.inr f15))))), (q107, .inr (1, ((List.range 2).map (fun k => defaultValue (tyX1 k)))))] := hD
  obtain ⟨fs108, efs108⟩ : ∃ y : List Value, y = (List.range 2).map (fun k => defaultValue (tyX1 k)) := ⟨_, rfl⟩
  rw [← efs108] at hP hD
  have hl_109 : fs108.length = 2 := by rw [efs108, List.length_map, List.length_range]
  have hf_110 : fs108[0]? = some (.null) := by rw [efs108]; rfl
  have hf_111 : fs108[1]? = some (.int 0) := by rw [efs108]; rfl
  refine W.widen (k := 16) (n := 585) (Nat.le_of_ble_eq_true rfl) (Nat.le_of_ble_eq_true rfl) ?_
  refine lv_dup hx hb dX8_init_119 rfl ?_
  have hPc := hP.sub (ws' := [(q107, .inr (1, fs108))]) [3] rfl
  have hDc := hD.sub (ws' := [(q107, .inr (1, fs108))]) [3] (by decide) rfl
  have hKc := hK.sub (tys' := []) [] rfl
  have hFc := va_free (wc := [(q107, .inr (1, fs108))]) hD hS hA [3] rfl
  refine va_callv (va_runIN (As := []) (rest := [.ref q107, .int 0, .ref q13]) ⟨hx, hb, hml, hown, hG⟩ (c_Big_init l dC dI z q107 fs108 H.size hl_109 hf_111) ⟨va_cnB (host := "Seattable") 0 hG (gI m_47) rfl rfl rfl (nw_nest_1 hN) (hG _ m_46) (by decide +kernel) ⟨Nat.le_of_ble_eq_true rfl, Nat.le_of_ble_eq_true rfl⟩, rfl, (hG _ m_48)⟩ ⟨pre_blind, fun U hU hW => ⟨rfl, pre_call hU hW hPc hKc hDc hN (zkeep hZ hS) hFc⟩⟩ rfl rfl hl.1 rfl (lv_room (Nat.le_of_ble_eq_true rfl)) dX8_init_120 ⟨Nat.le_of_ble_eq_true rfl, Nat.le_of_ble_eq_true rfl⟩) hS (fun q _ h => hFc q h) hFc (fun u t H locs ht hvm hw hB hz1 hk1 hS => ?_)
  obtain ⟨fs113, q114, cA115, f116, hP1, hK1, hD1, hy117, hy118, hy119⟩ := hB
  rw [ht] at hP1
  have hK1 := va_K.moved hvm.symm hK1
  obtain ⟨hP, hD⟩ := va_join (wr := [(a, .inr (6, fs89)), (q7, .inl (cA8, 11, .inr (.inr (.inr (.inr f106))))), (q13, .inl (cA14, 11, .inr (.inr (.inr (.inr f15)))))]) (w1 := [(q107, .inr (1, fs113)), (q114, .inl (cA115, 96, .inl f116))]) hP hD [3] [0, 1, 2] rfl rfl (by decide) (by decide) hk1 hFc hP1 hD1
  have hK := (hK.sub (tys' := [(cA8, .object "Seattable$Big"), (cA14, .object "Seattable$Big")]) [0, 1] rfl).app hK1
  have hP : va_P (dC, dI) classes [(a, .inr (6, fs89)), (q7, .inl (cA8, 11, .inr (.inr (.inr (.inr f106))))), (q13, .inl (cA14, 11, .inr (.inr (.inr (.inr f15))))), (q107, .inr (1, fs113)), (q114, .inl (cA115, 96, .inl f116))] H := hP
  have hD : va_D A [(a, .inr (6, fs89)), (q7, .inl (cA8, 11, .inr (.inr (.inr (.inr f106))))), (q13, .inl (cA14, 11, .inr (.inr (.inr (.inr f15))))), (q107, .inr (1, fs113)), (q114, .inl (cA115, 96, .inl f116))] := hD
  have hK : va_K (dC, dI) classes [(cA8, .object "Seattable$Big"), (cA14, .object "Seattable$Big"), (cA115, .int)] s := hK
  refine W.widen (k := 17) (n := 681) (Nat.le_of_ble_eq_true rfl) (Nat.le_of_ble_eq_true rfl) ?_
  refine va_astq (D := (dC, dI)) (ci := 1) (r := (RX1, TX1, 2)) hx hb hK hP hD hS 2 1 3 rfl rfl rfl rfl (by unfold vp_in; decide) dX8_init_123 (fun H locs hP hD hS => ?_)
  have hP : va_P (dC, dI) classes [(a, .inr (6, fs89)), (q7, .inl (cA8, 11, .inr (.inr (.inr (.inr f106))))), (q13, .inl (cA14, 11, .inr (.inr (.inr (.inr (va_up f15 (0 : Int32).toNatClampNeg (some q107))))))), (q107, .inr (1, fs113)), (q114, .inl (cA115, 96, .inl f116))] H := hP
  have hD : va_D A [(a, .inr (6, fs89)), (q7, .inl (cA8, 11, .inr (.inr (.inr (.inr f106))))), (q13, .inl (cA14, 11, .inr (.inr (.inr (.inr (va_up f15 (0 : Int32).toNatClampNeg (some q107))))))), (q107, .inr (1, fs113)), (q114, .inl (cA115, 96, .inl f116))] := hD
  obtain ⟨f120, ef120⟩ : ∃ y : Nat → Option Nat, y = (va_up f15 (0 : Int32).toNatClampNeg (some q107)) := ⟨_, rfl⟩
  rw [← ef120] at hP hD
  have hP := hP.sub (ws' := [(a, .inr (6, fs89)), (q7, .inl (cA8, 11, .inr (.inr (.inr (.inr f106))))), (q13, .inl (cA14, 11, .inr (.inr (.inr (.inr f120)))))]) [0, 1, 2] rfl
  have hD := hD.sub (ws' := [(a, .inr (6, fs89)), (q7, .inl (cA8, 11, .inr (.inr (.inr (.inr f106))))), (q13, .inl (cA14, 11, .inr (.inr (.inr (.inr f120)))))]) [0, 1, 2] (by decide) rfl
  have hK := hK.sub (tys' := [(cA8, .object "Seattable$Big"), (cA14, .object "Seattable$Big")]) [0, 1] rfl
  refine lv_iinc (v := 1) (lv' := [(1, .int 1), (0, .ref a)]) hx hb dX8_init_124 hl (k := 0) rfl (by decide) (by decide) rfl (fun ls hl => ?_)
  refine lv_goto (tgt := 92) hx hb dX8_init_127 (by decide) ?_
  refine lv_iload_n hx hb dX8_init_92 rfl (lv_at hl 0 rfl) ?_
  refine lv_bipush (v := 11) hx hb dX8_init_93 (by decide) ?_
  refine lv_icmp_ge (tgt := 130) hx hb dX8_init_95 (by decide) (fun c9 => absurd c9 (by decide)) (fun _ => ?_)
  refine lv_aload_n hx hb dX8_init_98 rfl (lv_at hl 1 rfl) ?_
  refine va_get (D := (dC, dI)) (ci := 6) (v := .ref q7) (C := RX8) (T := TX8) (N := 15) hx hb hG iX8 hown hK hP 0 rfl rfl 6 (by decide) (hG _ m_73) (fun _ h9 => h9) hf_91 dX8_init_99 ?_
  refine lv_iload_n hx hb dX8_init_102 rfl (lv_at hl 0 rfl) ?_
  refine va_new (D := (dC, dI)) (ci := 1) (fs := (List.range 2).map (fun k => defaultValue (tyX1 k))) (C := RX1) (T := TX1) (N := 2) hx hb hG iX1 tyX1 tyX1_ok hown (hG _ m_72) (hG _ m_45) (hG _ m_46) hK hP hD hS hA rfl (fs_new 2 tyX1) (Nat.le_of_ble_eq_true rfl) (Nat.le_of_ble_eq_true rfl) dX8_init_103 (fun q121 H hP hD hS => ?_)
  have hP : va_P (dC, dI) classes [(a, .inr (6, fs89)), (q7, .inl (cA8, 11, .inr (.inr (.inr (.inr f106))))), (q13, .inl (cA14, 11, .inr (.inr (.inr (.inr f120))))), (q121, .inr (1, ((List.range 2).map (fun k => defaultValue (tyX1 k)))))] H := hP
  have hD : va_D A [(a, .inr (6, fs89)), (q7, .inl (cA8, 11, .inr (.inr (.inr (.inr f106))))), (q13, .inl (cA14, 11, .inr (.inr (.inr (.inr f120))))), (q121, .inr (1, ((List.range 2).map (fun k => defaultValue (tyX1 k)))))] := hD
  obtain ⟨fs122, efs122⟩ : ∃ y : List Value, y = (List.range 2).map (fun k => defaultValue (tyX1 k)) := ⟨_, rfl⟩
  rw [← efs122] at hP hD
  have hl_123 : fs122.length = 2 := by rw [efs122, List.length_map, List.length_range]
  have hf_124 : fs122[0]? = some (.null) := by rw [efs122]; rfl
  have hf_125 : fs122[1]? = some (.int 0) := by rw [efs122]; rfl
  refine W.widen (k := 18) (n := 683) (Nat.le_of_ble_eq_true rfl) (Nat.le_of_ble_eq_true rfl) ?_
  refine lv_dup hx hb dX8_init_106 rfl ?_
  have hPc := hP.sub (ws' := [(q121, .inr (1, fs122))]) [3] rfl
  have hDc := hD.sub (ws' := [(q121, .inr (1, fs122))]) [3] (by decide) rfl
  have hKc := hK.sub (tys' := []) [] rfl
  have hFc := va_free (wc := [(q121, .inr (1, fs122))]) hD hS hA [3] rfl
  refine va_callv (va_runIN (As := []) (rest := [.ref q121, .int 1, .ref q7]) ⟨hx, hb, hml, hown, hG⟩ (c_Big_init l dC dI z q121 fs122 H.size hl_123 hf_125) ⟨va_cnB (host := "Seattable") 0 hG (gI m_47) rfl rfl rfl (nw_nest_1 hN) (hG _ m_46) (by decide +kernel) ⟨Nat.le_of_ble_eq_true rfl, Nat.le_of_ble_eq_true rfl⟩, rfl, (hG _ m_48)⟩ ⟨pre_blind, fun U hU hW => ⟨rfl, pre_call hU hW hPc hKc hDc hN (zkeep hZ hS) hFc⟩⟩ rfl rfl hl.1 rfl (lv_room (Nat.le_of_ble_eq_true rfl)) dX8_init_107 ⟨Nat.le_of_ble_eq_true rfl, Nat.le_of_ble_eq_true rfl⟩) hS (fun q _ h => hFc q h) hFc (fun u t H locs ht hvm hw hB hz1 hk1 hS => ?_)
  obtain ⟨fs127, q128, cA129, f130, hP1, hK1, hD1, hy131, hy132, hy133⟩ := hB
  rw [ht] at hP1
  have hK1 := va_K.moved hvm.symm hK1
  obtain ⟨hP, hD⟩ := va_join (wr := [(a, .inr (6, fs89)), (q7, .inl (cA8, 11, .inr (.inr (.inr (.inr f106))))), (q13, .inl (cA14, 11, .inr (.inr (.inr (.inr f120)))))]) (w1 := [(q121, .inr (1, fs127)), (q128, .inl (cA129, 96, .inl f130))]) hP hD [3] [0, 1, 2] rfl rfl (by decide) (by decide) hk1 hFc hP1 hD1
  have hK := (hK.sub (tys' := [(cA8, .object "Seattable$Big"), (cA14, .object "Seattable$Big")]) [0, 1] rfl).app hK1
  have hP : va_P (dC, dI) classes [(a, .inr (6, fs89)), (q7, .inl (cA8, 11, .inr (.inr (.inr (.inr f106))))), (q13, .inl (cA14, 11, .inr (.inr (.inr (.inr f120))))), (q121, .inr (1, fs127)), (q128, .inl (cA129, 96, .inl f130))] H := hP
  have hD : va_D A [(a, .inr (6, fs89)), (q7, .inl (cA8, 11, .inr (.inr (.inr (.inr f106))))), (q13, .inl (cA14, 11, .inr (.inr (.inr (.inr f120))))), (q121, .inr (1, fs127)), (q128, .inl (cA129, 96, .inl f130))] := hD
  have hK : va_K (dC, dI) classes [(cA8, .object "Seattable$Big"), (cA14, .object "Seattable$Big"), (cA129, .int)] s := hK
  refine W.widen (k := 19) (n := 779) (Nat.le_of_ble_eq_true rfl) (Nat.le_of_ble_eq_true rfl) ?_
  refine va_astq (D := (dC, dI)) (ci := 1) (r := (RX1, TX1, 2)) hx hb hK hP hD hS 1 0 3 rfl rfl rfl rfl (by unfold vp_in; decide) dX8_init_110 (fun H locs hP hD hS => ?_)
  have hP : va_P (dC, dI) classes [(a, .inr (6, fs89)), (q7, .inl (cA8, 11, .inr (.inr (.inr (.inr (va_up f106 (1 : Int32).toNatClampNeg (some q121))))))), (q13, .inl (cA14, 11, .inr (.inr (.inr (.inr f120))))), (q121, .inr (1, fs127)), (q128, .inl (cA129, 96, .inl f130))] H := hP
  have hD : va_D A [(a, .inr (6, fs89)), (q7, .inl (cA8, 11, .inr (.inr (.inr (.inr (va_up f106 (1 : Int32).toNatClampNeg (some q121))))))), (q13, .inl (cA14, 11, .inr (.inr (.inr (.inr f120))))), (q121, .inr (1, fs127)), (q128, .inl (cA129, 96, .inl f130))] := hD
  obtain ⟨f134, ef134⟩ : ∃ y : Nat → Option Nat, y = (va_up f106 (1 : Int32).toNatClampNeg (some q121)) := ⟨_, rfl⟩
  rw [← ef134] at hP hD
  have hP := hP.sub (ws' := [(a, .inr (6, fs89)), (q7, .inl (cA8, 11, .inr (.inr (.inr (.inr f134))))), (q13, .inl (cA14, 11, .inr (.inr (.inr (.inr f120)))))]) [0, 1, 2] rfl
  have hD := hD.sub (ws' := [(a, .inr (6, fs89)), (q7, .inl (cA8, 11, .inr (.inr (.inr (.inr f134))))), (q13, .inl (cA14, 11, .inr (.inr (.inr (.inr f120)))))]) [0, 1, 2] (by decide) rfl
  have hK := hK.sub (tys' := [(cA8, .object "Seattable$Big"), (cA14, .object "Seattable$Big")]) [0, 1] rfl
  refine lv_aload_n hx hb dX8_init_111 rfl (lv_at hl 1 rfl) ?_
  refine va_get (D := (dC, dI)) (ci := 6) (v := .ref q13) (C := RX8) (T := TX8) (N := 15) hx hb hG iX8 hown hK hP 0 rfl rfl 7 (by decide) (hG _ m_74) (fun _ h9 => h9) hf_92 dX8_init_112 ?_
  refine lv_iload_n hx hb dX8_init_115 rfl (lv_at hl 0 rfl) ?_
  refine va_new (D := (dC, dI)) (ci := 1) (fs := (List.range 2).map (fun k => defaultValue (tyX1 k))) (C := RX1) (T := TX1) (N := 2) hx hb hG iX1 tyX1 tyX1_ok hown (hG _ m_72) (hG _ m_45) (hG _ m_46) hK hP hD hS hA rfl (fs_new 2 tyX1) (Nat.le_of_ble_eq_true rfl) (Nat.le_of_ble_eq_true rfl) dX8_init_116 (fun q135 H hP hD hS => ?_)
  have hP : va_P (dC, dI) classes [(a, .inr (6, fs89)), (q7, .inl (cA8, 11, .inr (.inr (.inr (.inr f134))))), (q13, .inl (cA14, 11, .inr (.inr (.inr (.inr f120))))), (q135, .inr (1, ((List.range 2).map (fun k => defaultValue (tyX1 k)))))] H := hP
  have hD : va_D A [(a, .inr (6, fs89)), (q7, .inl (cA8, 11, .inr (.inr (.inr (.inr f134))))), (q13, .inl (cA14, 11, .inr (.inr (.inr (.inr f120))))), (q135, .inr (1, ((List.range 2).map (fun k => defaultValue (tyX1 k)))))] := hD
  obtain ⟨fs136, efs136⟩ : ∃ y : List Value, y = (List.range 2).map (fun k => defaultValue (tyX1 k)) := ⟨_, rfl⟩
  rw [← efs136] at hP hD
  have hl_137 : fs136.length = 2 := by rw [efs136, List.length_map, List.length_range]
  have hf_138 : fs136[0]? = some (.null) := by rw [efs136]; rfl
  have hf_139 : fs136[1]? = some (.int 0) := by rw [efs136]; rfl
  refine W.widen (k := 20) (n := 781) (Nat.le_of_ble_eq_true rfl) (Nat.le_of_ble_eq_true rfl) ?_
  refine lv_dup hx hb dX8_init_119 rfl ?_
  have hPc := hP.sub (ws' := [(q135, .inr (1, fs136))]) [3] rfl
  have hDc := hD.sub (ws' := [(q135, .inr (1, fs136))]) [3] (by decide) rfl
  have hKc := hK.sub (tys' := []) [] rfl
  have hFc := va_free (wc := [(q135, .inr (1, fs136))]) hD hS hA [3] rfl
  refine va_callv (va_runIN (As := []) (rest := [.ref q135, .int 1, .ref q13]) ⟨hx, hb, hml, hown, hG⟩ (c_Big_init l dC dI z q135 fs136 H.size hl_137 hf_139) ⟨va_cnB (host := "Seattable") 0 hG (gI m_47) rfl rfl rfl (nw_nest_1 hN) (hG _ m_46) (by decide +kernel) ⟨Nat.le_of_ble_eq_true rfl, Nat.le_of_ble_eq_true rfl⟩, rfl, (hG _ m_48)⟩ ⟨pre_blind, fun U hU hW => ⟨rfl, pre_call hU hW hPc hKc hDc hN (zkeep hZ hS) hFc⟩⟩ rfl rfl hl.1 rfl (lv_room (Nat.le_of_ble_eq_true rfl)) dX8_init_120 ⟨Nat.le_of_ble_eq_true rfl, Nat.le_of_ble_eq_true rfl⟩) hS (fun q _ h => hFc q h) hFc (fun u t H locs ht hvm hw hB hz1 hk1 hS => ?_)
  obtain ⟨fs141, q142, cA143, f144, hP1, hK1, hD1, hy145, hy146, hy147⟩ := hB
  rw [ht] at hP1
  have hK1 := va_K.moved hvm.symm hK1
  obtain ⟨hP, hD⟩ := va_join (wr := [(a, .inr (6, fs89)), (q7, .inl (cA8, 11, .inr (.inr (.inr (.inr f134))))), (q13, .inl (cA14, 11, .inr (.inr (.inr (.inr f120)))))]) (w1 := [(q135, .inr (1, fs141)), (q142, .inl (cA143, 96, .inl f144))]) hP hD [3] [0, 1, 2] rfl rfl (by decide) (by decide) hk1 hFc hP1 hD1
  have hK := (hK.sub (tys' := [(cA8, .object "Seattable$Big"), (cA14, .object "Seattable$Big")]) [0, 1] rfl).app hK1
  have hP : va_P (dC, dI) classes [(a, .inr (6, fs89)), (q7, .inl (cA8, 11, .inr (.inr (.inr (.inr f134))))), (q13, .inl (cA14, 11, .inr (.inr (.inr (.inr f120))))), (q135, .inr (1, fs141)), (q142, .inl (cA143, 96, .inl f144))] H := hP
  have hD : va_D A [(a, .inr (6, fs89)), (q7, .inl (cA8, 11, .inr (.inr (.inr (.inr f134))))), (q13, .inl (cA14, 11, .inr (.inr (.inr (.inr f120))))), (q135, .inr (1, fs141)), (q142, .inl (cA143, 96, .inl f144))] := hD
  have hK : va_K (dC, dI) classes [(cA8, .object "Seattable$Big"), (cA14, .object "Seattable$Big"), (cA143, .int)] s := hK
  refine W.widen (k := 21) (n := 877) (Nat.le_of_ble_eq_true rfl) (Nat.le_of_ble_eq_true rfl) ?_
  refine va_astq (D := (dC, dI)) (ci := 1) (r := (RX1, TX1, 2)) hx hb hK hP hD hS 2 1 3 rfl rfl rfl rfl (by unfold vp_in; decide) dX8_init_123 (fun H locs hP hD hS => ?_)
  have hP : va_P (dC, dI) classes [(a, .inr (6, fs89)), (q7, .inl (cA8, 11, .inr (.inr (.inr (.inr f134))))), (q13, .inl (cA14, 11, .inr (.inr (.inr (.inr (va_up f120 (1 : Int32).toNatClampNeg (some q135))))))), (q135, .inr (1, fs141)), (q142, .inl (cA143, 96, .inl f144))] H := hP
  have hD : va_D A [(a, .inr (6, fs89)), (q7, .inl (cA8, 11, .inr (.inr (.inr (.inr f134))))), (q13, .inl (cA14, 11, .inr (.inr (.inr (.inr (va_up f120 (1 : Int32).toNatClampNeg (some q135))))))), (q135, .inr (1, fs141)), (q142, .inl (cA143, 96, .inl f144))] := hD
  obtain ⟨f148, ef148⟩ : ∃ y : Nat → Option Nat, y = (va_up f120 (1 : Int32).toNatClampNeg (some q135)) := ⟨_, rfl⟩
  rw [← ef148] at hP hD
  have hP := hP.sub (ws' := [(a, .inr (6, fs89)), (q7, .inl (cA8, 11, .inr (.inr (.inr (.inr f134))))), (q13, .inl (cA14, 11, .inr (.inr (.inr (.inr f148)))))]) [0, 1, 2] rfl
  have hD := hD.sub (ws' := [(a, .inr (6, fs89)), (q7, .inl (cA8, 11, .inr (.inr (.inr (.inr f134))))), (q13, .inl (cA14, 11, .inr (.inr (.inr (.inr f148)))))]) [0, 1, 2] (by decide) rfl
  have hK := hK.sub (tys' := [(cA8, .object "Seattable$Big"), (cA14, .object "Seattable$Big")]) [0, 1] rfl
  refine lv_iinc (v := 2) (lv' := [(1, .int 2), (0, .ref a)]) hx hb dX8_init_124 hl (k := 0) rfl (by decide) (by decide) rfl (fun ls hl => ?_)
  refine lv_goto (tgt := 92) hx hb dX8_init_127 (by decide) ?_
  refine lv_iload_n hx hb dX8_init_92 rfl (lv_at hl 0 rfl) ?_
  refine lv_bipush (v := 11) hx hb dX8_init_93 (by decide) ?_
  refine lv_icmp_ge (tgt := 130) hx hb dX8_init_95 (by decide) (fun c9 => absurd c9 (by decide)) (fun _ => ?_)
  refine lv_aload_n hx hb dX8_init_98 rfl (lv_at hl 1 rfl) ?_
  refine va_get (D := (dC, dI)) (ci := 6) (v := .ref q7) (C := RX8) (T := TX8) (N := 15) hx hb hG iX8 hown hK hP 0 rfl rfl 6 (by decide) (hG _ m_73) (fun _ h9 => h9) hf_91 dX8_init_99 ?_
  refine lv_iload_n hx hb dX8_init_102 rfl (lv_at hl 0 rfl) ?_
  refine va_new (D := (dC, dI)) (ci := 1) (fs := (List.range 2).map (fun k => defaultValue (tyX1 k))) (C := RX1) (T := TX1) (N := 2) hx hb hG iX1 tyX1 tyX1_ok hown (hG _ m_72) (hG _ m_45) (hG _ m_46) hK hP hD hS hA rfl (fs_new 2 tyX1) (Nat.le_of_ble_eq_true rfl) (Nat.le_of_ble_eq_true rfl) dX8_init_103 (fun q149 H hP hD hS => ?_)
  have hP : va_P (dC, dI) classes [(a, .inr (6, fs89)), (q7, .inl (cA8, 11, .inr (.inr (.inr (.inr f134))))), (q13, .inl (cA14, 11, .inr (.inr (.inr (.inr f148))))), (q149, .inr (1, ((List.range 2).map (fun k => defaultValue (tyX1 k)))))] H := hP
  have hD : va_D A [(a, .inr (6, fs89)), (q7, .inl (cA8, 11, .inr (.inr (.inr (.inr f134))))), (q13, .inl (cA14, 11, .inr (.inr (.inr (.inr f148))))), (q149, .inr (1, ((List.range 2).map (fun k => defaultValue (tyX1 k)))))] := hD
  obtain ⟨fs150, efs150⟩ : ∃ y : List Value, y = (List.range 2).map (fun k => defaultValue (tyX1 k)) := ⟨_, rfl⟩
  rw [← efs150] at hP hD
  have hl_151 : fs150.length = 2 := by rw [efs150, List.length_map, List.length_range]
  have hf_152 : fs150[0]? = some (.null) := by rw [efs150]; rfl
  have hf_153 : fs150[1]? = some (.int 0) := by rw [efs150]; rfl
  refine W.widen (k := 22) (n := 879) (Nat.le_of_ble_eq_true rfl) (Nat.le_of_ble_eq_true rfl) ?_
  refine lv_dup hx hb dX8_init_106 rfl ?_
  have hPc := hP.sub (ws' := [(q149, .inr (1, fs150))]) [3] rfl
  have hDc := hD.sub (ws' := [(q149, .inr (1, fs150))]) [3] (by decide) rfl
  have hKc := hK.sub (tys' := []) [] rfl
  have hFc := va_free (wc := [(q149, .inr (1, fs150))]) hD hS hA [3] rfl
  refine va_callv (va_runIN (As := []) (rest := [.ref q149, .int 2, .ref q7]) ⟨hx, hb, hml, hown, hG⟩ (c_Big_init l dC dI z q149 fs150 H.size hl_151 hf_153) ⟨va_cnB (host := "Seattable") 0 hG (gI m_47) rfl rfl rfl (nw_nest_1 hN) (hG _ m_46) (by decide +kernel) ⟨Nat.le_of_ble_eq_true rfl, Nat.le_of_ble_eq_true rfl⟩, rfl, (hG _ m_48)⟩ ⟨pre_blind, fun U hU hW => ⟨rfl, pre_call hU hW hPc hKc hDc hN (zkeep hZ hS) hFc⟩⟩ rfl rfl hl.1 rfl (lv_room (Nat.le_of_ble_eq_true rfl)) dX8_init_107 ⟨Nat.le_of_ble_eq_true rfl, Nat.le_of_ble_eq_true rfl⟩) hS (fun q _ h => hFc q h) hFc (fun u t H locs ht hvm hw hB hz1 hk1 hS => ?_)
  obtain ⟨fs155, q156, cA157, f158, hP1, hK1, hD1, hy159, hy160, hy161⟩ := hB
  rw [ht] at hP1
  have hK1 := va_K.moved hvm.symm hK1
  obtain ⟨hP, hD⟩ := va_join (wr := [(a, .inr (6, fs89)), (q7, .inl (cA8, 11, .inr (.inr (.inr (.inr f134))))), (q13, .inl (cA14, 11, .inr (.inr (.inr (.inr f148)))))]) (w1 := [(q149, .inr (1, fs155)), (q156, .inl (cA157, 96, .inl f158))]) hP hD [3] [0, 1, 2] rfl rfl (by decide) (by decide) hk1 hFc hP1 hD1
  have hK := (hK.sub (tys' := [(cA8, .object "Seattable$Big"), (cA14, .object "Seattable$Big")]) [0, 1] rfl).app hK1
  have hP : va_P (dC, dI) classes [(a, .inr (6, fs89)), (q7, .inl (cA8, 11, .inr (.inr (.inr (.inr f134))))), (q13, .inl (cA14, 11, .inr (.inr (.inr (.inr f148))))), (q149, .inr (1, fs155)), (q156, .inl (cA157, 96, .inl f158))] H := hP
  have hD : va_D A [(a, .inr (6, fs89)), (q7, .inl (cA8, 11, .inr (.inr (.inr (.inr f134))))), (q13, .inl (cA14, 11, .inr (.inr (.inr (.inr f148))))), (q149, .inr (1, fs155)), (q156, .inl (cA157, 96, .inl f158))] := hD
  have hK : va_K (dC, dI) classes [(cA8, .object "Seattable$Big"), (cA14, .object "Seattable$Big"), (cA157, .int)] s := hK
  refine W.widen (k := 23) (n := 975) (Nat.le_of_ble_eq_true rfl) (Nat.le_of_ble_eq_true rfl) ?_
  refine va_astq (D := (dC, dI)) (ci := 1) (r := (RX1, TX1, 2)) hx hb hK hP hD hS 1 0 3 rfl rfl rfl rfl (by unfold vp_in; decide) dX8_init_110 (fun H locs hP hD hS => ?_)
  have hP : va_P (dC, dI) classes [(a, .inr (6, fs89)), (q7, .inl (cA8, 11, .inr (.inr (.inr (.inr (va_up f134 (2 : Int32).toNatClampNeg (some q149))))))), (q13, .inl (cA14, 11, .inr (.inr (.inr (.inr f148))))), (q149, .inr (1, fs155)), (q156, .inl (cA157, 96, .inl f158))] H := hP
  have hD : va_D A [(a, .inr (6, fs89)), (q7, .inl (cA8, 11, .inr (.inr (.inr (.inr (va_up f134 (2 : Int32).toNatClampNeg (some q149))))))), (q13, .inl (cA14, 11, .inr (.inr (.inr (.inr f148))))), (q149, .inr (1, fs155)), (q156, .inl (cA157, 96, .inl f158))] := hD
  obtain ⟨f162, ef162⟩ : ∃ y : Nat → Option Nat, y = (va_up f134 (2 : Int32).toNatClampNeg (some q149)) := ⟨_, rfl⟩
  rw [← ef162] at hP hD
  have hP := hP.sub (ws' := [(a, .inr (6, fs89)), (q7, .inl (cA8, 11, .inr (.inr (.inr (.inr f162))))), (q13, .inl (cA14, 11, .inr (.inr (.inr (.inr f148)))))]) [0, 1, 2] rfl
  have hD := hD.sub (ws' := [(a, .inr (6, fs89)), (q7, .inl (cA8, 11, .inr (.inr (.inr (.inr f162))))), (q13, .inl (cA14, 11, .inr (.inr (.inr (.inr f148)))))]) [0, 1, 2] (by decide) rfl
  have hK := hK.sub (tys' := [(cA8, .object "Seattable$Big"), (cA14, .object "Seattable$Big")]) [0, 1] rfl
  refine lv_aload_n hx hb dX8_init_111 rfl (lv_at hl 1 rfl) ?_
  refine va_get (D := (dC, dI)) (ci := 6) (v := .ref q13) (C := RX8) (T := TX8) (N := 15) hx hb hG iX8 hown hK hP 0 rfl rfl 7 (by decide) (hG _ m_74) (fun _ h9 => h9) hf_92 dX8_init_112 ?_
  refine lv_iload_n hx hb dX8_init_115 rfl (lv_at hl 0 rfl) ?_
  refine va_new (D := (dC, dI)) (ci := 1) (fs := (List.range 2).map (fun k => defaultValue (tyX1 k))) (C := RX1) (T := TX1) (N := 2) hx hb hG iX1 tyX1 tyX1_ok hown (hG _ m_72) (hG _ m_45) (hG _ m_46) hK hP hD hS hA rfl (fs_new 2 tyX1) (Nat.le_of_ble_eq_true rfl) (Nat.le_of_ble_eq_true rfl) dX8_init_116 (fun q163 H hP hD hS => ?_)
  have hP : va_P (dC, dI) classes [(a, .inr (6, fs89)), (q7, .inl (cA8, 11, .inr (.inr (.inr (.inr f162))))), (q13, .inl (cA14, 11, .inr (.inr (.inr (.inr f148))))), (q163, .inr (1, ((List.range 2).map (fun k => defaultValue (tyX1 k)))))] H := hP
  have hD : va_D A [(a, .inr (6, fs89)), (q7, .inl (cA8, 11, .inr (.inr (.inr (.inr f162))))), (q13, .inl (cA14, 11, .inr (.inr (.inr (.inr f148))))), (q163, .inr (1, ((List.range 2).map (fun k => defaultValue (tyX1 k)))))] := hD
  obtain ⟨fs164, efs164⟩ : ∃ y : List Value, y = (List.range 2).map (fun k => defaultValue (tyX1 k)) := ⟨_, rfl⟩
  rw [← efs164] at hP hD
  have hl_165 : fs164.length = 2 := by rw [efs164, List.length_map, List.length_range]
  have hf_166 : fs164[0]? = some (.null) := by rw [efs164]; rfl
  have hf_167 : fs164[1]? = some (.int 0) := by rw [efs164]; rfl
  refine W.widen (k := 24) (n := 977) (Nat.le_of_ble_eq_true rfl) (Nat.le_of_ble_eq_true rfl) ?_
  refine lv_dup hx hb dX8_init_119 rfl ?_
  have hPc := hP.sub (ws' := [(q163, .inr (1, fs164))]) [3] rfl
  have hDc := hD.sub (ws' := [(q163, .inr (1, fs164))]) [3] (by decide) rfl
  have hKc := hK.sub (tys' := []) [] rfl
  have hFc := va_free (wc := [(q163, .inr (1, fs164))]) hD hS hA [3] rfl
  refine va_callv (va_runIN (As := []) (rest := [.ref q163, .int 2, .ref q13]) ⟨hx, hb, hml, hown, hG⟩ (c_Big_init l dC dI z q163 fs164 H.size hl_165 hf_167) ⟨va_cnB (host := "Seattable") 0 hG (gI m_47) rfl rfl rfl (nw_nest_1 hN) (hG _ m_46) (by decide +kernel) ⟨Nat.le_of_ble_eq_true rfl, Nat.le_of_ble_eq_true rfl⟩, rfl, (hG _ m_48)⟩ ⟨pre_blind, fun U hU hW => ⟨rfl, pre_call hU hW hPc hKc hDc hN (zkeep hZ hS) hFc⟩⟩ rfl rfl hl.1 rfl (lv_room (Nat.le_of_ble_eq_true rfl)) dX8_init_120 ⟨Nat.le_of_ble_eq_true rfl, Nat.le_of_ble_eq_true rfl⟩) hS (fun q _ h => hFc q h) hFc (fun u t H locs ht hvm hw hB hz1 hk1 hS => ?_)
  obtain ⟨fs169, q170, cA171, f172, hP1, hK1, hD1, hy173, hy174, hy175⟩ := hB
  rw [ht] at hP1
  have hK1 := va_K.moved hvm.symm hK1
  obtain ⟨hP, hD⟩ := va_join (wr := [(a, .inr (6, fs89)), (q7, .inl (cA8, 11, .inr (.inr (.inr (.inr f162))))), (q13, .inl (cA14, 11, .inr (.inr (.inr (.inr f148)))))]) (w1 := [(q163, .inr (1, fs169)), (q170, .inl (cA171, 96, .inl f172))]) hP hD [3] [0, 1, 2] rfl rfl (by decide) (by decide) hk1 hFc hP1 hD1
  have hK := (hK.sub (tys' := [(cA8, .object "Seattable$Big"), (cA14, .object "Seattable$Big")]) [0, 1] rfl).app hK1
  have hP : va_P (dC, dI) classes [(a, .inr (6, fs89)), (q7, .inl (cA8, 11, .inr (.inr (.inr (.inr f162))))), (q13, .inl (cA14, 11, .inr (.inr (.inr (.inr f148))))), (q163, .inr (1, fs169)), (q170, .inl (cA171, 96, .inl f172))] H := hP
  have hD : va_D A [(a, .inr (6, fs89)), (q7, .inl (cA8, 11, .inr (.inr (.inr (.inr f162))))), (q13, .inl (cA14, 11, .inr (.inr (.inr (.inr f148))))), (q163, .inr (1, fs169)), (q170, .inl (cA171, 96, .inl f172))] := hD
  have hK : va_K (dC, dI) classes [(cA8, .object "Seattable$Big"), (cA14, .object "Seattable$Big"), (cA171, .int)] s := hK
  refine W.widen (k := 25) (n := 1073) (Nat.le_of_ble_eq_true rfl) (Nat.le_of_ble_eq_true rfl) ?_
  refine va_astq (D := (dC, dI)) (ci := 1) (r := (RX1, TX1, 2)) hx hb hK hP hD hS 2 1 3 rfl rfl rfl rfl (by unfold vp_in; decide) dX8_init_123 (fun H locs hP hD hS => ?_)
  have hP : va_P (dC, dI) classes [(a, .inr (6, fs89)), (q7, .inl (cA8, 11, .inr (.inr (.inr (.inr f162))))), (q13, .inl (cA14, 11, .inr (.inr (.inr (.inr (va_up f148 (2 : Int32).toNatClampNeg (some q163))))))), (q163, .inr (1, fs169)), (q170, .inl (cA171, 96, .inl f172))] H := hP
  have hD : va_D A [(a, .inr (6, fs89)), (q7, .inl (cA8, 11, .inr (.inr (.inr (.inr f162))))), (q13, .inl (cA14, 11, .inr (.inr (.inr (.inr (va_up f148 (2 : Int32).toNatClampNeg (some q163))))))), (q163, .inr (1, fs169)), (q170, .inl (cA171, 96, .inl f172))] := hD
  obtain ⟨f176, ef176⟩ : ∃ y : Nat → Option Nat, y = (va_up f148 (2 : Int32).toNatClampNeg (some q163)) := ⟨_, rfl⟩
  rw [← ef176] at hP hD
  have hP := hP.sub (ws' := [(a, .inr (6, fs89)), (q7, .inl (cA8, 11, .inr (.inr (.inr (.inr f162))))), (q13, .inl (cA14, 11, .inr (.inr (.inr (.inr f176)))))]) [0, 1, 2] rfl
  have hD := hD.sub (ws' := [(a, .inr (6, fs89)), (q7, .inl (cA8, 11, .inr (.inr (.inr (.inr f162))))), (q13, .inl (cA14, 11, .inr (.inr (.inr (.inr f176)))))]) [0, 1, 2] (by decide) rfl
  have hK := hK.sub (tys' := [(cA8, .object "Seattable$Big"), (cA14, .object "Seattable$Big")]) [0, 1] rfl
  refine lv_iinc (v := 3) (lv' := [(1, .int 3), (0, .ref a)]) hx hb dX8_init_124 hl (k := 0) rfl (by decide) (by decide) rfl (fun ls hl => ?_)
  refine lv_goto (tgt := 92) hx hb dX8_init_127 (by decide) ?_
  refine lv_iload_n hx hb dX8_init_92 rfl (lv_at hl 0 rfl) ?_
  refine lv_bipush (v := 11) hx hb dX8_init_93 (by decide) ?_
  refine lv_icmp_ge (tgt := 130) hx hb dX8_init_95 (by decide) (fun c9 => absurd c9 (by decide)) (fun _ => ?_)
  refine lv_aload_n hx hb dX8_init_98 rfl (lv_at hl 1 rfl) ?_
  refine va_get (D := (dC, dI)) (ci := 6) (v := .ref q7) (C := RX8) (T := TX8) (N := 15) hx hb hG iX8 hown hK hP 0 rfl rfl 6 (by decide) (hG _ m_73) (fun _ h9 => h9) hf_91 dX8_init_99 ?_
  refine lv_iload_n hx hb dX8_init_102 rfl (lv_at hl 0 rfl) ?_
  refine va_new (D := (dC, dI)) (ci := 1) (fs := (List.range 2).map (fun k => defaultValue (tyX1 k))) (C := RX1) (T := TX1) (N := 2) hx hb hG iX1 tyX1 tyX1_ok hown (hG _ m_72) (hG _ m_45) (hG _ m_46) hK hP hD hS hA rfl (fs_new 2 tyX1) (Nat.le_of_ble_eq_true rfl) (Nat.le_of_ble_eq_true rfl) dX8_init_103 (fun q177 H hP hD hS => ?_)
  have hP : va_P (dC, dI) classes [(a, .inr (6, fs89)), (q7, .inl (cA8, 11, .inr (.inr (.inr (.inr f162))))), (q13, .inl (cA14, 11, .inr (.inr (.inr (.inr f176))))), (q177, .inr (1, ((List.range 2).map (fun k => defaultValue (tyX1 k)))))] H := hP
  have hD : va_D A [(a, .inr (6, fs89)), (q7, .inl (cA8, 11, .inr (.inr (.inr (.inr f162))))), (q13, .inl (cA14, 11, .inr (.inr (.inr (.inr f176))))), (q177, .inr (1, ((List.range 2).map (fun k => defaultValue (tyX1 k)))))] := hD
  obtain ⟨fs178, efs178⟩ : ∃ y : List Value, y = (List.range 2).map (fun k => defaultValue (tyX1 k)) := ⟨_, rfl⟩
  rw [← efs178] at hP hD
  have hl_179 : fs178.length = 2 := by rw [efs178, List.length_map, List.length_range]
  have hf_180 : fs178[0]? = some (.null) := by rw [efs178]; rfl
  have hf_181 : fs178[1]? = some (.int 0) := by rw [efs178]; rfl
  refine W.widen (k := 26) (n := 1075) (Nat.le_of_ble_eq_true rfl) (Nat.le_of_ble_eq_true rfl) ?_
  refine lv_dup hx hb dX8_init_106 rfl ?_
  have hPc := hP.sub (ws' := [(q177, .inr (1, fs178))]) [3] rfl
  have hDc := hD.sub (ws' := [(q177, .inr (1, fs178))]) [3] (by decide) rfl
  have hKc := hK.sub (tys' := []) [] rfl
  have hFc := va_free (wc := [(q177, .inr (1, fs178))]) hD hS hA [3] rfl
  refine va_callv (va_runIN (As := []) (rest := [.ref q177, .int 3, .ref q7]) ⟨hx, hb, hml, hown, hG⟩ (c_Big_init l dC dI z q177 fs178 H.size hl_179 hf_181) ⟨va_cnB (host := "Seattable") 0 hG (gI m_47) rfl rfl rfl (nw_nest_1 hN) (hG _ m_46) (by decide +kernel) ⟨Nat.le_of_ble_eq_true rfl, Nat.le_of_ble_eq_true rfl⟩, rfl, (hG _ m_48)⟩ ⟨pre_blind, fun U hU hW => ⟨rfl, pre_call hU hW hPc hKc hDc hN (zkeep hZ hS) hFc⟩⟩ rfl rfl hl.1 rfl (lv_room (Nat.le_of_ble_eq_true rfl)) dX8_init_107 ⟨Nat.le_of_ble_eq_true rfl, Nat.le_of_ble_eq_true rfl⟩) hS (fun q _ h => hFc q h) hFc (fun u t H locs ht hvm hw hB hz1 hk1 hS => ?_)
  obtain ⟨fs183, q184, cA185, f186, hP1, hK1, hD1, hy187, hy188, hy189⟩ := hB
  rw [ht] at hP1
  have hK1 := va_K.moved hvm.symm hK1
  obtain ⟨hP, hD⟩ := va_join (wr := [(a, .inr (6, fs89)), (q7, .inl (cA8, 11, .inr (.inr (.inr (.inr f162))))), (q13, .inl (cA14, 11, .inr (.inr (.inr (.inr f176)))))]) (w1 := [(q177, .inr (1, fs183)), (q184, .inl (cA185, 96, .inl f186))]) hP hD [3] [0, 1, 2] rfl rfl (by decide) (by decide) hk1 hFc hP1 hD1
  have hK := (hK.sub (tys' := [(cA8, .object "Seattable$Big"), (cA14, .object "Seattable$Big")]) [0, 1] rfl).app hK1
  have hP : va_P (dC, dI) classes [(a, .inr (6, fs89)), (q7, .inl (cA8, 11, .inr (.inr (.inr (.inr f162))))), (q13, .inl (cA14, 11, .inr (.inr (.inr (.inr f176))))), (q177, .inr (1, fs183)), (q184, .inl (cA185, 96, .inl f186))] H := hP
  have hD : va_D A [(a, .inr (6, fs89)), (q7, .inl (cA8, 11, .inr (.inr (.inr (.inr f162))))), (q13, .inl (cA14, 11, .inr (.inr (.inr (.inr f176))))), (q177, .inr (1, fs183)), (q184, .inl (cA185, 96, .inl f186))] := hD
  have hK : va_K (dC, dI) classes [(cA8, .object "Seattable$Big"), (cA14, .object "Seattable$Big"), (cA185, .int)] s := hK
  refine W.widen (k := 27) (n := 1171) (Nat.le_of_ble_eq_true rfl) (Nat.le_of_ble_eq_true rfl) ?_
  refine va_astq (D := (dC, dI)) (ci := 1) (r := (RX1, TX1, 2)) hx hb hK hP hD hS 1 0 3 rfl rfl rfl rfl (by unfold vp_in; decide) dX8_init_110 (fun H locs hP hD hS => ?_)
  have hP : va_P (dC, dI) classes [(a, .inr (6, fs89)), (q7, .inl (cA8, 11, .inr (.inr (.inr (.inr (va_up f162 (3 : Int32).toNatClampNeg (some q177))))))), (q13, .inl (cA14, 11, .inr (.inr (.inr (.inr f176))))), (q177, .inr (1, fs183)), (q184, .inl (cA185, 96, .inl f186))] H := hP
  have hD : va_D A [(a, .inr (6, fs89)), (q7, .inl (cA8, 11, .inr (.inr (.inr (.inr (va_up f162 (3 : Int32).toNatClampNeg (some q177))))))), (q13, .inl (cA14, 11, .inr (.inr (.inr (.inr f176))))), (q177, .inr (1, fs183)), (q184, .inl (cA185, 96, .inl f186))] := hD
  obtain ⟨f190, ef190⟩ : ∃ y : Nat → Option Nat, y = (va_up f162 (3 : Int32).toNatClampNeg (some q177)) := ⟨_, rfl⟩
  rw [← ef190] at hP hD
  have hP := hP.sub (ws' := [(a, .inr (6, fs89)), (q7, .inl (cA8, 11, .inr (.inr (.inr (.inr f190))))), (q13, .inl (cA14, 11, .inr (.inr (.inr (.inr f176)))))]) [0, 1, 2] rfl
  have hD := hD.sub (ws' := [(a, .inr (6, fs89)), (q7, .inl (cA8, 11, .inr (.inr (.inr (.inr f190))))), (q13, .inl (cA14, 11, .inr (.inr (.inr (.inr f176)))))]) [0, 1, 2] (by decide) rfl
  have hK := hK.sub (tys' := [(cA8, .object "Seattable$Big"), (cA14, .object "Seattable$Big")]) [0, 1] rfl
  refine lv_aload_n hx hb dX8_init_111 rfl (lv_at hl 1 rfl) ?_
  refine va_get (D := (dC, dI)) (ci := 6) (v := .ref q13) (C := RX8) (T := TX8) (N := 15) hx hb hG iX8 hown hK hP 0 rfl rfl 7 (by decide) (hG _ m_74) (fun _ h9 => h9) hf_92 dX8_init_112 ?_
  refine lv_iload_n hx hb dX8_init_115 rfl (lv_at hl 0 rfl) ?_
  refine va_new (D := (dC, dI)) (ci := 1) (fs := (List.range 2).map (fun k => defaultValue (tyX1 k))) (C := RX1) (T := TX1) (N := 2) hx hb hG iX1 tyX1 tyX1_ok hown (hG _ m_72) (hG _ m_45) (hG _ m_46) hK hP hD hS hA rfl (fs_new 2 tyX1) (Nat.le_of_ble_eq_true rfl) (Nat.le_of_ble_eq_true rfl) dX8_init_116 (fun q191 H hP hD hS => ?_)
  have hP : va_P (dC, dI) classes [(a, .inr (6, fs89)), (q7, .inl (cA8, 11, .inr (.inr (.inr (.inr f190))))), (q13, .inl (cA14, 11, .inr (.inr (.inr (.inr f176))))), (q191, .inr (1, ((List.range 2).map (fun k => defaultValue (tyX1 k)))))] H := hP
  have hD : va_D A [(a, .inr (6, fs89)), (q7, .inl (cA8, 11, .inr (.inr (.inr (.inr f190))))), (q13, .inl (cA14, 11, .inr (.inr (.inr (.inr f176))))), (q191, .inr (1, ((List.range 2).map (fun k => defaultValue (tyX1 k)))))] := hD
  obtain ⟨fs192, efs192⟩ : ∃ y : List Value, y = (List.range 2).map (fun k => defaultValue (tyX1 k)) := ⟨_, rfl⟩
  rw [← efs192] at hP hD
  have hl_193 : fs192.length = 2 := by rw [efs192, List.length_map, List.length_range]
  have hf_194 : fs192[0]? = some (.null) := by rw [efs192]; rfl
  have hf_195 : fs192[1]? = some (.int 0) := by rw [efs192]; rfl
  refine W.widen (k := 28) (n := 1173) (Nat.le_of_ble_eq_true rfl) (Nat.le_of_ble_eq_true rfl) ?_
  refine lv_dup hx hb dX8_init_119 rfl ?_
  have hPc := hP.sub (ws' := [(q191, .inr (1, fs192))]) [3] rfl
  have hDc := hD.sub (ws' := [(q191, .inr (1, fs192))]) [3] (by decide) rfl
  have hKc := hK.sub (tys' := []) [] rfl
  have hFc := va_free (wc := [(q191, .inr (1, fs192))]) hD hS hA [3] rfl
  refine va_callv (va_runIN (As := []) (rest := [.ref q191, .int 3, .ref q13]) ⟨hx, hb, hml, hown, hG⟩ (c_Big_init l dC dI z q191 fs192 H.size hl_193 hf_195) ⟨va_cnB (host := "Seattable") 0 hG (gI m_47) rfl rfl rfl (nw_nest_1 hN) (hG _ m_46) (by decide +kernel) ⟨Nat.le_of_ble_eq_true rfl, Nat.le_of_ble_eq_true rfl⟩, rfl, (hG _ m_48)⟩ ⟨pre_blind, fun U hU hW => ⟨rfl, pre_call hU hW hPc hKc hDc hN (zkeep hZ hS) hFc⟩⟩ rfl rfl hl.1 rfl (lv_room (Nat.le_of_ble_eq_true rfl)) dX8_init_120 ⟨Nat.le_of_ble_eq_true rfl, Nat.le_of_ble_eq_true rfl⟩) hS (fun q _ h => hFc q h) hFc (fun u t H locs ht hvm hw hB hz1 hk1 hS => ?_)
  obtain ⟨fs197, q198, cA199, f200, hP1, hK1, hD1, hy201, hy202, hy203⟩ := hB
  rw [ht] at hP1
  have hK1 := va_K.moved hvm.symm hK1
  obtain ⟨hP, hD⟩ := va_join (wr := [(a, .inr (6, fs89)), (q7, .inl (cA8, 11, .inr (.inr (.inr (.inr f190))))), (q13, .inl (cA14, 11, .inr (.inr (.inr (.inr f176)))))]) (w1 := [(q191, .inr (1, fs197)), (q198, .inl (cA199, 96, .inl f200))]) hP hD [3] [0, 1, 2] rfl rfl (by decide) (by decide) hk1 hFc hP1 hD1
  have hK := (hK.sub (tys' := [(cA8, .object "Seattable$Big"), (cA14, .object "Seattable$Big")]) [0, 1] rfl).app hK1
  have hP : va_P (dC, dI) classes [(a, .inr (6, fs89)), (q7, .inl (cA8, 11, .inr (.inr (.inr (.inr f190))))), (q13, .inl (cA14, 11, .inr (.inr (.inr (.inr f176))))), (q191, .inr (1, fs197)), (q198, .inl (cA199, 96, .inl f200))] H := hP
  have hD : va_D A [(a, .inr (6, fs89)), (q7, .inl (cA8, 11, .inr (.inr (.inr (.inr f190))))), (q13, .inl (cA14, 11, .inr (.inr (.inr (.inr f176))))), (q191, .inr (1, fs197)), (q198, .inl (cA199, 96, .inl f200))] := hD
  have hK : va_K (dC, dI) classes [(cA8, .object "Seattable$Big"), (cA14, .object "Seattable$Big"), (cA199, .int)] s := hK
  refine W.widen (k := 29) (n := 1269) (Nat.le_of_ble_eq_true rfl) (Nat.le_of_ble_eq_true rfl) ?_
  refine va_astq (D := (dC, dI)) (ci := 1) (r := (RX1, TX1, 2)) hx hb hK hP hD hS 2 1 3 rfl rfl rfl rfl (by unfold vp_in; decide) dX8_init_123 (fun H locs hP hD hS => ?_)
  have hP : va_P (dC, dI) classes [(a, .inr (6, fs89)), (q7, .inl (cA8, 11, .inr (.inr (.inr (.inr f190))))), (q13, .inl (cA14, 11, .inr (.inr (.inr (.inr (va_up f176 (3 : Int32).toNatClampNeg (some q191))))))), (q191, .inr (1, fs197)), (q198, .inl (cA199, 96, .inl f200))] H := hP
  have hD : va_D A [(a, .inr (6, fs89)), (q7, .inl (cA8, 11, .inr (.inr (.inr (.inr f190))))), (q13, .inl (cA14, 11, .inr (.inr (.inr (.inr (va_up f176 (3 : Int32).toNatClampNeg (some q191))))))), (q191, .inr (1, fs197)), (q198, .inl (cA199, 96, .inl f200))] := hD
  obtain ⟨f204, ef204⟩ : ∃ y : Nat → Option Nat, y = (va_up f176 (3 : Int32).toNatClampNeg (some q191)) := ⟨_, rfl⟩
  rw [← ef204] at hP hD
  have hP := hP.sub (ws' := [(a, .inr (6, fs89)), (q7, .inl (cA8, 11, .inr (.inr (.inr (.inr f190))))), (q13, .inl (cA14, 11, .inr (.inr (.inr (.inr f204)))))]) [0, 1, 2] rfl
  have hD := hD.sub (ws' := [(a, .inr (6, fs89)), (q7, .inl (cA8, 11, .inr (.inr (.inr (.inr f190))))), (q13, .inl (cA14, 11, .inr (.inr (.inr (.inr f204)))))]) [0, 1, 2] (by decide) rfl
  have hK := hK.sub (tys' := [(cA8, .object "Seattable$Big"), (cA14, .object "Seattable$Big")]) [0, 1] rfl
  refine lv_iinc (v := 4) (lv' := [(1, .int 4), (0, .ref a)]) hx hb dX8_init_124 hl (k := 0) rfl (by decide) (by decide) rfl (fun ls hl => ?_)
  refine lv_goto (tgt := 92) hx hb dX8_init_127 (by decide) ?_
  refine lv_iload_n hx hb dX8_init_92 rfl (lv_at hl 0 rfl) ?_
  refine lv_bipush (v := 11) hx hb dX8_init_93 (by decide) ?_
  refine lv_icmp_ge (tgt := 130) hx hb dX8_init_95 (by decide) (fun c9 => absurd c9 (by decide)) (fun _ => ?_)
  refine lv_aload_n hx hb dX8_init_98 rfl (lv_at hl 1 rfl) ?_
  refine va_get (D := (dC, dI)) (ci := 6) (v := .ref q7) (C := RX8) (T := TX8) (N := 15) hx hb hG iX8 hown hK hP 0 rfl rfl 6 (by decide) (hG _ m_73) (fun _ h9 => h9) hf_91 dX8_init_99 ?_
  refine lv_iload_n hx hb dX8_init_102 rfl (lv_at hl 0 rfl) ?_
  refine va_new (D := (dC, dI)) (ci := 1) (fs := (List.range 2).map (fun k => defaultValue (tyX1 k))) (C := RX1) (T := TX1) (N := 2) hx hb hG iX1 tyX1 tyX1_ok hown (hG _ m_72) (hG _ m_45) (hG _ m_46) hK hP hD hS hA rfl (fs_new 2 tyX1) (Nat.le_of_ble_eq_true rfl) (Nat.le_of_ble_eq_true rfl) dX8_init_103 (fun q205 H hP hD hS => ?_)
  have hP : va_P (dC, dI) classes [(a, .inr (6, fs89)), (q7, .inl (cA8, 11, .inr (.inr (.inr (.inr f190))))), (q13, .inl (cA14, 11, .inr (.inr (.inr (.inr f204))))), (q205, .inr (1, ((List.range 2).map (fun k => defaultValue (tyX1 k)))))] H := hP
  have hD : va_D A [(a, .inr (6, fs89)), (q7, .inl (cA8, 11, .inr (.inr (.inr (.inr f190))))), (q13, .inl (cA14, 11, .inr (.inr (.inr (.inr f204))))), (q205, .inr (1, ((List.range 2).map (fun k => defaultValue (tyX1 k)))))] := hD
  obtain ⟨fs206, efs206⟩ : ∃ y : List Value, y = (List.range 2).map (fun k => defaultValue (tyX1 k)) := ⟨_, rfl⟩
  rw [← efs206] at hP hD
  have hl_207 : fs206.length = 2 := by rw [efs206, List.length_map, List.length_range]
  have hf_208 : fs206[0]? = some (.null) := by rw [efs206]; rfl
  have hf_209 : fs206[1]? = some (.int 0) := by rw [efs206]; rfl
  refine W.widen (k := 30) (n := 1271) (Nat.le_of_ble_eq_true rfl) (Nat.le_of_ble_eq_true rfl) ?_
  refine lv_dup hx hb dX8_init_106 rfl ?_
  have hPc := hP.sub (ws' := [(q205, .inr (1, fs206))]) [3] rfl
  have hDc := hD.sub (ws' := [(q205, .inr (1, fs206))]) [3] (by decide) rfl
  have hKc := hK.sub (tys' := []) [] rfl
  have hFc := va_free (wc := [(q205, .inr (1, fs206))]) hD hS hA [3] rfl
  refine va_callv (va_runIN (As := []) (rest := [.ref q205, .int 4, .ref q7]) ⟨hx, hb, hml, hown, hG⟩ (c_Big_init l dC dI z q205 fs206 H.size hl_207 hf_209) ⟨va_cnB (host := "Seattable") 0 hG (gI m_47) rfl rfl rfl (nw_nest_1 hN) (hG _ m_46) (by decide +kernel) ⟨Nat.le_of_ble_eq_true rfl, Nat.le_of_ble_eq_true rfl⟩, rfl, (hG _ m_48)⟩ ⟨pre_blind, fun U hU hW => ⟨rfl, pre_call hU hW hPc hKc hDc hN (zkeep hZ hS) hFc⟩⟩ rfl rfl hl.1 rfl (lv_room (Nat.le_of_ble_eq_true rfl)) dX8_init_107 ⟨Nat.le_of_ble_eq_true rfl, Nat.le_of_ble_eq_true rfl⟩) hS (fun q _ h => hFc q h) hFc (fun u t H locs ht hvm hw hB hz1 hk1 hS => ?_)
  obtain ⟨fs211, q212, cA213, f214, hP1, hK1, hD1, hy215, hy216, hy217⟩ := hB
  rw [ht] at hP1
  have hK1 := va_K.moved hvm.symm hK1
  obtain ⟨hP, hD⟩ := va_join (wr := [(a, .inr (6, fs89)), (q7, .inl (cA8, 11, .inr (.inr (.inr (.inr f190))))), (q13, .inl (cA14, 11, .inr (.inr (.inr (.inr f204)))))]) (w1 := [(q205, .inr (1, fs211)), (q212, .inl (cA213, 96, .inl f214))]) hP hD [3] [0, 1, 2] rfl rfl (by decide) (by decide) hk1 hFc hP1 hD1
  have hK := (hK.sub (tys' := [(cA8, .object "Seattable$Big"), (cA14, .object "Seattable$Big")]) [0, 1] rfl).app hK1
  have hP : va_P (dC, dI) classes [(a, .inr (6, fs89)), (q7, .inl (cA8, 11, .inr (.inr (.inr (.inr f190))))), (q13, .inl (cA14, 11, .inr (.inr (.inr (.inr f204))))), (q205, .inr (1, fs211)), (q212, .inl (cA213, 96, .inl f214))] H := hP
  have hD : va_D A [(a, .inr (6, fs89)), (q7, .inl (cA8, 11, .inr (.inr (.inr (.inr f190))))), (q13, .inl (cA14, 11, .inr (.inr (.inr (.inr f204))))), (q205, .inr (1, fs211)), (q212, .inl (cA213, 96, .inl f214))] := hD
  have hK : va_K (dC, dI) classes [(cA8, .object "Seattable$Big"), (cA14, .object "Seattable$Big"), (cA213, .int)] s := hK
  refine W.widen (k := 31) (n := 1367) (Nat.le_of_ble_eq_true rfl) (Nat.le_of_ble_eq_true rfl) ?_
  refine va_astq (D := (dC, dI)) (ci := 1) (r := (RX1, TX1, 2)) hx hb hK hP hD hS 1 0 3 rfl rfl rfl rfl (by unfold vp_in; decide) dX8_init_110 (fun H locs hP hD hS => ?_)
  have hP : va_P (dC, dI) classes [(a, .inr (6, fs89)), (q7, .inl (cA8, 11, .inr (.inr (.inr (.inr (va_up f190 (4 : Int32).toNatClampNeg (some q205))))))), (q13, .inl (cA14, 11, .inr (.inr (.inr (.inr f204))))), (q205, .inr (1, fs211)), (q212, .inl (cA213, 96, .inl f214))] H := hP
  have hD : va_D A [(a, .inr (6, fs89)), (q7, .inl (cA8, 11, .inr (.inr (.inr (.inr (va_up f190 (4 : Int32).toNatClampNeg (some q205))))))), (q13, .inl (cA14, 11, .inr (.inr (.inr (.inr f204))))), (q205, .inr (1, fs211)), (q212, .inl (cA213, 96, .inl f214))] := hD
  obtain ⟨f218, ef218⟩ : ∃ y : Nat → Option Nat, y = (va_up f190 (4 : Int32).toNatClampNeg (some q205)) := ⟨_, rfl⟩
  rw [← ef218] at hP hD
  have hP := hP.sub (ws' := [(a, .inr (6, fs89)), (q7, .inl (cA8, 11, .inr (.inr (.inr (.inr f218))))), (q13, .inl (cA14, 11, .inr (.inr (.inr (.inr f204)))))]) [0, 1, 2] rfl
  have hD := hD.sub (ws' := [(a, .inr (6, fs89)), (q7, .inl (cA8, 11, .inr (.inr (.inr (.inr f218))))), (q13, .inl (cA14, 11, .inr (.inr (.inr (.inr f204)))))]) [0, 1, 2] (by decide) rfl
  have hK := hK.sub (tys' := [(cA8, .object "Seattable$Big"), (cA14, .object "Seattable$Big")]) [0, 1] rfl
  refine lv_aload_n hx hb dX8_init_111 rfl (lv_at hl 1 rfl) ?_
  refine va_get (D := (dC, dI)) (ci := 6) (v := .ref q13) (C := RX8) (T := TX8) (N := 15) hx hb hG iX8 hown hK hP 0 rfl rfl 7 (by decide) (hG _ m_74) (fun _ h9 => h9) hf_92 dX8_init_112 ?_
  refine lv_iload_n hx hb dX8_init_115 rfl (lv_at hl 0 rfl) ?_
  refine va_new (D := (dC, dI)) (ci := 1) (fs := (List.range 2).map (fun k => defaultValue (tyX1 k))) (C := RX1) (T := TX1) (N := 2) hx hb hG iX1 tyX1 tyX1_ok hown (hG _ m_72) (hG _ m_45) (hG _ m_46) hK hP hD hS hA rfl (fs_new 2 tyX1) (Nat.le_of_ble_eq_true rfl) (Nat.le_of_ble_eq_true rfl) dX8_init_116 (fun q219 H hP hD hS => ?_)
  have hP : va_P (dC, dI) classes [(a, .inr (6, fs89)), (q7, .inl (cA8, 11, .inr (.inr (.inr (.inr f218))))), (q13, .inl (cA14, 11, .inr (.inr (.inr (.inr f204))))), (q219, .inr (1, ((List.range 2).map (fun k => defaultValue (tyX1 k)))))] H := hP
  have hD : va_D A [(a, .inr (6, fs89)), (q7, .inl (cA8, 11, .inr (.inr (.inr (.inr f218))))), (q13, .inl (cA14, 11, .inr (.inr (.inr (.inr f204))))), (q219, .inr (1, ((List.range 2).map (fun k => defaultValue (tyX1 k)))))] := hD
  obtain ⟨fs220, efs220⟩ : ∃ y : List Value, y = (List.range 2).map (fun k => defaultValue (tyX1 k)) := ⟨_, rfl⟩
  rw [← efs220] at hP hD
  have hl_221 : fs220.length = 2 := by rw [efs220, List.length_map, List.length_range]
  have hf_222 : fs220[0]? = some (.null) := by rw [efs220]; rfl
  have hf_223 : fs220[1]? = some (.int 0) := by rw [efs220]; rfl
  refine W.widen (k := 32) (n := 1369) (Nat.le_of_ble_eq_true rfl) (Nat.le_of_ble_eq_true rfl) ?_
  refine lv_dup hx hb dX8_init_119 rfl ?_
  have hPc := hP.sub (ws' := [(q219, .inr (1, fs220))]) [3] rfl
  have hDc := hD.sub (ws' := [(q219, .inr (1, fs220))]) [3] (by decide) rfl
  have hKc := hK.sub (tys' := []) [] rfl
  have hFc := va_free (wc := [(q219, .inr (1, fs220))]) hD hS hA [3] rfl
  refine va_callv (va_runIN (As := []) (rest := [.ref q219, .int 4, .ref q13]) ⟨hx, hb, hml, hown, hG⟩ (c_Big_init l dC dI z q219 fs220 H.size hl_221 hf_223) ⟨va_cnB (host := "Seattable") 0 hG (gI m_47) rfl rfl rfl (nw_nest_1 hN) (hG _ m_46) (by decide +kernel) ⟨Nat.le_of_ble_eq_true rfl, Nat.le_of_ble_eq_true rfl⟩, rfl, (hG _ m_48)⟩ ⟨pre_blind, fun U hU hW => ⟨rfl, pre_call hU hW hPc hKc hDc hN (zkeep hZ hS) hFc⟩⟩ rfl rfl hl.1 rfl (lv_room (Nat.le_of_ble_eq_true rfl)) dX8_init_120 ⟨Nat.le_of_ble_eq_true rfl, Nat.le_of_ble_eq_true rfl⟩) hS (fun q _ h => hFc q h) hFc (fun u t H locs ht hvm hw hB hz1 hk1 hS => ?_)
  obtain ⟨fs225, q226, cA227, f228, hP1, hK1, hD1, hy229, hy230, hy231⟩ := hB
  rw [ht] at hP1
  have hK1 := va_K.moved hvm.symm hK1
  obtain ⟨hP, hD⟩ := va_join (wr := [(a, .inr (6, fs89)), (q7, .inl (cA8, 11, .inr (.inr (.inr (.inr f218))))), (q13, .inl (cA14, 11, .inr (.inr (.inr (.inr f204)))))]) (w1 := [(q219, .inr (1, fs225)), (q226, .inl (cA227, 96, .inl f228))]) hP hD [3] [0, 1, 2] rfl rfl (by decide) (by decide) hk1 hFc hP1 hD1
  have hK := (hK.sub (tys' := [(cA8, .object "Seattable$Big"), (cA14, .object "Seattable$Big")]) [0, 1] rfl).app hK1
  have hP : va_P (dC, dI) classes [(a, .inr (6, fs89)), (q7, .inl (cA8, 11, .inr (.inr (.inr (.inr f218))))), (q13, .inl (cA14, 11, .inr (.inr (.inr (.inr f204))))), (q219, .inr (1, fs225)), (q226, .inl (cA227, 96, .inl f228))] H := hP
  have hD : va_D A [(a, .inr (6, fs89)), (q7, .inl (cA8, 11, .inr (.inr (.inr (.inr f218))))), (q13, .inl (cA14, 11, .inr (.inr (.inr (.inr f204))))), (q219, .inr (1, fs225)), (q226, .inl (cA227, 96, .inl f228))] := hD
  have hK : va_K (dC, dI) classes [(cA8, .object "Seattable$Big"), (cA14, .object "Seattable$Big"), (cA227, .int)] s := hK
  refine W.widen (k := 33) (n := 1465) (Nat.le_of_ble_eq_true rfl) (Nat.le_of_ble_eq_true rfl) ?_
  refine va_astq (D := (dC, dI)) (ci := 1) (r := (RX1, TX1, 2)) hx hb hK hP hD hS 2 1 3 rfl rfl rfl rfl (by unfold vp_in; decide) dX8_init_123 (fun H locs hP hD hS => ?_)
  have hP : va_P (dC, dI) classes [(a, .inr (6, fs89)), (q7, .inl (cA8, 11, .inr (.inr (.inr (.inr f218))))), (q13, .inl (cA14, 11, .inr (.inr (.inr (.inr (va_up f204 (4 : Int32).toNatClampNeg (some q219))))))), (q219, .inr (1, fs225)), (q226, .inl (cA227, 96, .inl f228))] H := hP
  have hD : va_D A [(a, .inr (6, fs89)), (q7, .inl (cA8, 11, .inr (.inr (.inr (.inr f218))))), (q13, .inl (cA14, 11, .inr (.inr (.inr (.inr (va_up f204 (4 : Int32).toNatClampNeg (some q219))))))), (q219, .inr (1, fs225)), (q226, .inl (cA227, 96, .inl f228))] := hD
  obtain ⟨f232, ef232⟩ : ∃ y : Nat → Option Nat, y = (va_up f204 (4 : Int32).toNatClampNeg (some q219)) := ⟨_, rfl⟩
  rw [← ef232] at hP hD
  have hP := hP.sub (ws' := [(a, .inr (6, fs89)), (q7, .inl (cA8, 11, .inr (.inr (.inr (.inr f218))))), (q13, .inl (cA14, 11, .inr (.inr (.inr (.inr f232)))))]) [0, 1, 2] rfl
  have hD := hD.sub (ws' := [(a, .inr (6, fs89)), (q7, .inl (cA8, 11, .inr (.inr (.inr (.inr f218))))), (q13, .inl (cA14, 11, .inr (.inr (.inr (.inr f232)))))]) [0, 1, 2] (by decide) rfl
  have hK := hK.sub (tys' := [(cA8, .object "Seattable$Big"), (cA14, .object "Seattable$Big")]) [0, 1] rfl
  refine lv_iinc (v := 5) (lv' := [(1, .int 5), (0, .ref a)]) hx hb dX8_init_124 hl (k := 0) rfl (by decide) (by decide) rfl (fun ls hl => ?_)
  refine lv_goto (tgt := 92) hx hb dX8_init_127 (by decide) ?_
  refine lv_iload_n hx hb dX8_init_92 rfl (lv_at hl 0 rfl) ?_
  refine lv_bipush (v := 11) hx hb dX8_init_93 (by decide) ?_
  refine lv_icmp_ge (tgt := 130) hx hb dX8_init_95 (by decide) (fun c9 => absurd c9 (by decide)) (fun _ => ?_)
  refine lv_aload_n hx hb dX8_init_98 rfl (lv_at hl 1 rfl) ?_
  refine va_get (D := (dC, dI)) (ci := 6) (v := .ref q7) (C := RX8) (T := TX8) (N := 15) hx hb hG iX8 hown hK hP 0 rfl rfl 6 (by decide) (hG _ m_73) (fun _ h9 => h9) hf_91 dX8_init_99 ?_
  refine lv_iload_n hx hb dX8_init_102 rfl (lv_at hl 0 rfl) ?_
  refine va_new (D := (dC, dI)) (ci := 1) (fs := (List.range 2).map (fun k => defaultValue (tyX1 k))) (C := RX1) (T := TX1) (N := 2) hx hb hG iX1 tyX1 tyX1_ok hown (hG _ m_72) (hG _ m_45) (hG _ m_46) hK hP hD hS hA rfl (fs_new 2 tyX1) (Nat.le_of_ble_eq_true rfl) (Nat.le_of_ble_eq_true rfl) dX8_init_103 (fun q233 H hP hD hS => ?_)
  have hP : va_P (dC, dI) classes [(a, .inr (6, fs89)), (q7, .inl (cA8, 11, .inr (.inr (.inr (.inr f218))))), (q13, .inl (cA14, 11, .inr (.inr (.inr (.inr f232))))), (q233, .inr (1, ((List.range 2).map (fun k => defaultValue (tyX1 k)))))] H := hP
  have hD : va_D A [(a, .inr (6, fs89)), (q7, .inl (cA8, 11, .inr (.inr (.inr (.inr f218))))), (q13, .inl (cA14, 11, .inr (.inr (.inr (.inr f232))))), (q233, .inr (1, ((List.range 2).map (fun k => defaultValue (tyX1 k)))))] := hD
  obtain ⟨fs234, efs234⟩ : ∃ y : List Value, y = (List.range 2).map (fun k => defaultValue (tyX1 k)) := ⟨_, rfl⟩
  rw [← efs234] at hP hD
  have hl_235 : fs234.length = 2 := by rw [efs234, List.length_map, List.length_range]
  have hf_236 : fs234[0]? = some (.null) := by rw [efs234]; rfl
  have hf_237 : fs234[1]? = some (.int 0) := by rw [efs234]; rfl
  refine W.widen (k := 34) (n := 1467) (Nat.le_of_ble_eq_true rfl) (Nat.le_of_ble_eq_true rfl) ?_
  refine lv_dup hx hb dX8_init_106 rfl ?_
  have hPc := hP.sub (ws' := [(q233, .inr (1, fs234))]) [3] rfl
  have hDc := hD.sub (ws' := [(q233, .inr (1, fs234))]) [3] (by decide) rfl
  have hKc := hK.sub (tys' := []) [] rfl
  have hFc := va_free (wc := [(q233, .inr (1, fs234))]) hD hS hA [3] rfl
  refine va_callv (va_runIN (As := []) (rest := [.ref q233, .int 5, .ref q7]) ⟨hx, hb, hml, hown, hG⟩ (c_Big_init l dC dI z q233 fs234 H.size hl_235 hf_237) ⟨va_cnB (host := "Seattable") 0 hG (gI m_47) rfl rfl rfl (nw_nest_1 hN) (hG _ m_46) (by decide +kernel) ⟨Nat.le_of_ble_eq_true rfl, Nat.le_of_ble_eq_true rfl⟩, rfl, (hG _ m_48)⟩ ⟨pre_blind, fun U hU hW => ⟨rfl, pre_call hU hW hPc hKc hDc hN (zkeep hZ hS) hFc⟩⟩ rfl rfl hl.1 rfl (lv_room (Nat.le_of_ble_eq_true rfl)) dX8_init_107 ⟨Nat.le_of_ble_eq_true rfl, Nat.le_of_ble_eq_true rfl⟩) hS (fun q _ h => hFc q h) hFc (fun u t H locs ht hvm hw hB hz1 hk1 hS => ?_)
  obtain ⟨fs239, q240, cA241, f242, hP1, hK1, hD1, hy243, hy244, hy245⟩ := hB
  rw [ht] at hP1
  have hK1 := va_K.moved hvm.symm hK1
  obtain ⟨hP, hD⟩ := va_join (wr := [(a, .inr (6, fs89)), (q7, .inl (cA8, 11, .inr (.inr (.inr (.inr f218))))), (q13, .inl (cA14, 11, .inr (.inr (.inr (.inr f232)))))]) (w1 := [(q233, .inr (1, fs239)), (q240, .inl (cA241, 96, .inl f242))]) hP hD [3] [0, 1, 2] rfl rfl (by decide) (by decide) hk1 hFc hP1 hD1
  have hK := (hK.sub (tys' := [(cA8, .object "Seattable$Big"), (cA14, .object "Seattable$Big")]) [0, 1] rfl).app hK1
  have hP : va_P (dC, dI) classes [(a, .inr (6, fs89)), (q7, .inl (cA8, 11, .inr (.inr (.inr (.inr f218))))), (q13, .inl (cA14, 11, .inr (.inr (.inr (.inr f232))))), (q233, .inr (1, fs239)), (q240, .inl (cA241, 96, .inl f242))] H := hP
  have hD : va_D A [(a, .inr (6, fs89)), (q7, .inl (cA8, 11, .inr (.inr (.inr (.inr f218))))), (q13, .inl (cA14, 11, .inr (.inr (.inr (.inr f232))))), (q233, .inr (1, fs239)), (q240, .inl (cA241, 96, .inl f242))] := hD
  have hK : va_K (dC, dI) classes [(cA8, .object "Seattable$Big"), (cA14, .object "Seattable$Big"), (cA241, .int)] s := hK
  refine W.widen (k := 35) (n := 1563) (Nat.le_of_ble_eq_true rfl) (Nat.le_of_ble_eq_true rfl) ?_
  refine va_astq (D := (dC, dI)) (ci := 1) (r := (RX1, TX1, 2)) hx hb hK hP hD hS 1 0 3 rfl rfl rfl rfl (by unfold vp_in; decide) dX8_init_110 (fun H locs hP hD hS => ?_)
  have hP : va_P (dC, dI) classes [(a, .inr (6, fs89)), (q7, .inl (cA8, 11, .inr (.inr (.inr (.inr (va_up f218 (5 : Int32).toNatClampNeg (some q233))))))), (q13, .inl (cA14, 11, .inr (.inr (.inr (.inr f232))))), (q233, .inr (1, fs239)), (q240, .inl (cA241, 96, .inl f242))] H := hP
  have hD : va_D A [(a, .inr (6, fs89)), (q7, .inl (cA8, 11, .inr (.inr (.inr (.inr (va_up f218 (5 : Int32).toNatClampNeg (some q233))))))), (q13, .inl (cA14, 11, .inr (.inr (.inr (.inr f232))))), (q233, .inr (1, fs239)), (q240, .inl (cA241, 96, .inl f242))] := hD
  obtain ⟨f246, ef246⟩ : ∃ y : Nat → Option Nat, y = (va_up f218 (5 : Int32).toNatClampNeg (some q233)) := ⟨_, rfl⟩
  rw [← ef246] at hP hD
  have hP := hP.sub (ws' := [(a, .inr (6, fs89)), (q7, .inl (cA8, 11, .inr (.inr (.inr (.inr f246))))), (q13, .inl (cA14, 11, .inr (.inr (.inr (.inr f232)))))]) [0, 1, 2] rfl
  have hD := hD.sub (ws' := [(a, .inr (6, fs89)), (q7, .inl (cA8, 11, .inr (.inr (.inr (.inr f246))))), (q13, .inl (cA14, 11, .inr (.inr (.inr (.inr f232)))))]) [0, 1, 2] (by decide) rfl
  have hK := hK.sub (tys' := [(cA8, .object "Seattable$Big"), (cA14, .object "Seattable$Big")]) [0, 1] rfl
  refine lv_aload_n hx hb dX8_init_111 rfl (lv_at hl 1 rfl) ?_
  refine va_get (D := (dC, dI)) (ci := 6) (v := .ref q13) (C := RX8) (T := TX8) (N := 15) hx hb hG iX8 hown hK hP 0 rfl rfl 7 (by decide) (hG _ m_74) (fun _ h9 => h9) hf_92 dX8_init_112 ?_
  refine lv_iload_n hx hb dX8_init_115 rfl (lv_at hl 0 rfl) ?_
  refine va_new (D := (dC, dI)) (ci := 1) (fs := (List.range 2).map (fun k => defaultValue (tyX1 k))) (C := RX1) (T := TX1) (N := 2) hx hb hG iX1 tyX1 tyX1_ok hown (hG _ m_72) (hG _ m_45) (hG _ m_46) hK hP hD hS hA rfl (fs_new 2 tyX1) (Nat.le_of_ble_eq_true rfl) (Nat.le_of_ble_eq_true rfl) dX8_init_116 (fun q247 H hP hD hS => ?_)
  have hP : va_P (dC, dI) classes [(a, .inr (6, fs89)), (q7, .inl (cA8, 11, .inr (.inr (.inr (.inr f246))))), (q13, .inl (cA14, 11, .inr (.inr (.inr (.inr f232))))), (q247, .inr (1, ((List.range 2).map (fun k => defaultValue (tyX1 k)))))] H := hP
  have hD : va_D A [(a, .inr (6, fs89)), (q7, .inl (cA8, 11, .inr (.inr (.inr (.inr f246))))), (q13, .inl (cA14, 11, .inr (.inr (.inr (.inr f232))))), (q247, .inr (1, ((List.range 2).map (fun k => defaultValue (tyX1 k)))))] := hD
  obtain ⟨fs248, efs248⟩ : ∃ y : List Value, y = (List.range 2).map (fun k => defaultValue (tyX1 k)) := ⟨_, rfl⟩
  rw [← efs248] at hP hD
  have hl_249 : fs248.length = 2 := by rw [efs248, List.length_map, List.length_range]
  have hf_250 : fs248[0]? = some (.null) := by rw [efs248]; rfl
  have hf_251 : fs248[1]? = some (.int 0) := by rw [efs248]; rfl
  refine W.widen (k := 36) (n := 1565) (Nat.le_of_ble_eq_true rfl) (Nat.le_of_ble_eq_true rfl) ?_
  refine lv_dup hx hb dX8_init_119 rfl ?_
  have hPc := hP.sub (ws' := [(q247, .inr (1, fs248))]) [3] rfl
  have hDc := hD.sub (ws' := [(q247, .inr (1, fs248))]) [3] (by decide) rfl
  have hKc := hK.sub (tys' := []) [] rfl
  have hFc := va_free (wc := [(q247, .inr (1, fs248))]) hD hS hA [3] rfl
  refine va_callv (va_runIN (As := []) (rest := [.ref q247, .int 5, .ref q13]) ⟨hx, hb, hml, hown, hG⟩ (c_Big_init l dC dI z q247 fs248 H.size hl_249 hf_251) ⟨va_cnB (host := "Seattable") 0 hG (gI m_47) rfl rfl rfl (nw_nest_1 hN) (hG _ m_46) (by decide +kernel) ⟨Nat.le_of_ble_eq_true rfl, Nat.le_of_ble_eq_true rfl⟩, rfl, (hG _ m_48)⟩ ⟨pre_blind, fun U hU hW => ⟨rfl, pre_call hU hW hPc hKc hDc hN (zkeep hZ hS) hFc⟩⟩ rfl rfl hl.1 rfl (lv_room (Nat.le_of_ble_eq_true rfl)) dX8_init_120 ⟨Nat.le_of_ble_eq_true rfl, Nat.le_of_ble_eq_true rfl⟩) hS (fun q _ h => hFc q h) hFc (fun u t H locs ht hvm hw hB hz1 hk1 hS => ?_)
  obtain ⟨fs253, q254, cA255, f256, hP1, hK1, hD1, hy257, hy258, hy259⟩ := hB
  rw [ht] at hP1
  have hK1 := va_K.moved hvm.symm hK1
  obtain ⟨hP, hD⟩ := va_join (wr := [(a, .inr (6, fs89)), (q7, .inl (cA8, 11, .inr (.inr (.inr (.inr f246))))), (q13, .inl (cA14, 11, .inr (.inr (.inr (.inr f232)))))]) (w1 := [(q247, .inr (1, fs253)), (q254, .inl (cA255, 96, .inl f256))]) hP hD [3] [0, 1, 2] rfl rfl (by decide) (by decide) hk1 hFc hP1 hD1
  have hK := (hK.sub (tys' := [(cA8, .object "Seattable$Big"), (cA14, .object "Seattable$Big")]) [0, 1] rfl).app hK1
  have hP : va_P (dC, dI) classes [(a, .inr (6, fs89)), (q7, .inl (cA8, 11, .inr (.inr (.inr (.inr f246))))), (q13, .inl (cA14, 11, .inr (.inr (.inr (.inr f232))))), (q247, .inr (1, fs253)), (q254, .inl (cA255, 96, .inl f256))] H := hP
  have hD : va_D A [(a, .inr (6, fs89)), (q7, .inl (cA8, 11, .inr (.inr (.inr (.inr f246))))), (q13, .inl (cA14, 11, .inr (.inr (.inr (.inr f232))))), (q247, .inr (1, fs253)), (q254, .inl (cA255, 96, .inl f256))] := hD
  have hK : va_K (dC, dI) classes [(cA8, .object "Seattable$Big"), (cA14, .object "Seattable$Big"), (cA255, .int)] s := hK
  refine W.widen (k := 37) (n := 1661) (Nat.le_of_ble_eq_true rfl) (Nat.le_of_ble_eq_true rfl) ?_
  refine va_astq (D := (dC, dI)) (ci := 1) (r := (RX1, TX1, 2)) hx hb hK hP hD hS 2 1 3 rfl rfl rfl rfl (by unfold vp_in; decide) dX8_init_123 (fun H locs hP hD hS => ?_)
  have hP : va_P (dC, dI) classes [(a, .inr (6, fs89)), (q7, .inl (cA8, 11, .inr (.inr (.inr (.inr f246))))), (q13, .inl (cA14, 11, .inr (.inr (.inr (.inr (va_up f232 (5 : Int32).toNatClampNeg (some q247))))))), (q247, .inr (1, fs253)), (q254, .inl (cA255, 96, .inl f256))] H := hP
  have hD : va_D A [(a, .inr (6, fs89)), (q7, .inl (cA8, 11, .inr (.inr (.inr (.inr f246))))), (q13, .inl (cA14, 11, .inr (.inr (.inr (.inr (va_up f232 (5 : Int32).toNatClampNeg (some q247))))))), (q247, .inr (1, fs253)), (q254, .inl (cA255, 96, .inl f256))] := hD
  obtain ⟨f260, ef260⟩ : ∃ y : Nat → Option Nat, y = (va_up f232 (5 : Int32).toNatClampNeg (some q247)) := ⟨_, rfl⟩
  rw [← ef260] at hP hD
  have hP := hP.sub (ws' := [(a, .inr (6, fs89)), (q7, .inl (cA8, 11, .inr (.inr (.inr (.inr f246))))), (q13, .inl (cA14, 11, .inr (.inr (.inr (.inr f260)))))]) [0, 1, 2] rfl
  have hD := hD.sub (ws' := [(a, .inr (6, fs89)), (q7, .inl (cA8, 11, .inr (.inr (.inr (.inr f246))))), (q13, .inl (cA14, 11, .inr (.inr (.inr (.inr f260)))))]) [0, 1, 2] (by decide) rfl
  have hK := hK.sub (tys' := [(cA8, .object "Seattable$Big"), (cA14, .object "Seattable$Big")]) [0, 1] rfl
  refine lv_iinc (v := 6) (lv' := [(1, .int 6), (0, .ref a)]) hx hb dX8_init_124 hl (k := 0) rfl (by decide) (by decide) rfl (fun ls hl => ?_)
  refine lv_goto (tgt := 92) hx hb dX8_init_127 (by decide) ?_
  refine lv_iload_n hx hb dX8_init_92 rfl (lv_at hl 0 rfl) ?_
  refine lv_bipush (v := 11) hx hb dX8_init_93 (by decide) ?_
  refine lv_icmp_ge (tgt := 130) hx hb dX8_init_95 (by decide) (fun c9 => absurd c9 (by decide)) (fun _ => ?_)
  refine lv_aload_n hx hb dX8_init_98 rfl (lv_at hl 1 rfl) ?_
  refine va_get (D := (dC, dI)) (ci := 6) (v := .ref q7) (C := RX8) (T := TX8) (N := 15) hx hb hG iX8 hown hK hP 0 rfl rfl 6 (by decide) (hG _ m_73) (fun _ h9 => h9) hf_91 dX8_init_99 ?_
  refine lv_iload_n hx hb dX8_init_102 rfl (lv_at hl 0 rfl) ?_
  refine va_new (D := (dC, dI)) (ci := 1) (fs := (List.range 2).map (fun k => defaultValue (tyX1 k))) (C := RX1) (T := TX1) (N := 2) hx hb hG iX1 tyX1 tyX1_ok hown (hG _ m_72) (hG _ m_45) (hG _ m_46) hK hP hD hS hA rfl (fs_new 2 tyX1) (Nat.le_of_ble_eq_true rfl) (Nat.le_of_ble_eq_true rfl) dX8_init_103 (fun q261 H hP hD hS => ?_)
  have hP : va_P (dC, dI) classes [(a, .inr (6, fs89)), (q7, .inl (cA8, 11, .inr (.inr (.inr (.inr f246))))), (q13, .inl (cA14, 11, .inr (.inr (.inr (.inr f260))))), (q261, .inr (1, ((List.range 2).map (fun k => defaultValue (tyX1 k)))))] H := hP
  have hD : va_D A [(a, .inr (6, fs89)), (q7, .inl (cA8, 11, .inr (.inr (.inr (.inr f246))))), (q13, .inl (cA14, 11, .inr (.inr (.inr (.inr f260))))), (q261, .inr (1, ((List.range 2).map (fun k => defaultValue (tyX1 k)))))] := hD
  obtain ⟨fs262, efs262⟩ : ∃ y : List Value, y = (List.range 2).map (fun k => defaultValue (tyX1 k)) := ⟨_, rfl⟩
  rw [← efs262] at hP hD
  have hl_263 : fs262.length = 2 := by rw [efs262, List.length_map, List.length_range]
  have hf_264 : fs262[0]? = some (.null) := by rw [efs262]; rfl
  have hf_265 : fs262[1]? = some (.int 0) := by rw [efs262]; rfl
  refine W.widen (k := 38) (n := 1663) (Nat.le_of_ble_eq_true rfl) (Nat.le_of_ble_eq_true rfl) ?_
  refine lv_dup hx hb dX8_init_106 rfl ?_
  have hPc := hP.sub (ws' := [(q261, .inr (1, fs262))]) [3] rfl
  have hDc := hD.sub (ws' := [(q261, .inr (1, fs262))]) [3] (by decide) rfl
  have hKc := hK.sub (tys' := []) [] rfl
  have hFc := va_free (wc := [(q261, .inr (1, fs262))]) hD hS hA [3] rfl
  refine va_callv (va_runIN (As := []) (rest := [.ref q261, .int 6, .ref q7]) ⟨hx, hb, hml, hown, hG⟩ (c_Big_init l dC dI z q261 fs262 H.size hl_263 hf_265) ⟨va_cnB (host := "Seattable") 0 hG (gI m_47) rfl rfl rfl (nw_nest_1 hN) (hG _ m_46) (by decide +kernel) ⟨Nat.le_of_ble_eq_true rfl, Nat.le_of_ble_eq_true rfl⟩, rfl, (hG _ m_48)⟩ ⟨pre_blind, fun U hU hW => ⟨rfl, pre_call hU hW hPc hKc hDc hN (zkeep hZ hS) hFc⟩⟩ rfl rfl hl.1 rfl (lv_room (Nat.le_of_ble_eq_true rfl)) dX8_init_107 ⟨Nat.le_of_ble_eq_true rfl, Nat.le_of_ble_eq_true rfl⟩) hS (fun q _ h => hFc q h) hFc (fun u t H locs ht hvm hw hB hz1 hk1 hS => ?_)
  obtain ⟨fs267, q268, cA269, f270, hP1, hK1, hD1, hy271, hy272, hy273⟩ := hB
  rw [ht] at hP1
  have hK1 := va_K.moved hvm.symm hK1
  obtain ⟨hP, hD⟩ := va_join (wr := [(a, .inr (6, fs89)), (q7, .inl (cA8, 11, .inr (.inr (.inr (.inr f246))))), (q13, .inl (cA14, 11, .inr (.inr (.inr (.inr f260)))))]) (w1 := [(q261, .inr (1, fs267)), (q268, .inl (cA269, 96, .inl f270))]) hP hD [3] [0, 1, 2] rfl rfl (by decide) (by decide) hk1 hFc hP1 hD1
  have hK := (hK.sub (tys' := [(cA8, .object "Seattable$Big"), (cA14, .object "Seattable$Big")]) [0, 1] rfl).app hK1
  have hP : va_P (dC, dI) classes [(a, .inr (6, fs89)), (q7, .inl (cA8, 11, .inr (.inr (.inr (.inr f246))))), (q13, .inl (cA14, 11, .inr (.inr (.inr (.inr f260))))), (q261, .inr (1, fs267)), (q268, .inl (cA269, 96, .inl f270))] H := hP
  have hD : va_D A [(a, .inr (6, fs89)), (q7, .inl (cA8, 11, .inr (.inr (.inr (.inr f246))))), (q13, .inl (cA14, 11, .inr (.inr (.inr (.inr f260))))), (q261, .inr (1, fs267)), (q268, .inl (cA269, 96, .inl f270))] := hD
  have hK : va_K (dC, dI) classes [(cA8, .object "Seattable$Big"), (cA14, .object "Seattable$Big"), (cA269, .int)] s := hK
  refine W.widen (k := 39) (n := 1759) (Nat.le_of_ble_eq_true rfl) (Nat.le_of_ble_eq_true rfl) ?_
  refine va_astq (D := (dC, dI)) (ci := 1) (r := (RX1, TX1, 2)) hx hb hK hP hD hS 1 0 3 rfl rfl rfl rfl (by unfold vp_in; decide) dX8_init_110 (fun H locs hP hD hS => ?_)
  have hP : va_P (dC, dI) classes [(a, .inr (6, fs89)), (q7, .inl (cA8, 11, .inr (.inr (.inr (.inr (va_up f246 (6 : Int32).toNatClampNeg (some q261))))))), (q13, .inl (cA14, 11, .inr (.inr (.inr (.inr f260))))), (q261, .inr (1, fs267)), (q268, .inl (cA269, 96, .inl f270))] H := hP
  have hD : va_D A [(a, .inr (6, fs89)), (q7, .inl (cA8, 11, .inr (.inr (.inr (.inr (va_up f246 (6 : Int32).toNatClampNeg (some q261))))))), (q13, .inl (cA14, 11, .inr (.inr (.inr (.inr f260))))), (q261, .inr (1, fs267)), (q268, .inl (cA269, 96, .inl f270))] := hD
  obtain ⟨f274, ef274⟩ : ∃ y : Nat → Option Nat, y = (va_up f246 (6 : Int32).toNatClampNeg (some q261)) := ⟨_, rfl⟩
  rw [← ef274] at hP hD
  have hP := hP.sub (ws' := [(a, .inr (6, fs89)), (q7, .inl (cA8, 11, .inr (.inr (.inr (.inr f274))))), (q13, .inl (cA14, 11, .inr (.inr (.inr (.inr f260)))))]) [0, 1, 2] rfl
  have hD := hD.sub (ws' := [(a, .inr (6, fs89)), (q7, .inl (cA8, 11, .inr (.inr (.inr (.inr f274))))), (q13, .inl (cA14, 11, .inr (.inr (.inr (.inr f260)))))]) [0, 1, 2] (by decide) rfl
  have hK := hK.sub (tys' := [(cA8, .object "Seattable$Big"), (cA14, .object "Seattable$Big")]) [0, 1] rfl
  refine lv_aload_n hx hb dX8_init_111 rfl (lv_at hl 1 rfl) ?_
  refine va_get (D := (dC, dI)) (ci := 6) (v := .ref q13) (C := RX8) (T := TX8) (N := 15) hx hb hG iX8 hown hK hP 0 rfl rfl 7 (by decide) (hG _ m_74) (fun _ h9 => h9) hf_92 dX8_init_112 ?_
  refine lv_iload_n hx hb dX8_init_115 rfl (lv_at hl 0 rfl) ?_
  refine va_new (D := (dC, dI)) (ci := 1) (fs := (List.range 2).map (fun k => defaultValue (tyX1 k))) (C := RX1) (T := TX1) (N := 2) hx hb hG iX1 tyX1 tyX1_ok hown (hG _ m_72) (hG _ m_45) (hG _ m_46) hK hP hD hS hA rfl (fs_new 2 tyX1) (Nat.le_of_ble_eq_true rfl) (Nat.le_of_ble_eq_true rfl) dX8_init_116 (fun q275 H hP hD hS => ?_)
  have hP : va_P (dC, dI) classes [(a, .inr (6, fs89)), (q7, .inl (cA8, 11, .inr (.inr (.inr (.inr f274))))), (q13, .inl (cA14, 11, .inr (.inr (.inr (.inr f260))))), (q275, .inr (1, ((List.range 2).map (fun k => defaultValue (tyX1 k)))))] H := hP
  have hD : va_D A [(a, .inr (6, fs89)), (q7, .inl (cA8, 11, .inr (.inr (.inr (.inr f274))))), (q13, .inl (cA14, 11, .inr (.inr (.inr (.inr f260))))), (q275, .inr (1, ((List.range 2).map (fun k => defaultValue (tyX1 k)))))] := hD
  obtain ⟨fs276, efs276⟩ : ∃ y : List Value, y = (List.range 2).map (fun k => defaultValue (tyX1 k)) := ⟨_, rfl⟩
  rw [← efs276] at hP hD
  have hl_277 : fs276.length = 2 := by rw [efs276, List.length_map, List.length_range]
  have hf_278 : fs276[0]? = some (.null) := by rw [efs276]; rfl
  have hf_279 : fs276[1]? = some (.int 0) := by rw [efs276]; rfl
  refine W.widen (k := 40) (n := 1761) (Nat.le_of_ble_eq_true rfl) (Nat.le_of_ble_eq_true rfl) ?_
  refine lv_dup hx hb dX8_init_119 rfl ?_
  have hPc := hP.sub (ws' := [(q275, .inr (1, fs276))]) [3] rfl
  have hDc := hD.sub (ws' := [(q275, .inr (1, fs276))]) [3] (by decide) rfl
  have hKc := hK.sub (tys' := []) [] rfl
  have hFc := va_free (wc := [(q275, .inr (1, fs276))]) hD hS hA [3] rfl
  refine va_callv (va_runIN (As := []) (rest := [.ref q275, .int 6, .ref q13]) ⟨hx, hb, hml, hown, hG⟩ (c_Big_init l dC dI z q275 fs276 H.size hl_277 hf_279) ⟨va_cnB (host := "Seattable") 0 hG (gI m_47) rfl rfl rfl (nw_nest_1 hN) (hG _ m_46) (by decide +kernel) ⟨Nat.le_of_ble_eq_true rfl, Nat.le_of_ble_eq_true rfl⟩, rfl, (hG _ m_48)⟩ ⟨pre_blind, fun U hU hW => ⟨rfl, pre_call hU hW hPc hKc hDc hN (zkeep hZ hS) hFc⟩⟩ rfl rfl hl.1 rfl (lv_room (Nat.le_of_ble_eq_true rfl)) dX8_init_120 ⟨Nat.le_of_ble_eq_true rfl, Nat.le_of_ble_eq_true rfl⟩) hS (fun q _ h => hFc q h) hFc (fun u t H locs ht hvm hw hB hz1 hk1 hS => ?_)
  obtain ⟨fs281, q282, cA283, f284, hP1, hK1, hD1, hy285, hy286, hy287⟩ := hB
  rw [ht] at hP1
  have hK1 := va_K.moved hvm.symm hK1
  obtain ⟨hP, hD⟩ := va_join (wr := [(a, .inr (6, fs89)), (q7, .inl (cA8, 11, .inr (.inr (.inr (.inr f274))))), (q13, .inl (cA14, 11, .inr (.inr (.inr (.inr f260)))))]) (w1 := [(q275, .inr (1, fs281)), (q282, .inl (cA283, 96, .inl f284))]) hP hD [3] [0, 1, 2] rfl rfl (by decide) (by decide) hk1 hFc hP1 hD1
  have hK := (hK.sub (tys' := [(cA8, .object "Seattable$Big"), (cA14, .object "Seattable$Big")]) [0, 1] rfl).app hK1
  have hP : va_P (dC, dI) classes [(a, .inr (6, fs89)), (q7, .inl (cA8, 11, .inr (.inr (.inr (.inr f274))))), (q13, .inl (cA14, 11, .inr (.inr (.inr (.inr f260))))), (q275, .inr (1, fs281)), (q282, .inl (cA283, 96, .inl f284))] H := hP
  have hD : va_D A [(a, .inr (6, fs89)), (q7, .inl (cA8, 11, .inr (.inr (.inr (.inr f274))))), (q13, .inl (cA14, 11, .inr (.inr (.inr (.inr f260))))), (q275, .inr (1, fs281)), (q282, .inl (cA283, 96, .inl f284))] := hD
  have hK : va_K (dC, dI) classes [(cA8, .object "Seattable$Big"), (cA14, .object "Seattable$Big"), (cA283, .int)] s := hK
  refine W.widen (k := 41) (n := 1857) (Nat.le_of_ble_eq_true rfl) (Nat.le_of_ble_eq_true rfl) ?_
  refine va_astq (D := (dC, dI)) (ci := 1) (r := (RX1, TX1, 2)) hx hb hK hP hD hS 2 1 3 rfl rfl rfl rfl (by unfold vp_in; decide) dX8_init_123 (fun H locs hP hD hS => ?_)
  have hP : va_P (dC, dI) classes [(a, .inr (6, fs89)), (q7, .inl (cA8, 11, .inr (.inr (.inr (.inr f274))))), (q13, .inl (cA14, 11, .inr (.inr (.inr (.inr (va_up f260 (6 : Int32).toNatClampNeg (some q275))))))), (q275, .inr (1, fs281)), (q282, .inl (cA283, 96, .inl f284))] H := hP
  have hD : va_D A [(a, .inr (6, fs89)), (q7, .inl (cA8, 11, .inr (.inr (.inr (.inr f274))))), (q13, .inl (cA14, 11, .inr (.inr (.inr (.inr (va_up f260 (6 : Int32).toNatClampNeg (some q275))))))), (q275, .inr (1, fs281)), (q282, .inl (cA283, 96, .inl f284))] := hD
  obtain ⟨f288, ef288⟩ : ∃ y : Nat → Option Nat, y = (va_up f260 (6 : Int32).toNatClampNeg (some q275)) := ⟨_, rfl⟩
  rw [← ef288] at hP hD
  have hP := hP.sub (ws' := [(a, .inr (6, fs89)), (q7, .inl (cA8, 11, .inr (.inr (.inr (.inr f274))))), (q13, .inl (cA14, 11, .inr (.inr (.inr (.inr f288)))))]) [0, 1, 2] rfl
  have hD := hD.sub (ws' := [(a, .inr (6, fs89)), (q7, .inl (cA8, 11, .inr (.inr (.inr (.inr f274))))), (q13, .inl (cA14, 11, .inr (.inr (.inr (.inr f288)))))]) [0, 1, 2] (by decide) rfl
  have hK := hK.sub (tys' := [(cA8, .object "Seattable$Big"), (cA14, .object "Seattable$Big")]) [0, 1] rfl
  refine lv_iinc (v := 7) (lv' := [(1, .int 7), (0, .ref a)]) hx hb dX8_init_124 hl (k := 0) rfl (by decide) (by decide) rfl (fun ls hl => ?_)
  refine lv_goto (tgt := 92) hx hb dX8_init_127 (by decide) ?_
  refine lv_iload_n hx hb dX8_init_92 rfl (lv_at hl 0 rfl) ?_
  refine lv_bipush (v := 11) hx hb dX8_init_93 (by decide) ?_
  refine lv_icmp_ge (tgt := 130) hx hb dX8_init_95 (by decide) (fun c9 => absurd c9 (by decide)) (fun _ => ?_)
  refine lv_aload_n hx hb dX8_init_98 rfl (lv_at hl 1 rfl) ?_
  refine va_get (D := (dC, dI)) (ci := 6) (v := .ref q7) (C := RX8) (T := TX8) (N := 15) hx hb hG iX8 hown hK hP 0 rfl rfl 6 (by decide) (hG _ m_73) (fun _ h9 => h9) hf_91 dX8_init_99 ?_
  refine lv_iload_n hx hb dX8_init_102 rfl (lv_at hl 0 rfl) ?_
  refine va_new (D := (dC, dI)) (ci := 1) (fs := (List.range 2).map (fun k => defaultValue (tyX1 k))) (C := RX1) (T := TX1) (N := 2) hx hb hG iX1 tyX1 tyX1_ok hown (hG _ m_72) (hG _ m_45) (hG _ m_46) hK hP hD hS hA rfl (fs_new 2 tyX1) (Nat.le_of_ble_eq_true rfl) (Nat.le_of_ble_eq_true rfl) dX8_init_103 (fun q289 H hP hD hS => ?_)
  have hP : va_P (dC, dI) classes [(a, .inr (6, fs89)), (q7, .inl (cA8, 11, .inr (.inr (.inr (.inr f274))))), (q13, .inl (cA14, 11, .inr (.inr (.inr (.inr f288))))), (q289, .inr (1, ((List.range 2).map (fun k => defaultValue (tyX1 k)))))] H := hP
  have hD : va_D A [(a, .inr (6, fs89)), (q7, .inl (cA8, 11, .inr (.inr (.inr (.inr f274))))), (q13, .inl (cA14, 11, .inr (.inr (.inr (.inr f288))))), (q289, .inr (1, ((List.range 2).map (fun k => defaultValue (tyX1 k)))))] := hD
  obtain ⟨fs290, efs290⟩ : ∃ y : List Value, y = (List.range 2).map (fun k => defaultValue (tyX1 k)) := ⟨_, rfl⟩
  rw [← efs290] at hP hD
  have hl_291 : fs290.length = 2 := by rw [efs290, List.length_map, List.length_range]
  have hf_292 : fs290[0]? = some (.null) := by rw [efs290]; rfl
  have hf_293 : fs290[1]? = some (.int 0) := by rw [efs290]; rfl
  refine W.widen (k := 42) (n := 1859) (Nat.le_of_ble_eq_true rfl) (Nat.le_of_ble_eq_true rfl) ?_
  refine lv_dup hx hb dX8_init_106 rfl ?_
  have hPc := hP.sub (ws' := [(q289, .inr (1, fs290))]) [3] rfl
  have hDc := hD.sub (ws' := [(q289, .inr (1, fs290))]) [3] (by decide) rfl
  have hKc := hK.sub (tys' := []) [] rfl
  have hFc := va_free (wc := [(q289, .inr (1, fs290))]) hD hS hA [3] rfl
  refine va_callv (va_runIN (As := []) (rest := [.ref q289, .int 7, .ref q7]) ⟨hx, hb, hml, hown, hG⟩ (c_Big_init l dC dI z q289 fs290 H.size hl_291 hf_293) ⟨va_cnB (host := "Seattable") 0 hG (gI m_47) rfl rfl rfl (nw_nest_1 hN) (hG _ m_46) (by decide +kernel) ⟨Nat.le_of_ble_eq_true rfl, Nat.le_of_ble_eq_true rfl⟩, rfl, (hG _ m_48)⟩ ⟨pre_blind, fun U hU hW => ⟨rfl, pre_call hU hW hPc hKc hDc hN (zkeep hZ hS) hFc⟩⟩ rfl rfl hl.1 rfl (lv_room (Nat.le_of_ble_eq_true rfl)) dX8_init_107 ⟨Nat.le_of_ble_eq_true rfl, Nat.le_of_ble_eq_true rfl⟩) hS (fun q _ h => hFc q h) hFc (fun u t H locs ht hvm hw hB hz1 hk1 hS => ?_)
  obtain ⟨fs295, q296, cA297, f298, hP1, hK1, hD1, hy299, hy300, hy301⟩ := hB
  rw [ht] at hP1
  have hK1 := va_K.moved hvm.symm hK1
  obtain ⟨hP, hD⟩ := va_join (wr := [(a, .inr (6, fs89)), (q7, .inl (cA8, 11, .inr (.inr (.inr (.inr f274))))), (q13, .inl (cA14, 11, .inr (.inr (.inr (.inr f288)))))]) (w1 := [(q289, .inr (1, fs295)), (q296, .inl (cA297, 96, .inl f298))]) hP hD [3] [0, 1, 2] rfl rfl (by decide) (by decide) hk1 hFc hP1 hD1
  have hK := (hK.sub (tys' := [(cA8, .object "Seattable$Big"), (cA14, .object "Seattable$Big")]) [0, 1] rfl).app hK1
  have hP : va_P (dC, dI) classes [(a, .inr (6, fs89)), (q7, .inl (cA8, 11, .inr (.inr (.inr (.inr f274))))), (q13, .inl (cA14, 11, .inr (.inr (.inr (.inr f288))))), (q289, .inr (1, fs295)), (q296, .inl (cA297, 96, .inl f298))] H := hP
  have hD : va_D A [(a, .inr (6, fs89)), (q7, .inl (cA8, 11, .inr (.inr (.inr (.inr f274))))), (q13, .inl (cA14, 11, .inr (.inr (.inr (.inr f288))))), (q289, .inr (1, fs295)), (q296, .inl (cA297, 96, .inl f298))] := hD
  have hK : va_K (dC, dI) classes [(cA8, .object "Seattable$Big"), (cA14, .object "Seattable$Big"), (cA297, .int)] s := hK
  refine W.widen (k := 43) (n := 1955) (Nat.le_of_ble_eq_true rfl) (Nat.le_of_ble_eq_true rfl) ?_
  refine va_astq (D := (dC, dI)) (ci := 1) (r := (RX1, TX1, 2)) hx hb hK hP hD hS 1 0 3 rfl rfl rfl rfl (by unfold vp_in; decide) dX8_init_110 (fun H locs hP hD hS => ?_)
  have hP : va_P (dC, dI) classes [(a, .inr (6, fs89)), (q7, .inl (cA8, 11, .inr (.inr (.inr (.inr (va_up f274 (7 : Int32).toNatClampNeg (some q289))))))), (q13, .inl (cA14, 11, .inr (.inr (.inr (.inr f288))))), (q289, .inr (1, fs295)), (q296, .inl (cA297, 96, .inl f298))] H := hP
  have hD : va_D A [(a, .inr (6, fs89)), (q7, .inl (cA8, 11, .inr (.inr (.inr (.inr (va_up f274 (7 : Int32).toNatClampNeg (some q289))))))), (q13, .inl (cA14, 11, .inr (.inr (.inr (.inr f288))))), (q289, .inr (1, fs295)), (q296, .inl (cA297, 96, .inl f298))] := hD
  obtain ⟨f302, ef302⟩ : ∃ y : Nat → Option Nat, y = (va_up f274 (7 : Int32).toNatClampNeg (some q289)) := ⟨_, rfl⟩
  rw [← ef302] at hP hD
  have hP := hP.sub (ws' := [(a, .inr (6, fs89)), (q7, .inl (cA8, 11, .inr (.inr (.inr (.inr f302))))), (q13, .inl (cA14, 11, .inr (.inr (.inr (.inr f288)))))]) [0, 1, 2] rfl
  have hD := hD.sub (ws' := [(a, .inr (6, fs89)), (q7, .inl (cA8, 11, .inr (.inr (.inr (.inr f302))))), (q13, .inl (cA14, 11, .inr (.inr (.inr (.inr f288)))))]) [0, 1, 2] (by decide) rfl
  have hK := hK.sub (tys' := [(cA8, .object "Seattable$Big"), (cA14, .object "Seattable$Big")]) [0, 1] rfl
  refine lv_aload_n hx hb dX8_init_111 rfl (lv_at hl 1 rfl) ?_
  refine va_get (D := (dC, dI)) (ci := 6) (v := .ref q13) (C := RX8) (T := TX8) (N := 15) hx hb hG iX8 hown hK hP 0 rfl rfl 7 (by decide) (hG _ m_74) (fun _ h9 => h9) hf_92 dX8_init_112 ?_
  refine lv_iload_n hx hb dX8_init_115 rfl (lv_at hl 0 rfl) ?_
  refine va_new (D := (dC, dI)) (ci := 1) (fs := (List.range 2).map (fun k => defaultValue (tyX1 k))) (C := RX1) (T := TX1) (N := 2) hx hb hG iX1 tyX1 tyX1_ok hown (hG _ m_72) (hG _ m_45) (hG _ m_46) hK hP hD hS hA rfl (fs_new 2 tyX1) (Nat.le_of_ble_eq_true rfl) (Nat.le_of_ble_eq_true rfl) dX8_init_116 (fun q303 H hP hD hS => ?_)
  have hP : va_P (dC, dI) classes [(a, .inr (6, fs89)), (q7, .inl (cA8, 11, .inr (.inr (.inr (.inr f302))))), (q13, .inl (cA14, 11, .inr (.inr (.inr (.inr f288))))), (q303, .inr (1, ((List.range 2).map (fun k => defaultValue (tyX1 k)))))] H := hP
  have hD : va_D A [(a, .inr (6, fs89)), (q7, .inl (cA8, 11, .inr (.inr (.inr (.inr f302))))), (q13, .inl (cA14, 11, .inr (.inr (.inr (.inr f288))))), (q303, .inr (1, ((List.range 2).map (fun k => defaultValue (tyX1 k)))))] := hD
  obtain ⟨fs304, efs304⟩ : ∃ y : List Value, y = (List.range 2).map (fun k => defaultValue (tyX1 k)) := ⟨_, rfl⟩
  rw [← efs304] at hP hD
  have hl_305 : fs304.length = 2 := by rw [efs304, List.length_map, List.length_range]
  have hf_306 : fs304[0]? = some (.null) := by rw [efs304]; rfl
  have hf_307 : fs304[1]? = some (.int 0) := by rw [efs304]; rfl
  refine W.widen (k := 44) (n := 1957) (Nat.le_of_ble_eq_true rfl) (Nat.le_of_ble_eq_true rfl) ?_
  refine lv_dup hx hb dX8_init_119 rfl ?_
  have hPc := hP.sub (ws' := [(q303, .inr (1, fs304))]) [3] rfl
  have hDc := hD.sub (ws' := [(q303, .inr (1, fs304))]) [3] (by decide) rfl
  have hKc := hK.sub (tys' := []) [] rfl
  have hFc := va_free (wc := [(q303, .inr (1, fs304))]) hD hS hA [3] rfl
  refine va_callv (va_runIN (As := []) (rest := [.ref q303, .int 7, .ref q13]) ⟨hx, hb, hml, hown, hG⟩ (c_Big_init l dC dI z q303 fs304 H.size hl_305 hf_307) ⟨va_cnB (host := "Seattable") 0 hG (gI m_47) rfl rfl rfl (nw_nest_1 hN) (hG _ m_46) (by decide +kernel) ⟨Nat.le_of_ble_eq_true rfl, Nat.le_of_ble_eq_true rfl⟩, rfl, (hG _ m_48)⟩ ⟨pre_blind, fun U hU hW => ⟨rfl, pre_call hU hW hPc hKc hDc hN (zkeep hZ hS) hFc⟩⟩ rfl rfl hl.1 rfl (lv_room (Nat.le_of_ble_eq_true rfl)) dX8_init_120 ⟨Nat.le_of_ble_eq_true rfl, Nat.le_of_ble_eq_true rfl⟩) hS (fun q _ h => hFc q h) hFc (fun u t H locs ht hvm hw hB hz1 hk1 hS => ?_)
  obtain ⟨fs309, q310, cA311, f312, hP1, hK1, hD1, hy313, hy314, hy315⟩ := hB
  rw [ht] at hP1
  have hK1 := va_K.moved hvm.symm hK1
  obtain ⟨hP, hD⟩ := va_join (wr := [(a, .inr (6, fs89)), (q7, .inl (cA8, 11, .inr (.inr (.inr (.inr f302))))), (q13, .inl (cA14, 11, .inr (.inr (.inr (.inr f288)))))]) (w1 := [(q303, .inr (1, fs309)), (q310, .inl (cA311, 96, .inl f312))]) hP hD [3] [0, 1, 2] rfl rfl (by decide) (by decide) hk1 hFc hP1 hD1
  have hK := (hK.sub (tys' := [(cA8, .object "Seattable$Big"), (cA14, .object "Seattable$Big")]) [0, 1] rfl).app hK1
  have hP : va_P (dC, dI) classes [(a, .inr (6, fs89)), (q7, .inl (cA8, 11, .inr (.inr (.inr (.inr f302))))), (q13, .inl (cA14, 11, .inr (.inr (.inr (.inr f288))))), (q303, .inr (1, fs309)), (q310, .inl (cA311, 96, .inl f312))] H := hP
  have hD : va_D A [(a, .inr (6, fs89)), (q7, .inl (cA8, 11, .inr (.inr (.inr (.inr f302))))), (q13, .inl (cA14, 11, .inr (.inr (.inr (.inr f288))))), (q303, .inr (1, fs309)), (q310, .inl (cA311, 96, .inl f312))] := hD
  have hK : va_K (dC, dI) classes [(cA8, .object "Seattable$Big"), (cA14, .object "Seattable$Big"), (cA311, .int)] s := hK
  refine W.widen (k := 45) (n := 2053) (Nat.le_of_ble_eq_true rfl) (Nat.le_of_ble_eq_true rfl) ?_
  refine va_astq (D := (dC, dI)) (ci := 1) (r := (RX1, TX1, 2)) hx hb hK hP hD hS 2 1 3 rfl rfl rfl rfl (by unfold vp_in; decide) dX8_init_123 (fun H locs hP hD hS => ?_)
  have hP : va_P (dC, dI) classes [(a, .inr (6, fs89)), (q7, .inl (cA8, 11, .inr (.inr (.inr (.inr f302))))), (q13, .inl (cA14, 11, .inr (.inr (.inr (.inr (va_up f288 (7 : Int32).toNatClampNeg (some q303))))))), (q303, .inr (1, fs309)), (q310, .inl (cA311, 96, .inl f312))] H := hP
  have hD : va_D A [(a, .inr (6, fs89)), (q7, .inl (cA8, 11, .inr (.inr (.inr (.inr f302))))), (q13, .inl (cA14, 11, .inr (.inr (.inr (.inr (va_up f288 (7 : Int32).toNatClampNeg (some q303))))))), (q303, .inr (1, fs309)), (q310, .inl (cA311, 96, .inl f312))] := hD
  obtain ⟨f316, ef316⟩ : ∃ y : Nat → Option Nat, y = (va_up f288 (7 : Int32).toNatClampNeg (some q303)) := ⟨_, rfl⟩
  rw [← ef316] at hP hD
  have hP := hP.sub (ws' := [(a, .inr (6, fs89)), (q7, .inl (cA8, 11, .inr (.inr (.inr (.inr f302))))), (q13, .inl (cA14, 11, .inr (.inr (.inr (.inr f316)))))]) [0, 1, 2] rfl
  have hD := hD.sub (ws' := [(a, .inr (6, fs89)), (q7, .inl (cA8, 11, .inr (.inr (.inr (.inr f302))))), (q13, .inl (cA14, 11, .inr (.inr (.inr (.inr f316)))))]) [0, 1, 2] (by decide) rfl
  have hK := hK.sub (tys' := [(cA8, .object "Seattable$Big"), (cA14, .object "Seattable$Big")]) [0, 1] rfl
  refine lv_iinc (v := 8) (lv' := [(1, .int 8), (0, .ref a)]) hx hb dX8_init_124 hl (k := 0) rfl (by decide) (by decide) rfl (fun ls hl => ?_)
  refine lv_goto (tgt := 92) hx hb dX8_init_127 (by decide) ?_
  refine lv_iload_n hx hb dX8_init_92 rfl (lv_at hl 0 rfl) ?_
  refine lv_bipush (v := 11) hx hb dX8_init_93 (by decide) ?_
  refine lv_icmp_ge (tgt := 130) hx hb dX8_init_95 (by decide) (fun c9 => absurd c9 (by decide)) (fun _ => ?_)
  refine lv_aload_n hx hb dX8_init_98 rfl (lv_at hl 1 rfl) ?_
  refine va_get (D := (dC, dI)) (ci := 6) (v := .ref q7) (C := RX8) (T := TX8) (N := 15) hx hb hG iX8 hown hK hP 0 rfl rfl 6 (by decide) (hG _ m_73) (fun _ h9 => h9) hf_91 dX8_init_99 ?_
  refine lv_iload_n hx hb dX8_init_102 rfl (lv_at hl 0 rfl) ?_
  refine va_new (D := (dC, dI)) (ci := 1) (fs := (List.range 2).map (fun k => defaultValue (tyX1 k))) (C := RX1) (T := TX1) (N := 2) hx hb hG iX1 tyX1 tyX1_ok hown (hG _ m_72) (hG _ m_45) (hG _ m_46) hK hP hD hS hA rfl (fs_new 2 tyX1) (Nat.le_of_ble_eq_true rfl) (Nat.le_of_ble_eq_true rfl) dX8_init_103 (fun q317 H hP hD hS => ?_)
  have hP : va_P (dC, dI) classes [(a, .inr (6, fs89)), (q7, .inl (cA8, 11, .inr (.inr (.inr (.inr f302))))), (q13, .inl (cA14, 11, .inr (.inr (.inr (.inr f316))))), (q317, .inr (1, ((List.range 2).map (fun k => defaultValue (tyX1 k)))))] H := hP
  have hD : va_D A [(a, .inr (6, fs89)), (q7, .inl (cA8, 11, .inr (.inr (.inr (.inr f302))))), (q13, .inl (cA14, 11, .inr (.inr (.inr (.inr f316))))), (q317, .inr (1, ((List.range 2).map (fun k => defaultValue (tyX1 k)))))] := hD
  obtain ⟨fs318, efs318⟩ : ∃ y : List Value, y = (List.range 2).map (fun k => defaultValue (tyX1 k)) := ⟨_, rfl⟩
  rw [← efs318] at hP hD
  have hl_319 : fs318.length = 2 := by rw [efs318, List.length_map, List.length_range]
  have hf_320 : fs318[0]? = some (.null) := by rw [efs318]; rfl
  have hf_321 : fs318[1]? = some (.int 0) := by rw [efs318]; rfl
  refine W.widen (k := 46) (n := 2055) (Nat.le_of_ble_eq_true rfl) (Nat.le_of_ble_eq_true rfl) ?_
  refine lv_dup hx hb dX8_init_106 rfl ?_
  have hPc := hP.sub (ws' := [(q317, .inr (1, fs318))]) [3] rfl
  have hDc := hD.sub (ws' := [(q317, .inr (1, fs318))]) [3] (by decide) rfl
  have hKc := hK.sub (tys' := []) [] rfl
  have hFc := va_free (wc := [(q317, .inr (1, fs318))]) hD hS hA [3] rfl
  refine va_callv (va_runIN (As := []) (rest := [.ref q317, .int 8, .ref q7]) ⟨hx, hb, hml, hown, hG⟩ (c_Big_init l dC dI z q317 fs318 H.size hl_319 hf_321) ⟨va_cnB (host := "Seattable") 0 hG (gI m_47) rfl rfl rfl (nw_nest_1 hN) (hG _ m_46) (by decide +kernel) ⟨Nat.le_of_ble_eq_true rfl, Nat.le_of_ble_eq_true rfl⟩, rfl, (hG _ m_48)⟩ ⟨pre_blind, fun U hU hW => ⟨rfl, pre_call hU hW hPc hKc hDc hN (zkeep hZ hS) hFc⟩⟩ rfl rfl hl.1 rfl (lv_room (Nat.le_of_ble_eq_true rfl)) dX8_init_107 ⟨Nat.le_of_ble_eq_true rfl, Nat.le_of_ble_eq_true rfl⟩) hS (fun q _ h => hFc q h) hFc (fun u t H locs ht hvm hw hB hz1 hk1 hS => ?_)
  obtain ⟨fs323, q324, cA325, f326, hP1, hK1, hD1, hy327, hy328, hy329⟩ := hB
  rw [ht] at hP1
  have hK1 := va_K.moved hvm.symm hK1
  obtain ⟨hP, hD⟩ := va_join (wr := [(a, .inr (6, fs89)), (q7, .inl (cA8, 11, .inr (.inr (.inr (.inr f302))))), (q13, .inl (cA14, 11, .inr (.inr (.inr (.inr f316)))))]) (w1 := [(q317, .inr (1, fs323)), (q324, .inl (cA325, 96, .inl f326))]) hP hD [3] [0, 1, 2] rfl rfl (by decide) (by decide) hk1 hFc hP1 hD1
  have hK := (hK.sub (tys' := [(cA8, .object "Seattable$Big"), (cA14, .object "Seattable$Big")]) [0, 1] rfl).app hK1
  have hP : va_P (dC, dI) classes [(a, .inr (6, fs89)), (q7, .inl (cA8, 11, .inr (.inr (.inr (.inr f302))))), (q13, .inl (cA14, 11, .inr (.inr (.inr (.inr f316))))), (q317, .inr (1, fs323)), (q324, .inl (cA325, 96, .inl f326))] H := hP
  have hD : va_D A [(a, .inr (6, fs89)), (q7, .inl (cA8, 11, .inr (.inr (.inr (.inr f302))))), (q13, .inl (cA14, 11, .inr (.inr (.inr (.inr f316))))), (q317, .inr (1, fs323)), (q324, .inl (cA325, 96, .inl f326))] := hD
  have hK : va_K (dC, dI) classes [(cA8, .object "Seattable$Big"), (cA14, .object "Seattable$Big"), (cA325, .int)] s := hK
  refine W.widen (k := 47) (n := 2151) (Nat.le_of_ble_eq_true rfl) (Nat.le_of_ble_eq_true rfl) ?_
  refine va_astq (D := (dC, dI)) (ci := 1) (r := (RX1, TX1, 2)) hx hb hK hP hD hS 1 0 3 rfl rfl rfl rfl (by unfold vp_in; decide) dX8_init_110 (fun H locs hP hD hS => ?_)
  have hP : va_P (dC, dI) classes [(a, .inr (6, fs89)), (q7, .inl (cA8, 11, .inr (.inr (.inr (.inr (va_up f302 (8 : Int32).toNatClampNeg (some q317))))))), (q13, .inl (cA14, 11, .inr (.inr (.inr (.inr f316))))), (q317, .inr (1, fs323)), (q324, .inl (cA325, 96, .inl f326))] H := hP
  have hD : va_D A [(a, .inr (6, fs89)), (q7, .inl (cA8, 11, .inr (.inr (.inr (.inr (va_up f302 (8 : Int32).toNatClampNeg (some q317))))))), (q13, .inl (cA14, 11, .inr (.inr (.inr (.inr f316))))), (q317, .inr (1, fs323)), (q324, .inl (cA325, 96, .inl f326))] := hD
  obtain ⟨f330, ef330⟩ : ∃ y : Nat → Option Nat, y = (va_up f302 (8 : Int32).toNatClampNeg (some q317)) := ⟨_, rfl⟩
  rw [← ef330] at hP hD
  have hP := hP.sub (ws' := [(a, .inr (6, fs89)), (q7, .inl (cA8, 11, .inr (.inr (.inr (.inr f330))))), (q13, .inl (cA14, 11, .inr (.inr (.inr (.inr f316)))))]) [0, 1, 2] rfl
  have hD := hD.sub (ws' := [(a, .inr (6, fs89)), (q7, .inl (cA8, 11, .inr (.inr (.inr (.inr f330))))), (q13, .inl (cA14, 11, .inr (.inr (.inr (.inr f316)))))]) [0, 1, 2] (by decide) rfl
  have hK := hK.sub (tys' := [(cA8, .object "Seattable$Big"), (cA14, .object "Seattable$Big")]) [0, 1] rfl
  refine lv_aload_n hx hb dX8_init_111 rfl (lv_at hl 1 rfl) ?_
  refine va_get (D := (dC, dI)) (ci := 6) (v := .ref q13) (C := RX8) (T := TX8) (N := 15) hx hb hG iX8 hown hK hP 0 rfl rfl 7 (by decide) (hG _ m_74) (fun _ h9 => h9) hf_92 dX8_init_112 ?_
  refine lv_iload_n hx hb dX8_init_115 rfl (lv_at hl 0 rfl) ?_
  refine va_new (D := (dC, dI)) (ci := 1) (fs := (List.range 2).map (fun k => defaultValue (tyX1 k))) (C := RX1) (T := TX1) (N := 2) hx hb hG iX1 tyX1 tyX1_ok hown (hG _ m_72) (hG _ m_45) (hG _ m_46) hK hP hD hS hA rfl (fs_new 2 tyX1) (Nat.le_of_ble_eq_true rfl) (Nat.le_of_ble_eq_true rfl) dX8_init_116 (fun q331 H hP hD hS => ?_)
  have hP : va_P (dC, dI) classes [(a, .inr (6, fs89)), (q7, .inl (cA8, 11, .inr (.inr (.inr (.inr f330))))), (q13, .inl (cA14, 11, .inr (.inr (.inr (.inr f316))))), (q331, .inr (1, ((List.range 2).map (fun k => defaultValue (tyX1 k)))))] H := hP
  have hD : va_D A [(a, .inr (6, fs89)), (q7, .inl (cA8, 11, .inr (.inr (.inr (.inr f330))))), (q13, .inl (cA14, 11, .inr (.inr (.inr (.inr f316))))), (q331, .inr (1, ((List.range 2).map (fun k => defaultValue (tyX1 k)))))] := hD
  obtain ⟨fs332, efs332⟩ : ∃ y : List Value, y = (List.range 2).map (fun k => defaultValue (tyX1 k)) := ⟨_, rfl⟩
  rw [← efs332] at hP hD
  have hl_333 : fs332.length = 2 := by rw [efs332, List.length_map, List.length_range]
  have hf_334 : fs332[0]? = some (.null) := by rw [efs332]; rfl
  have hf_335 : fs332[1]? = some (.int 0) := by rw [efs332]; rfl
  refine W.widen (k := 48) (n := 2153) (Nat.le_of_ble_eq_true rfl) (Nat.le_of_ble_eq_true rfl) ?_
  refine lv_dup hx hb dX8_init_119 rfl ?_
  have hPc := hP.sub (ws' := [(q331, .inr (1, fs332))]) [3] rfl
  have hDc := hD.sub (ws' := [(q331, .inr (1, fs332))]) [3] (by decide) rfl
  have hKc := hK.sub (tys' := []) [] rfl
  have hFc := va_free (wc := [(q331, .inr (1, fs332))]) hD hS hA [3] rfl
  refine va_callv (va_runIN (As := []) (rest := [.ref q331, .int 8, .ref q13]) ⟨hx, hb, hml, hown, hG⟩ (c_Big_init l dC dI z q331 fs332 H.size hl_333 hf_335) ⟨va_cnB (host := "Seattable") 0 hG (gI m_47) rfl rfl rfl (nw_nest_1 hN) (hG _ m_46) (by decide +kernel) ⟨Nat.le_of_ble_eq_true rfl, Nat.le_of_ble_eq_true rfl⟩, rfl, (hG _ m_48)⟩ ⟨pre_blind, fun U hU hW => ⟨rfl, pre_call hU hW hPc hKc hDc hN (zkeep hZ hS) hFc⟩⟩ rfl rfl hl.1 rfl (lv_room (Nat.le_of_ble_eq_true rfl)) dX8_init_120 ⟨Nat.le_of_ble_eq_true rfl, Nat.le_of_ble_eq_true rfl⟩) hS (fun q _ h => hFc q h) hFc (fun u t H locs ht hvm hw hB hz1 hk1 hS => ?_)
  obtain ⟨fs337, q338, cA339, f340, hP1, hK1, hD1, hy341, hy342, hy343⟩ := hB
  rw [ht] at hP1
  have hK1 := va_K.moved hvm.symm hK1
  obtain ⟨hP, hD⟩ := va_join (wr := [(a, .inr (6, fs89)), (q7, .inl (cA8, 11, .inr (.inr (.inr (.inr f330))))), (q13, .inl (cA14, 11, .inr (.inr (.inr (.inr f316)))))]) (w1 := [(q331, .inr (1, fs337)), (q338, .inl (cA339, 96, .inl f340))]) hP hD [3] [0, 1, 2] rfl rfl (by decide) (by decide) hk1 hFc hP1 hD1
  have hK := (hK.sub (tys' := [(cA8, .object "Seattable$Big"), (cA14, .object "Seattable$Big")]) [0, 1] rfl).app hK1
  have hP : va_P (dC, dI) classes [(a, .inr (6, fs89)), (q7, .inl (cA8, 11, .inr (.inr (.inr (.inr f330))))), (q13, .inl (cA14, 11, .inr (.inr (.inr (.inr f316))))), (q331, .inr (1, fs337)), (q338, .inl (cA339, 96, .inl f340))] H := hP
  have hD : va_D A [(a, .inr (6, fs89)), (q7, .inl (cA8, 11, .inr (.inr (.inr (.inr f330))))), (q13, .inl (cA14, 11, .inr (.inr (.inr (.inr f316))))), (q331, .inr (1, fs337)), (q338, .inl (cA339, 96, .inl f340))] := hD
  have hK : va_K (dC, dI) classes [(cA8, .object "Seattable$Big"), (cA14, .object "Seattable$Big"), (cA339, .int)] s := hK
  refine W.widen (k := 49) (n := 2249) (Nat.le_of_ble_eq_true rfl) (Nat.le_of_ble_eq_true rfl) ?_
  refine va_astq (D := (dC, dI)) (ci := 1) (r := (RX1, TX1, 2)) hx hb hK hP hD hS 2 1 3 rfl rfl rfl rfl (by unfold vp_in; decide) dX8_init_123 (fun H locs hP hD hS => ?_)
  have hP : va_P (dC, dI) classes [(a, .inr (6, fs89)), (q7, .inl (cA8, 11, .inr (.inr (.inr (.inr f330))))), (q13, .inl (cA14, 11, .inr (.inr (.inr (.inr (va_up f316 (8 : Int32).toNatClampNeg (some q331))))))), (q331, .inr (1, fs337)), (q338, .inl (cA339, 96, .inl f340))] H := hP
  have hD : va_D A [(a, .inr (6, fs89)), (q7, .inl (cA8, 11, .inr (.inr (.inr (.inr f330))))), (q13, .inl (cA14, 11, .inr (.inr (.inr (.inr (va_up f316 (8 : Int32).toNatClampNeg (some q331))))))), (q331, .inr (1, fs337)), (q338, .inl (cA339, 96, .inl f340))] := hD
  obtain ⟨f344, ef344⟩ : ∃ y : Nat → Option Nat, y = (va_up f316 (8 : Int32).toNatClampNeg (some q331)) := ⟨_, rfl⟩
  rw [← ef344] at hP hD
  have hP := hP.sub (ws' := [(a, .inr (6, fs89)), (q7, .inl (cA8, 11, .inr (.inr (.inr (.inr f330))))), (q13, .inl (cA14, 11, .inr (.inr (.inr (.inr f344)))))]) [0, 1, 2] rfl
  have hD := hD.sub (ws' := [(a, .inr (6, fs89)), (q7, .inl (cA8, 11, .inr (.inr (.inr (.inr f330))))), (q13, .inl (cA14, 11, .inr (.inr (.inr (.inr f344)))))]) [0, 1, 2] (by decide) rfl
  have hK := hK.sub (tys' := [(cA8, .object "Seattable$Big"), (cA14, .object "Seattable$Big")]) [0, 1] rfl
  refine lv_iinc (v := 9) (lv' := [(1, .int 9), (0, .ref a)]) hx hb dX8_init_124 hl (k := 0) rfl (by decide) (by decide) rfl (fun ls hl => ?_)
  refine lv_goto (tgt := 92) hx hb dX8_init_127 (by decide) ?_
  refine lv_iload_n hx hb dX8_init_92 rfl (lv_at hl 0 rfl) ?_
  refine lv_bipush (v := 11) hx hb dX8_init_93 (by decide) ?_
  refine lv_icmp_ge (tgt := 130) hx hb dX8_init_95 (by decide) (fun c9 => absurd c9 (by decide)) (fun _ => ?_)
  refine lv_aload_n hx hb dX8_init_98 rfl (lv_at hl 1 rfl) ?_
  refine va_get (D := (dC, dI)) (ci := 6) (v := .ref q7) (C := RX8) (T := TX8) (N := 15) hx hb hG iX8 hown hK hP 0 rfl rfl 6 (by decide) (hG _ m_73) (fun _ h9 => h9) hf_91 dX8_init_99 ?_
  refine lv_iload_n hx hb dX8_init_102 rfl (lv_at hl 0 rfl) ?_
  refine va_new (D := (dC, dI)) (ci := 1) (fs := (List.range 2).map (fun k => defaultValue (tyX1 k))) (C := RX1) (T := TX1) (N := 2) hx hb hG iX1 tyX1 tyX1_ok hown (hG _ m_72) (hG _ m_45) (hG _ m_46) hK hP hD hS hA rfl (fs_new 2 tyX1) (Nat.le_of_ble_eq_true rfl) (Nat.le_of_ble_eq_true rfl) dX8_init_103 (fun q345 H hP hD hS => ?_)
  have hP : va_P (dC, dI) classes [(a, .inr (6, fs89)), (q7, .inl (cA8, 11, .inr (.inr (.inr (.inr f330))))), (q13, .inl (cA14, 11, .inr (.inr (.inr (.inr f344))))), (q345, .inr (1, ((List.range 2).map (fun k => defaultValue (tyX1 k)))))] H := hP
  have hD : va_D A [(a, .inr (6, fs89)), (q7, .inl (cA8, 11, .inr (.inr (.inr (.inr f330))))), (q13, .inl (cA14, 11, .inr (.inr (.inr (.inr f344))))), (q345, .inr (1, ((List.range 2).map (fun k => defaultValue (tyX1 k)))))] := hD
  obtain ⟨fs346, efs346⟩ : ∃ y : List Value, y = (List.range 2).map (fun k => defaultValue (tyX1 k)) := ⟨_, rfl⟩
  rw [← efs346] at hP hD
  have hl_347 : fs346.length = 2 := by rw [efs346, List.length_map, List.length_range]
  have hf_348 : fs346[0]? = some (.null) := by rw [efs346]; rfl
  have hf_349 : fs346[1]? = some (.int 0) := by rw [efs346]; rfl
  refine W.widen (k := 50) (n := 2251) (Nat.le_of_ble_eq_true rfl) (Nat.le_of_ble_eq_true rfl) ?_
  refine lv_dup hx hb dX8_init_106 rfl ?_
  have hPc := hP.sub (ws' := [(q345, .inr (1, fs346))]) [3] rfl
  have hDc := hD.sub (ws' := [(q345, .inr (1, fs346))]) [3] (by decide) rfl
  have hKc := hK.sub (tys' := []) [] rfl
  have hFc := va_free (wc := [(q345, .inr (1, fs346))]) hD hS hA [3] rfl
  refine va_callv (va_runIN (As := []) (rest := [.ref q345, .int 9, .ref q7]) ⟨hx, hb, hml, hown, hG⟩ (c_Big_init l dC dI z q345 fs346 H.size hl_347 hf_349) ⟨va_cnB (host := "Seattable") 0 hG (gI m_47) rfl rfl rfl (nw_nest_1 hN) (hG _ m_46) (by decide +kernel) ⟨Nat.le_of_ble_eq_true rfl, Nat.le_of_ble_eq_true rfl⟩, rfl, (hG _ m_48)⟩ ⟨pre_blind, fun U hU hW => ⟨rfl, pre_call hU hW hPc hKc hDc hN (zkeep hZ hS) hFc⟩⟩ rfl rfl hl.1 rfl (lv_room (Nat.le_of_ble_eq_true rfl)) dX8_init_107 ⟨Nat.le_of_ble_eq_true rfl, Nat.le_of_ble_eq_true rfl⟩) hS (fun q _ h => hFc q h) hFc (fun u t H locs ht hvm hw hB hz1 hk1 hS => ?_)
  obtain ⟨fs351, q352, cA353, f354, hP1, hK1, hD1, hy355, hy356, hy357⟩ := hB
  rw [ht] at hP1
  have hK1 := va_K.moved hvm.symm hK1
  obtain ⟨hP, hD⟩ := va_join (wr := [(a, .inr (6, fs89)), (q7, .inl (cA8, 11, .inr (.inr (.inr (.inr f330))))), (q13, .inl (cA14, 11, .inr (.inr (.inr (.inr f344)))))]) (w1 := [(q345, .inr (1, fs351)), (q352, .inl (cA353, 96, .inl f354))]) hP hD [3] [0, 1, 2] rfl rfl (by decide) (by decide) hk1 hFc hP1 hD1
  have hK := (hK.sub (tys' := [(cA8, .object "Seattable$Big"), (cA14, .object "Seattable$Big")]) [0, 1] rfl).app hK1
  have hP : va_P (dC, dI) classes [(a, .inr (6, fs89)), (q7, .inl (cA8, 11, .inr (.inr (.inr (.inr f330))))), (q13, .inl (cA14, 11, .inr (.inr (.inr (.inr f344))))), (q345, .inr (1, fs351)), (q352, .inl (cA353, 96, .inl f354))] H := hP
  have hD : va_D A [(a, .inr (6, fs89)), (q7, .inl (cA8, 11, .inr (.inr (.inr (.inr f330))))), (q13, .inl (cA14, 11, .inr (.inr (.inr (.inr f344))))), (q345, .inr (1, fs351)), (q352, .inl (cA353, 96, .inl f354))] := hD
  have hK : va_K (dC, dI) classes [(cA8, .object "Seattable$Big"), (cA14, .object "Seattable$Big"), (cA353, .int)] s := hK
  refine W.widen (k := 51) (n := 2347) (Nat.le_of_ble_eq_true rfl) (Nat.le_of_ble_eq_true rfl) ?_
  refine va_astq (D := (dC, dI)) (ci := 1) (r := (RX1, TX1, 2)) hx hb hK hP hD hS 1 0 3 rfl rfl rfl rfl (by unfold vp_in; decide) dX8_init_110 (fun H locs hP hD hS => ?_)
  have hP : va_P (dC, dI) classes [(a, .inr (6, fs89)), (q7, .inl (cA8, 11, .inr (.inr (.inr (.inr (va_up f330 (9 : Int32).toNatClampNeg (some q345))))))), (q13, .inl (cA14, 11, .inr (.inr (.inr (.inr f344))))), (q345, .inr (1, fs351)), (q352, .inl (cA353, 96, .inl f354))] H := hP
  have hD : va_D A [(a, .inr (6, fs89)), (q7, .inl (cA8, 11, .inr (.inr (.inr (.inr (va_up f330 (9 : Int32).toNatClampNeg (some q345))))))), (q13, .inl (cA14, 11, .inr (.inr (.inr (.inr f344))))), (q345, .inr (1, fs351)), (q352, .inl (cA353, 96, .inl f354))] := hD
  obtain ⟨f358, ef358⟩ : ∃ y : Nat → Option Nat, y = (va_up f330 (9 : Int32).toNatClampNeg (some q345)) := ⟨_, rfl⟩
  rw [← ef358] at hP hD
  have hP := hP.sub (ws' := [(a, .inr (6, fs89)), (q7, .inl (cA8, 11, .inr (.inr (.inr (.inr f358))))), (q13, .inl (cA14, 11, .inr (.inr (.inr (.inr f344)))))]) [0, 1, 2] rfl
  have hD := hD.sub (ws' := [(a, .inr (6, fs89)), (q7, .inl (cA8, 11, .inr (.inr (.inr (.inr f358))))), (q13, .inl (cA14, 11, .inr (.inr (.inr (.inr f344)))))]) [0, 1, 2] (by decide) rfl
  have hK := hK.sub (tys' := [(cA8, .object "Seattable$Big"), (cA14, .object "Seattable$Big")]) [0, 1] rfl
  refine lv_aload_n hx hb dX8_init_111 rfl (lv_at hl 1 rfl) ?_
  refine va_get (D := (dC, dI)) (ci := 6) (v := .ref q13) (C := RX8) (T := TX8) (N := 15) hx hb hG iX8 hown hK hP 0 rfl rfl 7 (by decide) (hG _ m_74) (fun _ h9 => h9) hf_92 dX8_init_112 ?_
  refine lv_iload_n hx hb dX8_init_115 rfl (lv_at hl 0 rfl) ?_
  refine va_new (D := (dC, dI)) (ci := 1) (fs := (List.range 2).map (fun k => defaultValue (tyX1 k))) (C := RX1) (T := TX1) (N := 2) hx hb hG iX1 tyX1 tyX1_ok hown (hG _ m_72) (hG _ m_45) (hG _ m_46) hK hP hD hS hA rfl (fs_new 2 tyX1) (Nat.le_of_ble_eq_true rfl) (Nat.le_of_ble_eq_true rfl) dX8_init_116 (fun q359 H hP hD hS => ?_)
  have hP : va_P (dC, dI) classes [(a, .inr (6, fs89)), (q7, .inl (cA8, 11, .inr (.inr (.inr (.inr f358))))), (q13, .inl (cA14, 11, .inr (.inr (.inr (.inr f344))))), (q359, .inr (1, ((List.range 2).map (fun k => defaultValue (tyX1 k)))))] H := hP
  have hD : va_D A [(a, .inr (6, fs89)), (q7, .inl (cA8, 11, .inr (.inr (.inr (.inr f358))))), (q13, .inl (cA14, 11, .inr (.inr (.inr (.inr f344))))), (q359, .inr (1, ((List.range 2).map (fun k => defaultValue (tyX1 k)))))] := hD
  obtain ⟨fs360, efs360⟩ : ∃ y : List Value, y = (List.range 2).map (fun k => defaultValue (tyX1 k)) := ⟨_, rfl⟩
  rw [← efs360] at hP hD
  have hl_361 : fs360.length = 2 := by rw [efs360, List.length_map, List.length_range]
  have hf_362 : fs360[0]? = some (.null) := by rw [efs360]; rfl
  have hf_363 : fs360[1]? = some (.int 0) := by rw [efs360]; rfl
  refine W.widen (k := 52) (n := 2349) (Nat.le_of_ble_eq_true rfl) (Nat.le_of_ble_eq_true rfl) ?_
  refine lv_dup hx hb dX8_init_119 rfl ?_
  have hPc := hP.sub (ws' := [(q359, .inr (1, fs360))]) [3] rfl
  have hDc := hD.sub (ws' := [(q359, .inr (1, fs360))]) [3] (by decide) rfl
  have hKc := hK.sub (tys' := []) [] rfl
  have hFc := va_free (wc := [(q359, .inr (1, fs360))]) hD hS hA [3] rfl
  refine va_callv (va_runIN (As := []) (rest := [.ref q359, .int 9, .ref q13]) ⟨hx, hb, hml, hown, hG⟩ (c_Big_init l dC dI z q359 fs360 H.size hl_361 hf_363) ⟨va_cnB (host := "Seattable") 0 hG (gI m_47) rfl rfl rfl (nw_nest_1 hN) (hG _ m_46) (by decide +kernel) ⟨Nat.le_of_ble_eq_true rfl, Nat.le_of_ble_eq_true rfl⟩, rfl, (hG _ m_48)⟩ ⟨pre_blind, fun U hU hW => ⟨rfl, pre_call hU hW hPc hKc hDc hN (zkeep hZ hS) hFc⟩⟩ rfl rfl hl.1 rfl (lv_room (Nat.le_of_ble_eq_true rfl)) dX8_init_120 ⟨Nat.le_of_ble_eq_true rfl, Nat.le_of_ble_eq_true rfl⟩) hS (fun q _ h => hFc q h) hFc (fun u t H locs ht hvm hw hB hz1 hk1 hS => ?_)
  obtain ⟨fs365, q366, cA367, f368, hP1, hK1, hD1, hy369, hy370, hy371⟩ := hB
  rw [ht] at hP1
  have hK1 := va_K.moved hvm.symm hK1
  obtain ⟨hP, hD⟩ := va_join (wr := [(a, .inr (6, fs89)), (q7, .inl (cA8, 11, .inr (.inr (.inr (.inr f358))))), (q13, .inl (cA14, 11, .inr (.inr (.inr (.inr f344)))))]) (w1 := [(q359, .inr (1, fs365)), (q366, .inl (cA367, 96, .inl f368))]) hP hD [3] [0, 1, 2] rfl rfl (by decide) (by decide) hk1 hFc hP1 hD1
  have hK := (hK.sub (tys' := [(cA8, .object "Seattable$Big"), (cA14, .object "Seattable$Big")]) [0, 1] rfl).app hK1
  have hP : va_P (dC, dI) classes [(a, .inr (6, fs89)), (q7, .inl (cA8, 11, .inr (.inr (.inr (.inr f358))))), (q13, .inl (cA14, 11, .inr (.inr (.inr (.inr f344))))), (q359, .inr (1, fs365)), (q366, .inl (cA367, 96, .inl f368))] H := hP
  have hD : va_D A [(a, .inr (6, fs89)), (q7, .inl (cA8, 11, .inr (.inr (.inr (.inr f358))))), (q13, .inl (cA14, 11, .inr (.inr (.inr (.inr f344))))), (q359, .inr (1, fs365)), (q366, .inl (cA367, 96, .inl f368))] := hD
  have hK : va_K (dC, dI) classes [(cA8, .object "Seattable$Big"), (cA14, .object "Seattable$Big"), (cA367, .int)] s := hK
  refine W.widen (k := 53) (n := 2445) (Nat.le_of_ble_eq_true rfl) (Nat.le_of_ble_eq_true rfl) ?_
  refine va_astq (D := (dC, dI)) (ci := 1) (r := (RX1, TX1, 2)) hx hb hK hP hD hS 2 1 3 rfl rfl rfl rfl (by unfold vp_in; decide) dX8_init_123 (fun H locs hP hD hS => ?_)
  have hP : va_P (dC, dI) classes [(a, .inr (6, fs89)), (q7, .inl (cA8, 11, .inr (.inr (.inr (.inr f358))))), (q13, .inl (cA14, 11, .inr (.inr (.inr (.inr (va_up f344 (9 : Int32).toNatClampNeg (some q359))))))), (q359, .inr (1, fs365)), (q366, .inl (cA367, 96, .inl f368))] H := hP
  have hD : va_D A [(a, .inr (6, fs89)), (q7, .inl (cA8, 11, .inr (.inr (.inr (.inr f358))))), (q13, .inl (cA14, 11, .inr (.inr (.inr (.inr (va_up f344 (9 : Int32).toNatClampNeg (some q359))))))), (q359, .inr (1, fs365)), (q366, .inl (cA367, 96, .inl f368))] := hD
  obtain ⟨f372, ef372⟩ : ∃ y : Nat → Option Nat, y = (va_up f344 (9 : Int32).toNatClampNeg (some q359)) := ⟨_, rfl⟩
  rw [← ef372] at hP hD
  have hP := hP.sub (ws' := [(a, .inr (6, fs89)), (q7, .inl (cA8, 11, .inr (.inr (.inr (.inr f358))))), (q13, .inl (cA14, 11, .inr (.inr (.inr (.inr f372)))))]) [0, 1, 2] rfl
  have hD := hD.sub (ws' := [(a, .inr (6, fs89)), (q7, .inl (cA8, 11, .inr (.inr (.inr (.inr f358))))), (q13, .inl (cA14, 11, .inr (.inr (.inr (.inr f372)))))]) [0, 1, 2] (by decide) rfl
  have hK := hK.sub (tys' := [(cA8, .object "Seattable$Big"), (cA14, .object "Seattable$Big")]) [0, 1] rfl
  refine lv_iinc (v := 10) (lv' := [(1, .int 10), (0, .ref a)]) hx hb dX8_init_124 hl (k := 0) rfl (by decide) (by decide) rfl (fun ls hl => ?_)
  refine lv_goto (tgt := 92) hx hb dX8_init_127 (by decide) ?_
  refine lv_iload_n hx hb dX8_init_92 rfl (lv_at hl 0 rfl) ?_
  refine lv_bipush (v := 11) hx hb dX8_init_93 (by decide) ?_
  refine lv_icmp_ge (tgt := 130) hx hb dX8_init_95 (by decide) (fun c9 => absurd c9 (by decide)) (fun _ => ?_)
  refine lv_aload_n hx hb dX8_init_98 rfl (lv_at hl 1 rfl) ?_
  refine va_get (D := (dC, dI)) (ci := 6) (v := .ref q7) (C := RX8) (T := TX8) (N := 15) hx hb hG iX8 hown hK hP 0 rfl rfl 6 (by decide) (hG _ m_73) (fun _ h9 => h9) hf_91 dX8_init_99 ?_
  refine lv_iload_n hx hb dX8_init_102 rfl (lv_at hl 0 rfl) ?_
  refine va_new (D := (dC, dI)) (ci := 1) (fs := (List.range 2).map (fun k => defaultValue (tyX1 k))) (C := RX1) (T := TX1) (N := 2) hx hb hG iX1 tyX1 tyX1_ok hown (hG _ m_72) (hG _ m_45) (hG _ m_46) hK hP hD hS hA rfl (fs_new 2 tyX1) (Nat.le_of_ble_eq_true rfl) (Nat.le_of_ble_eq_true rfl) dX8_init_103 (fun q373 H hP hD hS => ?_)
  have hP : va_P (dC, dI) classes [(a, .inr (6, fs89)), (q7, .inl (cA8, 11, .inr (.inr (.inr (.inr f358))))), (q13, .inl (cA14, 11, .inr (.inr (.inr (.inr f372))))), (q373, .inr (1, ((List.range 2).map (fun k => defaultValue (tyX1 k)))))] H := hP
  have hD : va_D A [(a, .inr (6, fs89)), (q7, .inl (cA8, 11, .inr (.inr (.inr (.inr f358))))), (q13, .inl (cA14, 11, .inr (.inr (.inr (.inr f372))))), (q373, .inr (1, ((List.range 2).map (fun k => defaultValue (tyX1 k)))))] := hD
  obtain ⟨fs374, efs374⟩ : ∃ y : List Value, y = (List.range 2).map (fun k => defaultValue (tyX1 k)) := ⟨_, rfl⟩
  rw [← efs374] at hP hD
  have hl_375 : fs374.length = 2 := by rw [efs374, List.length_map, List.length_range]
  have hf_376 : fs374[0]? = some (.null) := by rw [efs374]; rfl
  have hf_377 : fs374[1]? = some (.int 0) := by rw [efs374]; rfl
  refine W.widen (k := 54) (n := 2447) (Nat.le_of_ble_eq_true rfl) (Nat.le_of_ble_eq_true rfl) ?_
  refine lv_dup hx hb dX8_init_106 rfl ?_
  have hPc := hP.sub (ws' := [(q373, .inr (1, fs374))]) [3] rfl
  have hDc := hD.sub (ws' := [(q373, .inr (1, fs374))]) [3] (by decide) rfl
  have hKc := hK.sub (tys' := []) [] rfl
  have hFc := va_free (wc := [(q373, .inr (1, fs374))]) hD hS hA [3] rfl
  refine va_callv (va_runIN (As := []) (rest := [.ref q373, .int 10, .ref q7]) ⟨hx, hb, hml, hown, hG⟩ (c_Big_init l dC dI z q373 fs374 H.size hl_375 hf_377) ⟨va_cnB (host := "Seattable") 0 hG (gI m_47) rfl rfl rfl (nw_nest_1 hN) (hG _ m_46) (by decide +kernel) ⟨Nat.le_of_ble_eq_true rfl, Nat.le_of_ble_eq_true rfl⟩, rfl, (hG _ m_48)⟩ ⟨pre_blind, fun U hU hW => ⟨rfl, pre_call hU hW hPc hKc hDc hN (zkeep hZ hS) hFc⟩⟩ rfl rfl hl.1 rfl (lv_room (Nat.le_of_ble_eq_true rfl)) dX8_init_107 ⟨Nat.le_of_ble_eq_true rfl, Nat.le_of_ble_eq_true rfl⟩) hS (fun q _ h => hFc q h) hFc (fun u t H locs ht hvm hw hB hz1 hk1 hS => ?_)
  obtain ⟨fs379, q380, cA381, f382, hP1, hK1, hD1, hy383, hy384, hy385⟩ := hB
  rw [ht] at hP1
  have hK1 := va_K.moved hvm.symm hK1
  obtain ⟨hP, hD⟩ := va_join (wr := [(a, .inr (6, fs89)), (q7, .inl (cA8, 11, .inr (.inr (.inr (.inr f358))))), (q13, .inl (cA14, 11, .inr (.inr (.inr (.inr f372)))))]) (w1 := [(q373, .inr (1, fs379)), (q380, .inl (cA381, 96, .inl f382))]) hP hD [3] [0, 1, 2] rfl rfl (by decide) (by decide) hk1 hFc hP1 hD1
  have hK := (hK.sub (tys' := [(cA8, .object "Seattable$Big"), (cA14, .object "Seattable$Big")]) [0, 1] rfl).app hK1
  have hP : va_P (dC, dI) classes [(a, .inr (6, fs89)), (q7, .inl (cA8, 11, .inr (.inr (.inr (.inr f358))))), (q13, .inl (cA14, 11, .inr (.inr (.inr (.inr f372))))), (q373, .inr (1, fs379)), (q380, .inl (cA381, 96, .inl f382))] H := hP
  have hD : va_D A [(a, .inr (6, fs89)), (q7, .inl (cA8, 11, .inr (.inr (.inr (.inr f358))))), (q13, .inl (cA14, 11, .inr (.inr (.inr (.inr f372))))), (q373, .inr (1, fs379)), (q380, .inl (cA381, 96, .inl f382))] := hD
  have hK : va_K (dC, dI) classes [(cA8, .object "Seattable$Big"), (cA14, .object "Seattable$Big"), (cA381, .int)] s := hK
  refine W.widen (k := 55) (n := 2543) (Nat.le_of_ble_eq_true rfl) (Nat.le_of_ble_eq_true rfl) ?_
  refine va_astq (D := (dC, dI)) (ci := 1) (r := (RX1, TX1, 2)) hx hb hK hP hD hS 1 0 3 rfl rfl rfl rfl (by unfold vp_in; decide) dX8_init_110 (fun H locs hP hD hS => ?_)
  have hP : va_P (dC, dI) classes [(a, .inr (6, fs89)), (q7, .inl (cA8, 11, .inr (.inr (.inr (.inr (va_up f358 (10 : Int32).toNatClampNeg (some q373))))))), (q13, .inl (cA14, 11, .inr (.inr (.inr (.inr f372))))), (q373, .inr (1, fs379)), (q380, .inl (cA381, 96, .inl f382))] H := hP
  have hD : va_D A [(a, .inr (6, fs89)), (q7, .inl (cA8, 11, .inr (.inr (.inr (.inr (va_up f358 (10 : Int32).toNatClampNeg (some q373))))))), (q13, .inl (cA14, 11, .inr (.inr (.inr (.inr f372))))), (q373, .inr (1, fs379)), (q380, .inl (cA381, 96, .inl f382))] := hD
  obtain ⟨f386, ef386⟩ : ∃ y : Nat → Option Nat, y = (va_up f358 (10 : Int32).toNatClampNeg (some q373)) := ⟨_, rfl⟩
  rw [← ef386] at hP hD
  have hP := hP.sub (ws' := [(a, .inr (6, fs89)), (q7, .inl (cA8, 11, .inr (.inr (.inr (.inr f386))))), (q13, .inl (cA14, 11, .inr (.inr (.inr (.inr f372)))))]) [0, 1, 2] rfl
  have hD := hD.sub (ws' := [(a, .inr (6, fs89)), (q7, .inl (cA8, 11, .inr (.inr (.inr (.inr f386))))), (q13, .inl (cA14, 11, .inr (.inr (.inr (.inr f372)))))]) [0, 1, 2] (by decide) rfl
  have hK := hK.sub (tys' := [(cA8, .object "Seattable$Big"), (cA14, .object "Seattable$Big")]) [0, 1] rfl
  refine lv_aload_n hx hb dX8_init_111 rfl (lv_at hl 1 rfl) ?_
  refine va_get (D := (dC, dI)) (ci := 6) (v := .ref q13) (C := RX8) (T := TX8) (N := 15) hx hb hG iX8 hown hK hP 0 rfl rfl 7 (by decide) (hG _ m_74) (fun _ h9 => h9) hf_92 dX8_init_112 ?_
  refine lv_iload_n hx hb dX8_init_115 rfl (lv_at hl 0 rfl) ?_
  refine va_new (D := (dC, dI)) (ci := 1) (fs := (List.range 2).map (fun k => defaultValue (tyX1 k))) (C := RX1) (T := TX1) (N := 2) hx hb hG iX1 tyX1 tyX1_ok hown (hG _ m_72) (hG _ m_45) (hG _ m_46) hK hP hD hS hA rfl (fs_new 2 tyX1) (Nat.le_of_ble_eq_true rfl) (Nat.le_of_ble_eq_true rfl) dX8_init_116 (fun q387 H hP hD hS => ?_)
  have hP : va_P (dC, dI) classes [(a, .inr (6, fs89)), (q7, .inl (cA8, 11, .inr (.inr (.inr (.inr f386))))), (q13, .inl (cA14, 11, .inr (.inr (.inr (.inr f372))))), (q387, .inr (1, ((List.range 2).map (fun k => defaultValue (tyX1 k)))))] H := hP
  have hD : va_D A [(a, .inr (6, fs89)), (q7, .inl (cA8, 11, .inr (.inr (.inr (.inr f386))))), (q13, .inl (cA14, 11, .inr (.inr (.inr (.inr f372))))), (q387, .inr (1, ((List.range 2).map (fun k => defaultValue (tyX1 k)))))] := hD
  obtain ⟨fs388, efs388⟩ : ∃ y : List Value, y = (List.range 2).map (fun k => defaultValue (tyX1 k)) := ⟨_, rfl⟩
  rw [← efs388] at hP hD
  have hl_389 : fs388.length = 2 := by rw [efs388, List.length_map, List.length_range]
  have hf_390 : fs388[0]? = some (.null) := by rw [efs388]; rfl
  have hf_391 : fs388[1]? = some (.int 0) := by rw [efs388]; rfl
  refine W.widen (k := 56) (n := 2545) (Nat.le_of_ble_eq_true rfl) (Nat.le_of_ble_eq_true rfl) ?_
  refine lv_dup hx hb dX8_init_119 rfl ?_
  have hPc := hP.sub (ws' := [(q387, .inr (1, fs388))]) [3] rfl
  have hDc := hD.sub (ws' := [(q387, .inr (1, fs388))]) [3] (by decide) rfl
  have hKc := hK.sub (tys' := []) [] rfl
  have hFc := va_free (wc := [(q387, .inr (1, fs388))]) hD hS hA [3] rfl
  refine va_callv (va_runIN (As := []) (rest := [.ref q387, .int 10, .ref q13]) ⟨hx, hb, hml, hown, hG⟩ (c_Big_init l dC dI z q387 fs388 H.size hl_389 hf_391) ⟨va_cnB (host := "Seattable") 0 hG (gI m_47) rfl rfl rfl (nw_nest_1 hN) (hG _ m_46) (by decide +kernel) ⟨Nat.le_of_ble_eq_true rfl, Nat.le_of_ble_eq_true rfl⟩, rfl, (hG _ m_48)⟩ ⟨pre_blind, fun U hU hW => ⟨rfl, pre_call hU hW hPc hKc hDc hN (zkeep hZ hS) hFc⟩⟩ rfl rfl hl.1 rfl (lv_room (Nat.le_of_ble_eq_true rfl)) dX8_init_120 ⟨Nat.le_of_ble_eq_true rfl, Nat.le_of_ble_eq_true rfl⟩) hS (fun q _ h => hFc q h) hFc (fun u t H locs ht hvm hw hB hz1 hk1 hS => ?_)
  obtain ⟨fs393, q394, cA395, f396, hP1, hK1, hD1, hy397, hy398, hy399⟩ := hB
  rw [ht] at hP1
  have hK1 := va_K.moved hvm.symm hK1
  obtain ⟨hP, hD⟩ := va_join (wr := [(a, .inr (6, fs89)), (q7, .inl (cA8, 11, .inr (.inr (.inr (.inr f386))))), (q13, .inl (cA14, 11, .inr (.inr (.inr (.inr f372)))))]) (w1 := [(q387, .inr (1, fs393)), (q394, .inl (cA395, 96, .inl f396))]) hP hD [3] [0, 1, 2] rfl rfl (by decide) (by decide) hk1 hFc hP1 hD1
  have hK := (hK.sub (tys' := [(cA8, .object "Seattable$Big"), (cA14, .object "Seattable$Big")]) [0, 1] rfl).app hK1
  have hP : va_P (dC, dI) classes [(a, .inr (6, fs89)), (q7, .inl (cA8, 11, .inr (.inr (.inr (.inr f386))))), (q13, .inl (cA14, 11, .inr (.inr (.inr (.inr f372))))), (q387, .inr (1, fs393)), (q394, .inl (cA395, 96, .inl f396))] H := hP
  have hD : va_D A [(a, .inr (6, fs89)), (q7, .inl (cA8, 11, .inr (.inr (.inr (.inr f386))))), (q13, .inl (cA14, 11, .inr (.inr (.inr (.inr f372))))), (q387, .inr (1, fs393)), (q394, .inl (cA395, 96, .inl f396))] := hD
  have hK : va_K (dC, dI) classes [(cA8, .object "Seattable$Big"), (cA14, .object "Seattable$Big"), (cA395, .int)] s := hK
  refine W.widen (k := 57) (n := 2641) (Nat.le_of_ble_eq_true rfl) (Nat.le_of_ble_eq_true rfl) ?_
  refine va_astq (D := (dC, dI)) (ci := 1) (r := (RX1, TX1, 2)) hx hb hK hP hD hS 2 1 3 rfl rfl rfl rfl (by unfold vp_in; decide) dX8_init_123 (fun H locs hP hD hS => ?_)
  have hP : va_P (dC, dI) classes [(a, .inr (6, fs89)), (q7, .inl (cA8, 11, .inr (.inr (.inr (.inr f386))))), (q13, .inl (cA14, 11, .inr (.inr (.inr (.inr (va_up f372 (10 : Int32).toNatClampNeg (some q387))))))), (q387, .inr (1, fs393)), (q394, .inl (cA395, 96, .inl f396))] H := hP
  have hD : va_D A [(a, .inr (6, fs89)), (q7, .inl (cA8, 11, .inr (.inr (.inr (.inr f386))))), (q13, .inl (cA14, 11, .inr (.inr (.inr (.inr (va_up f372 (10 : Int32).toNatClampNeg (some q387))))))), (q387, .inr (1, fs393)), (q394, .inl (cA395, 96, .inl f396))] := hD
  obtain ⟨f400, ef400⟩ : ∃ y : Nat → Option Nat, y = (va_up f372 (10 : Int32).toNatClampNeg (some q387)) := ⟨_, rfl⟩
  rw [← ef400] at hP hD
  have hP := hP.sub (ws' := [(a, .inr (6, fs89)), (q7, .inl (cA8, 11, .inr (.inr (.inr (.inr f386))))), (q13, .inl (cA14, 11, .inr (.inr (.inr (.inr f400)))))]) [0, 1, 2] rfl
  have hD := hD.sub (ws' := [(a, .inr (6, fs89)), (q7, .inl (cA8, 11, .inr (.inr (.inr (.inr f386))))), (q13, .inl (cA14, 11, .inr (.inr (.inr (.inr f400)))))]) [0, 1, 2] (by decide) rfl
  have hK := hK.sub (tys' := [(cA8, .object "Seattable$Big"), (cA14, .object "Seattable$Big")]) [0, 1] rfl
  refine lv_iinc (v := 11) (lv' := [(1, .int 11), (0, .ref a)]) hx hb dX8_init_124 hl (k := 0) rfl (by decide) (by decide) rfl (fun ls hl => ?_)
  refine lv_goto (tgt := 92) hx hb dX8_init_127 (by decide) ?_
  refine lv_iload_n hx hb dX8_init_92 rfl (lv_at hl 0 rfl) ?_
  refine lv_bipush (v := 11) hx hb dX8_init_93 (by decide) ?_
  refine lv_icmp_ge (tgt := 130) hx hb dX8_init_95 (by decide) (fun _ => ?_) (fun c9 => absurd (by decide) c9)
  have hP9 := hP.sub (ws' := [(a, .inr (6, fs89))]) [0] rfl
  have hD9 := hD.sub (ws' := [(a, .inr (6, fs89))]) [0] (by decide) rfl
  have hK9 := hK.sub (tys' := []) [] rfl
  exact W.vret hx hb hr (fun t ht hW => ⟨⟨(), rfl, trivial, fs89, by rw [ht]; exact hP9, va_K.moved hW.alike hK9, hD9, hl_90⟩, hS.F ht⟩) hS.2.2 dX8_init_130

set_option maxHeartbeats 4000000 in
set_option maxRecDepth 100000 in
theorem c_Filler_init (l : Launch) (dC : Nat → ClassId) (dI : Nat → Nat → Nat) (z : Nat) (a : Nat) (fs : List Value) (sz : Nat) (hl_fs : fs.length = 10) : Met l yX3_init (Cond.code yX3_init cX3_init 1 none :: G) ({ frames := 3, cells := 72, slots := 3209, locals := 53 }) (va_Pc [.ref a] (pre_ dC dI [(a, .inr (7, fs))] [] sz z)) (va_Qv (fun _ : Unit => True) (fun _ t => ∃ (fs94 : List Value), va_P (dC, dI) classes [(a, .inr (7, fs94))] t.heap ∧ va_K (dC, dI) classes [] t ∧ va_D (va_A [(a, .inr (7, fs))] sz) [(a, .inr (7, fs94))] ∧ fs94.length = 10) (va_A [(a, .inr (7, fs))] sz)) 72 3209 (va_A [(a, .inr (7, fs))] sz) := by
  refine Met.ofW (cc := cX3_init) (maxL := 1) (ret := none) (by decide) rfl ?_
  intro p e s m args below meth c s₁ B hml hv
  obtain ⟨rfl, hv⟩ := hv
  obtain ⟨hsz, hP, hK, hD0, hN, hZ⟩ := hv
  have hx := B.exec
  have hb := B.bytes
  have hr := B.returns
  have hG : ∀ w ∈ G, w.before _ s = true := fun w h => atoms_spec (ws := Cond.code yX3_init cX3_init 1 none :: G) B.pre w (List.mem_cons_of_mem _ h)
  have hown : s.vm.findClass "Seattable$Filler" = some m.cls := findClass_of_methodNamed B.named
  have hlocks := B.notSynchronized
  have hin : meth.name = "<init>" := (name_of_methodNamed B.named B.method).1
  subst hsz
  have hD := hD0.self (sz := s.heap.size)
  generalize hAe : va_A [(a, .inr (7, fs))] s.heap.size = A at hD hZ ⊢
  have hA : ∀ q : Nat, s.heap.size ≤ q → A q := fun q h => by rw [← hAe]; exact Or.inr h
  have hS : va_S A s.heap s.heap [] := va_S.rf
  have hP : va_P (dC, dI) classes [(a, .inr (7, fs))] s.heap := hP
  have hl := lv_entry ([.ref a]) (n := 1) (Nat.le_of_ble_eq_true rfl)
  rw [lg_entry_eq]
  generalize (lg_sl ([.ref a]) ++ List.replicate (1 - (lg_sl ([.ref a])).length) Slot.unset).toArray = ls at hl ⊢
  have hl : lv_has ls 1 [(0, .ref a)] := hl
  refine lv_aload_n hx hb dX3_init_0 rfl (lv_at hl 0 rfl) ?_
  refine W.objInit hx hb hown (hG _ m_80) (hG _ m_1) (hG _ m_2) rfl (by rw [hml]; exact hl.1) rfl dX3_init_1 (Nat.le_of_ble_eq_true rfl) (Nat.le_of_ble_eq_true rfl) ?_
  refine W.eq (g2 := F0 m 4 ls []) rfl ?_
  refine lv_aload_n hx hb dX3_init_4 rfl (lv_at hl 0 rfl) ?_
  refine va_new (D := (dC, dI)) (ci := 6) (fs := (List.range 15).map (fun k => defaultValue (tyX8 k))) (C := RX8) (T := TX8) (N := 15) hx hb hG iX8 tyX8 tyX8_ok hown (hG _ m_81) (hG _ m_82) (hG _ m_83) hK hP hD hS hA rfl (fs_new 15 tyX8) (Nat.le_of_ble_eq_true rfl) (Nat.le_of_ble_eq_true rfl) dX3_init_5 (fun q1 H hP hD hS => ?_)
  have hP : va_P (dC, dI) classes [(a, .inr (7, fs)), (q1, .inr (6, ((List.range 15).map (fun k => defaultValue (tyX8 k)))))] H := hP
  have hD : va_D A [(a, .inr (7, fs)), (q1, .inr (6, ((List.range 15).map (fun k => defaultValue (tyX8 k)))))] := hD
  obtain ⟨fs2, efs2⟩ : ∃ y : List Value, y = (List.range 15).map (fun k => defaultValue (tyX8 k)) := ⟨_, rfl⟩
  rw [← efs2] at hP hD
  have hl_3 : fs2.length = 15 := by rw [efs2, List.length_map, List.length_range]
  refine W.widen (k := 1) (n := 15) (Nat.le_of_ble_eq_true rfl) (Nat.le_of_ble_eq_true rfl) ?_
  refine lv_dup hx hb dX3_init_8 rfl ?_
  have hPc := hP.sub (ws' := [(q1, .inr (6, fs2))]) [1] rfl
  have hDc := hD.sub (ws' := [(q1, .inr (6, fs2))]) [1] (by decide) rfl
  have hKc := hK.sub (tys' := []) [] rfl
  have hFc := va_free (wc := [(q1, .inr (6, fs2))]) hD hS hA [1] rfl
  refine va_callv (va_runI (As := []) (rest := [.ref q1, .ref a]) ⟨hx, hb, hml, hown, hG⟩ (c_Paths_init l dC dI z q1 fs2 H.size hl_3) (cwI 0 hG (gI m_84) rfl rfl rfl (hG _ m_83) (hG _ m_85) (hG _ m_86) rfl (by decide +kernel) ⟨Nat.le_of_ble_eq_true rfl, Nat.le_of_ble_eq_true rfl⟩) ⟨pre_blind, fun U hU hW => ⟨rfl, pre_call hU hW hPc hKc hDc hN (zkeep hZ hS) hFc⟩⟩ rfl rfl hl.1 rfl (lv_room (Nat.le_of_ble_eq_true rfl)) dX3_init_9 ⟨Nat.le_of_ble_eq_true rfl, Nat.le_of_ble_eq_true rfl⟩) hS (fun q _ h => hFc q h) hFc (fun u t H locs ht hvm hw hB hz1 hk1 hS => ?_)
  obtain ⟨fs5, hP1, hK1, hD1, hy6⟩ := hB
  rw [ht] at hP1
  have hK1 := va_K.moved hvm.symm hK1
  obtain ⟨hP, hD⟩ := va_join (wr := [(a, .inr (7, fs))]) (w1 := [(q1, .inr (6, fs5))]) hP hD [1] [0] rfl rfl (by decide) (by decide) hk1 hFc hP1 hD1
  have hK := (hK.sub (tys' := []) [] rfl).app hK1
  have hP : va_P (dC, dI) classes [(a, .inr (7, fs)), (q1, .inr (6, fs5))] H := hP
  have hD : va_D A [(a, .inr (7, fs)), (q1, .inr (6, fs5))] := hD
  have hK : va_K (dC, dI) classes [] s := hK
  refine W.widen (k := 58) (n := 2656) (Nat.le_of_ble_eq_true rfl) (Nat.le_of_ble_eq_true rfl) ?_
  refine va_putF (D := (dC, dI)) (ci := 7) (v := .ref q1) (ty := .object "Seattable$Paths") (C := RX3) (T := TX3) (N := 10) hx hb hG iX3 tyX3 tyX3_ok nmX3 hown hK hP hD hS 0 rfl rfl 0 (by decide) (hG _ m_87) (fun _ h9 => h9) rfl hin rfl (by decide +kernel) rfl rfl (by rw [hl_fs]; decide) dX3_init_12 (fun H locs hP hD hS => ?_)
  have hP : va_P (dC, dI) classes [(a, .inr (7, (fs.set 0 (.ref q1)))), (q1, .inr (6, fs5))] H := hP
  have hD : va_D A [(a, .inr (7, (fs.set 0 (.ref q1)))), (q1, .inr (6, fs5))] := hD
  obtain ⟨fs7, efs7⟩ : ∃ y : List Value, y = fs.set 0 (.ref q1) := ⟨_, rfl⟩
  rw [← efs7] at hP hD
  have hl_8 : fs7.length = 10 := by rw [efs7, List.length_set]; exact hl_fs
  have hP := hP.sub (ws' := [(a, .inr (7, fs7))]) [0] rfl
  have hD := hD.sub (ws' := [(a, .inr (7, fs7))]) [0] (by decide) rfl
  have hK := hK.sub (tys' := []) [] rfl
  refine lv_aload_n hx hb dX3_init_15 rfl (lv_at hl 0 rfl) ?_
  refine lv_bipush (v := 11) hx hb dX3_init_16 (by decide) ?_
  refine nf_newa (D := (dC, dI)) (atype := .int) (N' := 11) hx hb (hG _ m_16) hP hS (by decide) (by decide) (Nat.le_of_ble_eq_true rfl) (Nat.le_of_ble_eq_true rfl) (Nat.le_of_ble_eq_true rfl) dX3_init_18 (fun q9 H hP hS hz9 => ?_)
  refine W.widen (k := 59) (n := 2667) (Nat.le_of_ble_eq_true rfl) (Nat.le_of_ble_eq_true rfl) ?_
  refine va_putF (D := (dC, dI)) (ci := 7) (v := .ref q9) (ty := .array .int) (C := RX3) (T := TX3) (N := 10) hx hb hG iX3 tyX3 tyX3_ok nmX3 hown hK hP hD hS 0 rfl rfl 1 (by decide) (hG _ m_88) (fun _ h9 => h9) rfl hin rfl (by decide +kernel) rfl rfl (by rw [hl_8]; decide) dX3_init_20 (fun H locs hP hD hS => ?_)
  have hP : va_P (dC, dI) classes [(a, .inr (7, (fs7.set 1 (.ref q9))))] H := hP
  have hD : va_D A [(a, .inr (7, (fs7.set 1 (.ref q9))))] := hD
  obtain ⟨fs10, efs10⟩ : ∃ y : List Value, y = fs7.set 1 (.ref q9) := ⟨_, rfl⟩
  rw [← efs10] at hP hD
  have hl_11 : fs10.length = 10 := by rw [efs10, List.length_set]; exact hl_8
  refine lv_aload_n hx hb dX3_init_23 rfl (lv_at hl 0 rfl) ?_
  refine lv_bipush (v := 30) hx hb dX3_init_24 (by decide) ?_
  refine nf_newa (D := (dC, dI)) (atype := .int) (N' := 30) hx hb (hG _ m_16) hP hS (by decide) (by decide) (Nat.le_of_ble_eq_true rfl) (Nat.le_of_ble_eq_true rfl) (Nat.le_of_ble_eq_true rfl) dX3_init_26 (fun q12 H hP hS hz9 => ?_)
  refine W.widen (k := 60) (n := 2697) (Nat.le_of_ble_eq_true rfl) (Nat.le_of_ble_eq_true rfl) ?_
  refine va_putF (D := (dC, dI)) (ci := 7) (v := .ref q12) (ty := .array .int) (C := RX3) (T := TX3) (N := 10) hx hb hG iX3 tyX3 tyX3_ok nmX3 hown hK hP hD hS 0 rfl rfl 2 (by decide) (hG _ m_89) (fun _ h9 => h9) rfl hin rfl (by decide +kernel) rfl rfl (by rw [hl_11]; decide) dX3_init_28 (fun H locs hP hD hS => ?_)
  have hP : va_P (dC, dI) classes [(a, .inr (7, (fs10.set 2 (.ref q12))))] H := hP
  have hD : va_D A [(a, .inr (7, (fs10.set 2 (.ref q12))))] := hD
  obtain ⟨fs13, efs13⟩ : ∃ y : List Value, y = fs10.set 2 (.ref q12) := ⟨_, rfl⟩
  rw [← efs13] at hP hD
  have hl_14 : fs13.length = 10 := by rw [efs13, List.length_set]; exact hl_11
  refine lv_aload_n hx hb dX3_init_31 rfl (lv_at hl 0 rfl) ?_
  refine lv_bipush (v := 11) hx hb dX3_init_32 (by decide) ?_
  refine nf_newa (D := (dC, dI)) (atype := .int) (N' := 11) hx hb (hG _ m_16) hP hS (by decide) (by decide) (Nat.le_of_ble_eq_true rfl) (Nat.le_of_ble_eq_true rfl) (Nat.le_of_ble_eq_true rfl) dX3_init_34 (fun q15 H hP hS hz9 => ?_)
  refine W.widen (k := 61) (n := 2708) (Nat.le_of_ble_eq_true rfl) (Nat.le_of_ble_eq_true rfl) ?_
  refine va_putF (D := (dC, dI)) (ci := 7) (v := .ref q15) (ty := .array .int) (C := RX3) (T := TX3) (N := 10) hx hb hG iX3 tyX3 tyX3_ok nmX3 hown hK hP hD hS 0 rfl rfl 3 (by decide) (hG _ m_90) (fun _ h9 => h9) rfl hin rfl (by decide +kernel) rfl rfl (by rw [hl_14]; decide) dX3_init_36 (fun H locs hP hD hS => ?_)
  have hP : va_P (dC, dI) classes [(a, .inr (7, (fs13.set 3 (.ref q15))))] H := hP
  have hD : va_D A [(a, .inr (7, (fs13.set 3 (.ref q15))))] := hD
  obtain ⟨fs16, efs16⟩ : ∃ y : List Value, y = fs13.set 3 (.ref q15) := ⟨_, rfl⟩
  rw [← efs16] at hP hD
  have hl_17 : fs16.length = 10 := by rw [efs16, List.length_set]; exact hl_14
  refine lv_aload_n hx hb dX3_init_39 rfl (lv_at hl 0 rfl) ?_
  refine lv_bipush (v := 11) hx hb dX3_init_40 (by decide) ?_
  refine nf_newa (D := (dC, dI)) (atype := .int) (N' := 11) hx hb (hG _ m_16) hP hS (by decide) (by decide) (Nat.le_of_ble_eq_true rfl) (Nat.le_of_ble_eq_true rfl) (Nat.le_of_ble_eq_true rfl) dX3_init_42 (fun q18 H hP hS hz9 => ?_)
  refine W.widen (k := 62) (n := 2719) (Nat.le_of_ble_eq_true rfl) (Nat.le_of_ble_eq_true rfl) ?_
  refine va_putF (D := (dC, dI)) (ci := 7) (v := .ref q18) (ty := .array .int) (C := RX3) (T := TX3) (N := 10) hx hb hG iX3 tyX3 tyX3_ok nmX3 hown hK hP hD hS 0 rfl rfl 4 (by decide) (hG _ m_91) (fun _ h9 => h9) rfl hin rfl (by decide +kernel) rfl rfl (by rw [hl_17]; decide) dX3_init_44 (fun H locs hP hD hS => ?_)
  have hP : va_P (dC, dI) classes [(a, .inr (7, (fs16.set 4 (.ref q18))))] H := hP
  have hD : va_D A [(a, .inr (7, (fs16.set 4 (.ref q18))))] := hD
  obtain ⟨fs19, efs19⟩ : ∃ y : List Value, y = fs16.set 4 (.ref q18) := ⟨_, rfl⟩
  rw [← efs19] at hP hD
  have hl_20 : fs19.length = 10 := by rw [efs19, List.length_set]; exact hl_17
  refine lv_aload_n hx hb dX3_init_47 rfl (lv_at hl 0 rfl) ?_
  refine va_new (D := (dC, dI)) (ci := 1) (fs := (List.range 2).map (fun k => defaultValue (tyX1 k))) (C := RX1) (T := TX1) (N := 2) hx hb hG iX1 tyX1 tyX1_ok hown (hG _ m_92) (hG _ m_45) (hG _ m_46) hK hP hD hS hA rfl (fs_new 2 tyX1) (Nat.le_of_ble_eq_true rfl) (Nat.le_of_ble_eq_true rfl) dX3_init_48 (fun q21 H hP hD hS => ?_)
  have hP : va_P (dC, dI) classes [(a, .inr (7, fs19)), (q21, .inr (1, ((List.range 2).map (fun k => defaultValue (tyX1 k)))))] H := hP
  have hD : va_D A [(a, .inr (7, fs19)), (q21, .inr (1, ((List.range 2).map (fun k => defaultValue (tyX1 k)))))] := hD
  obtain ⟨fs22, efs22⟩ : ∃ y : List Value, y = (List.range 2).map (fun k => defaultValue (tyX1 k)) := ⟨_, rfl⟩
  rw [← efs22] at hP hD
  have hl_23 : fs22.length = 2 := by rw [efs22, List.length_map, List.length_range]
  have hf_24 : fs22[0]? = some (.null) := by rw [efs22]; rfl
  have hf_25 : fs22[1]? = some (.int 0) := by rw [efs22]; rfl
  refine W.widen (k := 63) (n := 2721) (Nat.le_of_ble_eq_true rfl) (Nat.le_of_ble_eq_true rfl) ?_
  refine lv_dup hx hb dX3_init_51 rfl ?_
  have hPc := hP.sub (ws' := [(q21, .inr (1, fs22))]) [1] rfl
  have hDc := hD.sub (ws' := [(q21, .inr (1, fs22))]) [1] (by decide) rfl
  have hKc := hK.sub (tys' := []) [] rfl
  have hFc := va_free (wc := [(q21, .inr (1, fs22))]) hD hS hA [1] rfl
  refine va_callv (va_runIN (As := []) (rest := [.ref q21, .ref a]) ⟨hx, hb, hml, hown, hG⟩ (c_Big_init l dC dI z q21 fs22 H.size hl_23 hf_25) ⟨va_cnB (host := "Seattable") 0 hG (gI m_47) rfl rfl rfl (nw_nest_2 hN) (hG _ m_46) (by decide +kernel) ⟨Nat.le_of_ble_eq_true rfl, Nat.le_of_ble_eq_true rfl⟩, rfl, (hG _ m_48)⟩ ⟨pre_blind, fun U hU hW => ⟨rfl, pre_call hU hW hPc hKc hDc hN (zkeep hZ hS) hFc⟩⟩ rfl rfl hl.1 rfl (lv_room (Nat.le_of_ble_eq_true rfl)) dX3_init_52 ⟨Nat.le_of_ble_eq_true rfl, Nat.le_of_ble_eq_true rfl⟩) hS (fun q _ h => hFc q h) hFc (fun u t H locs ht hvm hw hB hz1 hk1 hS => ?_)
  obtain ⟨fs27, q28, cA29, f30, hP1, hK1, hD1, hy31, hy32, hy33⟩ := hB
  rw [ht] at hP1
  have hK1 := va_K.moved hvm.symm hK1
  obtain ⟨hP, hD⟩ := va_join (wr := [(a, .inr (7, fs19))]) (w1 := [(q21, .inr (1, fs27)), (q28, .inl (cA29, 96, .inl f30))]) hP hD [1] [0] rfl rfl (by decide) (by decide) hk1 hFc hP1 hD1
  have hK := (hK.sub (tys' := []) [] rfl).app hK1
  have hP : va_P (dC, dI) classes [(a, .inr (7, fs19)), (q21, .inr (1, fs27)), (q28, .inl (cA29, 96, .inl f30))] H := hP
  have hD : va_D A [(a, .inr (7, fs19)), (q21, .inr (1, fs27)), (q28, .inl (cA29, 96, .inl f30))] := hD
  have hK : va_K (dC, dI) classes [(cA29, .int)] s := hK
  refine W.widen (k := 64) (n := 2817) (Nat.le_of_ble_eq_true rfl) (Nat.le_of_ble_eq_true rfl) ?_
  refine va_putF (D := (dC, dI)) (ci := 7) (v := .ref q21) (ty := .object "Seattable$Big") (C := RX3) (T := TX3) (N := 10) hx hb hG iX3 tyX3 tyX3_ok nmX3 hown hK hP hD hS 0 rfl rfl 5 (by decide) (hG _ m_93) (fun _ h9 => h9) rfl hin rfl (by decide +kernel) rfl rfl (by rw [hl_20]; decide) dX3_init_55 (fun H locs hP hD hS => ?_)
  have hP : va_P (dC, dI) classes [(a, .inr (7, (fs19.set 5 (.ref q21)))), (q21, .inr (1, fs27)), (q28, .inl (cA29, 96, .inl f30))] H := hP
  have hD : va_D A [(a, .inr (7, (fs19.set 5 (.ref q21)))), (q21, .inr (1, fs27)), (q28, .inl (cA29, 96, .inl f30))] := hD
  obtain ⟨fs34, efs34⟩ : ∃ y : List Value, y = fs19.set 5 (.ref q21) := ⟨_, rfl⟩
  rw [← efs34] at hP hD
  have hl_35 : fs34.length = 10 := by rw [efs34, List.length_set]; exact hl_20
  have hP := hP.sub (ws' := [(a, .inr (7, fs34))]) [0] rfl
  have hD := hD.sub (ws' := [(a, .inr (7, fs34))]) [0] (by decide) rfl
  have hK := hK.sub (tys' := []) [] rfl
  refine lv_aload_n hx hb dX3_init_58 rfl (lv_at hl 0 rfl) ?_
  refine va_new (D := (dC, dI)) (ci := 1) (fs := (List.range 2).map (fun k => defaultValue (tyX1 k))) (C := RX1) (T := TX1) (N := 2) hx hb hG iX1 tyX1 tyX1_ok hown (hG _ m_92) (hG _ m_45) (hG _ m_46) hK hP hD hS hA rfl (fs_new 2 tyX1) (Nat.le_of_ble_eq_true rfl) (Nat.le_of_ble_eq_true rfl) dX3_init_59 (fun q36 H hP hD hS => ?_)
  have hP : va_P (dC, dI) classes [(a, .inr (7, fs34)), (q36, .inr (1, ((List.range 2).map (fun k => defaultValue (tyX1 k)))))] H := hP
  have hD : va_D A [(a, .inr (7, fs34)), (q36, .inr (1, ((List.range 2).map (fun k => defaultValue (tyX1 k)))))] := hD
  obtain ⟨fs37, efs37⟩ : ∃ y : List Value, y = (List.range 2).map (fun k => defaultValue (tyX1 k)) := ⟨_, rfl⟩
  rw [← efs37] at hP hD
  have hl_38 : fs37.length = 2 := by rw [efs37, List.length_map, List.length_range]
  have hf_39 : fs37[0]? = some (.null) := by rw [efs37]; rfl
  have hf_40 : fs37[1]? = some (.int 0) := by rw [efs37]; rfl
  refine W.widen (k := 65) (n := 2819) (Nat.le_of_ble_eq_true rfl) (Nat.le_of_ble_eq_true rfl) ?_
  refine lv_dup hx hb dX3_init_62 rfl ?_
  have hPc := hP.sub (ws' := [(q36, .inr (1, fs37))]) [1] rfl
  have hDc := hD.sub (ws' := [(q36, .inr (1, fs37))]) [1] (by decide) rfl
  have hKc := hK.sub (tys' := []) [] rfl
  have hFc := va_free (wc := [(q36, .inr (1, fs37))]) hD hS hA [1] rfl
  refine va_callv (va_runIN (As := []) (rest := [.ref q36, .ref a]) ⟨hx, hb, hml, hown, hG⟩ (c_Big_init l dC dI z q36 fs37 H.size hl_38 hf_40) ⟨va_cnB (host := "Seattable") 0 hG (gI m_47) rfl rfl rfl (nw_nest_2 hN) (hG _ m_46) (by decide +kernel) ⟨Nat.le_of_ble_eq_true rfl, Nat.le_of_ble_eq_true rfl⟩, rfl, (hG _ m_48)⟩ ⟨pre_blind, fun U hU hW => ⟨rfl, pre_call hU hW hPc hKc hDc hN (zkeep hZ hS) hFc⟩⟩ rfl rfl hl.1 rfl (lv_room (Nat.le_of_ble_eq_true rfl)) dX3_init_63 ⟨Nat.le_of_ble_eq_true rfl, Nat.le_of_ble_eq_true rfl⟩) hS (fun q _ h => hFc q h) hFc (fun u t H locs ht hvm hw hB hz1 hk1 hS => ?_)
  obtain ⟨fs42, q43, cA44, f45, hP1, hK1, hD1, hy46, hy47, hy48⟩ := hB
  rw [ht] at hP1
  have hK1 := va_K.moved hvm.symm hK1
  obtain ⟨hP, hD⟩ := va_join (wr := [(a, .inr (7, fs34))]) (w1 := [(q36, .inr (1, fs42)), (q43, .inl (cA44, 96, .inl f45))]) hP hD [1] [0] rfl rfl (by decide) (by decide) hk1 hFc hP1 hD1
  have hK := (hK.sub (tys' := []) [] rfl).app hK1
  have hP : va_P (dC, dI) classes [(a, .inr (7, fs34)), (q36, .inr (1, fs42)), (q43, .inl (cA44, 96, .inl f45))] H := hP
  have hD : va_D A [(a, .inr (7, fs34)), (q36, .inr (1, fs42)), (q43, .inl (cA44, 96, .inl f45))] := hD
  have hK : va_K (dC, dI) classes [(cA44, .int)] s := hK
  refine W.widen (k := 66) (n := 2915) (Nat.le_of_ble_eq_true rfl) (Nat.le_of_ble_eq_true rfl) ?_
  refine va_putF (D := (dC, dI)) (ci := 7) (v := .ref q36) (ty := .object "Seattable$Big") (C := RX3) (T := TX3) (N := 10) hx hb hG iX3 tyX3 tyX3_ok nmX3 hown hK hP hD hS 0 rfl rfl 6 (by decide) (hG _ m_94) (fun _ h9 => h9) rfl hin rfl (by decide +kernel) rfl rfl (by rw [hl_35]; decide) dX3_init_66 (fun H locs hP hD hS => ?_)
  have hP : va_P (dC, dI) classes [(a, .inr (7, (fs34.set 6 (.ref q36)))), (q36, .inr (1, fs42)), (q43, .inl (cA44, 96, .inl f45))] H := hP
  have hD : va_D A [(a, .inr (7, (fs34.set 6 (.ref q36)))), (q36, .inr (1, fs42)), (q43, .inl (cA44, 96, .inl f45))] := hD
  obtain ⟨fs49, efs49⟩ : ∃ y : List Value, y = fs34.set 6 (.ref q36) := ⟨_, rfl⟩
  rw [← efs49] at hP hD
  have hl_50 : fs49.length = 10 := by rw [efs49, List.length_set]; exact hl_35
  have hP := hP.sub (ws' := [(a, .inr (7, fs49))]) [0] rfl
  have hD := hD.sub (ws' := [(a, .inr (7, fs49))]) [0] (by decide) rfl
  have hK := hK.sub (tys' := []) [] rfl
  refine lv_aload_n hx hb dX3_init_69 rfl (lv_at hl 0 rfl) ?_
  refine va_new (D := (dC, dI)) (ci := 1) (fs := (List.range 2).map (fun k => defaultValue (tyX1 k))) (C := RX1) (T := TX1) (N := 2) hx hb hG iX1 tyX1 tyX1_ok hown (hG _ m_92) (hG _ m_45) (hG _ m_46) hK hP hD hS hA rfl (fs_new 2 tyX1) (Nat.le_of_ble_eq_true rfl) (Nat.le_of_ble_eq_true rfl) dX3_init_70 (fun q51 H hP hD hS => ?_)
  have hP : va_P (dC, dI) classes [(a, .inr (7, fs49)), (q51, .inr (1, ((List.range 2).map (fun k => defaultValue (tyX1 k)))))] H := hP
  have hD : va_D A [(a, .inr (7, fs49)), (q51, .inr (1, ((List.range 2).map (fun k => defaultValue (tyX1 k)))))] := hD
  obtain ⟨fs52, efs52⟩ : ∃ y : List Value, y = (List.range 2).map (fun k => defaultValue (tyX1 k)) := ⟨_, rfl⟩
  rw [← efs52] at hP hD
  have hl_53 : fs52.length = 2 := by rw [efs52, List.length_map, List.length_range]
  have hf_54 : fs52[0]? = some (.null) := by rw [efs52]; rfl
  have hf_55 : fs52[1]? = some (.int 0) := by rw [efs52]; rfl
  refine W.widen (k := 67) (n := 2917) (Nat.le_of_ble_eq_true rfl) (Nat.le_of_ble_eq_true rfl) ?_
  refine lv_dup hx hb dX3_init_73 rfl ?_
  have hPc := hP.sub (ws' := [(q51, .inr (1, fs52))]) [1] rfl
  have hDc := hD.sub (ws' := [(q51, .inr (1, fs52))]) [1] (by decide) rfl
  have hKc := hK.sub (tys' := []) [] rfl
  have hFc := va_free (wc := [(q51, .inr (1, fs52))]) hD hS hA [1] rfl
  refine va_callv (va_runIN (As := []) (rest := [.ref q51, .ref a]) ⟨hx, hb, hml, hown, hG⟩ (c_Big_init l dC dI z q51 fs52 H.size hl_53 hf_55) ⟨va_cnB (host := "Seattable") 0 hG (gI m_47) rfl rfl rfl (nw_nest_2 hN) (hG _ m_46) (by decide +kernel) ⟨Nat.le_of_ble_eq_true rfl, Nat.le_of_ble_eq_true rfl⟩, rfl, (hG _ m_48)⟩ ⟨pre_blind, fun U hU hW => ⟨rfl, pre_call hU hW hPc hKc hDc hN (zkeep hZ hS) hFc⟩⟩ rfl rfl hl.1 rfl (lv_room (Nat.le_of_ble_eq_true rfl)) dX3_init_74 ⟨Nat.le_of_ble_eq_true rfl, Nat.le_of_ble_eq_true rfl⟩) hS (fun q _ h => hFc q h) hFc (fun u t H locs ht hvm hw hB hz1 hk1 hS => ?_)
  obtain ⟨fs57, q58, cA59, f60, hP1, hK1, hD1, hy61, hy62, hy63⟩ := hB
  rw [ht] at hP1
  have hK1 := va_K.moved hvm.symm hK1
  obtain ⟨hP, hD⟩ := va_join (wr := [(a, .inr (7, fs49))]) (w1 := [(q51, .inr (1, fs57)), (q58, .inl (cA59, 96, .inl f60))]) hP hD [1] [0] rfl rfl (by decide) (by decide) hk1 hFc hP1 hD1
  have hK := (hK.sub (tys' := []) [] rfl).app hK1
  have hP : va_P (dC, dI) classes [(a, .inr (7, fs49)), (q51, .inr (1, fs57)), (q58, .inl (cA59, 96, .inl f60))] H := hP
  have hD : va_D A [(a, .inr (7, fs49)), (q51, .inr (1, fs57)), (q58, .inl (cA59, 96, .inl f60))] := hD
  have hK : va_K (dC, dI) classes [(cA59, .int)] s := hK
  refine W.widen (k := 68) (n := 3013) (Nat.le_of_ble_eq_true rfl) (Nat.le_of_ble_eq_true rfl) ?_
  refine va_putF (D := (dC, dI)) (ci := 7) (v := .ref q51) (ty := .object "Seattable$Big") (C := RX3) (T := TX3) (N := 10) hx hb hG iX3 tyX3 tyX3_ok nmX3 hown hK hP hD hS 0 rfl rfl 7 (by decide) (hG _ m_95) (fun _ h9 => h9) rfl hin rfl (by decide +kernel) rfl rfl (by rw [hl_50]; decide) dX3_init_77 (fun H locs hP hD hS => ?_)
  have hP : va_P (dC, dI) classes [(a, .inr (7, (fs49.set 7 (.ref q51)))), (q51, .inr (1, fs57)), (q58, .inl (cA59, 96, .inl f60))] H := hP
  have hD : va_D A [(a, .inr (7, (fs49.set 7 (.ref q51)))), (q51, .inr (1, fs57)), (q58, .inl (cA59, 96, .inl f60))] := hD
  obtain ⟨fs64, efs64⟩ : ∃ y : List Value, y = fs49.set 7 (.ref q51) := ⟨_, rfl⟩
  rw [← efs64] at hP hD
  have hl_65 : fs64.length = 10 := by rw [efs64, List.length_set]; exact hl_50
  have hP := hP.sub (ws' := [(a, .inr (7, fs64))]) [0] rfl
  have hD := hD.sub (ws' := [(a, .inr (7, fs64))]) [0] (by decide) rfl
  have hK := hK.sub (tys' := []) [] rfl
  refine lv_aload_n hx hb dX3_init_80 rfl (lv_at hl 0 rfl) ?_
  refine va_new (D := (dC, dI)) (ci := 1) (fs := (List.range 2).map (fun k => defaultValue (tyX1 k))) (C := RX1) (T := TX1) (N := 2) hx hb hG iX1 tyX1 tyX1_ok hown (hG _ m_92) (hG _ m_45) (hG _ m_46) hK hP hD hS hA rfl (fs_new 2 tyX1) (Nat.le_of_ble_eq_true rfl) (Nat.le_of_ble_eq_true rfl) dX3_init_81 (fun q66 H hP hD hS => ?_)
  have hP : va_P (dC, dI) classes [(a, .inr (7, fs64)), (q66, .inr (1, ((List.range 2).map (fun k => defaultValue (tyX1 k)))))] H := hP
  have hD : va_D A [(a, .inr (7, fs64)), (q66, .inr (1, ((List.range 2).map (fun k => defaultValue (tyX1 k)))))] := hD
  obtain ⟨fs67, efs67⟩ : ∃ y : List Value, y = (List.range 2).map (fun k => defaultValue (tyX1 k)) := ⟨_, rfl⟩
  rw [← efs67] at hP hD
  have hl_68 : fs67.length = 2 := by rw [efs67, List.length_map, List.length_range]
  have hf_69 : fs67[0]? = some (.null) := by rw [efs67]; rfl
  have hf_70 : fs67[1]? = some (.int 0) := by rw [efs67]; rfl
  refine W.widen (k := 69) (n := 3015) (Nat.le_of_ble_eq_true rfl) (Nat.le_of_ble_eq_true rfl) ?_
  refine lv_dup hx hb dX3_init_84 rfl ?_
  have hPc := hP.sub (ws' := [(q66, .inr (1, fs67))]) [1] rfl
  have hDc := hD.sub (ws' := [(q66, .inr (1, fs67))]) [1] (by decide) rfl
  have hKc := hK.sub (tys' := []) [] rfl
  have hFc := va_free (wc := [(q66, .inr (1, fs67))]) hD hS hA [1] rfl
  refine va_callv (va_runIN (As := []) (rest := [.ref q66, .ref a]) ⟨hx, hb, hml, hown, hG⟩ (c_Big_init l dC dI z q66 fs67 H.size hl_68 hf_70) ⟨va_cnB (host := "Seattable") 0 hG (gI m_47) rfl rfl rfl (nw_nest_2 hN) (hG _ m_46) (by decide +kernel) ⟨Nat.le_of_ble_eq_true rfl, Nat.le_of_ble_eq_true rfl⟩, rfl, (hG _ m_48)⟩ ⟨pre_blind, fun U hU hW => ⟨rfl, pre_call hU hW hPc hKc hDc hN (zkeep hZ hS) hFc⟩⟩ rfl rfl hl.1 rfl (lv_room (Nat.le_of_ble_eq_true rfl)) dX3_init_85 ⟨Nat.le_of_ble_eq_true rfl, Nat.le_of_ble_eq_true rfl⟩) hS (fun q _ h => hFc q h) hFc (fun u t H locs ht hvm hw hB hz1 hk1 hS => ?_)
  obtain ⟨fs72, q73, cA74, f75, hP1, hK1, hD1, hy76, hy77, hy78⟩ := hB
  rw [ht] at hP1
  have hK1 := va_K.moved hvm.symm hK1
  obtain ⟨hP, hD⟩ := va_join (wr := [(a, .inr (7, fs64))]) (w1 := [(q66, .inr (1, fs72)), (q73, .inl (cA74, 96, .inl f75))]) hP hD [1] [0] rfl rfl (by decide) (by decide) hk1 hFc hP1 hD1
  have hK := (hK.sub (tys' := []) [] rfl).app hK1
  have hP : va_P (dC, dI) classes [(a, .inr (7, fs64)), (q66, .inr (1, fs72)), (q73, .inl (cA74, 96, .inl f75))] H := hP
  have hD : va_D A [(a, .inr (7, fs64)), (q66, .inr (1, fs72)), (q73, .inl (cA74, 96, .inl f75))] := hD
  have hK : va_K (dC, dI) classes [(cA74, .int)] s := hK
  refine W.widen (k := 70) (n := 3111) (Nat.le_of_ble_eq_true rfl) (Nat.le_of_ble_eq_true rfl) ?_
  refine va_putF (D := (dC, dI)) (ci := 7) (v := .ref q66) (ty := .object "Seattable$Big") (C := RX3) (T := TX3) (N := 10) hx hb hG iX3 tyX3 tyX3_ok nmX3 hown hK hP hD hS 0 rfl rfl 8 (by decide) (hG _ m_96) (fun _ h9 => h9) rfl hin rfl (by decide +kernel) rfl rfl (by rw [hl_65]; decide) dX3_init_88 (fun H locs hP hD hS => ?_)
  have hP : va_P (dC, dI) classes [(a, .inr (7, (fs64.set 8 (.ref q66)))), (q66, .inr (1, fs72)), (q73, .inl (cA74, 96, .inl f75))] H := hP
  have hD : va_D A [(a, .inr (7, (fs64.set 8 (.ref q66)))), (q66, .inr (1, fs72)), (q73, .inl (cA74, 96, .inl f75))] := hD
  obtain ⟨fs79, efs79⟩ : ∃ y : List Value, y = fs64.set 8 (.ref q66) := ⟨_, rfl⟩
  rw [← efs79] at hP hD
  have hl_80 : fs79.length = 10 := by rw [efs79, List.length_set]; exact hl_65
  have hP := hP.sub (ws' := [(a, .inr (7, fs79))]) [0] rfl
  have hD := hD.sub (ws' := [(a, .inr (7, fs79))]) [0] (by decide) rfl
  have hK := hK.sub (tys' := []) [] rfl
  refine lv_aload_n hx hb dX3_init_91 rfl (lv_at hl 0 rfl) ?_
  refine va_new (D := (dC, dI)) (ci := 1) (fs := (List.range 2).map (fun k => defaultValue (tyX1 k))) (C := RX1) (T := TX1) (N := 2) hx hb hG iX1 tyX1 tyX1_ok hown (hG _ m_92) (hG _ m_45) (hG _ m_46) hK hP hD hS hA rfl (fs_new 2 tyX1) (Nat.le_of_ble_eq_true rfl) (Nat.le_of_ble_eq_true rfl) dX3_init_92 (fun q81 H hP hD hS => ?_)
  have hP : va_P (dC, dI) classes [(a, .inr (7, fs79)), (q81, .inr (1, ((List.range 2).map (fun k => defaultValue (tyX1 k)))))] H := hP
  have hD : va_D A [(a, .inr (7, fs79)), (q81, .inr (1, ((List.range 2).map (fun k => defaultValue (tyX1 k)))))] := hD
  obtain ⟨fs82, efs82⟩ : ∃ y : List Value, y = (List.range 2).map (fun k => defaultValue (tyX1 k)) := ⟨_, rfl⟩
  rw [← efs82] at hP hD
  have hl_83 : fs82.length = 2 := by rw [efs82, List.length_map, List.length_range]
  have hf_84 : fs82[0]? = some (.null) := by rw [efs82]; rfl
  have hf_85 : fs82[1]? = some (.int 0) := by rw [efs82]; rfl
  refine W.widen (k := 71) (n := 3113) (Nat.le_of_ble_eq_true rfl) (Nat.le_of_ble_eq_true rfl) ?_
  refine lv_dup hx hb dX3_init_95 rfl ?_
  have hPc := hP.sub (ws' := [(q81, .inr (1, fs82))]) [1] rfl
  have hDc := hD.sub (ws' := [(q81, .inr (1, fs82))]) [1] (by decide) rfl
  have hKc := hK.sub (tys' := []) [] rfl
  have hFc := va_free (wc := [(q81, .inr (1, fs82))]) hD hS hA [1] rfl
  refine va_callv (va_runIN (As := []) (rest := [.ref q81, .ref a]) ⟨hx, hb, hml, hown, hG⟩ (c_Big_init l dC dI z q81 fs82 H.size hl_83 hf_85) ⟨va_cnB (host := "Seattable") 0 hG (gI m_47) rfl rfl rfl (nw_nest_2 hN) (hG _ m_46) (by decide +kernel) ⟨Nat.le_of_ble_eq_true rfl, Nat.le_of_ble_eq_true rfl⟩, rfl, (hG _ m_48)⟩ ⟨pre_blind, fun U hU hW => ⟨rfl, pre_call hU hW hPc hKc hDc hN (zkeep hZ hS) hFc⟩⟩ rfl rfl hl.1 rfl (lv_room (Nat.le_of_ble_eq_true rfl)) dX3_init_96 ⟨Nat.le_of_ble_eq_true rfl, Nat.le_of_ble_eq_true rfl⟩) hS (fun q _ h => hFc q h) hFc (fun u t H locs ht hvm hw hB hz1 hk1 hS => ?_)
  obtain ⟨fs87, q88, cA89, f90, hP1, hK1, hD1, hy91, hy92, hy93⟩ := hB
  rw [ht] at hP1
  have hK1 := va_K.moved hvm.symm hK1
  obtain ⟨hP, hD⟩ := va_join (wr := [(a, .inr (7, fs79))]) (w1 := [(q81, .inr (1, fs87)), (q88, .inl (cA89, 96, .inl f90))]) hP hD [1] [0] rfl rfl (by decide) (by decide) hk1 hFc hP1 hD1
  have hK := (hK.sub (tys' := []) [] rfl).app hK1
  have hP : va_P (dC, dI) classes [(a, .inr (7, fs79)), (q81, .inr (1, fs87)), (q88, .inl (cA89, 96, .inl f90))] H := hP
  have hD : va_D A [(a, .inr (7, fs79)), (q81, .inr (1, fs87)), (q88, .inl (cA89, 96, .inl f90))] := hD
  have hK : va_K (dC, dI) classes [(cA89, .int)] s := hK
  refine W.widen (k := 72) (n := 3209) (Nat.le_of_ble_eq_true rfl) (Nat.le_of_ble_eq_true rfl) ?_
  refine va_putF (D := (dC, dI)) (ci := 7) (v := .ref q81) (ty := .object "Seattable$Big") (C := RX3) (T := TX3) (N := 10) hx hb hG iX3 tyX3 tyX3_ok nmX3 hown hK hP hD hS 0 rfl rfl 9 (by decide) (hG _ m_97) (fun _ h9 => h9) rfl hin rfl (by decide +kernel) rfl rfl (by rw [hl_80]; decide) dX3_init_99 (fun H locs hP hD hS => ?_)
  have hP : va_P (dC, dI) classes [(a, .inr (7, (fs79.set 9 (.ref q81)))), (q81, .inr (1, fs87)), (q88, .inl (cA89, 96, .inl f90))] H := hP
  have hD : va_D A [(a, .inr (7, (fs79.set 9 (.ref q81)))), (q81, .inr (1, fs87)), (q88, .inl (cA89, 96, .inl f90))] := hD
  obtain ⟨fs94, efs94⟩ : ∃ y : List Value, y = fs79.set 9 (.ref q81) := ⟨_, rfl⟩
  rw [← efs94] at hP hD
  have hl_95 : fs94.length = 10 := by rw [efs94, List.length_set]; exact hl_80
  have hP := hP.sub (ws' := [(a, .inr (7, fs94))]) [0] rfl
  have hD := hD.sub (ws' := [(a, .inr (7, fs94))]) [0] (by decide) rfl
  have hK := hK.sub (tys' := []) [] rfl
  have hP9 := hP.sub (ws' := [(a, .inr (7, fs94))]) [0] rfl
  have hD9 := hD.sub (ws' := [(a, .inr (7, fs94))]) [0] (by decide) rfl
  have hK9 := hK.sub (tys' := []) [] rfl
  exact W.vret hx hb hr (fun t ht hW => ⟨⟨(), rfl, trivial, fs94, by rw [ht]; exact hP9, va_K.moved hW.alike hK9, hD9, hl_95⟩, hS.F ht⟩) hS.2.2 dX3_init_102

set_option maxHeartbeats 4000000 in
set_option maxRecDepth 100000 in
theorem c_Ballots_init (l : Launch) (dC : Nat → ClassId) (dI : Nat → Nat → Nat) (z : Nat) (a : Nat) (fs : List Value) (sz : Nat) (hl_fs : fs.length = 20) : Met l yX0_init (Cond.code yX0_init cX0_init 2 none :: G) ({ frames := 2, cells := 84, slots := 3943, locals := 32 }) (va_Pc [.ref a] (pre_ dC dI [(a, .inr (8, fs))] [] sz z)) (va_Qv (fun _ : Unit => True) (fun _ t => ∃ (fs137 : List Value), va_P (dC, dI) classes [(a, .inr (8, fs137))] t.heap ∧ va_K (dC, dI) classes [] t ∧ va_D (va_A [(a, .inr (8, fs))] sz) [(a, .inr (8, fs137))] ∧ fs137.length = 20) (va_A [(a, .inr (8, fs))] sz)) 84 3943 (va_A [(a, .inr (8, fs))] sz) := by
  refine Met.ofW (cc := cX0_init) (maxL := 2) (ret := none) (by decide) rfl ?_
  intro p e s m args below meth c s₁ B hml hv
  obtain ⟨rfl, hv⟩ := hv
  obtain ⟨hsz, hP, hK, hD0, hN, hZ⟩ := hv
  have hx := B.exec
  have hb := B.bytes
  have hr := B.returns
  have hG : ∀ w ∈ G, w.before _ s = true := fun w h => atoms_spec (ws := Cond.code yX0_init cX0_init 2 none :: G) B.pre w (List.mem_cons_of_mem _ h)
  have hown : s.vm.findClass "Seattable$Ballots" = some m.cls := findClass_of_methodNamed B.named
  have hlocks := B.notSynchronized
  have hin : meth.name = "<init>" := (name_of_methodNamed B.named B.method).1
  subst hsz
  have hD := hD0.self (sz := s.heap.size)
  generalize hAe : va_A [(a, .inr (8, fs))] s.heap.size = A at hD hZ ⊢
  have hA : ∀ q : Nat, s.heap.size ≤ q → A q := fun q h => by rw [← hAe]; exact Or.inr h
  have hS : va_S A s.heap s.heap [] := va_S.rf
  have hP : va_P (dC, dI) classes [(a, .inr (8, fs))] s.heap := hP
  have hl := lv_entry ([.ref a]) (n := 2) (Nat.le_of_ble_eq_true rfl)
  rw [lg_entry_eq]
  generalize (lg_sl ([.ref a]) ++ List.replicate (2 - (lg_sl ([.ref a])).length) Slot.unset).toArray = ls at hl ⊢
  have hl : lv_has ls 2 [(0, .ref a)] := hl
  refine lv_aload_n hx hb dX0_init_0 rfl (lv_at hl 0 rfl) ?_
  refine W.objInit hx hb hown (hG _ m_98) (hG _ m_1) (hG _ m_2) rfl (by rw [hml]; exact hl.1) rfl dX0_init_1 (Nat.le_of_ble_eq_true rfl) (Nat.le_of_ble_eq_true rfl) ?_
  refine W.eq (g2 := F0 m 4 ls []) rfl ?_
  refine lv_aload_n hx hb dX0_init_4 rfl (lv_at hl 0 rfl) ?_
  refine lv_bipush (v := 20) hx hb dX0_init_5 (by decide) ?_
  refine va_newq (D := (dC, dI)) (C := "Seattable$Big") (N' := 20) hx hb hown (hG _ m_99) (nw_over_0 hN) hK hP hD hS hA (by decide) (by decide) (Nat.le_of_ble_eq_true rfl) (Nat.le_of_ble_eq_true rfl) (Nat.le_of_ble_eq_true rfl) dX0_init_7 (fun q1 cA2 H hK hP hD hS => ?_)
  have hP : va_P (dC, dI) classes [(a, .inr (8, fs)), (q1, .inl (cA2, 20, .inr (.inr (.inr (.inr (fun _ => none))))))] H := hP
  have hD : va_D A [(a, .inr (8, fs)), (q1, .inl (cA2, 20, .inr (.inr (.inr (.inr (fun _ => none))))))] := hD
  have hK : va_K (dC, dI) classes [(cA2, .object "Seattable$Big")] s := hK
  obtain ⟨f3, ef3⟩ : ∃ y : Nat → Option Nat, y = (fun _ => none) := ⟨_, rfl⟩
  rw [← ef3] at hP hD
  refine W.widen (k := 1) (n := 20) (Nat.le_of_ble_eq_true rfl) (Nat.le_of_ble_eq_true rfl) ?_
  refine va_putF (D := (dC, dI)) (ci := 8) (v := .ref q1) (ty := .array (.object "Seattable$Big")) (C := RX0) (T := TX0) (N := 20) hx hb hG iX0 tyX0 tyX0_ok nmX0 hown hK hP hD hS 0 rfl rfl 0 (by decide) (hG _ m_100) (fun _ h9 => h9) rfl hin rfl (by decide +kernel) rfl rfl (by rw [hl_fs]; decide) dX0_init_10 (fun H locs hP hD hS => ?_)
  have hP : va_P (dC, dI) classes [(a, .inr (8, (fs.set 0 (.ref q1)))), (q1, .inl (cA2, 20, .inr (.inr (.inr (.inr f3)))))] H := hP
  have hD : va_D A [(a, .inr (8, (fs.set 0 (.ref q1)))), (q1, .inl (cA2, 20, .inr (.inr (.inr (.inr f3)))))] := hD
  obtain ⟨fs4, efs4⟩ : ∃ y : List Value, y = fs.set 0 (.ref q1) := ⟨_, rfl⟩
  rw [← efs4] at hP hD
  have hl_5 : fs4.length = 20 := by rw [efs4, List.length_set]; exact hl_fs
  have hf_6 : fs4[0]? = some (.ref q1) := by rw [efs4]; exact fs_set_eq hl_fs (by decide)
  refine lv_aload_n hx hb dX0_init_13 rfl (lv_at hl 0 rfl) ?_
  refine lv_bipush (v := 6) hx hb dX0_init_14 (by decide) ?_
  refine va_newq (D := (dC, dI)) (C := "Seattable$Big") (N' := 6) hx hb hown (hG _ m_99) (nw_over_0 hN) hK hP hD hS hA (by decide) (by decide) (Nat.le_of_ble_eq_true rfl) (Nat.le_of_ble_eq_true rfl) (Nat.le_of_ble_eq_true rfl) dX0_init_16 (fun q7 cA8 H hK hP hD hS => ?_)
  have hP : va_P (dC, dI) classes [(a, .inr (8, fs4)), (q1, .inl (cA2, 20, .inr (.inr (.inr (.inr f3))))), (q7, .inl (cA8, 6, .inr (.inr (.inr (.inr (fun _ => none))))))] H := hP
  have hD : va_D A [(a, .inr (8, fs4)), (q1, .inl (cA2, 20, .inr (.inr (.inr (.inr f3))))), (q7, .inl (cA8, 6, .inr (.inr (.inr (.inr (fun _ => none))))))] := hD
  have hK : va_K (dC, dI) classes [(cA2, .object "Seattable$Big"), (cA8, .object "Seattable$Big")] s := hK
  obtain ⟨f9, ef9⟩ : ∃ y : Nat → Option Nat, y = (fun _ => none) := ⟨_, rfl⟩
  rw [← ef9] at hP hD
  refine W.widen (k := 2) (n := 26) (Nat.le_of_ble_eq_true rfl) (Nat.le_of_ble_eq_true rfl) ?_
  refine va_putF (D := (dC, dI)) (ci := 8) (v := .ref q7) (ty := .array (.object "Seattable$Big")) (C := RX0) (T := TX0) (N := 20) hx hb hG iX0 tyX0 tyX0_ok nmX0 hown hK hP hD hS 0 rfl rfl 1 (by decide) (hG _ m_101) (fun _ h9 => h9) rfl hin rfl (by decide +kernel) rfl rfl (by rw [hl_5]; decide) dX0_init_19 (fun H locs hP hD hS => ?_)
  have hP : va_P (dC, dI) classes [(a, .inr (8, (fs4.set 1 (.ref q7)))), (q1, .inl (cA2, 20, .inr (.inr (.inr (.inr f3))))), (q7, .inl (cA8, 6, .inr (.inr (.inr (.inr f9)))))] H := hP
  have hD : va_D A [(a, .inr (8, (fs4.set 1 (.ref q7)))), (q1, .inl (cA2, 20, .inr (.inr (.inr (.inr f3))))), (q7, .inl (cA8, 6, .inr (.inr (.inr (.inr f9)))))] := hD
  obtain ⟨fs10, efs10⟩ : ∃ y : List Value, y = fs4.set 1 (.ref q7) := ⟨_, rfl⟩
  rw [← efs10] at hP hD
  have hl_11 : fs10.length = 20 := by rw [efs10, List.length_set]; exact hl_5
  have hf_12 : fs10[0]? = some (.ref q1) := by rw [efs10]; exact fs_set_ne hf_6 (by decide)
  have hf_13 : fs10[1]? = some (.ref q7) := by rw [efs10]; exact fs_set_eq hl_5 (by decide)
  refine lv_aload_n hx hb dX0_init_22 rfl (lv_at hl 0 rfl) ?_
  refine lv_bipush (v := 7) hx hb dX0_init_23 (by decide) ?_
  refine va_newq (D := (dC, dI)) (C := "Seattable$Big") (N' := 7) hx hb hown (hG _ m_99) (nw_over_0 hN) hK hP hD hS hA (by decide) (by decide) (Nat.le_of_ble_eq_true rfl) (Nat.le_of_ble_eq_true rfl) (Nat.le_of_ble_eq_true rfl) dX0_init_25 (fun q14 cA15 H hK hP hD hS => ?_)
  have hP : va_P (dC, dI) classes [(a, .inr (8, fs10)), (q1, .inl (cA2, 20, .inr (.inr (.inr (.inr f3))))), (q7, .inl (cA8, 6, .inr (.inr (.inr (.inr f9))))), (q14, .inl (cA15, 7, .inr (.inr (.inr (.inr (fun _ => none))))))] H := hP
  have hD : va_D A [(a, .inr (8, fs10)), (q1, .inl (cA2, 20, .inr (.inr (.inr (.inr f3))))), (q7, .inl (cA8, 6, .inr (.inr (.inr (.inr f9))))), (q14, .inl (cA15, 7, .inr (.inr (.inr (.inr (fun _ => none))))))] := hD
  have hK : va_K (dC, dI) classes [(cA2, .object "Seattable$Big"), (cA8, .object "Seattable$Big"), (cA15, .object "Seattable$Big")] s := hK
  obtain ⟨f16, ef16⟩ : ∃ y : Nat → Option Nat, y = (fun _ => none) := ⟨_, rfl⟩
  rw [← ef16] at hP hD
  refine W.widen (k := 3) (n := 33) (Nat.le_of_ble_eq_true rfl) (Nat.le_of_ble_eq_true rfl) ?_
  refine va_putF (D := (dC, dI)) (ci := 8) (v := .ref q14) (ty := .array (.object "Seattable$Big")) (C := RX0) (T := TX0) (N := 20) hx hb hG iX0 tyX0 tyX0_ok nmX0 hown hK hP hD hS 0 rfl rfl 2 (by decide) (hG _ m_102) (fun _ h9 => h9) rfl hin rfl (by decide +kernel) rfl rfl (by rw [hl_11]; decide) dX0_init_28 (fun H locs hP hD hS => ?_)
  have hP : va_P (dC, dI) classes [(a, .inr (8, (fs10.set 2 (.ref q14)))), (q1, .inl (cA2, 20, .inr (.inr (.inr (.inr f3))))), (q7, .inl (cA8, 6, .inr (.inr (.inr (.inr f9))))), (q14, .inl (cA15, 7, .inr (.inr (.inr (.inr f16)))))] H := hP
  have hD : va_D A [(a, .inr (8, (fs10.set 2 (.ref q14)))), (q1, .inl (cA2, 20, .inr (.inr (.inr (.inr f3))))), (q7, .inl (cA8, 6, .inr (.inr (.inr (.inr f9))))), (q14, .inl (cA15, 7, .inr (.inr (.inr (.inr f16)))))] := hD
  obtain ⟨fs17, efs17⟩ : ∃ y : List Value, y = fs10.set 2 (.ref q14) := ⟨_, rfl⟩
  rw [← efs17] at hP hD
  have hl_18 : fs17.length = 20 := by rw [efs17, List.length_set]; exact hl_11
  have hf_19 : fs17[0]? = some (.ref q1) := by rw [efs17]; exact fs_set_ne hf_12 (by decide)
  have hf_20 : fs17[1]? = some (.ref q7) := by rw [efs17]; exact fs_set_ne hf_13 (by decide)
  have hf_21 : fs17[2]? = some (.ref q14) := by rw [efs17]; exact fs_set_eq hl_11 (by decide)
  refine lv_aload_n hx hb dX0_init_31 rfl (lv_at hl 0 rfl) ?_
  refine va_new (D := (dC, dI)) (ci := 1) (fs := (List.range 2).map (fun k => defaultValue (tyX1 k))) (C := RX1) (T := TX1) (N := 2) hx hb hG iX1 tyX1 tyX1_ok hown (hG _ m_99) (hG _ m_45) (hG _ m_46) hK hP hD hS hA rfl (fs_new 2 tyX1) (Nat.le_of_ble_eq_true rfl) (Nat.le_of_ble_eq_true rfl) dX0_init_32 (fun q22 H hP hD hS => ?_)
  have hP : va_P (dC, dI) classes [(a, .inr (8, fs17)), (q1, .inl (cA2, 20, .inr (.inr (.inr (.inr f3))))), (q7, .inl (cA8, 6, .inr (.inr (.inr (.inr f9))))), (q14, .inl (cA15, 7, .inr (.inr (.inr (.inr f16))))), (q22, .inr (1, ((List.range 2).map (fun k => defaultValue (tyX1 k)))))] H := hP
  have hD : va_D A [(a, .inr (8, fs17)), (q1, .inl (cA2, 20, .inr (.inr (.inr (.inr f3))))), (q7, .inl (cA8, 6, .inr (.inr (.inr (.inr f9))))), (q14, .inl (cA15, 7, .inr (.inr (.inr (.inr f16))))), (q22, .inr (1, ((List.range 2).map (fun k => defaultValue (tyX1 k)))))] := hD
  obtain ⟨fs23, efs23⟩ : ∃ y : List Value, y = (List.range 2).map (fun k => defaultValue (tyX1 k)) := ⟨_, rfl⟩
  rw [← efs23] at hP hD
  have hl_24 : fs23.length = 2 := by rw [efs23, List.length_map, List.length_range]
  have hf_25 : fs23[0]? = some (.null) := by rw [efs23]; rfl
  have hf_26 : fs23[1]? = some (.int 0) := by rw [efs23]; rfl
  refine W.widen (k := 4) (n := 35) (Nat.le_of_ble_eq_true rfl) (Nat.le_of_ble_eq_true rfl) ?_
  refine lv_dup hx hb dX0_init_35 rfl ?_
  have hPc := hP.sub (ws' := [(q22, .inr (1, fs23))]) [4] rfl
  have hDc := hD.sub (ws' := [(q22, .inr (1, fs23))]) [4] (by decide) rfl
  have hKc := hK.sub (tys' := []) [] rfl
  have hFc := va_free (wc := [(q22, .inr (1, fs23))]) hD hS hA [4] rfl
  refine va_callv (va_runIN (As := []) (rest := [.ref q22, .ref a]) ⟨hx, hb, hml, hown, hG⟩ (c_Big_init l dC dI z q22 fs23 H.size hl_24 hf_26) ⟨va_cnB (host := "Seattable") 0 hG (gI m_47) rfl rfl rfl (nw_nest_3 hN) (hG _ m_46) (by decide +kernel) ⟨Nat.le_of_ble_eq_true rfl, Nat.le_of_ble_eq_true rfl⟩, rfl, (hG _ m_48)⟩ ⟨pre_blind, fun U hU hW => ⟨rfl, pre_call hU hW hPc hKc hDc hN (zkeep hZ hS) hFc⟩⟩ rfl rfl hl.1 rfl (lv_room (Nat.le_of_ble_eq_true rfl)) dX0_init_36 ⟨Nat.le_of_ble_eq_true rfl, Nat.le_of_ble_eq_true rfl⟩) hS (fun q _ h => hFc q h) hFc (fun u t H locs ht hvm hw hB hz1 hk1 hS => ?_)
  obtain ⟨fs28, q29, cA30, f31, hP1, hK1, hD1, hy32, hy33, hy34⟩ := hB
  rw [ht] at hP1
  have hK1 := va_K.moved hvm.symm hK1
  obtain ⟨hP, hD⟩ := va_join (wr := [(a, .inr (8, fs17)), (q1, .inl (cA2, 20, .inr (.inr (.inr (.inr f3))))), (q7, .inl (cA8, 6, .inr (.inr (.inr (.inr f9))))), (q14, .inl (cA15, 7, .inr (.inr (.inr (.inr f16)))))]) (w1 := [(q22, .inr (1, fs28)), (q29, .inl (cA30, 96, .inl f31))]) hP hD [4] [0, 1, 2, 3] rfl rfl (by decide) (by decide) hk1 hFc hP1 hD1
  have hK := (hK.sub (tys' := [(cA2, .object "Seattable$Big"), (cA8, .object "Seattable$Big"), (cA15, .object "Seattable$Big")]) [0, 1, 2] rfl).app hK1
  have hP : va_P (dC, dI) classes [(a, .inr (8, fs17)), (q1, .inl (cA2, 20, .inr (.inr (.inr (.inr f3))))), (q7, .inl (cA8, 6, .inr (.inr (.inr (.inr f9))))), (q14, .inl (cA15, 7, .inr (.inr (.inr (.inr f16))))), (q22, .inr (1, fs28)), (q29, .inl (cA30, 96, .inl f31))] H := hP
  have hD : va_D A [(a, .inr (8, fs17)), (q1, .inl (cA2, 20, .inr (.inr (.inr (.inr f3))))), (q7, .inl (cA8, 6, .inr (.inr (.inr (.inr f9))))), (q14, .inl (cA15, 7, .inr (.inr (.inr (.inr f16))))), (q22, .inr (1, fs28)), (q29, .inl (cA30, 96, .inl f31))] := hD
  have hK : va_K (dC, dI) classes [(cA2, .object "Seattable$Big"), (cA8, .object "Seattable$Big"), (cA15, .object "Seattable$Big"), (cA30, .int)] s := hK
  refine W.widen (k := 5) (n := 131) (Nat.le_of_ble_eq_true rfl) (Nat.le_of_ble_eq_true rfl) ?_
  refine va_putF (D := (dC, dI)) (ci := 8) (v := .ref q22) (ty := .object "Seattable$Big") (C := RX0) (T := TX0) (N := 20) hx hb hG iX0 tyX0 tyX0_ok nmX0 hown hK hP hD hS 0 rfl rfl 3 (by decide) (hG _ m_103) (fun _ h9 => h9) rfl hin rfl (by decide +kernel) rfl rfl (by rw [hl_18]; decide) dX0_init_39 (fun H locs hP hD hS => ?_)
  have hP : va_P (dC, dI) classes [(a, .inr (8, (fs17.set 3 (.ref q22)))), (q1, .inl (cA2, 20, .inr (.inr (.inr (.inr f3))))), (q7, .inl (cA8, 6, .inr (.inr (.inr (.inr f9))))), (q14, .inl (cA15, 7, .inr (.inr (.inr (.inr f16))))), (q22, .inr (1, fs28)), (q29, .inl (cA30, 96, .inl f31))] H := hP
  have hD : va_D A [(a, .inr (8, (fs17.set 3 (.ref q22)))), (q1, .inl (cA2, 20, .inr (.inr (.inr (.inr f3))))), (q7, .inl (cA8, 6, .inr (.inr (.inr (.inr f9))))), (q14, .inl (cA15, 7, .inr (.inr (.inr (.inr f16))))), (q22, .inr (1, fs28)), (q29, .inl (cA30, 96, .inl f31))] := hD
  obtain ⟨fs35, efs35⟩ : ∃ y : List Value, y = fs17.set 3 (.ref q22) := ⟨_, rfl⟩
  rw [← efs35] at hP hD
  have hl_36 : fs35.length = 20 := by rw [efs35, List.length_set]; exact hl_18
  have hf_37 : fs35[0]? = some (.ref q1) := by rw [efs35]; exact fs_set_ne hf_19 (by decide)
  have hf_38 : fs35[1]? = some (.ref q7) := by rw [efs35]; exact fs_set_ne hf_20 (by decide)
  have hf_39 : fs35[2]? = some (.ref q14) := by rw [efs35]; exact fs_set_ne hf_21 (by decide)
  have hP := hP.sub (ws' := [(a, .inr (8, fs35)), (q1, .inl (cA2, 20, .inr (.inr (.inr (.inr f3))))), (q7, .inl (cA8, 6, .inr (.inr (.inr (.inr f9))))), (q14, .inl (cA15, 7, .inr (.inr (.inr (.inr f16)))))]) [0, 1, 2, 3] rfl
  have hD := hD.sub (ws' := [(a, .inr (8, fs35)), (q1, .inl (cA2, 20, .inr (.inr (.inr (.inr f3))))), (q7, .inl (cA8, 6, .inr (.inr (.inr (.inr f9))))), (q14, .inl (cA15, 7, .inr (.inr (.inr (.inr f16)))))]) [0, 1, 2, 3] (by decide) rfl
  have hK := hK.sub (tys' := [(cA2, .object "Seattable$Big"), (cA8, .object "Seattable$Big"), (cA15, .object "Seattable$Big")]) [0, 1, 2] rfl
  refine lv_aload_n hx hb dX0_init_42 rfl (lv_at hl 0 rfl) ?_
  refine va_new (D := (dC, dI)) (ci := 1) (fs := (List.range 2).map (fun k => defaultValue (tyX1 k))) (C := RX1) (T := TX1) (N := 2) hx hb hG iX1 tyX1 tyX1_ok hown (hG _ m_99) (hG _ m_45) (hG _ m_46) hK hP hD hS hA rfl (fs_new 2 tyX1) (Nat.le_of_ble_eq_true rfl) (Nat.le_of_ble_eq_true rfl) dX0_init_43 (fun q40 H hP hD hS => ?_)
  have hP : va_P (dC, dI) classes [(a, .inr (8, fs35)), (q1, .inl (cA2, 20, .inr (.inr (.inr (.inr f3))))), (q7, .inl (cA8, 6, .inr (.inr (.inr (.inr f9))))), (q14, .inl (cA15, 7, .inr (.inr (.inr (.inr f16))))), (q40, .inr (1, ((List.range 2).map (fun k => defaultValue (tyX1 k)))))] H := hP
  have hD : va_D A [(a, .inr (8, fs35)), (q1, .inl (cA2, 20, .inr (.inr (.inr (.inr f3))))), (q7, .inl (cA8, 6, .inr (.inr (.inr (.inr f9))))), (q14, .inl (cA15, 7, .inr (.inr (.inr (.inr f16))))), (q40, .inr (1, ((List.range 2).map (fun k => defaultValue (tyX1 k)))))] := hD
  obtain ⟨fs41, efs41⟩ : ∃ y : List Value, y = (List.range 2).map (fun k => defaultValue (tyX1 k)) := ⟨_, rfl⟩
  rw [← efs41] at hP hD
  have hl_42 : fs41.length = 2 := by rw [efs41, List.length_map, List.length_range]
  have hf_43 : fs41[0]? = some (.null) := by rw [efs41]; rfl
  have hf_44 : fs41[1]? = some (.int 0) := by rw [efs41]; rfl
  refine W.widen (k := 6) (n := 133) (Nat.le_of_ble_eq_true rfl) (Nat.le_of_ble_eq_true rfl) ?_
  refine lv_dup hx hb dX0_init_46 rfl ?_
  have hPc := hP.sub (ws' := [(q40, .inr (1, fs41))]) [4] rfl
  have hDc := hD.sub (ws' := [(q40, .inr (1, fs41))]) [4] (by decide) rfl
  have hKc := hK.sub (tys' := []) [] rfl
  have hFc := va_free (wc := [(q40, .inr (1, fs41))]) hD hS hA [4] rfl
  refine va_callv (va_runIN (As := []) (rest := [.ref q40, .ref a]) ⟨hx, hb, hml, hown, hG⟩ (c_Big_init l dC dI z q40 fs41 H.size hl_42 hf_44) ⟨va_cnB (host := "Seattable") 0 hG (gI m_47) rfl rfl rfl (nw_nest_3 hN) (hG _ m_46) (by decide +kernel) ⟨Nat.le_of_ble_eq_true rfl, Nat.le_of_ble_eq_true rfl⟩, rfl, (hG _ m_48)⟩ ⟨pre_blind, fun U hU hW => ⟨rfl, pre_call hU hW hPc hKc hDc hN (zkeep hZ hS) hFc⟩⟩ rfl rfl hl.1 rfl (lv_room (Nat.le_of_ble_eq_true rfl)) dX0_init_47 ⟨Nat.le_of_ble_eq_true rfl, Nat.le_of_ble_eq_true rfl⟩) hS (fun q _ h => hFc q h) hFc (fun u t H locs ht hvm hw hB hz1 hk1 hS => ?_)
  obtain ⟨fs46, q47, cA48, f49, hP1, hK1, hD1, hy50, hy51, hy52⟩ := hB
  rw [ht] at hP1
  have hK1 := va_K.moved hvm.symm hK1
  obtain ⟨hP, hD⟩ := va_join (wr := [(a, .inr (8, fs35)), (q1, .inl (cA2, 20, .inr (.inr (.inr (.inr f3))))), (q7, .inl (cA8, 6, .inr (.inr (.inr (.inr f9))))), (q14, .inl (cA15, 7, .inr (.inr (.inr (.inr f16)))))]) (w1 := [(q40, .inr (1, fs46)), (q47, .inl (cA48, 96, .inl f49))]) hP hD [4] [0, 1, 2, 3] rfl rfl (by decide) (by decide) hk1 hFc hP1 hD1
  have hK := (hK.sub (tys' := [(cA2, .object "Seattable$Big"), (cA8, .object "Seattable$Big"), (cA15, .object "Seattable$Big")]) [0, 1, 2] rfl).app hK1
  have hP : va_P (dC, dI) classes [(a, .inr (8, fs35)), (q1, .inl (cA2, 20, .inr (.inr (.inr (.inr f3))))), (q7, .inl (cA8, 6, .inr (.inr (.inr (.inr f9))))), (q14, .inl (cA15, 7, .inr (.inr (.inr (.inr f16))))), (q40, .inr (1, fs46)), (q47, .inl (cA48, 96, .inl f49))] H := hP
  have hD : va_D A [(a, .inr (8, fs35)), (q1, .inl (cA2, 20, .inr (.inr (.inr (.inr f3))))), (q7, .inl (cA8, 6, .inr (.inr (.inr (.inr f9))))), (q14, .inl (cA15, 7, .inr (.inr (.inr (.inr f16))))), (q40, .inr (1, fs46)), (q47, .inl (cA48, 96, .inl f49))] := hD
  have hK : va_K (dC, dI) classes [(cA2, .object "Seattable$Big"), (cA8, .object "Seattable$Big"), (cA15, .object "Seattable$Big"), (cA48, .int)] s := hK
  refine W.widen (k := 7) (n := 229) (Nat.le_of_ble_eq_true rfl) (Nat.le_of_ble_eq_true rfl) ?_
  refine va_putF (D := (dC, dI)) (ci := 8) (v := .ref q40) (ty := .object "Seattable$Big") (C := RX0) (T := TX0) (N := 20) hx hb hG iX0 tyX0 tyX0_ok nmX0 hown hK hP hD hS 0 rfl rfl 4 (by decide) (hG _ m_104) (fun _ h9 => h9) rfl hin rfl (by decide +kernel) rfl rfl (by rw [hl_36]; decide) dX0_init_50 (fun H locs hP hD hS => ?_)
  have hP : va_P (dC, dI) classes [(a, .inr (8, (fs35.set 4 (.ref q40)))), (q1, .inl (cA2, 20, .inr (.inr (.inr (.inr f3))))), (q7, .inl (cA8, 6, .inr (.inr (.inr (.inr f9))))), (q14, .inl (cA15, 7, .inr (.inr (.inr (.inr f16))))), (q40, .inr (1, fs46)), (q47, .inl (cA48, 96, .inl f49))] H := hP
  have hD : va_D A [(a, .inr (8, (fs35.set 4 (.ref q40)))), (q1, .inl (cA2, 20, .inr (.inr (.inr (.inr f3))))), (q7, .inl (cA8, 6, .inr (.inr (.inr (.inr f9))))), (q14, .inl (cA15, 7, .inr (.inr (.inr (.inr f16))))), (q40, .inr (1, fs46)), (q47, .inl (cA48, 96, .inl f49))] := hD
  obtain ⟨fs53, efs53⟩ : ∃ y : List Value, y = fs35.set 4 (.ref q40) := ⟨_, rfl⟩
  rw [← efs53] at hP hD
  have hl_54 : fs53.length = 20 := by rw [efs53, List.length_set]; exact hl_36
  have hf_55 : fs53[0]? = some (.ref q1) := by rw [efs53]; exact fs_set_ne hf_37 (by decide)
  have hf_56 : fs53[1]? = some (.ref q7) := by rw [efs53]; exact fs_set_ne hf_38 (by decide)
  have hf_57 : fs53[2]? = some (.ref q14) := by rw [efs53]; exact fs_set_ne hf_39 (by decide)
  have hP := hP.sub (ws' := [(a, .inr (8, fs53)), (q1, .inl (cA2, 20, .inr (.inr (.inr (.inr f3))))), (q7, .inl (cA8, 6, .inr (.inr (.inr (.inr f9))))), (q14, .inl (cA15, 7, .inr (.inr (.inr (.inr f16)))))]) [0, 1, 2, 3] rfl
  have hD := hD.sub (ws' := [(a, .inr (8, fs53)), (q1, .inl (cA2, 20, .inr (.inr (.inr (.inr f3))))), (q7, .inl (cA8, 6, .inr (.inr (.inr (.inr f9))))), (q14, .inl (cA15, 7, .inr (.inr (.inr (.inr f16)))))]) [0, 1, 2, 3] (by decide) rfl
  have hK := hK.sub (tys' := [(cA2, .object "Seattable$Big"), (cA8, .object "Seattable$Big"), (cA15, .object "Seattable$Big")]) [0, 1, 2] rfl
  refine lv_aload_n hx hb dX0_init_53 rfl (lv_at hl 0 rfl) ?_
  refine va_new (D := (dC, dI)) (ci := 1) (fs := (List.range 2).map (fun k => defaultValue (tyX1 k))) (C := RX1) (T := TX1) (N := 2) hx hb hG iX1 tyX1 tyX1_ok hown (hG _ m_99) (hG _ m_45) (hG _ m_46) hK hP hD hS hA rfl (fs_new 2 tyX1) (Nat.le_of_ble_eq_true rfl) (Nat.le_of_ble_eq_true rfl) dX0_init_54 (fun q58 H hP hD hS => ?_)
  have hP : va_P (dC, dI) classes [(a, .inr (8, fs53)), (q1, .inl (cA2, 20, .inr (.inr (.inr (.inr f3))))), (q7, .inl (cA8, 6, .inr (.inr (.inr (.inr f9))))), (q14, .inl (cA15, 7, .inr (.inr (.inr (.inr f16))))), (q58, .inr (1, ((List.range 2).map (fun k => defaultValue (tyX1 k)))))] H := hP
  have hD : va_D A [(a, .inr (8, fs53)), (q1, .inl (cA2, 20, .inr (.inr (.inr (.inr f3))))), (q7, .inl (cA8, 6, .inr (.inr (.inr (.inr f9))))), (q14, .inl (cA15, 7, .inr (.inr (.inr (.inr f16))))), (q58, .inr (1, ((List.range 2).map (fun k => defaultValue (tyX1 k)))))] := hD
  obtain ⟨fs59, efs59⟩ : ∃ y : List Value, y = (List.range 2).map (fun k => defaultValue (tyX1 k)) := ⟨_, rfl⟩
  rw [← efs59] at hP hD
  have hl_60 : fs59.length = 2 := by rw [efs59, List.length_map, List.length_range]
  have hf_61 : fs59[0]? = some (.null) := by rw [efs59]; rfl
  have hf_62 : fs59[1]? = some (.int 0) := by rw [efs59]; rfl
  refine W.widen (k := 8) (n := 231) (Nat.le_of_ble_eq_true rfl) (Nat.le_of_ble_eq_true rfl) ?_
  refine lv_dup hx hb dX0_init_57 rfl ?_
  have hPc := hP.sub (ws' := [(q58, .inr (1, fs59))]) [4] rfl
  have hDc := hD.sub (ws' := [(q58, .inr (1, fs59))]) [4] (by decide) rfl
  have hKc := hK.sub (tys' := []) [] rfl
  have hFc := va_free (wc := [(q58, .inr (1, fs59))]) hD hS hA [4] rfl
  refine va_callv (va_runIN (As := []) (rest := [.ref q58, .ref a]) ⟨hx, hb, hml, hown, hG⟩ (c_Big_init l dC dI z q58 fs59 H.size hl_60 hf_62) ⟨va_cnB (host := "Seattable") 0 hG (gI m_47) rfl rfl rfl (nw_nest_3 hN) (hG _ m_46) (by decide +kernel) ⟨Nat.le_of_ble_eq_true rfl, Nat.le_of_ble_eq_true rfl⟩, rfl, (hG _ m_48)⟩ ⟨pre_blind, fun U hU hW => ⟨rfl, pre_call hU hW hPc hKc hDc hN (zkeep hZ hS) hFc⟩⟩ rfl rfl hl.1 rfl (lv_room (Nat.le_of_ble_eq_true rfl)) dX0_init_58 ⟨Nat.le_of_ble_eq_true rfl, Nat.le_of_ble_eq_true rfl⟩) hS (fun q _ h => hFc q h) hFc (fun u t H locs ht hvm hw hB hz1 hk1 hS => ?_)
  obtain ⟨fs64, q65, cA66, f67, hP1, hK1, hD1, hy68, hy69, hy70⟩ := hB
  rw [ht] at hP1
  have hK1 := va_K.moved hvm.symm hK1
  obtain ⟨hP, hD⟩ := va_join (wr := [(a, .inr (8, fs53)), (q1, .inl (cA2, 20, .inr (.inr (.inr (.inr f3))))), (q7, .inl (cA8, 6, .inr (.inr (.inr (.inr f9))))), (q14, .inl (cA15, 7, .inr (.inr (.inr (.inr f16)))))]) (w1 := [(q58, .inr (1, fs64)), (q65, .inl (cA66, 96, .inl f67))]) hP hD [4] [0, 1, 2, 3] rfl rfl (by decide) (by decide) hk1 hFc hP1 hD1
  have hK := (hK.sub (tys' := [(cA2, .object "Seattable$Big"), (cA8, .object "Seattable$Big"), (cA15, .object "Seattable$Big")]) [0, 1, 2] rfl).app hK1
  have hP : va_P (dC, dI) classes [(a, .inr (8, fs53)), (q1, .inl (cA2, 20, .inr (.inr (.inr (.inr f3))))), (q7, .inl (cA8, 6, .inr (.inr (.inr (.inr f9))))), (q14, .inl (cA15, 7, .inr (.inr (.inr (.inr f16))))), (q58, .inr (1, fs64)), (q65, .inl (cA66, 96, .inl f67))] H := hP
  have hD : va_D A [(a, .inr (8, fs53)), (q1, .inl (cA2, 20, .inr (.inr (.inr (.inr f3))))), (q7, .inl (cA8, 6, .inr (.inr (.inr (.inr f9))))), (q14, .inl (cA15, 7, .inr (.inr (.inr (.inr f16))))), (q58, .inr (1, fs64)), (q65, .inl (cA66, 96, .inl f67))] := hD
  have hK : va_K (dC, dI) classes [(cA2, .object "Seattable$Big"), (cA8, .object "Seattable$Big"), (cA15, .object "Seattable$Big"), (cA66, .int)] s := hK
  refine W.widen (k := 9) (n := 327) (Nat.le_of_ble_eq_true rfl) (Nat.le_of_ble_eq_true rfl) ?_
  refine va_putF (D := (dC, dI)) (ci := 8) (v := .ref q58) (ty := .object "Seattable$Big") (C := RX0) (T := TX0) (N := 20) hx hb hG iX0 tyX0 tyX0_ok nmX0 hown hK hP hD hS 0 rfl rfl 5 (by decide) (hG _ m_105) (fun _ h9 => h9) rfl hin rfl (by decide +kernel) rfl rfl (by rw [hl_54]; decide) dX0_init_61 (fun H locs hP hD hS => ?_)
  have hP : va_P (dC, dI) classes [(a, .inr (8, (fs53.set 5 (.ref q58)))), (q1, .inl (cA2, 20, .inr (.inr (.inr (.inr f3))))), (q7, .inl (cA8, 6, .inr (.inr (.inr (.inr f9))))), (q14, .inl (cA15, 7, .inr (.inr (.inr (.inr f16))))), (q58, .inr (1, fs64)), (q65, .inl (cA66, 96, .inl f67))] H := hP
  have hD : va_D A [(a, .inr (8, (fs53.set 5 (.ref q58)))), (q1, .inl (cA2, 20, .inr (.inr (.inr (.inr f3))))), (q7, .inl (cA8, 6, .inr (.inr (.inr (.inr f9))))), (q14, .inl (cA15, 7, .inr (.inr (.inr (.inr f16))))), (q58, .inr (1, fs64)), (q65, .inl (cA66, 96, .inl f67))] := hD
  obtain ⟨fs71, efs71⟩ : ∃ y : List Value, y = fs53.set 5 (.ref q58) := ⟨_, rfl⟩
  rw [← efs71] at hP hD
  have hl_72 : fs71.length = 20 := by rw [efs71, List.length_set]; exact hl_54
  have hf_73 : fs71[0]? = some (.ref q1) := by rw [efs71]; exact fs_set_ne hf_55 (by decide)
  have hf_74 : fs71[1]? = some (.ref q7) := by rw [efs71]; exact fs_set_ne hf_56 (by decide)
  have hf_75 : fs71[2]? = some (.ref q14) := by rw [efs71]; exact fs_set_ne hf_57 (by decide)
  have hP := hP.sub (ws' := [(a, .inr (8, fs71)), (q1, .inl (cA2, 20, .inr (.inr (.inr (.inr f3))))), (q7, .inl (cA8, 6, .inr (.inr (.inr (.inr f9))))), (q14, .inl (cA15, 7, .inr (.inr (.inr (.inr f16)))))]) [0, 1, 2, 3] rfl
  have hD := hD.sub (ws' := [(a, .inr (8, fs71)), (q1, .inl (cA2, 20, .inr (.inr (.inr (.inr f3))))), (q7, .inl (cA8, 6, .inr (.inr (.inr (.inr f9))))), (q14, .inl (cA15, 7, .inr (.inr (.inr (.inr f16)))))]) [0, 1, 2, 3] (by decide) rfl
  have hK := hK.sub (tys' := [(cA2, .object "Seattable$Big"), (cA8, .object "Seattable$Big"), (cA15, .object "Seattable$Big")]) [0, 1, 2] rfl
  refine lv_aload_n hx hb dX0_init_64 rfl (lv_at hl 0 rfl) ?_
  refine va_new (D := (dC, dI)) (ci := 1) (fs := (List.range 2).map (fun k => defaultValue (tyX1 k))) (C := RX1) (T := TX1) (N := 2) hx hb hG iX1 tyX1 tyX1_ok hown (hG _ m_99) (hG _ m_45) (hG _ m_46) hK hP hD hS hA rfl (fs_new 2 tyX1) (Nat.le_of_ble_eq_true rfl) (Nat.le_of_ble_eq_true rfl) dX0_init_65 (fun q76 H hP hD hS => ?_)
  have hP : va_P (dC, dI) classes [(a, .inr (8, fs71)), (q1, .inl (cA2, 20, .inr (.inr (.inr (.inr f3))))), (q7, .inl (cA8, 6, .inr (.inr (.inr (.inr f9))))), (q14, .inl (cA15, 7, .inr (.inr (.inr (.inr f16))))), (q76, .inr (1, ((List.range 2).map (fun k => defaultValue (tyX1 k)))))] H := hP
  have hD : va_D A [(a, .inr (8, fs71)), (q1, .inl (cA2, 20, .inr (.inr (.inr (.inr f3))))), (q7, .inl (cA8, 6, .inr (.inr (.inr (.inr f9))))), (q14, .inl (cA15, 7, .inr (.inr (.inr (.inr f16))))), (q76, .inr (1, ((List.range 2).map (fun k => defaultValue (tyX1 k)))))] := hD
  obtain ⟨fs77, efs77⟩ : ∃ y : List Value, y = (List.range 2).map (fun k => defaultValue (tyX1 k)) := ⟨_, rfl⟩
  rw [← efs77] at hP hD
  have hl_78 : fs77.length = 2 := by rw [efs77, List.length_map, List.length_range]
  have hf_79 : fs77[0]? = some (.null) := by rw [efs77]; rfl
  have hf_80 : fs77[1]? = some (.int 0) := by rw [efs77]; rfl
  refine W.widen (k := 10) (n := 329) (Nat.le_of_ble_eq_true rfl) (Nat.le_of_ble_eq_true rfl) ?_
  refine lv_dup hx hb dX0_init_68 rfl ?_
  have hPc := hP.sub (ws' := [(q76, .inr (1, fs77))]) [4] rfl
  have hDc := hD.sub (ws' := [(q76, .inr (1, fs77))]) [4] (by decide) rfl
  have hKc := hK.sub (tys' := []) [] rfl
  have hFc := va_free (wc := [(q76, .inr (1, fs77))]) hD hS hA [4] rfl
  refine va_callv (va_runIN (As := []) (rest := [.ref q76, .ref a]) ⟨hx, hb, hml, hown, hG⟩ (c_Big_init l dC dI z q76 fs77 H.size hl_78 hf_80) ⟨va_cnB (host := "Seattable") 0 hG (gI m_47) rfl rfl rfl (nw_nest_3 hN) (hG _ m_46) (by decide +kernel) ⟨Nat.le_of_ble_eq_true rfl, Nat.le_of_ble_eq_true rfl⟩, rfl, (hG _ m_48)⟩ ⟨pre_blind, fun U hU hW => ⟨rfl, pre_call hU hW hPc hKc hDc hN (zkeep hZ hS) hFc⟩⟩ rfl rfl hl.1 rfl (lv_room (Nat.le_of_ble_eq_true rfl)) dX0_init_69 ⟨Nat.le_of_ble_eq_true rfl, Nat.le_of_ble_eq_true rfl⟩) hS (fun q _ h => hFc q h) hFc (fun u t H locs ht hvm hw hB hz1 hk1 hS => ?_)
  obtain ⟨fs82, q83, cA84, f85, hP1, hK1, hD1, hy86, hy87, hy88⟩ := hB
  rw [ht] at hP1
  have hK1 := va_K.moved hvm.symm hK1
  obtain ⟨hP, hD⟩ := va_join (wr := [(a, .inr (8, fs71)), (q1, .inl (cA2, 20, .inr (.inr (.inr (.inr f3))))), (q7, .inl (cA8, 6, .inr (.inr (.inr (.inr f9))))), (q14, .inl (cA15, 7, .inr (.inr (.inr (.inr f16)))))]) (w1 := [(q76, .inr (1, fs82)), (q83, .inl (cA84, 96, .inl f85))]) hP hD [4] [0, 1, 2, 3] rfl rfl (by decide) (by decide) hk1 hFc hP1 hD1
  have hK := (hK.sub (tys' := [(cA2, .object "Seattable$Big"), (cA8, .object "Seattable$Big"), (cA15, .object "Seattable$Big")]) [0, 1, 2] rfl).app hK1
  have hP : va_P (dC, dI) classes [(a, .inr (8, fs71)), (q1, .inl (cA2, 20, .inr (.inr (.inr (.inr f3))))), (q7, .inl (cA8, 6, .inr (.inr (.inr (.inr f9))))), (q14, .inl (cA15, 7, .inr (.inr (.inr (.inr f16))))), (q76, .inr (1, fs82)), (q83, .inl (cA84, 96, .inl f85))] H := hP
  have hD : va_D A [(a, .inr (8, fs71)), (q1, .inl (cA2, 20, .inr (.inr (.inr (.inr f3))))), (q7, .inl (cA8, 6, .inr (.inr (.inr (.inr f9))))), (q14, .inl (cA15, 7, .inr (.inr (.inr (.inr f16))))), (q76, .inr (1, fs82)), (q83, .inl (cA84, 96, .inl f85))] := hD
  have hK : va_K (dC, dI) classes [(cA2, .object "Seattable$Big"), (cA8, .object "Seattable$Big"), (cA15, .object "Seattable$Big"), (cA84, .int)] s := hK
  refine W.widen (k := 11) (n := 425) (Nat.le_of_ble_eq_true rfl) (Nat.le_of_ble_eq_true rfl) ?_
  refine va_putF (D := (dC, dI)) (ci := 8) (v := .ref q76) (ty := .object "Seattable$Big") (C := RX0) (T := TX0) (N := 20) hx hb hG iX0 tyX0 tyX0_ok nmX0 hown hK hP hD hS 0 rfl rfl 6 (by decide) (hG _ m_106) (fun _ h9 => h9) rfl hin rfl (by decide +kernel) rfl rfl (by rw [hl_72]; decide) dX0_init_72 (fun H locs hP hD hS => ?_)
  have hP : va_P (dC, dI) classes [(a, .inr (8, (fs71.set 6 (.ref q76)))), (q1, .inl (cA2, 20, .inr (.inr (.inr (.inr f3))))), (q7, .inl (cA8, 6, .inr (.inr (.inr (.inr f9))))), (q14, .inl (cA15, 7, .inr (.inr (.inr (.inr f16))))), (q76, .inr (1, fs82)), (q83, .inl (cA84, 96, .inl f85))] H := hP
  have hD : va_D A [(a, .inr (8, (fs71.set 6 (.ref q76)))), (q1, .inl (cA2, 20, .inr (.inr (.inr (.inr f3))))), (q7, .inl (cA8, 6, .inr (.inr (.inr (.inr f9))))), (q14, .inl (cA15, 7, .inr (.inr (.inr (.inr f16))))), (q76, .inr (1, fs82)), (q83, .inl (cA84, 96, .inl f85))] := hD
  obtain ⟨fs89, efs89⟩ : ∃ y : List Value, y = fs71.set 6 (.ref q76) := ⟨_, rfl⟩
  rw [← efs89] at hP hD
  have hl_90 : fs89.length = 20 := by rw [efs89, List.length_set]; exact hl_72
  have hf_91 : fs89[0]? = some (.ref q1) := by rw [efs89]; exact fs_set_ne hf_73 (by decide)
  have hf_92 : fs89[1]? = some (.ref q7) := by rw [efs89]; exact fs_set_ne hf_74 (by decide)
  have hf_93 : fs89[2]? = some (.ref q14) := by rw [efs89]; exact fs_set_ne hf_75 (by decide)
  have hP := hP.sub (ws' := [(a, .inr (8, fs89)), (q1, .inl (cA2, 20, .inr (.inr (.inr (.inr f3))))), (q7, .inl (cA8, 6, .inr (.inr (.inr (.inr f9))))), (q14, .inl (cA15, 7, .inr (.inr (.inr (.inr f16)))))]) [0, 1, 2, 3] rfl
  have hD := hD.sub (ws' := [(a, .inr (8, fs89)), (q1, .inl (cA2, 20, .inr (.inr (.inr (.inr f3))))), (q7, .inl (cA8, 6, .inr (.inr (.inr (.inr f9))))), (q14, .inl (cA15, 7, .inr (.inr (.inr (.inr f16)))))]) [0, 1, 2, 3] (by decide) rfl
  have hK := hK.sub (tys' := [(cA2, .object "Seattable$Big"), (cA8, .object "Seattable$Big"), (cA15, .object "Seattable$Big")]) [0, 1, 2] rfl
  refine lv_aload_n hx hb dX0_init_75 rfl (lv_at hl 0 rfl) ?_
  refine va_new (D := (dC, dI)) (ci := 1) (fs := (List.range 2).map (fun k => defaultValue (tyX1 k))) (C := RX1) (T := TX1) (N := 2) hx hb hG iX1 tyX1 tyX1_ok hown (hG _ m_99) (hG _ m_45) (hG _ m_46) hK hP hD hS hA rfl (fs_new 2 tyX1) (Nat.le_of_ble_eq_true rfl) (Nat.le_of_ble_eq_true rfl) dX0_init_76 (fun q94 H hP hD hS => ?_)
  have hP : va_P (dC, dI) classes [(a, .inr (8, fs89)), (q1, .inl (cA2, 20, .inr (.inr (.inr (.inr f3))))), (q7, .inl (cA8, 6, .inr (.inr (.inr (.inr f9))))), (q14, .inl (cA15, 7, .inr (.inr (.inr (.inr f16))))), (q94, .inr (1, ((List.range 2).map (fun k => defaultValue (tyX1 k)))))] H := hP
  have hD : va_D A [(a, .inr (8, fs89)), (q1, .inl (cA2, 20, .inr (.inr (.inr (.inr f3))))), (q7, .inl (cA8, 6, .inr (.inr (.inr (.inr f9))))), (q14, .inl (cA15, 7, .inr (.inr (.inr (.inr f16))))), (q94, .inr (1, ((List.range 2).map (fun k => defaultValue (tyX1 k)))))] := hD
  obtain ⟨fs95, efs95⟩ : ∃ y : List Value, y = (List.range 2).map (fun k => defaultValue (tyX1 k)) := ⟨_, rfl⟩
  rw [← efs95] at hP hD
  have hl_96 : fs95.length = 2 := by rw [efs95, List.length_map, List.length_range]
  have hf_97 : fs95[0]? = some (.null) := by rw [efs95]; rfl
  have hf_98 : fs95[1]? = some (.int 0) := by rw [efs95]; rfl
  refine W.widen (k := 12) (n := 427) (Nat.le_of_ble_eq_true rfl) (Nat.le_of_ble_eq_true rfl) ?_
  refine lv_dup hx hb dX0_init_79 rfl ?_
  have hPc := hP.sub (ws' := [(q94, .inr (1, fs95))]) [4] rfl
  have hDc := hD.sub (ws' := [(q94, .inr (1, fs95))]) [4] (by decide) rfl
  have hKc := hK.sub (tys' := []) [] rfl
  have hFc := va_free (wc := [(q94, .inr (1, fs95))]) hD hS hA [4] rfl
  refine va_callv (va_runIN (As := []) (rest := [.ref q94, .ref a]) ⟨hx, hb, hml, hown, hG⟩ (c_Big_init l dC dI z q94 fs95 H.size hl_96 hf_98) ⟨va_cnB (host := "Seattable") 0 hG (gI m_47) rfl rfl rfl (nw_nest_3 hN) (hG _ m_46) (by decide +kernel) ⟨Nat.le_of_ble_eq_true rfl, Nat.le_of_ble_eq_true rfl⟩, rfl, (hG _ m_48)⟩ ⟨pre_blind, fun U hU hW => ⟨rfl, pre_call hU hW hPc hKc hDc hN (zkeep hZ hS) hFc⟩⟩ rfl rfl hl.1 rfl (lv_room (Nat.le_of_ble_eq_true rfl)) dX0_init_80 ⟨Nat.le_of_ble_eq_true rfl, Nat.le_of_ble_eq_true rfl⟩) hS (fun q _ h => hFc q h) hFc (fun u t H locs ht hvm hw hB hz1 hk1 hS => ?_)
  obtain ⟨fs100, q101, cA102, f103, hP1, hK1, hD1, hy104, hy105, hy106⟩ := hB
  rw [ht] at hP1
  have hK1 := va_K.moved hvm.symm hK1
  obtain ⟨hP, hD⟩ := va_join (wr := [(a, .inr (8, fs89)), (q1, .inl (cA2, 20, .inr (.inr (.inr (.inr f3))))), (q7, .inl (cA8, 6, .inr (.inr (.inr (.inr f9))))), (q14, .inl (cA15, 7, .inr (.inr (.inr (.inr f16)))))]) (w1 := [(q94, .inr (1, fs100)), (q101, .inl (cA102, 96, .inl f103))]) hP hD [4] [0, 1, 2, 3] rfl rfl (by decide) (by decide) hk1 hFc hP1 hD1
  have hK := (hK.sub (tys' := [(cA2, .object "Seattable$Big"), (cA8, .object "Seattable$Big"), (cA15, .object "Seattable$Big")]) [0, 1, 2] rfl).app hK1
  have hP : va_P (dC, dI) classes [(a, .inr (8, fs89)), (q1, .inl (cA2, 20, .inr (.inr (.inr (.inr f3))))), (q7, .inl (cA8, 6, .inr (.inr (.inr (.inr f9))))), (q14, .inl (cA15, 7, .inr (.inr (.inr (.inr f16))))), (q94, .inr (1, fs100)), (q101, .inl (cA102, 96, .inl f103))] H := hP
  have hD : va_D A [(a, .inr (8, fs89)), (q1, .inl (cA2, 20, .inr (.inr (.inr (.inr f3))))), (q7, .inl (cA8, 6, .inr (.inr (.inr (.inr f9))))), (q14, .inl (cA15, 7, .inr (.inr (.inr (.inr f16))))), (q94, .inr (1, fs100)), (q101, .inl (cA102, 96, .inl f103))] := hD
  have hK : va_K (dC, dI) classes [(cA2, .object "Seattable$Big"), (cA8, .object "Seattable$Big"), (cA15, .object "Seattable$Big"), (cA102, .int)] s := hK
  refine W.widen (k := 13) (n := 523) (Nat.le_of_ble_eq_true rfl) (Nat.le_of_ble_eq_true rfl) ?_
  refine va_putF (D := (dC, dI)) (ci := 8) (v := .ref q94) (ty := .object "Seattable$Big") (C := RX0) (T := TX0) (N := 20) hx hb hG iX0 tyX0 tyX0_ok nmX0 hown hK hP hD hS 0 rfl rfl 7 (by decide) (hG _ m_107) (fun _ h9 => h9) rfl hin rfl (by decide +kernel) rfl rfl (by rw [hl_90]; decide) dX0_init_83 (fun H locs hP hD hS => ?_)
  have hP : va_P (dC, dI) classes [(a, .inr (8, (fs89.set 7 (.ref q94)))), (q1, .inl (cA2, 20, .inr (.inr (.inr (.inr f3))))), (q7, .inl (cA8, 6, .inr (.inr (.inr (.inr f9))))), (q14, .inl (cA15, 7, .inr (.inr (.inr (.inr f16))))), (q94, .inr (1, fs100)), (q101, .inl (cA102, 96, .inl f103))] H := hP
  have hD : va_D A [(a, .inr (8, (fs89.set 7 (.ref q94)))), (q1, .inl (cA2, 20, .inr (.inr (.inr (.inr f3))))), (q7, .inl (cA8, 6, .inr (.inr (.inr (.inr f9))))), (q14, .inl (cA15, 7, .inr (.inr (.inr (.inr f16))))), (q94, .inr (1, fs100)), (q101, .inl (cA102, 96, .inl f103))] := hD
  obtain ⟨fs107, efs107⟩ : ∃ y : List Value, y = fs89.set 7 (.ref q94) := ⟨_, rfl⟩
  rw [← efs107] at hP hD
  have hl_108 : fs107.length = 20 := by rw [efs107, List.length_set]; exact hl_90
  have hf_109 : fs107[0]? = some (.ref q1) := by rw [efs107]; exact fs_set_ne hf_91 (by decide)
  have hf_110 : fs107[1]? = some (.ref q7) := by rw [efs107]; exact fs_set_ne hf_92 (by decide)
  have hf_111 : fs107[2]? = some (.ref q14) := by rw [efs107]; exact fs_set_ne hf_93 (by decide)
  have hP := hP.sub (ws' := [(a, .inr (8, fs107)), (q1, .inl (cA2, 20, .inr (.inr (.inr (.inr f3))))), (q7, .inl (cA8, 6, .inr (.inr (.inr (.inr f9))))), (q14, .inl (cA15, 7, .inr (.inr (.inr (.inr f16)))))]) [0, 1, 2, 3] rfl
  have hD := hD.sub (ws' := [(a, .inr (8, fs107)), (q1, .inl (cA2, 20, .inr (.inr (.inr (.inr f3))))), (q7, .inl (cA8, 6, .inr (.inr (.inr (.inr f9))))), (q14, .inl (cA15, 7, .inr (.inr (.inr (.inr f16)))))]) [0, 1, 2, 3] (by decide) rfl
  have hK := hK.sub (tys' := [(cA2, .object "Seattable$Big"), (cA8, .object "Seattable$Big"), (cA15, .object "Seattable$Big")]) [0, 1, 2] rfl
  refine lv_aload_n hx hb dX0_init_86 rfl (lv_at hl 0 rfl) ?_
  refine lv_bipush (v := 120) hx hb dX0_init_87 (by decide) ?_
  refine nf_newa (D := (dC, dI)) (atype := .int) (N' := 120) hx hb (hG _ m_16) hP hS (by decide) (by decide) (Nat.le_of_ble_eq_true rfl) (Nat.le_of_ble_eq_true rfl) (Nat.le_of_ble_eq_true rfl) dX0_init_89 (fun q112 H hP hS hz9 => ?_)
  refine W.widen (k := 14) (n := 643) (Nat.le_of_ble_eq_true rfl) (Nat.le_of_ble_eq_true rfl) ?_
  refine va_putF (D := (dC, dI)) (ci := 8) (v := .ref q112) (ty := .array .int) (C := RX0) (T := TX0) (N := 20) hx hb hG iX0 tyX0 tyX0_ok nmX0 hown hK hP hD hS 0 rfl rfl 8 (by decide) (hG _ m_108) (fun _ h9 => h9) rfl hin rfl (by decide +kernel) rfl rfl (by rw [hl_108]; decide) dX0_init_91 (fun H locs hP hD hS => ?_)
  have hP : va_P (dC, dI) classes [(a, .inr (8, (fs107.set 8 (.ref q112)))), (q1, .inl (cA2, 20, .inr (.inr (.inr (.inr f3))))), (q7, .inl (cA8, 6, .inr (.inr (.inr (.inr f9))))), (q14, .inl (cA15, 7, .inr (.inr (.inr (.inr f16)))))] H := hP
  have hD : va_D A [(a, .inr (8, (fs107.set 8 (.ref q112)))), (q1, .inl (cA2, 20, .inr (.inr (.inr (.inr f3))))), (q7, .inl (cA8, 6, .inr (.inr (.inr (.inr f9))))), (q14, .inl (cA15, 7, .inr (.inr (.inr (.inr f16)))))] := hD
  obtain ⟨fs113, efs113⟩ : ∃ y : List Value, y = fs107.set 8 (.ref q112) := ⟨_, rfl⟩
  rw [← efs113] at hP hD
  have hl_114 : fs113.length = 20 := by rw [efs113, List.length_set]; exact hl_108
  have hf_115 : fs113[0]? = some (.ref q1) := by rw [efs113]; exact fs_set_ne hf_109 (by decide)
  have hf_116 : fs113[1]? = some (.ref q7) := by rw [efs113]; exact fs_set_ne hf_110 (by decide)
  have hf_117 : fs113[2]? = some (.ref q14) := by rw [efs113]; exact fs_set_ne hf_111 (by decide)
  refine lv_aload_n hx hb dX0_init_94 rfl (lv_at hl 0 rfl) ?_
  refine lv_bipush (v := 20) hx hb dX0_init_95 (by decide) ?_
  refine nf_newa (D := (dC, dI)) (atype := .int) (N' := 20) hx hb (hG _ m_16) hP hS (by decide) (by decide) (Nat.le_of_ble_eq_true rfl) (Nat.le_of_ble_eq_true rfl) (Nat.le_of_ble_eq_true rfl) dX0_init_97 (fun q118 H hP hS hz9 => ?_)
  refine W.widen (k := 15) (n := 663) (Nat.le_of_ble_eq_true rfl) (Nat.le_of_ble_eq_true rfl) ?_
  refine va_putF (D := (dC, dI)) (ci := 8) (v := .ref q118) (ty := .array .int) (C := RX0) (T := TX0) (N := 20) hx hb hG iX0 tyX0 tyX0_ok nmX0 hown hK hP hD hS 0 rfl rfl 9 (by decide) (hG _ m_109) (fun _ h9 => h9) rfl hin rfl (by decide +kernel) rfl rfl (by rw [hl_114]; decide) dX0_init_99 (fun H locs hP hD hS => ?_)
  have hP : va_P (dC, dI) classes [(a, .inr (8, (fs113.set 9 (.ref q118)))), (q1, .inl (cA2, 20, .inr (.inr (.inr (.inr f3))))), (q7, .inl (cA8, 6, .inr (.inr (.inr (.inr f9))))), (q14, .inl (cA15, 7, .inr (.inr (.inr (.inr f16)))))] H := hP
  have hD : va_D A [(a, .inr (8, (fs113.set 9 (.ref q118)))), (q1, .inl (cA2, 20, .inr (.inr (.inr (.inr f3))))), (q7, .inl (cA8, 6, .inr (.inr (.inr (.inr f9))))), (q14, .inl (cA15, 7, .inr (.inr (.inr (.inr f16)))))] := hD
  obtain ⟨fs119, efs119⟩ : ∃ y : List Value, y = fs113.set 9 (.ref q118) := ⟨_, rfl⟩
  rw [← efs119] at hP hD
  have hl_120 : fs119.length = 20 := by rw [efs119, List.length_set]; exact hl_114
  have hf_121 : fs119[0]? = some (.ref q1) := by rw [efs119]; exact fs_set_ne hf_115 (by decide)
  have hf_122 : fs119[1]? = some (.ref q7) := by rw [efs119]; exact fs_set_ne hf_116 (by decide)
  have hf_123 : fs119[2]? = some (.ref q14) := by rw [efs119]; exact fs_set_ne hf_117 (by decide)
  refine lv_aload_n hx hb dX0_init_102 rfl (lv_at hl 0 rfl) ?_
  refine lv_bipush (v := 20) hx hb dX0_init_103 (by decide) ?_
  refine nf_newa (D := (dC, dI)) (atype := .int) (N' := 20) hx hb (hG _ m_16) hP hS (by decide) (by decide) (Nat.le_of_ble_eq_true rfl) (Nat.le_of_ble_eq_true rfl) (Nat.le_of_ble_eq_true rfl) dX0_init_105 (fun q124 H hP hS hz9 => ?_)
  refine W.widen (k := 16) (n := 683) (Nat.le_of_ble_eq_true rfl) (Nat.le_of_ble_eq_true rfl) ?_
  refine va_putF (D := (dC, dI)) (ci := 8) (v := .ref q124) (ty := .array .int) (C := RX0) (T := TX0) (N := 20) hx hb hG iX0 tyX0 tyX0_ok nmX0 hown hK hP hD hS 0 rfl rfl 10 (by decide) (hG _ m_110) (fun _ h9 => h9) rfl hin rfl (by decide +kernel) rfl rfl (by rw [hl_120]; decide) dX0_init_107 (fun H locs hP hD hS => ?_)
  have hP : va_P (dC, dI) classes [(a, .inr (8, (fs119.set 10 (.ref q124)))), (q1, .inl (cA2, 20, .inr (.inr (.inr (.inr f3))))), (q7, .inl (cA8, 6, .inr (.inr (.inr (.inr f9))))), (q14, .inl (cA15, 7, .inr (.inr (.inr (.inr f16)))))] H := hP
  have hD : va_D A [(a, .inr (8, (fs119.set 10 (.ref q124)))), (q1, .inl (cA2, 20, .inr (.inr (.inr (.inr f3))))), (q7, .inl (cA8, 6, .inr (.inr (.inr (.inr f9))))), (q14, .inl (cA15, 7, .inr (.inr (.inr (.inr f16)))))] := hD
  obtain ⟨fs125, efs125⟩ : ∃ y : List Value, y = fs119.set 10 (.ref q124) := ⟨_, rfl⟩
  rw [← efs125] at hP hD
  have hl_126 : fs125.length = 20 := by rw [efs125, List.length_set]; exact hl_120
  have hf_127 : fs125[0]? = some (.ref q1) := by rw [efs125]; exact fs_set_ne hf_121 (by decide)
  have hf_128 : fs125[1]? = some (.ref q7) := by rw [efs125]; exact fs_set_ne hf_122 (by decide)
  have hf_129 : fs125[2]? = some (.ref q14) := by rw [efs125]; exact fs_set_ne hf_123 (by decide)
  refine lv_aload_n hx hb dX0_init_110 rfl (lv_at hl 0 rfl) ?_
  refine lv_bipush (v := 20) hx hb dX0_init_111 (by decide) ?_
  refine nf_newa (D := (dC, dI)) (atype := .int) (N' := 20) hx hb (hG _ m_16) hP hS (by decide) (by decide) (Nat.le_of_ble_eq_true rfl) (Nat.le_of_ble_eq_true rfl) (Nat.le_of_ble_eq_true rfl) dX0_init_113 (fun q130 H hP hS hz9 => ?_)
  refine W.widen (k := 17) (n := 703) (Nat.le_of_ble_eq_true rfl) (Nat.le_of_ble_eq_true rfl) ?_
  refine va_putF (D := (dC, dI)) (ci := 8) (v := .ref q130) (ty := .array .int) (C := RX0) (T := TX0) (N := 20) hx hb hG iX0 tyX0 tyX0_ok nmX0 hown hK hP hD hS 0 rfl rfl 11 (by decide) (hG _ m_111) (fun _ h9 => h9) rfl hin rfl (by decide +kernel) rfl rfl (by rw [hl_126]; decide) dX0_init_115 (fun H locs hP hD hS => ?_)
  have hP : va_P (dC, dI) classes [(a, .inr (8, (fs125.set 11 (.ref q130)))), (q1, .inl (cA2, 20, .inr (.inr (.inr (.inr f3))))), (q7, .inl (cA8, 6, .inr (.inr (.inr (.inr f9))))), (q14, .inl (cA15, 7, .inr (.inr (.inr (.inr f16)))))] H := hP
  have hD : va_D A [(a, .inr (8, (fs125.set 11 (.ref q130)))), (q1, .inl (cA2, 20, .inr (.inr (.inr (.inr f3))))), (q7, .inl (cA8, 6, .inr (.inr (.inr (.inr f9))))), (q14, .inl (cA15, 7, .inr (.inr (.inr (.inr f16)))))] := hD
  obtain ⟨fs131, efs131⟩ : ∃ y : List Value, y = fs125.set 11 (.ref q130) := ⟨_, rfl⟩
  rw [← efs131] at hP hD
  have hl_132 : fs131.length = 20 := by rw [efs131, List.length_set]; exact hl_126
  have hf_133 : fs131[0]? = some (.ref q1) := by rw [efs131]; exact fs_set_ne hf_127 (by decide)
  have hf_134 : fs131[1]? = some (.ref q7) := by rw [efs131]; exact fs_set_ne hf_128 (by decide)
  have hf_135 : fs131[2]? = some (.ref q14) := by rw [efs131]; exact fs_set_ne hf_129 (by decide)
  refine lv_aload_n hx hb dX0_init_118 rfl (lv_at hl 0 rfl) ?_
  refine lv_bipush (v := 6) hx hb dX0_init_119 (by decide) ?_
  refine nf_newa (D := (dC, dI)) (atype := .int) (N' := 6) hx hb (hG _ m_16) hP hS (by decide) (by decide) (Nat.le_of_ble_eq_true rfl) (Nat.le_of_ble_eq_true rfl) (Nat.le_of_ble_eq_true rfl) dX0_init_121 (fun q136 H hP hS hz9 => ?_)
  refine W.widen (k := 18) (n := 709) (Nat.le_of_ble_eq_true rfl) (Nat.le_of_ble_eq_true rfl) ?_
  refine va_putF (D := (dC, dI)) (ci := 8) (v := .ref q136) (ty := .array .int) (C := RX0) (T := TX0) (N := 20) hx hb hG iX0 tyX0 tyX0_ok nmX0 hown hK hP hD hS 0 rfl rfl 17 (by decide) (hG _ m_112) (fun _ h9 => h9) rfl hin rfl (by decide +kernel) rfl rfl (by rw [hl_132]; decide) dX0_init_123 (fun H locs hP hD hS => ?_)
  have hP : va_P (dC, dI) classes [(a, .inr (8, (fs131.set 17 (.ref q136)))), (q1, .inl (cA2, 20, .inr (.inr (.inr (.inr f3))))), (q7, .inl (cA8, 6, .inr (.inr (.inr (.inr f9))))), (q14, .inl (cA15, 7, .inr (.inr (.inr (.inr f16)))))] H := hP
  have hD : va_D A [(a, .inr (8, (fs131.set 17 (.ref q136)))), (q1, .inl (cA2, 20, .inr (.inr (.inr (.inr f3))))), (q7, .inl (cA8, 6, .inr (.inr (.inr (.inr f9))))), (q14, .inl (cA15, 7, .inr (.inr (.inr (.inr f16)))))] := hD
  obtain ⟨fs137, efs137⟩ : ∃ y : List Value, y = fs131.set 17 (.ref q136) := ⟨_, rfl⟩
  rw [← efs137] at hP hD
  have hl_138 : fs137.length = 20 := by rw [efs137, List.length_set]; exact hl_132
  have hf_139 : fs137[0]? = some (.ref q1) := by rw [efs137]; exact fs_set_ne hf_133 (by decide)
  have hf_140 : fs137[1]? = some (.ref q7) := by rw [efs137]; exact fs_set_ne hf_134 (by decide)
  have hf_141 : fs137[2]? = some (.ref q14) := by rw [efs137]; exact fs_set_ne hf_135 (by decide)
  refine lv_iconst (v := 0) hx hb dX0_init_126 (by decide) ?_
  refine lv_istore_n (lv' := [(1, .int 0), (0, .ref a)]) hx hb dX0_init_127 rfl hl (by decide) rfl (fun ls hl => ?_)
  refine lv_iload_n hx hb dX0_init_128 rfl (lv_at hl 0 rfl) ?_
  refine lv_bipush (v := 20) hx hb dX0_init_129 (by decide) ?_
  refine lv_icmp_ge (tgt := 153) hx hb dX0_init_131 (by decide) (fun c9 => absurd c9 (by decide)) (fun _ => ?_)
  refine lv_aload_n hx hb dX0_init_134 rfl (lv_at hl 1 rfl) ?_
  refine va_get (D := (dC, dI)) (ci := 8) (v := .ref q1) (C := RX0) (T := TX0) (N := 20) hx hb hG iX0 hown hK hP 0 rfl rfl 0 (by decide) (hG _ m_100) (fun _ h9 => h9) hf_139 dX0_init_135 ?_
  refine lv_iload_n hx hb dX0_init_138 rfl (lv_at hl 0 rfl) ?_
  refine va_new (D := (dC, dI)) (ci := 1) (fs := (List.range 2).map (fun k => defaultValue (tyX1 k))) (C := RX1) (T := TX1) (N := 2) hx hb hG iX1 tyX1 tyX1_ok hown (hG _ m_99) (hG _ m_45) (hG _ m_46) hK hP hD hS hA rfl (fs_new 2 tyX1) (Nat.le_of_ble_eq_true rfl) (Nat.le_of_ble_eq_true rfl) dX0_init_139 (fun q142 H hP hD hS => ?_)
  have hP : va_P (dC, dI) classes [(a, .inr (8, fs137)), (q1, .inl (cA2, 20, .inr (.inr (.inr (.inr f3))))), (q7, .inl (cA8, 6, .inr (.inr (.inr (.inr f9))))), (q14, .inl (cA15, 7, .inr (.inr (.inr (.inr f16))))), (q142, .inr (1, ((List.range 2).map (fun k => defaultValue (tyX1 k)))))] H := hP
  have hD : va_D A [(a, .inr (8, fs137)), (q1, .inl (cA2, 20, .inr (.inr (.inr (.inr f3))))), (q7, .inl (cA8, 6, .inr (.inr (.inr (.inr f9))))), (q14, .inl (cA15, 7, .inr (.inr (.inr (.inr f16))))), (q142, .inr (1, ((List.range 2).map (fun k => defaultValue (tyX1 k)))))] := hD
  obtain ⟨fs143, efs143⟩ : ∃ y : List Value, y = (List.range 2).map (fun k => defaultValue (tyX1 k)) := ⟨_, rfl⟩
  rw [← efs143] at hP hD
  have hl_144 : fs143.length = 2 := by rw [efs143, List.length_map, List.length_range]
  have hf_145 : fs143[0]? = some (.null) := by rw [efs143]; rfl
  have hf_146 : fs143[1]? = some (.int 0) := by rw [efs143]; rfl
  refine W.widen (k := 19) (n := 711) (Nat.le_of_ble_eq_true rfl) (Nat.le_of_ble_eq_true rfl) ?_
  refine lv_dup hx hb dX0_init_142 rfl ?_
  have hPc := hP.sub (ws' := [(q142, .inr (1, fs143))]) [4] rfl
  have hDc := hD.sub (ws' := [(q142, .inr (1, fs143))]) [4] (by decide) rfl
  have hKc := hK.sub (tys' := []) [] rfl
  have hFc := va_free (wc := [(q142, .inr (1, fs143))]) hD hS hA [4] rfl
  refine va_callv (va_runIN (As := []) (rest := [.ref q142, .int 0, .ref q1]) ⟨hx, hb, hml, hown, hG⟩ (c_Big_init l dC dI z q142 fs143 H.size hl_144 hf_146) ⟨va_cnB (host := "Seattable") 0 hG (gI m_47) rfl rfl rfl (nw_nest_3 hN) (hG _ m_46) (by decide +kernel) ⟨Nat.le_of_ble_eq_true rfl, Nat.le_of_ble_eq_true rfl⟩, rfl, (hG _ m_48)⟩ ⟨pre_blind, fun U hU hW => ⟨rfl, pre_call hU hW hPc hKc hDc hN (zkeep hZ hS) hFc⟩⟩ rfl rfl hl.1 rfl (lv_room (Nat.le_of_ble_eq_true rfl)) dX0_init_143 ⟨Nat.le_of_ble_eq_true rfl, Nat.le_of_ble_eq_true rfl⟩) hS (fun q _ h => hFc q h) hFc (fun u t H locs ht hvm hw hB hz1 hk1 hS => ?_)
  obtain ⟨fs148, q149, cA150, f151, hP1, hK1, hD1, hy152, hy153, hy154⟩ := hB
  rw [ht] at hP1
  have hK1 := va_K.moved hvm.symm hK1
  obtain ⟨hP, hD⟩ := va_join (wr := [(a, .inr (8, fs137)), (q1, .inl (cA2, 20, .inr (.inr (.inr (.inr f3))))), (q7, .inl (cA8, 6, .inr (.inr (.inr (.inr f9))))), (q14, .inl (cA15, 7, .inr (.inr (.inr (.inr f16)))))]) (w1 := [(q142, .inr (1, fs148)), (q149, .inl (cA150, 96, .inl f151))]) hP hD [4] [0, 1, 2, 3] rfl rfl (by decide) (by decide) hk1 hFc hP1 hD1
  have hK := (hK.sub (tys' := [(cA2, .object "Seattable$Big"), (cA8, .object "Seattable$Big"), (cA15, .object "Seattable$Big")]) [0, 1, 2] rfl).app hK1
  have hP : va_P (dC, dI) classes [(a, .inr (8, fs137)), (q1, .inl (cA2, 20, .inr (.inr (.inr (.inr f3))))), (q7, .inl (cA8, 6, .inr (.inr (.inr (.inr f9))))), (q14, .inl (cA15, 7, .inr (.inr (.inr (.inr f16))))), (q142, .inr (1, fs148)), (q149, .inl (cA150, 96, .inl f151))] H := hP
  have hD : va_D A [(a, .inr (8, fs137)), (q1, .inl (cA2, 20, .inr (.inr (.inr (.inr f3))))), (q7, .inl (cA8, 6, .inr (.inr (.inr (.inr f9))))), (q14, .inl (cA15, 7, .inr (.inr (.inr (.inr f16))))), (q142, .inr (1, fs148)), (q149, .inl (cA150, 96, .inl f151))] := hD
  have hK : va_K (dC, dI) classes [(cA2, .object "Seattable$Big"), (cA8, .object "Seattable$Big"), (cA15, .object "Seattable$Big"), (cA150, .int)] s := hK
  refine W.widen (k := 20) (n := 807) (Nat.le_of_ble_eq_true rfl) (Nat.le_of_ble_eq_true rfl) ?_
  refine va_astq (D := (dC, dI)) (ci := 1) (r := (RX1, TX1, 2)) hx hb hK hP hD hS 1 0 4 rfl rfl rfl rfl (by unfold vp_in; decide) dX0_init_146 (fun H locs hP hD hS => ?_)
  have hP : va_P (dC, dI) classes [(a, .inr (8, fs137)), (q1, .inl (cA2, 20, .inr (.inr (.inr (.inr (va_up f3 (0 : Int32).toNatClampNeg (some q142))))))), (q7, .inl (cA8, 6, .inr (.inr (.inr (.inr f9))))), (q14, .inl (cA15, 7, .inr (.inr (.inr (.inr f16))))), (q142, .inr (1, fs148)), (q149, .inl (cA150, 96, .inl f151))] H := hP
  have hD : va_D A [(a, .inr (8, fs137)), (q1, .inl (cA2, 20, .inr (.inr (.inr (.inr (va_up f3 (0 : Int32).toNatClampNeg (some q142))))))), (q7, .inl (cA8, 6, .inr (.inr (.inr (.inr f9))))), (q14, .inl (cA15, 7, .inr (.inr (.inr (.inr f16))))), (q142, .inr (1, fs148)), (q149, .inl (cA150, 96, .inl f151))] := hD
  obtain ⟨f155, ef155⟩ : ∃ y : Nat → Option Nat, y = (va_up f3 (0 : Int32).toNatClampNeg (some q142)) := ⟨_, rfl⟩
  rw [← ef155] at hP hD
  have hP := hP.sub (ws' := [(a, .inr (8, fs137)), (q1, .inl (cA2, 20, .inr (.inr (.inr (.inr f155))))), (q7, .inl (cA8, 6, .inr (.inr (.inr (.inr f9))))), (q14, .inl (cA15, 7, .inr (.inr (.inr (.inr f16)))))]) [0, 1, 2, 3] rfl
  have hD := hD.sub (ws' := [(a, .inr (8, fs137)), (q1, .inl (cA2, 20, .inr (.inr (.inr (.inr f155))))), (q7, .inl (cA8, 6, .inr (.inr (.inr (.inr f9))))), (q14, .inl (cA15, 7, .inr (.inr (.inr (.inr f16)))))]) [0, 1, 2, 3] (by decide) rfl
  have hK := hK.sub (tys' := [(cA2, .object "Seattable$Big"), (cA8, .object "Seattable$Big"), (cA15, .object "Seattable$Big")]) [0, 1, 2] rfl
  refine lv_iinc (v := 1) (lv' := [(1, .int 1), (0, .ref a)]) hx hb dX0_init_147 hl (k := 0) rfl (by decide) (by decide) rfl (fun ls hl => ?_)
  refine lv_goto (tgt := 128) hx hb dX0_init_150 (by decide) ?_
  refine lv_iload_n hx hb dX0_init_128 rfl (lv_at hl 0 rfl) ?_
  refine lv_bipush (v := 20) hx hb dX0_init_129 (by decide) ?_
  refine lv_icmp_ge (tgt := 153) hx hb dX0_init_131 (by decide) (fun c9 => absurd c9 (by decide)) (fun _ => ?_)
  refine lv_aload_n hx hb dX0_init_134 rfl (lv_at hl 1 rfl) ?_
  refine va_get (D := (dC, dI)) (ci := 8) (v := .ref q1) (C := RX0) (T := TX0) (N := 20) hx hb hG iX0 hown hK hP 0 rfl rfl 0 (by decide) (hG _ m_100) (fun _ h9 => h9) hf_139 dX0_init_135 ?_
  refine lv_iload_n hx hb dX0_init_138 rfl (lv_at hl 0 rfl) ?_
  refine va_new (D := (dC, dI)) (ci := 1) (fs := (List.range 2).map (fun k => defaultValue (tyX1 k))) (C := RX1) (T := TX1) (N := 2) hx hb hG iX1 tyX1 tyX1_ok hown (hG _ m_99) (hG _ m_45) (hG _ m_46) hK hP hD hS hA rfl (fs_new 2 tyX1) (Nat.le_of_ble_eq_true rfl) (Nat.le_of_ble_eq_true rfl) dX0_init_139 (fun q156 H hP hD hS => ?_)
  have hP : va_P (dC, dI) classes [(a, .inr (8, fs137)), (q1, .inl (cA2, 20, .inr (.inr (.inr (.inr f155))))), (q7, .inl (cA8, 6, .inr (.inr (.inr (.inr f9))))), (q14, .inl (cA15, 7, .inr (.inr (.inr (.inr f16))))), (q156, .inr (1, ((List.range 2).map (fun k => defaultValue (tyX1 k)))))] H := hP
  have hD : va_D A [(a, .inr (8, fs137)), (q1, .inl (cA2, 20, .inr (.inr (.inr (.inr f155))))), (q7, .inl (cA8, 6, .inr (.inr (.inr (.inr f9))))), (q14, .inl (cA15, 7, .inr (.inr (.inr (.inr f16))))), (q156, .inr (1, ((List.range 2).map (fun k => defaultValue (tyX1 k)))))] := hD
  obtain ⟨fs157, efs157⟩ : ∃ y : List Value, y = (List.range 2).map (fun k => defaultValue (tyX1 k)) := ⟨_, rfl⟩
  rw [← efs157] at hP hD
  have hl_158 : fs157.length = 2 := by rw [efs157, List.length_map, List.length_range]
  have hf_159 : fs157[0]? = some (.null) := by rw [efs157]; rfl
  have hf_160 : fs157[1]? = some (.int 0) := by rw [efs157]; rfl
  refine W.widen (k := 21) (n := 809) (Nat.le_of_ble_eq_true rfl) (Nat.le_of_ble_eq_true rfl) ?_
  refine lv_dup hx hb dX0_init_142 rfl ?_
  have hPc := hP.sub (ws' := [(q156, .inr (1, fs157))]) [4] rfl
  have hDc := hD.sub (ws' := [(q156, .inr (1, fs157))]) [4] (by decide) rfl
  have hKc := hK.sub (tys' := []) [] rfl
  have hFc := va_free (wc := [(q156, .inr (1, fs157))]) hD hS hA [4] rfl
  refine va_callv (va_runIN (As := []) (rest := [.ref q156, .int 1, .ref q1]) ⟨hx, hb, hml, hown, hG⟩ (c_Big_init l dC dI z q156 fs157 H.size hl_158 hf_160) ⟨va_cnB (host := "Seattable") 0 hG (gI m_47) rfl rfl rfl (nw_nest_3 hN) (hG _ m_46) (by decide +kernel) ⟨Nat.le_of_ble_eq_true rfl, Nat.le_of_ble_eq_true rfl⟩, rfl, (hG _ m_48)⟩ ⟨pre_blind, fun U hU hW => ⟨rfl, pre_call hU hW hPc hKc hDc hN (zkeep hZ hS) hFc⟩⟩ rfl rfl hl.1 rfl (lv_room (Nat.le_of_ble_eq_true rfl)) dX0_init_143 ⟨Nat.le_of_ble_eq_true rfl, Nat.le_of_ble_eq_true rfl⟩) hS (fun q _ h => hFc q h) hFc (fun u t H locs ht hvm hw hB hz1 hk1 hS => ?_)
  obtain ⟨fs162, q163, cA164, f165, hP1, hK1, hD1, hy166, hy167, hy168⟩ := hB
  rw [ht] at hP1
  have hK1 := va_K.moved hvm.symm hK1
  obtain ⟨hP, hD⟩ := va_join (wr := [(a, .inr (8, fs137)), (q1, .inl (cA2, 20, .inr (.inr (.inr (.inr f155))))), (q7, .inl (cA8, 6, .inr (.inr (.inr (.inr f9))))), (q14, .inl (cA15, 7, .inr (.inr (.inr (.inr f16)))))]) (w1 := [(q156, .inr (1, fs162)), (q163, .inl (cA164, 96, .inl f165))]) hP hD [4] [0, 1, 2, 3] rfl rfl (by decide) (by decide) hk1 hFc hP1 hD1
  have hK := (hK.sub (tys' := [(cA2, .object "Seattable$Big"), (cA8, .object "Seattable$Big"), (cA15, .object "Seattable$Big")]) [0, 1, 2] rfl).app hK1
  have hP : va_P (dC, dI) classes [(a, .inr (8, fs137)), (q1, .inl (cA2, 20, .inr (.inr (.inr (.inr f155))))), (q7, .inl (cA8, 6, .inr (.inr (.inr (.inr f9))))), (q14, .inl (cA15, 7, .inr (.inr (.inr (.inr f16))))), (q156, .inr (1, fs162)), (q163, .inl (cA164, 96, .inl f165))] H := hP
  have hD : va_D A [(a, .inr (8, fs137)), (q1, .inl (cA2, 20, .inr (.inr (.inr (.inr f155))))), (q7, .inl (cA8, 6, .inr (.inr (.inr (.inr f9))))), (q14, .inl (cA15, 7, .inr (.inr (.inr (.inr f16))))), (q156, .inr (1, fs162)), (q163, .inl (cA164, 96, .inl f165))] := hD
  have hK : va_K (dC, dI) classes [(cA2, .object "Seattable$Big"), (cA8, .object "Seattable$Big"), (cA15, .object "Seattable$Big"), (cA164, .int)] s := hK
  refine W.widen (k := 22) (n := 905) (Nat.le_of_ble_eq_true rfl) (Nat.le_of_ble_eq_true rfl) ?_
  refine va_astq (D := (dC, dI)) (ci := 1) (r := (RX1, TX1, 2)) hx hb hK hP hD hS 1 0 4 rfl rfl rfl rfl (by unfold vp_in; decide) dX0_init_146 (fun H locs hP hD hS => ?_)
  have hP : va_P (dC, dI) classes [(a, .inr (8, fs137)), (q1, .inl (cA2, 20, .inr (.inr (.inr (.inr (va_up f155 (1 : Int32).toNatClampNeg (some q156))))))), (q7, .inl (cA8, 6, .inr (.inr (.inr (.inr f9))))), (q14, .inl (cA15, 7, .inr (.inr (.inr (.inr f16))))), (q156, .inr (1, fs162)), (q163, .inl (cA164, 96, .inl f165))] H := hP
  have hD : va_D A [(a, .inr (8, fs137)), (q1, .inl (cA2, 20, .inr (.inr (.inr (.inr (va_up f155 (1 : Int32).toNatClampNeg (some q156))))))), (q7, .inl (cA8, 6, .inr (.inr (.inr (.inr f9))))), (q14, .inl (cA15, 7, .inr (.inr (.inr (.inr f16))))), (q156, .inr (1, fs162)), (q163, .inl (cA164, 96, .inl f165))] := hD
  obtain ⟨f169, ef169⟩ : ∃ y : Nat → Option Nat, y = (va_up f155 (1 : Int32).toNatClampNeg (some q156)) := ⟨_, rfl⟩
  rw [← ef169] at hP hD
  have hP := hP.sub (ws' := [(a, .inr (8, fs137)), (q1, .inl (cA2, 20, .inr (.inr (.inr (.inr f169))))), (q7, .inl (cA8, 6, .inr (.inr (.inr (.inr f9))))), (q14, .inl (cA15, 7, .inr (.inr (.inr (.inr f16)))))]) [0, 1, 2, 3] rfl
  have hD := hD.sub (ws' := [(a, .inr (8, fs137)), (q1, .inl (cA2, 20, .inr (.inr (.inr (.inr f169))))), (q7, .inl (cA8, 6, .inr (.inr (.inr (.inr f9))))), (q14, .inl (cA15, 7, .inr (.inr (.inr (.inr f16)))))]) [0, 1, 2, 3] (by decide) rfl
  have hK := hK.sub (tys' := [(cA2, .object "Seattable$Big"), (cA8, .object "Seattable$Big"), (cA15, .object "Seattable$Big")]) [0, 1, 2] rfl
  refine lv_iinc (v := 2) (lv' := [(1, .int 2), (0, .ref a)]) hx hb dX0_init_147 hl (k := 0) rfl (by decide) (by decide) rfl (fun ls hl => ?_)
  refine lv_goto (tgt := 128) hx hb dX0_init_150 (by decide) ?_
  refine lv_iload_n hx hb dX0_init_128 rfl (lv_at hl 0 rfl) ?_
  refine lv_bipush (v := 20) hx hb dX0_init_129 (by decide) ?_
  refine lv_icmp_ge (tgt := 153) hx hb dX0_init_131 (by decide) (fun c9 => absurd c9 (by decide)) (fun _ => ?_)
  refine lv_aload_n hx hb dX0_init_134 rfl (lv_at hl 1 rfl) ?_
  refine va_get (D := (dC, dI)) (ci := 8) (v := .ref q1) (C := RX0) (T := TX0) (N := 20) hx hb hG iX0 hown hK hP 0 rfl rfl 0 (by decide) (hG _ m_100) (fun _ h9 => h9) hf_139 dX0_init_135 ?_
  refine lv_iload_n hx hb dX0_init_138 rfl (lv_at hl 0 rfl) ?_
  refine va_new (D := (dC, dI)) (ci := 1) (fs := (List.range 2).map (fun k => defaultValue (tyX1 k))) (C := RX1) (T := TX1) (N := 2) hx hb hG iX1 tyX1 tyX1_ok hown (hG _ m_99) (hG _ m_45) (hG _ m_46) hK hP hD hS hA rfl (fs_new 2 tyX1) (Nat.le_of_ble_eq_true rfl) (Nat.le_of_ble_eq_true rfl) dX0_init_139 (fun q170 H hP hD hS => ?_)
  have hP : va_P (dC, dI) classes [(a, .inr (8, fs137)), (q1, .inl (cA2, 20, .inr (.inr (.inr (.inr f169))))), (q7, .inl (cA8, 6, .inr (.inr (.inr (.inr f9))))), (q14, .inl (cA15, 7, .inr (.inr (.inr (.inr f16))))), (q170, .inr (1, ((List.range 2).map (fun k => defaultValue (tyX1 k)))))] H := hP
  have hD : va_D A [(a, .inr (8, fs137)), (q1, .inl (cA2, 20, .inr (.inr (.inr (.inr f169))))), (q7, .inl (cA8, 6, .inr (.inr (.inr (.inr f9))))), (q14, .inl (cA15, 7, .inr (.inr (.inr (.inr f16))))), (q170, .inr (1, ((List.range 2).map (fun k => defaultValue (tyX1 k)))))] := hD
  obtain ⟨fs171, efs171⟩ : ∃ y : List Value, y = (List.range 2).map (fun k => defaultValue (tyX1 k)) := ⟨_, rfl⟩
  rw [← efs171] at hP hD
  have hl_172 : fs171.length = 2 := by rw [efs171, List.length_map, List.length_range]
  have hf_173 : fs171[0]? = some (.null) := by rw [efs171]; rfl
  have hf_174 : fs171[1]? = some (.int 0) := by rw [efs171]; rfl
  refine W.widen (k := 23) (n := 907) (Nat.le_of_ble_eq_true rfl) (Nat.le_of_ble_eq_true rfl) ?_
  refine lv_dup hx hb dX0_init_142 rfl ?_
  have hPc := hP.sub (ws' := [(q170, .inr (1, fs171))]) [4] rfl
  have hDc := hD.sub (ws' := [(q170, .inr (1, fs171))]) [4] (by decide) rfl
  have hKc := hK.sub (tys' := []) [] rfl
  have hFc := va_free (wc := [(q170, .inr (1, fs171))]) hD hS hA [4] rfl
  refine va_callv (va_runIN (As := []) (rest := [.ref q170, .int 2, .ref q1]) ⟨hx, hb, hml, hown, hG⟩ (c_Big_init l dC dI z q170 fs171 H.size hl_172 hf_174) ⟨va_cnB (host := "Seattable") 0 hG (gI m_47) rfl rfl rfl (nw_nest_3 hN) (hG _ m_46) (by decide +kernel) ⟨Nat.le_of_ble_eq_true rfl, Nat.le_of_ble_eq_true rfl⟩, rfl, (hG _ m_48)⟩ ⟨pre_blind, fun U hU hW => ⟨rfl, pre_call hU hW hPc hKc hDc hN (zkeep hZ hS) hFc⟩⟩ rfl rfl hl.1 rfl (lv_room (Nat.le_of_ble_eq_true rfl)) dX0_init_143 ⟨Nat.le_of_ble_eq_true rfl, Nat.le_of_ble_eq_true rfl⟩) hS (fun q _ h => hFc q h) hFc (fun u t H locs ht hvm hw hB hz1 hk1 hS => ?_)
  obtain ⟨fs176, q177, cA178, f179, hP1, hK1, hD1, hy180, hy181, hy182⟩ := hB
  rw [ht] at hP1
  have hK1 := va_K.moved hvm.symm hK1
  obtain ⟨hP, hD⟩ := va_join (wr := [(a, .inr (8, fs137)), (q1, .inl (cA2, 20, .inr (.inr (.inr (.inr f169))))), (q7, .inl (cA8, 6, .inr (.inr (.inr (.inr f9))))), (q14, .inl (cA15, 7, .inr (.inr (.inr (.inr f16)))))]) (w1 := [(q170, .inr (1, fs176)), (q177, .inl (cA178, 96, .inl f179))]) hP hD [4] [0, 1, 2, 3] rfl rfl (by decide) (by decide) hk1 hFc hP1 hD1
  have hK := (hK.sub (tys' := [(cA2, .object "Seattable$Big"), (cA8, .object "Seattable$Big"), (cA15, .object "Seattable$Big")]) [0, 1, 2] rfl).app hK1
  have hP : va_P (dC, dI) classes [(a, .inr (8, fs137)), (q1, .inl (cA2, 20, .inr (.inr (.inr (.inr f169))))), (q7, .inl (cA8, 6, .inr (.inr (.inr (.inr f9))))), (q14, .inl (cA15, 7, .inr (.inr (.inr (.inr f16))))), (q170, .inr (1, fs176)), (q177, .inl (cA178, 96, .inl f179))] H := hP
  have hD : va_D A [(a, .inr (8, fs137)), (q1, .inl (cA2, 20, .inr (.inr (.inr (.inr f169))))), (q7, .inl (cA8, 6, .inr (.inr (.inr (.inr f9))))), (q14, .inl (cA15, 7, .inr (.inr (.inr (.inr f16))))), (q170, .inr (1, fs176)), (q177, .inl (cA178, 96, .inl f179))] := hD
  have hK : va_K (dC, dI) classes [(cA2, .object "Seattable$Big"), (cA8, .object "Seattable$Big"), (cA15, .object "Seattable$Big"), (cA178, .int)] s := hK
  refine W.widen (k := 24) (n := 1003) (Nat.le_of_ble_eq_true rfl) (Nat.le_of_ble_eq_true rfl) ?_
  refine va_astq (D := (dC, dI)) (ci := 1) (r := (RX1, TX1, 2)) hx hb hK hP hD hS 1 0 4 rfl rfl rfl rfl (by unfold vp_in; decide) dX0_init_146 (fun H locs hP hD hS => ?_)
  have hP : va_P (dC, dI) classes [(a, .inr (8, fs137)), (q1, .inl (cA2, 20, .inr (.inr (.inr (.inr (va_up f169 (2 : Int32).toNatClampNeg (some q170))))))), (q7, .inl (cA8, 6, .inr (.inr (.inr (.inr f9))))), (q14, .inl (cA15, 7, .inr (.inr (.inr (.inr f16))))), (q170, .inr (1, fs176)), (q177, .inl (cA178, 96, .inl f179))] H := hP
  have hD : va_D A [(a, .inr (8, fs137)), (q1, .inl (cA2, 20, .inr (.inr (.inr (.inr (va_up f169 (2 : Int32).toNatClampNeg (some q170))))))), (q7, .inl (cA8, 6, .inr (.inr (.inr (.inr f9))))), (q14, .inl (cA15, 7, .inr (.inr (.inr (.inr f16))))), (q170, .inr (1, fs176)), (q177, .inl (cA178, 96, .inl f179))] := hD
  obtain ⟨f183, ef183⟩ : ∃ y : Nat → Option Nat, y = (va_up f169 (2 : Int32).toNatClampNeg (some q170)) := ⟨_, rfl⟩
  rw [← ef183] at hP hD
  have hP := hP.sub (ws' := [(a, .inr (8, fs137)), (q1, .inl (cA2, 20, .inr (.inr (.inr (.inr f183))))), (q7, .inl (cA8, 6, .inr (.inr (.inr (.inr f9))))), (q14, .inl (cA15, 7, .inr (.inr (.inr (.inr f16)))))]) [0, 1, 2, 3] rfl
  have hD := hD.sub (ws' := [(a, .inr (8, fs137)), (q1, .inl (cA2, 20, .inr (.inr (.inr (.inr f183))))), (q7, .inl (cA8, 6, .inr (.inr (.inr (.inr f9))))), (q14, .inl (cA15, 7, .inr (.inr (.inr (.inr f16)))))]) [0, 1, 2, 3] (by decide) rfl
  have hK := hK.sub (tys' := [(cA2, .object "Seattable$Big"), (cA8, .object "Seattable$Big"), (cA15, .object "Seattable$Big")]) [0, 1, 2] rfl
  refine lv_iinc (v := 3) (lv' := [(1, .int 3), (0, .ref a)]) hx hb dX0_init_147 hl (k := 0) rfl (by decide) (by decide) rfl (fun ls hl => ?_)
  refine lv_goto (tgt := 128) hx hb dX0_init_150 (by decide) ?_
  refine lv_iload_n hx hb dX0_init_128 rfl (lv_at hl 0 rfl) ?_
  refine lv_bipush (v := 20) hx hb dX0_init_129 (by decide) ?_
  refine lv_icmp_ge (tgt := 153) hx hb dX0_init_131 (by decide) (fun c9 => absurd c9 (by decide)) (fun _ => ?_)
  refine lv_aload_n hx hb dX0_init_134 rfl (lv_at hl 1 rfl) ?_
  refine va_get (D := (dC, dI)) (ci := 8) (v := .ref q1) (C := RX0) (T := TX0) (N := 20) hx hb hG iX0 hown hK hP 0 rfl rfl 0 (by decide) (hG _ m_100) (fun _ h9 => h9) hf_139 dX0_init_135 ?_
  refine lv_iload_n hx hb dX0_init_138 rfl (lv_at hl 0 rfl) ?_
  refine va_new (D := (dC, dI)) (ci := 1) (fs := (List.range 2).map (fun k => defaultValue (tyX1 k))) (C := RX1) (T := TX1) (N := 2) hx hb hG iX1 tyX1 tyX1_ok hown (hG _ m_99) (hG _ m_45) (hG _ m_46) hK hP hD hS hA rfl (fs_new 2 tyX1) (Nat.le_of_ble_eq_true rfl) (Nat.le_of_ble_eq_true rfl) dX0_init_139 (fun q184 H hP hD hS => ?_)
  have hP : va_P (dC, dI) classes [(a, .inr (8, fs137)), (q1, .inl (cA2, 20, .inr (.inr (.inr (.inr f183))))), (q7, .inl (cA8, 6, .inr (.inr (.inr (.inr f9))))), (q14, .inl (cA15, 7, .inr (.inr (.inr (.inr f16))))), (q184, .inr (1, ((List.range 2).map (fun k => defaultValue (tyX1 k)))))] H := hP
  have hD : va_D A [(a, .inr (8, fs137)), (q1, .inl (cA2, 20, .inr (.inr (.inr (.inr f183))))), (q7, .inl (cA8, 6, .inr (.inr (.inr (.inr f9))))), (q14, .inl (cA15, 7, .inr (.inr (.inr (.inr f16))))), (q184, .inr (1, ((List.range 2).map (fun k => defaultValue (tyX1 k)))))] := hD
  obtain ⟨fs185, efs185⟩ : ∃ y : List Value, y = (List.range 2).map (fun k => defaultValue (tyX1 k)) := ⟨_, rfl⟩
  rw [← efs185] at hP hD
  have hl_186 : fs185.length = 2 := by rw [efs185, List.length_map, List.length_range]
  have hf_187 : fs185[0]? = some (.null) := by rw [efs185]; rfl
  have hf_188 : fs185[1]? = some (.int 0) := by rw [efs185]; rfl
  refine W.widen (k := 25) (n := 1005) (Nat.le_of_ble_eq_true rfl) (Nat.le_of_ble_eq_true rfl) ?_
  refine lv_dup hx hb dX0_init_142 rfl ?_
  have hPc := hP.sub (ws' := [(q184, .inr (1, fs185))]) [4] rfl
  have hDc := hD.sub (ws' := [(q184, .inr (1, fs185))]) [4] (by decide) rfl
  have hKc := hK.sub (tys' := []) [] rfl
  have hFc := va_free (wc := [(q184, .inr (1, fs185))]) hD hS hA [4] rfl
  refine va_callv (va_runIN (As := []) (rest := [.ref q184, .int 3, .ref q1]) ⟨hx, hb, hml, hown, hG⟩ (c_Big_init l dC dI z q184 fs185 H.size hl_186 hf_188) ⟨va_cnB (host := "Seattable") 0 hG (gI m_47) rfl rfl rfl (nw_nest_3 hN) (hG _ m_46) (by decide +kernel) ⟨Nat.le_of_ble_eq_true rfl, Nat.le_of_ble_eq_true rfl⟩, rfl, (hG _ m_48)⟩ ⟨pre_blind, fun U hU hW => ⟨rfl, pre_call hU hW hPc hKc hDc hN (zkeep hZ hS) hFc⟩⟩ rfl rfl hl.1 rfl (lv_room (Nat.le_of_ble_eq_true rfl)) dX0_init_143 ⟨Nat.le_of_ble_eq_true rfl, Nat.le_of_ble_eq_true rfl⟩) hS (fun q _ h => hFc q h) hFc (fun u t H locs ht hvm hw hB hz1 hk1 hS => ?_)
  obtain ⟨fs190, q191, cA192, f193, hP1, hK1, hD1, hy194, hy195, hy196⟩ := hB
  rw [ht] at hP1
  have hK1 := va_K.moved hvm.symm hK1
  obtain ⟨hP, hD⟩ := va_join (wr := [(a, .inr (8, fs137)), (q1, .inl (cA2, 20, .inr (.inr (.inr (.inr f183))))), (q7, .inl (cA8, 6, .inr (.inr (.inr (.inr f9))))), (q14, .inl (cA15, 7, .inr (.inr (.inr (.inr f16)))))]) (w1 := [(q184, .inr (1, fs190)), (q191, .inl (cA192, 96, .inl f193))]) hP hD [4] [0, 1, 2, 3] rfl rfl (by decide) (by decide) hk1 hFc hP1 hD1
  have hK := (hK.sub (tys' := [(cA2, .object "Seattable$Big"), (cA8, .object "Seattable$Big"), (cA15, .object "Seattable$Big")]) [0, 1, 2] rfl).app hK1
  have hP : va_P (dC, dI) classes [(a, .inr (8, fs137)), (q1, .inl (cA2, 20, .inr (.inr (.inr (.inr f183))))), (q7, .inl (cA8, 6, .inr (.inr (.inr (.inr f9))))), (q14, .inl (cA15, 7, .inr (.inr (.inr (.inr f16))))), (q184, .inr (1, fs190)), (q191, .inl (cA192, 96, .inl f193))] H := hP
  have hD : va_D A [(a, .inr (8, fs137)), (q1, .inl (cA2, 20, .inr (.inr (.inr (.inr f183))))), (q7, .inl (cA8, 6, .inr (.inr (.inr (.inr f9))))), (q14, .inl (cA15, 7, .inr (.inr (.inr (.inr f16))))), (q184, .inr (1, fs190)), (q191, .inl (cA192, 96, .inl f193))] := hD
  have hK : va_K (dC, dI) classes [(cA2, .object "Seattable$Big"), (cA8, .object "Seattable$Big"), (cA15, .object "Seattable$Big"), (cA192, .int)] s := hK
  refine W.widen (k := 26) (n := 1101) (Nat.le_of_ble_eq_true rfl) (Nat.le_of_ble_eq_true rfl) ?_
  refine va_astq (D := (dC, dI)) (ci := 1) (r := (RX1, TX1, 2)) hx hb hK hP hD hS 1 0 4 rfl rfl rfl rfl (by unfold vp_in; decide) dX0_init_146 (fun H locs hP hD hS => ?_)
  have hP : va_P (dC, dI) classes [(a, .inr (8, fs137)), (q1, .inl (cA2, 20, .inr (.inr (.inr (.inr (va_up f183 (3 : Int32).toNatClampNeg (some q184))))))), (q7, .inl (cA8, 6, .inr (.inr (.inr (.inr f9))))), (q14, .inl (cA15, 7, .inr (.inr (.inr (.inr f16))))), (q184, .inr (1, fs190)), (q191, .inl (cA192, 96, .inl f193))] H := hP
  have hD : va_D A [(a, .inr (8, fs137)), (q1, .inl (cA2, 20, .inr (.inr (.inr (.inr (va_up f183 (3 : Int32).toNatClampNeg (some q184))))))), (q7, .inl (cA8, 6, .inr (.inr (.inr (.inr f9))))), (q14, .inl (cA15, 7, .inr (.inr (.inr (.inr f16))))), (q184, .inr (1, fs190)), (q191, .inl (cA192, 96, .inl f193))] := hD
  obtain ⟨f197, ef197⟩ : ∃ y : Nat → Option Nat, y = (va_up f183 (3 : Int32).toNatClampNeg (some q184)) := ⟨_, rfl⟩
  rw [← ef197] at hP hD
  have hP := hP.sub (ws' := [(a, .inr (8, fs137)), (q1, .inl (cA2, 20, .inr (.inr (.inr (.inr f197))))), (q7, .inl (cA8, 6, .inr (.inr (.inr (.inr f9))))), (q14, .inl (cA15, 7, .inr (.inr (.inr (.inr f16)))))]) [0, 1, 2, 3] rfl
  have hD := hD.sub (ws' := [(a, .inr (8, fs137)), (q1, .inl (cA2, 20, .inr (.inr (.inr (.inr f197))))), (q7, .inl (cA8, 6, .inr (.inr (.inr (.inr f9))))), (q14, .inl (cA15, 7, .inr (.inr (.inr (.inr f16)))))]) [0, 1, 2, 3] (by decide) rfl
  have hK := hK.sub (tys' := [(cA2, .object "Seattable$Big"), (cA8, .object "Seattable$Big"), (cA15, .object "Seattable$Big")]) [0, 1, 2] rfl
  refine lv_iinc (v := 4) (lv' := [(1, .int 4), (0, .ref a)]) hx hb dX0_init_147 hl (k := 0) rfl (by decide) (by decide) rfl (fun ls hl => ?_)
  refine lv_goto (tgt := 128) hx hb dX0_init_150 (by decide) ?_
  refine lv_iload_n hx hb dX0_init_128 rfl (lv_at hl 0 rfl) ?_
  refine lv_bipush (v := 20) hx hb dX0_init_129 (by decide) ?_
  refine lv_icmp_ge (tgt := 153) hx hb dX0_init_131 (by decide) (fun c9 => absurd c9 (by decide)) (fun _ => ?_)
  refine lv_aload_n hx hb dX0_init_134 rfl (lv_at hl 1 rfl) ?_
  refine va_get (D := (dC, dI)) (ci := 8) (v := .ref q1) (C := RX0) (T := TX0) (N := 20) hx hb hG iX0 hown hK hP 0 rfl rfl 0 (by decide) (hG _ m_100) (fun _ h9 => h9) hf_139 dX0_init_135 ?_
  refine lv_iload_n hx hb dX0_init_138 rfl (lv_at hl 0 rfl) ?_
  refine va_new (D := (dC, dI)) (ci := 1) (fs := (List.range 2).map (fun k => defaultValue (tyX1 k))) (C := RX1) (T := TX1) (N := 2) hx hb hG iX1 tyX1 tyX1_ok hown (hG _ m_99) (hG _ m_45) (hG _ m_46) hK hP hD hS hA rfl (fs_new 2 tyX1) (Nat.le_of_ble_eq_true rfl) (Nat.le_of_ble_eq_true rfl) dX0_init_139 (fun q198 H hP hD hS => ?_)
  have hP : va_P (dC, dI) classes [(a, .inr (8, fs137)), (q1, .inl (cA2, 20, .inr (.inr (.inr (.inr f197))))), (q7, .inl (cA8, 6, .inr (.inr (.inr (.inr f9))))), (q14, .inl (cA15, 7, .inr (.inr (.inr (.inr f16))))), (q198, .inr (1, ((List.range 2).map (fun k => defaultValue (tyX1 k)))))] H := hP
  have hD : va_D A [(a, .inr (8, fs137)), (q1, .inl (cA2, 20, .inr (.inr (.inr (.inr f197))))), (q7, .inl (cA8, 6, .inr (.inr (.inr (.inr f9))))), (q14, .inl (cA15, 7, .inr (.inr (.inr (.inr f16))))), (q198, .inr (1, ((List.range 2).map (fun k => defaultValue (tyX1 k)))))] := hD
  obtain ⟨fs199, efs199⟩ : ∃ y : List Value, y = (List.range 2).map (fun k => defaultValue (tyX1 k)) := ⟨_, rfl⟩
  rw [← efs199] at hP hD
  have hl_200 : fs199.length = 2 := by rw [efs199, List.length_map, List.length_range]
  have hf_201 : fs199[0]? = some (.null) := by rw [efs199]; rfl
  have hf_202 : fs199[1]? = some (.int 0) := by rw [efs199]; rfl
  refine W.widen (k := 27) (n := 1103) (Nat.le_of_ble_eq_true rfl) (Nat.le_of_ble_eq_true rfl) ?_
  refine lv_dup hx hb dX0_init_142 rfl ?_
  have hPc := hP.sub (ws' := [(q198, .inr (1, fs199))]) [4] rfl
  have hDc := hD.sub (ws' := [(q198, .inr (1, fs199))]) [4] (by decide) rfl
  have hKc := hK.sub (tys' := []) [] rfl
  have hFc := va_free (wc := [(q198, .inr (1, fs199))]) hD hS hA [4] rfl
  refine va_callv (va_runIN (As := []) (rest := [.ref q198, .int 4, .ref q1]) ⟨hx, hb, hml, hown, hG⟩ (c_Big_init l dC dI z q198 fs199 H.size hl_200 hf_202) ⟨va_cnB (host := "Seattable") 0 hG (gI m_47) rfl rfl rfl (nw_nest_3 hN) (hG _ m_46) (by decide +kernel) ⟨Nat.le_of_ble_eq_true rfl, Nat.le_of_ble_eq_true rfl⟩, rfl, (hG _ m_48)⟩ ⟨pre_blind, fun U hU hW => ⟨rfl, pre_call hU hW hPc hKc hDc hN (zkeep hZ hS) hFc⟩⟩ rfl rfl hl.1 rfl (lv_room (Nat.le_of_ble_eq_true rfl)) dX0_init_143 ⟨Nat.le_of_ble_eq_true rfl, Nat.le_of_ble_eq_true rfl⟩) hS (fun q _ h => hFc q h) hFc (fun u t H locs ht hvm hw hB hz1 hk1 hS => ?_)
  obtain ⟨fs204, q205, cA206, f207, hP1, hK1, hD1, hy208, hy209, hy210⟩ := hB
  rw [ht] at hP1
  have hK1 := va_K.moved hvm.symm hK1
  obtain ⟨hP, hD⟩ := va_join (wr := [(a, .inr (8, fs137)), (q1, .inl (cA2, 20, .inr (.inr (.inr (.inr f197))))), (q7, .inl (cA8, 6, .inr (.inr (.inr (.inr f9))))), (q14, .inl (cA15, 7, .inr (.inr (.inr (.inr f16)))))]) (w1 := [(q198, .inr (1, fs204)), (q205, .inl (cA206, 96, .inl f207))]) hP hD [4] [0, 1, 2, 3] rfl rfl (by decide) (by decide) hk1 hFc hP1 hD1
  have hK := (hK.sub (tys' := [(cA2, .object "Seattable$Big"), (cA8, .object "Seattable$Big"), (cA15, .object "Seattable$Big")]) [0, 1, 2] rfl).app hK1
  have hP : va_P (dC, dI) classes [(a, .inr (8, fs137)), (q1, .inl (cA2, 20, .inr (.inr (.inr (.inr f197))))), (q7, .inl (cA8, 6, .inr (.inr (.inr (.inr f9))))), (q14, .inl (cA15, 7, .inr (.inr (.inr (.inr f16))))), (q198, .inr (1, fs204)), (q205, .inl (cA206, 96, .inl f207))] H := hP
  have hD : va_D A [(a, .inr (8, fs137)), (q1, .inl (cA2, 20, .inr (.inr (.inr (.inr f197))))), (q7, .inl (cA8, 6, .inr (.inr (.inr (.inr f9))))), (q14, .inl (cA15, 7, .inr (.inr (.inr (.inr f16))))), (q198, .inr (1, fs204)), (q205, .inl (cA206, 96, .inl f207))] := hD
  have hK : va_K (dC, dI) classes [(cA2, .object "Seattable$Big"), (cA8, .object "Seattable$Big"), (cA15, .object "Seattable$Big"), (cA206, .int)] s := hK
  refine W.widen (k := 28) (n := 1199) (Nat.le_of_ble_eq_true rfl) (Nat.le_of_ble_eq_true rfl) ?_
  refine va_astq (D := (dC, dI)) (ci := 1) (r := (RX1, TX1, 2)) hx hb hK hP hD hS 1 0 4 rfl rfl rfl rfl (by unfold vp_in; decide) dX0_init_146 (fun H locs hP hD hS => ?_)
  have hP : va_P (dC, dI) classes [(a, .inr (8, fs137)), (q1, .inl (cA2, 20, .inr (.inr (.inr (.inr (va_up f197 (4 : Int32).toNatClampNeg (some q198))))))), (q7, .inl (cA8, 6, .inr (.inr (.inr (.inr f9))))), (q14, .inl (cA15, 7, .inr (.inr (.inr (.inr f16))))), (q198, .inr (1, fs204)), (q205, .inl (cA206, 96, .inl f207))] H := hP
  have hD : va_D A [(a, .inr (8, fs137)), (q1, .inl (cA2, 20, .inr (.inr (.inr (.inr (va_up f197 (4 : Int32).toNatClampNeg (some q198))))))), (q7, .inl (cA8, 6, .inr (.inr (.inr (.inr f9))))), (q14, .inl (cA15, 7, .inr (.inr (.inr (.inr f16))))), (q198, .inr (1, fs204)), (q205, .inl (cA206, 96, .inl f207))] := hD
  obtain ⟨f211, ef211⟩ : ∃ y : Nat → Option Nat, y = (va_up f197 (4 : Int32).toNatClampNeg (some q198)) := ⟨_, rfl⟩
  rw [← ef211] at hP hD
  have hP := hP.sub (ws' := [(a, .inr (8, fs137)), (q1, .inl (cA2, 20, .inr (.inr (.inr (.inr f211))))), (q7, .inl (cA8, 6, .inr (.inr (.inr (.inr f9))))), (q14, .inl (cA15, 7, .inr (.inr (.inr (.inr f16)))))]) [0, 1, 2, 3] rfl
  have hD := hD.sub (ws' := [(a, .inr (8, fs137)), (q1, .inl (cA2, 20, .inr (.inr (.inr (.inr f211))))), (q7, .inl (cA8, 6, .inr (.inr (.inr (.inr f9))))), (q14, .inl (cA15, 7, .inr (.inr (.inr (.inr f16)))))]) [0, 1, 2, 3] (by decide) rfl
  have hK := hK.sub (tys' := [(cA2, .object "Seattable$Big"), (cA8, .object "Seattable$Big"), (cA15, .object "Seattable$Big")]) [0, 1, 2] rfl
  refine lv_iinc (v := 5) (lv' := [(1, .int 5), (0, .ref a)]) hx hb dX0_init_147 hl (k := 0) rfl (by decide) (by decide) rfl (fun ls hl => ?_)
  refine lv_goto (tgt := 128) hx hb dX0_init_150 (by decide) ?_
  refine lv_iload_n hx hb dX0_init_128 rfl (lv_at hl 0 rfl) ?_
  refine lv_bipush (v := 20) hx hb dX0_init_129 (by decide) ?_
  refine lv_icmp_ge (tgt := 153) hx hb dX0_init_131 (by decide) (fun c9 => absurd c9 (by decide)) (fun _ => ?_)
  refine lv_aload_n hx hb dX0_init_134 rfl (lv_at hl 1 rfl) ?_
  refine va_get (D := (dC, dI)) (ci := 8) (v := .ref q1) (C := RX0) (T := TX0) (N := 20) hx hb hG iX0 hown hK hP 0 rfl rfl 0 (by decide) (hG _ m_100) (fun _ h9 => h9) hf_139 dX0_init_135 ?_
  refine lv_iload_n hx hb dX0_init_138 rfl (lv_at hl 0 rfl) ?_
  refine va_new (D := (dC, dI)) (ci := 1) (fs := (List.range 2).map (fun k => defaultValue (tyX1 k))) (C := RX1) (T := TX1) (N := 2) hx hb hG iX1 tyX1 tyX1_ok hown (hG _ m_99) (hG _ m_45) (hG _ m_46) hK hP hD hS hA rfl (fs_new 2 tyX1) (Nat.le_of_ble_eq_true rfl) (Nat.le_of_ble_eq_true rfl) dX0_init_139 (fun q212 H hP hD hS => ?_)
  have hP : va_P (dC, dI) classes [(a, .inr (8, fs137)), (q1, .inl (cA2, 20, .inr (.inr (.inr (.inr f211))))), (q7, .inl (cA8, 6, .inr (.inr (.inr (.inr f9))))), (q14, .inl (cA15, 7, .inr (.inr (.inr (.inr f16))))), (q212, .inr (1, ((List.range 2).map (fun k => defaultValue (tyX1 k)))))] H := hP
  have hD : va_D A [(a, .inr (8, fs137)), (q1, .inl (cA2, 20, .inr (.inr (.inr (.inr f211))))), (q7, .inl (cA8, 6, .inr (.inr (.inr (.inr f9))))), (q14, .inl (cA15, 7, .inr (.inr (.inr (.inr f16))))), (q212, .inr (1, ((List.range 2).map (fun k => defaultValue (tyX1 k)))))] := hD
  obtain ⟨fs213, efs213⟩ : ∃ y : List Value, y = (List.range 2).map (fun k => defaultValue (tyX1 k)) := ⟨_, rfl⟩
  rw [← efs213] at hP hD
  have hl_214 : fs213.length = 2 := by rw [efs213, List.length_map, List.length_range]
  have hf_215 : fs213[0]? = some (.null) := by rw [efs213]; rfl
  have hf_216 : fs213[1]? = some (.int 0) := by rw [efs213]; rfl
  refine W.widen (k := 29) (n := 1201) (Nat.le_of_ble_eq_true rfl) (Nat.le_of_ble_eq_true rfl) ?_
  refine lv_dup hx hb dX0_init_142 rfl ?_
  have hPc := hP.sub (ws' := [(q212, .inr (1, fs213))]) [4] rfl
  have hDc := hD.sub (ws' := [(q212, .inr (1, fs213))]) [4] (by decide) rfl
  have hKc := hK.sub (tys' := []) [] rfl
  have hFc := va_free (wc := [(q212, .inr (1, fs213))]) hD hS hA [4] rfl
  refine va_callv (va_runIN (As := []) (rest := [.ref q212, .int 5, .ref q1]) ⟨hx, hb, hml, hown, hG⟩ (c_Big_init l dC dI z q212 fs213 H.size hl_214 hf_216) ⟨va_cnB (host := "Seattable") 0 hG (gI m_47) rfl rfl rfl (nw_nest_3 hN) (hG _ m_46) (by decide +kernel) ⟨Nat.le_of_ble_eq_true rfl, Nat.le_of_ble_eq_true rfl⟩, rfl, (hG _ m_48)⟩ ⟨pre_blind, fun U hU hW => ⟨rfl, pre_call hU hW hPc hKc hDc hN (zkeep hZ hS) hFc⟩⟩ rfl rfl hl.1 rfl (lv_room (Nat.le_of_ble_eq_true rfl)) dX0_init_143 ⟨Nat.le_of_ble_eq_true rfl, Nat.le_of_ble_eq_true rfl⟩) hS (fun q _ h => hFc q h) hFc (fun u t H locs ht hvm hw hB hz1 hk1 hS => ?_)
  obtain ⟨fs218, q219, cA220, f221, hP1, hK1, hD1, hy222, hy223, hy224⟩ := hB
  rw [ht] at hP1
  have hK1 := va_K.moved hvm.symm hK1
  obtain ⟨hP, hD⟩ := va_join (wr := [(a, .inr (8, fs137)), (q1, .inl (cA2, 20, .inr (.inr (.inr (.inr f211))))), (q7, .inl (cA8, 6, .inr (.inr (.inr (.inr f9))))), (q14, .inl (cA15, 7, .inr (.inr (.inr (.inr f16)))))]) (w1 := [(q212, .inr (1, fs218)), (q219, .inl (cA220, 96, .inl f221))]) hP hD [4] [0, 1, 2, 3] rfl rfl (by decide) (by decide) hk1 hFc hP1 hD1
  have hK := (hK.sub (tys' := [(cA2, .object "Seattable$Big"), (cA8, .object "Seattable$Big"), (cA15, .object "Seattable$Big")]) [0, 1, 2] rfl).app hK1
  have hP : va_P (dC, dI) classes [(a, .inr (8, fs137)), (q1, .inl (cA2, 20, .inr (.inr (.inr (.inr f211))))), (q7, .inl (cA8, 6, .inr (.inr (.inr (.inr f9))))), (q14, .inl (cA15, 7, .inr (.inr (.inr (.inr f16))))), (q212, .inr (1, fs218)), (q219, .inl (cA220, 96, .inl f221))] H := hP
  have hD : va_D A [(a, .inr (8, fs137)), (q1, .inl (cA2, 20, .inr (.inr (.inr (.inr f211))))), (q7, .inl (cA8, 6, .inr (.inr (.inr (.inr f9))))), (q14, .inl (cA15, 7, .inr (.inr (.inr (.inr f16))))), (q212, .inr (1, fs218)), (q219, .inl (cA220, 96, .inl f221))] := hD
  have hK : va_K (dC, dI) classes [(cA2, .object "Seattable$Big"), (cA8, .object "Seattable$Big"), (cA15, .object "Seattable$Big"), (cA220, .int)] s := hK
  refine W.widen (k := 30) (n := 1297) (Nat.le_of_ble_eq_true rfl) (Nat.le_of_ble_eq_true rfl) ?_
  refine va_astq (D := (dC, dI)) (ci := 1) (r := (RX1, TX1, 2)) hx hb hK hP hD hS 1 0 4 rfl rfl rfl rfl (by unfold vp_in; decide) dX0_init_146 (fun H locs hP hD hS => ?_)
  have hP : va_P (dC, dI) classes [(a, .inr (8, fs137)), (q1, .inl (cA2, 20, .inr (.inr (.inr (.inr (va_up f211 (5 : Int32).toNatClampNeg (some q212))))))), (q7, .inl (cA8, 6, .inr (.inr (.inr (.inr f9))))), (q14, .inl (cA15, 7, .inr (.inr (.inr (.inr f16))))), (q212, .inr (1, fs218)), (q219, .inl (cA220, 96, .inl f221))] H := hP
  have hD : va_D A [(a, .inr (8, fs137)), (q1, .inl (cA2, 20, .inr (.inr (.inr (.inr (va_up f211 (5 : Int32).toNatClampNeg (some q212))))))), (q7, .inl (cA8, 6, .inr (.inr (.inr (.inr f9))))), (q14, .inl (cA15, 7, .inr (.inr (.inr (.inr f16))))), (q212, .inr (1, fs218)), (q219, .inl (cA220, 96, .inl f221))] := hD
  obtain ⟨f225, ef225⟩ : ∃ y : Nat → Option Nat, y = (va_up f211 (5 : Int32).toNatClampNeg (some q212)) := ⟨_, rfl⟩
  rw [← ef225] at hP hD
  have hP := hP.sub (ws' := [(a, .inr (8, fs137)), (q1, .inl (cA2, 20, .inr (.inr (.inr (.inr f225))))), (q7, .inl (cA8, 6, .inr (.inr (.inr (.inr f9))))), (q14, .inl (cA15, 7, .inr (.inr (.inr (.inr f16)))))]) [0, 1, 2, 3] rfl
  have hD := hD.sub (ws' := [(a, .inr (8, fs137)), (q1, .inl (cA2, 20, .inr (.inr (.inr (.inr f225))))), (q7, .inl (cA8, 6, .inr (.inr (.inr (.inr f9))))), (q14, .inl (cA15, 7, .inr (.inr (.inr (.inr f16)))))]) [0, 1, 2, 3] (by decide) rfl
  have hK := hK.sub (tys' := [(cA2, .object "Seattable$Big"), (cA8, .object "Seattable$Big"), (cA15, .object "Seattable$Big")]) [0, 1, 2] rfl
  refine lv_iinc (v := 6) (lv' := [(1, .int 6), (0, .ref a)]) hx hb dX0_init_147 hl (k := 0) rfl (by decide) (by decide) rfl (fun ls hl => ?_)
  refine lv_goto (tgt := 128) hx hb dX0_init_150 (by decide) ?_
  refine lv_iload_n hx hb dX0_init_128 rfl (lv_at hl 0 rfl) ?_
  refine lv_bipush (v := 20) hx hb dX0_init_129 (by decide) ?_
  refine lv_icmp_ge (tgt := 153) hx hb dX0_init_131 (by decide) (fun c9 => absurd c9 (by decide)) (fun _ => ?_)
  refine lv_aload_n hx hb dX0_init_134 rfl (lv_at hl 1 rfl) ?_
  refine va_get (D := (dC, dI)) (ci := 8) (v := .ref q1) (C := RX0) (T := TX0) (N := 20) hx hb hG iX0 hown hK hP 0 rfl rfl 0 (by decide) (hG _ m_100) (fun _ h9 => h9) hf_139 dX0_init_135 ?_
  refine lv_iload_n hx hb dX0_init_138 rfl (lv_at hl 0 rfl) ?_
  refine va_new (D := (dC, dI)) (ci := 1) (fs := (List.range 2).map (fun k => defaultValue (tyX1 k))) (C := RX1) (T := TX1) (N := 2) hx hb hG iX1 tyX1 tyX1_ok hown (hG _ m_99) (hG _ m_45) (hG _ m_46) hK hP hD hS hA rfl (fs_new 2 tyX1) (Nat.le_of_ble_eq_true rfl) (Nat.le_of_ble_eq_true rfl) dX0_init_139 (fun q226 H hP hD hS => ?_)
  have hP : va_P (dC, dI) classes [(a, .inr (8, fs137)), (q1, .inl (cA2, 20, .inr (.inr (.inr (.inr f225))))), (q7, .inl (cA8, 6, .inr (.inr (.inr (.inr f9))))), (q14, .inl (cA15, 7, .inr (.inr (.inr (.inr f16))))), (q226, .inr (1, ((List.range 2).map (fun k => defaultValue (tyX1 k)))))] H := hP
  have hD : va_D A [(a, .inr (8, fs137)), (q1, .inl (cA2, 20, .inr (.inr (.inr (.inr f225))))), (q7, .inl (cA8, 6, .inr (.inr (.inr (.inr f9))))), (q14, .inl (cA15, 7, .inr (.inr (.inr (.inr f16))))), (q226, .inr (1, ((List.range 2).map (fun k => defaultValue (tyX1 k)))))] := hD
  obtain ⟨fs227, efs227⟩ : ∃ y : List Value, y = (List.range 2).map (fun k => defaultValue (tyX1 k)) := ⟨_, rfl⟩
  rw [← efs227] at hP hD
  have hl_228 : fs227.length = 2 := by rw [efs227, List.length_map, List.length_range]
  have hf_229 : fs227[0]? = some (.null) := by rw [efs227]; rfl
  have hf_230 : fs227[1]? = some (.int 0) := by rw [efs227]; rfl
  refine W.widen (k := 31) (n := 1299) (Nat.le_of_ble_eq_true rfl) (Nat.le_of_ble_eq_true rfl) ?_
  refine lv_dup hx hb dX0_init_142 rfl ?_
  have hPc := hP.sub (ws' := [(q226, .inr (1, fs227))]) [4] rfl
  have hDc := hD.sub (ws' := [(q226, .inr (1, fs227))]) [4] (by decide) rfl
  have hKc := hK.sub (tys' := []) [] rfl
  have hFc := va_free (wc := [(q226, .inr (1, fs227))]) hD hS hA [4] rfl
  refine va_callv (va_runIN (As := []) (rest := [.ref q226, .int 6, .ref q1]) ⟨hx, hb, hml, hown, hG⟩ (c_Big_init l dC dI z q226 fs227 H.size hl_228 hf_230) ⟨va_cnB (host := "Seattable") 0 hG (gI m_47) rfl rfl rfl (nw_nest_3 hN) (hG _ m_46) (by decide +kernel) ⟨Nat.le_of_ble_eq_true rfl, Nat.le_of_ble_eq_true rfl⟩, rfl, (hG _ m_48)⟩ ⟨pre_blind, fun U hU hW => ⟨rfl, pre_call hU hW hPc hKc hDc hN (zkeep hZ hS) hFc⟩⟩ rfl rfl hl.1 rfl (lv_room (Nat.le_of_ble_eq_true rfl)) dX0_init_143 ⟨Nat.le_of_ble_eq_true rfl, Nat.le_of_ble_eq_true rfl⟩) hS (fun q _ h => hFc q h) hFc (fun u t H locs ht hvm hw hB hz1 hk1 hS => ?_)
  obtain ⟨fs232, q233, cA234, f235, hP1, hK1, hD1, hy236, hy237, hy238⟩ := hB
  rw [ht] at hP1
  have hK1 := va_K.moved hvm.symm hK1
  obtain ⟨hP, hD⟩ := va_join (wr := [(a, .inr (8, fs137)), (q1, .inl (cA2, 20, .inr (.inr (.inr (.inr f225))))), (q7, .inl (cA8, 6, .inr (.inr (.inr (.inr f9))))), (q14, .inl (cA15, 7, .inr (.inr (.inr (.inr f16)))))]) (w1 := [(q226, .inr (1, fs232)), (q233, .inl (cA234, 96, .inl f235))]) hP hD [4] [0, 1, 2, 3] rfl rfl (by decide) (by decide) hk1 hFc hP1 hD1
  have hK := (hK.sub (tys' := [(cA2, .object "Seattable$Big"), (cA8, .object "Seattable$Big"), (cA15, .object "Seattable$Big")]) [0, 1, 2] rfl).app hK1
  have hP : va_P (dC, dI) classes [(a, .inr (8, fs137)), (q1, .inl (cA2, 20, .inr (.inr (.inr (.inr f225))))), (q7, .inl (cA8, 6, .inr (.inr (.inr (.inr f9))))), (q14, .inl (cA15, 7, .inr (.inr (.inr (.inr f16))))), (q226, .inr (1, fs232)), (q233, .inl (cA234, 96, .inl f235))] H := hP
  have hD : va_D A [(a, .inr (8, fs137)), (q1, .inl (cA2, 20, .inr (.inr (.inr (.inr f225))))), (q7, .inl (cA8, 6, .inr (.inr (.inr (.inr f9))))), (q14, .inl (cA15, 7, .inr (.inr (.inr (.inr f16))))), (q226, .inr (1, fs232)), (q233, .inl (cA234, 96, .inl f235))] := hD
  have hK : va_K (dC, dI) classes [(cA2, .object "Seattable$Big"), (cA8, .object "Seattable$Big"), (cA15, .object "Seattable$Big"), (cA234, .int)] s := hK
  refine W.widen (k := 32) (n := 1395) (Nat.le_of_ble_eq_true rfl) (Nat.le_of_ble_eq_true rfl) ?_
  refine va_astq (D := (dC, dI)) (ci := 1) (r := (RX1, TX1, 2)) hx hb hK hP hD hS 1 0 4 rfl rfl rfl rfl (by unfold vp_in; decide) dX0_init_146 (fun H locs hP hD hS => ?_)
  have hP : va_P (dC, dI) classes [(a, .inr (8, fs137)), (q1, .inl (cA2, 20, .inr (.inr (.inr (.inr (va_up f225 (6 : Int32).toNatClampNeg (some q226))))))), (q7, .inl (cA8, 6, .inr (.inr (.inr (.inr f9))))), (q14, .inl (cA15, 7, .inr (.inr (.inr (.inr f16))))), (q226, .inr (1, fs232)), (q233, .inl (cA234, 96, .inl f235))] H := hP
  have hD : va_D A [(a, .inr (8, fs137)), (q1, .inl (cA2, 20, .inr (.inr (.inr (.inr (va_up f225 (6 : Int32).toNatClampNeg (some q226))))))), (q7, .inl (cA8, 6, .inr (.inr (.inr (.inr f9))))), (q14, .inl (cA15, 7, .inr (.inr (.inr (.inr f16))))), (q226, .inr (1, fs232)), (q233, .inl (cA234, 96, .inl f235))] := hD
  obtain ⟨f239, ef239⟩ : ∃ y : Nat → Option Nat, y = (va_up f225 (6 : Int32).toNatClampNeg (some q226)) := ⟨_, rfl⟩
  rw [← ef239] at hP hD
  have hP := hP.sub (ws' := [(a, .inr (8, fs137)), (q1, .inl (cA2, 20, .inr (.inr (.inr (.inr f239))))), (q7, .inl (cA8, 6, .inr (.inr (.inr (.inr f9))))), (q14, .inl (cA15, 7, .inr (.inr (.inr (.inr f16)))))]) [0, 1, 2, 3] rfl
  have hD := hD.sub (ws' := [(a, .inr (8, fs137)), (q1, .inl (cA2, 20, .inr (.inr (.inr (.inr f239))))), (q7, .inl (cA8, 6, .inr (.inr (.inr (.inr f9))))), (q14, .inl (cA15, 7, .inr (.inr (.inr (.inr f16)))))]) [0, 1, 2, 3] (by decide) rfl
  have hK := hK.sub (tys' := [(cA2, .object "Seattable$Big"), (cA8, .object "Seattable$Big"), (cA15, .object "Seattable$Big")]) [0, 1, 2] rfl
  refine lv_iinc (v := 7) (lv' := [(1, .int 7), (0, .ref a)]) hx hb dX0_init_147 hl (k := 0) rfl (by decide) (by decide) rfl (fun ls hl => ?_)
  refine lv_goto (tgt := 128) hx hb dX0_init_150 (by decide) ?_
  refine lv_iload_n hx hb dX0_init_128 rfl (lv_at hl 0 rfl) ?_
  refine lv_bipush (v := 20) hx hb dX0_init_129 (by decide) ?_
  refine lv_icmp_ge (tgt := 153) hx hb dX0_init_131 (by decide) (fun c9 => absurd c9 (by decide)) (fun _ => ?_)
  refine lv_aload_n hx hb dX0_init_134 rfl (lv_at hl 1 rfl) ?_
  refine va_get (D := (dC, dI)) (ci := 8) (v := .ref q1) (C := RX0) (T := TX0) (N := 20) hx hb hG iX0 hown hK hP 0 rfl rfl 0 (by decide) (hG _ m_100) (fun _ h9 => h9) hf_139 dX0_init_135 ?_
  refine lv_iload_n hx hb dX0_init_138 rfl (lv_at hl 0 rfl) ?_
  refine va_new (D := (dC, dI)) (ci := 1) (fs := (List.range 2).map (fun k => defaultValue (tyX1 k))) (C := RX1) (T := TX1) (N := 2) hx hb hG iX1 tyX1 tyX1_ok hown (hG _ m_99) (hG _ m_45) (hG _ m_46) hK hP hD hS hA rfl (fs_new 2 tyX1) (Nat.le_of_ble_eq_true rfl) (Nat.le_of_ble_eq_true rfl) dX0_init_139 (fun q240 H hP hD hS => ?_)
  have hP : va_P (dC, dI) classes [(a, .inr (8, fs137)), (q1, .inl (cA2, 20, .inr (.inr (.inr (.inr f239))))), (q7, .inl (cA8, 6, .inr (.inr (.inr (.inr f9))))), (q14, .inl (cA15, 7, .inr (.inr (.inr (.inr f16))))), (q240, .inr (1, ((List.range 2).map (fun k => defaultValue (tyX1 k)))))] H := hP
  have hD : va_D A [(a, .inr (8, fs137)), (q1, .inl (cA2, 20, .inr (.inr (.inr (.inr f239))))), (q7, .inl (cA8, 6, .inr (.inr (.inr (.inr f9))))), (q14, .inl (cA15, 7, .inr (.inr (.inr (.inr f16))))), (q240, .inr (1, ((List.range 2).map (fun k => defaultValue (tyX1 k)))))] := hD
  obtain ⟨fs241, efs241⟩ : ∃ y : List Value, y = (List.range 2).map (fun k => defaultValue (tyX1 k)) := ⟨_, rfl⟩
  rw [← efs241] at hP hD
  have hl_242 : fs241.length = 2 := by rw [efs241, List.length_map, List.length_range]
  have hf_243 : fs241[0]? = some (.null) := by rw [efs241]; rfl
  have hf_244 : fs241[1]? = some (.int 0) := by rw [efs241]; rfl
  refine W.widen (k := 33) (n := 1397) (Nat.le_of_ble_eq_true rfl) (Nat.le_of_ble_eq_true rfl) ?_
  refine lv_dup hx hb dX0_init_142 rfl ?_
  have hPc := hP.sub (ws' := [(q240, .inr (1, fs241))]) [4] rfl
  have hDc := hD.sub (ws' := [(q240, .inr (1, fs241))]) [4] (by decide) rfl
  have hKc := hK.sub (tys' := []) [] rfl
  have hFc := va_free (wc := [(q240, .inr (1, fs241))]) hD hS hA [4] rfl
  refine va_callv (va_runIN (As := []) (rest := [.ref q240, .int 7, .ref q1]) ⟨hx, hb, hml, hown, hG⟩ (c_Big_init l dC dI z q240 fs241 H.size hl_242 hf_244) ⟨va_cnB (host := "Seattable") 0 hG (gI m_47) rfl rfl rfl (nw_nest_3 hN) (hG _ m_46) (by decide +kernel) ⟨Nat.le_of_ble_eq_true rfl, Nat.le_of_ble_eq_true rfl⟩, rfl, (hG _ m_48)⟩ ⟨pre_blind, fun U hU hW => ⟨rfl, pre_call hU hW hPc hKc hDc hN (zkeep hZ hS) hFc⟩⟩ rfl rfl hl.1 rfl (lv_room (Nat.le_of_ble_eq_true rfl)) dX0_init_143 ⟨Nat.le_of_ble_eq_true rfl, Nat.le_of_ble_eq_true rfl⟩) hS (fun q _ h => hFc q h) hFc (fun u t H locs ht hvm hw hB hz1 hk1 hS => ?_)
  obtain ⟨fs246, q247, cA248, f249, hP1, hK1, hD1, hy250, hy251, hy252⟩ := hB
  rw [ht] at hP1
  have hK1 := va_K.moved hvm.symm hK1
  obtain ⟨hP, hD⟩ := va_join (wr := [(a, .inr (8, fs137)), (q1, .inl (cA2, 20, .inr (.inr (.inr (.inr f239))))), (q7, .inl (cA8, 6, .inr (.inr (.inr (.inr f9))))), (q14, .inl (cA15, 7, .inr (.inr (.inr (.inr f16)))))]) (w1 := [(q240, .inr (1, fs246)), (q247, .inl (cA248, 96, .inl f249))]) hP hD [4] [0, 1, 2, 3] rfl rfl (by decide) (by decide) hk1 hFc hP1 hD1
  have hK := (hK.sub (tys' := [(cA2, .object "Seattable$Big"), (cA8, .object "Seattable$Big"), (cA15, .object "Seattable$Big")]) [0, 1, 2] rfl).app hK1
  have hP : va_P (dC, dI) classes [(a, .inr (8, fs137)), (q1, .inl (cA2, 20, .inr (.inr (.inr (.inr f239))))), (q7, .inl (cA8, 6, .inr (.inr (.inr (.inr f9))))), (q14, .inl (cA15, 7, .inr (.inr (.inr (.inr f16))))), (q240, .inr (1, fs246)), (q247, .inl (cA248, 96, .inl f249))] H := hP
  have hD : va_D A [(a, .inr (8, fs137)), (q1, .inl (cA2, 20, .inr (.inr (.inr (.inr f239))))), (q7, .inl (cA8, 6, .inr (.inr (.inr (.inr f9))))), (q14, .inl (cA15, 7, .inr (.inr (.inr (.inr f16))))), (q240, .inr (1, fs246)), (q247, .inl (cA248, 96, .inl f249))] := hD
  have hK : va_K (dC, dI) classes [(cA2, .object "Seattable$Big"), (cA8, .object "Seattable$Big"), (cA15, .object "Seattable$Big"), (cA248, .int)] s := hK
  refine W.widen (k := 34) (n := 1493) (Nat.le_of_ble_eq_true rfl) (Nat.le_of_ble_eq_true rfl) ?_
  refine va_astq (D := (dC, dI)) (ci := 1) (r := (RX1, TX1, 2)) hx hb hK hP hD hS 1 0 4 rfl rfl rfl rfl (by unfold vp_in; decide) dX0_init_146 (fun H locs hP hD hS => ?_)
  have hP : va_P (dC, dI) classes [(a, .inr (8, fs137)), (q1, .inl (cA2, 20, .inr (.inr (.inr (.inr (va_up f239 (7 : Int32).toNatClampNeg (some q240))))))), (q7, .inl (cA8, 6, .inr (.inr (.inr (.inr f9))))), (q14, .inl (cA15, 7, .inr (.inr (.inr (.inr f16))))), (q240, .inr (1, fs246)), (q247, .inl (cA248, 96, .inl f249))] H := hP
  have hD : va_D A [(a, .inr (8, fs137)), (q1, .inl (cA2, 20, .inr (.inr (.inr (.inr (va_up f239 (7 : Int32).toNatClampNeg (some q240))))))), (q7, .inl (cA8, 6, .inr (.inr (.inr (.inr f9))))), (q14, .inl (cA15, 7, .inr (.inr (.inr (.inr f16))))), (q240, .inr (1, fs246)), (q247, .inl (cA248, 96, .inl f249))] := hD
  obtain ⟨f253, ef253⟩ : ∃ y : Nat → Option Nat, y = (va_up f239 (7 : Int32).toNatClampNeg (some q240)) := ⟨_, rfl⟩
  rw [← ef253] at hP hD
  have hP := hP.sub (ws' := [(a, .inr (8, fs137)), (q1, .inl (cA2, 20, .inr (.inr (.inr (.inr f253))))), (q7, .inl (cA8, 6, .inr (.inr (.inr (.inr f9))))), (q14, .inl (cA15, 7, .inr (.inr (.inr (.inr f16)))))]) [0, 1, 2, 3] rfl
  have hD := hD.sub (ws' := [(a, .inr (8, fs137)), (q1, .inl (cA2, 20, .inr (.inr (.inr (.inr f253))))), (q7, .inl (cA8, 6, .inr (.inr (.inr (.inr f9))))), (q14, .inl (cA15, 7, .inr (.inr (.inr (.inr f16)))))]) [0, 1, 2, 3] (by decide) rfl
  have hK := hK.sub (tys' := [(cA2, .object "Seattable$Big"), (cA8, .object "Seattable$Big"), (cA15, .object "Seattable$Big")]) [0, 1, 2] rfl
  refine lv_iinc (v := 8) (lv' := [(1, .int 8), (0, .ref a)]) hx hb dX0_init_147 hl (k := 0) rfl (by decide) (by decide) rfl (fun ls hl => ?_)
  refine lv_goto (tgt := 128) hx hb dX0_init_150 (by decide) ?_
  refine lv_iload_n hx hb dX0_init_128 rfl (lv_at hl 0 rfl) ?_
  refine lv_bipush (v := 20) hx hb dX0_init_129 (by decide) ?_
  refine lv_icmp_ge (tgt := 153) hx hb dX0_init_131 (by decide) (fun c9 => absurd c9 (by decide)) (fun _ => ?_)
  refine lv_aload_n hx hb dX0_init_134 rfl (lv_at hl 1 rfl) ?_
  refine va_get (D := (dC, dI)) (ci := 8) (v := .ref q1) (C := RX0) (T := TX0) (N := 20) hx hb hG iX0 hown hK hP 0 rfl rfl 0 (by decide) (hG _ m_100) (fun _ h9 => h9) hf_139 dX0_init_135 ?_
  refine lv_iload_n hx hb dX0_init_138 rfl (lv_at hl 0 rfl) ?_
  refine va_new (D := (dC, dI)) (ci := 1) (fs := (List.range 2).map (fun k => defaultValue (tyX1 k))) (C := RX1) (T := TX1) (N := 2) hx hb hG iX1 tyX1 tyX1_ok hown (hG _ m_99) (hG _ m_45) (hG _ m_46) hK hP hD hS hA rfl (fs_new 2 tyX1) (Nat.le_of_ble_eq_true rfl) (Nat.le_of_ble_eq_true rfl) dX0_init_139 (fun q254 H hP hD hS => ?_)
  have hP : va_P (dC, dI) classes [(a, .inr (8, fs137)), (q1, .inl (cA2, 20, .inr (.inr (.inr (.inr f253))))), (q7, .inl (cA8, 6, .inr (.inr (.inr (.inr f9))))), (q14, .inl (cA15, 7, .inr (.inr (.inr (.inr f16))))), (q254, .inr (1, ((List.range 2).map (fun k => defaultValue (tyX1 k)))))] H := hP
  have hD : va_D A [(a, .inr (8, fs137)), (q1, .inl (cA2, 20, .inr (.inr (.inr (.inr f253))))), (q7, .inl (cA8, 6, .inr (.inr (.inr (.inr f9))))), (q14, .inl (cA15, 7, .inr (.inr (.inr (.inr f16))))), (q254, .inr (1, ((List.range 2).map (fun k => defaultValue (tyX1 k)))))] := hD
  obtain ⟨fs255, efs255⟩ : ∃ y : List Value, y = (List.range 2).map (fun k => defaultValue (tyX1 k)) := ⟨_, rfl⟩
  rw [← efs255] at hP hD
  have hl_256 : fs255.length = 2 := by rw [efs255, List.length_map, List.length_range]
  have hf_257 : fs255[0]? = some (.null) := by rw [efs255]; rfl
  have hf_258 : fs255[1]? = some (.int 0) := by rw [efs255]; rfl
  refine W.widen (k := 35) (n := 1495) (Nat.le_of_ble_eq_true rfl) (Nat.le_of_ble_eq_true rfl) ?_
  refine lv_dup hx hb dX0_init_142 rfl ?_
  have hPc := hP.sub (ws' := [(q254, .inr (1, fs255))]) [4] rfl
  have hDc := hD.sub (ws' := [(q254, .inr (1, fs255))]) [4] (by decide) rfl
  have hKc := hK.sub (tys' := []) [] rfl
  have hFc := va_free (wc := [(q254, .inr (1, fs255))]) hD hS hA [4] rfl
  refine va_callv (va_runIN (As := []) (rest := [.ref q254, .int 8, .ref q1]) ⟨hx, hb, hml, hown, hG⟩ (c_Big_init l dC dI z q254 fs255 H.size hl_256 hf_258) ⟨va_cnB (host := "Seattable") 0 hG (gI m_47) rfl rfl rfl (nw_nest_3 hN) (hG _ m_46) (by decide +kernel) ⟨Nat.le_of_ble_eq_true rfl, Nat.le_of_ble_eq_true rfl⟩, rfl, (hG _ m_48)⟩ ⟨pre_blind, fun U hU hW => ⟨rfl, pre_call hU hW hPc hKc hDc hN (zkeep hZ hS) hFc⟩⟩ rfl rfl hl.1 rfl (lv_room (Nat.le_of_ble_eq_true rfl)) dX0_init_143 ⟨Nat.le_of_ble_eq_true rfl, Nat.le_of_ble_eq_true rfl⟩) hS (fun q _ h => hFc q h) hFc (fun u t H locs ht hvm hw hB hz1 hk1 hS => ?_)
  obtain ⟨fs260, q261, cA262, f263, hP1, hK1, hD1, hy264, hy265, hy266⟩ := hB
  rw [ht] at hP1
  have hK1 := va_K.moved hvm.symm hK1
  obtain ⟨hP, hD⟩ := va_join (wr := [(a, .inr (8, fs137)), (q1, .inl (cA2, 20, .inr (.inr (.inr (.inr f253))))), (q7, .inl (cA8, 6, .inr (.inr (.inr (.inr f9))))), (q14, .inl (cA15, 7, .inr (.inr (.inr (.inr f16)))))]) (w1 := [(q254, .inr (1, fs260)), (q261, .inl (cA262, 96, .inl f263))]) hP hD [4] [0, 1, 2, 3] rfl rfl (by decide) (by decide) hk1 hFc hP1 hD1
  have hK := (hK.sub (tys' := [(cA2, .object "Seattable$Big"), (cA8, .object "Seattable$Big"), (cA15, .object "Seattable$Big")]) [0, 1, 2] rfl).app hK1
  have hP : va_P (dC, dI) classes [(a, .inr (8, fs137)), (q1, .inl (cA2, 20, .inr (.inr (.inr (.inr f253))))), (q7, .inl (cA8, 6, .inr (.inr (.inr (.inr f9))))), (q14, .inl (cA15, 7, .inr (.inr (.inr (.inr f16))))), (q254, .inr (1, fs260)), (q261, .inl (cA262, 96, .inl f263))] H := hP
  have hD : va_D A [(a, .inr (8, fs137)), (q1, .inl (cA2, 20, .inr (.inr (.inr (.inr f253))))), (q7, .inl (cA8, 6, .inr (.inr (.inr (.inr f9))))), (q14, .inl (cA15, 7, .inr (.inr (.inr (.inr f16))))), (q254, .inr (1, fs260)), (q261, .inl (cA262, 96, .inl f263))] := hD
  have hK : va_K (dC, dI) classes [(cA2, .object "Seattable$Big"), (cA8, .object "Seattable$Big"), (cA15, .object "Seattable$Big"), (cA262, .int)] s := hK
  refine W.widen (k := 36) (n := 1591) (Nat.le_of_ble_eq_true rfl) (Nat.le_of_ble_eq_true rfl) ?_
  refine va_astq (D := (dC, dI)) (ci := 1) (r := (RX1, TX1, 2)) hx hb hK hP hD hS 1 0 4 rfl rfl rfl rfl (by unfold vp_in; decide) dX0_init_146 (fun H locs hP hD hS => ?_)
  have hP : va_P (dC, dI) classes [(a, .inr (8, fs137)), (q1, .inl (cA2, 20, .inr (.inr (.inr (.inr (va_up f253 (8 : Int32).toNatClampNeg (some q254))))))), (q7, .inl (cA8, 6, .inr (.inr (.inr (.inr f9))))), (q14, .inl (cA15, 7, .inr (.inr (.inr (.inr f16))))), (q254, .inr (1, fs260)), (q261, .inl (cA262, 96, .inl f263))] H := hP
  have hD : va_D A [(a, .inr (8, fs137)), (q1, .inl (cA2, 20, .inr (.inr (.inr (.inr (va_up f253 (8 : Int32).toNatClampNeg (some q254))))))), (q7, .inl (cA8, 6, .inr (.inr (.inr (.inr f9))))), (q14, .inl (cA15, 7, .inr (.inr (.inr (.inr f16))))), (q254, .inr (1, fs260)), (q261, .inl (cA262, 96, .inl f263))] := hD
  obtain ⟨f267, ef267⟩ : ∃ y : Nat → Option Nat, y = (va_up f253 (8 : Int32).toNatClampNeg (some q254)) := ⟨_, rfl⟩
  rw [← ef267] at hP hD
  have hP := hP.sub (ws' := [(a, .inr (8, fs137)), (q1, .inl (cA2, 20, .inr (.inr (.inr (.inr f267))))), (q7, .inl (cA8, 6, .inr (.inr (.inr (.inr f9))))), (q14, .inl (cA15, 7, .inr (.inr (.inr (.inr f16)))))]) [0, 1, 2, 3] rfl
  have hD := hD.sub (ws' := [(a, .inr (8, fs137)), (q1, .inl (cA2, 20, .inr (.inr (.inr (.inr f267))))), (q7, .inl (cA8, 6, .inr (.inr (.inr (.inr f9))))), (q14, .inl (cA15, 7, .inr (.inr (.inr (.inr f16)))))]) [0, 1, 2, 3] (by decide) rfl
  have hK := hK.sub (tys' := [(cA2, .object "Seattable$Big"), (cA8, .object "Seattable$Big"), (cA15, .object "Seattable$Big")]) [0, 1, 2] rfl
  refine lv_iinc (v := 9) (lv' := [(1, .int 9), (0, .ref a)]) hx hb dX0_init_147 hl (k := 0) rfl (by decide) (by decide) rfl (fun ls hl => ?_)
  refine lv_goto (tgt := 128) hx hb dX0_init_150 (by decide) ?_
  refine lv_iload_n hx hb dX0_init_128 rfl (lv_at hl 0 rfl) ?_
  refine lv_bipush (v := 20) hx hb dX0_init_129 (by decide) ?_
  refine lv_icmp_ge (tgt := 153) hx hb dX0_init_131 (by decide) (fun c9 => absurd c9 (by decide)) (fun _ => ?_)
  refine lv_aload_n hx hb dX0_init_134 rfl (lv_at hl 1 rfl) ?_
  refine va_get (D := (dC, dI)) (ci := 8) (v := .ref q1) (C := RX0) (T := TX0) (N := 20) hx hb hG iX0 hown hK hP 0 rfl rfl 0 (by decide) (hG _ m_100) (fun _ h9 => h9) hf_139 dX0_init_135 ?_
  refine lv_iload_n hx hb dX0_init_138 rfl (lv_at hl 0 rfl) ?_
  refine va_new (D := (dC, dI)) (ci := 1) (fs := (List.range 2).map (fun k => defaultValue (tyX1 k))) (C := RX1) (T := TX1) (N := 2) hx hb hG iX1 tyX1 tyX1_ok hown (hG _ m_99) (hG _ m_45) (hG _ m_46) hK hP hD hS hA rfl (fs_new 2 tyX1) (Nat.le_of_ble_eq_true rfl) (Nat.le_of_ble_eq_true rfl) dX0_init_139 (fun q268 H hP hD hS => ?_)
  have hP : va_P (dC, dI) classes [(a, .inr (8, fs137)), (q1, .inl (cA2, 20, .inr (.inr (.inr (.inr f267))))), (q7, .inl (cA8, 6, .inr (.inr (.inr (.inr f9))))), (q14, .inl (cA15, 7, .inr (.inr (.inr (.inr f16))))), (q268, .inr (1, ((List.range 2).map (fun k => defaultValue (tyX1 k)))))] H := hP
  have hD : va_D A [(a, .inr (8, fs137)), (q1, .inl (cA2, 20, .inr (.inr (.inr (.inr f267))))), (q7, .inl (cA8, 6, .inr (.inr (.inr (.inr f9))))), (q14, .inl (cA15, 7, .inr (.inr (.inr (.inr f16))))), (q268, .inr (1, ((List.range 2).map (fun k => defaultValue (tyX1 k)))))] := hD
  obtain ⟨fs269, efs269⟩ : ∃ y : List Value, y = (List.range 2).map (fun k => defaultValue (tyX1 k)) := ⟨_, rfl⟩
  rw [← efs269] at hP hD
  have hl_270 : fs269.length = 2 := by rw [efs269, List.length_map, List.length_range]
  have hf_271 : fs269[0]? = some (.null) := by rw [efs269]; rfl
  have hf_272 : fs269[1]? = some (.int 0) := by rw [efs269]; rfl
  refine W.widen (k := 37) (n := 1593) (Nat.le_of_ble_eq_true rfl) (Nat.le_of_ble_eq_true rfl) ?_
  refine lv_dup hx hb dX0_init_142 rfl ?_
  have hPc := hP.sub (ws' := [(q268, .inr (1, fs269))]) [4] rfl
  have hDc := hD.sub (ws' := [(q268, .inr (1, fs269))]) [4] (by decide) rfl
  have hKc := hK.sub (tys' := []) [] rfl
  have hFc := va_free (wc := [(q268, .inr (1, fs269))]) hD hS hA [4] rfl
  refine va_callv (va_runIN (As := []) (rest := [.ref q268, .int 9, .ref q1]) ⟨hx, hb, hml, hown, hG⟩ (c_Big_init l dC dI z q268 fs269 H.size hl_270 hf_272) ⟨va_cnB (host := "Seattable") 0 hG (gI m_47) rfl rfl rfl (nw_nest_3 hN) (hG _ m_46) (by decide +kernel) ⟨Nat.le_of_ble_eq_true rfl, Nat.le_of_ble_eq_true rfl⟩, rfl, (hG _ m_48)⟩ ⟨pre_blind, fun U hU hW => ⟨rfl, pre_call hU hW hPc hKc hDc hN (zkeep hZ hS) hFc⟩⟩ rfl rfl hl.1 rfl (lv_room (Nat.le_of_ble_eq_true rfl)) dX0_init_143 ⟨Nat.le_of_ble_eq_true rfl, Nat.le_of_ble_eq_true rfl⟩) hS (fun q _ h => hFc q h) hFc (fun u t H locs ht hvm hw hB hz1 hk1 hS => ?_)
  obtain ⟨fs274, q275, cA276, f277, hP1, hK1, hD1, hy278, hy279, hy280⟩ := hB
  rw [ht] at hP1
  have hK1 := va_K.moved hvm.symm hK1
  obtain ⟨hP, hD⟩ := va_join (wr := [(a, .inr (8, fs137)), (q1, .inl (cA2, 20, .inr (.inr (.inr (.inr f267))))), (q7, .inl (cA8, 6, .inr (.inr (.inr (.inr f9))))), (q14, .inl (cA15, 7, .inr (.inr (.inr (.inr f16)))))]) (w1 := [(q268, .inr (1, fs274)), (q275, .inl (cA276, 96, .inl f277))]) hP hD [4] [0, 1, 2, 3] rfl rfl (by decide) (by decide) hk1 hFc hP1 hD1
  have hK := (hK.sub (tys' := [(cA2, .object "Seattable$Big"), (cA8, .object "Seattable$Big"), (cA15, .object "Seattable$Big")]) [0, 1, 2] rfl).app hK1
  have hP : va_P (dC, dI) classes [(a, .inr (8, fs137)), (q1, .inl (cA2, 20, .inr (.inr (.inr (.inr f267))))), (q7, .inl (cA8, 6, .inr (.inr (.inr (.inr f9))))), (q14, .inl (cA15, 7, .inr (.inr (.inr (.inr f16))))), (q268, .inr (1, fs274)), (q275, .inl (cA276, 96, .inl f277))] H := hP
  have hD : va_D A [(a, .inr (8, fs137)), (q1, .inl (cA2, 20, .inr (.inr (.inr (.inr f267))))), (q7, .inl (cA8, 6, .inr (.inr (.inr (.inr f9))))), (q14, .inl (cA15, 7, .inr (.inr (.inr (.inr f16))))), (q268, .inr (1, fs274)), (q275, .inl (cA276, 96, .inl f277))] := hD
  have hK : va_K (dC, dI) classes [(cA2, .object "Seattable$Big"), (cA8, .object "Seattable$Big"), (cA15, .object "Seattable$Big"), (cA276, .int)] s := hK
  refine W.widen (k := 38) (n := 1689) (Nat.le_of_ble_eq_true rfl) (Nat.le_of_ble_eq_true rfl) ?_
  refine va_astq (D := (dC, dI)) (ci := 1) (r := (RX1, TX1, 2)) hx hb hK hP hD hS 1 0 4 rfl rfl rfl rfl (by unfold vp_in; decide) dX0_init_146 (fun H locs hP hD hS => ?_)
  have hP : va_P (dC, dI) classes [(a, .inr (8, fs137)), (q1, .inl (cA2, 20, .inr (.inr (.inr (.inr (va_up f267 (9 : Int32).toNatClampNeg (some q268))))))), (q7, .inl (cA8, 6, .inr (.inr (.inr (.inr f9))))), (q14, .inl (cA15, 7, .inr (.inr (.inr (.inr f16))))), (q268, .inr (1, fs274)), (q275, .inl (cA276, 96, .inl f277))] H := hP
  have hD : va_D A [(a, .inr (8, fs137)), (q1, .inl (cA2, 20, .inr (.inr (.inr (.inr (va_up f267 (9 : Int32).toNatClampNeg (some q268))))))), (q7, .inl (cA8, 6, .inr (.inr (.inr (.inr f9))))), (q14, .inl (cA15, 7, .inr (.inr (.inr (.inr f16))))), (q268, .inr (1, fs274)), (q275, .inl (cA276, 96, .inl f277))] := hD
  obtain ⟨f281, ef281⟩ : ∃ y : Nat → Option Nat, y = (va_up f267 (9 : Int32).toNatClampNeg (some q268)) := ⟨_, rfl⟩
  rw [← ef281] at hP hD
  have hP := hP.sub (ws' := [(a, .inr (8, fs137)), (q1, .inl (cA2, 20, .inr (.inr (.inr (.inr f281))))), (q7, .inl (cA8, 6, .inr (.inr (.inr (.inr f9))))), (q14, .inl (cA15, 7, .inr (.inr (.inr (.inr f16)))))]) [0, 1, 2, 3] rfl
  have hD := hD.sub (ws' := [(a, .inr (8, fs137)), (q1, .inl (cA2, 20, .inr (.inr (.inr (.inr f281))))), (q7, .inl (cA8, 6, .inr (.inr (.inr (.inr f9))))), (q14, .inl (cA15, 7, .inr (.inr (.inr (.inr f16)))))]) [0, 1, 2, 3] (by decide) rfl
  have hK := hK.sub (tys' := [(cA2, .object "Seattable$Big"), (cA8, .object "Seattable$Big"), (cA15, .object "Seattable$Big")]) [0, 1, 2] rfl
  refine lv_iinc (v := 10) (lv' := [(1, .int 10), (0, .ref a)]) hx hb dX0_init_147 hl (k := 0) rfl (by decide) (by decide) rfl (fun ls hl => ?_)
  refine lv_goto (tgt := 128) hx hb dX0_init_150 (by decide) ?_
  refine lv_iload_n hx hb dX0_init_128 rfl (lv_at hl 0 rfl) ?_
  refine lv_bipush (v := 20) hx hb dX0_init_129 (by decide) ?_
  refine lv_icmp_ge (tgt := 153) hx hb dX0_init_131 (by decide) (fun c9 => absurd c9 (by decide)) (fun _ => ?_)
  refine lv_aload_n hx hb dX0_init_134 rfl (lv_at hl 1 rfl) ?_
  refine va_get (D := (dC, dI)) (ci := 8) (v := .ref q1) (C := RX0) (T := TX0) (N := 20) hx hb hG iX0 hown hK hP 0 rfl rfl 0 (by decide) (hG _ m_100) (fun _ h9 => h9) hf_139 dX0_init_135 ?_
  refine lv_iload_n hx hb dX0_init_138 rfl (lv_at hl 0 rfl) ?_
  refine va_new (D := (dC, dI)) (ci := 1) (fs := (List.range 2).map (fun k => defaultValue (tyX1 k))) (C := RX1) (T := TX1) (N := 2) hx hb hG iX1 tyX1 tyX1_ok hown (hG _ m_99) (hG _ m_45) (hG _ m_46) hK hP hD hS hA rfl (fs_new 2 tyX1) (Nat.le_of_ble_eq_true rfl) (Nat.le_of_ble_eq_true rfl) dX0_init_139 (fun q282 H hP hD hS => ?_)
  have hP : va_P (dC, dI) classes [(a, .inr (8, fs137)), (q1, .inl (cA2, 20, .inr (.inr (.inr (.inr f281))))), (q7, .inl (cA8, 6, .inr (.inr (.inr (.inr f9))))), (q14, .inl (cA15, 7, .inr (.inr (.inr (.inr f16))))), (q282, .inr (1, ((List.range 2).map (fun k => defaultValue (tyX1 k)))))] H := hP
  have hD : va_D A [(a, .inr (8, fs137)), (q1, .inl (cA2, 20, .inr (.inr (.inr (.inr f281))))), (q7, .inl (cA8, 6, .inr (.inr (.inr (.inr f9))))), (q14, .inl (cA15, 7, .inr (.inr (.inr (.inr f16))))), (q282, .inr (1, ((List.range 2).map (fun k => defaultValue (tyX1 k)))))] := hD
  obtain ⟨fs283, efs283⟩ : ∃ y : List Value, y = (List.range 2).map (fun k => defaultValue (tyX1 k)) := ⟨_, rfl⟩
  rw [← efs283] at hP hD
  have hl_284 : fs283.length = 2 := by rw [efs283, List.length_map, List.length_range]
  have hf_285 : fs283[0]? = some (.null) := by rw [efs283]; rfl
  have hf_286 : fs283[1]? = some (.int 0) := by rw [efs283]; rfl
  refine W.widen (k := 39) (n := 1691) (Nat.le_of_ble_eq_true rfl) (Nat.le_of_ble_eq_true rfl) ?_
  refine lv_dup hx hb dX0_init_142 rfl ?_
  have hPc := hP.sub (ws' := [(q282, .inr (1, fs283))]) [4] rfl
  have hDc := hD.sub (ws' := [(q282, .inr (1, fs283))]) [4] (by decide) rfl
  have hKc := hK.sub (tys' := []) [] rfl
  have hFc := va_free (wc := [(q282, .inr (1, fs283))]) hD hS hA [4] rfl
  refine va_callv (va_runIN (As := []) (rest := [.ref q282, .int 10, .ref q1]) ⟨hx, hb, hml, hown, hG⟩ (c_Big_init l dC dI z q282 fs283 H.size hl_284 hf_286) ⟨va_cnB (host := "Seattable") 0 hG (gI m_47) rfl rfl rfl (nw_nest_3 hN) (hG _ m_46) (by decide +kernel) ⟨Nat.le_of_ble_eq_true rfl, Nat.le_of_ble_eq_true rfl⟩, rfl, (hG _ m_48)⟩ ⟨pre_blind, fun U hU hW => ⟨rfl, pre_call hU hW hPc hKc hDc hN (zkeep hZ hS) hFc⟩⟩ rfl rfl hl.1 rfl (lv_room (Nat.le_of_ble_eq_true rfl)) dX0_init_143 ⟨Nat.le_of_ble_eq_true rfl, Nat.le_of_ble_eq_true rfl⟩) hS (fun q _ h => hFc q h) hFc (fun u t H locs ht hvm hw hB hz1 hk1 hS => ?_)
  obtain ⟨fs288, q289, cA290, f291, hP1, hK1, hD1, hy292, hy293, hy294⟩ := hB
  rw [ht] at hP1
  have hK1 := va_K.moved hvm.symm hK1
  obtain ⟨hP, hD⟩ := va_join (wr := [(a, .inr (8, fs137)), (q1, .inl (cA2, 20, .inr (.inr (.inr (.inr f281))))), (q7, .inl (cA8, 6, .inr (.inr (.inr (.inr f9))))), (q14, .inl (cA15, 7, .inr (.inr (.inr (.inr f16)))))]) (w1 := [(q282, .inr (1, fs288)), (q289, .inl (cA290, 96, .inl f291))]) hP hD [4] [0, 1, 2, 3] rfl rfl (by decide) (by decide) hk1 hFc hP1 hD1
  have hK := (hK.sub (tys' := [(cA2, .object "Seattable$Big"), (cA8, .object "Seattable$Big"), (cA15, .object "Seattable$Big")]) [0, 1, 2] rfl).app hK1
  have hP : va_P (dC, dI) classes [(a, .inr (8, fs137)), (q1, .inl (cA2, 20, .inr (.inr (.inr (.inr f281))))), (q7, .inl (cA8, 6, .inr (.inr (.inr (.inr f9))))), (q14, .inl (cA15, 7, .inr (.inr (.inr (.inr f16))))), (q282, .inr (1, fs288)), (q289, .inl (cA290, 96, .inl f291))] H := hP
  have hD : va_D A [(a, .inr (8, fs137)), (q1, .inl (cA2, 20, .inr (.inr (.inr (.inr f281))))), (q7, .inl (cA8, 6, .inr (.inr (.inr (.inr f9))))), (q14, .inl (cA15, 7, .inr (.inr (.inr (.inr f16))))), (q282, .inr (1, fs288)), (q289, .inl (cA290, 96, .inl f291))] := hD
  have hK : va_K (dC, dI) classes [(cA2, .object "Seattable$Big"), (cA8, .object "Seattable$Big"), (cA15, .object "Seattable$Big"), (cA290, .int)] s := hK
  refine W.widen (k := 40) (n := 1787) (Nat.le_of_ble_eq_true rfl) (Nat.le_of_ble_eq_true rfl) ?_
  refine va_astq (D := (dC, dI)) (ci := 1) (r := (RX1, TX1, 2)) hx hb hK hP hD hS 1 0 4 rfl rfl rfl rfl (by unfold vp_in; decide) dX0_init_146 (fun H locs hP hD hS => ?_)
  have hP : va_P (dC, dI) classes [(a, .inr (8, fs137)), (q1, .inl (cA2, 20, .inr (.inr (.inr (.inr (va_up f281 (10 : Int32).toNatClampNeg (some q282))))))), (q7, .inl (cA8, 6, .inr (.inr (.inr (.inr f9))))), (q14, .inl (cA15, 7, .inr (.inr (.inr (.inr f16))))), (q282, .inr (1, fs288)), (q289, .inl (cA290, 96, .inl f291))] H := hP
  have hD : va_D A [(a, .inr (8, fs137)), (q1, .inl (cA2, 20, .inr (.inr (.inr (.inr (va_up f281 (10 : Int32).toNatClampNeg (some q282))))))), (q7, .inl (cA8, 6, .inr (.inr (.inr (.inr f9))))), (q14, .inl (cA15, 7, .inr (.inr (.inr (.inr f16))))), (q282, .inr (1, fs288)), (q289, .inl (cA290, 96, .inl f291))] := hD
  obtain ⟨f295, ef295⟩ : ∃ y : Nat → Option Nat, y = (va_up f281 (10 : Int32).toNatClampNeg (some q282)) := ⟨_, rfl⟩
  rw [← ef295] at hP hD
  have hP := hP.sub (ws' := [(a, .inr (8, fs137)), (q1, .inl (cA2, 20, .inr (.inr (.inr (.inr f295))))), (q7, .inl (cA8, 6, .inr (.inr (.inr (.inr f9))))), (q14, .inl (cA15, 7, .inr (.inr (.inr (.inr f16)))))]) [0, 1, 2, 3] rfl
  have hD := hD.sub (ws' := [(a, .inr (8, fs137)), (q1, .inl (cA2, 20, .inr (.inr (.inr (.inr f295))))), (q7, .inl (cA8, 6, .inr (.inr (.inr (.inr f9))))), (q14, .inl (cA15, 7, .inr (.inr (.inr (.inr f16)))))]) [0, 1, 2, 3] (by decide) rfl
  have hK := hK.sub (tys' := [(cA2, .object "Seattable$Big"), (cA8, .object "Seattable$Big"), (cA15, .object "Seattable$Big")]) [0, 1, 2] rfl
  refine lv_iinc (v := 11) (lv' := [(1, .int 11), (0, .ref a)]) hx hb dX0_init_147 hl (k := 0) rfl (by decide) (by decide) rfl (fun ls hl => ?_)
  refine lv_goto (tgt := 128) hx hb dX0_init_150 (by decide) ?_
  refine lv_iload_n hx hb dX0_init_128 rfl (lv_at hl 0 rfl) ?_
  refine lv_bipush (v := 20) hx hb dX0_init_129 (by decide) ?_
  refine lv_icmp_ge (tgt := 153) hx hb dX0_init_131 (by decide) (fun c9 => absurd c9 (by decide)) (fun _ => ?_)
  refine lv_aload_n hx hb dX0_init_134 rfl (lv_at hl 1 rfl) ?_
  refine va_get (D := (dC, dI)) (ci := 8) (v := .ref q1) (C := RX0) (T := TX0) (N := 20) hx hb hG iX0 hown hK hP 0 rfl rfl 0 (by decide) (hG _ m_100) (fun _ h9 => h9) hf_139 dX0_init_135 ?_
  refine lv_iload_n hx hb dX0_init_138 rfl (lv_at hl 0 rfl) ?_
  refine va_new (D := (dC, dI)) (ci := 1) (fs := (List.range 2).map (fun k => defaultValue (tyX1 k))) (C := RX1) (T := TX1) (N := 2) hx hb hG iX1 tyX1 tyX1_ok hown (hG _ m_99) (hG _ m_45) (hG _ m_46) hK hP hD hS hA rfl (fs_new 2 tyX1) (Nat.le_of_ble_eq_true rfl) (Nat.le_of_ble_eq_true rfl) dX0_init_139 (fun q296 H hP hD hS => ?_)
  have hP : va_P (dC, dI) classes [(a, .inr (8, fs137)), (q1, .inl (cA2, 20, .inr (.inr (.inr (.inr f295))))), (q7, .inl (cA8, 6, .inr (.inr (.inr (.inr f9))))), (q14, .inl (cA15, 7, .inr (.inr (.inr (.inr f16))))), (q296, .inr (1, ((List.range 2).map (fun k => defaultValue (tyX1 k)))))] H := hP
  have hD : va_D A [(a, .inr (8, fs137)), (q1, .inl (cA2, 20, .inr (.inr (.inr (.inr f295))))), (q7, .inl (cA8, 6, .inr (.inr (.inr (.inr f9))))), (q14, .inl (cA15, 7, .inr (.inr (.inr (.inr f16))))), (q296, .inr (1, ((List.range 2).map (fun k => defaultValue (tyX1 k)))))] := hD
  obtain ⟨fs297, efs297⟩ : ∃ y : List Value, y = (List.range 2).map (fun k => defaultValue (tyX1 k)) := ⟨_, rfl⟩
  rw [← efs297] at hP hD
  have hl_298 : fs297.length = 2 := by rw [efs297, List.length_map, List.length_range]
  have hf_299 : fs297[0]? = some (.null) := by rw [efs297]; rfl
  have hf_300 : fs297[1]? = some (.int 0) := by rw [efs297]; rfl
  refine W.widen (k := 41) (n := 1789) (Nat.le_of_ble_eq_true rfl) (Nat.le_of_ble_eq_true rfl) ?_
  refine lv_dup hx hb dX0_init_142 rfl ?_
  have hPc := hP.sub (ws' := [(q296, .inr (1, fs297))]) [4] rfl
  have hDc := hD.sub (ws' := [(q296, .inr (1, fs297))]) [4] (by decide) rfl
  have hKc := hK.sub (tys' := []) [] rfl
  have hFc := va_free (wc := [(q296, .inr (1, fs297))]) hD hS hA [4] rfl
  refine va_callv (va_runIN (As := []) (rest := [.ref q296, .int 11, .ref q1]) ⟨hx, hb, hml, hown, hG⟩ (c_Big_init l dC dI z q296 fs297 H.size hl_298 hf_300) ⟨va_cnB (host := "Seattable") 0 hG (gI m_47) rfl rfl rfl (nw_nest_3 hN) (hG _ m_46) (by decide +kernel) ⟨Nat.le_of_ble_eq_true rfl, Nat.le_of_ble_eq_true rfl⟩, rfl, (hG _ m_48)⟩ ⟨pre_blind, fun U hU hW => ⟨rfl, pre_call hU hW hPc hKc hDc hN (zkeep hZ hS) hFc⟩⟩ rfl rfl hl.1 rfl (lv_room (Nat.le_of_ble_eq_true rfl)) dX0_init_143 ⟨Nat.le_of_ble_eq_true rfl, Nat.le_of_ble_eq_true rfl⟩) hS (fun q _ h => hFc q h) hFc (fun u t H locs ht hvm hw hB hz1 hk1 hS => ?_)
  obtain ⟨fs302, q303, cA304, f305, hP1, hK1, hD1, hy306, hy307, hy308⟩ := hB
  rw [ht] at hP1
  have hK1 := va_K.moved hvm.symm hK1
  obtain ⟨hP, hD⟩ := va_join (wr := [(a, .inr (8, fs137)), (q1, .inl (cA2, 20, .inr (.inr (.inr (.inr f295))))), (q7, .inl (cA8, 6, .inr (.inr (.inr (.inr f9))))), (q14, .inl (cA15, 7, .inr (.inr (.inr (.inr f16)))))]) (w1 := [(q296, .inr (1, fs302)), (q303, .inl (cA304, 96, .inl f305))]) hP hD [4] [0, 1, 2, 3] rfl rfl (by decide) (by decide) hk1 hFc hP1 hD1
  have hK := (hK.sub (tys' := [(cA2, .object "Seattable$Big"), (cA8, .object "Seattable$Big"), (cA15, .object "Seattable$Big")]) [0, 1, 2] rfl).app hK1
  have hP : va_P (dC, dI) classes [(a, .inr (8, fs137)), (q1, .inl (cA2, 20, .inr (.inr (.inr (.inr f295))))), (q7, .inl (cA8, 6, .inr (.inr (.inr (.inr f9))))), (q14, .inl (cA15, 7, .inr (.inr (.inr (.inr f16))))), (q296, .inr (1, fs302)), (q303, .inl (cA304, 96, .inl f305))] H := hP
  have hD : va_D A [(a, .inr (8, fs137)), (q1, .inl (cA2, 20, .inr (.inr (.inr (.inr f295))))), (q7, .inl (cA8, 6, .inr (.inr (.inr (.inr f9))))), (q14, .inl (cA15, 7, .inr (.inr (.inr (.inr f16))))), (q296, .inr (1, fs302)), (q303, .inl (cA304, 96, .inl f305))] := hD
  have hK : va_K (dC, dI) classes [(cA2, .object "Seattable$Big"), (cA8, .object "Seattable$Big"), (cA15, .object "Seattable$Big"), (cA304, .int)] s := hK
  refine W.widen (k := 42) (n := 1885) (Nat.le_of_ble_eq_true rfl) (Nat.le_of_ble_eq_true rfl) ?_
  refine va_astq (D := (dC, dI)) (ci := 1) (r := (RX1, TX1, 2)) hx hb hK hP hD hS 1 0 4 rfl rfl rfl rfl (by unfold vp_in; decide) dX0_init_146 (fun H locs hP hD hS => ?_)
  have hP : va_P (dC, dI) classes [(a, .inr (8, fs137)), (q1, .inl (cA2, 20, .inr (.inr (.inr (.inr (va_up f295 (11 : Int32).toNatClampNeg (some q296))))))), (q7, .inl (cA8, 6, .inr (.inr (.inr (.inr f9))))), (q14, .inl (cA15, 7, .inr (.inr (.inr (.inr f16))))), (q296, .inr (1, fs302)), (q303, .inl (cA304, 96, .inl f305))] H := hP
  have hD : va_D A [(a, .inr (8, fs137)), (q1, .inl (cA2, 20, .inr (.inr (.inr (.inr (va_up f295 (11 : Int32).toNatClampNeg (some q296))))))), (q7, .inl (cA8, 6, .inr (.inr (.inr (.inr f9))))), (q14, .inl (cA15, 7, .inr (.inr (.inr (.inr f16))))), (q296, .inr (1, fs302)), (q303, .inl (cA304, 96, .inl f305))] := hD
  obtain ⟨f309, ef309⟩ : ∃ y : Nat → Option Nat, y = (va_up f295 (11 : Int32).toNatClampNeg (some q296)) := ⟨_, rfl⟩
  rw [← ef309] at hP hD
  have hP := hP.sub (ws' := [(a, .inr (8, fs137)), (q1, .inl (cA2, 20, .inr (.inr (.inr (.inr f309))))), (q7, .inl (cA8, 6, .inr (.inr (.inr (.inr f9))))), (q14, .inl (cA15, 7, .inr (.inr (.inr (.inr f16)))))]) [0, 1, 2, 3] rfl
  have hD := hD.sub (ws' := [(a, .inr (8, fs137)), (q1, .inl (cA2, 20, .inr (.inr (.inr (.inr f309))))), (q7, .inl (cA8, 6, .inr (.inr (.inr (.inr f9))))), (q14, .inl (cA15, 7, .inr (.inr (.inr (.inr f16)))))]) [0, 1, 2, 3] (by decide) rfl
  have hK := hK.sub (tys' := [(cA2, .object "Seattable$Big"), (cA8, .object "Seattable$Big"), (cA15, .object "Seattable$Big")]) [0, 1, 2] rfl
  refine lv_iinc (v := 12) (lv' := [(1, .int 12), (0, .ref a)]) hx hb dX0_init_147 hl (k := 0) rfl (by decide) (by decide) rfl (fun ls hl => ?_)
  refine lv_goto (tgt := 128) hx hb dX0_init_150 (by decide) ?_
  refine lv_iload_n hx hb dX0_init_128 rfl (lv_at hl 0 rfl) ?_
  refine lv_bipush (v := 20) hx hb dX0_init_129 (by decide) ?_
  refine lv_icmp_ge (tgt := 153) hx hb dX0_init_131 (by decide) (fun c9 => absurd c9 (by decide)) (fun _ => ?_)
  refine lv_aload_n hx hb dX0_init_134 rfl (lv_at hl 1 rfl) ?_
  refine va_get (D := (dC, dI)) (ci := 8) (v := .ref q1) (C := RX0) (T := TX0) (N := 20) hx hb hG iX0 hown hK hP 0 rfl rfl 0 (by decide) (hG _ m_100) (fun _ h9 => h9) hf_139 dX0_init_135 ?_
  refine lv_iload_n hx hb dX0_init_138 rfl (lv_at hl 0 rfl) ?_
  refine va_new (D := (dC, dI)) (ci := 1) (fs := (List.range 2).map (fun k => defaultValue (tyX1 k))) (C := RX1) (T := TX1) (N := 2) hx hb hG iX1 tyX1 tyX1_ok hown (hG _ m_99) (hG _ m_45) (hG _ m_46) hK hP hD hS hA rfl (fs_new 2 tyX1) (Nat.le_of_ble_eq_true rfl) (Nat.le_of_ble_eq_true rfl) dX0_init_139 (fun q310 H hP hD hS => ?_)
  have hP : va_P (dC, dI) classes [(a, .inr (8, fs137)), (q1, .inl (cA2, 20, .inr (.inr (.inr (.inr f309))))), (q7, .inl (cA8, 6, .inr (.inr (.inr (.inr f9))))), (q14, .inl (cA15, 7, .inr (.inr (.inr (.inr f16))))), (q310, .inr (1, ((List.range 2).map (fun k => defaultValue (tyX1 k)))))] H := hP
  have hD : va_D A [(a, .inr (8, fs137)), (q1, .inl (cA2, 20, .inr (.inr (.inr (.inr f309))))), (q7, .inl (cA8, 6, .inr (.inr (.inr (.inr f9))))), (q14, .inl (cA15, 7, .inr (.inr (.inr (.inr f16))))), (q310, .inr (1, ((List.range 2).map (fun k => defaultValue (tyX1 k)))))] := hD
  obtain ⟨fs311, efs311⟩ : ∃ y : List Value, y = (List.range 2).map (fun k => defaultValue (tyX1 k)) := ⟨_, rfl⟩
  rw [← efs311] at hP hD
  have hl_312 : fs311.length = 2 := by rw [efs311, List.length_map, List.length_range]
  have hf_313 : fs311[0]? = some (.null) := by rw [efs311]; rfl
  have hf_314 : fs311[1]? = some (.int 0) := by rw [efs311]; rfl
  refine W.widen (k := 43) (n := 1887) (Nat.le_of_ble_eq_true rfl) (Nat.le_of_ble_eq_true rfl) ?_
  refine lv_dup hx hb dX0_init_142 rfl ?_
  have hPc := hP.sub (ws' := [(q310, .inr (1, fs311))]) [4] rfl
  have hDc := hD.sub (ws' := [(q310, .inr (1, fs311))]) [4] (by decide) rfl
  have hKc := hK.sub (tys' := []) [] rfl
  have hFc := va_free (wc := [(q310, .inr (1, fs311))]) hD hS hA [4] rfl
  refine va_callv (va_runIN (As := []) (rest := [.ref q310, .int 12, .ref q1]) ⟨hx, hb, hml, hown, hG⟩ (c_Big_init l dC dI z q310 fs311 H.size hl_312 hf_314) ⟨va_cnB (host := "Seattable") 0 hG (gI m_47) rfl rfl rfl (nw_nest_3 hN) (hG _ m_46) (by decide +kernel) ⟨Nat.le_of_ble_eq_true rfl, Nat.le_of_ble_eq_true rfl⟩, rfl, (hG _ m_48)⟩ ⟨pre_blind, fun U hU hW => ⟨rfl, pre_call hU hW hPc hKc hDc hN (zkeep hZ hS) hFc⟩⟩ rfl rfl hl.1 rfl (lv_room (Nat.le_of_ble_eq_true rfl)) dX0_init_143 ⟨Nat.le_of_ble_eq_true rfl, Nat.le_of_ble_eq_true rfl⟩) hS (fun q _ h => hFc q h) hFc (fun u t H locs ht hvm hw hB hz1 hk1 hS => ?_)
  obtain ⟨fs316, q317, cA318, f319, hP1, hK1, hD1, hy320, hy321, hy322⟩ := hB
  rw [ht] at hP1
  have hK1 := va_K.moved hvm.symm hK1
  obtain ⟨hP, hD⟩ := va_join (wr := [(a, .inr (8, fs137)), (q1, .inl (cA2, 20, .inr (.inr (.inr (.inr f309))))), (q7, .inl (cA8, 6, .inr (.inr (.inr (.inr f9))))), (q14, .inl (cA15, 7, .inr (.inr (.inr (.inr f16)))))]) (w1 := [(q310, .inr (1, fs316)), (q317, .inl (cA318, 96, .inl f319))]) hP hD [4] [0, 1, 2, 3] rfl rfl (by decide) (by decide) hk1 hFc hP1 hD1
  have hK := (hK.sub (tys' := [(cA2, .object "Seattable$Big"), (cA8, .object "Seattable$Big"), (cA15, .object "Seattable$Big")]) [0, 1, 2] rfl).app hK1
  have hP : va_P (dC, dI) classes [(a, .inr (8, fs137)), (q1, .inl (cA2, 20, .inr (.inr (.inr (.inr f309))))), (q7, .inl (cA8, 6, .inr (.inr (.inr (.inr f9))))), (q14, .inl (cA15, 7, .inr (.inr (.inr (.inr f16))))), (q310, .inr (1, fs316)), (q317, .inl (cA318, 96, .inl f319))] H := hP
  have hD : va_D A [(a, .inr (8, fs137)), (q1, .inl (cA2, 20, .inr (.inr (.inr (.inr f309))))), (q7, .inl (cA8, 6, .inr (.inr (.inr (.inr f9))))), (q14, .inl (cA15, 7, .inr (.inr (.inr (.inr f16))))), (q310, .inr (1, fs316)), (q317, .inl (cA318, 96, .inl f319))] := hD
  have hK : va_K (dC, dI) classes [(cA2, .object "Seattable$Big"), (cA8, .object "Seattable$Big"), (cA15, .object "Seattable$Big"), (cA318, .int)] s := hK
  refine W.widen (k := 44) (n := 1983) (Nat.le_of_ble_eq_true rfl) (Nat.le_of_ble_eq_true rfl) ?_
  refine va_astq (D := (dC, dI)) (ci := 1) (r := (RX1, TX1, 2)) hx hb hK hP hD hS 1 0 4 rfl rfl rfl rfl (by unfold vp_in; decide) dX0_init_146 (fun H locs hP hD hS => ?_)
  have hP : va_P (dC, dI) classes [(a, .inr (8, fs137)), (q1, .inl (cA2, 20, .inr (.inr (.inr (.inr (va_up f309 (12 : Int32).toNatClampNeg (some q310))))))), (q7, .inl (cA8, 6, .inr (.inr (.inr (.inr f9))))), (q14, .inl (cA15, 7, .inr (.inr (.inr (.inr f16))))), (q310, .inr (1, fs316)), (q317, .inl (cA318, 96, .inl f319))] H := hP
  have hD : va_D A [(a, .inr (8, fs137)), (q1, .inl (cA2, 20, .inr (.inr (.inr (.inr (va_up f309 (12 : Int32).toNatClampNeg (some q310))))))), (q7, .inl (cA8, 6, .inr (.inr (.inr (.inr f9))))), (q14, .inl (cA15, 7, .inr (.inr (.inr (.inr f16))))), (q310, .inr (1, fs316)), (q317, .inl (cA318, 96, .inl f319))] := hD
  obtain ⟨f323, ef323⟩ : ∃ y : Nat → Option Nat, y = (va_up f309 (12 : Int32).toNatClampNeg (some q310)) := ⟨_, rfl⟩
  rw [← ef323] at hP hD
  have hP := hP.sub (ws' := [(a, .inr (8, fs137)), (q1, .inl (cA2, 20, .inr (.inr (.inr (.inr f323))))), (q7, .inl (cA8, 6, .inr (.inr (.inr (.inr f9))))), (q14, .inl (cA15, 7, .inr (.inr (.inr (.inr f16)))))]) [0, 1, 2, 3] rfl
  have hD := hD.sub (ws' := [(a, .inr (8, fs137)), (q1, .inl (cA2, 20, .inr (.inr (.inr (.inr f323))))), (q7, .inl (cA8, 6, .inr (.inr (.inr (.inr f9))))), (q14, .inl (cA15, 7, .inr (.inr (.inr (.inr f16)))))]) [0, 1, 2, 3] (by decide) rfl
  have hK := hK.sub (tys' := [(cA2, .object "Seattable$Big"), (cA8, .object "Seattable$Big"), (cA15, .object "Seattable$Big")]) [0, 1, 2] rfl
  refine lv_iinc (v := 13) (lv' := [(1, .int 13), (0, .ref a)]) hx hb dX0_init_147 hl (k := 0) rfl (by decide) (by decide) rfl (fun ls hl => ?_)
  refine lv_goto (tgt := 128) hx hb dX0_init_150 (by decide) ?_
  refine lv_iload_n hx hb dX0_init_128 rfl (lv_at hl 0 rfl) ?_
  refine lv_bipush (v := 20) hx hb dX0_init_129 (by decide) ?_
  refine lv_icmp_ge (tgt := 153) hx hb dX0_init_131 (by decide) (fun c9 => absurd c9 (by decide)) (fun _ => ?_)
  refine lv_aload_n hx hb dX0_init_134 rfl (lv_at hl 1 rfl) ?_
  refine va_get (D := (dC, dI)) (ci := 8) (v := .ref q1) (C := RX0) (T := TX0) (N := 20) hx hb hG iX0 hown hK hP 0 rfl rfl 0 (by decide) (hG _ m_100) (fun _ h9 => h9) hf_139 dX0_init_135 ?_
  refine lv_iload_n hx hb dX0_init_138 rfl (lv_at hl 0 rfl) ?_
  refine va_new (D := (dC, dI)) (ci := 1) (fs := (List.range 2).map (fun k => defaultValue (tyX1 k))) (C := RX1) (T := TX1) (N := 2) hx hb hG iX1 tyX1 tyX1_ok hown (hG _ m_99) (hG _ m_45) (hG _ m_46) hK hP hD hS hA rfl (fs_new 2 tyX1) (Nat.le_of_ble_eq_true rfl) (Nat.le_of_ble_eq_true rfl) dX0_init_139 (fun q324 H hP hD hS => ?_)
  have hP : va_P (dC, dI) classes [(a, .inr (8, fs137)), (q1, .inl (cA2, 20, .inr (.inr (.inr (.inr f323))))), (q7, .inl (cA8, 6, .inr (.inr (.inr (.inr f9))))), (q14, .inl (cA15, 7, .inr (.inr (.inr (.inr f16))))), (q324, .inr (1, ((List.range 2).map (fun k => defaultValue (tyX1 k)))))] H := hP
  have hD : va_D A [(a, .inr (8, fs137)), (q1, .inl (cA2, 20, .inr (.inr (.inr (.inr f323))))), (q7, .inl (cA8, 6, .inr (.inr (.inr (.inr f9))))), (q14, .inl (cA15, 7, .inr (.inr (.inr (.inr f16))))), (q324, .inr (1, ((List.range 2).map (fun k => defaultValue (tyX1 k)))))] := hD
  obtain ⟨fs325, efs325⟩ : ∃ y : List Value, y = (List.range 2).map (fun k => defaultValue (tyX1 k)) := ⟨_, rfl⟩
  rw [← efs325] at hP hD
  have hl_326 : fs325.length = 2 := by rw [efs325, List.length_map, List.length_range]
  have hf_327 : fs325[0]? = some (.null) := by rw [efs325]; rfl
  have hf_328 : fs325[1]? = some (.int 0) := by rw [efs325]; rfl
  refine W.widen (k := 45) (n := 1985) (Nat.le_of_ble_eq_true rfl) (Nat.le_of_ble_eq_true rfl) ?_
  refine lv_dup hx hb dX0_init_142 rfl ?_
  have hPc := hP.sub (ws' := [(q324, .inr (1, fs325))]) [4] rfl
  have hDc := hD.sub (ws' := [(q324, .inr (1, fs325))]) [4] (by decide) rfl
  have hKc := hK.sub (tys' := []) [] rfl
  have hFc := va_free (wc := [(q324, .inr (1, fs325))]) hD hS hA [4] rfl
  refine va_callv (va_runIN (As := []) (rest := [.ref q324, .int 13, .ref q1]) ⟨hx, hb, hml, hown, hG⟩ (c_Big_init l dC dI z q324 fs325 H.size hl_326 hf_328) ⟨va_cnB (host := "Seattable") 0 hG (gI m_47) rfl rfl rfl (nw_nest_3 hN) (hG _ m_46) (by decide +kernel) ⟨Nat.le_of_ble_eq_true rfl, Nat.le_of_ble_eq_true rfl⟩, rfl, (hG _ m_48)⟩ ⟨pre_blind, fun U hU hW => ⟨rfl, pre_call hU hW hPc hKc hDc hN (zkeep hZ hS) hFc⟩⟩ rfl rfl hl.1 rfl (lv_room (Nat.le_of_ble_eq_true rfl)) dX0_init_143 ⟨Nat.le_of_ble_eq_true rfl, Nat.le_of_ble_eq_true rfl⟩) hS (fun q _ h => hFc q h) hFc (fun u t H locs ht hvm hw hB hz1 hk1 hS => ?_)
  obtain ⟨fs330, q331, cA332, f333, hP1, hK1, hD1, hy334, hy335, hy336⟩ := hB
  rw [ht] at hP1
  have hK1 := va_K.moved hvm.symm hK1
  obtain ⟨hP, hD⟩ := va_join (wr := [(a, .inr (8, fs137)), (q1, .inl (cA2, 20, .inr (.inr (.inr (.inr f323))))), (q7, .inl (cA8, 6, .inr (.inr (.inr (.inr f9))))), (q14, .inl (cA15, 7, .inr (.inr (.inr (.inr f16)))))]) (w1 := [(q324, .inr (1, fs330)), (q331, .inl (cA332, 96, .inl f333))]) hP hD [4] [0, 1, 2, 3] rfl rfl (by decide) (by decide) hk1 hFc hP1 hD1
  have hK := (hK.sub (tys' := [(cA2, .object "Seattable$Big"), (cA8, .object "Seattable$Big"), (cA15, .object "Seattable$Big")]) [0, 1, 2] rfl).app hK1
  have hP : va_P (dC, dI) classes [(a, .inr (8, fs137)), (q1, .inl (cA2, 20, .inr (.inr (.inr (.inr f323))))), (q7, .inl (cA8, 6, .inr (.inr (.inr (.inr f9))))), (q14, .inl (cA15, 7, .inr (.inr (.inr (.inr f16))))), (q324, .inr (1, fs330)), (q331, .inl (cA332, 96, .inl f333))] H := hP
  have hD : va_D A [(a, .inr (8, fs137)), (q1, .inl (cA2, 20, .inr (.inr (.inr (.inr f323))))), (q7, .inl (cA8, 6, .inr (.inr (.inr (.inr f9))))), (q14, .inl (cA15, 7, .inr (.inr (.inr (.inr f16))))), (q324, .inr (1, fs330)), (q331, .inl (cA332, 96, .inl f333))] := hD
  have hK : va_K (dC, dI) classes [(cA2, .object "Seattable$Big"), (cA8, .object "Seattable$Big"), (cA15, .object "Seattable$Big"), (cA332, .int)] s := hK
  refine W.widen (k := 46) (n := 2081) (Nat.le_of_ble_eq_true rfl) (Nat.le_of_ble_eq_true rfl) ?_
  refine va_astq (D := (dC, dI)) (ci := 1) (r := (RX1, TX1, 2)) hx hb hK hP hD hS 1 0 4 rfl rfl rfl rfl (by unfold vp_in; decide) dX0_init_146 (fun H locs hP hD hS => ?_)
  have hP : va_P (dC, dI) classes [(a, .inr (8, fs137)), (q1, .inl (cA2, 20, .inr (.inr (.inr (.inr (va_up f323 (13 : Int32).toNatClampNeg (some q324))))))), (q7, .inl (cA8, 6, .inr (.inr (.inr (.inr f9))))), (q14, .inl (cA15, 7, .inr (.inr (.inr (.inr f16))))), (q324, .inr (1, fs330)), (q331, .inl (cA332, 96, .inl f333))] H := hP
  have hD : va_D A [(a, .inr (8, fs137)), (q1, .inl (cA2, 20, .inr (.inr (.inr (.inr (va_up f323 (13 : Int32).toNatClampNeg (some q324))))))), (q7, .inl (cA8, 6, .inr (.inr (.inr (.inr f9))))), (q14, .inl (cA15, 7, .inr (.inr (.inr (.inr f16))))), (q324, .inr (1, fs330)), (q331, .inl (cA332, 96, .inl f333))] := hD
  obtain ⟨f337, ef337⟩ : ∃ y : Nat → Option Nat, y = (va_up f323 (13 : Int32).toNatClampNeg (some q324)) := ⟨_, rfl⟩
  rw [← ef337] at hP hD
  have hP := hP.sub (ws' := [(a, .inr (8, fs137)), (q1, .inl (cA2, 20, .inr (.inr (.inr (.inr f337))))), (q7, .inl (cA8, 6, .inr (.inr (.inr (.inr f9))))), (q14, .inl (cA15, 7, .inr (.inr (.inr (.inr f16)))))]) [0, 1, 2, 3] rfl
  have hD := hD.sub (ws' := [(a, .inr (8, fs137)), (q1, .inl (cA2, 20, .inr (.inr (.inr (.inr f337))))), (q7, .inl (cA8, 6, .inr (.inr (.inr (.inr f9))))), (q14, .inl (cA15, 7, .inr (.inr (.inr (.inr f16)))))]) [0, 1, 2, 3] (by decide) rfl
  have hK := hK.sub (tys' := [(cA2, .object "Seattable$Big"), (cA8, .object "Seattable$Big"), (cA15, .object "Seattable$Big")]) [0, 1, 2] rfl
  refine lv_iinc (v := 14) (lv' := [(1, .int 14), (0, .ref a)]) hx hb dX0_init_147 hl (k := 0) rfl (by decide) (by decide) rfl (fun ls hl => ?_)
  refine lv_goto (tgt := 128) hx hb dX0_init_150 (by decide) ?_
  refine lv_iload_n hx hb dX0_init_128 rfl (lv_at hl 0 rfl) ?_
  refine lv_bipush (v := 20) hx hb dX0_init_129 (by decide) ?_
  refine lv_icmp_ge (tgt := 153) hx hb dX0_init_131 (by decide) (fun c9 => absurd c9 (by decide)) (fun _ => ?_)
  refine lv_aload_n hx hb dX0_init_134 rfl (lv_at hl 1 rfl) ?_
  refine va_get (D := (dC, dI)) (ci := 8) (v := .ref q1) (C := RX0) (T := TX0) (N := 20) hx hb hG iX0 hown hK hP 0 rfl rfl 0 (by decide) (hG _ m_100) (fun _ h9 => h9) hf_139 dX0_init_135 ?_
  refine lv_iload_n hx hb dX0_init_138 rfl (lv_at hl 0 rfl) ?_
  refine va_new (D := (dC, dI)) (ci := 1) (fs := (List.range 2).map (fun k => defaultValue (tyX1 k))) (C := RX1) (T := TX1) (N := 2) hx hb hG iX1 tyX1 tyX1_ok hown (hG _ m_99) (hG _ m_45) (hG _ m_46) hK hP hD hS hA rfl (fs_new 2 tyX1) (Nat.le_of_ble_eq_true rfl) (Nat.le_of_ble_eq_true rfl) dX0_init_139 (fun q338 H hP hD hS => ?_)
  have hP : va_P (dC, dI) classes [(a, .inr (8, fs137)), (q1, .inl (cA2, 20, .inr (.inr (.inr (.inr f337))))), (q7, .inl (cA8, 6, .inr (.inr (.inr (.inr f9))))), (q14, .inl (cA15, 7, .inr (.inr (.inr (.inr f16))))), (q338, .inr (1, ((List.range 2).map (fun k => defaultValue (tyX1 k)))))] H := hP
  have hD : va_D A [(a, .inr (8, fs137)), (q1, .inl (cA2, 20, .inr (.inr (.inr (.inr f337))))), (q7, .inl (cA8, 6, .inr (.inr (.inr (.inr f9))))), (q14, .inl (cA15, 7, .inr (.inr (.inr (.inr f16))))), (q338, .inr (1, ((List.range 2).map (fun k => defaultValue (tyX1 k)))))] := hD
  obtain ⟨fs339, efs339⟩ : ∃ y : List Value, y = (List.range 2).map (fun k => defaultValue (tyX1 k)) := ⟨_, rfl⟩
  rw [← efs339] at hP hD
  have hl_340 : fs339.length = 2 := by rw [efs339, List.length_map, List.length_range]
  have hf_341 : fs339[0]? = some (.null) := by rw [efs339]; rfl
  have hf_342 : fs339[1]? = some (.int 0) := by rw [efs339]; rfl
  refine W.widen (k := 47) (n := 2083) (Nat.le_of_ble_eq_true rfl) (Nat.le_of_ble_eq_true rfl) ?_
  refine lv_dup hx hb dX0_init_142 rfl ?_
  have hPc := hP.sub (ws' := [(q338, .inr (1, fs339))]) [4] rfl
  have hDc := hD.sub (ws' := [(q338, .inr (1, fs339))]) [4] (by decide) rfl
  have hKc := hK.sub (tys' := []) [] rfl
  have hFc := va_free (wc := [(q338, .inr (1, fs339))]) hD hS hA [4] rfl
  refine va_callv (va_runIN (As := []) (rest := [.ref q338, .int 14, .ref q1]) ⟨hx, hb, hml, hown, hG⟩ (c_Big_init l dC dI z q338 fs339 H.size hl_340 hf_342) ⟨va_cnB (host := "Seattable") 0 hG (gI m_47) rfl rfl rfl (nw_nest_3 hN) (hG _ m_46) (by decide +kernel) ⟨Nat.le_of_ble_eq_true rfl, Nat.le_of_ble_eq_true rfl⟩, rfl, (hG _ m_48)⟩ ⟨pre_blind, fun U hU hW => ⟨rfl, pre_call hU hW hPc hKc hDc hN (zkeep hZ hS) hFc⟩⟩ rfl rfl hl.1 rfl (lv_room (Nat.le_of_ble_eq_true rfl)) dX0_init_143 ⟨Nat.le_of_ble_eq_true rfl, Nat.le_of_ble_eq_true rfl⟩) hS (fun q _ h => hFc q h) hFc (fun u t H locs ht hvm hw hB hz1 hk1 hS => ?_)
  obtain ⟨fs344, q345, cA346, f347, hP1, hK1, hD1, hy348, hy349, hy350⟩ := hB
  rw [ht] at hP1
  have hK1 := va_K.moved hvm.symm hK1
  obtain ⟨hP, hD⟩ := va_join (wr := [(a, .inr (8, fs137)), (q1, .inl (cA2, 20, .inr (.inr (.inr (.inr f337))))), (q7, .inl (cA8, 6, .inr (.inr (.inr (.inr f9))))), (q14, .inl (cA15, 7, .inr (.inr (.inr (.inr f16)))))]) (w1 := [(q338, .inr (1, fs344)), (q345, .inl (cA346, 96, .inl f347))]) hP hD [4] [0, 1, 2, 3] rfl rfl (by decide) (by decide) hk1 hFc hP1 hD1
  have hK := (hK.sub (tys' := [(cA2, .object "Seattable$Big"), (cA8, .object "Seattable$Big"), (cA15, .object "Seattable$Big")]) [0, 1, 2] rfl).app hK1
  have hP : va_P (dC, dI) classes [(a, .inr (8, fs137)), (q1, .inl (cA2, 20, .inr (.inr (.inr (.inr f337))))), (q7, .inl (cA8, 6, .inr (.inr (.inr (.inr f9))))), (q14, .inl (cA15, 7, .inr (.inr (.inr (.inr f16))))), (q338, .inr (1, fs344)), (q345, .inl (cA346, 96, .inl f347))] H := hP
  have hD : va_D A [(a, .inr (8, fs137)), (q1, .inl (cA2, 20, .inr (.inr (.inr (.inr f337))))), (q7, .inl (cA8, 6, .inr (.inr (.inr (.inr f9))))), (q14, .inl (cA15, 7, .inr (.inr (.inr (.inr f16))))), (q338, .inr (1, fs344)), (q345, .inl (cA346, 96, .inl f347))] := hD
  have hK : va_K (dC, dI) classes [(cA2, .object "Seattable$Big"), (cA8, .object "Seattable$Big"), (cA15, .object "Seattable$Big"), (cA346, .int)] s := hK
  refine W.widen (k := 48) (n := 2179) (Nat.le_of_ble_eq_true rfl) (Nat.le_of_ble_eq_true rfl) ?_
  refine va_astq (D := (dC, dI)) (ci := 1) (r := (RX1, TX1, 2)) hx hb hK hP hD hS 1 0 4 rfl rfl rfl rfl (by unfold vp_in; decide) dX0_init_146 (fun H locs hP hD hS => ?_)
  have hP : va_P (dC, dI) classes [(a, .inr (8, fs137)), (q1, .inl (cA2, 20, .inr (.inr (.inr (.inr (va_up f337 (14 : Int32).toNatClampNeg (some q338))))))), (q7, .inl (cA8, 6, .inr (.inr (.inr (.inr f9))))), (q14, .inl (cA15, 7, .inr (.inr (.inr (.inr f16))))), (q338, .inr (1, fs344)), (q345, .inl (cA346, 96, .inl f347))] H := hP
  have hD : va_D A [(a, .inr (8, fs137)), (q1, .inl (cA2, 20, .inr (.inr (.inr (.inr (va_up f337 (14 : Int32).toNatClampNeg (some q338))))))), (q7, .inl (cA8, 6, .inr (.inr (.inr (.inr f9))))), (q14, .inl (cA15, 7, .inr (.inr (.inr (.inr f16))))), (q338, .inr (1, fs344)), (q345, .inl (cA346, 96, .inl f347))] := hD
  obtain ⟨f351, ef351⟩ : ∃ y : Nat → Option Nat, y = (va_up f337 (14 : Int32).toNatClampNeg (some q338)) := ⟨_, rfl⟩
  rw [← ef351] at hP hD
  have hP := hP.sub (ws' := [(a, .inr (8, fs137)), (q1, .inl (cA2, 20, .inr (.inr (.inr (.inr f351))))), (q7, .inl (cA8, 6, .inr (.inr (.inr (.inr f9))))), (q14, .inl (cA15, 7, .inr (.inr (.inr (.inr f16)))))]) [0, 1, 2, 3] rfl
  have hD := hD.sub (ws' := [(a, .inr (8, fs137)), (q1, .inl (cA2, 20, .inr (.inr (.inr (.inr f351))))), (q7, .inl (cA8, 6, .inr (.inr (.inr (.inr f9))))), (q14, .inl (cA15, 7, .inr (.inr (.inr (.inr f16)))))]) [0, 1, 2, 3] (by decide) rfl
  have hK := hK.sub (tys' := [(cA2, .object "Seattable$Big"), (cA8, .object "Seattable$Big"), (cA15, .object "Seattable$Big")]) [0, 1, 2] rfl
  refine lv_iinc (v := 15) (lv' := [(1, .int 15), (0, .ref a)]) hx hb dX0_init_147 hl (k := 0) rfl (by decide) (by decide) rfl (fun ls hl => ?_)
  refine lv_goto (tgt := 128) hx hb dX0_init_150 (by decide) ?_
  refine lv_iload_n hx hb dX0_init_128 rfl (lv_at hl 0 rfl) ?_
  refine lv_bipush (v := 20) hx hb dX0_init_129 (by decide) ?_
  refine lv_icmp_ge (tgt := 153) hx hb dX0_init_131 (by decide) (fun c9 => absurd c9 (by decide)) (fun _ => ?_)
  refine lv_aload_n hx hb dX0_init_134 rfl (lv_at hl 1 rfl) ?_
  refine va_get (D := (dC, dI)) (ci := 8) (v := .ref q1) (C := RX0) (T := TX0) (N := 20) hx hb hG iX0 hown hK hP 0 rfl rfl 0 (by decide) (hG _ m_100) (fun _ h9 => h9) hf_139 dX0_init_135 ?_
  refine lv_iload_n hx hb dX0_init_138 rfl (lv_at hl 0 rfl) ?_
  refine va_new (D := (dC, dI)) (ci := 1) (fs := (List.range 2).map (fun k => defaultValue (tyX1 k))) (C := RX1) (T := TX1) (N := 2) hx hb hG iX1 tyX1 tyX1_ok hown (hG _ m_99) (hG _ m_45) (hG _ m_46) hK hP hD hS hA rfl (fs_new 2 tyX1) (Nat.le_of_ble_eq_true rfl) (Nat.le_of_ble_eq_true rfl) dX0_init_139 (fun q352 H hP hD hS => ?_)
  have hP : va_P (dC, dI) classes [(a, .inr (8, fs137)), (q1, .inl (cA2, 20, .inr (.inr (.inr (.inr f351))))), (q7, .inl (cA8, 6, .inr (.inr (.inr (.inr f9))))), (q14, .inl (cA15, 7, .inr (.inr (.inr (.inr f16))))), (q352, .inr (1, ((List.range 2).map (fun k => defaultValue (tyX1 k)))))] H := hP
  have hD : va_D A [(a, .inr (8, fs137)), (q1, .inl (cA2, 20, .inr (.inr (.inr (.inr f351))))), (q7, .inl (cA8, 6, .inr (.inr (.inr (.inr f9))))), (q14, .inl (cA15, 7, .inr (.inr (.inr (.inr f16))))), (q352, .inr (1, ((List.range 2).map (fun k => defaultValue (tyX1 k)))))] := hD
  obtain ⟨fs353, efs353⟩ : ∃ y : List Value, y = (List.range 2).map (fun k => defaultValue (tyX1 k)) := ⟨_, rfl⟩
  rw [← efs353] at hP hD
  have hl_354 : fs353.length = 2 := by rw [efs353, List.length_map, List.length_range]
  have hf_355 : fs353[0]? = some (.null) := by rw [efs353]; rfl
  have hf_356 : fs353[1]? = some (.int 0) := by rw [efs353]; rfl
  refine W.widen (k := 49) (n := 2181) (Nat.le_of_ble_eq_true rfl) (Nat.le_of_ble_eq_true rfl) ?_
  refine lv_dup hx hb dX0_init_142 rfl ?_
  have hPc := hP.sub (ws' := [(q352, .inr (1, fs353))]) [4] rfl
  have hDc := hD.sub (ws' := [(q352, .inr (1, fs353))]) [4] (by decide) rfl
  have hKc := hK.sub (tys' := []) [] rfl
  have hFc := va_free (wc := [(q352, .inr (1, fs353))]) hD hS hA [4] rfl
  refine va_callv (va_runIN (As := []) (rest := [.ref q352, .int 15, .ref q1]) ⟨hx, hb, hml, hown, hG⟩ (c_Big_init l dC dI z q352 fs353 H.size hl_354 hf_356) ⟨va_cnB (host := "Seattable") 0 hG (gI m_47) rfl rfl rfl (nw_nest_3 hN) (hG _ m_46) (by decide +kernel) ⟨Nat.le_of_ble_eq_true rfl, Nat.le_of_ble_eq_true rfl⟩, rfl, (hG _ m_48)⟩ ⟨pre_blind, fun U hU hW => ⟨rfl, pre_call hU hW hPc hKc hDc hN (zkeep hZ hS) hFc⟩⟩ rfl rfl hl.1 rfl (lv_room (Nat.le_of_ble_eq_true rfl)) dX0_init_143 ⟨Nat.le_of_ble_eq_true rfl, Nat.le_of_ble_eq_true rfl⟩) hS (fun q _ h => hFc q h) hFc (fun u t H locs ht hvm hw hB hz1 hk1 hS => ?_)
  obtain ⟨fs358, q359, cA360, f361, hP1, hK1, hD1, hy362, hy363, hy364⟩ := hB
  rw [ht] at hP1
  have hK1 := va_K.moved hvm.symm hK1
  obtain ⟨hP, hD⟩ := va_join (wr := [(a, .inr (8, fs137)), (q1, .inl (cA2, 20, .inr (.inr (.inr (.inr f351))))), (q7, .inl (cA8, 6, .inr (.inr (.inr (.inr f9))))), (q14, .inl (cA15, 7, .inr (.inr (.inr (.inr f16)))))]) (w1 := [(q352, .inr (1, fs358)), (q359, .inl (cA360, 96, .inl f361))]) hP hD [4] [0, 1, 2, 3] rfl rfl (by decide) (by decide) hk1 hFc hP1 hD1
  have hK := (hK.sub (tys' := [(cA2, .object "Seattable$Big"), (cA8, .object "Seattable$Big"), (cA15, .object "Seattable$Big")]) [0, 1, 2] rfl).app hK1
  have hP : va_P (dC, dI) classes [(a, .inr (8, fs137)), (q1, .inl (cA2, 20, .inr (.inr (.inr (.inr f351))))), (q7, .inl (cA8, 6, .inr (.inr (.inr (.inr f9))))), (q14, .inl (cA15, 7, .inr (.inr (.inr (.inr f16))))), (q352, .inr (1, fs358)), (q359, .inl (cA360, 96, .inl f361))] H := hP
  have hD : va_D A [(a, .inr (8, fs137)), (q1, .inl (cA2, 20, .inr (.inr (.inr (.inr f351))))), (q7, .inl (cA8, 6, .inr (.inr (.inr (.inr f9))))), (q14, .inl (cA15, 7, .inr (.inr (.inr (.inr f16))))), (q352, .inr (1, fs358)), (q359, .inl (cA360, 96, .inl f361))] := hD
  have hK : va_K (dC, dI) classes [(cA2, .object "Seattable$Big"), (cA8, .object "Seattable$Big"), (cA15, .object "Seattable$Big"), (cA360, .int)] s := hK
  refine W.widen (k := 50) (n := 2277) (Nat.le_of_ble_eq_true rfl) (Nat.le_of_ble_eq_true rfl) ?_
  refine va_astq (D := (dC, dI)) (ci := 1) (r := (RX1, TX1, 2)) hx hb hK hP hD hS 1 0 4 rfl rfl rfl rfl (by unfold vp_in; decide) dX0_init_146 (fun H locs hP hD hS => ?_)
  have hP : va_P (dC, dI) classes [(a, .inr (8, fs137)), (q1, .inl (cA2, 20, .inr (.inr (.inr (.inr (va_up f351 (15 : Int32).toNatClampNeg (some q352))))))), (q7, .inl (cA8, 6, .inr (.inr (.inr (.inr f9))))), (q14, .inl (cA15, 7, .inr (.inr (.inr (.inr f16))))), (q352, .inr (1, fs358)), (q359, .inl (cA360, 96, .inl f361))] H := hP
  have hD : va_D A [(a, .inr (8, fs137)), (q1, .inl (cA2, 20, .inr (.inr (.inr (.inr (va_up f351 (15 : Int32).toNatClampNeg (some q352))))))), (q7, .inl (cA8, 6, .inr (.inr (.inr (.inr f9))))), (q14, .inl (cA15, 7, .inr (.inr (.inr (.inr f16))))), (q352, .inr (1, fs358)), (q359, .inl (cA360, 96, .inl f361))] := hD
  obtain ⟨f365, ef365⟩ : ∃ y : Nat → Option Nat, y = (va_up f351 (15 : Int32).toNatClampNeg (some q352)) := ⟨_, rfl⟩
  rw [← ef365] at hP hD
  have hP := hP.sub (ws' := [(a, .inr (8, fs137)), (q1, .inl (cA2, 20, .inr (.inr (.inr (.inr f365))))), (q7, .inl (cA8, 6, .inr (.inr (.inr (.inr f9))))), (q14, .inl (cA15, 7, .inr (.inr (.inr (.inr f16)))))]) [0, 1, 2, 3] rfl
  have hD := hD.sub (ws' := [(a, .inr (8, fs137)), (q1, .inl (cA2, 20, .inr (.inr (.inr (.inr f365))))), (q7, .inl (cA8, 6, .inr (.inr (.inr (.inr f9))))), (q14, .inl (cA15, 7, .inr (.inr (.inr (.inr f16)))))]) [0, 1, 2, 3] (by decide) rfl
  have hK := hK.sub (tys' := [(cA2, .object "Seattable$Big"), (cA8, .object "Seattable$Big"), (cA15, .object "Seattable$Big")]) [0, 1, 2] rfl
  refine lv_iinc (v := 16) (lv' := [(1, .int 16), (0, .ref a)]) hx hb dX0_init_147 hl (k := 0) rfl (by decide) (by decide) rfl (fun ls hl => ?_)
  refine lv_goto (tgt := 128) hx hb dX0_init_150 (by decide) ?_
  refine lv_iload_n hx hb dX0_init_128 rfl (lv_at hl 0 rfl) ?_
  refine lv_bipush (v := 20) hx hb dX0_init_129 (by decide) ?_
  refine lv_icmp_ge (tgt := 153) hx hb dX0_init_131 (by decide) (fun c9 => absurd c9 (by decide)) (fun _ => ?_)
  refine lv_aload_n hx hb dX0_init_134 rfl (lv_at hl 1 rfl) ?_
  refine va_get (D := (dC, dI)) (ci := 8) (v := .ref q1) (C := RX0) (T := TX0) (N := 20) hx hb hG iX0 hown hK hP 0 rfl rfl 0 (by decide) (hG _ m_100) (fun _ h9 => h9) hf_139 dX0_init_135 ?_
  refine lv_iload_n hx hb dX0_init_138 rfl (lv_at hl 0 rfl) ?_
  refine va_new (D := (dC, dI)) (ci := 1) (fs := (List.range 2).map (fun k => defaultValue (tyX1 k))) (C := RX1) (T := TX1) (N := 2) hx hb hG iX1 tyX1 tyX1_ok hown (hG _ m_99) (hG _ m_45) (hG _ m_46) hK hP hD hS hA rfl (fs_new 2 tyX1) (Nat.le_of_ble_eq_true rfl) (Nat.le_of_ble_eq_true rfl) dX0_init_139 (fun q366 H hP hD hS => ?_)
  have hP : va_P (dC, dI) classes [(a, .inr (8, fs137)), (q1, .inl (cA2, 20, .inr (.inr (.inr (.inr f365))))), (q7, .inl (cA8, 6, .inr (.inr (.inr (.inr f9))))), (q14, .inl (cA15, 7, .inr (.inr (.inr (.inr f16))))), (q366, .inr (1, ((List.range 2).map (fun k => defaultValue (tyX1 k)))))] H := hP
  have hD : va_D A [(a, .inr (8, fs137)), (q1, .inl (cA2, 20, .inr (.inr (.inr (.inr f365))))), (q7, .inl (cA8, 6, .inr (.inr (.inr (.inr f9))))), (q14, .inl (cA15, 7, .inr (.inr (.inr (.inr f16))))), (q366, .inr (1, ((List.range 2).map (fun k => defaultValue (tyX1 k)))))] := hD
  obtain ⟨fs367, efs367⟩ : ∃ y : List Value, y = (List.range 2).map (fun k => defaultValue (tyX1 k)) := ⟨_, rfl⟩
  rw [← efs367] at hP hD
  have hl_368 : fs367.length = 2 := by rw [efs367, List.length_map, List.length_range]
  have hf_369 : fs367[0]? = some (.null) := by rw [efs367]; rfl
  have hf_370 : fs367[1]? = some (.int 0) := by rw [efs367]; rfl
  refine W.widen (k := 51) (n := 2279) (Nat.le_of_ble_eq_true rfl) (Nat.le_of_ble_eq_true rfl) ?_
  refine lv_dup hx hb dX0_init_142 rfl ?_
  have hPc := hP.sub (ws' := [(q366, .inr (1, fs367))]) [4] rfl
  have hDc := hD.sub (ws' := [(q366, .inr (1, fs367))]) [4] (by decide) rfl
  have hKc := hK.sub (tys' := []) [] rfl
  have hFc := va_free (wc := [(q366, .inr (1, fs367))]) hD hS hA [4] rfl
  refine va_callv (va_runIN (As := []) (rest := [.ref q366, .int 16, .ref q1]) ⟨hx, hb, hml, hown, hG⟩ (c_Big_init l dC dI z q366 fs367 H.size hl_368 hf_370) ⟨va_cnB (host := "Seattable") 0 hG (gI m_47) rfl rfl rfl (nw_nest_3 hN) (hG _ m_46) (by decide +kernel) ⟨Nat.le_of_ble_eq_true rfl, Nat.le_of_ble_eq_true rfl⟩, rfl, (hG _ m_48)⟩ ⟨pre_blind, fun U hU hW => ⟨rfl, pre_call hU hW hPc hKc hDc hN (zkeep hZ hS) hFc⟩⟩ rfl rfl hl.1 rfl (lv_room (Nat.le_of_ble_eq_true rfl)) dX0_init_143 ⟨Nat.le_of_ble_eq_true rfl, Nat.le_of_ble_eq_true rfl⟩) hS (fun q _ h => hFc q h) hFc (fun u t H locs ht hvm hw hB hz1 hk1 hS => ?_)
  obtain ⟨fs372, q373, cA374, f375, hP1, hK1, hD1, hy376, hy377, hy378⟩ := hB
  rw [ht] at hP1
  have hK1 := va_K.moved hvm.symm hK1
  obtain ⟨hP, hD⟩ := va_join (wr := [(a, .inr (8, fs137)), (q1, .inl (cA2, 20, .inr (.inr (.inr (.inr f365))))), (q7, .inl (cA8, 6, .inr (.inr (.inr (.inr f9))))), (q14, .inl (cA15, 7, .inr (.inr (.inr (.inr f16)))))]) (w1 := [(q366, .inr (1, fs372)), (q373, .inl (cA374, 96, .inl f375))]) hP hD [4] [0, 1, 2, 3] rfl rfl (by decide) (by decide) hk1 hFc hP1 hD1
  have hK := (hK.sub (tys' := [(cA2, .object "Seattable$Big"), (cA8, .object "Seattable$Big"), (cA15, .object "Seattable$Big")]) [0, 1, 2] rfl).app hK1
  have hP : va_P (dC, dI) classes [(a, .inr (8, fs137)), (q1, .inl (cA2, 20, .inr (.inr (.inr (.inr f365))))), (q7, .inl (cA8, 6, .inr (.inr (.inr (.inr f9))))), (q14, .inl (cA15, 7, .inr (.inr (.inr (.inr f16))))), (q366, .inr (1, fs372)), (q373, .inl (cA374, 96, .inl f375))] H := hP
  have hD : va_D A [(a, .inr (8, fs137)), (q1, .inl (cA2, 20, .inr (.inr (.inr (.inr f365))))), (q7, .inl (cA8, 6, .inr (.inr (.inr (.inr f9))))), (q14, .inl (cA15, 7, .inr (.inr (.inr (.inr f16))))), (q366, .inr (1, fs372)), (q373, .inl (cA374, 96, .inl f375))] := hD
  have hK : va_K (dC, dI) classes [(cA2, .object "Seattable$Big"), (cA8, .object "Seattable$Big"), (cA15, .object "Seattable$Big"), (cA374, .int)] s := hK
  refine W.widen (k := 52) (n := 2375) (Nat.le_of_ble_eq_true rfl) (Nat.le_of_ble_eq_true rfl) ?_
  refine va_astq (D := (dC, dI)) (ci := 1) (r := (RX1, TX1, 2)) hx hb hK hP hD hS 1 0 4 rfl rfl rfl rfl (by unfold vp_in; decide) dX0_init_146 (fun H locs hP hD hS => ?_)
  have hP : va_P (dC, dI) classes [(a, .inr (8, fs137)), (q1, .inl (cA2, 20, .inr (.inr (.inr (.inr (va_up f365 (16 : Int32).toNatClampNeg (some q366))))))), (q7, .inl (cA8, 6, .inr (.inr (.inr (.inr f9))))), (q14, .inl (cA15, 7, .inr (.inr (.inr (.inr f16))))), (q366, .inr (1, fs372)), (q373, .inl (cA374, 96, .inl f375))] H := hP
  have hD : va_D A [(a, .inr (8, fs137)), (q1, .inl (cA2, 20, .inr (.inr (.inr (.inr (va_up f365 (16 : Int32).toNatClampNeg (some q366))))))), (q7, .inl (cA8, 6, .inr (.inr (.inr (.inr f9))))), (q14, .inl (cA15, 7, .inr (.inr (.inr (.inr f16))))), (q366, .inr (1, fs372)), (q373, .inl (cA374, 96, .inl f375))] := hD
  obtain ⟨f379, ef379⟩ : ∃ y : Nat → Option Nat, y = (va_up f365 (16 : Int32).toNatClampNeg (some q366)) := ⟨_, rfl⟩
  rw [← ef379] at hP hD
  have hP := hP.sub (ws' := [(a, .inr (8, fs137)), (q1, .inl (cA2, 20, .inr (.inr (.inr (.inr f379))))), (q7, .inl (cA8, 6, .inr (.inr (.inr (.inr f9))))), (q14, .inl (cA15, 7, .inr (.inr (.inr (.inr f16)))))]) [0, 1, 2, 3] rfl
  have hD := hD.sub (ws' := [(a, .inr (8, fs137)), (q1, .inl (cA2, 20, .inr (.inr (.inr (.inr f379))))), (q7, .inl (cA8, 6, .inr (.inr (.inr (.inr f9))))), (q14, .inl (cA15, 7, .inr (.inr (.inr (.inr f16)))))]) [0, 1, 2, 3] (by decide) rfl
  have hK := hK.sub (tys' := [(cA2, .object "Seattable$Big"), (cA8, .object "Seattable$Big"), (cA15, .object "Seattable$Big")]) [0, 1, 2] rfl
  refine lv_iinc (v := 17) (lv' := [(1, .int 17), (0, .ref a)]) hx hb dX0_init_147 hl (k := 0) rfl (by decide) (by decide) rfl (fun ls hl => ?_)
  refine lv_goto (tgt := 128) hx hb dX0_init_150 (by decide) ?_
  refine lv_iload_n hx hb dX0_init_128 rfl (lv_at hl 0 rfl) ?_
  refine lv_bipush (v := 20) hx hb dX0_init_129 (by decide) ?_
  refine lv_icmp_ge (tgt := 153) hx hb dX0_init_131 (by decide) (fun c9 => absurd c9 (by decide)) (fun _ => ?_)
  refine lv_aload_n hx hb dX0_init_134 rfl (lv_at hl 1 rfl) ?_
  refine va_get (D := (dC, dI)) (ci := 8) (v := .ref q1) (C := RX0) (T := TX0) (N := 20) hx hb hG iX0 hown hK hP 0 rfl rfl 0 (by decide) (hG _ m_100) (fun _ h9 => h9) hf_139 dX0_init_135 ?_
  refine lv_iload_n hx hb dX0_init_138 rfl (lv_at hl 0 rfl) ?_
  refine va_new (D := (dC, dI)) (ci := 1) (fs := (List.range 2).map (fun k => defaultValue (tyX1 k))) (C := RX1) (T := TX1) (N := 2) hx hb hG iX1 tyX1 tyX1_ok hown (hG _ m_99) (hG _ m_45) (hG _ m_46) hK hP hD hS hA rfl (fs_new 2 tyX1) (Nat.le_of_ble_eq_true rfl) (Nat.le_of_ble_eq_true rfl) dX0_init_139 (fun q380 H hP hD hS => ?_)
  have hP : va_P (dC, dI) classes [(a, .inr (8, fs137)), (q1, .inl (cA2, 20, .inr (.inr (.inr (.inr f379))))), (q7, .inl (cA8, 6, .inr (.inr (.inr (.inr f9))))), (q14, .inl (cA15, 7, .inr (.inr (.inr (.inr f16))))), (q380, .inr (1, ((List.range 2).map (fun k => defaultValue (tyX1 k)))))] H := hP
  have hD : va_D A [(a, .inr (8, fs137)), (q1, .inl (cA2, 20, .inr (.inr (.inr (.inr f379))))), (q7, .inl (cA8, 6, .inr (.inr (.inr (.inr f9))))), (q14, .inl (cA15, 7, .inr (.inr (.inr (.inr f16))))), (q380, .inr (1, ((List.range 2).map (fun k => defaultValue (tyX1 k)))))] := hD
  obtain ⟨fs381, efs381⟩ : ∃ y : List Value, y = (List.range 2).map (fun k => defaultValue (tyX1 k)) := ⟨_, rfl⟩
  rw [← efs381] at hP hD
  have hl_382 : fs381.length = 2 := by rw [efs381, List.length_map, List.length_range]
  have hf_383 : fs381[0]? = some (.null) := by rw [efs381]; rfl
  have hf_384 : fs381[1]? = some (.int 0) := by rw [efs381]; rfl
  refine W.widen (k := 53) (n := 2377) (Nat.le_of_ble_eq_true rfl) (Nat.le_of_ble_eq_true rfl) ?_
  refine lv_dup hx hb dX0_init_142 rfl ?_
  have hPc := hP.sub (ws' := [(q380, .inr (1, fs381))]) [4] rfl
  have hDc := hD.sub (ws' := [(q380, .inr (1, fs381))]) [4] (by decide) rfl
  have hKc := hK.sub (tys' := []) [] rfl
  have hFc := va_free (wc := [(q380, .inr (1, fs381))]) hD hS hA [4] rfl
  refine va_callv (va_runIN (As := []) (rest := [.ref q380, .int 17, .ref q1]) ⟨hx, hb, hml, hown, hG⟩ (c_Big_init l dC dI z q380 fs381 H.size hl_382 hf_384) ⟨va_cnB (host := "Seattable") 0 hG (gI m_47) rfl rfl rfl (nw_nest_3 hN) (hG _ m_46) (by decide +kernel) ⟨Nat.le_of_ble_eq_true rfl, Nat.le_of_ble_eq_true rfl⟩, rfl, (hG _ m_48)⟩ ⟨pre_blind, fun U hU hW => ⟨rfl, pre_call hU hW hPc hKc hDc hN (zkeep hZ hS) hFc⟩⟩ rfl rfl hl.1 rfl (lv_room (Nat.le_of_ble_eq_true rfl)) dX0_init_143 ⟨Nat.le_of_ble_eq_true rfl, Nat.le_of_ble_eq_true rfl⟩) hS (fun q _ h => hFc q h) hFc (fun u t H locs ht hvm hw hB hz1 hk1 hS => ?_)
  obtain ⟨fs386, q387, cA388, f389, hP1, hK1, hD1, hy390, hy391, hy392⟩ := hB
  rw [ht] at hP1
  have hK1 := va_K.moved hvm.symm hK1
  obtain ⟨hP, hD⟩ := va_join (wr := [(a, .inr (8, fs137)), (q1, .inl (cA2, 20, .inr (.inr (.inr (.inr f379))))), (q7, .inl (cA8, 6, .inr (.inr (.inr (.inr f9))))), (q14, .inl (cA15, 7, .inr (.inr (.inr (.inr f16)))))]) (w1 := [(q380, .inr (1, fs386)), (q387, .inl (cA388, 96, .inl f389))]) hP hD [4] [0, 1, 2, 3] rfl rfl (by decide) (by decide) hk1 hFc hP1 hD1
  have hK := (hK.sub (tys' := [(cA2, .object "Seattable$Big"), (cA8, .object "Seattable$Big"), (cA15, .object "Seattable$Big")]) [0, 1, 2] rfl).app hK1
  have hP : va_P (dC, dI) classes [(a, .inr (8, fs137)), (q1, .inl (cA2, 20, .inr (.inr (.inr (.inr f379))))), (q7, .inl (cA8, 6, .inr (.inr (.inr (.inr f9))))), (q14, .inl (cA15, 7, .inr (.inr (.inr (.inr f16))))), (q380, .inr (1, fs386)), (q387, .inl (cA388, 96, .inl f389))] H := hP
  have hD : va_D A [(a, .inr (8, fs137)), (q1, .inl (cA2, 20, .inr (.inr (.inr (.inr f379))))), (q7, .inl (cA8, 6, .inr (.inr (.inr (.inr f9))))), (q14, .inl (cA15, 7, .inr (.inr (.inr (.inr f16))))), (q380, .inr (1, fs386)), (q387, .inl (cA388, 96, .inl f389))] := hD
  have hK : va_K (dC, dI) classes [(cA2, .object "Seattable$Big"), (cA8, .object "Seattable$Big"), (cA15, .object "Seattable$Big"), (cA388, .int)] s := hK
  refine W.widen (k := 54) (n := 2473) (Nat.le_of_ble_eq_true rfl) (Nat.le_of_ble_eq_true rfl) ?_
  refine va_astq (D := (dC, dI)) (ci := 1) (r := (RX1, TX1, 2)) hx hb hK hP hD hS 1 0 4 rfl rfl rfl rfl (by unfold vp_in; decide) dX0_init_146 (fun H locs hP hD hS => ?_)
  have hP : va_P (dC, dI) classes [(a, .inr (8, fs137)), (q1, .inl (cA2, 20, .inr (.inr (.inr (.inr (va_up f379 (17 : Int32).toNatClampNeg (some q380))))))), (q7, .inl (cA8, 6, .inr (.inr (.inr (.inr f9))))), (q14, .inl (cA15, 7, .inr (.inr (.inr (.inr f16))))), (q380, .inr (1, fs386)), (q387, .inl (cA388, 96, .inl f389))] H := hP
  have hD : va_D A [(a, .inr (8, fs137)), (q1, .inl (cA2, 20, .inr (.inr (.inr (.inr (va_up f379 (17 : Int32).toNatClampNeg (some q380))))))), (q7, .inl (cA8, 6, .inr (.inr (.inr (.inr f9))))), (q14, .inl (cA15, 7, .inr (.inr (.inr (.inr f16))))), (q380, .inr (1, fs386)), (q387, .inl (cA388, 96, .inl f389))] := hD
  obtain ⟨f393, ef393⟩ : ∃ y : Nat → Option Nat, y = (va_up f379 (17 : Int32).toNatClampNeg (some q380)) := ⟨_, rfl⟩
  rw [← ef393] at hP hD
  have hP := hP.sub (ws' := [(a, .inr (8, fs137)), (q1, .inl (cA2, 20, .inr (.inr (.inr (.inr f393))))), (q7, .inl (cA8, 6, .inr (.inr (.inr (.inr f9))))), (q14, .inl (cA15, 7, .inr (.inr (.inr (.inr f16)))))]) [0, 1, 2, 3] rfl
  have hD := hD.sub (ws' := [(a, .inr (8, fs137)), (q1, .inl (cA2, 20, .inr (.inr (.inr (.inr f393))))), (q7, .inl (cA8, 6, .inr (.inr (.inr (.inr f9))))), (q14, .inl (cA15, 7, .inr (.inr (.inr (.inr f16)))))]) [0, 1, 2, 3] (by decide) rfl
  have hK := hK.sub (tys' := [(cA2, .object "Seattable$Big"), (cA8, .object "Seattable$Big"), (cA15, .object "Seattable$Big")]) [0, 1, 2] rfl
  refine lv_iinc (v := 18) (lv' := [(1, .int 18), (0, .ref a)]) hx hb dX0_init_147 hl (k := 0) rfl (by decide) (by decide) rfl (fun ls hl => ?_)
  refine lv_goto (tgt := 128) hx hb dX0_init_150 (by decide) ?_
  refine lv_iload_n hx hb dX0_init_128 rfl (lv_at hl 0 rfl) ?_
  refine lv_bipush (v := 20) hx hb dX0_init_129 (by decide) ?_
  refine lv_icmp_ge (tgt := 153) hx hb dX0_init_131 (by decide) (fun c9 => absurd c9 (by decide)) (fun _ => ?_)
  refine lv_aload_n hx hb dX0_init_134 rfl (lv_at hl 1 rfl) ?_
  refine va_get (D := (dC, dI)) (ci := 8) (v := .ref q1) (C := RX0) (T := TX0) (N := 20) hx hb hG iX0 hown hK hP 0 rfl rfl 0 (by decide) (hG _ m_100) (fun _ h9 => h9) hf_139 dX0_init_135 ?_
  refine lv_iload_n hx hb dX0_init_138 rfl (lv_at hl 0 rfl) ?_
  refine va_new (D := (dC, dI)) (ci := 1) (fs := (List.range 2).map (fun k => defaultValue (tyX1 k))) (C := RX1) (T := TX1) (N := 2) hx hb hG iX1 tyX1 tyX1_ok hown (hG _ m_99) (hG _ m_45) (hG _ m_46) hK hP hD hS hA rfl (fs_new 2 tyX1) (Nat.le_of_ble_eq_true rfl) (Nat.le_of_ble_eq_true rfl) dX0_init_139 (fun q394 H hP hD hS => ?_)
  have hP : va_P (dC, dI) classes [(a, .inr (8, fs137)), (q1, .inl (cA2, 20, .inr (.inr (.inr (.inr f393))))), (q7, .inl (cA8, 6, .inr (.inr (.inr (.inr f9))))), (q14, .inl (cA15, 7, .inr (.inr (.inr (.inr f16))))), (q394, .inr (1, ((List.range 2).map (fun k => defaultValue (tyX1 k)))))] H := hP
  have hD : va_D A [(a, .inr (8, fs137)), (q1, .inl (cA2, 20, .inr (.inr (.inr (.inr f393))))), (q7, .inl (cA8, 6, .inr (.inr (.inr (.inr f9))))), (q14, .inl (cA15, 7, .inr (.inr (.inr (.inr f16))))), (q394, .inr (1, ((List.range 2).map (fun k => defaultValue (tyX1 k)))))] := hD
  obtain ⟨fs395, efs395⟩ : ∃ y : List Value, y = (List.range 2).map (fun k => defaultValue (tyX1 k)) := ⟨_, rfl⟩
  rw [← efs395] at hP hD
  have hl_396 : fs395.length = 2 := by rw [efs395, List.length_map, List.length_range]
  have hf_397 : fs395[0]? = some (.null) := by rw [efs395]; rfl
  have hf_398 : fs395[1]? = some (.int 0) := by rw [efs395]; rfl
  refine W.widen (k := 55) (n := 2475) (Nat.le_of_ble_eq_true rfl) (Nat.le_of_ble_eq_true rfl) ?_
  refine lv_dup hx hb dX0_init_142 rfl ?_
  have hPc := hP.sub (ws' := [(q394, .inr (1, fs395))]) [4] rfl
  have hDc := hD.sub (ws' := [(q394, .inr (1, fs395))]) [4] (by decide) rfl
  have hKc := hK.sub (tys' := []) [] rfl
  have hFc := va_free (wc := [(q394, .inr (1, fs395))]) hD hS hA [4] rfl
  refine va_callv (va_runIN (As := []) (rest := [.ref q394, .int 18, .ref q1]) ⟨hx, hb, hml, hown, hG⟩ (c_Big_init l dC dI z q394 fs395 H.size hl_396 hf_398) ⟨va_cnB (host := "Seattable") 0 hG (gI m_47) rfl rfl rfl (nw_nest_3 hN) (hG _ m_46) (by decide +kernel) ⟨Nat.le_of_ble_eq_true rfl, Nat.le_of_ble_eq_true rfl⟩, rfl, (hG _ m_48)⟩ ⟨pre_blind, fun U hU hW => ⟨rfl, pre_call hU hW hPc hKc hDc hN (zkeep hZ hS) hFc⟩⟩ rfl rfl hl.1 rfl (lv_room (Nat.le_of_ble_eq_true rfl)) dX0_init_143 ⟨Nat.le_of_ble_eq_true rfl, Nat.le_of_ble_eq_true rfl⟩) hS (fun q _ h => hFc q h) hFc (fun u t H locs ht hvm hw hB hz1 hk1 hS => ?_)
  obtain ⟨fs400, q401, cA402, f403, hP1, hK1, hD1, hy404, hy405, hy406⟩ := hB
  rw [ht] at hP1
  have hK1 := va_K.moved hvm.symm hK1
  obtain ⟨hP, hD⟩ := va_join (wr := [(a, .inr (8, fs137)), (q1, .inl (cA2, 20, .inr (.inr (.inr (.inr f393))))), (q7, .inl (cA8, 6, .inr (.inr (.inr (.inr f9))))), (q14, .inl (cA15, 7, .inr (.inr (.inr (.inr f16)))))]) (w1 := [(q394, .inr (1, fs400)), (q401, .inl (cA402, 96, .inl f403))]) hP hD [4] [0, 1, 2, 3] rfl rfl (by decide) (by decide) hk1 hFc hP1 hD1
  have hK := (hK.sub (tys' := [(cA2, .object "Seattable$Big"), (cA8, .object "Seattable$Big"), (cA15, .object "Seattable$Big")]) [0, 1, 2] rfl).app hK1
  have hP : va_P (dC, dI) classes [(a, .inr (8, fs137)), (q1, .inl (cA2, 20, .inr (.inr (.inr (.inr f393))))), (q7, .inl (cA8, 6, .inr (.inr (.inr (.inr f9))))), (q14, .inl (cA15, 7, .inr (.inr (.inr (.inr f16))))), (q394, .inr (1, fs400)), (q401, .inl (cA402, 96, .inl f403))] H := hP
  have hD : va_D A [(a, .inr (8, fs137)), (q1, .inl (cA2, 20, .inr (.inr (.inr (.inr f393))))), (q7, .inl (cA8, 6, .inr (.inr (.inr (.inr f9))))), (q14, .inl (cA15, 7, .inr (.inr (.inr (.inr f16))))), (q394, .inr (1, fs400)), (q401, .inl (cA402, 96, .inl f403))] := hD
  have hK : va_K (dC, dI) classes [(cA2, .object "Seattable$Big"), (cA8, .object "Seattable$Big"), (cA15, .object "Seattable$Big"), (cA402, .int)] s := hK
  refine W.widen (k := 56) (n := 2571) (Nat.le_of_ble_eq_true rfl) (Nat.le_of_ble_eq_true rfl) ?_
  refine va_astq (D := (dC, dI)) (ci := 1) (r := (RX1, TX1, 2)) hx hb hK hP hD hS 1 0 4 rfl rfl rfl rfl (by unfold vp_in; decide) dX0_init_146 (fun H locs hP hD hS => ?_)
  have hP : va_P (dC, dI) classes [(a, .inr (8, fs137)), (q1, .inl (cA2, 20, .inr (.inr (.inr (.inr (va_up f393 (18 : Int32).toNatClampNeg (some q394))))))), (q7, .inl (cA8, 6, .inr (.inr (.inr (.inr f9))))), (q14, .inl (cA15, 7, .inr (.inr (.inr (.inr f16))))), (q394, .inr (1, fs400)), (q401, .inl (cA402, 96, .inl f403))] H := hP
  have hD : va_D A [(a, .inr (8, fs137)), (q1, .inl (cA2, 20, .inr (.inr (.inr (.inr (va_up f393 (18 : Int32).toNatClampNeg (some q394))))))), (q7, .inl (cA8, 6, .inr (.inr (.inr (.inr f9))))), (q14, .inl (cA15, 7, .inr (.inr (.inr (.inr f16))))), (q394, .inr (1, fs400)), (q401, .inl (cA402, 96, .inl f403))] := hD
  obtain ⟨f407, ef407⟩ : ∃ y : Nat → Option Nat, y = (va_up f393 (18 : Int32).toNatClampNeg (some q394)) := ⟨_, rfl⟩
  rw [← ef407] at hP hD
  have hP := hP.sub (ws' := [(a, .inr (8, fs137)), (q1, .inl (cA2, 20, .inr (.inr (.inr (.inr f407))))), (q7, .inl (cA8, 6, .inr (.inr (.inr (.inr f9))))), (q14, .inl (cA15, 7, .inr (.inr (.inr (.inr f16)))))]) [0, 1, 2, 3] rfl
  have hD := hD.sub (ws' := [(a, .inr (8, fs137)), (q1, .inl (cA2, 20, .inr (.inr (.inr (.inr f407))))), (q7, .inl (cA8, 6, .inr (.inr (.inr (.inr f9))))), (q14, .inl (cA15, 7, .inr (.inr (.inr (.inr f16)))))]) [0, 1, 2, 3] (by decide) rfl
  have hK := hK.sub (tys' := [(cA2, .object "Seattable$Big"), (cA8, .object "Seattable$Big"), (cA15, .object "Seattable$Big")]) [0, 1, 2] rfl
  refine lv_iinc (v := 19) (lv' := [(1, .int 19), (0, .ref a)]) hx hb dX0_init_147 hl (k := 0) rfl (by decide) (by decide) rfl (fun ls hl => ?_)
  refine lv_goto (tgt := 128) hx hb dX0_init_150 (by decide) ?_
  refine lv_iload_n hx hb dX0_init_128 rfl (lv_at hl 0 rfl) ?_
  refine lv_bipush (v := 20) hx hb dX0_init_129 (by decide) ?_
  refine lv_icmp_ge (tgt := 153) hx hb dX0_init_131 (by decide) (fun c9 => absurd c9 (by decide)) (fun _ => ?_)
  refine lv_aload_n hx hb dX0_init_134 rfl (lv_at hl 1 rfl) ?_
  refine va_get (D := (dC, dI)) (ci := 8) (v := .ref q1) (C := RX0) (T := TX0) (N := 20) hx hb hG iX0 hown hK hP 0 rfl rfl 0 (by decide) (hG _ m_100) (fun _ h9 => h9) hf_139 dX0_init_135 ?_
  refine lv_iload_n hx hb dX0_init_138 rfl (lv_at hl 0 rfl) ?_
  refine va_new (D := (dC, dI)) (ci := 1) (fs := (List.range 2).map (fun k => defaultValue (tyX1 k))) (C := RX1) (T := TX1) (N := 2) hx hb hG iX1 tyX1 tyX1_ok hown (hG _ m_99) (hG _ m_45) (hG _ m_46) hK hP hD hS hA rfl (fs_new 2 tyX1) (Nat.le_of_ble_eq_true rfl) (Nat.le_of_ble_eq_true rfl) dX0_init_139 (fun q408 H hP hD hS => ?_)
  have hP : va_P (dC, dI) classes [(a, .inr (8, fs137)), (q1, .inl (cA2, 20, .inr (.inr (.inr (.inr f407))))), (q7, .inl (cA8, 6, .inr (.inr (.inr (.inr f9))))), (q14, .inl (cA15, 7, .inr (.inr (.inr (.inr f16))))), (q408, .inr (1, ((List.range 2).map (fun k => defaultValue (tyX1 k)))))] H := hP
  have hD : va_D A [(a, .inr (8, fs137)), (q1, .inl (cA2, 20, .inr (.inr (.inr (.inr f407))))), (q7, .inl (cA8, 6, .inr (.inr (.inr (.inr f9))))), (q14, .inl (cA15, 7, .inr (.inr (.inr (.inr f16))))), (q408, .inr (1, ((List.range 2).map (fun k => defaultValue (tyX1 k)))))] := hD
  obtain ⟨fs409, efs409⟩ : ∃ y : List Value, y = (List.range 2).map (fun k => defaultValue (tyX1 k)) := ⟨_, rfl⟩
  rw [← efs409] at hP hD
  have hl_410 : fs409.length = 2 := by rw [efs409, List.length_map, List.length_range]
  have hf_411 : fs409[0]? = some (.null) := by rw [efs409]; rfl
  have hf_412 : fs409[1]? = some (.int 0) := by rw [efs409]; rfl
  refine W.widen (k := 57) (n := 2573) (Nat.le_of_ble_eq_true rfl) (Nat.le_of_ble_eq_true rfl) ?_
  refine lv_dup hx hb dX0_init_142 rfl ?_
  have hPc := hP.sub (ws' := [(q408, .inr (1, fs409))]) [4] rfl
  have hDc := hD.sub (ws' := [(q408, .inr (1, fs409))]) [4] (by decide) rfl
  have hKc := hK.sub (tys' := []) [] rfl
  have hFc := va_free (wc := [(q408, .inr (1, fs409))]) hD hS hA [4] rfl
  refine va_callv (va_runIN (As := []) (rest := [.ref q408, .int 19, .ref q1]) ⟨hx, hb, hml, hown, hG⟩ (c_Big_init l dC dI z q408 fs409 H.size hl_410 hf_412) ⟨va_cnB (host := "Seattable") 0 hG (gI m_47) rfl rfl rfl (nw_nest_3 hN) (hG _ m_46) (by decide +kernel) ⟨Nat.le_of_ble_eq_true rfl, Nat.le_of_ble_eq_true rfl⟩, rfl, (hG _ m_48)⟩ ⟨pre_blind, fun U hU hW => ⟨rfl, pre_call hU hW hPc hKc hDc hN (zkeep hZ hS) hFc⟩⟩ rfl rfl hl.1 rfl (lv_room (Nat.le_of_ble_eq_true rfl)) dX0_init_143 ⟨Nat.le_of_ble_eq_true rfl, Nat.le_of_ble_eq_true rfl⟩) hS (fun q _ h => hFc q h) hFc (fun u t H locs ht hvm hw hB hz1 hk1 hS => ?_)
  obtain ⟨fs414, q415, cA416, f417, hP1, hK1, hD1, hy418, hy419, hy420⟩ := hB
  rw [ht] at hP1
  have hK1 := va_K.moved hvm.symm hK1
  obtain ⟨hP, hD⟩ := va_join (wr := [(a, .inr (8, fs137)), (q1, .inl (cA2, 20, .inr (.inr (.inr (.inr f407))))), (q7, .inl (cA8, 6, .inr (.inr (.inr (.inr f9))))), (q14, .inl (cA15, 7, .inr (.inr (.inr (.inr f16)))))]) (w1 := [(q408, .inr (1, fs414)), (q415, .inl (cA416, 96, .inl f417))]) hP hD [4] [0, 1, 2, 3] rfl rfl (by decide) (by decide) hk1 hFc hP1 hD1
  have hK := (hK.sub (tys' := [(cA2, .object "Seattable$Big"), (cA8, .object "Seattable$Big"), (cA15, .object "Seattable$Big")]) [0, 1, 2] rfl).app hK1
  have hP : va_P (dC, dI) classes [(a, .inr (8, fs137)), (q1, .inl (cA2, 20, .inr (.inr (.inr (.inr f407))))), (q7, .inl (cA8, 6, .inr (.inr (.inr (.inr f9))))), (q14, .inl (cA15, 7, .inr (.inr (.inr (.inr f16))))), (q408, .inr (1, fs414)), (q415, .inl (cA416, 96, .inl f417))] H := hP
  have hD : va_D A [(a, .inr (8, fs137)), (q1, .inl (cA2, 20, .inr (.inr (.inr (.inr f407))))), (q7, .inl (cA8, 6, .inr (.inr (.inr (.inr f9))))), (q14, .inl (cA15, 7, .inr (.inr (.inr (.inr f16))))), (q408, .inr (1, fs414)), (q415, .inl (cA416, 96, .inl f417))] := hD
  have hK : va_K (dC, dI) classes [(cA2, .object "Seattable$Big"), (cA8, .object "Seattable$Big"), (cA15, .object "Seattable$Big"), (cA416, .int)] s := hK
  refine W.widen (k := 58) (n := 2669) (Nat.le_of_ble_eq_true rfl) (Nat.le_of_ble_eq_true rfl) ?_
  refine va_astq (D := (dC, dI)) (ci := 1) (r := (RX1, TX1, 2)) hx hb hK hP hD hS 1 0 4 rfl rfl rfl rfl (by unfold vp_in; decide) dX0_init_146 (fun H locs hP hD hS => ?_)
  have hP : va_P (dC, dI) classes [(a, .inr (8, fs137)), (q1, .inl (cA2, 20, .inr (.inr (.inr (.inr (va_up f407 (19 : Int32).toNatClampNeg (some q408))))))), (q7, .inl (cA8, 6, .inr (.inr (.inr (.inr f9))))), (q14, .inl (cA15, 7, .inr (.inr (.inr (.inr f16))))), (q408, .inr (1, fs414)), (q415, .inl (cA416, 96, .inl f417))] H := hP
  have hD : va_D A [(a, .inr (8, fs137)), (q1, .inl (cA2, 20, .inr (.inr (.inr (.inr (va_up f407 (19 : Int32).toNatClampNeg (some q408))))))), (q7, .inl (cA8, 6, .inr (.inr (.inr (.inr f9))))), (q14, .inl (cA15, 7, .inr (.inr (.inr (.inr f16))))), (q408, .inr (1, fs414)), (q415, .inl (cA416, 96, .inl f417))] := hD
  obtain ⟨f421, ef421⟩ : ∃ y : Nat → Option Nat, y = (va_up f407 (19 : Int32).toNatClampNeg (some q408)) := ⟨_, rfl⟩
  rw [← ef421] at hP hD
  have hP := hP.sub (ws' := [(a, .inr (8, fs137)), (q1, .inl (cA2, 20, .inr (.inr (.inr (.inr f421))))), (q7, .inl (cA8, 6, .inr (.inr (.inr (.inr f9))))), (q14, .inl (cA15, 7, .inr (.inr (.inr (.inr f16)))))]) [0, 1, 2, 3] rfl
  have hD := hD.sub (ws' := [(a, .inr (8, fs137)), (q1, .inl (cA2, 20, .inr (.inr (.inr (.inr f421))))), (q7, .inl (cA8, 6, .inr (.inr (.inr (.inr f9))))), (q14, .inl (cA15, 7, .inr (.inr (.inr (.inr f16)))))]) [0, 1, 2, 3] (by decide) rfl
  have hK := hK.sub (tys' := [(cA2, .object "Seattable$Big"), (cA8, .object "Seattable$Big"), (cA15, .object "Seattable$Big")]) [0, 1, 2] rfl
  refine lv_iinc (v := 20) (lv' := [(1, .int 20), (0, .ref a)]) hx hb dX0_init_147 hl (k := 0) rfl (by decide) (by decide) rfl (fun ls hl => ?_)
  refine lv_goto (tgt := 128) hx hb dX0_init_150 (by decide) ?_
  refine lv_iload_n hx hb dX0_init_128 rfl (lv_at hl 0 rfl) ?_
  refine lv_bipush (v := 20) hx hb dX0_init_129 (by decide) ?_
  refine lv_icmp_ge (tgt := 153) hx hb dX0_init_131 (by decide) (fun _ => ?_) (fun c9 => absurd (by decide) c9)
  refine lv_iconst (v := 0) hx hb dX0_init_153 (by decide) ?_
  refine lv_istore_n (lv' := [(1, .int 0), (0, .ref a)]) hx hb dX0_init_154 rfl hl (by decide) rfl (fun ls hl => ?_)
  refine lv_iload_n hx hb dX0_init_155 rfl (lv_at hl 0 rfl) ?_
  refine lv_bipush (v := 6) hx hb dX0_init_156 (by decide) ?_
  refine lv_icmp_ge (tgt := 180) hx hb dX0_init_158 (by decide) (fun c9 => absurd c9 (by decide)) (fun _ => ?_)
  refine lv_aload_n hx hb dX0_init_161 rfl (lv_at hl 1 rfl) ?_
  refine va_get (D := (dC, dI)) (ci := 8) (v := .ref q7) (C := RX0) (T := TX0) (N := 20) hx hb hG iX0 hown hK hP 0 rfl rfl 1 (by decide) (hG _ m_101) (fun _ h9 => h9) hf_140 dX0_init_162 ?_
  refine lv_iload_n hx hb dX0_init_165 rfl (lv_at hl 0 rfl) ?_
  refine va_new (D := (dC, dI)) (ci := 1) (fs := (List.range 2).map (fun k => defaultValue (tyX1 k))) (C := RX1) (T := TX1) (N := 2) hx hb hG iX1 tyX1 tyX1_ok hown (hG _ m_99) (hG _ m_45) (hG _ m_46) hK hP hD hS hA rfl (fs_new 2 tyX1) (Nat.le_of_ble_eq_true rfl) (Nat.le_of_ble_eq_true rfl) dX0_init_166 (fun q422 H hP hD hS => ?_)
  have hP : va_P (dC, dI) classes [(a, .inr (8, fs137)), (q1, .inl (cA2, 20, .inr (.inr (.inr (.inr f421))))), (q7, .inl (cA8, 6, .inr (.inr (.inr (.inr f9))))), (q14, .inl (cA15, 7, .inr (.inr (.inr (.inr f16))))), (q422, .inr (1, ((List.range 2).map (fun k => defaultValue (tyX1 k)))))] H := hP
  have hD : va_D A [(a, .inr (8, fs137)), (q1, .inl (cA2, 20, .inr (.inr (.inr (.inr f421))))), (q7, .inl (cA8, 6, .inr (.inr (.inr (.inr f9))))), (q14, .inl (cA15, 7, .inr (.inr (.inr (.inr f16))))), (q422, .inr (1, ((List.range 2).map (fun k => defaultValue (tyX1 k)))))] := hD
  obtain ⟨fs423, efs423⟩ : ∃ y : List Value, y = (List.range 2).map (fun k => defaultValue (tyX1 k)) := ⟨_, rfl⟩
  rw [← efs423] at hP hD
  have hl_424 : fs423.length = 2 := by rw [efs423, List.length_map, List.length_range]
  have hf_425 : fs423[0]? = some (.null) := by rw [efs423]; rfl
  have hf_426 : fs423[1]? = some (.int 0) := by rw [efs423]; rfl
  refine W.widen (k := 59) (n := 2671) (Nat.le_of_ble_eq_true rfl) (Nat.le_of_ble_eq_true rfl) ?_
  refine lv_dup hx hb dX0_init_169 rfl ?_
  have hPc := hP.sub (ws' := [(q422, .inr (1, fs423))]) [4] rfl
  have hDc := hD.sub (ws' := [(q422, .inr (1, fs423))]) [4] (by decide) rfl
  have hKc := hK.sub (tys' := []) [] rfl
  have hFc := va_free (wc := [(q422, .inr (1, fs423))]) hD hS hA [4] rfl
  refine va_callv (va_runIN (As := []) (rest := [.ref q422, .int 0, .ref q7]) ⟨hx, hb, hml, hown, hG⟩ (c_Big_init l dC dI z q422 fs423 H.size hl_424 hf_426) ⟨va_cnB (host := "Seattable") 0 hG (gI m_47) rfl rfl rfl (nw_nest_3 hN) (hG _ m_46) (by decide +kernel) ⟨Nat.le_of_ble_eq_true rfl, Nat.le_of_ble_eq_true rfl⟩, rfl, (hG _ m_48)⟩ ⟨pre_blind, fun U hU hW => ⟨rfl, pre_call hU hW hPc hKc hDc hN (zkeep hZ hS) hFc⟩⟩ rfl rfl hl.1 rfl (lv_room (Nat.le_of_ble_eq_true rfl)) dX0_init_170 ⟨Nat.le_of_ble_eq_true rfl, Nat.le_of_ble_eq_true rfl⟩) hS (fun q _ h => hFc q h) hFc (fun u t H locs ht hvm hw hB hz1 hk1 hS => ?_)
  obtain ⟨fs428, q429, cA430, f431, hP1, hK1, hD1, hy432, hy433, hy434⟩ := hB
  rw [ht] at hP1
  have hK1 := va_K.moved hvm.symm hK1
  obtain ⟨hP, hD⟩ := va_join (wr := [(a, .inr (8, fs137)), (q1, .inl (cA2, 20, .inr (.inr (.inr (.inr f421))))), (q7, .inl (cA8, 6, .inr (.inr (.inr (.inr f9))))), (q14, .inl (cA15, 7, .inr (.inr (.inr (.inr f16)))))]) (w1 := [(q422, .inr (1, fs428)), (q429, .inl (cA430, 96, .inl f431))]) hP hD [4] [0, 1, 2, 3] rfl rfl (by decide) (by decide) hk1 hFc hP1 hD1
  have hK := (hK.sub (tys' := [(cA2, .object "Seattable$Big"), (cA8, .object "Seattable$Big"), (cA15, .object "Seattable$Big")]) [0, 1, 2] rfl).app hK1
  have hP : va_P (dC, dI) classes [(a, .inr (8, fs137)), (q1, .inl (cA2, 20, .inr (.inr (.inr (.inr f421))))), (q7, .inl (cA8, 6, .inr (.inr (.inr (.inr f9))))), (q14, .inl (cA15, 7, .inr (.inr (.inr (.inr f16))))), (q422, .inr (1, fs428)), (q429, .inl (cA430, 96, .inl f431))] H := hP
  have hD : va_D A [(a, .inr (8, fs137)), (q1, .inl (cA2, 20, .inr (.inr (.inr (.inr f421))))), (q7, .inl (cA8, 6, .inr (.inr (.inr (.inr f9))))), (q14, .inl (cA15, 7, .inr (.inr (.inr (.inr f16))))), (q422, .inr (1, fs428)), (q429, .inl (cA430, 96, .inl f431))] := hD
  have hK : va_K (dC, dI) classes [(cA2, .object "Seattable$Big"), (cA8, .object "Seattable$Big"), (cA15, .object "Seattable$Big"), (cA430, .int)] s := hK
  refine W.widen (k := 60) (n := 2767) (Nat.le_of_ble_eq_true rfl) (Nat.le_of_ble_eq_true rfl) ?_
  refine va_astq (D := (dC, dI)) (ci := 1) (r := (RX1, TX1, 2)) hx hb hK hP hD hS 2 1 4 rfl rfl rfl rfl (by unfold vp_in; decide) dX0_init_173 (fun H locs hP hD hS => ?_)
  have hP : va_P (dC, dI) classes [(a, .inr (8, fs137)), (q1, .inl (cA2, 20, .inr (.inr (.inr (.inr f421))))), (q7, .inl (cA8, 6, .inr (.inr (.inr (.inr (va_up f9 (0 : Int32).toNatClampNeg (some q422))))))), (q14, .inl (cA15, 7, .inr (.inr (.inr (.inr f16))))), (q422, .inr (1, fs428)), (q429, .inl (cA430, 96, .inl f431))] H := hP
  have hD : va_D A [(a, .inr (8, fs137)), (q1, .inl (cA2, 20, .inr (.inr (.inr (.inr f421))))), (q7, .inl (cA8, 6, .inr (.inr (.inr (.inr (va_up f9 (0 : Int32).toNatClampNeg (some q422))))))), (q14, .inl (cA15, 7, .inr (.inr (.inr (.inr f16))))), (q422, .inr (1, fs428)), (q429, .inl (cA430, 96, .inl f431))] := hD
  obtain ⟨f435, ef435⟩ : ∃ y : Nat → Option Nat, y = (va_up f9 (0 : Int32).toNatClampNeg (some q422)) := ⟨_, rfl⟩
  rw [← ef435] at hP hD
  have hP := hP.sub (ws' := [(a, .inr (8, fs137)), (q1, .inl (cA2, 20, .inr (.inr (.inr (.inr f421))))), (q7, .inl (cA8, 6, .inr (.inr (.inr (.inr f435))))), (q14, .inl (cA15, 7, .inr (.inr (.inr (.inr f16)))))]) [0, 1, 2, 3] rfl
  have hD := hD.sub (ws' := [(a, .inr (8, fs137)), (q1, .inl (cA2, 20, .inr (.inr (.inr (.inr f421))))), (q7, .inl (cA8, 6, .inr (.inr (.inr (.inr f435))))), (q14, .inl (cA15, 7, .inr (.inr (.inr (.inr f16)))))]) [0, 1, 2, 3] (by decide) rfl
  have hK := hK.sub (tys' := [(cA2, .object "Seattable$Big"), (cA8, .object "Seattable$Big"), (cA15, .object "Seattable$Big")]) [0, 1, 2] rfl
  refine lv_iinc (v := 1) (lv' := [(1, .int 1), (0, .ref a)]) hx hb dX0_init_174 hl (k := 0) rfl (by decide) (by decide) rfl (fun ls hl => ?_)
  refine lv_goto (tgt := 155) hx hb dX0_init_177 (by decide) ?_
  refine lv_iload_n hx hb dX0_init_155 rfl (lv_at hl 0 rfl) ?_
  refine lv_bipush (v := 6) hx hb dX0_init_156 (by decide) ?_
  refine lv_icmp_ge (tgt := 180) hx hb dX0_init_158 (by decide) (fun c9 => absurd c9 (by decide)) (fun _ => ?_)
  refine lv_aload_n hx hb dX0_init_161 rfl (lv_at hl 1 rfl) ?_
  refine va_get (D := (dC, dI)) (ci := 8) (v := .ref q7) (C := RX0) (T := TX0) (N := 20) hx hb hG iX0 hown hK hP 0 rfl rfl 1 (by decide) (hG _ m_101) (fun _ h9 => h9) hf_140 dX0_init_162 ?_
  refine lv_iload_n hx hb dX0_init_165 rfl (lv_at hl 0 rfl) ?_
  refine va_new (D := (dC, dI)) (ci := 1) (fs := (List.range 2).map (fun k => defaultValue (tyX1 k))) (C := RX1) (T := TX1) (N := 2) hx hb hG iX1 tyX1 tyX1_ok hown (hG _ m_99) (hG _ m_45) (hG _ m_46) hK hP hD hS hA rfl (fs_new 2 tyX1) (Nat.le_of_ble_eq_true rfl) (Nat.le_of_ble_eq_true rfl) dX0_init_166 (fun q436 H hP hD hS => ?_)
  have hP : va_P (dC, dI) classes [(a, .inr (8, fs137)), (q1, .inl (cA2, 20, .inr (.inr (.inr (.inr f421))))), (q7, .inl (cA8, 6, .inr (.inr (.inr (.inr f435))))), (q14, .inl (cA15, 7, .inr (.inr (.inr (.inr f16))))), (q436, .inr (1, ((List.range 2).map (fun k => defaultValue (tyX1 k)))))] H := hP
  have hD : va_D A [(a, .inr (8, fs137)), (q1, .inl (cA2, 20, .inr (.inr (.inr (.inr f421))))), (q7, .inl (cA8, 6, .inr (.inr (.inr (.inr f435))))), (q14, .inl (cA15, 7, .inr (.inr (.inr (.inr f16))))), (q436, .inr (1, ((List.range 2).map (fun k => defaultValue (tyX1 k)))))] := hD
  obtain ⟨fs437, efs437⟩ : ∃ y : List Value, y = (List.range 2).map (fun k => defaultValue (tyX1 k)) := ⟨_, rfl⟩
  rw [← efs437] at hP hD
  have hl_438 : fs437.length = 2 := by rw [efs437, List.length_map, List.length_range]
  have hf_439 : fs437[0]? = some (.null) := by rw [efs437]; rfl
  have hf_440 : fs437[1]? = some (.int 0) := by rw [efs437]; rfl
  refine W.widen (k := 61) (n := 2769) (Nat.le_of_ble_eq_true rfl) (Nat.le_of_ble_eq_true rfl) ?_
  refine lv_dup hx hb dX0_init_169 rfl ?_
  have hPc := hP.sub (ws' := [(q436, .inr (1, fs437))]) [4] rfl
  have hDc := hD.sub (ws' := [(q436, .inr (1, fs437))]) [4] (by decide) rfl
  have hKc := hK.sub (tys' := []) [] rfl
  have hFc := va_free (wc := [(q436, .inr (1, fs437))]) hD hS hA [4] rfl
  refine va_callv (va_runIN (As := []) (rest := [.ref q436, .int 1, .ref q7]) ⟨hx, hb, hml, hown, hG⟩ (c_Big_init l dC dI z q436 fs437 H.size hl_438 hf_440) ⟨va_cnB (host := "Seattable") 0 hG (gI m_47) rfl rfl rfl (nw_nest_3 hN) (hG _ m_46) (by decide +kernel) ⟨Nat.le_of_ble_eq_true rfl, Nat.le_of_ble_eq_true rfl⟩, rfl, (hG _ m_48)⟩ ⟨pre_blind, fun U hU hW => ⟨rfl, pre_call hU hW hPc hKc hDc hN (zkeep hZ hS) hFc⟩⟩ rfl rfl hl.1 rfl (lv_room (Nat.le_of_ble_eq_true rfl)) dX0_init_170 ⟨Nat.le_of_ble_eq_true rfl, Nat.le_of_ble_eq_true rfl⟩) hS (fun q _ h => hFc q h) hFc (fun u t H locs ht hvm hw hB hz1 hk1 hS => ?_)
  obtain ⟨fs442, q443, cA444, f445, hP1, hK1, hD1, hy446, hy447, hy448⟩ := hB
  rw [ht] at hP1
  have hK1 := va_K.moved hvm.symm hK1
  obtain ⟨hP, hD⟩ := va_join (wr := [(a, .inr (8, fs137)), (q1, .inl (cA2, 20, .inr (.inr (.inr (.inr f421))))), (q7, .inl (cA8, 6, .inr (.inr (.inr (.inr f435))))), (q14, .inl (cA15, 7, .inr (.inr (.inr (.inr f16)))))]) (w1 := [(q436, .inr (1, fs442)), (q443, .inl (cA444, 96, .inl f445))]) hP hD [4] [0, 1, 2, 3] rfl rfl (by decide) (by decide) hk1 hFc hP1 hD1
  have hK := (hK.sub (tys' := [(cA2, .object "Seattable$Big"), (cA8, .object "Seattable$Big"), (cA15, .object "Seattable$Big")]) [0, 1, 2] rfl).app hK1
  have hP : va_P (dC, dI) classes [(a, .inr (8, fs137)), (q1, .inl (cA2, 20, .inr (.inr (.inr (.inr f421))))), (q7, .inl (cA8, 6, .inr (.inr (.inr (.inr f435))))), (q14, .inl (cA15, 7, .inr (.inr (.inr (.inr f16))))), (q436, .inr (1, fs442)), (q443, .inl (cA444, 96, .inl f445))] H := hP
  have hD : va_D A [(a, .inr (8, fs137)), (q1, .inl (cA2, 20, .inr (.inr (.inr (.inr f421))))), (q7, .inl (cA8, 6, .inr (.inr (.inr (.inr f435))))), (q14, .inl (cA15, 7, .inr (.inr (.inr (.inr f16))))), (q436, .inr (1, fs442)), (q443, .inl (cA444, 96, .inl f445))] := hD
  have hK : va_K (dC, dI) classes [(cA2, .object "Seattable$Big"), (cA8, .object "Seattable$Big"), (cA15, .object "Seattable$Big"), (cA444, .int)] s := hK
  refine W.widen (k := 62) (n := 2865) (Nat.le_of_ble_eq_true rfl) (Nat.le_of_ble_eq_true rfl) ?_
  refine va_astq (D := (dC, dI)) (ci := 1) (r := (RX1, TX1, 2)) hx hb hK hP hD hS 2 1 4 rfl rfl rfl rfl (by unfold vp_in; decide) dX0_init_173 (fun H locs hP hD hS => ?_)
  have hP : va_P (dC, dI) classes [(a, .inr (8, fs137)), (q1, .inl (cA2, 20, .inr (.inr (.inr (.inr f421))))), (q7, .inl (cA8, 6, .inr (.inr (.inr (.inr (va_up f435 (1 : Int32).toNatClampNeg (some q436))))))), (q14, .inl (cA15, 7, .inr (.inr (.inr (.inr f16))))), (q436, .inr (1, fs442)), (q443, .inl (cA444, 96, .inl f445))] H := hP
  have hD : va_D A [(a, .inr (8, fs137)), (q1, .inl (cA2, 20, .inr (.inr (.inr (.inr f421))))), (q7, .inl (cA8, 6, .inr (.inr (.inr (.inr (va_up f435 (1 : Int32).toNatClampNeg (some q436))))))), (q14, .inl (cA15, 7, .inr (.inr (.inr (.inr f16))))), (q436, .inr (1, fs442)), (q443, .inl (cA444, 96, .inl f445))] := hD
  obtain ⟨f449, ef449⟩ : ∃ y : Nat → Option Nat, y = (va_up f435 (1 : Int32).toNatClampNeg (some q436)) := ⟨_, rfl⟩
  rw [← ef449] at hP hD
  have hP := hP.sub (ws' := [(a, .inr (8, fs137)), (q1, .inl (cA2, 20, .inr (.inr (.inr (.inr f421))))), (q7, .inl (cA8, 6, .inr (.inr (.inr (.inr f449))))), (q14, .inl (cA15, 7, .inr (.inr (.inr (.inr f16)))))]) [0, 1, 2, 3] rfl
  have hD := hD.sub (ws' := [(a, .inr (8, fs137)), (q1, .inl (cA2, 20, .inr (.inr (.inr (.inr f421))))), (q7, .inl (cA8, 6, .inr (.inr (.inr (.inr f449))))), (q14, .inl (cA15, 7, .inr (.inr (.inr (.inr f16)))))]) [0, 1, 2, 3] (by decide) rfl
  have hK := hK.sub (tys' := [(cA2, .object "Seattable$Big"), (cA8, .object "Seattable$Big"), (cA15, .object "Seattable$Big")]) [0, 1, 2] rfl
  refine lv_iinc (v := 2) (lv' := [(1, .int 2), (0, .ref a)]) hx hb dX0_init_174 hl (k := 0) rfl (by decide) (by decide) rfl (fun ls hl => ?_)
  refine lv_goto (tgt := 155) hx hb dX0_init_177 (by decide) ?_
  refine lv_iload_n hx hb dX0_init_155 rfl (lv_at hl 0 rfl) ?_
  refine lv_bipush (v := 6) hx hb dX0_init_156 (by decide) ?_
  refine lv_icmp_ge (tgt := 180) hx hb dX0_init_158 (by decide) (fun c9 => absurd c9 (by decide)) (fun _ => ?_)
  refine lv_aload_n hx hb dX0_init_161 rfl (lv_at hl 1 rfl) ?_
  refine va_get (D := (dC, dI)) (ci := 8) (v := .ref q7) (C := RX0) (T := TX0) (N := 20) hx hb hG iX0 hown hK hP 0 rfl rfl 1 (by decide) (hG _ m_101) (fun _ h9 => h9) hf_140 dX0_init_162 ?_
  refine lv_iload_n hx hb dX0_init_165 rfl (lv_at hl 0 rfl) ?_
  refine va_new (D := (dC, dI)) (ci := 1) (fs := (List.range 2).map (fun k => defaultValue (tyX1 k))) (C := RX1) (T := TX1) (N := 2) hx hb hG iX1 tyX1 tyX1_ok hown (hG _ m_99) (hG _ m_45) (hG _ m_46) hK hP hD hS hA rfl (fs_new 2 tyX1) (Nat.le_of_ble_eq_true rfl) (Nat.le_of_ble_eq_true rfl) dX0_init_166 (fun q450 H hP hD hS => ?_)
  have hP : va_P (dC, dI) classes [(a, .inr (8, fs137)), (q1, .inl (cA2, 20, .inr (.inr (.inr (.inr f421))))), (q7, .inl (cA8, 6, .inr (.inr (.inr (.inr f449))))), (q14, .inl (cA15, 7, .inr (.inr (.inr (.inr f16))))), (q450, .inr (1, ((List.range 2).map (fun k => defaultValue (tyX1 k)))))] H := hP
  have hD : va_D A [(a, .inr (8, fs137)), (q1, .inl (cA2, 20, .inr (.inr (.inr (.inr f421))))), (q7, .inl (cA8, 6, .inr (.inr (.inr (.inr f449))))), (q14, .inl (cA15, 7, .inr (.inr (.inr (.inr f16))))), (q450, .inr (1, ((List.range 2).map (fun k => defaultValue (tyX1 k)))))] := hD
  obtain ⟨fs451, efs451⟩ : ∃ y : List Value, y = (List.range 2).map (fun k => defaultValue (tyX1 k)) := ⟨_, rfl⟩
  rw [← efs451] at hP hD
  have hl_452 : fs451.length = 2 := by rw [efs451, List.length_map, List.length_range]
  have hf_453 : fs451[0]? = some (.null) := by rw [efs451]; rfl
  have hf_454 : fs451[1]? = some (.int 0) := by rw [efs451]; rfl
  refine W.widen (k := 63) (n := 2867) (Nat.le_of_ble_eq_true rfl) (Nat.le_of_ble_eq_true rfl) ?_
  refine lv_dup hx hb dX0_init_169 rfl ?_
  have hPc := hP.sub (ws' := [(q450, .inr (1, fs451))]) [4] rfl
  have hDc := hD.sub (ws' := [(q450, .inr (1, fs451))]) [4] (by decide) rfl
  have hKc := hK.sub (tys' := []) [] rfl
  have hFc := va_free (wc := [(q450, .inr (1, fs451))]) hD hS hA [4] rfl
  refine va_callv (va_runIN (As := []) (rest := [.ref q450, .int 2, .ref q7]) ⟨hx, hb, hml, hown, hG⟩ (c_Big_init l dC dI z q450 fs451 H.size hl_452 hf_454) ⟨va_cnB (host := "Seattable") 0 hG (gI m_47) rfl rfl rfl (nw_nest_3 hN) (hG _ m_46) (by decide +kernel) ⟨Nat.le_of_ble_eq_true rfl, Nat.le_of_ble_eq_true rfl⟩, rfl, (hG _ m_48)⟩ ⟨pre_blind, fun U hU hW => ⟨rfl, pre_call hU hW hPc hKc hDc hN (zkeep hZ hS) hFc⟩⟩ rfl rfl hl.1 rfl (lv_room (Nat.le_of_ble_eq_true rfl)) dX0_init_170 ⟨Nat.le_of_ble_eq_true rfl, Nat.le_of_ble_eq_true rfl⟩) hS (fun q _ h => hFc q h) hFc (fun u t H locs ht hvm hw hB hz1 hk1 hS => ?_)
  obtain ⟨fs456, q457, cA458, f459, hP1, hK1, hD1, hy460, hy461, hy462⟩ := hB
  rw [ht] at hP1
  have hK1 := va_K.moved hvm.symm hK1
  obtain ⟨hP, hD⟩ := va_join (wr := [(a, .inr (8, fs137)), (q1, .inl (cA2, 20, .inr (.inr (.inr (.inr f421))))), (q7, .inl (cA8, 6, .inr (.inr (.inr (.inr f449))))), (q14, .inl (cA15, 7, .inr (.inr (.inr (.inr f16)))))]) (w1 := [(q450, .inr (1, fs456)), (q457, .inl (cA458, 96, .inl f459))]) hP hD [4] [0, 1, 2, 3] rfl rfl (by decide) (by decide) hk1 hFc hP1 hD1
  have hK := (hK.sub (tys' := [(cA2, .object "Seattable$Big"), (cA8, .object "Seattable$Big"), (cA15, .object "Seattable$Big")]) [0, 1, 2] rfl).app hK1
  have hP : va_P (dC, dI) classes [(a, .inr (8, fs137)), (q1, .inl (cA2, 20, .inr (.inr (.inr (.inr f421))))), (q7, .inl (cA8, 6, .inr (.inr (.inr (.inr f449))))), (q14, .inl (cA15, 7, .inr (.inr (.inr (.inr f16))))), (q450, .inr (1, fs456)), (q457, .inl (cA458, 96, .inl f459))] H := hP
  have hD : va_D A [(a, .inr (8, fs137)), (q1, .inl (cA2, 20, .inr (.inr (.inr (.inr f421))))), (q7, .inl (cA8, 6, .inr (.inr (.inr (.inr f449))))), (q14, .inl (cA15, 7, .inr (.inr (.inr (.inr f16))))), (q450, .inr (1, fs456)), (q457, .inl (cA458, 96, .inl f459))] := hD
  have hK : va_K (dC, dI) classes [(cA2, .object "Seattable$Big"), (cA8, .object "Seattable$Big"), (cA15, .object "Seattable$Big"), (cA458, .int)] s := hK
  refine W.widen (k := 64) (n := 2963) (Nat.le_of_ble_eq_true rfl) (Nat.le_of_ble_eq_true rfl) ?_
  refine va_astq (D := (dC, dI)) (ci := 1) (r := (RX1, TX1, 2)) hx hb hK hP hD hS 2 1 4 rfl rfl rfl rfl (by unfold vp_in; decide) dX0_init_173 (fun H locs hP hD hS => ?_)
  have hP : va_P (dC, dI) classes [(a, .inr (8, fs137)), (q1, .inl (cA2, 20, .inr (.inr (.inr (.inr f421))))), (q7, .inl (cA8, 6, .inr (.inr (.inr (.inr (va_up f449 (2 : Int32).toNatClampNeg (some q450))))))), (q14, .inl (cA15, 7, .inr (.inr (.inr (.inr f16))))), (q450, .inr (1, fs456)), (q457, .inl (cA458, 96, .inl f459))] H := hP
  have hD : va_D A [(a, .inr (8, fs137)), (q1, .inl (cA2, 20, .inr (.inr (.inr (.inr f421))))), (q7, .inl (cA8, 6, .inr (.inr (.inr (.inr (va_up f449 (2 : Int32).toNatClampNeg (some q450))))))), (q14, .inl (cA15, 7, .inr (.inr (.inr (.inr f16))))), (q450, .inr (1, fs456)), (q457, .inl (cA458, 96, .inl f459))] := hD
  obtain ⟨f463, ef463⟩ : ∃ y : Nat → Option Nat, y = (va_up f449 (2 : Int32).toNatClampNeg (some q450)) := ⟨_, rfl⟩
  rw [← ef463] at hP hD
  have hP := hP.sub (ws' := [(a, .inr (8, fs137)), (q1, .inl (cA2, 20, .inr (.inr (.inr (.inr f421))))), (q7, .inl (cA8, 6, .inr (.inr (.inr (.inr f463))))), (q14, .inl (cA15, 7, .inr (.inr (.inr (.inr f16)))))]) [0, 1, 2, 3] rfl
  have hD := hD.sub (ws' := [(a, .inr (8, fs137)), (q1, .inl (cA2, 20, .inr (.inr (.inr (.inr f421))))), (q7, .inl (cA8, 6, .inr (.inr (.inr (.inr f463))))), (q14, .inl (cA15, 7, .inr (.inr (.inr (.inr f16)))))]) [0, 1, 2, 3] (by decide) rfl
  have hK := hK.sub (tys' := [(cA2, .object "Seattable$Big"), (cA8, .object "Seattable$Big"), (cA15, .object "Seattable$Big")]) [0, 1, 2] rfl
  refine lv_iinc (v := 3) (lv' := [(1, .int 3), (0, .ref a)]) hx hb dX0_init_174 hl (k := 0) rfl (by decide) (by decide) rfl (fun ls hl => ?_)
  refine lv_goto (tgt := 155) hx hb dX0_init_177 (by decide) ?_
  refine lv_iload_n hx hb dX0_init_155 rfl (lv_at hl 0 rfl) ?_
  refine lv_bipush (v := 6) hx hb dX0_init_156 (by decide) ?_
  refine lv_icmp_ge (tgt := 180) hx hb dX0_init_158 (by decide) (fun c9 => absurd c9 (by decide)) (fun _ => ?_)
  refine lv_aload_n hx hb dX0_init_161 rfl (lv_at hl 1 rfl) ?_
  refine va_get (D := (dC, dI)) (ci := 8) (v := .ref q7) (C := RX0) (T := TX0) (N := 20) hx hb hG iX0 hown hK hP 0 rfl rfl 1 (by decide) (hG _ m_101) (fun _ h9 => h9) hf_140 dX0_init_162 ?_
  refine lv_iload_n hx hb dX0_init_165 rfl (lv_at hl 0 rfl) ?_
  refine va_new (D := (dC, dI)) (ci := 1) (fs := (List.range 2).map (fun k => defaultValue (tyX1 k))) (C := RX1) (T := TX1) (N := 2) hx hb hG iX1 tyX1 tyX1_ok hown (hG _ m_99) (hG _ m_45) (hG _ m_46) hK hP hD hS hA rfl (fs_new 2 tyX1) (Nat.le_of_ble_eq_true rfl) (Nat.le_of_ble_eq_true rfl) dX0_init_166 (fun q464 H hP hD hS => ?_)
  have hP : va_P (dC, dI) classes [(a, .inr (8, fs137)), (q1, .inl (cA2, 20, .inr (.inr (.inr (.inr f421))))), (q7, .inl (cA8, 6, .inr (.inr (.inr (.inr f463))))), (q14, .inl (cA15, 7, .inr (.inr (.inr (.inr f16))))), (q464, .inr (1, ((List.range 2).map (fun k => defaultValue (tyX1 k)))))] H := hP
  have hD : va_D A [(a, .inr (8, fs137)), (q1, .inl (cA2, 20, .inr (.inr (.inr (.inr f421))))), (q7, .inl (cA8, 6, .inr (.inr (.inr (.inr f463))))), (q14, .inl (cA15, 7, .inr (.inr (.inr (.inr f16))))), (q464, .inr (1, ((List.range 2).map (fun k => defaultValue (tyX1 k)))))] := hD
  obtain ⟨fs465, efs465⟩ : ∃ y : List Value, y = (List.range 2).map (fun k => defaultValue (tyX1 k)) := ⟨_, rfl⟩
  rw [← efs465] at hP hD
  have hl_466 : fs465.length = 2 := by rw [efs465, List.length_map, List.length_range]
  have hf_467 : fs465[0]? = some (.null) := by rw [efs465]; rfl
  have hf_468 : fs465[1]? = some (.int 0) := by rw [efs465]; rfl
  refine W.widen (k := 65) (n := 2965) (Nat.le_of_ble_eq_true rfl) (Nat.le_of_ble_eq_true rfl) ?_
  refine lv_dup hx hb dX0_init_169 rfl ?_
  have hPc := hP.sub (ws' := [(q464, .inr (1, fs465))]) [4] rfl
  have hDc := hD.sub (ws' := [(q464, .inr (1, fs465))]) [4] (by decide) rfl
  have hKc := hK.sub (tys' := []) [] rfl
  have hFc := va_free (wc := [(q464, .inr (1, fs465))]) hD hS hA [4] rfl
  refine va_callv (va_runIN (As := []) (rest := [.ref q464, .int 3, .ref q7]) ⟨hx, hb, hml, hown, hG⟩ (c_Big_init l dC dI z q464 fs465 H.size hl_466 hf_468) ⟨va_cnB (host := "Seattable") 0 hG (gI m_47) rfl rfl rfl (nw_nest_3 hN) (hG _ m_46) (by decide +kernel) ⟨Nat.le_of_ble_eq_true rfl, Nat.le_of_ble_eq_true rfl⟩, rfl, (hG _ m_48)⟩ ⟨pre_blind, fun U hU hW => ⟨rfl, pre_call hU hW hPc hKc hDc hN (zkeep hZ hS) hFc⟩⟩ rfl rfl hl.1 rfl (lv_room (Nat.le_of_ble_eq_true rfl)) dX0_init_170 ⟨Nat.le_of_ble_eq_true rfl, Nat.le_of_ble_eq_true rfl⟩) hS (fun q _ h => hFc q h) hFc (fun u t H locs ht hvm hw hB hz1 hk1 hS => ?_)
  obtain ⟨fs470, q471, cA472, f473, hP1, hK1, hD1, hy474, hy475, hy476⟩ := hB
  rw [ht] at hP1
  have hK1 := va_K.moved hvm.symm hK1
  obtain ⟨hP, hD⟩ := va_join (wr := [(a, .inr (8, fs137)), (q1, .inl (cA2, 20, .inr (.inr (.inr (.inr f421))))), (q7, .inl (cA8, 6, .inr (.inr (.inr (.inr f463))))), (q14, .inl (cA15, 7, .inr (.inr (.inr (.inr f16)))))]) (w1 := [(q464, .inr (1, fs470)), (q471, .inl (cA472, 96, .inl f473))]) hP hD [4] [0, 1, 2, 3] rfl rfl (by decide) (by decide) hk1 hFc hP1 hD1
  have hK := (hK.sub (tys' := [(cA2, .object "Seattable$Big"), (cA8, .object "Seattable$Big"), (cA15, .object "Seattable$Big")]) [0, 1, 2] rfl).app hK1
  have hP : va_P (dC, dI) classes [(a, .inr (8, fs137)), (q1, .inl (cA2, 20, .inr (.inr (.inr (.inr f421))))), (q7, .inl (cA8, 6, .inr (.inr (.inr (.inr f463))))), (q14, .inl (cA15, 7, .inr (.inr (.inr (.inr f16))))), (q464, .inr (1, fs470)), (q471, .inl (cA472, 96, .inl f473))] H := hP
  have hD : va_D A [(a, .inr (8, fs137)), (q1, .inl (cA2, 20, .inr (.inr (.inr (.inr f421))))), (q7, .inl (cA8, 6, .inr (.inr (.inr (.inr f463))))), (q14, .inl (cA15, 7, .inr (.inr (.inr (.inr f16))))), (q464, .inr (1, fs470)), (q471, .inl (cA472, 96, .inl f473))] := hD
  have hK : va_K (dC, dI) classes [(cA2, .object "Seattable$Big"), (cA8, .object "Seattable$Big"), (cA15, .object "Seattable$Big"), (cA472, .int)] s := hK
  refine W.widen (k := 66) (n := 3061) (Nat.le_of_ble_eq_true rfl) (Nat.le_of_ble_eq_true rfl) ?_
  refine va_astq (D := (dC, dI)) (ci := 1) (r := (RX1, TX1, 2)) hx hb hK hP hD hS 2 1 4 rfl rfl rfl rfl (by unfold vp_in; decide) dX0_init_173 (fun H locs hP hD hS => ?_)
  have hP : va_P (dC, dI) classes [(a, .inr (8, fs137)), (q1, .inl (cA2, 20, .inr (.inr (.inr (.inr f421))))), (q7, .inl (cA8, 6, .inr (.inr (.inr (.inr (va_up f463 (3 : Int32).toNatClampNeg (some q464))))))), (q14, .inl (cA15, 7, .inr (.inr (.inr (.inr f16))))), (q464, .inr (1, fs470)), (q471, .inl (cA472, 96, .inl f473))] H := hP
  have hD : va_D A [(a, .inr (8, fs137)), (q1, .inl (cA2, 20, .inr (.inr (.inr (.inr f421))))), (q7, .inl (cA8, 6, .inr (.inr (.inr (.inr (va_up f463 (3 : Int32).toNatClampNeg (some q464))))))), (q14, .inl (cA15, 7, .inr (.inr (.inr (.inr f16))))), (q464, .inr (1, fs470)), (q471, .inl (cA472, 96, .inl f473))] := hD
  obtain ⟨f477, ef477⟩ : ∃ y : Nat → Option Nat, y = (va_up f463 (3 : Int32).toNatClampNeg (some q464)) := ⟨_, rfl⟩
  rw [← ef477] at hP hD
  have hP := hP.sub (ws' := [(a, .inr (8, fs137)), (q1, .inl (cA2, 20, .inr (.inr (.inr (.inr f421))))), (q7, .inl (cA8, 6, .inr (.inr (.inr (.inr f477))))), (q14, .inl (cA15, 7, .inr (.inr (.inr (.inr f16)))))]) [0, 1, 2, 3] rfl
  have hD := hD.sub (ws' := [(a, .inr (8, fs137)), (q1, .inl (cA2, 20, .inr (.inr (.inr (.inr f421))))), (q7, .inl (cA8, 6, .inr (.inr (.inr (.inr f477))))), (q14, .inl (cA15, 7, .inr (.inr (.inr (.inr f16)))))]) [0, 1, 2, 3] (by decide) rfl
  have hK := hK.sub (tys' := [(cA2, .object "Seattable$Big"), (cA8, .object "Seattable$Big"), (cA15, .object "Seattable$Big")]) [0, 1, 2] rfl
  refine lv_iinc (v := 4) (lv' := [(1, .int 4), (0, .ref a)]) hx hb dX0_init_174 hl (k := 0) rfl (by decide) (by decide) rfl (fun ls hl => ?_)
  refine lv_goto (tgt := 155) hx hb dX0_init_177 (by decide) ?_
  refine lv_iload_n hx hb dX0_init_155 rfl (lv_at hl 0 rfl) ?_
  refine lv_bipush (v := 6) hx hb dX0_init_156 (by decide) ?_
  refine lv_icmp_ge (tgt := 180) hx hb dX0_init_158 (by decide) (fun c9 => absurd c9 (by decide)) (fun _ => ?_)
  refine lv_aload_n hx hb dX0_init_161 rfl (lv_at hl 1 rfl) ?_
  refine va_get (D := (dC, dI)) (ci := 8) (v := .ref q7) (C := RX0) (T := TX0) (N := 20) hx hb hG iX0 hown hK hP 0 rfl rfl 1 (by decide) (hG _ m_101) (fun _ h9 => h9) hf_140 dX0_init_162 ?_
  refine lv_iload_n hx hb dX0_init_165 rfl (lv_at hl 0 rfl) ?_
  refine va_new (D := (dC, dI)) (ci := 1) (fs := (List.range 2).map (fun k => defaultValue (tyX1 k))) (C := RX1) (T := TX1) (N := 2) hx hb hG iX1 tyX1 tyX1_ok hown (hG _ m_99) (hG _ m_45) (hG _ m_46) hK hP hD hS hA rfl (fs_new 2 tyX1) (Nat.le_of_ble_eq_true rfl) (Nat.le_of_ble_eq_true rfl) dX0_init_166 (fun q478 H hP hD hS => ?_)
  have hP : va_P (dC, dI) classes [(a, .inr (8, fs137)), (q1, .inl (cA2, 20, .inr (.inr (.inr (.inr f421))))), (q7, .inl (cA8, 6, .inr (.inr (.inr (.inr f477))))), (q14, .inl (cA15, 7, .inr (.inr (.inr (.inr f16))))), (q478, .inr (1, ((List.range 2).map (fun k => defaultValue (tyX1 k)))))] H := hP
  have hD : va_D A [(a, .inr (8, fs137)), (q1, .inl (cA2, 20, .inr (.inr (.inr (.inr f421))))), (q7, .inl (cA8, 6, .inr (.inr (.inr (.inr f477))))), (q14, .inl (cA15, 7, .inr (.inr (.inr (.inr f16))))), (q478, .inr (1, ((List.range 2).map (fun k => defaultValue (tyX1 k)))))] := hD
  obtain ⟨fs479, efs479⟩ : ∃ y : List Value, y = (List.range 2).map (fun k => defaultValue (tyX1 k)) := ⟨_, rfl⟩
  rw [← efs479] at hP hD
  have hl_480 : fs479.length = 2 := by rw [efs479, List.length_map, List.length_range]
  have hf_481 : fs479[0]? = some (.null) := by rw [efs479]; rfl
  have hf_482 : fs479[1]? = some (.int 0) := by rw [efs479]; rfl
  refine W.widen (k := 67) (n := 3063) (Nat.le_of_ble_eq_true rfl) (Nat.le_of_ble_eq_true rfl) ?_
  refine lv_dup hx hb dX0_init_169 rfl ?_
  have hPc := hP.sub (ws' := [(q478, .inr (1, fs479))]) [4] rfl
  have hDc := hD.sub (ws' := [(q478, .inr (1, fs479))]) [4] (by decide) rfl
  have hKc := hK.sub (tys' := []) [] rfl
  have hFc := va_free (wc := [(q478, .inr (1, fs479))]) hD hS hA [4] rfl
  refine va_callv (va_runIN (As := []) (rest := [.ref q478, .int 4, .ref q7]) ⟨hx, hb, hml, hown, hG⟩ (c_Big_init l dC dI z q478 fs479 H.size hl_480 hf_482) ⟨va_cnB (host := "Seattable") 0 hG (gI m_47) rfl rfl rfl (nw_nest_3 hN) (hG _ m_46) (by decide +kernel) ⟨Nat.le_of_ble_eq_true rfl, Nat.le_of_ble_eq_true rfl⟩, rfl, (hG _ m_48)⟩ ⟨pre_blind, fun U hU hW => ⟨rfl, pre_call hU hW hPc hKc hDc hN (zkeep hZ hS) hFc⟩⟩ rfl rfl hl.1 rfl (lv_room (Nat.le_of_ble_eq_true rfl)) dX0_init_170 ⟨Nat.le_of_ble_eq_true rfl, Nat.le_of_ble_eq_true rfl⟩) hS (fun q _ h => hFc q h) hFc (fun u t H locs ht hvm hw hB hz1 hk1 hS => ?_)
  obtain ⟨fs484, q485, cA486, f487, hP1, hK1, hD1, hy488, hy489, hy490⟩ := hB
  rw [ht] at hP1
  have hK1 := va_K.moved hvm.symm hK1
  obtain ⟨hP, hD⟩ := va_join (wr := [(a, .inr (8, fs137)), (q1, .inl (cA2, 20, .inr (.inr (.inr (.inr f421))))), (q7, .inl (cA8, 6, .inr (.inr (.inr (.inr f477))))), (q14, .inl (cA15, 7, .inr (.inr (.inr (.inr f16)))))]) (w1 := [(q478, .inr (1, fs484)), (q485, .inl (cA486, 96, .inl f487))]) hP hD [4] [0, 1, 2, 3] rfl rfl (by decide) (by decide) hk1 hFc hP1 hD1
  have hK := (hK.sub (tys' := [(cA2, .object "Seattable$Big"), (cA8, .object "Seattable$Big"), (cA15, .object "Seattable$Big")]) [0, 1, 2] rfl).app hK1
  have hP : va_P (dC, dI) classes [(a, .inr (8, fs137)), (q1, .inl (cA2, 20, .inr (.inr (.inr (.inr f421))))), (q7, .inl (cA8, 6, .inr (.inr (.inr (.inr f477))))), (q14, .inl (cA15, 7, .inr (.inr (.inr (.inr f16))))), (q478, .inr (1, fs484)), (q485, .inl (cA486, 96, .inl f487))] H := hP
  have hD : va_D A [(a, .inr (8, fs137)), (q1, .inl (cA2, 20, .inr (.inr (.inr (.inr f421))))), (q7, .inl (cA8, 6, .inr (.inr (.inr (.inr f477))))), (q14, .inl (cA15, 7, .inr (.inr (.inr (.inr f16))))), (q478, .inr (1, fs484)), (q485, .inl (cA486, 96, .inl f487))] := hD
  have hK : va_K (dC, dI) classes [(cA2, .object "Seattable$Big"), (cA8, .object "Seattable$Big"), (cA15, .object "Seattable$Big"), (cA486, .int)] s := hK
  refine W.widen (k := 68) (n := 3159) (Nat.le_of_ble_eq_true rfl) (Nat.le_of_ble_eq_true rfl) ?_
  refine va_astq (D := (dC, dI)) (ci := 1) (r := (RX1, TX1, 2)) hx hb hK hP hD hS 2 1 4 rfl rfl rfl rfl (by unfold vp_in; decide) dX0_init_173 (fun H locs hP hD hS => ?_)
  have hP : va_P (dC, dI) classes [(a, .inr (8, fs137)), (q1, .inl (cA2, 20, .inr (.inr (.inr (.inr f421))))), (q7, .inl (cA8, 6, .inr (.inr (.inr (.inr (va_up f477 (4 : Int32).toNatClampNeg (some q478))))))), (q14, .inl (cA15, 7, .inr (.inr (.inr (.inr f16))))), (q478, .inr (1, fs484)), (q485, .inl (cA486, 96, .inl f487))] H := hP
  have hD : va_D A [(a, .inr (8, fs137)), (q1, .inl (cA2, 20, .inr (.inr (.inr (.inr f421))))), (q7, .inl (cA8, 6, .inr (.inr (.inr (.inr (va_up f477 (4 : Int32).toNatClampNeg (some q478))))))), (q14, .inl (cA15, 7, .inr (.inr (.inr (.inr f16))))), (q478, .inr (1, fs484)), (q485, .inl (cA486, 96, .inl f487))] := hD
  obtain ⟨f491, ef491⟩ : ∃ y : Nat → Option Nat, y = (va_up f477 (4 : Int32).toNatClampNeg (some q478)) := ⟨_, rfl⟩
  rw [← ef491] at hP hD
  have hP := hP.sub (ws' := [(a, .inr (8, fs137)), (q1, .inl (cA2, 20, .inr (.inr (.inr (.inr f421))))), (q7, .inl (cA8, 6, .inr (.inr (.inr (.inr f491))))), (q14, .inl (cA15, 7, .inr (.inr (.inr (.inr f16)))))]) [0, 1, 2, 3] rfl
  have hD := hD.sub (ws' := [(a, .inr (8, fs137)), (q1, .inl (cA2, 20, .inr (.inr (.inr (.inr f421))))), (q7, .inl (cA8, 6, .inr (.inr (.inr (.inr f491))))), (q14, .inl (cA15, 7, .inr (.inr (.inr (.inr f16)))))]) [0, 1, 2, 3] (by decide) rfl
  have hK := hK.sub (tys' := [(cA2, .object "Seattable$Big"), (cA8, .object "Seattable$Big"), (cA15, .object "Seattable$Big")]) [0, 1, 2] rfl
  refine lv_iinc (v := 5) (lv' := [(1, .int 5), (0, .ref a)]) hx hb dX0_init_174 hl (k := 0) rfl (by decide) (by decide) rfl (fun ls hl => ?_)
  refine lv_goto (tgt := 155) hx hb dX0_init_177 (by decide) ?_
  refine lv_iload_n hx hb dX0_init_155 rfl (lv_at hl 0 rfl) ?_
  refine lv_bipush (v := 6) hx hb dX0_init_156 (by decide) ?_
  refine lv_icmp_ge (tgt := 180) hx hb dX0_init_158 (by decide) (fun c9 => absurd c9 (by decide)) (fun _ => ?_)
  refine lv_aload_n hx hb dX0_init_161 rfl (lv_at hl 1 rfl) ?_
  refine va_get (D := (dC, dI)) (ci := 8) (v := .ref q7) (C := RX0) (T := TX0) (N := 20) hx hb hG iX0 hown hK hP 0 rfl rfl 1 (by decide) (hG _ m_101) (fun _ h9 => h9) hf_140 dX0_init_162 ?_
  refine lv_iload_n hx hb dX0_init_165 rfl (lv_at hl 0 rfl) ?_
  refine va_new (D := (dC, dI)) (ci := 1) (fs := (List.range 2).map (fun k => defaultValue (tyX1 k))) (C := RX1) (T := TX1) (N := 2) hx hb hG iX1 tyX1 tyX1_ok hown (hG _ m_99) (hG _ m_45) (hG _ m_46) hK hP hD hS hA rfl (fs_new 2 tyX1) (Nat.le_of_ble_eq_true rfl) (Nat.le_of_ble_eq_true rfl) dX0_init_166 (fun q492 H hP hD hS => ?_)
  have hP : va_P (dC, dI) classes [(a, .inr (8, fs137)), (q1, .inl (cA2, 20, .inr (.inr (.inr (.inr f421))))), (q7, .inl (cA8, 6, .inr (.inr (.inr (.inr f491))))), (q14, .inl (cA15, 7, .inr (.inr (.inr (.inr f16))))), (q492, .inr (1, ((List.range 2).map (fun k => defaultValue (tyX1 k)))))] H := hP
  have hD : va_D A [(a, .inr (8, fs137)), (q1, .inl (cA2, 20, .inr (.inr (.inr (.inr f421))))), (q7, .inl (cA8, 6, .inr (.inr (.inr (.inr f491))))), (q14, .inl (cA15, 7, .inr (.inr (.inr (.inr f16))))), (q492, .inr (1, ((List.range 2).map (fun k => defaultValue (tyX1 k)))))] := hD
  obtain ⟨fs493, efs493⟩ : ∃ y : List Value, y = (List.range 2).map (fun k => defaultValue (tyX1 k)) := ⟨_, rfl⟩
  rw [← efs493] at hP hD
  have hl_494 : fs493.length = 2 := by rw [efs493, List.length_map, List.length_range]
  have hf_495 : fs493[0]? = some (.null) := by rw [efs493]; rfl
  have hf_496 : fs493[1]? = some (.int 0) := by rw [efs493]; rfl
  refine W.widen (k := 69) (n := 3161) (Nat.le_of_ble_eq_true rfl) (Nat.le_of_ble_eq_true rfl) ?_
  refine lv_dup hx hb dX0_init_169 rfl ?_
  have hPc := hP.sub (ws' := [(q492, .inr (1, fs493))]) [4] rfl
  have hDc := hD.sub (ws' := [(q492, .inr (1, fs493))]) [4] (by decide) rfl
  have hKc := hK.sub (tys' := []) [] rfl
  have hFc := va_free (wc := [(q492, .inr (1, fs493))]) hD hS hA [4] rfl
  refine va_callv (va_runIN (As := []) (rest := [.ref q492, .int 5, .ref q7]) ⟨hx, hb, hml, hown, hG⟩ (c_Big_init l dC dI z q492 fs493 H.size hl_494 hf_496) ⟨va_cnB (host := "Seattable") 0 hG (gI m_47) rfl rfl rfl (nw_nest_3 hN) (hG _ m_46) (by decide +kernel) ⟨Nat.le_of_ble_eq_true rfl, Nat.le_of_ble_eq_true rfl⟩, rfl, (hG _ m_48)⟩ ⟨pre_blind, fun U hU hW => ⟨rfl, pre_call hU hW hPc hKc hDc hN (zkeep hZ hS) hFc⟩⟩ rfl rfl hl.1 rfl (lv_room (Nat.le_of_ble_eq_true rfl)) dX0_init_170 ⟨Nat.le_of_ble_eq_true rfl, Nat.le_of_ble_eq_true rfl⟩) hS (fun q _ h => hFc q h) hFc (fun u t H locs ht hvm hw hB hz1 hk1 hS => ?_)
  obtain ⟨fs498, q499, cA500, f501, hP1, hK1, hD1, hy502, hy503, hy504⟩ := hB
  rw [ht] at hP1
  have hK1 := va_K.moved hvm.symm hK1
  obtain ⟨hP, hD⟩ := va_join (wr := [(a, .inr (8, fs137)), (q1, .inl (cA2, 20, .inr (.inr (.inr (.inr f421))))), (q7, .inl (cA8, 6, .inr (.inr (.inr (.inr f491))))), (q14, .inl (cA15, 7, .inr (.inr (.inr (.inr f16)))))]) (w1 := [(q492, .inr (1, fs498)), (q499, .inl (cA500, 96, .inl f501))]) hP hD [4] [0, 1, 2, 3] rfl rfl (by decide) (by decide) hk1 hFc hP1 hD1
  have hK := (hK.sub (tys' := [(cA2, .object "Seattable$Big"), (cA8, .object "Seattable$Big"), (cA15, .object "Seattable$Big")]) [0, 1, 2] rfl).app hK1
  have hP : va_P (dC, dI) classes [(a, .inr (8, fs137)), (q1, .inl (cA2, 20, .inr (.inr (.inr (.inr f421))))), (q7, .inl (cA8, 6, .inr (.inr (.inr (.inr f491))))), (q14, .inl (cA15, 7, .inr (.inr (.inr (.inr f16))))), (q492, .inr (1, fs498)), (q499, .inl (cA500, 96, .inl f501))] H := hP
  have hD : va_D A [(a, .inr (8, fs137)), (q1, .inl (cA2, 20, .inr (.inr (.inr (.inr f421))))), (q7, .inl (cA8, 6, .inr (.inr (.inr (.inr f491))))), (q14, .inl (cA15, 7, .inr (.inr (.inr (.inr f16))))), (q492, .inr (1, fs498)), (q499, .inl (cA500, 96, .inl f501))] := hD
  have hK : va_K (dC, dI) classes [(cA2, .object "Seattable$Big"), (cA8, .object "Seattable$Big"), (cA15, .object "Seattable$Big"), (cA500, .int)] s := hK
  refine W.widen (k := 70) (n := 3257) (Nat.le_of_ble_eq_true rfl) (Nat.le_of_ble_eq_true rfl) ?_
  refine va_astq (D := (dC, dI)) (ci := 1) (r := (RX1, TX1, 2)) hx hb hK hP hD hS 2 1 4 rfl rfl rfl rfl (by unfold vp_in; decide) dX0_init_173 (fun H locs hP hD hS => ?_)
  have hP : va_P (dC, dI) classes [(a, .inr (8, fs137)), (q1, .inl (cA2, 20, .inr (.inr (.inr (.inr f421))))), (q7, .inl (cA8, 6, .inr (.inr (.inr (.inr (va_up f491 (5 : Int32).toNatClampNeg (some q492))))))), (q14, .inl (cA15, 7, .inr (.inr (.inr (.inr f16))))), (q492, .inr (1, fs498)), (q499, .inl (cA500, 96, .inl f501))] H := hP
  have hD : va_D A [(a, .inr (8, fs137)), (q1, .inl (cA2, 20, .inr (.inr (.inr (.inr f421))))), (q7, .inl (cA8, 6, .inr (.inr (.inr (.inr (va_up f491 (5 : Int32).toNatClampNeg (some q492))))))), (q14, .inl (cA15, 7, .inr (.inr (.inr (.inr f16))))), (q492, .inr (1, fs498)), (q499, .inl (cA500, 96, .inl f501))] := hD
  obtain ⟨f505, ef505⟩ : ∃ y : Nat → Option Nat, y = (va_up f491 (5 : Int32).toNatClampNeg (some q492)) := ⟨_, rfl⟩
  rw [← ef505] at hP hD
  have hP := hP.sub (ws' := [(a, .inr (8, fs137)), (q1, .inl (cA2, 20, .inr (.inr (.inr (.inr f421))))), (q7, .inl (cA8, 6, .inr (.inr (.inr (.inr f505))))), (q14, .inl (cA15, 7, .inr (.inr (.inr (.inr f16)))))]) [0, 1, 2, 3] rfl
  have hD := hD.sub (ws' := [(a, .inr (8, fs137)), (q1, .inl (cA2, 20, .inr (.inr (.inr (.inr f421))))), (q7, .inl (cA8, 6, .inr (.inr (.inr (.inr f505))))), (q14, .inl (cA15, 7, .inr (.inr (.inr (.inr f16)))))]) [0, 1, 2, 3] (by decide) rfl
  have hK := hK.sub (tys' := [(cA2, .object "Seattable$Big"), (cA8, .object "Seattable$Big"), (cA15, .object "Seattable$Big")]) [0, 1, 2] rfl
  refine lv_iinc (v := 6) (lv' := [(1, .int 6), (0, .ref a)]) hx hb dX0_init_174 hl (k := 0) rfl (by decide) (by decide) rfl (fun ls hl => ?_)
  refine lv_goto (tgt := 155) hx hb dX0_init_177 (by decide) ?_
  refine lv_iload_n hx hb dX0_init_155 rfl (lv_at hl 0 rfl) ?_
  refine lv_bipush (v := 6) hx hb dX0_init_156 (by decide) ?_
  refine lv_icmp_ge (tgt := 180) hx hb dX0_init_158 (by decide) (fun _ => ?_) (fun c9 => absurd (by decide) c9)
  refine lv_iconst (v := 0) hx hb dX0_init_180 (by decide) ?_
  refine lv_istore_n (lv' := [(1, .int 0), (0, .ref a)]) hx hb dX0_init_181 rfl hl (by decide) rfl (fun ls hl => ?_)
  refine lv_iload_n hx hb dX0_init_182 rfl (lv_at hl 0 rfl) ?_
  refine lv_bipush (v := 6) hx hb dX0_init_183 (by decide) ?_
  refine lv_icmp_gt (tgt := 207) hx hb dX0_init_185 (by decide) (fun c9 => absurd c9 (by decide)) (fun _ => ?_)
  refine lv_aload_n hx hb dX0_init_188 rfl (lv_at hl 1 rfl) ?_
  refine va_get (D := (dC, dI)) (ci := 8) (v := .ref q14) (C := RX0) (T := TX0) (N := 20) hx hb hG iX0 hown hK hP 0 rfl rfl 2 (by decide) (hG _ m_102) (fun _ h9 => h9) hf_141 dX0_init_189 ?_
  refine lv_iload_n hx hb dX0_init_192 rfl (lv_at hl 0 rfl) ?_
  refine va_new (D := (dC, dI)) (ci := 1) (fs := (List.range 2).map (fun k => defaultValue (tyX1 k))) (C := RX1) (T := TX1) (N := 2) hx hb hG iX1 tyX1 tyX1_ok hown (hG _ m_99) (hG _ m_45) (hG _ m_46) hK hP hD hS hA rfl (fs_new 2 tyX1) (Nat.le_of_ble_eq_true rfl) (Nat.le_of_ble_eq_true rfl) dX0_init_193 (fun q506 H hP hD hS => ?_)
  have hP : va_P (dC, dI) classes [(a, .inr (8, fs137)), (q1, .inl (cA2, 20, .inr (.inr (.inr (.inr f421))))), (q7, .inl (cA8, 6, .inr (.inr (.inr (.inr f505))))), (q14, .inl (cA15, 7, .inr (.inr (.inr (.inr f16))))), (q506, .inr (1, ((List.range 2).map (fun k => defaultValue (tyX1 k)))))] H := hP
  have hD : va_D A [(a, .inr (8, fs137)), (q1, .inl (cA2, 20, .inr (.inr (.inr (.inr f421))))), (q7, .inl (cA8, 6, .inr (.inr (.inr (.inr f505))))), (q14, .inl (cA15, 7, .inr (.inr (.inr (.inr f16))))), (q506, .inr (1, ((List.range 2).map (fun k => defaultValue (tyX1 k)))))] := hD
  obtain ⟨fs507, efs507⟩ : ∃ y : List Value, y = (List.range 2).map (fun k => defaultValue (tyX1 k)) := ⟨_, rfl⟩
  rw [← efs507] at hP hD
  have hl_508 : fs507.length = 2 := by rw [efs507, List.length_map, List.length_range]
  have hf_509 : fs507[0]? = some (.null) := by rw [efs507]; rfl
  have hf_510 : fs507[1]? = some (.int 0) := by rw [efs507]; rfl
  refine W.widen (k := 71) (n := 3259) (Nat.le_of_ble_eq_true rfl) (Nat.le_of_ble_eq_true rfl) ?_
  refine lv_dup hx hb dX0_init_196 rfl ?_
  have hPc := hP.sub (ws' := [(q506, .inr (1, fs507))]) [4] rfl
  have hDc := hD.sub (ws' := [(q506, .inr (1, fs507))]) [4] (by decide) rfl
  have hKc := hK.sub (tys' := []) [] rfl
  have hFc := va_free (wc := [(q506, .inr (1, fs507))]) hD hS hA [4] rfl
  refine va_callv (va_runIN (As := []) (rest := [.ref q506, .int 0, .ref q14]) ⟨hx, hb, hml, hown, hG⟩ (c_Big_init l dC dI z q506 fs507 H.size hl_508 hf_510) ⟨va_cnB (host := "Seattable") 0 hG (gI m_47) rfl rfl rfl (nw_nest_3 hN) (hG _ m_46) (by decide +kernel) ⟨Nat.le_of_ble_eq_true rfl, Nat.le_of_ble_eq_true rfl⟩, rfl, (hG _ m_48)⟩ ⟨pre_blind, fun U hU hW => ⟨rfl, pre_call hU hW hPc hKc hDc hN (zkeep hZ hS) hFc⟩⟩ rfl rfl hl.1 rfl (lv_room (Nat.le_of_ble_eq_true rfl)) dX0_init_197 ⟨Nat.le_of_ble_eq_true rfl, Nat.le_of_ble_eq_true rfl⟩) hS (fun q _ h => hFc q h) hFc (fun u t H locs ht hvm hw hB hz1 hk1 hS => ?_)
  obtain ⟨fs512, q513, cA514, f515, hP1, hK1, hD1, hy516, hy517, hy518⟩ := hB
  rw [ht] at hP1
  have hK1 := va_K.moved hvm.symm hK1
  obtain ⟨hP, hD⟩ := va_join (wr := [(a, .inr (8, fs137)), (q1, .inl (cA2, 20, .inr (.inr (.inr (.inr f421))))), (q7, .inl (cA8, 6, .inr (.inr (.inr (.inr f505))))), (q14, .inl (cA15, 7, .inr (.inr (.inr (.inr f16)))))]) (w1 := [(q506, .inr (1, fs512)), (q513, .inl (cA514, 96, .inl f515))]) hP hD [4] [0, 1, 2, 3] rfl rfl (by decide) (by decide) hk1 hFc hP1 hD1
  have hK := (hK.sub (tys' := [(cA2, .object "Seattable$Big"), (cA8, .object "Seattable$Big"), (cA15, .object "Seattable$Big")]) [0, 1, 2] rfl).app hK1
  have hP : va_P (dC, dI) classes [(a, .inr (8, fs137)), (q1, .inl (cA2, 20, .inr (.inr (.inr (.inr f421))))), (q7, .inl (cA8, 6, .inr (.inr (.inr (.inr f505))))), (q14, .inl (cA15, 7, .inr (.inr (.inr (.inr f16))))), (q506, .inr (1, fs512)), (q513, .inl (cA514, 96, .inl f515))] H := hP
  have hD : va_D A [(a, .inr (8, fs137)), (q1, .inl (cA2, 20, .inr (.inr (.inr (.inr f421))))), (q7, .inl (cA8, 6, .inr (.inr (.inr (.inr f505))))), (q14, .inl (cA15, 7, .inr (.inr (.inr (.inr f16))))), (q506, .inr (1, fs512)), (q513, .inl (cA514, 96, .inl f515))] := hD
  have hK : va_K (dC, dI) classes [(cA2, .object "Seattable$Big"), (cA8, .object "Seattable$Big"), (cA15, .object "Seattable$Big"), (cA514, .int)] s := hK
  refine W.widen (k := 72) (n := 3355) (Nat.le_of_ble_eq_true rfl) (Nat.le_of_ble_eq_true rfl) ?_
  refine va_astq (D := (dC, dI)) (ci := 1) (r := (RX1, TX1, 2)) hx hb hK hP hD hS 3 2 4 rfl rfl rfl rfl (by unfold vp_in; decide) dX0_init_200 (fun H locs hP hD hS => ?_)
  have hP : va_P (dC, dI) classes [(a, .inr (8, fs137)), (q1, .inl (cA2, 20, .inr (.inr (.inr (.inr f421))))), (q7, .inl (cA8, 6, .inr (.inr (.inr (.inr f505))))), (q14, .inl (cA15, 7, .inr (.inr (.inr (.inr (va_up f16 (0 : Int32).toNatClampNeg (some q506))))))), (q506, .inr (1, fs512)), (q513, .inl (cA514, 96, .inl f515))] H := hP
  have hD : va_D A [(a, .inr (8, fs137)), (q1, .inl (cA2, 20, .inr (.inr (.inr (.inr f421))))), (q7, .inl (cA8, 6, .inr (.inr (.inr (.inr f505))))), (q14, .inl (cA15, 7, .inr (.inr (.inr (.inr (va_up f16 (0 : Int32).toNatClampNeg (some q506))))))), (q506, .inr (1, fs512)), (q513, .inl (cA514, 96, .inl f515))] := hD
  obtain ⟨f519, ef519⟩ : ∃ y : Nat → Option Nat, y = (va_up f16 (0 : Int32).toNatClampNeg (some q506)) := ⟨_, rfl⟩
  rw [← ef519] at hP hD
  have hP := hP.sub (ws' := [(a, .inr (8, fs137)), (q1, .inl (cA2, 20, .inr (.inr (.inr (.inr f421))))), (q7, .inl (cA8, 6, .inr (.inr (.inr (.inr f505))))), (q14, .inl (cA15, 7, .inr (.inr (.inr (.inr f519)))))]) [0, 1, 2, 3] rfl
  have hD := hD.sub (ws' := [(a, .inr (8, fs137)), (q1, .inl (cA2, 20, .inr (.inr (.inr (.inr f421))))), (q7, .inl (cA8, 6, .inr (.inr (.inr (.inr f505))))), (q14, .inl (cA15, 7, .inr (.inr (.inr (.inr f519)))))]) [0, 1, 2, 3] (by decide) rfl
  have hK := hK.sub (tys' := [(cA2, .object "Seattable$Big"), (cA8, .object "Seattable$Big"), (cA15, .object "Seattable$Big")]) [0, 1, 2] rfl
  refine lv_iinc (v := 1) (lv' := [(1, .int 1), (0, .ref a)]) hx hb dX0_init_201 hl (k := 0) rfl (by decide) (by decide) rfl (fun ls hl => ?_)
  refine lv_goto (tgt := 182) hx hb dX0_init_204 (by decide) ?_
  refine lv_iload_n hx hb dX0_init_182 rfl (lv_at hl 0 rfl) ?_
  refine lv_bipush (v := 6) hx hb dX0_init_183 (by decide) ?_
  refine lv_icmp_gt (tgt := 207) hx hb dX0_init_185 (by decide) (fun c9 => absurd c9 (by decide)) (fun _ => ?_)
  refine lv_aload_n hx hb dX0_init_188 rfl (lv_at hl 1 rfl) ?_
  refine va_get (D := (dC, dI)) (ci := 8) (v := .ref q14) (C := RX0) (T := TX0) (N := 20) hx hb hG iX0 hown hK hP 0 rfl rfl 2 (by decide) (hG _ m_102) (fun _ h9 => h9) hf_141 dX0_init_189 ?_
  refine lv_iload_n hx hb dX0_init_192 rfl (lv_at hl 0 rfl) ?_
  refine va_new (D := (dC, dI)) (ci := 1) (fs := (List.range 2).map (fun k => defaultValue (tyX1 k))) (C := RX1) (T := TX1) (N := 2) hx hb hG iX1 tyX1 tyX1_ok hown (hG _ m_99) (hG _ m_45) (hG _ m_46) hK hP hD hS hA rfl (fs_new 2 tyX1) (Nat.le_of_ble_eq_true rfl) (Nat.le_of_ble_eq_true rfl) dX0_init_193 (fun q520 H hP hD hS => ?_)
  have hP : va_P (dC, dI) classes [(a, .inr (8, fs137)), (q1, .inl (cA2, 20, .inr (.inr (.inr (.inr f421))))), (q7, .inl (cA8, 6, .inr (.inr (.inr (.inr f505))))), (q14, .inl (cA15, 7, .inr (.inr (.inr (.inr f519))))), (q520, .inr (1, ((List.range 2).map (fun k => defaultValue (tyX1 k)))))] H := hP
  have hD : va_D A [(a, .inr (8, fs137)), (q1, .inl (cA2, 20, .inr (.inr (.inr (.inr f421))))), (q7, .inl (cA8, 6, .inr (.inr (.inr (.inr f505))))), (q14, .inl (cA15, 7, .inr (.inr (.inr (.inr f519))))), (q520, .inr (1, ((List.range 2).map (fun k => defaultValue (tyX1 k)))))] := hD
  obtain ⟨fs521, efs521⟩ : ∃ y : List Value, y = (List.range 2).map (fun k => defaultValue (tyX1 k)) := ⟨_, rfl⟩
  rw [← efs521] at hP hD
  have hl_522 : fs521.length = 2 := by rw [efs521, List.length_map, List.length_range]
  have hf_523 : fs521[0]? = some (.null) := by rw [efs521]; rfl
  have hf_524 : fs521[1]? = some (.int 0) := by rw [efs521]; rfl
  refine W.widen (k := 73) (n := 3357) (Nat.le_of_ble_eq_true rfl) (Nat.le_of_ble_eq_true rfl) ?_
  refine lv_dup hx hb dX0_init_196 rfl ?_
  have hPc := hP.sub (ws' := [(q520, .inr (1, fs521))]) [4] rfl
  have hDc := hD.sub (ws' := [(q520, .inr (1, fs521))]) [4] (by decide) rfl
  have hKc := hK.sub (tys' := []) [] rfl
  have hFc := va_free (wc := [(q520, .inr (1, fs521))]) hD hS hA [4] rfl
  refine va_callv (va_runIN (As := []) (rest := [.ref q520, .int 1, .ref q14]) ⟨hx, hb, hml, hown, hG⟩ (c_Big_init l dC dI z q520 fs521 H.size hl_522 hf_524) ⟨va_cnB (host := "Seattable") 0 hG (gI m_47) rfl rfl rfl (nw_nest_3 hN) (hG _ m_46) (by decide +kernel) ⟨Nat.le_of_ble_eq_true rfl, Nat.le_of_ble_eq_true rfl⟩, rfl, (hG _ m_48)⟩ ⟨pre_blind, fun U hU hW => ⟨rfl, pre_call hU hW hPc hKc hDc hN (zkeep hZ hS) hFc⟩⟩ rfl rfl hl.1 rfl (lv_room (Nat.le_of_ble_eq_true rfl)) dX0_init_197 ⟨Nat.le_of_ble_eq_true rfl, Nat.le_of_ble_eq_true rfl⟩) hS (fun q _ h => hFc q h) hFc (fun u t H locs ht hvm hw hB hz1 hk1 hS => ?_)
  obtain ⟨fs526, q527, cA528, f529, hP1, hK1, hD1, hy530, hy531, hy532⟩ := hB
  rw [ht] at hP1
  have hK1 := va_K.moved hvm.symm hK1
  obtain ⟨hP, hD⟩ := va_join (wr := [(a, .inr (8, fs137)), (q1, .inl (cA2, 20, .inr (.inr (.inr (.inr f421))))), (q7, .inl (cA8, 6, .inr (.inr (.inr (.inr f505))))), (q14, .inl (cA15, 7, .inr (.inr (.inr (.inr f519)))))]) (w1 := [(q520, .inr (1, fs526)), (q527, .inl (cA528, 96, .inl f529))]) hP hD [4] [0, 1, 2, 3] rfl rfl (by decide) (by decide) hk1 hFc hP1 hD1
  have hK := (hK.sub (tys' := [(cA2, .object "Seattable$Big"), (cA8, .object "Seattable$Big"), (cA15, .object "Seattable$Big")]) [0, 1, 2] rfl).app hK1
  have hP : va_P (dC, dI) classes [(a, .inr (8, fs137)), (q1, .inl (cA2, 20, .inr (.inr (.inr (.inr f421))))), (q7, .inl (cA8, 6, .inr (.inr (.inr (.inr f505))))), (q14, .inl (cA15, 7, .inr (.inr (.inr (.inr f519))))), (q520, .inr (1, fs526)), (q527, .inl (cA528, 96, .inl f529))] H := hP
  have hD : va_D A [(a, .inr (8, fs137)), (q1, .inl (cA2, 20, .inr (.inr (.inr (.inr f421))))), (q7, .inl (cA8, 6, .inr (.inr (.inr (.inr f505))))), (q14, .inl (cA15, 7, .inr (.inr (.inr (.inr f519))))), (q520, .inr (1, fs526)), (q527, .inl (cA528, 96, .inl f529))] := hD
  have hK : va_K (dC, dI) classes [(cA2, .object "Seattable$Big"), (cA8, .object "Seattable$Big"), (cA15, .object "Seattable$Big"), (cA528, .int)] s := hK
  refine W.widen (k := 74) (n := 3453) (Nat.le_of_ble_eq_true rfl) (Nat.le_of_ble_eq_true rfl) ?_
  refine va_astq (D := (dC, dI)) (ci := 1) (r := (RX1, TX1, 2)) hx hb hK hP hD hS 3 2 4 rfl rfl rfl rfl (by unfold vp_in; decide) dX0_init_200 (fun H locs hP hD hS => ?_)
  have hP : va_P (dC, dI) classes [(a, .inr (8, fs137)), (q1, .inl (cA2, 20, .inr (.inr (.inr (.inr f421))))), (q7, .inl (cA8, 6, .inr (.inr (.inr (.inr f505))))), (q14, .inl (cA15, 7, .inr (.inr (.inr (.inr (va_up f519 (1 : Int32).toNatClampNeg (some q520))))))), (q520, .inr (1, fs526)), (q527, .inl (cA528, 96, .inl f529))] H := hP
  have hD : va_D A [(a, .inr (8, fs137)), (q1, .inl (cA2, 20, .inr (.inr (.inr (.inr f421))))), (q7, .inl (cA8, 6, .inr (.inr (.inr (.inr f505))))), (q14, .inl (cA15, 7, .inr (.inr (.inr (.inr (va_up f519 (1 : Int32).toNatClampNeg (some q520))))))), (q520, .inr (1, fs526)), (q527, .inl (cA528, 96, .inl f529))] := hD
  obtain ⟨f533, ef533⟩ : ∃ y : Nat → Option Nat, y = (va_up f519 (1 : Int32).toNatClampNeg (some q520)) := ⟨_, rfl⟩
  rw [← ef533] at hP hD
  have hP := hP.sub (ws' := [(a, .inr (8, fs137)), (q1, .inl (cA2, 20, .inr (.inr (.inr (.inr f421))))), (q7, .inl (cA8, 6, .inr (.inr (.inr (.inr f505))))), (q14, .inl (cA15, 7, .inr (.inr (.inr (.inr f533)))))]) [0, 1, 2, 3] rfl
  have hD := hD.sub (ws' := [(a, .inr (8, fs137)), (q1, .inl (cA2, 20, .inr (.inr (.inr (.inr f421))))), (q7, .inl (cA8, 6, .inr (.inr (.inr (.inr f505))))), (q14, .inl (cA15, 7, .inr (.inr (.inr (.inr f533)))))]) [0, 1, 2, 3] (by decide) rfl
  have hK := hK.sub (tys' := [(cA2, .object "Seattable$Big"), (cA8, .object "Seattable$Big"), (cA15, .object "Seattable$Big")]) [0, 1, 2] rfl
  refine lv_iinc (v := 2) (lv' := [(1, .int 2), (0, .ref a)]) hx hb dX0_init_201 hl (k := 0) rfl (by decide) (by decide) rfl (fun ls hl => ?_)
  refine lv_goto (tgt := 182) hx hb dX0_init_204 (by decide) ?_
  refine lv_iload_n hx hb dX0_init_182 rfl (lv_at hl 0 rfl) ?_
  refine lv_bipush (v := 6) hx hb dX0_init_183 (by decide) ?_
  refine lv_icmp_gt (tgt := 207) hx hb dX0_init_185 (by decide) (fun c9 => absurd c9 (by decide)) (fun _ => ?_)
  refine lv_aload_n hx hb dX0_init_188 rfl (lv_at hl 1 rfl) ?_
  refine va_get (D := (dC, dI)) (ci := 8) (v := .ref q14) (C := RX0) (T := TX0) (N := 20) hx hb hG iX0 hown hK hP 0 rfl rfl 2 (by decide) (hG _ m_102) (fun _ h9 => h9) hf_141 dX0_init_189 ?_
  refine lv_iload_n hx hb dX0_init_192 rfl (lv_at hl 0 rfl) ?_
  refine va_new (D := (dC, dI)) (ci := 1) (fs := (List.range 2).map (fun k => defaultValue (tyX1 k))) (C := RX1) (T := TX1) (N := 2) hx hb hG iX1 tyX1 tyX1_ok hown (hG _ m_99) (hG _ m_45) (hG _ m_46) hK hP hD hS hA rfl (fs_new 2 tyX1) (Nat.le_of_ble_eq_true rfl) (Nat.le_of_ble_eq_true rfl) dX0_init_193 (fun q534 H hP hD hS => ?_)
  have hP : va_P (dC, dI) classes [(a, .inr (8, fs137)), (q1, .inl (cA2, 20, .inr (.inr (.inr (.inr f421))))), (q7, .inl (cA8, 6, .inr (.inr (.inr (.inr f505))))), (q14, .inl (cA15, 7, .inr (.inr (.inr (.inr f533))))), (q534, .inr (1, ((List.range 2).map (fun k => defaultValue (tyX1 k)))))] H := hP
  have hD : va_D A [(a, .inr (8, fs137)), (q1, .inl (cA2, 20, .inr (.inr (.inr (.inr f421))))), (q7, .inl (cA8, 6, .inr (.inr (.inr (.inr f505))))), (q14, .inl (cA15, 7, .inr (.inr (.inr (.inr f533))))), (q534, .inr (1, ((List.range 2).map (fun k => defaultValue (tyX1 k)))))] := hD
  obtain ⟨fs535, efs535⟩ : ∃ y : List Value, y = (List.range 2).map (fun k => defaultValue (tyX1 k)) := ⟨_, rfl⟩
  rw [← efs535] at hP hD
  have hl_536 : fs535.length = 2 := by rw [efs535, List.length_map, List.length_range]
  have hf_537 : fs535[0]? = some (.null) := by rw [efs535]; rfl
  have hf_538 : fs535[1]? = some (.int 0) := by rw [efs535]; rfl
  refine W.widen (k := 75) (n := 3455) (Nat.le_of_ble_eq_true rfl) (Nat.le_of_ble_eq_true rfl) ?_
  refine lv_dup hx hb dX0_init_196 rfl ?_
  have hPc := hP.sub (ws' := [(q534, .inr (1, fs535))]) [4] rfl
  have hDc := hD.sub (ws' := [(q534, .inr (1, fs535))]) [4] (by decide) rfl
  have hKc := hK.sub (tys' := []) [] rfl
  have hFc := va_free (wc := [(q534, .inr (1, fs535))]) hD hS hA [4] rfl
  refine va_callv (va_runIN (As := []) (rest := [.ref q534, .int 2, .ref q14]) ⟨hx, hb, hml, hown, hG⟩ (c_Big_init l dC dI z q534 fs535 H.size hl_536 hf_538) ⟨va_cnB (host := "Seattable") 0 hG (gI m_47) rfl rfl rfl (nw_nest_3 hN) (hG _ m_46) (by decide +kernel) ⟨Nat.le_of_ble_eq_true rfl, Nat.le_of_ble_eq_true rfl⟩, rfl, (hG _ m_48)⟩ ⟨pre_blind, fun U hU hW => ⟨rfl, pre_call hU hW hPc hKc hDc hN (zkeep hZ hS) hFc⟩⟩ rfl rfl hl.1 rfl (lv_room (Nat.le_of_ble_eq_true rfl)) dX0_init_197 ⟨Nat.le_of_ble_eq_true rfl, Nat.le_of_ble_eq_true rfl⟩) hS (fun q _ h => hFc q h) hFc (fun u t H locs ht hvm hw hB hz1 hk1 hS => ?_)
  obtain ⟨fs540, q541, cA542, f543, hP1, hK1, hD1, hy544, hy545, hy546⟩ := hB
  rw [ht] at hP1
  have hK1 := va_K.moved hvm.symm hK1
  obtain ⟨hP, hD⟩ := va_join (wr := [(a, .inr (8, fs137)), (q1, .inl (cA2, 20, .inr (.inr (.inr (.inr f421))))), (q7, .inl (cA8, 6, .inr (.inr (.inr (.inr f505))))), (q14, .inl (cA15, 7, .inr (.inr (.inr (.inr f533)))))]) (w1 := [(q534, .inr (1, fs540)), (q541, .inl (cA542, 96, .inl f543))]) hP hD [4] [0, 1, 2, 3] rfl rfl (by decide) (by decide) hk1 hFc hP1 hD1
  have hK := (hK.sub (tys' := [(cA2, .object "Seattable$Big"), (cA8, .object "Seattable$Big"), (cA15, .object "Seattable$Big")]) [0, 1, 2] rfl).app hK1
  have hP : va_P (dC, dI) classes [(a, .inr (8, fs137)), (q1, .inl (cA2, 20, .inr (.inr (.inr (.inr f421))))), (q7, .inl (cA8, 6, .inr (.inr (.inr (.inr f505))))), (q14, .inl (cA15, 7, .inr (.inr (.inr (.inr f533))))), (q534, .inr (1, fs540)), (q541, .inl (cA542, 96, .inl f543))] H := hP
  have hD : va_D A [(a, .inr (8, fs137)), (q1, .inl (cA2, 20, .inr (.inr (.inr (.inr f421))))), (q7, .inl (cA8, 6, .inr (.inr (.inr (.inr f505))))), (q14, .inl (cA15, 7, .inr (.inr (.inr (.inr f533))))), (q534, .inr (1, fs540)), (q541, .inl (cA542, 96, .inl f543))] := hD
  have hK : va_K (dC, dI) classes [(cA2, .object "Seattable$Big"), (cA8, .object "Seattable$Big"), (cA15, .object "Seattable$Big"), (cA542, .int)] s := hK
  refine W.widen (k := 76) (n := 3551) (Nat.le_of_ble_eq_true rfl) (Nat.le_of_ble_eq_true rfl) ?_
  refine va_astq (D := (dC, dI)) (ci := 1) (r := (RX1, TX1, 2)) hx hb hK hP hD hS 3 2 4 rfl rfl rfl rfl (by unfold vp_in; decide) dX0_init_200 (fun H locs hP hD hS => ?_)
  have hP : va_P (dC, dI) classes [(a, .inr (8, fs137)), (q1, .inl (cA2, 20, .inr (.inr (.inr (.inr f421))))), (q7, .inl (cA8, 6, .inr (.inr (.inr (.inr f505))))), (q14, .inl (cA15, 7, .inr (.inr (.inr (.inr (va_up f533 (2 : Int32).toNatClampNeg (some q534))))))), (q534, .inr (1, fs540)), (q541, .inl (cA542, 96, .inl f543))] H := hP
  have hD : va_D A [(a, .inr (8, fs137)), (q1, .inl (cA2, 20, .inr (.inr (.inr (.inr f421))))), (q7, .inl (cA8, 6, .inr (.inr (.inr (.inr f505))))), (q14, .inl (cA15, 7, .inr (.inr (.inr (.inr (va_up f533 (2 : Int32).toNatClampNeg (some q534))))))), (q534, .inr (1, fs540)), (q541, .inl (cA542, 96, .inl f543))] := hD
  obtain ⟨f547, ef547⟩ : ∃ y : Nat → Option Nat, y = (va_up f533 (2 : Int32).toNatClampNeg (some q534)) := ⟨_, rfl⟩
  rw [← ef547] at hP hD
  have hP := hP.sub (ws' := [(a, .inr (8, fs137)), (q1, .inl (cA2, 20, .inr (.inr (.inr (.inr f421))))), (q7, .inl (cA8, 6, .inr (.inr (.inr (.inr f505))))), (q14, .inl (cA15, 7, .inr (.inr (.inr (.inr f547)))))]) [0, 1, 2, 3] rfl
  have hD := hD.sub (ws' := [(a, .inr (8, fs137)), (q1, .inl (cA2, 20, .inr (.inr (.inr (.inr f421))))), (q7, .inl (cA8, 6, .inr (.inr (.inr (.inr f505))))), (q14, .inl (cA15, 7, .inr (.inr (.inr (.inr f547)))))]) [0, 1, 2, 3] (by decide) rfl
  have hK := hK.sub (tys' := [(cA2, .object "Seattable$Big"), (cA8, .object "Seattable$Big"), (cA15, .object "Seattable$Big")]) [0, 1, 2] rfl
  refine lv_iinc (v := 3) (lv' := [(1, .int 3), (0, .ref a)]) hx hb dX0_init_201 hl (k := 0) rfl (by decide) (by decide) rfl (fun ls hl => ?_)
  refine lv_goto (tgt := 182) hx hb dX0_init_204 (by decide) ?_
  refine lv_iload_n hx hb dX0_init_182 rfl (lv_at hl 0 rfl) ?_
  refine lv_bipush (v := 6) hx hb dX0_init_183 (by decide) ?_
  refine lv_icmp_gt (tgt := 207) hx hb dX0_init_185 (by decide) (fun c9 => absurd c9 (by decide)) (fun _ => ?_)
  refine lv_aload_n hx hb dX0_init_188 rfl (lv_at hl 1 rfl) ?_
  refine va_get (D := (dC, dI)) (ci := 8) (v := .ref q14) (C := RX0) (T := TX0) (N := 20) hx hb hG iX0 hown hK hP 0 rfl rfl 2 (by decide) (hG _ m_102) (fun _ h9 => h9) hf_141 dX0_init_189 ?_
  refine lv_iload_n hx hb dX0_init_192 rfl (lv_at hl 0 rfl) ?_
  refine va_new (D := (dC, dI)) (ci := 1) (fs := (List.range 2).map (fun k => defaultValue (tyX1 k))) (C := RX1) (T := TX1) (N := 2) hx hb hG iX1 tyX1 tyX1_ok hown (hG _ m_99) (hG _ m_45) (hG _ m_46) hK hP hD hS hA rfl (fs_new 2 tyX1) (Nat.le_of_ble_eq_true rfl) (Nat.le_of_ble_eq_true rfl) dX0_init_193 (fun q548 H hP hD hS => ?_)
  have hP : va_P (dC, dI) classes [(a, .inr (8, fs137)), (q1, .inl (cA2, 20, .inr (.inr (.inr (.inr f421))))), (q7, .inl (cA8, 6, .inr (.inr (.inr (.inr f505))))), (q14, .inl (cA15, 7, .inr (.inr (.inr (.inr f547))))), (q548, .inr (1, ((List.range 2).map (fun k => defaultValue (tyX1 k)))))] H := hP
  have hD : va_D A [(a, .inr (8, fs137)), (q1, .inl (cA2, 20, .inr (.inr (.inr (.inr f421))))), (q7, .inl (cA8, 6, .inr (.inr (.inr (.inr f505))))), (q14, .inl (cA15, 7, .inr (.inr (.inr (.inr f547))))), (q548, .inr (1, ((List.range 2).map (fun k => defaultValue (tyX1 k)))))] := hD
  obtain ⟨fs549, efs549⟩ : ∃ y : List Value, y = (List.range 2).map (fun k => defaultValue (tyX1 k)) := ⟨_, rfl⟩
  rw [← efs549] at hP hD
  have hl_550 : fs549.length = 2 := by rw [efs549, List.length_map, List.length_range]
  have hf_551 : fs549[0]? = some (.null) := by rw [efs549]; rfl
  have hf_552 : fs549[1]? = some (.int 0) := by rw [efs549]; rfl
  refine W.widen (k := 77) (n := 3553) (Nat.le_of_ble_eq_true rfl) (Nat.le_of_ble_eq_true rfl) ?_
  refine lv_dup hx hb dX0_init_196 rfl ?_
  have hPc := hP.sub (ws' := [(q548, .inr (1, fs549))]) [4] rfl
  have hDc := hD.sub (ws' := [(q548, .inr (1, fs549))]) [4] (by decide) rfl
  have hKc := hK.sub (tys' := []) [] rfl
  have hFc := va_free (wc := [(q548, .inr (1, fs549))]) hD hS hA [4] rfl
  refine va_callv (va_runIN (As := []) (rest := [.ref q548, .int 3, .ref q14]) ⟨hx, hb, hml, hown, hG⟩ (c_Big_init l dC dI z q548 fs549 H.size hl_550 hf_552) ⟨va_cnB (host := "Seattable") 0 hG (gI m_47) rfl rfl rfl (nw_nest_3 hN) (hG _ m_46) (by decide +kernel) ⟨Nat.le_of_ble_eq_true rfl, Nat.le_of_ble_eq_true rfl⟩, rfl, (hG _ m_48)⟩ ⟨pre_blind, fun U hU hW => ⟨rfl, pre_call hU hW hPc hKc hDc hN (zkeep hZ hS) hFc⟩⟩ rfl rfl hl.1 rfl (lv_room (Nat.le_of_ble_eq_true rfl)) dX0_init_197 ⟨Nat.le_of_ble_eq_true rfl, Nat.le_of_ble_eq_true rfl⟩) hS (fun q _ h => hFc q h) hFc (fun u t H locs ht hvm hw hB hz1 hk1 hS => ?_)
  obtain ⟨fs554, q555, cA556, f557, hP1, hK1, hD1, hy558, hy559, hy560⟩ := hB
  rw [ht] at hP1
  have hK1 := va_K.moved hvm.symm hK1
  obtain ⟨hP, hD⟩ := va_join (wr := [(a, .inr (8, fs137)), (q1, .inl (cA2, 20, .inr (.inr (.inr (.inr f421))))), (q7, .inl (cA8, 6, .inr (.inr (.inr (.inr f505))))), (q14, .inl (cA15, 7, .inr (.inr (.inr (.inr f547)))))]) (w1 := [(q548, .inr (1, fs554)), (q555, .inl (cA556, 96, .inl f557))]) hP hD [4] [0, 1, 2, 3] rfl rfl (by decide) (by decide) hk1 hFc hP1 hD1
  have hK := (hK.sub (tys' := [(cA2, .object "Seattable$Big"), (cA8, .object "Seattable$Big"), (cA15, .object "Seattable$Big")]) [0, 1, 2] rfl).app hK1
  have hP : va_P (dC, dI) classes [(a, .inr (8, fs137)), (q1, .inl (cA2, 20, .inr (.inr (.inr (.inr f421))))), (q7, .inl (cA8, 6, .inr (.inr (.inr (.inr f505))))), (q14, .inl (cA15, 7, .inr (.inr (.inr (.inr f547))))), (q548, .inr (1, fs554)), (q555, .inl (cA556, 96, .inl f557))] H := hP
  have hD : va_D A [(a, .inr (8, fs137)), (q1, .inl (cA2, 20, .inr (.inr (.inr (.inr f421))))), (q7, .inl (cA8, 6, .inr (.inr (.inr (.inr f505))))), (q14, .inl (cA15, 7, .inr (.inr (.inr (.inr f547))))), (q548, .inr (1, fs554)), (q555, .inl (cA556, 96, .inl f557))] := hD
  have hK : va_K (dC, dI) classes [(cA2, .object "Seattable$Big"), (cA8, .object "Seattable$Big"), (cA15, .object "Seattable$Big"), (cA556, .int)] s := hK
  refine W.widen (k := 78) (n := 3649) (Nat.le_of_ble_eq_true rfl) (Nat.le_of_ble_eq_true rfl) ?_
  refine va_astq (D := (dC, dI)) (ci := 1) (r := (RX1, TX1, 2)) hx hb hK hP hD hS 3 2 4 rfl rfl rfl rfl (by unfold vp_in; decide) dX0_init_200 (fun H locs hP hD hS => ?_)
  have hP : va_P (dC, dI) classes [(a, .inr (8, fs137)), (q1, .inl (cA2, 20, .inr (.inr (.inr (.inr f421))))), (q7, .inl (cA8, 6, .inr (.inr (.inr (.inr f505))))), (q14, .inl (cA15, 7, .inr (.inr (.inr (.inr (va_up f547 (3 : Int32).toNatClampNeg (some q548))))))), (q548, .inr (1, fs554)), (q555, .inl (cA556, 96, .inl f557))] H := hP
  have hD : va_D A [(a, .inr (8, fs137)), (q1, .inl (cA2, 20, .inr (.inr (.inr (.inr f421))))), (q7, .inl (cA8, 6, .inr (.inr (.inr (.inr f505))))), (q14, .inl (cA15, 7, .inr (.inr (.inr (.inr (va_up f547 (3 : Int32).toNatClampNeg (some q548))))))), (q548, .inr (1, fs554)), (q555, .inl (cA556, 96, .inl f557))] := hD
  obtain ⟨f561, ef561⟩ : ∃ y : Nat → Option Nat, y = (va_up f547 (3 : Int32).toNatClampNeg (some q548)) := ⟨_, rfl⟩
  rw [← ef561] at hP hD
  have hP := hP.sub (ws' := [(a, .inr (8, fs137)), (q1, .inl (cA2, 20, .inr (.inr (.inr (.inr f421))))), (q7, .inl (cA8, 6, .inr (.inr (.inr (.inr f505))))), (q14, .inl (cA15, 7, .inr (.inr (.inr (.inr f561)))))]) [0, 1, 2, 3] rfl
  have hD := hD.sub (ws' := [(a, .inr (8, fs137)), (q1, .inl (cA2, 20, .inr (.inr (.inr (.inr f421))))), (q7, .inl (cA8, 6, .inr (.inr (.inr (.inr f505))))), (q14, .inl (cA15, 7, .inr (.inr (.inr (.inr f561)))))]) [0, 1, 2, 3] (by decide) rfl
  have hK := hK.sub (tys' := [(cA2, .object "Seattable$Big"), (cA8, .object "Seattable$Big"), (cA15, .object "Seattable$Big")]) [0, 1, 2] rfl
  refine lv_iinc (v := 4) (lv' := [(1, .int 4), (0, .ref a)]) hx hb dX0_init_201 hl (k := 0) rfl (by decide) (by decide) rfl (fun ls hl => ?_)
  refine lv_goto (tgt := 182) hx hb dX0_init_204 (by decide) ?_
  refine lv_iload_n hx hb dX0_init_182 rfl (lv_at hl 0 rfl) ?_
  refine lv_bipush (v := 6) hx hb dX0_init_183 (by decide) ?_
  refine lv_icmp_gt (tgt := 207) hx hb dX0_init_185 (by decide) (fun c9 => absurd c9 (by decide)) (fun _ => ?_)
  refine lv_aload_n hx hb dX0_init_188 rfl (lv_at hl 1 rfl) ?_
  refine va_get (D := (dC, dI)) (ci := 8) (v := .ref q14) (C := RX0) (T := TX0) (N := 20) hx hb hG iX0 hown hK hP 0 rfl rfl 2 (by decide) (hG _ m_102) (fun _ h9 => h9) hf_141 dX0_init_189 ?_
  refine lv_iload_n hx hb dX0_init_192 rfl (lv_at hl 0 rfl) ?_
  refine va_new (D := (dC, dI)) (ci := 1) (fs := (List.range 2).map (fun k => defaultValue (tyX1 k))) (C := RX1) (T := TX1) (N := 2) hx hb hG iX1 tyX1 tyX1_ok hown (hG _ m_99) (hG _ m_45) (hG _ m_46) hK hP hD hS hA rfl (fs_new 2 tyX1) (Nat.le_of_ble_eq_true rfl) (Nat.le_of_ble_eq_true rfl) dX0_init_193 (fun q562 H hP hD hS => ?_)
  have hP : va_P (dC, dI) classes [(a, .inr (8, fs137)), (q1, .inl (cA2, 20, .inr (.inr (.inr (.inr f421))))), (q7, .inl (cA8, 6, .inr (.inr (.inr (.inr f505))))), (q14, .inl (cA15, 7, .inr (.inr (.inr (.inr f561))))), (q562, .inr (1, ((List.range 2).map (fun k => defaultValue (tyX1 k)))))] H := hP
  have hD : va_D A [(a, .inr (8, fs137)), (q1, .inl (cA2, 20, .inr (.inr (.inr (.inr f421))))), (q7, .inl (cA8, 6, .inr (.inr (.inr (.inr f505))))), (q14, .inl (cA15, 7, .inr (.inr (.inr (.inr f561))))), (q562, .inr (1, ((List.range 2).map (fun k => defaultValue (tyX1 k)))))] := hD
  obtain ⟨fs563, efs563⟩ : ∃ y : List Value, y = (List.range 2).map (fun k => defaultValue (tyX1 k)) := ⟨_, rfl⟩
  rw [← efs563] at hP hD
  have hl_564 : fs563.length = 2 := by rw [efs563, List.length_map, List.length_range]
  have hf_565 : fs563[0]? = some (.null) := by rw [efs563]; rfl
  have hf_566 : fs563[1]? = some (.int 0) := by rw [efs563]; rfl
  refine W.widen (k := 79) (n := 3651) (Nat.le_of_ble_eq_true rfl) (Nat.le_of_ble_eq_true rfl) ?_
  refine lv_dup hx hb dX0_init_196 rfl ?_
  have hPc := hP.sub (ws' := [(q562, .inr (1, fs563))]) [4] rfl
  have hDc := hD.sub (ws' := [(q562, .inr (1, fs563))]) [4] (by decide) rfl
  have hKc := hK.sub (tys' := []) [] rfl
  have hFc := va_free (wc := [(q562, .inr (1, fs563))]) hD hS hA [4] rfl
  refine va_callv (va_runIN (As := []) (rest := [.ref q562, .int 4, .ref q14]) ⟨hx, hb, hml, hown, hG⟩ (c_Big_init l dC dI z q562 fs563 H.size hl_564 hf_566) ⟨va_cnB (host := "Seattable") 0 hG (gI m_47) rfl rfl rfl (nw_nest_3 hN) (hG _ m_46) (by decide +kernel) ⟨Nat.le_of_ble_eq_true rfl, Nat.le_of_ble_eq_true rfl⟩, rfl, (hG _ m_48)⟩ ⟨pre_blind, fun U hU hW => ⟨rfl, pre_call hU hW hPc hKc hDc hN (zkeep hZ hS) hFc⟩⟩ rfl rfl hl.1 rfl (lv_room (Nat.le_of_ble_eq_true rfl)) dX0_init_197 ⟨Nat.le_of_ble_eq_true rfl, Nat.le_of_ble_eq_true rfl⟩) hS (fun q _ h => hFc q h) hFc (fun u t H locs ht hvm hw hB hz1 hk1 hS => ?_)
  obtain ⟨fs568, q569, cA570, f571, hP1, hK1, hD1, hy572, hy573, hy574⟩ := hB
  rw [ht] at hP1
  have hK1 := va_K.moved hvm.symm hK1
  obtain ⟨hP, hD⟩ := va_join (wr := [(a, .inr (8, fs137)), (q1, .inl (cA2, 20, .inr (.inr (.inr (.inr f421))))), (q7, .inl (cA8, 6, .inr (.inr (.inr (.inr f505))))), (q14, .inl (cA15, 7, .inr (.inr (.inr (.inr f561)))))]) (w1 := [(q562, .inr (1, fs568)), (q569, .inl (cA570, 96, .inl f571))]) hP hD [4] [0, 1, 2, 3] rfl rfl (by decide) (by decide) hk1 hFc hP1 hD1
  have hK := (hK.sub (tys' := [(cA2, .object "Seattable$Big"), (cA8, .object "Seattable$Big"), (cA15, .object "Seattable$Big")]) [0, 1, 2] rfl).app hK1
  have hP : va_P (dC, dI) classes [(a, .inr (8, fs137)), (q1, .inl (cA2, 20, .inr (.inr (.inr (.inr f421))))), (q7, .inl (cA8, 6, .inr (.inr (.inr (.inr f505))))), (q14, .inl (cA15, 7, .inr (.inr (.inr (.inr f561))))), (q562, .inr (1, fs568)), (q569, .inl (cA570, 96, .inl f571))] H := hP
  have hD : va_D A [(a, .inr (8, fs137)), (q1, .inl (cA2, 20, .inr (.inr (.inr (.inr f421))))), (q7, .inl (cA8, 6, .inr (.inr (.inr (.inr f505))))), (q14, .inl (cA15, 7, .inr (.inr (.inr (.inr f561))))), (q562, .inr (1, fs568)), (q569, .inl (cA570, 96, .inl f571))] := hD
  have hK : va_K (dC, dI) classes [(cA2, .object "Seattable$Big"), (cA8, .object "Seattable$Big"), (cA15, .object "Seattable$Big"), (cA570, .int)] s := hK
  refine W.widen (k := 80) (n := 3747) (Nat.le_of_ble_eq_true rfl) (Nat.le_of_ble_eq_true rfl) ?_
  refine va_astq (D := (dC, dI)) (ci := 1) (r := (RX1, TX1, 2)) hx hb hK hP hD hS 3 2 4 rfl rfl rfl rfl (by unfold vp_in; decide) dX0_init_200 (fun H locs hP hD hS => ?_)
  have hP : va_P (dC, dI) classes [(a, .inr (8, fs137)), (q1, .inl (cA2, 20, .inr (.inr (.inr (.inr f421))))), (q7, .inl (cA8, 6, .inr (.inr (.inr (.inr f505))))), (q14, .inl (cA15, 7, .inr (.inr (.inr (.inr (va_up f561 (4 : Int32).toNatClampNeg (some q562))))))), (q562, .inr (1, fs568)), (q569, .inl (cA570, 96, .inl f571))] H := hP
  have hD : va_D A [(a, .inr (8, fs137)), (q1, .inl (cA2, 20, .inr (.inr (.inr (.inr f421))))), (q7, .inl (cA8, 6, .inr (.inr (.inr (.inr f505))))), (q14, .inl (cA15, 7, .inr (.inr (.inr (.inr (va_up f561 (4 : Int32).toNatClampNeg (some q562))))))), (q562, .inr (1, fs568)), (q569, .inl (cA570, 96, .inl f571))] := hD
  obtain ⟨f575, ef575⟩ : ∃ y : Nat → Option Nat, y = (va_up f561 (4 : Int32).toNatClampNeg (some q562)) := ⟨_, rfl⟩
  rw [← ef575] at hP hD
  have hP := hP.sub (ws' := [(a, .inr (8, fs137)), (q1, .inl (cA2, 20, .inr (.inr (.inr (.inr f421))))), (q7, .inl (cA8, 6, .inr (.inr (.inr (.inr f505))))), (q14, .inl (cA15, 7, .inr (.inr (.inr (.inr f575)))))]) [0, 1, 2, 3] rfl
  have hD := hD.sub (ws' := [(a, .inr (8, fs137)), (q1, .inl (cA2, 20, .inr (.inr (.inr (.inr f421))))), (q7, .inl (cA8, 6, .inr (.inr (.inr (.inr f505))))), (q14, .inl (cA15, 7, .inr (.inr (.inr (.inr f575)))))]) [0, 1, 2, 3] (by decide) rfl
  have hK := hK.sub (tys' := [(cA2, .object "Seattable$Big"), (cA8, .object "Seattable$Big"), (cA15, .object "Seattable$Big")]) [0, 1, 2] rfl
  refine lv_iinc (v := 5) (lv' := [(1, .int 5), (0, .ref a)]) hx hb dX0_init_201 hl (k := 0) rfl (by decide) (by decide) rfl (fun ls hl => ?_)
  refine lv_goto (tgt := 182) hx hb dX0_init_204 (by decide) ?_
  refine lv_iload_n hx hb dX0_init_182 rfl (lv_at hl 0 rfl) ?_
  refine lv_bipush (v := 6) hx hb dX0_init_183 (by decide) ?_
  refine lv_icmp_gt (tgt := 207) hx hb dX0_init_185 (by decide) (fun c9 => absurd c9 (by decide)) (fun _ => ?_)
  refine lv_aload_n hx hb dX0_init_188 rfl (lv_at hl 1 rfl) ?_
  refine va_get (D := (dC, dI)) (ci := 8) (v := .ref q14) (C := RX0) (T := TX0) (N := 20) hx hb hG iX0 hown hK hP 0 rfl rfl 2 (by decide) (hG _ m_102) (fun _ h9 => h9) hf_141 dX0_init_189 ?_
  refine lv_iload_n hx hb dX0_init_192 rfl (lv_at hl 0 rfl) ?_
  refine va_new (D := (dC, dI)) (ci := 1) (fs := (List.range 2).map (fun k => defaultValue (tyX1 k))) (C := RX1) (T := TX1) (N := 2) hx hb hG iX1 tyX1 tyX1_ok hown (hG _ m_99) (hG _ m_45) (hG _ m_46) hK hP hD hS hA rfl (fs_new 2 tyX1) (Nat.le_of_ble_eq_true rfl) (Nat.le_of_ble_eq_true rfl) dX0_init_193 (fun q576 H hP hD hS => ?_)
  have hP : va_P (dC, dI) classes [(a, .inr (8, fs137)), (q1, .inl (cA2, 20, .inr (.inr (.inr (.inr f421))))), (q7, .inl (cA8, 6, .inr (.inr (.inr (.inr f505))))), (q14, .inl (cA15, 7, .inr (.inr (.inr (.inr f575))))), (q576, .inr (1, ((List.range 2).map (fun k => defaultValue (tyX1 k)))))] H := hP
  have hD : va_D A [(a, .inr (8, fs137)), (q1, .inl (cA2, 20, .inr (.inr (.inr (.inr f421))))), (q7, .inl (cA8, 6, .inr (.inr (.inr (.inr f505))))), (q14, .inl (cA15, 7, .inr (.inr (.inr (.inr f575))))), (q576, .inr (1, ((List.range 2).map (fun k => defaultValue (tyX1 k)))))] := hD
  obtain ⟨fs577, efs577⟩ : ∃ y : List Value, y = (List.range 2).map (fun k => defaultValue (tyX1 k)) := ⟨_, rfl⟩
  rw [← efs577] at hP hD
  have hl_578 : fs577.length = 2 := by rw [efs577, List.length_map, List.length_range]
  have hf_579 : fs577[0]? = some (.null) := by rw [efs577]; rfl
  have hf_580 : fs577[1]? = some (.int 0) := by rw [efs577]; rfl
  refine W.widen (k := 81) (n := 3749) (Nat.le_of_ble_eq_true rfl) (Nat.le_of_ble_eq_true rfl) ?_
  refine lv_dup hx hb dX0_init_196 rfl ?_
  have hPc := hP.sub (ws' := [(q576, .inr (1, fs577))]) [4] rfl
  have hDc := hD.sub (ws' := [(q576, .inr (1, fs577))]) [4] (by decide) rfl
  have hKc := hK.sub (tys' := []) [] rfl
  have hFc := va_free (wc := [(q576, .inr (1, fs577))]) hD hS hA [4] rfl
  refine va_callv (va_runIN (As := []) (rest := [.ref q576, .int 5, .ref q14]) ⟨hx, hb, hml, hown, hG⟩ (c_Big_init l dC dI z q576 fs577 H.size hl_578 hf_580) ⟨va_cnB (host := "Seattable") 0 hG (gI m_47) rfl rfl rfl (nw_nest_3 hN) (hG _ m_46) (by decide +kernel) ⟨Nat.le_of_ble_eq_true rfl, Nat.le_of_ble_eq_true rfl⟩, rfl, (hG _ m_48)⟩ ⟨pre_blind, fun U hU hW => ⟨rfl, pre_call hU hW hPc hKc hDc hN (zkeep hZ hS) hFc⟩⟩ rfl rfl hl.1 rfl (lv_room (Nat.le_of_ble_eq_true rfl)) dX0_init_197 ⟨Nat.le_of_ble_eq_true rfl, Nat.le_of_ble_eq_true rfl⟩) hS (fun q _ h => hFc q h) hFc (fun u t H locs ht hvm hw hB hz1 hk1 hS => ?_)
  obtain ⟨fs582, q583, cA584, f585, hP1, hK1, hD1, hy586, hy587, hy588⟩ := hB
  rw [ht] at hP1
  have hK1 := va_K.moved hvm.symm hK1
  obtain ⟨hP, hD⟩ := va_join (wr := [(a, .inr (8, fs137)), (q1, .inl (cA2, 20, .inr (.inr (.inr (.inr f421))))), (q7, .inl (cA8, 6, .inr (.inr (.inr (.inr f505))))), (q14, .inl (cA15, 7, .inr (.inr (.inr (.inr f575)))))]) (w1 := [(q576, .inr (1, fs582)), (q583, .inl (cA584, 96, .inl f585))]) hP hD [4] [0, 1, 2, 3] rfl rfl (by decide) (by decide) hk1 hFc hP1 hD1
  have hK := (hK.sub (tys' := [(cA2, .object "Seattable$Big"), (cA8, .object "Seattable$Big"), (cA15, .object "Seattable$Big")]) [0, 1, 2] rfl).app hK1
  have hP : va_P (dC, dI) classes [(a, .inr (8, fs137)), (q1, .inl (cA2, 20, .inr (.inr (.inr (.inr f421))))), (q7, .inl (cA8, 6, .inr (.inr (.inr (.inr f505))))), (q14, .inl (cA15, 7, .inr (.inr (.inr (.inr f575))))), (q576, .inr (1, fs582)), (q583, .inl (cA584, 96, .inl f585))] H := hP
  have hD : va_D A [(a, .inr (8, fs137)), (q1, .inl (cA2, 20, .inr (.inr (.inr (.inr f421))))), (q7, .inl (cA8, 6, .inr (.inr (.inr (.inr f505))))), (q14, .inl (cA15, 7, .inr (.inr (.inr (.inr f575))))), (q576, .inr (1, fs582)), (q583, .inl (cA584, 96, .inl f585))] := hD
  have hK : va_K (dC, dI) classes [(cA2, .object "Seattable$Big"), (cA8, .object "Seattable$Big"), (cA15, .object "Seattable$Big"), (cA584, .int)] s := hK
  refine W.widen (k := 82) (n := 3845) (Nat.le_of_ble_eq_true rfl) (Nat.le_of_ble_eq_true rfl) ?_
  refine va_astq (D := (dC, dI)) (ci := 1) (r := (RX1, TX1, 2)) hx hb hK hP hD hS 3 2 4 rfl rfl rfl rfl (by unfold vp_in; decide) dX0_init_200 (fun H locs hP hD hS => ?_)
  have hP : va_P (dC, dI) classes [(a, .inr (8, fs137)), (q1, .inl (cA2, 20, .inr (.inr (.inr (.inr f421))))), (q7, .inl (cA8, 6, .inr (.inr (.inr (.inr f505))))), (q14, .inl (cA15, 7, .inr (.inr (.inr (.inr (va_up f575 (5 : Int32).toNatClampNeg (some q576))))))), (q576, .inr (1, fs582)), (q583, .inl (cA584, 96, .inl f585))] H := hP
  have hD : va_D A [(a, .inr (8, fs137)), (q1, .inl (cA2, 20, .inr (.inr (.inr (.inr f421))))), (q7, .inl (cA8, 6, .inr (.inr (.inr (.inr f505))))), (q14, .inl (cA15, 7, .inr (.inr (.inr (.inr (va_up f575 (5 : Int32).toNatClampNeg (some q576))))))), (q576, .inr (1, fs582)), (q583, .inl (cA584, 96, .inl f585))] := hD
  obtain ⟨f589, ef589⟩ : ∃ y : Nat → Option Nat, y = (va_up f575 (5 : Int32).toNatClampNeg (some q576)) := ⟨_, rfl⟩
  rw [← ef589] at hP hD
  have hP := hP.sub (ws' := [(a, .inr (8, fs137)), (q1, .inl (cA2, 20, .inr (.inr (.inr (.inr f421))))), (q7, .inl (cA8, 6, .inr (.inr (.inr (.inr f505))))), (q14, .inl (cA15, 7, .inr (.inr (.inr (.inr f589)))))]) [0, 1, 2, 3] rfl
  have hD := hD.sub (ws' := [(a, .inr (8, fs137)), (q1, .inl (cA2, 20, .inr (.inr (.inr (.inr f421))))), (q7, .inl (cA8, 6, .inr (.inr (.inr (.inr f505))))), (q14, .inl (cA15, 7, .inr (.inr (.inr (.inr f589)))))]) [0, 1, 2, 3] (by decide) rfl
  have hK := hK.sub (tys' := [(cA2, .object "Seattable$Big"), (cA8, .object "Seattable$Big"), (cA15, .object "Seattable$Big")]) [0, 1, 2] rfl
  refine lv_iinc (v := 6) (lv' := [(1, .int 6), (0, .ref a)]) hx hb dX0_init_201 hl (k := 0) rfl (by decide) (by decide) rfl (fun ls hl => ?_)
  refine lv_goto (tgt := 182) hx hb dX0_init_204 (by decide) ?_
  refine lv_iload_n hx hb dX0_init_182 rfl (lv_at hl 0 rfl) ?_
  refine lv_bipush (v := 6) hx hb dX0_init_183 (by decide) ?_
  refine lv_icmp_gt (tgt := 207) hx hb dX0_init_185 (by decide) (fun c9 => absurd c9 (by decide)) (fun _ => ?_)
  refine lv_aload_n hx hb dX0_init_188 rfl (lv_at hl 1 rfl) ?_
  refine va_get (D := (dC, dI)) (ci := 8) (v := .ref q14) (C := RX0) (T := TX0) (N := 20) hx hb hG iX0 hown hK hP 0 rfl rfl 2 (by decide) (hG _ m_102) (fun _ h9 => h9) hf_141 dX0_init_189 ?_
  refine lv_iload_n hx hb dX0_init_192 rfl (lv_at hl 0 rfl) ?_
  refine va_new (D := (dC, dI)) (ci := 1) (fs := (List.range 2).map (fun k => defaultValue (tyX1 k))) (C := RX1) (T := TX1) (N := 2) hx hb hG iX1 tyX1 tyX1_ok hown (hG _ m_99) (hG _ m_45) (hG _ m_46) hK hP hD hS hA rfl (fs_new 2 tyX1) (Nat.le_of_ble_eq_true rfl) (Nat.le_of_ble_eq_true rfl) dX0_init_193 (fun q590 H hP hD hS => ?_)
  have hP : va_P (dC, dI) classes [(a, .inr (8, fs137)), (q1, .inl (cA2, 20, .inr (.inr (.inr (.inr f421))))), (q7, .inl (cA8, 6, .inr (.inr (.inr (.inr f505))))), (q14, .inl (cA15, 7, .inr (.inr (.inr (.inr f589))))), (q590, .inr (1, ((List.range 2).map (fun k => defaultValue (tyX1 k)))))] H := hP
  have hD : va_D A [(a, .inr (8, fs137)), (q1, .inl (cA2, 20, .inr (.inr (.inr (.inr f421))))), (q7, .inl (cA8, 6, .inr (.inr (.inr (.inr f505))))), (q14, .inl (cA15, 7, .inr (.inr (.inr (.inr f589))))), (q590, .inr (1, ((List.range 2).map (fun k => defaultValue (tyX1 k)))))] := hD
  obtain ⟨fs591, efs591⟩ : ∃ y : List Value, y = (List.range 2).map (fun k => defaultValue (tyX1 k)) := ⟨_, rfl⟩
  rw [← efs591] at hP hD
  have hl_592 : fs591.length = 2 := by rw [efs591, List.length_map, List.length_range]
  have hf_593 : fs591[0]? = some (.null) := by rw [efs591]; rfl
  have hf_594 : fs591[1]? = some (.int 0) := by rw [efs591]; rfl
  refine W.widen (k := 83) (n := 3847) (Nat.le_of_ble_eq_true rfl) (Nat.le_of_ble_eq_true rfl) ?_
  refine lv_dup hx hb dX0_init_196 rfl ?_
  have hPc := hP.sub (ws' := [(q590, .inr (1, fs591))]) [4] rfl
  have hDc := hD.sub (ws' := [(q590, .inr (1, fs591))]) [4] (by decide) rfl
  have hKc := hK.sub (tys' := []) [] rfl
  have hFc := va_free (wc := [(q590, .inr (1, fs591))]) hD hS hA [4] rfl
  refine va_callv (va_runIN (As := []) (rest := [.ref q590, .int 6, .ref q14]) ⟨hx, hb, hml, hown, hG⟩ (c_Big_init l dC dI z q590 fs591 H.size hl_592 hf_594) ⟨va_cnB (host := "Seattable") 0 hG (gI m_47) rfl rfl rfl (nw_nest_3 hN) (hG _ m_46) (by decide +kernel) ⟨Nat.le_of_ble_eq_true rfl, Nat.le_of_ble_eq_true rfl⟩, rfl, (hG _ m_48)⟩ ⟨pre_blind, fun U hU hW => ⟨rfl, pre_call hU hW hPc hKc hDc hN (zkeep hZ hS) hFc⟩⟩ rfl rfl hl.1 rfl (lv_room (Nat.le_of_ble_eq_true rfl)) dX0_init_197 ⟨Nat.le_of_ble_eq_true rfl, Nat.le_of_ble_eq_true rfl⟩) hS (fun q _ h => hFc q h) hFc (fun u t H locs ht hvm hw hB hz1 hk1 hS => ?_)
  obtain ⟨fs596, q597, cA598, f599, hP1, hK1, hD1, hy600, hy601, hy602⟩ := hB
  rw [ht] at hP1
  have hK1 := va_K.moved hvm.symm hK1
  obtain ⟨hP, hD⟩ := va_join (wr := [(a, .inr (8, fs137)), (q1, .inl (cA2, 20, .inr (.inr (.inr (.inr f421))))), (q7, .inl (cA8, 6, .inr (.inr (.inr (.inr f505))))), (q14, .inl (cA15, 7, .inr (.inr (.inr (.inr f589)))))]) (w1 := [(q590, .inr (1, fs596)), (q597, .inl (cA598, 96, .inl f599))]) hP hD [4] [0, 1, 2, 3] rfl rfl (by decide) (by decide) hk1 hFc hP1 hD1
  have hK := (hK.sub (tys' := [(cA2, .object "Seattable$Big"), (cA8, .object "Seattable$Big"), (cA15, .object "Seattable$Big")]) [0, 1, 2] rfl).app hK1
  have hP : va_P (dC, dI) classes [(a, .inr (8, fs137)), (q1, .inl (cA2, 20, .inr (.inr (.inr (.inr f421))))), (q7, .inl (cA8, 6, .inr (.inr (.inr (.inr f505))))), (q14, .inl (cA15, 7, .inr (.inr (.inr (.inr f589))))), (q590, .inr (1, fs596)), (q597, .inl (cA598, 96, .inl f599))] H := hP
  have hD : va_D A [(a, .inr (8, fs137)), (q1, .inl (cA2, 20, .inr (.inr (.inr (.inr f421))))), (q7, .inl (cA8, 6, .inr (.inr (.inr (.inr f505))))), (q14, .inl (cA15, 7, .inr (.inr (.inr (.inr f589))))), (q590, .inr (1, fs596)), (q597, .inl (cA598, 96, .inl f599))] := hD
  have hK : va_K (dC, dI) classes [(cA2, .object "Seattable$Big"), (cA8, .object "Seattable$Big"), (cA15, .object "Seattable$Big"), (cA598, .int)] s := hK
  refine W.widen (k := 84) (n := 3943) (Nat.le_of_ble_eq_true rfl) (Nat.le_of_ble_eq_true rfl) ?_
  refine va_astq (D := (dC, dI)) (ci := 1) (r := (RX1, TX1, 2)) hx hb hK hP hD hS 3 2 4 rfl rfl rfl rfl (by unfold vp_in; decide) dX0_init_200 (fun H locs hP hD hS => ?_)
  have hP : va_P (dC, dI) classes [(a, .inr (8, fs137)), (q1, .inl (cA2, 20, .inr (.inr (.inr (.inr f421))))), (q7, .inl (cA8, 6, .inr (.inr (.inr (.inr f505))))), (q14, .inl (cA15, 7, .inr (.inr (.inr (.inr (va_up f589 (6 : Int32).toNatClampNeg (some q590))))))), (q590, .inr (1, fs596)), (q597, .inl (cA598, 96, .inl f599))] H := hP
  have hD : va_D A [(a, .inr (8, fs137)), (q1, .inl (cA2, 20, .inr (.inr (.inr (.inr f421))))), (q7, .inl (cA8, 6, .inr (.inr (.inr (.inr f505))))), (q14, .inl (cA15, 7, .inr (.inr (.inr (.inr (va_up f589 (6 : Int32).toNatClampNeg (some q590))))))), (q590, .inr (1, fs596)), (q597, .inl (cA598, 96, .inl f599))] := hD
  obtain ⟨f603, ef603⟩ : ∃ y : Nat → Option Nat, y = (va_up f589 (6 : Int32).toNatClampNeg (some q590)) := ⟨_, rfl⟩
  rw [← ef603] at hP hD
  have hP := hP.sub (ws' := [(a, .inr (8, fs137)), (q1, .inl (cA2, 20, .inr (.inr (.inr (.inr f421))))), (q7, .inl (cA8, 6, .inr (.inr (.inr (.inr f505))))), (q14, .inl (cA15, 7, .inr (.inr (.inr (.inr f603)))))]) [0, 1, 2, 3] rfl
  have hD := hD.sub (ws' := [(a, .inr (8, fs137)), (q1, .inl (cA2, 20, .inr (.inr (.inr (.inr f421))))), (q7, .inl (cA8, 6, .inr (.inr (.inr (.inr f505))))), (q14, .inl (cA15, 7, .inr (.inr (.inr (.inr f603)))))]) [0, 1, 2, 3] (by decide) rfl
  have hK := hK.sub (tys' := [(cA2, .object "Seattable$Big"), (cA8, .object "Seattable$Big"), (cA15, .object "Seattable$Big")]) [0, 1, 2] rfl
  refine lv_iinc (v := 7) (lv' := [(1, .int 7), (0, .ref a)]) hx hb dX0_init_201 hl (k := 0) rfl (by decide) (by decide) rfl (fun ls hl => ?_)
  refine lv_goto (tgt := 182) hx hb dX0_init_204 (by decide) ?_
  refine lv_iload_n hx hb dX0_init_182 rfl (lv_at hl 0 rfl) ?_
  refine lv_bipush (v := 6) hx hb dX0_init_183 (by decide) ?_
  refine lv_icmp_gt (tgt := 207) hx hb dX0_init_185 (by decide) (fun _ => ?_) (fun c9 => absurd (by decide) c9)
  have hP9 := hP.sub (ws' := [(a, .inr (8, fs137))]) [0] rfl
  have hD9 := hD.sub (ws' := [(a, .inr (8, fs137))]) [0] (by decide) rfl
  have hK9 := hK.sub (tys' := []) [] rfl
  exact W.vret hx hb hr (fun t ht hW => ⟨⟨(), rfl, trivial, fs137, by rw [ht]; exact hP9, va_K.moved hW.alike hK9, hD9, hl_138⟩, hS.F ht⟩) hS.2.2 dX0_init_207

set_option maxHeartbeats 4000000 in
set_option maxRecDepth 100000 in
theorem c_Model_init (l : Launch) (dC : Nat → ClassId) (dI : Nat → Nat → Nat) (z : Nat) (a : Nat) (fs : List Value) (sz : Nat) (hl_fs : fs.length = 55) : Met l yX15_init (Cond.code yX15_init cX15_init 1 none :: G) ({ frames := 5, cells := 38, slots := 1172, locals := 93 }) (va_Pc [.ref a] (pre_ dC dI [(a, .inr (14, fs))] [] sz z)) (va_Qv (fun _ : Unit => True) (fun _ t => ∃ (fs124 : List Value), ∃ (q1 : Nat), ∃ (fs7 : List Value), va_P (dC, dI) classes [(a, .inr (14, fs124)), (q1, .inr (13, fs7))] t.heap ∧ va_K (dC, dI) classes [] t ∧ va_D (va_A [(a, .inr (14, fs))] sz) [(a, .inr (14, fs124)), (q1, .inr (13, fs7))] ∧ fs124.length = 55 ∧ fs124[1]? = some (.ref q1) ∧ fs7.length = 28 ∧ fs7[0]? = some (.int 0) ∧ fs7[1]? = some (.int 0)) (va_A [(a, .inr (14, fs))] sz)) 38 1172 (va_A [(a, .inr (14, fs))] sz) := by
  refine Met.ofW (cc := cX15_init) (maxL := 1) (ret := none) (by decide) rfl ?_
  intro p e s m args below meth c s₁ B hml hv
  obtain ⟨rfl, hv⟩ := hv
  obtain ⟨hsz, hP, hK, hD0, hN, hZ⟩ := hv
  have hx := B.exec
  have hb := B.bytes
  have hr := B.returns
  have hG : ∀ w ∈ G, w.before _ s = true := fun w h => atoms_spec (ws := Cond.code yX15_init cX15_init 1 none :: G) B.pre w (List.mem_cons_of_mem _ h)
  have hown : s.vm.findClass "SeattableModel" = some m.cls := findClass_of_methodNamed B.named
  have hlocks := B.notSynchronized
  have hin : meth.name = "<init>" := (name_of_methodNamed B.named B.method).1
  subst hsz
  have hD := hD0.self (sz := s.heap.size)
  generalize hAe : va_A [(a, .inr (14, fs))] s.heap.size = A at hD hZ ⊢
  have hA : ∀ q : Nat, s.heap.size ≤ q → A q := fun q h => by rw [← hAe]; exact Or.inr h
  have hS : va_S A s.heap s.heap [] := va_S.rf
  have hP : va_P (dC, dI) classes [(a, .inr (14, fs))] s.heap := hP
  have hl := lv_entry ([.ref a]) (n := 1) (Nat.le_of_ble_eq_true rfl)
  rw [lg_entry_eq]
  generalize (lg_sl ([.ref a]) ++ List.replicate (1 - (lg_sl ([.ref a])).length) Slot.unset).toArray = ls at hl ⊢
  have hl : lv_has ls 1 [(0, .ref a)] := hl
  refine lv_aload_n hx hb dX15_init_0 rfl (lv_at hl 0 rfl) ?_
  refine W.objInit hx hb hown (hG _ m_216) (hG _ m_1) (hG _ m_2) rfl (by rw [hml]; exact hl.1) rfl dX15_init_1 (Nat.le_of_ble_eq_true rfl) (Nat.le_of_ble_eq_true rfl) ?_
  refine W.eq (g2 := F0 m 4 ls []) rfl ?_
  refine lv_aload_n hx hb dX15_init_4 rfl (lv_at hl 0 rfl) ?_
  refine va_new (D := (dC, dI)) (ci := 13) (fs := (List.range 28).map (fun k => defaultValue (tyX14 k))) (C := RX14) (T := TX14) (N := 28) hx hb hG iX14 tyX14 tyX14_ok hown (hG _ m_217) (hG _ m_218) (hG _ m_219) hK hP hD hS hA rfl (fs_new 28 tyX14) (Nat.le_of_ble_eq_true rfl) (Nat.le_of_ble_eq_true rfl) dX15_init_5 (fun q1 H hP hD hS => ?_)
  have hP : va_P (dC, dI) classes [(a, .inr (14, fs)), (q1, .inr (13, ((List.range 28).map (fun k => defaultValue (tyX14 k)))))] H := hP
  have hD : va_D A [(a, .inr (14, fs)), (q1, .inr (13, ((List.range 28).map (fun k => defaultValue (tyX14 k)))))] := hD
  obtain ⟨fs2, efs2⟩ : ∃ y : List Value, y = (List.range 28).map (fun k => defaultValue (tyX14 k)) := ⟨_, rfl⟩
  rw [← efs2] at hP hD
  have hl_3 : fs2.length = 28 := by rw [efs2, List.length_map, List.length_range]
  have hf_4 : fs2[0]? = some (.int 0) := by rw [efs2]; rfl
  have hf_5 : fs2[1]? = some (.int 0) := by rw [efs2]; rfl
  refine W.widen (k := 1) (n := 28) (Nat.le_of_ble_eq_true rfl) (Nat.le_of_ble_eq_true rfl) ?_
  refine lv_dup hx hb dX15_init_8 rfl ?_
  have hPc := hP.sub (ws' := [(q1, .inr (13, fs2))]) [1] rfl
  have hDc := hD.sub (ws' := [(q1, .inr (13, fs2))]) [1] (by decide) rfl
  have hKc := hK.sub (tys' := []) [] rfl
  have hFc := va_free (wc := [(q1, .inr (13, fs2))]) hD hS hA [1] rfl
  refine va_callv (va_runI (As := []) (rest := [.ref q1, .ref a]) ⟨hx, hb, hml, hown, hG⟩ (c_State_init l dC dI z q1 fs2 H.size hl_3 hf_4 hf_5) (cwI 0 hG (gI m_220) rfl rfl rfl (hG _ m_219) (hG _ m_221) (hG _ m_222) rfl (by decide +kernel) ⟨Nat.le_of_ble_eq_true rfl, Nat.le_of_ble_eq_true rfl⟩) ⟨pre_blind, fun U hU hW => ⟨rfl, pre_call hU hW hPc hKc hDc hN (zkeep hZ hS) hFc⟩⟩ rfl rfl hl.1 rfl (lv_room (Nat.le_of_ble_eq_true rfl)) dX15_init_9 ⟨Nat.le_of_ble_eq_true rfl, Nat.le_of_ble_eq_true rfl⟩) hS (fun q _ h => hFc q h) hFc (fun u t H locs ht hvm hw hB hz1 hk1 hS => ?_)
  obtain ⟨fs7, hP1, hK1, hD1, hy8, hy9, hy10⟩ := hB
  rw [ht] at hP1
  have hK1 := va_K.moved hvm.symm hK1
  obtain ⟨hP, hD⟩ := va_join (wr := [(a, .inr (14, fs))]) (w1 := [(q1, .inr (13, fs7))]) hP hD [1] [0] rfl rfl (by decide) (by decide) hk1 hFc hP1 hD1
  have hK := (hK.sub (tys' := []) [] rfl).app hK1
  have hP : va_P (dC, dI) classes [(a, .inr (14, fs)), (q1, .inr (13, fs7))] H := hP
  have hD : va_D A [(a, .inr (14, fs)), (q1, .inr (13, fs7))] := hD
  have hK : va_K (dC, dI) classes [] s := hK
  refine W.widen (k := 14) (n := 217) (Nat.le_of_ble_eq_true rfl) (Nat.le_of_ble_eq_true rfl) ?_
  refine va_put (D := (dC, dI)) (ci := 14) (v := .ref q1) (ty := .object "SeattableModel$State") (C := RX15) (T := TX15) (N := 55) hx hb hG iX15 tyX15 tyX15_ok nmX15 hown hK hP hD hS 0 rfl rfl 1 (by decide) (hG _ m_223) (fun _ h9 => h9) rfl (by decide +kernel) rfl rfl (by rw [hl_fs]; decide) dX15_init_12 (fun H locs hP hD hS => ?_)
  have hP : va_P (dC, dI) classes [(a, .inr (14, (fs.set 1 (.ref q1)))), (q1, .inr (13, fs7))] H := hP
  have hD : va_D A [(a, .inr (14, (fs.set 1 (.ref q1)))), (q1, .inr (13, fs7))] := hD
  obtain ⟨fs11, efs11⟩ : ∃ y : List Value, y = fs.set 1 (.ref q1) := ⟨_, rfl⟩
  rw [← efs11] at hP hD
  have hl_12 : fs11.length = 55 := by rw [efs11, List.length_set]; exact hl_fs
  have hf_13 : fs11[1]? = some (.ref q1) := by rw [efs11]; exact fs_set_eq hl_fs (by decide)
  refine lv_aload_n hx hb dX15_init_15 rfl (lv_at hl 0 rfl) ?_
  refine va_new (D := (dC, dI)) (ci := 0) (fs := (List.range 3).map (fun k => defaultValue (tyJx4a65c k))) (C := RJx4a65c) (T := TJx4a65c) (N := 3) hx hb hG iJx4a65c tyJx4a65c tyJx4a65c_ok hown (hG _ m_224) (hG _ m_210) (hG _ m_211) hK hP hD hS hA rfl (fs_new 3 tyJx4a65c) (Nat.le_of_ble_eq_true rfl) (Nat.le_of_ble_eq_true rfl) dX15_init_16 (fun q14 H hP hD hS => ?_)
  have hP : va_P (dC, dI) classes [(a, .inr (14, fs11)), (q1, .inr (13, fs7)), (q14, .inr (0, ((List.range 3).map (fun k => defaultValue (tyJx4a65c k)))))] H := hP
  have hD : va_D A [(a, .inr (14, fs11)), (q1, .inr (13, fs7)), (q14, .inr (0, ((List.range 3).map (fun k => defaultValue (tyJx4a65c k)))))] := hD
  obtain ⟨fs15, efs15⟩ : ∃ y : List Value, y = (List.range 3).map (fun k => defaultValue (tyJx4a65c k)) := ⟨_, rfl⟩
  rw [← efs15] at hP hD
  have hl_16 : fs15.length = 3 := by rw [efs15, List.length_map, List.length_range]
  have hf_17 : fs15[2]? = some (.int 0) := by rw [efs15]; rfl
  refine W.widen (k := 15) (n := 220) (Nat.le_of_ble_eq_true rfl) (Nat.le_of_ble_eq_true rfl) ?_
  refine lv_dup hx hb dX15_init_19 rfl ?_
  have hPc := hP.sub (ws' := [(q14, .inr (0, fs15))]) [2] rfl
  have hDc := hD.sub (ws' := [(q14, .inr (0, fs15))]) [2] (by decide) rfl
  have hKc := hK.sub (tys' := []) [] rfl
  have hFc := va_free (wc := [(q14, .inr (0, fs15))]) hD hS hA [2] rfl
  refine va_callv (va_runI (As := []) (rest := [.ref q14, .ref a]) ⟨hx, hb, hml, hown, hG⟩ (c_ArrayList_init l dC dI z q14 fs15 H.size hl_16 hf_17) (cwI 0 hG (gI m_212) rfl rfl rfl (hG _ m_211) (hG _ m_225) (hG _ m_214) rfl (by decide +kernel) ⟨Nat.le_of_ble_eq_true rfl, Nat.le_of_ble_eq_true rfl⟩) ⟨pre_blind, fun U hU hW => ⟨rfl, pre_call hU hW hPc hKc hDc hN (zkeep hZ hS) hFc⟩⟩ rfl rfl hl.1 rfl (lv_room (Nat.le_of_ble_eq_true rfl)) dX15_init_20 ⟨Nat.le_of_ble_eq_true rfl, Nat.le_of_ble_eq_true rfl⟩) hS (fun q _ h => hFc q h) hFc (fun u t H locs ht hvm hw hB hz1 hk1 hS => ?_)
  obtain ⟨fs19, hP1, hK1, hD1, hy20, hy21⟩ := hB
  rw [ht] at hP1
  have hK1 := va_K.moved hvm.symm hK1
  obtain ⟨hP, hD⟩ := va_join (wr := [(a, .inr (14, fs11)), (q1, .inr (13, fs7))]) (w1 := [(q14, .inr (0, fs19))]) hP hD [2] [0, 1] rfl rfl (by decide) (by decide) hk1 hFc hP1 hD1
  have hK := (hK.sub (tys' := []) [] rfl).app hK1
  have hP : va_P (dC, dI) classes [(a, .inr (14, fs11)), (q1, .inr (13, fs7)), (q14, .inr (0, fs19))] H := hP
  have hD : va_D A [(a, .inr (14, fs11)), (q1, .inr (13, fs7)), (q14, .inr (0, fs19))] := hD
  have hK : va_K (dC, dI) classes [] s := hK
  refine va_putF (D := (dC, dI)) (ci := 14) (v := .ref q14) (ty := .object "java/util/ArrayList") (C := RX15) (T := TX15) (N := 55) hx hb hG iX15 tyX15 tyX15_ok nmX15 hown hK hP hD hS 0 rfl rfl 2 (by decide) (hG _ m_226) (fun _ h9 => h9) rfl hin rfl (by decide +kernel) rfl rfl (by rw [hl_12]; decide) dX15_init_23 (fun H locs hP hD hS => ?_)
  have hP : va_P (dC, dI) classes [(a, .inr (14, (fs11.set 2 (.ref q14)))), (q1, .inr (13, fs7)), (q14, .inr (0, fs19))] H := hP
  have hD : va_D A [(a, .inr (14, (fs11.set 2 (.ref q14)))), (q1, .inr (13, fs7)), (q14, .inr (0, fs19))] := hD
  obtain ⟨fs22, efs22⟩ : ∃ y : List Value, y = fs11.set 2 (.ref q14) := ⟨_, rfl⟩
  rw [← efs22] at hP hD
  have hl_23 : fs22.length = 55 := by rw [efs22, List.length_set]; exact hl_12
  have hf_24 : fs22[1]? = some (.ref q1) := by rw [efs22]; exact fs_set_ne hf_13 (by decide)
  have hP := hP.sub (ws' := [(a, .inr (14, fs22)), (q1, .inr (13, fs7))]) [0, 1] rfl
  have hD := hD.sub (ws' := [(a, .inr (14, fs22)), (q1, .inr (13, fs7))]) [0, 1] (by decide) rfl
  have hK := hK.sub (tys' := []) [] rfl
  refine lv_aload_n hx hb dX15_init_26 rfl (lv_at hl 0 rfl) ?_
  refine lv_iconst (v := 0) hx hb dX15_init_27 (by decide) ?_
  refine nf_newa (D := (dC, dI)) (atype := .int) (N' := 0) hx hb (hG _ m_16) hP hS (by decide) (by decide) (Nat.le_of_ble_eq_true rfl) (Nat.le_of_ble_eq_true rfl) (Nat.le_of_ble_eq_true rfl) dX15_init_28 (fun q25 H hP hS hz9 => ?_)
  refine W.widen (k := 16) (n := 220) (Nat.le_of_ble_eq_true rfl) (Nat.le_of_ble_eq_true rfl) ?_
  refine va_put (D := (dC, dI)) (ci := 14) (v := .ref q25) (ty := .array .int) (C := RX15) (T := TX15) (N := 55) hx hb hG iX15 tyX15 tyX15_ok nmX15 hown hK hP hD hS 0 rfl rfl 3 (by decide) (hG _ m_227) (fun _ h9 => h9) rfl (by decide +kernel) rfl rfl (by rw [hl_23]; decide) dX15_init_30 (fun H locs hP hD hS => ?_)
  have hP : va_P (dC, dI) classes [(a, .inr (14, (fs22.set 3 (.ref q25)))), (q1, .inr (13, fs7))] H := hP
  have hD : va_D A [(a, .inr (14, (fs22.set 3 (.ref q25)))), (q1, .inr (13, fs7))] := hD
  obtain ⟨fs26, efs26⟩ : ∃ y : List Value, y = fs22.set 3 (.ref q25) := ⟨_, rfl⟩
  rw [← efs26] at hP hD
  have hl_27 : fs26.length = 55 := by rw [efs26, List.length_set]; exact hl_23
  have hf_28 : fs26[1]? = some (.ref q1) := by rw [efs26]; exact fs_set_ne hf_24 (by decide)
  refine lv_aload_n hx hb dX15_init_33 rfl (lv_at hl 0 rfl) ?_
  refine lv_iconst (v := 1) hx hb dX15_init_34 (by decide) ?_
  refine va_newa (D := (dC, dI)) (atype := .int) (ty := .int) (N' := 1) (a0 := (1, .inl (fun _ => 0))) hx hb (hG _ m_16) rfl hK hP hD hS hA (fun cA => rfl) (by decide) (by decide) (Nat.le_of_ble_eq_true rfl) (Nat.le_of_ble_eq_true rfl) (Nat.le_of_ble_eq_true rfl) dX15_init_35 (fun q29 cA30 H hK hP hD hS => ?_)
  have hP : va_P (dC, dI) classes [(a, .inr (14, fs26)), (q1, .inr (13, fs7)), (q29, .inl (cA30, 1, .inl (fun _ => 0)))] H := hP
  have hD : va_D A [(a, .inr (14, fs26)), (q1, .inr (13, fs7)), (q29, .inl (cA30, 1, .inl (fun _ => 0)))] := hD
  have hK : va_K (dC, dI) classes [(cA30, .int)] s := hK
  obtain ⟨f31, ef31⟩ : ∃ y : Nat → Int32, y = (fun _ => 0) := ⟨_, rfl⟩
  rw [← ef31] at hP hD
  refine W.widen (k := 17) (n := 221) (Nat.le_of_ble_eq_true rfl) (Nat.le_of_ble_eq_true rfl) ?_
  refine lv_dup hx hb dX15_init_37 rfl ?_
  refine lv_iconst (v := 0) hx hb dX15_init_38 (by decide) ?_
  refine lv_iconst (v := 1) hx hb dX15_init_39 (by decide) ?_
  refine va_iast (D := (dC, dI)) hx hb hK hP hD hS 2 0 rfl rfl (by unfold vp_in; decide) dX15_init_40 (fun H locs hP hD hS => ?_)
  have hP : va_P (dC, dI) classes [(a, .inr (14, fs26)), (q1, .inr (13, fs7)), (q29, .inl (cA30, 1, .inl (upd f31 (0 : Int32).toNatClampNeg 1)))] H := hP
  have hD : va_D A [(a, .inr (14, fs26)), (q1, .inr (13, fs7)), (q29, .inl (cA30, 1, .inl (upd f31 (0 : Int32).toNatClampNeg 1)))] := hD
  obtain ⟨f32, ef32⟩ : ∃ y : Nat → Int32, y = (upd f31 (0 : Int32).toNatClampNeg 1) := ⟨_, rfl⟩
  rw [← ef32] at hP hD
  refine va_put (D := (dC, dI)) (ci := 14) (v := .ref q29) (ty := .array .int) (C := RX15) (T := TX15) (N := 55) hx hb hG iX15 tyX15 tyX15_ok nmX15 hown hK hP hD hS 0 rfl rfl 4 (by decide) (hG _ m_228) (fun _ h9 => h9) rfl (by decide +kernel) rfl rfl (by rw [hl_27]; decide) dX15_init_41 (fun H locs hP hD hS => ?_)
  have hP : va_P (dC, dI) classes [(a, .inr (14, (fs26.set 4 (.ref q29)))), (q1, .inr (13, fs7)), (q29, .inl (cA30, 1, .inl f32))] H := hP
  have hD : va_D A [(a, .inr (14, (fs26.set 4 (.ref q29)))), (q1, .inr (13, fs7)), (q29, .inl (cA30, 1, .inl f32))] := hD
  obtain ⟨fs33, efs33⟩ : ∃ y : List Value, y = fs26.set 4 (.ref q29) := ⟨_, rfl⟩
  rw [← efs33] at hP hD
  have hl_34 : fs33.length = 55 := by rw [efs33, List.length_set]; exact hl_27
  have hf_35 : fs33[1]? = some (.ref q1) := by rw [efs33]; exact fs_set_ne hf_28 (by decide)
  have hP := hP.sub (ws' := [(a, .inr (14, fs33)), (q1, .inr (13, fs7))]) [0, 1] rfl
  have hD := hD.sub (ws' := [(a, .inr (14, fs33)), (q1, .inr (13, fs7))]) [0, 1] (by decide) rfl
  have hK := hK.sub (tys' := []) [] rfl
  refine lv_aload_n hx hb dX15_init_44 rfl (lv_at hl 0 rfl) ?_
  refine lv_bipush (v := 64) hx hb dX15_init_45 (by decide) ?_
  refine nf_newa (D := (dC, dI)) (atype := .int) (N' := 64) hx hb (hG _ m_16) hP hS (by decide) (by decide) (Nat.le_of_ble_eq_true rfl) (Nat.le_of_ble_eq_true rfl) (Nat.le_of_ble_eq_true rfl) dX15_init_47 (fun q36 H hP hS hz9 => ?_)
  refine W.widen (k := 18) (n := 285) (Nat.le_of_ble_eq_true rfl) (Nat.le_of_ble_eq_true rfl) ?_
  refine va_put (D := (dC, dI)) (ci := 14) (v := .ref q36) (ty := .array .int) (C := RX15) (T := TX15) (N := 55) hx hb hG iX15 tyX15 tyX15_ok nmX15 hown hK hP hD hS 0 rfl rfl 5 (by decide) (hG _ m_229) (fun _ h9 => h9) rfl (by decide +kernel) rfl rfl (by rw [hl_34]; decide) dX15_init_49 (fun H locs hP hD hS => ?_)
  have hP : va_P (dC, dI) classes [(a, .inr (14, (fs33.set 5 (.ref q36)))), (q1, .inr (13, fs7))] H := hP
  have hD : va_D A [(a, .inr (14, (fs33.set 5 (.ref q36)))), (q1, .inr (13, fs7))] := hD
  obtain ⟨fs37, efs37⟩ : ∃ y : List Value, y = fs33.set 5 (.ref q36) := ⟨_, rfl⟩
  rw [← efs37] at hP hD
  have hl_38 : fs37.length = 55 := by rw [efs37, List.length_set]; exact hl_34
  have hf_39 : fs37[1]? = some (.ref q1) := by rw [efs37]; exact fs_set_ne hf_35 (by decide)
  refine lv_aload_n hx hb dX15_init_52 rfl (lv_at hl 0 rfl) ?_
  refine lv_sipush (v := 600) hx hb dX15_init_53 (by decide) ?_
  refine nf_newa (D := (dC, dI)) (atype := .int) (N' := 600) hx hb (hG _ m_16) hP hS (by decide) (by decide) (Nat.le_of_ble_eq_true rfl) (Nat.le_of_ble_eq_true rfl) (Nat.le_of_ble_eq_true rfl) dX15_init_56 (fun q40 H hP hS hz9 => ?_)
  refine W.widen (k := 19) (n := 885) (Nat.le_of_ble_eq_true rfl) (Nat.le_of_ble_eq_true rfl) ?_
  refine va_putF (D := (dC, dI)) (ci := 14) (v := .ref q40) (ty := .array .int) (C := RX15) (T := TX15) (N := 55) hx hb hG iX15 tyX15 tyX15_ok nmX15 hown hK hP hD hS 0 rfl rfl 7 (by decide) (hG _ m_230) (fun _ h9 => h9) rfl hin rfl (by decide +kernel) rfl rfl (by rw [hl_38]; decide) dX15_init_58 (fun H locs hP hD hS => ?_)
  have hP : va_P (dC, dI) classes [(a, .inr (14, (fs37.set 7 (.ref q40)))), (q1, .inr (13, fs7))] H := hP
  have hD : va_D A [(a, .inr (14, (fs37.set 7 (.ref q40)))), (q1, .inr (13, fs7))] := hD
  obtain ⟨fs41, efs41⟩ : ∃ y : List Value, y = fs37.set 7 (.ref q40) := ⟨_, rfl⟩
  rw [← efs41] at hP hD
  have hl_42 : fs41.length = 55 := by rw [efs41, List.length_set]; exact hl_38
  have hf_43 : fs41[1]? = some (.ref q1) := by rw [efs41]; exact fs_set_ne hf_39 (by decide)
  refine lv_aload_n hx hb dX15_init_61 rfl (lv_at hl 0 rfl) ?_
  refine va_new (D := (dC, dI)) (ci := 0) (fs := (List.range 3).map (fun k => defaultValue (tyJx4a65c k))) (C := RJx4a65c) (T := TJx4a65c) (N := 3) hx hb hG iJx4a65c tyJx4a65c tyJx4a65c_ok hown (hG _ m_224) (hG _ m_210) (hG _ m_211) hK hP hD hS hA rfl (fs_new 3 tyJx4a65c) (Nat.le_of_ble_eq_true rfl) (Nat.le_of_ble_eq_true rfl) dX15_init_62 (fun q44 H hP hD hS => ?_)
  have hP : va_P (dC, dI) classes [(a, .inr (14, fs41)), (q1, .inr (13, fs7)), (q44, .inr (0, ((List.range 3).map (fun k => defaultValue (tyJx4a65c k)))))] H := hP
  have hD : va_D A [(a, .inr (14, fs41)), (q1, .inr (13, fs7)), (q44, .inr (0, ((List.range 3).map (fun k => defaultValue (tyJx4a65c k)))))] := hD
  obtain ⟨fs45, efs45⟩ : ∃ y : List Value, y = (List.range 3).map (fun k => defaultValue (tyJx4a65c k)) := ⟨_, rfl⟩
  rw [← efs45] at hP hD
  have hl_46 : fs45.length = 3 := by rw [efs45, List.length_map, List.length_range]
  have hf_47 : fs45[2]? = some (.int 0) := by rw [efs45]; rfl
  refine W.widen (k := 20) (n := 888) (Nat.le_of_ble_eq_true rfl) (Nat.le_of_ble_eq_true rfl) ?_
  refine lv_dup hx hb dX15_init_65 rfl ?_
  have hPc := hP.sub (ws' := [(q44, .inr (0, fs45))]) [2] rfl
  have hDc := hD.sub (ws' := [(q44, .inr (0, fs45))]) [2] (by decide) rfl
  have hKc := hK.sub (tys' := []) [] rfl
  have hFc := va_free (wc := [(q44, .inr (0, fs45))]) hD hS hA [2] rfl
  refine va_callv (va_runI (As := []) (rest := [.ref q44, .ref a]) ⟨hx, hb, hml, hown, hG⟩ (c_ArrayList_init l dC dI z q44 fs45 H.size hl_46 hf_47) (cwI 0 hG (gI m_212) rfl rfl rfl (hG _ m_211) (hG _ m_225) (hG _ m_214) rfl (by decide +kernel) ⟨Nat.le_of_ble_eq_true rfl, Nat.le_of_ble_eq_true rfl⟩) ⟨pre_blind, fun U hU hW => ⟨rfl, pre_call hU hW hPc hKc hDc hN (zkeep hZ hS) hFc⟩⟩ rfl rfl hl.1 rfl (lv_room (Nat.le_of_ble_eq_true rfl)) dX15_init_66 ⟨Nat.le_of_ble_eq_true rfl, Nat.le_of_ble_eq_true rfl⟩) hS (fun q _ h => hFc q h) hFc (fun u t H locs ht hvm hw hB hz1 hk1 hS => ?_)
  obtain ⟨fs49, hP1, hK1, hD1, hy50, hy51⟩ := hB
  rw [ht] at hP1
  have hK1 := va_K.moved hvm.symm hK1
  obtain ⟨hP, hD⟩ := va_join (wr := [(a, .inr (14, fs41)), (q1, .inr (13, fs7))]) (w1 := [(q44, .inr (0, fs49))]) hP hD [2] [0, 1] rfl rfl (by decide) (by decide) hk1 hFc hP1 hD1
  have hK := (hK.sub (tys' := []) [] rfl).app hK1
  have hP : va_P (dC, dI) classes [(a, .inr (14, fs41)), (q1, .inr (13, fs7)), (q44, .inr (0, fs49))] H := hP
  have hD : va_D A [(a, .inr (14, fs41)), (q1, .inr (13, fs7)), (q44, .inr (0, fs49))] := hD
  have hK : va_K (dC, dI) classes [] s := hK
  refine va_putF (D := (dC, dI)) (ci := 14) (v := .ref q44) (ty := .object "java/util/ArrayList") (C := RX15) (T := TX15) (N := 55) hx hb hG iX15 tyX15 tyX15_ok nmX15 hown hK hP hD hS 0 rfl rfl 15 (by decide) (hG _ m_231) (fun _ h9 => h9) rfl hin rfl (by decide +kernel) rfl rfl (by rw [hl_42]; decide) dX15_init_69 (fun H locs hP hD hS => ?_)
  have hP : va_P (dC, dI) classes [(a, .inr (14, (fs41.set 15 (.ref q44)))), (q1, .inr (13, fs7)), (q44, .inr (0, fs49))] H := hP
  have hD : va_D A [(a, .inr (14, (fs41.set 15 (.ref q44)))), (q1, .inr (13, fs7)), (q44, .inr (0, fs49))] := hD
  obtain ⟨fs52, efs52⟩ : ∃ y : List Value, y = fs41.set 15 (.ref q44) := ⟨_, rfl⟩
  rw [← efs52] at hP hD
  have hl_53 : fs52.length = 55 := by rw [efs52, List.length_set]; exact hl_42
  have hf_54 : fs52[1]? = some (.ref q1) := by rw [efs52]; exact fs_set_ne hf_43 (by decide)
  have hP := hP.sub (ws' := [(a, .inr (14, fs52)), (q1, .inr (13, fs7))]) [0, 1] rfl
  have hD := hD.sub (ws' := [(a, .inr (14, fs52)), (q1, .inr (13, fs7))]) [0, 1] (by decide) rfl
  have hK := hK.sub (tys' := []) [] rfl
  refine lv_aload_n hx hb dX15_init_72 rfl (lv_at hl 0 rfl) ?_
  refine lv_bipush (v := 6) hx hb dX15_init_73 (by decide) ?_
  refine nf_newa (D := (dC, dI)) (atype := .int) (N' := 6) hx hb (hG _ m_16) hP hS (by decide) (by decide) (Nat.le_of_ble_eq_true rfl) (Nat.le_of_ble_eq_true rfl) (Nat.le_of_ble_eq_true rfl) dX15_init_75 (fun q55 H hP hS hz9 => ?_)
  refine W.widen (k := 21) (n := 894) (Nat.le_of_ble_eq_true rfl) (Nat.le_of_ble_eq_true rfl) ?_
  refine va_putF (D := (dC, dI)) (ci := 14) (v := .ref q55) (ty := .array .int) (C := RX15) (T := TX15) (N := 55) hx hb hG iX15 tyX15 tyX15_ok nmX15 hown hK hP hD hS 0 rfl rfl 18 (by decide) (hG _ m_232) (fun _ h9 => h9) rfl hin rfl (by decide +kernel) rfl rfl (by rw [hl_53]; decide) dX15_init_77 (fun H locs hP hD hS => ?_)
  have hP : va_P (dC, dI) classes [(a, .inr (14, (fs52.set 18 (.ref q55)))), (q1, .inr (13, fs7))] H := hP
  have hD : va_D A [(a, .inr (14, (fs52.set 18 (.ref q55)))), (q1, .inr (13, fs7))] := hD
  obtain ⟨fs56, efs56⟩ : ∃ y : List Value, y = fs52.set 18 (.ref q55) := ⟨_, rfl⟩
  rw [← efs56] at hP hD
  have hl_57 : fs56.length = 55 := by rw [efs56, List.length_set]; exact hl_53
  have hf_58 : fs56[1]? = some (.ref q1) := by rw [efs56]; exact fs_set_ne hf_54 (by decide)
  refine lv_aload_n hx hb dX15_init_80 rfl (lv_at hl 0 rfl) ?_
  refine lv_bipush (v := 6) hx hb dX15_init_81 (by decide) ?_
  refine nf_newa (D := (dC, dI)) (atype := .int) (N' := 6) hx hb (hG _ m_16) hP hS (by decide) (by decide) (Nat.le_of_ble_eq_true rfl) (Nat.le_of_ble_eq_true rfl) (Nat.le_of_ble_eq_true rfl) dX15_init_83 (fun q59 H hP hS hz9 => ?_)
  refine W.widen (k := 22) (n := 900) (Nat.le_of_ble_eq_true rfl) (Nat.le_of_ble_eq_true rfl) ?_
  refine va_putF (D := (dC, dI)) (ci := 14) (v := .ref q59) (ty := .array .int) (C := RX15) (T := TX15) (N := 55) hx hb hG iX15 tyX15 tyX15_ok nmX15 hown hK hP hD hS 0 rfl rfl 19 (by decide) (hG _ m_233) (fun _ h9 => h9) rfl hin rfl (by decide +kernel) rfl rfl (by rw [hl_57]; decide) dX15_init_85 (fun H locs hP hD hS => ?_)
  have hP : va_P (dC, dI) classes [(a, .inr (14, (fs56.set 19 (.ref q59)))), (q1, .inr (13, fs7))] H := hP
  have hD : va_D A [(a, .inr (14, (fs56.set 19 (.ref q59)))), (q1, .inr (13, fs7))] := hD
  obtain ⟨fs60, efs60⟩ : ∃ y : List Value, y = fs56.set 19 (.ref q59) := ⟨_, rfl⟩
  rw [← efs60] at hP hD
  have hl_61 : fs60.length = 55 := by rw [efs60, List.length_set]; exact hl_57
  have hf_62 : fs60[1]? = some (.ref q1) := by rw [efs60]; exact fs_set_ne hf_58 (by decide)
  refine lv_aload_n hx hb dX15_init_88 rfl (lv_at hl 0 rfl) ?_
  refine lv_iconst (v := 5) hx hb dX15_init_89 (by decide) ?_
  refine nf_anewA (D := (dC, dI)) (t := .int) (N' := 5) hx hb hown (hG _ m_234) (nw_over_2 hN) hP hS (by decide) (by decide) (Nat.le_of_ble_eq_true rfl) (Nat.le_of_ble_eq_true rfl) (Nat.le_of_ble_eq_true rfl) dX15_init_90 (fun q63 H hP hS hz9 => ?_)
  refine W.widen (k := 23) (n := 905) (Nat.le_of_ble_eq_true rfl) (Nat.le_of_ble_eq_true rfl) ?_
  refine va_putF (D := (dC, dI)) (ci := 14) (v := .ref q63) (ty := .array (.array .int)) (C := RX15) (T := TX15) (N := 55) hx hb hG iX15 tyX15 tyX15_ok nmX15 hown hK hP hD hS 0 rfl rfl 21 (by decide) (hG _ m_235) (fun _ h9 => h9) rfl hin rfl (by decide +kernel) rfl rfl (by rw [hl_61]; decide) dX15_init_93 (fun H locs hP hD hS => ?_)
  have hP : va_P (dC, dI) classes [(a, .inr (14, (fs60.set 21 (.ref q63)))), (q1, .inr (13, fs7))] H := hP
  have hD : va_D A [(a, .inr (14, (fs60.set 21 (.ref q63)))), (q1, .inr (13, fs7))] := hD
  obtain ⟨fs64, efs64⟩ : ∃ y : List Value, y = fs60.set 21 (.ref q63) := ⟨_, rfl⟩
  rw [← efs64] at hP hD
  have hl_65 : fs64.length = 55 := by rw [efs64, List.length_set]; exact hl_61
  have hf_66 : fs64[1]? = some (.ref q1) := by rw [efs64]; exact fs_set_ne hf_62 (by decide)
  refine lv_aload_n hx hb dX15_init_96 rfl (lv_at hl 0 rfl) ?_
  refine lv_iconst (v := 5) hx hb dX15_init_97 (by decide) ?_
  refine nf_anewA (D := (dC, dI)) (t := .int) (N' := 5) hx hb hown (hG _ m_234) (nw_over_2 hN) hP hS (by decide) (by decide) (Nat.le_of_ble_eq_true rfl) (Nat.le_of_ble_eq_true rfl) (Nat.le_of_ble_eq_true rfl) dX15_init_98 (fun q67 H hP hS hz9 => ?_)
  refine W.widen (k := 24) (n := 910) (Nat.le_of_ble_eq_true rfl) (Nat.le_of_ble_eq_true rfl) ?_
  refine va_putF (D := (dC, dI)) (ci := 14) (v := .ref q67) (ty := .array (.array .int)) (C := RX15) (T := TX15) (N := 55) hx hb hG iX15 tyX15 tyX15_ok nmX15 hown hK hP hD hS 0 rfl rfl 22 (by decide) (hG _ m_236) (fun _ h9 => h9) rfl hin rfl (by decide +kernel) rfl rfl (by rw [hl_65]; decide) dX15_init_101 (fun H locs hP hD hS => ?_)
  have hP : va_P (dC, dI) classes [(a, .inr (14, (fs64.set 22 (.ref q67)))), (q1, .inr (13, fs7))] H := hP
  have hD : va_D A [(a, .inr (14, (fs64.set 22 (.ref q67)))), (q1, .inr (13, fs7))] := hD
  obtain ⟨fs68, efs68⟩ : ∃ y : List Value, y = fs64.set 22 (.ref q67) := ⟨_, rfl⟩
  rw [← efs68] at hP hD
  have hl_69 : fs68.length = 55 := by rw [efs68, List.length_set]; exact hl_65
  have hf_70 : fs68[1]? = some (.ref q1) := by rw [efs68]; exact fs_set_ne hf_66 (by decide)
  refine lv_aload_n hx hb dX15_init_104 rfl (lv_at hl 0 rfl) ?_
  refine lv_iconst (v := 5) hx hb dX15_init_105 (by decide) ?_
  refine nf_newa (D := (dC, dI)) (atype := .int) (N' := 5) hx hb (hG _ m_16) hP hS (by decide) (by decide) (Nat.le_of_ble_eq_true rfl) (Nat.le_of_ble_eq_true rfl) (Nat.le_of_ble_eq_true rfl) dX15_init_106 (fun q71 H hP hS hz9 => ?_)
  refine W.widen (k := 25) (n := 915) (Nat.le_of_ble_eq_true rfl) (Nat.le_of_ble_eq_true rfl) ?_
  refine va_putF (D := (dC, dI)) (ci := 14) (v := .ref q71) (ty := .array .int) (C := RX15) (T := TX15) (N := 55) hx hb hG iX15 tyX15 tyX15_ok nmX15 hown hK hP hD hS 0 rfl rfl 23 (by decide) (hG _ m_237) (fun _ h9 => h9) rfl hin rfl (by decide +kernel) rfl rfl (by rw [hl_69]; decide) dX15_init_108 (fun H locs hP hD hS => ?_)
  have hP : va_P (dC, dI) classes [(a, .inr (14, (fs68.set 23 (.ref q71)))), (q1, .inr (13, fs7))] H := hP
  have hD : va_D A [(a, .inr (14, (fs68.set 23 (.ref q71)))), (q1, .inr (13, fs7))] := hD
  obtain ⟨fs72, efs72⟩ : ∃ y : List Value, y = fs68.set 23 (.ref q71) := ⟨_, rfl⟩
  rw [← efs72] at hP hD
  have hl_73 : fs72.length = 55 := by rw [efs72, List.length_set]; exact hl_69
  have hf_74 : fs72[1]? = some (.ref q1) := by rw [efs72]; exact fs_set_ne hf_70 (by decide)
  refine lv_aload_n hx hb dX15_init_111 rfl (lv_at hl 0 rfl) ?_
  refine lv_iconst (v := 5) hx hb dX15_init_112 (by decide) ?_
  refine nf_newa (D := (dC, dI)) (atype := .int) (N' := 5) hx hb (hG _ m_16) hP hS (by decide) (by decide) (Nat.le_of_ble_eq_true rfl) (Nat.le_of_ble_eq_true rfl) (Nat.le_of_ble_eq_true rfl) dX15_init_113 (fun q75 H hP hS hz9 => ?_)
  refine W.widen (k := 26) (n := 920) (Nat.le_of_ble_eq_true rfl) (Nat.le_of_ble_eq_true rfl) ?_
  refine va_putF (D := (dC, dI)) (ci := 14) (v := .ref q75) (ty := .array .int) (C := RX15) (T := TX15) (N := 55) hx hb hG iX15 tyX15 tyX15_ok nmX15 hown hK hP hD hS 0 rfl rfl 24 (by decide) (hG _ m_238) (fun _ h9 => h9) rfl hin rfl (by decide +kernel) rfl rfl (by rw [hl_73]; decide) dX15_init_115 (fun H locs hP hD hS => ?_)
  have hP : va_P (dC, dI) classes [(a, .inr (14, (fs72.set 24 (.ref q75)))), (q1, .inr (13, fs7))] H := hP
  have hD : va_D A [(a, .inr (14, (fs72.set 24 (.ref q75)))), (q1, .inr (13, fs7))] := hD
  obtain ⟨fs76, efs76⟩ : ∃ y : List Value, y = fs72.set 24 (.ref q75) := ⟨_, rfl⟩
  rw [← efs76] at hP hD
  have hl_77 : fs76.length = 55 := by rw [efs76, List.length_set]; exact hl_73
  have hf_78 : fs76[1]? = some (.ref q1) := by rw [efs76]; exact fs_set_ne hf_74 (by decide)
  refine lv_aload_n hx hb dX15_init_118 rfl (lv_at hl 0 rfl) ?_
  refine lv_bipush (v := 11) hx hb dX15_init_119 (by decide) ?_
  refine nf_anewA (D := (dC, dI)) (t := .int) (N' := 11) hx hb hown (hG _ m_234) (nw_over_2 hN) hP hS (by decide) (by decide) (Nat.le_of_ble_eq_true rfl) (Nat.le_of_ble_eq_true rfl) (Nat.le_of_ble_eq_true rfl) dX15_init_121 (fun q79 H hP hS hz9 => ?_)
  refine W.widen (k := 27) (n := 931) (Nat.le_of_ble_eq_true rfl) (Nat.le_of_ble_eq_true rfl) ?_
  refine va_putF (D := (dC, dI)) (ci := 14) (v := .ref q79) (ty := .array (.array .int)) (C := RX15) (T := TX15) (N := 55) hx hb hG iX15 tyX15 tyX15_ok nmX15 hown hK hP hD hS 0 rfl rfl 25 (by decide) (hG _ m_239) (fun _ h9 => h9) rfl hin rfl (by decide +kernel) rfl rfl (by rw [hl_77]; decide) dX15_init_124 (fun H locs hP hD hS => ?_)
  have hP : va_P (dC, dI) classes [(a, .inr (14, (fs76.set 25 (.ref q79)))), (q1, .inr (13, fs7))] H := hP
  have hD : va_D A [(a, .inr (14, (fs76.set 25 (.ref q79)))), (q1, .inr (13, fs7))] := hD
  obtain ⟨fs80, efs80⟩ : ∃ y : List Value, y = fs76.set 25 (.ref q79) := ⟨_, rfl⟩
  rw [← efs80] at hP hD
  have hl_81 : fs80.length = 55 := by rw [efs80, List.length_set]; exact hl_77
  have hf_82 : fs80[1]? = some (.ref q1) := by rw [efs80]; exact fs_set_ne hf_78 (by decide)
  refine lv_aload_n hx hb dX15_init_127 rfl (lv_at hl 0 rfl) ?_
  refine lv_bipush (v := 11) hx hb dX15_init_128 (by decide) ?_
  refine nf_anewA (D := (dC, dI)) (t := .int) (N' := 11) hx hb hown (hG _ m_234) (nw_over_2 hN) hP hS (by decide) (by decide) (Nat.le_of_ble_eq_true rfl) (Nat.le_of_ble_eq_true rfl) (Nat.le_of_ble_eq_true rfl) dX15_init_130 (fun q83 H hP hS hz9 => ?_)
  refine W.widen (k := 28) (n := 942) (Nat.le_of_ble_eq_true rfl) (Nat.le_of_ble_eq_true rfl) ?_
  refine va_putF (D := (dC, dI)) (ci := 14) (v := .ref q83) (ty := .array (.array .int)) (C := RX15) (T := TX15) (N := 55) hx hb hG iX15 tyX15 tyX15_ok nmX15 hown hK hP hD hS 0 rfl rfl 26 (by decide) (hG _ m_240) (fun _ h9 => h9) rfl hin rfl (by decide +kernel) rfl rfl (by rw [hl_81]; decide) dX15_init_133 (fun H locs hP hD hS => ?_)
  have hP : va_P (dC, dI) classes [(a, .inr (14, (fs80.set 26 (.ref q83)))), (q1, .inr (13, fs7))] H := hP
  have hD : va_D A [(a, .inr (14, (fs80.set 26 (.ref q83)))), (q1, .inr (13, fs7))] := hD
  obtain ⟨fs84, efs84⟩ : ∃ y : List Value, y = fs80.set 26 (.ref q83) := ⟨_, rfl⟩
  rw [← efs84] at hP hD
  have hl_85 : fs84.length = 55 := by rw [efs84, List.length_set]; exact hl_81
  have hf_86 : fs84[1]? = some (.ref q1) := by rw [efs84]; exact fs_set_ne hf_82 (by decide)
  refine lv_aload_n hx hb dX15_init_136 rfl (lv_at hl 0 rfl) ?_
  refine lv_bipush (v := 11) hx hb dX15_init_137 (by decide) ?_
  refine nf_newa (D := (dC, dI)) (atype := .int) (N' := 11) hx hb (hG _ m_16) hP hS (by decide) (by decide) (Nat.le_of_ble_eq_true rfl) (Nat.le_of_ble_eq_true rfl) (Nat.le_of_ble_eq_true rfl) dX15_init_139 (fun q87 H hP hS hz9 => ?_)
  refine W.widen (k := 29) (n := 953) (Nat.le_of_ble_eq_true rfl) (Nat.le_of_ble_eq_true rfl) ?_
  refine va_putF (D := (dC, dI)) (ci := 14) (v := .ref q87) (ty := .array .int) (C := RX15) (T := TX15) (N := 55) hx hb hG iX15 tyX15 tyX15_ok nmX15 hown hK hP hD hS 0 rfl rfl 27 (by decide) (hG _ m_241) (fun _ h9 => h9) rfl hin rfl (by decide +kernel) rfl rfl (by rw [hl_85]; decide) dX15_init_141 (fun H locs hP hD hS => ?_)
  have hP : va_P (dC, dI) classes [(a, .inr (14, (fs84.set 27 (.ref q87)))), (q1, .inr (13, fs7))] H := hP
  have hD : va_D A [(a, .inr (14, (fs84.set 27 (.ref q87)))), (q1, .inr (13, fs7))] := hD
  obtain ⟨fs88, efs88⟩ : ∃ y : List Value, y = fs84.set 27 (.ref q87) := ⟨_, rfl⟩
  rw [← efs88] at hP hD
  have hl_89 : fs88.length = 55 := by rw [efs88, List.length_set]; exact hl_85
  have hf_90 : fs88[1]? = some (.ref q1) := by rw [efs88]; exact fs_set_ne hf_86 (by decide)
  refine lv_aload_n hx hb dX15_init_144 rfl (lv_at hl 0 rfl) ?_
  refine lv_bipush (v := 30) hx hb dX15_init_145 (by decide) ?_
  refine nf_newa (D := (dC, dI)) (atype := .int) (N' := 30) hx hb (hG _ m_16) hP hS (by decide) (by decide) (Nat.le_of_ble_eq_true rfl) (Nat.le_of_ble_eq_true rfl) (Nat.le_of_ble_eq_true rfl) dX15_init_147 (fun q91 H hP hS hz9 => ?_)
  refine W.widen (k := 30) (n := 983) (Nat.le_of_ble_eq_true rfl) (Nat.le_of_ble_eq_true rfl) ?_
  refine va_putF (D := (dC, dI)) (ci := 14) (v := .ref q91) (ty := .array .int) (C := RX15) (T := TX15) (N := 55) hx hb hG iX15 tyX15 tyX15_ok nmX15 hown hK hP hD hS 0 rfl rfl 28 (by decide) (hG _ m_242) (fun _ h9 => h9) rfl hin rfl (by decide +kernel) rfl rfl (by rw [hl_89]; decide) dX15_init_149 (fun H locs hP hD hS => ?_)
  have hP : va_P (dC, dI) classes [(a, .inr (14, (fs88.set 28 (.ref q91)))), (q1, .inr (13, fs7))] H := hP
  have hD : va_D A [(a, .inr (14, (fs88.set 28 (.ref q91)))), (q1, .inr (13, fs7))] := hD
  obtain ⟨fs92, efs92⟩ : ∃ y : List Value, y = fs88.set 28 (.ref q91) := ⟨_, rfl⟩
  rw [← efs92] at hP hD
  have hl_93 : fs92.length = 55 := by rw [efs92, List.length_set]; exact hl_89
  have hf_94 : fs92[1]? = some (.ref q1) := by rw [efs92]; exact fs_set_ne hf_90 (by decide)
  refine lv_aload_n hx hb dX15_init_152 rfl (lv_at hl 0 rfl) ?_
  refine lv_bipush (v := 30) hx hb dX15_init_153 (by decide) ?_
  refine nf_newa (D := (dC, dI)) (atype := .int) (N' := 30) hx hb (hG _ m_16) hP hS (by decide) (by decide) (Nat.le_of_ble_eq_true rfl) (Nat.le_of_ble_eq_true rfl) (Nat.le_of_ble_eq_true rfl) dX15_init_155 (fun q95 H hP hS hz9 => ?_)
  refine W.widen (k := 31) (n := 1013) (Nat.le_of_ble_eq_true rfl) (Nat.le_of_ble_eq_true rfl) ?_
  refine va_putF (D := (dC, dI)) (ci := 14) (v := .ref q95) (ty := .array .int) (C := RX15) (T := TX15) (N := 55) hx hb hG iX15 tyX15 tyX15_ok nmX15 hown hK hP hD hS 0 rfl rfl 29 (by decide) (hG _ m_243) (fun _ h9 => h9) rfl hin rfl (by decide +kernel) rfl rfl (by rw [hl_93]; decide) dX15_init_157 (fun H locs hP hD hS => ?_)
  have hP : va_P (dC, dI) classes [(a, .inr (14, (fs92.set 29 (.ref q95)))), (q1, .inr (13, fs7))] H := hP
  have hD : va_D A [(a, .inr (14, (fs92.set 29 (.ref q95)))), (q1, .inr (13, fs7))] := hD
  obtain ⟨fs96, efs96⟩ : ∃ y : List Value, y = fs92.set 29 (.ref q95) := ⟨_, rfl⟩
  rw [← efs96] at hP hD
  have hl_97 : fs96.length = 55 := by rw [efs96, List.length_set]; exact hl_93
  have hf_98 : fs96[1]? = some (.ref q1) := by rw [efs96]; exact fs_set_ne hf_94 (by decide)
  refine lv_aload_n hx hb dX15_init_160 rfl (lv_at hl 0 rfl) ?_
  refine lv_bipush (v := 30) hx hb dX15_init_161 (by decide) ?_
  refine nf_newa (D := (dC, dI)) (atype := .int) (N' := 30) hx hb (hG _ m_16) hP hS (by decide) (by decide) (Nat.le_of_ble_eq_true rfl) (Nat.le_of_ble_eq_true rfl) (Nat.le_of_ble_eq_true rfl) dX15_init_163 (fun q99 H hP hS hz9 => ?_)
  refine W.widen (k := 32) (n := 1043) (Nat.le_of_ble_eq_true rfl) (Nat.le_of_ble_eq_true rfl) ?_
  refine va_putF (D := (dC, dI)) (ci := 14) (v := .ref q99) (ty := .array .int) (C := RX15) (T := TX15) (N := 55) hx hb hG iX15 tyX15 tyX15_ok nmX15 hown hK hP hD hS 0 rfl rfl 30 (by decide) (hG _ m_244) (fun _ h9 => h9) rfl hin rfl (by decide +kernel) rfl rfl (by rw [hl_97]; decide) dX15_init_165 (fun H locs hP hD hS => ?_)
  have hP : va_P (dC, dI) classes [(a, .inr (14, (fs96.set 30 (.ref q99)))), (q1, .inr (13, fs7))] H := hP
  have hD : va_D A [(a, .inr (14, (fs96.set 30 (.ref q99)))), (q1, .inr (13, fs7))] := hD
  obtain ⟨fs100, efs100⟩ : ∃ y : List Value, y = fs96.set 30 (.ref q99) := ⟨_, rfl⟩
  rw [← efs100] at hP hD
  have hl_101 : fs100.length = 55 := by rw [efs100, List.length_set]; exact hl_97
  have hf_102 : fs100[1]? = some (.ref q1) := by rw [efs100]; exact fs_set_ne hf_98 (by decide)
  refine lv_aload_n hx hb dX15_init_168 rfl (lv_at hl 0 rfl) ?_
  refine lv_iconst (v := 5) hx hb dX15_init_169 (by decide) ?_
  refine nf_newa (D := (dC, dI)) (atype := .boolean) (N' := 5) hx hb (hG _ m_114) hP hS (by decide) (by decide) (Nat.le_of_ble_eq_true rfl) (Nat.le_of_ble_eq_true rfl) (Nat.le_of_ble_eq_true rfl) dX15_init_170 (fun q103 H hP hS hz9 => ?_)
  refine W.widen (k := 33) (n := 1048) (Nat.le_of_ble_eq_true rfl) (Nat.le_of_ble_eq_true rfl) ?_
  refine va_putF (D := (dC, dI)) (ci := 14) (v := .ref q103) (ty := .array .boolean) (C := RX15) (T := TX15) (N := 55) hx hb hG iX15 tyX15 tyX15_ok nmX15 hown hK hP hD hS 0 rfl rfl 31 (by decide) (hG _ m_245) (fun _ h9 => h9) rfl hin rfl (by decide +kernel) rfl rfl (by rw [hl_101]; decide) dX15_init_172 (fun H locs hP hD hS => ?_)
  have hP : va_P (dC, dI) classes [(a, .inr (14, (fs100.set 31 (.ref q103)))), (q1, .inr (13, fs7))] H := hP
  have hD : va_D A [(a, .inr (14, (fs100.set 31 (.ref q103)))), (q1, .inr (13, fs7))] := hD
  obtain ⟨fs104, efs104⟩ : ∃ y : List Value, y = fs100.set 31 (.ref q103) := ⟨_, rfl⟩
  rw [← efs104] at hP hD
  have hl_105 : fs104.length = 55 := by rw [efs104, List.length_set]; exact hl_101
  have hf_106 : fs104[1]? = some (.ref q1) := by rw [efs104]; exact fs_set_ne hf_102 (by decide)
  refine lv_aload_n hx hb dX15_init_175 rfl (lv_at hl 0 rfl) ?_
  refine lv_bipush (v := 9) hx hb dX15_init_176 (by decide) ?_
  refine nf_newa (D := (dC, dI)) (atype := .int) (N' := 9) hx hb (hG _ m_16) hP hS (by decide) (by decide) (Nat.le_of_ble_eq_true rfl) (Nat.le_of_ble_eq_true rfl) (Nat.le_of_ble_eq_true rfl) dX15_init_178 (fun q107 H hP hS hz9 => ?_)
  refine W.widen (k := 34) (n := 1057) (Nat.le_of_ble_eq_true rfl) (Nat.le_of_ble_eq_true rfl) ?_
  refine va_putF (D := (dC, dI)) (ci := 14) (v := .ref q107) (ty := .array .int) (C := RX15) (T := TX15) (N := 55) hx hb hG iX15 tyX15 tyX15_ok nmX15 hown hK hP hD hS 0 rfl rfl 40 (by decide) (hG _ m_246) (fun _ h9 => h9) rfl hin rfl (by decide +kernel) rfl rfl (by rw [hl_105]; decide) dX15_init_180 (fun H locs hP hD hS => ?_)
  have hP : va_P (dC, dI) classes [(a, .inr (14, (fs104.set 40 (.ref q107)))), (q1, .inr (13, fs7))] H := hP
  have hD : va_D A [(a, .inr (14, (fs104.set 40 (.ref q107)))), (q1, .inr (13, fs7))] := hD
  obtain ⟨fs108, efs108⟩ : ∃ y : List Value, y = fs104.set 40 (.ref q107) := ⟨_, rfl⟩
  rw [← efs108] at hP hD
  have hl_109 : fs108.length = 55 := by rw [efs108, List.length_set]; exact hl_105
  have hf_110 : fs108[1]? = some (.ref q1) := by rw [efs108]; exact fs_set_ne hf_106 (by decide)
  refine lv_aload_n hx hb dX15_init_183 rfl (lv_at hl 0 rfl) ?_
  refine lv_bipush (v := 9) hx hb dX15_init_184 (by decide) ?_
  refine nf_newa (D := (dC, dI)) (atype := .int) (N' := 9) hx hb (hG _ m_16) hP hS (by decide) (by decide) (Nat.le_of_ble_eq_true rfl) (Nat.le_of_ble_eq_true rfl) (Nat.le_of_ble_eq_true rfl) dX15_init_186 (fun q111 H hP hS hz9 => ?_)
  refine W.widen (k := 35) (n := 1066) (Nat.le_of_ble_eq_true rfl) (Nat.le_of_ble_eq_true rfl) ?_
  refine va_putF (D := (dC, dI)) (ci := 14) (v := .ref q111) (ty := .array .int) (C := RX15) (T := TX15) (N := 55) hx hb hG iX15 tyX15 tyX15_ok nmX15 hown hK hP hD hS 0 rfl rfl 41 (by decide) (hG _ m_247) (fun _ h9 => h9) rfl hin rfl (by decide +kernel) rfl rfl (by rw [hl_109]; decide) dX15_init_188 (fun H locs hP hD hS => ?_)
  have hP : va_P (dC, dI) classes [(a, .inr (14, (fs108.set 41 (.ref q111)))), (q1, .inr (13, fs7))] H := hP
  have hD : va_D A [(a, .inr (14, (fs108.set 41 (.ref q111)))), (q1, .inr (13, fs7))] := hD
  obtain ⟨fs112, efs112⟩ : ∃ y : List Value, y = fs108.set 41 (.ref q111) := ⟨_, rfl⟩
  rw [← efs112] at hP hD
  have hl_113 : fs112.length = 55 := by rw [efs112, List.length_set]; exact hl_109
  have hf_114 : fs112[1]? = some (.ref q1) := by rw [efs112]; exact fs_set_ne hf_110 (by decide)
  refine lv_aload_n hx hb dX15_init_191 rfl (lv_at hl 0 rfl) ?_
  refine lv_bipush (v := 6) hx hb dX15_init_192 (by decide) ?_
  refine nf_newa (D := (dC, dI)) (atype := .int) (N' := 6) hx hb (hG _ m_16) hP hS (by decide) (by decide) (Nat.le_of_ble_eq_true rfl) (Nat.le_of_ble_eq_true rfl) (Nat.le_of_ble_eq_true rfl) dX15_init_194 (fun q115 H hP hS hz9 => ?_)
  refine W.widen (k := 36) (n := 1072) (Nat.le_of_ble_eq_true rfl) (Nat.le_of_ble_eq_true rfl) ?_
  refine va_putF (D := (dC, dI)) (ci := 14) (v := .ref q115) (ty := .array .int) (C := RX15) (T := TX15) (N := 55) hx hb hG iX15 tyX15 tyX15_ok nmX15 hown hK hP hD hS 0 rfl rfl 52 (by decide) (hG _ m_248) (fun _ h9 => h9) rfl hin rfl (by decide +kernel) rfl rfl (by rw [hl_113]; decide) dX15_init_196 (fun H locs hP hD hS => ?_)
  have hP : va_P (dC, dI) classes [(a, .inr (14, (fs112.set 52 (.ref q115)))), (q1, .inr (13, fs7))] H := hP
  have hD : va_D A [(a, .inr (14, (fs112.set 52 (.ref q115)))), (q1, .inr (13, fs7))] := hD
  obtain ⟨fs116, efs116⟩ : ∃ y : List Value, y = fs112.set 52 (.ref q115) := ⟨_, rfl⟩
  rw [← efs116] at hP hD
  have hl_117 : fs116.length = 55 := by rw [efs116, List.length_set]; exact hl_113
  have hf_118 : fs116[1]? = some (.ref q1) := by rw [efs116]; exact fs_set_ne hf_114 (by decide)
  refine lv_aload_n hx hb dX15_init_199 rfl (lv_at hl 0 rfl) ?_
  refine lv_bipush (v := 64) hx hb dX15_init_200 (by decide) ?_
  refine nf_newa (D := (dC, dI)) (atype := .boolean) (N' := 64) hx hb (hG _ m_114) hP hS (by decide) (by decide) (Nat.le_of_ble_eq_true rfl) (Nat.le_of_ble_eq_true rfl) (Nat.le_of_ble_eq_true rfl) dX15_init_202 (fun q119 H hP hS hz9 => ?_)
  refine W.widen (k := 37) (n := 1136) (Nat.le_of_ble_eq_true rfl) (Nat.le_of_ble_eq_true rfl) ?_
  refine va_putF (D := (dC, dI)) (ci := 14) (v := .ref q119) (ty := .array .boolean) (C := RX15) (T := TX15) (N := 55) hx hb hG iX15 tyX15 tyX15_ok nmX15 hown hK hP hD hS 0 rfl rfl 53 (by decide) (hG _ m_249) (fun _ h9 => h9) rfl hin rfl (by decide +kernel) rfl rfl (by rw [hl_117]; decide) dX15_init_204 (fun H locs hP hD hS => ?_)
  have hP : va_P (dC, dI) classes [(a, .inr (14, (fs116.set 53 (.ref q119)))), (q1, .inr (13, fs7))] H := hP
  have hD : va_D A [(a, .inr (14, (fs116.set 53 (.ref q119)))), (q1, .inr (13, fs7))] := hD
  obtain ⟨fs120, efs120⟩ : ∃ y : List Value, y = fs116.set 53 (.ref q119) := ⟨_, rfl⟩
  rw [← efs120] at hP hD
  have hl_121 : fs120.length = 55 := by rw [efs120, List.length_set]; exact hl_117
  have hf_122 : fs120[1]? = some (.ref q1) := by rw [efs120]; exact fs_set_ne hf_118 (by decide)
  refine lv_aload_n hx hb dX15_init_207 rfl (lv_at hl 0 rfl) ?_
  refine lv_bipush (v := 36) hx hb dX15_init_208 (by decide) ?_
  refine nf_newa (D := (dC, dI)) (atype := .boolean) (N' := 36) hx hb (hG _ m_114) hP hS (by decide) (by decide) (Nat.le_of_ble_eq_true rfl) (Nat.le_of_ble_eq_true rfl) (Nat.le_of_ble_eq_true rfl) dX15_init_210 (fun q123 H hP hS hz9 => ?_)
  refine W.widen (k := 38) (n := 1172) (Nat.le_of_ble_eq_true rfl) (Nat.le_of_ble_eq_true rfl) ?_
  refine va_putF (D := (dC, dI)) (ci := 14) (v := .ref q123) (ty := .array .boolean) (C := RX15) (T := TX15) (N := 55) hx hb hG iX15 tyX15 tyX15_ok nmX15 hown hK hP hD hS 0 rfl rfl 54 (by decide) (hG _ m_250) (fun _ h9 => h9) rfl hin rfl (by decide +kernel) rfl rfl (by rw [hl_121]; decide) dX15_init_212 (fun H locs hP hD hS => ?_)
  have hP : va_P (dC, dI) classes [(a, .inr (14, (fs120.set 54 (.ref q123)))), (q1, .inr (13, fs7))] H := hP
  have hD : va_D A [(a, .inr (14, (fs120.set 54 (.ref q123)))), (q1, .inr (13, fs7))] := hD
  obtain ⟨fs124, efs124⟩ : ∃ y : List Value, y = fs120.set 54 (.ref q123) := ⟨_, rfl⟩
  rw [← efs124] at hP hD
  have hl_125 : fs124.length = 55 := by rw [efs124, List.length_set]; exact hl_121
  have hf_126 : fs124[1]? = some (.ref q1) := by rw [efs124]; exact fs_set_ne hf_122 (by decide)
  have hP9 := hP.sub (ws' := [(a, .inr (14, fs124)), (q1, .inr (13, fs7))]) [0, 1] rfl
  have hD9 := hD.sub (ws' := [(a, .inr (14, fs124)), (q1, .inr (13, fs7))]) [0, 1] (by decide) rfl
  have hK9 := hK.sub (tys' := []) [] rfl
  exact W.vret hx hb hr (fun t ht hW => ⟨⟨(), rfl, trivial, fs124, q1, fs7, by rw [ht]; exact hP9, va_K.moved hW.alike hK9, hD9, hl_125, hf_126, hy8, hy9, hy10⟩, hS.F ht⟩) hS.2.2 dX15_init_215

set_option maxHeartbeats 4000000 in
set_option maxRecDepth 100000 in
theorem c_isWithin_004 (l : Launch) (dC : Nat → ClassId) (dI : Nat → Nat → Nat) (z : Nat) (sz : Nat) : Met l yX11_isWithin (Cond.code yX11_isWithin cX11_isWithin 3 (some .boolean) :: G) ({ frames := 1, cells := 0, slots := 0, locals := 12 }) (va_Pc [.int 0, .int 0, .int 4] (pre_ dC dI [] [] sz z)) (va_Qi (fun (r : Int32) (_ : Unit) => r = 1) (fun _ t => va_P (dC, dI) classes [] t.heap ∧ va_K (dC, dI) classes [] t ∧ va_D (va_A [] sz) []) (va_A [] sz)) 0 0 (va_A [] sz) := by
  refine Met.ofW (cc := cX11_isWithin) (maxL := 3) (ret := (some .boolean)) (by decide) rfl ?_
  intro p e s m args below meth c s₁ B hml hv
  obtain ⟨rfl, hv⟩ := hv
  obtain ⟨hsz, hP, hK, hD0, hN, hZ⟩ := hv
  have hx := B.exec
  have hb := B.bytes
  have hr := B.returns
  have hG : ∀ w ∈ G, w.before _ s = true := fun w h => atoms_spec (ws := Cond.code yX11_isWithin cX11_isWithin 3 (some .boolean) :: G) B.pre w (List.mem_cons_of_mem _ h)
  have hown : s.vm.findClass "Seattable" = some m.cls := findClass_of_methodNamed B.named
  have hlocks := B.notSynchronized
  subst hsz
  have hD := hD0.self (sz := s.heap.size)
  generalize hAe : va_A [] s.heap.size = A at hD hZ ⊢
  have hA : ∀ q : Nat, s.heap.size ≤ q → A q := fun q h => by rw [← hAe]; exact Or.inr h
  have hS : va_S A s.heap s.heap [] := va_S.rf
  have hP : va_P (dC, dI) classes [] s.heap := hP
  have hl := lv_entry ([.int 0, .int 0, .int 4]) (n := 3) (Nat.le_of_ble_eq_true rfl)
  rw [lg_entry_eq]
  generalize (lg_sl ([.int 0, .int 0, .int 4]) ++ List.replicate (3 - (lg_sl ([.int 0, .int 0, .int 4])).length) Slot.unset).toArray = ls at hl ⊢
  have hl : lv_has ls 3 [(0, .int 0), (1, .int 0), (2, .int 4)] := hl
  refine lv_iload_n hx hb dX11_isWithin_0 rfl (lv_at hl 0 rfl) ?_
  refine lv_iload_n hx hb dX11_isWithin_1 rfl (lv_at hl 1 rfl) ?_
  refine lv_icmp_lt (tgt := 14) hx hb dX11_isWithin_2 (by decide) (fun c9 => absurd c9 (by decide)) (fun _ => ?_)
  refine lv_iload_n hx hb dX11_isWithin_5 rfl (lv_at hl 0 rfl) ?_
  refine lv_iload_n hx hb dX11_isWithin_6 rfl (lv_at hl 2 rfl) ?_
  refine lv_icmp_gt (tgt := 14) hx hb dX11_isWithin_7 (by decide) (fun c9 => absurd c9 (by decide)) (fun _ => ?_)
  refine lv_iconst (v := 1) hx hb dX11_isWithin_10 (by decide) ?_
  refine lv_goto (tgt := 15) hx hb dX11_isWithin_11 (by decide) ?_
  have hP9 := hP.sub (ws' := []) [] rfl
  have hD9 := hD.sub (ws' := []) [] (by decide) rfl
  have hK9 := hK.sub (tys' := []) [] rfl
  exact W.zret (v := 1) (ty := .boolean) hx hb hr (by decide) (fun t ht hW => ⟨⟨1, (), rfl, rfl, by rw [ht]; exact hP9, va_K.moved hW.alike hK9, hD9⟩, hS.F ht⟩) hS.2.2 dX11_isWithin_15

set_option maxHeartbeats 4000000 in
set_option maxRecDepth 100000 in
theorem c_isWithin_11400 (l : Launch) (dC : Nat → ClassId) (dI : Nat → Nat → Nat) (z : Nat) (sz : Nat) : Met l yX11_isWithin (Cond.code yX11_isWithin cX11_isWithin 3 (some .boolean) :: G) ({ frames := 1, cells := 0, slots := 0, locals := 12 }) (va_Pc [.int 1, .int 1, .int 400] (pre_ dC dI [] [] sz z)) (va_Qi (fun (r : Int32) (_ : Unit) => r = 1) (fun _ t => va_P (dC, dI) classes [] t.heap ∧ va_K (dC, dI) classes [] t ∧ va_D (va_A [] sz) []) (va_A [] sz)) 0 0 (va_A [] sz) := by
  refine Met.ofW (cc := cX11_isWithin) (maxL := 3) (ret := (some .boolean)) (by decide) rfl ?_
  intro p e s m args below meth c s₁ B hml hv
  obtain ⟨rfl, hv⟩ := hv
  obtain ⟨hsz, hP, hK, hD0, hN, hZ⟩ := hv
  have hx := B.exec
  have hb := B.bytes
  have hr := B.returns
  have hG : ∀ w ∈ G, w.before _ s = true := fun w h => atoms_spec (ws := Cond.code yX11_isWithin cX11_isWithin 3 (some .boolean) :: G) B.pre w (List.mem_cons_of_mem _ h)
  have hown : s.vm.findClass "Seattable" = some m.cls := findClass_of_methodNamed B.named
  have hlocks := B.notSynchronized
  subst hsz
  have hD := hD0.self (sz := s.heap.size)
  generalize hAe : va_A [] s.heap.size = A at hD hZ ⊢
  have hA : ∀ q : Nat, s.heap.size ≤ q → A q := fun q h => by rw [← hAe]; exact Or.inr h
  have hS : va_S A s.heap s.heap [] := va_S.rf
  have hP : va_P (dC, dI) classes [] s.heap := hP
  have hl := lv_entry ([.int 1, .int 1, .int 400]) (n := 3) (Nat.le_of_ble_eq_true rfl)
  rw [lg_entry_eq]
  generalize (lg_sl ([.int 1, .int 1, .int 400]) ++ List.replicate (3 - (lg_sl ([.int 1, .int 1, .int 400])).length) Slot.unset).toArray = ls at hl ⊢
  have hl : lv_has ls 3 [(0, .int 1), (1, .int 1), (2, .int 400)] := hl
  refine lv_iload_n hx hb dX11_isWithin_0 rfl (lv_at hl 0 rfl) ?_
  refine lv_iload_n hx hb dX11_isWithin_1 rfl (lv_at hl 1 rfl) ?_
  refine lv_icmp_lt (tgt := 14) hx hb dX11_isWithin_2 (by decide) (fun c9 => absurd c9 (by decide)) (fun _ => ?_)
  refine lv_iload_n hx hb dX11_isWithin_5 rfl (lv_at hl 0 rfl) ?_
  refine lv_iload_n hx hb dX11_isWithin_6 rfl (lv_at hl 2 rfl) ?_
  refine lv_icmp_gt (tgt := 14) hx hb dX11_isWithin_7 (by decide) (fun c9 => absurd c9 (by decide)) (fun _ => ?_)
  refine lv_iconst (v := 1) hx hb dX11_isWithin_10 (by decide) ?_
  refine lv_goto (tgt := 15) hx hb dX11_isWithin_11 (by decide) ?_
  have hP9 := hP.sub (ws' := []) [] rfl
  have hD9 := hD.sub (ws' := []) [] (by decide) rfl
  have hK9 := hK.sub (tys' := []) [] rfl
  exact W.zret (v := 1) (ty := .boolean) hx hb hr (by decide) (fun t ht hW => ⟨⟨1, (), rfl, rfl, by rw [ht]; exact hP9, va_K.moved hW.alike hK9, hD9⟩, hS.F ht⟩) hS.2.2 dX11_isWithin_15

set_option maxHeartbeats 4000000 in
set_option maxRecDepth 100000 in
theorem c_House_lands (l : Launch) (dC : Nat → ClassId) (dI : Nat → Nat → Nat) (z : Nat) (h : Nat) (fh : List Value) (hd : Nat) (cH : ClassId) (f : Nat → Int32) (sz : Nat) (hl_fh : fh.length = 19) (hf_fh_0 : fh[0]? = some (.ref hd)) (hv_0 : f 0 = 0) (hv_1 : f 1 = 0) : Met l yX5_lands (Cond.code yX5_lands cX5_lands 1 (some .int) :: G) ({ frames := 1, cells := 0, slots := 0, locals := 12 }) (va_Pc [.ref h] (pre_ dC dI [(h, .inr (2, fh)), (hd, .inl (cH, 12, .inl f))] [(cH, .int)] sz z)) (va_Qi (fun (r : Int32) (_ : Unit) => r = 0) (fun _ t => va_P (dC, dI) classes [(h, .inr (2, fh)), (hd, .inl (cH, 12, .inl f))] t.heap ∧ va_K (dC, dI) classes [(cH, .int)] t ∧ va_D (va_A [(h, .inr (2, fh)), (hd, .inl (cH, 12, .inl f))] sz) [(h, .inr (2, fh)), (hd, .inl (cH, 12, .inl f))]) (va_A [(h, .inr (2, fh)), (hd, .inl (cH, 12, .inl f))] sz)) 0 0 (va_A [(h, .inr (2, fh)), (hd, .inl (cH, 12, .inl f))] sz) := by
  refine Met.ofW (cc := cX5_lands) (maxL := 1) (ret := (some .int)) (by decide) rfl ?_
  intro p e s m args below meth c s₁ B hml hv
  obtain ⟨rfl, hv⟩ := hv
  obtain ⟨hsz, hP, hK, hD0, hN, hZ⟩ := hv
  have hx := B.exec
  have hb := B.bytes
  have hr := B.returns
  have hG : ∀ w ∈ G, w.before _ s = true := fun w h => atoms_spec (ws := Cond.code yX5_lands cX5_lands 1 (some .int) :: G) B.pre w (List.mem_cons_of_mem _ h)
  have hown : s.vm.findClass "Seattable$House" = some m.cls := findClass_of_methodNamed B.named
  have hlocks := B.notSynchronized
  subst hsz
  have hD := hD0.self (sz := s.heap.size)
  generalize hAe : va_A [(h, .inr (2, fh)), (hd, .inl (cH, 12, .inl f))] s.heap.size = A at hD hZ ⊢
  have hA : ∀ q : Nat, s.heap.size ≤ q → A q := fun q h => by rw [← hAe]; exact Or.inr h
  have hS : va_S A s.heap s.heap [] := va_S.rf
  have hP : va_P (dC, dI) classes [(h, .inr (2, fh)), (hd, .inl (cH, 12, .inl f))] s.heap := hP
  have hl := lv_entry ([.ref h]) (n := 1) (Nat.le_of_ble_eq_true rfl)
  rw [lg_entry_eq]
  generalize (lg_sl ([.ref h]) ++ List.replicate (1 - (lg_sl ([.ref h])).length) Slot.unset).toArray = ls at hl ⊢
  have hl : lv_has ls 1 [(0, .ref h)] := hl
  refine lv_aload_n hx hb dX5_lands_0 rfl (lv_at hl 0 rfl) ?_
  refine va_get (D := (dC, dI)) (ci := 2) (v := .ref hd) (C := RX5) (T := TX5) (N := 19) hx hb hG iX5 hown hK hP 0 rfl rfl 0 (by decide) (hG _ m_21) (fun _ h9 => h9) hf_fh_0 dX5_lands_1 ?_
  refine lv_iconst (v := 1) hx hb dX5_lands_4 (by decide) ?_
  refine va_iald (D := (dC, dI)) hx hb hK hP 1 0 rfl rfl (by unfold vp_in; decide) dX5_lands_5 ?_
  refine lv_topi (fun x1 ex1 => ?_)
  have ex1 : x1 = 0 := by rw [ex1]; rw [show (1 : Int32).toNatClampNeg = 1 from by decide]; exact hv_1
  subst ex1
  have hP9 := hP.sub (ws' := [(h, .inr (2, fh)), (hd, .inl (cH, 12, .inl f))]) [0, 1] rfl
  have hD9 := hD.sub (ws' := [(h, .inr (2, fh)), (hd, .inl (cH, 12, .inl f))]) [0, 1] (by decide) rfl
  have hK9 := hK.sub (tys' := [(cH, .int)]) [0] rfl
  exact W.iret (v := 0) hx hb hr (fun t ht hW => ⟨⟨0, (), rfl, rfl, by rw [ht]; exact hP9, va_K.moved hW.alike hK9, hD9⟩, hS.F ht⟩) hS.2.2 dX5_lands_6

set_option maxHeartbeats 4000000 in
set_option maxRecDepth 100000 in
theorem c_House_parties (l : Launch) (dC : Nat → ClassId) (dI : Nat → Nat → Nat) (z : Nat) (h : Nat) (fh : List Value) (hd : Nat) (cH : ClassId) (f : Nat → Int32) (sz : Nat) (hl_fh : fh.length = 19) (hf_fh_0 : fh[0]? = some (.ref hd)) (hv_0 : f 0 = 0) (hv_1 : f 1 = 0) : Met l yX5_parties (Cond.code yX5_parties cX5_parties 1 (some .int) :: G) ({ frames := 1, cells := 0, slots := 0, locals := 12 }) (va_Pc [.ref h] (pre_ dC dI [(h, .inr (2, fh)), (hd, .inl (cH, 12, .inl f))] [(cH, .int)] sz z)) (va_Qi (fun (r : Int32) (_ : Unit) => r = 0) (fun _ t => va_P (dC, dI) classes [(h, .inr (2, fh)), (hd, .inl (cH, 12, .inl f))] t.heap ∧ va_K (dC, dI) classes [(cH, .int)] t ∧ va_D (va_A [(h, .inr (2, fh)), (hd, .inl (cH, 12, .inl f))] sz) [(h, .inr (2, fh)), (hd, .inl (cH, 12, .inl f))]) (va_A [(h, .inr (2, fh)), (hd, .inl (cH, 12, .inl f))] sz)) 0 0 (va_A [(h, .inr (2, fh)), (hd, .inl (cH, 12, .inl f))] sz) := by
  refine Met.ofW (cc := cX5_parties) (maxL := 1) (ret := (some .int)) (by decide) rfl ?_
  intro p e s m args below meth c s₁ B hml hv
  obtain ⟨rfl, hv⟩ := hv
  obtain ⟨hsz, hP, hK, hD0, hN, hZ⟩ := hv
  have hx := B.exec
  have hb := B.bytes
  have hr := B.returns
  have hG : ∀ w ∈ G, w.before _ s = true := fun w h => atoms_spec (ws := Cond.code yX5_parties cX5_parties 1 (some .int) :: G) B.pre w (List.mem_cons_of_mem _ h)
  have hown : s.vm.findClass "Seattable$House" = some m.cls := findClass_of_methodNamed B.named
  have hlocks := B.notSynchronized
  subst hsz
  have hD := hD0.self (sz := s.heap.size)
  generalize hAe : va_A [(h, .inr (2, fh)), (hd, .inl (cH, 12, .inl f))] s.heap.size = A at hD hZ ⊢
  have hA : ∀ q : Nat, s.heap.size ≤ q → A q := fun q h => by rw [← hAe]; exact Or.inr h
  have hS : va_S A s.heap s.heap [] := va_S.rf
  have hP : va_P (dC, dI) classes [(h, .inr (2, fh)), (hd, .inl (cH, 12, .inl f))] s.heap := hP
  have hl := lv_entry ([.ref h]) (n := 1) (Nat.le_of_ble_eq_true rfl)
  rw [lg_entry_eq]
  generalize (lg_sl ([.ref h]) ++ List.replicate (1 - (lg_sl ([.ref h])).length) Slot.unset).toArray = ls at hl ⊢
  have hl : lv_has ls 1 [(0, .ref h)] := hl
  refine lv_aload_n hx hb dX5_parties_0 rfl (lv_at hl 0 rfl) ?_
  refine va_get (D := (dC, dI)) (ci := 2) (v := .ref hd) (C := RX5) (T := TX5) (N := 19) hx hb hG iX5 hown hK hP 0 rfl rfl 0 (by decide) (hG _ m_21) (fun _ h9 => h9) hf_fh_0 dX5_parties_1 ?_
  refine lv_iconst (v := 0) hx hb dX5_parties_4 (by decide) ?_
  refine va_iald (D := (dC, dI)) hx hb hK hP 1 0 rfl rfl (by unfold vp_in; decide) dX5_parties_5 ?_
  refine lv_topi (fun x1 ex1 => ?_)
  have ex1 : x1 = 0 := by rw [ex1]; rw [show (0 : Int32).toNatClampNeg = 0 from by decide]; exact hv_0
  subst ex1
  have hP9 := hP.sub (ws' := [(h, .inr (2, fh)), (hd, .inl (cH, 12, .inl f))]) [0, 1] rfl
  have hD9 := hD.sub (ws' := [(h, .inr (2, fh)), (hd, .inl (cH, 12, .inl f))]) [0, 1] (by decide) rfl
  have hK9 := hK.sub (tys' := [(cH, .int)]) [0] rfl
  exact W.iret (v := 0) hx hb hr (fun t ht hW => ⟨⟨0, (), rfl, rfl, by rw [ht]; exact hP9, va_K.moved hW.alike hK9, hD9⟩, hS.F ht⟩) hS.2.2 dX5_parties_6

set_option maxHeartbeats 4000000 in
set_option maxRecDepth 100000 in
theorem c_Dealer_sumOfClaims (l : Launch) (dC : Nat → ClassId) (dI : Nat → Nat → Nat) (z : Nat) (d : Nat) (fd : List Value) (sz : Nat) (hl_fd : fd.length = 13) (hf_fd_10 : fd[10]? = some (.int 0)) : Met l yX2_sumOfClaims (Cond.code yX2_sumOfClaims cX2_sumOfClaims 4 (some .long) :: G) ({ frames := 1, cells := 0, slots := 0, locals := 12 }) (va_Pc [.ref d] (pre_ dC dI [(d, .inr (5, fd))] [] sz z)) (va_Ql (fun (r : Int64) (_ : Unit) => r = 0) (fun _ t => va_P (dC, dI) classes [(d, .inr (5, fd))] t.heap ∧ va_K (dC, dI) classes [] t ∧ va_D (va_A [(d, .inr (5, fd))] sz) [(d, .inr (5, fd))]) (va_A [(d, .inr (5, fd))] sz)) 0 0 (va_A [(d, .inr (5, fd))] sz) := by
  refine Met.ofW (cc := cX2_sumOfClaims) (maxL := 4) (ret := (some .long)) (by decide) rfl ?_
  intro p e s m args below meth c s₁ B hml hv
  obtain ⟨rfl, hv⟩ := hv
  obtain ⟨hsz, hP, hK, hD0, hN, hZ⟩ := hv
  have hx := B.exec
  have hb := B.bytes
  have hr := B.returns
  have hG : ∀ w ∈ G, w.before _ s = true := fun w h => atoms_spec (ws := Cond.code yX2_sumOfClaims cX2_sumOfClaims 4 (some .long) :: G) B.pre w (List.mem_cons_of_mem _ h)
  have hown : s.vm.findClass "Seattable$Dealer" = some m.cls := findClass_of_methodNamed B.named
  have hlocks := B.notSynchronized
  subst hsz
  have hD := hD0.self (sz := s.heap.size)
  generalize hAe : va_A [(d, .inr (5, fd))] s.heap.size = A at hD hZ ⊢
  have hA : ∀ q : Nat, s.heap.size ≤ q → A q := fun q h => by rw [← hAe]; exact Or.inr h
  have hS : va_S A s.heap s.heap [] := va_S.rf
  have hP : va_P (dC, dI) classes [(d, .inr (5, fd))] s.heap := hP
  have hl := lv_entry ([.ref d]) (n := 4) (Nat.le_of_ble_eq_true rfl)
  rw [lg_entry_eq]
  generalize (lg_sl ([.ref d]) ++ List.replicate (4 - (lg_sl ([.ref d])).length) Slot.unset).toArray = ls at hl ⊢
  have hl : lv_has ls 4 [(0, .ref d)] := hl
  refine lv_lconst (v := 0) hx hb dX2_sumOfClaims_0 (by decide) ?_
  refine lv_lstore_n (lv' := [(1, .long 0), (0, .ref d)]) hx hb dX2_sumOfClaims_1 rfl hl (by decide) rfl (fun ls hl => ?_)
  refine lv_iconst (v := 0) hx hb dX2_sumOfClaims_2 (by decide) ?_
  refine lv_istore_n (lv' := [(3, .int 0), (1, .long 0), (0, .ref d)]) hx hb dX2_sumOfClaims_3 rfl hl (by decide) rfl (fun ls hl => ?_)
  refine lv_iload_n hx hb dX2_sumOfClaims_4 rfl (lv_at hl 0 rfl) ?_
  refine lv_aload_n hx hb dX2_sumOfClaims_5 rfl (lv_at hl 2 rfl) ?_
  refine va_get (D := (dC, dI)) (ci := 5) (v := .int 0) (C := RX2) (T := TX2) (N := 13) hx hb hG iX2 hown hK hP 0 rfl rfl 10 (by decide) (hG _ m_251) (fun _ h9 => h9) hf_fd_10 dX2_sumOfClaims_6 ?_
  refine lv_icmp_ge (tgt := 27) hx hb dX2_sumOfClaims_9 (by decide) (fun _ => ?_) (fun c9 => absurd (by decide) c9)
  refine lv_lload_n hx hb dX2_sumOfClaims_27 rfl (lv_at hl 1 rfl) ?_
  have hP9 := hP.sub (ws' := [(d, .inr (5, fd))]) [0] rfl
  have hD9 := hD.sub (ws' := [(d, .inr (5, fd))]) [0] (by decide) rfl
  have hK9 := hK.sub (tys' := []) [] rfl
  exact W.lret (v := 0) hx hb hr (fun t ht hW => ⟨⟨0, (), rfl, rfl, by rw [ht]; exact hP9, va_K.moved hW.alike hK9, hD9⟩, hS.F ht⟩) hS.2.2 dX2_sumOfClaims_28

set_option maxHeartbeats 4000000 in
set_option maxRecDepth 100000 in
theorem c_Dealer_putBehindBar (l : Launch) (dC : Nat → ClassId) (dI : Nat → Nat → Nat) (z : Nat) (d : Nat) (fd : List Value) (t9 : Int32) (b9 : Int32) (sz : Nat) (hl_fd : fd.length = 13) (hf_fd_10 : fd[10]? = some (.int 0)) : Met l yX2_putBehindBar (Cond.code yX2_putBehindBar cX2_putBehindBar 6 none :: G) ({ frames := 2, cells := 0, slots := 0, locals := 35 }) (va_Pc [.ref d, .int t9, .int b9] (pre_ dC dI [(d, .inr (5, fd))] [] sz z)) (va_Qv (fun _ : Unit => True) (fun _ t => va_P (dC, dI) classes [(d, .inr (5, fd))] t.heap ∧ va_K (dC, dI) classes [] t ∧ va_D (va_A [(d, .inr (5, fd))] sz) [(d, .inr (5, fd))]) (va_A [(d, .inr (5, fd))] sz)) 0 0 (va_A [(d, .inr (5, fd))] sz) := by
  refine Met.ofW (cc := cX2_putBehindBar) (maxL := 6) (ret := none) (by decide) rfl ?_
  intro p e s m args below meth c s₁ B hml hv
  obtain ⟨rfl, hv⟩ := hv
  obtain ⟨hsz, hP, hK, hD0, hN, hZ⟩ := hv
  have hx := B.exec
  have hb := B.bytes
  have hr := B.returns
  have hG : ∀ w ∈ G, w.before _ s = true := fun w h => atoms_spec (ws := Cond.code yX2_putBehindBar cX2_putBehindBar 6 none :: G) B.pre w (List.mem_cons_of_mem _ h)
  have hown : s.vm.findClass "Seattable$Dealer" = some m.cls := findClass_of_methodNamed B.named
  have hlocks := B.notSynchronized
  subst hsz
  have hD := hD0.self (sz := s.heap.size)
  generalize hAe : va_A [(d, .inr (5, fd))] s.heap.size = A at hD hZ ⊢
  have hA : ∀ q : Nat, s.heap.size ≤ q → A q := fun q h => by rw [← hAe]; exact Or.inr h
  have hS : va_S A s.heap s.heap [] := va_S.rf
  have hP : va_P (dC, dI) classes [(d, .inr (5, fd))] s.heap := hP
  have hl := lv_entry ([.ref d, .int t9, .int b9]) (n := 6) (Nat.le_of_ble_eq_true rfl)
  rw [lg_entry_eq]
  generalize (lg_sl ([.ref d, .int t9, .int b9]) ++ List.replicate (6 - (lg_sl ([.ref d, .int t9, .int b9])).length) Slot.unset).toArray = ls at hl ⊢
  have hl : lv_has ls 6 [(0, .ref d), (1, .int t9), (2, .int b9)] := hl
  refine lv_aload_n hx hb dX2_putBehindBar_0 rfl (lv_at hl 0 rfl) ?_
  have hPc := hP.sub (ws' := [(d, .inr (5, fd))]) [0] rfl
  have hDc := hD.sub (ws' := [(d, .inr (5, fd))]) [0] (by decide) rfl
  have hKc := hK.sub (tys' := []) [] rfl
  have hFc := va_free (wc := [(d, .inr (5, fd))]) hD hS hA [0] rfl
  refine va_calll (va_runV (C := "Seattable$Dealer") (As := []) (rest := []) ⟨hx, hb, hml, hown, hG⟩ (c_Dealer_sumOfClaims l dC dI z d fd s.heap.size hl_fd hf_fd_10) (cwV 0 hG (gV m_253 m_254 m_255 m_155 m_252) rfl rfl rfl (by decide +kernel) ⟨Nat.le_of_ble_eq_true rfl, Nat.le_of_ble_eq_true rfl⟩) ⟨pre_blind, va_recv hKc hPc (ci := 5) (q0 := 0) rfl rfl, fun U hU hW => ⟨rfl, pre_call hU hW hPc hKc hDc hN (zkeep hZ hS) hFc⟩⟩ rfl rfl hl.1 rfl (lv_room (Nat.le_of_ble_eq_true rfl)) dX2_putBehindBar_1 ⟨Nat.le_of_ble_eq_true rfl, Nat.le_of_ble_eq_true rfl⟩) hS (fun q _ h => hFc q h) hFc (fun r1 u t H locs ht hvm hw hB hz1 hk1 hS => ?_)
  obtain ⟨hP1, hK1, hD1⟩ := hB
  rw [ht] at hP1
  have hK1 := va_K.moved hvm.symm hK1
  try dsimp only at hw
  subst hw
  obtain ⟨hP, hD⟩ := va_join (wr := []) (w1 := [(d, .inr (5, fd))]) hP hD [0] [] rfl rfl (by decide) (by decide) hk1 hFc hP1 hD1
  have hK := (hK.sub (tys' := []) [] rfl).app hK1
  have hP : va_P (dC, dI) classes [(d, .inr (5, fd))] H := hP
  have hD : va_D A [(d, .inr (5, fd))] := hD
  have hK : va_K (dC, dI) classes [] s := hK
  refine lv_lstore_n (lv' := [(3, .long 0), (0, .ref d), (1, .int t9), (2, .int b9)]) hx hb dX2_putBehindBar_4 rfl hl (by decide) rfl (fun ls hl => ?_)
  refine lv_iconst (v := 0) hx hb dX2_putBehindBar_5 (by decide) ?_
  refine lv_istore (lv' := [(5, .int 0), (3, .long 0), (0, .ref d), (1, .int t9), (2, .int b9)]) hx hb dX2_putBehindBar_6 hl (by decide) rfl (fun ls hl => ?_)
  refine lv_iload hx hb dX2_putBehindBar_8 (lv_at hl 0 rfl) ?_
  refine lv_aload_n hx hb dX2_putBehindBar_10 rfl (lv_at hl 2 rfl) ?_
  refine va_get (D := (dC, dI)) (ci := 5) (v := .int 0) (C := RX2) (T := TX2) (N := 13) hx hb hG iX2 hown hK hP 0 rfl rfl 10 (by decide) (hG _ m_251) (fun _ h9 => h9) hf_fd_10 dX2_putBehindBar_11 ?_
  refine lv_icmp_ge (tgt := 49) hx hb dX2_putBehindBar_14 (by decide) (fun _ => ?_) (fun c9 => absurd (by decide) c9)
  have hP9 := hP.sub (ws' := [(d, .inr (5, fd))]) [0] rfl
  have hD9 := hD.sub (ws' := [(d, .inr (5, fd))]) [0] (by decide) rfl
  have hK9 := hK.sub (tys' := []) [] rfl
  exact W.vret hx hb hr (fun t ht hW => ⟨⟨(), rfl, trivial, by rw [ht]; exact hP9, va_K.moved hW.alike hK9, hD9⟩, hS.F ht⟩) hS.2.2 dX2_putBehindBar_49

set_option maxHeartbeats 4000000 in
set_option maxRecDepth 100000 in
theorem c_Dealer_line (l : Launch) (dC : Nat → ClassId) (dI : Nat → Nat → Nat) (z : Nat) (d : Nat) (fd : List Value) (h : Nat) (fh : List Value) (hd : Nat) (cH : ClassId) (f : Nat → Int32) (fl : Nat) (sz : Nat) (hl_fd : fd.length = 13) (hf_fd_1 : fd[1]? = some (.ref fl)) (hl_fh : fh.length = 19) (hf_fh_0 : fh[0]? = some (.ref hd)) (hv_0 : f 0 = 0) (hv_1 : f 1 = 0) : Met l yX2_line (Cond.code yX2_line cX2_line 6 none :: G) ({ frames := 3, cells := 0, slots := 0, locals := 60 }) (va_Pc [.ref d, .ref h, .int 0, .int 0] (pre_ dC dI [(d, .inr (5, fd)), (h, .inr (2, fh)), (hd, .inl (cH, 12, .inl f))] [(cH, .int)] sz z)) (va_Qv (fun _ : Unit => True) (fun _ t => ∃ (fs12 : List Value), va_P (dC, dI) classes [(d, .inr (5, fs12)), (h, .inr (2, fh)), (hd, .inl (cH, 12, .inl f))] t.heap ∧ va_K (dC, dI) classes [(cH, .int)] t ∧ va_D (va_A [(d, .inr (5, fd)), (h, .inr (2, fh)), (hd, .inl (cH, 12, .inl f))] sz) [(d, .inr (5, fs12)), (h, .inr (2, fh)), (hd, .inl (cH, 12, .inl f))] ∧ fs12.length = 13 ∧ fs12[1]? = some (.ref fl) ∧ fs12[10]? = some (.int 0)) (va_A [(d, .inr (5, fd)), (h, .inr (2, fh)), (hd, .inl (cH, 12, .inl f))] sz)) 0 0 (va_A [(d, .inr (5, fd)), (h, .inr (2, fh)), (hd, .inl (cH, 12, .inl f))] sz) := by
  refine Met.ofW (cc := cX2_line) (maxL := 6) (ret := none) (by decide) rfl ?_
  intro p e s m args below meth c s₁ B hml hv
  obtain ⟨rfl, hv⟩ := hv
  obtain ⟨hsz, hP, hK, hD0, hN, hZ⟩ := hv
  have hx := B.exec
  have hb := B.bytes
  have hr := B.returns
  have hG : ∀ w ∈ G, w.before _ s = true := fun w h => atoms_spec (ws := Cond.code yX2_line cX2_line 6 none :: G) B.pre w (List.mem_cons_of_mem _ h)
  have hown : s.vm.findClass "Seattable$Dealer" = some m.cls := findClass_of_methodNamed B.named
  have hlocks := B.notSynchronized
  subst hsz
  have hD := hD0.self (sz := s.heap.size)
  generalize hAe : va_A [(d, .inr (5, fd)), (h, .inr (2, fh)), (hd, .inl (cH, 12, .inl f))] s.heap.size = A at hD hZ ⊢
  have hA : ∀ q : Nat, s.heap.size ≤ q → A q := fun q h => by rw [← hAe]; exact Or.inr h
  have hS : va_S A s.heap s.heap [] := va_S.rf
  have hP : va_P (dC, dI) classes [(d, .inr (5, fd)), (h, .inr (2, fh)), (hd, .inl (cH, 12, .inl f))] s.heap := hP
  have hl := lv_entry ([.ref d, .ref h, .int 0, .int 0]) (n := 6) (Nat.le_of_ble_eq_true rfl)
  rw [lg_entry_eq]
  generalize (lg_sl ([.ref d, .ref h, .int 0, .int 0]) ++ List.replicate (6 - (lg_sl ([.ref d, .ref h, .int 0, .int 0])).length) Slot.unset).toArray = ls at hl ⊢
  have hl : lv_has ls 6 [(0, .ref d), (1, .ref h), (2, .int 0), (3, .int 0)] := hl
  refine lv_iload_n hx hb dX2_line_0 rfl (lv_at hl 2 rfl) ?_
  refine lv_iconst (v := 2) hx hb dX2_line_1 (by decide) ?_
  refine lv_icmp_ne (tgt := 9) hx hb dX2_line_2 (by decide) (fun _ => ?_) (fun c9 => absurd c9 (by decide))
  refine lv_iconst (v := 0) hx hb dX2_line_9 (by decide) ?_
  refine lv_istore (lv' := [(4, .int 0), (0, .ref d), (1, .ref h), (2, .int 0), (3, .int 0)]) hx hb dX2_line_10 hl (by decide) rfl (fun ls hl => ?_)
  refine lv_aload_n hx hb dX2_line_12 rfl (lv_at hl 1 rfl) ?_
  refine lv_iload hx hb dX2_line_13 (lv_at hl 0 rfl) ?_
  refine lv_if_eq (tgt := 25) hx hb dX2_line_15 (by decide) (fun _ => ?_) (fun c9 => absurd (by decide) c9)
  refine lv_aload_n hx hb dX2_line_25 rfl (lv_at hl 2 rfl) ?_
  have hPc := hP.sub (ws' := [(h, .inr (2, fh)), (hd, .inl (cH, 12, .inl f))]) [1, 2] rfl
  have hDc := hD.sub (ws' := [(h, .inr (2, fh)), (hd, .inl (cH, 12, .inl f))]) [1, 2] (by decide) rfl
  have hKc := hK.sub (tys' := [(cH, .int)]) [0] rfl
  have hFc := va_free (wc := [(h, .inr (2, fh)), (hd, .inl (cH, 12, .inl f))]) hD hS hA [1, 2] rfl
  refine va_calli (va_runV (C := "Seattable$House") (As := []) (rest := [.ref d]) ⟨hx, hb, hml, hown, hG⟩ (c_House_parties l dC dI z h fh hd cH f s.heap.size hl_fh hf_fh_0 hv_0 hv_1) (cwV 0 hG (gV m_257 m_258 m_259 m_133 m_256) rfl rfl rfl (by decide +kernel) ⟨Nat.le_of_ble_eq_true rfl, Nat.le_of_ble_eq_true rfl⟩) ⟨pre_blind, va_recv hKc hPc (ci := 2) (q0 := 0) rfl rfl, fun U hU hW => ⟨rfl, pre_call hU hW hPc hKc hDc hN (zkeep hZ hS) hFc⟩⟩ rfl rfl hl.1 rfl (lv_room (Nat.le_of_ble_eq_true rfl)) dX2_line_26 ⟨Nat.le_of_ble_eq_true rfl, Nat.le_of_ble_eq_true rfl⟩) hS (fun q _ h => hFc q h) hFc (fun r1 u t H locs ht hvm hw hB hz1 hk1 hS => ?_)
  obtain ⟨hP1, hK1, hD1⟩ := hB
  rw [ht] at hP1
  have hK1 := va_K.moved hvm.symm hK1
  try dsimp only at hw
  subst hw
  obtain ⟨hP, hD⟩ := va_join (wr := [(d, .inr (5, fd))]) (w1 := [(h, .inr (2, fh)), (hd, .inl (cH, 12, .inl f))]) hP hD [1, 2] [0] rfl rfl (by decide) (by decide) hk1 hFc hP1 hD1
  have hK := (hK.sub (tys' := []) [] rfl).app hK1
  have hP : va_P (dC, dI) classes [(d, .inr (5, fd)), (h, .inr (2, fh)), (hd, .inl (cH, 12, .inl f))] H := hP
  have hD : va_D A [(d, .inr (5, fd)), (h, .inr (2, fh)), (hd, .inl (cH, 12, .inl f))] := hD
  have hK : va_K (dC, dI) classes [(cH, .int)] s := hK
  refine va_put (D := (dC, dI)) (ci := 5) (v := .int 0) (ty := .int) (C := RX2) (T := TX2) (N := 13) hx hb hG iX2 tyX2 tyX2_ok nmX2 hown hK hP hD hS 0 rfl rfl 10 (by decide) (hG _ m_251) (fun _ h9 => h9) rfl (by decide +kernel) rfl rfl (by rw [hl_fd]; decide) dX2_line_29 (fun H locs hP hD hS => ?_)
  have hP : va_P (dC, dI) classes [(d, .inr (5, (fd.set 10 (.int 0)))), (h, .inr (2, fh)), (hd, .inl (cH, 12, .inl f))] H := hP
  have hD : va_D A [(d, .inr (5, (fd.set 10 (.int 0)))), (h, .inr (2, fh)), (hd, .inl (cH, 12, .inl f))] := hD
  obtain ⟨fs2, efs2⟩ : ∃ y : List Value, y = fd.set 10 (.int 0) := ⟨_, rfl⟩
  rw [← efs2] at hP hD
  have hl_3 : fs2.length = 13 := by rw [efs2, List.length_set]; exact hl_fd
  have hf_4 : fs2[1]? = some (.ref fl) := by rw [efs2]; exact fs_set_ne hf_fd_1 (by decide)
  have hf_5 : fs2[10]? = some (.int 0) := by rw [efs2]; exact fs_set_eq hl_fd (by decide)
  refine lv_aload_n hx hb dX2_line_32 rfl (lv_at hl 1 rfl) ?_
  refine lv_aload_n hx hb dX2_line_33 rfl (lv_at hl 2 rfl) ?_
  refine va_get (D := (dC, dI)) (ci := 2) (v := .ref hd) (C := RX5) (T := TX5) (N := 19) hx hb hG iX5 hown hK hP 1 rfl rfl 0 (by decide) (hG _ m_260) (fun _ h9 => h9) hf_fh_0 dX2_line_34 ?_
  refine lv_bipush (v := 10) hx hb dX2_line_37 (by decide) ?_
  refine va_iald (D := (dC, dI)) hx hb hK hP 2 0 rfl rfl (by unfold vp_in; decide) dX2_line_39 ?_
  refine lv_topi (fun x6 ex6 => ?_)
  refine va_put (D := (dC, dI)) (ci := 5) (v := .int x6) (ty := .int) (C := RX2) (T := TX2) (N := 13) hx hb hG iX2 tyX2 tyX2_ok nmX2 hown hK hP hD hS 0 rfl rfl 11 (by decide) (hG _ m_261) (fun _ h9 => h9) rfl (by decide +kernel) rfl rfl (by rw [hl_3]; decide) dX2_line_40 (fun H locs hP hD hS => ?_)
  have hP : va_P (dC, dI) classes [(d, .inr (5, (fs2.set 11 (.int x6)))), (h, .inr (2, fh)), (hd, .inl (cH, 12, .inl f))] H := hP
  have hD : va_D A [(d, .inr (5, (fs2.set 11 (.int x6)))), (h, .inr (2, fh)), (hd, .inl (cH, 12, .inl f))] := hD
  obtain ⟨fs7, efs7⟩ : ∃ y : List Value, y = fs2.set 11 (.int x6) := ⟨_, rfl⟩
  rw [← efs7] at hP hD
  have hl_8 : fs7.length = 13 := by rw [efs7, List.length_set]; exact hl_3
  have hf_9 : fs7[1]? = some (.ref fl) := by rw [efs7]; exact fs_set_ne hf_4 (by decide)
  have hf_10 : fs7[10]? = some (.int 0) := by rw [efs7]; exact fs_set_ne hf_5 (by decide)
  refine lv_aload_n hx hb dX2_line_43 rfl (lv_at hl 1 rfl) ?_
  refine lv_aload_n hx hb dX2_line_44 rfl (lv_at hl 2 rfl) ?_
  refine va_get (D := (dC, dI)) (ci := 2) (v := .ref hd) (C := RX5) (T := TX5) (N := 19) hx hb hG iX5 hown hK hP 1 rfl rfl 0 (by decide) (hG _ m_260) (fun _ h9 => h9) hf_fh_0 dX2_line_45 ?_
  refine lv_bipush (v := 11) hx hb dX2_line_48 (by decide) ?_
  refine va_iald (D := (dC, dI)) hx hb hK hP 2 0 rfl rfl (by unfold vp_in; decide) dX2_line_50 ?_
  refine lv_topi (fun x11 ex11 => ?_)
  refine va_put (D := (dC, dI)) (ci := 5) (v := .int x11) (ty := .int) (C := RX2) (T := TX2) (N := 13) hx hb hG iX2 tyX2 tyX2_ok nmX2 hown hK hP hD hS 0 rfl rfl 12 (by decide) (hG _ m_262) (fun _ h9 => h9) rfl (by decide +kernel) rfl rfl (by rw [hl_8]; decide) dX2_line_51 (fun H locs hP hD hS => ?_)
  have hP : va_P (dC, dI) classes [(d, .inr (5, (fs7.set 12 (.int x11)))), (h, .inr (2, fh)), (hd, .inl (cH, 12, .inl f))] H := hP
  have hD : va_D A [(d, .inr (5, (fs7.set 12 (.int x11)))), (h, .inr (2, fh)), (hd, .inl (cH, 12, .inl f))] := hD
  obtain ⟨fs12, efs12⟩ : ∃ y : List Value, y = fs7.set 12 (.int x11) := ⟨_, rfl⟩
  rw [← efs12] at hP hD
  have hl_13 : fs12.length = 13 := by rw [efs12, List.length_set]; exact hl_8
  have hf_14 : fs12[1]? = some (.ref fl) := by rw [efs12]; exact fs_set_ne hf_9 (by decide)
  have hf_15 : fs12[10]? = some (.int 0) := by rw [efs12]; exact fs_set_ne hf_10 (by decide)
  refine lv_iconst (v := 0) hx hb dX2_line_54 (by decide) ?_
  refine lv_istore (lv' := [(5, .int 0), (4, .int 0), (0, .ref d), (1, .ref h), (2, .int 0), (3, .int 0)]) hx hb dX2_line_55 hl (by decide) rfl (fun ls hl => ?_)
  refine lv_iload hx hb dX2_line_57 (lv_at hl 0 rfl) ?_
  refine lv_aload_n hx hb dX2_line_59 rfl (lv_at hl 2 rfl) ?_
  refine va_get (D := (dC, dI)) (ci := 5) (v := .int 0) (C := RX2) (T := TX2) (N := 13) hx hb hG iX2 hown hK hP 0 rfl rfl 10 (by decide) (hG _ m_251) (fun _ h9 => h9) hf_15 dX2_line_60 ?_
  refine lv_icmp_ge (tgt := 141) hx hb dX2_line_63 (by decide) (fun _ => ?_) (fun c9 => absurd (by decide) c9)
  refine lv_iload hx hb dX2_line_141 (lv_at hl 1 rfl) ?_
  refine lv_if_ne (tgt := 164) hx hb dX2_line_143 (by decide) (fun c9 => absurd (by decide) c9) (fun _ => ?_)
  refine lv_aload_n hx hb dX2_line_146 rfl (lv_at hl 2 rfl) ?_
  refine lv_aload_n hx hb dX2_line_147 rfl (lv_at hl 3 rfl) ?_
  refine va_get (D := (dC, dI)) (ci := 2) (v := .ref hd) (C := RX5) (T := TX5) (N := 19) hx hb hG iX5 hown hK hP 1 rfl rfl 0 (by decide) (hG _ m_260) (fun _ h9 => h9) hf_fh_0 dX2_line_148 ?_
  refine lv_bipush (v := 8) hx hb dX2_line_151 (by decide) ?_
  refine va_iald (D := (dC, dI)) hx hb hK hP 2 0 rfl rfl (by unfold vp_in; decide) dX2_line_153 ?_
  refine lv_topi (fun x16 ex16 => ?_)
  refine lv_aload_n hx hb dX2_line_154 rfl (lv_at hl 3 rfl) ?_
  refine va_get (D := (dC, dI)) (ci := 2) (v := .ref hd) (C := RX5) (T := TX5) (N := 19) hx hb hG iX5 hown hK hP 1 rfl rfl 0 (by decide) (hG _ m_260) (fun _ h9 => h9) hf_fh_0 dX2_line_155 ?_
  refine lv_bipush (v := 9) hx hb dX2_line_158 (by decide) ?_
  refine va_iald (D := (dC, dI)) hx hb hK hP 2 0 rfl rfl (by unfold vp_in; decide) dX2_line_160 ?_
  refine lv_topi (fun x17 ex17 => ?_)
  have hPc := hP.sub (ws' := [(d, .inr (5, fs12))]) [0] rfl
  have hDc := hD.sub (ws' := [(d, .inr (5, fs12))]) [0] (by decide) rfl
  have hKc := hK.sub (tys' := []) [] rfl
  have hFc := va_free (wc := [(d, .inr (5, fs12))]) hD hS hA [0] rfl
  refine va_callv (va_runV (C := "Seattable$Dealer") (As := [.int x16, .int x17]) (rest := []) ⟨hx, hb, hml, hown, hG⟩ (c_Dealer_putBehindBar l dC dI z d fs12 x16 x17 H.size hl_13 hf_15) (cwV 2 hG (gV m_264 m_265 m_266 m_155 m_263) rfl rfl rfl (by decide +kernel) ⟨Nat.le_of_ble_eq_true rfl, Nat.le_of_ble_eq_true rfl⟩) ⟨pre_blind, va_recv hKc hPc (ci := 5) (q0 := 0) rfl rfl, fun U hU hW => ⟨rfl, pre_call hU hW hPc hKc hDc hN (zkeep hZ hS) hFc⟩⟩ rfl rfl hl.1 rfl (lv_room (Nat.le_of_ble_eq_true rfl)) dX2_line_161 ⟨Nat.le_of_ble_eq_true rfl, Nat.le_of_ble_eq_true rfl⟩) hS (fun q _ h => hFc q h) hFc (fun u t H locs ht hvm hw hB hz1 hk1 hS => ?_)
  obtain ⟨hP1, hK1, hD1⟩ := hB
  rw [ht] at hP1
  have hK1 := va_K.moved hvm.symm hK1
  obtain ⟨hP, hD⟩ := va_join (wr := [(h, .inr (2, fh)), (hd, .inl (cH, 12, .inl f))]) (w1 := [(d, .inr (5, fs12))]) hP hD [0] [1, 2] rfl rfl (by decide) (by decide) hk1 hFc hP1 hD1
  have hK := (hK.sub (tys' := [(cH, .int)]) [0] rfl).app hK1
  have hP : va_P (dC, dI) classes [(h, .inr (2, fh)), (hd, .inl (cH, 12, .inl f)), (d, .inr (5, fs12))] H := hP
  have hD : va_D A [(h, .inr (2, fh)), (hd, .inl (cH, 12, .inl f)), (d, .inr (5, fs12))] := hD
  have hK : va_K (dC, dI) classes [(cH, .int)] s := hK
  have hP9 := hP.sub (ws' := [(d, .inr (5, fs12)), (h, .inr (2, fh)), (hd, .inl (cH, 12, .inl f))]) [2, 0, 1] rfl
  have hD9 := hD.sub (ws' := [(d, .inr (5, fs12)), (h, .inr (2, fh)), (hd, .inl (cH, 12, .inl f))]) [2, 0, 1] (by decide) rfl
  have hK9 := hK.sub (tys' := [(cH, .int)]) [0] rfl
  exact W.vret hx hb hr (fun t ht hW => ⟨⟨(), rfl, trivial, fs12, by rw [ht]; exact hP9, va_K.moved hW.alike hK9, hD9, hl_13, hf_14, hf_15⟩, hS.F ht⟩) hS.2.2 dX2_line_164

set_option maxHeartbeats 4000000 in
set_option maxRecDepth 100000 in
theorem c_Dealer_findFloors (l : Launch) (dC : Nat → ClassId) (dI : Nat → Nat → Nat) (z : Nat) (d : Nat) (fd : List Value) (h : Nat) (fh : List Value) (hd : Nat) (cH : ClassId) (f : Nat → Int32) (fl : Nat) (cF : ClassId) (g : Nat → Int32) (sz : Nat) (hl_fd : fd.length = 13) (hf_fd_1 : fd[1]? = some (.ref fl)) (hl_fh : fh.length = 19) (hf_fh_0 : fh[0]? = some (.ref hd)) (hv_0 : f 0 = 0) (hv_1 : f 1 = 0) : Met l yX2_findFloors (Cond.code yX2_findFloors cX2_findFloors 6 none :: G) ({ frames := 2, cells := 0, slots := 0, locals := 32 }) (va_Pc [.ref d, .ref h, .int 0] (pre_ dC dI [(d, .inr (5, fd)), (h, .inr (2, fh)), (hd, .inl (cH, 12, .inl f)), (fl, .inl (cF, 6, .inl g))] [(cH, .int), (cF, .int)] sz z)) (va_Qv (fun _ : Unit => True) (fun _ t => ∃ (f6 : Nat → Int32), va_P (dC, dI) classes [(d, .inr (5, fd)), (h, .inr (2, fh)), (hd, .inl (cH, 12, .inl f)), (fl, .inl (cF, 6, .inl f6))] t.heap ∧ va_K (dC, dI) classes [(cH, .int), (cF, .int)] t ∧ va_D (va_A [(d, .inr (5, fd)), (h, .inr (2, fh)), (hd, .inl (cH, 12, .inl f)), (fl, .inl (cF, 6, .inl g))] sz) [(d, .inr (5, fd)), (h, .inr (2, fh)), (hd, .inl (cH, 12, .inl f)), (fl, .inl (cF, 6, .inl f6))]) (va_A [(d, .inr (5, fd)), (h, .inr (2, fh)), (hd, .inl (cH, 12, .inl f)), (fl, .inl (cF, 6, .inl g))] sz)) 0 0 (va_A [(d, .inr (5, fd)), (h, .inr (2, fh)), (hd, .inl (cH, 12, .inl f)), (fl, .inl (cF, 6, .inl g))] sz) := by
  refine Met.ofW (cc := cX2_findFloors) (maxL := 6) (ret := none) (by decide) rfl ?_
  intro p e s m args below meth c s₁ B hml hv
  obtain ⟨rfl, hv⟩ := hv
  obtain ⟨hsz, hP, hK, hD0, hN, hZ⟩ := hv
  have hx := B.exec
  have hb := B.bytes
  have hr := B.returns
  have hG : ∀ w ∈ G, w.before _ s = true := fun w h => atoms_spec (ws := Cond.code yX2_findFloors cX2_findFloors 6 none :: G) B.pre w (List.mem_cons_of_mem _ h)
  have hown : s.vm.findClass "Seattable$Dealer" = some m.cls := findClass_of_methodNamed B.named
  have hlocks := B.notSynchronized
  subst hsz
  have hD := hD0.self (sz := s.heap.size)
  generalize hAe : va_A [(d, .inr (5, fd)), (h, .inr (2, fh)), (hd, .inl (cH, 12, .inl f)), (fl, .inl (cF, 6, .inl g))] s.heap.size = A at hD hZ ⊢
  have hA : ∀ q : Nat, s.heap.size ≤ q → A q := fun q h => by rw [← hAe]; exact Or.inr h
  have hS : va_S A s.heap s.heap [] := va_S.rf
  have hP : va_P (dC, dI) classes [(d, .inr (5, fd)), (h, .inr (2, fh)), (hd, .inl (cH, 12, .inl f)), (fl, .inl (cF, 6, .inl g))] s.heap := hP
  have hl := lv_entry ([.ref d, .ref h, .int 0]) (n := 6) (Nat.le_of_ble_eq_true rfl)
  rw [lg_entry_eq]
  generalize (lg_sl ([.ref d, .ref h, .int 0]) ++ List.replicate (6 - (lg_sl ([.ref d, .ref h, .int 0])).length) Slot.unset).toArray = ls at hl ⊢
  have hl : lv_has ls 6 [(0, .ref d), (1, .ref h), (2, .int 0)] := hl
  refine lv_iconst (v := 0) hx hb dX2_findFloors_0 (by decide) ?_
  refine lv_istore_n (lv' := [(3, .int 0), (0, .ref d), (1, .ref h), (2, .int 0)]) hx hb dX2_findFloors_1 rfl hl (by decide) rfl (fun ls hl => ?_)
  refine lv_iload_n hx hb dX2_findFloors_2 rfl (lv_at hl 0 rfl) ?_
  refine lv_bipush (v := 6) hx hb dX2_findFloors_3 (by decide) ?_
  refine lv_icmp_ge (tgt := 21) hx hb dX2_findFloors_5 (by decide) (fun c9 => absurd c9 (by decide)) (fun _ => ?_)
  refine lv_aload_n hx hb dX2_findFloors_8 rfl (lv_at hl 1 rfl) ?_
  refine va_get (D := (dC, dI)) (ci := 5) (v := .ref fl) (C := RX2) (T := TX2) (N := 13) hx hb hG iX2 hown hK hP 0 rfl rfl 1 (by decide) (hG _ m_62) (fun _ h9 => h9) hf_fd_1 dX2_findFloors_9 ?_
  refine lv_iload_n hx hb dX2_findFloors_12 rfl (lv_at hl 0 rfl) ?_
  refine lv_iconst (v := 0) hx hb dX2_findFloors_13 (by decide) ?_
  refine va_iast (D := (dC, dI)) hx hb hK hP hD hS 3 1 rfl rfl (by unfold vp_in; decide) dX2_findFloors_14 (fun H locs hP hD hS => ?_)
  have hP : va_P (dC, dI) classes [(d, .inr (5, fd)), (h, .inr (2, fh)), (hd, .inl (cH, 12, .inl f)), (fl, .inl (cF, 6, .inl (upd g (0 : Int32).toNatClampNeg 0)))] H := hP
  have hD : va_D A [(d, .inr (5, fd)), (h, .inr (2, fh)), (hd, .inl (cH, 12, .inl f)), (fl, .inl (cF, 6, .inl (upd g (0 : Int32).toNatClampNeg 0)))] := hD
  obtain ⟨f1, ef1⟩ : ∃ y : Nat → Int32, y = (upd g (0 : Int32).toNatClampNeg 0) := ⟨_, rfl⟩
  rw [← ef1] at hP hD
  refine lv_iinc (v := 1) (lv' := [(3, .int 1), (0, .ref d), (1, .ref h), (2, .int 0)]) hx hb dX2_findFloors_15 hl (k := 0) rfl (by decide) (by decide) rfl (fun ls hl => ?_)
  refine lv_goto (tgt := 2) hx hb dX2_findFloors_18 (by decide) ?_
  refine lv_iload_n hx hb dX2_findFloors_2 rfl (lv_at hl 0 rfl) ?_
  refine lv_bipush (v := 6) hx hb dX2_findFloors_3 (by decide) ?_
  refine lv_icmp_ge (tgt := 21) hx hb dX2_findFloors_5 (by decide) (fun c9 => absurd c9 (by decide)) (fun _ => ?_)
  refine lv_aload_n hx hb dX2_findFloors_8 rfl (lv_at hl 1 rfl) ?_
  refine va_get (D := (dC, dI)) (ci := 5) (v := .ref fl) (C := RX2) (T := TX2) (N := 13) hx hb hG iX2 hown hK hP 0 rfl rfl 1 (by decide) (hG _ m_62) (fun _ h9 => h9) hf_fd_1 dX2_findFloors_9 ?_
  refine lv_iload_n hx hb dX2_findFloors_12 rfl (lv_at hl 0 rfl) ?_
  refine lv_iconst (v := 0) hx hb dX2_findFloors_13 (by decide) ?_
  refine va_iast (D := (dC, dI)) hx hb hK hP hD hS 3 1 rfl rfl (by unfold vp_in; decide) dX2_findFloors_14 (fun H locs hP hD hS => ?_)
  have hP : va_P (dC, dI) classes [(d, .inr (5, fd)), (h, .inr (2, fh)), (hd, .inl (cH, 12, .inl f)), (fl, .inl (cF, 6, .inl (upd f1 (1 : Int32).toNatClampNeg 0)))] H := hP
  have hD : va_D A [(d, .inr (5, fd)), (h, .inr (2, fh)), (hd, .inl (cH, 12, .inl f)), (fl, .inl (cF, 6, .inl (upd f1 (1 : Int32).toNatClampNeg 0)))] := hD
  obtain ⟨f2, ef2⟩ : ∃ y : Nat → Int32, y = (upd f1 (1 : Int32).toNatClampNeg 0) := ⟨_, rfl⟩
  rw [← ef2] at hP hD
  refine lv_iinc (v := 2) (lv' := [(3, .int 2), (0, .ref d), (1, .ref h), (2, .int 0)]) hx hb dX2_findFloors_15 hl (k := 0) rfl (by decide) (by decide) rfl (fun ls hl => ?_)
  refine lv_goto (tgt := 2) hx hb dX2_findFloors_18 (by decide) ?_
  refine lv_iload_n hx hb dX2_findFloors_2 rfl (lv_at hl 0 rfl) ?_
  refine lv_bipush (v := 6) hx hb dX2_findFloors_3 (by decide) ?_
  refine lv_icmp_ge (tgt := 21) hx hb dX2_findFloors_5 (by decide) (fun c9 => absurd c9 (by decide)) (fun _ => ?_)
  refine lv_aload_n hx hb dX2_findFloors_8 rfl (lv_at hl 1 rfl) ?_
  refine va_get (D := (dC, dI)) (ci := 5) (v := .ref fl) (C := RX2) (T := TX2) (N := 13) hx hb hG iX2 hown hK hP 0 rfl rfl 1 (by decide) (hG _ m_62) (fun _ h9 => h9) hf_fd_1 dX2_findFloors_9 ?_
  refine lv_iload_n hx hb dX2_findFloors_12 rfl (lv_at hl 0 rfl) ?_
  refine lv_iconst (v := 0) hx hb dX2_findFloors_13 (by decide) ?_
  refine va_iast (D := (dC, dI)) hx hb hK hP hD hS 3 1 rfl rfl (by unfold vp_in; decide) dX2_findFloors_14 (fun H locs hP hD hS => ?_)
  have hP : va_P (dC, dI) classes [(d, .inr (5, fd)), (h, .inr (2, fh)), (hd, .inl (cH, 12, .inl f)), (fl, .inl (cF, 6, .inl (upd f2 (2 : Int32).toNatClampNeg 0)))] H := hP
  have hD : va_D A [(d, .inr (5, fd)), (h, .inr (2, fh)), (hd, .inl (cH, 12, .inl f)), (fl, .inl (cF, 6, .inl (upd f2 (2 : Int32).toNatClampNeg 0)))] := hD
  obtain ⟨f3, ef3⟩ : ∃ y : Nat → Int32, y = (upd f2 (2 : Int32).toNatClampNeg 0) := ⟨_, rfl⟩
  rw [← ef3] at hP hD
  refine lv_iinc (v := 3) (lv' := [(3, .int 3), (0, .ref d), (1, .ref h), (2, .int 0)]) hx hb dX2_findFloors_15 hl (k := 0) rfl (by decide) (by decide) rfl (fun ls hl => ?_)
  refine lv_goto (tgt := 2) hx hb dX2_findFloors_18 (by decide) ?_
  refine lv_iload_n hx hb dX2_findFloors_2 rfl (lv_at hl 0 rfl) ?_
  refine lv_bipush (v := 6) hx hb dX2_findFloors_3 (by decide) ?_
  refine lv_icmp_ge (tgt := 21) hx hb dX2_findFloors_5 (by decide) (fun c9 => absurd c9 (by decide)) (fun _ => ?_)
  refine lv_aload_n hx hb dX2_findFloors_8 rfl (lv_at hl 1 rfl) ?_
  refine va_get (D := (dC, dI)) (ci := 5) (v := .ref fl) (C := RX2) (T := TX2) (N := 13) hx hb hG iX2 hown hK hP 0 rfl rfl 1 (by decide) (hG _ m_62) (fun _ h9 => h9) hf_fd_1 dX2_findFloors_9 ?_
  refine lv_iload_n hx hb dX2_findFloors_12 rfl (lv_at hl 0 rfl) ?_
  refine lv_iconst (v := 0) hx hb dX2_findFloors_13 (by decide) ?_
  refine va_iast (D := (dC, dI)) hx hb hK hP hD hS 3 1 rfl rfl (by unfold vp_in; decide) dX2_findFloors_14 (fun H locs hP hD hS => ?_)
  have hP : va_P (dC, dI) classes [(d, .inr (5, fd)), (h, .inr (2, fh)), (hd, .inl (cH, 12, .inl f)), (fl, .inl (cF, 6, .inl (upd f3 (3 : Int32).toNatClampNeg 0)))] H := hP
  have hD : va_D A [(d, .inr (5, fd)), (h, .inr (2, fh)), (hd, .inl (cH, 12, .inl f)), (fl, .inl (cF, 6, .inl (upd f3 (3 : Int32).toNatClampNeg 0)))] := hD
  obtain ⟨f4, ef4⟩ : ∃ y : Nat → Int32, y = (upd f3 (3 : Int32).toNatClampNeg 0) := ⟨_, rfl⟩
  rw [← ef4] at hP hD
  refine lv_iinc (v := 4) (lv' := [(3, .int 4), (0, .ref d), (1, .ref h), (2, .int 0)]) hx hb dX2_findFloors_15 hl (k := 0) rfl (by decide) (by decide) rfl (fun ls hl => ?_)
  refine lv_goto (tgt := 2) hx hb dX2_findFloors_18 (by decide) ?_
  refine lv_iload_n hx hb dX2_findFloors_2 rfl (lv_at hl 0 rfl) ?_
  refine lv_bipush (v := 6) hx hb dX2_findFloors_3 (by decide) ?_
  refine lv_icmp_ge (tgt := 21) hx hb dX2_findFloors_5 (by decide) (fun c9 => absurd c9 (by decide)) (fun _ => ?_)
  refine lv_aload_n hx hb dX2_findFloors_8 rfl (lv_at hl 1 rfl) ?_
  refine va_get (D := (dC, dI)) (ci := 5) (v := .ref fl) (C := RX2) (T := TX2) (N := 13) hx hb hG iX2 hown hK hP 0 rfl rfl 1 (by decide) (hG _ m_62) (fun _ h9 => h9) hf_fd_1 dX2_findFloors_9 ?_
  refine lv_iload_n hx hb dX2_findFloors_12 rfl (lv_at hl 0 rfl) ?_
  refine lv_iconst (v := 0) hx hb dX2_findFloors_13 (by decide) ?_
  refine va_iast (D := (dC, dI)) hx hb hK hP hD hS 3 1 rfl rfl (by unfold vp_in; decide) dX2_findFloors_14 (fun H locs hP hD hS => ?_)
  have hP : va_P (dC, dI) classes [(d, .inr (5, fd)), (h, .inr (2, fh)), (hd, .inl (cH, 12, .inl f)), (fl, .inl (cF, 6, .inl (upd f4 (4 : Int32).toNatClampNeg 0)))] H := hP
  have hD : va_D A [(d, .inr (5, fd)), (h, .inr (2, fh)), (hd, .inl (cH, 12, .inl f)), (fl, .inl (cF, 6, .inl (upd f4 (4 : Int32).toNatClampNeg 0)))] := hD
  obtain ⟨f5, ef5⟩ : ∃ y : Nat → Int32, y = (upd f4 (4 : Int32).toNatClampNeg 0) := ⟨_, rfl⟩
  rw [← ef5] at hP hD
  refine lv_iinc (v := 5) (lv' := [(3, .int 5), (0, .ref d), (1, .ref h), (2, .int 0)]) hx hb dX2_findFloors_15 hl (k := 0) rfl (by decide) (by decide) rfl (fun ls hl => ?_)
  refine lv_goto (tgt := 2) hx hb dX2_findFloors_18 (by decide) ?_
  refine lv_iload_n hx hb dX2_findFloors_2 rfl (lv_at hl 0 rfl) ?_
  refine lv_bipush (v := 6) hx hb dX2_findFloors_3 (by decide) ?_
  refine lv_icmp_ge (tgt := 21) hx hb dX2_findFloors_5 (by decide) (fun c9 => absurd c9 (by decide)) (fun _ => ?_)
  refine lv_aload_n hx hb dX2_findFloors_8 rfl (lv_at hl 1 rfl) ?_
  refine va_get (D := (dC, dI)) (ci := 5) (v := .ref fl) (C := RX2) (T := TX2) (N := 13) hx hb hG iX2 hown hK hP 0 rfl rfl 1 (by decide) (hG _ m_62) (fun _ h9 => h9) hf_fd_1 dX2_findFloors_9 ?_
  refine lv_iload_n hx hb dX2_findFloors_12 rfl (lv_at hl 0 rfl) ?_
  refine lv_iconst (v := 0) hx hb dX2_findFloors_13 (by decide) ?_
  refine va_iast (D := (dC, dI)) hx hb hK hP hD hS 3 1 rfl rfl (by unfold vp_in; decide) dX2_findFloors_14 (fun H locs hP hD hS => ?_)
  have hP : va_P (dC, dI) classes [(d, .inr (5, fd)), (h, .inr (2, fh)), (hd, .inl (cH, 12, .inl f)), (fl, .inl (cF, 6, .inl (upd f5 (5 : Int32).toNatClampNeg 0)))] H := hP
  have hD : va_D A [(d, .inr (5, fd)), (h, .inr (2, fh)), (hd, .inl (cH, 12, .inl f)), (fl, .inl (cF, 6, .inl (upd f5 (5 : Int32).toNatClampNeg 0)))] := hD
  obtain ⟨f6, ef6⟩ : ∃ y : Nat → Int32, y = (upd f5 (5 : Int32).toNatClampNeg 0) := ⟨_, rfl⟩
  rw [← ef6] at hP hD
  refine lv_iinc (v := 6) (lv' := [(3, .int 6), (0, .ref d), (1, .ref h), (2, .int 0)]) hx hb dX2_findFloors_15 hl (k := 0) rfl (by decide) (by decide) rfl (fun ls hl => ?_)
  refine lv_goto (tgt := 2) hx hb dX2_findFloors_18 (by decide) ?_
  refine lv_iload_n hx hb dX2_findFloors_2 rfl (lv_at hl 0 rfl) ?_
  refine lv_bipush (v := 6) hx hb dX2_findFloors_3 (by decide) ?_
  refine lv_icmp_ge (tgt := 21) hx hb dX2_findFloors_5 (by decide) (fun _ => ?_) (fun c9 => absurd (by decide) c9)
  refine lv_iconst (v := 0) hx hb dX2_findFloors_21 (by decide) ?_
  refine lv_istore_n (lv' := [(3, .int 0), (0, .ref d), (1, .ref h), (2, .int 0)]) hx hb dX2_findFloors_22 rfl hl (by decide) rfl (fun ls hl => ?_)
  refine lv_iload_n hx hb dX2_findFloors_23 rfl (lv_at hl 0 rfl) ?_
  refine lv_aload_n hx hb dX2_findFloors_24 rfl (lv_at hl 2 rfl) ?_
  have hPc := hP.sub (ws' := [(h, .inr (2, fh)), (hd, .inl (cH, 12, .inl f))]) [1, 2] rfl
  have hDc := hD.sub (ws' := [(h, .inr (2, fh)), (hd, .inl (cH, 12, .inl f))]) [1, 2] (by decide) rfl
  have hKc := hK.sub (tys' := [(cH, .int)]) [0] rfl
  have hFc := va_free (wc := [(h, .inr (2, fh)), (hd, .inl (cH, 12, .inl f))]) hD hS hA [1, 2] rfl
  refine va_calli (va_runV (C := "Seattable$House") (As := []) (rest := [.int 0]) ⟨hx, hb, hml, hown, hG⟩ (c_House_lands l dC dI z h fh hd cH f H.size hl_fh hf_fh_0 hv_0 hv_1) (cwV 0 hG (gV m_268 m_269 m_270 m_133 m_267) rfl rfl rfl (by decide +kernel) ⟨Nat.le_of_ble_eq_true rfl, Nat.le_of_ble_eq_true rfl⟩) ⟨pre_blind, va_recv hKc hPc (ci := 2) (q0 := 0) rfl rfl, fun U hU hW => ⟨rfl, pre_call hU hW hPc hKc hDc hN (zkeep hZ hS) hFc⟩⟩ rfl rfl hl.1 rfl (lv_room (Nat.le_of_ble_eq_true rfl)) dX2_findFloors_25 ⟨Nat.le_of_ble_eq_true rfl, Nat.le_of_ble_eq_true rfl⟩) hS (fun q _ h => hFc q h) hFc (fun r7 u t H locs ht hvm hw hB hz1 hk1 hS => ?_)
  obtain ⟨hP1, hK1, hD1⟩ := hB
  rw [ht] at hP1
  have hK1 := va_K.moved hvm.symm hK1
  try dsimp only at hw
  subst hw
  obtain ⟨hP, hD⟩ := va_join (wr := [(d, .inr (5, fd)), (fl, .inl (cF, 6, .inl f6))]) (w1 := [(h, .inr (2, fh)), (hd, .inl (cH, 12, .inl f))]) hP hD [1, 2] [0, 3] rfl rfl (by decide) (by decide) hk1 hFc hP1 hD1
  have hK := (hK.sub (tys' := [(cF, .int)]) [1] rfl).app hK1
  have hP : va_P (dC, dI) classes [(d, .inr (5, fd)), (fl, .inl (cF, 6, .inl f6)), (h, .inr (2, fh)), (hd, .inl (cH, 12, .inl f))] H := hP
  have hD : va_D A [(d, .inr (5, fd)), (fl, .inl (cF, 6, .inl f6)), (h, .inr (2, fh)), (hd, .inl (cH, 12, .inl f))] := hD
  have hK : va_K (dC, dI) classes [(cF, .int), (cH, .int)] s := hK
  refine lv_icmp_ge (tgt := 106) hx hb dX2_findFloors_28 (by decide) (fun _ => ?_) (fun c9 => absurd (by decide) c9)
  have hP9 := hP.sub (ws' := [(d, .inr (5, fd)), (h, .inr (2, fh)), (hd, .inl (cH, 12, .inl f)), (fl, .inl (cF, 6, .inl f6))]) [0, 2, 3, 1] rfl
  have hD9 := hD.sub (ws' := [(d, .inr (5, fd)), (h, .inr (2, fh)), (hd, .inl (cH, 12, .inl f)), (fl, .inl (cF, 6, .inl f6))]) [0, 2, 3, 1] (by decide) rfl
  have hK9 := hK.sub (tys' := [(cH, .int), (cF, .int)]) [1, 0] rfl
  exact W.vret hx hb hr (fun t ht hW => ⟨⟨(), rfl, trivial, f6, by rw [ht]; exact hP9, va_K.moved hW.alike hK9, hD9⟩, hS.F ht⟩) hS.2.2 dX2_findFloors_106

set_option maxHeartbeats 4000000 in
set_option maxRecDepth 100000 in
theorem c_Dealer_isWithinBounds (l : Launch) (dC : Nat → ClassId) (dI : Nat → Nat → Nat) (z : Nat) (d : Nat) (fd : List Value) (n : Nat) (sz : Nat) (hl_fd : fd.length = 13) (hf_fd_10 : fd[10]? = some (.int 0)) (hn1 : 1 ≤ n) (hn2 : n ≤ 400) : Met l yX2_isWithinBounds (Cond.code yX2_isWithinBounds cX2_isWithinBounds 5 (some .boolean) :: G) ({ frames := 1, cells := 0, slots := 0, locals := 12 }) (va_Pc [.ref d, .int (nI n)] (pre_ dC dI [(d, .inr (5, fd))] [] sz z)) (va_Qi (fun (r : Int32) (_ : Unit) => r = 0) (fun _ t => va_P (dC, dI) classes [(d, .inr (5, fd))] t.heap ∧ va_K (dC, dI) classes [] t ∧ va_D (va_A [(d, .inr (5, fd))] sz) [(d, .inr (5, fd))]) (va_A [(d, .inr (5, fd))] sz)) 0 0 (va_A [(d, .inr (5, fd))] sz) := by
  refine Met.ofW (cc := cX2_isWithinBounds) (maxL := 5) (ret := (some .boolean)) (by decide) rfl ?_
  intro p e s m args below meth c s₁ B hml hv
  obtain ⟨rfl, hv⟩ := hv
  obtain ⟨hsz, hP, hK, hD0, hN, hZ⟩ := hv
  have hx := B.exec
  have hb := B.bytes
  have hr := B.returns
  have hG : ∀ w ∈ G, w.before _ s = true := fun w h => atoms_spec (ws := Cond.code yX2_isWithinBounds cX2_isWithinBounds 5 (some .boolean) :: G) B.pre w (List.mem_cons_of_mem _ h)
  have hown : s.vm.findClass "Seattable$Dealer" = some m.cls := findClass_of_methodNamed B.named
  have hlocks := B.notSynchronized
  subst hsz
  have hD := hD0.self (sz := s.heap.size)
  generalize hAe : va_A [(d, .inr (5, fd))] s.heap.size = A at hD hZ ⊢
  have hA : ∀ q : Nat, s.heap.size ≤ q → A q := fun q h => by rw [← hAe]; exact Or.inr h
  have hS : va_S A s.heap s.heap [] := va_S.rf
  have hP : va_P (dC, dI) classes [(d, .inr (5, fd))] s.heap := hP
  have hl := lv_entry ([.ref d, .int (nI n)]) (n := 5) (Nat.le_of_ble_eq_true rfl)
  rw [lg_entry_eq]
  generalize (lg_sl ([.ref d, .int (nI n)]) ++ List.replicate (5 - (lg_sl ([.ref d, .int (nI n)])).length) Slot.unset).toArray = ls at hl ⊢
  have hl : lv_has ls 5 [(0, .ref d), (1, .int (nI n))] := hl
  refine lv_iconst (v := 0) hx hb dX2_isWithinBounds_0 (by decide) ?_
  refine lv_istore_n (lv' := [(2, .int 0), (0, .ref d), (1, .int (nI n))]) hx hb dX2_isWithinBounds_1 rfl hl (by decide) rfl (fun ls hl => ?_)
  refine lv_iconst (v := 0) hx hb dX2_isWithinBounds_2 (by decide) ?_
  refine lv_istore_n (lv' := [(3, .int 0), (2, .int 0), (0, .ref d), (1, .int (nI n))]) hx hb dX2_isWithinBounds_3 rfl hl (by decide) rfl (fun ls hl => ?_)
  refine lv_iconst (v := 0) hx hb dX2_isWithinBounds_4 (by decide) ?_
  refine lv_istore (lv' := [(4, .int 0), (3, .int 0), (2, .int 0), (0, .ref d), (1, .int (nI n))]) hx hb dX2_isWithinBounds_5 hl (by decide) rfl (fun ls hl => ?_)
  refine lv_iload hx hb dX2_isWithinBounds_7 (lv_at hl 0 rfl) ?_
  refine lv_aload_n hx hb dX2_isWithinBounds_9 rfl (lv_at hl 3 rfl) ?_
  refine va_get (D := (dC, dI)) (ci := 5) (v := .int 0) (C := RX2) (T := TX2) (N := 13) hx hb hG iX2 hown hK hP 0 rfl rfl 10 (by decide) (hG _ m_251) (fun _ h9 => h9) hf_fd_10 dX2_isWithinBounds_10 ?_
  refine lv_icmp_ge (tgt := 64) hx hb dX2_isWithinBounds_13 (by decide) (fun _ => ?_) (fun c9 => absurd (by decide) c9)
  refine lv_iload_n hx hb dX2_isWithinBounds_64 rfl (lv_at hl 4 rfl) ?_
  refine lv_iload_n hx hb dX2_isWithinBounds_65 rfl (lv_at hl 2 rfl) ?_
  refine lv_icmp_lt (tgt := 78) hx hb dX2_isWithinBounds_66 (by decide) (fun c9 => absurd c9 (nI_pos (by omega))) (fun _ => ?_)
  refine lv_iload_n hx hb dX2_isWithinBounds_69 rfl (lv_at hl 4 rfl) ?_
  refine lv_iload_n hx hb dX2_isWithinBounds_70 rfl (lv_at hl 1 rfl) ?_
  refine lv_icmp_gt (tgt := 78) hx hb dX2_isWithinBounds_71 (by decide) (fun _ => ?_) (fun c9 => absurd (nI_gt0 hn1 hn2) c9)
  refine lv_iconst (v := 0) hx hb dX2_isWithinBounds_78 (by decide) ?_
  have hP9 := hP.sub (ws' := [(d, .inr (5, fd))]) [0] rfl
  have hD9 := hD.sub (ws' := [(d, .inr (5, fd))]) [0] (by decide) rfl
  have hK9 := hK.sub (tys' := []) [] rfl
  exact W.zret (v := 0) (ty := .boolean) hx hb hr (by decide) (fun t ht hW => ⟨⟨0, (), rfl, rfl, by rw [ht]; exact hP9, va_K.moved hW.alike hK9, hD9⟩, hS.F ht⟩) hS.2.2 dX2_isWithinBounds_79

set_option maxHeartbeats 4000000 in
set_option maxRecDepth 100000 in
theorem c_Dealer_isDealt (l : Launch) (dC : Nat → ClassId) (dI : Nat → Nat → Nat) (z : Nat) (d : Nat) (fd : List Value) (n : Nat) (sz : Nat) (hl_fd : fd.length = 13) (hf_fd_10 : fd[10]? = some (.int 0)) (hn1 : 1 ≤ n) (hn2 : n ≤ 400) : Met l yX2_isDealt (Cond.code yX2_isDealt cX2_isDealt 4 (some .boolean) :: G) ({ frames := 2, cells := 0, slots := 0, locals := 36 }) (va_Pc [.ref d, .int 0, .int (nI n)] (pre_ dC dI [(d, .inr (5, fd))] [] sz z)) (va_Qi (fun (r : Int32) (_ : Unit) => r = 0) (fun _ t => va_P (dC, dI) classes [(d, .inr (5, fd))] t.heap ∧ va_K (dC, dI) classes [] t ∧ va_D (va_A [(d, .inr (5, fd))] sz) [(d, .inr (5, fd))]) (va_A [(d, .inr (5, fd))] sz)) 0 0 (va_A [(d, .inr (5, fd))] sz) := by
  refine Met.ofW (cc := cX2_isDealt) (maxL := 4) (ret := (some .boolean)) (by decide) rfl ?_
  intro p e s m args below meth c s₁ B hml hv
  obtain ⟨rfl, hv⟩ := hv
  obtain ⟨hsz, hP, hK, hD0, hN, hZ⟩ := hv
  have hx := B.exec
  have hb := B.bytes
  have hr := B.returns
  have hG : ∀ w ∈ G, w.before _ s = true := fun w h => atoms_spec (ws := Cond.code yX2_isDealt cX2_isDealt 4 (some .boolean) :: G) B.pre w (List.mem_cons_of_mem _ h)
  have hown : s.vm.findClass "Seattable$Dealer" = some m.cls := findClass_of_methodNamed B.named
  have hlocks := B.notSynchronized
  subst hsz
  have hD := hD0.self (sz := s.heap.size)
  generalize hAe : va_A [(d, .inr (5, fd))] s.heap.size = A at hD hZ ⊢
  have hA : ∀ q : Nat, s.heap.size ≤ q → A q := fun q h => by rw [← hAe]; exact Or.inr h
  have hS : va_S A s.heap s.heap [] := va_S.rf
  have hP : va_P (dC, dI) classes [(d, .inr (5, fd))] s.heap := hP
  have hl := lv_entry ([.ref d, .int 0, .int (nI n)]) (n := 4) (Nat.le_of_ble_eq_true rfl)
  rw [lg_entry_eq]
  generalize (lg_sl ([.ref d, .int 0, .int (nI n)]) ++ List.replicate (4 - (lg_sl ([.ref d, .int 0, .int (nI n)])).length) Slot.unset).toArray = ls at hl ⊢
  have hl : lv_has ls 4 [(0, .ref d), (1, .int 0), (2, .int (nI n))] := hl
  refine lv_iload_n hx hb dX2_isDealt_0 rfl (lv_at hl 1 rfl) ?_
  refine lv_iconst (v := 3) hx hb dX2_isDealt_1 (by decide) ?_
  refine lv_icmp_lt (tgt := 9) hx hb dX2_isDealt_2 (by decide) (fun _ => ?_) (fun c9 => absurd (by decide) c9)
  refine lv_iconst (v := 0) hx hb dX2_isDealt_9 (by decide) ?_
  refine lv_istore_n (lv' := [(3, .int 0), (0, .ref d), (1, .int 0), (2, .int (nI n))]) hx hb dX2_isDealt_10 rfl hl (by decide) rfl (fun ls hl => ?_)
  refine lv_iload_n hx hb dX2_isDealt_11 rfl (lv_at hl 0 rfl) ?_
  refine lv_if_eq (tgt := 27) hx hb dX2_isDealt_12 (by decide) (fun _ => ?_) (fun c9 => absurd (by decide) c9)
  refine lv_aload_n hx hb dX2_isDealt_27 rfl (lv_at hl 1 rfl) ?_
  refine lv_iload_n hx hb dX2_isDealt_28 rfl (lv_at hl 3 rfl) ?_
  have hPc := hP.sub (ws' := [(d, .inr (5, fd))]) [0] rfl
  have hDc := hD.sub (ws' := [(d, .inr (5, fd))]) [0] (by decide) rfl
  have hKc := hK.sub (tys' := []) [] rfl
  have hFc := va_free (wc := [(d, .inr (5, fd))]) hD hS hA [0] rfl
  refine va_calli (va_runV (C := "Seattable$Dealer") (As := [.int (nI n)]) (rest := []) ⟨hx, hb, hml, hown, hG⟩ (c_Dealer_isWithinBounds l dC dI z d fd n s.heap.size hl_fd hf_fd_10 hn1 hn2) (cwV 1 hG (gV m_272 m_273 m_274 m_155 m_271) rfl rfl rfl (by decide +kernel) ⟨Nat.le_of_ble_eq_true rfl, Nat.le_of_ble_eq_true rfl⟩) ⟨pre_blind, va_recv hKc hPc (ci := 5) (q0 := 0) rfl rfl, fun U hU hW => ⟨rfl, pre_call hU hW hPc hKc hDc hN (zkeep hZ hS) hFc⟩⟩ rfl rfl hl.1 rfl (lv_room (Nat.le_of_ble_eq_true rfl)) dX2_isDealt_29 ⟨Nat.le_of_ble_eq_true rfl, Nat.le_of_ble_eq_true rfl⟩) hS (fun q _ h => hFc q h) hFc (fun r1 u t H locs ht hvm hw hB hz1 hk1 hS => ?_)
  obtain ⟨hP1, hK1, hD1⟩ := hB
  rw [ht] at hP1
  have hK1 := va_K.moved hvm.symm hK1
  try dsimp only at hw
  subst hw
  obtain ⟨hP, hD⟩ := va_join (wr := []) (w1 := [(d, .inr (5, fd))]) hP hD [0] [] rfl rfl (by decide) (by decide) hk1 hFc hP1 hD1
  have hK := (hK.sub (tys' := []) [] rfl).app hK1
  have hP : va_P (dC, dI) classes [(d, .inr (5, fd))] H := hP
  have hD : va_D A [(d, .inr (5, fd))] := hD
  have hK : va_K (dC, dI) classes [] s := hK
  refine lv_if_ne (tgt := 37) hx hb dX2_isDealt_32 (by decide) (fun c9 => absurd (by decide) c9) (fun _ => ?_)
  refine lv_iconst (v := 0) hx hb dX2_isDealt_35 (by decide) ?_
  have hP9 := hP.sub (ws' := [(d, .inr (5, fd))]) [0] rfl
  have hD9 := hD.sub (ws' := [(d, .inr (5, fd))]) [0] (by decide) rfl
  have hK9 := hK.sub (tys' := []) [] rfl
  exact W.zret (v := 0) (ty := .boolean) hx hb hr (by decide) (fun t ht hW => ⟨⟨0, (), rfl, rfl, by rw [ht]; exact hP9, va_K.moved hW.alike hK9, hD9⟩, hS.F ht⟩) hS.2.2 dX2_isDealt_36

set_option maxHeartbeats 4000000 in
set_option maxRecDepth 100000 in
theorem c_Dealer_isGrown (l : Launch) (dC : Nat → ClassId) (dI : Nat → Nat → Nat) (z : Nat) (d : Nat) (fd : List Value) (n : Nat) (sz : Nat) (hl_fd : fd.length = 13) (hf_fd_10 : fd[10]? = some (.int 0)) (hn1 : 1 ≤ n) (hn2 : n ≤ 400) : Met l yX2_isGrown (Cond.code yX2_isGrown cX2_isGrown 4 (some .boolean) :: G) ({ frames := 3, cells := 0, slots := 0, locals := 59 }) (va_Pc [.ref d, .int 0, .int (nI n), .int 0] (pre_ dC dI [(d, .inr (5, fd))] [] sz z)) (va_Qi (fun (r : Int32) (_ : Unit) => r = 0) (fun _ t => va_P (dC, dI) classes [(d, .inr (5, fd))] t.heap ∧ va_K (dC, dI) classes [] t ∧ va_D (va_A [(d, .inr (5, fd))] sz) [(d, .inr (5, fd))]) (va_A [(d, .inr (5, fd))] sz)) 0 0 (va_A [(d, .inr (5, fd))] sz) := by
  refine Met.ofW (cc := cX2_isGrown) (maxL := 4) (ret := (some .boolean)) (by decide) rfl ?_
  intro p e s m args below meth c s₁ B hml hv
  obtain ⟨rfl, hv⟩ := hv
  obtain ⟨hsz, hP, hK, hD0, hN, hZ⟩ := hv
  have hx := B.exec
  have hb := B.bytes
  have hr := B.returns
  have hG : ∀ w ∈ G, w.before _ s = true := fun w h => atoms_spec (ws := Cond.code yX2_isGrown cX2_isGrown 4 (some .boolean) :: G) B.pre w (List.mem_cons_of_mem _ h)
  have hown : s.vm.findClass "Seattable$Dealer" = some m.cls := findClass_of_methodNamed B.named
  have hlocks := B.notSynchronized
  subst hsz
  have hD := hD0.self (sz := s.heap.size)
  generalize hAe : va_A [(d, .inr (5, fd))] s.heap.size = A at hD hZ ⊢
  have hA : ∀ q : Nat, s.heap.size ≤ q → A q := fun q h => by rw [← hAe]; exact Or.inr h
  have hS : va_S A s.heap s.heap [] := va_S.rf
  have hP : va_P (dC, dI) classes [(d, .inr (5, fd))] s.heap := hP
  have hl := lv_entry ([.ref d, .int 0, .int (nI n), .int 0]) (n := 4) (Nat.le_of_ble_eq_true rfl)
  rw [lg_entry_eq]
  generalize (lg_sl ([.ref d, .int 0, .int (nI n), .int 0]) ++ List.replicate (4 - (lg_sl ([.ref d, .int 0, .int (nI n), .int 0])).length) Slot.unset).toArray = ls at hl ⊢
  have hl : lv_has ls 4 [(0, .ref d), (1, .int 0), (2, .int (nI n)), (3, .int 0)] := hl
  refine lv_iload_n hx hb dX2_isGrown_0 rfl (lv_at hl 1 rfl) ?_
  refine lv_iconst (v := 3) hx hb dX2_isGrown_1 (by decide) ?_
  refine lv_icmp_ge (tgt := 9) hx hb dX2_isGrown_2 (by decide) (fun c9 => absurd c9 (by decide)) (fun _ => ?_)
  refine lv_iload_n hx hb dX2_isGrown_5 rfl (lv_at hl 3 rfl) ?_
  refine lv_if_ne (tgt := 16) hx hb dX2_isGrown_6 (by decide) (fun c9 => absurd (by decide) c9) (fun _ => ?_)
  refine lv_aload_n hx hb dX2_isGrown_9 rfl (lv_at hl 0 rfl) ?_
  refine lv_iload_n hx hb dX2_isGrown_10 rfl (lv_at hl 1 rfl) ?_
  refine lv_iload_n hx hb dX2_isGrown_11 rfl (lv_at hl 2 rfl) ?_
  have hPc := hP.sub (ws' := [(d, .inr (5, fd))]) [0] rfl
  have hDc := hD.sub (ws' := [(d, .inr (5, fd))]) [0] (by decide) rfl
  have hKc := hK.sub (tys' := []) [] rfl
  have hFc := va_free (wc := [(d, .inr (5, fd))]) hD hS hA [0] rfl
  refine va_calli (va_runV (C := "Seattable$Dealer") (As := [.int 0, .int (nI n)]) (rest := []) ⟨hx, hb, hml, hown, hG⟩ (c_Dealer_isDealt l dC dI z d fd n s.heap.size hl_fd hf_fd_10 hn1 hn2) (cwV 2 hG (gV m_276 m_277 m_278 m_155 m_275) rfl rfl rfl (by decide +kernel) ⟨Nat.le_of_ble_eq_true rfl, Nat.le_of_ble_eq_true rfl⟩) ⟨pre_blind, va_recv hKc hPc (ci := 5) (q0 := 0) rfl rfl, fun U hU hW => ⟨rfl, pre_call hU hW hPc hKc hDc hN (zkeep hZ hS) hFc⟩⟩ rfl rfl hl.1 rfl (lv_room (Nat.le_of_ble_eq_true rfl)) dX2_isGrown_12 ⟨Nat.le_of_ble_eq_true rfl, Nat.le_of_ble_eq_true rfl⟩) hS (fun q _ h => hFc q h) hFc (fun r1 u t H locs ht hvm hw hB hz1 hk1 hS => ?_)
  obtain ⟨hP1, hK1, hD1⟩ := hB
  rw [ht] at hP1
  have hK1 := va_K.moved hvm.symm hK1
  try dsimp only at hw
  subst hw
  obtain ⟨hP, hD⟩ := va_join (wr := []) (w1 := [(d, .inr (5, fd))]) hP hD [0] [] rfl rfl (by decide) (by decide) hk1 hFc hP1 hD1
  have hK := (hK.sub (tys' := []) [] rfl).app hK1
  have hP : va_P (dC, dI) classes [(d, .inr (5, fd))] H := hP
  have hD : va_D A [(d, .inr (5, fd))] := hD
  have hK : va_K (dC, dI) classes [] s := hK
  have hP9 := hP.sub (ws' := [(d, .inr (5, fd))]) [0] rfl
  have hD9 := hD.sub (ws' := [(d, .inr (5, fd))]) [0] (by decide) rfl
  have hK9 := hK.sub (tys' := []) [] rfl
  exact W.zret (v := 0) (ty := .boolean) hx hb hr (by decide) (fun t ht hW => ⟨⟨0, (), rfl, rfl, by rw [ht]; exact hP9, va_K.moved hW.alike hK9, hD9⟩, hS.F ht⟩) hS.2.2 dX2_isGrown_15

set_option maxHeartbeats 4000000 in
set_option maxRecDepth 100000 in
theorem c_Dealer_evenedHouse (l : Launch) (dC : Nat → ClassId) (dI : Nat → Nat → Nat) (z : Nat) (d : Nat) (fd : List Value) (sz : Nat) (hl_fd : fd.length = 13) (hf_fd_10 : fd[10]? = some (.int 0)) : Met l yX2_evenedHouse (Cond.code yX2_evenedHouse cX2_evenedHouse 5 (some .int) :: G) ({ frames := 4, cells := 0, slots := 0, locals := 82 }) (va_Pc [.ref d, .int 0, .int 1] (pre_ dC dI [(d, .inr (5, fd))] [] sz z)) (va_Qi (fun (r : Int32) (_ : Unit) => r = (-1)) (fun _ t => va_P (dC, dI) classes [(d, .inr (5, fd))] t.heap ∧ va_K (dC, dI) classes [] t ∧ va_D (va_A [(d, .inr (5, fd))] sz) [(d, .inr (5, fd))]) (va_A [(d, .inr (5, fd))] sz)) 0 0 (va_A [(d, .inr (5, fd))] sz) := by
  refine Met.ofW (cc := cX2_evenedHouse) (maxL := 5) (ret := (some .int)) (by decide) rfl ?_
  intro p e s m args below meth c s₁ B hml hv
  obtain ⟨rfl, hv⟩ := hv
  obtain ⟨hsz, hP, hK, hD0, hN, hZ⟩ := hv
  have hx := B.exec
  have hb := B.bytes
  have hr := B.returns
  have hG : ∀ w ∈ G, w.before _ s = true := fun w h => atoms_spec (ws := Cond.code yX2_evenedHouse cX2_evenedHouse 5 (some .int) :: G) B.pre w (List.mem_cons_of_mem _ h)
  have hown : s.vm.findClass "Seattable$Dealer" = some m.cls := findClass_of_methodNamed B.named
  have hlocks := B.notSynchronized
  subst hsz
  have hD := hD0.self (sz := s.heap.size)
  generalize hAe : va_A [(d, .inr (5, fd))] s.heap.size = A at hD hZ ⊢
  have hA : ∀ q : Nat, s.heap.size ≤ q → A q := fun q h => by rw [← hAe]; exact Or.inr h
  have hS : va_S A s.heap s.heap [] := va_S.rf
  have hP : va_P (dC, dI) classes [(d, .inr (5, fd))] s.heap := hP
  have hl := lv_entry ([.ref d, .int 0, .int 1]) (n := 5) (Nat.le_of_ble_eq_true rfl)
  rw [lg_entry_eq]
  generalize (lg_sl ([.ref d, .int 0, .int 1]) ++ List.replicate (5 - (lg_sl ([.ref d, .int 0, .int 1])).length) Slot.unset).toArray = ls at hl ⊢
  have hl : lv_has ls 5 [(0, .ref d), (1, .int 0), (2, .int 1)] := hl
  refine lv_iconst (v := 0) hx hb dX2_evenedHouse_0 (by decide) ?_
  refine lv_istore_n (lv' := [(3, .int 0), (0, .ref d), (1, .int 0), (2, .int 1)]) hx hb dX2_evenedHouse_1 rfl hl (by decide) rfl (fun ls hl => ?_)
  refine lv_iload_n hx hb dX2_evenedHouse_2 rfl (lv_at hl 3 rfl) ?_
  refine lv_istore (lv' := [(4, .int 1), (3, .int 0), (0, .ref d), (1, .int 0), (2, .int 1)]) hx hb dX2_evenedHouse_3 hl (by decide) rfl (fun ls hl => ?_)
  refine loopW (I := fun n H locs ls => 1 ≤ n ∧ va_P (dC, dI) classes [(d, .inr (5, fd))] H ∧ va_S A s.heap H locs ∧ lv_has ls 5 [(0, .ref d), (1, .int 0), (2, .int 1), (3, .int 0), (4, .int (nI n))]) (C := fun _ => (0, 0)) 401 ?_ ?_ 1 (by decide) s.heap [] ls ⟨by decide, hP, hS, lv_sub hl [2, 3, 4, 1, 0] rfl⟩
  · intro H locs ls hI
    obtain ⟨hn1, hP, hS, hl⟩ := hI
    refine lv_iload hx hb dX2_evenedHouse_5 (lv_at hl 4 rfl) ?_
    refine lv_sipush (v := 400) hx hb dX2_evenedHouse_7 (by decide) ?_
    refine lv_icmp_gt (tgt := 42) hx hb dX2_evenedHouse_10 (by decide) (fun _ => ?_) (fun c9 => absurd (by decide) c9)
    refine lv_iconst (v := (-1)) hx hb dX2_evenedHouse_42 (by decide) ?_
    have hP9 := hP.sub (ws' := [(d, .inr (5, fd))]) [0] rfl
    have hD9 := hD.sub (ws' := [(d, .inr (5, fd))]) [0] (by decide) rfl
    have hK9 := hK.sub (tys' := []) [] rfl
    exact W.iret (v := (-1)) hx hb hr (fun t ht hW => ⟨⟨(-1), (), rfl, rfl, by rw [ht]; exact hP9, va_K.moved hW.alike hK9, hD9⟩, hS.F ht⟩) hS.2.2 dX2_evenedHouse_43
  · intro n hh ih H locs ls hI
    obtain ⟨hn1, hP, hS, hl⟩ := hI
    refine lv_iload hx hb dX2_evenedHouse_5 (lv_at hl 4 rfl) ?_
    refine lv_sipush (v := 400) hx hb dX2_evenedHouse_7 (by decide) ?_
    refine lv_icmp_gt (tgt := 42) hx hb dX2_evenedHouse_10 (by decide) (fun c9 => absurd c9 (nI_ngt n hh)) (fun _ => ?_)
    refine lv_aload_n hx hb dX2_evenedHouse_13 rfl (lv_at hl 0 rfl) ?_
    refine lv_iload_n hx hb dX2_evenedHouse_14 rfl (lv_at hl 1 rfl) ?_
    refine lv_iload hx hb dX2_evenedHouse_15 (lv_at hl 4 rfl) ?_
    refine lv_iload_n hx hb dX2_evenedHouse_17 rfl (lv_at hl 3 rfl) ?_
    have hPc := hP.sub (ws' := [(d, .inr (5, fd))]) [0] rfl
    have hDc := hD.sub (ws' := [(d, .inr (5, fd))]) [0] (by decide) rfl
    have hKc := hK.sub (tys' := []) [] rfl
    have hFc := va_free (wc := [(d, .inr (5, fd))]) hD hS hA [0] rfl
    refine va_calli (va_runV (C := "Seattable$Dealer") (As := [.int 0, .int (nI n), .int 0]) (rest := []) ⟨hx, hb, hml, hown, hG⟩ (c_Dealer_isGrown l dC dI z d fd n H.size hl_fd hf_fd_10 hn1 (by omega)) (cwV 3 hG (gV m_280 m_281 m_282 m_155 m_279) rfl rfl rfl (by decide +kernel) ⟨Nat.le_of_ble_eq_true rfl, Nat.le_of_ble_eq_true rfl⟩) ⟨pre_blind, va_recv hKc hPc (ci := 5) (q0 := 0) rfl rfl, fun U hU hW => ⟨rfl, pre_call hU hW hPc hKc hDc hN (zkeep hZ hS) hFc⟩⟩ rfl rfl hl.1 rfl (lv_room (Nat.le_of_ble_eq_true rfl)) dX2_evenedHouse_18 ⟨Nat.le_of_ble_eq_true rfl, Nat.le_of_ble_eq_true rfl⟩) hS (fun q _ h => hFc q h) hFc (fun r1 u t H locs ht hvm hw hB hz1 hk1 hS => ?_)
    obtain ⟨hP1, hK1, hD1⟩ := hB
    rw [ht] at hP1
    have hK1 := va_K.moved hvm.symm hK1
    try dsimp only at hw
    subst hw
    obtain ⟨hP, hD⟩ := va_join (wr := []) (w1 := [(d, .inr (5, fd))]) hP hD [0] [] rfl rfl (by decide) (by decide) hk1 hFc hP1 hD1
    have hK := (hK.sub (tys' := []) [] rfl).app hK1
    have hP : va_P (dC, dI) classes [(d, .inr (5, fd))] H := hP
    have hD : va_D A [(d, .inr (5, fd))] := hD
    have hK : va_K (dC, dI) classes [] s := hK
    refine lv_istore_n (lv' := [(3, .int 0), (0, .ref d), (1, .int 0), (2, .int 1), (4, .int (nI n))]) hx hb dX2_evenedHouse_21 rfl hl (by decide) rfl (fun ls hl => ?_)
    refine lv_iload_n hx hb dX2_evenedHouse_22 rfl (lv_at hl 0 rfl) ?_
    refine lv_if_eq (tgt := 36) hx hb dX2_evenedHouse_23 (by decide) (fun _ => ?_) (fun c9 => absurd (by decide) c9)
    refine lv_iinc (v := nI (n + 1)) (lv' := [(4, .int (nI (n + 1))), (3, .int 0), (0, .ref d), (1, .int 0), (2, .int 1)]) hx hb dX2_evenedHouse_36 hl (k := 4) rfl (nI_1 n) (by decide) rfl (fun ls hl => ?_)
    refine lv_goto (tgt := 5) hx hb dX2_evenedHouse_39 (by decide) ?_
    exact ih H locs ls ⟨by omega, hP, hS, lv_sub hl [2, 3, 4, 1, 0] rfl⟩

set_option maxHeartbeats 4000000 in
set_option maxRecDepth 100000 in
theorem c_Seattable_tiers (l : Launch) (dC : Nat → ClassId) (dI : Nat → Nat → Nat) (z : Nat) (x : Nat) (fx : List Value) (h : Nat) (fh : List Value) (hd : Nat) (cH : ClassId) (f : Nat → Int32) (d : Nat) (fd : List Value) (fl : Nat) (cF : ClassId) (g : Nat → Int32) (sz : Nat) (hl_fx : fx.length = 14) (hf_fx_0 : fx[0]? = some (.ref h)) (hf_fx_8 : fx[8]? = some (.ref d)) (hl_fh : fh.length = 19) (hf_fh_0 : fh[0]? = some (.ref hd)) (hl_fd : fd.length = 13) (hf_fd_1 : fd[1]? = some (.ref fl)) (hv_0 : f 0 = 0) (hv_1 : f 1 = 0) : Met l yX11_tiers (Cond.code yX11_tiers cX11_tiers 5 (some .int) :: G) ({ frames := 5, cells := 0, slots := 0, locals := 106 }) (va_Pc [.ref x, .int 0, .int 0, .int 1, .int 0] (pre_ dC dI [(x, .inr (12, fx)), (h, .inr (2, fh)), (d, .inr (5, fd)), (hd, .inl (cH, 12, .inl f)), (fl, .inl (cF, 6, .inl g))] [(cH, .int), (cF, .int)] sz z)) (va_Qi (fun (r : Int32) (_ : Unit) => r = (-1)) (fun _ t => ∃ (fs7 : List Value), ∃ (f5 : Nat → Int32), va_P (dC, dI) classes [(x, .inr (12, fx)), (h, .inr (2, fh)), (d, .inr (5, fs7)), (hd, .inl (cH, 12, .inl f)), (fl, .inl (cF, 6, .inl f5))] t.heap ∧ va_K (dC, dI) classes [(cH, .int), (cF, .int)] t ∧ va_D (va_A [(x, .inr (12, fx)), (h, .inr (2, fh)), (d, .inr (5, fd)), (hd, .inl (cH, 12, .inl f)), (fl, .inl (cF, 6, .inl g))] sz) [(x, .inr (12, fx)), (h, .inr (2, fh)), (d, .inr (5, fs7)), (hd, .inl (cH, 12, .inl f)), (fl, .inl (cF, 6, .inl f5))] ∧ fs7.length = 13 ∧ fs7[1]? = some (.ref fl)) (va_A [(x, .inr (12, fx)), (h, .inr (2, fh)), (d, .inr (5, fd)), (hd, .inl (cH, 12, .inl f)), (fl, .inl (cF, 6, .inl g))] sz)) 0 0 (va_A [(x, .inr (12, fx)), (h, .inr (2, fh)), (d, .inr (5, fd)), (hd, .inl (cH, 12, .inl f)), (fl, .inl (cF, 6, .inl g))] sz) := by
  refine Met.ofW (cc := cX11_tiers) (maxL := 5) (ret := (some .int)) (by decide) rfl ?_
  intro p e s m args below meth c s₁ B hml hv
  obtain ⟨rfl, hv⟩ := hv
  obtain ⟨hsz, hP, hK, hD0, hN, hZ⟩ := hv
  have hx := B.exec
  have hb := B.bytes
  have hr := B.returns
  have hG : ∀ w ∈ G, w.before _ s = true := fun w h => atoms_spec (ws := Cond.code yX11_tiers cX11_tiers 5 (some .int) :: G) B.pre w (List.mem_cons_of_mem _ h)
  have hown : s.vm.findClass "Seattable" = some m.cls := findClass_of_methodNamed B.named
  have hlocks := B.notSynchronized
  subst hsz
  have hD := hD0.self (sz := s.heap.size)
  generalize hAe : va_A [(x, .inr (12, fx)), (h, .inr (2, fh)), (d, .inr (5, fd)), (hd, .inl (cH, 12, .inl f)), (fl, .inl (cF, 6, .inl g))] s.heap.size = A at hD hZ ⊢
  have hA : ∀ q : Nat, s.heap.size ≤ q → A q := fun q h => by rw [← hAe]; exact Or.inr h
  have hS : va_S A s.heap s.heap [] := va_S.rf
  have hP : va_P (dC, dI) classes [(x, .inr (12, fx)), (h, .inr (2, fh)), (d, .inr (5, fd)), (hd, .inl (cH, 12, .inl f)), (fl, .inl (cF, 6, .inl g))] s.heap := hP
  have hl := lv_entry ([.ref x, .int 0, .int 0, .int 1, .int 0]) (n := 5) (Nat.le_of_ble_eq_true rfl)
  rw [lg_entry_eq]
  generalize (lg_sl ([.ref x, .int 0, .int 0, .int 1, .int 0]) ++ List.replicate (5 - (lg_sl ([.ref x, .int 0, .int 0, .int 1, .int 0])).length) Slot.unset).toArray = ls at hl ⊢
  have hl : lv_has ls 5 [(0, .ref x), (1, .int 0), (2, .int 0), (3, .int 1), (4, .int 0)] := hl
  refine lv_iload_n hx hb dX11_tiers_0 rfl (lv_at hl 1 rfl) ?_
  refine lv_iconst (v := 0) hx hb dX11_tiers_1 (by decide) ?_
  refine lv_iconst (v := 4) hx hb dX11_tiers_2 (by decide) ?_
  have hPc := hP.sub (ws' := []) [] rfl
  have hDc := hD.sub (ws' := []) [] (by decide) rfl
  have hKc := hK.sub (tys' := []) [] rfl
  have hFc := va_free (wc := []) hD hS hA [] rfl
  refine va_calli (va_runS (As := [.int 0, .int 0, .int 4]) (rest := []) ⟨hx, hb, hml, hown, hG⟩ (c_isWithin_004 l dC dI z s.heap.size) (va_cwS 3 hG (gS m_284 m_285 m_286 m_283) rfl rfl rfl (by decide +kernel) ⟨Nat.le_of_ble_eq_true rfl, Nat.le_of_ble_eq_true rfl⟩) ⟨pre_blind, fun U hU hW => ⟨rfl, pre_call hU hW hPc hKc hDc hN (zkeep hZ hS) hFc⟩⟩ rfl rfl hl.1 rfl (lv_room (Nat.le_of_ble_eq_true rfl)) dX11_tiers_3 ⟨Nat.le_of_ble_eq_true rfl, Nat.le_of_ble_eq_true rfl⟩) hS (fun q _ h => hFc q h) hFc (fun r1 u t H locs ht hvm hw hB hz1 hk1 hS => ?_)
  obtain ⟨hP1, hK1, hD1⟩ := hB
  rw [ht] at hP1
  have hK1 := va_K.moved hvm.symm hK1
  try dsimp only at hw
  subst hw
  obtain ⟨hP, hD⟩ := va_join (wr := [(x, .inr (12, fx)), (h, .inr (2, fh)), (d, .inr (5, fd)), (hd, .inl (cH, 12, .inl f)), (fl, .inl (cF, 6, .inl g))]) (w1 := []) hP hD [] [0, 1, 2, 3, 4] rfl rfl (by decide) (by decide) hk1 hFc hP1 hD1
  have hK := (hK.sub (tys' := [(cH, .int), (cF, .int)]) [0, 1] rfl).app hK1
  have hP : va_P (dC, dI) classes [(x, .inr (12, fx)), (h, .inr (2, fh)), (d, .inr (5, fd)), (hd, .inl (cH, 12, .inl f)), (fl, .inl (cF, 6, .inl g))] H := hP
  have hD : va_D A [(x, .inr (12, fx)), (h, .inr (2, fh)), (d, .inr (5, fd)), (hd, .inl (cH, 12, .inl f)), (fl, .inl (cF, 6, .inl g))] := hD
  have hK : va_K (dC, dI) classes [(cH, .int), (cF, .int)] s := hK
  refine lv_if_eq (tgt := 29) hx hb dX11_tiers_6 (by decide) (fun c9 => absurd c9 (by decide)) (fun _ => ?_)
  refine lv_iload_n hx hb dX11_tiers_9 rfl (lv_at hl 2 rfl) ?_
  refine lv_iconst (v := 0) hx hb dX11_tiers_10 (by decide) ?_
  refine lv_iconst (v := 4) hx hb dX11_tiers_11 (by decide) ?_
  have hPc := hP.sub (ws' := []) [] rfl
  have hDc := hD.sub (ws' := []) [] (by decide) rfl
  have hKc := hK.sub (tys' := []) [] rfl
  have hFc := va_free (wc := []) hD hS hA [] rfl
  refine va_calli (va_runS (As := [.int 0, .int 0, .int 4]) (rest := []) ⟨hx, hb, hml, hown, hG⟩ (c_isWithin_004 l dC dI z H.size) (va_cwS 3 hG (gS m_284 m_285 m_286 m_283) rfl rfl rfl (by decide +kernel) ⟨Nat.le_of_ble_eq_true rfl, Nat.le_of_ble_eq_true rfl⟩) ⟨pre_blind, fun U hU hW => ⟨rfl, pre_call hU hW hPc hKc hDc hN (zkeep hZ hS) hFc⟩⟩ rfl rfl hl.1 rfl (lv_room (Nat.le_of_ble_eq_true rfl)) dX11_tiers_12 ⟨Nat.le_of_ble_eq_true rfl, Nat.le_of_ble_eq_true rfl⟩) hS (fun q _ h => hFc q h) hFc (fun r2 u t H locs ht hvm hw hB hz1 hk1 hS => ?_)
  obtain ⟨hP1, hK1, hD1⟩ := hB
  rw [ht] at hP1
  have hK1 := va_K.moved hvm.symm hK1
  try dsimp only at hw
  subst hw
  obtain ⟨hP, hD⟩ := va_join (wr := [(x, .inr (12, fx)), (h, .inr (2, fh)), (d, .inr (5, fd)), (hd, .inl (cH, 12, .inl f)), (fl, .inl (cF, 6, .inl g))]) (w1 := []) hP hD [] [0, 1, 2, 3, 4] rfl rfl (by decide) (by decide) hk1 hFc hP1 hD1
  have hK := (hK.sub (tys' := [(cH, .int), (cF, .int)]) [0, 1] rfl).app hK1
  have hP : va_P (dC, dI) classes [(x, .inr (12, fx)), (h, .inr (2, fh)), (d, .inr (5, fd)), (hd, .inl (cH, 12, .inl f)), (fl, .inl (cF, 6, .inl g))] H := hP
  have hD : va_D A [(x, .inr (12, fx)), (h, .inr (2, fh)), (d, .inr (5, fd)), (hd, .inl (cH, 12, .inl f)), (fl, .inl (cF, 6, .inl g))] := hD
  have hK : va_K (dC, dI) classes [(cH, .int), (cF, .int)] s := hK
  refine lv_if_eq (tgt := 29) hx hb dX11_tiers_15 (by decide) (fun c9 => absurd c9 (by decide)) (fun _ => ?_)
  refine lv_iload_n hx hb dX11_tiers_18 rfl (lv_at hl 3 rfl) ?_
  refine lv_iconst (v := 1) hx hb dX11_tiers_19 (by decide) ?_
  refine lv_sipush (v := 400) hx hb dX11_tiers_20 (by decide) ?_
  have hPc := hP.sub (ws' := []) [] rfl
  have hDc := hD.sub (ws' := []) [] (by decide) rfl
  have hKc := hK.sub (tys' := []) [] rfl
  have hFc := va_free (wc := []) hD hS hA [] rfl
  refine va_calli (va_runS (As := [.int 1, .int 1, .int 400]) (rest := []) ⟨hx, hb, hml, hown, hG⟩ (c_isWithin_11400 l dC dI z H.size) (va_cwS 3 hG (gS m_284 m_285 m_286 m_283) rfl rfl rfl (by decide +kernel) ⟨Nat.le_of_ble_eq_true rfl, Nat.le_of_ble_eq_true rfl⟩) ⟨pre_blind, fun U hU hW => ⟨rfl, pre_call hU hW hPc hKc hDc hN (zkeep hZ hS) hFc⟩⟩ rfl rfl hl.1 rfl (lv_room (Nat.le_of_ble_eq_true rfl)) dX11_tiers_23 ⟨Nat.le_of_ble_eq_true rfl, Nat.le_of_ble_eq_true rfl⟩) hS (fun q _ h => hFc q h) hFc (fun r3 u t H locs ht hvm hw hB hz1 hk1 hS => ?_)
  obtain ⟨hP1, hK1, hD1⟩ := hB
  rw [ht] at hP1
  have hK1 := va_K.moved hvm.symm hK1
  try dsimp only at hw
  subst hw
  obtain ⟨hP, hD⟩ := va_join (wr := [(x, .inr (12, fx)), (h, .inr (2, fh)), (d, .inr (5, fd)), (hd, .inl (cH, 12, .inl f)), (fl, .inl (cF, 6, .inl g))]) (w1 := []) hP hD [] [0, 1, 2, 3, 4] rfl rfl (by decide) (by decide) hk1 hFc hP1 hD1
  have hK := (hK.sub (tys' := [(cH, .int), (cF, .int)]) [0, 1] rfl).app hK1
  have hP : va_P (dC, dI) classes [(x, .inr (12, fx)), (h, .inr (2, fh)), (d, .inr (5, fd)), (hd, .inl (cH, 12, .inl f)), (fl, .inl (cF, 6, .inl g))] H := hP
  have hD : va_D A [(x, .inr (12, fx)), (h, .inr (2, fh)), (d, .inr (5, fd)), (hd, .inl (cH, 12, .inl f)), (fl, .inl (cF, 6, .inl g))] := hD
  have hK : va_K (dC, dI) classes [(cH, .int), (cF, .int)] s := hK
  refine lv_if_ne (tgt := 37) hx hb dX11_tiers_26 (by decide) (fun _ => ?_) (fun c9 => absurd c9 (by decide))
  refine lv_iload hx hb dX11_tiers_37 (lv_at hl 4 rfl) ?_
  refine lv_if_lt (tgt := 59) hx hb dX11_tiers_39 (by decide) (fun c9 => absurd c9 (by decide)) (fun _ => ?_)
  refine lv_iload hx hb dX11_tiers_42 (lv_at hl 4 rfl) ?_
  refine lv_iconst (v := 2) hx hb dX11_tiers_44 (by decide) ?_
  refine lv_icmp_lt (tgt := 67) hx hb dX11_tiers_45 (by decide) (fun _ => ?_) (fun c9 => absurd (by decide) c9)
  refine lv_aload_n hx hb dX11_tiers_67 rfl (lv_at hl 0 rfl) ?_
  refine va_get (D := (dC, dI)) (ci := 12) (v := .ref d) (C := RX11) (T := TX11) (N := 14) hx hb hG iX11 hown hK hP 0 rfl rfl 8 (by decide) (hG _ m_158) (fun _ h9 => h9) hf_fx_8 dX11_tiers_68 ?_
  refine lv_aload_n hx hb dX11_tiers_71 rfl (lv_at hl 0 rfl) ?_
  refine va_get (D := (dC, dI)) (ci := 12) (v := .ref h) (C := RX11) (T := TX11) (N := 14) hx hb hG iX11 hown hK hP 0 rfl rfl 0 (by decide) (hG _ m_137) (fun _ h9 => h9) hf_fx_0 dX11_tiers_72 ?_
  refine lv_iload_n hx hb dX11_tiers_75 rfl (lv_at hl 1 rfl) ?_
  have hPc := hP.sub (ws' := [(d, .inr (5, fd)), (h, .inr (2, fh)), (hd, .inl (cH, 12, .inl f)), (fl, .inl (cF, 6, .inl g))]) [2, 1, 3, 4] rfl
  have hDc := hD.sub (ws' := [(d, .inr (5, fd)), (h, .inr (2, fh)), (hd, .inl (cH, 12, .inl f)), (fl, .inl (cF, 6, .inl g))]) [2, 1, 3, 4] (by decide) rfl
  have hKc := hK.sub (tys' := [(cH, .int), (cF, .int)]) [0, 1] rfl
  have hFc := va_free (wc := [(d, .inr (5, fd)), (h, .inr (2, fh)), (hd, .inl (cH, 12, .inl f)), (fl, .inl (cF, 6, .inl g))]) hD hS hA [2, 1, 3, 4] rfl
  refine va_callv (va_runV (C := "Seattable$Dealer") (As := [.ref h, .int 0]) (rest := []) ⟨hx, hb, hml, hown, hG⟩ (c_Dealer_findFloors l dC dI z d fd h fh hd cH f fl cF g H.size hl_fd hf_fd_1 hl_fh hf_fh_0 hv_0 hv_1) (cwV 2 hG (gV m_288 m_289 m_290 m_155 m_287) rfl rfl rfl (by decide +kernel) ⟨Nat.le_of_ble_eq_true rfl, Nat.le_of_ble_eq_true rfl⟩) ⟨pre_blind, va_recv hKc hPc (ci := 5) (q0 := 0) rfl rfl, fun U hU hW => ⟨rfl, pre_call hU hW hPc hKc hDc hN (zkeep hZ hS) hFc⟩⟩ rfl rfl hl.1 rfl (lv_room (Nat.le_of_ble_eq_true rfl)) dX11_tiers_76 ⟨Nat.le_of_ble_eq_true rfl, Nat.le_of_ble_eq_true rfl⟩) hS (fun q _ h => hFc q h) hFc (fun u t H locs ht hvm hw hB hz1 hk1 hS => ?_)
  obtain ⟨f5, hP1, hK1, hD1⟩ := hB
  rw [ht] at hP1
  have hK1 := va_K.moved hvm.symm hK1
  obtain ⟨hP, hD⟩ := va_join (wr := [(x, .inr (12, fx))]) (w1 := [(d, .inr (5, fd)), (h, .inr (2, fh)), (hd, .inl (cH, 12, .inl f)), (fl, .inl (cF, 6, .inl f5))]) hP hD [2, 1, 3, 4] [0] rfl rfl (by decide) (by decide) hk1 hFc hP1 hD1
  have hK := (hK.sub (tys' := []) [] rfl).app hK1
  have hP : va_P (dC, dI) classes [(x, .inr (12, fx)), (d, .inr (5, fd)), (h, .inr (2, fh)), (hd, .inl (cH, 12, .inl f)), (fl, .inl (cF, 6, .inl f5))] H := hP
  have hD : va_D A [(x, .inr (12, fx)), (d, .inr (5, fd)), (h, .inr (2, fh)), (hd, .inl (cH, 12, .inl f)), (fl, .inl (cF, 6, .inl f5))] := hD
  have hK : va_K (dC, dI) classes [(cH, .int), (cF, .int)] s := hK
  refine lv_iload hx hb dX11_tiers_79 (lv_at hl 4 rfl) ?_
  refine lv_iconst (v := 2) hx hb dX11_tiers_81 (by decide) ?_
  refine lv_icmp_lt (tgt := 98) hx hb dX11_tiers_82 (by decide) (fun _ => ?_) (fun c9 => absurd (by decide) c9)
  refine lv_aload_n hx hb dX11_tiers_98 rfl (lv_at hl 0 rfl) ?_
  refine va_get (D := (dC, dI)) (ci := 12) (v := .ref d) (C := RX11) (T := TX11) (N := 14) hx hb hG iX11 hown hK hP 0 rfl rfl 8 (by decide) (hG _ m_158) (fun _ h9 => h9) hf_fx_8 dX11_tiers_99 ?_
  refine lv_aload_n hx hb dX11_tiers_102 rfl (lv_at hl 0 rfl) ?_
  refine va_get (D := (dC, dI)) (ci := 12) (v := .ref h) (C := RX11) (T := TX11) (N := 14) hx hb hG iX11 hown hK hP 0 rfl rfl 0 (by decide) (hG _ m_137) (fun _ h9 => h9) hf_fx_0 dX11_tiers_103 ?_
  refine lv_iconst (v := 0) hx hb dX11_tiers_106 (by decide) ?_
  refine lv_iconst (v := 0) hx hb dX11_tiers_107 (by decide) ?_
  have hPc := hP.sub (ws' := [(d, .inr (5, fd)), (h, .inr (2, fh)), (hd, .inl (cH, 12, .inl f))]) [1, 2, 3] rfl
  have hDc := hD.sub (ws' := [(d, .inr (5, fd)), (h, .inr (2, fh)), (hd, .inl (cH, 12, .inl f))]) [1, 2, 3] (by decide) rfl
  have hKc := hK.sub (tys' := [(cH, .int)]) [0] rfl
  have hFc := va_free (wc := [(d, .inr (5, fd)), (h, .inr (2, fh)), (hd, .inl (cH, 12, .inl f))]) hD hS hA [1, 2, 3] rfl
  refine va_callv (va_runV (C := "Seattable$Dealer") (As := [.ref h, .int 0, .int 0]) (rest := []) ⟨hx, hb, hml, hown, hG⟩ (c_Dealer_line l dC dI z d fd h fh hd cH f fl H.size hl_fd hf_fd_1 hl_fh hf_fh_0 hv_0 hv_1) (cwV 3 hG (gV m_292 m_293 m_294 m_155 m_291) rfl rfl rfl (by decide +kernel) ⟨Nat.le_of_ble_eq_true rfl, Nat.le_of_ble_eq_true rfl⟩) ⟨pre_blind, va_recv hKc hPc (ci := 5) (q0 := 0) rfl rfl, fun U hU hW => ⟨rfl, pre_call hU hW hPc hKc hDc hN (zkeep hZ hS) hFc⟩⟩ rfl rfl hl.1 rfl (lv_room (Nat.le_of_ble_eq_true rfl)) dX11_tiers_108 ⟨Nat.le_of_ble_eq_true rfl, Nat.le_of_ble_eq_true rfl⟩) hS (fun q _ h => hFc q h) hFc (fun u t H locs ht hvm hw hB hz1 hk1 hS => ?_)
  obtain ⟨fs7, hP1, hK1, hD1, hy8, hy9, hy10⟩ := hB
  rw [ht] at hP1
  have hK1 := va_K.moved hvm.symm hK1
  obtain ⟨hP, hD⟩ := va_join (wr := [(x, .inr (12, fx)), (fl, .inl (cF, 6, .inl f5))]) (w1 := [(d, .inr (5, fs7)), (h, .inr (2, fh)), (hd, .inl (cH, 12, .inl f))]) hP hD [1, 2, 3] [0, 4] rfl rfl (by decide) (by decide) hk1 hFc hP1 hD1
  have hK := (hK.sub (tys' := [(cF, .int)]) [1] rfl).app hK1
  have hP : va_P (dC, dI) classes [(x, .inr (12, fx)), (fl, .inl (cF, 6, .inl f5)), (d, .inr (5, fs7)), (h, .inr (2, fh)), (hd, .inl (cH, 12, .inl f))] H := hP
  have hD : va_D A [(x, .inr (12, fx)), (fl, .inl (cF, 6, .inl f5)), (d, .inr (5, fs7)), (h, .inr (2, fh)), (hd, .inl (cH, 12, .inl f))] := hD
  have hK : va_K (dC, dI) classes [(cF, .int), (cH, .int)] s := hK
  refine lv_iload hx hb dX11_tiers_111 (lv_at hl 4 rfl) ?_
  refine lv_if_ne (tgt := 128) hx hb dX11_tiers_113 (by decide) (fun c9 => absurd (by decide) c9) (fun _ => ?_)
  refine lv_aload_n hx hb dX11_tiers_116 rfl (lv_at hl 0 rfl) ?_
  refine va_get (D := (dC, dI)) (ci := 12) (v := .ref d) (C := RX11) (T := TX11) (N := 14) hx hb hG iX11 hown hK hP 0 rfl rfl 8 (by decide) (hG _ m_158) (fun _ h9 => h9) hf_fx_8 dX11_tiers_117 ?_
  refine lv_iload_n hx hb dX11_tiers_120 rfl (lv_at hl 2 rfl) ?_
  refine lv_iload_n hx hb dX11_tiers_121 rfl (lv_at hl 3 rfl) ?_
  have hPc := hP.sub (ws' := [(d, .inr (5, fs7))]) [2] rfl
  have hDc := hD.sub (ws' := [(d, .inr (5, fs7))]) [2] (by decide) rfl
  have hKc := hK.sub (tys' := []) [] rfl
  have hFc := va_free (wc := [(d, .inr (5, fs7))]) hD hS hA [2] rfl
  refine va_calli (va_runV (C := "Seattable$Dealer") (As := [.int 0, .int 1]) (rest := []) ⟨hx, hb, hml, hown, hG⟩ (c_Dealer_evenedHouse l dC dI z d fs7 H.size hy8 hy10) (cwV 2 hG (gV m_296 m_297 m_298 m_155 m_295) rfl rfl rfl (by decide +kernel) ⟨Nat.le_of_ble_eq_true rfl, Nat.le_of_ble_eq_true rfl⟩) ⟨pre_blind, va_recv hKc hPc (ci := 5) (q0 := 0) rfl rfl, fun U hU hW => ⟨rfl, pre_call hU hW hPc hKc hDc hN (zkeep hZ hS) hFc⟩⟩ rfl rfl hl.1 rfl (lv_room (Nat.le_of_ble_eq_true rfl)) dX11_tiers_122 ⟨Nat.le_of_ble_eq_true rfl, Nat.le_of_ble_eq_true rfl⟩) hS (fun q _ h => hFc q h) hFc (fun r11 u t H locs ht hvm hw hB hz1 hk1 hS => ?_)
  obtain ⟨hP1, hK1, hD1⟩ := hB
  rw [ht] at hP1
  have hK1 := va_K.moved hvm.symm hK1
  try dsimp only at hw
  subst hw
  obtain ⟨hP, hD⟩ := va_join (wr := [(x, .inr (12, fx)), (fl, .inl (cF, 6, .inl f5)), (h, .inr (2, fh)), (hd, .inl (cH, 12, .inl f))]) (w1 := [(d, .inr (5, fs7))]) hP hD [2] [0, 1, 3, 4] rfl rfl (by decide) (by decide) hk1 hFc hP1 hD1
  have hK := (hK.sub (tys' := [(cF, .int), (cH, .int)]) [0, 1] rfl).app hK1
  have hP : va_P (dC, dI) classes [(x, .inr (12, fx)), (fl, .inl (cF, 6, .inl f5)), (h, .inr (2, fh)), (hd, .inl (cH, 12, .inl f)), (d, .inr (5, fs7))] H := hP
  have hD : va_D A [(x, .inr (12, fx)), (fl, .inl (cF, 6, .inl f5)), (h, .inr (2, fh)), (hd, .inl (cH, 12, .inl f)), (d, .inr (5, fs7))] := hD
  have hK : va_K (dC, dI) classes [(cF, .int), (cH, .int)] s := hK
  refine lv_goto (tgt := 137) hx hb dX11_tiers_125 (by decide) ?_
  have hP9 := hP.sub (ws' := [(x, .inr (12, fx)), (h, .inr (2, fh)), (d, .inr (5, fs7)), (hd, .inl (cH, 12, .inl f)), (fl, .inl (cF, 6, .inl f5))]) [0, 2, 4, 3, 1] rfl
  have hD9 := hD.sub (ws' := [(x, .inr (12, fx)), (h, .inr (2, fh)), (d, .inr (5, fs7)), (hd, .inl (cH, 12, .inl f)), (fl, .inl (cF, 6, .inl f5))]) [0, 2, 4, 3, 1] (by decide) rfl
  have hK9 := hK.sub (tys' := [(cH, .int), (cF, .int)]) [1, 0] rfl
  exact W.iret (v := (-1)) hx hb hr (fun t ht hW => ⟨⟨(-1), (), rfl, rfl, fs7, f5, by rw [ht]; exact hP9, va_K.moved hW.alike hK9, hD9, hy8, hy9⟩, hS.F ht⟩) hS.2.2 dX11_tiers_137

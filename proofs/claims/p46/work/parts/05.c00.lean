set_option maxHeartbeats 4000000 in
set_option maxRecDepth 100000 in
theorem c_AbstractCollection_init (l : Launch) (dC : Nat → ClassId) (dI : Nat → Nat → Nat) (z : Nat) (a : Nat) (fs : List Value) (sz : Nat) (hl_fs : fs.length = 3) (hf_fs_2 : fs[2]? = some (.int 0)) : Met l yJxa1e45_init_da8c8 (Cond.code yJxa1e45_init_da8c8 cJxa1e45_init_da8c8 1 none :: G) ({ frames := 1, cells := 0, slots := 0, locals := 12 }) (va_Pc [.ref a] (pre_ dC dI [(a, .inr (0, fs))] [] sz z)) (va_Qv (fun _ : Unit => True) (fun _ t => va_P (dC, dI) classes [(a, .inr (0, fs))] t.heap ∧ va_K (dC, dI) classes [] t ∧ va_D (va_A [(a, .inr (0, fs))] sz) [(a, .inr (0, fs))]) (va_A [(a, .inr (0, fs))] sz)) 0 0 (va_A [(a, .inr (0, fs))] sz) := by
  refine Met.ofW (cc := cJxa1e45_init_da8c8) (maxL := 1) (ret := none) (by decide) rfl ?_
  intro p e s m args below meth c s₁ B hml hv
  obtain ⟨rfl, hv⟩ := hv
  obtain ⟨hsz, hP, hK, hD0, hN, hZ⟩ := hv
  have hx := B.exec
  have hb := B.bytes
  have hr := B.returns
  have hG : ∀ w ∈ G, w.before _ s = true := fun w h => atoms_spec (ws := Cond.code yJxa1e45_init_da8c8 cJxa1e45_init_da8c8 1 none :: G) B.pre w (List.mem_cons_of_mem _ h)
  have hown : s.vm.findClass "java/util/AbstractCollection" = some m.cls := findClass_of_methodNamed B.named
  have hlocks := B.notSynchronized
  have hin : meth.name = "<init>" := (name_of_methodNamed B.named B.method).1
  subst hsz
  have hD := hD0.self (sz := s.heap.size)
  generalize hAe : va_A [(a, .inr (0, fs))] s.heap.size = A at hD hZ ⊢
  have hA : ∀ q : Nat, s.heap.size ≤ q → A q := fun q h => by rw [← hAe]; exact Or.inr h
  have hS : va_S A s.heap s.heap [] := va_S.rf
  have hP : va_P (dC, dI) classes [(a, .inr (0, fs))] s.heap := hP
  have hl := lv_entry ([.ref a]) (n := 1) (Nat.le_of_ble_eq_true rfl)
  rw [lg_entry_eq]
  generalize (lg_sl ([.ref a]) ++ List.replicate (1 - (lg_sl ([.ref a])).length) Slot.unset).toArray = ls at hl ⊢
  have hl : lv_has ls 1 [(0, .ref a)] := hl
  refine lv_aload_n hx hb dJxa1e45_init_da8c8_0 rfl (lv_at hl 0 rfl) ?_
  refine W.objInit hx hb hown (hG _ m_0) (hG _ m_1) (hG _ m_2) rfl (by rw [hml]; exact hl.1) rfl dJxa1e45_init_da8c8_1 (Nat.le_of_ble_eq_true rfl) (Nat.le_of_ble_eq_true rfl) ?_
  refine W.eq (g2 := F0 m 4 ls []) rfl ?_
  have hP9 := hP.sub (ws' := [(a, .inr (0, fs))]) [0] rfl
  have hD9 := hD.sub (ws' := [(a, .inr (0, fs))]) [0] (by decide) rfl
  have hK9 := hK.sub (tys' := []) [] rfl
  exact W.vret hx hb hr (fun t ht hW => ⟨⟨(), rfl, trivial, by rw [ht]; exact hP9, va_K.moved hW.alike hK9, hD9⟩, hS.F ht⟩) hS.2.2 dJxa1e45_init_da8c8_4

set_option maxHeartbeats 4000000 in
set_option maxRecDepth 100000 in
theorem c_AbstractList_init (l : Launch) (dC : Nat → ClassId) (dI : Nat → Nat → Nat) (z : Nat) (a : Nat) (fs : List Value) (sz : Nat) (hl_fs : fs.length = 3) (hf_fs_2 : fs[2]? = some (.int 0)) : Met l yJxc12de_init_da8c8 (Cond.code yJxc12de_init_da8c8 cJxc12de_init_da8c8 1 none :: G) ({ frames := 2, cells := 0, slots := 0, locals := 32 }) (va_Pc [.ref a] (pre_ dC dI [(a, .inr (0, fs))] [] sz z)) (va_Qv (fun _ : Unit => True) (fun _ t => ∃ (fs2 : List Value), va_P (dC, dI) classes [(a, .inr (0, fs2))] t.heap ∧ va_K (dC, dI) classes [] t ∧ va_D (va_A [(a, .inr (0, fs))] sz) [(a, .inr (0, fs2))] ∧ fs2.length = 3 ∧ fs2[2]? = some (.int 0)) (va_A [(a, .inr (0, fs))] sz)) 0 0 (va_A [(a, .inr (0, fs))] sz) := by
  refine Met.ofW (cc := cJxc12de_init_da8c8) (maxL := 1) (ret := none) (by decide) rfl ?_
  intro p e s m args below meth c s₁ B hml hv
  obtain ⟨rfl, hv⟩ := hv
  obtain ⟨hsz, hP, hK, hD0, hN, hZ⟩ := hv
  have hx := B.exec
  have hb := B.bytes
  have hr := B.returns
  have hG : ∀ w ∈ G, w.before _ s = true := fun w h => atoms_spec (ws := Cond.code yJxc12de_init_da8c8 cJxc12de_init_da8c8 1 none :: G) B.pre w (List.mem_cons_of_mem _ h)
  have hown : s.vm.findClass "java/util/AbstractList" = some m.cls := findClass_of_methodNamed B.named
  have hlocks := B.notSynchronized
  have hin : meth.name = "<init>" := (name_of_methodNamed B.named B.method).1
  subst hsz
  have hD := hD0.self (sz := s.heap.size)
  generalize hAe : va_A [(a, .inr (0, fs))] s.heap.size = A at hD hZ ⊢
  have hA : ∀ q : Nat, s.heap.size ≤ q → A q := fun q h => by rw [← hAe]; exact Or.inr h
  have hS : va_S A s.heap s.heap [] := va_S.rf
  have hP : va_P (dC, dI) classes [(a, .inr (0, fs))] s.heap := hP
  have hl := lv_entry ([.ref a]) (n := 1) (Nat.le_of_ble_eq_true rfl)
  rw [lg_entry_eq]
  generalize (lg_sl ([.ref a]) ++ List.replicate (1 - (lg_sl ([.ref a])).length) Slot.unset).toArray = ls at hl ⊢
  have hl : lv_has ls 1 [(0, .ref a)] := hl
  refine lv_aload_n hx hb dJxc12de_init_da8c8_0 rfl (lv_at hl 0 rfl) ?_
  have hPc := hP.sub (ws' := [(a, .inr (0, fs))]) [0] rfl
  have hDc := hD.sub (ws' := [(a, .inr (0, fs))]) [0] (by decide) rfl
  have hKc := hK.sub (tys' := []) [] rfl
  have hFc := va_free (wc := [(a, .inr (0, fs))]) hD hS hA [0] rfl
  refine va_callv (va_runI (As := []) (rest := []) ⟨hx, hb, hml, hown, hG⟩ (c_AbstractCollection_init l dC dI z a fs s.heap.size hl_fs hf_fs_2) (cwI 0 hG (gI m_3) rfl rfl rfl (hG _ m_4) (hG _ m_5) (hG _ m_6) rfl (by decide +kernel) ⟨Nat.le_of_ble_eq_true rfl, Nat.le_of_ble_eq_true rfl⟩) ⟨pre_blind, fun U hU hW => ⟨rfl, pre_call hU hW hPc hKc hDc hN (zkeep hZ hS) hFc⟩⟩ rfl rfl hl.1 rfl (lv_room (Nat.le_of_ble_eq_true rfl)) dJxc12de_init_da8c8_1 ⟨Nat.le_of_ble_eq_true rfl, Nat.le_of_ble_eq_true rfl⟩) hS (fun q _ h => hFc q h) hFc (fun u t H locs ht hvm hw hB hz1 hk1 hS => ?_)
  obtain ⟨hP1, hK1, hD1⟩ := hB
  rw [ht] at hP1
  have hK1 := va_K.moved hvm.symm hK1
  obtain ⟨hP, hD⟩ := va_join (wr := []) (w1 := [(a, .inr (0, fs))]) hP hD [0] [] rfl rfl (by decide) (by decide) hk1 hFc hP1 hD1
  have hK := (hK.sub (tys' := []) [] rfl).app hK1
  have hP : va_P (dC, dI) classes [(a, .inr (0, fs))] H := hP
  have hD : va_D A [(a, .inr (0, fs))] := hD
  have hK : va_K (dC, dI) classes [] s := hK
  refine lv_aload_n hx hb dJxc12de_init_da8c8_4 rfl (lv_at hl 0 rfl) ?_
  refine lv_iconst (v := 0) hx hb dJxc12de_init_da8c8_5 (by decide) ?_
  refine va_put (D := (dC, dI)) (ci := 0) (v := .int 0) (ty := .int) (C := RJx4a65c) (T := TJx4a65c) (N := 3) hx hb hG iJx4a65c tyJx4a65c tyJx4a65c_ok nmJx4a65c hown hK hP hD hS 0 rfl rfl 0 (by decide) (hG _ m_7) (fun _ h9 => h9) rfl (by decide +kernel) rfl rfl (by rw [hl_fs]; decide) dJxc12de_init_da8c8_6 (fun H locs hP hD hS => ?_)
  have hP : va_P (dC, dI) classes [(a, .inr (0, (fs.set 0 (.int 0))))] H := hP
  have hD : va_D A [(a, .inr (0, (fs.set 0 (.int 0))))] := hD
  obtain ⟨fs2, efs2⟩ : ∃ y : List Value, y = fs.set 0 (.int 0) := ⟨_, rfl⟩
  rw [← efs2] at hP hD
  have hl_3 : fs2.length = 3 := by rw [efs2, List.length_set]; exact hl_fs
  have hf_4 : fs2[2]? = some (.int 0) := by rw [efs2]; exact fs_set_ne hf_fs_2 (by decide)
  have hP9 := hP.sub (ws' := [(a, .inr (0, fs2))]) [0] rfl
  have hD9 := hD.sub (ws' := [(a, .inr (0, fs2))]) [0] (by decide) rfl
  have hK9 := hK.sub (tys' := []) [] rfl
  exact W.vret hx hb hr (fun t ht hW => ⟨⟨(), rfl, trivial, fs2, by rw [ht]; exact hP9, va_K.moved hW.alike hK9, hD9, hl_3, hf_4⟩, hS.F ht⟩) hS.2.2 dJxc12de_init_da8c8_9

set_option maxHeartbeats 4000000 in
set_option maxRecDepth 100000 in
theorem c_ArrayList_init (l : Launch) (dC : Nat → ClassId) (dI : Nat → Nat → Nat) (z : Nat) (a : Nat) (fs : List Value) (sz : Nat) (hl_fs : fs.length = 3) (hf_fs_2 : fs[2]? = some (.int 0)) : Met l yJx4a65c_init_da8c8 (Cond.code yJx4a65c_init_da8c8 cJx4a65c_init_da8c8 1 none :: G) ({ frames := 3, cells := 0, slots := 0, locals := 52 }) (va_Pc [.ref a] (pre_ dC dI [(a, .inr (0, fs))] [] sz z)) (va_Qv (fun _ : Unit => True) (fun _ t => ∃ (fs5 : List Value), va_P (dC, dI) classes [(a, .inr (0, fs5))] t.heap ∧ va_K (dC, dI) classes [] t ∧ va_D (va_A [(a, .inr (0, fs))] sz) [(a, .inr (0, fs5))] ∧ fs5.length = 3 ∧ fs5[2]? = some (.int 0)) (va_A [(a, .inr (0, fs))] sz)) 0 0 (va_A [(a, .inr (0, fs))] sz) := by
  refine Met.ofW (cc := cJx4a65c_init_da8c8) (maxL := 1) (ret := none) (by decide) rfl ?_
  intro p e s m args below meth c s₁ B hml hv
  obtain ⟨rfl, hv⟩ := hv
  obtain ⟨hsz, hP, hK, hD0, hN, hZ⟩ := hv
  have hx := B.exec
  have hb := B.bytes
  have hr := B.returns
  have hG : ∀ w ∈ G, w.before _ s = true := fun w h => atoms_spec (ws := Cond.code yJx4a65c_init_da8c8 cJx4a65c_init_da8c8 1 none :: G) B.pre w (List.mem_cons_of_mem _ h)
  have hown : s.vm.findClass "java/util/ArrayList" = some m.cls := findClass_of_methodNamed B.named
  have hlocks := B.notSynchronized
  have hin : meth.name = "<init>" := (name_of_methodNamed B.named B.method).1
  subst hsz
  have hD := hD0.self (sz := s.heap.size)
  generalize hAe : va_A [(a, .inr (0, fs))] s.heap.size = A at hD hZ ⊢
  have hA : ∀ q : Nat, s.heap.size ≤ q → A q := fun q h => by rw [← hAe]; exact Or.inr h
  have hS : va_S A s.heap s.heap [] := va_S.rf
  have hP : va_P (dC, dI) classes [(a, .inr (0, fs))] s.heap := hP
  have hl := lv_entry ([.ref a]) (n := 1) (Nat.le_of_ble_eq_true rfl)
  rw [lg_entry_eq]
  generalize (lg_sl ([.ref a]) ++ List.replicate (1 - (lg_sl ([.ref a])).length) Slot.unset).toArray = ls at hl ⊢
  have hl : lv_has ls 1 [(0, .ref a)] := hl
  refine lv_aload_n hx hb dJx4a65c_init_da8c8_0 rfl (lv_at hl 0 rfl) ?_
  have hPc := hP.sub (ws' := [(a, .inr (0, fs))]) [0] rfl
  have hDc := hD.sub (ws' := [(a, .inr (0, fs))]) [0] (by decide) rfl
  have hKc := hK.sub (tys' := []) [] rfl
  have hFc := va_free (wc := [(a, .inr (0, fs))]) hD hS hA [0] rfl
  refine va_callv (va_runI (As := []) (rest := []) ⟨hx, hb, hml, hown, hG⟩ (c_AbstractList_init l dC dI z a fs s.heap.size hl_fs hf_fs_2) (cwI 0 hG (gI m_8) rfl rfl rfl (hG _ m_9) (hG _ m_10) (hG _ m_11) rfl (by decide +kernel) ⟨Nat.le_of_ble_eq_true rfl, Nat.le_of_ble_eq_true rfl⟩) ⟨pre_blind, fun U hU hW => ⟨rfl, pre_call hU hW hPc hKc hDc hN (zkeep hZ hS) hFc⟩⟩ rfl rfl hl.1 rfl (lv_room (Nat.le_of_ble_eq_true rfl)) dJx4a65c_init_da8c8_1 ⟨Nat.le_of_ble_eq_true rfl, Nat.le_of_ble_eq_true rfl⟩) hS (fun q _ h => hFc q h) hFc (fun u t H locs ht hvm hw hB hz1 hk1 hS => ?_)
  obtain ⟨fs2, hP1, hK1, hD1, hy3, hy4⟩ := hB
  rw [ht] at hP1
  have hK1 := va_K.moved hvm.symm hK1
  obtain ⟨hP, hD⟩ := va_join (wr := []) (w1 := [(a, .inr (0, fs2))]) hP hD [0] [] rfl rfl (by decide) (by decide) hk1 hFc hP1 hD1
  have hK := (hK.sub (tys' := []) [] rfl).app hK1
  have hP : va_P (dC, dI) classes [(a, .inr (0, fs2))] H := hP
  have hD : va_D A [(a, .inr (0, fs2))] := hD
  have hK : va_K (dC, dI) classes [] s := hK
  refine lv_aload_n hx hb dJx4a65c_init_da8c8_4 rfl (lv_at hl 0 rfl) ?_
  refine va_gets hx hb hZ hS hown (hG _ m_12) (fun _ h9 => h9) dJx4a65c_init_da8c8_5 ?_
  refine va_put (D := (dC, dI)) (ci := 0) (v := .ref z) (ty := .array (.object "java/lang/Object")) (C := RJx4a65c) (T := TJx4a65c) (N := 3) hx hb hG iJx4a65c tyJx4a65c tyJx4a65c_ok nmJx4a65c hown hK hP hD hS 0 rfl rfl 1 (by decide) (hG _ m_13) (fun _ h9 => h9) rfl (by decide +kernel) rfl rfl (by rw [hy3]; decide) dJx4a65c_init_da8c8_8 (fun H locs hP hD hS => ?_)
  have hP : va_P (dC, dI) classes [(a, .inr (0, (fs2.set 1 (.ref z))))] H := hP
  have hD : va_D A [(a, .inr (0, (fs2.set 1 (.ref z))))] := hD
  obtain ⟨fs5, efs5⟩ : ∃ y : List Value, y = fs2.set 1 (.ref z) := ⟨_, rfl⟩
  rw [← efs5] at hP hD
  have hl_6 : fs5.length = 3 := by rw [efs5, List.length_set]; exact hy3
  have hf_7 : fs5[2]? = some (.int 0) := by rw [efs5]; exact fs_set_ne hy4 (by decide)
  have hP9 := hP.sub (ws' := [(a, .inr (0, fs5))]) [0] rfl
  have hD9 := hD.sub (ws' := [(a, .inr (0, fs5))]) [0] (by decide) rfl
  have hK9 := hK.sub (tys' := []) [] rfl
  exact W.vret hx hb hr (fun t ht hW => ⟨⟨(), rfl, trivial, fs5, by rw [ht]; exact hP9, va_K.moved hW.alike hK9, hD9, hl_6, hf_7⟩, hS.F ht⟩) hS.2.2 dJx4a65c_init_da8c8_11

set_option maxHeartbeats 4000000 in
set_option maxRecDepth 100000 in
theorem c_ArrayList_isEmpty (l : Launch) (dC : Nat → ClassId) (dI : Nat → Nat → Nat) (z : Nat) (a : Nat) (fs : List Value) (sz : Nat) (hl_fs : fs.length = 3) (hf_fs_2 : fs[2]? = some (.int 0)) : Met l yJx4a65c_isEmpty_aae02 (Cond.code yJx4a65c_isEmpty_aae02 cJx4a65c_isEmpty_aae02 1 (some .boolean) :: G) ({ frames := 1, cells := 0, slots := 0, locals := 12 }) (va_Pc [.ref a] (pre_ dC dI [(a, .inr (0, fs))] [] sz z)) (va_Qi (fun (r : Int32) (_ : Unit) => r = 1) (fun _ t => va_P (dC, dI) classes [(a, .inr (0, fs))] t.heap ∧ va_K (dC, dI) classes [] t ∧ va_D (va_A [(a, .inr (0, fs))] sz) [(a, .inr (0, fs))]) (va_A [(a, .inr (0, fs))] sz)) 0 0 (va_A [(a, .inr (0, fs))] sz) := by
  refine Met.ofW (cc := cJx4a65c_isEmpty_aae02) (maxL := 1) (ret := (some .boolean)) (by decide) rfl ?_
  intro p e s m args below meth c s₁ B hml hv
  obtain ⟨rfl, hv⟩ := hv
  obtain ⟨hsz, hP, hK, hD0, hN, hZ⟩ := hv
  have hx := B.exec
  have hb := B.bytes
  have hr := B.returns
  have hG : ∀ w ∈ G, w.before _ s = true := fun w h => atoms_spec (ws := Cond.code yJx4a65c_isEmpty_aae02 cJx4a65c_isEmpty_aae02 1 (some .boolean) :: G) B.pre w (List.mem_cons_of_mem _ h)
  have hown : s.vm.findClass "java/util/ArrayList" = some m.cls := findClass_of_methodNamed B.named
  have hlocks := B.notSynchronized
  subst hsz
  have hD := hD0.self (sz := s.heap.size)
  generalize hAe : va_A [(a, .inr (0, fs))] s.heap.size = A at hD hZ ⊢
  have hA : ∀ q : Nat, s.heap.size ≤ q → A q := fun q h => by rw [← hAe]; exact Or.inr h
  have hS : va_S A s.heap s.heap [] := va_S.rf
  have hP : va_P (dC, dI) classes [(a, .inr (0, fs))] s.heap := hP
  have hl := lv_entry ([.ref a]) (n := 1) (Nat.le_of_ble_eq_true rfl)
  rw [lg_entry_eq]
  generalize (lg_sl ([.ref a]) ++ List.replicate (1 - (lg_sl ([.ref a])).length) Slot.unset).toArray = ls at hl ⊢
  have hl : lv_has ls 1 [(0, .ref a)] := hl
  refine lv_aload_n hx hb dJx4a65c_isEmpty_aae02_0 rfl (lv_at hl 0 rfl) ?_
  refine va_get (D := (dC, dI)) (ci := 0) (v := .int 0) (C := RJx4a65c) (T := TJx4a65c) (N := 3) hx hb hG iJx4a65c hown hK hP 0 rfl rfl 2 (by decide) (hG _ m_14) (fun _ h9 => h9) hf_fs_2 dJx4a65c_isEmpty_aae02_1 ?_
  refine lv_if_ne (tgt := 11) hx hb dJx4a65c_isEmpty_aae02_4 (by decide) (fun c9 => absurd (by decide) c9) (fun _ => ?_)
  refine lv_iconst (v := 1) hx hb dJx4a65c_isEmpty_aae02_7 (by decide) ?_
  refine lv_goto (tgt := 12) hx hb dJx4a65c_isEmpty_aae02_8 (by decide) ?_
  have hP9 := hP.sub (ws' := [(a, .inr (0, fs))]) [0] rfl
  have hD9 := hD.sub (ws' := [(a, .inr (0, fs))]) [0] (by decide) rfl
  have hK9 := hK.sub (tys' := []) [] rfl
  exact W.zret (v := 1) (ty := .boolean) hx hb hr (by decide) (fun t ht hW => ⟨⟨1, (), rfl, rfl, by rw [ht]; exact hP9, va_K.moved hW.alike hK9, hD9⟩, hS.F ht⟩) hS.2.2 dJx4a65c_isEmpty_aae02_12

set_option maxHeartbeats 4000000 in
set_option maxRecDepth 100000 in
theorem c_Big_init (l : Launch) (dC : Nat → ClassId) (dI : Nat → Nat → Nat) (z : Nat) (a : Nat) (fs : List Value) (sz : Nat) (hl_fs : fs.length = 2) (hf_fs_1 : fs[1]? = some (.int 0)) : Met l yX1_init (Cond.code yX1_init cX1_init 1 none :: G) ({ frames := 1, cells := 1, slots := 96, locals := 12 }) (va_Pc [.ref a] (pre_ dC dI [(a, .inr (1, fs))] [] sz z)) (va_Qv (fun _ : Unit => True) (fun _ t => ∃ (fs4 : List Value), ∃ (q1 : Nat), ∃ (cA2 : ClassId), ∃ (f3 : Nat → Int32), va_P (dC, dI) classes [(a, .inr (1, fs4)), (q1, .inl (cA2, 96, .inl f3))] t.heap ∧ va_K (dC, dI) classes [(cA2, .int)] t ∧ va_D (va_A [(a, .inr (1, fs))] sz) [(a, .inr (1, fs4)), (q1, .inl (cA2, 96, .inl f3))] ∧ fs4.length = 2 ∧ fs4[0]? = some (.ref q1) ∧ fs4[1]? = some (.int 0)) (va_A [(a, .inr (1, fs))] sz)) 1 96 (va_A [(a, .inr (1, fs))] sz) := by
  refine Met.ofW (cc := cX1_init) (maxL := 1) (ret := none) (by decide) rfl ?_
  intro p e s m args below meth c s₁ B hml hv
  obtain ⟨rfl, hv⟩ := hv
  obtain ⟨hsz, hP, hK, hD0, hN, hZ⟩ := hv
  have hx := B.exec
  have hb := B.bytes
  have hr := B.returns
  have hG : ∀ w ∈ G, w.before _ s = true := fun w h => atoms_spec (ws := Cond.code yX1_init cX1_init 1 none :: G) B.pre w (List.mem_cons_of_mem _ h)
  have hown : s.vm.findClass "Seattable$Big" = some m.cls := findClass_of_methodNamed B.named
  have hlocks := B.notSynchronized
  have hin : meth.name = "<init>" := (name_of_methodNamed B.named B.method).1
  subst hsz
  have hD := hD0.self (sz := s.heap.size)
  generalize hAe : va_A [(a, .inr (1, fs))] s.heap.size = A at hD hZ ⊢
  have hA : ∀ q : Nat, s.heap.size ≤ q → A q := fun q h => by rw [← hAe]; exact Or.inr h
  have hS : va_S A s.heap s.heap [] := va_S.rf
  have hP : va_P (dC, dI) classes [(a, .inr (1, fs))] s.heap := hP
  have hl := lv_entry ([.ref a]) (n := 1) (Nat.le_of_ble_eq_true rfl)
  rw [lg_entry_eq]
  generalize (lg_sl ([.ref a]) ++ List.replicate (1 - (lg_sl ([.ref a])).length) Slot.unset).toArray = ls at hl ⊢
  have hl : lv_has ls 1 [(0, .ref a)] := hl
  refine lv_aload_n hx hb dX1_init_0 rfl (lv_at hl 0 rfl) ?_
  refine W.objInit hx hb hown (hG _ m_15) (hG _ m_1) (hG _ m_2) rfl (by rw [hml]; exact hl.1) rfl dX1_init_1 (Nat.le_of_ble_eq_true rfl) (Nat.le_of_ble_eq_true rfl) ?_
  refine W.eq (g2 := F0 m 4 ls []) rfl ?_
  refine lv_aload_n hx hb dX1_init_4 rfl (lv_at hl 0 rfl) ?_
  refine lv_bipush (v := 96) hx hb dX1_init_5 (by decide) ?_
  refine va_newa (D := (dC, dI)) (atype := .int) (ty := .int) (N' := 96) (a0 := (96, .inl (fun _ => 0))) hx hb (hG _ m_16) rfl hK hP hD hS hA (fun cA => rfl) (by decide) (by decide) (Nat.le_of_ble_eq_true rfl) (Nat.le_of_ble_eq_true rfl) (Nat.le_of_ble_eq_true rfl) dX1_init_7 (fun q1 cA2 H hK hP hD hS => ?_)
  have hP : va_P (dC, dI) classes [(a, .inr (1, fs)), (q1, .inl (cA2, 96, .inl (fun _ => 0)))] H := hP
  have hD : va_D A [(a, .inr (1, fs)), (q1, .inl (cA2, 96, .inl (fun _ => 0)))] := hD
  have hK : va_K (dC, dI) classes [(cA2, .int)] s := hK
  obtain ⟨f3, ef3⟩ : ∃ y : Nat → Int32, y = (fun _ => 0) := ⟨_, rfl⟩
  rw [← ef3] at hP hD
  refine W.widen (k := 1) (n := 96) (Nat.le_of_ble_eq_true rfl) (Nat.le_of_ble_eq_true rfl) ?_
  refine va_putF (D := (dC, dI)) (ci := 1) (v := .ref q1) (ty := .array .int) (C := RX1) (T := TX1) (N := 2) hx hb hG iX1 tyX1 tyX1_ok nmX1 hown hK hP hD hS 0 rfl rfl 0 (by decide) (hG _ m_17) (fun _ h9 => h9) rfl hin rfl (by decide +kernel) rfl rfl (by rw [hl_fs]; decide) dX1_init_9 (fun H locs hP hD hS => ?_)
  have hP : va_P (dC, dI) classes [(a, .inr (1, (fs.set 0 (.ref q1)))), (q1, .inl (cA2, 96, .inl f3))] H := hP
  have hD : va_D A [(a, .inr (1, (fs.set 0 (.ref q1)))), (q1, .inl (cA2, 96, .inl f3))] := hD
  obtain ⟨fs4, efs4⟩ : ∃ y : List Value, y = fs.set 0 (.ref q1) := ⟨_, rfl⟩
  rw [← efs4] at hP hD
  have hl_5 : fs4.length = 2 := by rw [efs4, List.length_set]; exact hl_fs
  have hf_6 : fs4[1]? = some (.int 0) := by rw [efs4]; exact fs_set_ne hf_fs_1 (by decide)
  have hf_7 : fs4[0]? = some (.ref q1) := by rw [efs4]; exact fs_set_eq hl_fs (by decide)
  have hP9 := hP.sub (ws' := [(a, .inr (1, fs4)), (q1, .inl (cA2, 96, .inl f3))]) [0, 1] rfl
  have hD9 := hD.sub (ws' := [(a, .inr (1, fs4)), (q1, .inl (cA2, 96, .inl f3))]) [0, 1] (by decide) rfl
  have hK9 := hK.sub (tys' := [(cA2, .int)]) [0] rfl
  exact W.vret hx hb hr (fun t ht hW => ⟨⟨(), rfl, trivial, fs4, q1, cA2, f3, by rw [ht]; exact hP9, va_K.moved hW.alike hK9, hD9, hl_5, hf_7, hf_6⟩, hS.F ht⟩) hS.2.2 dX1_init_12

set_option maxHeartbeats 4000000 in
set_option maxRecDepth 100000 in
theorem c_Big_put1 (l : Launch) (dC : Nat → ClassId) (dI : Nat → Nat → Nat) (z : Nat) (a : Nat) (fs : List Value) (q : Nat) (cA : ClassId) (f : Nat → Int32) (sz : Nat) (hl_fs : fs.length = 2) (hf_fs_0 : fs[0]? = some (.ref q)) (hf_fs_1 : fs[1]? = some (.int 0)) : Met l yX1_put (Cond.code yX1_put cX1_put 5 none :: G) ({ frames := 1, cells := 0, slots := 0, locals := 12 }) (va_Pc [.ref a, .long 1] (pre_ dC dI [(a, .inr (1, fs)), (q, .inl (cA, 96, .inl f))] [(cA, .int)] sz z)) (va_Qv (fun _ : Unit => True) (fun _ t => ∃ (fs9 : List Value), va_P (dC, dI) classes [(a, .inr (1, fs9))] t.heap ∧ va_K (dC, dI) classes [] t ∧ va_D (va_A [(a, .inr (1, fs)), (q, .inl (cA, 96, .inl f))] sz) [(a, .inr (1, fs9))] ∧ fs9.length = 2) (va_A [(a, .inr (1, fs)), (q, .inl (cA, 96, .inl f))] sz)) 0 0 (va_A [(a, .inr (1, fs)), (q, .inl (cA, 96, .inl f))] sz) := by
  refine Met.ofW (cc := cX1_put) (maxL := 5) (ret := none) (by decide) rfl ?_
  intro p e s m args below meth c s₁ B hml hv
  obtain ⟨rfl, hv⟩ := hv
  obtain ⟨hsz, hP, hK, hD0, hN, hZ⟩ := hv
  have hx := B.exec
  have hb := B.bytes
  have hr := B.returns
  have hG : ∀ w ∈ G, w.before _ s = true := fun w h => atoms_spec (ws := Cond.code yX1_put cX1_put 5 none :: G) B.pre w (List.mem_cons_of_mem _ h)
  have hown : s.vm.findClass "Seattable$Big" = some m.cls := findClass_of_methodNamed B.named
  have hlocks := B.notSynchronized
  subst hsz
  have hD := hD0.self (sz := s.heap.size)
  generalize hAe : va_A [(a, .inr (1, fs)), (q, .inl (cA, 96, .inl f))] s.heap.size = A at hD hZ ⊢
  have hA : ∀ q : Nat, s.heap.size ≤ q → A q := fun q h => by rw [← hAe]; exact Or.inr h
  have hS : va_S A s.heap s.heap [] := va_S.rf
  have hP : va_P (dC, dI) classes [(a, .inr (1, fs)), (q, .inl (cA, 96, .inl f))] s.heap := hP
  have hl := lv_entry ([.ref a, .long 1]) (n := 5) (Nat.le_of_ble_eq_true rfl)
  rw [lg_entry_eq]
  generalize (lg_sl ([.ref a, .long 1]) ++ List.replicate (5 - (lg_sl ([.ref a, .long 1])).length) Slot.unset).toArray = ls at hl ⊢
  have hl : lv_has ls 5 [(0, .ref a), (1, .long 1)] := hl
  refine lv_aload_n hx hb dX1_put_0 rfl (lv_at hl 0 rfl) ?_
  refine lv_iconst (v := 0) hx hb dX1_put_1 (by decide) ?_
  refine va_put (D := (dC, dI)) (ci := 1) (v := .int 0) (ty := .int) (C := RX1) (T := TX1) (N := 2) hx hb hG iX1 tyX1 tyX1_ok nmX1 hown hK hP hD hS 0 rfl rfl 1 (by decide) (hG _ m_18) (fun _ h9 => h9) rfl (by decide +kernel) rfl rfl (by rw [hl_fs]; decide) dX1_put_2 (fun H locs hP hD hS => ?_)
  have hP : va_P (dC, dI) classes [(a, .inr (1, (fs.set 1 (.int 0)))), (q, .inl (cA, 96, .inl f))] H := hP
  have hD : va_D A [(a, .inr (1, (fs.set 1 (.int 0)))), (q, .inl (cA, 96, .inl f))] := hD
  obtain ⟨fs1, efs1⟩ : ∃ y : List Value, y = fs.set 1 (.int 0) := ⟨_, rfl⟩
  rw [← efs1] at hP hD
  have hl_2 : fs1.length = 2 := by rw [efs1, List.length_set]; exact hl_fs
  have hf_3 : fs1[0]? = some (.ref q) := by rw [efs1]; exact fs_set_ne hf_fs_0 (by decide)
  have hf_4 : fs1[1]? = some (.int 0) := by rw [efs1]; exact fs_set_eq hl_fs (by decide)
  refine lv_lload_n hx hb dX1_put_5 rfl (lv_at hl 1 rfl) ?_
  refine lv_lstore_n (lv' := [(3, .long 1), (0, .ref a), (1, .long 1)]) hx hb dX1_put_6 rfl hl (by decide) rfl (fun ls hl => ?_)
  refine lv_lload_n hx hb dX1_put_7 rfl (lv_at hl 0 rfl) ?_
  refine lv_lconst (v := 0) hx hb dX1_put_8 (by decide) ?_
  refine W.lcmp hx hb dX1_put_9 ?_
  refine lv_topi (fun x5 ex5 => ?_)
  have ex5 : x5 = 1 := by rw [ex5]; decide
  subst ex5
  refine lv_if_le (tgt := 56) hx hb dX1_put_10 (by decide) (fun c9 => absurd c9 (by decide)) (fun _ => ?_)
  refine lv_aload_n hx hb dX1_put_13 rfl (lv_at hl 1 rfl) ?_
  refine va_get (D := (dC, dI)) (ci := 1) (v := .int 0) (C := RX1) (T := TX1) (N := 2) hx hb hG iX1 hown hK hP 0 rfl rfl 1 (by decide) (hG _ m_18) (fun _ h9 => h9) hf_4 dX1_put_14 ?_
  refine lv_bipush (v := 96) hx hb dX1_put_17 (by decide) ?_
  refine lv_icmp_ge (tgt := 56) hx hb dX1_put_19 (by decide) (fun c9 => absurd c9 (by decide)) (fun _ => ?_)
  refine lv_aload_n hx hb dX1_put_22 rfl (lv_at hl 1 rfl) ?_
  refine va_get (D := (dC, dI)) (ci := 1) (v := .ref q) (C := RX1) (T := TX1) (N := 2) hx hb hG iX1 hown hK hP 0 rfl rfl 0 (by decide) (hG _ m_17) (fun _ h9 => h9) hf_3 dX1_put_23 ?_
  refine lv_aload_n hx hb dX1_put_26 rfl (lv_at hl 1 rfl) ?_
  refine va_get (D := (dC, dI)) (ci := 1) (v := .int 0) (C := RX1) (T := TX1) (N := 2) hx hb hG iX1 hown hK hP 0 rfl rfl 1 (by decide) (hG _ m_18) (fun _ h9 => h9) hf_4 dX1_put_27 ?_
  refine lv_lload_n hx hb dX1_put_30 rfl (lv_at hl 0 rfl) ?_
  refine lv_ldc2 (v := 1000000000) hx hb hown (hG _ m_19) dX1_put_31 ?_
  refine lv_lrem hx hb dX1_put_34 (by decide) ?_
  refine lv_topl (fun x6 ex6 => ?_)
  have ex6 : x6 = 1 := by rw [ex6]; decide
  subst ex6
  refine lv_l2i (v := 1) hx hb dX1_put_35 (by decide) ?_
  refine va_iast (D := (dC, dI)) hx hb hK hP hD hS 1 0 rfl rfl (by unfold vp_in; decide) dX1_put_36 (fun H locs hP hD hS => ?_)
  have hP : va_P (dC, dI) classes [(a, .inr (1, fs1)), (q, .inl (cA, 96, .inl (upd f (0 : Int32).toNatClampNeg 1)))] H := hP
  have hD : va_D A [(a, .inr (1, fs1)), (q, .inl (cA, 96, .inl (upd f (0 : Int32).toNatClampNeg 1)))] := hD
  obtain ⟨f7, ef7⟩ : ∃ y : Nat → Int32, y = (upd f (0 : Int32).toNatClampNeg 1) := ⟨_, rfl⟩
  rw [← ef7] at hP hD
  refine lv_aload_n hx hb dX1_put_37 rfl (lv_at hl 1 rfl) ?_
  refine lv_dup hx hb dX1_put_38 rfl ?_
  refine va_get (D := (dC, dI)) (ci := 1) (v := .int 0) (C := RX1) (T := TX1) (N := 2) hx hb hG iX1 hown hK hP 0 rfl rfl 1 (by decide) (hG _ m_18) (fun _ h9 => h9) hf_4 dX1_put_39 ?_
  refine lv_iconst (v := 1) hx hb dX1_put_42 (by decide) ?_
  refine lv_iadd hx hb dX1_put_43 ?_
  refine lv_topi (fun x8 ex8 => ?_)
  have ex8 : x8 = 1 := by rw [ex8]; decide
  subst ex8
  refine va_put (D := (dC, dI)) (ci := 1) (v := .int 1) (ty := .int) (C := RX1) (T := TX1) (N := 2) hx hb hG iX1 tyX1 tyX1_ok nmX1 hown hK hP hD hS 0 rfl rfl 1 (by decide) (hG _ m_18) (fun _ h9 => h9) rfl (by decide +kernel) rfl rfl (by rw [hl_2]; decide) dX1_put_44 (fun H locs hP hD hS => ?_)
  have hP : va_P (dC, dI) classes [(a, .inr (1, (fs1.set 1 (.int 1)))), (q, .inl (cA, 96, .inl f7))] H := hP
  have hD : va_D A [(a, .inr (1, (fs1.set 1 (.int 1)))), (q, .inl (cA, 96, .inl f7))] := hD
  obtain ⟨fs9, efs9⟩ : ∃ y : List Value, y = fs1.set 1 (.int 1) := ⟨_, rfl⟩
  rw [← efs9] at hP hD
  have hl_10 : fs9.length = 2 := by rw [efs9, List.length_set]; exact hl_2
  have hf_11 : fs9[0]? = some (.ref q) := by rw [efs9]; exact fs_set_ne hf_3 (by decide)
  have hf_12 : fs9[1]? = some (.int 1) := by rw [efs9]; exact fs_set_eq hl_2 (by decide)
  refine lv_lload_n hx hb dX1_put_47 rfl (lv_at hl 0 rfl) ?_
  refine lv_ldc2 (v := 1000000000) hx hb hown (hG _ m_19) dX1_put_48 ?_
  refine lv_ldiv hx hb dX1_put_51 (by decide) ?_
  refine lv_topl (fun x13 ex13 => ?_)
  have ex13 : x13 = 0 := by rw [ex13]; decide
  subst ex13
  refine lv_lstore_n (lv' := [(3, .long 0), (0, .ref a), (1, .long 1)]) hx hb dX1_put_52 rfl hl (by decide) rfl (fun ls hl => ?_)
  refine lv_goto (tgt := 7) hx hb dX1_put_53 (by decide) ?_
  refine lv_lload_n hx hb dX1_put_7 rfl (lv_at hl 0 rfl) ?_
  refine lv_lconst (v := 0) hx hb dX1_put_8 (by decide) ?_
  refine W.lcmp hx hb dX1_put_9 ?_
  refine lv_topi (fun x14 ex14 => ?_)
  have ex14 : x14 = 0 := by rw [ex14]; decide
  subst ex14
  refine lv_if_le (tgt := 56) hx hb dX1_put_10 (by decide) (fun _ => ?_) (fun c9 => absurd (by decide) c9)
  have hP9 := hP.sub (ws' := [(a, .inr (1, fs9))]) [0] rfl
  have hD9 := hD.sub (ws' := [(a, .inr (1, fs9))]) [0] (by decide) rfl
  have hK9 := hK.sub (tys' := []) [] rfl
  exact W.vret hx hb hr (fun t ht hW => ⟨⟨(), rfl, trivial, fs9, by rw [ht]; exact hP9, va_K.moved hW.alike hK9, hD9, hl_10⟩, hS.F ht⟩) hS.2.2 dX1_put_56

set_option maxHeartbeats 4000000 in
set_option maxRecDepth 100000 in
theorem c_House_init (l : Launch) (dC : Nat → ClassId) (dI : Nat → Nat → Nat) (z : Nat) (a : Nat) (fs : List Value) (sz : Nat) (hl_fs : fs.length = 19) : Met l yX5_init (Cond.code yX5_init cX5_init 2 none :: G) ({ frames := 1, cells := 19, slots := 2744, locals := 12 }) (va_Pc [.ref a] (pre_ dC dI [(a, .inr (2, fs))] [] sz z)) (va_Qv (fun _ : Unit => True) (fun _ t => ∃ (fs103 : List Value), ∃ (q1 : Nat), ∃ (cA2 : ClassId), ∃ (f120 : Nat → Int32), va_P (dC, dI) classes [(a, .inr (2, fs103)), (q1, .inl (cA2, 12, .inl f120))] t.heap ∧ va_K (dC, dI) classes [(cA2, .int)] t ∧ va_D (va_A [(a, .inr (2, fs))] sz) [(a, .inr (2, fs103)), (q1, .inl (cA2, 12, .inl f120))] ∧ fs103.length = 19 ∧ fs103[0]? = some (.ref q1) ∧ f120 0 = 0 ∧ f120 1 = 0) (va_A [(a, .inr (2, fs))] sz)) 19 2744 (va_A [(a, .inr (2, fs))] sz) := by
  refine Met.ofW (cc := cX5_init) (maxL := 2) (ret := none) (by decide) rfl ?_
  intro p e s m args below meth c s₁ B hml hv
  obtain ⟨rfl, hv⟩ := hv
  obtain ⟨hsz, hP, hK, hD0, hN, hZ⟩ := hv
  have hx := B.exec
  have hb := B.bytes
  have hr := B.returns
  have hG : ∀ w ∈ G, w.before _ s = true := fun w h => atoms_spec (ws := Cond.code yX5_init cX5_init 2 none :: G) B.pre w (List.mem_cons_of_mem _ h)
  have hown : s.vm.findClass "Seattable$House" = some m.cls := findClass_of_methodNamed B.named
  have hlocks := B.notSynchronized
  have hin : meth.name = "<init>" := (name_of_methodNamed B.named B.method).1
  subst hsz
  have hD := hD0.self (sz := s.heap.size)
  generalize hAe : va_A [(a, .inr (2, fs))] s.heap.size = A at hD hZ ⊢
  have hA : ∀ q : Nat, s.heap.size ≤ q → A q := fun q h => by rw [← hAe]; exact Or.inr h
  have hS : va_S A s.heap s.heap [] := va_S.rf
  have hP : va_P (dC, dI) classes [(a, .inr (2, fs))] s.heap := hP
  have hl := lv_entry ([.ref a]) (n := 2) (Nat.le_of_ble_eq_true rfl)
  rw [lg_entry_eq]
  generalize (lg_sl ([.ref a]) ++ List.replicate (2 - (lg_sl ([.ref a])).length) Slot.unset).toArray = ls at hl ⊢
  have hl : lv_has ls 2 [(0, .ref a)] := hl
  refine lv_aload_n hx hb dX5_init_0 rfl (lv_at hl 0 rfl) ?_
  refine W.objInit hx hb hown (hG _ m_20) (hG _ m_1) (hG _ m_2) rfl (by rw [hml]; exact hl.1) rfl dX5_init_1 (Nat.le_of_ble_eq_true rfl) (Nat.le_of_ble_eq_true rfl) ?_
  refine W.eq (g2 := F0 m 4 ls []) rfl ?_
  refine lv_aload_n hx hb dX5_init_4 rfl (lv_at hl 0 rfl) ?_
  refine lv_bipush (v := 12) hx hb dX5_init_5 (by decide) ?_
  refine va_newa (D := (dC, dI)) (atype := .int) (ty := .int) (N' := 12) (a0 := (12, .inl (fun _ => 0))) hx hb (hG _ m_16) rfl hK hP hD hS hA (fun cA => rfl) (by decide) (by decide) (Nat.le_of_ble_eq_true rfl) (Nat.le_of_ble_eq_true rfl) (Nat.le_of_ble_eq_true rfl) dX5_init_7 (fun q1 cA2 H hK hP hD hS => ?_)
  have hP : va_P (dC, dI) classes [(a, .inr (2, fs)), (q1, .inl (cA2, 12, .inl (fun _ => 0)))] H := hP
  have hD : va_D A [(a, .inr (2, fs)), (q1, .inl (cA2, 12, .inl (fun _ => 0)))] := hD
  have hK : va_K (dC, dI) classes [(cA2, .int)] s := hK
  obtain ⟨f3, ef3⟩ : ∃ y : Nat → Int32, y = (fun _ => 0) := ⟨_, rfl⟩
  rw [← ef3] at hP hD
  have hv_4 : f3 0 = 0 := by rw [ef3]
  have hv_5 : f3 1 = 0 := by rw [ef3]
  refine W.widen (k := 1) (n := 12) (Nat.le_of_ble_eq_true rfl) (Nat.le_of_ble_eq_true rfl) ?_
  refine va_putF (D := (dC, dI)) (ci := 2) (v := .ref q1) (ty := .array .int) (C := RX5) (T := TX5) (N := 19) hx hb hG iX5 tyX5 tyX5_ok nmX5 hown hK hP hD hS 0 rfl rfl 0 (by decide) (hG _ m_21) (fun _ h9 => h9) rfl hin rfl (by decide +kernel) rfl rfl (by rw [hl_fs]; decide) dX5_init_9 (fun H locs hP hD hS => ?_)
  have hP : va_P (dC, dI) classes [(a, .inr (2, (fs.set 0 (.ref q1)))), (q1, .inl (cA2, 12, .inl f3))] H := hP
  have hD : va_D A [(a, .inr (2, (fs.set 0 (.ref q1)))), (q1, .inl (cA2, 12, .inl f3))] := hD
  obtain ⟨fs6, efs6⟩ : ∃ y : List Value, y = fs.set 0 (.ref q1) := ⟨_, rfl⟩
  rw [← efs6] at hP hD
  have hl_7 : fs6.length = 19 := by rw [efs6, List.length_set]; exact hl_fs
  have hf_8 : fs6[0]? = some (.ref q1) := by rw [efs6]; exact fs_set_eq hl_fs (by decide)
  refine lv_aload_n hx hb dX5_init_12 rfl (lv_at hl 0 rfl) ?_
  refine lv_bipush (v := 30) hx hb dX5_init_13 (by decide) ?_
  refine nf_newa (D := (dC, dI)) (atype := .int) (N' := 30) hx hb (hG _ m_16) hP hS (by decide) (by decide) (Nat.le_of_ble_eq_true rfl) (Nat.le_of_ble_eq_true rfl) (Nat.le_of_ble_eq_true rfl) dX5_init_15 (fun q9 H hP hS hz9 => ?_)
  refine W.widen (k := 2) (n := 42) (Nat.le_of_ble_eq_true rfl) (Nat.le_of_ble_eq_true rfl) ?_
  refine va_putF (D := (dC, dI)) (ci := 2) (v := .ref q9) (ty := .array .int) (C := RX5) (T := TX5) (N := 19) hx hb hG iX5 tyX5 tyX5_ok nmX5 hown hK hP hD hS 0 rfl rfl 1 (by decide) (hG _ m_22) (fun _ h9 => h9) rfl hin rfl (by decide +kernel) rfl rfl (by rw [hl_7]; decide) dX5_init_17 (fun H locs hP hD hS => ?_)
  have hP : va_P (dC, dI) classes [(a, .inr (2, (fs6.set 1 (.ref q9)))), (q1, .inl (cA2, 12, .inl f3))] H := hP
  have hD : va_D A [(a, .inr (2, (fs6.set 1 (.ref q9)))), (q1, .inl (cA2, 12, .inl f3))] := hD
  obtain ⟨fs10, efs10⟩ : ∃ y : List Value, y = fs6.set 1 (.ref q9) := ⟨_, rfl⟩
  rw [← efs10] at hP hD
  have hl_11 : fs10.length = 19 := by rw [efs10, List.length_set]; exact hl_7
  have hf_12 : fs10[0]? = some (.ref q1) := by rw [efs10]; exact fs_set_ne hf_8 (by decide)
  refine lv_aload_n hx hb dX5_init_20 rfl (lv_at hl 0 rfl) ?_
  refine lv_iconst (v := 5) hx hb dX5_init_21 (by decide) ?_
  refine nf_newa (D := (dC, dI)) (atype := .int) (N' := 5) hx hb (hG _ m_16) hP hS (by decide) (by decide) (Nat.le_of_ble_eq_true rfl) (Nat.le_of_ble_eq_true rfl) (Nat.le_of_ble_eq_true rfl) dX5_init_22 (fun q13 H hP hS hz9 => ?_)
  refine W.widen (k := 3) (n := 47) (Nat.le_of_ble_eq_true rfl) (Nat.le_of_ble_eq_true rfl) ?_
  refine va_putF (D := (dC, dI)) (ci := 2) (v := .ref q13) (ty := .array .int) (C := RX5) (T := TX5) (N := 19) hx hb hG iX5 tyX5 tyX5_ok nmX5 hown hK hP hD hS 0 rfl rfl 2 (by decide) (hG _ m_23) (fun _ h9 => h9) rfl hin rfl (by decide +kernel) rfl rfl (by rw [hl_11]; decide) dX5_init_24 (fun H locs hP hD hS => ?_)
  have hP : va_P (dC, dI) classes [(a, .inr (2, (fs10.set 2 (.ref q13)))), (q1, .inl (cA2, 12, .inl f3))] H := hP
  have hD : va_D A [(a, .inr (2, (fs10.set 2 (.ref q13)))), (q1, .inl (cA2, 12, .inl f3))] := hD
  obtain ⟨fs14, efs14⟩ : ∃ y : List Value, y = fs10.set 2 (.ref q13) := ⟨_, rfl⟩
  rw [← efs14] at hP hD
  have hl_15 : fs14.length = 19 := by rw [efs14, List.length_set]; exact hl_11
  have hf_16 : fs14[0]? = some (.ref q1) := by rw [efs14]; exact fs_set_ne hf_12 (by decide)
  refine lv_aload_n hx hb dX5_init_27 rfl (lv_at hl 0 rfl) ?_
  refine lv_bipush (v := 11) hx hb dX5_init_28 (by decide) ?_
  refine nf_newa (D := (dC, dI)) (atype := .int) (N' := 11) hx hb (hG _ m_16) hP hS (by decide) (by decide) (Nat.le_of_ble_eq_true rfl) (Nat.le_of_ble_eq_true rfl) (Nat.le_of_ble_eq_true rfl) dX5_init_30 (fun q17 H hP hS hz9 => ?_)
  refine W.widen (k := 4) (n := 58) (Nat.le_of_ble_eq_true rfl) (Nat.le_of_ble_eq_true rfl) ?_
  refine va_putF (D := (dC, dI)) (ci := 2) (v := .ref q17) (ty := .array .int) (C := RX5) (T := TX5) (N := 19) hx hb hG iX5 tyX5 tyX5_ok nmX5 hown hK hP hD hS 0 rfl rfl 3 (by decide) (hG _ m_24) (fun _ h9 => h9) rfl hin rfl (by decide +kernel) rfl rfl (by rw [hl_15]; decide) dX5_init_32 (fun H locs hP hD hS => ?_)
  have hP : va_P (dC, dI) classes [(a, .inr (2, (fs14.set 3 (.ref q17)))), (q1, .inl (cA2, 12, .inl f3))] H := hP
  have hD : va_D A [(a, .inr (2, (fs14.set 3 (.ref q17)))), (q1, .inl (cA2, 12, .inl f3))] := hD
  obtain ⟨fs18, efs18⟩ : ∃ y : List Value, y = fs14.set 3 (.ref q17) := ⟨_, rfl⟩
  rw [← efs18] at hP hD
  have hl_19 : fs18.length = 19 := by rw [efs18, List.length_set]; exact hl_15
  have hf_20 : fs18[0]? = some (.ref q1) := by rw [efs18]; exact fs_set_ne hf_16 (by decide)
  refine lv_aload_n hx hb dX5_init_35 rfl (lv_at hl 0 rfl) ?_
  refine lv_bipush (v := 11) hx hb dX5_init_36 (by decide) ?_
  refine va_newa (D := (dC, dI)) (atype := .int) (ty := .int) (N' := 11) (a0 := (11, .inl (fun _ => 0))) hx hb (hG _ m_16) rfl hK hP hD hS hA (fun cA => rfl) (by decide) (by decide) (Nat.le_of_ble_eq_true rfl) (Nat.le_of_ble_eq_true rfl) (Nat.le_of_ble_eq_true rfl) dX5_init_38 (fun q21 cA22 H hK hP hD hS => ?_)
  have hP : va_P (dC, dI) classes [(a, .inr (2, fs18)), (q1, .inl (cA2, 12, .inl f3)), (q21, .inl (cA22, 11, .inl (fun _ => 0)))] H := hP
  have hD : va_D A [(a, .inr (2, fs18)), (q1, .inl (cA2, 12, .inl f3)), (q21, .inl (cA22, 11, .inl (fun _ => 0)))] := hD
  have hK : va_K (dC, dI) classes [(cA2, .int), (cA22, .int)] s := hK
  obtain ⟨f23, ef23⟩ : ∃ y : Nat → Int32, y = (fun _ => 0) := ⟨_, rfl⟩
  rw [← ef23] at hP hD
  refine W.widen (k := 5) (n := 69) (Nat.le_of_ble_eq_true rfl) (Nat.le_of_ble_eq_true rfl) ?_
  refine va_putF (D := (dC, dI)) (ci := 2) (v := .ref q21) (ty := .array .int) (C := RX5) (T := TX5) (N := 19) hx hb hG iX5 tyX5 tyX5_ok nmX5 hown hK hP hD hS 0 rfl rfl 4 (by decide) (hG _ m_25) (fun _ h9 => h9) rfl hin rfl (by decide +kernel) rfl rfl (by rw [hl_19]; decide) dX5_init_40 (fun H locs hP hD hS => ?_)
  have hP : va_P (dC, dI) classes [(a, .inr (2, (fs18.set 4 (.ref q21)))), (q1, .inl (cA2, 12, .inl f3)), (q21, .inl (cA22, 11, .inl f23))] H := hP
  have hD : va_D A [(a, .inr (2, (fs18.set 4 (.ref q21)))), (q1, .inl (cA2, 12, .inl f3)), (q21, .inl (cA22, 11, .inl f23))] := hD
  obtain ⟨fs24, efs24⟩ : ∃ y : List Value, y = fs18.set 4 (.ref q21) := ⟨_, rfl⟩
  rw [← efs24] at hP hD
  have hl_25 : fs24.length = 19 := by rw [efs24, List.length_set]; exact hl_19
  have hf_26 : fs24[0]? = some (.ref q1) := by rw [efs24]; exact fs_set_ne hf_20 (by decide)
  have hf_27 : fs24[4]? = some (.ref q21) := by rw [efs24]; exact fs_set_eq hl_19 (by decide)
  refine lv_aload_n hx hb dX5_init_43 rfl (lv_at hl 0 rfl) ?_
  refine lv_bipush (v := 11) hx hb dX5_init_44 (by decide) ?_
  refine nf_newa (D := (dC, dI)) (atype := .int) (N' := 11) hx hb (hG _ m_16) hP hS (by decide) (by decide) (Nat.le_of_ble_eq_true rfl) (Nat.le_of_ble_eq_true rfl) (Nat.le_of_ble_eq_true rfl) dX5_init_46 (fun q28 H hP hS hz9 => ?_)
  refine W.widen (k := 6) (n := 80) (Nat.le_of_ble_eq_true rfl) (Nat.le_of_ble_eq_true rfl) ?_
  refine va_putF (D := (dC, dI)) (ci := 2) (v := .ref q28) (ty := .array .int) (C := RX5) (T := TX5) (N := 19) hx hb hG iX5 tyX5 tyX5_ok nmX5 hown hK hP hD hS 0 rfl rfl 5 (by decide) (hG _ m_26) (fun _ h9 => h9) rfl hin rfl (by decide +kernel) rfl rfl (by rw [hl_25]; decide) dX5_init_48 (fun H locs hP hD hS => ?_)
  have hP : va_P (dC, dI) classes [(a, .inr (2, (fs24.set 5 (.ref q28)))), (q1, .inl (cA2, 12, .inl f3)), (q21, .inl (cA22, 11, .inl f23))] H := hP
  have hD : va_D A [(a, .inr (2, (fs24.set 5 (.ref q28)))), (q1, .inl (cA2, 12, .inl f3)), (q21, .inl (cA22, 11, .inl f23))] := hD
  obtain ⟨fs29, efs29⟩ : ∃ y : List Value, y = fs24.set 5 (.ref q28) := ⟨_, rfl⟩
  rw [← efs29] at hP hD
  have hl_30 : fs29.length = 19 := by rw [efs29, List.length_set]; exact hl_25
  have hf_31 : fs29[0]? = some (.ref q1) := by rw [efs29]; exact fs_set_ne hf_26 (by decide)
  have hf_32 : fs29[4]? = some (.ref q21) := by rw [efs29]; exact fs_set_ne hf_27 (by decide)
  refine lv_aload_n hx hb dX5_init_51 rfl (lv_at hl 0 rfl) ?_
  refine lv_bipush (v := 20) hx hb dX5_init_52 (by decide) ?_
  refine nf_newa (D := (dC, dI)) (atype := .int) (N' := 20) hx hb (hG _ m_16) hP hS (by decide) (by decide) (Nat.le_of_ble_eq_true rfl) (Nat.le_of_ble_eq_true rfl) (Nat.le_of_ble_eq_true rfl) dX5_init_54 (fun q33 H hP hS hz9 => ?_)
  refine W.widen (k := 7) (n := 100) (Nat.le_of_ble_eq_true rfl) (Nat.le_of_ble_eq_true rfl) ?_
  refine va_putF (D := (dC, dI)) (ci := 2) (v := .ref q33) (ty := .array .int) (C := RX5) (T := TX5) (N := 19) hx hb hG iX5 tyX5 tyX5_ok nmX5 hown hK hP hD hS 0 rfl rfl 6 (by decide) (hG _ m_27) (fun _ h9 => h9) rfl hin rfl (by decide +kernel) rfl rfl (by rw [hl_30]; decide) dX5_init_56 (fun H locs hP hD hS => ?_)
  have hP : va_P (dC, dI) classes [(a, .inr (2, (fs29.set 6 (.ref q33)))), (q1, .inl (cA2, 12, .inl f3)), (q21, .inl (cA22, 11, .inl f23))] H := hP
  have hD : va_D A [(a, .inr (2, (fs29.set 6 (.ref q33)))), (q1, .inl (cA2, 12, .inl f3)), (q21, .inl (cA22, 11, .inl f23))] := hD
  obtain ⟨fs34, efs34⟩ : ∃ y : List Value, y = fs29.set 6 (.ref q33) := ⟨_, rfl⟩
  rw [← efs34] at hP hD
  have hl_35 : fs34.length = 19 := by rw [efs34, List.length_set]; exact hl_30
  have hf_36 : fs34[0]? = some (.ref q1) := by rw [efs34]; exact fs_set_ne hf_31 (by decide)
  have hf_37 : fs34[4]? = some (.ref q21) := by rw [efs34]; exact fs_set_ne hf_32 (by decide)
  refine lv_aload_n hx hb dX5_init_59 rfl (lv_at hl 0 rfl) ?_
  refine lv_bipush (v := 20) hx hb dX5_init_60 (by decide) ?_
  refine nf_newa (D := (dC, dI)) (atype := .int) (N' := 20) hx hb (hG _ m_16) hP hS (by decide) (by decide) (Nat.le_of_ble_eq_true rfl) (Nat.le_of_ble_eq_true rfl) (Nat.le_of_ble_eq_true rfl) dX5_init_62 (fun q38 H hP hS hz9 => ?_)
  refine W.widen (k := 8) (n := 120) (Nat.le_of_ble_eq_true rfl) (Nat.le_of_ble_eq_true rfl) ?_
  refine va_putF (D := (dC, dI)) (ci := 2) (v := .ref q38) (ty := .array .int) (C := RX5) (T := TX5) (N := 19) hx hb hG iX5 tyX5 tyX5_ok nmX5 hown hK hP hD hS 0 rfl rfl 7 (by decide) (hG _ m_28) (fun _ h9 => h9) rfl hin rfl (by decide +kernel) rfl rfl (by rw [hl_35]; decide) dX5_init_64 (fun H locs hP hD hS => ?_)
  have hP : va_P (dC, dI) classes [(a, .inr (2, (fs34.set 7 (.ref q38)))), (q1, .inl (cA2, 12, .inl f3)), (q21, .inl (cA22, 11, .inl f23))] H := hP
  have hD : va_D A [(a, .inr (2, (fs34.set 7 (.ref q38)))), (q1, .inl (cA2, 12, .inl f3)), (q21, .inl (cA22, 11, .inl f23))] := hD
  obtain ⟨fs39, efs39⟩ : ∃ y : List Value, y = fs34.set 7 (.ref q38) := ⟨_, rfl⟩
  rw [← efs39] at hP hD
  have hl_40 : fs39.length = 19 := by rw [efs39, List.length_set]; exact hl_35
  have hf_41 : fs39[0]? = some (.ref q1) := by rw [efs39]; exact fs_set_ne hf_36 (by decide)
  have hf_42 : fs39[4]? = some (.ref q21) := by rw [efs39]; exact fs_set_ne hf_37 (by decide)
  refine lv_aload_n hx hb dX5_init_67 rfl (lv_at hl 0 rfl) ?_
  refine lv_bipush (v := 27) hx hb dX5_init_68 (by decide) ?_
  refine nf_newa (D := (dC, dI)) (atype := .int) (N' := 27) hx hb (hG _ m_16) hP hS (by decide) (by decide) (Nat.le_of_ble_eq_true rfl) (Nat.le_of_ble_eq_true rfl) (Nat.le_of_ble_eq_true rfl) dX5_init_70 (fun q43 H hP hS hz9 => ?_)
  refine W.widen (k := 9) (n := 147) (Nat.le_of_ble_eq_true rfl) (Nat.le_of_ble_eq_true rfl) ?_
  refine va_putF (D := (dC, dI)) (ci := 2) (v := .ref q43) (ty := .array .int) (C := RX5) (T := TX5) (N := 19) hx hb hG iX5 tyX5 tyX5_ok nmX5 hown hK hP hD hS 0 rfl rfl 8 (by decide) (hG _ m_29) (fun _ h9 => h9) rfl hin rfl (by decide +kernel) rfl rfl (by rw [hl_40]; decide) dX5_init_72 (fun H locs hP hD hS => ?_)
  have hP : va_P (dC, dI) classes [(a, .inr (2, (fs39.set 8 (.ref q43)))), (q1, .inl (cA2, 12, .inl f3)), (q21, .inl (cA22, 11, .inl f23))] H := hP
  have hD : va_D A [(a, .inr (2, (fs39.set 8 (.ref q43)))), (q1, .inl (cA2, 12, .inl f3)), (q21, .inl (cA22, 11, .inl f23))] := hD
  obtain ⟨fs44, efs44⟩ : ∃ y : List Value, y = fs39.set 8 (.ref q43) := ⟨_, rfl⟩
  rw [← efs44] at hP hD
  have hl_45 : fs44.length = 19 := by rw [efs44, List.length_set]; exact hl_40
  have hf_46 : fs44[0]? = some (.ref q1) := by rw [efs44]; exact fs_set_ne hf_41 (by decide)
  have hf_47 : fs44[4]? = some (.ref q21) := by rw [efs44]; exact fs_set_ne hf_42 (by decide)
  refine lv_aload_n hx hb dX5_init_75 rfl (lv_at hl 0 rfl) ?_
  refine lv_bipush (v := 9) hx hb dX5_init_76 (by decide) ?_
  refine nf_newa (D := (dC, dI)) (atype := .int) (N' := 9) hx hb (hG _ m_16) hP hS (by decide) (by decide) (Nat.le_of_ble_eq_true rfl) (Nat.le_of_ble_eq_true rfl) (Nat.le_of_ble_eq_true rfl) dX5_init_78 (fun q48 H hP hS hz9 => ?_)
  refine W.widen (k := 10) (n := 156) (Nat.le_of_ble_eq_true rfl) (Nat.le_of_ble_eq_true rfl) ?_
  refine va_putF (D := (dC, dI)) (ci := 2) (v := .ref q48) (ty := .array .int) (C := RX5) (T := TX5) (N := 19) hx hb hG iX5 tyX5 tyX5_ok nmX5 hown hK hP hD hS 0 rfl rfl 9 (by decide) (hG _ m_30) (fun _ h9 => h9) rfl hin rfl (by decide +kernel) rfl rfl (by rw [hl_45]; decide) dX5_init_80 (fun H locs hP hD hS => ?_)
  have hP : va_P (dC, dI) classes [(a, .inr (2, (fs44.set 9 (.ref q48)))), (q1, .inl (cA2, 12, .inl f3)), (q21, .inl (cA22, 11, .inl f23))] H := hP
  have hD : va_D A [(a, .inr (2, (fs44.set 9 (.ref q48)))), (q1, .inl (cA2, 12, .inl f3)), (q21, .inl (cA22, 11, .inl f23))] := hD
  obtain ⟨fs49, efs49⟩ : ∃ y : List Value, y = fs44.set 9 (.ref q48) := ⟨_, rfl⟩
  rw [← efs49] at hP hD
  have hl_50 : fs49.length = 19 := by rw [efs49, List.length_set]; exact hl_45
  have hf_51 : fs49[0]? = some (.ref q1) := by rw [efs49]; exact fs_set_ne hf_46 (by decide)
  have hf_52 : fs49[4]? = some (.ref q21) := by rw [efs49]; exact fs_set_ne hf_47 (by decide)
  refine lv_aload_n hx hb dX5_init_83 rfl (lv_at hl 0 rfl) ?_
  refine lv_bipush (v := 27) hx hb dX5_init_84 (by decide) ?_
  refine nf_newa (D := (dC, dI)) (atype := .int) (N' := 27) hx hb (hG _ m_16) hP hS (by decide) (by decide) (Nat.le_of_ble_eq_true rfl) (Nat.le_of_ble_eq_true rfl) (Nat.le_of_ble_eq_true rfl) dX5_init_86 (fun q53 H hP hS hz9 => ?_)
  refine W.widen (k := 11) (n := 183) (Nat.le_of_ble_eq_true rfl) (Nat.le_of_ble_eq_true rfl) ?_
  refine va_putF (D := (dC, dI)) (ci := 2) (v := .ref q53) (ty := .array .int) (C := RX5) (T := TX5) (N := 19) hx hb hG iX5 tyX5 tyX5_ok nmX5 hown hK hP hD hS 0 rfl rfl 10 (by decide) (hG _ m_31) (fun _ h9 => h9) rfl hin rfl (by decide +kernel) rfl rfl (by rw [hl_50]; decide) dX5_init_88 (fun H locs hP hD hS => ?_)
  have hP : va_P (dC, dI) classes [(a, .inr (2, (fs49.set 10 (.ref q53)))), (q1, .inl (cA2, 12, .inl f3)), (q21, .inl (cA22, 11, .inl f23))] H := hP
  have hD : va_D A [(a, .inr (2, (fs49.set 10 (.ref q53)))), (q1, .inl (cA2, 12, .inl f3)), (q21, .inl (cA22, 11, .inl f23))] := hD
  obtain ⟨fs54, efs54⟩ : ∃ y : List Value, y = fs49.set 10 (.ref q53) := ⟨_, rfl⟩
  rw [← efs54] at hP hD
  have hl_55 : fs54.length = 19 := by rw [efs54, List.length_set]; exact hl_50
  have hf_56 : fs54[0]? = some (.ref q1) := by rw [efs54]; exact fs_set_ne hf_51 (by decide)
  have hf_57 : fs54[4]? = some (.ref q21) := by rw [efs54]; exact fs_set_ne hf_52 (by decide)
  refine lv_aload_n hx hb dX5_init_91 rfl (lv_at hl 0 rfl) ?_
  refine lv_bipush (v := 9) hx hb dX5_init_92 (by decide) ?_
  refine va_newa (D := (dC, dI)) (atype := .int) (ty := .int) (N' := 9) (a0 := (9, .inl (fun _ => 0))) hx hb (hG _ m_16) rfl hK hP hD hS hA (fun cA => rfl) (by decide) (by decide) (Nat.le_of_ble_eq_true rfl) (Nat.le_of_ble_eq_true rfl) (Nat.le_of_ble_eq_true rfl) dX5_init_94 (fun q58 cA59 H hK hP hD hS => ?_)
  have hP : va_P (dC, dI) classes [(a, .inr (2, fs54)), (q1, .inl (cA2, 12, .inl f3)), (q21, .inl (cA22, 11, .inl f23)), (q58, .inl (cA59, 9, .inl (fun _ => 0)))] H := hP
  have hD : va_D A [(a, .inr (2, fs54)), (q1, .inl (cA2, 12, .inl f3)), (q21, .inl (cA22, 11, .inl f23)), (q58, .inl (cA59, 9, .inl (fun _ => 0)))] := hD
  have hK : va_K (dC, dI) classes [(cA2, .int), (cA22, .int), (cA59, .int)] s := hK
  obtain ⟨f60, ef60⟩ : ∃ y : Nat → Int32, y = (fun _ => 0) := ⟨_, rfl⟩
  rw [← ef60] at hP hD
  refine W.widen (k := 12) (n := 192) (Nat.le_of_ble_eq_true rfl) (Nat.le_of_ble_eq_true rfl) ?_
  refine va_putF (D := (dC, dI)) (ci := 2) (v := .ref q58) (ty := .array .int) (C := RX5) (T := TX5) (N := 19) hx hb hG iX5 tyX5 tyX5_ok nmX5 hown hK hP hD hS 0 rfl rfl 11 (by decide) (hG _ m_32) (fun _ h9 => h9) rfl hin rfl (by decide +kernel) rfl rfl (by rw [hl_55]; decide) dX5_init_96 (fun H locs hP hD hS => ?_)
  have hP : va_P (dC, dI) classes [(a, .inr (2, (fs54.set 11 (.ref q58)))), (q1, .inl (cA2, 12, .inl f3)), (q21, .inl (cA22, 11, .inl f23)), (q58, .inl (cA59, 9, .inl f60))] H := hP
  have hD : va_D A [(a, .inr (2, (fs54.set 11 (.ref q58)))), (q1, .inl (cA2, 12, .inl f3)), (q21, .inl (cA22, 11, .inl f23)), (q58, .inl (cA59, 9, .inl f60))] := hD
  obtain ⟨fs61, efs61⟩ : ∃ y : List Value, y = fs54.set 11 (.ref q58) := ⟨_, rfl⟩
  rw [← efs61] at hP hD
  have hl_62 : fs61.length = 19 := by rw [efs61, List.length_set]; exact hl_55
  have hf_63 : fs61[0]? = some (.ref q1) := by rw [efs61]; exact fs_set_ne hf_56 (by decide)
  have hf_64 : fs61[4]? = some (.ref q21) := by rw [efs61]; exact fs_set_ne hf_57 (by decide)
  have hf_65 : fs61[11]? = some (.ref q58) := by rw [efs61]; exact fs_set_eq hl_55 (by decide)
  refine lv_aload_n hx hb dX5_init_99 rfl (lv_at hl 0 rfl) ?_
  refine lv_bipush (v := 6) hx hb dX5_init_100 (by decide) ?_
  refine nf_newa (D := (dC, dI)) (atype := .int) (N' := 6) hx hb (hG _ m_16) hP hS (by decide) (by decide) (Nat.le_of_ble_eq_true rfl) (Nat.le_of_ble_eq_true rfl) (Nat.le_of_ble_eq_true rfl) dX5_init_102 (fun q66 H hP hS hz9 => ?_)
  refine W.widen (k := 13) (n := 198) (Nat.le_of_ble_eq_true rfl) (Nat.le_of_ble_eq_true rfl) ?_
  refine va_putF (D := (dC, dI)) (ci := 2) (v := .ref q66) (ty := .array .int) (C := RX5) (T := TX5) (N := 19) hx hb hG iX5 tyX5 tyX5_ok nmX5 hown hK hP hD hS 0 rfl rfl 12 (by decide) (hG _ m_33) (fun _ h9 => h9) rfl hin rfl (by decide +kernel) rfl rfl (by rw [hl_62]; decide) dX5_init_104 (fun H locs hP hD hS => ?_)
  have hP : va_P (dC, dI) classes [(a, .inr (2, (fs61.set 12 (.ref q66)))), (q1, .inl (cA2, 12, .inl f3)), (q21, .inl (cA22, 11, .inl f23)), (q58, .inl (cA59, 9, .inl f60))] H := hP
  have hD : va_D A [(a, .inr (2, (fs61.set 12 (.ref q66)))), (q1, .inl (cA2, 12, .inl f3)), (q21, .inl (cA22, 11, .inl f23)), (q58, .inl (cA59, 9, .inl f60))] := hD
  obtain ⟨fs67, efs67⟩ : ∃ y : List Value, y = fs61.set 12 (.ref q66) := ⟨_, rfl⟩
  rw [← efs67] at hP hD
  have hl_68 : fs67.length = 19 := by rw [efs67, List.length_set]; exact hl_62
  have hf_69 : fs67[0]? = some (.ref q1) := by rw [efs67]; exact fs_set_ne hf_63 (by decide)
  have hf_70 : fs67[4]? = some (.ref q21) := by rw [efs67]; exact fs_set_ne hf_64 (by decide)
  have hf_71 : fs67[11]? = some (.ref q58) := by rw [efs67]; exact fs_set_ne hf_65 (by decide)
  refine lv_aload_n hx hb dX5_init_107 rfl (lv_at hl 0 rfl) ?_
  refine lv_bipush (v := 122) hx hb dX5_init_108 (by decide) ?_
  refine nf_newa (D := (dC, dI)) (atype := .int) (N' := 122) hx hb (hG _ m_16) hP hS (by decide) (by decide) (Nat.le_of_ble_eq_true rfl) (Nat.le_of_ble_eq_true rfl) (Nat.le_of_ble_eq_true rfl) dX5_init_110 (fun q72 H hP hS hz9 => ?_)
  refine W.widen (k := 14) (n := 320) (Nat.le_of_ble_eq_true rfl) (Nat.le_of_ble_eq_true rfl) ?_
  refine va_putF (D := (dC, dI)) (ci := 2) (v := .ref q72) (ty := .array .int) (C := RX5) (T := TX5) (N := 19) hx hb hG iX5 tyX5 tyX5_ok nmX5 hown hK hP hD hS 0 rfl rfl 13 (by decide) (hG _ m_34) (fun _ h9 => h9) rfl hin rfl (by decide +kernel) rfl rfl (by rw [hl_68]; decide) dX5_init_112 (fun H locs hP hD hS => ?_)
  have hP : va_P (dC, dI) classes [(a, .inr (2, (fs67.set 13 (.ref q72)))), (q1, .inl (cA2, 12, .inl f3)), (q21, .inl (cA22, 11, .inl f23)), (q58, .inl (cA59, 9, .inl f60))] H := hP
  have hD : va_D A [(a, .inr (2, (fs67.set 13 (.ref q72)))), (q1, .inl (cA2, 12, .inl f3)), (q21, .inl (cA22, 11, .inl f23)), (q58, .inl (cA59, 9, .inl f60))] := hD
  obtain ⟨fs73, efs73⟩ : ∃ y : List Value, y = fs67.set 13 (.ref q72) := ⟨_, rfl⟩
  rw [← efs73] at hP hD
  have hl_74 : fs73.length = 19 := by rw [efs73, List.length_set]; exact hl_68
  have hf_75 : fs73[0]? = some (.ref q1) := by rw [efs73]; exact fs_set_ne hf_69 (by decide)
  have hf_76 : fs73[4]? = some (.ref q21) := by rw [efs73]; exact fs_set_ne hf_70 (by decide)
  have hf_77 : fs73[11]? = some (.ref q58) := by rw [efs73]; exact fs_set_ne hf_71 (by decide)
  refine lv_aload_n hx hb dX5_init_115 rfl (lv_at hl 0 rfl) ?_
  refine lv_bipush (v := 10) hx hb dX5_init_116 (by decide) ?_
  refine nf_newa (D := (dC, dI)) (atype := .int) (N' := 10) hx hb (hG _ m_16) hP hS (by decide) (by decide) (Nat.le_of_ble_eq_true rfl) (Nat.le_of_ble_eq_true rfl) (Nat.le_of_ble_eq_true rfl) dX5_init_118 (fun q78 H hP hS hz9 => ?_)
  refine W.widen (k := 15) (n := 330) (Nat.le_of_ble_eq_true rfl) (Nat.le_of_ble_eq_true rfl) ?_
  refine va_putF (D := (dC, dI)) (ci := 2) (v := .ref q78) (ty := .array .int) (C := RX5) (T := TX5) (N := 19) hx hb hG iX5 tyX5 tyX5_ok nmX5 hown hK hP hD hS 0 rfl rfl 14 (by decide) (hG _ m_35) (fun _ h9 => h9) rfl hin rfl (by decide +kernel) rfl rfl (by rw [hl_74]; decide) dX5_init_120 (fun H locs hP hD hS => ?_)
  have hP : va_P (dC, dI) classes [(a, .inr (2, (fs73.set 14 (.ref q78)))), (q1, .inl (cA2, 12, .inl f3)), (q21, .inl (cA22, 11, .inl f23)), (q58, .inl (cA59, 9, .inl f60))] H := hP
  have hD : va_D A [(a, .inr (2, (fs73.set 14 (.ref q78)))), (q1, .inl (cA2, 12, .inl f3)), (q21, .inl (cA22, 11, .inl f23)), (q58, .inl (cA59, 9, .inl f60))] := hD
  obtain ⟨fs79, efs79⟩ : ∃ y : List Value, y = fs73.set 14 (.ref q78) := ⟨_, rfl⟩
  rw [← efs79] at hP hD
  have hl_80 : fs79.length = 19 := by rw [efs79, List.length_set]; exact hl_74
  have hf_81 : fs79[0]? = some (.ref q1) := by rw [efs79]; exact fs_set_ne hf_75 (by decide)
  have hf_82 : fs79[4]? = some (.ref q21) := by rw [efs79]; exact fs_set_ne hf_76 (by decide)
  have hf_83 : fs79[11]? = some (.ref q58) := by rw [efs79]; exact fs_set_ne hf_77 (by decide)
  refine lv_aload_n hx hb dX5_init_123 rfl (lv_at hl 0 rfl) ?_
  refine lv_bipush (v := 30) hx hb dX5_init_124 (by decide) ?_
  refine nf_newa (D := (dC, dI)) (atype := .int) (N' := 30) hx hb (hG _ m_16) hP hS (by decide) (by decide) (Nat.le_of_ble_eq_true rfl) (Nat.le_of_ble_eq_true rfl) (Nat.le_of_ble_eq_true rfl) dX5_init_126 (fun q84 H hP hS hz9 => ?_)
  refine W.widen (k := 16) (n := 360) (Nat.le_of_ble_eq_true rfl) (Nat.le_of_ble_eq_true rfl) ?_
  refine va_putF (D := (dC, dI)) (ci := 2) (v := .ref q84) (ty := .array .int) (C := RX5) (T := TX5) (N := 19) hx hb hG iX5 tyX5 tyX5_ok nmX5 hown hK hP hD hS 0 rfl rfl 15 (by decide) (hG _ m_36) (fun _ h9 => h9) rfl hin rfl (by decide +kernel) rfl rfl (by rw [hl_80]; decide) dX5_init_128 (fun H locs hP hD hS => ?_)
  have hP : va_P (dC, dI) classes [(a, .inr (2, (fs79.set 15 (.ref q84)))), (q1, .inl (cA2, 12, .inl f3)), (q21, .inl (cA22, 11, .inl f23)), (q58, .inl (cA59, 9, .inl f60))] H := hP
  have hD : va_D A [(a, .inr (2, (fs79.set 15 (.ref q84)))), (q1, .inl (cA2, 12, .inl f3)), (q21, .inl (cA22, 11, .inl f23)), (q58, .inl (cA59, 9, .inl f60))] := hD
  obtain ⟨fs85, efs85⟩ : ∃ y : List Value, y = fs79.set 15 (.ref q84) := ⟨_, rfl⟩
  rw [← efs85] at hP hD
  have hl_86 : fs85.length = 19 := by rw [efs85, List.length_set]; exact hl_80
  have hf_87 : fs85[0]? = some (.ref q1) := by rw [efs85]; exact fs_set_ne hf_81 (by decide)
  have hf_88 : fs85[4]? = some (.ref q21) := by rw [efs85]; exact fs_set_ne hf_82 (by decide)
  have hf_89 : fs85[11]? = some (.ref q58) := by rw [efs85]; exact fs_set_ne hf_83 (by decide)
  refine lv_aload_n hx hb dX5_init_131 rfl (lv_at hl 0 rfl) ?_
  refine lv_sipush (v := 1800) hx hb dX5_init_132 (by decide) ?_
  refine nf_newa (D := (dC, dI)) (atype := .int) (N' := 1800) hx hb (hG _ m_16) hP hS (by decide) (by decide) (Nat.le_of_ble_eq_true rfl) (Nat.le_of_ble_eq_true rfl) (Nat.le_of_ble_eq_true rfl) dX5_init_135 (fun q90 H hP hS hz9 => ?_)
  refine W.widen (k := 17) (n := 2160) (Nat.le_of_ble_eq_true rfl) (Nat.le_of_ble_eq_true rfl) ?_
  refine va_putF (D := (dC, dI)) (ci := 2) (v := .ref q90) (ty := .array .int) (C := RX5) (T := TX5) (N := 19) hx hb hG iX5 tyX5 tyX5_ok nmX5 hown hK hP hD hS 0 rfl rfl 16 (by decide) (hG _ m_37) (fun _ h9 => h9) rfl hin rfl (by decide +kernel) rfl rfl (by rw [hl_86]; decide) dX5_init_137 (fun H locs hP hD hS => ?_)
  have hP : va_P (dC, dI) classes [(a, .inr (2, (fs85.set 16 (.ref q90)))), (q1, .inl (cA2, 12, .inl f3)), (q21, .inl (cA22, 11, .inl f23)), (q58, .inl (cA59, 9, .inl f60))] H := hP
  have hD : va_D A [(a, .inr (2, (fs85.set 16 (.ref q90)))), (q1, .inl (cA2, 12, .inl f3)), (q21, .inl (cA22, 11, .inl f23)), (q58, .inl (cA59, 9, .inl f60))] := hD
  obtain ⟨fs91, efs91⟩ : ∃ y : List Value, y = fs85.set 16 (.ref q90) := ⟨_, rfl⟩
  rw [← efs91] at hP hD
  have hl_92 : fs91.length = 19 := by rw [efs91, List.length_set]; exact hl_86
  have hf_93 : fs91[0]? = some (.ref q1) := by rw [efs91]; exact fs_set_ne hf_87 (by decide)
  have hf_94 : fs91[4]? = some (.ref q21) := by rw [efs91]; exact fs_set_ne hf_88 (by decide)
  have hf_95 : fs91[11]? = some (.ref q58) := by rw [efs91]; exact fs_set_ne hf_89 (by decide)
  refine lv_aload_n hx hb dX5_init_140 rfl (lv_at hl 0 rfl) ?_
  refine lv_bipush (v := 8) hx hb dX5_init_141 (by decide) ?_
  refine nf_newa (D := (dC, dI)) (atype := .int) (N' := 8) hx hb (hG _ m_16) hP hS (by decide) (by decide) (Nat.le_of_ble_eq_true rfl) (Nat.le_of_ble_eq_true rfl) (Nat.le_of_ble_eq_true rfl) dX5_init_143 (fun q96 H hP hS hz9 => ?_)
  refine W.widen (k := 18) (n := 2168) (Nat.le_of_ble_eq_true rfl) (Nat.le_of_ble_eq_true rfl) ?_
  refine va_putF (D := (dC, dI)) (ci := 2) (v := .ref q96) (ty := .array .int) (C := RX5) (T := TX5) (N := 19) hx hb hG iX5 tyX5 tyX5_ok nmX5 hown hK hP hD hS 0 rfl rfl 17 (by decide) (hG _ m_38) (fun _ h9 => h9) rfl hin rfl (by decide +kernel) rfl rfl (by rw [hl_92]; decide) dX5_init_145 (fun H locs hP hD hS => ?_)
  have hP : va_P (dC, dI) classes [(a, .inr (2, (fs91.set 17 (.ref q96)))), (q1, .inl (cA2, 12, .inl f3)), (q21, .inl (cA22, 11, .inl f23)), (q58, .inl (cA59, 9, .inl f60))] H := hP
  have hD : va_D A [(a, .inr (2, (fs91.set 17 (.ref q96)))), (q1, .inl (cA2, 12, .inl f3)), (q21, .inl (cA22, 11, .inl f23)), (q58, .inl (cA59, 9, .inl f60))] := hD
  obtain ⟨fs97, efs97⟩ : ∃ y : List Value, y = fs91.set 17 (.ref q96) := ⟨_, rfl⟩
  rw [← efs97] at hP hD
  have hl_98 : fs97.length = 19 := by rw [efs97, List.length_set]; exact hl_92
  have hf_99 : fs97[0]? = some (.ref q1) := by rw [efs97]; exact fs_set_ne hf_93 (by decide)
  have hf_100 : fs97[4]? = some (.ref q21) := by rw [efs97]; exact fs_set_ne hf_94 (by decide)
  have hf_101 : fs97[11]? = some (.ref q58) := by rw [efs97]; exact fs_set_ne hf_95 (by decide)
  refine lv_aload_n hx hb dX5_init_148 rfl (lv_at hl 0 rfl) ?_
  refine lv_sipush (v := 576) hx hb dX5_init_149 (by decide) ?_
  refine nf_newa (D := (dC, dI)) (atype := .int) (N' := 576) hx hb (hG _ m_16) hP hS (by decide) (by decide) (Nat.le_of_ble_eq_true rfl) (Nat.le_of_ble_eq_true rfl) (Nat.le_of_ble_eq_true rfl) dX5_init_152 (fun q102 H hP hS hz9 => ?_)
  refine W.widen (k := 19) (n := 2744) (Nat.le_of_ble_eq_true rfl) (Nat.le_of_ble_eq_true rfl) ?_
  refine va_putF (D := (dC, dI)) (ci := 2) (v := .ref q102) (ty := .array .int) (C := RX5) (T := TX5) (N := 19) hx hb hG iX5 tyX5 tyX5_ok nmX5 hown hK hP hD hS 0 rfl rfl 18 (by decide) (hG _ m_39) (fun _ h9 => h9) rfl hin rfl (by decide +kernel) rfl rfl (by rw [hl_98]; decide) dX5_init_154 (fun H locs hP hD hS => ?_)
  have hP : va_P (dC, dI) classes [(a, .inr (2, (fs97.set 18 (.ref q102)))), (q1, .inl (cA2, 12, .inl f3)), (q21, .inl (cA22, 11, .inl f23)), (q58, .inl (cA59, 9, .inl f60))] H := hP
  have hD : va_D A [(a, .inr (2, (fs97.set 18 (.ref q102)))), (q1, .inl (cA2, 12, .inl f3)), (q21, .inl (cA22, 11, .inl f23)), (q58, .inl (cA59, 9, .inl f60))] := hD
  obtain ⟨fs103, efs103⟩ : ∃ y : List Value, y = fs97.set 18 (.ref q102) := ⟨_, rfl⟩
  rw [← efs103] at hP hD
  have hl_104 : fs103.length = 19 := by rw [efs103, List.length_set]; exact hl_98
  have hf_105 : fs103[0]? = some (.ref q1) := by rw [efs103]; exact fs_set_ne hf_99 (by decide)
  have hf_106 : fs103[4]? = some (.ref q21) := by rw [efs103]; exact fs_set_ne hf_100 (by decide)
  have hf_107 : fs103[11]? = some (.ref q58) := by rw [efs103]; exact fs_set_ne hf_101 (by decide)
  refine lv_aload_n hx hb dX5_init_157 rfl (lv_at hl 0 rfl) ?_
  refine va_get (D := (dC, dI)) (ci := 2) (v := .ref q1) (C := RX5) (T := TX5) (N := 19) hx hb hG iX5 hown hK hP 0 rfl rfl 0 (by decide) (hG _ m_21) (fun _ h9 => h9) hf_105 dX5_init_158 ?_
  refine lv_iconst (v := 2) hx hb dX5_init_161 (by decide) ?_
  refine lv_iconst (v := 2) hx hb dX5_init_162 (by decide) ?_
  refine va_iast (D := (dC, dI)) hx hb hK hP hD hS 1 0 rfl rfl (by unfold vp_in; decide) dX5_init_163 (fun H locs hP hD hS => ?_)
  have hP : va_P (dC, dI) classes [(a, .inr (2, fs103)), (q1, .inl (cA2, 12, .inl (upd f3 (2 : Int32).toNatClampNeg 2))), (q21, .inl (cA22, 11, .inl f23)), (q58, .inl (cA59, 9, .inl f60))] H := hP
  have hD : va_D A [(a, .inr (2, fs103)), (q1, .inl (cA2, 12, .inl (upd f3 (2 : Int32).toNatClampNeg 2))), (q21, .inl (cA22, 11, .inl f23)), (q58, .inl (cA59, 9, .inl f60))] := hD
  obtain ⟨f108, ef108⟩ : ∃ y : Nat → Int32, y = (upd f3 (2 : Int32).toNatClampNeg 2) := ⟨_, rfl⟩
  rw [← ef108] at hP hD
  have hv_109 : f108 0 = 0 := by rw [ef108, pk_un (by decide)]; exact hv_4
  have hv_110 : f108 1 = 0 := by rw [ef108, pk_un (by decide)]; exact hv_5
  refine lv_aload_n hx hb dX5_init_164 rfl (lv_at hl 0 rfl) ?_
  refine va_get (D := (dC, dI)) (ci := 2) (v := .ref q1) (C := RX5) (T := TX5) (N := 19) hx hb hG iX5 hown hK hP 0 rfl rfl 0 (by decide) (hG _ m_21) (fun _ h9 => h9) hf_105 dX5_init_165 ?_
  refine lv_bipush (v := 7) hx hb dX5_init_168 (by decide) ?_
  refine lv_iconst (v := 1) hx hb dX5_init_170 (by decide) ?_
  refine va_iast (D := (dC, dI)) hx hb hK hP hD hS 1 0 rfl rfl (by unfold vp_in; decide) dX5_init_171 (fun H locs hP hD hS => ?_)
  have hP : va_P (dC, dI) classes [(a, .inr (2, fs103)), (q1, .inl (cA2, 12, .inl (upd f108 (7 : Int32).toNatClampNeg 1))), (q21, .inl (cA22, 11, .inl f23)), (q58, .inl (cA59, 9, .inl f60))] H := hP
  have hD : va_D A [(a, .inr (2, fs103)), (q1, .inl (cA2, 12, .inl (upd f108 (7 : Int32).toNatClampNeg 1))), (q21, .inl (cA22, 11, .inl f23)), (q58, .inl (cA59, 9, .inl f60))] := hD
  obtain ⟨f111, ef111⟩ : ∃ y : Nat → Int32, y = (upd f108 (7 : Int32).toNatClampNeg 1) := ⟨_, rfl⟩
  rw [← ef111] at hP hD
  have hv_112 : f111 0 = 0 := by rw [ef111, pk_un (by decide)]; exact hv_109
  have hv_113 : f111 1 = 0 := by rw [ef111, pk_un (by decide)]; exact hv_110
  refine lv_aload_n hx hb dX5_init_172 rfl (lv_at hl 0 rfl) ?_
  refine va_get (D := (dC, dI)) (ci := 2) (v := .ref q1) (C := RX5) (T := TX5) (N := 19) hx hb hG iX5 hown hK hP 0 rfl rfl 0 (by decide) (hG _ m_21) (fun _ h9 => h9) hf_105 dX5_init_173 ?_
  refine lv_bipush (v := 9) hx hb dX5_init_176 (by decide) ?_
  refine lv_iconst (v := 1) hx hb dX5_init_178 (by decide) ?_
  refine va_iast (D := (dC, dI)) hx hb hK hP hD hS 1 0 rfl rfl (by unfold vp_in; decide) dX5_init_179 (fun H locs hP hD hS => ?_)
  have hP : va_P (dC, dI) classes [(a, .inr (2, fs103)), (q1, .inl (cA2, 12, .inl (upd f111 (9 : Int32).toNatClampNeg 1))), (q21, .inl (cA22, 11, .inl f23)), (q58, .inl (cA59, 9, .inl f60))] H := hP
  have hD : va_D A [(a, .inr (2, fs103)), (q1, .inl (cA2, 12, .inl (upd f111 (9 : Int32).toNatClampNeg 1))), (q21, .inl (cA22, 11, .inl f23)), (q58, .inl (cA59, 9, .inl f60))] := hD
  obtain ⟨f114, ef114⟩ : ∃ y : Nat → Int32, y = (upd f111 (9 : Int32).toNatClampNeg 1) := ⟨_, rfl⟩
  rw [← ef114] at hP hD
  have hv_115 : f114 0 = 0 := by rw [ef114, pk_un (by decide)]; exact hv_112
  have hv_116 : f114 1 = 0 := by rw [ef114, pk_un (by decide)]; exact hv_113
  refine lv_aload_n hx hb dX5_init_180 rfl (lv_at hl 0 rfl) ?_
  refine va_get (D := (dC, dI)) (ci := 2) (v := .ref q1) (C := RX5) (T := TX5) (N := 19) hx hb hG iX5 hown hK hP 0 rfl rfl 0 (by decide) (hG _ m_21) (fun _ h9 => h9) hf_105 dX5_init_181 ?_
  refine lv_bipush (v := 10) hx hb dX5_init_184 (by decide) ?_
  refine lv_iconst (v := 1) hx hb dX5_init_186 (by decide) ?_
  refine va_iast (D := (dC, dI)) hx hb hK hP hD hS 1 0 rfl rfl (by unfold vp_in; decide) dX5_init_187 (fun H locs hP hD hS => ?_)
  have hP : va_P (dC, dI) classes [(a, .inr (2, fs103)), (q1, .inl (cA2, 12, .inl (upd f114 (10 : Int32).toNatClampNeg 1))), (q21, .inl (cA22, 11, .inl f23)), (q58, .inl (cA59, 9, .inl f60))] H := hP
  have hD : va_D A [(a, .inr (2, fs103)), (q1, .inl (cA2, 12, .inl (upd f114 (10 : Int32).toNatClampNeg 1))), (q21, .inl (cA22, 11, .inl f23)), (q58, .inl (cA59, 9, .inl f60))] := hD
  obtain ⟨f117, ef117⟩ : ∃ y : Nat → Int32, y = (upd f114 (10 : Int32).toNatClampNeg 1) := ⟨_, rfl⟩
  rw [← ef117] at hP hD
  have hv_118 : f117 0 = 0 := by rw [ef117, pk_un (by decide)]; exact hv_115
  have hv_119 : f117 1 = 0 := by rw [ef117, pk_un (by decide)]; exact hv_116
  refine lv_aload_n hx hb dX5_init_188 rfl (lv_at hl 0 rfl) ?_
  refine va_get (D := (dC, dI)) (ci := 2) (v := .ref q1) (C := RX5) (T := TX5) (N := 19) hx hb hG iX5 hown hK hP 0 rfl rfl 0 (by decide) (hG _ m_21) (fun _ h9 => h9) hf_105 dX5_init_189 ?_
  refine lv_bipush (v := 11) hx hb dX5_init_192 (by decide) ?_
  refine lv_iconst (v := 2) hx hb dX5_init_194 (by decide) ?_
  refine va_iast (D := (dC, dI)) hx hb hK hP hD hS 1 0 rfl rfl (by unfold vp_in; decide) dX5_init_195 (fun H locs hP hD hS => ?_)
  have hP : va_P (dC, dI) classes [(a, .inr (2, fs103)), (q1, .inl (cA2, 12, .inl (upd f117 (11 : Int32).toNatClampNeg 2))), (q21, .inl (cA22, 11, .inl f23)), (q58, .inl (cA59, 9, .inl f60))] H := hP
  have hD : va_D A [(a, .inr (2, fs103)), (q1, .inl (cA2, 12, .inl (upd f117 (11 : Int32).toNatClampNeg 2))), (q21, .inl (cA22, 11, .inl f23)), (q58, .inl (cA59, 9, .inl f60))] := hD
  obtain ⟨f120, ef120⟩ : ∃ y : Nat → Int32, y = (upd f117 (11 : Int32).toNatClampNeg 2) := ⟨_, rfl⟩
  rw [← ef120] at hP hD
  have hv_121 : f120 0 = 0 := by rw [ef120, pk_un (by decide)]; exact hv_118
  have hv_122 : f120 1 = 0 := by rw [ef120, pk_un (by decide)]; exact hv_119
  refine lv_iconst (v := 0) hx hb dX5_init_196 (by decide) ?_
  refine lv_istore_n (lv' := [(1, .int 0), (0, .ref a)]) hx hb dX5_init_197 rfl hl (by decide) rfl (fun ls hl => ?_)
  refine lv_iload_n hx hb dX5_init_198 rfl (lv_at hl 0 rfl) ?_
  refine lv_bipush (v := 11) hx hb dX5_init_199 (by decide) ?_
  refine lv_icmp_ge (tgt := 219) hx hb dX5_init_201 (by decide) (fun c9 => absurd c9 (by decide)) (fun _ => ?_)
  refine lv_aload_n hx hb dX5_init_204 rfl (lv_at hl 1 rfl) ?_
  refine va_get (D := (dC, dI)) (ci := 2) (v := .ref q21) (C := RX5) (T := TX5) (N := 19) hx hb hG iX5 hown hK hP 0 rfl rfl 4 (by decide) (hG _ m_25) (fun _ h9 => h9) hf_106 dX5_init_205 ?_
  refine lv_iload_n hx hb dX5_init_208 rfl (lv_at hl 0 rfl) ?_
  refine lv_sipush (v := 400) hx hb dX5_init_209 (by decide) ?_
  refine va_iast (D := (dC, dI)) hx hb hK hP hD hS 2 1 rfl rfl (by unfold vp_in; decide) dX5_init_212 (fun H locs hP hD hS => ?_)
  have hP : va_P (dC, dI) classes [(a, .inr (2, fs103)), (q1, .inl (cA2, 12, .inl f120)), (q21, .inl (cA22, 11, .inl (upd f23 (0 : Int32).toNatClampNeg 400))), (q58, .inl (cA59, 9, .inl f60))] H := hP
  have hD : va_D A [(a, .inr (2, fs103)), (q1, .inl (cA2, 12, .inl f120)), (q21, .inl (cA22, 11, .inl (upd f23 (0 : Int32).toNatClampNeg 400))), (q58, .inl (cA59, 9, .inl f60))] := hD
  obtain ⟨f123, ef123⟩ : ∃ y : Nat → Int32, y = (upd f23 (0 : Int32).toNatClampNeg 400) := ⟨_, rfl⟩
  rw [← ef123] at hP hD
  refine lv_iinc (v := 1) (lv' := [(1, .int 1), (0, .ref a)]) hx hb dX5_init_213 hl (k := 0) rfl (by decide) (by decide) rfl (fun ls hl => ?_)
  refine lv_goto (tgt := 198) hx hb dX5_init_216 (by decide) ?_
  refine lv_iload_n hx hb dX5_init_198 rfl (lv_at hl 0 rfl) ?_
  refine lv_bipush (v := 11) hx hb dX5_init_199 (by decide) ?_
  refine lv_icmp_ge (tgt := 219) hx hb dX5_init_201 (by decide) (fun c9 => absurd c9 (by decide)) (fun _ => ?_)
  refine lv_aload_n hx hb dX5_init_204 rfl (lv_at hl 1 rfl) ?_
  refine va_get (D := (dC, dI)) (ci := 2) (v := .ref q21) (C := RX5) (T := TX5) (N := 19) hx hb hG iX5 hown hK hP 0 rfl rfl 4 (by decide) (hG _ m_25) (fun _ h9 => h9) hf_106 dX5_init_205 ?_
  refine lv_iload_n hx hb dX5_init_208 rfl (lv_at hl 0 rfl) ?_
  refine lv_sipush (v := 400) hx hb dX5_init_209 (by decide) ?_
  refine va_iast (D := (dC, dI)) hx hb hK hP hD hS 2 1 rfl rfl (by unfold vp_in; decide) dX5_init_212 (fun H locs hP hD hS => ?_)
  have hP : va_P (dC, dI) classes [(a, .inr (2, fs103)), (q1, .inl (cA2, 12, .inl f120)), (q21, .inl (cA22, 11, .inl (upd f123 (1 : Int32).toNatClampNeg 400))), (q58, .inl (cA59, 9, .inl f60))] H := hP
  have hD : va_D A [(a, .inr (2, fs103)), (q1, .inl (cA2, 12, .inl f120)), (q21, .inl (cA22, 11, .inl (upd f123 (1 : Int32).toNatClampNeg 400))), (q58, .inl (cA59, 9, .inl f60))] := hD
  obtain ⟨f124, ef124⟩ : ∃ y : Nat → Int32, y = (upd f123 (1 : Int32).toNatClampNeg 400) := ⟨_, rfl⟩
  rw [← ef124] at hP hD
  refine lv_iinc (v := 2) (lv' := [(1, .int 2), (0, .ref a)]) hx hb dX5_init_213 hl (k := 0) rfl (by decide) (by decide) rfl (fun ls hl => ?_)
  refine lv_goto (tgt := 198) hx hb dX5_init_216 (by decide) ?_
  refine lv_iload_n hx hb dX5_init_198 rfl (lv_at hl 0 rfl) ?_
  refine lv_bipush (v := 11) hx hb dX5_init_199 (by decide) ?_
  refine lv_icmp_ge (tgt := 219) hx hb dX5_init_201 (by decide) (fun c9 => absurd c9 (by decide)) (fun _ => ?_)
  refine lv_aload_n hx hb dX5_init_204 rfl (lv_at hl 1 rfl) ?_
  refine va_get (D := (dC, dI)) (ci := 2) (v := .ref q21) (C := RX5) (T := TX5) (N := 19) hx hb hG iX5 hown hK hP 0 rfl rfl 4 (by decide) (hG _ m_25) (fun _ h9 => h9) hf_106 dX5_init_205 ?_
  refine lv_iload_n hx hb dX5_init_208 rfl (lv_at hl 0 rfl) ?_
  refine lv_sipush (v := 400) hx hb dX5_init_209 (by decide) ?_
  refine va_iast (D := (dC, dI)) hx hb hK hP hD hS 2 1 rfl rfl (by unfold vp_in; decide) dX5_init_212 (fun H locs hP hD hS => ?_)
  have hP : va_P (dC, dI) classes [(a, .inr (2, fs103)), (q1, .inl (cA2, 12, .inl f120)), (q21, .inl (cA22, 11, .inl (upd f124 (2 : Int32).toNatClampNeg 400))), (q58, .inl (cA59, 9, .inl f60))] H := hP
  have hD : va_D A [(a, .inr (2, fs103)), (q1, .inl (cA2, 12, .inl f120)), (q21, .inl (cA22, 11, .inl (upd f124 (2 : Int32).toNatClampNeg 400))), (q58, .inl (cA59, 9, .inl f60))] := hD
  obtain ⟨f125, ef125⟩ : ∃ y : Nat → Int32, y = (upd f124 (2 : Int32).toNatClampNeg 400) := ⟨_, rfl⟩
  rw [← ef125] at hP hD
  refine lv_iinc (v := 3) (lv' := [(1, .int 3), (0, .ref a)]) hx hb dX5_init_213 hl (k := 0) rfl (by decide) (by decide) rfl (fun ls hl => ?_)
  refine lv_goto (tgt := 198) hx hb dX5_init_216 (by decide) ?_
  refine lv_iload_n hx hb dX5_init_198 rfl (lv_at hl 0 rfl) ?_
  refine lv_bipush (v := 11) hx hb dX5_init_199 (by decide) ?_
  refine lv_icmp_ge (tgt := 219) hx hb dX5_init_201 (by decide) (fun c9 => absurd c9 (by decide)) (fun _ => ?_)
  refine lv_aload_n hx hb dX5_init_204 rfl (lv_at hl 1 rfl) ?_
  refine va_get (D := (dC, dI)) (ci := 2) (v := .ref q21) (C := RX5) (T := TX5) (N := 19) hx hb hG iX5 hown hK hP 0 rfl rfl 4 (by decide) (hG _ m_25) (fun _ h9 => h9) hf_106 dX5_init_205 ?_
  refine lv_iload_n hx hb dX5_init_208 rfl (lv_at hl 0 rfl) ?_
  refine lv_sipush (v := 400) hx hb dX5_init_209 (by decide) ?_
  refine va_iast (D := (dC, dI)) hx hb hK hP hD hS 2 1 rfl rfl (by unfold vp_in; decide) dX5_init_212 (fun H locs hP hD hS => ?_)
  have hP : va_P (dC, dI) classes [(a, .inr (2, fs103)), (q1, .inl (cA2, 12, .inl f120)), (q21, .inl (cA22, 11, .inl (upd f125 (3 : Int32).toNatClampNeg 400))), (q58, .inl (cA59, 9, .inl f60))] H := hP
  have hD : va_D A [(a, .inr (2, fs103)), (q1, .inl (cA2, 12, .inl f120)), (q21, .inl (cA22, 11, .inl (upd f125 (3 : Int32).toNatClampNeg 400))), (q58, .inl (cA59, 9, .inl f60))] := hD
  obtain ⟨f126, ef126⟩ : ∃ y : Nat → Int32, y = (upd f125 (3 : Int32).toNatClampNeg 400) := ⟨_, rfl⟩
  rw [← ef126] at hP hD
  refine lv_iinc (v := 4) (lv' := [(1, .int 4), (0, .ref a)]) hx hb dX5_init_213 hl (k := 0) rfl (by decide) (by decide) rfl (fun ls hl => ?_)
  refine lv_goto (tgt := 198) hx hb dX5_init_216 (by decide) ?_
  refine lv_iload_n hx hb dX5_init_198 rfl (lv_at hl 0 rfl) ?_
  refine lv_bipush (v := 11) hx hb dX5_init_199 (by decide) ?_
  refine lv_icmp_ge (tgt := 219) hx hb dX5_init_201 (by decide) (fun c9 => absurd c9 (by decide)) (fun _ => ?_)
  refine lv_aload_n hx hb dX5_init_204 rfl (lv_at hl 1 rfl) ?_
  refine va_get (D := (dC, dI)) (ci := 2) (v := .ref q21) (C := RX5) (T := TX5) (N := 19) hx hb hG iX5 hown hK hP 0 rfl rfl 4 (by decide) (hG _ m_25) (fun _ h9 => h9) hf_106 dX5_init_205 ?_
  refine lv_iload_n hx hb dX5_init_208 rfl (lv_at hl 0 rfl) ?_
  refine lv_sipush (v := 400) hx hb dX5_init_209 (by decide) ?_
  refine va_iast (D := (dC, dI)) hx hb hK hP hD hS 2 1 rfl rfl (by unfold vp_in; decide) dX5_init_212 (fun H locs hP hD hS => ?_)
  have hP : va_P (dC, dI) classes [(a, .inr (2, fs103)), (q1, .inl (cA2, 12, .inl f120)), (q21, .inl (cA22, 11, .inl (upd f126 (4 : Int32).toNatClampNeg 400))), (q58, .inl (cA59, 9, .inl f60))] H := hP
  have hD : va_D A [(a, .inr (2, fs103)), (q1, .inl (cA2, 12, .inl f120)), (q21, .inl (cA22, 11, .inl (upd f126 (4 : Int32).toNatClampNeg 400))), (q58, .inl (cA59, 9, .inl f60))] := hD
  obtain ⟨f127, ef127⟩ : ∃ y : Nat → Int32, y = (upd f126 (4 : Int32).toNatClampNeg 400) := ⟨_, rfl⟩
  rw [← ef127] at hP hD
  refine lv_iinc (v := 5) (lv' := [(1, .int 5), (0, .ref a)]) hx hb dX5_init_213 hl (k := 0) rfl (by decide) (by decide) rfl (fun ls hl => ?_)
  refine lv_goto (tgt := 198) hx hb dX5_init_216 (by decide) ?_
  refine lv_iload_n hx hb dX5_init_198 rfl (lv_at hl 0 rfl) ?_
  refine lv_bipush (v := 11) hx hb dX5_init_199 (by decide) ?_
  refine lv_icmp_ge (tgt := 219) hx hb dX5_init_201 (by decide) (fun c9 => absurd c9 (by decide)) (fun _ => ?_)
  refine lv_aload_n hx hb dX5_init_204 rfl (lv_at hl 1 rfl) ?_
  refine va_get (D := (dC, dI)) (ci := 2) (v := .ref q21) (C := RX5) (T := TX5) (N := 19) hx hb hG iX5 hown hK hP 0 rfl rfl 4 (by decide) (hG _ m_25) (fun _ h9 => h9) hf_106 dX5_init_205 ?_
  refine lv_iload_n hx hb dX5_init_208 rfl (lv_at hl 0 rfl) ?_
  refine lv_sipush (v := 400) hx hb dX5_init_209 (by decide) ?_
  refine va_iast (D := (dC, dI)) hx hb hK hP hD hS 2 1 rfl rfl (by unfold vp_in; decide) dX5_init_212 (fun H locs hP hD hS => ?_)
  have hP : va_P (dC, dI) classes [(a, .inr (2, fs103)), (q1, .inl (cA2, 12, .inl f120)), (q21, .inl (cA22, 11, .inl (upd f127 (5 : Int32).toNatClampNeg 400))), (q58, .inl (cA59, 9, .inl f60))] H := hP
  have hD : va_D A [(a, .inr (2, fs103)), (q1, .inl (cA2, 12, .inl f120)), (q21, .inl (cA22, 11, .inl (upd f127 (5 : Int32).toNatClampNeg 400))), (q58, .inl (cA59, 9, .inl f60))] := hD
  obtain ⟨f128, ef128⟩ : ∃ y : Nat → Int32, y = (upd f127 (5 : Int32).toNatClampNeg 400) := ⟨_, rfl⟩
  rw [← ef128] at hP hD
  refine lv_iinc (v := 6) (lv' := [(1, .int 6), (0, .ref a)]) hx hb dX5_init_213 hl (k := 0) rfl (by decide) (by decide) rfl (fun ls hl => ?_)
  refine lv_goto (tgt := 198) hx hb dX5_init_216 (by decide) ?_
  refine lv_iload_n hx hb dX5_init_198 rfl (lv_at hl 0 rfl) ?_
  refine lv_bipush (v := 11) hx hb dX5_init_199 (by decide) ?_
  refine lv_icmp_ge (tgt := 219) hx hb dX5_init_201 (by decide) (fun c9 => absurd c9 (by decide)) (fun _ => ?_)
  refine lv_aload_n hx hb dX5_init_204 rfl (lv_at hl 1 rfl) ?_
  refine va_get (D := (dC, dI)) (ci := 2) (v := .ref q21) (C := RX5) (T := TX5) (N := 19) hx hb hG iX5 hown hK hP 0 rfl rfl 4 (by decide) (hG _ m_25) (fun _ h9 => h9) hf_106 dX5_init_205 ?_
  refine lv_iload_n hx hb dX5_init_208 rfl (lv_at hl 0 rfl) ?_
  refine lv_sipush (v := 400) hx hb dX5_init_209 (by decide) ?_
  refine va_iast (D := (dC, dI)) hx hb hK hP hD hS 2 1 rfl rfl (by unfold vp_in; decide) dX5_init_212 (fun H locs hP hD hS => ?_)
  have hP : va_P (dC, dI) classes [(a, .inr (2, fs103)), (q1, .inl (cA2, 12, .inl f120)), (q21, .inl (cA22, 11, .inl (upd f128 (6 : Int32).toNatClampNeg 400))), (q58, .inl (cA59, 9, .inl f60))] H := hP
  have hD : va_D A [(a, .inr (2, fs103)), (q1, .inl (cA2, 12, .inl f120)), (q21, .inl (cA22, 11, .inl (upd f128 (6 : Int32).toNatClampNeg 400))), (q58, .inl (cA59, 9, .inl f60))] := hD
  obtain ⟨f129, ef129⟩ : ∃ y : Nat → Int32, y = (upd f128 (6 : Int32).toNatClampNeg 400) := ⟨_, rfl⟩
  rw [← ef129] at hP hD
  refine lv_iinc (v := 7) (lv' := [(1, .int 7), (0, .ref a)]) hx hb dX5_init_213 hl (k := 0) rfl (by decide) (by decide) rfl (fun ls hl => ?_)
  refine lv_goto (tgt := 198) hx hb dX5_init_216 (by decide) ?_
  refine lv_iload_n hx hb dX5_init_198 rfl (lv_at hl 0 rfl) ?_
  refine lv_bipush (v := 11) hx hb dX5_init_199 (by decide) ?_
  refine lv_icmp_ge (tgt := 219) hx hb dX5_init_201 (by decide) (fun c9 => absurd c9 (by decide)) (fun _ => ?_)
  refine lv_aload_n hx hb dX5_init_204 rfl (lv_at hl 1 rfl) ?_
  refine va_get (D := (dC, dI)) (ci := 2) (v := .ref q21) (C := RX5) (T := TX5) (N := 19) hx hb hG iX5 hown hK hP 0 rfl rfl 4 (by decide) (hG _ m_25) (fun _ h9 => h9) hf_106 dX5_init_205 ?_
  refine lv_iload_n hx hb dX5_init_208 rfl (lv_at hl 0 rfl) ?_
  refine lv_sipush (v := 400) hx hb dX5_init_209 (by decide) ?_
  refine va_iast (D := (dC, dI)) hx hb hK hP hD hS 2 1 rfl rfl (by unfold vp_in; decide) dX5_init_212 (fun H locs hP hD hS => ?_)
  have hP : va_P (dC, dI) classes [(a, .inr (2, fs103)), (q1, .inl (cA2, 12, .inl f120)), (q21, .inl (cA22, 11, .inl (upd f129 (7 : Int32).toNatClampNeg 400))), (q58, .inl (cA59, 9, .inl f60))] H := hP
  have hD : va_D A [(a, .inr (2, fs103)), (q1, .inl (cA2, 12, .inl f120)), (q21, .inl (cA22, 11, .inl (upd f129 (7 : Int32).toNatClampNeg 400))), (q58, .inl (cA59, 9, .inl f60))] := hD
  obtain ⟨f130, ef130⟩ : ∃ y : Nat → Int32, y = (upd f129 (7 : Int32).toNatClampNeg 400) := ⟨_, rfl⟩
  rw [← ef130] at hP hD
  refine lv_iinc (v := 8) (lv' := [(1, .int 8), (0, .ref a)]) hx hb dX5_init_213 hl (k := 0) rfl (by decide) (by decide) rfl (fun ls hl => ?_)
  refine lv_goto (tgt := 198) hx hb dX5_init_216 (by decide) ?_
  refine lv_iload_n hx hb dX5_init_198 rfl (lv_at hl 0 rfl) ?_
  refine lv_bipush (v := 11) hx hb dX5_init_199 (by decide) ?_
  refine lv_icmp_ge (tgt := 219) hx hb dX5_init_201 (by decide) (fun c9 => absurd c9 (by decide)) (fun _ => ?_)
  refine lv_aload_n hx hb dX5_init_204 rfl (lv_at hl 1 rfl) ?_
  refine va_get (D := (dC, dI)) (ci := 2) (v := .ref q21) (C := RX5) (T := TX5) (N := 19) hx hb hG iX5 hown hK hP 0 rfl rfl 4 (by decide) (hG _ m_25) (fun _ h9 => h9) hf_106 dX5_init_205 ?_
  refine lv_iload_n hx hb dX5_init_208 rfl (lv_at hl 0 rfl) ?_
  refine lv_sipush (v := 400) hx hb dX5_init_209 (by decide) ?_
  refine va_iast (D := (dC, dI)) hx hb hK hP hD hS 2 1 rfl rfl (by unfold vp_in; decide) dX5_init_212 (fun H locs hP hD hS => ?_)
  have hP : va_P (dC, dI) classes [(a, .inr (2, fs103)), (q1, .inl (cA2, 12, .inl f120)), (q21, .inl (cA22, 11, .inl (upd f130 (8 : Int32).toNatClampNeg 400))), (q58, .inl (cA59, 9, .inl f60))] H := hP
  have hD : va_D A [(a, .inr (2, fs103)), (q1, .inl (cA2, 12, .inl f120)), (q21, .inl (cA22, 11, .inl (upd f130 (8 : Int32).toNatClampNeg 400))), (q58, .inl (cA59, 9, .inl f60))] := hD
  obtain ⟨f131, ef131⟩ : ∃ y : Nat → Int32, y = (upd f130 (8 : Int32).toNatClampNeg 400) := ⟨_, rfl⟩
  rw [← ef131] at hP hD
  refine lv_iinc (v := 9) (lv' := [(1, .int 9), (0, .ref a)]) hx hb dX5_init_213 hl (k := 0) rfl (by decide) (by decide) rfl (fun ls hl => ?_)
  refine lv_goto (tgt := 198) hx hb dX5_init_216 (by decide) ?_
  refine lv_iload_n hx hb dX5_init_198 rfl (lv_at hl 0 rfl) ?_
  refine lv_bipush (v := 11) hx hb dX5_init_199 (by decide) ?_
  refine lv_icmp_ge (tgt := 219) hx hb dX5_init_201 (by decide) (fun c9 => absurd c9 (by decide)) (fun _ => ?_)
  refine lv_aload_n hx hb dX5_init_204 rfl (lv_at hl 1 rfl) ?_
  refine va_get (D := (dC, dI)) (ci := 2) (v := .ref q21) (C := RX5) (T := TX5) (N := 19) hx hb hG iX5 hown hK hP 0 rfl rfl 4 (by decide) (hG _ m_25) (fun _ h9 => h9) hf_106 dX5_init_205 ?_
  refine lv_iload_n hx hb dX5_init_208 rfl (lv_at hl 0 rfl) ?_
  refine lv_sipush (v := 400) hx hb dX5_init_209 (by decide) ?_
  refine va_iast (D := (dC, dI)) hx hb hK hP hD hS 2 1 rfl rfl (by unfold vp_in; decide) dX5_init_212 (fun H locs hP hD hS => ?_)
  have hP : va_P (dC, dI) classes [(a, .inr (2, fs103)), (q1, .inl (cA2, 12, .inl f120)), (q21, .inl (cA22, 11, .inl (upd f131 (9 : Int32).toNatClampNeg 400))), (q58, .inl (cA59, 9, .inl f60))] H := hP
  have hD : va_D A [(a, .inr (2, fs103)), (q1, .inl (cA2, 12, .inl f120)), (q21, .inl (cA22, 11, .inl (upd f131 (9 : Int32).toNatClampNeg 400))), (q58, .inl (cA59, 9, .inl f60))] := hD
  obtain ⟨f132, ef132⟩ : ∃ y : Nat → Int32, y = (upd f131 (9 : Int32).toNatClampNeg 400) := ⟨_, rfl⟩
  rw [← ef132] at hP hD
  refine lv_iinc (v := 10) (lv' := [(1, .int 10), (0, .ref a)]) hx hb dX5_init_213 hl (k := 0) rfl (by decide) (by decide) rfl (fun ls hl => ?_)
  refine lv_goto (tgt := 198) hx hb dX5_init_216 (by decide) ?_
  refine lv_iload_n hx hb dX5_init_198 rfl (lv_at hl 0 rfl) ?_
  refine lv_bipush (v := 11) hx hb dX5_init_199 (by decide) ?_
  refine lv_icmp_ge (tgt := 219) hx hb dX5_init_201 (by decide) (fun c9 => absurd c9 (by decide)) (fun _ => ?_)
  refine lv_aload_n hx hb dX5_init_204 rfl (lv_at hl 1 rfl) ?_
  refine va_get (D := (dC, dI)) (ci := 2) (v := .ref q21) (C := RX5) (T := TX5) (N := 19) hx hb hG iX5 hown hK hP 0 rfl rfl 4 (by decide) (hG _ m_25) (fun _ h9 => h9) hf_106 dX5_init_205 ?_
  refine lv_iload_n hx hb dX5_init_208 rfl (lv_at hl 0 rfl) ?_
  refine lv_sipush (v := 400) hx hb dX5_init_209 (by decide) ?_
  refine va_iast (D := (dC, dI)) hx hb hK hP hD hS 2 1 rfl rfl (by unfold vp_in; decide) dX5_init_212 (fun H locs hP hD hS => ?_)
  have hP : va_P (dC, dI) classes [(a, .inr (2, fs103)), (q1, .inl (cA2, 12, .inl f120)), (q21, .inl (cA22, 11, .inl (upd f132 (10 : Int32).toNatClampNeg 400))), (q58, .inl (cA59, 9, .inl f60))] H := hP
  have hD : va_D A [(a, .inr (2, fs103)), (q1, .inl (cA2, 12, .inl f120)), (q21, .inl (cA22, 11, .inl (upd f132 (10 : Int32).toNatClampNeg 400))), (q58, .inl (cA59, 9, .inl f60))] := hD
  obtain ⟨f133, ef133⟩ : ∃ y : Nat → Int32, y = (upd f132 (10 : Int32).toNatClampNeg 400) := ⟨_, rfl⟩
  rw [← ef133] at hP hD
  refine lv_iinc (v := 11) (lv' := [(1, .int 11), (0, .ref a)]) hx hb dX5_init_213 hl (k := 0) rfl (by decide) (by decide) rfl (fun ls hl => ?_)
  refine lv_goto (tgt := 198) hx hb dX5_init_216 (by decide) ?_
  refine lv_iload_n hx hb dX5_init_198 rfl (lv_at hl 0 rfl) ?_
  refine lv_bipush (v := 11) hx hb dX5_init_199 (by decide) ?_
  refine lv_icmp_ge (tgt := 219) hx hb dX5_init_201 (by decide) (fun _ => ?_) (fun c9 => absurd (by decide) c9)
  refine lv_iconst (v := 0) hx hb dX5_init_219 (by decide) ?_
  refine lv_istore_n (lv' := [(1, .int 0), (0, .ref a)]) hx hb dX5_init_220 rfl hl (by decide) rfl (fun ls hl => ?_)
  refine lv_iload_n hx hb dX5_init_221 rfl (lv_at hl 0 rfl) ?_
  refine lv_bipush (v := 9) hx hb dX5_init_222 (by decide) ?_
  refine lv_icmp_ge (tgt := 240) hx hb dX5_init_224 (by decide) (fun c9 => absurd c9 (by decide)) (fun _ => ?_)
  refine lv_aload_n hx hb dX5_init_227 rfl (lv_at hl 1 rfl) ?_
  refine va_get (D := (dC, dI)) (ci := 2) (v := .ref q58) (C := RX5) (T := TX5) (N := 19) hx hb hG iX5 hown hK hP 0 rfl rfl 11 (by decide) (hG _ m_32) (fun _ h9 => h9) hf_107 dX5_init_228 ?_
  refine lv_iload_n hx hb dX5_init_231 rfl (lv_at hl 0 rfl) ?_
  refine lv_iconst (v := (-1)) hx hb dX5_init_232 (by decide) ?_
  refine va_iast (D := (dC, dI)) hx hb hK hP hD hS 3 2 rfl rfl (by unfold vp_in; decide) dX5_init_233 (fun H locs hP hD hS => ?_)
  have hP : va_P (dC, dI) classes [(a, .inr (2, fs103)), (q1, .inl (cA2, 12, .inl f120)), (q21, .inl (cA22, 11, .inl f133)), (q58, .inl (cA59, 9, .inl (upd f60 (0 : Int32).toNatClampNeg (-1))))] H := hP
  have hD : va_D A [(a, .inr (2, fs103)), (q1, .inl (cA2, 12, .inl f120)), (q21, .inl (cA22, 11, .inl f133)), (q58, .inl (cA59, 9, .inl (upd f60 (0 : Int32).toNatClampNeg (-1))))] := hD
  obtain ⟨f134, ef134⟩ : ∃ y : Nat → Int32, y = (upd f60 (0 : Int32).toNatClampNeg (-1)) := ⟨_, rfl⟩
  rw [← ef134] at hP hD
  refine lv_iinc (v := 1) (lv' := [(1, .int 1), (0, .ref a)]) hx hb dX5_init_234 hl (k := 0) rfl (by decide) (by decide) rfl (fun ls hl => ?_)
  refine lv_goto (tgt := 221) hx hb dX5_init_237 (by decide) ?_
  refine lv_iload_n hx hb dX5_init_221 rfl (lv_at hl 0 rfl) ?_
  refine lv_bipush (v := 9) hx hb dX5_init_222 (by decide) ?_
  refine lv_icmp_ge (tgt := 240) hx hb dX5_init_224 (by decide) (fun c9 => absurd c9 (by decide)) (fun _ => ?_)
  refine lv_aload_n hx hb dX5_init_227 rfl (lv_at hl 1 rfl) ?_
  refine va_get (D := (dC, dI)) (ci := 2) (v := .ref q58) (C := RX5) (T := TX5) (N := 19) hx hb hG iX5 hown hK hP 0 rfl rfl 11 (by decide) (hG _ m_32) (fun _ h9 => h9) hf_107 dX5_init_228 ?_
  refine lv_iload_n hx hb dX5_init_231 rfl (lv_at hl 0 rfl) ?_
  refine lv_iconst (v := (-1)) hx hb dX5_init_232 (by decide) ?_
  refine va_iast (D := (dC, dI)) hx hb hK hP hD hS 3 2 rfl rfl (by unfold vp_in; decide) dX5_init_233 (fun H locs hP hD hS => ?_)
  have hP : va_P (dC, dI) classes [(a, .inr (2, fs103)), (q1, .inl (cA2, 12, .inl f120)), (q21, .inl (cA22, 11, .inl f133)), (q58, .inl (cA59, 9, .inl (upd f134 (1 : Int32).toNatClampNeg (-1))))] H := hP
  have hD : va_D A [(a, .inr (2, fs103)), (q1, .inl (cA2, 12, .inl f120)), (q21, .inl (cA22, 11, .inl f133)), (q58, .inl (cA59, 9, .inl (upd f134 (1 : Int32).toNatClampNeg (-1))))] := hD
  obtain ⟨f135, ef135⟩ : ∃ y : Nat → Int32, y = (upd f134 (1 : Int32).toNatClampNeg (-1)) := ⟨_, rfl⟩
  rw [← ef135] at hP hD
  refine lv_iinc (v := 2) (lv' := [(1, .int 2), (0, .ref a)]) hx hb dX5_init_234 hl (k := 0) rfl (by decide) (by decide) rfl (fun ls hl => ?_)
  refine lv_goto (tgt := 221) hx hb dX5_init_237 (by decide) ?_
  refine lv_iload_n hx hb dX5_init_221 rfl (lv_at hl 0 rfl) ?_
  refine lv_bipush (v := 9) hx hb dX5_init_222 (by decide) ?_
  refine lv_icmp_ge (tgt := 240) hx hb dX5_init_224 (by decide) (fun c9 => absurd c9 (by decide)) (fun _ => ?_)
  refine lv_aload_n hx hb dX5_init_227 rfl (lv_at hl 1 rfl) ?_
  refine va_get (D := (dC, dI)) (ci := 2) (v := .ref q58) (C := RX5) (T := TX5) (N := 19) hx hb hG iX5 hown hK hP 0 rfl rfl 11 (by decide) (hG _ m_32) (fun _ h9 => h9) hf_107 dX5_init_228 ?_
  refine lv_iload_n hx hb dX5_init_231 rfl (lv_at hl 0 rfl) ?_
  refine lv_iconst (v := (-1)) hx hb dX5_init_232 (by decide) ?_
  refine va_iast (D := (dC, dI)) hx hb hK hP hD hS 3 2 rfl rfl (by unfold vp_in; decide) dX5_init_233 (fun H locs hP hD hS => ?_)
  have hP : va_P (dC, dI) classes [(a, .inr (2, fs103)), (q1, .inl (cA2, 12, .inl f120)), (q21, .inl (cA22, 11, .inl f133)), (q58, .inl (cA59, 9, .inl (upd f135 (2 : Int32).toNatClampNeg (-1))))] H := hP
  have hD : va_D A [(a, .inr (2, fs103)), (q1, .inl (cA2, 12, .inl f120)), (q21, .inl (cA22, 11, .inl f133)), (q58, .inl (cA59, 9, .inl (upd f135 (2 : Int32).toNatClampNeg (-1))))] := hD
  obtain ⟨f136, ef136⟩ : ∃ y : Nat → Int32, y = (upd f135 (2 : Int32).toNatClampNeg (-1)) := ⟨_, rfl⟩
  rw [← ef136] at hP hD
  refine lv_iinc (v := 3) (lv' := [(1, .int 3), (0, .ref a)]) hx hb dX5_init_234 hl (k := 0) rfl (by decide) (by decide) rfl (fun ls hl => ?_)
  refine lv_goto (tgt := 221) hx hb dX5_init_237 (by decide) ?_
  refine lv_iload_n hx hb dX5_init_221 rfl (lv_at hl 0 rfl) ?_
  refine lv_bipush (v := 9) hx hb dX5_init_222 (by decide) ?_
  refine lv_icmp_ge (tgt := 240) hx hb dX5_init_224 (by decide) (fun c9 => absurd c9 (by decide)) (fun _ => ?_)
  refine lv_aload_n hx hb dX5_init_227 rfl (lv_at hl 1 rfl) ?_
  refine va_get (D := (dC, dI)) (ci := 2) (v := .ref q58) (C := RX5) (T := TX5) (N := 19) hx hb hG iX5 hown hK hP 0 rfl rfl 11 (by decide) (hG _ m_32) (fun _ h9 => h9) hf_107 dX5_init_228 ?_
  refine lv_iload_n hx hb dX5_init_231 rfl (lv_at hl 0 rfl) ?_
  refine lv_iconst (v := (-1)) hx hb dX5_init_232 (by decide) ?_
  refine va_iast (D := (dC, dI)) hx hb hK hP hD hS 3 2 rfl rfl (by unfold vp_in; decide) dX5_init_233 (fun H locs hP hD hS => ?_)
  have hP : va_P (dC, dI) classes [(a, .inr (2, fs103)), (q1, .inl (cA2, 12, .inl f120)), (q21, .inl (cA22, 11, .inl f133)), (q58, .inl (cA59, 9, .inl (upd f136 (3 : Int32).toNatClampNeg (-1))))] H := hP
  have hD : va_D A [(a, .inr (2, fs103)), (q1, .inl (cA2, 12, .inl f120)), (q21, .inl (cA22, 11, .inl f133)), (q58, .inl (cA59, 9, .inl (upd f136 (3 : Int32).toNatClampNeg (-1))))] := hD
  obtain ⟨f137, ef137⟩ : ∃ y : Nat → Int32, y = (upd f136 (3 : Int32).toNatClampNeg (-1)) := ⟨_, rfl⟩
  rw [← ef137] at hP hD
  refine lv_iinc (v := 4) (lv' := [(1, .int 4), (0, .ref a)]) hx hb dX5_init_234 hl (k := 0) rfl (by decide) (by decide) rfl (fun ls hl => ?_)
  refine lv_goto (tgt := 221) hx hb dX5_init_237 (by decide) ?_
  refine lv_iload_n hx hb dX5_init_221 rfl (lv_at hl 0 rfl) ?_
  refine lv_bipush (v := 9) hx hb dX5_init_222 (by decide) ?_
  refine lv_icmp_ge (tgt := 240) hx hb dX5_init_224 (by decide) (fun c9 => absurd c9 (by decide)) (fun _ => ?_)
  refine lv_aload_n hx hb dX5_init_227 rfl (lv_at hl 1 rfl) ?_
  refine va_get (D := (dC, dI)) (ci := 2) (v := .ref q58) (C := RX5) (T := TX5) (N := 19) hx hb hG iX5 hown hK hP 0 rfl rfl 11 (by decide) (hG _ m_32) (fun _ h9 => h9) hf_107 dX5_init_228 ?_
  refine lv_iload_n hx hb dX5_init_231 rfl (lv_at hl 0 rfl) ?_
  refine lv_iconst (v := (-1)) hx hb dX5_init_232 (by decide) ?_
  refine va_iast (D := (dC, dI)) hx hb hK hP hD hS 3 2 rfl rfl (by unfold vp_in; decide) dX5_init_233 (fun H locs hP hD hS => ?_)
  have hP : va_P (dC, dI) classes [(a, .inr (2, fs103)), (q1, .inl (cA2, 12, .inl f120)), (q21, .inl (cA22, 11, .inl f133)), (q58, .inl (cA59, 9, .inl (upd f137 (4 : Int32).toNatClampNeg (-1))))] H := hP
  have hD : va_D A [(a, .inr (2, fs103)), (q1, .inl (cA2, 12, .inl f120)), (q21, .inl (cA22, 11, .inl f133)), (q58, .inl (cA59, 9, .inl (upd f137 (4 : Int32).toNatClampNeg (-1))))] := hD
  obtain ⟨f138, ef138⟩ : ∃ y : Nat → Int32, y = (upd f137 (4 : Int32).toNatClampNeg (-1)) := ⟨_, rfl⟩
  rw [← ef138] at hP hD
  refine lv_iinc (v := 5) (lv' := [(1, .int 5), (0, .ref a)]) hx hb dX5_init_234 hl (k := 0) rfl (by decide) (by decide) rfl (fun ls hl => ?_)
  refine lv_goto (tgt := 221) hx hb dX5_init_237 (by decide) ?_
  refine lv_iload_n hx hb dX5_init_221 rfl (lv_at hl 0 rfl) ?_
  refine lv_bipush (v := 9) hx hb dX5_init_222 (by decide) ?_
  refine lv_icmp_ge (tgt := 240) hx hb dX5_init_224 (by decide) (fun c9 => absurd c9 (by decide)) (fun _ => ?_)
  refine lv_aload_n hx hb dX5_init_227 rfl (lv_at hl 1 rfl) ?_
  refine va_get (D := (dC, dI)) (ci := 2) (v := .ref q58) (C := RX5) (T := TX5) (N := 19) hx hb hG iX5 hown hK hP 0 rfl rfl 11 (by decide) (hG _ m_32) (fun _ h9 => h9) hf_107 dX5_init_228 ?_
  refine lv_iload_n hx hb dX5_init_231 rfl (lv_at hl 0 rfl) ?_
  refine lv_iconst (v := (-1)) hx hb dX5_init_232 (by decide) ?_
  refine va_iast (D := (dC, dI)) hx hb hK hP hD hS 3 2 rfl rfl (by unfold vp_in; decide) dX5_init_233 (fun H locs hP hD hS => ?_)
  have hP : va_P (dC, dI) classes [(a, .inr (2, fs103)), (q1, .inl (cA2, 12, .inl f120)), (q21, .inl (cA22, 11, .inl f133)), (q58, .inl (cA59, 9, .inl (upd f138 (5 : Int32).toNatClampNeg (-1))))] H := hP
  have hD : va_D A [(a, .inr (2, fs103)), (q1, .inl (cA2, 12, .inl f120)), (q21, .inl (cA22, 11, .inl f133)), (q58, .inl (cA59, 9, .inl (upd f138 (5 : Int32).toNatClampNeg (-1))))] := hD
  obtain ⟨f139, ef139⟩ : ∃ y : Nat → Int32, y = (upd f138 (5 : Int32).toNatClampNeg (-1)) := ⟨_, rfl⟩
  rw [← ef139] at hP hD
  refine lv_iinc (v := 6) (lv' := [(1, .int 6), (0, .ref a)]) hx hb dX5_init_234 hl (k := 0) rfl (by decide) (by decide) rfl (fun ls hl => ?_)
  refine lv_goto (tgt := 221) hx hb dX5_init_237 (by decide) ?_
  refine lv_iload_n hx hb dX5_init_221 rfl (lv_at hl 0 rfl) ?_
  refine lv_bipush (v := 9) hx hb dX5_init_222 (by decide) ?_
  refine lv_icmp_ge (tgt := 240) hx hb dX5_init_224 (by decide) (fun c9 => absurd c9 (by decide)) (fun _ => ?_)
  refine lv_aload_n hx hb dX5_init_227 rfl (lv_at hl 1 rfl) ?_
  refine va_get (D := (dC, dI)) (ci := 2) (v := .ref q58) (C := RX5) (T := TX5) (N := 19) hx hb hG iX5 hown hK hP 0 rfl rfl 11 (by decide) (hG _ m_32) (fun _ h9 => h9) hf_107 dX5_init_228 ?_
  refine lv_iload_n hx hb dX5_init_231 rfl (lv_at hl 0 rfl) ?_
  refine lv_iconst (v := (-1)) hx hb dX5_init_232 (by decide) ?_
  refine va_iast (D := (dC, dI)) hx hb hK hP hD hS 3 2 rfl rfl (by unfold vp_in; decide) dX5_init_233 (fun H locs hP hD hS => ?_)
  have hP : va_P (dC, dI) classes [(a, .inr (2, fs103)), (q1, .inl (cA2, 12, .inl f120)), (q21, .inl (cA22, 11, .inl f133)), (q58, .inl (cA59, 9, .inl (upd f139 (6 : Int32).toNatClampNeg (-1))))] H := hP
  have hD : va_D A [(a, .inr (2, fs103)), (q1, .inl (cA2, 12, .inl f120)), (q21, .inl (cA22, 11, .inl f133)), (q58, .inl (cA59, 9, .inl (upd f139 (6 : Int32).toNatClampNeg (-1))))] := hD
  obtain ⟨f140, ef140⟩ : ∃ y : Nat → Int32, y = (upd f139 (6 : Int32).toNatClampNeg (-1)) := ⟨_, rfl⟩
  rw [← ef140] at hP hD
  refine lv_iinc (v := 7) (lv' := [(1, .int 7), (0, .ref a)]) hx hb dX5_init_234 hl (k := 0) rfl (by decide) (by decide) rfl (fun ls hl => ?_)
  refine lv_goto (tgt := 221) hx hb dX5_init_237 (by decide) ?_
  refine lv_iload_n hx hb dX5_init_221 rfl (lv_at hl 0 rfl) ?_
  refine lv_bipush (v := 9) hx hb dX5_init_222 (by decide) ?_
  refine lv_icmp_ge (tgt := 240) hx hb dX5_init_224 (by decide) (fun c9 => absurd c9 (by decide)) (fun _ => ?_)
  refine lv_aload_n hx hb dX5_init_227 rfl (lv_at hl 1 rfl) ?_
  refine va_get (D := (dC, dI)) (ci := 2) (v := .ref q58) (C := RX5) (T := TX5) (N := 19) hx hb hG iX5 hown hK hP 0 rfl rfl 11 (by decide) (hG _ m_32) (fun _ h9 => h9) hf_107 dX5_init_228 ?_
  refine lv_iload_n hx hb dX5_init_231 rfl (lv_at hl 0 rfl) ?_
  refine lv_iconst (v := (-1)) hx hb dX5_init_232 (by decide) ?_
  refine va_iast (D := (dC, dI)) hx hb hK hP hD hS 3 2 rfl rfl (by unfold vp_in; decide) dX5_init_233 (fun H locs hP hD hS => ?_)
  have hP : va_P (dC, dI) classes [(a, .inr (2, fs103)), (q1, .inl (cA2, 12, .inl f120)), (q21, .inl (cA22, 11, .inl f133)), (q58, .inl (cA59, 9, .inl (upd f140 (7 : Int32).toNatClampNeg (-1))))] H := hP
  have hD : va_D A [(a, .inr (2, fs103)), (q1, .inl (cA2, 12, .inl f120)), (q21, .inl (cA22, 11, .inl f133)), (q58, .inl (cA59, 9, .inl (upd f140 (7 : Int32).toNatClampNeg (-1))))] := hD
  obtain ⟨f141, ef141⟩ : ∃ y : Nat → Int32, y = (upd f140 (7 : Int32).toNatClampNeg (-1)) := ⟨_, rfl⟩
  rw [← ef141] at hP hD
  refine lv_iinc (v := 8) (lv' := [(1, .int 8), (0, .ref a)]) hx hb dX5_init_234 hl (k := 0) rfl (by decide) (by decide) rfl (fun ls hl => ?_)
  refine lv_goto (tgt := 221) hx hb dX5_init_237 (by decide) ?_
  refine lv_iload_n hx hb dX5_init_221 rfl (lv_at hl 0 rfl) ?_
  refine lv_bipush (v := 9) hx hb dX5_init_222 (by decide) ?_
  refine lv_icmp_ge (tgt := 240) hx hb dX5_init_224 (by decide) (fun c9 => absurd c9 (by decide)) (fun _ => ?_)
  refine lv_aload_n hx hb dX5_init_227 rfl (lv_at hl 1 rfl) ?_
  refine va_get (D := (dC, dI)) (ci := 2) (v := .ref q58) (C := RX5) (T := TX5) (N := 19) hx hb hG iX5 hown hK hP 0 rfl rfl 11 (by decide) (hG _ m_32) (fun _ h9 => h9) hf_107 dX5_init_228 ?_
  refine lv_iload_n hx hb dX5_init_231 rfl (lv_at hl 0 rfl) ?_
  refine lv_iconst (v := (-1)) hx hb dX5_init_232 (by decide) ?_
  refine va_iast (D := (dC, dI)) hx hb hK hP hD hS 3 2 rfl rfl (by unfold vp_in; decide) dX5_init_233 (fun H locs hP hD hS => ?_)
  have hP : va_P (dC, dI) classes [(a, .inr (2, fs103)), (q1, .inl (cA2, 12, .inl f120)), (q21, .inl (cA22, 11, .inl f133)), (q58, .inl (cA59, 9, .inl (upd f141 (8 : Int32).toNatClampNeg (-1))))] H := hP
  have hD : va_D A [(a, .inr (2, fs103)), (q1, .inl (cA2, 12, .inl f120)), (q21, .inl (cA22, 11, .inl f133)), (q58, .inl (cA59, 9, .inl (upd f141 (8 : Int32).toNatClampNeg (-1))))] := hD
  obtain ⟨f142, ef142⟩ : ∃ y : Nat → Int32, y = (upd f141 (8 : Int32).toNatClampNeg (-1)) := ⟨_, rfl⟩
  rw [← ef142] at hP hD
  refine lv_iinc (v := 9) (lv' := [(1, .int 9), (0, .ref a)]) hx hb dX5_init_234 hl (k := 0) rfl (by decide) (by decide) rfl (fun ls hl => ?_)
  refine lv_goto (tgt := 221) hx hb dX5_init_237 (by decide) ?_
  refine lv_iload_n hx hb dX5_init_221 rfl (lv_at hl 0 rfl) ?_
  refine lv_bipush (v := 9) hx hb dX5_init_222 (by decide) ?_
  refine lv_icmp_ge (tgt := 240) hx hb dX5_init_224 (by decide) (fun _ => ?_) (fun c9 => absurd (by decide) c9)
  have hP9 := hP.sub (ws' := [(a, .inr (2, fs103)), (q1, .inl (cA2, 12, .inl f120))]) [0, 1] rfl
  have hD9 := hD.sub (ws' := [(a, .inr (2, fs103)), (q1, .inl (cA2, 12, .inl f120))]) [0, 1] (by decide) rfl
  have hK9 := hK.sub (tys' := [(cA2, .int)]) [0] rfl
  exact W.vret hx hb hr (fun t ht hW => ⟨⟨(), rfl, trivial, fs103, q1, cA2, f120, by rw [ht]; exact hP9, va_K.moved hW.alike hK9, hD9, hl_104, hf_105, hv_121, hv_122⟩, hS.F ht⟩) hS.2.2 dX5_init_240

set_option maxHeartbeats 4000000 in
set_option maxRecDepth 100000 in
theorem c_Script_init (l : Launch) (dC : Nat → ClassId) (dI : Nat → Nat → Nat) (z : Nat) (a : Nat) (fs : List Value) (sz : Nat) (hl_fs : fs.length = 16) : Met l yX9_init (Cond.code yX9_init cX9_init 1 none :: G) ({ frames := 1, cells := 1, slots := 600, locals := 12 }) (va_Pc [.ref a] (pre_ dC dI [(a, .inr (3, fs))] [] sz z)) (va_Qv (fun _ : Unit => True) (fun _ t => ∃ (fs2 : List Value), va_P (dC, dI) classes [(a, .inr (3, fs2))] t.heap ∧ va_K (dC, dI) classes [] t ∧ va_D (va_A [(a, .inr (3, fs))] sz) [(a, .inr (3, fs2))] ∧ fs2.length = 16) (va_A [(a, .inr (3, fs))] sz)) 1 600 (va_A [(a, .inr (3, fs))] sz) := by
  refine Met.ofW (cc := cX9_init) (maxL := 1) (ret := none) (by decide) rfl ?_
  intro p e s m args below meth c s₁ B hml hv
  obtain ⟨rfl, hv⟩ := hv
  obtain ⟨hsz, hP, hK, hD0, hN, hZ⟩ := hv
  have hx := B.exec
  have hb := B.bytes
  have hr := B.returns
  have hG : ∀ w ∈ G, w.before _ s = true := fun w h => atoms_spec (ws := Cond.code yX9_init cX9_init 1 none :: G) B.pre w (List.mem_cons_of_mem _ h)
  have hown : s.vm.findClass "Seattable$Script" = some m.cls := findClass_of_methodNamed B.named
  have hlocks := B.notSynchronized
  have hin : meth.name = "<init>" := (name_of_methodNamed B.named B.method).1
  subst hsz
  have hD := hD0.self (sz := s.heap.size)
  generalize hAe : va_A [(a, .inr (3, fs))] s.heap.size = A at hD hZ ⊢
  have hA : ∀ q : Nat, s.heap.size ≤ q → A q := fun q h => by rw [← hAe]; exact Or.inr h
  have hS : va_S A s.heap s.heap [] := va_S.rf
  have hP : va_P (dC, dI) classes [(a, .inr (3, fs))] s.heap := hP
  have hl := lv_entry ([.ref a]) (n := 1) (Nat.le_of_ble_eq_true rfl)
  rw [lg_entry_eq]
  generalize (lg_sl ([.ref a]) ++ List.replicate (1 - (lg_sl ([.ref a])).length) Slot.unset).toArray = ls at hl ⊢
  have hl : lv_has ls 1 [(0, .ref a)] := hl
  refine lv_aload_n hx hb dX9_init_0 rfl (lv_at hl 0 rfl) ?_
  refine W.objInit hx hb hown (hG _ m_40) (hG _ m_1) (hG _ m_2) rfl (by rw [hml]; exact hl.1) rfl dX9_init_1 (Nat.le_of_ble_eq_true rfl) (Nat.le_of_ble_eq_true rfl) ?_
  refine W.eq (g2 := F0 m 4 ls []) rfl ?_
  refine lv_aload_n hx hb dX9_init_4 rfl (lv_at hl 0 rfl) ?_
  refine lv_sipush (v := 600) hx hb dX9_init_5 (by decide) ?_
  refine nf_newa (D := (dC, dI)) (atype := .byte) (N' := 600) hx hb (hG _ m_41) hP hS (by decide) (by decide) (Nat.le_of_ble_eq_true rfl) (Nat.le_of_ble_eq_true rfl) (Nat.le_of_ble_eq_true rfl) dX9_init_8 (fun q1 H hP hS hz9 => ?_)
  refine W.widen (k := 1) (n := 600) (Nat.le_of_ble_eq_true rfl) (Nat.le_of_ble_eq_true rfl) ?_
  refine va_putF (D := (dC, dI)) (ci := 3) (v := .ref q1) (ty := .array .byte) (C := RX9) (T := TX9) (N := 16) hx hb hG iX9 tyX9 tyX9_ok nmX9 hown hK hP hD hS 0 rfl rfl 0 (by decide) (hG _ m_42) (fun _ h9 => h9) rfl hin rfl (by decide +kernel) rfl rfl (by rw [hl_fs]; decide) dX9_init_10 (fun H locs hP hD hS => ?_)
  have hP : va_P (dC, dI) classes [(a, .inr (3, (fs.set 0 (.ref q1))))] H := hP
  have hD : va_D A [(a, .inr (3, (fs.set 0 (.ref q1))))] := hD
  obtain ⟨fs2, efs2⟩ : ∃ y : List Value, y = fs.set 0 (.ref q1) := ⟨_, rfl⟩
  rw [← efs2] at hP hD
  have hl_3 : fs2.length = 16 := by rw [efs2, List.length_set]; exact hl_fs
  have hP9 := hP.sub (ws' := [(a, .inr (3, fs2))]) [0] rfl
  have hD9 := hD.sub (ws' := [(a, .inr (3, fs2))]) [0] (by decide) rfl
  have hK9 := hK.sub (tys' := []) [] rfl
  exact W.vret hx hb hr (fun t ht hW => ⟨⟨(), rfl, trivial, fs2, by rw [ht]; exact hP9, va_K.moved hW.alike hK9, hD9, hl_3⟩, hS.F ht⟩) hS.2.2 dX9_init_13

set_option maxHeartbeats 4000000 in
set_option maxRecDepth 100000 in
theorem c_Fraction_init (l : Launch) (dC : Nat → ClassId) (dI : Nat → Nat → Nat) (z : Nat) (a : Nat) (fs : List Value) (sz : Nat) (hl_fs : fs.length = 6) : Met l yX4_init (Cond.code yX4_init cX4_init 1 none :: G) ({ frames := 2, cells := 12, slots := 588, locals := 36 }) (va_Pc [.ref a] (pre_ dC dI [(a, .inr (4, fs))] [] sz z)) (va_Qv (fun _ : Unit => True) (fun _ t => ∃ (fs93 : List Value), va_P (dC, dI) classes [(a, .inr (4, fs93))] t.heap ∧ va_K (dC, dI) classes [] t ∧ va_D (va_A [(a, .inr (4, fs))] sz) [(a, .inr (4, fs93))] ∧ fs93.length = 6) (va_A [(a, .inr (4, fs))] sz)) 12 588 (va_A [(a, .inr (4, fs))] sz) := by
  refine Met.ofW (cc := cX4_init) (maxL := 1) (ret := none) (by decide) rfl ?_
  intro p e s m args below meth c s₁ B hml hv
  obtain ⟨rfl, hv⟩ := hv
  obtain ⟨hsz, hP, hK, hD0, hN, hZ⟩ := hv
  have hx := B.exec
  have hb := B.bytes
  have hr := B.returns
  have hG : ∀ w ∈ G, w.before _ s = true := fun w h => atoms_spec (ws := Cond.code yX4_init cX4_init 1 none :: G) B.pre w (List.mem_cons_of_mem _ h)
  have hown : s.vm.findClass "Seattable$Fraction" = some m.cls := findClass_of_methodNamed B.named
  have hlocks := B.notSynchronized
  have hin : meth.name = "<init>" := (name_of_methodNamed B.named B.method).1
  subst hsz
  have hD := hD0.self (sz := s.heap.size)
  generalize hAe : va_A [(a, .inr (4, fs))] s.heap.size = A at hD hZ ⊢
  have hA : ∀ q : Nat, s.heap.size ≤ q → A q := fun q h => by rw [← hAe]; exact Or.inr h
  have hS : va_S A s.heap s.heap [] := va_S.rf
  have hP : va_P (dC, dI) classes [(a, .inr (4, fs))] s.heap := hP
  have hl := lv_entry ([.ref a]) (n := 1) (Nat.le_of_ble_eq_true rfl)
  rw [lg_entry_eq]
  generalize (lg_sl ([.ref a]) ++ List.replicate (1 - (lg_sl ([.ref a])).length) Slot.unset).toArray = ls at hl ⊢
  have hl : lv_has ls 1 [(0, .ref a)] := hl
  refine lv_aload_n hx hb dX4_init_0 rfl (lv_at hl 0 rfl) ?_
  refine W.objInit hx hb hown (hG _ m_43) (hG _ m_1) (hG _ m_2) rfl (by rw [hml]; exact hl.1) rfl dX4_init_1 (Nat.le_of_ble_eq_true rfl) (Nat.le_of_ble_eq_true rfl) ?_
  refine W.eq (g2 := F0 m 4 ls []) rfl ?_
  refine lv_aload_n hx hb dX4_init_4 rfl (lv_at hl 0 rfl) ?_
  refine va_new (D := (dC, dI)) (ci := 1) (fs := (List.range 2).map (fun k => defaultValue (tyX1 k))) (C := RX1) (T := TX1) (N := 2) hx hb hG iX1 tyX1 tyX1_ok hown (hG _ m_44) (hG _ m_45) (hG _ m_46) hK hP hD hS hA rfl (fs_new 2 tyX1) (Nat.le_of_ble_eq_true rfl) (Nat.le_of_ble_eq_true rfl) dX4_init_5 (fun q1 H hP hD hS => ?_)
  have hP : va_P (dC, dI) classes [(a, .inr (4, fs)), (q1, .inr (1, ((List.range 2).map (fun k => defaultValue (tyX1 k)))))] H := hP
  have hD : va_D A [(a, .inr (4, fs)), (q1, .inr (1, ((List.range 2).map (fun k => defaultValue (tyX1 k)))))] := hD
  obtain ⟨fs2, efs2⟩ : ∃ y : List Value, y = (List.range 2).map (fun k => defaultValue (tyX1 k)) := ⟨_, rfl⟩
  rw [← efs2] at hP hD
  have hl_3 : fs2.length = 2 := by rw [efs2, List.length_map, List.length_range]
  have hf_4 : fs2[0]? = some (.null) := by rw [efs2]; rfl
  have hf_5 : fs2[1]? = some (.int 0) := by rw [efs2]; rfl
  refine W.widen (k := 1) (n := 2) (Nat.le_of_ble_eq_true rfl) (Nat.le_of_ble_eq_true rfl) ?_
  refine lv_dup hx hb dX4_init_8 rfl ?_
  have hPc := hP.sub (ws' := [(q1, .inr (1, fs2))]) [1] rfl
  have hDc := hD.sub (ws' := [(q1, .inr (1, fs2))]) [1] (by decide) rfl
  have hKc := hK.sub (tys' := []) [] rfl
  have hFc := va_free (wc := [(q1, .inr (1, fs2))]) hD hS hA [1] rfl
  refine va_callv (va_runIN (As := []) (rest := [.ref q1, .ref a]) ⟨hx, hb, hml, hown, hG⟩ (c_Big_init l dC dI z q1 fs2 H.size hl_3 hf_5) ⟨va_cnB (host := "Seattable") 0 hG (gI m_47) rfl rfl rfl (nw_nest_0 hN) (hG _ m_46) (by decide +kernel) ⟨Nat.le_of_ble_eq_true rfl, Nat.le_of_ble_eq_true rfl⟩, rfl, (hG _ m_48)⟩ ⟨pre_blind, fun U hU hW => ⟨rfl, pre_call hU hW hPc hKc hDc hN (zkeep hZ hS) hFc⟩⟩ rfl rfl hl.1 rfl (lv_room (Nat.le_of_ble_eq_true rfl)) dX4_init_9 ⟨Nat.le_of_ble_eq_true rfl, Nat.le_of_ble_eq_true rfl⟩) hS (fun q _ h => hFc q h) hFc (fun u t H locs ht hvm hw hB hz1 hk1 hS => ?_)
  obtain ⟨fs7, q8, cA9, f10, hP1, hK1, hD1, hy11, hy12, hy13⟩ := hB
  rw [ht] at hP1
  have hK1 := va_K.moved hvm.symm hK1
  obtain ⟨hP, hD⟩ := va_join (wr := [(a, .inr (4, fs))]) (w1 := [(q1, .inr (1, fs7)), (q8, .inl (cA9, 96, .inl f10))]) hP hD [1] [0] rfl rfl (by decide) (by decide) hk1 hFc hP1 hD1
  have hK := (hK.sub (tys' := []) [] rfl).app hK1
  have hP : va_P (dC, dI) classes [(a, .inr (4, fs)), (q1, .inr (1, fs7)), (q8, .inl (cA9, 96, .inl f10))] H := hP
  have hD : va_D A [(a, .inr (4, fs)), (q1, .inr (1, fs7)), (q8, .inl (cA9, 96, .inl f10))] := hD
  have hK : va_K (dC, dI) classes [(cA9, .int)] s := hK
  refine W.widen (k := 2) (n := 98) (Nat.le_of_ble_eq_true rfl) (Nat.le_of_ble_eq_true rfl) ?_
  refine va_putF (D := (dC, dI)) (ci := 4) (v := .ref q1) (ty := .object "Seattable$Big") (C := RX4) (T := TX4) (N := 6) hx hb hG iX4 tyX4 tyX4_ok nmX4 hown hK hP hD hS 0 rfl rfl 0 (by decide) (hG _ m_49) (fun _ h9 => h9) rfl hin rfl (by decide +kernel) rfl rfl (by rw [hl_fs]; decide) dX4_init_12 (fun H locs hP hD hS => ?_)
  have hP : va_P (dC, dI) classes [(a, .inr (4, (fs.set 0 (.ref q1)))), (q1, .inr (1, fs7)), (q8, .inl (cA9, 96, .inl f10))] H := hP
  have hD : va_D A [(a, .inr (4, (fs.set 0 (.ref q1)))), (q1, .inr (1, fs7)), (q8, .inl (cA9, 96, .inl f10))] := hD
  obtain ⟨fs14, efs14⟩ : ∃ y : List Value, y = fs.set 0 (.ref q1) := ⟨_, rfl⟩
  rw [← efs14] at hP hD
  have hl_15 : fs14.length = 6 := by rw [efs14, List.length_set]; exact hl_fs
  have hP := hP.sub (ws' := [(a, .inr (4, fs14))]) [0] rfl
  have hD := hD.sub (ws' := [(a, .inr (4, fs14))]) [0] (by decide) rfl
  have hK := hK.sub (tys' := []) [] rfl
  refine lv_aload_n hx hb dX4_init_15 rfl (lv_at hl 0 rfl) ?_
  refine va_new (D := (dC, dI)) (ci := 1) (fs := (List.range 2).map (fun k => defaultValue (tyX1 k))) (C := RX1) (T := TX1) (N := 2) hx hb hG iX1 tyX1 tyX1_ok hown (hG _ m_44) (hG _ m_45) (hG _ m_46) hK hP hD hS hA rfl (fs_new 2 tyX1) (Nat.le_of_ble_eq_true rfl) (Nat.le_of_ble_eq_true rfl) dX4_init_16 (fun q16 H hP hD hS => ?_)
  have hP : va_P (dC, dI) classes [(a, .inr (4, fs14)), (q16, .inr (1, ((List.range 2).map (fun k => defaultValue (tyX1 k)))))] H := hP
  have hD : va_D A [(a, .inr (4, fs14)), (q16, .inr (1, ((List.range 2).map (fun k => defaultValue (tyX1 k)))))] := hD
  obtain ⟨fs17, efs17⟩ : ∃ y : List Value, y = (List.range 2).map (fun k => defaultValue (tyX1 k)) := ⟨_, rfl⟩
  rw [← efs17] at hP hD
  have hl_18 : fs17.length = 2 := by rw [efs17, List.length_map, List.length_range]
  have hf_19 : fs17[0]? = some (.null) := by rw [efs17]; rfl
  have hf_20 : fs17[1]? = some (.int 0) := by rw [efs17]; rfl
  refine W.widen (k := 3) (n := 100) (Nat.le_of_ble_eq_true rfl) (Nat.le_of_ble_eq_true rfl) ?_
  refine lv_dup hx hb dX4_init_19 rfl ?_
  have hPc := hP.sub (ws' := [(q16, .inr (1, fs17))]) [1] rfl
  have hDc := hD.sub (ws' := [(q16, .inr (1, fs17))]) [1] (by decide) rfl
  have hKc := hK.sub (tys' := []) [] rfl
  have hFc := va_free (wc := [(q16, .inr (1, fs17))]) hD hS hA [1] rfl
  refine va_callv (va_runIN (As := []) (rest := [.ref q16, .ref a]) ⟨hx, hb, hml, hown, hG⟩ (c_Big_init l dC dI z q16 fs17 H.size hl_18 hf_20) ⟨va_cnB (host := "Seattable") 0 hG (gI m_47) rfl rfl rfl (nw_nest_0 hN) (hG _ m_46) (by decide +kernel) ⟨Nat.le_of_ble_eq_true rfl, Nat.le_of_ble_eq_true rfl⟩, rfl, (hG _ m_48)⟩ ⟨pre_blind, fun U hU hW => ⟨rfl, pre_call hU hW hPc hKc hDc hN (zkeep hZ hS) hFc⟩⟩ rfl rfl hl.1 rfl (lv_room (Nat.le_of_ble_eq_true rfl)) dX4_init_20 ⟨Nat.le_of_ble_eq_true rfl, Nat.le_of_ble_eq_true rfl⟩) hS (fun q _ h => hFc q h) hFc (fun u t H locs ht hvm hw hB hz1 hk1 hS => ?_)
  obtain ⟨fs22, q23, cA24, f25, hP1, hK1, hD1, hy26, hy27, hy28⟩ := hB
  rw [ht] at hP1
  have hK1 := va_K.moved hvm.symm hK1
  obtain ⟨hP, hD⟩ := va_join (wr := [(a, .inr (4, fs14))]) (w1 := [(q16, .inr (1, fs22)), (q23, .inl (cA24, 96, .inl f25))]) hP hD [1] [0] rfl rfl (by decide) (by decide) hk1 hFc hP1 hD1
  have hK := (hK.sub (tys' := []) [] rfl).app hK1
  have hP : va_P (dC, dI) classes [(a, .inr (4, fs14)), (q16, .inr (1, fs22)), (q23, .inl (cA24, 96, .inl f25))] H := hP
  have hD : va_D A [(a, .inr (4, fs14)), (q16, .inr (1, fs22)), (q23, .inl (cA24, 96, .inl f25))] := hD
  have hK : va_K (dC, dI) classes [(cA24, .int)] s := hK
  refine W.widen (k := 4) (n := 196) (Nat.le_of_ble_eq_true rfl) (Nat.le_of_ble_eq_true rfl) ?_
  refine va_putF (D := (dC, dI)) (ci := 4) (v := .ref q16) (ty := .object "Seattable$Big") (C := RX4) (T := TX4) (N := 6) hx hb hG iX4 tyX4 tyX4_ok nmX4 hown hK hP hD hS 0 rfl rfl 1 (by decide) (hG _ m_50) (fun _ h9 => h9) rfl hin rfl (by decide +kernel) rfl rfl (by rw [hl_15]; decide) dX4_init_23 (fun H locs hP hD hS => ?_)
  have hP : va_P (dC, dI) classes [(a, .inr (4, (fs14.set 1 (.ref q16)))), (q16, .inr (1, fs22)), (q23, .inl (cA24, 96, .inl f25))] H := hP
  have hD : va_D A [(a, .inr (4, (fs14.set 1 (.ref q16)))), (q16, .inr (1, fs22)), (q23, .inl (cA24, 96, .inl f25))] := hD
  obtain ⟨fs29, efs29⟩ : ∃ y : List Value, y = fs14.set 1 (.ref q16) := ⟨_, rfl⟩
  rw [← efs29] at hP hD
  have hl_30 : fs29.length = 6 := by rw [efs29, List.length_set]; exact hl_15
  have hf_31 : fs29[1]? = some (.ref q16) := by rw [efs29]; exact fs_set_eq hl_15 (by decide)
  refine lv_aload_n hx hb dX4_init_26 rfl (lv_at hl 0 rfl) ?_
  refine va_new (D := (dC, dI)) (ci := 1) (fs := (List.range 2).map (fun k => defaultValue (tyX1 k))) (C := RX1) (T := TX1) (N := 2) hx hb hG iX1 tyX1 tyX1_ok hown (hG _ m_44) (hG _ m_45) (hG _ m_46) hK hP hD hS hA rfl (fs_new 2 tyX1) (Nat.le_of_ble_eq_true rfl) (Nat.le_of_ble_eq_true rfl) dX4_init_27 (fun q32 H hP hD hS => ?_)
  have hP : va_P (dC, dI) classes [(a, .inr (4, fs29)), (q16, .inr (1, fs22)), (q23, .inl (cA24, 96, .inl f25)), (q32, .inr (1, ((List.range 2).map (fun k => defaultValue (tyX1 k)))))] H := hP
  have hD : va_D A [(a, .inr (4, fs29)), (q16, .inr (1, fs22)), (q23, .inl (cA24, 96, .inl f25)), (q32, .inr (1, ((List.range 2).map (fun k => defaultValue (tyX1 k)))))] := hD
  obtain ⟨fs33, efs33⟩ : ∃ y : List Value, y = (List.range 2).map (fun k => defaultValue (tyX1 k)) := ⟨_, rfl⟩
  rw [← efs33] at hP hD
  have hl_34 : fs33.length = 2 := by rw [efs33, List.length_map, List.length_range]
  have hf_35 : fs33[0]? = some (.null) := by rw [efs33]; rfl
  have hf_36 : fs33[1]? = some (.int 0) := by rw [efs33]; rfl
  refine W.widen (k := 5) (n := 198) (Nat.le_of_ble_eq_true rfl) (Nat.le_of_ble_eq_true rfl) ?_
  refine lv_dup hx hb dX4_init_30 rfl ?_
  have hPc := hP.sub (ws' := [(q32, .inr (1, fs33))]) [3] rfl
  have hDc := hD.sub (ws' := [(q32, .inr (1, fs33))]) [3] (by decide) rfl
  have hKc := hK.sub (tys' := []) [] rfl
  have hFc := va_free (wc := [(q32, .inr (1, fs33))]) hD hS hA [3] rfl
  refine va_callv (va_runIN (As := []) (rest := [.ref q32, .ref a]) ⟨hx, hb, hml, hown, hG⟩ (c_Big_init l dC dI z q32 fs33 H.size hl_34 hf_36) ⟨va_cnB (host := "Seattable") 0 hG (gI m_47) rfl rfl rfl (nw_nest_0 hN) (hG _ m_46) (by decide +kernel) ⟨Nat.le_of_ble_eq_true rfl, Nat.le_of_ble_eq_true rfl⟩, rfl, (hG _ m_48)⟩ ⟨pre_blind, fun U hU hW => ⟨rfl, pre_call hU hW hPc hKc hDc hN (zkeep hZ hS) hFc⟩⟩ rfl rfl hl.1 rfl (lv_room (Nat.le_of_ble_eq_true rfl)) dX4_init_31 ⟨Nat.le_of_ble_eq_true rfl, Nat.le_of_ble_eq_true rfl⟩) hS (fun q _ h => hFc q h) hFc (fun u t H locs ht hvm hw hB hz1 hk1 hS => ?_)
  obtain ⟨fs38, q39, cA40, f41, hP1, hK1, hD1, hy42, hy43, hy44⟩ := hB
  rw [ht] at hP1
  have hK1 := va_K.moved hvm.symm hK1
  obtain ⟨hP, hD⟩ := va_join (wr := [(a, .inr (4, fs29)), (q16, .inr (1, fs22)), (q23, .inl (cA24, 96, .inl f25))]) (w1 := [(q32, .inr (1, fs38)), (q39, .inl (cA40, 96, .inl f41))]) hP hD [3] [0, 1, 2] rfl rfl (by decide) (by decide) hk1 hFc hP1 hD1
  have hK := (hK.sub (tys' := [(cA24, .int)]) [0] rfl).app hK1
  have hP : va_P (dC, dI) classes [(a, .inr (4, fs29)), (q16, .inr (1, fs22)), (q23, .inl (cA24, 96, .inl f25)), (q32, .inr (1, fs38)), (q39, .inl (cA40, 96, .inl f41))] H := hP
  have hD : va_D A [(a, .inr (4, fs29)), (q16, .inr (1, fs22)), (q23, .inl (cA24, 96, .inl f25)), (q32, .inr (1, fs38)), (q39, .inl (cA40, 96, .inl f41))] := hD
  have hK : va_K (dC, dI) classes [(cA24, .int), (cA40, .int)] s := hK
  refine W.widen (k := 6) (n := 294) (Nat.le_of_ble_eq_true rfl) (Nat.le_of_ble_eq_true rfl) ?_
  refine va_putF (D := (dC, dI)) (ci := 4) (v := .ref q32) (ty := .object "Seattable$Big") (C := RX4) (T := TX4) (N := 6) hx hb hG iX4 tyX4 tyX4_ok nmX4 hown hK hP hD hS 0 rfl rfl 2 (by decide) (hG _ m_51) (fun _ h9 => h9) rfl hin rfl (by decide +kernel) rfl rfl (by rw [hl_30]; decide) dX4_init_34 (fun H locs hP hD hS => ?_)
  have hP : va_P (dC, dI) classes [(a, .inr (4, (fs29.set 2 (.ref q32)))), (q16, .inr (1, fs22)), (q23, .inl (cA24, 96, .inl f25)), (q32, .inr (1, fs38)), (q39, .inl (cA40, 96, .inl f41))] H := hP
  have hD : va_D A [(a, .inr (4, (fs29.set 2 (.ref q32)))), (q16, .inr (1, fs22)), (q23, .inl (cA24, 96, .inl f25)), (q32, .inr (1, fs38)), (q39, .inl (cA40, 96, .inl f41))] := hD
  obtain ⟨fs45, efs45⟩ : ∃ y : List Value, y = fs29.set 2 (.ref q32) := ⟨_, rfl⟩
  rw [← efs45] at hP hD
  have hl_46 : fs45.length = 6 := by rw [efs45, List.length_set]; exact hl_30
  have hf_47 : fs45[1]? = some (.ref q16) := by rw [efs45]; exact fs_set_ne hf_31 (by decide)
  have hP := hP.sub (ws' := [(a, .inr (4, fs45)), (q16, .inr (1, fs22)), (q23, .inl (cA24, 96, .inl f25))]) [0, 1, 2] rfl
  have hD := hD.sub (ws' := [(a, .inr (4, fs45)), (q16, .inr (1, fs22)), (q23, .inl (cA24, 96, .inl f25))]) [0, 1, 2] (by decide) rfl
  have hK := hK.sub (tys' := [(cA24, .int)]) [0] rfl
  refine lv_aload_n hx hb dX4_init_37 rfl (lv_at hl 0 rfl) ?_
  refine va_new (D := (dC, dI)) (ci := 1) (fs := (List.range 2).map (fun k => defaultValue (tyX1 k))) (C := RX1) (T := TX1) (N := 2) hx hb hG iX1 tyX1 tyX1_ok hown (hG _ m_44) (hG _ m_45) (hG _ m_46) hK hP hD hS hA rfl (fs_new 2 tyX1) (Nat.le_of_ble_eq_true rfl) (Nat.le_of_ble_eq_true rfl) dX4_init_38 (fun q48 H hP hD hS => ?_)
  have hP : va_P (dC, dI) classes [(a, .inr (4, fs45)), (q16, .inr (1, fs22)), (q23, .inl (cA24, 96, .inl f25)), (q48, .inr (1, ((List.range 2).map (fun k => defaultValue (tyX1 k)))))] H := hP
  have hD : va_D A [(a, .inr (4, fs45)), (q16, .inr (1, fs22)), (q23, .inl (cA24, 96, .inl f25)), (q48, .inr (1, ((List.range 2).map (fun k => defaultValue (tyX1 k)))))] := hD
  obtain ⟨fs49, efs49⟩ : ∃ y : List Value, y = (List.range 2).map (fun k => defaultValue (tyX1 k)) := ⟨_, rfl⟩
  rw [← efs49] at hP hD
  have hl_50 : fs49.length = 2 := by rw [efs49, List.length_map, List.length_range]
  have hf_51 : fs49[0]? = some (.null) := by rw [efs49]; rfl
  have hf_52 : fs49[1]? = some (.int 0) := by rw [efs49]; rfl
  refine W.widen (k := 7) (n := 296) (Nat.le_of_ble_eq_true rfl) (Nat.le_of_ble_eq_true rfl) ?_
  refine lv_dup hx hb dX4_init_41 rfl ?_
  have hPc := hP.sub (ws' := [(q48, .inr (1, fs49))]) [3] rfl
  have hDc := hD.sub (ws' := [(q48, .inr (1, fs49))]) [3] (by decide) rfl
  have hKc := hK.sub (tys' := []) [] rfl
  have hFc := va_free (wc := [(q48, .inr (1, fs49))]) hD hS hA [3] rfl
  refine va_callv (va_runIN (As := []) (rest := [.ref q48, .ref a]) ⟨hx, hb, hml, hown, hG⟩ (c_Big_init l dC dI z q48 fs49 H.size hl_50 hf_52) ⟨va_cnB (host := "Seattable") 0 hG (gI m_47) rfl rfl rfl (nw_nest_0 hN) (hG _ m_46) (by decide +kernel) ⟨Nat.le_of_ble_eq_true rfl, Nat.le_of_ble_eq_true rfl⟩, rfl, (hG _ m_48)⟩ ⟨pre_blind, fun U hU hW => ⟨rfl, pre_call hU hW hPc hKc hDc hN (zkeep hZ hS) hFc⟩⟩ rfl rfl hl.1 rfl (lv_room (Nat.le_of_ble_eq_true rfl)) dX4_init_42 ⟨Nat.le_of_ble_eq_true rfl, Nat.le_of_ble_eq_true rfl⟩) hS (fun q _ h => hFc q h) hFc (fun u t H locs ht hvm hw hB hz1 hk1 hS => ?_)
  obtain ⟨fs54, q55, cA56, f57, hP1, hK1, hD1, hy58, hy59, hy60⟩ := hB
  rw [ht] at hP1
  have hK1 := va_K.moved hvm.symm hK1
  obtain ⟨hP, hD⟩ := va_join (wr := [(a, .inr (4, fs45)), (q16, .inr (1, fs22)), (q23, .inl (cA24, 96, .inl f25))]) (w1 := [(q48, .inr (1, fs54)), (q55, .inl (cA56, 96, .inl f57))]) hP hD [3] [0, 1, 2] rfl rfl (by decide) (by decide) hk1 hFc hP1 hD1
  have hK := (hK.sub (tys' := [(cA24, .int)]) [0] rfl).app hK1
  have hP : va_P (dC, dI) classes [(a, .inr (4, fs45)), (q16, .inr (1, fs22)), (q23, .inl (cA24, 96, .inl f25)), (q48, .inr (1, fs54)), (q55, .inl (cA56, 96, .inl f57))] H := hP
  have hD : va_D A [(a, .inr (4, fs45)), (q16, .inr (1, fs22)), (q23, .inl (cA24, 96, .inl f25)), (q48, .inr (1, fs54)), (q55, .inl (cA56, 96, .inl f57))] := hD
  have hK : va_K (dC, dI) classes [(cA24, .int), (cA56, .int)] s := hK
  refine W.widen (k := 8) (n := 392) (Nat.le_of_ble_eq_true rfl) (Nat.le_of_ble_eq_true rfl) ?_
  refine va_putF (D := (dC, dI)) (ci := 4) (v := .ref q48) (ty := .object "Seattable$Big") (C := RX4) (T := TX4) (N := 6) hx hb hG iX4 tyX4 tyX4_ok nmX4 hown hK hP hD hS 0 rfl rfl 3 (by decide) (hG _ m_52) (fun _ h9 => h9) rfl hin rfl (by decide +kernel) rfl rfl (by rw [hl_46]; decide) dX4_init_45 (fun H locs hP hD hS => ?_)
  have hP : va_P (dC, dI) classes [(a, .inr (4, (fs45.set 3 (.ref q48)))), (q16, .inr (1, fs22)), (q23, .inl (cA24, 96, .inl f25)), (q48, .inr (1, fs54)), (q55, .inl (cA56, 96, .inl f57))] H := hP
  have hD : va_D A [(a, .inr (4, (fs45.set 3 (.ref q48)))), (q16, .inr (1, fs22)), (q23, .inl (cA24, 96, .inl f25)), (q48, .inr (1, fs54)), (q55, .inl (cA56, 96, .inl f57))] := hD
  obtain ⟨fs61, efs61⟩ : ∃ y : List Value, y = fs45.set 3 (.ref q48) := ⟨_, rfl⟩
  rw [← efs61] at hP hD
  have hl_62 : fs61.length = 6 := by rw [efs61, List.length_set]; exact hl_46
  have hf_63 : fs61[1]? = some (.ref q16) := by rw [efs61]; exact fs_set_ne hf_47 (by decide)
  have hP := hP.sub (ws' := [(a, .inr (4, fs61)), (q16, .inr (1, fs22)), (q23, .inl (cA24, 96, .inl f25))]) [0, 1, 2] rfl
  have hD := hD.sub (ws' := [(a, .inr (4, fs61)), (q16, .inr (1, fs22)), (q23, .inl (cA24, 96, .inl f25))]) [0, 1, 2] (by decide) rfl
  have hK := hK.sub (tys' := [(cA24, .int)]) [0] rfl
  refine lv_aload_n hx hb dX4_init_48 rfl (lv_at hl 0 rfl) ?_
  refine va_new (D := (dC, dI)) (ci := 1) (fs := (List.range 2).map (fun k => defaultValue (tyX1 k))) (C := RX1) (T := TX1) (N := 2) hx hb hG iX1 tyX1 tyX1_ok hown (hG _ m_44) (hG _ m_45) (hG _ m_46) hK hP hD hS hA rfl (fs_new 2 tyX1) (Nat.le_of_ble_eq_true rfl) (Nat.le_of_ble_eq_true rfl) dX4_init_49 (fun q64 H hP hD hS => ?_)
  have hP : va_P (dC, dI) classes [(a, .inr (4, fs61)), (q16, .inr (1, fs22)), (q23, .inl (cA24, 96, .inl f25)), (q64, .inr (1, ((List.range 2).map (fun k => defaultValue (tyX1 k)))))] H := hP
  have hD : va_D A [(a, .inr (4, fs61)), (q16, .inr (1, fs22)), (q23, .inl (cA24, 96, .inl f25)), (q64, .inr (1, ((List.range 2).map (fun k => defaultValue (tyX1 k)))))] := hD
  obtain ⟨fs65, efs65⟩ : ∃ y : List Value, y = (List.range 2).map (fun k => defaultValue (tyX1 k)) := ⟨_, rfl⟩
  rw [← efs65] at hP hD
  have hl_66 : fs65.length = 2 := by rw [efs65, List.length_map, List.length_range]
  have hf_67 : fs65[0]? = some (.null) := by rw [efs65]; rfl
  have hf_68 : fs65[1]? = some (.int 0) := by rw [efs65]; rfl
  refine W.widen (k := 9) (n := 394) (Nat.le_of_ble_eq_true rfl) (Nat.le_of_ble_eq_true rfl) ?_
  refine lv_dup hx hb dX4_init_52 rfl ?_
  have hPc := hP.sub (ws' := [(q64, .inr (1, fs65))]) [3] rfl
  have hDc := hD.sub (ws' := [(q64, .inr (1, fs65))]) [3] (by decide) rfl
  have hKc := hK.sub (tys' := []) [] rfl
  have hFc := va_free (wc := [(q64, .inr (1, fs65))]) hD hS hA [3] rfl
  refine va_callv (va_runIN (As := []) (rest := [.ref q64, .ref a]) ⟨hx, hb, hml, hown, hG⟩ (c_Big_init l dC dI z q64 fs65 H.size hl_66 hf_68) ⟨va_cnB (host := "Seattable") 0 hG (gI m_47) rfl rfl rfl (nw_nest_0 hN) (hG _ m_46) (by decide +kernel) ⟨Nat.le_of_ble_eq_true rfl, Nat.le_of_ble_eq_true rfl⟩, rfl, (hG _ m_48)⟩ ⟨pre_blind, fun U hU hW => ⟨rfl, pre_call hU hW hPc hKc hDc hN (zkeep hZ hS) hFc⟩⟩ rfl rfl hl.1 rfl (lv_room (Nat.le_of_ble_eq_true rfl)) dX4_init_53 ⟨Nat.le_of_ble_eq_true rfl, Nat.le_of_ble_eq_true rfl⟩) hS (fun q _ h => hFc q h) hFc (fun u t H locs ht hvm hw hB hz1 hk1 hS => ?_)
  obtain ⟨fs70, q71, cA72, f73, hP1, hK1, hD1, hy74, hy75, hy76⟩ := hB
  rw [ht] at hP1
  have hK1 := va_K.moved hvm.symm hK1
  obtain ⟨hP, hD⟩ := va_join (wr := [(a, .inr (4, fs61)), (q16, .inr (1, fs22)), (q23, .inl (cA24, 96, .inl f25))]) (w1 := [(q64, .inr (1, fs70)), (q71, .inl (cA72, 96, .inl f73))]) hP hD [3] [0, 1, 2] rfl rfl (by decide) (by decide) hk1 hFc hP1 hD1
  have hK := (hK.sub (tys' := [(cA24, .int)]) [0] rfl).app hK1
  have hP : va_P (dC, dI) classes [(a, .inr (4, fs61)), (q16, .inr (1, fs22)), (q23, .inl (cA24, 96, .inl f25)), (q64, .inr (1, fs70)), (q71, .inl (cA72, 96, .inl f73))] H := hP
  have hD : va_D A [(a, .inr (4, fs61)), (q16, .inr (1, fs22)), (q23, .inl (cA24, 96, .inl f25)), (q64, .inr (1, fs70)), (q71, .inl (cA72, 96, .inl f73))] := hD
  have hK : va_K (dC, dI) classes [(cA24, .int), (cA72, .int)] s := hK
  refine W.widen (k := 10) (n := 490) (Nat.le_of_ble_eq_true rfl) (Nat.le_of_ble_eq_true rfl) ?_
  refine va_putF (D := (dC, dI)) (ci := 4) (v := .ref q64) (ty := .object "Seattable$Big") (C := RX4) (T := TX4) (N := 6) hx hb hG iX4 tyX4 tyX4_ok nmX4 hown hK hP hD hS 0 rfl rfl 4 (by decide) (hG _ m_53) (fun _ h9 => h9) rfl hin rfl (by decide +kernel) rfl rfl (by rw [hl_62]; decide) dX4_init_56 (fun H locs hP hD hS => ?_)
  have hP : va_P (dC, dI) classes [(a, .inr (4, (fs61.set 4 (.ref q64)))), (q16, .inr (1, fs22)), (q23, .inl (cA24, 96, .inl f25)), (q64, .inr (1, fs70)), (q71, .inl (cA72, 96, .inl f73))] H := hP
  have hD : va_D A [(a, .inr (4, (fs61.set 4 (.ref q64)))), (q16, .inr (1, fs22)), (q23, .inl (cA24, 96, .inl f25)), (q64, .inr (1, fs70)), (q71, .inl (cA72, 96, .inl f73))] := hD
  obtain ⟨fs77, efs77⟩ : ∃ y : List Value, y = fs61.set 4 (.ref q64) := ⟨_, rfl⟩
  rw [← efs77] at hP hD
  have hl_78 : fs77.length = 6 := by rw [efs77, List.length_set]; exact hl_62
  have hf_79 : fs77[1]? = some (.ref q16) := by rw [efs77]; exact fs_set_ne hf_63 (by decide)
  have hP := hP.sub (ws' := [(a, .inr (4, fs77)), (q16, .inr (1, fs22)), (q23, .inl (cA24, 96, .inl f25))]) [0, 1, 2] rfl
  have hD := hD.sub (ws' := [(a, .inr (4, fs77)), (q16, .inr (1, fs22)), (q23, .inl (cA24, 96, .inl f25))]) [0, 1, 2] (by decide) rfl
  have hK := hK.sub (tys' := [(cA24, .int)]) [0] rfl
  refine lv_aload_n hx hb dX4_init_59 rfl (lv_at hl 0 rfl) ?_
  refine va_new (D := (dC, dI)) (ci := 1) (fs := (List.range 2).map (fun k => defaultValue (tyX1 k))) (C := RX1) (T := TX1) (N := 2) hx hb hG iX1 tyX1 tyX1_ok hown (hG _ m_44) (hG _ m_45) (hG _ m_46) hK hP hD hS hA rfl (fs_new 2 tyX1) (Nat.le_of_ble_eq_true rfl) (Nat.le_of_ble_eq_true rfl) dX4_init_60 (fun q80 H hP hD hS => ?_)
  have hP : va_P (dC, dI) classes [(a, .inr (4, fs77)), (q16, .inr (1, fs22)), (q23, .inl (cA24, 96, .inl f25)), (q80, .inr (1, ((List.range 2).map (fun k => defaultValue (tyX1 k)))))] H := hP
  have hD : va_D A [(a, .inr (4, fs77)), (q16, .inr (1, fs22)), (q23, .inl (cA24, 96, .inl f25)), (q80, .inr (1, ((List.range 2).map (fun k => defaultValue (tyX1 k)))))] := hD
  obtain ⟨fs81, efs81⟩ : ∃ y : List Value, y = (List.range 2).map (fun k => defaultValue (tyX1 k)) := ⟨_, rfl⟩
  rw [← efs81] at hP hD
  have hl_82 : fs81.length = 2 := by rw [efs81, List.length_map, List.length_range]
  have hf_83 : fs81[0]? = some (.null) := by rw [efs81]; rfl
  have hf_84 : fs81[1]? = some (.int 0) := by rw [efs81]; rfl
  refine W.widen (k := 11) (n := 492) (Nat.le_of_ble_eq_true rfl) (Nat.le_of_ble_eq_true rfl) ?_
  refine lv_dup hx hb dX4_init_63 rfl ?_
  have hPc := hP.sub (ws' := [(q80, .inr (1, fs81))]) [3] rfl
  have hDc := hD.sub (ws' := [(q80, .inr (1, fs81))]) [3] (by decide) rfl
  have hKc := hK.sub (tys' := []) [] rfl
  have hFc := va_free (wc := [(q80, .inr (1, fs81))]) hD hS hA [3] rfl
  refine va_callv (va_runIN (As := []) (rest := [.ref q80, .ref a]) ⟨hx, hb, hml, hown, hG⟩ (c_Big_init l dC dI z q80 fs81 H.size hl_82 hf_84) ⟨va_cnB (host := "Seattable") 0 hG (gI m_47) rfl rfl rfl (nw_nest_0 hN) (hG _ m_46) (by decide +kernel) ⟨Nat.le_of_ble_eq_true rfl, Nat.le_of_ble_eq_true rfl⟩, rfl, (hG _ m_48)⟩ ⟨pre_blind, fun U hU hW => ⟨rfl, pre_call hU hW hPc hKc hDc hN (zkeep hZ hS) hFc⟩⟩ rfl rfl hl.1 rfl (lv_room (Nat.le_of_ble_eq_true rfl)) dX4_init_64 ⟨Nat.le_of_ble_eq_true rfl, Nat.le_of_ble_eq_true rfl⟩) hS (fun q _ h => hFc q h) hFc (fun u t H locs ht hvm hw hB hz1 hk1 hS => ?_)
  obtain ⟨fs86, q87, cA88, f89, hP1, hK1, hD1, hy90, hy91, hy92⟩ := hB
  rw [ht] at hP1
  have hK1 := va_K.moved hvm.symm hK1
  obtain ⟨hP, hD⟩ := va_join (wr := [(a, .inr (4, fs77)), (q16, .inr (1, fs22)), (q23, .inl (cA24, 96, .inl f25))]) (w1 := [(q80, .inr (1, fs86)), (q87, .inl (cA88, 96, .inl f89))]) hP hD [3] [0, 1, 2] rfl rfl (by decide) (by decide) hk1 hFc hP1 hD1
  have hK := (hK.sub (tys' := [(cA24, .int)]) [0] rfl).app hK1
  have hP : va_P (dC, dI) classes [(a, .inr (4, fs77)), (q16, .inr (1, fs22)), (q23, .inl (cA24, 96, .inl f25)), (q80, .inr (1, fs86)), (q87, .inl (cA88, 96, .inl f89))] H := hP
  have hD : va_D A [(a, .inr (4, fs77)), (q16, .inr (1, fs22)), (q23, .inl (cA24, 96, .inl f25)), (q80, .inr (1, fs86)), (q87, .inl (cA88, 96, .inl f89))] := hD
  have hK : va_K (dC, dI) classes [(cA24, .int), (cA88, .int)] s := hK
  refine W.widen (k := 12) (n := 588) (Nat.le_of_ble_eq_true rfl) (Nat.le_of_ble_eq_true rfl) ?_
  refine va_putF (D := (dC, dI)) (ci := 4) (v := .ref q80) (ty := .object "Seattable$Big") (C := RX4) (T := TX4) (N := 6) hx hb hG iX4 tyX4 tyX4_ok nmX4 hown hK hP hD hS 0 rfl rfl 5 (by decide) (hG _ m_54) (fun _ h9 => h9) rfl hin rfl (by decide +kernel) rfl rfl (by rw [hl_78]; decide) dX4_init_67 (fun H locs hP hD hS => ?_)
  have hP : va_P (dC, dI) classes [(a, .inr (4, (fs77.set 5 (.ref q80)))), (q16, .inr (1, fs22)), (q23, .inl (cA24, 96, .inl f25)), (q80, .inr (1, fs86)), (q87, .inl (cA88, 96, .inl f89))] H := hP
  have hD : va_D A [(a, .inr (4, (fs77.set 5 (.ref q80)))), (q16, .inr (1, fs22)), (q23, .inl (cA24, 96, .inl f25)), (q80, .inr (1, fs86)), (q87, .inl (cA88, 96, .inl f89))] := hD
  obtain ⟨fs93, efs93⟩ : ∃ y : List Value, y = fs77.set 5 (.ref q80) := ⟨_, rfl⟩
  rw [← efs93] at hP hD
  have hl_94 : fs93.length = 6 := by rw [efs93, List.length_set]; exact hl_78
  have hf_95 : fs93[1]? = some (.ref q16) := by rw [efs93]; exact fs_set_ne hf_79 (by decide)
  have hP := hP.sub (ws' := [(a, .inr (4, fs93)), (q16, .inr (1, fs22)), (q23, .inl (cA24, 96, .inl f25))]) [0, 1, 2] rfl
  have hD := hD.sub (ws' := [(a, .inr (4, fs93)), (q16, .inr (1, fs22)), (q23, .inl (cA24, 96, .inl f25))]) [0, 1, 2] (by decide) rfl
  have hK := hK.sub (tys' := [(cA24, .int)]) [0] rfl
  refine lv_aload_n hx hb dX4_init_70 rfl (lv_at hl 0 rfl) ?_
  refine va_get (D := (dC, dI)) (ci := 4) (v := .ref q16) (C := RX4) (T := TX4) (N := 6) hx hb hG iX4 hown hK hP 0 rfl rfl 1 (by decide) (hG _ m_50) (fun _ h9 => h9) hf_95 dX4_init_71 ?_
  refine lv_lconst (v := 1) hx hb dX4_init_74 (by decide) ?_
  have hPc := hP.sub (ws' := [(q16, .inr (1, fs22)), (q23, .inl (cA24, 96, .inl f25))]) [1, 2] rfl
  have hDc := hD.sub (ws' := [(q16, .inr (1, fs22)), (q23, .inl (cA24, 96, .inl f25))]) [1, 2] (by decide) rfl
  have hKc := hK.sub (tys' := [(cA24, .int)]) [0] rfl
  have hFc := va_free (wc := [(q16, .inr (1, fs22)), (q23, .inl (cA24, 96, .inl f25))]) hD hS hA [1, 2] rfl
  refine va_callv (va_runV (C := "Seattable$Big") (As := [.long 1]) (rest := []) ⟨hx, hb, hml, hown, hG⟩ (c_Big_put1 l dC dI z q16 fs22 q23 cA24 f25 H.size hy26 hy27 hy28) (cwV 1 hG (gV m_56 m_57 m_58 m_46 m_55) rfl rfl rfl (by decide +kernel) ⟨Nat.le_of_ble_eq_true rfl, Nat.le_of_ble_eq_true rfl⟩) ⟨pre_blind, va_recv hKc hPc (ci := 1) (q0 := 0) rfl rfl, fun U hU hW => ⟨rfl, pre_call hU hW hPc hKc hDc hN (zkeep hZ hS) hFc⟩⟩ rfl rfl hl.1 rfl (lv_room (Nat.le_of_ble_eq_true rfl)) dX4_init_75 ⟨Nat.le_of_ble_eq_true rfl, Nat.le_of_ble_eq_true rfl⟩) hS (fun q _ h => hFc q h) hFc (fun u t H locs ht hvm hw hB hz1 hk1 hS => ?_)
  obtain ⟨fs97, hP1, hK1, hD1, hy98⟩ := hB
  rw [ht] at hP1
  have hK1 := va_K.moved hvm.symm hK1
  obtain ⟨hP, hD⟩ := va_join (wr := [(a, .inr (4, fs93))]) (w1 := [(q16, .inr (1, fs97))]) hP hD [1, 2] [0] rfl rfl (by decide) (by decide) hk1 hFc hP1 hD1
  have hK := (hK.sub (tys' := []) [] rfl).app hK1
  have hP : va_P (dC, dI) classes [(a, .inr (4, fs93)), (q16, .inr (1, fs97))] H := hP
  have hD : va_D A [(a, .inr (4, fs93)), (q16, .inr (1, fs97))] := hD
  have hK : va_K (dC, dI) classes [] s := hK
  have hP9 := hP.sub (ws' := [(a, .inr (4, fs93))]) [0] rfl
  have hD9 := hD.sub (ws' := [(a, .inr (4, fs93))]) [0] (by decide) rfl
  have hK9 := hK.sub (tys' := []) [] rfl
  exact W.vret hx hb hr (fun t ht hW => ⟨⟨(), rfl, trivial, fs93, by rw [ht]; exact hP9, va_K.moved hW.alike hK9, hD9, hl_94⟩, hS.F ht⟩) hS.2.2 dX4_init_78

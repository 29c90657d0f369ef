def room_big : Room := { frames := 2048, cells := 650000, slots := 7293034, locals := 84000 }
/-- what the run comes to: it answers 1, and has made more than the claim's frame allows -/
def big_Z (below : List Frame) (s : State) : State → Prop := fun t => ∃ o, t.status = .running ∧ Ended t below o ∧ o = .returned (some (.int 1)) ∧ s.heap.size + 614400 ≤ t.heap.size
theorem big_ret {p : Program} {l : Launch} {e : Env} {R : Room} {s : State} {m : MethodId} {args : Array Value} {below : List Frame} {meth : Method} {c : Code} (hx : p.tables.exec = Jvm.exec) (hb : c.code = code) (hr : meth.sig.returnType = ret) (hlocks : meth.locks = false) {pc : Nat} {H : Heap} {locs : List Loc} {cells slots : Nat} {ls : Array Slot} (hg : s.heap.size + 614400 ≤ H.size) (hdg : decode code pc = .ok (.ireturn, 1)) :
    W p l e R s m args below meth c H locs cells slots (big_Z below s) (F0 m pc ls [.int 1]) := by
  intro T hT X
  obtain ⟨fs, hret, hrun, hended, hW, hframe⟩ := X.leave (v := some (.int 1)) (hlocks := hlocks) (fun h => by rw [hr] at h; cases h)
  have hmeth' : T.vm.method? m = some meth := X.method'
  refine ⟨T.setFrames fs, ?_, .returned (some (.int 1)), hrun, hended, rfl, by show s.heap.size + 614400 ≤ T.heap.size; rw [hT]; exact hg⟩
  jvm_step X.here [X.here.top, hx, hb, hdg, hmeth', hr, ret, narrow_b1]
  (try refine ⟨rfl, ?_⟩); (try refine ⟨rfl, ?_⟩)
  first | (intro acts; rw [hret _ acts rfl rfl rfl]) | rw [hret _ _ rfl rfl rfl]
  exact Steps.refl _
/-- the script: tiers(0, 0, 1, 0), 512 times -/
def big_sc (xs : Nat → Int32) : Prop := ∀ n, n < 512 → xs (13 * n) = 21 ∧ xs (13 * n + 1) = 0 ∧ xs (13 * n + 2) = 0 ∧ xs (13 * n + 3) = 1 ∧ xs (13 * n + 4) = 0
set_option maxHeartbeats 4000000 in
set_option maxRecDepth 100000 in
theorem big_start {p : Program} {e : Env} {s : State} {m : MethodId} {below : List Frame} {meth : Method} {c : Code} (l : Launch) {b z : Nat} {xs : Nat → Int32} {dC : Nat → ClassId} {dI : Nat → Nat → Nat} (hsc : big_sc xs)
    (hx : p.tables.exec = Jvm.exec) (hb : c.code = code) (hr : meth.sig.returnType = ret) (hml : c.maxLocals = 7) (hown : s.vm.findClass "SeattableLaw" = some m.cls) (hG : ∀ w ∈ G, w.before #[Value.ref b] s = true) (hN : nw s)
    (hK : va_K (dC, dI) classes [] s) (hX : va_X b 6656 xs s s.heap) (hbl : b < s.heap.size) (hlocks : meth.locks = false) (hZ9 : Zl z (fun q => s.heap.size ≤ q) s s.heap) :
    W p l e room_big s m #[Value.ref b] below meth c s.heap [] 0 0 (big_Z below s) (entryFrame m ([Value.ref b] : List Value).toArray 7) := by
  obtain ⟨A, hAe⟩ : ∃ A : Nat → Prop, A = fun q => s.heap.size ≤ q := ⟨_, rfl⟩
  have hZ : Zl z A s s.heap := by rw [hAe]; exact hZ9
  have hA : ∀ q : Nat, s.heap.size ≤ q → A q := fun q h => by rw [hAe]; exact h
  have hbA : ¬ A b := by rw [hAe]; exact Nat.not_le.mpr hbl
  have hS : va_S A s.heap s.heap [] := va_S.rf
  have hP : va_P (dC, dI) classes [] s.heap := fun k q h => by simp at h
  have hD : va_D A [] := ⟨fun i j p q h => by simp at h, fun k q h => by simp at h⟩
  have hl := lv_entry ([.ref b]) (n := 7) (Nat.le_of_ble_eq_true rfl)
  rw [lg_entry_eq]
  generalize (lg_sl ([.ref b]) ++ List.replicate (7 - (lg_sl ([.ref b])).length) Slot.unset).toArray = ls at hl ⊢
  have hl : lv_has ls 7 [(0, .ref b)] := hl
  refine va_new (D := (dC, dI)) (ci := 12) (fs := (List.range 14).map (fun k => defaultValue (tyX11 k))) (C := RX11) (T := TX11) (N := 14) hx hb hG iX11 tyX11 tyX11_ok hown (hG _ m_342) (hG _ m_343) (hG _ m_286) hK hP hD hS hA rfl (fs_new 14 tyX11) (Nat.le_of_ble_eq_true rfl) (Nat.le_of_ble_eq_true rfl) dL_law_0 (fun q1 H hP hD hS => ?_)
  have hP : va_P (dC, dI) classes [(q1, .inr (12, ((List.range 14).map (fun k => defaultValue (tyX11 k)))))] H := hP
  have hD : va_D A [(q1, .inr (12, ((List.range 14).map (fun k => defaultValue (tyX11 k)))))] := hD
  obtain ⟨fs2, efs2⟩ : ∃ y : List Value, y = (List.range 14).map (fun k => defaultValue (tyX11 k)) := ⟨_, rfl⟩
  rw [← efs2] at hP hD
  have hl_3 : fs2.length = 14 := by rw [efs2, List.length_map, List.length_range]
  have hf_4 : fs2[0]? = some (.null) := by rw [efs2]; rfl
  have hf_5 : fs2[1]? = some (.null) := by rw [efs2]; rfl
  have hf_6 : fs2[8]? = some (.null) := by rw [efs2]; rfl
  refine W.widen (k := 1) (n := 14) (Nat.le_of_ble_eq_true rfl) (Nat.le_of_ble_eq_true rfl) ?_
  refine lv_dup hx hb dL_law_3 rfl ?_
  have hPc := hP.sub (ws' := [(q1, .inr (12, fs2))]) [0] rfl
  have hDc := hD.sub (ws' := [(q1, .inr (12, fs2))]) [0] (by decide) rfl
  have hKc := hK.sub (tys' := []) [] rfl
  have hFc := va_free (wc := [(q1, .inr (12, fs2))]) hD hS hA [0] rfl
  refine va_callv (va_runI (As := []) (rest := [.ref q1]) ⟨hx, hb, hml, hown, hG⟩ (c_Seattable_init l dC dI z q1 fs2 H.size hl_3) (cwI 0 hG (gI m_344) rfl rfl rfl (hG _ m_286) (hG _ m_345) (hG _ m_346) rfl (by decide +kernel) ⟨Nat.le_of_ble_eq_true rfl, Nat.le_of_ble_eq_true rfl⟩) ⟨pre_blind, fun U hU hW => ⟨rfl, pre_call hU hW hPc hKc hDc hN (zkeep hZ hS) hFc⟩⟩ rfl rfl hl.1 rfl (lv_room (Nat.le_of_ble_eq_true rfl)) dL_law_4 ⟨Nat.le_of_ble_eq_true rfl, Nat.le_of_ble_eq_true rfl⟩) hS (fun q _ h => hFc q h) hFc (fun u t H locs ht hvm hw hB hz1 hk1 hS => ?_)
  obtain ⟨fs8, q9, fs10, q11, fs12, q13, cA14, f15, q16, cA17, f18, hP1, hK1, hD1, hy19, hy20, hy21, hy22, hy23, hy24, hy25, hy26, hy27⟩ := hB
  rw [ht] at hP1
  have hK1 := va_K.moved hvm.symm hK1
  obtain ⟨hP, hD⟩ := va_join (wr := []) (w1 := [(q1, .inr (12, fs8)), (q9, .inr (2, fs10)), (q11, .inr (5, fs12)), (q13, .inl (cA14, 12, .inl f15)), (q16, .inl (cA17, 6, .inl f18))]) hP hD [0] [] rfl rfl (by decide) (by decide) hk1 hFc hP1 hD1
  have hK := (hK.sub (tys' := []) [] rfl).app hK1
  have hP : va_P (dC, dI) classes [(q1, .inr (12, fs8)), (q9, .inr (2, fs10)), (q11, .inr (5, fs12)), (q13, .inl (cA14, 12, .inl f15)), (q16, .inl (cA17, 6, .inl f18))] H := hP
  have hD : va_D A [(q1, .inr (12, fs8)), (q9, .inr (2, fs10)), (q11, .inr (5, fs12)), (q13, .inl (cA14, 12, .inl f15)), (q16, .inl (cA17, 6, .inl f18))] := hD
  have hK : va_K (dC, dI) classes [(cA14, .int), (cA17, .int)] s := hK
  refine W.widen (k := 461) (n := 52576) (Nat.le_of_ble_eq_true rfl) (Nat.le_of_ble_eq_true rfl) ?_
  refine lv_astore_n (lv' := [(1, .ref q1), (0, .ref b)]) hx hb dL_law_7 rfl hl (by decide) rfl (fun ls hl => ?_)
  refine va_new (D := (dC, dI)) (ci := 14) (fs := (List.range 55).map (fun k => defaultValue (tyX15 k))) (C := RX15) (T := TX15) (N := 55) hx hb hG iX15 tyX15 tyX15_ok hown (hG _ m_347) (hG _ m_348) (hG _ m_304) hK hP hD hS hA rfl (fs_new 55 tyX15) (Nat.le_of_ble_eq_true rfl) (Nat.le_of_ble_eq_true rfl) dL_law_8 (fun q28 H hP hD hS => ?_)
  have hP : va_P (dC, dI) classes [(q1, .inr (12, fs8)), (q9, .inr (2, fs10)), (q11, .inr (5, fs12)), (q13, .inl (cA14, 12, .inl f15)), (q16, .inl (cA17, 6, .inl f18)), (q28, .inr (14, ((List.range 55).map (fun k => defaultValue (tyX15 k)))))] H := hP
  have hD : va_D A [(q1, .inr (12, fs8)), (q9, .inr (2, fs10)), (q11, .inr (5, fs12)), (q13, .inl (cA14, 12, .inl f15)), (q16, .inl (cA17, 6, .inl f18)), (q28, .inr (14, ((List.range 55).map (fun k => defaultValue (tyX15 k)))))] := hD
  obtain ⟨fs29, efs29⟩ : ∃ y : List Value, y = (List.range 55).map (fun k => defaultValue (tyX15 k)) := ⟨_, rfl⟩
  rw [← efs29] at hP hD
  have hl_30 : fs29.length = 55 := by rw [efs29, List.length_map, List.length_range]
  have hf_31 : fs29[0]? = some (.int 0) := by rw [efs29]; rfl
  have hf_32 : fs29[1]? = some (.null) := by rw [efs29]; rfl
  refine W.widen (k := 462) (n := 52631) (Nat.le_of_ble_eq_true rfl) (Nat.le_of_ble_eq_true rfl) ?_
  refine lv_dup hx hb dL_law_11 rfl ?_
  have hPc := hP.sub (ws' := [(q28, .inr (14, fs29))]) [5] rfl
  have hDc := hD.sub (ws' := [(q28, .inr (14, fs29))]) [5] (by decide) rfl
  have hKc := hK.sub (tys' := []) [] rfl
  have hFc := va_free (wc := [(q28, .inr (14, fs29))]) hD hS hA [5] rfl
  refine va_callv (va_runI (As := []) (rest := [.ref q28]) ⟨hx, hb, hml, hown, hG⟩ (c_Model_init l dC dI z q28 fs29 H.size hl_30) (cwI 0 hG (gI m_349) rfl rfl rfl (hG _ m_304) (hG _ m_350) (hG _ m_351) rfl (by decide +kernel) ⟨Nat.le_of_ble_eq_true rfl, Nat.le_of_ble_eq_true rfl⟩) ⟨pre_blind, fun U hU hW => ⟨rfl, pre_call hU hW hPc hKc hDc hN (zkeep hZ hS) hFc⟩⟩ rfl rfl hl.1 rfl (lv_room (Nat.le_of_ble_eq_true rfl)) dL_law_12 ⟨Nat.le_of_ble_eq_true rfl, Nat.le_of_ble_eq_true rfl⟩) hS (fun q _ h => hFc q h) hFc (fun u t H locs ht hvm hw hB hz1 hk1 hS => ?_)
  obtain ⟨fs34, q35, fs36, hP1, hK1, hD1, hy37, hy38, hy39, hy40, hy41⟩ := hB
  rw [ht] at hP1
  have hK1 := va_K.moved hvm.symm hK1
  obtain ⟨hP, hD⟩ := va_join (wr := [(q1, .inr (12, fs8)), (q9, .inr (2, fs10)), (q11, .inr (5, fs12)), (q13, .inl (cA14, 12, .inl f15)), (q16, .inl (cA17, 6, .inl f18))]) (w1 := [(q28, .inr (14, fs34)), (q35, .inr (13, fs36))]) hP hD [5] [0, 1, 2, 3, 4] rfl rfl (by decide) (by decide) hk1 hFc hP1 hD1
  have hK := (hK.sub (tys' := [(cA14, .int), (cA17, .int)]) [0, 1] rfl).app hK1
  have hP : va_P (dC, dI) classes [(q1, .inr (12, fs8)), (q9, .inr (2, fs10)), (q11, .inr (5, fs12)), (q13, .inl (cA14, 12, .inl f15)), (q16, .inl (cA17, 6, .inl f18)), (q28, .inr (14, fs34)), (q35, .inr (13, fs36))] H := hP
  have hD : va_D A [(q1, .inr (12, fs8)), (q9, .inr (2, fs10)), (q11, .inr (5, fs12)), (q13, .inl (cA14, 12, .inl f15)), (q16, .inl (cA17, 6, .inl f18)), (q28, .inr (14, fs34)), (q35, .inr (13, fs36))] := hD
  have hK : va_K (dC, dI) classes [(cA14, .int), (cA17, .int)] s := hK
  refine W.widen (k := 500) (n := 53803) (Nat.le_of_ble_eq_true rfl) (Nat.le_of_ble_eq_true rfl) ?_
  refine lv_astore_n (lv' := [(2, .ref q28), (1, .ref q1), (0, .ref b)]) hx hb dL_law_15 rfl hl (by decide) rfl (fun ls hl => ?_)
  refine lv_iconst (v := 1) hx hb dL_law_16 (by decide) ?_
  refine va_newa (D := (dC, dI)) (atype := .long) (ty := .long) (N' := 1) (a0 := (1, .inr (.inl (fun _ => 0)))) hx hb (hG _ m_60) rfl hK hP hD hS hA (fun cA => rfl) (by decide) (by decide) (Nat.le_of_ble_eq_true rfl) (Nat.le_of_ble_eq_true rfl) (Nat.le_of_ble_eq_true rfl) dL_law_17 (fun q42 cA43 H hK hP hD hS => ?_)
  have hP : va_P (dC, dI) classes [(q1, .inr (12, fs8)), (q9, .inr (2, fs10)), (q11, .inr (5, fs12)), (q13, .inl (cA14, 12, .inl f15)), (q16, .inl (cA17, 6, .inl f18)), (q28, .inr (14, fs34)), (q35, .inr (13, fs36)), (q42, .inl (cA43, 1, .inr (.inl (fun _ => 0))))] H := hP
  have hD : va_D A [(q1, .inr (12, fs8)), (q9, .inr (2, fs10)), (q11, .inr (5, fs12)), (q13, .inl (cA14, 12, .inl f15)), (q16, .inl (cA17, 6, .inl f18)), (q28, .inr (14, fs34)), (q35, .inr (13, fs36)), (q42, .inl (cA43, 1, .inr (.inl (fun _ => 0))))] := hD
  have hK : va_K (dC, dI) classes [(cA14, .int), (cA17, .int), (cA43, .long)] s := hK
  obtain ⟨f44, ef44⟩ : ∃ y : Nat → Int64, y = (fun _ => 0) := ⟨_, rfl⟩
  rw [← ef44] at hP hD
  refine W.widen (k := 501) (n := 53804) (Nat.le_of_ble_eq_true rfl) (Nat.le_of_ble_eq_true rfl) ?_
  refine lv_astore_n (lv' := [(3, .ref q42), (2, .ref q28), (1, .ref q1), (0, .ref b)]) hx hb dL_law_19 rfl hl (by decide) rfl (fun ls hl => ?_)
  refine lv_iconst (v := 0) hx hb dL_law_20 (by decide) ?_
  refine lv_istore (lv' := [(4, .int 0), (3, .ref q42), (2, .ref q28), (1, .ref q1), (0, .ref b)]) hx hb dL_law_21 hl (by decide) rfl (fun ls hl => ?_)
  have hP := hP.sub (ws' := [(q1, .inr (12, fs8)), (q9, .inr (2, fs10)), (q11, .inr (5, fs12)), (q13, .inl (cA14, 12, .inl f15)), (q16, .inl (cA17, 6, .inl f18)), (q28, .inr (14, fs34)), (q35, .inr (13, fs36)), (q42, .inl (cA43, 1, .inr (.inl f44)))]) [0, 1, 2, 3, 4, 5, 6, 7] rfl
  have hD := hD.sub (ws' := [(q1, .inr (12, fs8)), (q9, .inr (2, fs10)), (q11, .inr (5, fs12)), (q13, .inl (cA14, 12, .inl f15)), (q16, .inl (cA17, 6, .inl f18)), (q28, .inr (14, fs34)), (q35, .inr (13, fs36)), (q42, .inl (cA43, 1, .inr (.inl f44)))]) [0, 1, 2, 3, 4, 5, 6, 7] (by decide) rfl
  have hK := hK.sub (tys' := [(cA14, .int), (cA17, .int), (cA43, .long)]) [0, 1, 2] rfl
  have hg : s.heap.size + 1200 * 0 ≤ H.size := hS.1
  refine loopW (I := fun n H locs ls => ∃ (fd9 : List Value) (g9 : Nat → Int32) (fo9 : List Value) (k9 : Nat → Int64), va_P (dC, dI) classes [(q1, .inr (12, fs8)), (q9, .inr (2, fs10)), (q11, .inr (5, fd9)), (q13, .inl (cA14, 12, .inl f15)), (q16, .inl (cA17, 6, .inl g9)), (q28, .inr (14, fo9)), (q35, .inr (13, fs36)), (q42, .inl (cA43, 1, .inr (.inl k9)))] H ∧ va_D A [(q1, .inr (12, fs8)), (q9, .inr (2, fs10)), (q11, .inr (5, fd9)), (q13, .inl (cA14, 12, .inl f15)), (q16, .inl (cA17, 6, .inl g9)), (q28, .inr (14, fo9)), (q35, .inr (13, fs36)), (q42, .inl (cA43, 1, .inr (.inl k9)))] ∧ va_S A s.heap H locs ∧ lv_has ls 7 [(0, .ref b), (1, .ref q1), (2, .ref q28), (3, .ref q42), (4, .int (nI (13 * n)))] ∧ s.heap.size + 1200 * n ≤ H.size ∧ fd9.length = 13 ∧ fd9[1]? = some (.ref q16) ∧ fo9.length = 55 ∧ fo9[1]? = some (.ref q35)) (C := fun n => (501 + 1202 * n, 53804 + 1206 * n)) 512 ?_ ?_ 0 (by decide) H _ ls ⟨fs12, f18, fs34, f44, hP, hD, hS, lv_sub hl [4, 3, 2, 1, 0] rfl, hg, hy24, hy25, hy37, hy38⟩
  · intro H locs ls hI
    obtain ⟨fd9, g9, fo9, k9, hP, hD, hS, hl, hg, hl_fd9, hf_fd9, hl_fo9, hf_fo9⟩ := hI
    refine lv_iload hx hb dL_law_23 (lv_at hl 4 rfl) ?_
    refine lv_aload_n hx hb dL_law_25 rfl (lv_at hl 0 rfl) ?_
    refine va_slen hx hb hX hbl hbA hS dL_law_26 ?_
    refine lv_bipush (v := 13) hx hb dL_law_27 (by decide) ?_
    refine lv_isub hx hb dL_law_29 ?_
    refine lv_topi (fun x45 ex45 => ?_)
    have ex45 : x45 = 6643 := by rw [ex45]; decide
    subst ex45
    refine lv_icmp_gt (tgt := 2560) hx hb dL_law_30 (by decide) (fun _ => ?_) (fun c9 => absurd (by decide) c9)
    refine lv_iconst (v := 1) hx hb dL_law_2560 (by decide) ?_
    exact big_ret hx hb hr hlocks (by omega) dL_law_2561
  · intro n hh ih H locs ls hI
    obtain ⟨fd9, g9, fo9, k9, hP, hD, hS, hl, hg, hl_fd9, hf_fd9, hl_fo9, hf_fo9⟩ := hI
    refine lv_iload hx hb dL_law_23 (lv_at hl 4 rfl) ?_
    refine lv_aload_n hx hb dL_law_25 rfl (lv_at hl 0 rfl) ?_
    refine va_slen hx hb hX hbl hbA hS dL_law_26 ?_
    refine lv_bipush (v := 13) hx hb dL_law_27 (by decide) ?_
    refine lv_isub hx hb dL_law_29 ?_
    refine lv_topi (fun x46 ex46 => ?_)
    have ex46 : x46 = 6643 := by rw [ex46]; decide
    subst ex46
    refine lv_icmp_gt (tgt := 2560) hx hb dL_law_30 (by decide) (fun c9 => absurd c9 (nI_n6643 (by omega))) (fun _ => ?_)
    obtain ⟨hs0, hs1, hs2, hs3, hs4⟩ := hsc n hh
    refine lv_aload_n hx hb dL_law_33 rfl (lv_at hl 0 rfl) ?_
    refine lv_iload hx hb dL_law_34 (lv_at hl 4 rfl) ?_
    refine va_sld hx hb hX hbl hbA hS (vp_in_nI (by omega) (by decide)) dL_law_36 ?_
    refine lv_topi (fun x47 ex47 => ?_)
    have ex47 : x47 = 21 := by rw [ex47]; rw [nI_clamp (by omega)]; exact hs0
    subst ex47
    refine lv_bipush (v := 63) hx hb dL_law_37 (by decide) ?_
    refine lv_iand hx hb dL_law_39 ?_
    refine lv_topi (fun x48 ex48 => ?_)
    have ex48 : x48 = 21 := by rw [ex48]; decide
    subst ex48
    refine lv_tableIn (off := 1324) (tgt := 1364) hx hb dL_law_40 (by decide) (by decide) (by decide) (by decide) ?_
    refine lv_aload_n hx hb dL_law_1364 rfl (lv_at hl 1 rfl) ?_
    refine lv_aload_n hx hb dL_law_1365 rfl (lv_at hl 0 rfl) ?_
    refine lv_iload hx hb dL_law_1366 (lv_at hl 4 rfl) ?_
    refine lv_iconst (v := 1) hx hb dL_law_1368 (by decide) ?_
    refine lv_iadd hx hb dL_law_1369 ?_
    refine lv_topi (fun x49 ex49 => ?_)
    have ex49 : x49 = nI (13 * n + 1) := by rw [ex49]; exact nI_add _ _
    subst ex49
    refine va_sld hx hb hX hbl hbA hS (vp_in_nI (by omega) (by decide)) dL_law_1370 ?_
    refine lv_topi (fun x50 ex50 => ?_)
    have ex50 : x50 = 0 := by rw [ex50]; rw [nI_clamp (by omega)]; exact hs1
    subst ex50
    refine lv_aload_n hx hb dL_law_1371 rfl (lv_at hl 0 rfl) ?_
    refine lv_iload hx hb dL_law_1372 (lv_at hl 4 rfl) ?_
    refine lv_iconst (v := 2) hx hb dL_law_1374 (by decide) ?_
    refine lv_iadd hx hb dL_law_1375 ?_
    refine lv_topi (fun x51 ex51 => ?_)
    have ex51 : x51 = nI (13 * n + 2) := by rw [ex51]; exact nI_add _ _
    subst ex51
    refine va_sld hx hb hX hbl hbA hS (vp_in_nI (by omega) (by decide)) dL_law_1376 ?_
    refine lv_topi (fun x52 ex52 => ?_)
    have ex52 : x52 = 0 := by rw [ex52]; rw [nI_clamp (by omega)]; exact hs2
    subst ex52
    refine lv_aload_n hx hb dL_law_1377 rfl (lv_at hl 0 rfl) ?_
    refine lv_iload hx hb dL_law_1378 (lv_at hl 4 rfl) ?_
    refine lv_iconst (v := 3) hx hb dL_law_1380 (by decide) ?_
    refine lv_iadd hx hb dL_law_1381 ?_
    refine lv_topi (fun x53 ex53 => ?_)
    have ex53 : x53 = nI (13 * n + 3) := by rw [ex53]; exact nI_add _ _
    subst ex53
    refine va_sld hx hb hX hbl hbA hS (vp_in_nI (by omega) (by decide)) dL_law_1382 ?_
    refine lv_topi (fun x54 ex54 => ?_)
    have ex54 : x54 = 1 := by rw [ex54]; rw [nI_clamp (by omega)]; exact hs3
    subst ex54
    refine lv_aload_n hx hb dL_law_1383 rfl (lv_at hl 0 rfl) ?_
    refine lv_iload hx hb dL_law_1384 (lv_at hl 4 rfl) ?_
    refine lv_iconst (v := 4) hx hb dL_law_1386 (by decide) ?_
    refine lv_iadd hx hb dL_law_1387 ?_
    refine lv_topi (fun x55 ex55 => ?_)
    have ex55 : x55 = nI (13 * n + 4) := by rw [ex55]; exact nI_add _ _
    subst ex55
    refine va_sld hx hb hX hbl hbA hS (vp_in_nI (by omega) (by decide)) dL_law_1388 ?_
    refine lv_topi (fun x56 ex56 => ?_)
    have ex56 : x56 = 0 := by rw [ex56]; rw [nI_clamp (by omega)]; exact hs4
    subst ex56
    refine lv_aload_n hx hb dL_law_1389 rfl (lv_at hl 3 rfl) ?_
    have hPc := hP.sub (ws' := [(q1, .inr (12, fs8)), (q9, .inr (2, fs10)), (q11, .inr (5, fd9)), (q13, .inl (cA14, 12, .inl f15)), (q16, .inl (cA17, 6, .inl g9)), (q42, .inl (cA43, 1, .inr (.inl k9)))]) [0, 1, 2, 3, 4, 7] rfl
    have hDc := hD.sub (ws' := [(q1, .inr (12, fs8)), (q9, .inr (2, fs10)), (q11, .inr (5, fd9)), (q13, .inl (cA14, 12, .inl f15)), (q16, .inl (cA17, 6, .inl g9)), (q42, .inl (cA43, 1, .inr (.inl k9)))]) [0, 1, 2, 3, 4, 7] (by decide) rfl
    have hKc := hK.sub (tys' := [(cA14, .int), (cA17, .int), (cA43, .long)]) [0, 1, 2] rfl
    have hFc := va_free (wc := [(q1, .inr (12, fs8)), (q9, .inr (2, fs10)), (q11, .inr (5, fd9)), (q13, .inl (cA14, 12, .inl f15)), (q16, .inl (cA17, 6, .inl g9)), (q42, .inl (cA43, 1, .inr (.inl k9)))]) hD hS hA [0, 1, 2, 3, 4, 7] rfl
    refine va_calli (vx_runSW (As := [.ref q1, .int 0, .int 0, .int 1, .int 0, .ref q42]) (rest := []) ⟨hx, hb, hml, hown, hG⟩ (c_Law_tiers l dC dI z q1 fs8 q9 fs10 q13 cA14 f15 q11 fd9 q16 cA17 g9 q42 cA43 k9 H.size hy19 hy20 hy21 hy22 hy23 hl_fd9 hf_fd9 hy26 hy27) (vx_cwSW (hh := [(0, 14, 17, 24), (0, 14, 21, 22)]) 6 hG (gS m_353 m_354 m_355 m_352) rfl rfl rfl (by decide +kernel) ⟨Nat.le_of_ble_eq_true rfl, Nat.le_of_ble_eq_true rfl⟩) ⟨pre_blind, fun U hU hW => ⟨rfl, pre_call hU hW hPc hKc hDc hN (zkeep hZ hS) hFc⟩⟩ rfl rfl hl.1 rfl (lv_room (Nat.le_of_ble_eq_true rfl)) dL_law_1390 ⟨by show 501 + 1202 * n + 0 ≤ 650000; omega, by show 53804 + 1206 * n + 0 ≤ 7293034; omega⟩) hS (fun q _ h => hFc q h) hFc (fun r57 u t H locs ht hvm hw hB hz1 hk1 hS => ?_)
    obtain ⟨fs58, f59, f60, hP1, hK1, hD1, hy61, hy62, hy63⟩ := hB
    rw [ht] at hP1
    have hK1 := va_K.moved hvm.symm hK1
    try dsimp only at hw
    subst hw
    obtain ⟨hP, hD⟩ := va_join (wr := [(q28, .inr (14, fo9)), (q35, .inr (13, fs36))]) (w1 := [(q1, .inr (12, fs8)), (q9, .inr (2, fs10)), (q11, .inr (5, fs58)), (q13, .inl (cA14, 12, .inl f15)), (q16, .inl (cA17, 6, .inl f59)), (q42, .inl (cA43, 1, .inr (.inl f60)))]) hP hD [0, 1, 2, 3, 4, 7] [5, 6] rfl rfl (by decide) (by decide) hk1 hFc hP1 hD1
    have hK := (hK.sub (tys' := []) [] rfl).app hK1
    have hP : va_P (dC, dI) classes [(q28, .inr (14, fo9)), (q35, .inr (13, fs36)), (q1, .inr (12, fs8)), (q9, .inr (2, fs10)), (q11, .inr (5, fs58)), (q13, .inl (cA14, 12, .inl f15)), (q16, .inl (cA17, 6, .inl f59)), (q42, .inl (cA43, 1, .inr (.inl f60)))] H := hP
    have hD : va_D A [(q28, .inr (14, fo9)), (q35, .inr (13, fs36)), (q1, .inr (12, fs8)), (q9, .inr (2, fs10)), (q11, .inr (5, fs58)), (q13, .inl (cA14, 12, .inl f15)), (q16, .inl (cA17, 6, .inl f59)), (q42, .inl (cA43, 1, .inr (.inl f60)))] := hD
    have hK : va_K (dC, dI) classes [(cA14, .int), (cA17, .int), (cA43, .long)] s := hK
    have hg : s.heap.size + (1200 * n + 0) ≤ H.size := Nat.le_trans hg hz1
    refine lv_istore (lv' := [(5, .int 0), (0, .ref b), (1, .ref q1), (2, .ref q28), (3, .ref q42), (4, .int (nI (13 * n)))]) hx hb dL_law_1393 hl (by decide) rfl (fun ls hl => ?_)
    refine lv_aload_n hx hb dL_law_1395 rfl (lv_at hl 3 rfl) ?_
    refine lv_aload_n hx hb dL_law_1396 rfl (lv_at hl 1 rfl) ?_
    refine lv_iload hx hb dL_law_1397 (lv_at hl 5 rfl) ?_
    refine lv_iconst (v := 1) hx hb dL_law_1399 (by decide) ?_
    refine lv_iadd hx hb dL_law_1400 ?_
    refine lv_topi (fun x64 ex64 => ?_)
    have ex64 : x64 = nI (13 * n + 1) := by rw [ex64]; exact nI_add _ _
    subst ex64
    refine va_sld hx hb hX hbl hbA hS (vp_in_nI (by omega) (by decide)) dL_law_1401 ?_
    refine lv_topi (fun x65 ex65 => ?_)
    have ex65 : x65 = 0 := by rw [ex65]; rw [nI_clamp (by omega)]; exact hs1
    subst ex65
    refine lv_aload_n hx hb dL_law_1402 rfl (lv_at hl 1 rfl) ?_
    refine lv_iload hx hb dL_law_1403 (lv_at hl 5 rfl) ?_
    refine lv_iconst (v := 2) hx hb dL_law_1405 (by decide) ?_
    refine lv_iadd hx hb dL_law_1406 ?_
    refine lv_topi (fun x66 ex66 => ?_)
    have ex66 : x66 = nI (13 * n + 2) := by rw [ex66]; exact nI_add _ _
    subst ex66
    refine va_sld hx hb hX hbl hbA hS (vp_in_nI (by omega) (by decide)) dL_law_1407 ?_
    refine lv_topi (fun x67 ex67 => ?_)
    have ex67 : x67 = 0 := by rw [ex67]; rw [nI_clamp (by omega)]; exact hs2
    subst ex67
    refine lv_aload_n hx hb dL_law_1408 rfl (lv_at hl 1 rfl) ?_
    refine lv_iload hx hb dL_law_1409 (lv_at hl 5 rfl) ?_
    refine lv_iconst (v := 3) hx hb dL_law_1411 (by decide) ?_
    refine lv_iadd hx hb dL_law_1412 ?_
    refine lv_topi (fun x68 ex68 => ?_)
    have ex68 : x68 = nI (13 * n + 3) := by rw [ex68]; exact nI_add _ _
    subst ex68
    refine va_sld hx hb hX hbl hbA hS (vp_in_nI (by omega) (by decide)) dL_law_1413 ?_
    refine lv_topi (fun x69 ex69 => ?_)
    have ex69 : x69 = 1 := by rw [ex69]; rw [nI_clamp (by omega)]; exact hs3
    subst ex69
    refine lv_aload_n hx hb dL_law_1414 rfl (lv_at hl 1 rfl) ?_
    refine lv_iload hx hb dL_law_1415 (lv_at hl 5 rfl) ?_
    refine lv_iconst (v := 4) hx hb dL_law_1417 (by decide) ?_
    refine lv_iadd hx hb dL_law_1418 ?_
    refine lv_topi (fun x70 ex70 => ?_)
    have ex70 : x70 = nI (13 * n + 4) := by rw [ex70]; exact nI_add _ _
    subst ex70
    refine va_sld hx hb hX hbl hbA hS (vp_in_nI (by omega) (by decide)) dL_law_1419 ?_
    refine lv_topi (fun x71 ex71 => ?_)
    have ex71 : x71 = 0 := by rw [ex71]; rw [nI_clamp (by omega)]; exact hs4
    subst ex71
    have hPc := hP.sub (ws' := [(q28, .inr (14, fo9)), (q35, .inr (13, fs36))]) [0, 1] rfl
    have hDc := hD.sub (ws' := [(q28, .inr (14, fo9)), (q35, .inr (13, fs36))]) [0, 1] (by decide) rfl
    have hKc := hK.sub (tys' := []) [] rfl
    have hFc := va_free (wc := [(q28, .inr (14, fo9)), (q35, .inr (13, fs36))]) hD hS hA [0, 1] rfl
    refine va_calli (va_runV (C := "SeattableModel") (As := [.int 0, .int 0, .int 1, .int 0]) (rest := []) ⟨hx, hb, hml, hown, hG⟩ (c_Model_tiers l dC dI z q28 fo9 q35 fs36 H.size hl_fo9 hf_fo9 hy39 hy40 hy41) (cwV 4 hG (gV m_357 m_358 m_359 m_304 m_356) rfl rfl rfl (by decide +kernel) ⟨Nat.le_of_ble_eq_true rfl, Nat.le_of_ble_eq_true rfl⟩) ⟨pre_blind, va_recv hKc hPc (ci := 14) (q0 := 0) rfl rfl, fun U hU hW => ⟨rfl, pre_call hU hW hPc hKc hDc hN (zkeep hZ hS) hFc⟩⟩ rfl rfl hl.1 rfl (lv_room (Nat.le_of_ble_eq_true rfl)) dL_law_1420 ⟨by show 501 + 1202 * n + 1202 ≤ 650000; omega, by show 53804 + 1206 * n + 1206 ≤ 7293034; omega⟩) hS (fun q _ h => hFc q h) hFc (fun r72 u t H locs ht hvm hw hB hz1 hk1 hS => ?_)
    obtain ⟨fs73, hP1, hK1, hD1, hy74, hy75, hy76, hy77⟩ := hB
    rw [ht] at hP1
    have hK1 := va_K.moved hvm.symm hK1
    try dsimp only at hw
    subst hw
    obtain ⟨hP, hD⟩ := va_join (wr := [(q1, .inr (12, fs8)), (q9, .inr (2, fs10)), (q11, .inr (5, fs58)), (q13, .inl (cA14, 12, .inl f15)), (q16, .inl (cA17, 6, .inl f59)), (q42, .inl (cA43, 1, .inr (.inl f60)))]) (w1 := [(q28, .inr (14, fs73)), (q35, .inr (13, fs36))]) hP hD [0, 1] [2, 3, 4, 5, 6, 7] rfl rfl (by decide) (by decide) hk1 hFc hP1 hD1
    have hK := (hK.sub (tys' := [(cA14, .int), (cA17, .int), (cA43, .long)]) [0, 1, 2] rfl).app hK1
    have hP : va_P (dC, dI) classes [(q1, .inr (12, fs8)), (q9, .inr (2, fs10)), (q11, .inr (5, fs58)), (q13, .inl (cA14, 12, .inl f15)), (q16, .inl (cA17, 6, .inl f59)), (q42, .inl (cA43, 1, .inr (.inl f60))), (q28, .inr (14, fs73)), (q35, .inr (13, fs36))] H := hP
    have hD : va_D A [(q1, .inr (12, fs8)), (q9, .inr (2, fs10)), (q11, .inr (5, fs58)), (q13, .inl (cA14, 12, .inl f15)), (q16, .inl (cA17, 6, .inl f59)), (q42, .inl (cA43, 1, .inr (.inl f60))), (q28, .inr (14, fs73)), (q35, .inr (13, fs36))] := hD
    have hK : va_K (dC, dI) classes [(cA14, .int), (cA17, .int), (cA43, .long)] s := hK
    rw [ht] at hy77
    have hg : s.heap.size + ((1200 * n + 0) + 1200) ≤ H.size := by omega
    refine W.widen (k := 501 + 1202 * (n + 1)) (n := 53804 + 1206 * (n + 1)) (by show 501 + 1202 * n + 1202 ≤ _; omega) (by show 53804 + 1206 * n + 1206 ≤ _; omega) ?_
    refine lv_istore (lv' := [(6, .int (-1)), (5, .int 0), (0, .ref b), (1, .ref q1), (2, .ref q28), (3, .ref q42), (4, .int (nI (13 * n)))]) hx hb dL_law_1423 hl (by decide) rfl (fun ls hl => ?_)
    refine lv_goto (tgt := 2554) hx hb dL_law_1425 (by decide) ?_
    refine lv_iinc (v := nI (13 * (n + 1))) (lv' := [(4, .int (nI (13 * (n + 1)))), (6, .int (-1)), (5, .int 0), (0, .ref b), (1, .ref q1), (2, .ref q28), (3, .ref q42)]) hx hb dL_law_2554 hl (k := 6) rfl (nI_13 n) (by decide) rfl (fun ls hl => ?_)
    refine lv_goto (tgt := 23) hx hb dL_law_2557 (by decide) ?_
    have hP := hP.sub (ws' := [(q1, .inr (12, fs8)), (q9, .inr (2, fs10)), (q11, .inr (5, fs58)), (q13, .inl (cA14, 12, .inl f15)), (q16, .inl (cA17, 6, .inl f59)), (q28, .inr (14, fs73)), (q35, .inr (13, fs36)), (q42, .inl (cA43, 1, .inr (.inl f60)))]) [0, 1, 2, 3, 4, 6, 7, 5] rfl
    have hD := hD.sub (ws' := [(q1, .inr (12, fs8)), (q9, .inr (2, fs10)), (q11, .inr (5, fs58)), (q13, .inl (cA14, 12, .inl f15)), (q16, .inl (cA17, 6, .inl f59)), (q28, .inr (14, fs73)), (q35, .inr (13, fs36)), (q42, .inl (cA43, 1, .inr (.inl f60)))]) [0, 1, 2, 3, 4, 6, 7, 5] (by decide) rfl
    have hK := hK.sub (tys' := [(cA14, .int), (cA17, .int), (cA43, .long)]) [0, 1, 2] rfl
    exact ih H locs ls ⟨fs58, f59, fs73, f60, hP, hD, hS, lv_sub hl [3, 4, 5, 6, 0] rfl, by omega, hy61, hy62, hy74, hy76⟩

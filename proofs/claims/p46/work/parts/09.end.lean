def big_P (b : Addr) (xs : List Int32) (args : Array Value) (s : State) : Prop := args = #[.ref b] ∧ s.IntsAt b xs ∧ xs.length = 6656 ∧ big_sc (fun j => xs.getD j 0) ∧ (Jvm.Cond.and given_1 narrow_1).before args s = true
def big_Q (_ : Array Value) (s : State) (o : Outcome) (t : State) : Prop := o = .returned (some (.int 1)) ∧ s.heap.size + 614400 ≤ t.heap.size
theorem big_list {s : State} {a : Array Value} (h : (Cond.arrayOf (.static "java/util/ArrayList" "DEFAULTCAPACITY_EMPTY_ELEMENTDATA" "[Ljava/lang/Object;") (.object "java/lang/Object")).before a s = true) :
    ∃ z : Nat, (Term.static "java/util/ArrayList" "DEFAULTCAPACITY_EMPTY_ELEMENTDATA" "[Ljava/lang/Object;").eval a s none [] s = some (.ref z) := by
  cases hv : (Term.static "java/util/ArrayList" "DEFAULTCAPACITY_EMPTY_ELEMENTDATA" "[Ljava/lang/Object;").eval a s none [] s with
  | none => simp [Cond.before, Cond.holds, Cond.value, hv] at h
  | some w =>
    cases w with
    | ref z => exact ⟨z, rfl⟩
    | _ => simp [Cond.before, Cond.holds, Cond.value, hv] at h
set_option maxHeartbeats 4000000 in
set_option maxRecDepth 100000 in
theorem big_walk (l : Launch) (b : Addr) (xs : List Int32) : MetFree l x (headSpec (Jvm.Cond.code x code maxLocals ret :: tables_1) room_big) (big_P b xs) (fun _ _ _ _ _ => True) big_Q := by
  refine MetFree.of_bodyS (code := code) (maxLocals := maxLocals) (ret := ret) (by decide) ?_ ?_
  · intro args s m h hn
    obtain ⟨meth, c, h1, h2, h3, h4, h5, h6, -, -⟩ := Cond.code_spec hn (atoms_spec (ws := Jvm.Cond.code x code maxLocals ret :: tables_1) h _ List.mem_cons_self)
    exact ⟨meth, c, h1, h2, h3, h4, h5, h6⟩
  · intro p e s m args below meth c s₁ B hml0 hP _
    obtain ⟨rfl, hx, hlen, hsc, hgv⟩ := hP
    obtain ⟨scr, harrAt, hlist, hof, hsmall⟩ := hx
    obtain ⟨hcb, hkn, -, -⟩ := State.arrayAt?_spec harrAt
    have hown : s.vm.findClass "SeattableLaw" = some m.cls := findClass_of_methodNamed B.named
    have hts1 : ∀ c ∈ (Jvm.Cond.code x code maxLocals ret :: tables_1), c.before #[Value.ref b] s = true := atoms_spec (ws := Jvm.Cond.code x code maxLocals ret :: tables_1) B.pre
    have hts0 : ∀ w ∈ tables_1, w.before #[Value.ref b] s = true := fun w hw => hts1 w (List.mem_cons_of_mem _ hw)
    have hts : ∀ w ∈ my_tbl, w.before #[Value.ref b] s = true := k2_hts_sels my_privs hts0 my_privs_ok
    have hG : ∀ w ∈ G, w.before #[Value.ref b] s = true := fun w hw => hts w (G_sub w hw)
    have hml : c.maxLocals = 7 := B.maxLocals_eq (hts1 _ List.mem_cons_self)
    have X₀ : Stand p l e room_big s m #[Value.ref b] below meth c s₁ [] 0 0 := Stand.of_body B
    have hh0 : s₁.heap = s.heap := by rw [B.state]; rfl
    have hsz : scr.slots.size = xs.length := by rw [← Array.length_toList, hlist, List.length_map]
    have hval : ∀ j : Nat, j < xs.length → scr.slots[j]? = some (.int (xs.getD j 0)) := fun j hj => by
      rw [← Array.getElem?_toList, hlist]
      simp [hj]
    have hbl : b < s.heap.size := (Array.getElem?_eq_some_iff.mp hcb).1
    have hX : va_X b 6656 (fun j => xs.getD j 0) s s.heap := ⟨scr, hcb, hof, hkn, by rw [hsz, hlen], fun j hj => hval j (by omega)⟩
    obtain ⟨c0, iS0, hKn0⟩ := u_known (C := RJx4a65c) (T := TJx4a65c) (N := 3) (n := 3) hG iJx4a65c (hts0 (.instantiable RJx4a65c 3) (List.mem_of_getElem? (i := 2001) (by decide +kernel)))
    obtain ⟨c1, iS1, hKn1⟩ := u_known (C := RX1) (T := TX1) (N := 2) (n := 2) hG iX1 (hts0 (.instantiable RX1 2) (List.mem_of_getElem? (i := 226) (by decide +kernel)))
    obtain ⟨c2, iS2, hKn2⟩ := u_known (C := RX5) (T := TX5) (N := 19) (n := 19) hG iX5 (hts0 (.instantiable RX5 19) (List.mem_of_getElem? (i := 50) (by decide +kernel)))
    obtain ⟨c3, iS3, hKn3⟩ := u_known (C := RX9) (T := TX9) (N := 16) (n := 16) hG iX9 (hts0 (.instantiable RX9 16) (List.mem_of_getElem? (i := 160) (by decide +kernel)))
    obtain ⟨c4, iS4, hKn4⟩ := u_known (C := RX4) (T := TX4) (N := 6) (n := 6) hG iX4 (hts0 (.instantiable RX4 6) (List.mem_of_getElem? (i := 220) (by decide +kernel)))
    obtain ⟨c5, iS5, hKn5⟩ := u_known (C := RX2) (T := TX2) (N := 13) (n := 13) hG iX2 (hts0 (.instantiable RX2 13) (List.mem_of_getElem? (i := 271) (by decide +kernel)))
    obtain ⟨c6, iS6, hKn6⟩ := u_known (C := RX8) (T := TX8) (N := 15) (n := 15) hG iX8 (hts0 (.instantiable RX8 15) (List.mem_of_getElem? (i := 326) (by decide +kernel)))
    obtain ⟨c7, iS7, hKn7⟩ := u_known (C := RX3) (T := TX3) (N := 10) (n := 10) hG iX3 (hts0 (.instantiable RX3 10) (List.mem_of_getElem? (i := 320) (by decide +kernel)))
    obtain ⟨c8, iS8, hKn8⟩ := u_known (C := RX0) (T := TX0) (N := 20) (n := 20) hG iX0 (hts0 (.instantiable RX0 20) (List.mem_of_getElem? (i := 424) (by decide +kernel)))
    obtain ⟨c9, iS9, hKn9⟩ := u_known (C := RX6) (T := TX6) (N := 10) (n := 10) hG iX6 (hts0 (.instantiable RX6 10) (List.mem_of_getElem? (i := 495) (by decide +kernel)))
    obtain ⟨c10, iS10, hKn10⟩ := u_known (C := RX7) (T := TX7) (N := 9) (n := 9) hG iX7 (hts0 (.instantiable RX7 9) (List.mem_of_getElem? (i := 540) (by decide +kernel)))
    obtain ⟨c11, iS11, hKn11⟩ := u_known (C := RX10) (T := TX10) (N := 7) (n := 7) hG iX10 (hts0 (.instantiable RX10 7) (List.mem_of_getElem? (i := 577) (by decide +kernel)))
    obtain ⟨c12, iS12, hKn12⟩ := u_known (C := RX11) (T := TX11) (N := 14) (n := 14) hG iX11 (hts0 (.instantiable RX11 14) (List.mem_of_getElem? (i := 42) (by decide +kernel)))
    obtain ⟨c13, iS13, hKn13⟩ := u_known (C := RX14) (T := TX14) (N := 28) (n := 28) hG iX14 (hts0 (.instantiable RX14 28) (List.mem_of_getElem? (i := 1995) (by decide +kernel)))
    obtain ⟨c14, iS14, hKn14⟩ := u_known (C := RX15) (T := TX15) (N := 55) (n := 55) hG iX15 (hts0 (.instantiable RX15 55) (List.mem_of_getElem? (i := 1989) (by decide +kernel)))
    obtain ⟨dC, dI, hKc⟩ : ∃ (dC : Nat → ClassId) (dI : Nat → Nat → Nat), ∀ (k : Nat) (q : vw_C), classes[k]? = some q → u_Kn s q.1 q.2.1 q.2.2 (dC k) (dI k) := by
      refine ⟨fun k => if k = 0 then c0 else if k = 1 then c1 else if k = 2 then c2 else if k = 3 then c3 else if k = 4 then c4 else if k = 5 then c5 else if k = 6 then c6 else if k = 7 then c7 else if k = 8 then c8 else if k = 9 then c9 else if k = 10 then c10 else if k = 11 then c11 else if k = 12 then c12 else if k = 13 then c13 else c14, fun k => if k = 0 then iS0 else if k = 1 then iS1 else if k = 2 then iS2 else if k = 3 then iS3 else if k = 4 then iS4 else if k = 5 then iS5 else if k = 6 then iS6 else if k = 7 then iS7 else if k = 8 then iS8 else if k = 9 then iS9 else if k = 10 then iS10 else if k = 11 then iS11 else if k = 12 then iS12 else if k = 13 then iS13 else iS14, ?_⟩
      intro k q hq
      match k, hq with
      | 0, hq => cases hq; exact hKn0
      | 1, hq => cases hq; exact hKn1
      | 2, hq => cases hq; exact hKn2
      | 3, hq => cases hq; exact hKn3
      | 4, hq => cases hq; exact hKn4
      | 5, hq => cases hq; exact hKn5
      | 6, hq => cases hq; exact hKn6
      | 7, hq => cases hq; exact hKn7
      | 8, hq => cases hq; exact hKn8
      | 9, hq => cases hq; exact hKn9
      | 10, hq => cases hq; exact hKn10
      | 11, hq => cases hq; exact hKn11
      | 12, hq => cases hq; exact hKn12
      | 13, hq => cases hq; exact hKn13
      | 14, hq => cases hq; exact hKn14
      | k + 15, hq => simp [classes] at hq
    have hK : va_K (dC, dI) classes [] s := ⟨hKc, fun k q h => by simp at h⟩
    have hflat := flat_of_before _ hgv
    obtain ⟨z, hz⟩ := big_list (hflat _ (by decide +kernel))
    have hZ : Zl z (fun q => s.heap.size ≤ q) s s.heap := va_Zof (hts0 (.laysStatic "java/util/ArrayList" "DEFAULTCAPACITY_EMPTY_ELEMENTDATA" "[Ljava/lang/Object;") (List.mem_of_getElem? (i := 2013) (by decide +kernel))) (hts0 (.initialized "java/util/ArrayList") (List.mem_of_getElem? (i := 17) (by decide +kernel))) hz (fun a h => Nat.not_le.mpr h)
    have K : W p l e room_big s m #[Value.ref b] below meth c s₁.heap [] 0 0 (big_Z below s) (entryFrame m ([Value.ref b] : List Value).toArray 7) := by
      rw [hh0]
      exact big_start l hsc B.exec B.bytes B.returns hml hown hG (nw_of hts0) hK hX hbl B.notSynchronized hZ
    obtain ⟨t, a1, o, b1, b2, b3, b4⟩ := K s₁ rfl X₀
    exact ⟨t, o, a1, b1, b2, b3, b4⟩
/-- THE CLAIM IS FALSE, if the machine can start the law so as the Statement says with this script in room enough: it then comes to its end with 614,400 cells more than at the start, and the claim says that there are at most 601,024 -/
theorem whole_false {l : Launch} {p : Program} {e : Env} {s : State} {m : MethodId} {below : List Frame} {b : Addr} {xs : List Int32} (hfl : l.flags = flags0)
    (hA : Jvm.D.AtStart classFile x code maxLocals ret World_1 tables_1 room_1 Calls_1 rest_1 Pre_1 l p e s m #[.ref b] below)
    (hbig : (headSpec (Jvm.Cond.code x code maxLocals ret :: tables_1) room_big).applies x e.platform s = true) (hxs : s.IntsAt b xs) (hlen : xs.length = 6656) (hsc : big_sc (fun j => xs.getD j 0)) : ¬ Claimed_1_1 := by
  intro hC
  obtain ⟨hL, hW, had, -, hcas, hclk, hfr, hfit, hheap, happ, hcalls, hrest, hpre⟩ := hA
  obtain ⟨k, q, hin', hrun', hend', hpost⟩ := hC l hfl hL hW p e had hcas hclk s m _ below hfr hfit hheap happ ⟨hcalls, hrest, hpre⟩
  obtain ⟨n, o, hin, hrun, hend, hQ⟩ := big_walk l b xs p e had hcas hclk s m _ below hfr ((Spec.applies_iff_loose hfr).mp hbig).1 ⟨rfl, hxs, hlen, hsc, hpre⟩ trivial
  have hnk : n = k := by
    rcases Nat.lt_trichotomy n k with h | h | h
    · exact absurd (hin' n h) hend.not_within
    · exact h
    · exact absurd (hin k h) hend'.not_within
  subst hnk
  have h1 := hpost.2.2.2.2.2.1
  have h2 := hQ.2
  dsimp only at h1
  omega

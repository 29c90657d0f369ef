set_option maxRecDepth 16384

theorem start2.code86 : (Jvm.Cond.code (⟨"Seattable$Big", "group", "(I)I"⟩ : Jvm.MethodName) prog_3_method_9_code 2 (some .int)).before args0 about = true :=
  sv_hand_word (m := ⟨6, 8⟩) (by decide +kernel) rfl (by decide +kernel) (by decide +kernel)
theorem start2.code87 : (Jvm.Cond.code (⟨"Seattable", "addParty", "()I"⟩ : Jvm.MethodName) prog_1_method_2_code 2 (some .int)).before args0 about = true :=
  sv_hand_word (m := ⟨2, 1⟩) (by decide +kernel) rfl (by decide +kernel) (by decide +kernel)
theorem start2.code88 : (Jvm.Cond.code (⟨"java/lang/Throwable", "<init>", "()V"⟩ : Jvm.MethodName) prog_39_method_1_code 1 none).before args0 about = true :=
  sv_hand_word (m := ⟨35, 0⟩) (by decide +kernel) rfl (by decide +kernel) (by decide +kernel)
theorem start2.code89 : (Jvm.Cond.code (⟨"java/lang/IllegalStateException", "<init>", "()V"⟩ : Jvm.MethodName) prog_26_method_1_code 1 none).before args0 about = true :=
  sv_hand_word (m := ⟨49, 0⟩) (by decide +kernel) rfl (by decide +kernel) (by decide +kernel)
theorem start2.code90 : (Jvm.Cond.code (⟨"java/lang/RuntimeException", "<init>", "()V"⟩ : Jvm.MethodName) prog_33_method_1_code 1 none).before args0 about = true :=
  sv_hand_word (m := ⟨46, 0⟩) (by decide +kernel) rfl (by decide +kernel) (by decide +kernel)
theorem start2.code91 : (Jvm.Cond.code (⟨"java/lang/Exception", "<init>", "()V"⟩ : Jvm.MethodName) prog_24_method_1_code 1 none).before args0 about = true :=
  sv_hand_word (m := ⟨41, 0⟩) (by decide +kernel) rfl (by decide +kernel) (by decide +kernel)
theorem start2.code92 : (Jvm.Cond.code (⟨"Seattable", "remember", "()V"⟩ : Jvm.MethodName) prog_1_method_65_code 1 none).before args0 about = true :=
  sv_hand_word (m := ⟨2, 64⟩) (by decide +kernel) rfl (by decide +kernel) (by decide +kernel)
theorem start2.code93 : (Jvm.Cond.code (⟨"Seattable$House", "take", "(LSeattable$House;)V"⟩ : Jvm.MethodName) prog_7_method_14_code 2 none).before args0 about = true :=
  sv_hand_word (m := ⟨3, 13⟩) (by decide +kernel) rfl (by decide +kernel) (by decide +kernel)
theorem start2.code94 : (Jvm.Cond.code (⟨"Seattable$House", "copy", "([I[I)V"⟩ : Jvm.MethodName) prog_7_method_15_code 2 none).before args0 about = true :=
  sv_hand_word (m := ⟨3, 14⟩) (by decide +kernel) rfl (by decide +kernel) (by decide +kernel)
theorem start2.code95 : (Jvm.Cond.code (⟨"Seattable", "addLand", "()I"⟩ : Jvm.MethodName) prog_1_method_3_code 2 (some .int)).before args0 about = true :=
  sv_hand_word (m := ⟨2, 2⟩) (by decide +kernel) rfl (by decide +kernel) (by decide +kernel)
theorem start2.code96 : (Jvm.Cond.code (⟨"Seattable", "setVotes", "(III)I"⟩ : Jvm.MethodName) prog_1_method_4_code 6 (some .int)).before args0 about = true :=
  sv_hand_word (m := ⟨2, 3⟩) (by decide +kernel) rfl (by decide +kernel) (by decide +kernel)
theorem start2.code97 : (Jvm.Cond.code (⟨"Seattable", "isParty", "(I)Z"⟩ : Jvm.MethodName) prog_1_method_56_code 2 (some .boolean)).before args0 about = true :=
  sv_hand_word (m := ⟨2, 55⟩) (by decide +kernel) rfl (by decide +kernel) (by decide +kernel)
theorem start2.code98 : (Jvm.Cond.code (⟨"Seattable", "isLand", "(I)Z"⟩ : Jvm.MethodName) prog_1_method_57_code 2 (some .boolean)).before args0 about = true :=
  sv_hand_word (m := ⟨2, 56⟩) (by decide +kernel) rfl (by decide +kernel) (by decide +kernel)
theorem start2.code99 : (Jvm.Cond.code (⟨"java/lang/IndexOutOfBoundsException", "<init>", "()V"⟩ : Jvm.MethodName) prog_27_method_1_code 1 none).before args0 about = true :=
  sv_hand_word (m := ⟨50, 0⟩) (by decide +kernel) rfl (by decide +kernel) (by decide +kernel)
theorem start2.code100 : (Jvm.Cond.code (⟨"java/lang/IllegalArgumentException", "<init>", "()V"⟩ : Jvm.MethodName) prog_25_method_1_code 1 none).before args0 about = true :=
  sv_hand_word (m := ⟨51, 0⟩) (by decide +kernel) rfl (by decide +kernel) (by decide +kernel)
theorem start2.code101 : (Jvm.Cond.code (⟨"Seattable", "setPeople", "(II)I"⟩ : Jvm.MethodName) prog_1_method_5_code 4 (some .int)).before args0 about = true :=
  sv_hand_word (m := ⟨2, 4⟩) (by decide +kernel) rfl (by decide +kernel) (by decide +kernel)
theorem start2.code102 : (Jvm.Cond.code (⟨"Seattable", "setBounds", "(ZIII)V"⟩ : Jvm.MethodName) prog_1_method_6_code 6 none).before args0 about = true :=
  sv_hand_word (m := ⟨2, 5⟩) (by decide +kernel) rfl (by decide +kernel) (by decide +kernel)
theorem start2.code103 : (Jvm.Cond.code (⟨"Seattable", "isPartyOrLand", "(ZI)Z"⟩ : Jvm.MethodName) prog_1_method_58_code 3 (some .boolean)).before args0 about = true :=
  sv_hand_word (m := ⟨2, 57⟩) (by decide +kernel) rfl (by decide +kernel) (by decide +kernel)
theorem start2.code104 : (Jvm.Cond.code (⟨"Seattable", "setSum", "(ZII)I"⟩ : Jvm.MethodName) prog_1_method_7_code 6 (some .int)).before args0 about = true :=
  sv_hand_word (m := ⟨2, 6⟩) (by decide +kernel) rfl (by decide +kernel) (by decide +kernel)
theorem start2.code105 : (Jvm.Cond.code (⟨"Seattable", "setBar", "(II)V"⟩ : Jvm.MethodName) prog_1_method_8_code 3 none).before args0 about = true :=
  sv_hand_word (m := ⟨2, 7⟩) (by decide +kernel) rfl (by decide +kernel) (by decide +kernel)
theorem start2.code106 : (Jvm.Cond.code (⟨"Seattable", "setPost", "(II)V"⟩ : Jvm.MethodName) prog_1_method_9_code 3 none).before args0 about = true :=
  sv_hand_word (m := ⟨2, 8⟩) (by decide +kernel) rfl (by decide +kernel) (by decide +kernel)
theorem start2.code107 : (Jvm.Cond.code (⟨"Seattable", "type", "(JJJJJJ)I"⟩ : Jvm.MethodName) prog_1_method_10_code 14 (some .int)).before args0 about = true :=
  sv_hand_word (m := ⟨2, 9⟩) (by decide +kernel) rfl (by decide +kernel) (by decide +kernel)
theorem start2.code108 : (Jvm.Cond.code (⟨"Seattable$Script", "bytesIn", "(J)I"⟩ : Jvm.MethodName) prog_11_method_2_code 4 (some .int)).before args0 about = true :=
  sv_hand_word (m := ⟨4, 1⟩) (by decide +kernel) rfl (by decide +kernel) (by decide +kernel)
theorem start2.code109 : (Jvm.Cond.code (⟨"Seattable$Script", "append", "(J)V"⟩ : Jvm.MethodName) prog_11_method_3_code 5 none).before args0 about = true :=
  sv_hand_word (m := ⟨4, 2⟩) (by decide +kernel) rfl (by decide +kernel) (by decide +kernel)
theorem start2.code110 : (Jvm.Cond.code (⟨"Seattable", "load", "()I"⟩ : Jvm.MethodName) prog_1_method_14_code 1 (some .int)).before args0 about = true :=
  sv_hand_word (m := ⟨2, 13⟩) (by decide +kernel) rfl (by decide +kernel) (by decide +kernel)
theorem start2.code111 : (Jvm.Cond.code (⟨"Seattable", "deal", "(IIII)I"⟩ : Jvm.MethodName) prog_1_method_15_code 5 (some .int)).before args0 about = true :=
  sv_hand_word (m := ⟨2, 14⟩) (by decide +kernel) rfl (by decide +kernel) (by decide +kernel)
theorem start2.code112 : (Jvm.Cond.code (⟨"Seattable$Dealer", "line", "(LSeattable$House;II)V"⟩ : Jvm.MethodName) prog_4_method_2_code 6 none).before args0 about = true :=
  sv_hand_word (m := ⟨7, 1⟩) (by decide +kernel) rfl (by decide +kernel) (by decide +kernel)
theorem start2.code113 : (Jvm.Cond.code (⟨"Seattable$Dealer", "votesOf", "(LSeattable$House;III)J"⟩ : Jvm.MethodName) prog_4_method_3_code 7 (some .long)).before args0 about = true :=
  sv_hand_word (m := ⟨7, 2⟩) (by decide +kernel) rfl (by decide +kernel) (by decide +kernel)
theorem start2.code114 : (Jvm.Cond.code (⟨"Seattable$Dealer", "putBehindBar", "(II)V"⟩ : Jvm.MethodName) prog_4_method_4_code 6 none).before args0 about = true :=
  sv_hand_word (m := ⟨7, 3⟩) (by decide +kernel) rfl (by decide +kernel) (by decide +kernel)
theorem start2.code115 : (Jvm.Cond.code (⟨"Seattable$Dealer", "sumOfClaims", "()J"⟩ : Jvm.MethodName) prog_4_method_5_code 4 (some .long)).before args0 about = true :=
  sv_hand_word (m := ⟨7, 4⟩) (by decide +kernel) rfl (by decide +kernel) (by decide +kernel)

set_option maxRecDepth 16384 in
theorem start2.codes_are_5 : tables_1_5.filter sv_isCode = [Jvm.Cond.code (⟨"Seattable$Big", "group", "(I)I"⟩ : Jvm.MethodName) prog_3_method_9_code 2 (some .int),
    Jvm.Cond.code (⟨"Seattable", "addParty", "()I"⟩ : Jvm.MethodName) prog_1_method_2_code 2 (some .int),
    Jvm.Cond.code (⟨"java/lang/Throwable", "<init>", "()V"⟩ : Jvm.MethodName) prog_39_method_1_code 1 none,
    Jvm.Cond.code (⟨"java/lang/IllegalStateException", "<init>", "()V"⟩ : Jvm.MethodName) prog_26_method_1_code 1 none,
    Jvm.Cond.code (⟨"java/lang/RuntimeException", "<init>", "()V"⟩ : Jvm.MethodName) prog_33_method_1_code 1 none,
    Jvm.Cond.code (⟨"java/lang/Exception", "<init>", "()V"⟩ : Jvm.MethodName) prog_24_method_1_code 1 none,
    Jvm.Cond.code (⟨"Seattable", "remember", "()V"⟩ : Jvm.MethodName) prog_1_method_65_code 1 none,
    Jvm.Cond.code (⟨"Seattable$House", "take", "(LSeattable$House;)V"⟩ : Jvm.MethodName) prog_7_method_14_code 2 none,
    Jvm.Cond.code (⟨"Seattable$House", "copy", "([I[I)V"⟩ : Jvm.MethodName) prog_7_method_15_code 2 none,
    Jvm.Cond.code (⟨"Seattable", "addLand", "()I"⟩ : Jvm.MethodName) prog_1_method_3_code 2 (some .int),
    Jvm.Cond.code (⟨"Seattable", "setVotes", "(III)I"⟩ : Jvm.MethodName) prog_1_method_4_code 6 (some .int),
    Jvm.Cond.code (⟨"Seattable", "isParty", "(I)Z"⟩ : Jvm.MethodName) prog_1_method_56_code 2 (some .boolean),
    Jvm.Cond.code (⟨"Seattable", "isLand", "(I)Z"⟩ : Jvm.MethodName) prog_1_method_57_code 2 (some .boolean),
    Jvm.Cond.code (⟨"java/lang/IndexOutOfBoundsException", "<init>", "()V"⟩ : Jvm.MethodName) prog_27_method_1_code 1 none,
    Jvm.Cond.code (⟨"java/lang/IllegalArgumentException", "<init>", "()V"⟩ : Jvm.MethodName) prog_25_method_1_code 1 none,
    Jvm.Cond.code (⟨"Seattable", "setPeople", "(II)I"⟩ : Jvm.MethodName) prog_1_method_5_code 4 (some .int),
    Jvm.Cond.code (⟨"Seattable", "setBounds", "(ZIII)V"⟩ : Jvm.MethodName) prog_1_method_6_code 6 none,
    Jvm.Cond.code (⟨"Seattable", "isPartyOrLand", "(ZI)Z"⟩ : Jvm.MethodName) prog_1_method_58_code 3 (some .boolean),
    Jvm.Cond.code (⟨"Seattable", "setSum", "(ZII)I"⟩ : Jvm.MethodName) prog_1_method_7_code 6 (some .int),
    Jvm.Cond.code (⟨"Seattable", "setBar", "(II)V"⟩ : Jvm.MethodName) prog_1_method_8_code 3 none,
    Jvm.Cond.code (⟨"Seattable", "setPost", "(II)V"⟩ : Jvm.MethodName) prog_1_method_9_code 3 none,
    Jvm.Cond.code (⟨"Seattable", "type", "(JJJJJJ)I"⟩ : Jvm.MethodName) prog_1_method_10_code 14 (some .int),
    Jvm.Cond.code (⟨"Seattable$Script", "bytesIn", "(J)I"⟩ : Jvm.MethodName) prog_11_method_2_code 4 (some .int),
    Jvm.Cond.code (⟨"Seattable$Script", "append", "(J)V"⟩ : Jvm.MethodName) prog_11_method_3_code 5 none,
    Jvm.Cond.code (⟨"Seattable", "load", "()I"⟩ : Jvm.MethodName) prog_1_method_14_code 1 (some .int),
    Jvm.Cond.code (⟨"Seattable", "deal", "(IIII)I"⟩ : Jvm.MethodName) prog_1_method_15_code 5 (some .int),
    Jvm.Cond.code (⟨"Seattable$Dealer", "line", "(LSeattable$House;II)V"⟩ : Jvm.MethodName) prog_4_method_2_code 6 none,
    Jvm.Cond.code (⟨"Seattable$Dealer", "votesOf", "(LSeattable$House;III)J"⟩ : Jvm.MethodName) prog_4_method_3_code 7 (some .long),
    Jvm.Cond.code (⟨"Seattable$Dealer", "putBehindBar", "(II)V"⟩ : Jvm.MethodName) prog_4_method_4_code 6 none,
    Jvm.Cond.code (⟨"Seattable$Dealer", "sumOfClaims", "()J"⟩ : Jvm.MethodName) prog_4_method_5_code 4 (some .long)] := by
  first
  | rfl
  | simp only [tables_1_5, List.filter, sv_isCode]
theorem start2.codes_hold_5 : ∀ c ∈ tables_1_5.filter sv_isCode, c.before args0 about = true := by
  rw [codes_are_5]
  exact List.forall_mem_cons.mpr ⟨code86, List.forall_mem_cons.mpr ⟨code87, List.forall_mem_cons.mpr ⟨code88, List.forall_mem_cons.mpr ⟨code89, List.forall_mem_cons.mpr ⟨code90, List.forall_mem_cons.mpr ⟨code91, List.forall_mem_cons.mpr ⟨code92, List.forall_mem_cons.mpr ⟨code93, List.forall_mem_cons.mpr ⟨code94, List.forall_mem_cons.mpr ⟨code95, List.forall_mem_cons.mpr ⟨code96, List.forall_mem_cons.mpr ⟨code97, List.forall_mem_cons.mpr ⟨code98, List.forall_mem_cons.mpr ⟨code99, List.forall_mem_cons.mpr ⟨code100, List.forall_mem_cons.mpr ⟨code101, List.forall_mem_cons.mpr ⟨code102, List.forall_mem_cons.mpr ⟨code103, List.forall_mem_cons.mpr ⟨code104, List.forall_mem_cons.mpr ⟨code105, List.forall_mem_cons.mpr ⟨code106, List.forall_mem_cons.mpr ⟨code107, List.forall_mem_cons.mpr ⟨code108, List.forall_mem_cons.mpr ⟨code109, List.forall_mem_cons.mpr ⟨code110, List.forall_mem_cons.mpr ⟨code111, List.forall_mem_cons.mpr ⟨code112, List.forall_mem_cons.mpr ⟨code113, List.forall_mem_cons.mpr ⟨code114, List.forall_mem_cons.mpr ⟨code115, List.forall_mem_nil _⟩⟩⟩⟩⟩⟩⟩⟩⟩⟩⟩⟩⟩⟩⟩⟩⟩⟩⟩⟩⟩⟩⟩⟩⟩⟩⟩⟩⟩⟩
set_option maxRecDepth 16384 in
theorem start2.others_5_0 : (tables_1_5.take 40).all (fun c => sv_isCode c || c.before args0 about) = true := by decide +kernel
set_option maxRecDepth 16384 in
theorem start2.others_5_1 : ((tables_1_5.drop 40).take 40).all (fun c => sv_isCode c || c.before args0 about) = true := by decide +kernel

set_option maxRecDepth 16384 in
theorem start2.others_5_2 : (((tables_1_5.drop 40).drop 40).take 40).all (fun c => sv_isCode c || c.before args0 about) = true := by decide +kernel
set_option maxRecDepth 16384 in
theorem start2.others_5_3 : ((((tables_1_5.drop 40).drop 40).drop 40).take 40).all (fun c => sv_isCode c || c.before args0 about) = true := by decide +kernel

set_option maxRecDepth 16384 in
theorem start2.others_5_4 : (((((tables_1_5.drop 40).drop 40).drop 40).drop 40).take 32).all (fun c => sv_isCode c || c.before args0 about) = true := by decide +kernel
set_option maxRecDepth 16384 in
theorem start2.others_5_5 : ((((((tables_1_5.drop 40).drop 40).drop 40).drop 40).drop 32).take 38).all (fun c => sv_isCode c || c.before args0 about) = true := by decide +kernel

set_option maxRecDepth 16384 in
theorem start2.others_5_6 : ((((((tables_1_5.drop 40).drop 40).drop 40).drop 40).drop 32).drop 38).all (fun c => sv_isCode c || c.before args0 about) = true := by decide +kernel
theorem start2.others_hold_5 : tables_1_5.all (fun c => sv_isCode c || c.before args0 about) = true := sv_all_split _ 40 tables_1_5 others_5_0 (sv_all_split _ 40 (tables_1_5.drop 40) others_5_1 (sv_all_split _ 40 ((tables_1_5.drop 40).drop 40) others_5_2 (sv_all_split _ 40 (((tables_1_5.drop 40).drop 40).drop 40) others_5_3 (sv_all_split _ 32 ((((tables_1_5.drop 40).drop 40).drop 40).drop 40) others_5_4 (sv_all_split _ 38 (((((tables_1_5.drop 40).drop 40).drop 40).drop 40).drop 32) others_5_5 others_5_6)))))
theorem start2.words_5 : ∀ c ∈ tables_1_5, c.before args0 about = true := fun c h => sv_words others_hold_5 codes_hold_5 c h

theorem start2.code116 : (Jvm.Cond.code (⟨"Seattable$Dealer", "dealAll", "(II[I)I"⟩ : Jvm.MethodName) prog_4_method_7_code 8 (some .int)).before args0 about = true :=
  sv_hand_word (m := ⟨7, 6⟩) (by decide +kernel) rfl (by decide +kernel) (by decide +kernel)
theorem start2.code117 : (Jvm.Cond.code (⟨"Seattable$Dealer", "isDealt", "(II)Z"⟩ : Jvm.MethodName) prog_4_method_9_code 4 (some .boolean)).before args0 about = true :=
  sv_hand_word (m := ⟨7, 8⟩) (by decide +kernel) rfl (by decide +kernel) (by decide +kernel)
theorem start2.code118 : (Jvm.Cond.code (⟨"Seattable$Dealer", "isWithinBounds", "(I)Z"⟩ : Jvm.MethodName) prog_4_method_11_code 5 (some .boolean)).before args0 about = true :=
  sv_hand_word (m := ⟨7, 10⟩) (by decide +kernel) rfl (by decide +kernel) (by decide +kernel)
theorem start2.code119 : (Jvm.Cond.code (⟨"Seattable$Dealer", "dealWholes", "(I)V"⟩ : Jvm.MethodName) prog_4_method_17_code 7 none).before args0 about = true :=
  sv_hand_word (m := ⟨7, 16⟩) (by decide +kernel) rfl (by decide +kernel) (by decide +kernel)
theorem start2.code120 : (Jvm.Cond.code (⟨"Seattable$Dealer", "dealRests", "(I)V"⟩ : Jvm.MethodName) prog_4_method_18_code 4 none).before args0 about = true :=
  sv_hand_word (m := ⟨7, 17⟩) (by decide +kernel) rfl (by decide +kernel) (by decide +kernel)
theorem start2.code121 : (Jvm.Cond.code (⟨"Seattable$Dealer", "nextByRests", "(I)I"⟩ : Jvm.MethodName) prog_4_method_20_code 9 (some .int)).before args0 about = true :=
  sv_hand_word (m := ⟨7, 19⟩) (by decide +kernel) rfl (by decide +kernel) (by decide +kernel)
theorem start2.code122 : (Jvm.Cond.code (⟨"Seattable$Dealer", "bitOf", "(I)I"⟩ : Jvm.MethodName) prog_4_method_6_code 1 (some .int)).before args0 about = true :=
  sv_hand_word (m := ⟨7, 5⟩) (by decide +kernel) rfl (by decide +kernel) (by decide +kernel)
theorem start2.code123 : (Jvm.Cond.code (⟨"Seattable$Dealer", "isGroupGiven", "()Z"⟩ : Jvm.MethodName) prog_4_method_13_code 3 (some .boolean)).before args0 about = true :=
  sv_hand_word (m := ⟨7, 12⟩) (by decide +kernel) rfl (by decide +kernel) (by decide +kernel)
theorem start2.code124 : (Jvm.Cond.code (⟨"Seattable$Dealer", "dropRests", "(I)V"⟩ : Jvm.MethodName) prog_4_method_19_code 3 none).before args0 about = true :=
  sv_hand_word (m := ⟨7, 18⟩) (by decide +kernel) rfl (by decide +kernel) (by decide +kernel)
theorem start2.code125 : (Jvm.Cond.code (⟨"Seattable$Dealer", "dealLeast", "(I)V"⟩ : Jvm.MethodName) prog_4_method_10_code 3 none).before args0 about = true :=
  sv_hand_word (m := ⟨7, 9⟩) (by decide +kernel) rfl (by decide +kernel) (by decide +kernel)
theorem start2.code126 : (Jvm.Cond.code (⟨"Seattable$Dealer", "dealNext", "(I)V"⟩ : Jvm.MethodName) prog_4_method_12_code 3 none).before args0 about = true :=
  sv_hand_word (m := ⟨7, 11⟩) (by decide +kernel) rfl (by decide +kernel) (by decide +kernel)
theorem start2.code127 : (Jvm.Cond.code (⟨"Seattable$Dealer", "nextByQuotients", "(I)I"⟩ : Jvm.MethodName) prog_4_method_14_code 6 (some .int)).before args0 about = true :=
  sv_hand_word (m := ⟨7, 13⟩) (by decide +kernel) rfl (by decide +kernel) (by decide +kernel)
theorem start2.code128 : (Jvm.Cond.code (⟨"Seattable$Dealer", "quotientTop", "(II)J"⟩ : Jvm.MethodName) prog_4_method_15_code 3 (some .long)).before args0 about = true :=
  sv_hand_word (m := ⟨7, 14⟩) (by decide +kernel) rfl (by decide +kernel) (by decide +kernel)
theorem start2.code129 : (Jvm.Cond.code (⟨"Seattable$Dealer", "quotientBottom", "(II)J"⟩ : Jvm.MethodName) prog_4_method_16_code 5 (some .long)).before args0 about = true :=
  sv_hand_word (m := ⟨7, 15⟩) (by decide +kernel) rfl (by decide +kernel) (by decide +kernel)
theorem start2.code130 : (Jvm.Cond.code (⟨"java/lang/Long", "compare", "(JJ)I"⟩ : Jvm.MethodName) prog_30_method_42_code 4 (some .int)).before args0 about = true :=
  sv_hand_word (m := ⟨44, 0⟩) (by decide +kernel) rfl (by decide +kernel) (by decide +kernel)
theorem start2.code131 : (Jvm.Cond.code (⟨"Seattable$Dealer", "putFirst", "()V"⟩ : Jvm.MethodName) prog_4_method_8_code 4 none).before args0 about = true :=
  sv_hand_word (m := ⟨7, 7⟩) (by decide +kernel) rfl (by decide +kernel) (by decide +kernel)
theorem start2.code132 : (Jvm.Cond.code (⟨"Seattable", "seatAt", "(II)I"⟩ : Jvm.MethodName) prog_1_method_16_code 3 (some .int)).before args0 about = true :=
  sv_hand_word (m := ⟨2, 15⟩) (by decide +kernel) rfl (by decide +kernel) (by decide +kernel)
theorem start2.code133 : (Jvm.Cond.code (⟨"Seattable$House", "seatsDealt", "(II)I"⟩ : Jvm.MethodName) prog_7_method_11_code 3 (some .int)).before args0 about = true :=
  sv_hand_word (m := ⟨3, 10⟩) (by decide +kernel) rfl (by decide +kernel) (by decide +kernel)
theorem start2.code134 : (Jvm.Cond.code (⟨"Seattable", "quota", "(IIII)I"⟩ : Jvm.MethodName) prog_1_method_17_code 8 (some .int)).before args0 about = true :=
  sv_hand_word (m := ⟨2, 16⟩) (by decide +kernel) rfl (by decide +kernel) (by decide +kernel)
theorem start2.code135 : (Jvm.Cond.code (⟨"Seattable$Fraction", "tell", "(JJ)I"⟩ : Jvm.MethodName) prog_6_method_2_code 5 (some .int)).before args0 about = true :=
  sv_hand_word (m := ⟨5, 1⟩) (by decide +kernel) rfl (by decide +kernel) (by decide +kernel)
theorem start2.code136 : (Jvm.Cond.code (⟨"Seattable$Fraction", "settle", "()I"⟩ : Jvm.MethodName) prog_6_method_3_code 1 (some .int)).before args0 about = true :=
  sv_hand_word (m := ⟨5, 2⟩) (by decide +kernel) rfl (by decide +kernel) (by decide +kernel)
theorem start2.code137 : (Jvm.Cond.code (⟨"Seattable$Big", "isZero", "()Z"⟩ : Jvm.MethodName) prog_3_method_5_code 1 (some .boolean)).before args0 about = true :=
  sv_hand_word (m := ⟨6, 4⟩) (by decide +kernel) rfl (by decide +kernel) (by decide +kernel)
theorem start2.code138 : (Jvm.Cond.code (⟨"Seattable$Fraction", "findCommonDivisor", "()V"⟩ : Jvm.MethodName) prog_6_method_4_code 3 none).before args0 about = true :=
  sv_hand_word (m := ⟨5, 3⟩) (by decide +kernel) rfl (by decide +kernel) (by decide +kernel)
theorem start2.code139 : (Jvm.Cond.code (⟨"Seattable$Big", "isEven", "()Z"⟩ : Jvm.MethodName) prog_3_method_6_code 1 (some .boolean)).before args0 about = true :=
  sv_hand_word (m := ⟨6, 5⟩) (by decide +kernel) rfl (by decide +kernel) (by decide +kernel)
theorem start2.code140 : (Jvm.Cond.code (⟨"Seattable$Big", "halve", "()V"⟩ : Jvm.MethodName) prog_3_method_14_code 4 none).before args0 about = true :=
  sv_hand_word (m := ⟨6, 13⟩) (by decide +kernel) rfl (by decide +kernel) (by decide +kernel)
theorem start2.code141 : (Jvm.Cond.code (⟨"Seattable$Big", "minus", "(LSeattable$Big;)V"⟩ : Jvm.MethodName) prog_3_method_13_code 5 none).before args0 about = true :=
  sv_hand_word (m := ⟨6, 12⟩) (by decide +kernel) rfl (by decide +kernel) (by decide +kernel)
theorem start2.code142 : (Jvm.Cond.code (⟨"Seattable$Big", "isOne", "()Z"⟩ : Jvm.MethodName) prog_3_method_7_code 1 (some .boolean)).before args0 about = true :=
  sv_hand_word (m := ⟨6, 6⟩) (by decide +kernel) rfl (by decide +kernel) (by decide +kernel)
theorem start2.code143 : (Jvm.Cond.code (⟨"Seattable$Fraction", "divide", "(LSeattable$Big;)V"⟩ : Jvm.MethodName) prog_6_method_5_code 4 none).before args0 about = true :=
  sv_hand_word (m := ⟨5, 4⟩) (by decide +kernel) rfl (by decide +kernel) (by decide +kernel)
theorem start2.code144 : (Jvm.Cond.code (⟨"Seattable$Big", "push", "(I)V"⟩ : Jvm.MethodName) prog_3_method_15_code 2 none).before args0 about = true :=
  sv_hand_word (m := ⟨6, 14⟩) (by decide +kernel) rfl (by decide +kernel) (by decide +kernel)
theorem start2.code145 : (Jvm.Cond.code (⟨"Seattable$Fraction", "timesInRest", "()I"⟩ : Jvm.MethodName) prog_6_method_6_code 5 (some .int)).before args0 about = true :=
  sv_hand_word (m := ⟨5, 5⟩) (by decide +kernel) rfl (by decide +kernel) (by decide +kernel)
theorem start2.code146 : (Jvm.Cond.code (⟨"Seattable", "breaks", "(IIIII)I"⟩ : Jvm.MethodName) prog_1_method_18_code 6 (some .int)).before args0 about = true :=
  sv_hand_word (m := ⟨2, 17⟩) (by decide +kernel) rfl (by decide +kernel) (by decide +kernel)
theorem start2.code147 : (Jvm.Cond.code (⟨"Seattable$Dealer", "breachOfGrowth", "(II)I"⟩ : Jvm.MethodName) prog_4_method_23_code 7 (some .int)).before args0 about = true :=
  sv_hand_word (m := ⟨7, 22⟩) (by decide +kernel) rfl (by decide +kernel) (by decide +kernel)
theorem start2.code148 : (Jvm.Cond.code (⟨"Seattable$Dealer", "keepFirst", "()V"⟩ : Jvm.MethodName) prog_4_method_22_code 2 none).before args0 about = true :=
  sv_hand_word (m := ⟨7, 21⟩) (by decide +kernel) rfl (by decide +kernel) (by decide +kernel)
theorem start2.code149 : (Jvm.Cond.code (⟨"Seattable$Dealer", "isKept", "(II)Z"⟩ : Jvm.MethodName) prog_4_method_21_code 4 (some .boolean)).before args0 about = true :=
  sv_hand_word (m := ⟨7, 20⟩) (by decide +kernel) rfl (by decide +kernel) (by decide +kernel)
theorem start2.code150 : (Jvm.Cond.code (⟨"Seattable$Dealer", "breachOfJoining", "(II)I"⟩ : Jvm.MethodName) prog_4_method_24_code 10 (some .int)).before args0 about = true :=
  sv_hand_word (m := ⟨7, 23⟩) (by decide +kernel) rfl (by decide +kernel) (by decide +kernel)
theorem start2.code151 : (Jvm.Cond.code (⟨"Seattable$Dealer", "breachOfLeaving", "(II)I"⟩ : Jvm.MethodName) prog_4_method_25_code 8 (some .int)).before args0 about = true :=
  sv_hand_word (m := ⟨7, 24⟩) (by decide +kernel) rfl (by decide +kernel) (by decide +kernel)
theorem start2.code152 : (Jvm.Cond.code (⟨"Seattable$Dealer", "breachOfGaining", "(II)I"⟩ : Jvm.MethodName) prog_4_method_26_code 5 (some .int)).before args0 about = true :=
  sv_hand_word (m := ⟨7, 25⟩) (by decide +kernel) rfl (by decide +kernel) (by decide +kernel)
theorem start2.code153 : (Jvm.Cond.code (⟨"Seattable$Dealer", "isGainAgainst", "(IIII)Z"⟩ : Jvm.MethodName) prog_4_method_27_code 12 (some .boolean)).before args0 about = true :=
  sv_hand_word (m := ⟨7, 26⟩) (by decide +kernel) rfl (by decide +kernel) (by decide +kernel)
theorem start2.code154 : (Jvm.Cond.code (⟨"Seattable", "fill", "()I"⟩ : Jvm.MethodName) prog_1_method_19_code 1 (some .int)).before args0 about = true :=
  sv_hand_word (m := ⟨2, 18⟩) (by decide +kernel) rfl (by decide +kernel) (by decide +kernel)
theorem start2.code155 : (Jvm.Cond.code (⟨"Seattable$House", "sumOf", "(Z)I"⟩ : Jvm.MethodName) prog_7_method_10_code 5 (some .int)).before args0 about = true :=
  sv_hand_word (m := ⟨3, 9⟩) (by decide +kernel) rfl (by decide +kernel) (by decide +kernel)
theorem start2.code156 : (Jvm.Cond.code (⟨"Seattable$Filler", "fillAll", "(LSeattable$House;)V"⟩ : Jvm.MethodName) prog_5_method_2_code 3 none).before args0 about = true :=
  sv_hand_word (m := ⟨8, 1⟩) (by decide +kernel) rfl (by decide +kernel) (by decide +kernel)
theorem start2.code157 : (Jvm.Cond.code (⟨"Seattable$Filler", "isCut", "(LSeattable$House;)Z"⟩ : Jvm.MethodName) prog_5_method_3_code 10 (some .boolean)).before args0 about = true :=
  sv_hand_word (m := ⟨8, 2⟩) (by decide +kernel) rfl (by decide +kernel) (by decide +kernel)
theorem start2.code158 : (Jvm.Cond.code (⟨"Seattable$Filler", "putCut", "(LSeattable$House;IIIII)V"⟩ : Jvm.MethodName) prog_5_method_4_code 6 none).before args0 about = true :=
  sv_hand_word (m := ⟨8, 3⟩) (by decide +kernel) rfl (by decide +kernel) (by decide +kernel)
theorem start2.code159 : (Jvm.Cond.code (⟨"Seattable$Filler", "landsOf", "(LSeattable$House;I)I"⟩ : Jvm.MethodName) prog_5_method_5_code 5 (some .int)).before args0 about = true :=
  sv_hand_word (m := ⟨8, 4⟩) (by decide +kernel) rfl (by decide +kernel) (by decide +kernel)
theorem start2.code160 : (Jvm.Cond.code (⟨"Seattable$Filler", "sumOfSet", "(LSeattable$House;IZ)I"⟩ : Jvm.MethodName) prog_5_method_6_code 6 (some .int)).before args0 about = true :=
  sv_hand_word (m := ⟨8, 5⟩) (by decide +kernel) rfl (by decide +kernel) (by decide +kernel)
theorem start2.code161 : (Jvm.Cond.code (⟨"Seattable$Filler", "fillFirst", "(LSeattable$House;)V"⟩ : Jvm.MethodName) prog_5_method_7_code 5 none).before args0 about = true :=
  sv_hand_word (m := ⟨8, 6⟩) (by decide +kernel) rfl (by decide +kernel) (by decide +kernel)
theorem start2.code162 : (Jvm.Cond.code (⟨"Seattable$Filler", "isThere", "(I)Z"⟩ : Jvm.MethodName) prog_5_method_8_code 2 (some .boolean)).before args0 about = true :=
  sv_hand_word (m := ⟨8, 7⟩) (by decide +kernel) rfl (by decide +kernel) (by decide +kernel)
theorem start2.code163 : (Jvm.Cond.code (⟨"Seattable$Filler", "giveSeat", "()V"⟩ : Jvm.MethodName) prog_5_method_9_code 5 none).before args0 about = true :=
  sv_hand_word (m := ⟨8, 8⟩) (by decide +kernel) rfl (by decide +kernel) (by decide +kernel)
theorem start2.code164 : (Jvm.Cond.code (⟨"Seattable$Filler", "cellBetween", "(II)I"⟩ : Jvm.MethodName) prog_5_method_10_code 4 (some .int)).before args0 about = true :=
  sv_hand_word (m := ⟨8, 9⟩) (by decide +kernel) rfl (by decide +kernel) (by decide +kernel)
theorem start2.code165 : (Jvm.Cond.code (⟨"Seattable$Filler", "findTies", "()V"⟩ : Jvm.MethodName) prog_5_method_19_code 4 none).before args0 about = true :=
  sv_hand_word (m := ⟨8, 18⟩) (by decide +kernel) rfl (by decide +kernel) (by decide +kernel)
theorem start2.code166 : (Jvm.Cond.code (⟨"Seattable$Filler", "lowOfTie", "(III)I"⟩ : Jvm.MethodName) prog_5_method_20_code 4 (some .int)).before args0 about = true :=
  sv_hand_word (m := ⟨8, 19⟩) (by decide +kernel) rfl (by decide +kernel) (by decide +kernel)
theorem start2.code167 : (Jvm.Cond.code (⟨"Seattable$Filler", "tellAll", "(LSeattable$House;)V"⟩ : Jvm.MethodName) prog_5_method_21_code 5 none).before args0 about = true :=
  sv_hand_word (m := ⟨8, 20⟩) (by decide +kernel) rfl (by decide +kernel) (by decide +kernel)
theorem start2.code168 : (Jvm.Cond.code (⟨"Seattable$Filler", "raiseFrom", "(I)V"⟩ : Jvm.MethodName) prog_5_method_22_code 3 none).before args0 about = true :=
  sv_hand_word (m := ⟨8, 21⟩) (by decide +kernel) rfl (by decide +kernel) (by decide +kernel)
theorem start2.code169 : (Jvm.Cond.code (⟨"Seattable$Filler", "isLow", "(I)Z"⟩ : Jvm.MethodName) prog_5_method_24_code 2 (some .boolean)).before args0 about = true :=
  sv_hand_word (m := ⟨8, 23⟩) (by decide +kernel) rfl (by decide +kernel) (by decide +kernel)
theorem start2.code170 : (Jvm.Cond.code (⟨"Seattable$Filler", "isTurned", "(I)Z"⟩ : Jvm.MethodName) prog_5_method_26_code 10 (some .boolean)).before args0 about = true :=
  sv_hand_word (m := ⟨8, 25⟩) (by decide +kernel) rfl (by decide +kernel) (by decide +kernel)

set_option maxRecDepth 16384 in
theorem start2.codes_are_6 : tables_1_6.filter sv_isCode = [Jvm.Cond.code (⟨"Seattable$Dealer", "dealAll", "(II[I)I"⟩ : Jvm.MethodName) prog_4_method_7_code 8 (some .int),
    Jvm.Cond.code (⟨"Seattable$Dealer", "isDealt", "(II)Z"⟩ : Jvm.MethodName) prog_4_method_9_code 4 (some .boolean),
    Jvm.Cond.code (⟨"Seattable$Dealer", "isWithinBounds", "(I)Z"⟩ : Jvm.MethodName) prog_4_method_11_code 5 (some .boolean),
    Jvm.Cond.code (⟨"Seattable$Dealer", "dealWholes", "(I)V"⟩ : Jvm.MethodName) prog_4_method_17_code 7 none,
    Jvm.Cond.code (⟨"Seattable$Dealer", "dealRests", "(I)V"⟩ : Jvm.MethodName) prog_4_method_18_code 4 none,
    Jvm.Cond.code (⟨"Seattable$Dealer", "nextByRests", "(I)I"⟩ : Jvm.MethodName) prog_4_method_20_code 9 (some .int),
    Jvm.Cond.code (⟨"Seattable$Dealer", "bitOf", "(I)I"⟩ : Jvm.MethodName) prog_4_method_6_code 1 (some .int),
    Jvm.Cond.code (⟨"Seattable$Dealer", "isGroupGiven", "()Z"⟩ : Jvm.MethodName) prog_4_method_13_code 3 (some .boolean),
    Jvm.Cond.code (⟨"Seattable$Dealer", "dropRests", "(I)V"⟩ : Jvm.MethodName) prog_4_method_19_code 3 none,
    Jvm.Cond.code (⟨"Seattable$Dealer", "dealLeast", "(I)V"⟩ : Jvm.MethodName) prog_4_method_10_code 3 none,
    Jvm.Cond.code (⟨"Seattable$Dealer", "dealNext", "(I)V"⟩ : Jvm.MethodName) prog_4_method_12_code 3 none,
    Jvm.Cond.code (⟨"Seattable$Dealer", "nextByQuotients", "(I)I"⟩ : Jvm.MethodName) prog_4_method_14_code 6 (some .int),
    Jvm.Cond.code (⟨"Seattable$Dealer", "quotientTop", "(II)J"⟩ : Jvm.MethodName) prog_4_method_15_code 3 (some .long),
    Jvm.Cond.code (⟨"Seattable$Dealer", "quotientBottom", "(II)J"⟩ : Jvm.MethodName) prog_4_method_16_code 5 (some .long),
    Jvm.Cond.code (⟨"java/lang/Long", "compare", "(JJ)I"⟩ : Jvm.MethodName) prog_30_method_42_code 4 (some .int),
    Jvm.Cond.code (⟨"Seattable$Dealer", "putFirst", "()V"⟩ : Jvm.MethodName) prog_4_method_8_code 4 none,
    Jvm.Cond.code (⟨"Seattable", "seatAt", "(II)I"⟩ : Jvm.MethodName) prog_1_method_16_code 3 (some .int),
    Jvm.Cond.code (⟨"Seattable$House", "seatsDealt", "(II)I"⟩ : Jvm.MethodName) prog_7_method_11_code 3 (some .int),
    Jvm.Cond.code (⟨"Seattable", "quota", "(IIII)I"⟩ : Jvm.MethodName) prog_1_method_17_code 8 (some .int),
    Jvm.Cond.code (⟨"Seattable$Fraction", "tell", "(JJ)I"⟩ : Jvm.MethodName) prog_6_method_2_code 5 (some .int),
    Jvm.Cond.code (⟨"Seattable$Fraction", "settle", "()I"⟩ : Jvm.MethodName) prog_6_method_3_code 1 (some .int),
    Jvm.Cond.code (⟨"Seattable$Big", "isZero", "()Z"⟩ : Jvm.MethodName) prog_3_method_5_code 1 (some .boolean),
    Jvm.Cond.code (⟨"Seattable$Fraction", "findCommonDivisor", "()V"⟩ : Jvm.MethodName) prog_6_method_4_code 3 none,
    Jvm.Cond.code (⟨"Seattable$Big", "isEven", "()Z"⟩ : Jvm.MethodName) prog_3_method_6_code 1 (some .boolean),
    Jvm.Cond.code (⟨"Seattable$Big", "halve", "()V"⟩ : Jvm.MethodName) prog_3_method_14_code 4 none,
    Jvm.Cond.code (⟨"Seattable$Big", "minus", "(LSeattable$Big;)V"⟩ : Jvm.MethodName) prog_3_method_13_code 5 none,
    Jvm.Cond.code (⟨"Seattable$Big", "isOne", "()Z"⟩ : Jvm.MethodName) prog_3_method_7_code 1 (some .boolean),
    Jvm.Cond.code (⟨"Seattable$Fraction", "divide", "(LSeattable$Big;)V"⟩ : Jvm.MethodName) prog_6_method_5_code 4 none,
    Jvm.Cond.code (⟨"Seattable$Big", "push", "(I)V"⟩ : Jvm.MethodName) prog_3_method_15_code 2 none,
    Jvm.Cond.code (⟨"Seattable$Fraction", "timesInRest", "()I"⟩ : Jvm.MethodName) prog_6_method_6_code 5 (some .int),
    Jvm.Cond.code (⟨"Seattable", "breaks", "(IIIII)I"⟩ : Jvm.MethodName) prog_1_method_18_code 6 (some .int),
    Jvm.Cond.code (⟨"Seattable$Dealer", "breachOfGrowth", "(II)I"⟩ : Jvm.MethodName) prog_4_method_23_code 7 (some .int),
    Jvm.Cond.code (⟨"Seattable$Dealer", "keepFirst", "()V"⟩ : Jvm.MethodName) prog_4_method_22_code 2 none,
    Jvm.Cond.code (⟨"Seattable$Dealer", "isKept", "(II)Z"⟩ : Jvm.MethodName) prog_4_method_21_code 4 (some .boolean),
    Jvm.Cond.code (⟨"Seattable$Dealer", "breachOfJoining", "(II)I"⟩ : Jvm.MethodName) prog_4_method_24_code 10 (some .int),
    Jvm.Cond.code (⟨"Seattable$Dealer", "breachOfLeaving", "(II)I"⟩ : Jvm.MethodName) prog_4_method_25_code 8 (some .int),
    Jvm.Cond.code (⟨"Seattable$Dealer", "breachOfGaining", "(II)I"⟩ : Jvm.MethodName) prog_4_method_26_code 5 (some .int),
    Jvm.Cond.code (⟨"Seattable$Dealer", "isGainAgainst", "(IIII)Z"⟩ : Jvm.MethodName) prog_4_method_27_code 12 (some .boolean),
    Jvm.Cond.code (⟨"Seattable", "fill", "()I"⟩ : Jvm.MethodName) prog_1_method_19_code 1 (some .int),
    Jvm.Cond.code (⟨"Seattable$House", "sumOf", "(Z)I"⟩ : Jvm.MethodName) prog_7_method_10_code 5 (some .int),
    Jvm.Cond.code (⟨"Seattable$Filler", "fillAll", "(LSeattable$House;)V"⟩ : Jvm.MethodName) prog_5_method_2_code 3 none,
    Jvm.Cond.code (⟨"Seattable$Filler", "isCut", "(LSeattable$House;)Z"⟩ : Jvm.MethodName) prog_5_method_3_code 10 (some .boolean),
    Jvm.Cond.code (⟨"Seattable$Filler", "putCut", "(LSeattable$House;IIIII)V"⟩ : Jvm.MethodName) prog_5_method_4_code 6 none,
    Jvm.Cond.code (⟨"Seattable$Filler", "landsOf", "(LSeattable$House;I)I"⟩ : Jvm.MethodName) prog_5_method_5_code 5 (some .int),
    Jvm.Cond.code (⟨"Seattable$Filler", "sumOfSet", "(LSeattable$House;IZ)I"⟩ : Jvm.MethodName) prog_5_method_6_code 6 (some .int),
    Jvm.Cond.code (⟨"Seattable$Filler", "fillFirst", "(LSeattable$House;)V"⟩ : Jvm.MethodName) prog_5_method_7_code 5 none,
    Jvm.Cond.code (⟨"Seattable$Filler", "isThere", "(I)Z"⟩ : Jvm.MethodName) prog_5_method_8_code 2 (some .boolean),
    Jvm.Cond.code (⟨"Seattable$Filler", "giveSeat", "()V"⟩ : Jvm.MethodName) prog_5_method_9_code 5 none,
    Jvm.Cond.code (⟨"Seattable$Filler", "cellBetween", "(II)I"⟩ : Jvm.MethodName) prog_5_method_10_code 4 (some .int),
    Jvm.Cond.code (⟨"Seattable$Filler", "findTies", "()V"⟩ : Jvm.MethodName) prog_5_method_19_code 4 none,
    Jvm.Cond.code (⟨"Seattable$Filler", "lowOfTie", "(III)I"⟩ : Jvm.MethodName) prog_5_method_20_code 4 (some .int),
    Jvm.Cond.code (⟨"Seattable$Filler", "tellAll", "(LSeattable$House;)V"⟩ : Jvm.MethodName) prog_5_method_21_code 5 none,
    Jvm.Cond.code (⟨"Seattable$Filler", "raiseFrom", "(I)V"⟩ : Jvm.MethodName) prog_5_method_22_code 3 none,
    Jvm.Cond.code (⟨"Seattable$Filler", "isLow", "(I)Z"⟩ : Jvm.MethodName) prog_5_method_24_code 2 (some .boolean),
    Jvm.Cond.code (⟨"Seattable$Filler", "isTurned", "(I)Z"⟩ : Jvm.MethodName) prog_5_method_26_code 10 (some .boolean)] := by
  first
  | rfl
  | simp only [tables_1_6, List.filter, sv_isCode]
theorem start2.codes_hold_6 : ∀ c ∈ tables_1_6.filter sv_isCode, c.before args0 about = true := by
  rw [codes_are_6]
  exact List.forall_mem_cons.mpr ⟨code116, List.forall_mem_cons.mpr ⟨code117, List.forall_mem_cons.mpr ⟨code118, List.forall_mem_cons.mpr ⟨code119, List.forall_mem_cons.mpr ⟨code120, List.forall_mem_cons.mpr ⟨code121, List.forall_mem_cons.mpr ⟨code122, List.forall_mem_cons.mpr ⟨code123, List.forall_mem_cons.mpr ⟨code124, List.forall_mem_cons.mpr ⟨code125, List.forall_mem_cons.mpr ⟨code126, List.forall_mem_cons.mpr ⟨code127, List.forall_mem_cons.mpr ⟨code128, List.forall_mem_cons.mpr ⟨code129, List.forall_mem_cons.mpr ⟨code130, List.forall_mem_cons.mpr ⟨code131, List.forall_mem_cons.mpr ⟨code132, List.forall_mem_cons.mpr ⟨code133, List.forall_mem_cons.mpr ⟨code134, List.forall_mem_cons.mpr ⟨code135, List.forall_mem_cons.mpr ⟨code136, List.forall_mem_cons.mpr ⟨code137, List.forall_mem_cons.mpr ⟨code138, List.forall_mem_cons.mpr ⟨code139, List.forall_mem_cons.mpr ⟨code140, List.forall_mem_cons.mpr ⟨code141, List.forall_mem_cons.mpr ⟨code142, List.forall_mem_cons.mpr ⟨code143, List.forall_mem_cons.mpr ⟨code144, List.forall_mem_cons.mpr ⟨code145, List.forall_mem_cons.mpr ⟨code146, List.forall_mem_cons.mpr ⟨code147, List.forall_mem_cons.mpr ⟨code148, List.forall_mem_cons.mpr ⟨code149, List.forall_mem_cons.mpr ⟨code150, List.forall_mem_cons.mpr ⟨code151, List.forall_mem_cons.mpr ⟨code152, List.forall_mem_cons.mpr ⟨code153, List.forall_mem_cons.mpr ⟨code154, List.forall_mem_cons.mpr ⟨code155, List.forall_mem_cons.mpr ⟨code156, List.forall_mem_cons.mpr ⟨code157, List.forall_mem_cons.mpr ⟨code158, List.forall_mem_cons.mpr ⟨code159, List.forall_mem_cons.mpr ⟨code160, List.forall_mem_cons.mpr ⟨code161, List.forall_mem_cons.mpr ⟨code162, List.forall_mem_cons.mpr ⟨code163, List.forall_mem_cons.mpr ⟨code164, List.forall_mem_cons.mpr ⟨code165, List.forall_mem_cons.mpr ⟨code166, List.forall_mem_cons.mpr ⟨code167, List.forall_mem_cons.mpr ⟨code168, List.forall_mem_cons.mpr ⟨code169, List.forall_mem_cons.mpr ⟨code170, List.forall_mem_nil _⟩⟩⟩⟩⟩⟩⟩⟩⟩⟩⟩⟩⟩⟩⟩⟩⟩⟩⟩⟩⟩⟩⟩⟩⟩⟩⟩⟩⟩⟩⟩⟩⟩⟩⟩⟩⟩⟩⟩⟩⟩⟩⟩⟩⟩⟩⟩⟩⟩⟩⟩⟩⟩⟩⟩
set_option maxRecDepth 16384 in
theorem start2.others_6_0 : (tables_1_6.take 40).all (fun c => sv_isCode c || c.before args0 about) = true := by decide +kernel
set_option maxRecDepth 16384 in
theorem start2.others_6_1 : ((tables_1_6.drop 40).take 40).all (fun c => sv_isCode c || c.before args0 about) = true := by decide +kernel

set_option maxRecDepth 16384 in
theorem start2.others_6_2 : (((tables_1_6.drop 40).drop 40).take 40).all (fun c => sv_isCode c || c.before args0 about) = true := by decide +kernel
set_option maxRecDepth 16384 in
theorem start2.others_6_3 : ((((tables_1_6.drop 40).drop 40).drop 40).take 40).all (fun c => sv_isCode c || c.before args0 about) = true := by decide +kernel

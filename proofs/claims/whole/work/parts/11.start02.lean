set_option maxRecDepth 16384

set_option maxRecDepth 16384 in
theorem start2.codes_are_3 : tables_1_3.filter sv_isCode = [Jvm.Cond.code (⟨"Seattable$Maps", "<init>", "()V"⟩ : Jvm.MethodName) prog_8_method_1_code 1 none,
    Jvm.Cond.code (⟨"Seattable$Panels", "<init>", "()V"⟩ : Jvm.MethodName) prog_9_method_1_code 1 none,
    Jvm.Cond.code (⟨"Seattable$Weights", "<init>", "()V"⟩ : Jvm.MethodName) prog_12_method_1_code 1 none,
    Jvm.Cond.code (⟨"Seattable", "clearText", "()I"⟩ : Jvm.MethodName) prog_1_method_11_code 2 (some .int),
    Jvm.Cond.code (⟨"Seattable", "errorKind", "()I"⟩ : Jvm.MethodName) prog_1_method_12_code 1 (some .int),
    Jvm.Cond.code (⟨"Seattable$Script", "read", "(LSeattable$House;Z)V"⟩ : Jvm.MethodName) prog_11_method_4_code 5 none,
    Jvm.Cond.code (⟨"Seattable$House", "parties", "()I"⟩ : Jvm.MethodName) prog_7_method_2_code 1 (some .int),
    Jvm.Cond.code (⟨"Seattable$House", "lands", "()I"⟩ : Jvm.MethodName) prog_7_method_3_code 1 (some .int),
    Jvm.Cond.code (⟨"Seattable$Script", "next", "()V"⟩ : Jvm.MethodName) prog_11_method_10_code 2 none,
    Jvm.Cond.code (⟨"Seattable$Script", "signAhead", "()I"⟩ : Jvm.MethodName) prog_11_method_9_code 1 (some .int),
    Jvm.Cond.code (⟨"Seattable$Script", "nextWord", "()V"⟩ : Jvm.MethodName) prog_11_method_11_code 1 none,
    Jvm.Cond.code (⟨"Seattable$Script", "isWord", "(Ljava/lang/String;)Z"⟩ : Jvm.MethodName) prog_11_method_12_code 3 (some .boolean),
    Jvm.Cond.code (⟨"java/lang/String", "length", "()I"⟩ : Jvm.MethodName) prog_34_method_54_code 1 (some .int),
    Jvm.Cond.code (⟨"java/lang/String", "coder", "()B"⟩ : Jvm.MethodName) prog_34_method_152_code 1 (some .byte),
    Jvm.Cond.code (⟨"java/lang/String", "charAt", "(I)C"⟩ : Jvm.MethodName) prog_34_method_56_code 2 (some .char),
    Jvm.Cond.code (⟨"java/lang/String", "isLatin1", "()Z"⟩ : Jvm.MethodName) prog_34_method_154_code 1 (some .boolean),
    Jvm.Cond.code (⟨"java/lang/StringLatin1", "charAt", "([BI)C"⟩ : Jvm.MethodName) prog_36_method_2_code 2 (some .char),
    Jvm.Cond.code (⟨"java/lang/String", "checkIndex", "(II)V"⟩ : Jvm.MethodName) prog_34_method_155_code 2 none,
    Jvm.Cond.code (⟨"jdk/internal/util/Preconditions", "checkIndex", "(IILjava/util/function/BiFunction;)I"⟩ : Jvm.MethodName) prog_53_method_11_code 3 (some .int),
    Jvm.Cond.code (⟨"java/lang/StringUTF16", "charAt", "([BI)C"⟩ : Jvm.MethodName) prog_37_method_83_code 2 (some .char),
    Jvm.Cond.code (⟨"java/lang/StringUTF16", "checkIndex", "(I[B)V"⟩ : Jvm.MethodName) prog_37_method_91_code 2 none] := by
  first
  | rfl
  | simp only [tables_1_3, List.filter, sv_isCode]
theorem start2.codes_hold_3 : ∀ c ∈ tables_1_3.filter sv_isCode, c.before args0 about = true := by
  rw [codes_are_3]
  exact List.forall_mem_cons.mpr ⟨code11, List.forall_mem_cons.mpr ⟨code12, List.forall_mem_cons.mpr ⟨code13, List.forall_mem_cons.mpr ⟨code14, List.forall_mem_cons.mpr ⟨code15, List.forall_mem_cons.mpr ⟨code16, List.forall_mem_cons.mpr ⟨code17, List.forall_mem_cons.mpr ⟨code18, List.forall_mem_cons.mpr ⟨code19, List.forall_mem_cons.mpr ⟨code20, List.forall_mem_cons.mpr ⟨code21, List.forall_mem_cons.mpr ⟨code22, List.forall_mem_cons.mpr ⟨code23, List.forall_mem_cons.mpr ⟨code24, List.forall_mem_cons.mpr ⟨code25, List.forall_mem_cons.mpr ⟨code26, List.forall_mem_cons.mpr ⟨code27, List.forall_mem_cons.mpr ⟨code28, List.forall_mem_cons.mpr ⟨code29, List.forall_mem_cons.mpr ⟨code30, List.forall_mem_cons.mpr ⟨code31, List.forall_mem_nil _⟩⟩⟩⟩⟩⟩⟩⟩⟩⟩⟩⟩⟩⟩⟩⟩⟩⟩⟩⟩⟩
set_option maxRecDepth 16384 in
theorem start2.others_3_0 : (tables_1_3.take 40).all (fun c => sv_isCode c || c.before args0 about) = true := by decide +kernel
set_option maxRecDepth 16384 in
theorem start2.others_3_1 : ((tables_1_3.drop 40).take 40).all (fun c => sv_isCode c || c.before args0 about) = true := by decide +kernel

set_option maxRecDepth 16384 in
theorem start2.others_3_2 : (((tables_1_3.drop 40).drop 40).take 40).all (fun c => sv_isCode c || c.before args0 about) = true := by decide +kernel
set_option maxRecDepth 16384 in
theorem start2.others_3_3 : ((((tables_1_3.drop 40).drop 40).drop 40).take 40).all (fun c => sv_isCode c || c.before args0 about) = true := by decide +kernel

set_option maxRecDepth 16384 in
theorem start2.others_3_4 : (((((tables_1_3.drop 40).drop 40).drop 40).drop 40).take 40).all (fun c => sv_isCode c || c.before args0 about) = true := by decide +kernel
set_option maxRecDepth 16384 in
theorem start2.others_3_5 : ((((((tables_1_3.drop 40).drop 40).drop 40).drop 40).drop 40).take 15).all (fun c => sv_isCode c || c.before args0 about) = true := by decide +kernel

set_option maxRecDepth 16384 in
theorem start2.others_3_6 : (((((((tables_1_3.drop 40).drop 40).drop 40).drop 40).drop 40).drop 15).take 13).all (fun c => sv_isCode c || c.before args0 about) = true := by decide +kernel
set_option maxRecDepth 16384 in
theorem start2.others_3_7 : (((((((tables_1_3.drop 40).drop 40).drop 40).drop 40).drop 40).drop 15).drop 13).all (fun c => sv_isCode c || c.before args0 about) = true := by decide +kernel
theorem start2.others_hold_3 : tables_1_3.all (fun c => sv_isCode c || c.before args0 about) = true := sv_all_split _ 40 tables_1_3 others_3_0 (sv_all_split _ 40 (tables_1_3.drop 40) others_3_1 (sv_all_split _ 40 ((tables_1_3.drop 40).drop 40) others_3_2 (sv_all_split _ 40 (((tables_1_3.drop 40).drop 40).drop 40) others_3_3 (sv_all_split _ 40 ((((tables_1_3.drop 40).drop 40).drop 40).drop 40) others_3_4 (sv_all_split _ 15 (((((tables_1_3.drop 40).drop 40).drop 40).drop 40).drop 40) others_3_5 (sv_all_split _ 13 ((((((tables_1_3.drop 40).drop 40).drop 40).drop 40).drop 40).drop 15) others_3_6 others_3_7))))))
theorem start2.words_3 : ∀ c ∈ tables_1_3, c.before args0 about = true := fun c h => sv_words others_hold_3 codes_hold_3 c h

theorem start2.code32 : (Jvm.Cond.code (⟨"java/lang/StringUTF16", "length", "([B)I"⟩ : Jvm.MethodName) prog_37_method_6_code 1 (some .int)).before args0 about = true :=
  sv_hand_word (m := ⟨23, 4⟩) (by decide +kernel) rfl (by decide +kernel) (by decide +kernel)
theorem start2.code33 : (Jvm.Cond.code (⟨"java/lang/StringUTF16", "getChar", "([BI)C"⟩ : Jvm.MethodName) prog_37_method_5_code 2 (some .char)).before args0 about = true :=
  sv_hand_word (m := ⟨23, 3⟩) (by decide +kernel) rfl (by decide +kernel) (by decide +kernel)
theorem start2.code34 : (Jvm.Cond.code (⟨"Seattable$Script", "nextNumber", "()V"⟩ : Jvm.MethodName) prog_11_method_13_code 1 none).before args0 about = true :=
  sv_hand_word (m := ⟨4, 12⟩) (by decide +kernel) rfl (by decide +kernel) (by decide +kernel)
theorem start2.code35 : (Jvm.Cond.code (⟨"Seattable$Script", "readStatement", "(I)V"⟩ : Jvm.MethodName) prog_11_method_5_code 2 none).before args0 about = true :=
  sv_hand_word (m := ⟨4, 4⟩) (by decide +kernel) rfl (by decide +kernel) (by decide +kernel)
theorem start2.code36 : (Jvm.Cond.code (⟨"Seattable$Script", "expect", "(III)V"⟩ : Jvm.MethodName) prog_11_method_6_code 4 none).before args0 about = true :=
  sv_hand_word (m := ⟨4, 5⟩) (by decide +kernel) rfl (by decide +kernel) (by decide +kernel)
theorem start2.code37 : (Jvm.Cond.code (⟨"Seattable$Script", "fail", "(I)V"⟩ : Jvm.MethodName) prog_11_method_7_code 2 none).before args0 about = true :=
  sv_hand_word (m := ⟨4, 6⟩) (by decide +kernel) rfl (by decide +kernel) (by decide +kernel)
theorem start2.code38 : (Jvm.Cond.code (⟨"Seattable", "isShare", "(III)Z"⟩ : Jvm.MethodName) prog_1_method_55_code 3 (some .boolean)).before args0 about = true :=
  sv_hand_word (m := ⟨2, 54⟩) (by decide +kernel) rfl (by decide +kernel) (by decide +kernel)
theorem start2.code39 : (Jvm.Cond.code (⟨"Seattable", "isWithin", "(III)Z"⟩ : Jvm.MethodName) prog_1_method_54_code 3 (some .boolean)).before args0 about = true :=
  sv_hand_word (m := ⟨2, 53⟩) (by decide +kernel) rfl (by decide +kernel) (by decide +kernel)
theorem start2.code40 : (Jvm.Cond.code (⟨"Seattable$Script", "act", "(ILSeattable$House;)V"⟩ : Jvm.MethodName) prog_11_method_8_code 3 none).before args0 about = true :=
  sv_hand_word (m := ⟨4, 7⟩) (by decide +kernel) rfl (by decide +kernel) (by decide +kernel)
theorem start2.code41 : (Jvm.Cond.code (⟨"Seattable", "cellOf", "(II)I"⟩ : Jvm.MethodName) prog_1_method_63_code 2 (some .int)).before args0 about = true :=
  sv_hand_word (m := ⟨2, 62⟩) (by decide +kernel) rfl (by decide +kernel) (by decide +kernel)
theorem start2.code42 : (Jvm.Cond.code (⟨"Seattable", "nodeOf", "(ZI)I"⟩ : Jvm.MethodName) prog_1_method_64_code 2 (some .int)).before args0 about = true :=
  sv_hand_word (m := ⟨2, 63⟩) (by decide +kernel) rfl (by decide +kernel) (by decide +kernel)
theorem start2.code43 : (Jvm.Cond.code (⟨"Seattable", "errorPlace", "()I"⟩ : Jvm.MethodName) prog_1_method_13_code 1 (some .int)).before args0 about = true :=
  sv_hand_word (m := ⟨2, 12⟩) (by decide +kernel) rfl (by decide +kernel) (by decide +kernel)
theorem start2.code44 : (Jvm.Cond.code (⟨"Seattable", "otherwise", "()I"⟩ : Jvm.MethodName) prog_1_method_43_code 1 (some .int)).before args0 about = true :=
  sv_hand_word (m := ⟨2, 42⟩) (by decide +kernel) rfl (by decide +kernel) (by decide +kernel)
theorem start2.code45 : (Jvm.Cond.code (⟨"Seattable$Weights", "look", "(LSeattable$House;)V"⟩ : Jvm.MethodName) prog_12_method_2_code 4 none).before args0 about = true :=
  sv_hand_word (m := ⟨13, 1⟩) (by decide +kernel) rfl (by decide +kernel) (by decide +kernel)
theorem start2.code46 : (Jvm.Cond.code (⟨"Seattable$House", "players", "()I"⟩ : Jvm.MethodName) prog_7_method_8_code 1 (some .int)).before args0 about = true :=
  sv_hand_word (m := ⟨3, 7⟩) (by decide +kernel) rfl (by decide +kernel) (by decide +kernel)
theorem start2.code47 : (Jvm.Cond.code (⟨"Seattable$Weights", "weightOf", "([II)I"⟩ : Jvm.MethodName) prog_12_method_3_code 5 (some .int)).before args0 about = true :=
  sv_hand_word (m := ⟨13, 2⟩) (by decide +kernel) rfl (by decide +kernel) (by decide +kernel)
theorem start2.code48 : (Jvm.Cond.code (⟨"Seattable$Weights", "leastSum", "()I"⟩ : Jvm.MethodName) prog_12_method_12_code 4 (some .int)).before args0 about = true :=
  sv_hand_word (m := ⟨13, 11⟩) (by decide +kernel) rfl (by decide +kernel) (by decide +kernel)
theorem start2.code49 : (Jvm.Cond.code (⟨"Seattable$Weights", "sortPlayers", "()V"⟩ : Jvm.MethodName) prog_12_method_13_code 3 none).before args0 about = true :=
  sv_hand_word (m := ⟨13, 12⟩) (by decide +kernel) rfl (by decide +kernel) (by decide +kernel)
theorem start2.code50 : (Jvm.Cond.code (⟨"Seattable$Weights", "findGaps", "()V"⟩ : Jvm.MethodName) prog_12_method_14_code 3 none).before args0 about = true :=
  sv_hand_word (m := ⟨13, 13⟩) (by decide +kernel) rfl (by decide +kernel) (by decide +kernel)
theorem start2.code51 : (Jvm.Cond.code (⟨"Seattable$Weights", "partOfPower", "(IZ)I"⟩ : Jvm.MethodName) prog_12_method_6_code 6 (some .int)).before args0 about = true :=
  sv_hand_word (m := ⟨13, 5⟩) (by decide +kernel) rfl (by decide +kernel) (by decide +kernel)
theorem start2.code52 : (Jvm.Cond.code (⟨"Seattable$Weights", "isSwing", "(II)Z"⟩ : Jvm.MethodName) prog_12_method_4_code 3 (some .boolean)).before args0 about = true :=
  sv_hand_word (m := ⟨13, 3⟩) (by decide +kernel) rfl (by decide +kernel) (by decide +kernel)
theorem start2.code53 : (Jvm.Cond.code (⟨"java/lang/Integer", "bitCount", "(I)I"⟩ : Jvm.MethodName) prog_28_method_49_code 1 (some .int)).before args0 about = true :=
  sv_hand_word (m := ⟨43, 3⟩) (by decide +kernel) rfl (by decide +kernel) (by decide +kernel)
theorem start2.code54 : (Jvm.Cond.code (⟨"Seattable$Weights", "factorial", "(I)I"⟩ : Jvm.MethodName) prog_12_method_5_code 3 (some .int)).before args0 about = true :=
  sv_hand_word (m := ⟨13, 4⟩) (by decide +kernel) rfl (by decide +kernel) (by decide +kernel)
theorem start2.code55 : (Jvm.Cond.code (⟨"Seattable$Weights", "isWorthMore", "(II)Z"⟩ : Jvm.MethodName) prog_12_method_15_code 5 (some .boolean)).before args0 about = true :=
  sv_hand_word (m := ⟨13, 14⟩) (by decide +kernel) rfl (by decide +kernel) (by decide +kernel)
theorem start2.code56 : (Jvm.Cond.code (⟨"Seattable$Weights", "isFound", "(LSeattable$Weights;III)Z"⟩ : Jvm.MethodName) prog_12_method_16_code 6 (some .boolean)).before args0 about = true :=
  sv_hand_word (m := ⟨13, 15⟩) (by decide +kernel) rfl (by decide +kernel) (by decide +kernel)
theorem start2.code57 : (Jvm.Cond.code (⟨"Seattable$Weights", "isToldOtherwise", "()Z"⟩ : Jvm.MethodName) prog_12_method_17_code 5 (some .boolean)).before args0 about = true :=
  sv_hand_word (m := ⟨13, 16⟩) (by decide +kernel) rfl (by decide +kernel) (by decide +kernel)
theorem start2.code58 : (Jvm.Cond.code (⟨"Seattable", "errors", "()I"⟩ : Jvm.MethodName) prog_1_method_53_code 3 (some .int)).before args0 about = true :=
  sv_hand_word (m := ⟨2, 52⟩) (by decide +kernel) rfl (by decide +kernel) (by decide +kernel)
theorem start2.code59 : (Jvm.Cond.code (⟨"Seattable$Filler", "findFactors", "(LSeattable$House;I)V"⟩ : Jvm.MethodName) prog_5_method_11_code 4 none).before args0 about = true :=
  sv_hand_word (m := ⟨8, 10⟩) (by decide +kernel) rfl (by decide +kernel) (by decide +kernel)
theorem start2.code60 : (Jvm.Cond.code (⟨"Seattable$Paths", "take", "(LSeattable$House;)V"⟩ : Jvm.MethodName) prog_10_method_2_code 3 none).before args0 about = true :=
  sv_hand_word (m := ⟨9, 1⟩) (by decide +kernel) rfl (by decide +kernel) (by decide +kernel)
theorem start2.code61 : (Jvm.Cond.code (⟨"Seattable$Filler", "findBlocks", "()V"⟩ : Jvm.MethodName) prog_5_method_12_code 3 none).before args0 about = true :=
  sv_hand_word (m := ⟨8, 11⟩) (by decide +kernel) rfl (by decide +kernel) (by decide +kernel)
theorem start2.code62 : (Jvm.Cond.code (⟨"Seattable$Paths", "clear", "()V"⟩ : Jvm.MethodName) prog_10_method_4_code 1 none).before args0 about = true :=
  sv_hand_word (m := ⟨9, 3⟩) (by decide +kernel) rfl (by decide +kernel) (by decide +kernel)
theorem start2.code63 : (Jvm.Cond.code (⟨"Seattable$Filler", "seatsOf", "(I)I"⟩ : Jvm.MethodName) prog_5_method_13_code 4 (some .int)).before args0 about = true :=
  sv_hand_word (m := ⟨8, 12⟩) (by decide +kernel) rfl (by decide +kernel) (by decide +kernel)
theorem start2.code64 : (Jvm.Cond.code (⟨"Seattable$Paths", "start", "(I)V"⟩ : Jvm.MethodName) prog_10_method_5_code 2 none).before args0 about = true :=
  sv_hand_word (m := ⟨9, 4⟩) (by decide +kernel) rfl (by decide +kernel) (by decide +kernel)
theorem start2.code65 : (Jvm.Cond.code (⟨"Seattable$Paths", "spread", "()V"⟩ : Jvm.MethodName) prog_10_method_6_code 9 none).before args0 about = true :=
  sv_hand_word (m := ⟨9, 5⟩) (by decide +kernel) rfl (by decide +kernel) (by decide +kernel)
theorem start2.code66 : (Jvm.Cond.code (⟨"Seattable$Paths", "isOpen", "(III)Z"⟩ : Jvm.MethodName) prog_10_method_7_code 4 (some .boolean)).before args0 about = true :=
  sv_hand_word (m := ⟨9, 6⟩) (by decide +kernel) rfl (by decide +kernel) (by decide +kernel)
theorem start2.code67 : (Jvm.Cond.code (⟨"Seattable$Paths", "post", "(I)I"⟩ : Jvm.MethodName) prog_10_method_3_code 2 (some .int)).before args0 about = true :=
  sv_hand_word (m := ⟨9, 2⟩) (by decide +kernel) rfl (by decide +kernel) (by decide +kernel)
theorem start2.code68 : (Jvm.Cond.code (⟨"Seattable$Paths", "isStepShorter", "(IIII)Z"⟩ : Jvm.MethodName) prog_10_method_8_code 5 (some .boolean)).before args0 about = true :=
  sv_hand_word (m := ⟨9, 7⟩) (by decide +kernel) rfl (by decide +kernel) (by decide +kernel)
theorem start2.code69 : (Jvm.Cond.code (⟨"Seattable$Big", "take", "(LSeattable$Big;)V"⟩ : Jvm.MethodName) prog_3_method_3_code 2 none).before args0 about = true :=
  sv_hand_word (m := ⟨6, 2⟩) (by decide +kernel) rfl (by decide +kernel) (by decide +kernel)
theorem start2.code70 : (Jvm.Cond.code (⟨"Seattable$Big", "times", "(I)V"⟩ : Jvm.MethodName) prog_3_method_10_code 7 none).before args0 about = true :=
  sv_hand_word (m := ⟨6, 9⟩) (by decide +kernel) rfl (by decide +kernel) (by decide +kernel)
theorem start2.code71 : (Jvm.Cond.code (⟨"Seattable$Big", "trim", "()V"⟩ : Jvm.MethodName) prog_3_method_4_code 1 none).before args0 about = true :=
  sv_hand_word (m := ⟨6, 3⟩) (by decide +kernel) rfl (by decide +kernel) (by decide +kernel)
theorem start2.code72 : (Jvm.Cond.code (⟨"Seattable$Big", "product", "(LSeattable$Big;LSeattable$Big;)V"⟩ : Jvm.MethodName) prog_3_method_11_code 9 none).before args0 about = true :=
  sv_hand_word (m := ⟨6, 10⟩) (by decide +kernel) rfl (by decide +kernel) (by decide +kernel)
theorem start2.code73 : (Jvm.Cond.code (⟨"Seattable$Big", "against", "(LSeattable$Big;)I"⟩ : Jvm.MethodName) prog_3_method_16_code 3 (some .int)).before args0 about = true :=
  sv_hand_word (m := ⟨6, 15⟩) (by decide +kernel) rfl (by decide +kernel) (by decide +kernel)
theorem start2.code74 : (Jvm.Cond.code (⟨"Seattable$Filler", "putBelow", "(II)V"⟩ : Jvm.MethodName) prog_5_method_14_code 6 none).before args0 about = true :=
  sv_hand_word (m := ⟨8, 13⟩) (by decide +kernel) rfl (by decide +kernel) (by decide +kernel)
theorem start2.code75 : (Jvm.Cond.code (⟨"Seattable$Filler", "narrow", "(II)V"⟩ : Jvm.MethodName) prog_5_method_15_code 4 none).before args0 about = true :=
  sv_hand_word (m := ⟨8, 14⟩) (by decide +kernel) rfl (by decide +kernel) (by decide +kernel)
theorem start2.code76 : (Jvm.Cond.code (⟨"Seattable$Paths", "compare", "(LSeattable$Big;LSeattable$Big;LSeattable$Big;LSeattable$Big;)I"⟩ : Jvm.MethodName) prog_10_method_9_code 5 (some .int)).before args0 about = true :=
  sv_hand_word (m := ⟨9, 8⟩) (by decide +kernel) rfl (by decide +kernel) (by decide +kernel)
theorem start2.code77 : (Jvm.Cond.code (⟨"Seattable$Filler", "isRight", "()Z"⟩ : Jvm.MethodName) prog_5_method_17_code 5 (some .boolean)).before args0 about = true :=
  sv_hand_word (m := ⟨8, 16⟩) (by decide +kernel) rfl (by decide +kernel) (by decide +kernel)
theorem start2.code78 : (Jvm.Cond.code (⟨"Seattable$Filler", "isBetweenPosts", "(III)Z"⟩ : Jvm.MethodName) prog_5_method_18_code 4 (some .boolean)).before args0 about = true :=
  sv_hand_word (m := ⟨8, 17⟩) (by decide +kernel) rfl (by decide +kernel) (by decide +kernel)
theorem start2.code79 : (Jvm.Cond.code (⟨"Seattable$Paths", "againstPost", "(III)I"⟩ : Jvm.MethodName) prog_10_method_10_code 5 (some .int)).before args0 about = true :=
  sv_hand_word (m := ⟨9, 9⟩) (by decide +kernel) rfl (by decide +kernel) (by decide +kernel)
theorem start2.code80 : (Jvm.Cond.code (⟨"Seattable$Weights", "isWhole", "(Z)Z"⟩ : Jvm.MethodName) prog_12_method_8_code 4 (some .boolean)).before args0 about = true :=
  sv_hand_word (m := ⟨13, 7⟩) (by decide +kernel) rfl (by decide +kernel) (by decide +kernel)
theorem start2.code81 : (Jvm.Cond.code (⟨"Seattable$Weights", "allOfPower", "(Z)I"⟩ : Jvm.MethodName) prog_12_method_7_code 4 (some .int)).before args0 about = true :=
  sv_hand_word (m := ⟨13, 6⟩) (by decide +kernel) rfl (by decide +kernel) (by decide +kernel)
theorem start2.code82 : (Jvm.Cond.code (⟨"Seattable$House", "rounds", "()I"⟩ : Jvm.MethodName) prog_7_method_9_code 1 (some .int)).before args0 about = true :=
  sv_hand_word (m := ⟨3, 8⟩) (by decide +kernel) rfl (by decide +kernel) (by decide +kernel)
theorem start2.code83 : (Jvm.Cond.code (⟨"Seattable$Ballots", "isWhole", "(LSeattable$House;I)Z"⟩ : Jvm.MethodName) prog_2_method_21_code 4 (some .boolean)).before args0 about = true :=
  sv_hand_word (m := ⟨10, 20⟩) (by decide +kernel) rfl (by decide +kernel) (by decide +kernel)
theorem start2.code84 : (Jvm.Cond.code (⟨"Seattable$House", "readTally", "(IILSeattable$Big;)V"⟩ : Jvm.MethodName) prog_7_method_13_code 6 none).before args0 about = true :=
  sv_hand_word (m := ⟨3, 12⟩) (by decide +kernel) rfl (by decide +kernel) (by decide +kernel)
theorem start2.code85 : (Jvm.Cond.code (⟨"Seattable$Big", "plus", "(LSeattable$Big;)V"⟩ : Jvm.MethodName) prog_3_method_12_code 5 none).before args0 about = true :=
  sv_hand_word (m := ⟨6, 11⟩) (by decide +kernel) rfl (by decide +kernel) (by decide +kernel)

set_option maxRecDepth 16384 in
theorem start2.codes_are_4 : tables_1_4.filter sv_isCode = [Jvm.Cond.code (⟨"java/lang/StringUTF16", "length", "([B)I"⟩ : Jvm.MethodName) prog_37_method_6_code 1 (some .int),
    Jvm.Cond.code (⟨"java/lang/StringUTF16", "getChar", "([BI)C"⟩ : Jvm.MethodName) prog_37_method_5_code 2 (some .char),
    Jvm.Cond.code (⟨"Seattable$Script", "nextNumber", "()V"⟩ : Jvm.MethodName) prog_11_method_13_code 1 none,
    Jvm.Cond.code (⟨"Seattable$Script", "readStatement", "(I)V"⟩ : Jvm.MethodName) prog_11_method_5_code 2 none,
    Jvm.Cond.code (⟨"Seattable$Script", "expect", "(III)V"⟩ : Jvm.MethodName) prog_11_method_6_code 4 none,
    Jvm.Cond.code (⟨"Seattable$Script", "fail", "(I)V"⟩ : Jvm.MethodName) prog_11_method_7_code 2 none,
    Jvm.Cond.code (⟨"Seattable", "isShare", "(III)Z"⟩ : Jvm.MethodName) prog_1_method_55_code 3 (some .boolean),
    Jvm.Cond.code (⟨"Seattable", "isWithin", "(III)Z"⟩ : Jvm.MethodName) prog_1_method_54_code 3 (some .boolean),
    Jvm.Cond.code (⟨"Seattable$Script", "act", "(ILSeattable$House;)V"⟩ : Jvm.MethodName) prog_11_method_8_code 3 none,
    Jvm.Cond.code (⟨"Seattable", "cellOf", "(II)I"⟩ : Jvm.MethodName) prog_1_method_63_code 2 (some .int),
    Jvm.Cond.code (⟨"Seattable", "nodeOf", "(ZI)I"⟩ : Jvm.MethodName) prog_1_method_64_code 2 (some .int),
    Jvm.Cond.code (⟨"Seattable", "errorPlace", "()I"⟩ : Jvm.MethodName) prog_1_method_13_code 1 (some .int),
    Jvm.Cond.code (⟨"Seattable", "otherwise", "()I"⟩ : Jvm.MethodName) prog_1_method_43_code 1 (some .int),
    Jvm.Cond.code (⟨"Seattable$Weights", "look", "(LSeattable$House;)V"⟩ : Jvm.MethodName) prog_12_method_2_code 4 none,
    Jvm.Cond.code (⟨"Seattable$House", "players", "()I"⟩ : Jvm.MethodName) prog_7_method_8_code 1 (some .int),
    Jvm.Cond.code (⟨"Seattable$Weights", "weightOf", "([II)I"⟩ : Jvm.MethodName) prog_12_method_3_code 5 (some .int),
    Jvm.Cond.code (⟨"Seattable$Weights", "leastSum", "()I"⟩ : Jvm.MethodName) prog_12_method_12_code 4 (some .int),
    Jvm.Cond.code (⟨"Seattable$Weights", "sortPlayers", "()V"⟩ : Jvm.MethodName) prog_12_method_13_code 3 none,
    Jvm.Cond.code (⟨"Seattable$Weights", "findGaps", "()V"⟩ : Jvm.MethodName) prog_12_method_14_code 3 none,
    Jvm.Cond.code (⟨"Seattable$Weights", "partOfPower", "(IZ)I"⟩ : Jvm.MethodName) prog_12_method_6_code 6 (some .int),
    Jvm.Cond.code (⟨"Seattable$Weights", "isSwing", "(II)Z"⟩ : Jvm.MethodName) prog_12_method_4_code 3 (some .boolean),
    Jvm.Cond.code (⟨"java/lang/Integer", "bitCount", "(I)I"⟩ : Jvm.MethodName) prog_28_method_49_code 1 (some .int),
    Jvm.Cond.code (⟨"Seattable$Weights", "factorial", "(I)I"⟩ : Jvm.MethodName) prog_12_method_5_code 3 (some .int),
    Jvm.Cond.code (⟨"Seattable$Weights", "isWorthMore", "(II)Z"⟩ : Jvm.MethodName) prog_12_method_15_code 5 (some .boolean),
    Jvm.Cond.code (⟨"Seattable$Weights", "isFound", "(LSeattable$Weights;III)Z"⟩ : Jvm.MethodName) prog_12_method_16_code 6 (some .boolean),
    Jvm.Cond.code (⟨"Seattable$Weights", "isToldOtherwise", "()Z"⟩ : Jvm.MethodName) prog_12_method_17_code 5 (some .boolean),
    Jvm.Cond.code (⟨"Seattable", "errors", "()I"⟩ : Jvm.MethodName) prog_1_method_53_code 3 (some .int),
    Jvm.Cond.code (⟨"Seattable$Filler", "findFactors", "(LSeattable$House;I)V"⟩ : Jvm.MethodName) prog_5_method_11_code 4 none,
    Jvm.Cond.code (⟨"Seattable$Paths", "take", "(LSeattable$House;)V"⟩ : Jvm.MethodName) prog_10_method_2_code 3 none,
    Jvm.Cond.code (⟨"Seattable$Filler", "findBlocks", "()V"⟩ : Jvm.MethodName) prog_5_method_12_code 3 none,
    Jvm.Cond.code (⟨"Seattable$Paths", "clear", "()V"⟩ : Jvm.MethodName) prog_10_method_4_code 1 none,
    Jvm.Cond.code (⟨"Seattable$Filler", "seatsOf", "(I)I"⟩ : Jvm.MethodName) prog_5_method_13_code 4 (some .int),
    Jvm.Cond.code (⟨"Seattable$Paths", "start", "(I)V"⟩ : Jvm.MethodName) prog_10_method_5_code 2 none,
    Jvm.Cond.code (⟨"Seattable$Paths", "spread", "()V"⟩ : Jvm.MethodName) prog_10_method_6_code 9 none,
    Jvm.Cond.code (⟨"Seattable$Paths", "isOpen", "(III)Z"⟩ : Jvm.MethodName) prog_10_method_7_code 4 (some .boolean),
    Jvm.Cond.code (⟨"Seattable$Paths", "post", "(I)I"⟩ : Jvm.MethodName) prog_10_method_3_code 2 (some .int),
    Jvm.Cond.code (⟨"Seattable$Paths", "isStepShorter", "(IIII)Z"⟩ : Jvm.MethodName) prog_10_method_8_code 5 (some .boolean),
    Jvm.Cond.code (⟨"Seattable$Big", "take", "(LSeattable$Big;)V"⟩ : Jvm.MethodName) prog_3_method_3_code 2 none,
    Jvm.Cond.code (⟨"Seattable$Big", "times", "(I)V"⟩ : Jvm.MethodName) prog_3_method_10_code 7 none,
    Jvm.Cond.code (⟨"Seattable$Big", "trim", "()V"⟩ : Jvm.MethodName) prog_3_method_4_code 1 none,
    Jvm.Cond.code (⟨"Seattable$Big", "product", "(LSeattable$Big;LSeattable$Big;)V"⟩ : Jvm.MethodName) prog_3_method_11_code 9 none,
    Jvm.Cond.code (⟨"Seattable$Big", "against", "(LSeattable$Big;)I"⟩ : Jvm.MethodName) prog_3_method_16_code 3 (some .int),
    Jvm.Cond.code (⟨"Seattable$Filler", "putBelow", "(II)V"⟩ : Jvm.MethodName) prog_5_method_14_code 6 none,
    Jvm.Cond.code (⟨"Seattable$Filler", "narrow", "(II)V"⟩ : Jvm.MethodName) prog_5_method_15_code 4 none,
    Jvm.Cond.code (⟨"Seattable$Paths", "compare", "(LSeattable$Big;LSeattable$Big;LSeattable$Big;LSeattable$Big;)I"⟩ : Jvm.MethodName) prog_10_method_9_code 5 (some .int),
    Jvm.Cond.code (⟨"Seattable$Filler", "isRight", "()Z"⟩ : Jvm.MethodName) prog_5_method_17_code 5 (some .boolean),
    Jvm.Cond.code (⟨"Seattable$Filler", "isBetweenPosts", "(III)Z"⟩ : Jvm.MethodName) prog_5_method_18_code 4 (some .boolean),
    Jvm.Cond.code (⟨"Seattable$Paths", "againstPost", "(III)I"⟩ : Jvm.MethodName) prog_10_method_10_code 5 (some .int),
    Jvm.Cond.code (⟨"Seattable$Weights", "isWhole", "(Z)Z"⟩ : Jvm.MethodName) prog_12_method_8_code 4 (some .boolean),
    Jvm.Cond.code (⟨"Seattable$Weights", "allOfPower", "(Z)I"⟩ : Jvm.MethodName) prog_12_method_7_code 4 (some .int),
    Jvm.Cond.code (⟨"Seattable$House", "rounds", "()I"⟩ : Jvm.MethodName) prog_7_method_9_code 1 (some .int),
    Jvm.Cond.code (⟨"Seattable$Ballots", "isWhole", "(LSeattable$House;I)Z"⟩ : Jvm.MethodName) prog_2_method_21_code 4 (some .boolean),
    Jvm.Cond.code (⟨"Seattable$House", "readTally", "(IILSeattable$Big;)V"⟩ : Jvm.MethodName) prog_7_method_13_code 6 none,
    Jvm.Cond.code (⟨"Seattable$Big", "plus", "(LSeattable$Big;)V"⟩ : Jvm.MethodName) prog_3_method_12_code 5 none] := by
  first
  | rfl
  | simp only [tables_1_4, List.filter, sv_isCode]
theorem start2.codes_hold_4 : ∀ c ∈ tables_1_4.filter sv_isCode, c.before args0 about = true := by
  rw [codes_are_4]
  exact List.forall_mem_cons.mpr ⟨code32, List.forall_mem_cons.mpr ⟨code33, List.forall_mem_cons.mpr ⟨code34, List.forall_mem_cons.mpr ⟨code35, List.forall_mem_cons.mpr ⟨code36, List.forall_mem_cons.mpr ⟨code37, List.forall_mem_cons.mpr ⟨code38, List.forall_mem_cons.mpr ⟨code39, List.forall_mem_cons.mpr ⟨code40, List.forall_mem_cons.mpr ⟨code41, List.forall_mem_cons.mpr ⟨code42, List.forall_mem_cons.mpr ⟨code43, List.forall_mem_cons.mpr ⟨code44, List.forall_mem_cons.mpr ⟨code45, List.forall_mem_cons.mpr ⟨code46, List.forall_mem_cons.mpr ⟨code47, List.forall_mem_cons.mpr ⟨code48, List.forall_mem_cons.mpr ⟨code49, List.forall_mem_cons.mpr ⟨code50, List.forall_mem_cons.mpr ⟨code51, List.forall_mem_cons.mpr ⟨code52, List.forall_mem_cons.mpr ⟨code53, List.forall_mem_cons.mpr ⟨code54, List.forall_mem_cons.mpr ⟨code55, List.forall_mem_cons.mpr ⟨code56, List.forall_mem_cons.mpr ⟨code57, List.forall_mem_cons.mpr ⟨code58, List.forall_mem_cons.mpr ⟨code59, List.forall_mem_cons.mpr ⟨code60, List.forall_mem_cons.mpr ⟨code61, List.forall_mem_cons.mpr ⟨code62, List.forall_mem_cons.mpr ⟨code63, List.forall_mem_cons.mpr ⟨code64, List.forall_mem_cons.mpr ⟨code65, List.forall_mem_cons.mpr ⟨code66, List.forall_mem_cons.mpr ⟨code67, List.forall_mem_cons.mpr ⟨code68, List.forall_mem_cons.mpr ⟨code69, List.forall_mem_cons.mpr ⟨code70, List.forall_mem_cons.mpr ⟨code71, List.forall_mem_cons.mpr ⟨code72, List.forall_mem_cons.mpr ⟨code73, List.forall_mem_cons.mpr ⟨code74, List.forall_mem_cons.mpr ⟨code75, List.forall_mem_cons.mpr ⟨code76, List.forall_mem_cons.mpr ⟨code77, List.forall_mem_cons.mpr ⟨code78, List.forall_mem_cons.mpr ⟨code79, List.forall_mem_cons.mpr ⟨code80, List.forall_mem_cons.mpr ⟨code81, List.forall_mem_cons.mpr ⟨code82, List.forall_mem_cons.mpr ⟨code83, List.forall_mem_cons.mpr ⟨code84, List.forall_mem_cons.mpr ⟨code85, List.forall_mem_nil _⟩⟩⟩⟩⟩⟩⟩⟩⟩⟩⟩⟩⟩⟩⟩⟩⟩⟩⟩⟩⟩⟩⟩⟩⟩⟩⟩⟩⟩⟩⟩⟩⟩⟩⟩⟩⟩⟩⟩⟩⟩⟩⟩⟩⟩⟩⟩⟩⟩⟩⟩⟩⟩⟩
set_option maxRecDepth 16384 in
theorem start2.others_4_0 : (tables_1_4.take 40).all (fun c => sv_isCode c || c.before args0 about) = true := by decide +kernel
set_option maxRecDepth 16384 in
theorem start2.others_4_1 : ((tables_1_4.drop 40).take 40).all (fun c => sv_isCode c || c.before args0 about) = true := by decide +kernel

set_option maxRecDepth 16384 in
theorem start2.others_4_2 : (((tables_1_4.drop 40).drop 40).take 40).all (fun c => sv_isCode c || c.before args0 about) = true := by decide +kernel
set_option maxRecDepth 16384 in
theorem start2.others_4_3 : ((((tables_1_4.drop 40).drop 40).drop 40).take 40).all (fun c => sv_isCode c || c.before args0 about) = true := by decide +kernel

set_option maxRecDepth 16384 in
theorem start2.others_4_4 : (((((tables_1_4.drop 40).drop 40).drop 40).drop 40).take 40).all (fun c => sv_isCode c || c.before args0 about) = true := by decide +kernel
set_option maxRecDepth 16384 in
theorem start2.others_4_5 : (((((tables_1_4.drop 40).drop 40).drop 40).drop 40).drop 40).all (fun c => sv_isCode c || c.before args0 about) = true := by decide +kernel
theorem start2.others_hold_4 : tables_1_4.all (fun c => sv_isCode c || c.before args0 about) = true := sv_all_split _ 40 tables_1_4 others_4_0 (sv_all_split _ 40 (tables_1_4.drop 40) others_4_1 (sv_all_split _ 40 ((tables_1_4.drop 40).drop 40) others_4_2 (sv_all_split _ 40 (((tables_1_4.drop 40).drop 40).drop 40) others_4_3 (sv_all_split _ 40 ((((tables_1_4.drop 40).drop 40).drop 40).drop 40) others_4_4 others_4_5))))
theorem start2.words_4 : ∀ c ∈ tables_1_4, c.before args0 about = true := fun c h => sv_words others_hold_4 codes_hold_4 c h

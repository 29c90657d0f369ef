set_option maxRecDepth 16384

theorem start2.code283 : (Jvm.Cond.code (⟨"SeattableModel", "thrown", "()I"⟩ : Jvm.MethodName) prog_14_method_2_code 1 (some .int)).before args0 about = true :=
  sv_hand_word (m := ⟨14, 1⟩) (by decide +kernel) rfl (by decide +kernel) (by decide +kernel)
theorem start2.code284 : (Jvm.Cond.code (⟨"SeattableModel", "undo", "()I"⟩ : Jvm.MethodName) prog_14_method_20_code 1 (some .int)).before args0 about = true :=
  sv_hand_word (m := ⟨14, 19⟩) (by decide +kernel) rfl (by decide +kernel) (by decide +kernel)
theorem start2.code285 : (Jvm.Cond.code (⟨"java/util/ArrayList", "isEmpty", "()Z"⟩ : Jvm.MethodName) prog_44_method_9_code 1 (some .boolean)).before args0 about = true :=
  sv_hand_word (m := ⟨53, 4⟩) (by decide +kernel) rfl (by decide +kernel) (by decide +kernel)
theorem start2.code286 : (Jvm.Cond.code (⟨"SeattableModel", "fine", "(Z)Z"⟩ : Jvm.MethodName) prog_14_method_3_code 2 (some .boolean)).before args0 about = true :=
  sv_hand_word (m := ⟨14, 2⟩) (by decide +kernel) rfl (by decide +kernel) (by decide +kernel)
theorem start2.code287 : (Jvm.Cond.code (⟨"java/util/ArrayList", "size", "()I"⟩ : Jvm.MethodName) prog_44_method_8_code 1 (some .int)).before args0 about = true :=
  sv_hand_word (m := ⟨53, 3⟩) (by decide +kernel) rfl (by decide +kernel) (by decide +kernel)
theorem start2.code288 : (Jvm.Cond.code (⟨"java/util/ArrayList", "remove", "(I)Ljava/lang/Object;"⟩ : Jvm.MethodName) prog_44_method_29_code 4 (some (.object "java/lang/Object"))).before args0 about = true :=
  sv_hand_word (m := ⟨53, 9⟩) (by decide +kernel) rfl (by decide +kernel) (by decide +kernel)
theorem start2.code289 : (Jvm.Cond.code (⟨"java/util/Objects", "checkIndex", "(II)I"⟩ : Jvm.MethodName) prog_49_method_17_code 2 (some .int)).before args0 about = true :=
  sv_hand_word (m := ⟨17, 0⟩) (by decide +kernel) rfl (by decide +kernel) (by decide +kernel)
theorem start2.code290 : (Jvm.Cond.code (⟨"java/util/ArrayList", "fastRemove", "([Ljava/lang/Object;I)V"⟩ : Jvm.MethodName) prog_44_method_39_code 4 none).before args0 about = true :=
  sv_hand_word (m := ⟨53, 10⟩) (by decide +kernel) rfl (by decide +kernel) (by decide +kernel)
theorem start2.code291 : (Jvm.Cond.code (⟨"SeattableModel", "digits", "(ZI)I"⟩ : Jvm.MethodName) prog_14_method_25_code 5 (some .int)).before args0 about = true :=
  sv_hand_word (m := ⟨14, 24⟩) (by decide +kernel) rfl (by decide +kernel) (by decide +kernel)
theorem start2.code292 : (Jvm.Cond.code (⟨"SeattableModel", "in", "(JJJ)Z"⟩ : Jvm.MethodName) prog_14_method_6_code 6 (some .boolean)).before args0 about = true :=
  sv_hand_word (m := ⟨14, 5⟩) (by decide +kernel) rfl (by decide +kernel) (by decide +kernel)
theorem start2.code293 : (Jvm.Cond.code (⟨"SeattableModel", "write", "(I)I"⟩ : Jvm.MethodName) prog_14_method_30_code 4 (some .int)).before args0 about = true :=
  sv_hand_word (m := ⟨14, 29⟩) (by decide +kernel) rfl (by decide +kernel) (by decide +kernel)
theorem start2.code294 : (Jvm.Cond.code (⟨"java/util/ArrayList", "get", "(I)Ljava/lang/Object;"⟩ : Jvm.MethodName) prog_44_method_20_code 2 (some (.object "java/lang/Object"))).before args0 about = true :=
  sv_hand_word (m := ⟨53, 6⟩) (by decide +kernel) rfl (by decide +kernel) (by decide +kernel)
theorem start2.code295 : (Jvm.Cond.code (⟨"java/util/ArrayList", "elementData", "(I)Ljava/lang/Object;"⟩ : Jvm.MethodName) prog_44_method_18_code 2 (some (.object "java/lang/Object"))).before args0 about = true :=
  sv_hand_word (m := ⟨53, 5⟩) (by decide +kernel) rfl (by decide +kernel) (by decide +kernel)
theorem start2.code296 : (Jvm.Cond.code (⟨"SeattableModel", "putsRow", "([III)V"⟩ : Jvm.MethodName) prog_14_method_29_code 5 none).before args0 about = true :=
  sv_hand_word (m := ⟨14, 28⟩) (by decide +kernel) rfl (by decide +kernel) (by decide +kernel)
theorem start2.code297 : (Jvm.Cond.code (⟨"SeattableModel", "puts", "(I)V"⟩ : Jvm.MethodName) prog_14_method_26_code 3 none).before args0 about = true :=
  sv_hand_word (m := ⟨14, 25⟩) (by decide +kernel) rfl (by decide +kernel) (by decide +kernel)
theorem start2.code298 : (Jvm.Cond.code (⟨"SeattableModel", "putsNumber", "(II)V"⟩ : Jvm.MethodName) prog_14_method_27_code 7 none).before args0 about = true :=
  sv_hand_word (m := ⟨14, 26⟩) (by decide +kernel) rfl (by decide +kernel) (by decide +kernel)
theorem start2.code299 : (Jvm.Cond.code (⟨"java/lang/Math", "max", "(II)I"⟩ : Jvm.MethodName) prog_31_method_65_code 2 (some .int)).before args0 about = true :=
  sv_hand_word (m := ⟨20, 1⟩) (by decide +kernel) rfl (by decide +kernel) (by decide +kernel)
theorem start2.code300 : (Jvm.Cond.code (⟨"SeattableModel", "putsWhole", "([I)V"⟩ : Jvm.MethodName) prog_14_method_28_code 3 none).before args0 about = true :=
  sv_hand_word (m := ⟨14, 27⟩) (by decide +kernel) rfl (by decide +kernel) (by decide +kernel)
theorem start2.code301 : (Jvm.Cond.code (⟨"SeattableModel", "signAt", "(I)I"⟩ : Jvm.MethodName) prog_14_method_31_code 2 (some .int)).before args0 about = true :=
  sv_hand_word (m := ⟨14, 30⟩) (by decide +kernel) rfl (by decide +kernel) (by decide +kernel)
theorem start2.code302 : (Jvm.Cond.code (⟨"SeattableModel", "addParty", "()I"⟩ : Jvm.MethodName) prog_14_method_32_code 1 (some .int)).before args0 about = true :=
  sv_hand_word (m := ⟨14, 31⟩) (by decide +kernel) rfl (by decide +kernel) (by decide +kernel)
theorem start2.code303 : (Jvm.Cond.code (⟨"SeattableModel", "acts", "()V"⟩ : Jvm.MethodName) prog_14_method_19_code 2 none).before args0 about = true :=
  sv_hand_word (m := ⟨14, 18⟩) (by decide +kernel) rfl (by decide +kernel) (by decide +kernel)
theorem start2.code304 : (Jvm.Cond.code (⟨"java/util/ArrayList", "add", "(Ljava/lang/Object;)Z"⟩ : Jvm.MethodName) prog_44_method_25_code 2 (some .boolean)).before args0 about = true :=
  sv_hand_word (m := ⟨53, 8⟩) (by decide +kernel) rfl (by decide +kernel) (by decide +kernel)

set_option maxRecDepth 16384 in
theorem start2.codes_are_10 : tables_1_10.filter sv_isCode = [Jvm.Cond.code (⟨"SeattableModel", "thrown", "()I"⟩ : Jvm.MethodName) prog_14_method_2_code 1 (some .int),
    Jvm.Cond.code (⟨"SeattableModel", "undo", "()I"⟩ : Jvm.MethodName) prog_14_method_20_code 1 (some .int),
    Jvm.Cond.code (⟨"java/util/ArrayList", "isEmpty", "()Z"⟩ : Jvm.MethodName) prog_44_method_9_code 1 (some .boolean),
    Jvm.Cond.code (⟨"SeattableModel", "fine", "(Z)Z"⟩ : Jvm.MethodName) prog_14_method_3_code 2 (some .boolean),
    Jvm.Cond.code (⟨"java/util/ArrayList", "size", "()I"⟩ : Jvm.MethodName) prog_44_method_8_code 1 (some .int),
    Jvm.Cond.code (⟨"java/util/ArrayList", "remove", "(I)Ljava/lang/Object;"⟩ : Jvm.MethodName) prog_44_method_29_code 4 (some (.object "java/lang/Object")),
    Jvm.Cond.code (⟨"java/util/Objects", "checkIndex", "(II)I"⟩ : Jvm.MethodName) prog_49_method_17_code 2 (some .int),
    Jvm.Cond.code (⟨"java/util/ArrayList", "fastRemove", "([Ljava/lang/Object;I)V"⟩ : Jvm.MethodName) prog_44_method_39_code 4 none,
    Jvm.Cond.code (⟨"SeattableModel", "digits", "(ZI)I"⟩ : Jvm.MethodName) prog_14_method_25_code 5 (some .int),
    Jvm.Cond.code (⟨"SeattableModel", "in", "(JJJ)Z"⟩ : Jvm.MethodName) prog_14_method_6_code 6 (some .boolean),
    Jvm.Cond.code (⟨"SeattableModel", "write", "(I)I"⟩ : Jvm.MethodName) prog_14_method_30_code 4 (some .int),
    Jvm.Cond.code (⟨"java/util/ArrayList", "get", "(I)Ljava/lang/Object;"⟩ : Jvm.MethodName) prog_44_method_20_code 2 (some (.object "java/lang/Object")),
    Jvm.Cond.code (⟨"java/util/ArrayList", "elementData", "(I)Ljava/lang/Object;"⟩ : Jvm.MethodName) prog_44_method_18_code 2 (some (.object "java/lang/Object")),
    Jvm.Cond.code (⟨"SeattableModel", "putsRow", "([III)V"⟩ : Jvm.MethodName) prog_14_method_29_code 5 none,
    Jvm.Cond.code (⟨"SeattableModel", "puts", "(I)V"⟩ : Jvm.MethodName) prog_14_method_26_code 3 none,
    Jvm.Cond.code (⟨"SeattableModel", "putsNumber", "(II)V"⟩ : Jvm.MethodName) prog_14_method_27_code 7 none,
    Jvm.Cond.code (⟨"java/lang/Math", "max", "(II)I"⟩ : Jvm.MethodName) prog_31_method_65_code 2 (some .int),
    Jvm.Cond.code (⟨"SeattableModel", "putsWhole", "([I)V"⟩ : Jvm.MethodName) prog_14_method_28_code 3 none,
    Jvm.Cond.code (⟨"SeattableModel", "signAt", "(I)I"⟩ : Jvm.MethodName) prog_14_method_31_code 2 (some .int),
    Jvm.Cond.code (⟨"SeattableModel", "addParty", "()I"⟩ : Jvm.MethodName) prog_14_method_32_code 1 (some .int),
    Jvm.Cond.code (⟨"SeattableModel", "acts", "()V"⟩ : Jvm.MethodName) prog_14_method_19_code 2 none,
    Jvm.Cond.code (⟨"java/util/ArrayList", "add", "(Ljava/lang/Object;)Z"⟩ : Jvm.MethodName) prog_44_method_25_code 2 (some .boolean)] := by
  first
  | rfl
  | simp only [tables_1_10, List.filter, sv_isCode]
theorem start2.codes_hold_10 : ∀ c ∈ tables_1_10.filter sv_isCode, c.before args0 about = true := by
  rw [codes_are_10]
  exact List.forall_mem_cons.mpr ⟨code283, List.forall_mem_cons.mpr ⟨code284, List.forall_mem_cons.mpr ⟨code285, List.forall_mem_cons.mpr ⟨code286, List.forall_mem_cons.mpr ⟨code287, List.forall_mem_cons.mpr ⟨code288, List.forall_mem_cons.mpr ⟨code289, List.forall_mem_cons.mpr ⟨code290, List.forall_mem_cons.mpr ⟨code291, List.forall_mem_cons.mpr ⟨code292, List.forall_mem_cons.mpr ⟨code293, List.forall_mem_cons.mpr ⟨code294, List.forall_mem_cons.mpr ⟨code295, List.forall_mem_cons.mpr ⟨code296, List.forall_mem_cons.mpr ⟨code297, List.forall_mem_cons.mpr ⟨code298, List.forall_mem_cons.mpr ⟨code299, List.forall_mem_cons.mpr ⟨code300, List.forall_mem_cons.mpr ⟨code301, List.forall_mem_cons.mpr ⟨code302, List.forall_mem_cons.mpr ⟨code303, List.forall_mem_cons.mpr ⟨code304, List.forall_mem_nil _⟩⟩⟩⟩⟩⟩⟩⟩⟩⟩⟩⟩⟩⟩⟩⟩⟩⟩⟩⟩⟩⟩
set_option maxRecDepth 16384 in
theorem start2.others_10_0 : (tables_1_10.take 17).all (fun c => sv_isCode c || c.before args0 about) = true := by decide +kernel
set_option maxRecDepth 16384 in
theorem start2.others_10_1 : ((tables_1_10.drop 17).take 8).all (fun c => sv_isCode c || c.before args0 about) = true := by decide +kernel

set_option maxRecDepth 16384 in
theorem start2.others_10_2 : (((tables_1_10.drop 17).drop 8).take 6).all (fun c => sv_isCode c || c.before args0 about) = true := by decide +kernel
set_option maxRecDepth 16384 in
theorem start2.others_10_3 : ((((tables_1_10.drop 17).drop 8).drop 6).take 40).all (fun c => sv_isCode c || c.before args0 about) = true := by decide +kernel

set_option maxRecDepth 16384 in
theorem start2.others_10_4 : (((((tables_1_10.drop 17).drop 8).drop 6).drop 40).take 40).all (fun c => sv_isCode c || c.before args0 about) = true := by decide +kernel
set_option maxRecDepth 16384 in
theorem start2.others_10_5 : ((((((tables_1_10.drop 17).drop 8).drop 6).drop 40).drop 40).take 40).all (fun c => sv_isCode c || c.before args0 about) = true := by decide +kernel

set_option maxRecDepth 16384 in
theorem start2.others_10_6 : (((((((tables_1_10.drop 17).drop 8).drop 6).drop 40).drop 40).drop 40).take 40).all (fun c => sv_isCode c || c.before args0 about) = true := by decide +kernel
set_option maxRecDepth 16384 in
theorem start2.others_10_7 : ((((((((tables_1_10.drop 17).drop 8).drop 6).drop 40).drop 40).drop 40).drop 40).take 40).all (fun c => sv_isCode c || c.before args0 about) = true := by decide +kernel

set_option maxRecDepth 16384 in
theorem start2.others_10_8 : ((((((((tables_1_10.drop 17).drop 8).drop 6).drop 40).drop 40).drop 40).drop 40).drop 40).all (fun c => sv_isCode c || c.before args0 about) = true := by decide +kernel
theorem start2.others_hold_10 : tables_1_10.all (fun c => sv_isCode c || c.before args0 about) = true := sv_all_split _ 17 tables_1_10 others_10_0 (sv_all_split _ 8 (tables_1_10.drop 17) others_10_1 (sv_all_split _ 6 ((tables_1_10.drop 17).drop 8) others_10_2 (sv_all_split _ 40 (((tables_1_10.drop 17).drop 8).drop 6) others_10_3 (sv_all_split _ 40 ((((tables_1_10.drop 17).drop 8).drop 6).drop 40) others_10_4 (sv_all_split _ 40 (((((tables_1_10.drop 17).drop 8).drop 6).drop 40).drop 40) others_10_5 (sv_all_split _ 40 ((((((tables_1_10.drop 17).drop 8).drop 6).drop 40).drop 40).drop 40) others_10_6 (sv_all_split _ 40 (((((((tables_1_10.drop 17).drop 8).drop 6).drop 40).drop 40).drop 40).drop 40) others_10_7 others_10_8)))))))
theorem start2.words_10 : ∀ c ∈ tables_1_10, c.before args0 about = true := fun c h => sv_words others_hold_10 codes_hold_10 c h

theorem start2.code305 : (Jvm.Cond.code (⟨"java/util/ArrayList", "add", "(Ljava/lang/Object;[Ljava/lang/Object;I)V"⟩ : Jvm.MethodName) prog_44_method_24_code 4 none).before args0 about = true :=
  sv_hand_word (m := ⟨53, 7⟩) (by decide +kernel) rfl (by decide +kernel) (by decide +kernel)
theorem start2.code306 : (Jvm.Cond.code (⟨"java/util/ArrayList", "grow", "()[Ljava/lang/Object;"⟩ : Jvm.MethodName) prog_44_method_7_code 1 (some (.array (.object "java/lang/Object")))).before args0 about = true :=
  sv_hand_word (m := ⟨53, 2⟩) (by decide +kernel) rfl (by decide +kernel) (by decide +kernel)
theorem start2.code307 : (Jvm.Cond.code (⟨"java/util/ArrayList", "grow", "(I)[Ljava/lang/Object;"⟩ : Jvm.MethodName) prog_44_method_6_code 4 (some (.array (.object "java/lang/Object")))).before args0 about = true :=
  sv_hand_word (m := ⟨53, 1⟩) (by decide +kernel) rfl (by decide +kernel) (by decide +kernel)
theorem start2.code308 : (Jvm.Cond.code (⟨"jdk/internal/util/ArraysSupport", "newLength", "(III)I"⟩ : Jvm.MethodName) prog_52_method_27_code 4 (some .int)).before args0 about = true :=
  sv_hand_word (m := ⟨19, 0⟩) (by decide +kernel) rfl (by decide +kernel) (by decide +kernel)
theorem start2.code309 : (Jvm.Cond.code (⟨"jdk/internal/util/ArraysSupport", "hugeLength", "(II)I"⟩ : Jvm.MethodName) prog_52_method_28_code 3 (some .int)).before args0 about = true :=
  sv_hand_word (m := ⟨19, 1⟩) (by decide +kernel) rfl (by decide +kernel) (by decide +kernel)
theorem start2.code310 : (Jvm.Cond.code (⟨"java/util/Arrays", "copyOf", "([Ljava/lang/Object;I)[Ljava/lang/Object;"⟩ : Jvm.MethodName) prog_45_method_119_code 2 (some (.array (.object "java/lang/Object")))).before args0 about = true :=
  sv_hand_word (m := ⟨21, 0⟩) (by decide +kernel) rfl (by decide +kernel) (by decide +kernel)
theorem start2.code311 : (Jvm.Cond.code (⟨"java/util/Arrays", "copyOf", "([Ljava/lang/Object;ILjava/lang/Class;)[Ljava/lang/Object;"⟩ : Jvm.MethodName) prog_45_method_120_code 4 (some (.array (.object "java/lang/Object")))).before args0 about = true :=
  sv_hand_word (m := ⟨21, 1⟩) (by decide +kernel) rfl (by decide +kernel) (by decide +kernel)
theorem start2.code312 : (Jvm.Cond.code (⟨"java/lang/Math", "min", "(II)I"⟩ : Jvm.MethodName) prog_31_method_69_code 2 (some .int)).before args0 about = true :=
  sv_hand_word (m := ⟨20, 2⟩) (by decide +kernel) rfl (by decide +kernel) (by decide +kernel)
theorem start2.code313 : (Jvm.Cond.code (⟨"SeattableModel$State", "<init>", "(LSeattableModel$State;)V"⟩ : Jvm.MethodName) prog_17_method_2_code 2 none).before args0 about = true :=
  sv_hand_word (m := ⟨15, 1⟩) (by decide +kernel) rfl (by decide +kernel) (by decide +kernel)
theorem start2.code314 : (Jvm.Cond.code (⟨"SeattableModel", "same", "([I)[I"⟩ : Jvm.MethodName) prog_14_method_18_code 2 (some (.array .int))).before args0 about = true :=
  sv_hand_word (m := ⟨14, 17⟩) (by decide +kernel) rfl (by decide +kernel) (by decide +kernel)
theorem start2.code315 : (Jvm.Cond.code (⟨"SeattableModel", "addLand", "()I"⟩ : Jvm.MethodName) prog_14_method_33_code 1 (some .int)).before args0 about = true :=
  sv_hand_word (m := ⟨14, 32⟩) (by decide +kernel) rfl (by decide +kernel) (by decide +kernel)
theorem start2.code316 : (Jvm.Cond.code (⟨"SeattableModel", "setVotes", "(III)I"⟩ : Jvm.MethodName) prog_14_method_34_code 5 (some .int)).before args0 about = true :=
  sv_hand_word (m := ⟨14, 33⟩) (by decide +kernel) rfl (by decide +kernel) (by decide +kernel)
theorem start2.code317 : (Jvm.Cond.code (⟨"SeattableModel", "isParty", "(I)Z"⟩ : Jvm.MethodName) prog_14_method_21_code 2 (some .boolean)).before args0 about = true :=
  sv_hand_word (m := ⟨14, 20⟩) (by decide +kernel) rfl (by decide +kernel) (by decide +kernel)
theorem start2.code318 : (Jvm.Cond.code (⟨"SeattableModel", "isLand", "(I)Z"⟩ : Jvm.MethodName) prog_14_method_22_code 2 (some .boolean)).before args0 about = true :=
  sv_hand_word (m := ⟨14, 21⟩) (by decide +kernel) rfl (by decide +kernel) (by decide +kernel)
theorem start2.code319 : (Jvm.Cond.code (⟨"SeattableModel", "fine", "(ZZ)Z"⟩ : Jvm.MethodName) prog_14_method_4_code 3 (some .boolean)).before args0 about = true :=
  sv_hand_word (m := ⟨14, 3⟩) (by decide +kernel) rfl (by decide +kernel) (by decide +kernel)
theorem start2.code320 : (Jvm.Cond.code (⟨"SeattableModel", "setPeople", "(II)I"⟩ : Jvm.MethodName) prog_14_method_35_code 4 (some .int)).before args0 about = true :=
  sv_hand_word (m := ⟨14, 34⟩) (by decide +kernel) rfl (by decide +kernel) (by decide +kernel)
theorem start2.code321 : (Jvm.Cond.code (⟨"SeattableModel", "setBounds", "(ZIII)V"⟩ : Jvm.MethodName) prog_14_method_38_code 5 none).before args0 about = true :=
  sv_hand_word (m := ⟨14, 37⟩) (by decide +kernel) rfl (by decide +kernel) (by decide +kernel)
theorem start2.code322 : (Jvm.Cond.code (⟨"SeattableModel", "isThere", "(ZI)Z"⟩ : Jvm.MethodName) prog_14_method_36_code 3 (some .boolean)).before args0 about = true :=
  sv_hand_word (m := ⟨14, 35⟩) (by decide +kernel) rfl (by decide +kernel) (by decide +kernel)
theorem start2.code323 : (Jvm.Cond.code (⟨"SeattableModel", "place", "(ZI)I"⟩ : Jvm.MethodName) prog_14_method_37_code 2 (some .int)).before args0 about = true :=
  sv_hand_word (m := ⟨14, 36⟩) (by decide +kernel) rfl (by decide +kernel) (by decide +kernel)
theorem start2.code324 : (Jvm.Cond.code (⟨"SeattableModel", "setSum", "(ZII)I"⟩ : Jvm.MethodName) prog_14_method_39_code 5 (some .int)).before args0 about = true :=
  sv_hand_word (m := ⟨14, 38⟩) (by decide +kernel) rfl (by decide +kernel) (by decide +kernel)
theorem start2.code325 : (Jvm.Cond.code (⟨"SeattableModel", "setBar", "(II)V"⟩ : Jvm.MethodName) prog_14_method_41_code 3 none).before args0 about = true :=
  sv_hand_word (m := ⟨14, 40⟩) (by decide +kernel) rfl (by decide +kernel) (by decide +kernel)
theorem start2.code326 : (Jvm.Cond.code (⟨"SeattableModel", "isShare", "(III)Z"⟩ : Jvm.MethodName) prog_14_method_40_code 3 (some .boolean)).before args0 about = true :=
  sv_hand_word (m := ⟨14, 39⟩) (by decide +kernel) rfl (by decide +kernel) (by decide +kernel)
theorem start2.code327 : (Jvm.Cond.code (⟨"SeattableModel", "setPost", "(II)V"⟩ : Jvm.MethodName) prog_14_method_42_code 3 none).before args0 about = true :=
  sv_hand_word (m := ⟨14, 41⟩) (by decide +kernel) rfl (by decide +kernel) (by decide +kernel)
theorem start2.code328 : (Jvm.Cond.code (⟨"SeattableModel", "type", "(JJJJJJ)I"⟩ : Jvm.MethodName) prog_14_method_44_code 15 (some .int)).before args0 about = true :=
  sv_hand_word (m := ⟨14, 43⟩) (by decide +kernel) rfl (by decide +kernel) (by decide +kernel)
theorem start2.code329 : (Jvm.Cond.code (⟨"SeattableModel", "typed", "(JI[I)I"⟩ : Jvm.MethodName) prog_14_method_43_code 8 (some .int)).before args0 about = true :=
  sv_hand_word (m := ⟨14, 42⟩) (by decide +kernel) rfl (by decide +kernel) (by decide +kernel)
theorem start2.code330 : (Jvm.Cond.code (⟨"SeattableModel", "clearText", "()I"⟩ : Jvm.MethodName) prog_14_method_45_code 2 (some .int)).before args0 about = true :=
  sv_hand_word (m := ⟨14, 44⟩) (by decide +kernel) rfl (by decide +kernel) (by decide +kernel)
theorem start2.code331 : (Jvm.Cond.code (⟨"SeattableModel", "errorKind", "()I"⟩ : Jvm.MethodName) prog_14_method_60_code 1 (some .int)).before args0 about = true :=
  sv_hand_word (m := ⟨14, 59⟩) (by decide +kernel) rfl (by decide +kernel) (by decide +kernel)
theorem start2.code332 : (Jvm.Cond.code (⟨"SeattableModel", "reads", "()V"⟩ : Jvm.MethodName) prog_14_method_59_code 1 none).before args0 about = true :=
  sv_hand_word (m := ⟨14, 58⟩) (by decide +kernel) rfl (by decide +kernel) (by decide +kernel)
theorem start2.code333 : (Jvm.Cond.code (⟨"java/util/ArrayList", "clear", "()V"⟩ : Jvm.MethodName) prog_44_method_40_code 4 none).before args0 about = true :=
  sv_hand_word (m := ⟨53, 11⟩) (by decide +kernel) rfl (by decide +kernel) (by decide +kernel)
theorem start2.code334 : (Jvm.Cond.code (⟨"SeattableModel", "next", "()V"⟩ : Jvm.MethodName) prog_14_method_50_code 3 none).before args0 about = true :=
  sv_hand_word (m := ⟨14, 49⟩) (by decide +kernel) rfl (by decide +kernel) (by decide +kernel)
theorem start2.code335 : (Jvm.Cond.code (⟨"SeattableModel", "byteAt", "(I)I"⟩ : Jvm.MethodName) prog_14_method_46_code 2 (some .int)).before args0 about = true :=
  sv_hand_word (m := ⟨14, 45⟩) (by decide +kernel) rfl (by decide +kernel) (by decide +kernel)
theorem start2.code336 : (Jvm.Cond.code (⟨"SeattableModel", "isLetter", "(I)Z"⟩ : Jvm.MethodName) prog_14_method_47_code 1 (some .boolean)).before args0 about = true :=
  sv_hand_word (m := ⟨14, 46⟩) (by decide +kernel) rfl (by decide +kernel) (by decide +kernel)
theorem start2.code337 : (Jvm.Cond.code (⟨"java/lang/StringBuilder", "<init>", "()V"⟩ : Jvm.MethodName) prog_35_method_1_code 1 none).before args0 about = true :=
  sv_hand_word (m := ⟨42, 0⟩) (by decide +kernel) rfl (by decide +kernel) (by decide +kernel)
theorem start2.code338 : (Jvm.Cond.code (⟨"java/lang/AbstractStringBuilder", "<init>", "(I)V"⟩ : Jvm.MethodName) prog_19_method_2_code 2 none).before args0 about = true :=
  sv_hand_word (m := ⟨37, 0⟩) (by decide +kernel) rfl (by decide +kernel) (by decide +kernel)
theorem start2.code339 : (Jvm.Cond.code (⟨"java/lang/StringUTF16", "newBytesFor", "(I)[B"⟩ : Jvm.MethodName) prog_37_method_2_code 1 (some (.array .byte))).before args0 about = true :=
  sv_hand_word (m := ⟨23, 0⟩) (by decide +kernel) rfl (by decide +kernel) (by decide +kernel)
theorem start2.code340 : (Jvm.Cond.code (⟨"java/lang/StringUTF16", "newBytesLength", "(I)I"⟩ : Jvm.MethodName) prog_37_method_3_code 1 (some .int)).before args0 about = true :=
  sv_hand_word (m := ⟨23, 1⟩) (by decide +kernel) rfl (by decide +kernel) (by decide +kernel)
theorem start2.code341 : (Jvm.Cond.code (⟨"java/lang/StringBuilder", "append", "(C)Ljava/lang/StringBuilder;"⟩ : Jvm.MethodName) prog_35_method_14_code 2 (some (.object "java/lang/StringBuilder"))).before args0 about = true :=
  sv_hand_word (m := ⟨42, 2⟩) (by decide +kernel) rfl (by decide +kernel) (by decide +kernel)
theorem start2.code342 : (Jvm.Cond.code (⟨"java/lang/AbstractStringBuilder", "append", "(C)Ljava/lang/AbstractStringBuilder;"⟩ : Jvm.MethodName) prog_19_method_31_code 2 (some (.object "java/lang/AbstractStringBuilder"))).before args0 about = true :=
  sv_hand_word (m := ⟨37, 7⟩) (by decide +kernel) rfl (by decide +kernel) (by decide +kernel)
theorem start2.code343 : (Jvm.Cond.code (⟨"java/lang/AbstractStringBuilder", "ensureCapacityInternal", "(I)V"⟩ : Jvm.MethodName) prog_19_method_9_code 3 none).before args0 about = true :=
  sv_hand_word (m := ⟨37, 2⟩) (by decide +kernel) rfl (by decide +kernel) (by decide +kernel)
theorem start2.code344 : (Jvm.Cond.code (⟨"java/lang/AbstractStringBuilder", "newCapacity", "(I)I"⟩ : Jvm.MethodName) prog_19_method_10_code 6 (some .int)).before args0 about = true :=
  sv_hand_word (m := ⟨37, 3⟩) (by decide +kernel) rfl (by decide +kernel) (by decide +kernel)
theorem start2.code345 : (Jvm.Cond.code (⟨"java/util/Arrays", "copyOf", "([BI)[B"⟩ : Jvm.MethodName) prog_45_method_121_code 3 (some (.array .byte))).before args0 about = true :=
  sv_hand_word (m := ⟨21, 2⟩) (by decide +kernel) rfl (by decide +kernel) (by decide +kernel)
theorem start2.code346 : (Jvm.Cond.code (⟨"java/lang/AbstractStringBuilder", "isLatin1", "()Z"⟩ : Jvm.MethodName) prog_19_method_68_code 1 (some .boolean)).before args0 about = true :=
  sv_hand_word (m := ⟨37, 10⟩) (by decide +kernel) rfl (by decide +kernel) (by decide +kernel)
theorem start2.code347 : (Jvm.Cond.code (⟨"java/lang/StringLatin1", "canEncode", "(C)Z"⟩ : Jvm.MethodName) prog_36_method_3_code 1 (some .boolean)).before args0 about = true :=
  sv_hand_word (m := ⟨22, 1⟩) (by decide +kernel) rfl (by decide +kernel) (by decide +kernel)
theorem start2.code348 : (Jvm.Cond.code (⟨"java/lang/AbstractStringBuilder", "inflate", "()V"⟩ : Jvm.MethodName) prog_19_method_11_code 2 none).before args0 about = true :=
  sv_hand_word (m := ⟨37, 4⟩) (by decide +kernel) rfl (by decide +kernel) (by decide +kernel)
theorem start2.code349 : (Jvm.Cond.code (⟨"java/lang/StringLatin1", "inflate", "([BI[BII)V"⟩ : Jvm.MethodName) prog_36_method_50_code 5 none).before args0 about = true :=
  sv_hand_word (m := ⟨22, 3⟩) (by decide +kernel) rfl (by decide +kernel) (by decide +kernel)
theorem start2.code350 : (Jvm.Cond.code (⟨"java/lang/StringUTF16", "inflate", "([BI[BII)V"⟩ : Jvm.MethodName) prog_37_method_86_code 6 none).before args0 about = true :=
  sv_hand_word (m := ⟨23, 12⟩) (by decide +kernel) rfl (by decide +kernel) (by decide +kernel)
theorem start2.code351 : (Jvm.Cond.code (⟨"java/lang/StringUTF16", "checkBoundsOffCount", "(II[B)V"⟩ : Jvm.MethodName) prog_37_method_94_code 3 none).before args0 about = true :=
  sv_hand_word (m := ⟨23, 16⟩) (by decide +kernel) rfl (by decide +kernel) (by decide +kernel)
theorem start2.code352 : (Jvm.Cond.code (⟨"java/lang/String", "checkBoundsOffCount", "(III)I"⟩ : Jvm.MethodName) prog_34_method_157_code 3 (some .int)).before args0 about = true :=
  sv_hand_word (m := ⟨36, 9⟩) (by decide +kernel) rfl (by decide +kernel) (by decide +kernel)
theorem start2.code353 : (Jvm.Cond.code (⟨"jdk/internal/util/Preconditions", "checkFromIndexSize", "(IIILjava/util/function/BiFunction;)I"⟩ : Jvm.MethodName) prog_53_method_13_code 4 (some .int)).before args0 about = true :=
  sv_hand_word (m := ⟨18, 2⟩) (by decide +kernel) rfl (by decide +kernel) (by decide +kernel)

set_option maxRecDepth 16384 in
theorem start2.codes_are_11 : tables_1_11.filter sv_isCode = [Jvm.Cond.code (⟨"java/util/ArrayList", "add", "(Ljava/lang/Object;[Ljava/lang/Object;I)V"⟩ : Jvm.MethodName) prog_44_method_24_code 4 none,
    Jvm.Cond.code (⟨"java/util/ArrayList", "grow", "()[Ljava/lang/Object;"⟩ : Jvm.MethodName) prog_44_method_7_code 1 (some (.array (.object "java/lang/Object"))),
    Jvm.Cond.code (⟨"java/util/ArrayList", "grow", "(I)[Ljava/lang/Object;"⟩ : Jvm.MethodName) prog_44_method_6_code 4 (some (.array (.object "java/lang/Object"))),
    Jvm.Cond.code (⟨"jdk/internal/util/ArraysSupport", "newLength", "(III)I"⟩ : Jvm.MethodName) prog_52_method_27_code 4 (some .int),
    Jvm.Cond.code (⟨"jdk/internal/util/ArraysSupport", "hugeLength", "(II)I"⟩ : Jvm.MethodName) prog_52_method_28_code 3 (some .int),
    Jvm.Cond.code (⟨"java/util/Arrays", "copyOf", "([Ljava/lang/Object;I)[Ljava/lang/Object;"⟩ : Jvm.MethodName) prog_45_method_119_code 2 (some (.array (.object "java/lang/Object"))),
    Jvm.Cond.code (⟨"java/util/Arrays", "copyOf", "([Ljava/lang/Object;ILjava/lang/Class;)[Ljava/lang/Object;"⟩ : Jvm.MethodName) prog_45_method_120_code 4 (some (.array (.object "java/lang/Object"))),
    Jvm.Cond.code (⟨"java/lang/Math", "min", "(II)I"⟩ : Jvm.MethodName) prog_31_method_69_code 2 (some .int),
    Jvm.Cond.code (⟨"SeattableModel$State", "<init>", "(LSeattableModel$State;)V"⟩ : Jvm.MethodName) prog_17_method_2_code 2 none,
    Jvm.Cond.code (⟨"SeattableModel", "same", "([I)[I"⟩ : Jvm.MethodName) prog_14_method_18_code 2 (some (.array .int)),
    Jvm.Cond.code (⟨"SeattableModel", "addLand", "()I"⟩ : Jvm.MethodName) prog_14_method_33_code 1 (some .int),
    Jvm.Cond.code (⟨"SeattableModel", "setVotes", "(III)I"⟩ : Jvm.MethodName) prog_14_method_34_code 5 (some .int),
    Jvm.Cond.code (⟨"SeattableModel", "isParty", "(I)Z"⟩ : Jvm.MethodName) prog_14_method_21_code 2 (some .boolean),
    Jvm.Cond.code (⟨"SeattableModel", "isLand", "(I)Z"⟩ : Jvm.MethodName) prog_14_method_22_code 2 (some .boolean),
    Jvm.Cond.code (⟨"SeattableModel", "fine", "(ZZ)Z"⟩ : Jvm.MethodName) prog_14_method_4_code 3 (some .boolean),
    Jvm.Cond.code (⟨"SeattableModel", "setPeople", "(II)I"⟩ : Jvm.MethodName) prog_14_method_35_code 4 (some .int),
    Jvm.Cond.code (⟨"SeattableModel", "setBounds", "(ZIII)V"⟩ : Jvm.MethodName) prog_14_method_38_code 5 none,
    Jvm.Cond.code (⟨"SeattableModel", "isThere", "(ZI)Z"⟩ : Jvm.MethodName) prog_14_method_36_code 3 (some .boolean),
    Jvm.Cond.code (⟨"SeattableModel", "place", "(ZI)I"⟩ : Jvm.MethodName) prog_14_method_37_code 2 (some .int),
    Jvm.Cond.code (⟨"SeattableModel", "setSum", "(ZII)I"⟩ : Jvm.MethodName) prog_14_method_39_code 5 (some .int),
    Jvm.Cond.code (⟨"SeattableModel", "setBar", "(II)V"⟩ : Jvm.MethodName) prog_14_method_41_code 3 none,
    Jvm.Cond.code (⟨"SeattableModel", "isShare", "(III)Z"⟩ : Jvm.MethodName) prog_14_method_40_code 3 (some .boolean),
    Jvm.Cond.code (⟨"SeattableModel", "setPost", "(II)V"⟩ : Jvm.MethodName) prog_14_method_42_code 3 none,
    Jvm.Cond.code (⟨"SeattableModel", "type", "(JJJJJJ)I"⟩ : Jvm.MethodName) prog_14_method_44_code 15 (some .int),
    Jvm.Cond.code (⟨"SeattableModel", "typed", "(JI[I)I"⟩ : Jvm.MethodName) prog_14_method_43_code 8 (some .int),
    Jvm.Cond.code (⟨"SeattableModel", "clearText", "()I"⟩ : Jvm.MethodName) prog_14_method_45_code 2 (some .int),
    Jvm.Cond.code (⟨"SeattableModel", "errorKind", "()I"⟩ : Jvm.MethodName) prog_14_method_60_code 1 (some .int),
    Jvm.Cond.code (⟨"SeattableModel", "reads", "()V"⟩ : Jvm.MethodName) prog_14_method_59_code 1 none,
    Jvm.Cond.code (⟨"java/util/ArrayList", "clear", "()V"⟩ : Jvm.MethodName) prog_44_method_40_code 4 none,
    Jvm.Cond.code (⟨"SeattableModel", "next", "()V"⟩ : Jvm.MethodName) prog_14_method_50_code 3 none,
    Jvm.Cond.code (⟨"SeattableModel", "byteAt", "(I)I"⟩ : Jvm.MethodName) prog_14_method_46_code 2 (some .int),
    Jvm.Cond.code (⟨"SeattableModel", "isLetter", "(I)Z"⟩ : Jvm.MethodName) prog_14_method_47_code 1 (some .boolean),
    Jvm.Cond.code (⟨"java/lang/StringBuilder", "<init>", "()V"⟩ : Jvm.MethodName) prog_35_method_1_code 1 none,
    Jvm.Cond.code (⟨"java/lang/AbstractStringBuilder", "<init>", "(I)V"⟩ : Jvm.MethodName) prog_19_method_2_code 2 none,
    Jvm.Cond.code (⟨"java/lang/StringUTF16", "newBytesFor", "(I)[B"⟩ : Jvm.MethodName) prog_37_method_2_code 1 (some (.array .byte)),
    Jvm.Cond.code (⟨"java/lang/StringUTF16", "newBytesLength", "(I)I"⟩ : Jvm.MethodName) prog_37_method_3_code 1 (some .int),
    Jvm.Cond.code (⟨"java/lang/StringBuilder", "append", "(C)Ljava/lang/StringBuilder;"⟩ : Jvm.MethodName) prog_35_method_14_code 2 (some (.object "java/lang/StringBuilder")),
    Jvm.Cond.code (⟨"java/lang/AbstractStringBuilder", "append", "(C)Ljava/lang/AbstractStringBuilder;"⟩ : Jvm.MethodName) prog_19_method_31_code 2 (some (.object "java/lang/AbstractStringBuilder")),
    Jvm.Cond.code (⟨"java/lang/AbstractStringBuilder", "ensureCapacityInternal", "(I)V"⟩ : Jvm.MethodName) prog_19_method_9_code 3 none,
    Jvm.Cond.code (⟨"java/lang/AbstractStringBuilder", "newCapacity", "(I)I"⟩ : Jvm.MethodName) prog_19_method_10_code 6 (some .int),
    Jvm.Cond.code (⟨"java/util/Arrays", "copyOf", "([BI)[B"⟩ : Jvm.MethodName) prog_45_method_121_code 3 (some (.array .byte)),
    Jvm.Cond.code (⟨"java/lang/AbstractStringBuilder", "isLatin1", "()Z"⟩ : Jvm.MethodName) prog_19_method_68_code 1 (some .boolean),
    Jvm.Cond.code (⟨"java/lang/StringLatin1", "canEncode", "(C)Z"⟩ : Jvm.MethodName) prog_36_method_3_code 1 (some .boolean),
    Jvm.Cond.code (⟨"java/lang/AbstractStringBuilder", "inflate", "()V"⟩ : Jvm.MethodName) prog_19_method_11_code 2 none,
    Jvm.Cond.code (⟨"java/lang/StringLatin1", "inflate", "([BI[BII)V"⟩ : Jvm.MethodName) prog_36_method_50_code 5 none,
    Jvm.Cond.code (⟨"java/lang/StringUTF16", "inflate", "([BI[BII)V"⟩ : Jvm.MethodName) prog_37_method_86_code 6 none,
    Jvm.Cond.code (⟨"java/lang/StringUTF16", "checkBoundsOffCount", "(II[B)V"⟩ : Jvm.MethodName) prog_37_method_94_code 3 none,
    Jvm.Cond.code (⟨"java/lang/String", "checkBoundsOffCount", "(III)I"⟩ : Jvm.MethodName) prog_34_method_157_code 3 (some .int),
    Jvm.Cond.code (⟨"jdk/internal/util/Preconditions", "checkFromIndexSize", "(IIILjava/util/function/BiFunction;)I"⟩ : Jvm.MethodName) prog_53_method_13_code 4 (some .int)] := by
  first
  | rfl
  | simp only [tables_1_11, List.filter, sv_isCode]
theorem start2.codes_hold_11 : ∀ c ∈ tables_1_11.filter sv_isCode, c.before args0 about = true := by
  rw [codes_are_11]
  exact List.forall_mem_cons.mpr ⟨code305, List.forall_mem_cons.mpr ⟨code306, List.forall_mem_cons.mpr ⟨code307, List.forall_mem_cons.mpr ⟨code308, List.forall_mem_cons.mpr ⟨code309, List.forall_mem_cons.mpr ⟨code310, List.forall_mem_cons.mpr ⟨code311, List.forall_mem_cons.mpr ⟨code312, List.forall_mem_cons.mpr ⟨code313, List.forall_mem_cons.mpr ⟨code314, List.forall_mem_cons.mpr ⟨code315, List.forall_mem_cons.mpr ⟨code316, List.forall_mem_cons.mpr ⟨code317, List.forall_mem_cons.mpr ⟨code318, List.forall_mem_cons.mpr ⟨code319, List.forall_mem_cons.mpr ⟨code320, List.forall_mem_cons.mpr ⟨code321, List.forall_mem_cons.mpr ⟨code322, List.forall_mem_cons.mpr ⟨code323, List.forall_mem_cons.mpr ⟨code324, List.forall_mem_cons.mpr ⟨code325, List.forall_mem_cons.mpr ⟨code326, List.forall_mem_cons.mpr ⟨code327, List.forall_mem_cons.mpr ⟨code328, List.forall_mem_cons.mpr ⟨code329, List.forall_mem_cons.mpr ⟨code330, List.forall_mem_cons.mpr ⟨code331, List.forall_mem_cons.mpr ⟨code332, List.forall_mem_cons.mpr ⟨code333, List.forall_mem_cons.mpr ⟨code334, List.forall_mem_cons.mpr ⟨code335, List.forall_mem_cons.mpr ⟨code336, List.forall_mem_cons.mpr ⟨code337, List.forall_mem_cons.mpr ⟨code338, List.forall_mem_cons.mpr ⟨code339, List.forall_mem_cons.mpr ⟨code340, List.forall_mem_cons.mpr ⟨code341, List.forall_mem_cons.mpr ⟨code342, List.forall_mem_cons.mpr ⟨code343, List.forall_mem_cons.mpr ⟨code344, List.forall_mem_cons.mpr ⟨code345, List.forall_mem_cons.mpr ⟨code346, List.forall_mem_cons.mpr ⟨code347, List.forall_mem_cons.mpr ⟨code348, List.forall_mem_cons.mpr ⟨code349, List.forall_mem_cons.mpr ⟨code350, List.forall_mem_cons.mpr ⟨code351, List.forall_mem_cons.mpr ⟨code352, List.forall_mem_cons.mpr ⟨code353, List.forall_mem_nil _⟩⟩⟩⟩⟩⟩⟩⟩⟩⟩⟩⟩⟩⟩⟩⟩⟩⟩⟩⟩⟩⟩⟩⟩⟩⟩⟩⟩⟩⟩⟩⟩⟩⟩⟩⟩⟩⟩⟩⟩⟩⟩⟩⟩⟩⟩⟩⟩⟩
set_option maxRecDepth 16384 in
theorem start2.others_11_0 : (tables_1_11.take 34).all (fun c => sv_isCode c || c.before args0 about) = true := by decide +kernel
set_option maxRecDepth 16384 in
theorem start2.others_11_1 : ((tables_1_11.drop 34).take 23).all (fun c => sv_isCode c || c.before args0 about) = true := by decide +kernel

set_option maxRecDepth 16384

set_option maxRecDepth 16384 in
theorem start2.others_13_16 : ((((((((((((((((tables_1_13.drop 13).drop 13).drop 13).drop 13).drop 13).drop 13).drop 13).drop 13).drop 18).drop 32).drop 13).drop 13).drop 13).drop 13).drop 13).drop 13).all (fun c => sv_isCode c || c.before args0 about) = true := by decide +kernel
theorem start2.others_hold_13 : tables_1_13.all (fun c => sv_isCode c || c.before args0 about) = true := sv_all_split _ 13 tables_1_13 others_13_0 (sv_all_split _ 13 (tables_1_13.drop 13) others_13_1 (sv_all_split _ 13 ((tables_1_13.drop 13).drop 13) others_13_2 (sv_all_split _ 13 (((tables_1_13.drop 13).drop 13).drop 13) others_13_3 (sv_all_split _ 13 ((((tables_1_13.drop 13).drop 13).drop 13).drop 13) others_13_4 (sv_all_split _ 13 (((((tables_1_13.drop 13).drop 13).drop 13).drop 13).drop 13) others_13_5 (sv_all_split _ 13 ((((((tables_1_13.drop 13).drop 13).drop 13).drop 13).drop 13).drop 13) others_13_6 (sv_all_split _ 13 (((((((tables_1_13.drop 13).drop 13).drop 13).drop 13).drop 13).drop 13).drop 13) others_13_7 (sv_all_split _ 18 ((((((((tables_1_13.drop 13).drop 13).drop 13).drop 13).drop 13).drop 13).drop 13).drop 13) others_13_8 (sv_all_split _ 32 (((((((((tables_1_13.drop 13).drop 13).drop 13).drop 13).drop 13).drop 13).drop 13).drop 13).drop 18) others_13_9 (sv_all_split _ 13 ((((((((((tables_1_13.drop 13).drop 13).drop 13).drop 13).drop 13).drop 13).drop 13).drop 13).drop 18).drop 32) others_13_10 (sv_all_split _ 13 (((((((((((tables_1_13.drop 13).drop 13).drop 13).drop 13).drop 13).drop 13).drop 13).drop 13).drop 18).drop 32).drop 13) others_13_11 (sv_all_split _ 13 ((((((((((((tables_1_13.drop 13).drop 13).drop 13).drop 13).drop 13).drop 13).drop 13).drop 13).drop 18).drop 32).drop 13).drop 13) others_13_12 (sv_all_split _ 13 (((((((((((((tables_1_13.drop 13).drop 13).drop 13).drop 13).drop 13).drop 13).drop 13).drop 13).drop 18).drop 32).drop 13).drop 13).drop 13) others_13_13 (sv_all_split _ 13 ((((((((((((((tables_1_13.drop 13).drop 13).drop 13).drop 13).drop 13).drop 13).drop 13).drop 13).drop 18).drop 32).drop 13).drop 13).drop 13).drop 13) others_13_14 (sv_all_split _ 13 (((((((((((((((tables_1_13.drop 13).drop 13).drop 13).drop 13).drop 13).drop 13).drop 13).drop 13).drop 18).drop 32).drop 13).drop 13).drop 13).drop 13).drop 13) others_13_15 others_13_16)))))))))))))))
theorem start2.words_13 : ∀ c ∈ tables_1_13, c.before args0 about = true := fun c h => sv_words others_hold_13 codes_hold_13 c h

theorem start2.code462 : (Jvm.Cond.code (⟨"SeattableModel", "setCandidates", "(I)I"⟩ : Jvm.MethodName) prog_14_method_109_code 3 (some .int)).before args0 about = true :=
  sv_hand_word (m := ⟨14, 108⟩) (by decide +kernel) rfl (by decide +kernel) (by decide +kernel)
theorem start2.code463 : (Jvm.Cond.code (⟨"SeattableModel", "addBallot", "(II)I"⟩ : Jvm.MethodName) prog_14_method_111_code 3 (some .int)).before args0 about = true :=
  sv_hand_word (m := ⟨14, 110⟩) (by decide +kernel) rfl (by decide +kernel) (by decide +kernel)
theorem start2.code464 : (Jvm.Cond.code (⟨"SeattableModel", "isRow", "(I)Z"⟩ : Jvm.MethodName) prog_14_method_110_code 5 (some .boolean)).before args0 about = true :=
  sv_hand_word (m := ⟨14, 109⟩) (by decide +kernel) rfl (by decide +kernel) (by decide +kernel)
theorem start2.code465 : (Jvm.Cond.code (⟨"SeattableModel", "elect", "(III)I"⟩ : Jvm.MethodName) prog_14_method_123_code 8 (some .int)).before args0 about = true :=
  sv_hand_word (m := ⟨14, 122⟩) (by decide +kernel) rfl (by decide +kernel) (by decide +kernel)
theorem start2.code466 : (Jvm.Cond.code (⟨"SeattableModel", "beginsCount", "(II)V"⟩ : Jvm.MethodName) prog_14_method_113_code 7 none).before args0 about = true :=
  sv_hand_word (m := ⟨14, 112⟩) (by decide +kernel) rfl (by decide +kernel) (by decide +kernel)
theorem start2.code467 : (Jvm.Cond.code (⟨"SeattableModel", "choices", "(I)[I"⟩ : Jvm.MethodName) prog_14_method_112_code 5 (some (.array .int))).before args0 about = true :=
  sv_hand_word (m := ⟨14, 111⟩) (by decide +kernel) rfl (by decide +kernel) (by decide +kernel)
theorem start2.code468 : (Jvm.Cond.code (⟨"SeattableModel$Count", "<init>", "()V"⟩ : Jvm.MethodName) prog_15_method_1_code 1 none).before args0 about = true :=
  sv_hand_word (m := ⟨25, 0⟩) (by decide +kernel) rfl (by decide +kernel) (by decide +kernel)
theorem start2.code469 : (Jvm.Cond.code (⟨"SeattableModel", "remembers", "(LSeattableModel$Count;)V"⟩ : Jvm.MethodName) prog_14_method_121_code 4 none).before args0 about = true :=
  sv_hand_word (m := ⟨14, 120⟩) (by decide +kernel) rfl (by decide +kernel) (by decide +kernel)
theorem start2.code470 : (Jvm.Cond.code (⟨"SeattableModel", "votesOf", "(I)[I"⟩ : Jvm.MethodName) prog_14_method_114_code 4 (some (.array .int))).before args0 about = true :=
  sv_hand_word (m := ⟨14, 113⟩) (by decide +kernel) rfl (by decide +kernel) (by decide +kernel)
theorem start2.code471 : (Jvm.Cond.code (⟨"SeattableModel", "rounds", "(IIII)Z"⟩ : Jvm.MethodName) prog_14_method_122_code 9 (some .boolean)).before args0 about = true :=
  sv_hand_word (m := ⟨14, 121⟩) (by decide +kernel) rfl (by decide +kernel) (by decide +kernel)
theorem start2.code472 : (Jvm.Cond.code (⟨"SeattableModel", "many", "(I)I"⟩ : Jvm.MethodName) prog_14_method_115_code 4 (some .int)).before args0 about = true :=
  sv_hand_word (m := ⟨14, 114⟩) (by decide +kernel) rfl (by decide +kernel) (by decide +kernel)
theorem start2.code473 : (Jvm.Cond.code (⟨"SeattableModel", "most", "()I"⟩ : Jvm.MethodName) prog_14_method_119_code 3 (some .int)).before args0 about = true :=
  sv_hand_word (m := ⟨14, 118⟩) (by decide +kernel) rfl (by decide +kernel) (by decide +kernel)
theorem start2.code474 : (Jvm.Cond.code (⟨"SeattableModel", "movesSurplus", "(III)V"⟩ : Jvm.MethodName) prog_14_method_118_code 14 none).before args0 about = true :=
  sv_hand_word (m := ⟨14, 117⟩) (by decide +kernel) rfl (by decide +kernel) (by decide +kernel)
theorem start2.code475 : (Jvm.Cond.code (⟨"SeattableModel", "refines", "([I)V"⟩ : Jvm.MethodName) prog_14_method_117_code 3 none).before args0 about = true :=
  sv_hand_word (m := ⟨14, 116⟩) (by decide +kernel) rfl (by decide +kernel) (by decide +kernel)
theorem start2.code476 : (Jvm.Cond.code (⟨"SeattableModel", "goesOn", "(II)V"⟩ : Jvm.MethodName) prog_14_method_116_code 5 none).before args0 about = true :=
  sv_hand_word (m := ⟨14, 115⟩) (by decide +kernel) rfl (by decide +kernel) (by decide +kernel)
theorem start2.code477 : (Jvm.Cond.code (⟨"SeattableModel", "fewest", "()I"⟩ : Jvm.MethodName) prog_14_method_120_code 3 (some .int)).before args0 about = true :=
  sv_hand_word (m := ⟨14, 119⟩) (by decide +kernel) rfl (by decide +kernel) (by decide +kernel)
theorem start2.code478 : (Jvm.Cond.code (⟨"SeattableModel", "electedAt", "(I)I"⟩ : Jvm.MethodName) prog_14_method_124_code 3 (some .int)).before args0 about = true :=
  sv_hand_word (m := ⟨14, 123⟩) (by decide +kernel) rfl (by decide +kernel) (by decide +kernel)
theorem start2.code479 : (Jvm.Cond.code (⟨"SeattableModel", "votesAt", "(II)I"⟩ : Jvm.MethodName) prog_14_method_125_code 5 (some .int)).before args0 about = true :=
  sv_hand_word (m := ⟨14, 124⟩) (by decide +kernel) rfl (by decide +kernel) (by decide +kernel)
theorem start2.code480 : (Jvm.Cond.code (⟨"SeattableModel", "openAt", "(III)I"⟩ : Jvm.MethodName) prog_14_method_127_code 11 (some .int)).before args0 about = true :=
  sv_hand_word (m := ⟨14, 126⟩) (by decide +kernel) rfl (by decide +kernel) (by decide +kernel)
theorem start2.code481 : (Jvm.Cond.code (⟨"SeattableModel", "firstVotes", "()[I"⟩ : Jvm.MethodName) prog_14_method_126_code 4 (some (.array .int))).before args0 about = true :=
  sv_hand_word (m := ⟨14, 125⟩) (by decide +kernel) rfl (by decide +kernel) (by decide +kernel)
theorem start2.code482 : (Jvm.Cond.code (⟨"SeattableModel", "addBlock", "(III)I"⟩ : Jvm.MethodName) prog_14_method_128_code 4 (some .int)).before args0 about = true :=
  sv_hand_word (m := ⟨14, 127⟩) (by decide +kernel) rfl (by decide +kernel) (by decide +kernel)
theorem start2.code483 : (Jvm.Cond.code (⟨"SeattableModel", "join", "(II)Z"⟩ : Jvm.MethodName) prog_14_method_129_code 4 (some .boolean)).before args0 about = true :=
  sv_hand_word (m := ⟨14, 128⟩) (by decide +kernel) rfl (by decide +kernel) (by decide +kernel)
theorem start2.code484 : (Jvm.Cond.code (⟨"SeattableModel", "maps", "(II)I"⟩ : Jvm.MethodName) prog_14_method_136_code 3 (some .int)).before args0 about = true :=
  sv_hand_word (m := ⟨14, 135⟩) (by decide +kernel) rfl (by decide +kernel) (by decide +kernel)
theorem start2.code485 : (Jvm.Cond.code (⟨"SeattableModel", "allMaps", "(IIZ)V"⟩ : Jvm.MethodName) prog_14_method_134_code 7 none).before args0 about = true :=
  sv_hand_word (m := ⟨14, 133⟩) (by decide +kernel) rfl (by decide +kernel) (by decide +kernel)
theorem start2.code486 : (Jvm.Cond.code (⟨"SeattableModel", "looks", "(IIZ)V"⟩ : Jvm.MethodName) prog_14_method_133_code 10 none).before args0 about = true :=
  sv_hand_word (m := ⟨14, 132⟩) (by decide +kernel) rfl (by decide +kernel) (by decide +kernel)
theorem start2.code487 : (Jvm.Cond.code (⟨"SeattableModel", "sumOf", "(II)I"⟩ : Jvm.MethodName) prog_14_method_131_code 5 (some .int)).before args0 about = true :=
  sv_hand_word (m := ⟨14, 130⟩) (by decide +kernel) rfl (by decide +kernel) (by decide +kernel)
theorem start2.code488 : (Jvm.Cond.code (⟨"SeattableModel", "isTogether", "(I)Z"⟩ : Jvm.MethodName) prog_14_method_130_code 5 (some .boolean)).before args0 about = true :=
  sv_hand_word (m := ⟨14, 129⟩) (by decide +kernel) rfl (by decide +kernel) (by decide +kernel)
theorem start2.code489 : (Jvm.Cond.code (⟨"SeattableModel", "rim", "()I"⟩ : Jvm.MethodName) prog_14_method_132_code 4 (some .int)).before args0 about = true :=
  sv_hand_word (m := ⟨14, 131⟩) (by decide +kernel) rfl (by decide +kernel) (by decide +kernel)
theorem start2.code490 : (Jvm.Cond.code (⟨"SeattableModel", "steps", "(I)Z"⟩ : Jvm.MethodName) prog_14_method_135_code 5 (some .boolean)).before args0 about = true :=
  sv_hand_word (m := ⟨14, 134⟩) (by decide +kernel) rfl (by decide +kernel) (by decide +kernel)
theorem start2.code491 : (Jvm.Cond.code (⟨"SeattableModel", "districtAt", "(II)I"⟩ : Jvm.MethodName) prog_14_method_137_code 5 (some .int)).before args0 about = true :=
  sv_hand_word (m := ⟨14, 136⟩) (by decide +kernel) rfl (by decide +kernel) (by decide +kernel)
theorem start2.code492 : (Jvm.Cond.code (⟨"SeattableModel", "fine", "(ZZZ)Z"⟩ : Jvm.MethodName) prog_14_method_5_code 4 (some .boolean)).before args0 about = true :=
  sv_hand_word (m := ⟨14, 4⟩) (by decide +kernel) rfl (by decide +kernel) (by decide +kernel)
theorem start2.code493 : (Jvm.Cond.code (⟨"SeattableModel", "tilt", "(IIZ)I"⟩ : Jvm.MethodName) prog_14_method_138_code 4 (some .int)).before args0 about = true :=
  sv_hand_word (m := ⟨14, 137⟩) (by decide +kernel) rfl (by decide +kernel) (by decide +kernel)
theorem start2.code494 : (Jvm.Cond.code (⟨"SeattableModel", "addPerson", "(III)I"⟩ : Jvm.MethodName) prog_14_method_139_code 4 (some .int)).before args0 about = true :=
  sv_hand_word (m := ⟨14, 138⟩) (by decide +kernel) rfl (by decide +kernel) (by decide +kernel)
theorem start2.code495 : (Jvm.Cond.code (⟨"SeattableModel", "want", "(III)I"⟩ : Jvm.MethodName) prog_14_method_140_code 5 (some .int)).before args0 about = true :=
  sv_hand_word (m := ⟨14, 139⟩) (by decide +kernel) rfl (by decide +kernel) (by decide +kernel)
theorem start2.code496 : (Jvm.Cond.code (⟨"SeattableModel", "panels", "(II)I"⟩ : Jvm.MethodName) prog_14_method_142_code 5 (some .int)).before args0 about = true :=
  sv_hand_word (m := ⟨14, 141⟩) (by decide +kernel) rfl (by decide +kernel) (by decide +kernel)
theorem start2.code497 : (Jvm.Cond.code (⟨"SeattableModel", "isPanel", "(II)Z"⟩ : Jvm.MethodName) prog_14_method_141_code 6 (some .boolean)).before args0 about = true :=
  sv_hand_word (m := ⟨14, 140⟩) (by decide +kernel) rfl (by decide +kernel) (by decide +kernel)
theorem start2.code498 : (Jvm.Cond.code (⟨"SeattableModel", "chance", "(I)I"⟩ : Jvm.MethodName) prog_14_method_147_code 9 (some .int)).before args0 about = true :=
  sv_hand_word (m := ⟨14, 146⟩) (by decide +kernel) rfl (by decide +kernel) (by decide +kernel)
theorem start2.code499 : (Jvm.Cond.code (⟨"SeattableModel", "lays", "(III)V"⟩ : Jvm.MethodName) prog_14_method_148_code 8 none).before args0 about = true :=
  sv_hand_word (m := ⟨14, 147⟩) (by decide +kernel) rfl (by decide +kernel) (by decide +kernel)
theorem start2.code500 : (Jvm.Cond.code (⟨"SeattableModel", "setBoard", "(IJJ)V"⟩ : Jvm.MethodName) prog_14_method_144_code 8 none).before args0 about = true :=
  sv_hand_word (m := ⟨14, 143⟩) (by decide +kernel) rfl (by decide +kernel) (by decide +kernel)
theorem start2.code501 : (Jvm.Cond.code (⟨"SeattableModel", "commonOf", "(JJ)J"⟩ : Jvm.MethodName) prog_14_method_143_code 10 (some .long)).before args0 about = true :=
  sv_hand_word (m := ⟨14, 142⟩) (by decide +kernel) rfl (by decide +kernel) (by decide +kernel)
theorem start2.code502 : (Jvm.Cond.code (⟨"java/lang/Math", "abs", "(J)J"⟩ : Jvm.MethodName) prog_31_method_61_code 2 (some .long)).before args0 about = true :=
  sv_hand_word (m := ⟨20, 0⟩) (by decide +kernel) rfl (by decide +kernel) (by decide +kernel)
theorem start2.code503 : (Jvm.Cond.code (⟨"SeattableModel", "bestRow", "(II)I"⟩ : Jvm.MethodName) prog_14_method_145_code 16 (some .int)).before args0 about = true :=
  sv_hand_word (m := ⟨14, 144⟩) (by decide +kernel) rfl (by decide +kernel) (by decide +kernel)
theorem start2.code504 : (Jvm.Cond.code (⟨"SeattableModel", "turns", "(III)V"⟩ : Jvm.MethodName) prog_14_method_146_code 20 none).before args0 about = true :=
  sv_hand_word (m := ⟨14, 145⟩) (by decide +kernel) rfl (by decide +kernel) (by decide +kernel)
theorem start2.code505 : (Jvm.Cond.code (⟨"SeattableModel", "addPlayer", "(I)I"⟩ : Jvm.MethodName) prog_14_method_149_code 2 (some .int)).before args0 about = true :=
  sv_hand_word (m := ⟨14, 148⟩) (by decide +kernel) rfl (by decide +kernel) (by decide +kernel)
theorem start2.code506 : (Jvm.Cond.code (⟨"SeattableModel", "setMajority", "(I)I"⟩ : Jvm.MethodName) prog_14_method_150_code 3 (some .int)).before args0 about = true :=
  sv_hand_word (m := ⟨14, 149⟩) (by decide +kernel) rfl (by decide +kernel) (by decide +kernel)
theorem start2.code507 : (Jvm.Cond.code (⟨"SeattableModel", "power", "(IZ)I"⟩ : Jvm.MethodName) prog_14_method_154_code 9 (some .int)).before args0 about = true :=
  sv_hand_word (m := ⟨14, 153⟩) (by decide +kernel) rfl (by decide +kernel) (by decide +kernel)
theorem start2.code508 : (Jvm.Cond.code (⟨"SeattableModel", "isSwing", "(II)Z"⟩ : Jvm.MethodName) prog_14_method_152_code 3 (some .boolean)).before args0 about = true :=
  sv_hand_word (m := ⟨14, 151⟩) (by decide +kernel) rfl (by decide +kernel) (by decide +kernel)
theorem start2.code509 : (Jvm.Cond.code (⟨"SeattableModel", "wins", "(I)Z"⟩ : Jvm.MethodName) prog_14_method_151_code 4 (some .boolean)).before args0 about = true :=
  sv_hand_word (m := ⟨14, 150⟩) (by decide +kernel) rfl (by decide +kernel) (by decide +kernel)
theorem start2.code510 : (Jvm.Cond.code (⟨"SeattableModel", "orders", "(I)I"⟩ : Jvm.MethodName) prog_14_method_153_code 3 (some .int)).before args0 about = true :=
  sv_hand_word (m := ⟨14, 152⟩) (by decide +kernel) rfl (by decide +kernel) (by decide +kernel)
theorem start2.code511 : (Jvm.Cond.code (⟨"SeattableModel", "leastAt", "(I)I"⟩ : Jvm.MethodName) prog_14_method_157_code 4 (some .int)).before args0 about = true :=
  sv_hand_word (m := ⟨14, 156⟩) (by decide +kernel) rfl (by decide +kernel) (by decide +kernel)
theorem start2.code512 : (Jvm.Cond.code (⟨"SeattableModel", "isLeast", "(I)Z"⟩ : Jvm.MethodName) prog_14_method_155_code 4 (some .boolean)).before args0 about = true :=
  sv_hand_word (m := ⟨14, 154⟩) (by decide +kernel) rfl (by decide +kernel) (by decide +kernel)
theorem start2.code513 : (Jvm.Cond.code (⟨"SeattableModel", "otherwise", "()I"⟩ : Jvm.MethodName) prog_14_method_160_code 2 (some .int)).before args0 about = true :=
  sv_hand_word (m := ⟨14, 159⟩) (by decide +kernel) rfl (by decide +kernel) (by decide +kernel)
theorem start2.code514 : (Jvm.Cond.code (⟨"SeattableModel", "lays", "(II)Z"⟩ : Jvm.MethodName) prog_14_method_159_code 4 (some .boolean)).before args0 about = true :=
  sv_hand_word (m := ⟨14, 158⟩) (by decide +kernel) rfl (by decide +kernel) (by decide +kernel)
theorem start2.code515 : (Jvm.Cond.code (⟨"SeattableModel", "isSame", "()Z"⟩ : Jvm.MethodName) prog_14_method_158_code 6 (some .boolean)).before args0 about = true :=
  sv_hand_word (m := ⟨14, 157⟩) (by decide +kernel) rfl (by decide +kernel) (by decide +kernel)

set_option maxRecDepth 16384 in
theorem start2.codes_are_14 : tables_1_14.filter sv_isCode = [Jvm.Cond.code (⟨"SeattableModel", "setCandidates", "(I)I"⟩ : Jvm.MethodName) prog_14_method_109_code 3 (some .int),
    Jvm.Cond.code (⟨"SeattableModel", "addBallot", "(II)I"⟩ : Jvm.MethodName) prog_14_method_111_code 3 (some .int),
    Jvm.Cond.code (⟨"SeattableModel", "isRow", "(I)Z"⟩ : Jvm.MethodName) prog_14_method_110_code 5 (some .boolean),
    Jvm.Cond.code (⟨"SeattableModel", "elect", "(III)I"⟩ : Jvm.MethodName) prog_14_method_123_code 8 (some .int),
    Jvm.Cond.code (⟨"SeattableModel", "beginsCount", "(II)V"⟩ : Jvm.MethodName) prog_14_method_113_code 7 none,
    Jvm.Cond.code (⟨"SeattableModel", "choices", "(I)[I"⟩ : Jvm.MethodName) prog_14_method_112_code 5 (some (.array .int)),
    Jvm.Cond.code (⟨"SeattableModel$Count", "<init>", "()V"⟩ : Jvm.MethodName) prog_15_method_1_code 1 none,
    Jvm.Cond.code (⟨"SeattableModel", "remembers", "(LSeattableModel$Count;)V"⟩ : Jvm.MethodName) prog_14_method_121_code 4 none,
    Jvm.Cond.code (⟨"SeattableModel", "votesOf", "(I)[I"⟩ : Jvm.MethodName) prog_14_method_114_code 4 (some (.array .int)),
    Jvm.Cond.code (⟨"SeattableModel", "rounds", "(IIII)Z"⟩ : Jvm.MethodName) prog_14_method_122_code 9 (some .boolean),
    Jvm.Cond.code (⟨"SeattableModel", "many", "(I)I"⟩ : Jvm.MethodName) prog_14_method_115_code 4 (some .int),
    Jvm.Cond.code (⟨"SeattableModel", "most", "()I"⟩ : Jvm.MethodName) prog_14_method_119_code 3 (some .int),
    Jvm.Cond.code (⟨"SeattableModel", "movesSurplus", "(III)V"⟩ : Jvm.MethodName) prog_14_method_118_code 14 none,
    Jvm.Cond.code (⟨"SeattableModel", "refines", "([I)V"⟩ : Jvm.MethodName) prog_14_method_117_code 3 none,
    Jvm.Cond.code (⟨"SeattableModel", "goesOn", "(II)V"⟩ : Jvm.MethodName) prog_14_method_116_code 5 none,
    Jvm.Cond.code (⟨"SeattableModel", "fewest", "()I"⟩ : Jvm.MethodName) prog_14_method_120_code 3 (some .int),
    Jvm.Cond.code (⟨"SeattableModel", "electedAt", "(I)I"⟩ : Jvm.MethodName) prog_14_method_124_code 3 (some .int),
    Jvm.Cond.code (⟨"SeattableModel", "votesAt", "(II)I"⟩ : Jvm.MethodName) prog_14_method_125_code 5 (some .int),
    Jvm.Cond.code (⟨"SeattableModel", "openAt", "(III)I"⟩ : Jvm.MethodName) prog_14_method_127_code 11 (some .int),
    Jvm.Cond.code (⟨"SeattableModel", "firstVotes", "()[I"⟩ : Jvm.MethodName) prog_14_method_126_code 4 (some (.array .int)),
    Jvm.Cond.code (⟨"SeattableModel", "addBlock", "(III)I"⟩ : Jvm.MethodName) prog_14_method_128_code 4 (some .int),
    Jvm.Cond.code (⟨"SeattableModel", "join", "(II)Z"⟩ : Jvm.MethodName) prog_14_method_129_code 4 (some .boolean),
    Jvm.Cond.code (⟨"SeattableModel", "maps", "(II)I"⟩ : Jvm.MethodName) prog_14_method_136_code 3 (some .int),
    Jvm.Cond.code (⟨"SeattableModel", "allMaps", "(IIZ)V"⟩ : Jvm.MethodName) prog_14_method_134_code 7 none,
    Jvm.Cond.code (⟨"SeattableModel", "looks", "(IIZ)V"⟩ : Jvm.MethodName) prog_14_method_133_code 10 none,
    Jvm.Cond.code (⟨"SeattableModel", "sumOf", "(II)I"⟩ : Jvm.MethodName) prog_14_method_131_code 5 (some .int),
    Jvm.Cond.code (⟨"SeattableModel", "isTogether", "(I)Z"⟩ : Jvm.MethodName) prog_14_method_130_code 5 (some .boolean),
    Jvm.Cond.code (⟨"SeattableModel", "rim", "()I"⟩ : Jvm.MethodName) prog_14_method_132_code 4 (some .int),
    Jvm.Cond.code (⟨"SeattableModel", "steps", "(I)Z"⟩ : Jvm.MethodName) prog_14_method_135_code 5 (some .boolean),
    Jvm.Cond.code (⟨"SeattableModel", "districtAt", "(II)I"⟩ : Jvm.MethodName) prog_14_method_137_code 5 (some .int),
    Jvm.Cond.code (⟨"SeattableModel", "fine", "(ZZZ)Z"⟩ : Jvm.MethodName) prog_14_method_5_code 4 (some .boolean),
    Jvm.Cond.code (⟨"SeattableModel", "tilt", "(IIZ)I"⟩ : Jvm.MethodName) prog_14_method_138_code 4 (some .int),
    Jvm.Cond.code (⟨"SeattableModel", "addPerson", "(III)I"⟩ : Jvm.MethodName) prog_14_method_139_code 4 (some .int),
    Jvm.Cond.code (⟨"SeattableModel", "want", "(III)I"⟩ : Jvm.MethodName) prog_14_method_140_code 5 (some .int),
    Jvm.Cond.code (⟨"SeattableModel", "panels", "(II)I"⟩ : Jvm.MethodName) prog_14_method_142_code 5 (some .int),
    Jvm.Cond.code (⟨"SeattableModel", "isPanel", "(II)Z"⟩ : Jvm.MethodName) prog_14_method_141_code 6 (some .boolean),
    Jvm.Cond.code (⟨"SeattableModel", "chance", "(I)I"⟩ : Jvm.MethodName) prog_14_method_147_code 9 (some .int),
    Jvm.Cond.code (⟨"SeattableModel", "lays", "(III)V"⟩ : Jvm.MethodName) prog_14_method_148_code 8 none,
    Jvm.Cond.code (⟨"SeattableModel", "setBoard", "(IJJ)V"⟩ : Jvm.MethodName) prog_14_method_144_code 8 none,
    Jvm.Cond.code (⟨"SeattableModel", "commonOf", "(JJ)J"⟩ : Jvm.MethodName) prog_14_method_143_code 10 (some .long),
    Jvm.Cond.code (⟨"java/lang/Math", "abs", "(J)J"⟩ : Jvm.MethodName) prog_31_method_61_code 2 (some .long),
    Jvm.Cond.code (⟨"SeattableModel", "bestRow", "(II)I"⟩ : Jvm.MethodName) prog_14_method_145_code 16 (some .int),
    Jvm.Cond.code (⟨"SeattableModel", "turns", "(III)V"⟩ : Jvm.MethodName) prog_14_method_146_code 20 none,
    Jvm.Cond.code (⟨"SeattableModel", "addPlayer", "(I)I"⟩ : Jvm.MethodName) prog_14_method_149_code 2 (some .int),
    Jvm.Cond.code (⟨"SeattableModel", "setMajority", "(I)I"⟩ : Jvm.MethodName) prog_14_method_150_code 3 (some .int),
    Jvm.Cond.code (⟨"SeattableModel", "power", "(IZ)I"⟩ : Jvm.MethodName) prog_14_method_154_code 9 (some .int),
    Jvm.Cond.code (⟨"SeattableModel", "isSwing", "(II)Z"⟩ : Jvm.MethodName) prog_14_method_152_code 3 (some .boolean),
    Jvm.Cond.code (⟨"SeattableModel", "wins", "(I)Z"⟩ : Jvm.MethodName) prog_14_method_151_code 4 (some .boolean),
    Jvm.Cond.code (⟨"SeattableModel", "orders", "(I)I"⟩ : Jvm.MethodName) prog_14_method_153_code 3 (some .int),
    Jvm.Cond.code (⟨"SeattableModel", "leastAt", "(I)I"⟩ : Jvm.MethodName) prog_14_method_157_code 4 (some .int),
    Jvm.Cond.code (⟨"SeattableModel", "isLeast", "(I)Z"⟩ : Jvm.MethodName) prog_14_method_155_code 4 (some .boolean),
    Jvm.Cond.code (⟨"SeattableModel", "otherwise", "()I"⟩ : Jvm.MethodName) prog_14_method_160_code 2 (some .int),
    Jvm.Cond.code (⟨"SeattableModel", "lays", "(II)Z"⟩ : Jvm.MethodName) prog_14_method_159_code 4 (some .boolean),
    Jvm.Cond.code (⟨"SeattableModel", "isSame", "()Z"⟩ : Jvm.MethodName) prog_14_method_158_code 6 (some .boolean)] := by
  first
  | rfl
  | simp only [tables_1_14, List.filter, sv_isCode]
theorem start2.codes_hold_14 : ∀ c ∈ tables_1_14.filter sv_isCode, c.before args0 about = true := by
  rw [codes_are_14]
  exact List.forall_mem_cons.mpr ⟨code462, List.forall_mem_cons.mpr ⟨code463, List.forall_mem_cons.mpr ⟨code464, List.forall_mem_cons.mpr ⟨code465, List.forall_mem_cons.mpr ⟨code466, List.forall_mem_cons.mpr ⟨code467, List.forall_mem_cons.mpr ⟨code468, List.forall_mem_cons.mpr ⟨code469, List.forall_mem_cons.mpr ⟨code470, List.forall_mem_cons.mpr ⟨code471, List.forall_mem_cons.mpr ⟨code472, List.forall_mem_cons.mpr ⟨code473, List.forall_mem_cons.mpr ⟨code474, List.forall_mem_cons.mpr ⟨code475, List.forall_mem_cons.mpr ⟨code476, List.forall_mem_cons.mpr ⟨code477, List.forall_mem_cons.mpr ⟨code478, List.forall_mem_cons.mpr ⟨code479, List.forall_mem_cons.mpr ⟨code480, List.forall_mem_cons.mpr ⟨code481, List.forall_mem_cons.mpr ⟨code482, List.forall_mem_cons.mpr ⟨code483, List.forall_mem_cons.mpr ⟨code484, List.forall_mem_cons.mpr ⟨code485, List.forall_mem_cons.mpr ⟨code486, List.forall_mem_cons.mpr ⟨code487, List.forall_mem_cons.mpr ⟨code488, List.forall_mem_cons.mpr ⟨code489, List.forall_mem_cons.mpr ⟨code490, List.forall_mem_cons.mpr ⟨code491, List.forall_mem_cons.mpr ⟨code492, List.forall_mem_cons.mpr ⟨code493, List.forall_mem_cons.mpr ⟨code494, List.forall_mem_cons.mpr ⟨code495, List.forall_mem_cons.mpr ⟨code496, List.forall_mem_cons.mpr ⟨code497, List.forall_mem_cons.mpr ⟨code498, List.forall_mem_cons.mpr ⟨code499, List.forall_mem_cons.mpr ⟨code500, List.forall_mem_cons.mpr ⟨code501, List.forall_mem_cons.mpr ⟨code502, List.forall_mem_cons.mpr ⟨code503, List.forall_mem_cons.mpr ⟨code504, List.forall_mem_cons.mpr ⟨code505, List.forall_mem_cons.mpr ⟨code506, List.forall_mem_cons.mpr ⟨code507, List.forall_mem_cons.mpr ⟨code508, List.forall_mem_cons.mpr ⟨code509, List.forall_mem_cons.mpr ⟨code510, List.forall_mem_cons.mpr ⟨code511, List.forall_mem_cons.mpr ⟨code512, List.forall_mem_cons.mpr ⟨code513, List.forall_mem_cons.mpr ⟨code514, List.forall_mem_cons.mpr ⟨code515, List.forall_mem_nil _⟩⟩⟩⟩⟩⟩⟩⟩⟩⟩⟩⟩⟩⟩⟩⟩⟩⟩⟩⟩⟩⟩⟩⟩⟩⟩⟩⟩⟩⟩⟩⟩⟩⟩⟩⟩⟩⟩⟩⟩⟩⟩⟩⟩⟩⟩⟩⟩⟩⟩⟩⟩⟩⟩
set_option maxRecDepth 16384 in
theorem start2.others_14_0 : (tables_1_14.take 33).all (fun c => sv_isCode c || c.before args0 about) = true := by decide +kernel
set_option maxRecDepth 16384 in
theorem start2.others_14_1 : ((tables_1_14.drop 33).take 25).all (fun c => sv_isCode c || c.before args0 about) = true := by decide +kernel

set_option maxRecDepth 16384 in
theorem start2.others_14_2 : (((tables_1_14.drop 33).drop 25).take 25).all (fun c => sv_isCode c || c.before args0 about) = true := by decide +kernel
set_option maxRecDepth 16384 in
theorem start2.others_14_3 : ((((tables_1_14.drop 33).drop 25).drop 25).take 36).all (fun c => sv_isCode c || c.before args0 about) = true := by decide +kernel

set_option maxRecDepth 16384 in
theorem start2.others_14_4 : (((((tables_1_14.drop 33).drop 25).drop 25).drop 36).take 27).all (fun c => sv_isCode c || c.before args0 about) = true := by decide +kernel
set_option maxRecDepth 16384 in
theorem start2.others_14_5 : ((((((tables_1_14.drop 33).drop 25).drop 25).drop 36).drop 27).take 32).all (fun c => sv_isCode c || c.before args0 about) = true := by decide +kernel

set_option maxRecDepth 16384 in
theorem start2.others_14_6 : (((((((tables_1_14.drop 33).drop 25).drop 25).drop 36).drop 27).drop 32).take 28).all (fun c => sv_isCode c || c.before args0 about) = true := by decide +kernel
set_option maxRecDepth 16384 in
theorem start2.others_14_7 : ((((((((tables_1_14.drop 33).drop 25).drop 25).drop 36).drop 27).drop 32).drop 28).take 23).all (fun c => sv_isCode c || c.before args0 about) = true := by decide +kernel

set_option maxRecDepth 16384 in
theorem start2.others_14_8 : ((((((((tables_1_14.drop 33).drop 25).drop 25).drop 36).drop 27).drop 32).drop 28).drop 23).all (fun c => sv_isCode c || c.before args0 about) = true := by decide +kernel
theorem start2.others_hold_14 : tables_1_14.all (fun c => sv_isCode c || c.before args0 about) = true := sv_all_split _ 33 tables_1_14 others_14_0 (sv_all_split _ 25 (tables_1_14.drop 33) others_14_1 (sv_all_split _ 25 ((tables_1_14.drop 33).drop 25) others_14_2 (sv_all_split _ 36 (((tables_1_14.drop 33).drop 25).drop 25) others_14_3 (sv_all_split _ 27 ((((tables_1_14.drop 33).drop 25).drop 25).drop 36) others_14_4 (sv_all_split _ 32 (((((tables_1_14.drop 33).drop 25).drop 25).drop 36).drop 27) others_14_5 (sv_all_split _ 28 ((((((tables_1_14.drop 33).drop 25).drop 25).drop 36).drop 27).drop 32) others_14_6 (sv_all_split _ 23 (((((((tables_1_14.drop 33).drop 25).drop 25).drop 36).drop 27).drop 32).drop 28) others_14_7 others_14_8)))))))
theorem start2.words_14 : ∀ c ∈ tables_1_14, c.before args0 about = true := fun c h => sv_words others_hold_14 codes_hold_14 c h

theorem start2.code516 : (Jvm.Cond.code (⟨"SeattableModel", "margin", "(II)I"⟩ : Jvm.MethodName) prog_14_method_163_code 3 (some .int)).before args0 about = true :=
  sv_hand_word (m := ⟨14, 162⟩) (by decide +kernel) rfl (by decide +kernel) (by decide +kernel)
theorem start2.code517 : (Jvm.Cond.code (⟨"SeattableModel", "isCandidate", "(I)Z"⟩ : Jvm.MethodName) prog_14_method_162_code 2 (some .boolean)).before args0 about = true :=
  sv_hand_word (m := ⟨14, 161⟩) (by decide +kernel) rfl (by decide +kernel) (by decide +kernel)
theorem start2.code518 : (Jvm.Cond.code (⟨"SeattableModel", "marginOf", "(II)I"⟩ : Jvm.MethodName) prog_14_method_161_code 8 (some .int)).before args0 about = true :=
  sv_hand_word (m := ⟨14, 160⟩) (by decide +kernel) rfl (by decide +kernel) (by decide +kernel)
theorem start2.code519 : (Jvm.Cond.code (⟨"SeattableModel", "agenda", "(I)I"⟩ : Jvm.MethodName) prog_14_method_167_code 2 (some .int)).before args0 about = true :=
  sv_hand_word (m := ⟨14, 166⟩) (by decide +kernel) rfl (by decide +kernel) (by decide +kernel)
theorem start2.code520 : (Jvm.Cond.code (⟨"SeattableModel", "isAgenda", "(I)Z"⟩ : Jvm.MethodName) prog_14_method_166_code 4 (some .boolean)).before args0 about = true :=
  sv_hand_word (m := ⟨14, 165⟩) (by decide +kernel) rfl (by decide +kernel) (by decide +kernel)
theorem start2.code521 : (Jvm.Cond.code (⟨"SeattableModel", "compares", "()V"⟩ : Jvm.MethodName) prog_14_method_164_code 3 none).before args0 about = true :=
  sv_hand_word (m := ⟨14, 163⟩) (by decide +kernel) rfl (by decide +kernel) (by decide +kernel)
theorem start2.code522 : (Jvm.Cond.code (⟨"SeattableModel", "left", "(I)I"⟩ : Jvm.MethodName) prog_14_method_165_code 5 (some .int)).before args0 about = true :=
  sv_hand_word (m := ⟨14, 164⟩) (by decide +kernel) rfl (by decide +kernel) (by decide +kernel)
theorem start2.code523 : (Jvm.Cond.code (⟨"SeattableModel", "agendaFor", "(I)I"⟩ : Jvm.MethodName) prog_14_method_169_code 2 (some .int)).before args0 about = true :=
  sv_hand_word (m := ⟨14, 168⟩) (by decide +kernel) rfl (by decide +kernel) (by decide +kernel)
theorem start2.code524 : (Jvm.Cond.code (⟨"SeattableModel", "agendas", "(IZ)I"⟩ : Jvm.MethodName) prog_14_method_168_code 7 (some .int)).before args0 about = true :=
  sv_hand_word (m := ⟨14, 167⟩) (by decide +kernel) rfl (by decide +kernel) (by decide +kernel)
theorem start2.code525 : (Jvm.Cond.code (⟨"SeattableModel", "agendasFor", "(I)I"⟩ : Jvm.MethodName) prog_14_method_170_code 2 (some .int)).before args0 about = true :=
  sv_hand_word (m := ⟨14, 169⟩) (by decide +kernel) rfl (by decide +kernel) (by decide +kernel)
theorem start2.code526 : (Jvm.Cond.code (⟨"SeattableModel", "count", "(I)I"⟩ : Jvm.MethodName) prog_14_method_171_code 2 (some .int)).before args0 about = true :=
  sv_hand_word (m := ⟨14, 170⟩) (by decide +kernel) rfl (by decide +kernel) (by decide +kernel)
theorem start2.code527 : (Jvm.Cond.code (⟨"SeattableModel", "leastMany", "()I"⟩ : Jvm.MethodName) prog_14_method_156_code 3 (some .int)).before args0 about = true :=
  sv_hand_word (m := ⟨14, 155⟩) (by decide +kernel) rfl (by decide +kernel) (by decide +kernel)
theorem start2.code528 : (Jvm.Cond.code (⟨"SeattableModel", "errors", "()I"⟩ : Jvm.MethodName) prog_14_method_173_code 8 (some .int)).before args0 about = true :=
  sv_hand_word (m := ⟨14, 172⟩) (by decide +kernel) rfl (by decide +kernel) (by decide +kernel)
theorem start2.code529 : (Jvm.Cond.code (⟨"SeattableModel", "isRight", "(LSeattableModel$Fill;[I)Z"⟩ : Jvm.MethodName) prog_14_method_172_code 9 (some .boolean)).before args0 about = true :=
  sv_hand_word (m := ⟨14, 171⟩) (by decide +kernel) rfl (by decide +kernel) (by decide +kernel)

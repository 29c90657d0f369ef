set_option maxRecDepth 16384

set_option maxRecDepth 16384 in
theorem start2.others_12_2 : (((tables_1_12.drop 16).drop 18).take 10).all (fun c => sv_isCode c || c.before args0 about) = true := by decide +kernel
set_option maxRecDepth 16384 in
theorem start2.others_12_3 : ((((tables_1_12.drop 16).drop 18).drop 10).take 24).all (fun c => sv_isCode c || c.before args0 about) = true := by decide +kernel

set_option maxRecDepth 16384 in
theorem start2.others_12_4 : (((((tables_1_12.drop 16).drop 18).drop 10).drop 24).take 19).all (fun c => sv_isCode c || c.before args0 about) = true := by decide +kernel
set_option maxRecDepth 16384 in
theorem start2.others_12_5 : ((((((tables_1_12.drop 16).drop 18).drop 10).drop 24).drop 19).take 20).all (fun c => sv_isCode c || c.before args0 about) = true := by decide +kernel

set_option maxRecDepth 16384 in
theorem start2.others_12_6 : (((((((tables_1_12.drop 16).drop 18).drop 10).drop 24).drop 19).drop 20).take 23).all (fun c => sv_isCode c || c.before args0 about) = true := by decide +kernel
set_option maxRecDepth 16384 in
theorem start2.others_12_7 : ((((((((tables_1_12.drop 16).drop 18).drop 10).drop 24).drop 19).drop 20).drop 23).take 13).all (fun c => sv_isCode c || c.before args0 about) = true := by decide +kernel

set_option maxRecDepth 16384 in
theorem start2.others_12_8 : (((((((((tables_1_12.drop 16).drop 18).drop 10).drop 24).drop 19).drop 20).drop 23).drop 13).take 13).all (fun c => sv_isCode c || c.before args0 about) = true := by decide +kernel
set_option maxRecDepth 16384 in
theorem start2.others_12_9 : ((((((((((tables_1_12.drop 16).drop 18).drop 10).drop 24).drop 19).drop 20).drop 23).drop 13).drop 13).take 13).all (fun c => sv_isCode c || c.before args0 about) = true := by decide +kernel

set_option maxRecDepth 16384 in
theorem start2.others_12_10 : (((((((((((tables_1_12.drop 16).drop 18).drop 10).drop 24).drop 19).drop 20).drop 23).drop 13).drop 13).drop 13).take 14).all (fun c => sv_isCode c || c.before args0 about) = true := by decide +kernel
set_option maxRecDepth 16384 in
theorem start2.others_12_11 : ((((((((((((tables_1_12.drop 16).drop 18).drop 10).drop 24).drop 19).drop 20).drop 23).drop 13).drop 13).drop 13).drop 14).take 13).all (fun c => sv_isCode c || c.before args0 about) = true := by decide +kernel

set_option maxRecDepth 16384 in
theorem start2.others_12_12 : (((((((((((((tables_1_12.drop 16).drop 18).drop 10).drop 24).drop 19).drop 20).drop 23).drop 13).drop 13).drop 13).drop 14).drop 13).take 13).all (fun c => sv_isCode c || c.before args0 about) = true := by decide +kernel
set_option maxRecDepth 16384 in
theorem start2.others_12_13 : ((((((((((((((tables_1_12.drop 16).drop 18).drop 10).drop 24).drop 19).drop 20).drop 23).drop 13).drop 13).drop 13).drop 14).drop 13).drop 13).take 13).all (fun c => sv_isCode c || c.before args0 about) = true := by decide +kernel

set_option maxRecDepth 16384 in
theorem start2.others_12_14 : (((((((((((((((tables_1_12.drop 16).drop 18).drop 10).drop 24).drop 19).drop 20).drop 23).drop 13).drop 13).drop 13).drop 14).drop 13).drop 13).drop 13).take 13).all (fun c => sv_isCode c || c.before args0 about) = true := by decide +kernel
set_option maxRecDepth 16384 in
theorem start2.others_12_15 : (((((((((((((((tables_1_12.drop 16).drop 18).drop 10).drop 24).drop 19).drop 20).drop 23).drop 13).drop 13).drop 13).drop 14).drop 13).drop 13).drop 13).drop 13).all (fun c => sv_isCode c || c.before args0 about) = true := by decide +kernel
theorem start2.others_hold_12 : tables_1_12.all (fun c => sv_isCode c || c.before args0 about) = true := sv_all_split _ 16 tables_1_12 others_12_0 (sv_all_split _ 18 (tables_1_12.drop 16) others_12_1 (sv_all_split _ 10 ((tables_1_12.drop 16).drop 18) others_12_2 (sv_all_split _ 24 (((tables_1_12.drop 16).drop 18).drop 10) others_12_3 (sv_all_split _ 19 ((((tables_1_12.drop 16).drop 18).drop 10).drop 24) others_12_4 (sv_all_split _ 20 (((((tables_1_12.drop 16).drop 18).drop 10).drop 24).drop 19) others_12_5 (sv_all_split _ 23 ((((((tables_1_12.drop 16).drop 18).drop 10).drop 24).drop 19).drop 20) others_12_6 (sv_all_split _ 13 (((((((tables_1_12.drop 16).drop 18).drop 10).drop 24).drop 19).drop 20).drop 23) others_12_7 (sv_all_split _ 13 ((((((((tables_1_12.drop 16).drop 18).drop 10).drop 24).drop 19).drop 20).drop 23).drop 13) others_12_8 (sv_all_split _ 13 (((((((((tables_1_12.drop 16).drop 18).drop 10).drop 24).drop 19).drop 20).drop 23).drop 13).drop 13) others_12_9 (sv_all_split _ 14 ((((((((((tables_1_12.drop 16).drop 18).drop 10).drop 24).drop 19).drop 20).drop 23).drop 13).drop 13).drop 13) others_12_10 (sv_all_split _ 13 (((((((((((tables_1_12.drop 16).drop 18).drop 10).drop 24).drop 19).drop 20).drop 23).drop 13).drop 13).drop 13).drop 14) others_12_11 (sv_all_split _ 13 ((((((((((((tables_1_12.drop 16).drop 18).drop 10).drop 24).drop 19).drop 20).drop 23).drop 13).drop 13).drop 13).drop 14).drop 13) others_12_12 (sv_all_split _ 13 (((((((((((((tables_1_12.drop 16).drop 18).drop 10).drop 24).drop 19).drop 20).drop 23).drop 13).drop 13).drop 13).drop 14).drop 13).drop 13) others_12_13 (sv_all_split _ 13 ((((((((((((((tables_1_12.drop 16).drop 18).drop 10).drop 24).drop 19).drop 20).drop 23).drop 13).drop 13).drop 13).drop 14).drop 13).drop 13).drop 13) others_12_14 others_12_15))))))))))))))
theorem start2.words_12 : ∀ c ∈ tables_1_12, c.before args0 about = true := fun c h => sv_words others_hold_12 codes_hold_12 c h

theorem start2.code409 : (Jvm.Cond.code (⟨"SeattableModel", "least", "([JI[I)I"⟩ : Jvm.MethodName) prog_14_method_70_code 7 (some .int)).before args0 about = true :=
  sv_hand_word (m := ⟨14, 69⟩) (by decide +kernel) rfl (by decide +kernel) (by decide +kernel)
theorem start2.code410 : (Jvm.Cond.code (⟨"SeattableModel", "wholes", "([JI[I[J)I"⟩ : Jvm.MethodName) prog_14_method_71_code 9 (some .int)).before args0 about = true :=
  sv_hand_word (m := ⟨14, 70⟩) (by decide +kernel) rfl (by decide +kernel) (by decide +kernel)
theorem start2.code411 : (Jvm.Cond.code (⟨"SeattableModel", "ranks", "(I[J[I[JII)I"⟩ : Jvm.MethodName) prog_14_method_69_code 7 (some .int)).before args0 about = true :=
  sv_hand_word (m := ⟨14, 68⟩) (by decide +kernel) rfl (by decide +kernel) (by decide +kernel)
theorem start2.code412 : (Jvm.Cond.code (⟨"SeattableModel", "quotients", "(IJIJI)I"⟩ : Jvm.MethodName) prog_14_method_67_code 12 (some .int)).before args0 about = true :=
  sv_hand_word (m := ⟨14, 66⟩) (by decide +kernel) rfl (by decide +kernel) (by decide +kernel)
theorem start2.code413 : (Jvm.Cond.code (⟨"SeattableModel", "chooses", "([I[ZIIZLjava/util/ArrayList;)V"⟩ : Jvm.MethodName) prog_14_method_72_code 11 none).before args0 about = true :=
  sv_hand_word (m := ⟨14, 71⟩) (by decide +kernel) rfl (by decide +kernel) (by decide +kernel)
theorem start2.code414 : (Jvm.Cond.code (⟨"SeattableModel", "seatAt", "(II)I"⟩ : Jvm.MethodName) prog_14_method_76_code 4 (some .int)).before args0 about = true :=
  sv_hand_word (m := ⟨14, 75⟩) (by decide +kernel) rfl (by decide +kernel) (by decide +kernel)
theorem start2.code415 : (Jvm.Cond.code (⟨"SeattableModel", "quota", "(IIII)I"⟩ : Jvm.MethodName) prog_14_method_77_code 11 (some .int)).before args0 about = true :=
  sv_hand_word (m := ⟨14, 76⟩) (by decide +kernel) rfl (by decide +kernel) (by decide +kernel)
theorem start2.code416 : (Jvm.Cond.code (⟨"SeattableModel", "tells", "(JJ)I"⟩ : Jvm.MethodName) prog_14_method_24_code 5 (some .int)).before args0 about = true :=
  sv_hand_word (m := ⟨14, 23⟩) (by decide +kernel) rfl (by decide +kernel) (by decide +kernel)
theorem start2.code417 : (Jvm.Cond.code (⟨"SeattableModel", "whole", "(J)[I"⟩ : Jvm.MethodName) prog_14_method_7_code 7 (some (.array .int))).before args0 about = true :=
  sv_hand_word (m := ⟨14, 6⟩) (by decide +kernel) rfl (by decide +kernel) (by decide +kernel)
theorem start2.code418 : (Jvm.Cond.code (⟨"SeattableModel", "tells", "([I[I)I"⟩ : Jvm.MethodName) prog_14_method_23_code 4 (some .int)).before args0 about = true :=
  sv_hand_word (m := ⟨14, 22⟩) (by decide +kernel) rfl (by decide +kernel) (by decide +kernel)
theorem start2.code419 : (Jvm.Cond.code (⟨"SeattableModel", "common", "([I[I)[I"⟩ : Jvm.MethodName) prog_14_method_16_code 6 (some (.array .int))).before args0 about = true :=
  sv_hand_word (m := ⟨14, 15⟩) (by decide +kernel) rfl (by decide +kernel) (by decide +kernel)
theorem start2.code420 : (Jvm.Cond.code (⟨"SeattableModel", "isEven", "([I)Z"⟩ : Jvm.MethodName) prog_14_method_15_code 1 (some .boolean)).before args0 about = true :=
  sv_hand_word (m := ⟨14, 14⟩) (by decide +kernel) rfl (by decide +kernel) (by decide +kernel)
theorem start2.code421 : (Jvm.Cond.code (⟨"SeattableModel", "half", "([I)[I"⟩ : Jvm.MethodName) prog_14_method_14_code 6 (some (.array .int))).before args0 about = true :=
  sv_hand_word (m := ⟨14, 13⟩) (by decide +kernel) rfl (by decide +kernel) (by decide +kernel)
theorem start2.code422 : (Jvm.Cond.code (⟨"SeattableModel", "cut", "([I)[I"⟩ : Jvm.MethodName) prog_14_method_8_code 3 (some (.array .int))).before args0 about = true :=
  sv_hand_word (m := ⟨14, 7⟩) (by decide +kernel) rfl (by decide +kernel) (by decide +kernel)
theorem start2.code423 : (Jvm.Cond.code (⟨"SeattableModel", "compare", "([I[I)I"⟩ : Jvm.MethodName) prog_14_method_9_code 3 (some .int)).before args0 about = true :=
  sv_hand_word (m := ⟨14, 8⟩) (by decide +kernel) rfl (by decide +kernel) (by decide +kernel)
theorem start2.code424 : (Jvm.Cond.code (⟨"SeattableModel", "less", "([I[I)[I"⟩ : Jvm.MethodName) prog_14_method_11_code 6 (some (.array .int))).before args0 about = true :=
  sv_hand_word (m := ⟨14, 10⟩) (by decide +kernel) rfl (by decide +kernel) (by decide +kernel)
theorem start2.code425 : (Jvm.Cond.code (⟨"SeattableModel", "plus", "([I[I)[I"⟩ : Jvm.MethodName) prog_14_method_10_code 6 (some (.array .int))).before args0 about = true :=
  sv_hand_word (m := ⟨14, 9⟩) (by decide +kernel) rfl (by decide +kernel) (by decide +kernel)
theorem start2.code426 : (Jvm.Cond.code (⟨"SeattableModel", "through", "([I[I)[I"⟩ : Jvm.MethodName) prog_14_method_17_code 9 (some (.array .int))).before args0 about = true :=
  sv_hand_word (m := ⟨14, 16⟩) (by decide +kernel) rfl (by decide +kernel) (by decide +kernel)
theorem start2.code427 : (Jvm.Cond.code (⟨"SeattableModel", "times", "([IJ)[I"⟩ : Jvm.MethodName) prog_14_method_13_code 3 (some (.array .int))).before args0 about = true :=
  sv_hand_word (m := ⟨14, 12⟩) (by decide +kernel) rfl (by decide +kernel) (by decide +kernel)
theorem start2.code428 : (Jvm.Cond.code (⟨"SeattableModel", "times", "([I[I)[I"⟩ : Jvm.MethodName) prog_14_method_12_code 9 (some (.array .int))).before args0 about = true :=
  sv_hand_word (m := ⟨14, 11⟩) (by decide +kernel) rfl (by decide +kernel) (by decide +kernel)
theorem start2.code429 : (Jvm.Cond.code (⟨"SeattableModel", "breaks", "(IIIII)I"⟩ : Jvm.MethodName) prog_14_method_78_code 11 (some .int)).before args0 about = true :=
  sv_hand_word (m := ⟨14, 77⟩) (by decide +kernel) rfl (by decide +kernel) (by decide +kernel)
theorem start2.code430 : (Jvm.Cond.code (⟨"SeattableModel", "grows", "([JII)I"⟩ : Jvm.MethodName) prog_14_method_79_code 8 (some .int)).before args0 about = true :=
  sv_hand_word (m := ⟨14, 78⟩) (by decide +kernel) rfl (by decide +kernel) (by decide +kernel)
theorem start2.code431 : (Jvm.Cond.code (⟨"SeattableModel", "first", "([JII)[I"⟩ : Jvm.MethodName) prog_14_method_73_code 5 (some (.array .int))).before args0 about = true :=
  sv_hand_word (m := ⟨14, 72⟩) (by decide +kernel) rfl (by decide +kernel) (by decide +kernel)
theorem start2.code432 : (Jvm.Cond.code (⟨"SeattableModel", "joins", "([JII[II)I"⟩ : Jvm.MethodName) prog_14_method_80_code 9 (some .int)).before args0 about = true :=
  sv_hand_word (m := ⟨14, 79⟩) (by decide +kernel) rfl (by decide +kernel) (by decide +kernel)
theorem start2.code433 : (Jvm.Cond.code (⟨"SeattableModel", "changed", "([JIJIJ)[J"⟩ : Jvm.MethodName) prog_14_method_81_code 8 (some (.array .long))).before args0 about = true :=
  sv_hand_word (m := ⟨14, 80⟩) (by decide +kernel) rfl (by decide +kernel) (by decide +kernel)
theorem start2.code434 : (Jvm.Cond.code (⟨"SeattableModel", "leaves", "([JII[II)I"⟩ : Jvm.MethodName) prog_14_method_82_code 8 (some .int)).before args0 about = true :=
  sv_hand_word (m := ⟨14, 81⟩) (by decide +kernel) rfl (by decide +kernel) (by decide +kernel)
theorem start2.code435 : (Jvm.Cond.code (⟨"SeattableModel", "turns", "([JII[II)I"⟩ : Jvm.MethodName) prog_14_method_83_code 10 (some .int)).before args0 about = true :=
  sv_hand_word (m := ⟨14, 82⟩) (by decide +kernel) rfl (by decide +kernel) (by decide +kernel)
theorem start2.code436 : (Jvm.Cond.code (⟨"SeattableModel", "fill", "()I"⟩ : Jvm.MethodName) prog_14_method_103_code 4 (some .int)).before args0 about = true :=
  sv_hand_word (m := ⟨14, 102⟩) (by decide +kernel) rfl (by decide +kernel) (by decide +kernel)
theorem start2.code437 : (Jvm.Cond.code (⟨"SeattableModel$Fill", "<init>", "()V"⟩ : Jvm.MethodName) prog_16_method_1_code 1 none).before args0 about = true :=
  sv_hand_word (m := ⟨24, 0⟩) (by decide +kernel) rfl (by decide +kernel) (by decide +kernel)
theorem start2.code438 : (Jvm.Cond.code (⟨"SeattableModel", "cuts", "(LSeattableModel$Fill;)Z"⟩ : Jvm.MethodName) prog_14_method_86_code 9 (some .boolean)).before args0 about = true :=
  sv_hand_word (m := ⟨14, 85⟩) (by decide +kernel) rfl (by decide +kernel) (by decide +kernel)
theorem start2.code439 : (Jvm.Cond.code (⟨"SeattableModel", "lays", "(LSeattableModel$Fill;IIIII)V"⟩ : Jvm.MethodName) prog_14_method_87_code 6 none).before args0 about = true :=
  sv_hand_word (m := ⟨14, 86⟩) (by decide +kernel) rfl (by decide +kernel) (by decide +kernel)
theorem start2.code440 : (Jvm.Cond.code (⟨"SeattableModel", "votes", "(LSeattableModel$Fill;II)J"⟩ : Jvm.MethodName) prog_14_method_84_code 3 (some .long)).before args0 about = true :=
  sv_hand_word (m := ⟨14, 83⟩) (by decide +kernel) rfl (by decide +kernel) (by decide +kernel)
theorem start2.code441 : (Jvm.Cond.code (⟨"SeattableModel", "begins", "(LSeattableModel$Fill;)V"⟩ : Jvm.MethodName) prog_14_method_88_code 8 none).before args0 about = true :=
  sv_hand_word (m := ⟨14, 87⟩) (by decide +kernel) rfl (by decide +kernel) (by decide +kernel)
theorem start2.code442 : (Jvm.Cond.code (⟨"SeattableModel", "post", "(LSeattableModel$Fill;I)J"⟩ : Jvm.MethodName) prog_14_method_85_code 2 (some .long)).before args0 about = true :=
  sv_hand_word (m := ⟨14, 84⟩) (by decide +kernel) rfl (by decide +kernel) (by decide +kernel)
theorem start2.code443 : (Jvm.Cond.code (⟨"SeattableModel", "moves", "(LSeattableModel$Fill;)Z"⟩ : Jvm.MethodName) prog_14_method_90_code 7 (some .boolean)).before args0 about = true :=
  sv_hand_word (m := ⟨14, 89⟩) (by decide +kernel) rfl (by decide +kernel) (by decide +kernel)
theorem start2.code444 : (Jvm.Cond.code (⟨"SeattableModel", "over", "(LSeattableModel$Fill;I)I"⟩ : Jvm.MethodName) prog_14_method_89_code 5 (some .int)).before args0 about = true :=
  sv_hand_word (m := ⟨14, 88⟩) (by decide +kernel) rfl (by decide +kernel) (by decide +kernel)
theorem start2.code445 : (Jvm.Cond.code (⟨"SeattableModel", "shortens", "(LSeattableModel$Fill;III)Z"⟩ : Jvm.MethodName) prog_14_method_91_code 9 (some .boolean)).before args0 about = true :=
  sv_hand_word (m := ⟨14, 90⟩) (by decide +kernel) rfl (by decide +kernel) (by decide +kernel)
theorem start2.code446 : (Jvm.Cond.code (⟨"SeattableModel", "takes", "(LSeattableModel$Fill;)V"⟩ : Jvm.MethodName) prog_14_method_92_code 5 none).before args0 about = true :=
  sv_hand_word (m := ⟨14, 91⟩) (by decide +kernel) rfl (by decide +kernel) (by decide +kernel)
theorem start2.code447 : (Jvm.Cond.code (⟨"SeattableModel", "factors", "(LSeattableModel$Fill;[I)V"⟩ : Jvm.MethodName) prog_14_method_93_code 5 none).before args0 about = true :=
  sv_hand_word (m := ⟨14, 92⟩) (by decide +kernel) rfl (by decide +kernel) (by decide +kernel)
theorem start2.code448 : (Jvm.Cond.code (⟨"SeattableModel", "gathers", "(LSeattableModel$Fill;[III)V"⟩ : Jvm.MethodName) prog_14_method_94_code 8 none).before args0 about = true :=
  sv_hand_word (m := ⟨14, 93⟩) (by decide +kernel) rfl (by decide +kernel) (by decide +kernel)
theorem start2.code449 : (Jvm.Cond.code (⟨"SeattableModel", "grows", "(LSeattableModel$Fill;[III)V"⟩ : Jvm.MethodName) prog_14_method_95_code 9 none).before args0 about = true :=
  sv_hand_word (m := ⟨14, 94⟩) (by decide +kernel) rfl (by decide +kernel) (by decide +kernel)
theorem start2.code450 : (Jvm.Cond.code (⟨"SeattableModel", "lifts", "(IIJJ)Z"⟩ : Jvm.MethodName) prog_14_method_96_code 10 (some .boolean)).before args0 about = true :=
  sv_hand_word (m := ⟨14, 95⟩) (by decide +kernel) rfl (by decide +kernel) (by decide +kernel)
theorem start2.code451 : (Jvm.Cond.code (⟨"SeattableModel", "lowers", "(LSeattableModel$Fill;I)V"⟩ : Jvm.MethodName) prog_14_method_97_code 10 none).before args0 about = true :=
  sv_hand_word (m := ⟨14, 96⟩) (by decide +kernel) rfl (by decide +kernel) (by decide +kernel)
theorem start2.code452 : (Jvm.Cond.code (⟨"SeattableModel", "spans", "(LSeattableModel$Fill;[I)V"⟩ : Jvm.MethodName) prog_14_method_99_code 8 none).before args0 about = true :=
  sv_hand_word (m := ⟨14, 98⟩) (by decide +kernel) rfl (by decide +kernel) (by decide +kernel)
theorem start2.code453 : (Jvm.Cond.code (⟨"SeattableModel", "stands", "(LSeattableModel$Fill;III)I"⟩ : Jvm.MethodName) prog_14_method_98_code 8 (some .int)).before args0 about = true :=
  sv_hand_word (m := ⟨14, 97⟩) (by decide +kernel) rfl (by decide +kernel) (by decide +kernel)
theorem start2.code454 : (Jvm.Cond.code (⟨"SeattableModel", "tables", "(LSeattableModel$Fill;[II)V"⟩ : Jvm.MethodName) prog_14_method_100_code 7 none).before args0 about = true :=
  sv_hand_word (m := ⟨14, 99⟩) (by decide +kernel) rfl (by decide +kernel) (by decide +kernel)
theorem start2.code455 : (Jvm.Cond.code (⟨"SeattableModel", "canEnd", "(LSeattableModel$Fill;[II)Z"⟩ : Jvm.MethodName) prog_14_method_101_code 11 (some .boolean)).before args0 about = true :=
  sv_hand_word (m := ⟨14, 100⟩) (by decide +kernel) rfl (by decide +kernel) (by decide +kernel)
theorem start2.code456 : (Jvm.Cond.code (⟨"SeattableModel", "finds", "(LSeattableModel$Fill;II[I)Z"⟩ : Jvm.MethodName) prog_14_method_102_code 9 (some .boolean)).before args0 about = true :=
  sv_hand_word (m := ⟨14, 101⟩) (by decide +kernel) rfl (by decide +kernel) (by decide +kernel)
theorem start2.code457 : (Jvm.Cond.code (⟨"SeattableModel", "cellAt", "(III)I"⟩ : Jvm.MethodName) prog_14_method_105_code 5 (some .int)).before args0 about = true :=
  sv_hand_word (m := ⟨14, 104⟩) (by decide +kernel) rfl (by decide +kernel) (by decide +kernel)
theorem start2.code458 : (Jvm.Cond.code (⟨"SeattableModel", "isTable", "(I)Z"⟩ : Jvm.MethodName) prog_14_method_104_code 2 (some .boolean)).before args0 about = true :=
  sv_hand_word (m := ⟨14, 103⟩) (by decide +kernel) rfl (by decide +kernel) (by decide +kernel)
theorem start2.code459 : (Jvm.Cond.code (⟨"SeattableModel", "factor", "(IZI)I"⟩ : Jvm.MethodName) prog_14_method_106_code 5 (some .int)).before args0 about = true :=
  sv_hand_word (m := ⟨14, 105⟩) (by decide +kernel) rfl (by decide +kernel) (by decide +kernel)
theorem start2.code460 : (Jvm.Cond.code (⟨"SeattableModel", "cutAt", "(I)I"⟩ : Jvm.MethodName) prog_14_method_107_code 2 (some .int)).before args0 about = true :=
  sv_hand_word (m := ⟨14, 106⟩) (by decide +kernel) rfl (by decide +kernel) (by decide +kernel)
theorem start2.code461 : (Jvm.Cond.code (⟨"SeattableModel", "tiers", "(IIII)I"⟩ : Jvm.MethodName) prog_14_method_108_code 11 (some .int)).before args0 about = true :=
  sv_hand_word (m := ⟨14, 107⟩) (by decide +kernel) rfl (by decide +kernel) (by decide +kernel)

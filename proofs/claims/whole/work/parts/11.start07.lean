set_option maxRecDepth 16384

set_option maxRecDepth 16384 in
theorem start2.others_11_2 : (((tables_1_11.drop 34).drop 23).take 16).all (fun c => sv_isCode c || c.before args0 about) = true := by decide +kernel
set_option maxRecDepth 16384 in
theorem start2.others_11_3 : ((((tables_1_11.drop 34).drop 23).drop 16).take 13).all (fun c => sv_isCode c || c.before args0 about) = true := by decide +kernel

set_option maxRecDepth 16384 in
theorem start2.others_11_4 : (((((tables_1_11.drop 34).drop 23).drop 16).drop 13).take 13).all (fun c => sv_isCode c || c.before args0 about) = true := by decide +kernel
set_option maxRecDepth 16384 in
theorem start2.others_11_5 : ((((((tables_1_11.drop 34).drop 23).drop 16).drop 13).drop 13).take 13).all (fun c => sv_isCode c || c.before args0 about) = true := by decide +kernel

set_option maxRecDepth 16384 in
theorem start2.others_11_6 : (((((((tables_1_11.drop 34).drop 23).drop 16).drop 13).drop 13).drop 13).take 13).all (fun c => sv_isCode c || c.before args0 about) = true := by decide +kernel
set_option maxRecDepth 16384 in
theorem start2.others_11_7 : ((((((((tables_1_11.drop 34).drop 23).drop 16).drop 13).drop 13).drop 13).drop 13).take 13).all (fun c => sv_isCode c || c.before args0 about) = true := by decide +kernel

set_option maxRecDepth 16384 in
theorem start2.others_11_8 : (((((((((tables_1_11.drop 34).drop 23).drop 16).drop 13).drop 13).drop 13).drop 13).drop 13).take 15).all (fun c => sv_isCode c || c.before args0 about) = true := by decide +kernel
set_option maxRecDepth 16384 in
theorem start2.others_11_9 : ((((((((((tables_1_11.drop 34).drop 23).drop 16).drop 13).drop 13).drop 13).drop 13).drop 13).drop 15).take 20).all (fun c => sv_isCode c || c.before args0 about) = true := by decide +kernel

set_option maxRecDepth 16384 in
theorem start2.others_11_10 : (((((((((((tables_1_11.drop 34).drop 23).drop 16).drop 13).drop 13).drop 13).drop 13).drop 13).drop 15).drop 20).take 26).all (fun c => sv_isCode c || c.before args0 about) = true := by decide +kernel
set_option maxRecDepth 16384 in
theorem start2.others_11_11 : ((((((((((((tables_1_11.drop 34).drop 23).drop 16).drop 13).drop 13).drop 13).drop 13).drop 13).drop 15).drop 20).drop 26).take 23).all (fun c => sv_isCode c || c.before args0 about) = true := by decide +kernel

set_option maxRecDepth 16384 in
theorem start2.others_11_12 : ((((((((((((tables_1_11.drop 34).drop 23).drop 16).drop 13).drop 13).drop 13).drop 13).drop 13).drop 15).drop 20).drop 26).drop 23).all (fun c => sv_isCode c || c.before args0 about) = true := by decide +kernel
theorem start2.others_hold_11 : tables_1_11.all (fun c => sv_isCode c || c.before args0 about) = true := sv_all_split _ 34 tables_1_11 others_11_0 (sv_all_split _ 23 (tables_1_11.drop 34) others_11_1 (sv_all_split _ 16 ((tables_1_11.drop 34).drop 23) others_11_2 (sv_all_split _ 13 (((tables_1_11.drop 34).drop 23).drop 16) others_11_3 (sv_all_split _ 13 ((((tables_1_11.drop 34).drop 23).drop 16).drop 13) others_11_4 (sv_all_split _ 13 (((((tables_1_11.drop 34).drop 23).drop 16).drop 13).drop 13) others_11_5 (sv_all_split _ 13 ((((((tables_1_11.drop 34).drop 23).drop 16).drop 13).drop 13).drop 13) others_11_6 (sv_all_split _ 13 (((((((tables_1_11.drop 34).drop 23).drop 16).drop 13).drop 13).drop 13).drop 13) others_11_7 (sv_all_split _ 15 ((((((((tables_1_11.drop 34).drop 23).drop 16).drop 13).drop 13).drop 13).drop 13).drop 13) others_11_8 (sv_all_split _ 20 (((((((((tables_1_11.drop 34).drop 23).drop 16).drop 13).drop 13).drop 13).drop 13).drop 13).drop 15) others_11_9 (sv_all_split _ 26 ((((((((((tables_1_11.drop 34).drop 23).drop 16).drop 13).drop 13).drop 13).drop 13).drop 13).drop 15).drop 20) others_11_10 (sv_all_split _ 23 (((((((((((tables_1_11.drop 34).drop 23).drop 16).drop 13).drop 13).drop 13).drop 13).drop 13).drop 15).drop 20).drop 26) others_11_11 others_11_12)))))))))))
theorem start2.words_11 : ∀ c ∈ tables_1_11, c.before args0 about = true := fun c h => sv_words others_hold_11 codes_hold_11 c h

theorem start2.code354 : (Jvm.Cond.code (⟨"java/lang/StringUTF16", "putChar", "([BII)V"⟩ : Jvm.MethodName) prog_37_method_4_code 3 none).before args0 about = true :=
  sv_hand_word (m := ⟨23, 2⟩) (by decide +kernel) rfl (by decide +kernel) (by decide +kernel)
theorem start2.code355 : (Jvm.Cond.code (⟨"java/lang/StringUTF16", "putCharSB", "([BII)V"⟩ : Jvm.MethodName) prog_37_method_71_code 3 none).before args0 about = true :=
  sv_hand_word (m := ⟨23, 8⟩) (by decide +kernel) rfl (by decide +kernel) (by decide +kernel)
theorem start2.code356 : (Jvm.Cond.code (⟨"java/lang/StringBuilder", "toString", "()Ljava/lang/String;"⟩ : Jvm.MethodName) prog_35_method_42_code 1 (some (.object "java/lang/String"))).before args0 about = true :=
  sv_hand_word (m := ⟨42, 4⟩) (by decide +kernel) rfl (by decide +kernel) (by decide +kernel)
theorem start2.code357 : (Jvm.Cond.code (⟨"java/lang/String", "<init>", "(Ljava/lang/StringBuilder;)V"⟩ : Jvm.MethodName) prog_34_method_53_code 2 none).before args0 about = true :=
  sv_hand_word (m := ⟨36, 0⟩) (by decide +kernel) rfl (by decide +kernel) (by decide +kernel)
theorem start2.code358 : (Jvm.Cond.code (⟨"java/lang/String", "<init>", "(Ljava/lang/AbstractStringBuilder;Ljava/lang/Void;)V"⟩ : Jvm.MethodName) prog_34_method_150_code 5 none).before args0 about = true :=
  sv_hand_word (m := ⟨36, 5⟩) (by decide +kernel) rfl (by decide +kernel) (by decide +kernel)
theorem start2.code359 : (Jvm.Cond.code (⟨"java/lang/AbstractStringBuilder", "getValue", "()[B"⟩ : Jvm.MethodName) prog_19_method_64_code 1 (some (.array .byte))).before args0 about = true :=
  sv_hand_word (m := ⟨37, 9⟩) (by decide +kernel) rfl (by decide +kernel) (by decide +kernel)
theorem start2.code360 : (Jvm.Cond.code (⟨"java/lang/StringBuilder", "length", "()I"⟩ : Jvm.MethodName) prog_35_method_93_code 1 (some .int)).before args0 about = true :=
  sv_hand_word (m := ⟨42, 5⟩) (by decide +kernel) rfl (by decide +kernel) (by decide +kernel)
theorem start2.code361 : (Jvm.Cond.code (⟨"java/lang/AbstractStringBuilder", "length", "()I"⟩ : Jvm.MethodName) prog_19_method_6_code 1 (some .int)).before args0 about = true :=
  sv_hand_word (m := ⟨37, 1⟩) (by decide +kernel) rfl (by decide +kernel) (by decide +kernel)
theorem start2.code362 : (Jvm.Cond.code (⟨"java/util/Arrays", "copyOfRange", "([BII)[B"⟩ : Jvm.MethodName) prog_45_method_132_code 3 (some (.array .byte))).before args0 about = true :=
  sv_hand_word (m := ⟨21, 4⟩) (by decide +kernel) rfl (by decide +kernel) (by decide +kernel)
theorem start2.code363 : (Jvm.Cond.code (⟨"java/util/Arrays", "copyOfRangeByte", "([BII)[B"⟩ : Jvm.MethodName) prog_45_method_133_code 5 (some (.array .byte))).before args0 about = true :=
  sv_hand_word (m := ⟨21, 5⟩) (by decide +kernel) rfl (by decide +kernel) (by decide +kernel)
theorem start2.code364 : (Jvm.Cond.code (⟨"java/util/Arrays", "checkLength", "(II)V"⟩ : Jvm.MethodName) prog_45_method_131_code 2 none).before args0 about = true :=
  sv_hand_word (m := ⟨21, 3⟩) (by decide +kernel) rfl (by decide +kernel) (by decide +kernel)
theorem start2.code365 : (Jvm.Cond.code (⟨"java/lang/StringBuilder", "append", "(I)Ljava/lang/StringBuilder;"⟩ : Jvm.MethodName) prog_35_method_15_code 2 (some (.object "java/lang/StringBuilder"))).before args0 about = true :=
  sv_hand_word (m := ⟨42, 3⟩) (by decide +kernel) rfl (by decide +kernel) (by decide +kernel)
theorem start2.code366 : (Jvm.Cond.code (⟨"java/lang/AbstractStringBuilder", "append", "(I)Ljava/lang/AbstractStringBuilder;"⟩ : Jvm.MethodName) prog_19_method_32_code 4 (some (.object "java/lang/AbstractStringBuilder"))).before args0 about = true :=
  sv_hand_word (m := ⟨37, 8⟩) (by decide +kernel) rfl (by decide +kernel) (by decide +kernel)
theorem start2.code367 : (Jvm.Cond.code (⟨"java/lang/Integer", "stringSize", "(I)I"⟩ : Jvm.MethodName) prog_28_method_13_code 4 (some .int)).before args0 about = true :=
  sv_hand_word (m := ⟨43, 1⟩) (by decide +kernel) rfl (by decide +kernel) (by decide +kernel)
theorem start2.code368 : (Jvm.Cond.code (⟨"java/lang/Integer", "getChars", "(II[B)I"⟩ : Jvm.MethodName) prog_28_method_12_code 7 (some .int)).before args0 about = true :=
  sv_hand_word (m := ⟨43, 0⟩) (by decide +kernel) rfl (by decide +kernel) (by decide +kernel)
theorem start2.code369 : (Jvm.Cond.code (⟨"java/lang/StringUTF16", "getChars", "(III[B)I"⟩ : Jvm.MethodName) prog_37_method_77_code 5 (some .int)).before args0 about = true :=
  sv_hand_word (m := ⟨23, 9⟩) (by decide +kernel) rfl (by decide +kernel) (by decide +kernel)
theorem start2.code370 : (Jvm.Cond.code (⟨"java/lang/StringUTF16", "checkBoundsBeginEnd", "(II[B)V"⟩ : Jvm.MethodName) prog_37_method_93_code 3 none).before args0 about = true :=
  sv_hand_word (m := ⟨23, 15⟩) (by decide +kernel) rfl (by decide +kernel) (by decide +kernel)
theorem start2.code371 : (Jvm.Cond.code (⟨"java/lang/String", "checkBoundsBeginEnd", "(III)V"⟩ : Jvm.MethodName) prog_34_method_158_code 3 none).before args0 about = true :=
  sv_hand_word (m := ⟨36, 10⟩) (by decide +kernel) rfl (by decide +kernel) (by decide +kernel)
theorem start2.code372 : (Jvm.Cond.code (⟨"jdk/internal/util/Preconditions", "checkFromToIndex", "(IIILjava/util/function/BiFunction;)I"⟩ : Jvm.MethodName) prog_53_method_12_code 4 (some .int)).before args0 about = true :=
  sv_hand_word (m := ⟨18, 1⟩) (by decide +kernel) rfl (by decide +kernel) (by decide +kernel)
theorem start2.code373 : (Jvm.Cond.code (⟨"java/lang/StringUTF16", "getChars", "(II[B)I"⟩ : Jvm.MethodName) prog_37_method_89_code 7 (some .int)).before args0 about = true :=
  sv_hand_word (m := ⟨23, 13⟩) (by decide +kernel) rfl (by decide +kernel) (by decide +kernel)
theorem start2.code374 : (Jvm.Cond.code (⟨"java/lang/StringBuilder", "append", "(Ljava/lang/String;)Ljava/lang/StringBuilder;"⟩ : Jvm.MethodName) prog_35_method_7_code 2 (some (.object "java/lang/StringBuilder"))).before args0 about = true :=
  sv_hand_word (m := ⟨42, 1⟩) (by decide +kernel) rfl (by decide +kernel) (by decide +kernel)
theorem start2.code375 : (Jvm.Cond.code (⟨"java/lang/AbstractStringBuilder", "append", "(Ljava/lang/String;)Ljava/lang/AbstractStringBuilder;"⟩ : Jvm.MethodName) prog_19_method_22_code 3 (some (.object "java/lang/AbstractStringBuilder"))).before args0 about = true :=
  sv_hand_word (m := ⟨37, 5⟩) (by decide +kernel) rfl (by decide +kernel) (by decide +kernel)
theorem start2.code376 : (Jvm.Cond.code (⟨"java/lang/AbstractStringBuilder", "appendNull", "()Ljava/lang/AbstractStringBuilder;"⟩ : Jvm.MethodName) prog_19_method_26_code 3 (some (.object "java/lang/AbstractStringBuilder"))).before args0 about = true :=
  sv_hand_word (m := ⟨37, 6⟩) (by decide +kernel) rfl (by decide +kernel) (by decide +kernel)
theorem start2.code377 : (Jvm.Cond.code (⟨"java/lang/StringUTF16", "putCharsAt", "([BICCCC)I"⟩ : Jvm.MethodName) prog_37_method_81_code 7 (some .int)).before args0 about = true :=
  sv_hand_word (m := ⟨23, 10⟩) (by decide +kernel) rfl (by decide +kernel) (by decide +kernel)
theorem start2.code378 : (Jvm.Cond.code (⟨"java/lang/AbstractStringBuilder", "putStringAt", "(ILjava/lang/String;)V"⟩ : Jvm.MethodName) prog_19_method_73_code 3 none).before args0 about = true :=
  sv_hand_word (m := ⟨37, 12⟩) (by decide +kernel) rfl (by decide +kernel) (by decide +kernel)
theorem start2.code379 : (Jvm.Cond.code (⟨"java/lang/AbstractStringBuilder", "inflateIfNeededFor", "(Ljava/lang/String;)V"⟩ : Jvm.MethodName) prog_19_method_71_code 2 none).before args0 about = true :=
  sv_hand_word (m := ⟨37, 11⟩) (by decide +kernel) rfl (by decide +kernel) (by decide +kernel)
theorem start2.code380 : (Jvm.Cond.code (⟨"java/lang/String", "getBytes", "([BIB)V"⟩ : Jvm.MethodName) prog_34_method_147_code 4 none).before args0 about = true :=
  sv_hand_word (m := ⟨36, 4⟩) (by decide +kernel) rfl (by decide +kernel) (by decide +kernel)
theorem start2.code381 : (Jvm.Cond.code (⟨"java/lang/IllegalArgumentException", "<init>", "(Ljava/lang/String;)V"⟩ : Jvm.MethodName) prog_25_method_2_code 2 none).before args0 about = true :=
  sv_hand_word (m := ⟨51, 1⟩) (by decide +kernel) rfl (by decide +kernel) (by decide +kernel)
theorem start2.code382 : (Jvm.Cond.code (⟨"java/lang/RuntimeException", "<init>", "(Ljava/lang/String;)V"⟩ : Jvm.MethodName) prog_33_method_2_code 2 none).before args0 about = true :=
  sv_hand_word (m := ⟨46, 1⟩) (by decide +kernel) rfl (by decide +kernel) (by decide +kernel)
theorem start2.code383 : (Jvm.Cond.code (⟨"java/lang/Exception", "<init>", "(Ljava/lang/String;)V"⟩ : Jvm.MethodName) prog_24_method_2_code 2 none).before args0 about = true :=
  sv_hand_word (m := ⟨41, 1⟩) (by decide +kernel) rfl (by decide +kernel) (by decide +kernel)
theorem start2.code384 : (Jvm.Cond.code (⟨"java/lang/Throwable", "<init>", "(Ljava/lang/String;)V"⟩ : Jvm.MethodName) prog_39_method_2_code 2 none).before args0 about = true :=
  sv_hand_word (m := ⟨35, 1⟩) (by decide +kernel) rfl (by decide +kernel) (by decide +kernel)
theorem start2.code385 : (Jvm.Cond.code (⟨"java/lang/StringUTF16", "compress", "([BII)[B"⟩ : Jvm.MethodName) prog_37_method_17_code 6 (some (.array .byte))).before args0 about = true :=
  sv_hand_word (m := ⟨23, 6⟩) (by decide +kernel) rfl (by decide +kernel) (by decide +kernel)
theorem start2.code386 : (Jvm.Cond.code (⟨"java/lang/StringUTF16", "compress", "([BI[BII)I"⟩ : Jvm.MethodName) prog_37_method_22_code 7 (some .int)).before args0 about = true :=
  sv_hand_word (m := ⟨23, 7⟩) (by decide +kernel) rfl (by decide +kernel) (by decide +kernel)
theorem start2.code387 : (Jvm.Cond.code (⟨"java/lang/StringUTF16", "coderFromArrayLen", "([BI)B"⟩ : Jvm.MethodName) prog_37_method_15_code 2 (some .byte)).before args0 about = true :=
  sv_hand_word (m := ⟨23, 5⟩) (by decide +kernel) rfl (by decide +kernel) (by decide +kernel)
theorem start2.code388 : (Jvm.Cond.code (⟨"SeattableModel", "isDigit", "(I)Z"⟩ : Jvm.MethodName) prog_14_method_48_code 1 (some .boolean)).before args0 about = true :=
  sv_hand_word (m := ⟨14, 47⟩) (by decide +kernel) rfl (by decide +kernel) (by decide +kernel)
theorem start2.code389 : (Jvm.Cond.code (⟨"SeattableModel", "wrong", "(I)V"⟩ : Jvm.MethodName) prog_14_method_49_code 2 none).before args0 about = true :=
  sv_hand_word (m := ⟨14, 48⟩) (by decide +kernel) rfl (by decide +kernel) (by decide +kernel)
theorem start2.code390 : (Jvm.Cond.code (⟨"SeattableModel", "isEnd", "()Z"⟩ : Jvm.MethodName) prog_14_method_52_code 1 (some .boolean)).before args0 about = true :=
  sv_hand_word (m := ⟨14, 51⟩) (by decide +kernel) rfl (by decide +kernel) (by decide +kernel)
theorem start2.code391 : (Jvm.Cond.code (⟨"SeattableModel", "statement", "()V"⟩ : Jvm.MethodName) prog_14_method_56_code 3 none).before args0 about = true :=
  sv_hand_word (m := ⟨14, 55⟩) (by decide +kernel) rfl (by decide +kernel) (by decide +kernel)
theorem start2.code392 : (Jvm.Cond.code (⟨"SeattableModel", "isWord", "(Ljava/lang/String;)Z"⟩ : Jvm.MethodName) prog_14_method_51_code 2 (some .boolean)).before args0 about = true :=
  sv_hand_word (m := ⟨14, 50⟩) (by decide +kernel) rfl (by decide +kernel) (by decide +kernel)
theorem start2.code393 : (Jvm.Cond.code (⟨"java/lang/String", "equals", "(Ljava/lang/Object;)Z"⟩ : Jvm.MethodName) prog_34_method_66_code 3 (some .boolean)).before args0 about = true :=
  sv_hand_word (m := ⟨36, 3⟩) (by decide +kernel) rfl (by decide +kernel) (by decide +kernel)
theorem start2.code394 : (Jvm.Cond.code (⟨"java/lang/StringLatin1", "equals", "([B[B)Z"⟩ : Jvm.MethodName) prog_36_method_13_code 3 (some .boolean)).before args0 about = true :=
  sv_hand_word (m := ⟨22, 2⟩) (by decide +kernel) rfl (by decide +kernel) (by decide +kernel)
theorem start2.code395 : (Jvm.Cond.code (⟨"SeattableModel", "tells", "(IIII)V"⟩ : Jvm.MethodName) prog_14_method_55_code 5 none).before args0 about = true :=
  sv_hand_word (m := ⟨14, 54⟩) (by decide +kernel) rfl (by decide +kernel) (by decide +kernel)
theorem start2.code396 : (Jvm.Cond.code (⟨"SeattableModel", "isSign", "()Z"⟩ : Jvm.MethodName) prog_14_method_53_code 1 (some .boolean)).before args0 about = true :=
  sv_hand_word (m := ⟨14, 52⟩) (by decide +kernel) rfl (by decide +kernel) (by decide +kernel)
theorem start2.code397 : (Jvm.Cond.code (⟨"SeattableModel", "takes", "(JI)I"⟩ : Jvm.MethodName) prog_14_method_54_code 5 (some .int)).before args0 about = true :=
  sv_hand_word (m := ⟨14, 53⟩) (by decide +kernel) rfl (by decide +kernel) (by decide +kernel)
theorem start2.code398 : (Jvm.Cond.code (⟨"SeattableModel", "sumOf", "()V"⟩ : Jvm.MethodName) prog_14_method_57_code 3 none).before args0 about = true :=
  sv_hand_word (m := ⟨14, 56⟩) (by decide +kernel) rfl (by decide +kernel) (by decide +kernel)
theorem start2.code399 : (Jvm.Cond.code (⟨"SeattableModel", "share", "(I)V"⟩ : Jvm.MethodName) prog_14_method_58_code 3 none).before args0 about = true :=
  sv_hand_word (m := ⟨14, 57⟩) (by decide +kernel) rfl (by decide +kernel) (by decide +kernel)
theorem start2.code400 : (Jvm.Cond.code (⟨"SeattableModel", "errorPlace", "()I"⟩ : Jvm.MethodName) prog_14_method_61_code 1 (some .int)).before args0 about = true :=
  sv_hand_word (m := ⟨14, 60⟩) (by decide +kernel) rfl (by decide +kernel) (by decide +kernel)
theorem start2.code401 : (Jvm.Cond.code (⟨"SeattableModel", "load", "()I"⟩ : Jvm.MethodName) prog_14_method_62_code 2 (some .int)).before args0 about = true :=
  sv_hand_word (m := ⟨14, 61⟩) (by decide +kernel) rfl (by decide +kernel) (by decide +kernel)
theorem start2.code402 : (Jvm.Cond.code (⟨"SeattableModel", "does", "([I)V"⟩ : Jvm.MethodName) prog_14_method_63_code 2 none).before args0 about = true :=
  sv_hand_word (m := ⟨14, 62⟩) (by decide +kernel) rfl (by decide +kernel) (by decide +kernel)
theorem start2.code403 : (Jvm.Cond.code (⟨"SeattableModel", "deal", "(IIII)I"⟩ : Jvm.MethodName) prog_14_method_75_code 5 (some .int)).before args0 about = true :=
  sv_hand_word (m := ⟨14, 74⟩) (by decide +kernel) rfl (by decide +kernel) (by decide +kernel)
theorem start2.code404 : (Jvm.Cond.code (⟨"SeattableModel", "isRowThere", "(II)Z"⟩ : Jvm.MethodName) prog_14_method_74_code 3 (some .boolean)).before args0 about = true :=
  sv_hand_word (m := ⟨14, 73⟩) (by decide +kernel) rfl (by decide +kernel) (by decide +kernel)
theorem start2.code405 : (Jvm.Cond.code (⟨"SeattableModel", "bounds", "(I)V"⟩ : Jvm.MethodName) prog_14_method_66_code 3 none).before args0 about = true :=
  sv_hand_word (m := ⟨14, 65⟩) (by decide +kernel) rfl (by decide +kernel) (by decide +kernel)
theorem start2.code406 : (Jvm.Cond.code (⟨"SeattableModel", "manyOf", "(I)I"⟩ : Jvm.MethodName) prog_14_method_64_code 2 (some .int)).before args0 about = true :=
  sv_hand_word (m := ⟨14, 63⟩) (by decide +kernel) rfl (by decide +kernel) (by decide +kernel)
theorem start2.code407 : (Jvm.Cond.code (⟨"SeattableModel", "claims", "(II)[J"⟩ : Jvm.MethodName) prog_14_method_65_code 8 (some (.array .long))).before args0 about = true :=
  sv_hand_word (m := ⟨14, 64⟩) (by decide +kernel) rfl (by decide +kernel) (by decide +kernel)
theorem start2.code408 : (Jvm.Cond.code (⟨"SeattableModel", "dealt", "([JIIZ)Ljava/util/ArrayList;"⟩ : Jvm.MethodName) prog_14_method_68_code 18 (some (.object "java/util/ArrayList"))).before args0 about = true :=
  sv_hand_word (m := ⟨14, 67⟩) (by decide +kernel) rfl (by decide +kernel) (by decide +kernel)

set_option maxRecDepth 16384 in
theorem start2.codes_are_12 : tables_1_12.filter sv_isCode = [Jvm.Cond.code (⟨"java/lang/StringUTF16", "putChar", "([BII)V"⟩ : Jvm.MethodName) prog_37_method_4_code 3 none,
    Jvm.Cond.code (⟨"java/lang/StringUTF16", "putCharSB", "([BII)V"⟩ : Jvm.MethodName) prog_37_method_71_code 3 none,
    Jvm.Cond.code (⟨"java/lang/StringBuilder", "toString", "()Ljava/lang/String;"⟩ : Jvm.MethodName) prog_35_method_42_code 1 (some (.object "java/lang/String")),
    Jvm.Cond.code (⟨"java/lang/String", "<init>", "(Ljava/lang/StringBuilder;)V"⟩ : Jvm.MethodName) prog_34_method_53_code 2 none,
    Jvm.Cond.code (⟨"java/lang/String", "<init>", "(Ljava/lang/AbstractStringBuilder;Ljava/lang/Void;)V"⟩ : Jvm.MethodName) prog_34_method_150_code 5 none,
    Jvm.Cond.code (⟨"java/lang/AbstractStringBuilder", "getValue", "()[B"⟩ : Jvm.MethodName) prog_19_method_64_code 1 (some (.array .byte)),
    Jvm.Cond.code (⟨"java/lang/StringBuilder", "length", "()I"⟩ : Jvm.MethodName) prog_35_method_93_code 1 (some .int),
    Jvm.Cond.code (⟨"java/lang/AbstractStringBuilder", "length", "()I"⟩ : Jvm.MethodName) prog_19_method_6_code 1 (some .int),
    Jvm.Cond.code (⟨"java/util/Arrays", "copyOfRange", "([BII)[B"⟩ : Jvm.MethodName) prog_45_method_132_code 3 (some (.array .byte)),
    Jvm.Cond.code (⟨"java/util/Arrays", "copyOfRangeByte", "([BII)[B"⟩ : Jvm.MethodName) prog_45_method_133_code 5 (some (.array .byte)),
    Jvm.Cond.code (⟨"java/util/Arrays", "checkLength", "(II)V"⟩ : Jvm.MethodName) prog_45_method_131_code 2 none,
    Jvm.Cond.code (⟨"java/lang/StringBuilder", "append", "(I)Ljava/lang/StringBuilder;"⟩ : Jvm.MethodName) prog_35_method_15_code 2 (some (.object "java/lang/StringBuilder")),
    Jvm.Cond.code (⟨"java/lang/AbstractStringBuilder", "append", "(I)Ljava/lang/AbstractStringBuilder;"⟩ : Jvm.MethodName) prog_19_method_32_code 4 (some (.object "java/lang/AbstractStringBuilder")),
    Jvm.Cond.code (⟨"java/lang/Integer", "stringSize", "(I)I"⟩ : Jvm.MethodName) prog_28_method_13_code 4 (some .int),
    Jvm.Cond.code (⟨"java/lang/Integer", "getChars", "(II[B)I"⟩ : Jvm.MethodName) prog_28_method_12_code 7 (some .int),
    Jvm.Cond.code (⟨"java/lang/StringUTF16", "getChars", "(III[B)I"⟩ : Jvm.MethodName) prog_37_method_77_code 5 (some .int),
    Jvm.Cond.code (⟨"java/lang/StringUTF16", "checkBoundsBeginEnd", "(II[B)V"⟩ : Jvm.MethodName) prog_37_method_93_code 3 none,
    Jvm.Cond.code (⟨"java/lang/String", "checkBoundsBeginEnd", "(III)V"⟩ : Jvm.MethodName) prog_34_method_158_code 3 none,
    Jvm.Cond.code (⟨"jdk/internal/util/Preconditions", "checkFromToIndex", "(IIILjava/util/function/BiFunction;)I"⟩ : Jvm.MethodName) prog_53_method_12_code 4 (some .int),
    Jvm.Cond.code (⟨"java/lang/StringUTF16", "getChars", "(II[B)I"⟩ : Jvm.MethodName) prog_37_method_89_code 7 (some .int),
    Jvm.Cond.code (⟨"java/lang/StringBuilder", "append", "(Ljava/lang/String;)Ljava/lang/StringBuilder;"⟩ : Jvm.MethodName) prog_35_method_7_code 2 (some (.object "java/lang/StringBuilder")),
    Jvm.Cond.code (⟨"java/lang/AbstractStringBuilder", "append", "(Ljava/lang/String;)Ljava/lang/AbstractStringBuilder;"⟩ : Jvm.MethodName) prog_19_method_22_code 3 (some (.object "java/lang/AbstractStringBuilder")),
    Jvm.Cond.code (⟨"java/lang/AbstractStringBuilder", "appendNull", "()Ljava/lang/AbstractStringBuilder;"⟩ : Jvm.MethodName) prog_19_method_26_code 3 (some (.object "java/lang/AbstractStringBuilder")),
    Jvm.Cond.code (⟨"java/lang/StringUTF16", "putCharsAt", "([BICCCC)I"⟩ : Jvm.MethodName) prog_37_method_81_code 7 (some .int),
    Jvm.Cond.code (⟨"java/lang/AbstractStringBuilder", "putStringAt", "(ILjava/lang/String;)V"⟩ : Jvm.MethodName) prog_19_method_73_code 3 none,
    Jvm.Cond.code (⟨"java/lang/AbstractStringBuilder", "inflateIfNeededFor", "(Ljava/lang/String;)V"⟩ : Jvm.MethodName) prog_19_method_71_code 2 none,
    Jvm.Cond.code (⟨"java/lang/String", "getBytes", "([BIB)V"⟩ : Jvm.MethodName) prog_34_method_147_code 4 none,
    Jvm.Cond.code (⟨"java/lang/IllegalArgumentException", "<init>", "(Ljava/lang/String;)V"⟩ : Jvm.MethodName) prog_25_method_2_code 2 none,
    Jvm.Cond.code (⟨"java/lang/RuntimeException", "<init>", "(Ljava/lang/String;)V"⟩ : Jvm.MethodName) prog_33_method_2_code 2 none,
    Jvm.Cond.code (⟨"java/lang/Exception", "<init>", "(Ljava/lang/String;)V"⟩ : Jvm.MethodName) prog_24_method_2_code 2 none,
    Jvm.Cond.code (⟨"java/lang/Throwable", "<init>", "(Ljava/lang/String;)V"⟩ : Jvm.MethodName) prog_39_method_2_code 2 none,
    Jvm.Cond.code (⟨"java/lang/StringUTF16", "compress", "([BII)[B"⟩ : Jvm.MethodName) prog_37_method_17_code 6 (some (.array .byte)),
    Jvm.Cond.code (⟨"java/lang/StringUTF16", "compress", "([BI[BII)I"⟩ : Jvm.MethodName) prog_37_method_22_code 7 (some .int),
    Jvm.Cond.code (⟨"java/lang/StringUTF16", "coderFromArrayLen", "([BI)B"⟩ : Jvm.MethodName) prog_37_method_15_code 2 (some .byte),
    Jvm.Cond.code (⟨"SeattableModel", "isDigit", "(I)Z"⟩ : Jvm.MethodName) prog_14_method_48_code 1 (some .boolean),
    Jvm.Cond.code (⟨"SeattableModel", "wrong", "(I)V"⟩ : Jvm.MethodName) prog_14_method_49_code 2 none,
    Jvm.Cond.code (⟨"SeattableModel", "isEnd", "()Z"⟩ : Jvm.MethodName) prog_14_method_52_code 1 (some .boolean),
    Jvm.Cond.code (⟨"SeattableModel", "statement", "()V"⟩ : Jvm.MethodName) prog_14_method_56_code 3 none,
    Jvm.Cond.code (⟨"SeattableModel", "isWord", "(Ljava/lang/String;)Z"⟩ : Jvm.MethodName) prog_14_method_51_code 2 (some .boolean),
    Jvm.Cond.code (⟨"java/lang/String", "equals", "(Ljava/lang/Object;)Z"⟩ : Jvm.MethodName) prog_34_method_66_code 3 (some .boolean),
    Jvm.Cond.code (⟨"java/lang/StringLatin1", "equals", "([B[B)Z"⟩ : Jvm.MethodName) prog_36_method_13_code 3 (some .boolean),
    Jvm.Cond.code (⟨"SeattableModel", "tells", "(IIII)V"⟩ : Jvm.MethodName) prog_14_method_55_code 5 none,
    Jvm.Cond.code (⟨"SeattableModel", "isSign", "()Z"⟩ : Jvm.MethodName) prog_14_method_53_code 1 (some .boolean),
    Jvm.Cond.code (⟨"SeattableModel", "takes", "(JI)I"⟩ : Jvm.MethodName) prog_14_method_54_code 5 (some .int),
    Jvm.Cond.code (⟨"SeattableModel", "sumOf", "()V"⟩ : Jvm.MethodName) prog_14_method_57_code 3 none,
    Jvm.Cond.code (⟨"SeattableModel", "share", "(I)V"⟩ : Jvm.MethodName) prog_14_method_58_code 3 none,
    Jvm.Cond.code (⟨"SeattableModel", "errorPlace", "()I"⟩ : Jvm.MethodName) prog_14_method_61_code 1 (some .int),
    Jvm.Cond.code (⟨"SeattableModel", "load", "()I"⟩ : Jvm.MethodName) prog_14_method_62_code 2 (some .int),
    Jvm.Cond.code (⟨"SeattableModel", "does", "([I)V"⟩ : Jvm.MethodName) prog_14_method_63_code 2 none,
    Jvm.Cond.code (⟨"SeattableModel", "deal", "(IIII)I"⟩ : Jvm.MethodName) prog_14_method_75_code 5 (some .int),
    Jvm.Cond.code (⟨"SeattableModel", "isRowThere", "(II)Z"⟩ : Jvm.MethodName) prog_14_method_74_code 3 (some .boolean),
    Jvm.Cond.code (⟨"SeattableModel", "bounds", "(I)V"⟩ : Jvm.MethodName) prog_14_method_66_code 3 none,
    Jvm.Cond.code (⟨"SeattableModel", "manyOf", "(I)I"⟩ : Jvm.MethodName) prog_14_method_64_code 2 (some .int),
    Jvm.Cond.code (⟨"SeattableModel", "claims", "(II)[J"⟩ : Jvm.MethodName) prog_14_method_65_code 8 (some (.array .long)),
    Jvm.Cond.code (⟨"SeattableModel", "dealt", "([JIIZ)Ljava/util/ArrayList;"⟩ : Jvm.MethodName) prog_14_method_68_code 18 (some (.object "java/util/ArrayList"))] := by
  first
  | rfl
  | simp only [tables_1_12, List.filter, sv_isCode]
theorem start2.codes_hold_12 : ∀ c ∈ tables_1_12.filter sv_isCode, c.before args0 about = true := by
  rw [codes_are_12]
  exact List.forall_mem_cons.mpr ⟨code354, List.forall_mem_cons.mpr ⟨code355, List.forall_mem_cons.mpr ⟨code356, List.forall_mem_cons.mpr ⟨code357, List.forall_mem_cons.mpr ⟨code358, List.forall_mem_cons.mpr ⟨code359, List.forall_mem_cons.mpr ⟨code360, List.forall_mem_cons.mpr ⟨code361, List.forall_mem_cons.mpr ⟨code362, List.forall_mem_cons.mpr ⟨code363, List.forall_mem_cons.mpr ⟨code364, List.forall_mem_cons.mpr ⟨code365, List.forall_mem_cons.mpr ⟨code366, List.forall_mem_cons.mpr ⟨code367, List.forall_mem_cons.mpr ⟨code368, List.forall_mem_cons.mpr ⟨code369, List.forall_mem_cons.mpr ⟨code370, List.forall_mem_cons.mpr ⟨code371, List.forall_mem_cons.mpr ⟨code372, List.forall_mem_cons.mpr ⟨code373, List.forall_mem_cons.mpr ⟨code374, List.forall_mem_cons.mpr ⟨code375, List.forall_mem_cons.mpr ⟨code376, List.forall_mem_cons.mpr ⟨code377, List.forall_mem_cons.mpr ⟨code378, List.forall_mem_cons.mpr ⟨code379, List.forall_mem_cons.mpr ⟨code380, List.forall_mem_cons.mpr ⟨code381, List.forall_mem_cons.mpr ⟨code382, List.forall_mem_cons.mpr ⟨code383, List.forall_mem_cons.mpr ⟨code384, List.forall_mem_cons.mpr ⟨code385, List.forall_mem_cons.mpr ⟨code386, List.forall_mem_cons.mpr ⟨code387, List.forall_mem_cons.mpr ⟨code388, List.forall_mem_cons.mpr ⟨code389, List.forall_mem_cons.mpr ⟨code390, List.forall_mem_cons.mpr ⟨code391, List.forall_mem_cons.mpr ⟨code392, List.forall_mem_cons.mpr ⟨code393, List.forall_mem_cons.mpr ⟨code394, List.forall_mem_cons.mpr ⟨code395, List.forall_mem_cons.mpr ⟨code396, List.forall_mem_cons.mpr ⟨code397, List.forall_mem_cons.mpr ⟨code398, List.forall_mem_cons.mpr ⟨code399, List.forall_mem_cons.mpr ⟨code400, List.forall_mem_cons.mpr ⟨code401, List.forall_mem_cons.mpr ⟨code402, List.forall_mem_cons.mpr ⟨code403, List.forall_mem_cons.mpr ⟨code404, List.forall_mem_cons.mpr ⟨code405, List.forall_mem_cons.mpr ⟨code406, List.forall_mem_cons.mpr ⟨code407, List.forall_mem_cons.mpr ⟨code408, List.forall_mem_nil _⟩⟩⟩⟩⟩⟩⟩⟩⟩⟩⟩⟩⟩⟩⟩⟩⟩⟩⟩⟩⟩⟩⟩⟩⟩⟩⟩⟩⟩⟩⟩⟩⟩⟩⟩⟩⟩⟩⟩⟩⟩⟩⟩⟩⟩⟩⟩⟩⟩⟩⟩⟩⟩⟩⟩
set_option maxRecDepth 16384 in
theorem start2.others_12_0 : (tables_1_12.take 16).all (fun c => sv_isCode c || c.before args0 about) = true := by decide +kernel
set_option maxRecDepth 16384 in
theorem start2.others_12_1 : ((tables_1_12.drop 16).take 18).all (fun c => sv_isCode c || c.before args0 about) = true := by decide +kernel

set_option maxRecDepth 16384

set_option maxRecDepth 16384 in
theorem start2.others_8_2 : (((tables_1_8.drop 40).drop 40).take 40).all (fun c => sv_isCode c || c.before args0 about) = true := by decide +kernel
set_option maxRecDepth 16384 in
theorem start2.others_8_3 : ((((tables_1_8.drop 40).drop 40).drop 40).take 40).all (fun c => sv_isCode c || c.before args0 about) = true := by decide +kernel

set_option maxRecDepth 16384 in
theorem start2.others_8_4 : (((((tables_1_8.drop 40).drop 40).drop 40).drop 40).take 36).all (fun c => sv_isCode c || c.before args0 about) = true := by decide +kernel
set_option maxRecDepth 16384 in
theorem start2.others_8_5 : ((((((tables_1_8.drop 40).drop 40).drop 40).drop 40).drop 36).take 40).all (fun c => sv_isCode c || c.before args0 about) = true := by decide +kernel

set_option maxRecDepth 16384 in
theorem start2.others_8_6 : ((((((tables_1_8.drop 40).drop 40).drop 40).drop 40).drop 36).drop 40).all (fun c => sv_isCode c || c.before args0 about) = true := by decide +kernel
theorem start2.others_hold_8 : tables_1_8.all (fun c => sv_isCode c || c.before args0 about) = true := sv_all_split _ 40 tables_1_8 others_8_0 (sv_all_split _ 40 (tables_1_8.drop 40) others_8_1 (sv_all_split _ 40 ((tables_1_8.drop 40).drop 40) others_8_2 (sv_all_split _ 40 (((tables_1_8.drop 40).drop 40).drop 40) others_8_3 (sv_all_split _ 36 ((((tables_1_8.drop 40).drop 40).drop 40).drop 40) others_8_4 (sv_all_split _ 40 (((((tables_1_8.drop 40).drop 40).drop 40).drop 40).drop 36) others_8_5 others_8_6)))))
theorem start2.words_8 : ∀ c ∈ tables_1_8, c.before args0 about = true := fun c h => sv_words others_hold_8 codes_hold_8 c h

theorem start2.code264 : (Jvm.Cond.code (⟨"Seattable", "digits", "(ZI)I"⟩ : Jvm.MethodName) prog_1_method_48_code 4 (some .int)).before args0 about = true :=
  sv_hand_word (m := ⟨2, 47⟩) (by decide +kernel) rfl (by decide +kernel) (by decide +kernel)
theorem start2.code265 : (Jvm.Cond.code (⟨"Seattable$Big", "groups", "()I"⟩ : Jvm.MethodName) prog_3_method_8_code 1 (some .int)).before args0 about = true :=
  sv_hand_word (m := ⟨6, 7⟩) (by decide +kernel) rfl (by decide +kernel) (by decide +kernel)
theorem start2.code266 : (Jvm.Cond.code (⟨"Seattable", "write", "(I)I"⟩ : Jvm.MethodName) prog_1_method_49_code 2 (some .int)).before args0 about = true :=
  sv_hand_word (m := ⟨2, 48⟩) (by decide +kernel) rfl (by decide +kernel) (by decide +kernel)
theorem start2.code267 : (Jvm.Cond.code (⟨"Seattable", "writeResults", "()V"⟩ : Jvm.MethodName) prog_1_method_66_code 3 none).before args0 about = true :=
  sv_hand_word (m := ⟨2, 65⟩) (by decide +kernel) rfl (by decide +kernel) (by decide +kernel)
theorem start2.code268 : (Jvm.Cond.code (⟨"Seattable", "putSeats", "(IZ)V"⟩ : Jvm.MethodName) prog_1_method_69_code 3 none).before args0 about = true :=
  sv_hand_word (m := ⟨2, 68⟩) (by decide +kernel) rfl (by decide +kernel) (by decide +kernel)
theorem start2.code269 : (Jvm.Cond.code (⟨"Seattable", "putByte", "(I)V"⟩ : Jvm.MethodName) prog_1_method_72_code 2 none).before args0 about = true :=
  sv_hand_word (m := ⟨2, 71⟩) (by decide +kernel) rfl (by decide +kernel) (by decide +kernel)
theorem start2.code270 : (Jvm.Cond.code (⟨"Seattable", "putNumber", "(II)V"⟩ : Jvm.MethodName) prog_1_method_71_code 7 none).before args0 about = true :=
  sv_hand_word (m := ⟨2, 70⟩) (by decide +kernel) rfl (by decide +kernel) (by decide +kernel)
theorem start2.code271 : (Jvm.Cond.code (⟨"Seattable", "writeTables", "()V"⟩ : Jvm.MethodName) prog_1_method_67_code 4 none).before args0 about = true :=
  sv_hand_word (m := ⟨2, 66⟩) (by decide +kernel) rfl (by decide +kernel) (by decide +kernel)
theorem start2.code272 : (Jvm.Cond.code (⟨"Seattable", "writeBoard", "()V"⟩ : Jvm.MethodName) prog_1_method_68_code 1 none).before args0 about = true :=
  sv_hand_word (m := ⟨2, 67⟩) (by decide +kernel) rfl (by decide +kernel) (by decide +kernel)
theorem start2.code273 : (Jvm.Cond.code (⟨"Seattable", "putBig", "(LSeattable$Big;)V"⟩ : Jvm.MethodName) prog_1_method_70_code 4 none).before args0 about = true :=
  sv_hand_word (m := ⟨2, 69⟩) (by decide +kernel) rfl (by decide +kernel) (by decide +kernel)
theorem start2.code274 : (Jvm.Cond.code (⟨"Seattable", "signAt", "(I)I"⟩ : Jvm.MethodName) prog_1_method_50_code 2 (some .int)).before args0 about = true :=
  sv_hand_word (m := ⟨2, 49⟩) (by decide +kernel) rfl (by decide +kernel) (by decide +kernel)
theorem start2.code275 : (Jvm.Cond.code (⟨"Seattable", "undo", "()I"⟩ : Jvm.MethodName) prog_1_method_51_code 1 (some .int)).before args0 about = true :=
  sv_hand_word (m := ⟨2, 50⟩) (by decide +kernel) rfl (by decide +kernel) (by decide +kernel)
theorem start2.code276 : (Jvm.Cond.code (⟨"Seattable", "count", "(I)I"⟩ : Jvm.MethodName) prog_1_method_52_code 2 (some .int)).before args0 about = true :=
  sv_hand_word (m := ⟨2, 51⟩) (by decide +kernel) rfl (by decide +kernel) (by decide +kernel)
theorem start2.code277 : (Jvm.Cond.code (⟨"Seattable$Weights", "leastWinningSets", "()I"⟩ : Jvm.MethodName) prog_12_method_10_code 3 (some .int)).before args0 about = true :=
  sv_hand_word (m := ⟨13, 9⟩) (by decide +kernel) rfl (by decide +kernel) (by decide +kernel)
theorem start2.code278 : (Jvm.Cond.code (⟨"SeattableModel", "<init>", "()V"⟩ : Jvm.MethodName) prog_14_method_1_code 1 none).before args0 about = true :=
  sv_hand_word (m := ⟨14, 0⟩) (by decide +kernel) rfl (by decide +kernel) (by decide +kernel)
theorem start2.code279 : (Jvm.Cond.code (⟨"SeattableModel$State", "<init>", "()V"⟩ : Jvm.MethodName) prog_17_method_1_code 2 none).before args0 about = true :=
  sv_hand_word (m := ⟨15, 0⟩) (by decide +kernel) rfl (by decide +kernel) (by decide +kernel)
theorem start2.code280 : (Jvm.Cond.code (⟨"java/util/ArrayList", "<init>", "()V"⟩ : Jvm.MethodName) prog_44_method_2_code 1 none).before args0 about = true :=
  sv_hand_word (m := ⟨53, 0⟩) (by decide +kernel) rfl (by decide +kernel) (by decide +kernel)
theorem start2.code281 : (Jvm.Cond.code (⟨"java/util/AbstractList", "<init>", "()V"⟩ : Jvm.MethodName) prog_43_method_1_code 1 none).before args0 about = true :=
  sv_hand_word (m := ⟨48, 0⟩) (by decide +kernel) rfl (by decide +kernel) (by decide +kernel)
theorem start2.code282 : (Jvm.Cond.code (⟨"java/util/AbstractCollection", "<init>", "()V"⟩ : Jvm.MethodName) prog_42_method_1_code 1 none).before args0 about = true :=
  sv_hand_word (m := ⟨40, 0⟩) (by decide +kernel) rfl (by decide +kernel) (by decide +kernel)

set_option maxRecDepth 16384 in
theorem start2.codes_are_9 : tables_1_9.filter sv_isCode = [Jvm.Cond.code (⟨"Seattable", "digits", "(ZI)I"⟩ : Jvm.MethodName) prog_1_method_48_code 4 (some .int),
    Jvm.Cond.code (⟨"Seattable$Big", "groups", "()I"⟩ : Jvm.MethodName) prog_3_method_8_code 1 (some .int),
    Jvm.Cond.code (⟨"Seattable", "write", "(I)I"⟩ : Jvm.MethodName) prog_1_method_49_code 2 (some .int),
    Jvm.Cond.code (⟨"Seattable", "writeResults", "()V"⟩ : Jvm.MethodName) prog_1_method_66_code 3 none,
    Jvm.Cond.code (⟨"Seattable", "putSeats", "(IZ)V"⟩ : Jvm.MethodName) prog_1_method_69_code 3 none,
    Jvm.Cond.code (⟨"Seattable", "putByte", "(I)V"⟩ : Jvm.MethodName) prog_1_method_72_code 2 none,
    Jvm.Cond.code (⟨"Seattable", "putNumber", "(II)V"⟩ : Jvm.MethodName) prog_1_method_71_code 7 none,
    Jvm.Cond.code (⟨"Seattable", "writeTables", "()V"⟩ : Jvm.MethodName) prog_1_method_67_code 4 none,
    Jvm.Cond.code (⟨"Seattable", "writeBoard", "()V"⟩ : Jvm.MethodName) prog_1_method_68_code 1 none,
    Jvm.Cond.code (⟨"Seattable", "putBig", "(LSeattable$Big;)V"⟩ : Jvm.MethodName) prog_1_method_70_code 4 none,
    Jvm.Cond.code (⟨"Seattable", "signAt", "(I)I"⟩ : Jvm.MethodName) prog_1_method_50_code 2 (some .int),
    Jvm.Cond.code (⟨"Seattable", "undo", "()I"⟩ : Jvm.MethodName) prog_1_method_51_code 1 (some .int),
    Jvm.Cond.code (⟨"Seattable", "count", "(I)I"⟩ : Jvm.MethodName) prog_1_method_52_code 2 (some .int),
    Jvm.Cond.code (⟨"Seattable$Weights", "leastWinningSets", "()I"⟩ : Jvm.MethodName) prog_12_method_10_code 3 (some .int),
    Jvm.Cond.code (⟨"SeattableModel", "<init>", "()V"⟩ : Jvm.MethodName) prog_14_method_1_code 1 none,
    Jvm.Cond.code (⟨"SeattableModel$State", "<init>", "()V"⟩ : Jvm.MethodName) prog_17_method_1_code 2 none,
    Jvm.Cond.code (⟨"java/util/ArrayList", "<init>", "()V"⟩ : Jvm.MethodName) prog_44_method_2_code 1 none,
    Jvm.Cond.code (⟨"java/util/AbstractList", "<init>", "()V"⟩ : Jvm.MethodName) prog_43_method_1_code 1 none,
    Jvm.Cond.code (⟨"java/util/AbstractCollection", "<init>", "()V"⟩ : Jvm.MethodName) prog_42_method_1_code 1 none] := by
  first
  | rfl
  | simp only [tables_1_9, List.filter, sv_isCode]
theorem start2.codes_hold_9 : ∀ c ∈ tables_1_9.filter sv_isCode, c.before args0 about = true := by
  rw [codes_are_9]
  exact List.forall_mem_cons.mpr ⟨code264, List.forall_mem_cons.mpr ⟨code265, List.forall_mem_cons.mpr ⟨code266, List.forall_mem_cons.mpr ⟨code267, List.forall_mem_cons.mpr ⟨code268, List.forall_mem_cons.mpr ⟨code269, List.forall_mem_cons.mpr ⟨code270, List.forall_mem_cons.mpr ⟨code271, List.forall_mem_cons.mpr ⟨code272, List.forall_mem_cons.mpr ⟨code273, List.forall_mem_cons.mpr ⟨code274, List.forall_mem_cons.mpr ⟨code275, List.forall_mem_cons.mpr ⟨code276, List.forall_mem_cons.mpr ⟨code277, List.forall_mem_cons.mpr ⟨code278, List.forall_mem_cons.mpr ⟨code279, List.forall_mem_cons.mpr ⟨code280, List.forall_mem_cons.mpr ⟨code281, List.forall_mem_cons.mpr ⟨code282, List.forall_mem_nil _⟩⟩⟩⟩⟩⟩⟩⟩⟩⟩⟩⟩⟩⟩⟩⟩⟩⟩⟩
set_option maxRecDepth 16384 in
theorem start2.others_9_0 : (tables_1_9.take 39).all (fun c => sv_isCode c || c.before args0 about) = true := by decide +kernel
set_option maxRecDepth 16384 in
theorem start2.others_9_1 : ((tables_1_9.drop 39).take 40).all (fun c => sv_isCode c || c.before args0 about) = true := by decide +kernel

set_option maxRecDepth 16384 in
theorem start2.others_9_2 : (((tables_1_9.drop 39).drop 40).take 40).all (fun c => sv_isCode c || c.before args0 about) = true := by decide +kernel
set_option maxRecDepth 16384 in
theorem start2.others_9_3 : ((((tables_1_9.drop 39).drop 40).drop 40).take 16).all (fun c => sv_isCode c || c.before args0 about) = true := by decide +kernel

set_option maxRecDepth 16384 in
theorem start2.others_9_4 : (((((tables_1_9.drop 39).drop 40).drop 40).drop 16).take 12).all (fun c => sv_isCode c || c.before args0 about) = true := by decide +kernel
set_option maxRecDepth 16384 in
theorem start2.others_9_5 : ((((((tables_1_9.drop 39).drop 40).drop 40).drop 16).drop 12).take 14).all (fun c => sv_isCode c || c.before args0 about) = true := by decide +kernel

set_option maxRecDepth 16384 in
theorem start2.others_9_6 : (((((((tables_1_9.drop 39).drop 40).drop 40).drop 16).drop 12).drop 14).take 40).all (fun c => sv_isCode c || c.before args0 about) = true := by decide +kernel
set_option maxRecDepth 16384 in
theorem start2.others_9_7 : (((((((tables_1_9.drop 39).drop 40).drop 40).drop 16).drop 12).drop 14).drop 40).all (fun c => sv_isCode c || c.before args0 about) = true := by decide +kernel
theorem start2.others_hold_9 : tables_1_9.all (fun c => sv_isCode c || c.before args0 about) = true := sv_all_split _ 39 tables_1_9 others_9_0 (sv_all_split _ 40 (tables_1_9.drop 39) others_9_1 (sv_all_split _ 40 ((tables_1_9.drop 39).drop 40) others_9_2 (sv_all_split _ 16 (((tables_1_9.drop 39).drop 40).drop 40) others_9_3 (sv_all_split _ 12 ((((tables_1_9.drop 39).drop 40).drop 40).drop 16) others_9_4 (sv_all_split _ 14 (((((tables_1_9.drop 39).drop 40).drop 40).drop 16).drop 12) others_9_5 (sv_all_split _ 40 ((((((tables_1_9.drop 39).drop 40).drop 40).drop 16).drop 12).drop 14) others_9_6 others_9_7))))))
theorem start2.words_9 : ∀ c ∈ tables_1_9, c.before args0 about = true := fun c h => sv_words others_hold_9 codes_hold_9 c h

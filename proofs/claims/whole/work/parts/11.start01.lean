set_option maxRecDepth 16384

set_option maxRecDepth 16384 in
theorem start2.others_1_2 : (((tables_1_1.drop 40).drop 40).take 36).all (fun c => sv_isCode c || c.before args0 about) = true := by decide +kernel
set_option maxRecDepth 16384 in
theorem start2.others_1_3 : ((((tables_1_1.drop 40).drop 40).drop 36).take 40).all (fun c => sv_isCode c || c.before args0 about) = true := by decide +kernel

set_option maxRecDepth 16384 in
theorem start2.others_1_4 : (((((tables_1_1.drop 40).drop 40).drop 36).drop 40).take 40).all (fun c => sv_isCode c || c.before args0 about) = true := by decide +kernel
set_option maxRecDepth 16384 in
theorem start2.others_1_5 : ((((((tables_1_1.drop 40).drop 40).drop 36).drop 40).drop 40).take 40).all (fun c => sv_isCode c || c.before args0 about) = true := by decide +kernel

set_option maxRecDepth 16384 in
theorem start2.others_1_6 : ((((((tables_1_1.drop 40).drop 40).drop 36).drop 40).drop 40).drop 40).all (fun c => sv_isCode c || c.before args0 about) = true := by decide +kernel
theorem start2.others_hold_1 : tables_1_1.all (fun c => sv_isCode c || c.before args0 about) = true := sv_all_split _ 40 tables_1_1 others_1_0 (sv_all_split _ 40 (tables_1_1.drop 40) others_1_1 (sv_all_split _ 36 ((tables_1_1.drop 40).drop 40) others_1_2 (sv_all_split _ 40 (((tables_1_1.drop 40).drop 40).drop 36) others_1_3 (sv_all_split _ 40 ((((tables_1_1.drop 40).drop 40).drop 36).drop 40) others_1_4 (sv_all_split _ 40 (((((tables_1_1.drop 40).drop 40).drop 36).drop 40).drop 40) others_1_5 others_1_6)))))
theorem start2.words_1 : ∀ c ∈ tables_1_1, c.before args0 about = true := fun c h => sv_words others_hold_1 codes_hold_1 c h

theorem start2.code6 : (Jvm.Cond.code (⟨"Seattable$Big", "put", "(J)V"⟩ : Jvm.MethodName) prog_3_method_2_code 5 none).before args0 about = true :=
  sv_hand_word (m := ⟨6, 1⟩) (by decide +kernel) rfl (by decide +kernel) (by decide +kernel)
theorem start2.code7 : (Jvm.Cond.code (⟨"Seattable$Dealer", "<init>", "()V"⟩ : Jvm.MethodName) prog_4_method_1_code 1 none).before args0 about = true :=
  sv_hand_word (m := ⟨7, 0⟩) (by decide +kernel) rfl (by decide +kernel) (by decide +kernel)
theorem start2.code8 : (Jvm.Cond.code (⟨"Seattable$Filler", "<init>", "()V"⟩ : Jvm.MethodName) prog_5_method_1_code 1 none).before args0 about = true :=
  sv_hand_word (m := ⟨8, 0⟩) (by decide +kernel) rfl (by decide +kernel) (by decide +kernel)
theorem start2.code9 : (Jvm.Cond.code (⟨"Seattable$Paths", "<init>", "()V"⟩ : Jvm.MethodName) prog_10_method_1_code 2 none).before args0 about = true :=
  sv_hand_word (m := ⟨9, 0⟩) (by decide +kernel) rfl (by decide +kernel) (by decide +kernel)
theorem start2.code10 : (Jvm.Cond.code (⟨"Seattable$Ballots", "<init>", "()V"⟩ : Jvm.MethodName) prog_2_method_1_code 2 none).before args0 about = true :=
  sv_hand_word (m := ⟨10, 0⟩) (by decide +kernel) rfl (by decide +kernel) (by decide +kernel)

set_option maxRecDepth 16384 in
theorem start2.codes_are_2 : tables_1_2.filter sv_isCode = [Jvm.Cond.code (⟨"Seattable$Big", "put", "(J)V"⟩ : Jvm.MethodName) prog_3_method_2_code 5 none,
    Jvm.Cond.code (⟨"Seattable$Dealer", "<init>", "()V"⟩ : Jvm.MethodName) prog_4_method_1_code 1 none,
    Jvm.Cond.code (⟨"Seattable$Filler", "<init>", "()V"⟩ : Jvm.MethodName) prog_5_method_1_code 1 none,
    Jvm.Cond.code (⟨"Seattable$Paths", "<init>", "()V"⟩ : Jvm.MethodName) prog_10_method_1_code 2 none,
    Jvm.Cond.code (⟨"Seattable$Ballots", "<init>", "()V"⟩ : Jvm.MethodName) prog_2_method_1_code 2 none] := by
  first
  | rfl
  | simp only [tables_1_2, List.filter, sv_isCode]
theorem start2.codes_hold_2 : ∀ c ∈ tables_1_2.filter sv_isCode, c.before args0 about = true := by
  rw [codes_are_2]
  exact List.forall_mem_cons.mpr ⟨code6, List.forall_mem_cons.mpr ⟨code7, List.forall_mem_cons.mpr ⟨code8, List.forall_mem_cons.mpr ⟨code9, List.forall_mem_cons.mpr ⟨code10, List.forall_mem_nil _⟩⟩⟩⟩⟩
set_option maxRecDepth 16384 in
theorem start2.others_2_0 : (tables_1_2.take 40).all (fun c => sv_isCode c || c.before args0 about) = true := by decide +kernel
set_option maxRecDepth 16384 in
theorem start2.others_2_1 : ((tables_1_2.drop 40).take 40).all (fun c => sv_isCode c || c.before args0 about) = true := by decide +kernel

set_option maxRecDepth 16384 in
theorem start2.others_2_2 : (((tables_1_2.drop 40).drop 40).take 40).all (fun c => sv_isCode c || c.before args0 about) = true := by decide +kernel
set_option maxRecDepth 16384 in
theorem start2.others_2_3 : ((((tables_1_2.drop 40).drop 40).drop 40).take 40).all (fun c => sv_isCode c || c.before args0 about) = true := by decide +kernel

set_option maxRecDepth 16384 in
theorem start2.others_2_4 : (((((tables_1_2.drop 40).drop 40).drop 40).drop 40).take 40).all (fun c => sv_isCode c || c.before args0 about) = true := by decide +kernel
set_option maxRecDepth 16384 in
theorem start2.others_2_5 : (((((tables_1_2.drop 40).drop 40).drop 40).drop 40).drop 40).all (fun c => sv_isCode c || c.before args0 about) = true := by decide +kernel
theorem start2.others_hold_2 : tables_1_2.all (fun c => sv_isCode c || c.before args0 about) = true := sv_all_split _ 40 tables_1_2 others_2_0 (sv_all_split _ 40 (tables_1_2.drop 40) others_2_1 (sv_all_split _ 40 ((tables_1_2.drop 40).drop 40) others_2_2 (sv_all_split _ 40 (((tables_1_2.drop 40).drop 40).drop 40) others_2_3 (sv_all_split _ 40 ((((tables_1_2.drop 40).drop 40).drop 40).drop 40) others_2_4 others_2_5))))
theorem start2.words_2 : ∀ c ∈ tables_1_2, c.before args0 about = true := fun c h => sv_words others_hold_2 codes_hold_2 c h

theorem start2.code11 : (Jvm.Cond.code (⟨"Seattable$Maps", "<init>", "()V"⟩ : Jvm.MethodName) prog_8_method_1_code 1 none).before args0 about = true :=
  sv_hand_word (m := ⟨11, 0⟩) (by decide +kernel) rfl (by decide +kernel) (by decide +kernel)
theorem start2.code12 : (Jvm.Cond.code (⟨"Seattable$Panels", "<init>", "()V"⟩ : Jvm.MethodName) prog_9_method_1_code 1 none).before args0 about = true :=
  sv_hand_word (m := ⟨12, 0⟩) (by decide +kernel) rfl (by decide +kernel) (by decide +kernel)
theorem start2.code13 : (Jvm.Cond.code (⟨"Seattable$Weights", "<init>", "()V"⟩ : Jvm.MethodName) prog_12_method_1_code 1 none).before args0 about = true :=
  sv_hand_word (m := ⟨13, 0⟩) (by decide +kernel) rfl (by decide +kernel) (by decide +kernel)
theorem start2.code14 : (Jvm.Cond.code (⟨"Seattable", "clearText", "()I"⟩ : Jvm.MethodName) prog_1_method_11_code 2 (some .int)).before args0 about = true :=
  sv_hand_word (m := ⟨2, 10⟩) (by decide +kernel) rfl (by decide +kernel) (by decide +kernel)
theorem start2.code15 : (Jvm.Cond.code (⟨"Seattable", "errorKind", "()I"⟩ : Jvm.MethodName) prog_1_method_12_code 1 (some .int)).before args0 about = true :=
  sv_hand_word (m := ⟨2, 11⟩) (by decide +kernel) rfl (by decide +kernel) (by decide +kernel)
theorem start2.code16 : (Jvm.Cond.code (⟨"Seattable$Script", "read", "(LSeattable$House;Z)V"⟩ : Jvm.MethodName) prog_11_method_4_code 5 none).before args0 about = true :=
  sv_hand_word (m := ⟨4, 3⟩) (by decide +kernel) rfl (by decide +kernel) (by decide +kernel)
theorem start2.code17 : (Jvm.Cond.code (⟨"Seattable$House", "parties", "()I"⟩ : Jvm.MethodName) prog_7_method_2_code 1 (some .int)).before args0 about = true :=
  sv_hand_word (m := ⟨3, 1⟩) (by decide +kernel) rfl (by decide +kernel) (by decide +kernel)
theorem start2.code18 : (Jvm.Cond.code (⟨"Seattable$House", "lands", "()I"⟩ : Jvm.MethodName) prog_7_method_3_code 1 (some .int)).before args0 about = true :=
  sv_hand_word (m := ⟨3, 2⟩) (by decide +kernel) rfl (by decide +kernel) (by decide +kernel)
theorem start2.code19 : (Jvm.Cond.code (⟨"Seattable$Script", "next", "()V"⟩ : Jvm.MethodName) prog_11_method_10_code 2 none).before args0 about = true :=
  sv_hand_word (m := ⟨4, 9⟩) (by decide +kernel) rfl (by decide +kernel) (by decide +kernel)
theorem start2.code20 : (Jvm.Cond.code (⟨"Seattable$Script", "signAhead", "()I"⟩ : Jvm.MethodName) prog_11_method_9_code 1 (some .int)).before args0 about = true :=
  sv_hand_word (m := ⟨4, 8⟩) (by decide +kernel) rfl (by decide +kernel) (by decide +kernel)
theorem start2.code21 : (Jvm.Cond.code (⟨"Seattable$Script", "nextWord", "()V"⟩ : Jvm.MethodName) prog_11_method_11_code 1 none).before args0 about = true :=
  sv_hand_word (m := ⟨4, 10⟩) (by decide +kernel) rfl (by decide +kernel) (by decide +kernel)
theorem start2.code22 : (Jvm.Cond.code (⟨"Seattable$Script", "isWord", "(Ljava/lang/String;)Z"⟩ : Jvm.MethodName) prog_11_method_12_code 3 (some .boolean)).before args0 about = true :=
  sv_hand_word (m := ⟨4, 11⟩) (by decide +kernel) rfl (by decide +kernel) (by decide +kernel)
theorem start2.code23 : (Jvm.Cond.code (⟨"java/lang/String", "length", "()I"⟩ : Jvm.MethodName) prog_34_method_54_code 1 (some .int)).before args0 about = true :=
  sv_hand_word (m := ⟨36, 1⟩) (by decide +kernel) rfl (by decide +kernel) (by decide +kernel)
theorem start2.code24 : (Jvm.Cond.code (⟨"java/lang/String", "coder", "()B"⟩ : Jvm.MethodName) prog_34_method_152_code 1 (some .byte)).before args0 about = true :=
  sv_hand_word (m := ⟨36, 6⟩) (by decide +kernel) rfl (by decide +kernel) (by decide +kernel)
theorem start2.code25 : (Jvm.Cond.code (⟨"java/lang/String", "charAt", "(I)C"⟩ : Jvm.MethodName) prog_34_method_56_code 2 (some .char)).before args0 about = true :=
  sv_hand_word (m := ⟨36, 2⟩) (by decide +kernel) rfl (by decide +kernel) (by decide +kernel)
theorem start2.code26 : (Jvm.Cond.code (⟨"java/lang/String", "isLatin1", "()Z"⟩ : Jvm.MethodName) prog_34_method_154_code 1 (some .boolean)).before args0 about = true :=
  sv_hand_word (m := ⟨36, 7⟩) (by decide +kernel) rfl (by decide +kernel) (by decide +kernel)
theorem start2.code27 : (Jvm.Cond.code (⟨"java/lang/StringLatin1", "charAt", "([BI)C"⟩ : Jvm.MethodName) prog_36_method_2_code 2 (some .char)).before args0 about = true :=
  sv_hand_word (m := ⟨22, 0⟩) (by decide +kernel) rfl (by decide +kernel) (by decide +kernel)
theorem start2.code28 : (Jvm.Cond.code (⟨"java/lang/String", "checkIndex", "(II)V"⟩ : Jvm.MethodName) prog_34_method_155_code 2 none).before args0 about = true :=
  sv_hand_word (m := ⟨36, 8⟩) (by decide +kernel) rfl (by decide +kernel) (by decide +kernel)
theorem start2.code29 : (Jvm.Cond.code (⟨"jdk/internal/util/Preconditions", "checkIndex", "(IILjava/util/function/BiFunction;)I"⟩ : Jvm.MethodName) prog_53_method_11_code 3 (some .int)).before args0 about = true :=
  sv_hand_word (m := ⟨18, 0⟩) (by decide +kernel) rfl (by decide +kernel) (by decide +kernel)
theorem start2.code30 : (Jvm.Cond.code (⟨"java/lang/StringUTF16", "charAt", "([BI)C"⟩ : Jvm.MethodName) prog_37_method_83_code 2 (some .char)).before args0 about = true :=
  sv_hand_word (m := ⟨23, 11⟩) (by decide +kernel) rfl (by decide +kernel) (by decide +kernel)
theorem start2.code31 : (Jvm.Cond.code (⟨"java/lang/StringUTF16", "checkIndex", "(I[B)V"⟩ : Jvm.MethodName) prog_37_method_91_code 2 none).before args0 about = true :=
  sv_hand_word (m := ⟨23, 14⟩) (by decide +kernel) rfl (by decide +kernel) (by decide +kernel)

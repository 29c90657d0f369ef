set_option maxRecDepth 16384

set_option maxRecDepth 16384 in
theorem start2.codes_are_15 : tables_1_15.filter sv_isCode = [Jvm.Cond.code (⟨"SeattableModel", "margin", "(II)I"⟩ : Jvm.MethodName) prog_14_method_163_code 3 (some .int),
    Jvm.Cond.code (⟨"SeattableModel", "isCandidate", "(I)Z"⟩ : Jvm.MethodName) prog_14_method_162_code 2 (some .boolean),
    Jvm.Cond.code (⟨"SeattableModel", "marginOf", "(II)I"⟩ : Jvm.MethodName) prog_14_method_161_code 8 (some .int),
    Jvm.Cond.code (⟨"SeattableModel", "agenda", "(I)I"⟩ : Jvm.MethodName) prog_14_method_167_code 2 (some .int),
    Jvm.Cond.code (⟨"SeattableModel", "isAgenda", "(I)Z"⟩ : Jvm.MethodName) prog_14_method_166_code 4 (some .boolean),
    Jvm.Cond.code (⟨"SeattableModel", "compares", "()V"⟩ : Jvm.MethodName) prog_14_method_164_code 3 none,
    Jvm.Cond.code (⟨"SeattableModel", "left", "(I)I"⟩ : Jvm.MethodName) prog_14_method_165_code 5 (some .int),
    Jvm.Cond.code (⟨"SeattableModel", "agendaFor", "(I)I"⟩ : Jvm.MethodName) prog_14_method_169_code 2 (some .int),
    Jvm.Cond.code (⟨"SeattableModel", "agendas", "(IZ)I"⟩ : Jvm.MethodName) prog_14_method_168_code 7 (some .int),
    Jvm.Cond.code (⟨"SeattableModel", "agendasFor", "(I)I"⟩ : Jvm.MethodName) prog_14_method_170_code 2 (some .int),
    Jvm.Cond.code (⟨"SeattableModel", "count", "(I)I"⟩ : Jvm.MethodName) prog_14_method_171_code 2 (some .int),
    Jvm.Cond.code (⟨"SeattableModel", "leastMany", "()I"⟩ : Jvm.MethodName) prog_14_method_156_code 3 (some .int),
    Jvm.Cond.code (⟨"SeattableModel", "errors", "()I"⟩ : Jvm.MethodName) prog_14_method_173_code 8 (some .int),
    Jvm.Cond.code (⟨"SeattableModel", "isRight", "(LSeattableModel$Fill;[I)Z"⟩ : Jvm.MethodName) prog_14_method_172_code 9 (some .boolean)] := by
  first
  | rfl
  | simp only [tables_1_15, List.filter, sv_isCode]
theorem start2.codes_hold_15 : ∀ c ∈ tables_1_15.filter sv_isCode, c.before args0 about = true := by
  rw [codes_are_15]
  exact List.forall_mem_cons.mpr ⟨code516, List.forall_mem_cons.mpr ⟨code517, List.forall_mem_cons.mpr ⟨code518, List.forall_mem_cons.mpr ⟨code519, List.forall_mem_cons.mpr ⟨code520, List.forall_mem_cons.mpr ⟨code521, List.forall_mem_cons.mpr ⟨code522, List.forall_mem_cons.mpr ⟨code523, List.forall_mem_cons.mpr ⟨code524, List.forall_mem_cons.mpr ⟨code525, List.forall_mem_cons.mpr ⟨code526, List.forall_mem_cons.mpr ⟨code527, List.forall_mem_cons.mpr ⟨code528, List.forall_mem_cons.mpr ⟨code529, List.forall_mem_nil _⟩⟩⟩⟩⟩⟩⟩⟩⟩⟩⟩⟩⟩⟩
set_option maxRecDepth 16384 in
theorem start2.others_15_0 : (tables_1_15.take 13).all (fun c => sv_isCode c || c.before args0 about) = true := by decide +kernel
set_option maxRecDepth 16384 in
theorem start2.others_15_1 : ((tables_1_15.drop 13).take 13).all (fun c => sv_isCode c || c.before args0 about) = true := by decide +kernel

set_option maxRecDepth 16384 in
theorem start2.others_15_2 : (((tables_1_15.drop 13).drop 13).take 13).all (fun c => sv_isCode c || c.before args0 about) = true := by decide +kernel
set_option maxRecDepth 16384 in
theorem start2.others_15_3 : ((((tables_1_15.drop 13).drop 13).drop 13).take 13).all (fun c => sv_isCode c || c.before args0 about) = true := by decide +kernel

set_option maxRecDepth 16384 in
theorem start2.others_15_4 : (((((tables_1_15.drop 13).drop 13).drop 13).drop 13).take 40).all (fun c => sv_isCode c || c.before args0 about) = true := by decide +kernel
set_option maxRecDepth 16384 in
theorem start2.others_15_5 : (((((tables_1_15.drop 13).drop 13).drop 13).drop 13).drop 40).all (fun c => sv_isCode c || c.before args0 about) = true := by decide +kernel
theorem start2.others_hold_15 : tables_1_15.all (fun c => sv_isCode c || c.before args0 about) = true := sv_all_split _ 13 tables_1_15 others_15_0 (sv_all_split _ 13 (tables_1_15.drop 13) others_15_1 (sv_all_split _ 13 ((tables_1_15.drop 13).drop 13) others_15_2 (sv_all_split _ 13 (((tables_1_15.drop 13).drop 13).drop 13) others_15_3 (sv_all_split _ 40 ((((tables_1_15.drop 13).drop 13).drop 13).drop 13) others_15_4 others_15_5))))
theorem start2.words_15 : ∀ c ∈ tables_1_15, c.before args0 about = true := fun c h => sv_words others_hold_15 codes_hold_15 c h
theorem start2.words : ∀ c ∈ (Cond.code x code maxLocals ret :: tables_1), c.before args0 about = true := by
  intro c hc
  rcases List.mem_cons.mp hc with h | h
  · rw [h]; exact word_code
  · have h1 : c ∈ tables_1_1 ++ (tables_1_2 ++ (tables_1_3 ++ (tables_1_4 ++ (tables_1_5 ++ (tables_1_6 ++ (tables_1_7 ++ (tables_1_8 ++ (tables_1_9 ++ (tables_1_10 ++ (tables_1_11 ++ (tables_1_12 ++ (tables_1_13 ++ (tables_1_14 ++ tables_1_15))))))))))))) := h
    rcases List.mem_append.mp h1 with h2 | h1
    · exact words_1 c h2
    rcases List.mem_append.mp h1 with h2 | h1
    · exact words_2 c h2
    rcases List.mem_append.mp h1 with h2 | h1
    · exact words_3 c h2
    rcases List.mem_append.mp h1 with h2 | h1
    · exact words_4 c h2
    rcases List.mem_append.mp h1 with h2 | h1
    · exact words_5 c h2
    rcases List.mem_append.mp h1 with h2 | h1
    · exact words_6 c h2
    rcases List.mem_append.mp h1 with h2 | h1
    · exact words_7 c h2
    rcases List.mem_append.mp h1 with h2 | h1
    · exact words_8 c h2
    rcases List.mem_append.mp h1 with h2 | h1
    · exact words_9 c h2
    rcases List.mem_append.mp h1 with h2 | h1
    · exact words_10 c h2
    rcases List.mem_append.mp h1 with h2 | h1
    · exact words_11 c h2
    rcases List.mem_append.mp h1 with h2 | h1
    · exact words_12 c h2
    rcases List.mem_append.mp h1 with h2 | h1
    · exact words_13 c h2
    rcases List.mem_append.mp h1 with h2 | h1
    · exact words_14 c h2
    exact words_15 c h1

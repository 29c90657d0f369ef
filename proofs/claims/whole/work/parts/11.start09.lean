set_option maxRecDepth 16384

set_option maxRecDepth 16384 in
theorem start2.codes_are_13 : tables_1_13.filter sv_isCode = [Jvm.Cond.code (⟨"SeattableModel", "least", "([JI[I)I"⟩ : Jvm.MethodName) prog_14_method_70_code 7 (some .int),
    Jvm.Cond.code (⟨"SeattableModel", "wholes", "([JI[I[J)I"⟩ : Jvm.MethodName) prog_14_method_71_code 9 (some .int),
    Jvm.Cond.code (⟨"SeattableModel", "ranks", "(I[J[I[JII)I"⟩ : Jvm.MethodName) prog_14_method_69_code 7 (some .int),
    Jvm.Cond.code (⟨"SeattableModel", "quotients", "(IJIJI)I"⟩ : Jvm.MethodName) prog_14_method_67_code 12 (some .int),
    Jvm.Cond.code (⟨"SeattableModel", "chooses", "([I[ZIIZLjava/util/ArrayList;)V"⟩ : Jvm.MethodName) prog_14_method_72_code 11 none,
    Jvm.Cond.code (⟨"SeattableModel", "seatAt", "(II)I"⟩ : Jvm.MethodName) prog_14_method_76_code 4 (some .int),
    Jvm.Cond.code (⟨"SeattableModel", "quota", "(IIII)I"⟩ : Jvm.MethodName) prog_14_method_77_code 11 (some .int),
    Jvm.Cond.code (⟨"SeattableModel", "tells", "(JJ)I"⟩ : Jvm.MethodName) prog_14_method_24_code 5 (some .int),
    Jvm.Cond.code (⟨"SeattableModel", "whole", "(J)[I"⟩ : Jvm.MethodName) prog_14_method_7_code 7 (some (.array .int)),
    Jvm.Cond.code (⟨"SeattableModel", "tells", "([I[I)I"⟩ : Jvm.MethodName) prog_14_method_23_code 4 (some .int),
    Jvm.Cond.code (⟨"SeattableModel", "common", "([I[I)[I"⟩ : Jvm.MethodName) prog_14_method_16_code 6 (some (.array .int)),
    Jvm.Cond.code (⟨"SeattableModel", "isEven", "([I)Z"⟩ : Jvm.MethodName) prog_14_method_15_code 1 (some .boolean),
    Jvm.Cond.code (⟨"SeattableModel", "half", "([I)[I"⟩ : Jvm.MethodName) prog_14_method_14_code 6 (some (.array .int)),
    Jvm.Cond.code (⟨"SeattableModel", "cut", "([I)[I"⟩ : Jvm.MethodName) prog_14_method_8_code 3 (some (.array .int)),
    Jvm.Cond.code (⟨"SeattableModel", "compare", "([I[I)I"⟩ : Jvm.MethodName) prog_14_method_9_code 3 (some .int),
    Jvm.Cond.code (⟨"SeattableModel", "less", "([I[I)[I"⟩ : Jvm.MethodName) prog_14_method_11_code 6 (some (.array .int)),
    Jvm.Cond.code (⟨"SeattableModel", "plus", "([I[I)[I"⟩ : Jvm.MethodName) prog_14_method_10_code 6 (some (.array .int)),
    Jvm.Cond.code (⟨"SeattableModel", "through", "([I[I)[I"⟩ : Jvm.MethodName) prog_14_method_17_code 9 (some (.array .int)),
    Jvm.Cond.code (⟨"SeattableModel", "times", "([IJ)[I"⟩ : Jvm.MethodName) prog_14_method_13_code 3 (some (.array .int)),
    Jvm.Cond.code (⟨"SeattableModel", "times", "([I[I)[I"⟩ : Jvm.MethodName) prog_14_method_12_code 9 (some (.array .int)),
    Jvm.Cond.code (⟨"SeattableModel", "breaks", "(IIIII)I"⟩ : Jvm.MethodName) prog_14_method_78_code 11 (some .int),
    Jvm.Cond.code (⟨"SeattableModel", "grows", "([JII)I"⟩ : Jvm.MethodName) prog_14_method_79_code 8 (some .int),
    Jvm.Cond.code (⟨"SeattableModel", "first", "([JII)[I"⟩ : Jvm.MethodName) prog_14_method_73_code 5 (some (.array .int)),
    Jvm.Cond.code (⟨"SeattableModel", "joins", "([JII[II)I"⟩ : Jvm.MethodName) prog_14_method_80_code 9 (some .int),
    Jvm.Cond.code (⟨"SeattableModel", "changed", "([JIJIJ)[J"⟩ : Jvm.MethodName) prog_14_method_81_code 8 (some (.array .long)),
    Jvm.Cond.code (⟨"SeattableModel", "leaves", "([JII[II)I"⟩ : Jvm.MethodName) prog_14_method_82_code 8 (some .int),
    Jvm.Cond.code (⟨"SeattableModel", "turns", "([JII[II)I"⟩ : Jvm.MethodName) prog_14_method_83_code 10 (some .int),
    Jvm.Cond.code (⟨"SeattableModel", "fill", "()I"⟩ : Jvm.MethodName) prog_14_method_103_code 4 (some .int),
    Jvm.Cond.code (⟨"SeattableModel$Fill", "<init>", "()V"⟩ : Jvm.MethodName) prog_16_method_1_code 1 none,
    Jvm.Cond.code (⟨"SeattableModel", "cuts", "(LSeattableModel$Fill;)Z"⟩ : Jvm.MethodName) prog_14_method_86_code 9 (some .boolean),
    Jvm.Cond.code (⟨"SeattableModel", "lays", "(LSeattableModel$Fill;IIIII)V"⟩ : Jvm.MethodName) prog_14_method_87_code 6 none,
    Jvm.Cond.code (⟨"SeattableModel", "votes", "(LSeattableModel$Fill;II)J"⟩ : Jvm.MethodName) prog_14_method_84_code 3 (some .long),
    Jvm.Cond.code (⟨"SeattableModel", "begins", "(LSeattableModel$Fill;)V"⟩ : Jvm.MethodName) prog_14_method_88_code 8 none,
    Jvm.Cond.code (⟨"SeattableModel", "post", "(LSeattableModel$Fill;I)J"⟩ : Jvm.MethodName) prog_14_method_85_code 2 (some .long),
    Jvm.Cond.code (⟨"SeattableModel", "moves", "(LSeattableModel$Fill;)Z"⟩ : Jvm.MethodName) prog_14_method_90_code 7 (some .boolean),
    Jvm.Cond.code (⟨"SeattableModel", "over", "(LSeattableModel$Fill;I)I"⟩ : Jvm.MethodName) prog_14_method_89_code 5 (some .int),
    Jvm.Cond.code (⟨"SeattableModel", "shortens", "(LSeattableModel$Fill;III)Z"⟩ : Jvm.MethodName) prog_14_method_91_code 9 (some .boolean),
    Jvm.Cond.code (⟨"SeattableModel", "takes", "(LSeattableModel$Fill;)V"⟩ : Jvm.MethodName) prog_14_method_92_code 5 none,
    Jvm.Cond.code (⟨"SeattableModel", "factors", "(LSeattableModel$Fill;[I)V"⟩ : Jvm.MethodName) prog_14_method_93_code 5 none,
    Jvm.Cond.code (⟨"SeattableModel", "gathers", "(LSeattableModel$Fill;[III)V"⟩ : Jvm.MethodName) prog_14_method_94_code 8 none,
    Jvm.Cond.code (⟨"SeattableModel", "grows", "(LSeattableModel$Fill;[III)V"⟩ : Jvm.MethodName) prog_14_method_95_code 9 none,
    Jvm.Cond.code (⟨"SeattableModel", "lifts", "(IIJJ)Z"⟩ : Jvm.MethodName) prog_14_method_96_code 10 (some .boolean),
    Jvm.Cond.code (⟨"SeattableModel", "lowers", "(LSeattableModel$Fill;I)V"⟩ : Jvm.MethodName) prog_14_method_97_code 10 none,
    Jvm.Cond.code (⟨"SeattableModel", "spans", "(LSeattableModel$Fill;[I)V"⟩ : Jvm.MethodName) prog_14_method_99_code 8 none,
    Jvm.Cond.code (⟨"SeattableModel", "stands", "(LSeattableModel$Fill;III)I"⟩ : Jvm.MethodName) prog_14_method_98_code 8 (some .int),
    Jvm.Cond.code (⟨"SeattableModel", "tables", "(LSeattableModel$Fill;[II)V"⟩ : Jvm.MethodName) prog_14_method_100_code 7 none,
    Jvm.Cond.code (⟨"SeattableModel", "canEnd", "(LSeattableModel$Fill;[II)Z"⟩ : Jvm.MethodName) prog_14_method_101_code 11 (some .boolean),
    Jvm.Cond.code (⟨"SeattableModel", "finds", "(LSeattableModel$Fill;II[I)Z"⟩ : Jvm.MethodName) prog_14_method_102_code 9 (some .boolean),
    Jvm.Cond.code (⟨"SeattableModel", "cellAt", "(III)I"⟩ : Jvm.MethodName) prog_14_method_105_code 5 (some .int),
    Jvm.Cond.code (⟨"SeattableModel", "isTable", "(I)Z"⟩ : Jvm.MethodName) prog_14_method_104_code 2 (some .boolean),
    Jvm.Cond.code (⟨"SeattableModel", "factor", "(IZI)I"⟩ : Jvm.MethodName) prog_14_method_106_code 5 (some .int),
    Jvm.Cond.code (⟨"SeattableModel", "cutAt", "(I)I"⟩ : Jvm.MethodName) prog_14_method_107_code 2 (some .int),
    Jvm.Cond.code (⟨"SeattableModel", "tiers", "(IIII)I"⟩ : Jvm.MethodName) prog_14_method_108_code 11 (some .int)] := by
  first
  | rfl
  | simp only [tables_1_13, List.filter, sv_isCode]
theorem start2.codes_hold_13 : ∀ c ∈ tables_1_13.filter sv_isCode, c.before args0 about = true := by
  rw [codes_are_13]
  exact List.forall_mem_cons.mpr ⟨code409, List.forall_mem_cons.mpr ⟨code410, List.forall_mem_cons.mpr ⟨code411, List.forall_mem_cons.mpr ⟨code412, List.forall_mem_cons.mpr ⟨code413, List.forall_mem_cons.mpr ⟨code414, List.forall_mem_cons.mpr ⟨code415, List.forall_mem_cons.mpr ⟨code416, List.forall_mem_cons.mpr ⟨code417, List.forall_mem_cons.mpr ⟨code418, List.forall_mem_cons.mpr ⟨code419, List.forall_mem_cons.mpr ⟨code420, List.forall_mem_cons.mpr ⟨code421, List.forall_mem_cons.mpr ⟨code422, List.forall_mem_cons.mpr ⟨code423, List.forall_mem_cons.mpr ⟨code424, List.forall_mem_cons.mpr ⟨code425, List.forall_mem_cons.mpr ⟨code426, List.forall_mem_cons.mpr ⟨code427, List.forall_mem_cons.mpr ⟨code428, List.forall_mem_cons.mpr ⟨code429, List.forall_mem_cons.mpr ⟨code430, List.forall_mem_cons.mpr ⟨code431, List.forall_mem_cons.mpr ⟨code432, List.forall_mem_cons.mpr ⟨code433, List.forall_mem_cons.mpr ⟨code434, List.forall_mem_cons.mpr ⟨code435, List.forall_mem_cons.mpr ⟨code436, List.forall_mem_cons.mpr ⟨code437, List.forall_mem_cons.mpr ⟨code438, List.forall_mem_cons.mpr ⟨code439, List.forall_mem_cons.mpr ⟨code440, List.forall_mem_cons.mpr ⟨code441, List.forall_mem_cons.mpr ⟨code442, List.forall_mem_cons.mpr ⟨code443, List.forall_mem_cons.mpr ⟨code444, List.forall_mem_cons.mpr ⟨code445, List.forall_mem_cons.mpr ⟨code446, List.forall_mem_cons.mpr ⟨code447, List.forall_mem_cons.mpr ⟨code448, List.forall_mem_cons.mpr ⟨code449, List.forall_mem_cons.mpr ⟨code450, List.forall_mem_cons.mpr ⟨code451, List.forall_mem_cons.mpr ⟨code452, List.forall_mem_cons.mpr ⟨code453, List.forall_mem_cons.mpr ⟨code454, List.forall_mem_cons.mpr ⟨code455, List.forall_mem_cons.mpr ⟨code456, List.forall_mem_cons.mpr ⟨code457, List.forall_mem_cons.mpr ⟨code458, List.forall_mem_cons.mpr ⟨code459, List.forall_mem_cons.mpr ⟨code460, List.forall_mem_cons.mpr ⟨code461, List.forall_mem_nil _⟩⟩⟩⟩⟩⟩⟩⟩⟩⟩⟩⟩⟩⟩⟩⟩⟩⟩⟩⟩⟩⟩⟩⟩⟩⟩⟩⟩⟩⟩⟩⟩⟩⟩⟩⟩⟩⟩⟩⟩⟩⟩⟩⟩⟩⟩⟩⟩⟩⟩⟩⟩⟩
set_option maxRecDepth 16384 in
theorem start2.others_13_0 : (tables_1_13.take 13).all (fun c => sv_isCode c || c.before args0 about) = true := by decide +kernel
set_option maxRecDepth 16384 in
theorem start2.others_13_1 : ((tables_1_13.drop 13).take 13).all (fun c => sv_isCode c || c.before args0 about) = true := by decide +kernel

set_option maxRecDepth 16384 in
theorem start2.others_13_2 : (((tables_1_13.drop 13).drop 13).take 13).all (fun c => sv_isCode c || c.before args0 about) = true := by decide +kernel
set_option maxRecDepth 16384 in
theorem start2.others_13_3 : ((((tables_1_13.drop 13).drop 13).drop 13).take 13).all (fun c => sv_isCode c || c.before args0 about) = true := by decide +kernel

set_option maxRecDepth 16384 in
theorem start2.others_13_4 : (((((tables_1_13.drop 13).drop 13).drop 13).drop 13).take 13).all (fun c => sv_isCode c || c.before args0 about) = true := by decide +kernel
set_option maxRecDepth 16384 in
theorem start2.others_13_5 : ((((((tables_1_13.drop 13).drop 13).drop 13).drop 13).drop 13).take 13).all (fun c => sv_isCode c || c.before args0 about) = true := by decide +kernel

set_option maxRecDepth 16384 in
theorem start2.others_13_6 : (((((((tables_1_13.drop 13).drop 13).drop 13).drop 13).drop 13).drop 13).take 13).all (fun c => sv_isCode c || c.before args0 about) = true := by decide +kernel
set_option maxRecDepth 16384 in
theorem start2.others_13_7 : ((((((((tables_1_13.drop 13).drop 13).drop 13).drop 13).drop 13).drop 13).drop 13).take 13).all (fun c => sv_isCode c || c.before args0 about) = true := by decide +kernel

set_option maxRecDepth 16384 in
theorem start2.others_13_8 : (((((((((tables_1_13.drop 13).drop 13).drop 13).drop 13).drop 13).drop 13).drop 13).drop 13).take 18).all (fun c => sv_isCode c || c.before args0 about) = true := by decide +kernel
set_option maxRecDepth 16384 in
theorem start2.others_13_9 : ((((((((((tables_1_13.drop 13).drop 13).drop 13).drop 13).drop 13).drop 13).drop 13).drop 13).drop 18).take 32).all (fun c => sv_isCode c || c.before args0 about) = true := by decide +kernel

set_option maxRecDepth 16384 in
theorem start2.others_13_10 : (((((((((((tables_1_13.drop 13).drop 13).drop 13).drop 13).drop 13).drop 13).drop 13).drop 13).drop 18).drop 32).take 13).all (fun c => sv_isCode c || c.before args0 about) = true := by decide +kernel
set_option maxRecDepth 16384 in
theorem start2.others_13_11 : ((((((((((((tables_1_13.drop 13).drop 13).drop 13).drop 13).drop 13).drop 13).drop 13).drop 13).drop 18).drop 32).drop 13).take 13).all (fun c => sv_isCode c || c.before args0 about) = true := by decide +kernel

set_option maxRecDepth 16384 in
theorem start2.others_13_12 : (((((((((((((tables_1_13.drop 13).drop 13).drop 13).drop 13).drop 13).drop 13).drop 13).drop 13).drop 18).drop 32).drop 13).drop 13).take 13).all (fun c => sv_isCode c || c.before args0 about) = true := by decide +kernel
set_option maxRecDepth 16384 in
theorem start2.others_13_13 : ((((((((((((((tables_1_13.drop 13).drop 13).drop 13).drop 13).drop 13).drop 13).drop 13).drop 13).drop 18).drop 32).drop 13).drop 13).drop 13).take 13).all (fun c => sv_isCode c || c.before args0 about) = true := by decide +kernel

set_option maxRecDepth 16384 in
theorem start2.others_13_14 : (((((((((((((((tables_1_13.drop 13).drop 13).drop 13).drop 13).drop 13).drop 13).drop 13).drop 13).drop 18).drop 32).drop 13).drop 13).drop 13).drop 13).take 13).all (fun c => sv_isCode c || c.before args0 about) = true := by decide +kernel
set_option maxRecDepth 16384 in
theorem start2.others_13_15 : ((((((((((((((((tables_1_13.drop 13).drop 13).drop 13).drop 13).drop 13).drop 13).drop 13).drop 13).drop 18).drop 32).drop 13).drop 13).drop 13).drop 13).drop 13).take 13).all (fun c => sv_isCode c || c.before args0 about) = true := by decide +kernel

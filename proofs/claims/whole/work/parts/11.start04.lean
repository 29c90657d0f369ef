set_option maxRecDepth 16384

set_option maxRecDepth 16384 in
theorem start2.others_6_4 : (((((tables_1_6.drop 40).drop 40).drop 40).drop 40).take 40).all (fun c => sv_isCode c || c.before args0 about) = true := by decide +kernel
set_option maxRecDepth 16384 in
theorem start2.others_6_5 : (((((tables_1_6.drop 40).drop 40).drop 40).drop 40).drop 40).all (fun c => sv_isCode c || c.before args0 about) = true := by decide +kernel
theorem start2.others_hold_6 : tables_1_6.all (fun c => sv_isCode c || c.before args0 about) = true := sv_all_split _ 40 tables_1_6 others_6_0 (sv_all_split _ 40 (tables_1_6.drop 40) others_6_1 (sv_all_split _ 40 ((tables_1_6.drop 40).drop 40) others_6_2 (sv_all_split _ 40 (((tables_1_6.drop 40).drop 40).drop 40) others_6_3 (sv_all_split _ 40 ((((tables_1_6.drop 40).drop 40).drop 40).drop 40) others_6_4 others_6_5))))
theorem start2.words_6 : ∀ c ∈ tables_1_6, c.before args0 about = true := fun c h => sv_words others_hold_6 codes_hold_6 c h

theorem start2.code171 : (Jvm.Cond.code (⟨"Seattable$Filler", "isWayFound", "(III)Z"⟩ : Jvm.MethodName) prog_5_method_27_code 11 (some .boolean)).before args0 about = true :=
  sv_hand_word (m := ⟨8, 26⟩) (by decide +kernel) rfl (by decide +kernel) (by decide +kernel)
theorem start2.code172 : (Jvm.Cond.code (⟨"Seattable$Filler", "isHigh", "(I)Z"⟩ : Jvm.MethodName) prog_5_method_25_code 2 (some .boolean)).before args0 about = true :=
  sv_hand_word (m := ⟨8, 24⟩) (by decide +kernel) rfl (by decide +kernel) (by decide +kernel)
theorem start2.code173 : (Jvm.Cond.code (⟨"Seattable$Filler", "lowerLast", "()I"⟩ : Jvm.MethodName) prog_5_method_23_code 2 (some .int)).before args0 about = true :=
  sv_hand_word (m := ⟨8, 22⟩) (by decide +kernel) rfl (by decide +kernel) (by decide +kernel)
theorem start2.code174 : (Jvm.Cond.code (⟨"Seattable", "cellAt", "(III)I"⟩ : Jvm.MethodName) prog_1_method_20_code 4 (some .int)).before args0 about = true :=
  sv_hand_word (m := ⟨2, 19⟩) (by decide +kernel) rfl (by decide +kernel) (by decide +kernel)
theorem start2.code175 : (Jvm.Cond.code (⟨"Seattable", "isTable", "(I)Z"⟩ : Jvm.MethodName) prog_1_method_61_code 2 (some .boolean)).before args0 about = true :=
  sv_hand_word (m := ⟨2, 60⟩) (by decide +kernel) rfl (by decide +kernel) (by decide +kernel)
theorem start2.code176 : (Jvm.Cond.code (⟨"Seattable", "isFilled", "(ZI)Z"⟩ : Jvm.MethodName) prog_1_method_62_code 3 (some .boolean)).before args0 about = true :=
  sv_hand_word (m := ⟨2, 61⟩) (by decide +kernel) rfl (by decide +kernel) (by decide +kernel)
theorem start2.code177 : (Jvm.Cond.code (⟨"Seattable", "factor", "(IZI)I"⟩ : Jvm.MethodName) prog_1_method_21_code 4 (some .int)).before args0 about = true :=
  sv_hand_word (m := ⟨2, 20⟩) (by decide +kernel) rfl (by decide +kernel) (by decide +kernel)
theorem start2.code178 : (Jvm.Cond.code (⟨"Seattable$Filler", "putFactor", "(ILSeattable$Fraction;)V"⟩ : Jvm.MethodName) prog_5_method_16_code 4 none).before args0 about = true :=
  sv_hand_word (m := ⟨8, 15⟩) (by decide +kernel) rfl (by decide +kernel) (by decide +kernel)
theorem start2.code179 : (Jvm.Cond.code (⟨"Seattable", "cutAt", "(I)I"⟩ : Jvm.MethodName) prog_1_method_22_code 2 (some .int)).before args0 about = true :=
  sv_hand_word (m := ⟨2, 21⟩) (by decide +kernel) rfl (by decide +kernel) (by decide +kernel)
theorem start2.code180 : (Jvm.Cond.code (⟨"Seattable", "tiers", "(IIII)I"⟩ : Jvm.MethodName) prog_1_method_23_code 5 (some .int)).before args0 about = true :=
  sv_hand_word (m := ⟨2, 22⟩) (by decide +kernel) rfl (by decide +kernel) (by decide +kernel)
theorem start2.code181 : (Jvm.Cond.code (⟨"Seattable$Dealer", "findFloors", "(LSeattable$House;I)V"⟩ : Jvm.MethodName) prog_4_method_28_code 6 none).before args0 about = true :=
  sv_hand_word (m := ⟨7, 27⟩) (by decide +kernel) rfl (by decide +kernel) (by decide +kernel)
theorem start2.code182 : (Jvm.Cond.code (⟨"Seattable$Dealer", "evenedHouse", "(II)I"⟩ : Jvm.MethodName) prog_4_method_29_code 5 (some .int)).before args0 about = true :=
  sv_hand_word (m := ⟨7, 28⟩) (by decide +kernel) rfl (by decide +kernel) (by decide +kernel)
theorem start2.code183 : (Jvm.Cond.code (⟨"Seattable$Dealer", "isGrown", "(IIZ)Z"⟩ : Jvm.MethodName) prog_4_method_30_code 4 (some .boolean)).before args0 about = true :=
  sv_hand_word (m := ⟨7, 29⟩) (by decide +kernel) rfl (by decide +kernel) (by decide +kernel)
theorem start2.code184 : (Jvm.Cond.code (⟨"Seattable$Dealer", "isAboveFloors", "()Z"⟩ : Jvm.MethodName) prog_4_method_31_code 2 (some .boolean)).before args0 about = true :=
  sv_hand_word (m := ⟨7, 30⟩) (by decide +kernel) rfl (by decide +kernel) (by decide +kernel)
theorem start2.code185 : (Jvm.Cond.code (⟨"Seattable$Dealer", "overhang", "(II)I"⟩ : Jvm.MethodName) prog_4_method_32_code 5 (some .int)).before args0 about = true :=
  sv_hand_word (m := ⟨7, 31⟩) (by decide +kernel) rfl (by decide +kernel) (by decide +kernel)
theorem start2.code186 : (Jvm.Cond.code (⟨"Seattable", "setCandidates", "(I)I"⟩ : Jvm.MethodName) prog_1_method_24_code 3 (some .int)).before args0 about = true :=
  sv_hand_word (m := ⟨2, 23⟩) (by decide +kernel) rfl (by decide +kernel) (by decide +kernel)
theorem start2.code187 : (Jvm.Cond.code (⟨"Seattable$House", "candidates", "()I"⟩ : Jvm.MethodName) prog_7_method_4_code 1 (some .int)).before args0 about = true :=
  sv_hand_word (m := ⟨3, 3⟩) (by decide +kernel) rfl (by decide +kernel) (by decide +kernel)
theorem start2.code188 : (Jvm.Cond.code (⟨"Seattable", "addBallot", "(II)I"⟩ : Jvm.MethodName) prog_1_method_25_code 4 (some .int)).before args0 about = true :=
  sv_hand_word (m := ⟨2, 24⟩) (by decide +kernel) rfl (by decide +kernel) (by decide +kernel)
theorem start2.code189 : (Jvm.Cond.code (⟨"Seattable$Ballots", "setOf", "(II)I"⟩ : Jvm.MethodName) prog_2_method_2_code 5 (some .int)).before args0 about = true :=
  sv_hand_word (m := ⟨10, 1⟩) (by decide +kernel) rfl (by decide +kernel) (by decide +kernel)
theorem start2.code190 : (Jvm.Cond.code (⟨"Seattable$House", "ballots", "()I"⟩ : Jvm.MethodName) prog_7_method_5_code 1 (some .int)).before args0 about = true :=
  sv_hand_word (m := ⟨3, 4⟩) (by decide +kernel) rfl (by decide +kernel) (by decide +kernel)
theorem start2.code191 : (Jvm.Cond.code (⟨"Seattable", "elect", "(III)I"⟩ : Jvm.MethodName) prog_1_method_26_code 4 (some .int)).before args0 about = true :=
  sv_hand_word (m := ⟨2, 25⟩) (by decide +kernel) rfl (by decide +kernel) (by decide +kernel)
theorem start2.code192 : (Jvm.Cond.code (⟨"Seattable$Ballots", "runCount", "(LSeattable$House;III)V"⟩ : Jvm.MethodName) prog_2_method_5_code 7 none).before args0 about = true :=
  sv_hand_word (m := ⟨10, 4⟩) (by decide +kernel) rfl (by decide +kernel) (by decide +kernel)
theorem start2.code193 : (Jvm.Cond.code (⟨"Seattable$Ballots", "start", "(LSeattable$House;II)V"⟩ : Jvm.MethodName) prog_2_method_6_code 6 none).before args0 about = true :=
  sv_hand_word (m := ⟨10, 5⟩) (by decide +kernel) rfl (by decide +kernel) (by decide +kernel)
theorem start2.code194 : (Jvm.Cond.code (⟨"Seattable$Ballots", "allVotes", "(LSeattable$House;)I"⟩ : Jvm.MethodName) prog_2_method_4_code 3 (some .int)).before args0 about = true :=
  sv_hand_word (m := ⟨10, 3⟩) (by decide +kernel) rfl (by decide +kernel) (by decide +kernel)
theorem start2.code195 : (Jvm.Cond.code (⟨"Seattable$Ballots", "readRow", "(II)V"⟩ : Jvm.MethodName) prog_2_method_7_code 7 none).before args0 about = true :=
  sv_hand_word (m := ⟨10, 6⟩) (by decide +kernel) rfl (by decide +kernel) (by decide +kernel)
theorem start2.code196 : (Jvm.Cond.code (⟨"Seattable$Ballots", "passBallot", "(II)V"⟩ : Jvm.MethodName) prog_2_method_8_code 5 none).before args0 about = true :=
  sv_hand_word (m := ⟨10, 7⟩) (by decide +kernel) rfl (by decide +kernel) (by decide +kernel)
theorem start2.code197 : (Jvm.Cond.code (⟨"Seattable$Ballots", "isHopeful", "(I)Z"⟩ : Jvm.MethodName) prog_2_method_9_code 2 (some .boolean)).before args0 about = true :=
  sv_hand_word (m := ⟨10, 8⟩) (by decide +kernel) rfl (by decide +kernel) (by decide +kernel)
theorem start2.code198 : (Jvm.Cond.code (⟨"Seattable$Ballots", "keepRound", "(LSeattable$House;I)V"⟩ : Jvm.MethodName) prog_2_method_10_code 4 none).before args0 about = true :=
  sv_hand_word (m := ⟨10, 9⟩) (by decide +kernel) rfl (by decide +kernel) (by decide +kernel)
theorem start2.code199 : (Jvm.Cond.code (⟨"Seattable$House", "keepTally", "(IILSeattable$Big;)V"⟩ : Jvm.MethodName) prog_7_method_12_code 6 none).before args0 about = true :=
  sv_hand_word (m := ⟨3, 11⟩) (by decide +kernel) rfl (by decide +kernel) (by decide +kernel)
theorem start2.code200 : (Jvm.Cond.code (⟨"Seattable$Ballots", "isLastRound", "(LSeattable$House;III)Z"⟩ : Jvm.MethodName) prog_2_method_11_code 6 (some .boolean)).before args0 about = true :=
  sv_hand_word (m := ⟨10, 10⟩) (by decide +kernel) rfl (by decide +kernel) (by decide +kernel)
theorem start2.code201 : (Jvm.Cond.code (⟨"Seattable$Ballots", "choose", "(LSeattable$House;I)V"⟩ : Jvm.MethodName) prog_2_method_12_code 3 none).before args0 about = true :=
  sv_hand_word (m := ⟨10, 11⟩) (by decide +kernel) rfl (by decide +kernel) (by decide +kernel)
theorem start2.code202 : (Jvm.Cond.code (⟨"Seattable$Ballots", "strongest", "()I"⟩ : Jvm.MethodName) prog_2_method_13_code 3 (some .int)).before args0 about = true :=
  sv_hand_word (m := ⟨10, 12⟩) (by decide +kernel) rfl (by decide +kernel) (by decide +kernel)
theorem start2.code203 : (Jvm.Cond.code (⟨"Seattable$Ballots", "isQuotaReached", "(I)Z"⟩ : Jvm.MethodName) prog_2_method_15_code 2 (some .boolean)).before args0 about = true :=
  sv_hand_word (m := ⟨10, 14⟩) (by decide +kernel) rfl (by decide +kernel) (by decide +kernel)
theorem start2.code204 : (Jvm.Cond.code (⟨"Seattable$Ballots", "weakest", "()I"⟩ : Jvm.MethodName) prog_2_method_14_code 3 (some .int)).before args0 about = true :=
  sv_hand_word (m := ⟨10, 13⟩) (by decide +kernel) rfl (by decide +kernel) (by decide +kernel)
theorem start2.code205 : (Jvm.Cond.code (⟨"Seattable$Ballots", "drop", "(LSeattable$House;II)V"⟩ : Jvm.MethodName) prog_2_method_16_code 5 none).before args0 about = true :=
  sv_hand_word (m := ⟨10, 15⟩) (by decide +kernel) rfl (by decide +kernel) (by decide +kernel)
theorem start2.code206 : (Jvm.Cond.code (⟨"Seattable$Ballots", "passSurplus", "(LSeattable$House;IIZ)V"⟩ : Jvm.MethodName) prog_2_method_17_code 7 none).before args0 about = true :=
  sv_hand_word (m := ⟨10, 16⟩) (by decide +kernel) rfl (by decide +kernel) (by decide +kernel)
theorem start2.code207 : (Jvm.Cond.code (⟨"Seattable$Ballots", "latestRound", "(LSeattable$House;I)I"⟩ : Jvm.MethodName) prog_2_method_18_code 5 (some .int)).before args0 about = true :=
  sv_hand_word (m := ⟨10, 17⟩) (by decide +kernel) rfl (by decide +kernel) (by decide +kernel)
theorem start2.code208 : (Jvm.Cond.code (⟨"Seattable$Ballots", "split", "(LSeattable$House;II)V"⟩ : Jvm.MethodName) prog_2_method_19_code 6 none).before args0 about = true :=
  sv_hand_word (m := ⟨10, 18⟩) (by decide +kernel) rfl (by decide +kernel) (by decide +kernel)
theorem start2.code209 : (Jvm.Cond.code (⟨"Seattable$Ballots", "multiply", "(LSeattable$Big;LSeattable$Big;)V"⟩ : Jvm.MethodName) prog_2_method_20_code 3 none).before args0 about = true :=
  sv_hand_word (m := ⟨10, 19⟩) (by decide +kernel) rfl (by decide +kernel) (by decide +kernel)
theorem start2.code210 : (Jvm.Cond.code (⟨"Seattable", "electedAt", "(I)I"⟩ : Jvm.MethodName) prog_1_method_27_code 2 (some .int)).before args0 about = true :=
  sv_hand_word (m := ⟨2, 26⟩) (by decide +kernel) rfl (by decide +kernel) (by decide +kernel)
theorem start2.code211 : (Jvm.Cond.code (⟨"Seattable", "isCandidate", "(I)Z"⟩ : Jvm.MethodName) prog_1_method_59_code 2 (some .boolean)).before args0 about = true :=
  sv_hand_word (m := ⟨2, 58⟩) (by decide +kernel) rfl (by decide +kernel) (by decide +kernel)
theorem start2.code212 : (Jvm.Cond.code (⟨"Seattable", "votesAt", "(II)I"⟩ : Jvm.MethodName) prog_1_method_28_code 3 (some .int)).before args0 about = true :=
  sv_hand_word (m := ⟨2, 27⟩) (by decide +kernel) rfl (by decide +kernel) (by decide +kernel)
theorem start2.code213 : (Jvm.Cond.code (⟨"Seattable", "openAt", "(III)I"⟩ : Jvm.MethodName) prog_1_method_29_code 4 (some .int)).before args0 about = true :=
  sv_hand_word (m := ⟨2, 28⟩) (by decide +kernel) rfl (by decide +kernel) (by decide +kernel)
theorem start2.code214 : (Jvm.Cond.code (⟨"Seattable$Ballots", "openPlace", "(LSeattable$House;III)I"⟩ : Jvm.MethodName) prog_2_method_22_code 13 (some .int)).before args0 about = true :=
  sv_hand_word (m := ⟨10, 21⟩) (by decide +kernel) rfl (by decide +kernel) (by decide +kernel)
theorem start2.code215 : (Jvm.Cond.code (⟨"Seattable$Ballots", "personalVotes", "(LSeattable$House;I)I"⟩ : Jvm.MethodName) prog_2_method_23_code 4 (some .int)).before args0 about = true :=
  sv_hand_word (m := ⟨10, 22⟩) (by decide +kernel) rfl (by decide +kernel) (by decide +kernel)
theorem start2.code216 : (Jvm.Cond.code (⟨"Seattable$Ballots", "firstOf", "(I)I"⟩ : Jvm.MethodName) prog_2_method_3_code 3 (some .int)).before args0 about = true :=
  sv_hand_word (m := ⟨10, 2⟩) (by decide +kernel) rfl (by decide +kernel) (by decide +kernel)
theorem start2.code217 : (Jvm.Cond.code (⟨"Seattable", "addBlock", "(III)I"⟩ : Jvm.MethodName) prog_1_method_30_code 5 (some .int)).before args0 about = true :=
  sv_hand_word (m := ⟨2, 29⟩) (by decide +kernel) rfl (by decide +kernel) (by decide +kernel)
theorem start2.code218 : (Jvm.Cond.code (⟨"Seattable$House", "blocks", "()I"⟩ : Jvm.MethodName) prog_7_method_6_code 1 (some .int)).before args0 about = true :=
  sv_hand_word (m := ⟨3, 5⟩) (by decide +kernel) rfl (by decide +kernel) (by decide +kernel)
theorem start2.code219 : (Jvm.Cond.code (⟨"Seattable", "join", "(II)Z"⟩ : Jvm.MethodName) prog_1_method_31_code 4 (some .boolean)).before args0 about = true :=
  sv_hand_word (m := ⟨2, 30⟩) (by decide +kernel) rfl (by decide +kernel) (by decide +kernel)

set_option maxRecDepth 16384 in
theorem start2.codes_are_7 : tables_1_7.filter sv_isCode = [Jvm.Cond.code (⟨"Seattable$Filler", "isWayFound", "(III)Z"⟩ : Jvm.MethodName) prog_5_method_27_code 11 (some .boolean),
    Jvm.Cond.code (⟨"Seattable$Filler", "isHigh", "(I)Z"⟩ : Jvm.MethodName) prog_5_method_25_code 2 (some .boolean),
    Jvm.Cond.code (⟨"Seattable$Filler", "lowerLast", "()I"⟩ : Jvm.MethodName) prog_5_method_23_code 2 (some .int),
    Jvm.Cond.code (⟨"Seattable", "cellAt", "(III)I"⟩ : Jvm.MethodName) prog_1_method_20_code 4 (some .int),
    Jvm.Cond.code (⟨"Seattable", "isTable", "(I)Z"⟩ : Jvm.MethodName) prog_1_method_61_code 2 (some .boolean),
    Jvm.Cond.code (⟨"Seattable", "isFilled", "(ZI)Z"⟩ : Jvm.MethodName) prog_1_method_62_code 3 (some .boolean),
    Jvm.Cond.code (⟨"Seattable", "factor", "(IZI)I"⟩ : Jvm.MethodName) prog_1_method_21_code 4 (some .int),
    Jvm.Cond.code (⟨"Seattable$Filler", "putFactor", "(ILSeattable$Fraction;)V"⟩ : Jvm.MethodName) prog_5_method_16_code 4 none,
    Jvm.Cond.code (⟨"Seattable", "cutAt", "(I)I"⟩ : Jvm.MethodName) prog_1_method_22_code 2 (some .int),
    Jvm.Cond.code (⟨"Seattable", "tiers", "(IIII)I"⟩ : Jvm.MethodName) prog_1_method_23_code 5 (some .int),
    Jvm.Cond.code (⟨"Seattable$Dealer", "findFloors", "(LSeattable$House;I)V"⟩ : Jvm.MethodName) prog_4_method_28_code 6 none,
    Jvm.Cond.code (⟨"Seattable$Dealer", "evenedHouse", "(II)I"⟩ : Jvm.MethodName) prog_4_method_29_code 5 (some .int),
    Jvm.Cond.code (⟨"Seattable$Dealer", "isGrown", "(IIZ)Z"⟩ : Jvm.MethodName) prog_4_method_30_code 4 (some .boolean),
    Jvm.Cond.code (⟨"Seattable$Dealer", "isAboveFloors", "()Z"⟩ : Jvm.MethodName) prog_4_method_31_code 2 (some .boolean),
    Jvm.Cond.code (⟨"Seattable$Dealer", "overhang", "(II)I"⟩ : Jvm.MethodName) prog_4_method_32_code 5 (some .int),
    Jvm.Cond.code (⟨"Seattable", "setCandidates", "(I)I"⟩ : Jvm.MethodName) prog_1_method_24_code 3 (some .int),
    Jvm.Cond.code (⟨"Seattable$House", "candidates", "()I"⟩ : Jvm.MethodName) prog_7_method_4_code 1 (some .int),
    Jvm.Cond.code (⟨"Seattable", "addBallot", "(II)I"⟩ : Jvm.MethodName) prog_1_method_25_code 4 (some .int),
    Jvm.Cond.code (⟨"Seattable$Ballots", "setOf", "(II)I"⟩ : Jvm.MethodName) prog_2_method_2_code 5 (some .int),
    Jvm.Cond.code (⟨"Seattable$House", "ballots", "()I"⟩ : Jvm.MethodName) prog_7_method_5_code 1 (some .int),
    Jvm.Cond.code (⟨"Seattable", "elect", "(III)I"⟩ : Jvm.MethodName) prog_1_method_26_code 4 (some .int),
    Jvm.Cond.code (⟨"Seattable$Ballots", "runCount", "(LSeattable$House;III)V"⟩ : Jvm.MethodName) prog_2_method_5_code 7 none,
    Jvm.Cond.code (⟨"Seattable$Ballots", "start", "(LSeattable$House;II)V"⟩ : Jvm.MethodName) prog_2_method_6_code 6 none,
    Jvm.Cond.code (⟨"Seattable$Ballots", "allVotes", "(LSeattable$House;)I"⟩ : Jvm.MethodName) prog_2_method_4_code 3 (some .int),
    Jvm.Cond.code (⟨"Seattable$Ballots", "readRow", "(II)V"⟩ : Jvm.MethodName) prog_2_method_7_code 7 none,
    Jvm.Cond.code (⟨"Seattable$Ballots", "passBallot", "(II)V"⟩ : Jvm.MethodName) prog_2_method_8_code 5 none,
    Jvm.Cond.code (⟨"Seattable$Ballots", "isHopeful", "(I)Z"⟩ : Jvm.MethodName) prog_2_method_9_code 2 (some .boolean),
    Jvm.Cond.code (⟨"Seattable$Ballots", "keepRound", "(LSeattable$House;I)V"⟩ : Jvm.MethodName) prog_2_method_10_code 4 none,
    Jvm.Cond.code (⟨"Seattable$House", "keepTally", "(IILSeattable$Big;)V"⟩ : Jvm.MethodName) prog_7_method_12_code 6 none,
    Jvm.Cond.code (⟨"Seattable$Ballots", "isLastRound", "(LSeattable$House;III)Z"⟩ : Jvm.MethodName) prog_2_method_11_code 6 (some .boolean),
    Jvm.Cond.code (⟨"Seattable$Ballots", "choose", "(LSeattable$House;I)V"⟩ : Jvm.MethodName) prog_2_method_12_code 3 none,
    Jvm.Cond.code (⟨"Seattable$Ballots", "strongest", "()I"⟩ : Jvm.MethodName) prog_2_method_13_code 3 (some .int),
    Jvm.Cond.code (⟨"Seattable$Ballots", "isQuotaReached", "(I)Z"⟩ : Jvm.MethodName) prog_2_method_15_code 2 (some .boolean),
    Jvm.Cond.code (⟨"Seattable$Ballots", "weakest", "()I"⟩ : Jvm.MethodName) prog_2_method_14_code 3 (some .int),
    Jvm.Cond.code (⟨"Seattable$Ballots", "drop", "(LSeattable$House;II)V"⟩ : Jvm.MethodName) prog_2_method_16_code 5 none,
    Jvm.Cond.code (⟨"Seattable$Ballots", "passSurplus", "(LSeattable$House;IIZ)V"⟩ : Jvm.MethodName) prog_2_method_17_code 7 none,
    Jvm.Cond.code (⟨"Seattable$Ballots", "latestRound", "(LSeattable$House;I)I"⟩ : Jvm.MethodName) prog_2_method_18_code 5 (some .int),
    Jvm.Cond.code (⟨"Seattable$Ballots", "split", "(LSeattable$House;II)V"⟩ : Jvm.MethodName) prog_2_method_19_code 6 none,
    Jvm.Cond.code (⟨"Seattable$Ballots", "multiply", "(LSeattable$Big;LSeattable$Big;)V"⟩ : Jvm.MethodName) prog_2_method_20_code 3 none,
    Jvm.Cond.code (⟨"Seattable", "electedAt", "(I)I"⟩ : Jvm.MethodName) prog_1_method_27_code 2 (some .int),
    Jvm.Cond.code (⟨"Seattable", "isCandidate", "(I)Z"⟩ : Jvm.MethodName) prog_1_method_59_code 2 (some .boolean),
    Jvm.Cond.code (⟨"Seattable", "votesAt", "(II)I"⟩ : Jvm.MethodName) prog_1_method_28_code 3 (some .int),
    Jvm.Cond.code (⟨"Seattable", "openAt", "(III)I"⟩ : Jvm.MethodName) prog_1_method_29_code 4 (some .int),
    Jvm.Cond.code (⟨"Seattable$Ballots", "openPlace", "(LSeattable$House;III)I"⟩ : Jvm.MethodName) prog_2_method_22_code 13 (some .int),
    Jvm.Cond.code (⟨"Seattable$Ballots", "personalVotes", "(LSeattable$House;I)I"⟩ : Jvm.MethodName) prog_2_method_23_code 4 (some .int),
    Jvm.Cond.code (⟨"Seattable$Ballots", "firstOf", "(I)I"⟩ : Jvm.MethodName) prog_2_method_3_code 3 (some .int),
    Jvm.Cond.code (⟨"Seattable", "addBlock", "(III)I"⟩ : Jvm.MethodName) prog_1_method_30_code 5 (some .int),
    Jvm.Cond.code (⟨"Seattable$House", "blocks", "()I"⟩ : Jvm.MethodName) prog_7_method_6_code 1 (some .int),
    Jvm.Cond.code (⟨"Seattable", "join", "(II)Z"⟩ : Jvm.MethodName) prog_1_method_31_code 4 (some .boolean)] := by
  first
  | rfl
  | simp only [tables_1_7, List.filter, sv_isCode]
theorem start2.codes_hold_7 : ∀ c ∈ tables_1_7.filter sv_isCode, c.before args0 about = true := by
  rw [codes_are_7]
  exact List.forall_mem_cons.mpr ⟨code171, List.forall_mem_cons.mpr ⟨code172, List.forall_mem_cons.mpr ⟨code173, List.forall_mem_cons.mpr ⟨code174, List.forall_mem_cons.mpr ⟨code175, List.forall_mem_cons.mpr ⟨code176, List.forall_mem_cons.mpr ⟨code177, List.forall_mem_cons.mpr ⟨code178, List.forall_mem_cons.mpr ⟨code179, List.forall_mem_cons.mpr ⟨code180, List.forall_mem_cons.mpr ⟨code181, List.forall_mem_cons.mpr ⟨code182, List.forall_mem_cons.mpr ⟨code183, List.forall_mem_cons.mpr ⟨code184, List.forall_mem_cons.mpr ⟨code185, List.forall_mem_cons.mpr ⟨code186, List.forall_mem_cons.mpr ⟨code187, List.forall_mem_cons.mpr ⟨code188, List.forall_mem_cons.mpr ⟨code189, List.forall_mem_cons.mpr ⟨code190, List.forall_mem_cons.mpr ⟨code191, List.forall_mem_cons.mpr ⟨code192, List.forall_mem_cons.mpr ⟨code193, List.forall_mem_cons.mpr ⟨code194, List.forall_mem_cons.mpr ⟨code195, List.forall_mem_cons.mpr ⟨code196, List.forall_mem_cons.mpr ⟨code197, List.forall_mem_cons.mpr ⟨code198, List.forall_mem_cons.mpr ⟨code199, List.forall_mem_cons.mpr ⟨code200, List.forall_mem_cons.mpr ⟨code201, List.forall_mem_cons.mpr ⟨code202, List.forall_mem_cons.mpr ⟨code203, List.forall_mem_cons.mpr ⟨code204, List.forall_mem_cons.mpr ⟨code205, List.forall_mem_cons.mpr ⟨code206, List.forall_mem_cons.mpr ⟨code207, List.forall_mem_cons.mpr ⟨code208, List.forall_mem_cons.mpr ⟨code209, List.forall_mem_cons.mpr ⟨code210, List.forall_mem_cons.mpr ⟨code211, List.forall_mem_cons.mpr ⟨code212, List.forall_mem_cons.mpr ⟨code213, List.forall_mem_cons.mpr ⟨code214, List.forall_mem_cons.mpr ⟨code215, List.forall_mem_cons.mpr ⟨code216, List.forall_mem_cons.mpr ⟨code217, List.forall_mem_cons.mpr ⟨code218, List.forall_mem_cons.mpr ⟨code219, List.forall_mem_nil _⟩⟩⟩⟩⟩⟩⟩⟩⟩⟩⟩⟩⟩⟩⟩⟩⟩⟩⟩⟩⟩⟩⟩⟩⟩⟩⟩⟩⟩⟩⟩⟩⟩⟩⟩⟩⟩⟩⟩⟩⟩⟩⟩⟩⟩⟩⟩⟩⟩
set_option maxRecDepth 16384 in
theorem start2.others_7_0 : (tables_1_7.take 40).all (fun c => sv_isCode c || c.before args0 about) = true := by decide +kernel
set_option maxRecDepth 16384 in
theorem start2.others_7_1 : ((tables_1_7.drop 40).take 40).all (fun c => sv_isCode c || c.before args0 about) = true := by decide +kernel

set_option maxRecDepth 16384 in
theorem start2.others_7_2 : (((tables_1_7.drop 40).drop 40).take 40).all (fun c => sv_isCode c || c.before args0 about) = true := by decide +kernel
set_option maxRecDepth 16384 in
theorem start2.others_7_3 : ((((tables_1_7.drop 40).drop 40).drop 40).take 40).all (fun c => sv_isCode c || c.before args0 about) = true := by decide +kernel

set_option maxRecDepth 16384 in
theorem start2.others_7_4 : (((((tables_1_7.drop 40).drop 40).drop 40).drop 40).take 40).all (fun c => sv_isCode c || c.before args0 about) = true := by decide +kernel
set_option maxRecDepth 16384 in
theorem start2.others_7_5 : ((((((tables_1_7.drop 40).drop 40).drop 40).drop 40).drop 40).take 38).all (fun c => sv_isCode c || c.before args0 about) = true := by decide +kernel

set_option maxRecDepth 16384 in
theorem start2.others_7_6 : ((((((tables_1_7.drop 40).drop 40).drop 40).drop 40).drop 40).drop 38).all (fun c => sv_isCode c || c.before args0 about) = true := by decide +kernel
theorem start2.others_hold_7 : tables_1_7.all (fun c => sv_isCode c || c.before args0 about) = true := sv_all_split _ 40 tables_1_7 others_7_0 (sv_all_split _ 40 (tables_1_7.drop 40) others_7_1 (sv_all_split _ 40 ((tables_1_7.drop 40).drop 40) others_7_2 (sv_all_split _ 40 (((tables_1_7.drop 40).drop 40).drop 40) others_7_3 (sv_all_split _ 40 ((((tables_1_7.drop 40).drop 40).drop 40).drop 40) others_7_4 (sv_all_split _ 38 (((((tables_1_7.drop 40).drop 40).drop 40).drop 40).drop 40) others_7_5 others_7_6)))))
theorem start2.words_7 : ∀ c ∈ tables_1_7, c.before args0 about = true := fun c h => sv_words others_hold_7 codes_hold_7 c h

theorem start2.code220 : (Jvm.Cond.code (⟨"Seattable", "isBlock", "(I)Z"⟩ : Jvm.MethodName) prog_1_method_60_code 2 (some .boolean)).before args0 about = true :=
  sv_hand_word (m := ⟨2, 59⟩) (by decide +kernel) rfl (by decide +kernel) (by decide +kernel)
theorem start2.code221 : (Jvm.Cond.code (⟨"Seattable", "maps", "(II)I"⟩ : Jvm.MethodName) prog_1_method_32_code 3 (some .int)).before args0 about = true :=
  sv_hand_word (m := ⟨2, 31⟩) (by decide +kernel) rfl (by decide +kernel) (by decide +kernel)
theorem start2.code222 : (Jvm.Cond.code (⟨"Seattable$Maps", "survey", "(LSeattable$House;II)V"⟩ : Jvm.MethodName) prog_8_method_2_code 7 none).before args0 about = true :=
  sv_hand_word (m := ⟨11, 1⟩) (by decide +kernel) rfl (by decide +kernel) (by decide +kernel)
theorem start2.code223 : (Jvm.Cond.code (⟨"Seattable$Maps", "findPieces", "(LSeattable$House;)V"⟩ : Jvm.MethodName) prog_8_method_3_code 7 none).before args0 about = true :=
  sv_hand_word (m := ⟨11, 2⟩) (by decide +kernel) rfl (by decide +kernel) (by decide +kernel)
theorem start2.code224 : (Jvm.Cond.code (⟨"Seattable$Maps", "isMap", "(III)Z"⟩ : Jvm.MethodName) prog_8_method_4_code 8 (some .boolean)).before args0 about = true :=
  sv_hand_word (m := ⟨11, 3⟩) (by decide +kernel) rfl (by decide +kernel) (by decide +kernel)
theorem start2.code225 : (Jvm.Cond.code (⟨"Seattable$Maps", "look", "(LSeattable$House;II)V"⟩ : Jvm.MethodName) prog_8_method_5_code 8 none).before args0 about = true :=
  sv_hand_word (m := ⟨11, 4⟩) (by decide +kernel) rfl (by decide +kernel) (by decide +kernel)
theorem start2.code226 : (Jvm.Cond.code (⟨"Seattable$Maps", "spreadOf", "(LSeattable$House;I)I"⟩ : Jvm.MethodName) prog_8_method_7_code 7 (some .int)).before args0 about = true :=
  sv_hand_word (m := ⟨11, 6⟩) (by decide +kernel) rfl (by decide +kernel) (by decide +kernel)
theorem start2.code227 : (Jvm.Cond.code (⟨"Seattable$Maps", "sumOf", "(LSeattable$House;II)I"⟩ : Jvm.MethodName) prog_8_method_6_code 5 (some .int)).before args0 about = true :=
  sv_hand_word (m := ⟨11, 5⟩) (by decide +kernel) rfl (by decide +kernel) (by decide +kernel)
theorem start2.code228 : (Jvm.Cond.code (⟨"Seattable$Maps", "rimOf", "(LSeattable$House;)I"⟩ : Jvm.MethodName) prog_8_method_8_code 6 (some .int)).before args0 about = true :=
  sv_hand_word (m := ⟨11, 7⟩) (by decide +kernel) rfl (by decide +kernel) (by decide +kernel)
theorem start2.code229 : (Jvm.Cond.code (⟨"Seattable$Maps", "redOf", "(LSeattable$House;I)I"⟩ : Jvm.MethodName) prog_8_method_9_code 5 (some .int)).before args0 about = true :=
  sv_hand_word (m := ⟨11, 8⟩) (by decide +kernel) rfl (by decide +kernel) (by decide +kernel)
theorem start2.code230 : (Jvm.Cond.code (⟨"Seattable", "districtAt", "(II)I"⟩ : Jvm.MethodName) prog_1_method_33_code 3 (some .int)).before args0 about = true :=
  sv_hand_word (m := ⟨2, 32⟩) (by decide +kernel) rfl (by decide +kernel) (by decide +kernel)
theorem start2.code231 : (Jvm.Cond.code (⟨"java/util/NoSuchElementException", "<init>", "()V"⟩ : Jvm.MethodName) prog_48_method_1_code 1 none).before args0 about = true :=
  sv_hand_word (m := ⟨52, 0⟩) (by decide +kernel) rfl (by decide +kernel) (by decide +kernel)
theorem start2.code232 : (Jvm.Cond.code (⟨"Seattable", "tilt", "(IIZ)I"⟩ : Jvm.MethodName) prog_1_method_34_code 4 (some .int)).before args0 about = true :=
  sv_hand_word (m := ⟨2, 33⟩) (by decide +kernel) rfl (by decide +kernel) (by decide +kernel)
theorem start2.code233 : (Jvm.Cond.code (⟨"Seattable", "addPerson", "(III)I"⟩ : Jvm.MethodName) prog_1_method_35_code 5 (some .int)).before args0 about = true :=
  sv_hand_word (m := ⟨2, 34⟩) (by decide +kernel) rfl (by decide +kernel) (by decide +kernel)
theorem start2.code234 : (Jvm.Cond.code (⟨"Seattable$House", "persons", "()I"⟩ : Jvm.MethodName) prog_7_method_7_code 1 (some .int)).before args0 about = true :=
  sv_hand_word (m := ⟨3, 6⟩) (by decide +kernel) rfl (by decide +kernel) (by decide +kernel)
theorem start2.code235 : (Jvm.Cond.code (⟨"Seattable", "want", "(III)I"⟩ : Jvm.MethodName) prog_1_method_36_code 5 (some .int)).before args0 about = true :=
  sv_hand_word (m := ⟨2, 35⟩) (by decide +kernel) rfl (by decide +kernel) (by decide +kernel)
theorem start2.code236 : (Jvm.Cond.code (⟨"Seattable", "panels", "(II)I"⟩ : Jvm.MethodName) prog_1_method_37_code 3 (some .int)).before args0 about = true :=
  sv_hand_word (m := ⟨2, 36⟩) (by decide +kernel) rfl (by decide +kernel) (by decide +kernel)
theorem start2.code237 : (Jvm.Cond.code (⟨"Seattable$Panels", "findPanels", "(LSeattable$House;I)V"⟩ : Jvm.MethodName) prog_9_method_2_code 4 none).before args0 about = true :=
  sv_hand_word (m := ⟨12, 1⟩) (by decide +kernel) rfl (by decide +kernel) (by decide +kernel)
theorem start2.code238 : (Jvm.Cond.code (⟨"Seattable$Panels", "isAsWanted", "(LSeattable$House;I)Z"⟩ : Jvm.MethodName) prog_9_method_3_code 7 (some .boolean)).before args0 about = true :=
  sv_hand_word (m := ⟨12, 2⟩) (by decide +kernel) rfl (by decide +kernel) (by decide +kernel)
theorem start2.code239 : (Jvm.Cond.code (⟨"Seattable$Panels", "panelsWith", "(I)I"⟩ : Jvm.MethodName) prog_9_method_4_code 4 (some .int)).before args0 about = true :=
  sv_hand_word (m := ⟨12, 3⟩) (by decide +kernel) rfl (by decide +kernel) (by decide +kernel)
theorem start2.code240 : (Jvm.Cond.code (⟨"Seattable", "chance", "(I)I"⟩ : Jvm.MethodName) prog_1_method_38_code 2 (some .int)).before args0 about = true :=
  sv_hand_word (m := ⟨2, 37⟩) (by decide +kernel) rfl (by decide +kernel) (by decide +kernel)
theorem start2.code241 : (Jvm.Cond.code (⟨"Seattable$Panels", "findLikeChance", "()V"⟩ : Jvm.MethodName) prog_9_method_5_code 4 none).before args0 about = true :=
  sv_hand_word (m := ⟨12, 4⟩) (by decide +kernel) rfl (by decide +kernel) (by decide +kernel)
theorem start2.code242 : (Jvm.Cond.code (⟨"Seattable$Panels", "lineUp", "()V"⟩ : Jvm.MethodName) prog_9_method_6_code 3 none).before args0 about = true :=
  sv_hand_word (m := ⟨12, 5⟩) (by decide +kernel) rfl (by decide +kernel) (by decide +kernel)
theorem start2.code243 : (Jvm.Cond.code (⟨"Seattable$Panels", "nextColumn", "()I"⟩ : Jvm.MethodName) prog_9_method_7_code 3 (some .int)).before args0 about = true :=
  sv_hand_word (m := ⟨12, 6⟩) (by decide +kernel) rfl (by decide +kernel) (by decide +kernel)
theorem start2.code244 : (Jvm.Cond.code (⟨"Seattable$Panels", "nextLine", "(I)I"⟩ : Jvm.MethodName) prog_9_method_8_code 10 (some .int)).before args0 about = true :=
  sv_hand_word (m := ⟨12, 7⟩) (by decide +kernel) rfl (by decide +kernel) (by decide +kernel)
theorem start2.code245 : (Jvm.Cond.code (⟨"Seattable$Panels", "swap", "(II)V"⟩ : Jvm.MethodName) prog_9_method_9_code 12 none).before args0 about = true :=
  sv_hand_word (m := ⟨12, 8⟩) (by decide +kernel) rfl (by decide +kernel) (by decide +kernel)
theorem start2.code246 : (Jvm.Cond.code (⟨"Seattable", "addPlayer", "(I)I"⟩ : Jvm.MethodName) prog_1_method_39_code 3 (some .int)).before args0 about = true :=
  sv_hand_word (m := ⟨2, 38⟩) (by decide +kernel) rfl (by decide +kernel) (by decide +kernel)
theorem start2.code247 : (Jvm.Cond.code (⟨"Seattable", "setMajority", "(I)I"⟩ : Jvm.MethodName) prog_1_method_40_code 3 (some .int)).before args0 about = true :=
  sv_hand_word (m := ⟨2, 39⟩) (by decide +kernel) rfl (by decide +kernel) (by decide +kernel)
theorem start2.code248 : (Jvm.Cond.code (⟨"Seattable", "power", "(IZ)I"⟩ : Jvm.MethodName) prog_1_method_41_code 4 (some .int)).before args0 about = true :=
  sv_hand_word (m := ⟨2, 40⟩) (by decide +kernel) rfl (by decide +kernel) (by decide +kernel)
theorem start2.code249 : (Jvm.Cond.code (⟨"Seattable", "leastAt", "(I)I"⟩ : Jvm.MethodName) prog_1_method_42_code 3 (some .int)).before args0 about = true :=
  sv_hand_word (m := ⟨2, 41⟩) (by decide +kernel) rfl (by decide +kernel) (by decide +kernel)
theorem start2.code250 : (Jvm.Cond.code (⟨"Seattable$Weights", "leastWinning", "(I)I"⟩ : Jvm.MethodName) prog_12_method_11_code 4 (some .int)).before args0 about = true :=
  sv_hand_word (m := ⟨13, 10⟩) (by decide +kernel) rfl (by decide +kernel) (by decide +kernel)
theorem start2.code251 : (Jvm.Cond.code (⟨"Seattable$Weights", "isLeastWinning", "(I)Z"⟩ : Jvm.MethodName) prog_12_method_9_code 4 (some .boolean)).before args0 about = true :=
  sv_hand_word (m := ⟨13, 8⟩) (by decide +kernel) rfl (by decide +kernel) (by decide +kernel)
theorem start2.code252 : (Jvm.Cond.code (⟨"Seattable", "margin", "(II)I"⟩ : Jvm.MethodName) prog_1_method_44_code 3 (some .int)).before args0 about = true :=
  sv_hand_word (m := ⟨2, 43⟩) (by decide +kernel) rfl (by decide +kernel) (by decide +kernel)
theorem start2.code253 : (Jvm.Cond.code (⟨"Seattable$Ballots", "leadOf", "(LSeattable$House;II)I"⟩ : Jvm.MethodName) prog_2_method_24_code 6 (some .int)).before args0 about = true :=
  sv_hand_word (m := ⟨10, 23⟩) (by decide +kernel) rfl (by decide +kernel) (by decide +kernel)
theorem start2.code254 : (Jvm.Cond.code (⟨"Seattable$Ballots", "heightIn", "(II)I"⟩ : Jvm.MethodName) prog_2_method_25_code 4 (some .int)).before args0 about = true :=
  sv_hand_word (m := ⟨10, 24⟩) (by decide +kernel) rfl (by decide +kernel) (by decide +kernel)
theorem start2.code255 : (Jvm.Cond.code (⟨"java/lang/Integer", "compare", "(II)I"⟩ : Jvm.MethodName) prog_28_method_40_code 2 (some .int)).before args0 about = true :=
  sv_hand_word (m := ⟨43, 2⟩) (by decide +kernel) rfl (by decide +kernel) (by decide +kernel)
theorem start2.code256 : (Jvm.Cond.code (⟨"Seattable", "agenda", "(I)I"⟩ : Jvm.MethodName) prog_1_method_45_code 3 (some .int)).before args0 about = true :=
  sv_hand_word (m := ⟨2, 44⟩) (by decide +kernel) rfl (by decide +kernel) (by decide +kernel)
theorem start2.code257 : (Jvm.Cond.code (⟨"Seattable$Ballots", "leftBy", "(LSeattable$House;I)I"⟩ : Jvm.MethodName) prog_2_method_28_code 5 (some .int)).before args0 about = true :=
  sv_hand_word (m := ⟨10, 27⟩) (by decide +kernel) rfl (by decide +kernel) (by decide +kernel)
theorem start2.code258 : (Jvm.Cond.code (⟨"Seattable$Ballots", "findBeaten", "(LSeattable$House;)V"⟩ : Jvm.MethodName) prog_2_method_26_code 4 none).before args0 about = true :=
  sv_hand_word (m := ⟨10, 25⟩) (by decide +kernel) rfl (by decide +kernel) (by decide +kernel)
theorem start2.code259 : (Jvm.Cond.code (⟨"Seattable$Ballots", "stronger", "(II)I"⟩ : Jvm.MethodName) prog_2_method_27_code 3 (some .int)).before args0 about = true :=
  sv_hand_word (m := ⟨10, 26⟩) (by decide +kernel) rfl (by decide +kernel) (by decide +kernel)
theorem start2.code260 : (Jvm.Cond.code (⟨"Seattable", "agendaFor", "(I)I"⟩ : Jvm.MethodName) prog_1_method_46_code 2 (some .int)).before args0 about = true :=
  sv_hand_word (m := ⟨2, 45⟩) (by decide +kernel) rfl (by decide +kernel) (by decide +kernel)
theorem start2.code261 : (Jvm.Cond.code (⟨"Seattable$Ballots", "findAgendas", "(LSeattable$House;I)V"⟩ : Jvm.MethodName) prog_2_method_29_code 3 none).before args0 about = true :=
  sv_hand_word (m := ⟨10, 28⟩) (by decide +kernel) rfl (by decide +kernel) (by decide +kernel)
theorem start2.code262 : (Jvm.Cond.code (⟨"Seattable$Ballots", "addAgendas", "(LSeattable$Ballots;IIIII)V"⟩ : Jvm.MethodName) prog_2_method_30_code 8 none).before args0 about = true :=
  sv_hand_word (m := ⟨10, 29⟩) (by decide +kernel) rfl (by decide +kernel) (by decide +kernel)
theorem start2.code263 : (Jvm.Cond.code (⟨"Seattable", "agendasFor", "(I)I"⟩ : Jvm.MethodName) prog_1_method_47_code 2 (some .int)).before args0 about = true :=
  sv_hand_word (m := ⟨2, 46⟩) (by decide +kernel) rfl (by decide +kernel) (by decide +kernel)

set_option maxRecDepth 16384 in
theorem start2.codes_are_8 : tables_1_8.filter sv_isCode = [Jvm.Cond.code (⟨"Seattable", "isBlock", "(I)Z"⟩ : Jvm.MethodName) prog_1_method_60_code 2 (some .boolean),
    Jvm.Cond.code (⟨"Seattable", "maps", "(II)I"⟩ : Jvm.MethodName) prog_1_method_32_code 3 (some .int),
    Jvm.Cond.code (⟨"Seattable$Maps", "survey", "(LSeattable$House;II)V"⟩ : Jvm.MethodName) prog_8_method_2_code 7 none,
    Jvm.Cond.code (⟨"Seattable$Maps", "findPieces", "(LSeattable$House;)V"⟩ : Jvm.MethodName) prog_8_method_3_code 7 none,
    Jvm.Cond.code (⟨"Seattable$Maps", "isMap", "(III)Z"⟩ : Jvm.MethodName) prog_8_method_4_code 8 (some .boolean),
    Jvm.Cond.code (⟨"Seattable$Maps", "look", "(LSeattable$House;II)V"⟩ : Jvm.MethodName) prog_8_method_5_code 8 none,
    Jvm.Cond.code (⟨"Seattable$Maps", "spreadOf", "(LSeattable$House;I)I"⟩ : Jvm.MethodName) prog_8_method_7_code 7 (some .int),
    Jvm.Cond.code (⟨"Seattable$Maps", "sumOf", "(LSeattable$House;II)I"⟩ : Jvm.MethodName) prog_8_method_6_code 5 (some .int),
    Jvm.Cond.code (⟨"Seattable$Maps", "rimOf", "(LSeattable$House;)I"⟩ : Jvm.MethodName) prog_8_method_8_code 6 (some .int),
    Jvm.Cond.code (⟨"Seattable$Maps", "redOf", "(LSeattable$House;I)I"⟩ : Jvm.MethodName) prog_8_method_9_code 5 (some .int),
    Jvm.Cond.code (⟨"Seattable", "districtAt", "(II)I"⟩ : Jvm.MethodName) prog_1_method_33_code 3 (some .int),
    Jvm.Cond.code (⟨"java/util/NoSuchElementException", "<init>", "()V"⟩ : Jvm.MethodName) prog_48_method_1_code 1 none,
    Jvm.Cond.code (⟨"Seattable", "tilt", "(IIZ)I"⟩ : Jvm.MethodName) prog_1_method_34_code 4 (some .int),
    Jvm.Cond.code (⟨"Seattable", "addPerson", "(III)I"⟩ : Jvm.MethodName) prog_1_method_35_code 5 (some .int),
    Jvm.Cond.code (⟨"Seattable$House", "persons", "()I"⟩ : Jvm.MethodName) prog_7_method_7_code 1 (some .int),
    Jvm.Cond.code (⟨"Seattable", "want", "(III)I"⟩ : Jvm.MethodName) prog_1_method_36_code 5 (some .int),
    Jvm.Cond.code (⟨"Seattable", "panels", "(II)I"⟩ : Jvm.MethodName) prog_1_method_37_code 3 (some .int),
    Jvm.Cond.code (⟨"Seattable$Panels", "findPanels", "(LSeattable$House;I)V"⟩ : Jvm.MethodName) prog_9_method_2_code 4 none,
    Jvm.Cond.code (⟨"Seattable$Panels", "isAsWanted", "(LSeattable$House;I)Z"⟩ : Jvm.MethodName) prog_9_method_3_code 7 (some .boolean),
    Jvm.Cond.code (⟨"Seattable$Panels", "panelsWith", "(I)I"⟩ : Jvm.MethodName) prog_9_method_4_code 4 (some .int),
    Jvm.Cond.code (⟨"Seattable", "chance", "(I)I"⟩ : Jvm.MethodName) prog_1_method_38_code 2 (some .int),
    Jvm.Cond.code (⟨"Seattable$Panels", "findLikeChance", "()V"⟩ : Jvm.MethodName) prog_9_method_5_code 4 none,
    Jvm.Cond.code (⟨"Seattable$Panels", "lineUp", "()V"⟩ : Jvm.MethodName) prog_9_method_6_code 3 none,
    Jvm.Cond.code (⟨"Seattable$Panels", "nextColumn", "()I"⟩ : Jvm.MethodName) prog_9_method_7_code 3 (some .int),
    Jvm.Cond.code (⟨"Seattable$Panels", "nextLine", "(I)I"⟩ : Jvm.MethodName) prog_9_method_8_code 10 (some .int),
    Jvm.Cond.code (⟨"Seattable$Panels", "swap", "(II)V"⟩ : Jvm.MethodName) prog_9_method_9_code 12 none,
    Jvm.Cond.code (⟨"Seattable", "addPlayer", "(I)I"⟩ : Jvm.MethodName) prog_1_method_39_code 3 (some .int),
    Jvm.Cond.code (⟨"Seattable", "setMajority", "(I)I"⟩ : Jvm.MethodName) prog_1_method_40_code 3 (some .int),
    Jvm.Cond.code (⟨"Seattable", "power", "(IZ)I"⟩ : Jvm.MethodName) prog_1_method_41_code 4 (some .int),
    Jvm.Cond.code (⟨"Seattable", "leastAt", "(I)I"⟩ : Jvm.MethodName) prog_1_method_42_code 3 (some .int),
    Jvm.Cond.code (⟨"Seattable$Weights", "leastWinning", "(I)I"⟩ : Jvm.MethodName) prog_12_method_11_code 4 (some .int),
    Jvm.Cond.code (⟨"Seattable$Weights", "isLeastWinning", "(I)Z"⟩ : Jvm.MethodName) prog_12_method_9_code 4 (some .boolean),
    Jvm.Cond.code (⟨"Seattable", "margin", "(II)I"⟩ : Jvm.MethodName) prog_1_method_44_code 3 (some .int),
    Jvm.Cond.code (⟨"Seattable$Ballots", "leadOf", "(LSeattable$House;II)I"⟩ : Jvm.MethodName) prog_2_method_24_code 6 (some .int),
    Jvm.Cond.code (⟨"Seattable$Ballots", "heightIn", "(II)I"⟩ : Jvm.MethodName) prog_2_method_25_code 4 (some .int),
    Jvm.Cond.code (⟨"java/lang/Integer", "compare", "(II)I"⟩ : Jvm.MethodName) prog_28_method_40_code 2 (some .int),
    Jvm.Cond.code (⟨"Seattable", "agenda", "(I)I"⟩ : Jvm.MethodName) prog_1_method_45_code 3 (some .int),
    Jvm.Cond.code (⟨"Seattable$Ballots", "leftBy", "(LSeattable$House;I)I"⟩ : Jvm.MethodName) prog_2_method_28_code 5 (some .int),
    Jvm.Cond.code (⟨"Seattable$Ballots", "findBeaten", "(LSeattable$House;)V"⟩ : Jvm.MethodName) prog_2_method_26_code 4 none,
    Jvm.Cond.code (⟨"Seattable$Ballots", "stronger", "(II)I"⟩ : Jvm.MethodName) prog_2_method_27_code 3 (some .int),
    Jvm.Cond.code (⟨"Seattable", "agendaFor", "(I)I"⟩ : Jvm.MethodName) prog_1_method_46_code 2 (some .int),
    Jvm.Cond.code (⟨"Seattable$Ballots", "findAgendas", "(LSeattable$House;I)V"⟩ : Jvm.MethodName) prog_2_method_29_code 3 none,
    Jvm.Cond.code (⟨"Seattable$Ballots", "addAgendas", "(LSeattable$Ballots;IIIII)V"⟩ : Jvm.MethodName) prog_2_method_30_code 8 none,
    Jvm.Cond.code (⟨"Seattable", "agendasFor", "(I)I"⟩ : Jvm.MethodName) prog_1_method_47_code 2 (some .int)] := by
  first
  | rfl
  | simp only [tables_1_8, List.filter, sv_isCode]
theorem start2.codes_hold_8 : ∀ c ∈ tables_1_8.filter sv_isCode, c.before args0 about = true := by
  rw [codes_are_8]
  exact List.forall_mem_cons.mpr ⟨code220, List.forall_mem_cons.mpr ⟨code221, List.forall_mem_cons.mpr ⟨code222, List.forall_mem_cons.mpr ⟨code223, List.forall_mem_cons.mpr ⟨code224, List.forall_mem_cons.mpr ⟨code225, List.forall_mem_cons.mpr ⟨code226, List.forall_mem_cons.mpr ⟨code227, List.forall_mem_cons.mpr ⟨code228, List.forall_mem_cons.mpr ⟨code229, List.forall_mem_cons.mpr ⟨code230, List.forall_mem_cons.mpr ⟨code231, List.forall_mem_cons.mpr ⟨code232, List.forall_mem_cons.mpr ⟨code233, List.forall_mem_cons.mpr ⟨code234, List.forall_mem_cons.mpr ⟨code235, List.forall_mem_cons.mpr ⟨code236, List.forall_mem_cons.mpr ⟨code237, List.forall_mem_cons.mpr ⟨code238, List.forall_mem_cons.mpr ⟨code239, List.forall_mem_cons.mpr ⟨code240, List.forall_mem_cons.mpr ⟨code241, List.forall_mem_cons.mpr ⟨code242, List.forall_mem_cons.mpr ⟨code243, List.forall_mem_cons.mpr ⟨code244, List.forall_mem_cons.mpr ⟨code245, List.forall_mem_cons.mpr ⟨code246, List.forall_mem_cons.mpr ⟨code247, List.forall_mem_cons.mpr ⟨code248, List.forall_mem_cons.mpr ⟨code249, List.forall_mem_cons.mpr ⟨code250, List.forall_mem_cons.mpr ⟨code251, List.forall_mem_cons.mpr ⟨code252, List.forall_mem_cons.mpr ⟨code253, List.forall_mem_cons.mpr ⟨code254, List.forall_mem_cons.mpr ⟨code255, List.forall_mem_cons.mpr ⟨code256, List.forall_mem_cons.mpr ⟨code257, List.forall_mem_cons.mpr ⟨code258, List.forall_mem_cons.mpr ⟨code259, List.forall_mem_cons.mpr ⟨code260, List.forall_mem_cons.mpr ⟨code261, List.forall_mem_cons.mpr ⟨code262, List.forall_mem_cons.mpr ⟨code263, List.forall_mem_nil _⟩⟩⟩⟩⟩⟩⟩⟩⟩⟩⟩⟩⟩⟩⟩⟩⟩⟩⟩⟩⟩⟩⟩⟩⟩⟩⟩⟩⟩⟩⟩⟩⟩⟩⟩⟩⟩⟩⟩⟩⟩⟩⟩⟩
set_option maxRecDepth 16384 in
theorem start2.others_8_0 : (tables_1_8.take 40).all (fun c => sv_isCode c || c.before args0 about) = true := by decide +kernel
set_option maxRecDepth 16384 in
theorem start2.others_8_1 : ((tables_1_8.drop 40).take 40).all (fun c => sv_isCode c || c.before args0 about) = true := by decide +kernel

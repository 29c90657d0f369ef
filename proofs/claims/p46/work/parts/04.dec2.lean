theorem dX11_tiers_42 : decode cX11_tiers 42 = .ok (.iload 4, 2) := by decide +kernel
theorem dX11_tiers_44 : decode cX11_tiers 44 = .ok (.iconst 2, 1) := by decide +kernel
theorem dX11_tiers_45 : decode cX11_tiers 45 = .ok (.if_icmp .lt 22, 3) := by decide +kernel
theorem dX11_tiers_67 : decode cX11_tiers 67 = .ok (.aload_n 0, 1) := by decide +kernel
theorem dX11_tiers_68 : decode cX11_tiers 68 = .ok (.getfield 41, 3) := by decide +kernel
theorem dX11_tiers_71 : decode cX11_tiers 71 = .ok (.aload_n 0, 1) := by decide +kernel
theorem dX11_tiers_72 : decode cX11_tiers 72 = .ok (.getfield 12, 3) := by decide +kernel
theorem dX11_tiers_75 : decode cX11_tiers 75 = .ok (.iload_n 1, 1) := by decide +kernel
theorem dX11_tiers_76 : decode cX11_tiers 76 = .ok (.invokevirtual 243, 3) := by decide +kernel
theorem dX11_tiers_79 : decode cX11_tiers 79 = .ok (.iload 4, 2) := by decide +kernel
theorem dX11_tiers_81 : decode cX11_tiers 81 = .ok (.iconst 2, 1) := by decide +kernel
theorem dX11_tiers_82 : decode cX11_tiers 82 = .ok (.if_icmp .lt 16, 3) := by decide +kernel
theorem dX11_tiers_98 : decode cX11_tiers 98 = .ok (.aload_n 0, 1) := by decide +kernel
theorem dX11_tiers_99 : decode cX11_tiers 99 = .ok (.getfield 41, 3) := by decide +kernel
theorem dX11_tiers_102 : decode cX11_tiers 102 = .ok (.aload_n 0, 1) := by decide +kernel
theorem dX11_tiers_103 : decode cX11_tiers 103 = .ok (.getfield 12, 3) := by decide +kernel
theorem dX11_tiers_106 : decode cX11_tiers 106 = .ok (.iconst 0, 1) := by decide +kernel
theorem dX11_tiers_107 : decode cX11_tiers 107 = .ok (.iconst 0, 1) := by decide +kernel
theorem dX11_tiers_108 : decode cX11_tiers 108 = .ok (.invokevirtual 170, 3) := by decide +kernel
theorem dX11_tiers_111 : decode cX11_tiers 111 = .ok (.iload 4, 2) := by decide +kernel
theorem dX11_tiers_113 : decode cX11_tiers 113 = .ok (.ifCond .ne 15, 3) := by decide +kernel
theorem dX11_tiers_116 : decode cX11_tiers 116 = .ok (.aload_n 0, 1) := by decide +kernel
theorem dX11_tiers_117 : decode cX11_tiers 117 = .ok (.getfield 41, 3) := by decide +kernel
theorem dX11_tiers_120 : decode cX11_tiers 120 = .ok (.iload_n 2, 1) := by decide +kernel
theorem dX11_tiers_121 : decode cX11_tiers 121 = .ok (.iload_n 3, 1) := by decide +kernel
theorem dX11_tiers_122 : decode cX11_tiers 122 = .ok (.invokevirtual 249, 3) := by decide +kernel
theorem dX11_tiers_125 : decode cX11_tiers 125 = .ok (.goto 12, 3) := by decide +kernel
theorem dX11_tiers_137 : decode cX11_tiers 137 = .ok (.ireturn, 1) := by decide +kernel
theorem dX15_fine__0 : decode cX15_fine_ 0 = .ok (.aload_n 0, 1) := by decide +kernel
theorem dX15_fine__1 : decode cX15_fine_ 1 = .ok (.iload_n 1, 1) := by decide +kernel
theorem dX15_fine__2 : decode cX15_fine_ 2 = .ok (.ifCond .ne 7, 3) := by decide +kernel
theorem dX15_fine__9 : decode cX15_fine_ 9 = .ok (.iload_n 2, 1) := by decide +kernel
theorem dX15_fine__10 : decode cX15_fine_ 10 = .ok (.ifCond .ne 7, 3) := by decide +kernel
theorem dX15_fine__17 : decode cX15_fine_ 17 = .ok (.iconst 0, 1) := by decide +kernel
theorem dX15_fine__18 : decode cX15_fine_ 18 = .ok (.putfield 96, 3) := by decide +kernel
theorem dX15_fine__21 : decode cX15_fine_ 21 = .ok (.aload_n 0, 1) := by decide +kernel
theorem dX15_fine__22 : decode cX15_fine_ 22 = .ok (.getfield 96, 3) := by decide +kernel
theorem dX15_fine__25 : decode cX15_fine_ 25 = .ok (.ifCond .ne 7, 3) := by decide +kernel
theorem dX15_fine__28 : decode cX15_fine_ 28 = .ok (.iconst 1, 1) := by decide +kernel
theorem dX15_fine__29 : decode cX15_fine_ 29 = .ok (.goto 4, 3) := by decide +kernel
theorem dX15_fine__33 : decode cX15_fine_ 33 = .ok (.ireturn, 1) := by decide +kernel
theorem dX15_thrown_0 : decode cX15_thrown 0 = .ok (.aload_n 0, 1) := by decide +kernel
theorem dX15_thrown_1 : decode cX15_thrown 1 = .ok (.getfield 96, 3) := by decide +kernel
theorem dX15_thrown_4 : decode cX15_thrown 4 = .ok (.ireturn, 1) := by decide +kernel
theorem dX15_in_0 : decode cX15_in 0 = .ok (.lload_n 0, 1) := by decide +kernel
theorem dX15_in_1 : decode cX15_in 1 = .ok (.lload_n 2, 1) := by decide +kernel
theorem dX15_in_2 : decode cX15_in 2 = .ok (.lcmp, 1) := by decide +kernel
theorem dX15_in_3 : decode cX15_in 3 = .ok (.ifCond .lt 14, 3) := by decide +kernel
theorem dX15_in_6 : decode cX15_in 6 = .ok (.lload_n 0, 1) := by decide +kernel
theorem dX15_in_7 : decode cX15_in 7 = .ok (.lload 4, 2) := by decide +kernel
theorem dX15_in_9 : decode cX15_in 9 = .ok (.lcmp, 1) := by decide +kernel
theorem dX15_in_10 : decode cX15_in 10 = .ok (.ifCond .gt 7, 3) := by decide +kernel
theorem dX15_in_13 : decode cX15_in 13 = .ok (.iconst 1, 1) := by decide +kernel
theorem dX15_in_14 : decode cX15_in 14 = .ok (.goto 4, 3) := by decide +kernel
theorem dX15_in_18 : decode cX15_in 18 = .ok (.ireturn, 1) := by decide +kernel
theorem dX15_manyOf_0 : decode cX15_manyOf 0 = .ok (.iload_n 1, 1) := by decide +kernel
theorem dX15_manyOf_1 : decode cX15_manyOf 1 = .ok (.iconst 2, 1) := by decide +kernel
theorem dX15_manyOf_2 : decode cX15_manyOf 2 = .ok (.if_icmp .ne 13, 3) := by decide +kernel
theorem dX15_manyOf_15 : decode cX15_manyOf 15 = .ok (.aload_n 0, 1) := by decide +kernel
theorem dX15_manyOf_16 : decode cX15_manyOf 16 = .ok (.getfield 10, 3) := by decide +kernel
theorem dX15_manyOf_19 : decode cX15_manyOf 19 = .ok (.getfield 173, 3) := by decide +kernel
theorem dX15_manyOf_22 : decode cX15_manyOf 22 = .ok (.ireturn, 1) := by decide +kernel
theorem dX15_bounds_0 : decode cX15_bounds 0 = .ok (.iconst 0, 1) := by decide +kernel
theorem dX15_bounds_1 : decode cX15_bounds 1 = .ok (.istore_n 2, 1) := by decide +kernel
theorem dX15_bounds_2 : decode cX15_bounds 2 = .ok (.iload_n 2, 1) := by decide +kernel
theorem dX15_bounds_3 : decode cX15_bounds 3 = .ok (.aload_n 0, 1) := by decide +kernel
theorem dX15_bounds_4 : decode cX15_bounds 4 = .ok (.iload_n 1, 1) := by decide +kernel
theorem dX15_bounds_5 : decode cX15_bounds 5 = .ok (.invokevirtual 413, 3) := by decide +kernel
theorem dX15_bounds_8 : decode cX15_bounds 8 = .ok (.if_icmp .ge 65, 3) := by decide +kernel
theorem dX15_bounds_73 : decode cX15_bounds 73 = .ok (.return_, 1) := by decide +kernel
theorem dX15_claims_0 : decode cX15_claims 0 = .ok (.aload_n 0, 1) := by decide +kernel
theorem dX15_claims_1 : decode cX15_claims 1 = .ok (.iload_n 1, 1) := by decide +kernel
theorem dX15_claims_2 : decode cX15_claims 2 = .ok (.invokevirtual 413, 3) := by decide +kernel
theorem dX15_claims_5 : decode cX15_claims 5 = .ok (.newarray .long, 2) := by decide +kernel
theorem dX15_claims_7 : decode cX15_claims 7 = .ok (.astore_n 3, 1) := by decide +kernel
theorem dX15_claims_8 : decode cX15_claims 8 = .ok (.lconst 0, 1) := by decide +kernel
theorem dX15_claims_9 : decode cX15_claims 9 = .ok (.lstore 4, 2) := by decide +kernel
theorem dX15_claims_11 : decode cX15_claims 11 = .ok (.iconst 0, 1) := by decide +kernel
theorem dX15_claims_12 : decode cX15_claims 12 = .ok (.istore 6, 2) := by decide +kernel
theorem dX15_claims_14 : decode cX15_claims 14 = .ok (.iload 6, 2) := by decide +kernel
theorem dX15_claims_16 : decode cX15_claims 16 = .ok (.aload_n 3, 1) := by decide +kernel
theorem dX15_claims_17 : decode cX15_claims 17 = .ok (.arraylength, 1) := by decide +kernel
theorem dX15_claims_18 : decode cX15_claims 18 = .ok (.if_icmp .ge 116, 3) := by decide +kernel
theorem dX15_claims_134 : decode cX15_claims 134 = .ok (.iconst 0, 1) := by decide +kernel
theorem dX15_claims_135 : decode cX15_claims 135 = .ok (.istore 6, 2) := by decide +kernel
theorem dX15_claims_137 : decode cX15_claims 137 = .ok (.iload 6, 2) := by decide +kernel
theorem dX15_claims_139 : decode cX15_claims 139 = .ok (.aload_n 3, 1) := by decide +kernel
theorem dX15_claims_140 : decode cX15_claims 140 = .ok (.arraylength, 1) := by decide +kernel
theorem dX15_claims_141 : decode cX15_claims 141 = .ok (.if_icmp .ge 54, 3) := by decide +kernel
theorem dX15_claims_195 : decode cX15_claims 195 = .ok (.aload_n 3, 1) := by decide +kernel
theorem dX15_claims_196 : decode cX15_claims 196 = .ok (.areturn, 1) := by decide +kernel
theorem dX15_least_0 : decode cX15_least 0 = .ok (.iload_n 2, 1) := by decide +kernel
theorem dX15_least_1 : decode cX15_least 1 = .ok (.istore 4, 2) := by decide +kernel
theorem dX15_least_3 : decode cX15_least 3 = .ok (.iconst 0, 1) := by decide +kernel
theorem dX15_least_4 : decode cX15_least 4 = .ok (.istore 5, 2) := by decide +kernel
theorem dX15_least_6 : decode cX15_least 6 = .ok (.iconst 0, 1) := by decide +kernel
theorem dX15_least_7 : decode cX15_least 7 = .ok (.istore 6, 2) := by decide +kernel
theorem dX15_least_9 : decode cX15_least 9 = .ok (.iload 6, 2) := by decide +kernel
theorem dX15_least_11 : decode cX15_least 11 = .ok (.aload_n 1, 1) := by decide +kernel
theorem dX15_least_12 : decode cX15_least 12 = .ok (.arraylength, 1) := by decide +kernel
theorem dX15_least_13 : decode cX15_least 13 = .ok (.if_icmp .ge 63, 3) := by decide +kernel
theorem dX15_least_76 : decode cX15_least 76 = .ok (.iload_n 2, 1) := by decide +kernel
theorem dX15_least_77 : decode cX15_least 77 = .ok (.iload 5, 2) := by decide +kernel
theorem dX15_least_79 : decode cX15_least 79 = .ok (.if_icmp .le 7, 3) := by decide +kernel
theorem dX15_least_82 : decode cX15_least 82 = .ok (.iconst (-1), 1) := by decide +kernel
theorem dX15_least_83 : decode cX15_least 83 = .ok (.goto 5, 3) := by decide +kernel
theorem dX15_least_88 : decode cX15_least 88 = .ok (.ireturn, 1) := by decide +kernel
theorem dX15_dealt_0 : decode cX15_dealt 0 = .ok (.new 16, 3) := by decide +kernel
theorem dX15_dealt_3 : decode cX15_dealt 3 = .ok (.dup, 1) := by decide +kernel
theorem dX15_dealt_4 : decode cX15_dealt 4 = .ok (.invokespecial 18, 3) := by decide +kernel
theorem dX15_dealt_7 : decode cX15_dealt 7 = .ok (.astore 5, 2) := by decide +kernel
theorem dX15_dealt_9 : decode cX15_dealt 9 = .ok (.aload_n 1, 1) := by decide +kernel
theorem dX15_dealt_10 : decode cX15_dealt 10 = .ok (.arraylength, 1) := by decide +kernel
theorem dX15_dealt_11 : decode cX15_dealt 11 = .ok (.istore 6, 2) := by decide +kernel
theorem dX15_dealt_13 : decode cX15_dealt 13 = .ok (.iload 6, 2) := by decide +kernel
theorem dX15_dealt_15 : decode cX15_dealt 15 = .ok (.newarray .int, 2) := by decide +kernel
theorem dX15_dealt_17 : decode cX15_dealt 17 = .ok (.astore 7, 2) := by decide +kernel
theorem dX15_dealt_19 : decode cX15_dealt 19 = .ok (.iload 6, 2) := by decide +kernel
theorem dX15_dealt_21 : decode cX15_dealt 21 = .ok (.newarray .long, 2) := by decide +kernel
theorem dX15_dealt_23 : decode cX15_dealt 23 = .ok (.astore 8, 2) := by decide +kernel
theorem dX15_dealt_25 : decode cX15_dealt 25 = .ok (.iload_n 2, 1) := by decide +kernel
theorem dX15_dealt_26 : decode cX15_dealt 26 = .ok (.iconst 3, 1) := by decide +kernel
theorem dX15_dealt_27 : decode cX15_dealt 27 = .ok (.if_icmp .ge 14, 3) := by decide +kernel
theorem dX15_dealt_30 : decode cX15_dealt 30 = .ok (.aload_n 0, 1) := by decide +kernel
theorem dX15_dealt_31 : decode cX15_dealt 31 = .ok (.aload_n 1, 1) := by decide +kernel
theorem dX15_dealt_32 : decode cX15_dealt 32 = .ok (.iload_n 3, 1) := by decide +kernel
theorem dX15_dealt_33 : decode cX15_dealt 33 = .ok (.aload 7, 2) := by decide +kernel
theorem dX15_dealt_35 : decode cX15_dealt 35 = .ok (.invokevirtual 421, 3) := by decide +kernel
theorem dX15_dealt_38 : decode cX15_dealt 38 = .ok (.goto 13, 3) := by decide +kernel
theorem dX15_dealt_51 : decode cX15_dealt 51 = .ok (.istore 9, 2) := by decide +kernel
theorem dX15_dealt_53 : decode cX15_dealt 53 = .ok (.iload 9, 2) := by decide +kernel
theorem dX15_dealt_55 : decode cX15_dealt 55 = .ok (.ifCond .ge 6, 3) := by decide +kernel
theorem dX15_dealt_58 : decode cX15_dealt 58 = .ok (.aload 5, 2) := by decide +kernel
theorem dX15_dealt_60 : decode cX15_dealt 60 = .ok (.areturn, 1) := by decide +kernel
theorem dX15_first_0 : decode cX15_first 0 = .ok (.aload_n 0, 1) := by decide +kernel
theorem dX15_first_1 : decode cX15_first 1 = .ok (.aload_n 1, 1) := by decide +kernel
theorem dX15_first_2 : decode cX15_first 2 = .ok (.iload_n 2, 1) := by decide +kernel
theorem dX15_first_3 : decode cX15_first 3 = .ok (.iload_n 3, 1) := by decide +kernel
theorem dX15_first_4 : decode cX15_first 4 = .ok (.iconst 1, 1) := by decide +kernel
theorem dX15_first_5 : decode cX15_first 5 = .ok (.invokevirtual 448, 3) := by decide +kernel
theorem dX15_first_8 : decode cX15_first 8 = .ok (.astore 4, 2) := by decide +kernel
theorem dX15_first_10 : decode cX15_first 10 = .ok (.aload 4, 2) := by decide +kernel
theorem dX15_first_12 : decode cX15_first 12 = .ok (.invokevirtual 165, 3) := by decide +kernel
theorem dX15_first_15 : decode cX15_first 15 = .ok (.ifCond .eq 7, 3) := by decide +kernel
theorem dX15_first_18 : decode cX15_first 18 = .ok (.aconst_null, 1) := by decide +kernel
theorem dX15_first_19 : decode cX15_first 19 = .ok (.goto 12, 3) := by decide +kernel
theorem dX15_first_31 : decode cX15_first 31 = .ok (.areturn, 1) := by decide +kernel
theorem dX15_tiers_0 : decode cX15_tiers 0 = .ok (.aload_n 0, 1) := by decide +kernel
theorem dX15_tiers_1 : decode cX15_tiers 1 = .ok (.iload_n 1, 1) := by decide +kernel
theorem dX15_tiers_2 : decode cX15_tiers 2 = .ok (.i2l, 1) := by decide +kernel
theorem dX15_tiers_3 : decode cX15_tiers 3 = .ok (.lconst 0, 1) := by decide +kernel
theorem dX15_tiers_4 : decode cX15_tiers 4 = .ok (.ldc2_w 456, 3) := by decide +kernel
theorem dX15_tiers_7 : decode cX15_tiers 7 = .ok (.invokestatic 176, 3) := by decide +kernel
theorem dX15_tiers_10 : decode cX15_tiers 10 = .ok (.ifCond .eq 31, 3) := by decide +kernel
theorem dX15_tiers_13 : decode cX15_tiers 13 = .ok (.iload_n 2, 1) := by decide +kernel
theorem dX15_tiers_14 : decode cX15_tiers 14 = .ok (.i2l, 1) := by decide +kernel
theorem dX15_tiers_15 : decode cX15_tiers 15 = .ok (.lconst 0, 1) := by decide +kernel
theorem dX15_tiers_16 : decode cX15_tiers 16 = .ok (.ldc2_w 456, 3) := by decide +kernel
theorem dX15_tiers_19 : decode cX15_tiers 19 = .ok (.invokestatic 176, 3) := by decide +kernel
theorem dX15_tiers_22 : decode cX15_tiers 22 = .ok (.ifCond .eq 19, 3) := by decide +kernel
theorem dX15_tiers_25 : decode cX15_tiers 25 = .ok (.iload_n 3, 1) := by decide +kernel
theorem dX15_tiers_26 : decode cX15_tiers 26 = .ok (.i2l, 1) := by decide +kernel
theorem dX15_tiers_27 : decode cX15_tiers 27 = .ok (.lconst 1, 1) := by decide +kernel
theorem dX15_tiers_28 : decode cX15_tiers 28 = .ok (.ldc2_w 256, 3) := by decide +kernel
theorem dX15_tiers_31 : decode cX15_tiers 31 = .ok (.invokestatic 176, 3) := by decide +kernel
theorem dX15_tiers_34 : decode cX15_tiers 34 = .ok (.ifCond .eq 7, 3) := by decide +kernel
theorem dX15_tiers_37 : decode cX15_tiers 37 = .ok (.iconst 1, 1) := by decide +kernel
theorem dX15_tiers_38 : decode cX15_tiers 38 = .ok (.goto 4, 3) := by decide +kernel
theorem dX15_tiers_42 : decode cX15_tiers 42 = .ok (.iload 4, 2) := by decide +kernel
theorem dX15_tiers_44 : decode cX15_tiers 44 = .ok (.ifCond .eq 20, 3) := by decide +kernel
theorem dX15_tiers_64 : decode cX15_tiers 64 = .ok (.iconst 1, 1) := by decide +kernel
theorem dX15_tiers_65 : decode cX15_tiers 65 = .ok (.goto 4, 3) := by decide +kernel
theorem dX15_tiers_69 : decode cX15_tiers 69 = .ok (.invokevirtual 243, 3) := by decide +kernel
theorem dX15_tiers_72 : decode cX15_tiers 72 = .ok (.ifCond .ne 5, 3) := by decide +kernel
theorem dX15_tiers_77 : decode cX15_tiers 77 = .ok (.aload_n 0, 1) := by decide +kernel
theorem dX15_tiers_78 : decode cX15_tiers 78 = .ok (.iconst 0, 1) := by decide +kernel
theorem dX15_tiers_79 : decode cX15_tiers 79 = .ok (.invokevirtual 458, 3) := by decide +kernel
theorem dX15_tiers_82 : decode cX15_tiers 82 = .ok (.bipush 6, 2) := by decide +kernel
theorem dX15_tiers_84 : decode cX15_tiers 84 = .ok (.newarray .int, 2) := by decide +kernel
theorem dX15_tiers_86 : decode cX15_tiers 86 = .ok (.astore 5, 2) := by decide +kernel
theorem dX15_tiers_88 : decode cX15_tiers 88 = .ok (.iconst 0, 1) := by decide +kernel
theorem dX15_tiers_89 : decode cX15_tiers 89 = .ok (.istore 6, 2) := by decide +kernel
theorem dX15_tiers_91 : decode cX15_tiers 91 = .ok (.iload 6, 2) := by decide +kernel
theorem dX15_tiers_93 : decode cX15_tiers 93 = .ok (.aload_n 0, 1) := by decide +kernel
theorem dX15_tiers_94 : decode cX15_tiers 94 = .ok (.getfield 10, 3) := by decide +kernel
theorem dX15_tiers_97 : decode cX15_tiers 97 = .ok (.getfield 180, 3) := by decide +kernel
theorem dX15_tiers_100 : decode cX15_tiers 100 = .ok (.if_icmp .ge 95, 3) := by decide +kernel
theorem dX15_tiers_195 : decode cX15_tiers 195 = .ok (.iload 4, 2) := by decide +kernel
theorem dX15_tiers_197 : decode cX15_tiers 197 = .ok (.iconst 1, 1) := by decide +kernel
theorem dX15_tiers_198 : decode cX15_tiers 198 = .ok (.if_icmp .le 11, 3) := by decide +kernel
theorem dX15_tiers_209 : decode cX15_tiers 209 = .ok (.aload_n 0, 1) := by decide +kernel
theorem dX15_tiers_210 : decode cX15_tiers 210 = .ok (.iconst 0, 1) := by decide +kernel
theorem dX15_tiers_211 : decode cX15_tiers 211 = .ok (.iconst 0, 1) := by decide +kernel
theorem dX15_tiers_212 : decode cX15_tiers 212 = .ok (.invokevirtual 461, 3) := by decide +kernel
theorem dX15_tiers_215 : decode cX15_tiers 215 = .ok (.astore 6, 2) := by decide +kernel
theorem dX15_tiers_217 : decode cX15_tiers 217 = .ok (.iload 4, 2) := by decide +kernel
theorem dX15_tiers_219 : decode cX15_tiers 219 = .ok (.iconst 1, 1) := by decide +kernel
theorem dX15_tiers_220 : decode cX15_tiers 220 = .ok (.if_icmp .ne 74, 3) := by decide +kernel
theorem dX15_tiers_294 : decode cX15_tiers 294 = .ok (.iload_n 3, 1) := by decide +kernel
theorem dX15_tiers_295 : decode cX15_tiers 295 = .ok (.istore 7, 2) := by decide +kernel
theorem dX15_tiers_297 : decode cX15_tiers 297 = .ok (.iload 7, 2) := by decide +kernel
theorem dX15_tiers_299 : decode cX15_tiers 299 = .ok (.sipush 400, 3) := by decide +kernel
theorem dX15_tiers_302 : decode cX15_tiers 302 = .ok (.if_icmp .gt 86, 3) := by decide +kernel
theorem dX15_tiers_305 : decode cX15_tiers 305 = .ok (.aload_n 0, 1) := by decide +kernel
theorem dX15_tiers_306 : decode cX15_tiers 306 = .ok (.aload 6, 2) := by decide +kernel
theorem dX15_tiers_308 : decode cX15_tiers 308 = .ok (.iload_n 2, 1) := by decide +kernel
theorem dX15_tiers_309 : decode cX15_tiers 309 = .ok (.iload 7, 2) := by decide +kernel
theorem dX15_tiers_311 : decode cX15_tiers 311 = .ok (.invokevirtual 475, 3) := by decide +kernel
theorem dX15_tiers_314 : decode cX15_tiers 314 = .ok (.astore 8, 2) := by decide +kernel
theorem dX15_tiers_316 : decode cX15_tiers 316 = .ok (.aload 8, 2) := by decide +kernel
theorem dX15_tiers_318 : decode cX15_tiers 318 = .ok (.ifnull 7, 3) := by decide +kernel
theorem dX15_tiers_325 : decode cX15_tiers 325 = .ok (.iconst 0, 1) := by decide +kernel
theorem dX15_tiers_326 : decode cX15_tiers 326 = .ok (.istore 9, 2) := by decide +kernel
theorem dX15_tiers_328 : decode cX15_tiers 328 = .ok (.iconst 0, 1) := by decide +kernel
theorem dX15_tiers_329 : decode cX15_tiers 329 = .ok (.istore 10, 2) := by decide +kernel
theorem dX15_tiers_331 : decode cX15_tiers 331 = .ok (.iload 9, 2) := by decide +kernel
theorem dX15_tiers_333 : decode cX15_tiers 333 = .ok (.ifCond .eq 41, 3) := by decide +kernel
theorem dX15_tiers_374 : decode cX15_tiers 374 = .ok (.iload 9, 2) := by decide +kernel
theorem dX15_tiers_376 : decode cX15_tiers 376 = .ok (.ifCond .eq 6, 3) := by decide +kernel
theorem dX15_tiers_382 : decode cX15_tiers 382 = .ok (.iinc 7 1, 3) := by decide +kernel
theorem dX15_tiers_385 : decode cX15_tiers 385 = .ok (.goto (-88), 3) := by decide +kernel
theorem dX15_tiers_388 : decode cX15_tiers 388 = .ok (.iconst (-1), 1) := by decide +kernel
theorem dX15_tiers_389 : decode cX15_tiers 389 = .ok (.ireturn, 1) := by decide +kernel
theorem dL_tiers_0 : decode cL_tiers 0 = .ok (.aload 5, 2) := by decide +kernel
theorem dL_tiers_2 : decode cL_tiers 2 = .ok (.iconst 0, 1) := by decide +kernel
theorem dL_tiers_3 : decode cL_tiers 3 = .ok (.aload_n 0, 1) := by decide +kernel
theorem dL_tiers_4 : decode cL_tiers 4 = .ok (.iload_n 1, 1) := by decide +kernel
theorem dL_tiers_5 : decode cL_tiers 5 = .ok (.iload_n 2, 1) := by decide +kernel
theorem dL_tiers_6 : decode cL_tiers 6 = .ok (.iload_n 3, 1) := by decide +kernel
theorem dL_tiers_7 : decode cL_tiers 7 = .ok (.iload 4, 2) := by decide +kernel
theorem dL_tiers_9 : decode cL_tiers 9 = .ok (.invokevirtual 80, 3) := by decide +kernel
theorem dL_tiers_12 : decode cL_tiers 12 = .ok (.i2l, 1) := by decide +kernel
theorem dL_tiers_13 : decode cL_tiers 13 = .ok (.lastore, 1) := by decide +kernel
theorem dL_tiers_14 : decode cL_tiers 14 = .ok (.goto 11, 3) := by decide +kernel
theorem dL_tiers_25 : decode cL_tiers 25 = .ok (.iconst 0, 1) := by decide +kernel
theorem dL_tiers_26 : decode cL_tiers 26 = .ok (.ireturn, 1) := by decide +kernel
theorem dL_law_0 : decode cL_law 0 = .ok (.new 8, 3) := by decide +kernel
theorem dL_law_3 : decode cL_law 3 = .ok (.dup, 1) := by decide +kernel
theorem dL_law_4 : decode cL_law 4 = .ok (.invokespecial 173, 3) := by decide +kernel
theorem dL_law_7 : decode cL_law 7 = .ok (.astore_n 1, 1) := by decide +kernel
theorem dL_law_8 : decode cL_law 8 = .ok (.new 174, 3) := by decide +kernel
theorem dL_law_11 : decode cL_law 11 = .ok (.dup, 1) := by decide +kernel
theorem dL_law_12 : decode cL_law 12 = .ok (.invokespecial 176, 3) := by decide +kernel
theorem dL_law_15 : decode cL_law 15 = .ok (.astore_n 2, 1) := by decide +kernel
theorem dL_law_16 : decode cL_law 16 = .ok (.iconst 1, 1) := by decide +kernel
theorem dL_law_17 : decode cL_law 17 = .ok (.newarray .long, 2) := by decide +kernel
theorem dL_law_19 : decode cL_law 19 = .ok (.astore_n 3, 1) := by decide +kernel
theorem dL_law_20 : decode cL_law 20 = .ok (.iconst 0, 1) := by decide +kernel
theorem dL_law_21 : decode cL_law 21 = .ok (.istore 4, 2) := by decide +kernel
theorem dL_law_23 : decode cL_law 23 = .ok (.iload 4, 2) := by decide +kernel
theorem dL_law_25 : decode cL_law 25 = .ok (.aload_n 0, 1) := by decide +kernel
theorem dL_law_26 : decode cL_law 26 = .ok (.arraylength, 1) := by decide +kernel
theorem dL_law_27 : decode cL_law 27 = .ok (.bipush 13, 2) := by decide +kernel
theorem dL_law_29 : decode cL_law 29 = .ok (.isub, 1) := by decide +kernel
theorem dL_law_30 : decode cL_law 30 = .ok (.if_icmp .gt 2530, 3) := by decide +kernel
theorem dL_law_33 : decode cL_law 33 = .ok (.aload_n 0, 1) := by decide +kernel
theorem dL_law_34 : decode cL_law 34 = .ok (.iload 4, 2) := by decide +kernel
theorem dL_law_36 : decode cL_law 36 = .ok (.iaload, 1) := by decide +kernel
theorem dL_law_37 : decode cL_law 37 = .ok (.bipush 63, 2) := by decide +kernel
theorem dL_law_39 : decode cL_law 39 = .ok (.iand, 1) := by decide +kernel
theorem dL_law_40 : decode cL_law 40 = .ok (.tableswitch 2514 0 51 #[224, 240, 256, 308, 348, 425, 493, 530, 567, 861, 874, 887, 900, 916, 980, 1020, 1084, 1160, 1176, 1228, 1296, 1324, 1388, 1416, 1456, 1508, 1536, 1576, 1628, 1680, 1720, 1760, 1800, 1868, 1920, 1972, 2012, 2040, 2068, 2096, 2152, 2180, 2193, 2233, 2261, 2317, 2345, 2401, 2429, 2457, 2473, 2501], 224) := by decide +kernel
theorem dL_law_1364 : decode cL_law 1364 = .ok (.aload_n 1, 1) := by decide +kernel
theorem dL_law_1365 : decode cL_law 1365 = .ok (.aload_n 0, 1) := by decide +kernel
theorem dL_law_1366 : decode cL_law 1366 = .ok (.iload 4, 2) := by decide +kernel
theorem dL_law_1368 : decode cL_law 1368 = .ok (.iconst 1, 1) := by decide +kernel
theorem dL_law_1369 : decode cL_law 1369 = .ok (.iadd, 1) := by decide +kernel
theorem dL_law_1370 : decode cL_law 1370 = .ok (.iaload, 1) := by decide +kernel
theorem dL_law_1371 : decode cL_law 1371 = .ok (.aload_n 0, 1) := by decide +kernel
theorem dL_law_1372 : decode cL_law 1372 = .ok (.iload 4, 2) := by decide +kernel
theorem dL_law_1374 : decode cL_law 1374 = .ok (.iconst 2, 1) := by decide +kernel
theorem dL_law_1375 : decode cL_law 1375 = .ok (.iadd, 1) := by decide +kernel
theorem dL_law_1376 : decode cL_law 1376 = .ok (.iaload, 1) := by decide +kernel
theorem dL_law_1377 : decode cL_law 1377 = .ok (.aload_n 0, 1) := by decide +kernel
theorem dL_law_1378 : decode cL_law 1378 = .ok (.iload 4, 2) := by decide +kernel
theorem dL_law_1380 : decode cL_law 1380 = .ok (.iconst 3, 1) := by decide +kernel
theorem dL_law_1381 : decode cL_law 1381 = .ok (.iadd, 1) := by decide +kernel
theorem dL_law_1382 : decode cL_law 1382 = .ok (.iaload, 1) := by decide +kernel
theorem dL_law_1383 : decode cL_law 1383 = .ok (.aload_n 0, 1) := by decide +kernel
theorem dL_law_1384 : decode cL_law 1384 = .ok (.iload 4, 2) := by decide +kernel
theorem dL_law_1386 : decode cL_law 1386 = .ok (.iconst 4, 1) := by decide +kernel
theorem dL_law_1387 : decode cL_law 1387 = .ok (.iadd, 1) := by decide +kernel
theorem dL_law_1388 : decode cL_law 1388 = .ok (.iaload, 1) := by decide +kernel
theorem dL_law_1389 : decode cL_law 1389 = .ok (.aload_n 3, 1) := by decide +kernel
theorem dL_law_1390 : decode cL_law 1390 = .ok (.invokestatic 258, 3) := by decide +kernel
theorem dL_law_1393 : decode cL_law 1393 = .ok (.istore 5, 2) := by decide +kernel
theorem dL_law_1395 : decode cL_law 1395 = .ok (.aload_n 2, 1) := by decide +kernel
theorem dL_law_1396 : decode cL_law 1396 = .ok (.aload_n 0, 1) := by decide +kernel
theorem dL_law_1397 : decode cL_law 1397 = .ok (.iload 4, 2) := by decide +kernel
theorem dL_law_1399 : decode cL_law 1399 = .ok (.iconst 1, 1) := by decide +kernel
theorem dL_law_1400 : decode cL_law 1400 = .ok (.iadd, 1) := by decide +kernel
theorem dL_law_1401 : decode cL_law 1401 = .ok (.iaload, 1) := by decide +kernel
theorem dL_law_1402 : decode cL_law 1402 = .ok (.aload_n 0, 1) := by decide +kernel
theorem dL_law_1403 : decode cL_law 1403 = .ok (.iload 4, 2) := by decide +kernel
theorem dL_law_1405 : decode cL_law 1405 = .ok (.iconst 2, 1) := by decide +kernel
theorem dL_law_1406 : decode cL_law 1406 = .ok (.iadd, 1) := by decide +kernel
theorem dL_law_1407 : decode cL_law 1407 = .ok (.iaload, 1) := by decide +kernel
theorem dL_law_1408 : decode cL_law 1408 = .ok (.aload_n 0, 1) := by decide +kernel
theorem dL_law_1409 : decode cL_law 1409 = .ok (.iload 4, 2) := by decide +kernel
theorem dL_law_1411 : decode cL_law 1411 = .ok (.iconst 3, 1) := by decide +kernel
theorem dL_law_1412 : decode cL_law 1412 = .ok (.iadd, 1) := by decide +kernel
theorem dL_law_1413 : decode cL_law 1413 = .ok (.iaload, 1) := by decide +kernel
theorem dL_law_1414 : decode cL_law 1414 = .ok (.aload_n 0, 1) := by decide +kernel
theorem dL_law_1415 : decode cL_law 1415 = .ok (.iload 4, 2) := by decide +kernel
theorem dL_law_1417 : decode cL_law 1417 = .ok (.iconst 4, 1) := by decide +kernel
theorem dL_law_1418 : decode cL_law 1418 = .ok (.iadd, 1) := by decide +kernel
theorem dL_law_1419 : decode cL_law 1419 = .ok (.iaload, 1) := by decide +kernel
theorem dL_law_1420 : decode cL_law 1420 = .ok (.invokevirtual 260, 3) := by decide +kernel
theorem dL_law_1423 : decode cL_law 1423 = .ok (.istore 6, 2) := by decide +kernel
theorem dL_law_1425 : decode cL_law 1425 = .ok (.goto 1129, 3) := by decide +kernel
theorem dL_law_2554 : decode cL_law 2554 = .ok (.iinc 4 13, 3) := by decide +kernel
theorem dL_law_2557 : decode cL_law 2557 = .ok (.goto (-2534), 3) := by decide +kernel
theorem dL_law_2560 : decode cL_law 2560 = .ok (.iconst 1, 1) := by decide +kernel
theorem dL_law_2561 : decode cL_law 2561 = .ok (.ireturn, 1) := by decide +kernel

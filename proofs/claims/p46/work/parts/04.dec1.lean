theorem dX6_init_31 : decode cX6_init 31 = .ok (.newarray .int, 2) := by decide +kernel
theorem dX6_init_33 : decode cX6_init 33 = .ok (.putfield 22, 3) := by decide +kernel
theorem dX6_init_36 : decode cX6_init 36 = .ok (.return_, 1) := by decide +kernel
theorem dX7_init_0 : decode cX7_init 0 = .ok (.aload_n 0, 1) := by decide +kernel
theorem dX7_init_1 : decode cX7_init 1 = .ok (.invokespecial 3, 3) := by decide +kernel
theorem dX7_init_4 : decode cX7_init 4 = .ok (.aload_n 0, 1) := by decide +kernel
theorem dX7_init_5 : decode cX7_init 5 = .ok (.bipush 126, 2) := by decide +kernel
theorem dX7_init_7 : decode cX7_init 7 = .ok (.newarray .int, 2) := by decide +kernel
theorem dX7_init_9 : decode cX7_init 9 = .ok (.putfield 11, 3) := by decide +kernel
theorem dX7_init_12 : decode cX7_init 12 = .ok (.aload_n 0, 1) := by decide +kernel
theorem dX7_init_13 : decode cX7_init 13 = .ok (.sipush 1270, 3) := by decide +kernel
theorem dX7_init_16 : decode cX7_init 16 = .ok (.newarray .long, 2) := by decide +kernel
theorem dX7_init_18 : decode cX7_init 18 = .ok (.putfield 15, 3) := by decide +kernel
theorem dX7_init_21 : decode cX7_init 21 = .ok (.aload_n 0, 1) := by decide +kernel
theorem dX7_init_22 : decode cX7_init 22 = .ok (.bipush 126, 2) := by decide +kernel
theorem dX7_init_24 : decode cX7_init 24 = .ok (.newarray .int, 2) := by decide +kernel
theorem dX7_init_26 : decode cX7_init 26 = .ok (.putfield 19, 3) := by decide +kernel
theorem dX7_init_29 : decode cX7_init 29 = .ok (.aload_n 0, 1) := by decide +kernel
theorem dX7_init_30 : decode cX7_init 30 = .ok (.bipush 9, 2) := by decide +kernel
theorem dX7_init_32 : decode cX7_init 32 = .ok (.newarray .int, 2) := by decide +kernel
theorem dX7_init_34 : decode cX7_init 34 = .ok (.putfield 22, 3) := by decide +kernel
theorem dX7_init_37 : decode cX7_init 37 = .ok (.return_, 1) := by decide +kernel
theorem dX10_init_0 : decode cX10_init 0 = .ok (.aload_n 0, 1) := by decide +kernel
theorem dX10_init_1 : decode cX10_init 1 = .ok (.invokespecial 3, 3) := by decide +kernel
theorem dX10_init_4 : decode cX10_init 4 = .ok (.aload_n 0, 1) := by decide +kernel
theorem dX10_init_5 : decode cX10_init 5 = .ok (.bipush 6, 2) := by decide +kernel
theorem dX10_init_7 : decode cX10_init 7 = .ok (.newarray .int, 2) := by decide +kernel
theorem dX10_init_9 : decode cX10_init 9 = .ok (.putfield 9, 3) := by decide +kernel
theorem dX10_init_12 : decode cX10_init 12 = .ok (.aload_n 0, 1) := by decide +kernel
theorem dX10_init_13 : decode cX10_init 13 = .ok (.bipush 64, 2) := by decide +kernel
theorem dX10_init_15 : decode cX10_init 15 = .ok (.newarray .boolean, 2) := by decide +kernel
theorem dX10_init_17 : decode cX10_init 17 = .ok (.putfield 15, 3) := by decide +kernel
theorem dX10_init_20 : decode cX10_init 20 = .ok (.aload_n 0, 1) := by decide +kernel
theorem dX10_init_21 : decode cX10_init 21 = .ok (.bipush 6, 2) := by decide +kernel
theorem dX10_init_23 : decode cX10_init 23 = .ok (.newarray .int, 2) := by decide +kernel
theorem dX10_init_25 : decode cX10_init 25 = .ok (.putfield 19, 3) := by decide +kernel
theorem dX10_init_28 : decode cX10_init 28 = .ok (.aload_n 0, 1) := by decide +kernel
theorem dX10_init_29 : decode cX10_init 29 = .ok (.bipush 6, 2) := by decide +kernel
theorem dX10_init_31 : decode cX10_init 31 = .ok (.newarray .int, 2) := by decide +kernel
theorem dX10_init_33 : decode cX10_init 33 = .ok (.putfield 22, 3) := by decide +kernel
theorem dX10_init_36 : decode cX10_init 36 = .ok (.aload_n 0, 1) := by decide +kernel
theorem dX10_init_37 : decode cX10_init 37 = .ok (.bipush 6, 2) := by decide +kernel
theorem dX10_init_39 : decode cX10_init 39 = .ok (.newarray .int, 2) := by decide +kernel
theorem dX10_init_41 : decode cX10_init 41 = .ok (.putfield 25, 3) := by decide +kernel
theorem dX10_init_44 : decode cX10_init 44 = .ok (.return_, 1) := by decide +kernel
theorem dX11_init_0 : decode cX11_init 0 = .ok (.aload_n 0, 1) := by decide +kernel
theorem dX11_init_1 : decode cX11_init 1 = .ok (.invokespecial 3, 3) := by decide +kernel
theorem dX11_init_4 : decode cX11_init 4 = .ok (.aload_n 0, 1) := by decide +kernel
theorem dX11_init_5 : decode cX11_init 5 = .ok (.new 9, 3) := by decide +kernel
theorem dX11_init_8 : decode cX11_init 8 = .ok (.dup, 1) := by decide +kernel
theorem dX11_init_9 : decode cX11_init 9 = .ok (.invokespecial 11, 3) := by decide +kernel
theorem dX11_init_12 : decode cX11_init 12 = .ok (.putfield 12, 3) := by decide +kernel
theorem dX11_init_15 : decode cX11_init 15 = .ok (.aload_n 0, 1) := by decide +kernel
theorem dX11_init_16 : decode cX11_init 16 = .ok (.bipush 12, 2) := by decide +kernel
theorem dX11_init_18 : decode cX11_init 18 = .ok (.anewarray 9, 3) := by decide +kernel
theorem dX11_init_21 : decode cX11_init 21 = .ok (.putfield 16, 3) := by decide +kernel
theorem dX11_init_24 : decode cX11_init 24 = .ok (.aload_n 0, 1) := by decide +kernel
theorem dX11_init_25 : decode cX11_init 25 = .ok (.new 20, 3) := by decide +kernel
theorem dX11_init_28 : decode cX11_init 28 = .ok (.dup, 1) := by decide +kernel
theorem dX11_init_29 : decode cX11_init 29 = .ok (.invokespecial 22, 3) := by decide +kernel
theorem dX11_init_32 : decode cX11_init 32 = .ok (.putfield 23, 3) := by decide +kernel
theorem dX11_init_35 : decode cX11_init 35 = .ok (.aload_n 0, 1) := by decide +kernel
theorem dX11_init_36 : decode cX11_init 36 = .ok (.new 27, 3) := by decide +kernel
theorem dX11_init_39 : decode cX11_init 39 = .ok (.dup, 1) := by decide +kernel
theorem dX11_init_40 : decode cX11_init 40 = .ok (.invokespecial 29, 3) := by decide +kernel
theorem dX11_init_43 : decode cX11_init 43 = .ok (.putfield 30, 3) := by decide +kernel
theorem dX11_init_46 : decode cX11_init 46 = .ok (.aload_n 0, 1) := by decide +kernel
theorem dX11_init_47 : decode cX11_init 47 = .ok (.sipush 6000, 3) := by decide +kernel
theorem dX11_init_50 : decode cX11_init 50 = .ok (.newarray .byte, 2) := by decide +kernel
theorem dX11_init_52 : decode cX11_init 52 = .ok (.putfield 34, 3) := by decide +kernel
theorem dX11_init_55 : decode cX11_init 55 = .ok (.aload_n 0, 1) := by decide +kernel
theorem dX11_init_56 : decode cX11_init 56 = .ok (.new 38, 3) := by decide +kernel
theorem dX11_init_59 : decode cX11_init 59 = .ok (.dup, 1) := by decide +kernel
theorem dX11_init_60 : decode cX11_init 60 = .ok (.invokespecial 40, 3) := by decide +kernel
theorem dX11_init_63 : decode cX11_init 63 = .ok (.putfield 41, 3) := by decide +kernel
theorem dX11_init_66 : decode cX11_init 66 = .ok (.aload_n 0, 1) := by decide +kernel
theorem dX11_init_67 : decode cX11_init 67 = .ok (.new 45, 3) := by decide +kernel
theorem dX11_init_70 : decode cX11_init 70 = .ok (.dup, 1) := by decide +kernel
theorem dX11_init_71 : decode cX11_init 71 = .ok (.invokespecial 47, 3) := by decide +kernel
theorem dX11_init_74 : decode cX11_init 74 = .ok (.putfield 48, 3) := by decide +kernel
theorem dX11_init_77 : decode cX11_init 77 = .ok (.aload_n 0, 1) := by decide +kernel
theorem dX11_init_78 : decode cX11_init 78 = .ok (.new 52, 3) := by decide +kernel
theorem dX11_init_81 : decode cX11_init 81 = .ok (.dup, 1) := by decide +kernel
theorem dX11_init_82 : decode cX11_init 82 = .ok (.invokespecial 54, 3) := by decide +kernel
theorem dX11_init_85 : decode cX11_init 85 = .ok (.putfield 55, 3) := by decide +kernel
theorem dX11_init_88 : decode cX11_init 88 = .ok (.aload_n 0, 1) := by decide +kernel
theorem dX11_init_89 : decode cX11_init 89 = .ok (.new 59, 3) := by decide +kernel
theorem dX11_init_92 : decode cX11_init 92 = .ok (.dup, 1) := by decide +kernel
theorem dX11_init_93 : decode cX11_init 93 = .ok (.invokespecial 61, 3) := by decide +kernel
theorem dX11_init_96 : decode cX11_init 96 = .ok (.putfield 62, 3) := by decide +kernel
theorem dX11_init_99 : decode cX11_init 99 = .ok (.aload_n 0, 1) := by decide +kernel
theorem dX11_init_100 : decode cX11_init 100 = .ok (.new 66, 3) := by decide +kernel
theorem dX11_init_103 : decode cX11_init 103 = .ok (.dup, 1) := by decide +kernel
theorem dX11_init_104 : decode cX11_init 104 = .ok (.invokespecial 68, 3) := by decide +kernel
theorem dX11_init_107 : decode cX11_init 107 = .ok (.putfield 69, 3) := by decide +kernel
theorem dX11_init_110 : decode cX11_init 110 = .ok (.aload_n 0, 1) := by decide +kernel
theorem dX11_init_111 : decode cX11_init 111 = .ok (.new 73, 3) := by decide +kernel
theorem dX11_init_114 : decode cX11_init 114 = .ok (.dup, 1) := by decide +kernel
theorem dX11_init_115 : decode cX11_init 115 = .ok (.invokespecial 75, 3) := by decide +kernel
theorem dX11_init_118 : decode cX11_init 118 = .ok (.putfield 76, 3) := by decide +kernel
theorem dX11_init_121 : decode cX11_init 121 = .ok (.iconst 0, 1) := by decide +kernel
theorem dX11_init_122 : decode cX11_init 122 = .ok (.istore_n 1, 1) := by decide +kernel
theorem dX11_init_123 : decode cX11_init 123 = .ok (.iload_n 1, 1) := by decide +kernel
theorem dX11_init_124 : decode cX11_init 124 = .ok (.bipush 12, 2) := by decide +kernel
theorem dX11_init_126 : decode cX11_init 126 = .ok (.if_icmp .ge 22, 3) := by decide +kernel
theorem dX11_init_129 : decode cX11_init 129 = .ok (.aload_n 0, 1) := by decide +kernel
theorem dX11_init_130 : decode cX11_init 130 = .ok (.getfield 16, 3) := by decide +kernel
theorem dX11_init_133 : decode cX11_init 133 = .ok (.iload_n 1, 1) := by decide +kernel
theorem dX11_init_134 : decode cX11_init 134 = .ok (.new 9, 3) := by decide +kernel
theorem dX11_init_137 : decode cX11_init 137 = .ok (.dup, 1) := by decide +kernel
theorem dX11_init_138 : decode cX11_init 138 = .ok (.invokespecial 11, 3) := by decide +kernel
theorem dX11_init_141 : decode cX11_init 141 = .ok (.aastore, 1) := by decide +kernel
theorem dX11_init_142 : decode cX11_init 142 = .ok (.iinc 1 1, 3) := by decide +kernel
theorem dX11_init_145 : decode cX11_init 145 = .ok (.goto (-22), 3) := by decide +kernel
theorem dX11_init_148 : decode cX11_init 148 = .ok (.return_, 1) := by decide +kernel
theorem dX14_init_0 : decode cX14_init 0 = .ok (.aload_n 0, 1) := by decide +kernel
theorem dX14_init_1 : decode cX14_init 1 = .ok (.invokespecial 3, 3) := by decide +kernel
theorem dX14_init_4 : decode cX14_init 4 = .ok (.aload_n 0, 1) := by decide +kernel
theorem dX14_init_5 : decode cX14_init 5 = .ok (.bipush 30, 2) := by decide +kernel
theorem dX14_init_7 : decode cX14_init 7 = .ok (.newarray .int, 2) := by decide +kernel
theorem dX14_init_9 : decode cX14_init 9 = .ok (.putfield 9, 3) := by decide +kernel
theorem dX14_init_12 : decode cX14_init 12 = .ok (.aload_n 0, 1) := by decide +kernel
theorem dX14_init_13 : decode cX14_init 13 = .ok (.iconst 5, 1) := by decide +kernel
theorem dX14_init_14 : decode cX14_init 14 = .ok (.newarray .int, 2) := by decide +kernel
theorem dX14_init_16 : decode cX14_init 16 = .ok (.putfield 15, 3) := by decide +kernel
theorem dX14_init_19 : decode cX14_init 19 = .ok (.aload_n 0, 1) := by decide +kernel
theorem dX14_init_20 : decode cX14_init 20 = .ok (.bipush 11, 2) := by decide +kernel
theorem dX14_init_22 : decode cX14_init 22 = .ok (.newarray .int, 2) := by decide +kernel
theorem dX14_init_24 : decode cX14_init 24 = .ok (.putfield 18, 3) := by decide +kernel
theorem dX14_init_27 : decode cX14_init 27 = .ok (.aload_n 0, 1) := by decide +kernel
theorem dX14_init_28 : decode cX14_init 28 = .ok (.bipush 11, 2) := by decide +kernel
theorem dX14_init_30 : decode cX14_init 30 = .ok (.newarray .int, 2) := by decide +kernel
theorem dX14_init_32 : decode cX14_init 32 = .ok (.putfield 21, 3) := by decide +kernel
theorem dX14_init_35 : decode cX14_init 35 = .ok (.aload_n 0, 1) := by decide +kernel
theorem dX14_init_36 : decode cX14_init 36 = .ok (.bipush 11, 2) := by decide +kernel
theorem dX14_init_38 : decode cX14_init 38 = .ok (.newarray .int, 2) := by decide +kernel
theorem dX14_init_40 : decode cX14_init 40 = .ok (.putfield 24, 3) := by decide +kernel
theorem dX14_init_43 : decode cX14_init 43 = .ok (.aload_n 0, 1) := by decide +kernel
theorem dX14_init_44 : decode cX14_init 44 = .ok (.iconst 1, 1) := by decide +kernel
theorem dX14_init_45 : decode cX14_init 45 = .ok (.putfield 27, 3) := by decide +kernel
theorem dX14_init_48 : decode cX14_init 48 = .ok (.aload_n 0, 1) := by decide +kernel
theorem dX14_init_49 : decode cX14_init 49 = .ok (.iconst 1, 1) := by decide +kernel
theorem dX14_init_50 : decode cX14_init 50 = .ok (.putfield 31, 3) := by decide +kernel
theorem dX14_init_53 : decode cX14_init 53 = .ok (.aload_n 0, 1) := by decide +kernel
theorem dX14_init_54 : decode cX14_init 54 = .ok (.iconst 2, 1) := by decide +kernel
theorem dX14_init_55 : decode cX14_init 55 = .ok (.putfield 34, 3) := by decide +kernel
theorem dX14_init_58 : decode cX14_init 58 = .ok (.aload_n 0, 1) := by decide +kernel
theorem dX14_init_59 : decode cX14_init 59 = .ok (.iconst 2, 1) := by decide +kernel
theorem dX14_init_60 : decode cX14_init 60 = .ok (.putfield 37, 3) := by decide +kernel
theorem dX14_init_63 : decode cX14_init 63 = .ok (.aload_n 0, 1) := by decide +kernel
theorem dX14_init_64 : decode cX14_init 64 = .ok (.bipush 20, 2) := by decide +kernel
theorem dX14_init_66 : decode cX14_init 66 = .ok (.newarray .int, 2) := by decide +kernel
theorem dX14_init_68 : decode cX14_init 68 = .ok (.putfield 40, 3) := by decide +kernel
theorem dX14_init_71 : decode cX14_init 71 = .ok (.aload_n 0, 1) := by decide +kernel
theorem dX14_init_72 : decode cX14_init 72 = .ok (.bipush 20, 2) := by decide +kernel
theorem dX14_init_74 : decode cX14_init 74 = .ok (.newarray .int, 2) := by decide +kernel
theorem dX14_init_76 : decode cX14_init 76 = .ok (.putfield 43, 3) := by decide +kernel
theorem dX14_init_79 : decode cX14_init 79 = .ok (.aload_n 0, 1) := by decide +kernel
theorem dX14_init_80 : decode cX14_init 80 = .ok (.bipush 27, 2) := by decide +kernel
theorem dX14_init_82 : decode cX14_init 82 = .ok (.newarray .int, 2) := by decide +kernel
theorem dX14_init_84 : decode cX14_init 84 = .ok (.putfield 46, 3) := by decide +kernel
theorem dX14_init_87 : decode cX14_init 87 = .ok (.aload_n 0, 1) := by decide +kernel
theorem dX14_init_88 : decode cX14_init 88 = .ok (.bipush 9, 2) := by decide +kernel
theorem dX14_init_90 : decode cX14_init 90 = .ok (.newarray .int, 2) := by decide +kernel
theorem dX14_init_92 : decode cX14_init 92 = .ok (.putfield 49, 3) := by decide +kernel
theorem dX14_init_95 : decode cX14_init 95 = .ok (.aload_n 0, 1) := by decide +kernel
theorem dX14_init_96 : decode cX14_init 96 = .ok (.bipush 27, 2) := by decide +kernel
theorem dX14_init_98 : decode cX14_init 98 = .ok (.newarray .int, 2) := by decide +kernel
theorem dX14_init_100 : decode cX14_init 100 = .ok (.putfield 52, 3) := by decide +kernel
theorem dX14_init_103 : decode cX14_init 103 = .ok (.aload_n 0, 1) := by decide +kernel
theorem dX14_init_104 : decode cX14_init 104 = .ok (.bipush 9, 2) := by decide +kernel
theorem dX14_init_106 : decode cX14_init 106 = .ok (.newarray .int, 2) := by decide +kernel
theorem dX14_init_108 : decode cX14_init 108 = .ok (.putfield 55, 3) := by decide +kernel
theorem dX14_init_111 : decode cX14_init 111 = .ok (.aload_n 0, 1) := by decide +kernel
theorem dX14_init_112 : decode cX14_init 112 = .ok (.bipush 6, 2) := by decide +kernel
theorem dX14_init_114 : decode cX14_init 114 = .ok (.newarray .int, 2) := by decide +kernel
theorem dX14_init_116 : decode cX14_init 116 = .ok (.putfield 58, 3) := by decide +kernel
theorem dX14_init_119 : decode cX14_init 119 = .ok (.aload_n 0, 1) := by decide +kernel
theorem dX14_init_120 : decode cX14_init 120 = .ok (.iconst 1, 1) := by decide +kernel
theorem dX14_init_121 : decode cX14_init 121 = .ok (.putfield 61, 3) := by decide +kernel
theorem dX14_init_124 : decode cX14_init 124 = .ok (.aload_n 0, 1) := by decide +kernel
theorem dX14_init_125 : decode cX14_init 125 = .ok (.iconst (-1), 1) := by decide +kernel
theorem dX14_init_126 : decode cX14_init 126 = .ok (.putfield 64, 3) := by decide +kernel
theorem dX14_init_129 : decode cX14_init 129 = .ok (.aload_n 0, 1) := by decide +kernel
theorem dX14_init_130 : decode cX14_init 130 = .ok (.new 67, 3) := by decide +kernel
theorem dX14_init_133 : decode cX14_init 133 = .ok (.dup, 1) := by decide +kernel
theorem dX14_init_134 : decode cX14_init 134 = .ok (.invokespecial 69, 3) := by decide +kernel
theorem dX14_init_137 : decode cX14_init 137 = .ok (.putfield 70, 3) := by decide +kernel
theorem dX14_init_140 : decode cX14_init 140 = .ok (.iconst 0, 1) := by decide +kernel
theorem dX14_init_141 : decode cX14_init 141 = .ok (.istore_n 1, 1) := by decide +kernel
theorem dX14_init_142 : decode cX14_init 142 = .ok (.iload_n 1, 1) := by decide +kernel
theorem dX14_init_143 : decode cX14_init 143 = .ok (.bipush 11, 2) := by decide +kernel
theorem dX14_init_145 : decode cX14_init 145 = .ok (.if_icmp .ge 18, 3) := by decide +kernel
theorem dX14_init_148 : decode cX14_init 148 = .ok (.aload_n 0, 1) := by decide +kernel
theorem dX14_init_149 : decode cX14_init 149 = .ok (.getfield 21, 3) := by decide +kernel
theorem dX14_init_152 : decode cX14_init 152 = .ok (.iload_n 1, 1) := by decide +kernel
theorem dX14_init_153 : decode cX14_init 153 = .ok (.sipush 400, 3) := by decide +kernel
theorem dX14_init_156 : decode cX14_init 156 = .ok (.iastore, 1) := by decide +kernel
theorem dX14_init_157 : decode cX14_init 157 = .ok (.iinc 1 1, 3) := by decide +kernel
theorem dX14_init_160 : decode cX14_init 160 = .ok (.goto (-18), 3) := by decide +kernel
theorem dX14_init_163 : decode cX14_init 163 = .ok (.iconst 0, 1) := by decide +kernel
theorem dX14_init_164 : decode cX14_init 164 = .ok (.istore_n 1, 1) := by decide +kernel
theorem dX14_init_165 : decode cX14_init 165 = .ok (.iload_n 1, 1) := by decide +kernel
theorem dX14_init_166 : decode cX14_init 166 = .ok (.bipush 9, 2) := by decide +kernel
theorem dX14_init_168 : decode cX14_init 168 = .ok (.if_icmp .ge 16, 3) := by decide +kernel
theorem dX14_init_171 : decode cX14_init 171 = .ok (.aload_n 0, 1) := by decide +kernel
theorem dX14_init_172 : decode cX14_init 172 = .ok (.getfield 55, 3) := by decide +kernel
theorem dX14_init_175 : decode cX14_init 175 = .ok (.iload_n 1, 1) := by decide +kernel
theorem dX14_init_176 : decode cX14_init 176 = .ok (.iconst (-1), 1) := by decide +kernel
theorem dX14_init_177 : decode cX14_init 177 = .ok (.iastore, 1) := by decide +kernel
theorem dX14_init_178 : decode cX14_init 178 = .ok (.iinc 1 1, 3) := by decide +kernel
theorem dX14_init_181 : decode cX14_init 181 = .ok (.goto (-16), 3) := by decide +kernel
theorem dX14_init_184 : decode cX14_init 184 = .ok (.return_, 1) := by decide +kernel
theorem dX15_init_0 : decode cX15_init 0 = .ok (.aload_n 0, 1) := by decide +kernel
theorem dX15_init_1 : decode cX15_init 1 = .ok (.invokespecial 1, 3) := by decide +kernel
theorem dX15_init_4 : decode cX15_init 4 = .ok (.aload_n 0, 1) := by decide +kernel
theorem dX15_init_5 : decode cX15_init 5 = .ok (.new 7, 3) := by decide +kernel
theorem dX15_init_8 : decode cX15_init 8 = .ok (.dup, 1) := by decide +kernel
theorem dX15_init_9 : decode cX15_init 9 = .ok (.invokespecial 9, 3) := by decide +kernel
theorem dX15_init_12 : decode cX15_init 12 = .ok (.putfield 10, 3) := by decide +kernel
theorem dX15_init_15 : decode cX15_init 15 = .ok (.aload_n 0, 1) := by decide +kernel
theorem dX15_init_16 : decode cX15_init 16 = .ok (.new 16, 3) := by decide +kernel
theorem dX15_init_19 : decode cX15_init 19 = .ok (.dup, 1) := by decide +kernel
theorem dX15_init_20 : decode cX15_init 20 = .ok (.invokespecial 18, 3) := by decide +kernel
theorem dX15_init_23 : decode cX15_init 23 = .ok (.putfield 19, 3) := by decide +kernel
theorem dX15_init_26 : decode cX15_init 26 = .ok (.aload_n 0, 1) := by decide +kernel
theorem dX15_init_27 : decode cX15_init 27 = .ok (.iconst 0, 1) := by decide +kernel
theorem dX15_init_28 : decode cX15_init 28 = .ok (.newarray .int, 2) := by decide +kernel
theorem dX15_init_30 : decode cX15_init 30 = .ok (.putfield 23, 3) := by decide +kernel
theorem dX15_init_33 : decode cX15_init 33 = .ok (.aload_n 0, 1) := by decide +kernel
theorem dX15_init_34 : decode cX15_init 34 = .ok (.iconst 1, 1) := by decide +kernel
theorem dX15_init_35 : decode cX15_init 35 = .ok (.newarray .int, 2) := by decide +kernel
theorem dX15_init_37 : decode cX15_init 37 = .ok (.dup, 1) := by decide +kernel
theorem dX15_init_38 : decode cX15_init 38 = .ok (.iconst 0, 1) := by decide +kernel
theorem dX15_init_39 : decode cX15_init 39 = .ok (.iconst 1, 1) := by decide +kernel
theorem dX15_init_40 : decode cX15_init 40 = .ok (.iastore, 1) := by decide +kernel
theorem dX15_init_41 : decode cX15_init 41 = .ok (.putfield 27, 3) := by decide +kernel
theorem dX15_init_44 : decode cX15_init 44 = .ok (.aload_n 0, 1) := by decide +kernel
theorem dX15_init_45 : decode cX15_init 45 = .ok (.bipush 64, 2) := by decide +kernel
theorem dX15_init_47 : decode cX15_init 47 = .ok (.newarray .int, 2) := by decide +kernel
theorem dX15_init_49 : decode cX15_init 49 = .ok (.putfield 30, 3) := by decide +kernel
theorem dX15_init_52 : decode cX15_init 52 = .ok (.aload_n 0, 1) := by decide +kernel
theorem dX15_init_53 : decode cX15_init 53 = .ok (.sipush 600, 3) := by decide +kernel
theorem dX15_init_56 : decode cX15_init 56 = .ok (.newarray .int, 2) := by decide +kernel
theorem dX15_init_58 : decode cX15_init 58 = .ok (.putfield 33, 3) := by decide +kernel
theorem dX15_init_61 : decode cX15_init 61 = .ok (.aload_n 0, 1) := by decide +kernel
theorem dX15_init_62 : decode cX15_init 62 = .ok (.new 16, 3) := by decide +kernel
theorem dX15_init_65 : decode cX15_init 65 = .ok (.dup, 1) := by decide +kernel
theorem dX15_init_66 : decode cX15_init 66 = .ok (.invokespecial 18, 3) := by decide +kernel
theorem dX15_init_69 : decode cX15_init 69 = .ok (.putfield 36, 3) := by decide +kernel
theorem dX15_init_72 : decode cX15_init 72 = .ok (.aload_n 0, 1) := by decide +kernel
theorem dX15_init_73 : decode cX15_init 73 = .ok (.bipush 6, 2) := by decide +kernel
theorem dX15_init_75 : decode cX15_init 75 = .ok (.newarray .int, 2) := by decide +kernel
theorem dX15_init_77 : decode cX15_init 77 = .ok (.putfield 39, 3) := by decide +kernel
theorem dX15_init_80 : decode cX15_init 80 = .ok (.aload_n 0, 1) := by decide +kernel
theorem dX15_init_81 : decode cX15_init 81 = .ok (.bipush 6, 2) := by decide +kernel
theorem dX15_init_83 : decode cX15_init 83 = .ok (.newarray .int, 2) := by decide +kernel
theorem dX15_init_85 : decode cX15_init 85 = .ok (.putfield 42, 3) := by decide +kernel
theorem dX15_init_88 : decode cX15_init 88 = .ok (.aload_n 0, 1) := by decide +kernel
theorem dX15_init_89 : decode cX15_init 89 = .ok (.iconst 5, 1) := by decide +kernel
theorem dX15_init_90 : decode cX15_init 90 = .ok (.anewarray 45, 3) := by decide +kernel
theorem dX15_init_93 : decode cX15_init 93 = .ok (.putfield 46, 3) := by decide +kernel
theorem dX15_init_96 : decode cX15_init 96 = .ok (.aload_n 0, 1) := by decide +kernel
theorem dX15_init_97 : decode cX15_init 97 = .ok (.iconst 5, 1) := by decide +kernel
theorem dX15_init_98 : decode cX15_init 98 = .ok (.anewarray 45, 3) := by decide +kernel
theorem dX15_init_101 : decode cX15_init 101 = .ok (.putfield 50, 3) := by decide +kernel
theorem dX15_init_104 : decode cX15_init 104 = .ok (.aload_n 0, 1) := by decide +kernel
theorem dX15_init_105 : decode cX15_init 105 = .ok (.iconst 5, 1) := by decide +kernel
theorem dX15_init_106 : decode cX15_init 106 = .ok (.newarray .int, 2) := by decide +kernel
theorem dX15_init_108 : decode cX15_init 108 = .ok (.putfield 53, 3) := by decide +kernel
theorem dX15_init_111 : decode cX15_init 111 = .ok (.aload_n 0, 1) := by decide +kernel
theorem dX15_init_112 : decode cX15_init 112 = .ok (.iconst 5, 1) := by decide +kernel
theorem dX15_init_113 : decode cX15_init 113 = .ok (.newarray .int, 2) := by decide +kernel
theorem dX15_init_115 : decode cX15_init 115 = .ok (.putfield 56, 3) := by decide +kernel
theorem dX15_init_118 : decode cX15_init 118 = .ok (.aload_n 0, 1) := by decide +kernel
theorem dX15_init_119 : decode cX15_init 119 = .ok (.bipush 11, 2) := by decide +kernel
theorem dX15_init_121 : decode cX15_init 121 = .ok (.anewarray 45, 3) := by decide +kernel
theorem dX15_init_124 : decode cX15_init 124 = .ok (.putfield 59, 3) := by decide +kernel
theorem dX15_init_127 : decode cX15_init 127 = .ok (.aload_n 0, 1) := by decide +kernel
theorem dX15_init_128 : decode cX15_init 128 = .ok (.bipush 11, 2) := by decide +kernel
theorem dX15_init_130 : decode cX15_init 130 = .ok (.anewarray 45, 3) := by decide +kernel
theorem dX15_init_133 : decode cX15_init 133 = .ok (.putfield 62, 3) := by decide +kernel
theorem dX15_init_136 : decode cX15_init 136 = .ok (.aload_n 0, 1) := by decide +kernel
theorem dX15_init_137 : decode cX15_init 137 = .ok (.bipush 11, 2) := by decide +kernel
theorem dX15_init_139 : decode cX15_init 139 = .ok (.newarray .int, 2) := by decide +kernel
theorem dX15_init_141 : decode cX15_init 141 = .ok (.putfield 65, 3) := by decide +kernel
theorem dX15_init_144 : decode cX15_init 144 = .ok (.aload_n 0, 1) := by decide +kernel
theorem dX15_init_145 : decode cX15_init 145 = .ok (.bipush 30, 2) := by decide +kernel
theorem dX15_init_147 : decode cX15_init 147 = .ok (.newarray .int, 2) := by decide +kernel
theorem dX15_init_149 : decode cX15_init 149 = .ok (.putfield 68, 3) := by decide +kernel
theorem dX15_init_152 : decode cX15_init 152 = .ok (.aload_n 0, 1) := by decide +kernel
theorem dX15_init_153 : decode cX15_init 153 = .ok (.bipush 30, 2) := by decide +kernel
theorem dX15_init_155 : decode cX15_init 155 = .ok (.newarray .int, 2) := by decide +kernel
theorem dX15_init_157 : decode cX15_init 157 = .ok (.putfield 71, 3) := by decide +kernel
theorem dX15_init_160 : decode cX15_init 160 = .ok (.aload_n 0, 1) := by decide +kernel
theorem dX15_init_161 : decode cX15_init 161 = .ok (.bipush 30, 2) := by decide +kernel
theorem dX15_init_163 : decode cX15_init 163 = .ok (.newarray .int, 2) := by decide +kernel
theorem dX15_init_165 : decode cX15_init 165 = .ok (.putfield 74, 3) := by decide +kernel
theorem dX15_init_168 : decode cX15_init 168 = .ok (.aload_n 0, 1) := by decide +kernel
theorem dX15_init_169 : decode cX15_init 169 = .ok (.iconst 5, 1) := by decide +kernel
theorem dX15_init_170 : decode cX15_init 170 = .ok (.newarray .boolean, 2) := by decide +kernel
theorem dX15_init_172 : decode cX15_init 172 = .ok (.putfield 77, 3) := by decide +kernel
theorem dX15_init_175 : decode cX15_init 175 = .ok (.aload_n 0, 1) := by decide +kernel
theorem dX15_init_176 : decode cX15_init 176 = .ok (.bipush 9, 2) := by decide +kernel
theorem dX15_init_178 : decode cX15_init 178 = .ok (.newarray .int, 2) := by decide +kernel
theorem dX15_init_180 : decode cX15_init 180 = .ok (.putfield 81, 3) := by decide +kernel
theorem dX15_init_183 : decode cX15_init 183 = .ok (.aload_n 0, 1) := by decide +kernel
theorem dX15_init_184 : decode cX15_init 184 = .ok (.bipush 9, 2) := by decide +kernel
theorem dX15_init_186 : decode cX15_init 186 = .ok (.newarray .int, 2) := by decide +kernel
theorem dX15_init_188 : decode cX15_init 188 = .ok (.putfield 84, 3) := by decide +kernel
theorem dX15_init_191 : decode cX15_init 191 = .ok (.aload_n 0, 1) := by decide +kernel
theorem dX15_init_192 : decode cX15_init 192 = .ok (.bipush 6, 2) := by decide +kernel
theorem dX15_init_194 : decode cX15_init 194 = .ok (.newarray .int, 2) := by decide +kernel
theorem dX15_init_196 : decode cX15_init 196 = .ok (.putfield 87, 3) := by decide +kernel
theorem dX15_init_199 : decode cX15_init 199 = .ok (.aload_n 0, 1) := by decide +kernel
theorem dX15_init_200 : decode cX15_init 200 = .ok (.bipush 64, 2) := by decide +kernel
theorem dX15_init_202 : decode cX15_init 202 = .ok (.newarray .boolean, 2) := by decide +kernel
theorem dX15_init_204 : decode cX15_init 204 = .ok (.putfield 90, 3) := by decide +kernel
theorem dX15_init_207 : decode cX15_init 207 = .ok (.aload_n 0, 1) := by decide +kernel
theorem dX15_init_208 : decode cX15_init 208 = .ok (.bipush 36, 2) := by decide +kernel
theorem dX15_init_210 : decode cX15_init 210 = .ok (.newarray .boolean, 2) := by decide +kernel
theorem dX15_init_212 : decode cX15_init 212 = .ok (.putfield 93, 3) := by decide +kernel
theorem dX15_init_215 : decode cX15_init 215 = .ok (.return_, 1) := by decide +kernel
theorem dX11_isWithin_0 : decode cX11_isWithin 0 = .ok (.iload_n 0, 1) := by decide +kernel
theorem dX11_isWithin_1 : decode cX11_isWithin 1 = .ok (.iload_n 1, 1) := by decide +kernel
theorem dX11_isWithin_2 : decode cX11_isWithin 2 = .ok (.if_icmp .lt 12, 3) := by decide +kernel
theorem dX11_isWithin_5 : decode cX11_isWithin 5 = .ok (.iload_n 0, 1) := by decide +kernel
theorem dX11_isWithin_6 : decode cX11_isWithin 6 = .ok (.iload_n 2, 1) := by decide +kernel
theorem dX11_isWithin_7 : decode cX11_isWithin 7 = .ok (.if_icmp .gt 7, 3) := by decide +kernel
theorem dX11_isWithin_10 : decode cX11_isWithin 10 = .ok (.iconst 1, 1) := by decide +kernel
theorem dX11_isWithin_11 : decode cX11_isWithin 11 = .ok (.goto 4, 3) := by decide +kernel
theorem dX11_isWithin_15 : decode cX11_isWithin 15 = .ok (.ireturn, 1) := by decide +kernel
theorem dX5_lands_0 : decode cX5_lands 0 = .ok (.aload_n 0, 1) := by decide +kernel
theorem dX5_lands_1 : decode cX5_lands 1 = .ok (.getfield 11, 3) := by decide +kernel
theorem dX5_lands_4 : decode cX5_lands 4 = .ok (.iconst 1, 1) := by decide +kernel
theorem dX5_lands_5 : decode cX5_lands 5 = .ok (.iaload, 1) := by decide +kernel
theorem dX5_lands_6 : decode cX5_lands 6 = .ok (.ireturn, 1) := by decide +kernel
theorem dX5_parties_0 : decode cX5_parties 0 = .ok (.aload_n 0, 1) := by decide +kernel
theorem dX5_parties_1 : decode cX5_parties 1 = .ok (.getfield 11, 3) := by decide +kernel
theorem dX5_parties_4 : decode cX5_parties 4 = .ok (.iconst 0, 1) := by decide +kernel
theorem dX5_parties_5 : decode cX5_parties 5 = .ok (.iaload, 1) := by decide +kernel
theorem dX5_parties_6 : decode cX5_parties 6 = .ok (.ireturn, 1) := by decide +kernel
theorem dX2_sumOfClaims_0 : decode cX2_sumOfClaims 0 = .ok (.lconst 0, 1) := by decide +kernel
theorem dX2_sumOfClaims_1 : decode cX2_sumOfClaims 1 = .ok (.lstore_n 1, 1) := by decide +kernel
theorem dX2_sumOfClaims_2 : decode cX2_sumOfClaims 2 = .ok (.iconst 0, 1) := by decide +kernel
theorem dX2_sumOfClaims_3 : decode cX2_sumOfClaims 3 = .ok (.istore_n 3, 1) := by decide +kernel
theorem dX2_sumOfClaims_4 : decode cX2_sumOfClaims 4 = .ok (.iload_n 3, 1) := by decide +kernel
theorem dX2_sumOfClaims_5 : decode cX2_sumOfClaims 5 = .ok (.aload_n 0, 1) := by decide +kernel
theorem dX2_sumOfClaims_6 : decode cX2_sumOfClaims 6 = .ok (.getfield 46, 3) := by decide +kernel
theorem dX2_sumOfClaims_9 : decode cX2_sumOfClaims 9 = .ok (.if_icmp .ge 18, 3) := by decide +kernel
theorem dX2_sumOfClaims_27 : decode cX2_sumOfClaims 27 = .ok (.lload_n 1, 1) := by decide +kernel
theorem dX2_sumOfClaims_28 : decode cX2_sumOfClaims 28 = .ok (.lreturn, 1) := by decide +kernel
theorem dX2_putBehindBar_0 : decode cX2_putBehindBar 0 = .ok (.aload_n 0, 1) := by decide +kernel
theorem dX2_putBehindBar_1 : decode cX2_putBehindBar 1 = .ok (.invokevirtual 83, 3) := by decide +kernel
theorem dX2_putBehindBar_4 : decode cX2_putBehindBar 4 = .ok (.lstore_n 3, 1) := by decide +kernel
theorem dX2_putBehindBar_5 : decode cX2_putBehindBar 5 = .ok (.iconst 0, 1) := by decide +kernel
theorem dX2_putBehindBar_6 : decode cX2_putBehindBar 6 = .ok (.istore 5, 2) := by decide +kernel
theorem dX2_putBehindBar_8 : decode cX2_putBehindBar 8 = .ok (.iload 5, 2) := by decide +kernel
theorem dX2_putBehindBar_10 : decode cX2_putBehindBar 10 = .ok (.aload_n 0, 1) := by decide +kernel
theorem dX2_putBehindBar_11 : decode cX2_putBehindBar 11 = .ok (.getfield 46, 3) := by decide +kernel
theorem dX2_putBehindBar_14 : decode cX2_putBehindBar 14 = .ok (.if_icmp .ge 35, 3) := by decide +kernel
theorem dX2_putBehindBar_49 : decode cX2_putBehindBar 49 = .ok (.return_, 1) := by decide +kernel
theorem dX2_line_0 : decode cX2_line 0 = .ok (.iload_n 2, 1) := by decide +kernel
theorem dX2_line_1 : decode cX2_line 1 = .ok (.iconst 2, 1) := by decide +kernel
theorem dX2_line_2 : decode cX2_line 2 = .ok (.if_icmp .ne 7, 3) := by decide +kernel
theorem dX2_line_9 : decode cX2_line 9 = .ok (.iconst 0, 1) := by decide +kernel
theorem dX2_line_10 : decode cX2_line 10 = .ok (.istore 4, 2) := by decide +kernel
theorem dX2_line_12 : decode cX2_line 12 = .ok (.aload_n 0, 1) := by decide +kernel
theorem dX2_line_13 : decode cX2_line 13 = .ok (.iload 4, 2) := by decide +kernel
theorem dX2_line_15 : decode cX2_line 15 = .ok (.ifCond .eq 10, 3) := by decide +kernel
theorem dX2_line_25 : decode cX2_line 25 = .ok (.aload_n 1, 1) := by decide +kernel
theorem dX2_line_26 : decode cX2_line 26 = .ok (.invokevirtual 43, 3) := by decide +kernel
theorem dX2_line_29 : decode cX2_line 29 = .ok (.putfield 46, 3) := by decide +kernel
theorem dX2_line_32 : decode cX2_line 32 = .ok (.aload_n 0, 1) := by decide +kernel
theorem dX2_line_33 : decode cX2_line 33 = .ok (.aload_n 1, 1) := by decide +kernel
theorem dX2_line_34 : decode cX2_line 34 = .ok (.getfield 50, 3) := by decide +kernel
theorem dX2_line_37 : decode cX2_line 37 = .ok (.bipush 10, 2) := by decide +kernel
theorem dX2_line_39 : decode cX2_line 39 = .ok (.iaload, 1) := by decide +kernel
theorem dX2_line_40 : decode cX2_line 40 = .ok (.putfield 53, 3) := by decide +kernel
theorem dX2_line_43 : decode cX2_line 43 = .ok (.aload_n 0, 1) := by decide +kernel
theorem dX2_line_44 : decode cX2_line 44 = .ok (.aload_n 1, 1) := by decide +kernel
theorem dX2_line_45 : decode cX2_line 45 = .ok (.getfield 50, 3) := by decide +kernel
theorem dX2_line_48 : decode cX2_line 48 = .ok (.bipush 11, 2) := by decide +kernel
theorem dX2_line_50 : decode cX2_line 50 = .ok (.iaload, 1) := by decide +kernel
theorem dX2_line_51 : decode cX2_line 51 = .ok (.putfield 56, 3) := by decide +kernel
theorem dX2_line_54 : decode cX2_line 54 = .ok (.iconst 0, 1) := by decide +kernel
theorem dX2_line_55 : decode cX2_line 55 = .ok (.istore 5, 2) := by decide +kernel
theorem dX2_line_57 : decode cX2_line 57 = .ok (.iload 5, 2) := by decide +kernel
theorem dX2_line_59 : decode cX2_line 59 = .ok (.aload_n 0, 1) := by decide +kernel
theorem dX2_line_60 : decode cX2_line 60 = .ok (.getfield 46, 3) := by decide +kernel
theorem dX2_line_63 : decode cX2_line 63 = .ok (.if_icmp .ge 78, 3) := by decide +kernel
theorem dX2_line_141 : decode cX2_line 141 = .ok (.iload 4, 2) := by decide +kernel
theorem dX2_line_143 : decode cX2_line 143 = .ok (.ifCond .ne 21, 3) := by decide +kernel
theorem dX2_line_146 : decode cX2_line 146 = .ok (.aload_n 0, 1) := by decide +kernel
theorem dX2_line_147 : decode cX2_line 147 = .ok (.aload_n 1, 1) := by decide +kernel
theorem dX2_line_148 : decode cX2_line 148 = .ok (.getfield 50, 3) := by decide +kernel
theorem dX2_line_151 : decode cX2_line 151 = .ok (.bipush 8, 2) := by decide +kernel
theorem dX2_line_153 : decode cX2_line 153 = .ok (.iaload, 1) := by decide +kernel
theorem dX2_line_154 : decode cX2_line 154 = .ok (.aload_n 1, 1) := by decide +kernel
theorem dX2_line_155 : decode cX2_line 155 = .ok (.getfield 50, 3) := by decide +kernel
theorem dX2_line_158 : decode cX2_line 158 = .ok (.bipush 9, 2) := by decide +kernel
theorem dX2_line_160 : decode cX2_line 160 = .ok (.iaload, 1) := by decide +kernel
theorem dX2_line_161 : decode cX2_line 161 = .ok (.invokevirtual 72, 3) := by decide +kernel
theorem dX2_line_164 : decode cX2_line 164 = .ok (.return_, 1) := by decide +kernel
theorem dX2_findFloors_0 : decode cX2_findFloors 0 = .ok (.iconst 0, 1) := by decide +kernel
theorem dX2_findFloors_1 : decode cX2_findFloors 1 = .ok (.istore_n 3, 1) := by decide +kernel
theorem dX2_findFloors_2 : decode cX2_findFloors 2 = .ok (.iload_n 3, 1) := by decide +kernel
theorem dX2_findFloors_3 : decode cX2_findFloors 3 = .ok (.bipush 6, 2) := by decide +kernel
theorem dX2_findFloors_5 : decode cX2_findFloors 5 = .ok (.if_icmp .ge 16, 3) := by decide +kernel
theorem dX2_findFloors_8 : decode cX2_findFloors 8 = .ok (.aload_n 0, 1) := by decide +kernel
theorem dX2_findFloors_9 : decode cX2_findFloors 9 = .ok (.getfield 15, 3) := by decide +kernel
theorem dX2_findFloors_12 : decode cX2_findFloors 12 = .ok (.iload_n 3, 1) := by decide +kernel
theorem dX2_findFloors_13 : decode cX2_findFloors 13 = .ok (.iconst 0, 1) := by decide +kernel
theorem dX2_findFloors_14 : decode cX2_findFloors 14 = .ok (.iastore, 1) := by decide +kernel
theorem dX2_findFloors_15 : decode cX2_findFloors 15 = .ok (.iinc 3 1, 3) := by decide +kernel
theorem dX2_findFloors_18 : decode cX2_findFloors 18 = .ok (.goto (-16), 3) := by decide +kernel
theorem dX2_findFloors_21 : decode cX2_findFloors 21 = .ok (.iconst 0, 1) := by decide +kernel
theorem dX2_findFloors_22 : decode cX2_findFloors 22 = .ok (.istore_n 3, 1) := by decide +kernel
theorem dX2_findFloors_23 : decode cX2_findFloors 23 = .ok (.iload_n 3, 1) := by decide +kernel
theorem dX2_findFloors_24 : decode cX2_findFloors 24 = .ok (.aload_n 1, 1) := by decide +kernel
theorem dX2_findFloors_25 : decode cX2_findFloors 25 = .ok (.invokevirtual 37, 3) := by decide +kernel
theorem dX2_findFloors_28 : decode cX2_findFloors 28 = .ok (.if_icmp .ge 78, 3) := by decide +kernel
theorem dX2_findFloors_106 : decode cX2_findFloors 106 = .ok (.return_, 1) := by decide +kernel
theorem dX2_isWithinBounds_0 : decode cX2_isWithinBounds 0 = .ok (.iconst 0, 1) := by decide +kernel
theorem dX2_isWithinBounds_1 : decode cX2_isWithinBounds 1 = .ok (.istore_n 2, 1) := by decide +kernel
theorem dX2_isWithinBounds_2 : decode cX2_isWithinBounds 2 = .ok (.iconst 0, 1) := by decide +kernel
theorem dX2_isWithinBounds_3 : decode cX2_isWithinBounds 3 = .ok (.istore_n 3, 1) := by decide +kernel
theorem dX2_isWithinBounds_4 : decode cX2_isWithinBounds 4 = .ok (.iconst 0, 1) := by decide +kernel
theorem dX2_isWithinBounds_5 : decode cX2_isWithinBounds 5 = .ok (.istore 4, 2) := by decide +kernel
theorem dX2_isWithinBounds_7 : decode cX2_isWithinBounds 7 = .ok (.iload 4, 2) := by decide +kernel
theorem dX2_isWithinBounds_9 : decode cX2_isWithinBounds 9 = .ok (.aload_n 0, 1) := by decide +kernel
theorem dX2_isWithinBounds_10 : decode cX2_isWithinBounds 10 = .ok (.getfield 46, 3) := by decide +kernel
theorem dX2_isWithinBounds_13 : decode cX2_isWithinBounds 13 = .ok (.if_icmp .ge 51, 3) := by decide +kernel
theorem dX2_isWithinBounds_64 : decode cX2_isWithinBounds 64 = .ok (.iload_n 1, 1) := by decide +kernel
theorem dX2_isWithinBounds_65 : decode cX2_isWithinBounds 65 = .ok (.iload_n 2, 1) := by decide +kernel
theorem dX2_isWithinBounds_66 : decode cX2_isWithinBounds 66 = .ok (.if_icmp .lt 12, 3) := by decide +kernel
theorem dX2_isWithinBounds_69 : decode cX2_isWithinBounds 69 = .ok (.iload_n 1, 1) := by decide +kernel
theorem dX2_isWithinBounds_70 : decode cX2_isWithinBounds 70 = .ok (.iload_n 3, 1) := by decide +kernel
theorem dX2_isWithinBounds_71 : decode cX2_isWithinBounds 71 = .ok (.if_icmp .gt 7, 3) := by decide +kernel
theorem dX2_isWithinBounds_78 : decode cX2_isWithinBounds 78 = .ok (.iconst 0, 1) := by decide +kernel
theorem dX2_isWithinBounds_79 : decode cX2_isWithinBounds 79 = .ok (.ireturn, 1) := by decide +kernel
theorem dX2_isDealt_0 : decode cX2_isDealt 0 = .ok (.iload_n 1, 1) := by decide +kernel
theorem dX2_isDealt_1 : decode cX2_isDealt 1 = .ok (.iconst 3, 1) := by decide +kernel
theorem dX2_isDealt_2 : decode cX2_isDealt 2 = .ok (.if_icmp .lt 7, 3) := by decide +kernel
theorem dX2_isDealt_9 : decode cX2_isDealt 9 = .ok (.iconst 0, 1) := by decide +kernel
theorem dX2_isDealt_10 : decode cX2_isDealt 10 = .ok (.istore_n 3, 1) := by decide +kernel
theorem dX2_isDealt_11 : decode cX2_isDealt 11 = .ok (.iload_n 3, 1) := by decide +kernel
theorem dX2_isDealt_12 : decode cX2_isDealt 12 = .ok (.ifCond .eq 15, 3) := by decide +kernel
theorem dX2_isDealt_27 : decode cX2_isDealt 27 = .ok (.aload_n 0, 1) := by decide +kernel
theorem dX2_isDealt_28 : decode cX2_isDealt 28 = .ok (.iload_n 2, 1) := by decide +kernel
theorem dX2_isDealt_29 : decode cX2_isDealt 29 = .ok (.invokevirtual 106, 3) := by decide +kernel
theorem dX2_isDealt_32 : decode cX2_isDealt 32 = .ok (.ifCond .ne 5, 3) := by decide +kernel
theorem dX2_isDealt_35 : decode cX2_isDealt 35 = .ok (.iconst 0, 1) := by decide +kernel
theorem dX2_isDealt_36 : decode cX2_isDealt 36 = .ok (.ireturn, 1) := by decide +kernel
theorem dX2_isGrown_0 : decode cX2_isGrown 0 = .ok (.iload_n 1, 1) := by decide +kernel
theorem dX2_isGrown_1 : decode cX2_isGrown 1 = .ok (.iconst 3, 1) := by decide +kernel
theorem dX2_isGrown_2 : decode cX2_isGrown 2 = .ok (.if_icmp .ge 7, 3) := by decide +kernel
theorem dX2_isGrown_5 : decode cX2_isGrown 5 = .ok (.iload_n 3, 1) := by decide +kernel
theorem dX2_isGrown_6 : decode cX2_isGrown 6 = .ok (.ifCond .ne 10, 3) := by decide +kernel
theorem dX2_isGrown_9 : decode cX2_isGrown 9 = .ok (.aload_n 0, 1) := by decide +kernel
theorem dX2_isGrown_10 : decode cX2_isGrown 10 = .ok (.iload_n 1, 1) := by decide +kernel
theorem dX2_isGrown_11 : decode cX2_isGrown 11 = .ok (.iload_n 2, 1) := by decide +kernel
theorem dX2_isGrown_12 : decode cX2_isGrown 12 = .ok (.invokevirtual 87, 3) := by decide +kernel
theorem dX2_isGrown_15 : decode cX2_isGrown 15 = .ok (.ireturn, 1) := by decide +kernel
theorem dX2_evenedHouse_0 : decode cX2_evenedHouse 0 = .ok (.iconst 0, 1) := by decide +kernel
theorem dX2_evenedHouse_1 : decode cX2_evenedHouse 1 = .ok (.istore_n 3, 1) := by decide +kernel
theorem dX2_evenedHouse_2 : decode cX2_evenedHouse 2 = .ok (.iload_n 2, 1) := by decide +kernel
theorem dX2_evenedHouse_3 : decode cX2_evenedHouse 3 = .ok (.istore 4, 2) := by decide +kernel
theorem dX2_evenedHouse_5 : decode cX2_evenedHouse 5 = .ok (.iload 4, 2) := by decide +kernel
theorem dX2_evenedHouse_7 : decode cX2_evenedHouse 7 = .ok (.sipush 400, 3) := by decide +kernel
theorem dX2_evenedHouse_10 : decode cX2_evenedHouse 10 = .ok (.if_icmp .gt 32, 3) := by decide +kernel
theorem dX2_evenedHouse_13 : decode cX2_evenedHouse 13 = .ok (.aload_n 0, 1) := by decide +kernel
theorem dX2_evenedHouse_14 : decode cX2_evenedHouse 14 = .ok (.iload_n 1, 1) := by decide +kernel
theorem dX2_evenedHouse_15 : decode cX2_evenedHouse 15 = .ok (.iload 4, 2) := by decide +kernel
theorem dX2_evenedHouse_17 : decode cX2_evenedHouse 17 = .ok (.iload_n 3, 1) := by decide +kernel
theorem dX2_evenedHouse_18 : decode cX2_evenedHouse 18 = .ok (.invokevirtual 172, 3) := by decide +kernel
theorem dX2_evenedHouse_21 : decode cX2_evenedHouse 21 = .ok (.istore_n 3, 1) := by decide +kernel
theorem dX2_evenedHouse_22 : decode cX2_evenedHouse 22 = .ok (.iload_n 3, 1) := by decide +kernel
theorem dX2_evenedHouse_23 : decode cX2_evenedHouse 23 = .ok (.ifCond .eq 13, 3) := by decide +kernel
theorem dX2_evenedHouse_36 : decode cX2_evenedHouse 36 = .ok (.iinc 4 1, 3) := by decide +kernel
theorem dX2_evenedHouse_39 : decode cX2_evenedHouse 39 = .ok (.goto (-34), 3) := by decide +kernel
theorem dX2_evenedHouse_42 : decode cX2_evenedHouse 42 = .ok (.iconst (-1), 1) := by decide +kernel
theorem dX2_evenedHouse_43 : decode cX2_evenedHouse 43 = .ok (.ireturn, 1) := by decide +kernel
theorem dX11_tiers_0 : decode cX11_tiers 0 = .ok (.iload_n 1, 1) := by decide +kernel
theorem dX11_tiers_1 : decode cX11_tiers 1 = .ok (.iconst 0, 1) := by decide +kernel
theorem dX11_tiers_2 : decode cX11_tiers 2 = .ok (.iconst 4, 1) := by decide +kernel
theorem dX11_tiers_3 : decode cX11_tiers 3 = .ok (.invokestatic 108, 3) := by decide +kernel
theorem dX11_tiers_6 : decode cX11_tiers 6 = .ok (.ifCond .eq 23, 3) := by decide +kernel
theorem dX11_tiers_9 : decode cX11_tiers 9 = .ok (.iload_n 2, 1) := by decide +kernel
theorem dX11_tiers_10 : decode cX11_tiers 10 = .ok (.iconst 0, 1) := by decide +kernel
theorem dX11_tiers_11 : decode cX11_tiers 11 = .ok (.iconst 4, 1) := by decide +kernel
theorem dX11_tiers_12 : decode cX11_tiers 12 = .ok (.invokestatic 108, 3) := by decide +kernel
theorem dX11_tiers_15 : decode cX11_tiers 15 = .ok (.ifCond .eq 14, 3) := by decide +kernel
theorem dX11_tiers_18 : decode cX11_tiers 18 = .ok (.iload_n 3, 1) := by decide +kernel
theorem dX11_tiers_19 : decode cX11_tiers 19 = .ok (.iconst 1, 1) := by decide +kernel
theorem dX11_tiers_20 : decode cX11_tiers 20 = .ok (.sipush 400, 3) := by decide +kernel
theorem dX11_tiers_23 : decode cX11_tiers 23 = .ok (.invokestatic 108, 3) := by decide +kernel
theorem dX11_tiers_26 : decode cX11_tiers 26 = .ok (.ifCond .ne 11, 3) := by decide +kernel
theorem dX11_tiers_37 : decode cX11_tiers 37 = .ok (.iload 4, 2) := by decide +kernel
theorem dX11_tiers_39 : decode cX11_tiers 39 = .ok (.ifCond .lt 20, 3) := by decide +kernel

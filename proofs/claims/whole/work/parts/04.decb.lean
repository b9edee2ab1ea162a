theorem dX9_in_0 : decode cX9_in 0 = .ok (.lload_n 0, 1) := by decide +kernel
theorem dX9_in_1 : decode cX9_in 1 = .ok (.lload_n 2, 1) := by decide +kernel
theorem dX9_in_2 : decode cX9_in 2 = .ok (.lcmp, 1) := by decide +kernel
theorem dX9_in_3 : decode cX9_in 3 = .ok (.ifCond .lt 14, 3) := by decide +kernel
theorem dX9_in_6 : decode cX9_in 6 = .ok (.lload_n 0, 1) := by decide +kernel
theorem dX9_in_7 : decode cX9_in 7 = .ok (.lload 4, 2) := by decide +kernel
theorem dX9_in_9 : decode cX9_in 9 = .ok (.lcmp, 1) := by decide +kernel
theorem dX9_in_10 : decode cX9_in 10 = .ok (.ifCond .gt 7, 3) := by decide +kernel
theorem dX9_in_13 : decode cX9_in 13 = .ok (.iconst 1, 1) := by decide +kernel
theorem dX9_in_14 : decode cX9_in 14 = .ok (.goto 4, 3) := by decide +kernel
theorem dX9_in_17 : decode cX9_in 17 = .ok (.iconst 0, 1) := by decide +kernel
theorem dX9_in_18 : decode cX9_in 18 = .ok (.ireturn, 1) := by decide +kernel
theorem dX9_init_0 : decode cX9_init 0 = .ok (.aload_n 0, 1) := by decide +kernel
theorem dX9_init_1 : decode cX9_init 1 = .ok (.invokespecial 1, 3) := by decide +kernel
theorem dX9_init_4 : decode cX9_init 4 = .ok (.aload_n 0, 1) := by decide +kernel
theorem dX9_init_5 : decode cX9_init 5 = .ok (.bipush 76, 2) := by decide +kernel
theorem dX9_init_7 : decode cX9_init 7 = .ok (.newarray .int, 2) := by decide +kernel
theorem dX9_init_9 : decode cX9_init 9 = .ok (.putfield 7, 3) := by decide +kernel
theorem dX9_init_12 : decode cX9_init 12 = .ok (.aload_n 0, 1) := by decide +kernel
theorem dX9_init_13 : decode cX9_init 13 = .ok (.bipush 8, 2) := by decide +kernel
theorem dX9_init_15 : decode cX9_init 15 = .ok (.newarray .int, 2) := by decide +kernel
theorem dX9_init_17 : decode cX9_init 17 = .ok (.putfield 13, 3) := by decide +kernel
theorem dX9_init_20 : decode cX9_init 20 = .ok (.aload_n 0, 1) := by decide +kernel
theorem dX9_init_21 : decode cX9_init 21 = .ok (.bipush 9, 2) := by decide +kernel
theorem dX9_init_23 : decode cX9_init 23 = .ok (.newarray .int, 2) := by decide +kernel
theorem dX9_init_25 : decode cX9_init 25 = .ok (.putfield 16, 3) := by decide +kernel
theorem dX9_init_28 : decode cX9_init 28 = .ok (.aload_n 0, 1) := by decide +kernel
theorem dX9_init_29 : decode cX9_init 29 = .ok (.bipush 8, 2) := by decide +kernel
theorem dX9_init_31 : decode cX9_init 31 = .ok (.newarray .int, 2) := by decide +kernel
theorem dX9_init_33 : decode cX9_init 33 = .ok (.putfield 19, 3) := by decide +kernel
theorem dX9_init_36 : decode cX9_init 36 = .ok (.aload_n 0, 1) := by decide +kernel
theorem dX9_init_37 : decode cX9_init 37 = .ok (.bipush 8, 2) := by decide +kernel
theorem dX9_init_39 : decode cX9_init 39 = .ok (.newarray .int, 2) := by decide +kernel
theorem dX9_init_41 : decode cX9_init 41 = .ok (.putfield 22, 3) := by decide +kernel
theorem dX9_init_44 : decode cX9_init 44 = .ok (.aload_n 0, 1) := by decide +kernel
theorem dX9_init_45 : decode cX9_init 45 = .ok (.sipush 256, 3) := by decide +kernel
theorem dX9_init_48 : decode cX9_init 48 = .ok (.newarray .int, 2) := by decide +kernel
theorem dX9_init_50 : decode cX9_init 50 = .ok (.putfield 25, 3) := by decide +kernel
theorem dX9_init_53 : decode cX9_init 53 = .ok (.aload_n 0, 1) := by decide +kernel
theorem dX9_init_54 : decode cX9_init 54 = .ok (.bipush 60, 2) := by decide +kernel
theorem dX9_init_56 : decode cX9_init 56 = .ok (.newarray .int, 2) := by decide +kernel
theorem dX9_init_58 : decode cX9_init 58 = .ok (.putfield 28, 3) := by decide +kernel
theorem dX9_init_61 : decode cX9_init 61 = .ok (.aload_n 0, 1) := by decide +kernel
theorem dX9_init_62 : decode cX9_init 62 = .ok (.sipush 128, 3) := by decide +kernel
theorem dX9_init_65 : decode cX9_init 65 = .ok (.newarray .long, 2) := by decide +kernel
theorem dX9_init_67 : decode cX9_init 67 = .ok (.putfield 31, 3) := by decide +kernel
theorem dX9_init_70 : decode cX9_init 70 = .ok (.aload_n 0, 1) := by decide +kernel
theorem dX9_init_71 : decode cX9_init 71 = .ok (.sipush 128, 3) := by decide +kernel
theorem dX9_init_74 : decode cX9_init 74 = .ok (.newarray .int, 2) := by decide +kernel
theorem dX9_init_76 : decode cX9_init 76 = .ok (.putfield 35, 3) := by decide +kernel
theorem dX9_init_79 : decode cX9_init 79 = .ok (.aload_n 0, 1) := by decide +kernel
theorem dX9_init_80 : decode cX9_init 80 = .ok (.bipush 8, 2) := by decide +kernel
theorem dX9_init_82 : decode cX9_init 82 = .ok (.newarray .int, 2) := by decide +kernel
theorem dX9_init_84 : decode cX9_init 84 = .ok (.putfield 38, 3) := by decide +kernel
theorem dX9_init_87 : decode cX9_init 87 = .ok (.aload_n 0, 1) := by decide +kernel
theorem dX9_init_88 : decode cX9_init 88 = .ok (.bipush 120, 2) := by decide +kernel
theorem dX9_init_90 : decode cX9_init 90 = .ok (.newarray .int, 2) := by decide +kernel
theorem dX9_init_92 : decode cX9_init 92 = .ok (.putfield 41, 3) := by decide +kernel
theorem dX9_init_95 : decode cX9_init 95 = .ok (.aload_n 0, 1) := by decide +kernel
theorem dX9_init_96 : decode cX9_init 96 = .ok (.bipush 72, 2) := by decide +kernel
theorem dX9_init_98 : decode cX9_init 98 = .ok (.newarray .int, 2) := by decide +kernel
theorem dX9_init_100 : decode cX9_init 100 = .ok (.putfield 44, 3) := by decide +kernel
theorem dX9_init_103 : decode cX9_init 103 = .ok (.aload_n 0, 1) := by decide +kernel
theorem dX9_init_104 : decode cX9_init 104 = .ok (.bipush 10, 2) := by decide +kernel
theorem dX9_init_106 : decode cX9_init 106 = .ok (.newarray .int, 2) := by decide +kernel
theorem dX9_init_108 : decode cX9_init 108 = .ok (.putfield 47, 3) := by decide +kernel
theorem dX9_init_111 : decode cX9_init 111 = .ok (.aload_n 0, 1) := by decide +kernel
theorem dX9_init_112 : decode cX9_init 112 = .ok (.sipush 608, 3) := by decide +kernel
theorem dX9_init_115 : decode cX9_init 115 = .ok (.newarray .int, 2) := by decide +kernel
theorem dX9_init_117 : decode cX9_init 117 = .ok (.putfield 50, 3) := by decide +kernel
theorem dX9_init_120 : decode cX9_init 120 = .ok (.aload_n 0, 1) := by decide +kernel
theorem dX9_init_121 : decode cX9_init 121 = .ok (.bipush 76, 2) := by decide +kernel
theorem dX9_init_123 : decode cX9_init 123 = .ok (.newarray .int, 2) := by decide +kernel
theorem dX9_init_125 : decode cX9_init 125 = .ok (.putfield 53, 3) := by decide +kernel
theorem dX9_init_128 : decode cX9_init 128 = .ok (.aload_n 0, 1) := by decide +kernel
theorem dX9_init_129 : decode cX9_init 129 = .ok (.sipush 608, 3) := by decide +kernel
theorem dX9_init_132 : decode cX9_init 132 = .ok (.newarray .int, 2) := by decide +kernel
theorem dX9_init_134 : decode cX9_init 134 = .ok (.putfield 56, 3) := by decide +kernel
theorem dX9_init_137 : decode cX9_init 137 = .ok (.aload_n 0, 1) := by decide +kernel
theorem dX9_init_138 : decode cX9_init 138 = .ok (.iconst (-1), 1) := by decide +kernel
theorem dX9_init_139 : decode cX9_init 139 = .ok (.putfield 59, 3) := by decide +kernel
theorem dX9_init_142 : decode cX9_init 142 = .ok (.aload_n 0, 1) := by decide +kernel
theorem dX9_init_143 : decode cX9_init 143 = .ok (.iconst 4, 1) := by decide +kernel
theorem dX9_init_144 : decode cX9_init 144 = .ok (.newarray .int, 2) := by decide +kernel
theorem dX9_init_146 : decode cX9_init 146 = .ok (.putfield 63, 3) := by decide +kernel
theorem dX9_init_149 : decode cX9_init 149 = .ok (.aload_n 0, 1) := by decide +kernel
theorem dX9_init_150 : decode cX9_init 150 = .ok (.iconst 4, 1) := by decide +kernel
theorem dX9_init_151 : decode cX9_init 151 = .ok (.newarray .int, 2) := by decide +kernel
theorem dX9_init_153 : decode cX9_init 153 = .ok (.putfield 66, 3) := by decide +kernel
theorem dX9_init_156 : decode cX9_init 156 = .ok (.aload_n 0, 1) := by decide +kernel
theorem dX9_init_157 : decode cX9_init 157 = .ok (.bipush 96, 2) := by decide +kernel
theorem dX9_init_159 : decode cX9_init 159 = .ok (.newarray .long, 2) := by decide +kernel
theorem dX9_init_161 : decode cX9_init 161 = .ok (.putfield 69, 3) := by decide +kernel
theorem dX9_init_164 : decode cX9_init 164 = .ok (.aload_n 0, 1) := by decide +kernel
theorem dX9_init_165 : decode cX9_init 165 = .ok (.bipush 24, 2) := by decide +kernel
theorem dX9_init_167 : decode cX9_init 167 = .ok (.newarray .long, 2) := by decide +kernel
theorem dX9_init_169 : decode cX9_init 169 = .ok (.putfield 72, 3) := by decide +kernel
theorem dX9_init_172 : decode cX9_init 172 = .ok (.aload_n 0, 1) := by decide +kernel
theorem dX9_init_173 : decode cX9_init 173 = .ok (.getfield 7, 3) := by decide +kernel
theorem dX9_init_176 : decode cX9_init 176 = .ok (.iconst 3, 1) := by decide +kernel
theorem dX9_init_177 : decode cX9_init 177 = .ok (.iconst 1, 1) := by decide +kernel
theorem dX9_init_178 : decode cX9_init 178 = .ok (.iastore, 1) := by decide +kernel
theorem dX9_init_179 : decode cX9_init 179 = .ok (.iconst 0, 1) := by decide +kernel
theorem dX9_init_180 : decode cX9_init 180 = .ok (.istore_n 1, 1) := by decide +kernel
theorem dX9_init_181 : decode cX9_init 181 = .ok (.iload_n 1, 1) := by decide +kernel
theorem dX9_init_182 : decode cX9_init 182 = .ok (.iconst 4, 1) := by decide +kernel
theorem dX9_init_183 : decode cX9_init 183 = .ok (.if_icmp .ge 16, 3) := by decide +kernel
theorem dX9_init_186 : decode cX9_init 186 = .ok (.aload_n 0, 1) := by decide +kernel
theorem dX9_init_187 : decode cX9_init 187 = .ok (.getfield 63, 3) := by decide +kernel
theorem dX9_init_190 : decode cX9_init 190 = .ok (.iload_n 1, 1) := by decide +kernel
theorem dX9_init_191 : decode cX9_init 191 = .ok (.iconst (-1), 1) := by decide +kernel
theorem dX9_init_192 : decode cX9_init 192 = .ok (.iastore, 1) := by decide +kernel
theorem dX9_init_193 : decode cX9_init 193 = .ok (.iinc 1 1, 3) := by decide +kernel
theorem dX9_init_196 : decode cX9_init 196 = .ok (.goto (-15), 3) := by decide +kernel
theorem dX9_init_199 : decode cX9_init 199 = .ok (.return_, 1) := by decide +kernel
theorem dX9_isSlot_0 : decode cX9_isSlot 0 = .ok (.iload_n 1, 1) := by decide +kernel
theorem dX9_isSlot_1 : decode cX9_isSlot 1 = .ok (.i2l, 1) := by decide +kernel
theorem dX9_isSlot_2 : decode cX9_isSlot 2 = .ok (.lconst 0, 1) := by decide +kernel
theorem dX9_isSlot_3 : decode cX9_isSlot 3 = .ok (.aload_n 0, 1) := by decide +kernel
theorem dX9_isSlot_4 : decode cX9_isSlot 4 = .ok (.getfield 7, 3) := by decide +kernel
theorem dX9_isSlot_7 : decode cX9_isSlot 7 = .ok (.iconst 0, 1) := by decide +kernel
theorem dX9_isSlot_8 : decode cX9_isSlot 8 = .ok (.iaload, 1) := by decide +kernel
theorem dX9_isSlot_9 : decode cX9_isSlot 9 = .ok (.iconst 1, 1) := by decide +kernel
theorem dX9_isSlot_10 : decode cX9_isSlot 10 = .ok (.isub, 1) := by decide +kernel
theorem dX9_isSlot_11 : decode cX9_isSlot 11 = .ok (.i2l, 1) := by decide +kernel
theorem dX9_isSlot_12 : decode cX9_isSlot 12 = .ok (.invokestatic 75, 3) := by decide +kernel
theorem dX9_isSlot_15 : decode cX9_isSlot 15 = .ok (.ireturn, 1) := by decide +kernel
theorem dX9_at_0 : decode cX9_at 0 = .ok (.iconst 4, 1) := by decide +kernel
theorem dX9_at_1 : decode cX9_at 1 = .ok (.bipush 9, 2) := by decide +kernel
theorem dX9_at_3 : decode cX9_at 3 = .ok (.iload_n 1, 1) := by decide +kernel
theorem dX9_at_4 : decode cX9_at 4 = .ok (.imul, 1) := by decide +kernel
theorem dX9_at_5 : decode cX9_at 5 = .ok (.iadd, 1) := by decide +kernel
theorem dX9_at_6 : decode cX9_at 6 = .ok (.ireturn, 1) := by decide +kernel
theorem dX9_placeOf_0 : decode cX9_placeOf 0 = .ok (.bipush (-4), 2) := by decide +kernel
theorem dX9_placeOf_2 : decode cX9_placeOf 2 = .ok (.istore_n 3, 1) := by decide +kernel
theorem dX9_placeOf_3 : decode cX9_placeOf 3 = .ok (.iconst 0, 1) := by decide +kernel
theorem dX9_placeOf_4 : decode cX9_placeOf 4 = .ok (.istore 4, 2) := by decide +kernel
theorem dX9_placeOf_6 : decode cX9_placeOf 6 = .ok (.iload 4, 2) := by decide +kernel
theorem dX9_placeOf_8 : decode cX9_placeOf 8 = .ok (.aload_n 0, 1) := by decide +kernel
theorem dX9_placeOf_9 : decode cX9_placeOf 9 = .ok (.getfield 7, 3) := by decide +kernel
theorem dX9_placeOf_12 : decode cX9_placeOf 12 = .ok (.aload_n 0, 1) := by decide +kernel
theorem dX9_placeOf_13 : decode cX9_placeOf 13 = .ok (.iload_n 1, 1) := by decide +kernel
theorem dX9_placeOf_14 : decode cX9_placeOf 14 = .ok (.invokevirtual 79, 3) := by decide +kernel
theorem dX9_placeOf_17 : decode cX9_placeOf 17 = .ok (.iaload, 1) := by decide +kernel
theorem dX9_placeOf_18 : decode cX9_placeOf 18 = .ok (.if_icmp .ge 35, 3) := by decide +kernel
theorem dX9_placeOf_21 : decode cX9_placeOf 21 = .ok (.aload_n 0, 1) := by decide +kernel
theorem dX9_placeOf_22 : decode cX9_placeOf 22 = .ok (.getfield 7, 3) := by decide +kernel
theorem dX9_placeOf_25 : decode cX9_placeOf 25 = .ok (.aload_n 0, 1) := by decide +kernel
theorem dX9_placeOf_26 : decode cX9_placeOf 26 = .ok (.iload_n 1, 1) := by decide +kernel
theorem dX9_placeOf_27 : decode cX9_placeOf 27 = .ok (.invokevirtual 79, 3) := by decide +kernel
theorem dX9_placeOf_30 : decode cX9_placeOf 30 = .ok (.iconst 1, 1) := by decide +kernel
theorem dX9_placeOf_31 : decode cX9_placeOf 31 = .ok (.iadd, 1) := by decide +kernel
theorem dX9_placeOf_32 : decode cX9_placeOf 32 = .ok (.iload 4, 2) := by decide +kernel
theorem dX9_placeOf_34 : decode cX9_placeOf 34 = .ok (.iadd, 1) := by decide +kernel
theorem dX9_placeOf_35 : decode cX9_placeOf 35 = .ok (.iaload, 1) := by decide +kernel
theorem dX9_placeOf_36 : decode cX9_placeOf 36 = .ok (.iload_n 2, 1) := by decide +kernel
theorem dX9_placeOf_37 : decode cX9_placeOf 37 = .ok (.if_icmp .ne 8, 3) := by decide +kernel
theorem dX9_placeOf_40 : decode cX9_placeOf 40 = .ok (.iload 4, 2) := by decide +kernel
theorem dX9_placeOf_42 : decode cX9_placeOf 42 = .ok (.goto 4, 3) := by decide +kernel
theorem dX9_placeOf_45 : decode cX9_placeOf 45 = .ok (.iload_n 3, 1) := by decide +kernel
theorem dX9_placeOf_46 : decode cX9_placeOf 46 = .ok (.istore_n 3, 1) := by decide +kernel
theorem dX9_placeOf_47 : decode cX9_placeOf 47 = .ok (.iinc 4 1, 3) := by decide +kernel
theorem dX9_placeOf_50 : decode cX9_placeOf 50 = .ok (.goto (-44), 3) := by decide +kernel
theorem dX9_placeOf_53 : decode cX9_placeOf 53 = .ok (.iload_n 3, 1) := by decide +kernel
theorem dX9_placeOf_54 : decode cX9_placeOf 54 = .ok (.ireturn, 1) := by decide +kernel
theorem dX9_wordHere_0 : decode cX9_wordHere 0 = .ok (.aload_n 0, 1) := by decide +kernel
theorem dX9_wordHere_1 : decode cX9_wordHere 1 = .ok (.getfield 83, 3) := by decide +kernel
theorem dX9_wordHere_4 : decode cX9_wordHere 4 = .ok (.aload_n 0, 1) := by decide +kernel
theorem dX9_wordHere_5 : decode cX9_wordHere 5 = .ok (.getfield 86, 3) := by decide +kernel
theorem dX9_wordHere_8 : decode cX9_wordHere 8 = .ok (.if_icmp .ge 15, 3) := by decide +kernel
theorem dX9_wordHere_11 : decode cX9_wordHere 11 = .ok (.aload_n 0, 1) := by decide +kernel
theorem dX9_wordHere_12 : decode cX9_wordHere 12 = .ok (.getfield 16, 3) := by decide +kernel
theorem dX9_wordHere_15 : decode cX9_wordHere 15 = .ok (.aload_n 0, 1) := by decide +kernel
theorem dX9_wordHere_16 : decode cX9_wordHere 16 = .ok (.getfield 83, 3) := by decide +kernel
theorem dX9_wordHere_19 : decode cX9_wordHere 19 = .ok (.iaload, 1) := by decide +kernel
theorem dX9_wordHere_20 : decode cX9_wordHere 20 = .ok (.goto 5, 3) := by decide +kernel
theorem dX9_wordHere_23 : decode cX9_wordHere 23 = .ok (.bipush (-4), 2) := by decide +kernel
theorem dX9_wordHere_25 : decode cX9_wordHere 25 = .ok (.ireturn, 1) := by decide +kernel
theorem dX9_worth_0 : decode cX9_worth 0 = .ok (.iload_n 0, 1) := by decide +kernel
theorem dX9_worth_1 : decode cX9_worth 1 = .ok (.i2l, 1) := by decide +kernel
theorem dX9_worth_2 : decode cX9_worth 2 = .ok (.lconst 1, 1) := by decide +kernel
theorem dX9_worth_3 : decode cX9_worth 3 = .ok (.ldc2_w 89, 3) := by decide +kernel
theorem dX9_worth_6 : decode cX9_worth 6 = .ok (.invokestatic 75, 3) := by decide +kernel
theorem dX9_worth_9 : decode cX9_worth 9 = .ok (.ifCond .eq 7, 3) := by decide +kernel
theorem dX9_worth_12 : decode cX9_worth 12 = .ok (.iload_n 0, 1) := by decide +kernel
theorem dX9_worth_13 : decode cX9_worth 13 = .ok (.goto 29, 3) := by decide +kernel
theorem dX9_worth_16 : decode cX9_worth 16 = .ok (.iload_n 0, 1) := by decide +kernel
theorem dX9_worth_17 : decode cX9_worth 17 = .ok (.i2l, 1) := by decide +kernel
theorem dX9_worth_18 : decode cX9_worth 18 = .ok (.ldc2_w 91, 3) := by decide +kernel
theorem dX9_worth_21 : decode cX9_worth 21 = .ok (.ldc2_w 93, 3) := by decide +kernel
theorem dX9_worth_24 : decode cX9_worth 24 = .ok (.invokestatic 75, 3) := by decide +kernel
theorem dX9_worth_27 : decode cX9_worth 27 = .ok (.ifCond .eq 14, 3) := by decide +kernel
theorem dX9_worth_30 : decode cX9_worth 30 = .ok (.bipush 10, 2) := by decide +kernel
theorem dX9_worth_32 : decode cX9_worth 32 = .ok (.iload_n 0, 1) := by decide +kernel
theorem dX9_worth_33 : decode cX9_worth 33 = .ok (.imul, 1) := by decide +kernel
theorem dX9_worth_34 : decode cX9_worth 34 = .ok (.sipush 180, 3) := by decide +kernel
theorem dX9_worth_37 : decode cX9_worth 37 = .ok (.isub, 1) := by decide +kernel
theorem dX9_worth_38 : decode cX9_worth 38 = .ok (.goto 4, 3) := by decide +kernel
theorem dX9_worth_41 : decode cX9_worth 41 = .ok (.iconst 0, 1) := by decide +kernel
theorem dX9_worth_42 : decode cX9_worth 42 = .ok (.ireturn, 1) := by decide +kernel
theorem dX9_low_0 : decode cX9_low 0 = .ok (.aload_n 0, 1) := by decide +kernel
theorem dX9_low_1 : decode cX9_low 1 = .ok (.invokevirtual 95, 3) := by decide +kernel
theorem dX9_low_4 : decode cX9_low 4 = .ok (.istore_n 1, 1) := by decide +kernel
theorem dX9_low_5 : decode cX9_low 5 = .ok (.iload_n 1, 1) := by decide +kernel
theorem dX9_low_6 : decode cX9_low 6 = .ok (.invokestatic 99, 3) := by decide +kernel
theorem dX9_low_9 : decode cX9_low 9 = .ok (.istore_n 2, 1) := by decide +kernel
theorem dX9_low_10 : decode cX9_low 10 = .ok (.iload_n 2, 1) := by decide +kernel
theorem dX9_low_11 : decode cX9_low 11 = .ok (.ifCond .ne 5, 3) := by decide +kernel
theorem dX9_low_14 : decode cX9_low 14 = .ok (.iconst 0, 1) := by decide +kernel
theorem dX9_low_15 : decode cX9_low 15 = .ok (.ireturn, 1) := by decide +kernel
theorem dX9_low_16 : decode cX9_low 16 = .ok (.aload_n 0, 1) := by decide +kernel
theorem dX9_low_17 : decode cX9_low 17 = .ok (.dup, 1) := by decide +kernel
theorem dX9_low_18 : decode cX9_low 18 = .ok (.getfield 83, 3) := by decide +kernel
theorem dX9_low_21 : decode cX9_low 21 = .ok (.iconst 1, 1) := by decide +kernel
theorem dX9_low_22 : decode cX9_low 22 = .ok (.iadd, 1) := by decide +kernel
theorem dX9_low_23 : decode cX9_low 23 = .ok (.putfield 83, 3) := by decide +kernel
theorem dX9_low_26 : decode cX9_low 26 = .ok (.iload_n 1, 1) := by decide +kernel
theorem dX9_low_27 : decode cX9_low 27 = .ok (.bipush 19, 2) := by decide +kernel
theorem dX9_low_29 : decode cX9_low 29 = .ok (.if_icmp .le 35, 3) := by decide +kernel
theorem dX9_low_32 : decode cX9_low 32 = .ok (.aload_n 0, 1) := by decide +kernel
theorem dX9_low_33 : decode cX9_low 33 = .ok (.invokevirtual 95, 3) := by decide +kernel
theorem dX9_low_36 : decode cX9_low 36 = .ok (.i2l, 1) := by decide +kernel
theorem dX9_low_37 : decode cX9_low 37 = .ok (.lconst 1, 1) := by decide +kernel
theorem dX9_low_38 : decode cX9_low 38 = .ok (.ldc2_w 102, 3) := by decide +kernel
theorem dX9_low_41 : decode cX9_low 41 = .ok (.invokestatic 75, 3) := by decide +kernel
theorem dX9_low_44 : decode cX9_low 44 = .ok (.ifCond .eq 20, 3) := by decide +kernel
theorem dX9_low_47 : decode cX9_low 47 = .ok (.iload_n 2, 1) := by decide +kernel
theorem dX9_low_48 : decode cX9_low 48 = .ok (.aload_n 0, 1) := by decide +kernel
theorem dX9_low_49 : decode cX9_low 49 = .ok (.invokevirtual 95, 3) := by decide +kernel
theorem dX9_low_52 : decode cX9_low 52 = .ok (.iadd, 1) := by decide +kernel
theorem dX9_low_53 : decode cX9_low 53 = .ok (.istore_n 2, 1) := by decide +kernel
theorem dX9_low_54 : decode cX9_low 54 = .ok (.aload_n 0, 1) := by decide +kernel
theorem dX9_low_55 : decode cX9_low 55 = .ok (.dup, 1) := by decide +kernel
theorem dX9_low_56 : decode cX9_low 56 = .ok (.getfield 83, 3) := by decide +kernel
theorem dX9_low_59 : decode cX9_low 59 = .ok (.iconst 1, 1) := by decide +kernel
theorem dX9_low_60 : decode cX9_low 60 = .ok (.iadd, 1) := by decide +kernel
theorem dX9_low_61 : decode cX9_low 61 = .ok (.putfield 83, 3) := by decide +kernel
theorem dX9_low_64 : decode cX9_low 64 = .ok (.iload_n 2, 1) := by decide +kernel
theorem dX9_low_65 : decode cX9_low 65 = .ok (.ireturn, 1) := by decide +kernel
theorem dX9_more_0 : decode cX9_more 0 = .ok (.aload_n 0, 1) := by decide +kernel
theorem dX9_more_1 : decode cX9_more 1 = .ok (.invokevirtual 95, 3) := by decide +kernel
theorem dX9_more_4 : decode cX9_more 4 = .ok (.bipush 30, 2) := by decide +kernel
theorem dX9_more_6 : decode cX9_more 6 = .ok (.if_icmp .ne 7, 3) := by decide +kernel
theorem dX9_more_9 : decode cX9_more 9 = .ok (.iconst 1, 1) := by decide +kernel
theorem dX9_more_10 : decode cX9_more 10 = .ok (.goto 4, 3) := by decide +kernel
theorem dX9_more_13 : decode cX9_more 13 = .ok (.iconst 0, 1) := by decide +kernel
theorem dX9_more_14 : decode cX9_more 14 = .ok (.istore_n 1, 1) := by decide +kernel
theorem dX9_more_15 : decode cX9_more 15 = .ok (.aload_n 0, 1) := by decide +kernel
theorem dX9_more_16 : decode cX9_more 16 = .ok (.dup, 1) := by decide +kernel
theorem dX9_more_17 : decode cX9_more 17 = .ok (.getfield 83, 3) := by decide +kernel
theorem dX9_more_20 : decode cX9_more 20 = .ok (.iload_n 1, 1) := by decide +kernel
theorem dX9_more_21 : decode cX9_more 21 = .ok (.ifCond .eq 7, 3) := by decide +kernel
theorem dX9_more_24 : decode cX9_more 24 = .ok (.iconst 1, 1) := by decide +kernel
theorem dX9_more_25 : decode cX9_more 25 = .ok (.goto 4, 3) := by decide +kernel
theorem dX9_more_28 : decode cX9_more 28 = .ok (.iconst 0, 1) := by decide +kernel
theorem dX9_more_29 : decode cX9_more 29 = .ok (.iadd, 1) := by decide +kernel
theorem dX9_more_30 : decode cX9_more 30 = .ok (.putfield 83, 3) := by decide +kernel
theorem dX9_more_33 : decode cX9_more 33 = .ok (.aload_n 0, 1) := by decide +kernel
theorem dX9_more_34 : decode cX9_more 34 = .ok (.invokevirtual 104, 3) := by decide +kernel
theorem dX9_more_37 : decode cX9_more 37 = .ok (.istore_n 2, 1) := by decide +kernel
theorem dX9_more_38 : decode cX9_more 38 = .ok (.iload_n 1, 1) := by decide +kernel
theorem dX9_more_39 : decode cX9_more 39 = .ok (.ifCond .eq 12, 3) := by decide +kernel
theorem dX9_more_42 : decode cX9_more 42 = .ok (.iload_n 2, 1) := by decide +kernel
theorem dX9_more_43 : decode cX9_more 43 = .ok (.ifCond .ne 8, 3) := by decide +kernel
theorem dX9_more_46 : decode cX9_more 46 = .ok (.bipush (-4), 2) := by decide +kernel
theorem dX9_more_48 : decode cX9_more 48 = .ok (.goto 4, 3) := by decide +kernel
theorem dX9_more_51 : decode cX9_more 51 = .ok (.iload_n 2, 1) := by decide +kernel
theorem dX9_more_52 : decode cX9_more 52 = .ok (.ireturn, 1) := by decide +kernel
theorem dX9_small_0 : decode cX9_small 0 = .ok (.aload_n 0, 1) := by decide +kernel
theorem dX9_small_1 : decode cX9_small 1 = .ok (.invokevirtual 95, 3) := by decide +kernel
theorem dX9_small_4 : decode cX9_small 4 = .ok (.i2l, 1) := by decide +kernel
theorem dX9_small_5 : decode cX9_small 5 = .ok (.lconst 1, 1) := by decide +kernel
theorem dX9_small_6 : decode cX9_small 6 = .ok (.ldc2_w 102, 3) := by decide +kernel
theorem dX9_small_9 : decode cX9_small 9 = .ok (.invokestatic 75, 3) := by decide +kernel
theorem dX9_small_12 : decode cX9_small 12 = .ok (.ifCond .eq 36, 3) := by decide +kernel
theorem dX9_small_15 : decode cX9_small 15 = .ok (.aload_n 0, 1) := by decide +kernel
theorem dX9_small_16 : decode cX9_small 16 = .ok (.getfield 83, 3) := by decide +kernel
theorem dX9_small_19 : decode cX9_small 19 = .ok (.iconst 1, 1) := by decide +kernel
theorem dX9_small_20 : decode cX9_small 20 = .ok (.iadd, 1) := by decide +kernel
theorem dX9_small_21 : decode cX9_small 21 = .ok (.aload_n 0, 1) := by decide +kernel
theorem dX9_small_22 : decode cX9_small 22 = .ok (.getfield 86, 3) := by decide +kernel
theorem dX9_small_25 : decode cX9_small 25 = .ok (.if_icmp .ge 23, 3) := by decide +kernel
theorem dX9_small_28 : decode cX9_small 28 = .ok (.aload_n 0, 1) := by decide +kernel
theorem dX9_small_29 : decode cX9_small 29 = .ok (.getfield 16, 3) := by decide +kernel
theorem dX9_small_32 : decode cX9_small 32 = .ok (.aload_n 0, 1) := by decide +kernel
theorem dX9_small_33 : decode cX9_small 33 = .ok (.getfield 83, 3) := by decide +kernel
theorem dX9_small_36 : decode cX9_small 36 = .ok (.iconst 1, 1) := by decide +kernel
theorem dX9_small_37 : decode cX9_small 37 = .ok (.iadd, 1) := by decide +kernel
theorem dX9_small_38 : decode cX9_small 38 = .ok (.iaload, 1) := by decide +kernel
theorem dX9_small_39 : decode cX9_small 39 = .ok (.bipush 28, 2) := by decide +kernel
theorem dX9_small_41 : decode cX9_small 41 = .ok (.if_icmp .ne 7, 3) := by decide +kernel
theorem dX9_small_44 : decode cX9_small 44 = .ok (.iconst 1, 1) := by decide +kernel
theorem dX9_small_45 : decode cX9_small 45 = .ok (.goto 4, 3) := by decide +kernel
theorem dX9_small_48 : decode cX9_small 48 = .ok (.iconst 0, 1) := by decide +kernel
theorem dX9_small_49 : decode cX9_small 49 = .ok (.istore_n 1, 1) := by decide +kernel
theorem dX9_small_50 : decode cX9_small 50 = .ok (.iload_n 1, 1) := by decide +kernel
theorem dX9_small_51 : decode cX9_small 51 = .ok (.ifCond .ne 8, 3) := by decide +kernel
theorem dX9_small_54 : decode cX9_small 54 = .ok (.aload_n 0, 1) := by decide +kernel
theorem dX9_small_55 : decode cX9_small 55 = .ok (.invokevirtual 104, 3) := by decide +kernel
theorem dX9_small_58 : decode cX9_small 58 = .ok (.ireturn, 1) := by decide +kernel
theorem dX9_small_59 : decode cX9_small 59 = .ok (.bipush 100, 2) := by decide +kernel
theorem dX9_small_61 : decode cX9_small 61 = .ok (.aload_n 0, 1) := by decide +kernel
theorem dX9_small_62 : decode cX9_small 62 = .ok (.invokevirtual 95, 3) := by decide +kernel
theorem dX9_small_65 : decode cX9_small 65 = .ok (.imul, 1) := by decide +kernel
theorem dX9_small_66 : decode cX9_small 66 = .ok (.istore_n 2, 1) := by decide +kernel
theorem dX9_small_67 : decode cX9_small 67 = .ok (.aload_n 0, 1) := by decide +kernel
theorem dX9_small_68 : decode cX9_small 68 = .ok (.dup, 1) := by decide +kernel
theorem dX9_small_69 : decode cX9_small 69 = .ok (.getfield 83, 3) := by decide +kernel
theorem dX9_small_72 : decode cX9_small 72 = .ok (.iconst 2, 1) := by decide +kernel
theorem dX9_small_73 : decode cX9_small 73 = .ok (.iadd, 1) := by decide +kernel
theorem dX9_small_74 : decode cX9_small 74 = .ok (.putfield 83, 3) := by decide +kernel
theorem dX9_small_77 : decode cX9_small 77 = .ok (.aload_n 0, 1) := by decide +kernel
theorem dX9_small_78 : decode cX9_small 78 = .ok (.invokevirtual 107, 3) := by decide +kernel
theorem dX9_small_81 : decode cX9_small 81 = .ok (.istore_n 3, 1) := by decide +kernel
theorem dX9_small_82 : decode cX9_small 82 = .ok (.iload_n 3, 1) := by decide +kernel
theorem dX9_small_83 : decode cX9_small 83 = .ok (.ifCond .ge 8, 3) := by decide +kernel
theorem dX9_small_86 : decode cX9_small 86 = .ok (.bipush (-4), 2) := by decide +kernel
theorem dX9_small_88 : decode cX9_small 88 = .ok (.goto 6, 3) := by decide +kernel
theorem dX9_small_91 : decode cX9_small 91 = .ok (.iload_n 2, 1) := by decide +kernel
theorem dX9_small_92 : decode cX9_small 92 = .ok (.iload_n 3, 1) := by decide +kernel
theorem dX9_small_93 : decode cX9_small 93 = .ok (.iadd, 1) := by decide +kernel
theorem dX9_small_94 : decode cX9_small 94 = .ok (.ireturn, 1) := by decide +kernel
theorem dX9_number_0 : decode cX9_number 0 = .ok (.aload_n 0, 1) := by decide +kernel
theorem dX9_number_1 : decode cX9_number 1 = .ok (.invokevirtual 110, 3) := by decide +kernel
theorem dX9_number_4 : decode cX9_number 4 = .ok (.istore_n 1, 1) := by decide +kernel
theorem dX9_number_5 : decode cX9_number 5 = .ok (.iload_n 1, 1) := by decide +kernel
theorem dX9_number_6 : decode cX9_number 6 = .ok (.ifCond .le 12, 3) := by decide +kernel
theorem dX9_number_9 : decode cX9_number 9 = .ok (.aload_n 0, 1) := by decide +kernel
theorem dX9_number_10 : decode cX9_number 10 = .ok (.invokevirtual 95, 3) := by decide +kernel
theorem dX9_number_13 : decode cX9_number 13 = .ok (.bipush 29, 2) := by decide +kernel
theorem dX9_number_15 : decode cX9_number 15 = .ok (.if_icmp .eq 5, 3) := by decide +kernel
theorem dX9_number_18 : decode cX9_number 18 = .ok (.iload_n 1, 1) := by decide +kernel
theorem dX9_number_19 : decode cX9_number 19 = .ok (.ireturn, 1) := by decide +kernel
theorem dX9_number_20 : decode cX9_number 20 = .ok (.aload_n 0, 1) := by decide +kernel
theorem dX9_number_21 : decode cX9_number 21 = .ok (.dup, 1) := by decide +kernel
theorem dX9_number_22 : decode cX9_number 22 = .ok (.getfield 83, 3) := by decide +kernel
theorem dX9_number_25 : decode cX9_number 25 = .ok (.iconst 1, 1) := by decide +kernel
theorem dX9_number_26 : decode cX9_number 26 = .ok (.iadd, 1) := by decide +kernel
theorem dX9_number_27 : decode cX9_number 27 = .ok (.putfield 83, 3) := by decide +kernel
theorem dX9_number_30 : decode cX9_number 30 = .ok (.aload_n 0, 1) := by decide +kernel
theorem dX9_number_31 : decode cX9_number 31 = .ok (.invokevirtual 95, 3) := by decide +kernel
theorem dX9_number_34 : decode cX9_number 34 = .ok (.bipush 30, 2) := by decide +kernel
theorem dX9_number_36 : decode cX9_number 36 = .ok (.if_icmp .ne 10, 3) := by decide +kernel
theorem dX9_number_39 : decode cX9_number 39 = .ok (.aload_n 0, 1) := by decide +kernel
theorem dX9_number_40 : decode cX9_number 40 = .ok (.invokevirtual 107, 3) := by decide +kernel
theorem dX9_number_43 : decode cX9_number 43 = .ok (.goto 7, 3) := by decide +kernel
theorem dX9_number_46 : decode cX9_number 46 = .ok (.aload_n 0, 1) := by decide +kernel
theorem dX9_number_47 : decode cX9_number 47 = .ok (.invokevirtual 110, 3) := by decide +kernel
theorem dX9_number_50 : decode cX9_number 50 = .ok (.istore_n 2, 1) := by decide +kernel
theorem dX9_number_51 : decode cX9_number 51 = .ok (.iload_n 2, 1) := by decide +kernel
theorem dX9_number_52 : decode cX9_number 52 = .ok (.ifCond .ge 8, 3) := by decide +kernel
theorem dX9_number_55 : decode cX9_number 55 = .ok (.bipush (-4), 2) := by decide +kernel
theorem dX9_number_57 : decode cX9_number 57 = .ok (.goto 10, 3) := by decide +kernel
theorem dX9_number_60 : decode cX9_number 60 = .ok (.sipush 1000, 3) := by decide +kernel
theorem dX9_number_63 : decode cX9_number 63 = .ok (.iload_n 1, 1) := by decide +kernel
theorem dX9_number_64 : decode cX9_number 64 = .ok (.imul, 1) := by decide +kernel
theorem dX9_number_65 : decode cX9_number 65 = .ok (.iload_n 2, 1) := by decide +kernel
theorem dX9_number_66 : decode cX9_number 66 = .ok (.iadd, 1) := by decide +kernel
theorem dX9_number_67 : decode cX9_number 67 = .ok (.ireturn, 1) := by decide +kernel
theorem dX9_isSaid_0 : decode cX9_isSaid 0 = .ok (.aload_n 0, 1) := by decide +kernel
theorem dX9_isSaid_1 : decode cX9_isSaid 1 = .ok (.iconst 0, 1) := by decide +kernel
theorem dX9_isSaid_2 : decode cX9_isSaid 2 = .ok (.putfield 83, 3) := by decide +kernel
theorem dX9_isSaid_5 : decode cX9_isSaid 5 = .ok (.aload_n 0, 1) := by decide +kernel
theorem dX9_isSaid_6 : decode cX9_isSaid 6 = .ok (.iconst 0, 1) := by decide +kernel
theorem dX9_isSaid_7 : decode cX9_isSaid 7 = .ok (.putfield 113, 3) := by decide +kernel
theorem dX9_isSaid_10 : decode cX9_isSaid 10 = .ok (.iconst 1, 1) := by decide +kernel
theorem dX9_isSaid_11 : decode cX9_isSaid 11 = .ok (.istore_n 1, 1) := by decide +kernel
theorem dX9_isSaid_12 : decode cX9_isSaid 12 = .ok (.iconst 1, 1) := by decide +kernel
theorem dX9_isSaid_13 : decode cX9_isSaid 13 = .ok (.istore_n 2, 1) := by decide +kernel
theorem dX9_isSaid_14 : decode cX9_isSaid 14 = .ok (.iload_n 1, 1) := by decide +kernel
theorem dX9_isSaid_15 : decode cX9_isSaid 15 = .ok (.ifCond .eq 93, 3) := by decide +kernel
theorem dX9_isSaid_18 : decode cX9_isSaid 18 = .ok (.iload_n 2, 1) := by decide +kernel
theorem dX9_isSaid_19 : decode cX9_isSaid 19 = .ok (.ifCond .eq 89, 3) := by decide +kernel
theorem dX9_isSaid_22 : decode cX9_isSaid 22 = .ok (.aload_n 0, 1) := by decide +kernel
theorem dX9_isSaid_23 : decode cX9_isSaid 23 = .ok (.invokevirtual 116, 3) := by decide +kernel
theorem dX9_isSaid_26 : decode cX9_isSaid 26 = .ok (.istore_n 3, 1) := by decide +kernel
theorem dX9_isSaid_27 : decode cX9_isSaid 27 = .ok (.aload_n 0, 1) := by decide +kernel
theorem dX9_isSaid_28 : decode cX9_isSaid 28 = .ok (.invokevirtual 95, 3) := by decide +kernel
theorem dX9_isSaid_31 : decode cX9_isSaid 31 = .ok (.bipush 31, 2) := by decide +kernel
theorem dX9_isSaid_33 : decode cX9_isSaid 33 = .ok (.if_icmp .ne 7, 3) := by decide +kernel
theorem dX9_isSaid_36 : decode cX9_isSaid 36 = .ok (.iconst 1, 1) := by decide +kernel
theorem dX9_isSaid_37 : decode cX9_isSaid 37 = .ok (.goto 4, 3) := by decide +kernel
theorem dX9_isSaid_40 : decode cX9_isSaid 40 = .ok (.iconst 0, 1) := by decide +kernel
theorem dX9_isSaid_41 : decode cX9_isSaid 41 = .ok (.istore_n 2, 1) := by decide +kernel
theorem dX9_isSaid_42 : decode cX9_isSaid 42 = .ok (.iload_n 3, 1) := by decide +kernel
theorem dX9_isSaid_43 : decode cX9_isSaid 43 = .ok (.ifCond .le 22, 3) := by decide +kernel
theorem dX9_isSaid_46 : decode cX9_isSaid 46 = .ok (.iload_n 2, 1) := by decide +kernel
theorem dX9_isSaid_47 : decode cX9_isSaid 47 = .ok (.ifCond .ne 14, 3) := by decide +kernel
theorem dX9_isSaid_50 : decode cX9_isSaid 50 = .ok (.aload_n 0, 1) := by decide +kernel
theorem dX9_isSaid_51 : decode cX9_isSaid 51 = .ok (.getfield 83, 3) := by decide +kernel
theorem dX9_isSaid_54 : decode cX9_isSaid 54 = .ok (.aload_n 0, 1) := by decide +kernel
theorem dX9_isSaid_55 : decode cX9_isSaid 55 = .ok (.getfield 86, 3) := by decide +kernel
theorem dX9_isSaid_58 : decode cX9_isSaid 58 = .ok (.if_icmp .ne 7, 3) := by decide +kernel
theorem dX9_isSaid_61 : decode cX9_isSaid 61 = .ok (.iconst 1, 1) := by decide +kernel
theorem dX9_isSaid_62 : decode cX9_isSaid 62 = .ok (.goto 4, 3) := by decide +kernel
theorem dX9_isSaid_65 : decode cX9_isSaid 65 = .ok (.iconst 0, 1) := by decide +kernel
theorem dX9_isSaid_66 : decode cX9_isSaid 66 = .ok (.istore_n 1, 1) := by decide +kernel
theorem dX9_isSaid_67 : decode cX9_isSaid 67 = .ok (.aload_n 0, 1) := by decide +kernel
theorem dX9_isSaid_68 : decode cX9_isSaid 68 = .ok (.getfield 19, 3) := by decide +kernel
theorem dX9_isSaid_71 : decode cX9_isSaid 71 = .ok (.aload_n 0, 1) := by decide +kernel
theorem dX9_isSaid_72 : decode cX9_isSaid 72 = .ok (.getfield 113, 3) := by decide +kernel
theorem dX9_isSaid_75 : decode cX9_isSaid 75 = .ok (.iload_n 3, 1) := by decide +kernel
theorem dX9_isSaid_76 : decode cX9_isSaid 76 = .ok (.iastore, 1) := by decide +kernel
theorem dX9_isSaid_77 : decode cX9_isSaid 77 = .ok (.aload_n 0, 1) := by decide +kernel
theorem dX9_isSaid_78 : decode cX9_isSaid 78 = .ok (.dup, 1) := by decide +kernel
theorem dX9_isSaid_79 : decode cX9_isSaid 79 = .ok (.getfield 113, 3) := by decide +kernel
theorem dX9_isSaid_82 : decode cX9_isSaid 82 = .ok (.iconst 1, 1) := by decide +kernel
theorem dX9_isSaid_83 : decode cX9_isSaid 83 = .ok (.iadd, 1) := by decide +kernel
theorem dX9_isSaid_84 : decode cX9_isSaid 84 = .ok (.putfield 113, 3) := by decide +kernel
theorem dX9_isSaid_87 : decode cX9_isSaid 87 = .ok (.aload_n 0, 1) := by decide +kernel
theorem dX9_isSaid_88 : decode cX9_isSaid 88 = .ok (.dup, 1) := by decide +kernel
theorem dX9_isSaid_89 : decode cX9_isSaid 89 = .ok (.getfield 83, 3) := by decide +kernel
theorem dX9_isSaid_92 : decode cX9_isSaid 92 = .ok (.iload_n 2, 1) := by decide +kernel
theorem dX9_isSaid_93 : decode cX9_isSaid 93 = .ok (.ifCond .eq 7, 3) := by decide +kernel
theorem dX9_isSaid_96 : decode cX9_isSaid 96 = .ok (.iconst 1, 1) := by decide +kernel
theorem dX9_isSaid_97 : decode cX9_isSaid 97 = .ok (.goto 4, 3) := by decide +kernel
theorem dX9_isSaid_100 : decode cX9_isSaid 100 = .ok (.iconst 0, 1) := by decide +kernel
theorem dX9_isSaid_101 : decode cX9_isSaid 101 = .ok (.iadd, 1) := by decide +kernel
theorem dX9_isSaid_102 : decode cX9_isSaid 102 = .ok (.putfield 83, 3) := by decide +kernel
theorem dX9_isSaid_105 : decode cX9_isSaid 105 = .ok (.goto (-91), 3) := by decide +kernel
theorem dX9_isSaid_108 : decode cX9_isSaid 108 = .ok (.iload_n 1, 1) := by decide +kernel
theorem dX9_isSaid_109 : decode cX9_isSaid 109 = .ok (.ireturn, 1) := by decide +kernel
theorem dX9_holds_0 : decode cX9_holds 0 = .ok (.aload_n 0, 1) := by decide +kernel
theorem dX9_holds_1 : decode cX9_holds 1 = .ok (.getfield 19, 3) := by decide +kernel
theorem dX9_holds_4 : decode cX9_holds 4 = .ok (.aload_n 0, 1) := by decide +kernel
theorem dX9_holds_5 : decode cX9_holds 5 = .ok (.getfield 113, 3) := by decide +kernel
theorem dX9_holds_8 : decode cX9_holds 8 = .ok (.iconst 1, 1) := by decide +kernel
theorem dX9_holds_9 : decode cX9_holds 9 = .ok (.isub, 1) := by decide +kernel
theorem dX9_holds_10 : decode cX9_holds 10 = .ok (.iaload, 1) := by decide +kernel
theorem dX9_holds_11 : decode cX9_holds 11 = .ok (.istore_n 1, 1) := by decide +kernel
theorem dX9_holds_12 : decode cX9_holds 12 = .ok (.iconst 0, 1) := by decide +kernel
theorem dX9_holds_13 : decode cX9_holds 13 = .ok (.istore_n 2, 1) := by decide +kernel
theorem dX9_holds_14 : decode cX9_holds 14 = .ok (.iconst 1, 1) := by decide +kernel
theorem dX9_holds_15 : decode cX9_holds 15 = .ok (.istore_n 3, 1) := by decide +kernel
theorem dX9_holds_16 : decode cX9_holds 16 = .ok (.iconst 1, 1) := by decide +kernel
theorem dX9_holds_17 : decode cX9_holds 17 = .ok (.istore 4, 2) := by decide +kernel
theorem dX9_holds_19 : decode cX9_holds 19 = .ok (.iconst 0, 1) := by decide +kernel
theorem dX9_holds_20 : decode cX9_holds 20 = .ok (.istore 5, 2) := by decide +kernel
theorem dX9_holds_22 : decode cX9_holds 22 = .ok (.iload 5, 2) := by decide +kernel
theorem dX9_holds_24 : decode cX9_holds 24 = .ok (.iconst 1, 1) := by decide +kernel
theorem dX9_holds_25 : decode cX9_holds 25 = .ok (.iadd, 1) := by decide +kernel
theorem dX9_holds_26 : decode cX9_holds 26 = .ok (.aload_n 0, 1) := by decide +kernel
theorem dX9_holds_27 : decode cX9_holds 27 = .ok (.getfield 113, 3) := by decide +kernel
theorem dX9_holds_30 : decode cX9_holds 30 = .ok (.if_icmp .ge 93, 3) := by decide +kernel
theorem dX9_holds_33 : decode cX9_holds 33 = .ok (.iload_n 2, 1) := by decide +kernel
theorem dX9_holds_34 : decode cX9_holds 34 = .ok (.aload_n 0, 1) := by decide +kernel
theorem dX9_holds_35 : decode cX9_holds 35 = .ok (.getfield 19, 3) := by decide +kernel
theorem dX9_holds_38 : decode cX9_holds 38 = .ok (.iload 5, 2) := by decide +kernel
theorem dX9_holds_40 : decode cX9_holds 40 = .ok (.iaload, 1) := by decide +kernel
theorem dX9_holds_41 : decode cX9_holds 41 = .ok (.iadd, 1) := by decide +kernel
theorem dX9_holds_42 : decode cX9_holds 42 = .ok (.istore_n 2, 1) := by decide +kernel
theorem dX9_holds_43 : decode cX9_holds 43 = .ok (.iload_n 3, 1) := by decide +kernel
theorem dX9_holds_44 : decode cX9_holds 44 = .ok (.ifCond .eq 26, 3) := by decide +kernel
theorem dX9_holds_47 : decode cX9_holds 47 = .ok (.aload_n 0, 1) := by decide +kernel
theorem dX9_holds_48 : decode cX9_holds 48 = .ok (.getfield 19, 3) := by decide +kernel
theorem dX9_holds_51 : decode cX9_holds 51 = .ok (.iload 5, 2) := by decide +kernel
theorem dX9_holds_53 : decode cX9_holds 53 = .ok (.iconst 1, 1) := by decide +kernel
theorem dX9_holds_54 : decode cX9_holds 54 = .ok (.iadd, 1) := by decide +kernel
theorem dX9_holds_55 : decode cX9_holds 55 = .ok (.iaload, 1) := by decide +kernel
theorem dX9_holds_56 : decode cX9_holds 56 = .ok (.aload_n 0, 1) := by decide +kernel
theorem dX9_holds_57 : decode cX9_holds 57 = .ok (.getfield 19, 3) := by decide +kernel
theorem dX9_holds_60 : decode cX9_holds 60 = .ok (.iload 5, 2) := by decide +kernel
theorem dX9_holds_62 : decode cX9_holds 62 = .ok (.iaload, 1) := by decide +kernel
theorem dX9_holds_63 : decode cX9_holds 63 = .ok (.if_icmp .le 7, 3) := by decide +kernel
theorem dX9_holds_66 : decode cX9_holds 66 = .ok (.iconst 1, 1) := by decide +kernel
theorem dX9_holds_67 : decode cX9_holds 67 = .ok (.goto 4, 3) := by decide +kernel
theorem dX9_holds_70 : decode cX9_holds 70 = .ok (.iconst 0, 1) := by decide +kernel
theorem dX9_holds_71 : decode cX9_holds 71 = .ok (.istore_n 3, 1) := by decide +kernel
theorem dX9_holds_72 : decode cX9_holds 72 = .ok (.iload 4, 2) := by decide +kernel
theorem dX9_holds_74 : decode cX9_holds 74 = .ok (.ifCond .eq 40, 3) := by decide +kernel
theorem dX9_holds_77 : decode cX9_holds 77 = .ok (.aload_n 0, 1) := by decide +kernel
theorem dX9_holds_78 : decode cX9_holds 78 = .ok (.getfield 19, 3) := by decide +kernel
theorem dX9_holds_81 : decode cX9_holds 81 = .ok (.iload 5, 2) := by decide +kernel
theorem dX9_holds_83 : decode cX9_holds 83 = .ok (.iconst 1, 1) := by decide +kernel
theorem dX9_holds_84 : decode cX9_holds 84 = .ok (.iadd, 1) := by decide +kernel
theorem dX9_holds_85 : decode cX9_holds 85 = .ok (.iaload, 1) := by decide +kernel
theorem dX9_holds_86 : decode cX9_holds 86 = .ok (.aload_n 0, 1) := by decide +kernel
theorem dX9_holds_87 : decode cX9_holds 87 = .ok (.getfield 19, 3) := by decide +kernel
theorem dX9_holds_90 : decode cX9_holds 90 = .ok (.iload 5, 2) := by decide +kernel
theorem dX9_holds_92 : decode cX9_holds 92 = .ok (.iaload, 1) := by decide +kernel
theorem dX9_holds_93 : decode cX9_holds 93 = .ok (.isub, 1) := by decide +kernel
theorem dX9_holds_94 : decode cX9_holds 94 = .ok (.aload_n 0, 1) := by decide +kernel
theorem dX9_holds_95 : decode cX9_holds 95 = .ok (.getfield 19, 3) := by decide +kernel
theorem dX9_holds_98 : decode cX9_holds 98 = .ok (.iconst 1, 1) := by decide +kernel
theorem dX9_holds_99 : decode cX9_holds 99 = .ok (.iaload, 1) := by decide +kernel
theorem dX9_holds_100 : decode cX9_holds 100 = .ok (.aload_n 0, 1) := by decide +kernel
theorem dX9_holds_101 : decode cX9_holds 101 = .ok (.getfield 19, 3) := by decide +kernel
theorem dX9_holds_104 : decode cX9_holds 104 = .ok (.iconst 0, 1) := by decide +kernel
theorem dX9_holds_105 : decode cX9_holds 105 = .ok (.iaload, 1) := by decide +kernel
theorem dX9_holds_106 : decode cX9_holds 106 = .ok (.isub, 1) := by decide +kernel
theorem dX9_holds_107 : decode cX9_holds 107 = .ok (.if_icmp .ne 7, 3) := by decide +kernel
theorem dX9_holds_110 : decode cX9_holds 110 = .ok (.iconst 1, 1) := by decide +kernel
theorem dX9_holds_111 : decode cX9_holds 111 = .ok (.goto 4, 3) := by decide +kernel
theorem dX9_holds_114 : decode cX9_holds 114 = .ok (.iconst 0, 1) := by decide +kernel
theorem dX9_holds_115 : decode cX9_holds 115 = .ok (.istore 4, 2) := by decide +kernel
theorem dX9_holds_117 : decode cX9_holds 117 = .ok (.iinc 5 1, 3) := by decide +kernel
theorem dX9_holds_120 : decode cX9_holds 120 = .ok (.goto (-98), 3) := by decide +kernel
theorem dX9_holds_123 : decode cX9_holds 123 = .ok (.aload_n 0, 1) := by decide +kernel
theorem dX9_holds_124 : decode cX9_holds 124 = .ok (.getfield 7, 3) := by decide +kernel
theorem dX9_holds_127 : decode cX9_holds 127 = .ok (.iconst 1, 1) := by decide +kernel
theorem dX9_holds_128 : decode cX9_holds 128 = .ok (.iaload, 1) := by decide +kernel
theorem dX9_holds_129 : decode cX9_holds 129 = .ok (.tableswitch 92 1 4 #[31, 50, 52, 77], 31) := by decide +kernel
theorem dX9_holds_160 : decode cX9_holds 160 = .ok (.aload_n 0, 1) := by decide +kernel
theorem dX9_holds_161 : decode cX9_holds 161 = .ok (.getfield 113, 3) := by decide +kernel
theorem dX9_holds_164 : decode cX9_holds 164 = .ok (.iconst 1, 1) := by decide +kernel
theorem dX9_holds_165 : decode cX9_holds 165 = .ok (.if_icmp .le 12, 3) := by decide +kernel
theorem dX9_holds_168 : decode cX9_holds 168 = .ok (.iload_n 2, 1) := by decide +kernel
theorem dX9_holds_169 : decode cX9_holds 169 = .ok (.iload_n 1, 1) := by decide +kernel
theorem dX9_holds_170 : decode cX9_holds 170 = .ok (.if_icmp .ne 7, 3) := by decide +kernel
theorem dX9_holds_173 : decode cX9_holds 173 = .ok (.iconst 1, 1) := by decide +kernel
theorem dX9_holds_174 : decode cX9_holds 174 = .ok (.goto 4, 3) := by decide +kernel
theorem dX9_holds_177 : decode cX9_holds 177 = .ok (.iconst 0, 1) := by decide +kernel
theorem dX9_holds_178 : decode cX9_holds 178 = .ok (.ireturn, 1) := by decide +kernel
theorem dX9_holds_179 : decode cX9_holds 179 = .ok (.iload_n 3, 1) := by decide +kernel
theorem dX9_holds_180 : decode cX9_holds 180 = .ok (.ireturn, 1) := by decide +kernel
theorem dX9_holds_181 : decode cX9_holds 181 = .ok (.aload_n 0, 1) := by decide +kernel
theorem dX9_holds_182 : decode cX9_holds 182 = .ok (.getfield 113, 3) := by decide +kernel
theorem dX9_holds_185 : decode cX9_holds 185 = .ok (.iconst 1, 1) := by decide +kernel
theorem dX9_holds_186 : decode cX9_holds 186 = .ok (.if_icmp .le 18, 3) := by decide +kernel
theorem dX9_holds_189 : decode cX9_holds 189 = .ok (.iload_n 2, 1) := by decide +kernel
theorem dX9_holds_190 : decode cX9_holds 190 = .ok (.bipush 100, 2) := by decide +kernel
theorem dX9_holds_192 : decode cX9_holds 192 = .ok (.irem, 1) := by decide +kernel
theorem dX9_holds_193 : decode cX9_holds 193 = .ok (.iload_n 1, 1) := by decide +kernel
theorem dX9_holds_194 : decode cX9_holds 194 = .ok (.bipush 100, 2) := by decide +kernel
theorem dX9_holds_196 : decode cX9_holds 196 = .ok (.irem, 1) := by decide +kernel
theorem dX9_holds_197 : decode cX9_holds 197 = .ok (.if_icmp .ne 7, 3) := by decide +kernel
theorem dX9_holds_200 : decode cX9_holds 200 = .ok (.iconst 1, 1) := by decide +kernel
theorem dX9_holds_201 : decode cX9_holds 201 = .ok (.goto 4, 3) := by decide +kernel
theorem dX9_holds_204 : decode cX9_holds 204 = .ok (.iconst 0, 1) := by decide +kernel
theorem dX9_holds_205 : decode cX9_holds 205 = .ok (.ireturn, 1) := by decide +kernel
theorem dX9_holds_206 : decode cX9_holds 206 = .ok (.iload_n 3, 1) := by decide +kernel
theorem dX9_holds_207 : decode cX9_holds 207 = .ok (.ifCond .eq 12, 3) := by decide +kernel
theorem dX9_holds_210 : decode cX9_holds 210 = .ok (.iload 4, 2) := by decide +kernel
theorem dX9_holds_212 : decode cX9_holds 212 = .ok (.ifCond .eq 7, 3) := by decide +kernel
theorem dX9_holds_215 : decode cX9_holds 215 = .ok (.iconst 1, 1) := by decide +kernel
theorem dX9_holds_216 : decode cX9_holds 216 = .ok (.goto 4, 3) := by decide +kernel
theorem dX9_holds_219 : decode cX9_holds 219 = .ok (.iconst 0, 1) := by decide +kernel
theorem dX9_holds_220 : decode cX9_holds 220 = .ok (.ireturn, 1) := by decide +kernel
theorem dX9_holds_221 : decode cX9_holds 221 = .ok (.iconst 1, 1) := by decide +kernel
theorem dX9_holds_222 : decode cX9_holds 222 = .ok (.ireturn, 1) := by decide +kernel
theorem dX9_readings_0 : decode cX9_readings 0 = .ok (.aload_n 0, 1) := by decide +kernel
theorem dX9_readings_1 : decode cX9_readings 1 = .ok (.getfield 7, 3) := by decide +kernel
theorem dX9_readings_4 : decode cX9_readings 4 = .ok (.iconst 0, 1) := by decide +kernel
theorem dX9_readings_5 : decode cX9_readings 5 = .ok (.iaload, 1) := by decide +kernel
theorem dX9_readings_6 : decode cX9_readings 6 = .ok (.ifCond .ne 7, 3) := by decide +kernel
theorem dX9_readings_9 : decode cX9_readings 9 = .ok (.iconst 0, 1) := by decide +kernel
theorem dX9_readings_10 : decode cX9_readings 10 = .ok (.goto 4, 3) := by decide +kernel
theorem dX9_readings_13 : decode cX9_readings 13 = .ok (.iconst 1, 1) := by decide +kernel
theorem dX9_readings_14 : decode cX9_readings 14 = .ok (.istore_n 1, 1) := by decide +kernel
theorem dX9_readings_15 : decode cX9_readings 15 = .ok (.iconst 0, 1) := by decide +kernel
theorem dX9_readings_16 : decode cX9_readings 16 = .ok (.istore_n 2, 1) := by decide +kernel
theorem dX9_readings_17 : decode cX9_readings 17 = .ok (.iload_n 2, 1) := by decide +kernel
theorem dX9_readings_18 : decode cX9_readings 18 = .ok (.aload_n 0, 1) := by decide +kernel
theorem dX9_readings_19 : decode cX9_readings 19 = .ok (.getfield 7, 3) := by decide +kernel
theorem dX9_readings_22 : decode cX9_readings 22 = .ok (.iconst 0, 1) := by decide +kernel
theorem dX9_readings_23 : decode cX9_readings 23 = .ok (.iaload, 1) := by decide +kernel
theorem dX9_readings_24 : decode cX9_readings 24 = .ok (.if_icmp .ge 22, 3) := by decide +kernel
theorem dX9_readings_27 : decode cX9_readings 27 = .ok (.iload_n 1, 1) := by decide +kernel
theorem dX9_readings_28 : decode cX9_readings 28 = .ok (.aload_n 0, 1) := by decide +kernel
theorem dX9_readings_29 : decode cX9_readings 29 = .ok (.getfield 7, 3) := by decide +kernel
theorem dX9_readings_32 : decode cX9_readings 32 = .ok (.aload_n 0, 1) := by decide +kernel
theorem dX9_readings_33 : decode cX9_readings 33 = .ok (.iload_n 2, 1) := by decide +kernel
theorem dX9_readings_34 : decode cX9_readings 34 = .ok (.invokevirtual 79, 3) := by decide +kernel
theorem dX9_readings_37 : decode cX9_readings 37 = .ok (.iaload, 1) := by decide +kernel
theorem dX9_readings_38 : decode cX9_readings 38 = .ok (.imul, 1) := by decide +kernel
theorem dX9_readings_39 : decode cX9_readings 39 = .ok (.istore_n 1, 1) := by decide +kernel
theorem dX9_readings_40 : decode cX9_readings 40 = .ok (.iinc 2 1, 3) := by decide +kernel
theorem dX9_readings_43 : decode cX9_readings 43 = .ok (.goto (-26), 3) := by decide +kernel
theorem dX9_readings_46 : decode cX9_readings 46 = .ok (.iload_n 1, 1) := by decide +kernel
theorem dX9_readings_47 : decode cX9_readings 47 = .ok (.ireturn, 1) := by decide +kernel
theorem dX9_takes_0 : decode cX9_takes 0 = .ok (.iload_n 1, 1) := by decide +kernel
theorem dX9_takes_1 : decode cX9_takes 1 = .ok (.istore_n 2, 1) := by decide +kernel
theorem dX9_takes_2 : decode cX9_takes 2 = .ok (.aload_n 0, 1) := by decide +kernel
theorem dX9_takes_3 : decode cX9_takes 3 = .ok (.getfield 7, 3) := by decide +kernel
theorem dX9_takes_6 : decode cX9_takes 6 = .ok (.iconst 0, 1) := by decide +kernel
theorem dX9_takes_7 : decode cX9_takes 7 = .ok (.iaload, 1) := by decide +kernel
theorem dX9_takes_8 : decode cX9_takes 8 = .ok (.iconst 1, 1) := by decide +kernel
theorem dX9_takes_9 : decode cX9_takes 9 = .ok (.isub, 1) := by decide +kernel
theorem dX9_takes_10 : decode cX9_takes 10 = .ok (.istore_n 3, 1) := by decide +kernel
theorem dX9_takes_11 : decode cX9_takes 11 = .ok (.iload_n 3, 1) := by decide +kernel
theorem dX9_takes_12 : decode cX9_takes 12 = .ok (.ifCond .lt 40, 3) := by decide +kernel
theorem dX9_takes_15 : decode cX9_takes 15 = .ok (.aload_n 0, 1) := by decide +kernel
theorem dX9_takes_16 : decode cX9_takes 16 = .ok (.getfield 13, 3) := by decide +kernel
theorem dX9_takes_19 : decode cX9_takes 19 = .ok (.iload_n 3, 1) := by decide +kernel
theorem dX9_takes_20 : decode cX9_takes 20 = .ok (.iload_n 2, 1) := by decide +kernel
theorem dX9_takes_21 : decode cX9_takes 21 = .ok (.aload_n 0, 1) := by decide +kernel
theorem dX9_takes_22 : decode cX9_takes 22 = .ok (.getfield 7, 3) := by decide +kernel
theorem dX9_takes_25 : decode cX9_takes 25 = .ok (.aload_n 0, 1) := by decide +kernel
theorem dX9_takes_26 : decode cX9_takes 26 = .ok (.iload_n 3, 1) := by decide +kernel
theorem dX9_takes_27 : decode cX9_takes 27 = .ok (.invokevirtual 79, 3) := by decide +kernel
theorem dX9_takes_30 : decode cX9_takes 30 = .ok (.iaload, 1) := by decide +kernel
theorem dX9_takes_31 : decode cX9_takes 31 = .ok (.irem, 1) := by decide +kernel
theorem dX9_takes_32 : decode cX9_takes 32 = .ok (.iastore, 1) := by decide +kernel
theorem dX9_takes_33 : decode cX9_takes 33 = .ok (.iload_n 2, 1) := by decide +kernel
theorem dX9_takes_34 : decode cX9_takes 34 = .ok (.aload_n 0, 1) := by decide +kernel
theorem dX9_takes_35 : decode cX9_takes 35 = .ok (.getfield 7, 3) := by decide +kernel
theorem dX9_takes_38 : decode cX9_takes 38 = .ok (.aload_n 0, 1) := by decide +kernel
theorem dX9_takes_39 : decode cX9_takes 39 = .ok (.iload_n 3, 1) := by decide +kernel
theorem dX9_takes_40 : decode cX9_takes 40 = .ok (.invokevirtual 79, 3) := by decide +kernel
theorem dX9_takes_43 : decode cX9_takes 43 = .ok (.iaload, 1) := by decide +kernel
theorem dX9_takes_44 : decode cX9_takes 44 = .ok (.idiv, 1) := by decide +kernel
theorem dX9_takes_45 : decode cX9_takes 45 = .ok (.istore_n 2, 1) := by decide +kernel
theorem dX9_takes_46 : decode cX9_takes 46 = .ok (.iinc 3 (-1), 3) := by decide +kernel
theorem dX9_takes_49 : decode cX9_takes 49 = .ok (.goto (-38), 3) := by decide +kernel
theorem dX9_takes_52 : decode cX9_takes 52 = .ok (.aload_n 0, 1) := by decide +kernel
theorem dX9_takes_53 : decode cX9_takes 53 = .ok (.invokevirtual 119, 3) := by decide +kernel
theorem dX9_takes_56 : decode cX9_takes 56 = .ok (.ireturn, 1) := by decide +kernel
theorem dX9_takesPicked_0 : decode cX9_takesPicked 0 = .ok (.aload_n 0, 1) := by decide +kernel
theorem dX9_takesPicked_1 : decode cX9_takesPicked 1 = .ok (.iconst 0, 1) := by decide +kernel
theorem dX9_takesPicked_2 : decode cX9_takesPicked 2 = .ok (.putfield 86, 3) := by decide +kernel
theorem dX9_takesPicked_5 : decode cX9_takesPicked 5 = .ok (.aload_n 0, 1) := by decide +kernel
theorem dX9_takesPicked_6 : decode cX9_takesPicked 6 = .ok (.iconst 0, 1) := by decide +kernel
theorem dX9_takesPicked_7 : decode cX9_takesPicked 7 = .ok (.putfield 123, 3) := by decide +kernel
theorem dX9_takesPicked_10 : decode cX9_takesPicked 10 = .ok (.iconst 0, 1) := by decide +kernel
theorem dX9_takesPicked_11 : decode cX9_takesPicked 11 = .ok (.istore_n 1, 1) := by decide +kernel
theorem dX9_takesPicked_12 : decode cX9_takesPicked 12 = .ok (.iload_n 1, 1) := by decide +kernel
theorem dX9_takesPicked_13 : decode cX9_takesPicked 13 = .ok (.aload_n 0, 1) := by decide +kernel
theorem dX9_takesPicked_14 : decode cX9_takesPicked 14 = .ok (.getfield 7, 3) := by decide +kernel
theorem dX9_takesPicked_17 : decode cX9_takesPicked 17 = .ok (.iconst 0, 1) := by decide +kernel
theorem dX9_takesPicked_18 : decode cX9_takesPicked 18 = .ok (.iaload, 1) := by decide +kernel
theorem dX9_takesPicked_19 : decode cX9_takesPicked 19 = .ok (.if_icmp .ge 81, 3) := by decide +kernel
theorem dX9_takesPicked_22 : decode cX9_takesPicked 22 = .ok (.aload_n 0, 1) := by decide +kernel
theorem dX9_takesPicked_23 : decode cX9_takesPicked 23 = .ok (.getfield 7, 3) := by decide +kernel
theorem dX9_takesPicked_26 : decode cX9_takesPicked 26 = .ok (.aload_n 0, 1) := by decide +kernel
theorem dX9_takesPicked_27 : decode cX9_takesPicked 27 = .ok (.iload_n 1, 1) := by decide +kernel
theorem dX9_takesPicked_28 : decode cX9_takesPicked 28 = .ok (.invokevirtual 79, 3) := by decide +kernel
theorem dX9_takesPicked_31 : decode cX9_takesPicked 31 = .ok (.iconst 1, 1) := by decide +kernel
theorem dX9_takesPicked_32 : decode cX9_takesPicked 32 = .ok (.iadd, 1) := by decide +kernel
theorem dX9_takesPicked_33 : decode cX9_takesPicked 33 = .ok (.aload_n 0, 1) := by decide +kernel
theorem dX9_takesPicked_34 : decode cX9_takesPicked 34 = .ok (.getfield 13, 3) := by decide +kernel
theorem dX9_takesPicked_37 : decode cX9_takesPicked 37 = .ok (.iload_n 1, 1) := by decide +kernel
theorem dX9_takesPicked_38 : decode cX9_takesPicked 38 = .ok (.iaload, 1) := by decide +kernel
theorem dX9_takesPicked_39 : decode cX9_takesPicked 39 = .ok (.iadd, 1) := by decide +kernel
theorem dX9_takesPicked_40 : decode cX9_takesPicked 40 = .ok (.iaload, 1) := by decide +kernel
theorem dX9_takesPicked_41 : decode cX9_takesPicked 41 = .ok (.istore_n 2, 1) := by decide +kernel
theorem dX9_takesPicked_42 : decode cX9_takesPicked 42 = .ok (.aload_n 0, 1) := by decide +kernel
theorem dX9_takesPicked_43 : decode cX9_takesPicked 43 = .ok (.dup, 1) := by decide +kernel
theorem dX9_takesPicked_44 : decode cX9_takesPicked 44 = .ok (.getfield 123, 3) := by decide +kernel
theorem dX9_takesPicked_47 : decode cX9_takesPicked 47 = .ok (.aload_n 0, 1) := by decide +kernel
theorem dX9_takesPicked_48 : decode cX9_takesPicked 48 = .ok (.getfield 7, 3) := by decide +kernel
theorem dX9_takesPicked_51 : decode cX9_takesPicked 51 = .ok (.aload_n 0, 1) := by decide +kernel
theorem dX9_takesPicked_52 : decode cX9_takesPicked 52 = .ok (.iload_n 1, 1) := by decide +kernel
theorem dX9_takesPicked_53 : decode cX9_takesPicked 53 = .ok (.invokevirtual 79, 3) := by decide +kernel
theorem dX9_takesPicked_56 : decode cX9_takesPicked 56 = .ok (.iconst 5, 1) := by decide +kernel
theorem dX9_takesPicked_57 : decode cX9_takesPicked 57 = .ok (.iadd, 1) := by decide +kernel
theorem dX9_takesPicked_58 : decode cX9_takesPicked 58 = .ok (.aload_n 0, 1) := by decide +kernel
theorem dX9_takesPicked_59 : decode cX9_takesPicked 59 = .ok (.getfield 13, 3) := by decide +kernel
theorem dX9_takesPicked_62 : decode cX9_takesPicked 62 = .ok (.iload_n 1, 1) := by decide +kernel
theorem dX9_takesPicked_63 : decode cX9_takesPicked 63 = .ok (.iaload, 1) := by decide +kernel
theorem dX9_takesPicked_64 : decode cX9_takesPicked 64 = .ok (.iadd, 1) := by decide +kernel
theorem dX9_takesPicked_65 : decode cX9_takesPicked 65 = .ok (.iaload, 1) := by decide +kernel
theorem dX9_takesPicked_66 : decode cX9_takesPicked 66 = .ok (.iadd, 1) := by decide +kernel
theorem dX9_takesPicked_67 : decode cX9_takesPicked 67 = .ok (.putfield 123, 3) := by decide +kernel
theorem dX9_takesPicked_70 : decode cX9_takesPicked 70 = .ok (.iload_n 2, 1) := by decide +kernel
theorem dX9_takesPicked_71 : decode cX9_takesPicked 71 = .ok (.ifCond .eq 23, 3) := by decide +kernel
theorem dX9_takesPicked_74 : decode cX9_takesPicked 74 = .ok (.aload_n 0, 1) := by decide +kernel
theorem dX9_takesPicked_75 : decode cX9_takesPicked 75 = .ok (.getfield 16, 3) := by decide +kernel
theorem dX9_takesPicked_78 : decode cX9_takesPicked 78 = .ok (.aload_n 0, 1) := by decide +kernel
theorem dX9_takesPicked_79 : decode cX9_takesPicked 79 = .ok (.getfield 86, 3) := by decide +kernel
theorem dX9_takesPicked_82 : decode cX9_takesPicked 82 = .ok (.iload_n 2, 1) := by decide +kernel
theorem dX9_takesPicked_83 : decode cX9_takesPicked 83 = .ok (.iastore, 1) := by decide +kernel
theorem dX9_takesPicked_84 : decode cX9_takesPicked 84 = .ok (.aload_n 0, 1) := by decide +kernel
theorem dX9_takesPicked_85 : decode cX9_takesPicked 85 = .ok (.dup, 1) := by decide +kernel
theorem dX9_takesPicked_86 : decode cX9_takesPicked 86 = .ok (.getfield 86, 3) := by decide +kernel
theorem dX9_takesPicked_89 : decode cX9_takesPicked 89 = .ok (.iconst 1, 1) := by decide +kernel
theorem dX9_takesPicked_90 : decode cX9_takesPicked 90 = .ok (.iadd, 1) := by decide +kernel
theorem dX9_takesPicked_91 : decode cX9_takesPicked 91 = .ok (.putfield 86, 3) := by decide +kernel
theorem dX9_takesPicked_94 : decode cX9_takesPicked 94 = .ok (.iinc 1 1, 3) := by decide +kernel
theorem dX9_takesPicked_97 : decode cX9_takesPicked 97 = .ok (.goto (-85), 3) := by decide +kernel
theorem dX9_takesPicked_100 : decode cX9_takesPicked 100 = .ok (.aload_n 0, 1) := by decide +kernel
theorem dX9_takesPicked_101 : decode cX9_takesPicked 101 = .ok (.invokevirtual 126, 3) := by decide +kernel
theorem dX9_takesPicked_104 : decode cX9_takesPicked 104 = .ok (.ireturn, 1) := by decide +kernel
theorem dX9_finds_0 : decode cX9_finds 0 = .ok (.aload_n 0, 1) := by decide +kernel
theorem dX9_finds_1 : decode cX9_finds 1 = .ok (.iconst 0, 1) := by decide +kernel
theorem dX9_finds_2 : decode cX9_finds 2 = .ok (.putfield 129, 3) := by decide +kernel
theorem dX9_finds_5 : decode cX9_finds 5 = .ok (.aload_n 0, 1) := by decide +kernel
theorem dX9_finds_6 : decode cX9_finds 6 = .ok (.iconst 0, 1) := by decide +kernel
theorem dX9_finds_7 : decode cX9_finds 7 = .ok (.putfield 132, 3) := by decide +kernel
theorem dX9_finds_10 : decode cX9_finds 10 = .ok (.aload_n 0, 1) := by decide +kernel
theorem dX9_finds_11 : decode cX9_finds 11 = .ok (.bipush (-4), 2) := by decide +kernel
theorem dX9_finds_13 : decode cX9_finds 13 = .ok (.putfield 135, 3) := by decide +kernel
theorem dX9_finds_16 : decode cX9_finds 16 = .ok (.aload_n 0, 1) := by decide +kernel
theorem dX9_finds_17 : decode cX9_finds 17 = .ok (.sipush 9999, 3) := by decide +kernel
theorem dX9_finds_20 : decode cX9_finds 20 = .ok (.putfield 138, 3) := by decide +kernel
theorem dX9_finds_23 : decode cX9_finds 23 = .ok (.aload_n 0, 1) := by decide +kernel
theorem dX9_finds_24 : decode cX9_finds 24 = .ok (.invokevirtual 141, 3) := by decide +kernel
theorem dX9_finds_27 : decode cX9_finds 27 = .ok (.istore_n 1, 1) := by decide +kernel
theorem dX9_finds_28 : decode cX9_finds 28 = .ok (.iconst 0, 1) := by decide +kernel
theorem dX9_finds_29 : decode cX9_finds 29 = .ok (.istore_n 2, 1) := by decide +kernel
theorem dX9_finds_30 : decode cX9_finds 30 = .ok (.iload_n 2, 1) := by decide +kernel
theorem dX9_finds_31 : decode cX9_finds 31 = .ok (.iload_n 1, 1) := by decide +kernel
theorem dX9_finds_32 : decode cX9_finds 32 = .ok (.if_icmp .ge 93, 3) := by decide +kernel
theorem dX9_finds_35 : decode cX9_finds 35 = .ok (.aload_n 0, 1) := by decide +kernel
theorem dX9_finds_36 : decode cX9_finds 36 = .ok (.iload_n 2, 1) := by decide +kernel
theorem dX9_finds_37 : decode cX9_finds 37 = .ok (.invokevirtual 144, 3) := by decide +kernel
theorem dX9_finds_40 : decode cX9_finds 40 = .ok (.ifCond .eq 79, 3) := by decide +kernel
theorem dX9_finds_43 : decode cX9_finds 43 = .ok (.aload_n 0, 1) := by decide +kernel
theorem dX9_finds_44 : decode cX9_finds 44 = .ok (.dup, 1) := by decide +kernel
theorem dX9_finds_45 : decode cX9_finds 45 = .ok (.getfield 129, 3) := by decide +kernel
theorem dX9_finds_48 : decode cX9_finds 48 = .ok (.iconst 1, 1) := by decide +kernel
theorem dX9_finds_49 : decode cX9_finds 49 = .ok (.iadd, 1) := by decide +kernel
theorem dX9_finds_50 : decode cX9_finds 50 = .ok (.putfield 129, 3) := by decide +kernel
theorem dX9_finds_53 : decode cX9_finds 53 = .ok (.aload_n 0, 1) := by decide +kernel
theorem dX9_finds_54 : decode cX9_finds 54 = .ok (.invokevirtual 148, 3) := by decide +kernel
theorem dX9_finds_57 : decode cX9_finds 57 = .ok (.ifCond .eq 62, 3) := by decide +kernel
theorem dX9_finds_60 : decode cX9_finds 60 = .ok (.aload_n 0, 1) := by decide +kernel
theorem dX9_finds_61 : decode cX9_finds 61 = .ok (.dup, 1) := by decide +kernel
theorem dX9_finds_62 : decode cX9_finds 62 = .ok (.getfield 132, 3) := by decide +kernel
theorem dX9_finds_65 : decode cX9_finds 65 = .ok (.iconst 1, 1) := by decide +kernel
theorem dX9_finds_66 : decode cX9_finds 66 = .ok (.iadd, 1) := by decide +kernel
theorem dX9_finds_67 : decode cX9_finds 67 = .ok (.putfield 132, 3) := by decide +kernel
theorem dX9_finds_70 : decode cX9_finds 70 = .ok (.aload_n 0, 1) := by decide +kernel
theorem dX9_finds_71 : decode cX9_finds 71 = .ok (.aload_n 0, 1) := by decide +kernel
theorem dX9_finds_72 : decode cX9_finds 72 = .ok (.getfield 123, 3) := by decide +kernel
theorem dX9_finds_75 : decode cX9_finds 75 = .ok (.aload_n 0, 1) := by decide +kernel
theorem dX9_finds_76 : decode cX9_finds 76 = .ok (.getfield 138, 3) := by decide +kernel
theorem dX9_finds_79 : decode cX9_finds 79 = .ok (.if_icmp .ge 7, 3) := by decide +kernel
theorem dX9_finds_82 : decode cX9_finds 82 = .ok (.iload_n 2, 1) := by decide +kernel
theorem dX9_finds_83 : decode cX9_finds 83 = .ok (.goto 7, 3) := by decide +kernel
theorem dX9_finds_86 : decode cX9_finds 86 = .ok (.aload_n 0, 1) := by decide +kernel
theorem dX9_finds_87 : decode cX9_finds 87 = .ok (.getfield 135, 3) := by decide +kernel
theorem dX9_finds_90 : decode cX9_finds 90 = .ok (.putfield 135, 3) := by decide +kernel
theorem dX9_finds_93 : decode cX9_finds 93 = .ok (.aload_n 0, 1) := by decide +kernel
theorem dX9_finds_94 : decode cX9_finds 94 = .ok (.aload_n 0, 1) := by decide +kernel
theorem dX9_finds_95 : decode cX9_finds 95 = .ok (.getfield 123, 3) := by decide +kernel
theorem dX9_finds_98 : decode cX9_finds 98 = .ok (.aload_n 0, 1) := by decide +kernel
theorem dX9_finds_99 : decode cX9_finds 99 = .ok (.getfield 138, 3) := by decide +kernel
theorem dX9_finds_102 : decode cX9_finds 102 = .ok (.if_icmp .ge 10, 3) := by decide +kernel
theorem dX9_finds_105 : decode cX9_finds 105 = .ok (.aload_n 0, 1) := by decide +kernel
theorem dX9_finds_106 : decode cX9_finds 106 = .ok (.getfield 123, 3) := by decide +kernel
theorem dX9_finds_109 : decode cX9_finds 109 = .ok (.goto 7, 3) := by decide +kernel
theorem dX9_finds_112 : decode cX9_finds 112 = .ok (.aload_n 0, 1) := by decide +kernel
theorem dX9_finds_113 : decode cX9_finds 113 = .ok (.getfield 138, 3) := by decide +kernel
theorem dX9_finds_116 : decode cX9_finds 116 = .ok (.putfield 138, 3) := by decide +kernel
theorem dX9_finds_119 : decode cX9_finds 119 = .ok (.iinc 2 1, 3) := by decide +kernel
theorem dX9_finds_122 : decode cX9_finds 122 = .ok (.goto (-92), 3) := by decide +kernel
theorem dX9_finds_125 : decode cX9_finds 125 = .ok (.aload_n 0, 1) := by decide +kernel
theorem dX9_finds_126 : decode cX9_finds 126 = .ok (.iconst 0, 1) := by decide +kernel
theorem dX9_finds_127 : decode cX9_finds 127 = .ok (.putfield 151, 3) := by decide +kernel
theorem dX9_finds_130 : decode cX9_finds 130 = .ok (.aload_n 0, 1) := by decide +kernel
theorem dX9_finds_131 : decode cX9_finds 131 = .ok (.getfield 135, 3) := by decide +kernel
theorem dX9_finds_134 : decode cX9_finds 134 = .ok (.bipush (-4), 2) := by decide +kernel
theorem dX9_finds_136 : decode cX9_finds 136 = .ok (.if_icmp .eq 50, 3) := by decide +kernel
theorem dX9_finds_139 : decode cX9_finds 139 = .ok (.aload_n 0, 1) := by decide +kernel
theorem dX9_finds_140 : decode cX9_finds 140 = .ok (.aload_n 0, 1) := by decide +kernel
theorem dX9_finds_141 : decode cX9_finds 141 = .ok (.getfield 135, 3) := by decide +kernel
theorem dX9_finds_144 : decode cX9_finds 144 = .ok (.invokevirtual 144, 3) := by decide +kernel
theorem dX9_finds_147 : decode cX9_finds 147 = .ok (.ifCond .eq 39, 3) := by decide +kernel
theorem dX9_finds_150 : decode cX9_finds 150 = .ok (.aload_n 0, 1) := by decide +kernel
theorem dX9_finds_151 : decode cX9_finds 151 = .ok (.aload_n 0, 1) := by decide +kernel
theorem dX9_finds_152 : decode cX9_finds 152 = .ok (.getfield 113, 3) := by decide +kernel
theorem dX9_finds_155 : decode cX9_finds 155 = .ok (.putfield 151, 3) := by decide +kernel
theorem dX9_finds_158 : decode cX9_finds 158 = .ok (.iconst 0, 1) := by decide +kernel
theorem dX9_finds_159 : decode cX9_finds 159 = .ok (.istore_n 2, 1) := by decide +kernel
theorem dX9_finds_160 : decode cX9_finds 160 = .ok (.iload_n 2, 1) := by decide +kernel
theorem dX9_finds_161 : decode cX9_finds 161 = .ok (.aload_n 0, 1) := by decide +kernel
theorem dX9_finds_162 : decode cX9_finds 162 = .ok (.getfield 113, 3) := by decide +kernel
theorem dX9_finds_165 : decode cX9_finds 165 = .ok (.if_icmp .ge 21, 3) := by decide +kernel
theorem dX9_finds_168 : decode cX9_finds 168 = .ok (.aload_n 0, 1) := by decide +kernel
theorem dX9_finds_169 : decode cX9_finds 169 = .ok (.getfield 22, 3) := by decide +kernel
theorem dX9_finds_172 : decode cX9_finds 172 = .ok (.iload_n 2, 1) := by decide +kernel
theorem dX9_finds_173 : decode cX9_finds 173 = .ok (.aload_n 0, 1) := by decide +kernel
theorem dX9_finds_174 : decode cX9_finds 174 = .ok (.getfield 19, 3) := by decide +kernel
theorem dX9_finds_177 : decode cX9_finds 177 = .ok (.iload_n 2, 1) := by decide +kernel
theorem dX9_finds_178 : decode cX9_finds 178 = .ok (.iaload, 1) := by decide +kernel
theorem dX9_finds_179 : decode cX9_finds 179 = .ok (.iastore, 1) := by decide +kernel
theorem dX9_finds_180 : decode cX9_finds 180 = .ok (.iinc 2 1, 3) := by decide +kernel
theorem dX9_finds_183 : decode cX9_finds 183 = .ok (.goto (-23), 3) := by decide +kernel
theorem dX9_finds_186 : decode cX9_finds 186 = .ok (.return_, 1) := by decide +kernel
theorem dX9_isAsBest_0 : decode cX9_isAsBest 0 = .ok (.aload_n 0, 1) := by decide +kernel
theorem dX9_isAsBest_1 : decode cX9_isAsBest 1 = .ok (.getfield 113, 3) := by decide +kernel
theorem dX9_isAsBest_4 : decode cX9_isAsBest 4 = .ok (.aload_n 0, 1) := by decide +kernel
theorem dX9_isAsBest_5 : decode cX9_isAsBest 5 = .ok (.getfield 151, 3) := by decide +kernel
theorem dX9_isAsBest_8 : decode cX9_isAsBest 8 = .ok (.if_icmp .ne 7, 3) := by decide +kernel
theorem dX9_isAsBest_11 : decode cX9_isAsBest 11 = .ok (.iconst 1, 1) := by decide +kernel
theorem dX9_isAsBest_12 : decode cX9_isAsBest 12 = .ok (.goto 4, 3) := by decide +kernel
theorem dX9_isAsBest_15 : decode cX9_isAsBest 15 = .ok (.iconst 0, 1) := by decide +kernel
theorem dX9_isAsBest_16 : decode cX9_isAsBest 16 = .ok (.istore_n 1, 1) := by decide +kernel
theorem dX9_isAsBest_17 : decode cX9_isAsBest 17 = .ok (.iconst 0, 1) := by decide +kernel
theorem dX9_isAsBest_18 : decode cX9_isAsBest 18 = .ok (.istore_n 2, 1) := by decide +kernel
theorem dX9_isAsBest_19 : decode cX9_isAsBest 19 = .ok (.iload_n 2, 1) := by decide +kernel
theorem dX9_isAsBest_20 : decode cX9_isAsBest 20 = .ok (.aload_n 0, 1) := by decide +kernel
theorem dX9_isAsBest_21 : decode cX9_isAsBest 21 = .ok (.getfield 151, 3) := by decide +kernel
theorem dX9_isAsBest_24 : decode cX9_isAsBest 24 = .ok (.if_icmp .ge 34, 3) := by decide +kernel
theorem dX9_isAsBest_27 : decode cX9_isAsBest 27 = .ok (.iload_n 1, 1) := by decide +kernel
theorem dX9_isAsBest_28 : decode cX9_isAsBest 28 = .ok (.ifCond .eq 30, 3) := by decide +kernel
theorem dX9_isAsBest_31 : decode cX9_isAsBest 31 = .ok (.aload_n 0, 1) := by decide +kernel
theorem dX9_isAsBest_32 : decode cX9_isAsBest 32 = .ok (.getfield 19, 3) := by decide +kernel
theorem dX9_isAsBest_35 : decode cX9_isAsBest 35 = .ok (.iload_n 2, 1) := by decide +kernel
theorem dX9_isAsBest_36 : decode cX9_isAsBest 36 = .ok (.iaload, 1) := by decide +kernel
theorem dX9_isAsBest_37 : decode cX9_isAsBest 37 = .ok (.aload_n 0, 1) := by decide +kernel
theorem dX9_isAsBest_38 : decode cX9_isAsBest 38 = .ok (.getfield 22, 3) := by decide +kernel
theorem dX9_isAsBest_41 : decode cX9_isAsBest 41 = .ok (.iload_n 2, 1) := by decide +kernel
theorem dX9_isAsBest_42 : decode cX9_isAsBest 42 = .ok (.iaload, 1) := by decide +kernel
theorem dX9_isAsBest_43 : decode cX9_isAsBest 43 = .ok (.if_icmp .ne 7, 3) := by decide +kernel
theorem dX9_isAsBest_46 : decode cX9_isAsBest 46 = .ok (.iconst 1, 1) := by decide +kernel
theorem dX9_isAsBest_47 : decode cX9_isAsBest 47 = .ok (.goto 4, 3) := by decide +kernel
theorem dX9_isAsBest_50 : decode cX9_isAsBest 50 = .ok (.iconst 0, 1) := by decide +kernel
theorem dX9_isAsBest_51 : decode cX9_isAsBest 51 = .ok (.istore_n 1, 1) := by decide +kernel
theorem dX9_isAsBest_52 : decode cX9_isAsBest 52 = .ok (.iinc 2 1, 3) := by decide +kernel
theorem dX9_isAsBest_55 : decode cX9_isAsBest 55 = .ok (.goto (-36), 3) := by decide +kernel
theorem dX9_isAsBest_58 : decode cX9_isAsBest 58 = .ok (.iload_n 1, 1) := by decide +kernel
theorem dX9_isAsBest_59 : decode cX9_isAsBest 59 = .ok (.ireturn, 1) := by decide +kernel
theorem dX9_isCounted_0 : decode cX9_isCounted 0 = .ok (.aload_n 0, 1) := by decide +kernel
theorem dX9_isCounted_1 : decode cX9_isCounted 1 = .ok (.iload_n 1, 1) := by decide +kernel
theorem dX9_isCounted_2 : decode cX9_isCounted 2 = .ok (.invokevirtual 144, 3) := by decide +kernel
theorem dX9_isCounted_5 : decode cX9_isCounted 5 = .ok (.ifCond .eq 32, 3) := by decide +kernel
theorem dX9_isCounted_8 : decode cX9_isCounted 8 = .ok (.aload_n 0, 1) := by decide +kernel
theorem dX9_isCounted_9 : decode cX9_isCounted 9 = .ok (.invokevirtual 148, 3) := by decide +kernel
theorem dX9_isCounted_12 : decode cX9_isCounted 12 = .ok (.ifCond .eq 25, 3) := by decide +kernel
theorem dX9_isCounted_15 : decode cX9_isCounted 15 = .ok (.aload_n 0, 1) := by decide +kernel
theorem dX9_isCounted_16 : decode cX9_isCounted 16 = .ok (.getfield 123, 3) := by decide +kernel
theorem dX9_isCounted_19 : decode cX9_isCounted 19 = .ok (.aload_n 0, 1) := by decide +kernel
theorem dX9_isCounted_20 : decode cX9_isCounted 20 = .ok (.getfield 138, 3) := by decide +kernel
theorem dX9_isCounted_23 : decode cX9_isCounted 23 = .ok (.aload_n 0, 1) := by decide +kernel
theorem dX9_isCounted_24 : decode cX9_isCounted 24 = .ok (.getfield 7, 3) := by decide +kernel
theorem dX9_isCounted_27 : decode cX9_isCounted 27 = .ok (.iconst 2, 1) := by decide +kernel
theorem dX9_isCounted_28 : decode cX9_isCounted 28 = .ok (.iaload, 1) := by decide +kernel
theorem dX9_isCounted_29 : decode cX9_isCounted 29 = .ok (.iadd, 1) := by decide +kernel
theorem dX9_isCounted_30 : decode cX9_isCounted 30 = .ok (.if_icmp .gt 7, 3) := by decide +kernel
theorem dX9_isCounted_33 : decode cX9_isCounted 33 = .ok (.iconst 1, 1) := by decide +kernel
theorem dX9_isCounted_34 : decode cX9_isCounted 34 = .ok (.goto 4, 3) := by decide +kernel
theorem dX9_isCounted_37 : decode cX9_isCounted 37 = .ok (.iconst 0, 1) := by decide +kernel
theorem dX9_isCounted_38 : decode cX9_isCounted 38 = .ok (.ireturn, 1) := by decide +kernel
theorem dX9_counts_0 : decode cX9_counts 0 = .ok (.aload_n 0, 1) := by decide +kernel
theorem dX9_counts_1 : decode cX9_counts 1 = .ok (.invokevirtual 154, 3) := by decide +kernel
theorem dX9_counts_4 : decode cX9_counts 4 = .ok (.aload_n 0, 1) := by decide +kernel
theorem dX9_counts_5 : decode cX9_counts 5 = .ok (.iconst 0, 1) := by decide +kernel
theorem dX9_counts_6 : decode cX9_counts 6 = .ok (.putfield 157, 3) := by decide +kernel
theorem dX9_counts_9 : decode cX9_counts 9 = .ok (.aload_n 0, 1) := by decide +kernel
theorem dX9_counts_10 : decode cX9_counts 10 = .ok (.sipush 9999, 3) := by decide +kernel
theorem dX9_counts_13 : decode cX9_counts 13 = .ok (.putfield 160, 3) := by decide +kernel
theorem dX9_counts_16 : decode cX9_counts 16 = .ok (.iconst 0, 1) := by decide +kernel
theorem dX9_counts_17 : decode cX9_counts 17 = .ok (.istore_n 1, 1) := by decide +kernel
theorem dX9_counts_18 : decode cX9_counts 18 = .ok (.iload_n 1, 1) := by decide +kernel
theorem dX9_counts_19 : decode cX9_counts 19 = .ok (.sipush 256, 3) := by decide +kernel
theorem dX9_counts_22 : decode cX9_counts 22 = .ok (.if_icmp .ge 16, 3) := by decide +kernel
theorem dX9_counts_25 : decode cX9_counts 25 = .ok (.aload_n 0, 1) := by decide +kernel
theorem dX9_counts_26 : decode cX9_counts 26 = .ok (.getfield 25, 3) := by decide +kernel
theorem dX9_counts_29 : decode cX9_counts 29 = .ok (.iload_n 1, 1) := by decide +kernel
theorem dX9_counts_30 : decode cX9_counts 30 = .ok (.iconst 0, 1) := by decide +kernel
theorem dX9_counts_31 : decode cX9_counts 31 = .ok (.iastore, 1) := by decide +kernel
theorem dX9_counts_32 : decode cX9_counts 32 = .ok (.iinc 1 1, 3) := by decide +kernel
theorem dX9_counts_35 : decode cX9_counts 35 = .ok (.goto (-17), 3) := by decide +kernel
theorem dX9_counts_38 : decode cX9_counts 38 = .ok (.aload_n 0, 1) := by decide +kernel
theorem dX9_counts_39 : decode cX9_counts 39 = .ok (.getfield 135, 3) := by decide +kernel
theorem dX9_counts_42 : decode cX9_counts 42 = .ok (.bipush (-4), 2) := by decide +kernel
theorem dX9_counts_44 : decode cX9_counts 44 = .ok (.if_icmp .ne 7, 3) := by decide +kernel
theorem dX9_counts_47 : decode cX9_counts 47 = .ok (.iconst 0, 1) := by decide +kernel
theorem dX9_counts_48 : decode cX9_counts 48 = .ok (.goto 7, 3) := by decide +kernel
theorem dX9_counts_51 : decode cX9_counts 51 = .ok (.aload_n 0, 1) := by decide +kernel
theorem dX9_counts_52 : decode cX9_counts 52 = .ok (.invokevirtual 141, 3) := by decide +kernel
theorem dX9_counts_55 : decode cX9_counts 55 = .ok (.istore_n 1, 1) := by decide +kernel
theorem dX9_counts_56 : decode cX9_counts 56 = .ok (.iconst 0, 1) := by decide +kernel
theorem dX9_counts_57 : decode cX9_counts 57 = .ok (.istore_n 2, 1) := by decide +kernel
theorem dX9_counts_58 : decode cX9_counts 58 = .ok (.iload_n 2, 1) := by decide +kernel
theorem dX9_counts_59 : decode cX9_counts 59 = .ok (.iload_n 1, 1) := by decide +kernel
theorem dX9_counts_60 : decode cX9_counts 60 = .ok (.if_icmp .ge 174, 3) := by decide +kernel
theorem dX9_counts_63 : decode cX9_counts 63 = .ok (.aload_n 0, 1) := by decide +kernel
theorem dX9_counts_64 : decode cX9_counts 64 = .ok (.iload_n 2, 1) := by decide +kernel
theorem dX9_counts_65 : decode cX9_counts 65 = .ok (.invokevirtual 144, 3) := by decide +kernel
theorem dX9_counts_68 : decode cX9_counts 68 = .ok (.ifCond .eq 14, 3) := by decide +kernel
theorem dX9_counts_71 : decode cX9_counts 71 = .ok (.aload_n 0, 1) := by decide +kernel
theorem dX9_counts_72 : decode cX9_counts 72 = .ok (.invokevirtual 148, 3) := by decide +kernel
theorem dX9_counts_75 : decode cX9_counts 75 = .ok (.ifCond .eq 7, 3) := by decide +kernel
theorem dX9_counts_78 : decode cX9_counts 78 = .ok (.iconst 1, 1) := by decide +kernel
theorem dX9_counts_79 : decode cX9_counts 79 = .ok (.goto 4, 3) := by decide +kernel
theorem dX9_counts_82 : decode cX9_counts 82 = .ok (.iconst 0, 1) := by decide +kernel
theorem dX9_counts_83 : decode cX9_counts 83 = .ok (.istore_n 3, 1) := by decide +kernel
theorem dX9_counts_84 : decode cX9_counts 84 = .ok (.aload_n 0, 1) := by decide +kernel
theorem dX9_counts_85 : decode cX9_counts 85 = .ok (.iload_n 3, 1) := by decide +kernel
theorem dX9_counts_86 : decode cX9_counts 86 = .ok (.ifCond .eq 28, 3) := by decide +kernel
theorem dX9_counts_89 : decode cX9_counts 89 = .ok (.aload_n 0, 1) := by decide +kernel
theorem dX9_counts_90 : decode cX9_counts 90 = .ok (.getfield 123, 3) := by decide +kernel
theorem dX9_counts_93 : decode cX9_counts 93 = .ok (.aload_n 0, 1) := by decide +kernel
theorem dX9_counts_94 : decode cX9_counts 94 = .ok (.getfield 160, 3) := by decide +kernel
theorem dX9_counts_97 : decode cX9_counts 97 = .ok (.if_icmp .ge 17, 3) := by decide +kernel
theorem dX9_counts_100 : decode cX9_counts 100 = .ok (.aload_n 0, 1) := by decide +kernel
theorem dX9_counts_101 : decode cX9_counts 101 = .ok (.invokevirtual 163, 3) := by decide +kernel
theorem dX9_counts_104 : decode cX9_counts 104 = .ok (.ifCond .ne 10, 3) := by decide +kernel
theorem dX9_counts_107 : decode cX9_counts 107 = .ok (.aload_n 0, 1) := by decide +kernel
theorem dX9_counts_108 : decode cX9_counts 108 = .ok (.getfield 123, 3) := by decide +kernel
theorem dX9_counts_111 : decode cX9_counts 111 = .ok (.goto 7, 3) := by decide +kernel
theorem dX9_counts_114 : decode cX9_counts 114 = .ok (.aload_n 0, 1) := by decide +kernel
theorem dX9_counts_115 : decode cX9_counts 115 = .ok (.getfield 160, 3) := by decide +kernel
theorem dX9_counts_118 : decode cX9_counts 118 = .ok (.putfield 160, 3) := by decide +kernel
theorem dX9_counts_121 : decode cX9_counts 121 = .ok (.iload_n 3, 1) := by decide +kernel
theorem dX9_counts_122 : decode cX9_counts 122 = .ok (.ifCond .eq 106, 3) := by decide +kernel
theorem dX9_counts_125 : decode cX9_counts 125 = .ok (.aload_n 0, 1) := by decide +kernel
theorem dX9_counts_126 : decode cX9_counts 126 = .ok (.getfield 123, 3) := by decide +kernel
theorem dX9_counts_129 : decode cX9_counts 129 = .ok (.aload_n 0, 1) := by decide +kernel
theorem dX9_counts_130 : decode cX9_counts 130 = .ok (.getfield 138, 3) := by decide +kernel
theorem dX9_counts_133 : decode cX9_counts 133 = .ok (.aload_n 0, 1) := by decide +kernel
theorem dX9_counts_134 : decode cX9_counts 134 = .ok (.getfield 7, 3) := by decide +kernel
theorem dX9_counts_137 : decode cX9_counts 137 = .ok (.iconst 2, 1) := by decide +kernel
theorem dX9_counts_138 : decode cX9_counts 138 = .ok (.iaload, 1) := by decide +kernel
theorem dX9_counts_139 : decode cX9_counts 139 = .ok (.iadd, 1) := by decide +kernel
theorem dX9_counts_140 : decode cX9_counts 140 = .ok (.if_icmp .gt 88, 3) := by decide +kernel
theorem dX9_counts_143 : decode cX9_counts 143 = .ok (.aload_n 0, 1) := by decide +kernel
theorem dX9_counts_144 : decode cX9_counts 144 = .ok (.getfield 157, 3) := by decide +kernel
theorem dX9_counts_147 : decode cX9_counts 147 = .ok (.bipush 60, 2) := by decide +kernel
theorem dX9_counts_149 : decode cX9_counts 149 = .ok (.if_icmp .ge 13, 3) := by decide +kernel
theorem dX9_counts_152 : decode cX9_counts 152 = .ok (.aload_n 0, 1) := by decide +kernel
theorem dX9_counts_153 : decode cX9_counts 153 = .ok (.getfield 28, 3) := by decide +kernel
theorem dX9_counts_156 : decode cX9_counts 156 = .ok (.aload_n 0, 1) := by decide +kernel
theorem dX9_counts_157 : decode cX9_counts 157 = .ok (.getfield 157, 3) := by decide +kernel
theorem dX9_counts_160 : decode cX9_counts 160 = .ok (.iload_n 2, 1) := by decide +kernel
theorem dX9_counts_161 : decode cX9_counts 161 = .ok (.iastore, 1) := by decide +kernel
theorem dX9_counts_162 : decode cX9_counts 162 = .ok (.aload_n 0, 1) := by decide +kernel
theorem dX9_counts_163 : decode cX9_counts 163 = .ok (.dup, 1) := by decide +kernel
theorem dX9_counts_164 : decode cX9_counts 164 = .ok (.getfield 157, 3) := by decide +kernel
theorem dX9_counts_167 : decode cX9_counts 167 = .ok (.iconst 1, 1) := by decide +kernel
theorem dX9_counts_168 : decode cX9_counts 168 = .ok (.iadd, 1) := by decide +kernel
theorem dX9_counts_169 : decode cX9_counts 169 = .ok (.putfield 157, 3) := by decide +kernel
theorem dX9_counts_172 : decode cX9_counts 172 = .ok (.iconst 0, 1) := by decide +kernel
theorem dX9_counts_173 : decode cX9_counts 173 = .ok (.istore 4, 2) := by decide +kernel
theorem dX9_counts_175 : decode cX9_counts 175 = .ok (.iload 4, 2) := by decide +kernel
theorem dX9_counts_177 : decode cX9_counts 177 = .ok (.aload_n 0, 1) := by decide +kernel
theorem dX9_counts_178 : decode cX9_counts 178 = .ok (.getfield 7, 3) := by decide +kernel
theorem dX9_counts_181 : decode cX9_counts 181 = .ok (.iconst 0, 1) := by decide +kernel
theorem dX9_counts_182 : decode cX9_counts 182 = .ok (.iaload, 1) := by decide +kernel
theorem dX9_counts_183 : decode cX9_counts 183 = .ok (.if_icmp .ge 45, 3) := by decide +kernel
theorem dX9_counts_186 : decode cX9_counts 186 = .ok (.aload_n 0, 1) := by decide +kernel
theorem dX9_counts_187 : decode cX9_counts 187 = .ok (.getfield 25, 3) := by decide +kernel
theorem dX9_counts_190 : decode cX9_counts 190 = .ok (.bipush 32, 2) := by decide +kernel
theorem dX9_counts_192 : decode cX9_counts 192 = .ok (.iload 4, 2) := by decide +kernel
theorem dX9_counts_194 : decode cX9_counts 194 = .ok (.imul, 1) := by decide +kernel
theorem dX9_counts_195 : decode cX9_counts 195 = .ok (.aload_n 0, 1) := by decide +kernel
theorem dX9_counts_196 : decode cX9_counts 196 = .ok (.getfield 7, 3) := by decide +kernel
theorem dX9_counts_199 : decode cX9_counts 199 = .ok (.aload_n 0, 1) := by decide +kernel
theorem dX9_counts_200 : decode cX9_counts 200 = .ok (.iload 4, 2) := by decide +kernel
theorem dX9_counts_202 : decode cX9_counts 202 = .ok (.invokevirtual 79, 3) := by decide +kernel
theorem dX9_counts_205 : decode cX9_counts 205 = .ok (.iconst 1, 1) := by decide +kernel
theorem dX9_counts_206 : decode cX9_counts 206 = .ok (.iadd, 1) := by decide +kernel
theorem dX9_counts_207 : decode cX9_counts 207 = .ok (.aload_n 0, 1) := by decide +kernel
theorem dX9_counts_208 : decode cX9_counts 208 = .ok (.getfield 13, 3) := by decide +kernel
theorem dX9_counts_211 : decode cX9_counts 211 = .ok (.iload 4, 2) := by decide +kernel
theorem dX9_counts_213 : decode cX9_counts 213 = .ok (.iaload, 1) := by decide +kernel
theorem dX9_counts_214 : decode cX9_counts 214 = .ok (.iadd, 1) := by decide +kernel
theorem dX9_counts_215 : decode cX9_counts 215 = .ok (.iaload, 1) := by decide +kernel
theorem dX9_counts_216 : decode cX9_counts 216 = .ok (.iadd, 1) := by decide +kernel
theorem dX9_counts_217 : decode cX9_counts 217 = .ok (.dup2, 1) := by decide +kernel
theorem dX9_counts_218 : decode cX9_counts 218 = .ok (.iaload, 1) := by decide +kernel
theorem dX9_counts_219 : decode cX9_counts 219 = .ok (.iconst 1, 1) := by decide +kernel
theorem dX9_counts_220 : decode cX9_counts 220 = .ok (.iadd, 1) := by decide +kernel
theorem dX9_counts_221 : decode cX9_counts 221 = .ok (.iastore, 1) := by decide +kernel
theorem dX9_counts_222 : decode cX9_counts 222 = .ok (.iinc 4 1, 3) := by decide +kernel
theorem dX9_counts_225 : decode cX9_counts 225 = .ok (.goto (-50), 3) := by decide +kernel
theorem dX9_counts_228 : decode cX9_counts 228 = .ok (.iinc 2 1, 3) := by decide +kernel
theorem dX9_counts_231 : decode cX9_counts 231 = .ok (.goto (-173), 3) := by decide +kernel
theorem dX9_counts_234 : decode cX9_counts 234 = .ok (.return_, 1) := by decide +kernel
theorem dX9_look_0 : decode cX9_look 0 = .ok (.bipush (-4), 2) := by decide +kernel
theorem dX9_look_2 : decode cX9_look 2 = .ok (.istore_n 2, 1) := by decide +kernel
theorem dX9_look_3 : decode cX9_look 3 = .ok (.iload_n 1, 1) := by decide +kernel
theorem dX9_look_4 : decode cX9_look 4 = .ok (.istore_n 3, 1) := by decide +kernel
theorem dX9_look_5 : decode cX9_look 5 = .ok (.iconst 0, 1) := by decide +kernel
theorem dX9_look_6 : decode cX9_look 6 = .ok (.istore 4, 2) := by decide +kernel
theorem dX9_look_8 : decode cX9_look 8 = .ok (.iload 4, 2) := by decide +kernel
theorem dX9_look_10 : decode cX9_look 10 = .ok (.aload_n 0, 1) := by decide +kernel
theorem dX9_look_11 : decode cX9_look 11 = .ok (.getfield 7, 3) := by decide +kernel
theorem dX9_look_14 : decode cX9_look 14 = .ok (.iconst 0, 1) := by decide +kernel
theorem dX9_look_15 : decode cX9_look 15 = .ok (.iaload, 1) := by decide +kernel
theorem dX9_look_16 : decode cX9_look 16 = .ok (.if_icmp .ge 92, 3) := by decide +kernel
theorem dX9_look_19 : decode cX9_look 19 = .ok (.iconst 0, 1) := by decide +kernel
theorem dX9_look_20 : decode cX9_look 20 = .ok (.istore 5, 2) := by decide +kernel
theorem dX9_look_22 : decode cX9_look 22 = .ok (.iconst 0, 1) := by decide +kernel
theorem dX9_look_23 : decode cX9_look 23 = .ok (.istore 6, 2) := by decide +kernel
theorem dX9_look_25 : decode cX9_look 25 = .ok (.iload 6, 2) := by decide +kernel
theorem dX9_look_27 : decode cX9_look 27 = .ok (.bipush 32, 2) := by decide +kernel
theorem dX9_look_29 : decode cX9_look 29 = .ok (.if_icmp .ge 47, 3) := by decide +kernel
theorem dX9_look_32 : decode cX9_look 32 = .ok (.aload_n 0, 1) := by decide +kernel
theorem dX9_look_33 : decode cX9_look 33 = .ok (.getfield 25, 3) := by decide +kernel
theorem dX9_look_36 : decode cX9_look 36 = .ok (.bipush 32, 2) := by decide +kernel
theorem dX9_look_38 : decode cX9_look 38 = .ok (.iload 4, 2) := by decide +kernel
theorem dX9_look_40 : decode cX9_look 40 = .ok (.imul, 1) := by decide +kernel
theorem dX9_look_41 : decode cX9_look 41 = .ok (.iload 6, 2) := by decide +kernel
theorem dX9_look_43 : decode cX9_look 43 = .ok (.iadd, 1) := by decide +kernel
theorem dX9_look_44 : decode cX9_look 44 = .ok (.iaload, 1) := by decide +kernel
theorem dX9_look_45 : decode cX9_look 45 = .ok (.iload 5, 2) := by decide +kernel
theorem dX9_look_47 : decode cX9_look 47 = .ok (.if_icmp .le 19, 3) := by decide +kernel
theorem dX9_look_50 : decode cX9_look 50 = .ok (.aload_n 0, 1) := by decide +kernel
theorem dX9_look_51 : decode cX9_look 51 = .ok (.getfield 25, 3) := by decide +kernel
theorem dX9_look_54 : decode cX9_look 54 = .ok (.bipush 32, 2) := by decide +kernel
theorem dX9_look_56 : decode cX9_look 56 = .ok (.iload 4, 2) := by decide +kernel
theorem dX9_look_58 : decode cX9_look 58 = .ok (.imul, 1) := by decide +kernel
theorem dX9_look_59 : decode cX9_look 59 = .ok (.iload 6, 2) := by decide +kernel
theorem dX9_look_61 : decode cX9_look 61 = .ok (.iadd, 1) := by decide +kernel
theorem dX9_look_62 : decode cX9_look 62 = .ok (.iaload, 1) := by decide +kernel
theorem dX9_look_63 : decode cX9_look 63 = .ok (.goto 5, 3) := by decide +kernel
theorem dX9_look_66 : decode cX9_look 66 = .ok (.iload 5, 2) := by decide +kernel
theorem dX9_look_68 : decode cX9_look 68 = .ok (.istore 5, 2) := by decide +kernel
theorem dX9_look_70 : decode cX9_look 70 = .ok (.iinc 6 1, 3) := by decide +kernel
theorem dX9_look_73 : decode cX9_look 73 = .ok (.goto (-48), 3) := by decide +kernel
theorem dX9_look_76 : decode cX9_look 76 = .ok (.iload 5, 2) := by decide +kernel
theorem dX9_look_78 : decode cX9_look 78 = .ok (.iload_n 3, 1) := by decide +kernel
theorem dX9_look_79 : decode cX9_look 79 = .ok (.if_icmp .ge 8, 3) := by decide +kernel
theorem dX9_look_82 : decode cX9_look 82 = .ok (.iload 4, 2) := by decide +kernel
theorem dX9_look_84 : decode cX9_look 84 = .ok (.goto 4, 3) := by decide +kernel
theorem dX9_look_87 : decode cX9_look 87 = .ok (.iload_n 2, 1) := by decide +kernel
theorem dX9_look_88 : decode cX9_look 88 = .ok (.istore_n 2, 1) := by decide +kernel
theorem dX9_look_89 : decode cX9_look 89 = .ok (.iload 5, 2) := by decide +kernel
theorem dX9_look_91 : decode cX9_look 91 = .ok (.iload_n 3, 1) := by decide +kernel
theorem dX9_look_92 : decode cX9_look 92 = .ok (.if_icmp .ge 8, 3) := by decide +kernel
theorem dX9_look_95 : decode cX9_look 95 = .ok (.iload 5, 2) := by decide +kernel
theorem dX9_look_97 : decode cX9_look 97 = .ok (.goto 4, 3) := by decide +kernel
theorem dX9_look_100 : decode cX9_look 100 = .ok (.iload_n 3, 1) := by decide +kernel
theorem dX9_look_101 : decode cX9_look 101 = .ok (.istore_n 3, 1) := by decide +kernel
theorem dX9_look_102 : decode cX9_look 102 = .ok (.iinc 4 1, 3) := by decide +kernel
theorem dX9_look_105 : decode cX9_look 105 = .ok (.goto (-97), 3) := by decide +kernel
theorem dX9_look_108 : decode cX9_look 108 = .ok (.iload_n 2, 1) := by decide +kernel
theorem dX9_look_109 : decode cX9_look 109 = .ok (.ireturn, 1) := by decide +kernel
theorem dX9_tellsSame_0 : decode cX9_tellsSame 0 = .ok (.iconst 1, 1) := by decide +kernel
theorem dX9_tellsSame_1 : decode cX9_tellsSame 1 = .ok (.istore_n 3, 1) := by decide +kernel
theorem dX9_tellsSame_2 : decode cX9_tellsSame 2 = .ok (.iconst 0, 1) := by decide +kernel
theorem dX9_tellsSame_3 : decode cX9_tellsSame 3 = .ok (.istore 4, 2) := by decide +kernel
theorem dX9_tellsSame_5 : decode cX9_tellsSame 5 = .ok (.iconst 0, 1) := by decide +kernel
theorem dX9_tellsSame_6 : decode cX9_tellsSame 6 = .ok (.istore 5, 2) := by decide +kernel
theorem dX9_tellsSame_8 : decode cX9_tellsSame 8 = .ok (.iconst 0, 1) := by decide +kernel
theorem dX9_tellsSame_9 : decode cX9_tellsSame 9 = .ok (.istore 6, 2) := by decide +kernel
theorem dX9_tellsSame_11 : decode cX9_tellsSame 11 = .ok (.iload 6, 2) := by decide +kernel
theorem dX9_tellsSame_13 : decode cX9_tellsSame 13 = .ok (.sipush 256, 3) := by decide +kernel
theorem dX9_tellsSame_16 : decode cX9_tellsSame 16 = .ok (.if_icmp .ge 17, 3) := by decide +kernel
theorem dX9_tellsSame_19 : decode cX9_tellsSame 19 = .ok (.aload_n 0, 1) := by decide +kernel
theorem dX9_tellsSame_20 : decode cX9_tellsSame 20 = .ok (.getfield 25, 3) := by decide +kernel
theorem dX9_tellsSame_23 : decode cX9_tellsSame 23 = .ok (.iload 6, 2) := by decide +kernel
theorem dX9_tellsSame_25 : decode cX9_tellsSame 25 = .ok (.iconst 0, 1) := by decide +kernel
theorem dX9_tellsSame_26 : decode cX9_tellsSame 26 = .ok (.iastore, 1) := by decide +kernel
theorem dX9_tellsSame_27 : decode cX9_tellsSame 27 = .ok (.iinc 6 1, 3) := by decide +kernel
theorem dX9_tellsSame_30 : decode cX9_tellsSame 30 = .ok (.goto (-19), 3) := by decide +kernel
theorem dX9_tellsSame_33 : decode cX9_tellsSame 33 = .ok (.iconst 0, 1) := by decide +kernel
theorem dX9_tellsSame_34 : decode cX9_tellsSame 34 = .ok (.istore 6, 2) := by decide +kernel
theorem dX9_tellsSame_36 : decode cX9_tellsSame 36 = .ok (.iload 6, 2) := by decide +kernel
theorem dX9_tellsSame_38 : decode cX9_tellsSame 38 = .ok (.aload_n 0, 1) := by decide +kernel
theorem dX9_tellsSame_39 : decode cX9_tellsSame 39 = .ok (.getfield 157, 3) := by decide +kernel
theorem dX9_tellsSame_42 : decode cX9_tellsSame 42 = .ok (.if_icmp .ge 208, 3) := by decide +kernel
theorem dX9_tellsSame_45 : decode cX9_tellsSame 45 = .ok (.lload_n 1, 1) := by decide +kernel
theorem dX9_tellsSame_46 : decode cX9_tellsSame 46 = .ok (.iload 6, 2) := by decide +kernel
theorem dX9_tellsSame_48 : decode cX9_tellsSame 48 = .ok (.lshr, 1) := by decide +kernel
theorem dX9_tellsSame_49 : decode cX9_tellsSame 49 = .ok (.lconst 1, 1) := by decide +kernel
theorem dX9_tellsSame_50 : decode cX9_tellsSame 50 = .ok (.land, 1) := by decide +kernel
theorem dX9_tellsSame_51 : decode cX9_tellsSame 51 = .ok (.lconst 1, 1) := by decide +kernel
theorem dX9_tellsSame_52 : decode cX9_tellsSame 52 = .ok (.lcmp, 1) := by decide +kernel
theorem dX9_tellsSame_53 : decode cX9_tellsSame 53 = .ok (.ifCond .ne 191, 3) := by decide +kernel
theorem dX9_tellsSame_56 : decode cX9_tellsSame 56 = .ok (.aload_n 0, 1) := by decide +kernel
theorem dX9_tellsSame_57 : decode cX9_tellsSame 57 = .ok (.aload_n 0, 1) := by decide +kernel
theorem dX9_tellsSame_58 : decode cX9_tellsSame 58 = .ok (.getfield 28, 3) := by decide +kernel
theorem dX9_tellsSame_61 : decode cX9_tellsSame 61 = .ok (.iload 6, 2) := by decide +kernel
theorem dX9_tellsSame_63 : decode cX9_tellsSame 63 = .ok (.iaload, 1) := by decide +kernel
theorem dX9_tellsSame_64 : decode cX9_tellsSame 64 = .ok (.invokevirtual 144, 3) := by decide +kernel
theorem dX9_tellsSame_67 : decode cX9_tellsSame 67 = .ok (.ifCond .eq 11, 3) := by decide +kernel
theorem dX9_tellsSame_70 : decode cX9_tellsSame 70 = .ok (.iload_n 3, 1) := by decide +kernel
theorem dX9_tellsSame_71 : decode cX9_tellsSame 71 = .ok (.ifCond .eq 7, 3) := by decide +kernel
theorem dX9_tellsSame_74 : decode cX9_tellsSame 74 = .ok (.iconst 1, 1) := by decide +kernel
theorem dX9_tellsSame_75 : decode cX9_tellsSame 75 = .ok (.goto 4, 3) := by decide +kernel
theorem dX9_tellsSame_78 : decode cX9_tellsSame 78 = .ok (.iconst 0, 1) := by decide +kernel
theorem dX9_tellsSame_79 : decode cX9_tellsSame 79 = .ok (.istore_n 3, 1) := by decide +kernel
theorem dX9_tellsSame_80 : decode cX9_tellsSame 80 = .ok (.iload 4, 2) := by decide +kernel
theorem dX9_tellsSame_82 : decode cX9_tellsSame 82 = .ok (.ifCond .ne 41, 3) := by decide +kernel
theorem dX9_tellsSame_85 : decode cX9_tellsSame 85 = .ok (.aload_n 0, 1) := by decide +kernel
theorem dX9_tellsSame_86 : decode cX9_tellsSame 86 = .ok (.getfield 113, 3) := by decide +kernel
theorem dX9_tellsSame_89 : decode cX9_tellsSame 89 = .ok (.istore 5, 2) := by decide +kernel
theorem dX9_tellsSame_91 : decode cX9_tellsSame 91 = .ok (.iconst 0, 1) := by decide +kernel
theorem dX9_tellsSame_92 : decode cX9_tellsSame 92 = .ok (.istore 7, 2) := by decide +kernel
theorem dX9_tellsSame_94 : decode cX9_tellsSame 94 = .ok (.iload 7, 2) := by decide +kernel
theorem dX9_tellsSame_96 : decode cX9_tellsSame 96 = .ok (.aload_n 0, 1) := by decide +kernel
theorem dX9_tellsSame_97 : decode cX9_tellsSame 97 = .ok (.getfield 113, 3) := by decide +kernel
theorem dX9_tellsSame_100 : decode cX9_tellsSame 100 = .ok (.if_icmp .ge 23, 3) := by decide +kernel
theorem dX9_tellsSame_103 : decode cX9_tellsSame 103 = .ok (.aload_n 0, 1) := by decide +kernel
theorem dX9_tellsSame_104 : decode cX9_tellsSame 104 = .ok (.getfield 38, 3) := by decide +kernel
theorem dX9_tellsSame_107 : decode cX9_tellsSame 107 = .ok (.iload 7, 2) := by decide +kernel
theorem dX9_tellsSame_109 : decode cX9_tellsSame 109 = .ok (.aload_n 0, 1) := by decide +kernel
theorem dX9_tellsSame_110 : decode cX9_tellsSame 110 = .ok (.getfield 19, 3) := by decide +kernel
theorem dX9_tellsSame_113 : decode cX9_tellsSame 113 = .ok (.iload 7, 2) := by decide +kernel
theorem dX9_tellsSame_115 : decode cX9_tellsSame 115 = .ok (.iaload, 1) := by decide +kernel
theorem dX9_tellsSame_116 : decode cX9_tellsSame 116 = .ok (.iastore, 1) := by decide +kernel
theorem dX9_tellsSame_117 : decode cX9_tellsSame 117 = .ok (.iinc 7 1, 3) := by decide +kernel
theorem dX9_tellsSame_120 : decode cX9_tellsSame 120 = .ok (.goto (-26), 3) := by decide +kernel
theorem dX9_tellsSame_123 : decode cX9_tellsSame 123 = .ok (.iload_n 3, 1) := by decide +kernel
theorem dX9_tellsSame_124 : decode cX9_tellsSame 124 = .ok (.ifCond .eq 16, 3) := by decide +kernel
theorem dX9_tellsSame_127 : decode cX9_tellsSame 127 = .ok (.aload_n 0, 1) := by decide +kernel
theorem dX9_tellsSame_128 : decode cX9_tellsSame 128 = .ok (.getfield 113, 3) := by decide +kernel
theorem dX9_tellsSame_131 : decode cX9_tellsSame 131 = .ok (.iload 5, 2) := by decide +kernel
theorem dX9_tellsSame_133 : decode cX9_tellsSame 133 = .ok (.if_icmp .ne 7, 3) := by decide +kernel
theorem dX9_tellsSame_136 : decode cX9_tellsSame 136 = .ok (.iconst 1, 1) := by decide +kernel
theorem dX9_tellsSame_137 : decode cX9_tellsSame 137 = .ok (.goto 4, 3) := by decide +kernel
theorem dX9_tellsSame_140 : decode cX9_tellsSame 140 = .ok (.iconst 0, 1) := by decide +kernel
theorem dX9_tellsSame_141 : decode cX9_tellsSame 141 = .ok (.istore_n 3, 1) := by decide +kernel
theorem dX9_tellsSame_142 : decode cX9_tellsSame 142 = .ok (.iconst 0, 1) := by decide +kernel
theorem dX9_tellsSame_143 : decode cX9_tellsSame 143 = .ok (.istore 7, 2) := by decide +kernel
theorem dX9_tellsSame_145 : decode cX9_tellsSame 145 = .ok (.iload 7, 2) := by decide +kernel
theorem dX9_tellsSame_147 : decode cX9_tellsSame 147 = .ok (.iload 5, 2) := by decide +kernel
theorem dX9_tellsSame_149 : decode cX9_tellsSame 149 = .ok (.if_icmp .ge 36, 3) := by decide +kernel
theorem dX9_tellsSame_152 : decode cX9_tellsSame 152 = .ok (.iload_n 3, 1) := by decide +kernel
theorem dX9_tellsSame_153 : decode cX9_tellsSame 153 = .ok (.ifCond .eq 32, 3) := by decide +kernel
theorem dX9_tellsSame_156 : decode cX9_tellsSame 156 = .ok (.aload_n 0, 1) := by decide +kernel
theorem dX9_tellsSame_157 : decode cX9_tellsSame 157 = .ok (.getfield 19, 3) := by decide +kernel
theorem dX9_tellsSame_160 : decode cX9_tellsSame 160 = .ok (.iload 7, 2) := by decide +kernel
theorem dX9_tellsSame_162 : decode cX9_tellsSame 162 = .ok (.iaload, 1) := by decide +kernel
theorem dX9_tellsSame_163 : decode cX9_tellsSame 163 = .ok (.aload_n 0, 1) := by decide +kernel
theorem dX9_tellsSame_164 : decode cX9_tellsSame 164 = .ok (.getfield 38, 3) := by decide +kernel
theorem dX9_tellsSame_167 : decode cX9_tellsSame 167 = .ok (.iload 7, 2) := by decide +kernel
theorem dX9_tellsSame_169 : decode cX9_tellsSame 169 = .ok (.iaload, 1) := by decide +kernel
theorem dX9_tellsSame_170 : decode cX9_tellsSame 170 = .ok (.if_icmp .ne 7, 3) := by decide +kernel
theorem dX9_tellsSame_173 : decode cX9_tellsSame 173 = .ok (.iconst 1, 1) := by decide +kernel
theorem dX9_tellsSame_174 : decode cX9_tellsSame 174 = .ok (.goto 4, 3) := by decide +kernel
theorem dX9_tellsSame_177 : decode cX9_tellsSame 177 = .ok (.iconst 0, 1) := by decide +kernel
theorem dX9_tellsSame_178 : decode cX9_tellsSame 178 = .ok (.istore_n 3, 1) := by decide +kernel
theorem dX9_tellsSame_179 : decode cX9_tellsSame 179 = .ok (.iinc 7 1, 3) := by decide +kernel
theorem dX9_tellsSame_182 : decode cX9_tellsSame 182 = .ok (.goto (-37), 3) := by decide +kernel
theorem dX9_tellsSame_185 : decode cX9_tellsSame 185 = .ok (.iconst 0, 1) := by decide +kernel
theorem dX9_tellsSame_186 : decode cX9_tellsSame 186 = .ok (.istore 7, 2) := by decide +kernel
theorem dX9_tellsSame_188 : decode cX9_tellsSame 188 = .ok (.iload 7, 2) := by decide +kernel
theorem dX9_tellsSame_190 : decode cX9_tellsSame 190 = .ok (.aload_n 0, 1) := by decide +kernel
theorem dX9_tellsSame_191 : decode cX9_tellsSame 191 = .ok (.getfield 7, 3) := by decide +kernel
theorem dX9_tellsSame_194 : decode cX9_tellsSame 194 = .ok (.iconst 0, 1) := by decide +kernel
theorem dX9_tellsSame_195 : decode cX9_tellsSame 195 = .ok (.iaload, 1) := by decide +kernel
theorem dX9_tellsSame_196 : decode cX9_tellsSame 196 = .ok (.if_icmp .ge 45, 3) := by decide +kernel
theorem dX9_tellsSame_199 : decode cX9_tellsSame 199 = .ok (.aload_n 0, 1) := by decide +kernel
theorem dX9_tellsSame_200 : decode cX9_tellsSame 200 = .ok (.getfield 25, 3) := by decide +kernel
theorem dX9_tellsSame_203 : decode cX9_tellsSame 203 = .ok (.bipush 32, 2) := by decide +kernel
theorem dX9_tellsSame_205 : decode cX9_tellsSame 205 = .ok (.iload 7, 2) := by decide +kernel
theorem dX9_tellsSame_207 : decode cX9_tellsSame 207 = .ok (.imul, 1) := by decide +kernel
theorem dX9_tellsSame_208 : decode cX9_tellsSame 208 = .ok (.aload_n 0, 1) := by decide +kernel
theorem dX9_tellsSame_209 : decode cX9_tellsSame 209 = .ok (.getfield 7, 3) := by decide +kernel
theorem dX9_tellsSame_212 : decode cX9_tellsSame 212 = .ok (.aload_n 0, 1) := by decide +kernel
theorem dX9_tellsSame_213 : decode cX9_tellsSame 213 = .ok (.iload 7, 2) := by decide +kernel
theorem dX9_tellsSame_215 : decode cX9_tellsSame 215 = .ok (.invokevirtual 79, 3) := by decide +kernel
theorem dX9_tellsSame_218 : decode cX9_tellsSame 218 = .ok (.iconst 1, 1) := by decide +kernel
theorem dX9_tellsSame_219 : decode cX9_tellsSame 219 = .ok (.iadd, 1) := by decide +kernel
theorem dX9_tellsSame_220 : decode cX9_tellsSame 220 = .ok (.aload_n 0, 1) := by decide +kernel
theorem dX9_tellsSame_221 : decode cX9_tellsSame 221 = .ok (.getfield 13, 3) := by decide +kernel
theorem dX9_tellsSame_224 : decode cX9_tellsSame 224 = .ok (.iload 7, 2) := by decide +kernel
theorem dX9_tellsSame_226 : decode cX9_tellsSame 226 = .ok (.iaload, 1) := by decide +kernel
theorem dX9_tellsSame_227 : decode cX9_tellsSame 227 = .ok (.iadd, 1) := by decide +kernel
theorem dX9_tellsSame_228 : decode cX9_tellsSame 228 = .ok (.iaload, 1) := by decide +kernel
theorem dX9_tellsSame_229 : decode cX9_tellsSame 229 = .ok (.iadd, 1) := by decide +kernel
theorem dX9_tellsSame_230 : decode cX9_tellsSame 230 = .ok (.dup2, 1) := by decide +kernel
theorem dX9_tellsSame_231 : decode cX9_tellsSame 231 = .ok (.iaload, 1) := by decide +kernel
theorem dX9_tellsSame_232 : decode cX9_tellsSame 232 = .ok (.iconst 1, 1) := by decide +kernel
theorem dX9_tellsSame_233 : decode cX9_tellsSame 233 = .ok (.iadd, 1) := by decide +kernel
theorem dX9_tellsSame_234 : decode cX9_tellsSame 234 = .ok (.iastore, 1) := by decide +kernel
theorem dX9_tellsSame_235 : decode cX9_tellsSame 235 = .ok (.iinc 7 1, 3) := by decide +kernel
theorem dX9_tellsSame_238 : decode cX9_tellsSame 238 = .ok (.goto (-50), 3) := by decide +kernel
theorem dX9_tellsSame_241 : decode cX9_tellsSame 241 = .ok (.iinc 4 1, 3) := by decide +kernel
theorem dX9_tellsSame_244 : decode cX9_tellsSame 244 = .ok (.iinc 6 1, 3) := by decide +kernel
theorem dX9_tellsSame_247 : decode cX9_tellsSame 247 = .ok (.goto (-211), 3) := by decide +kernel
theorem dX9_tellsSame_250 : decode cX9_tellsSame 250 = .ok (.aload_n 0, 1) := by decide +kernel
theorem dX9_tellsSame_251 : decode cX9_tellsSame 251 = .ok (.iload 4, 2) := by decide +kernel
theorem dX9_tellsSame_253 : decode cX9_tellsSame 253 = .ok (.putfield 166, 3) := by decide +kernel
theorem dX9_tellsSame_256 : decode cX9_tellsSame 256 = .ok (.iload_n 3, 1) := by decide +kernel
theorem dX9_tellsSame_257 : decode cX9_tellsSame 257 = .ok (.ireturn, 1) := by decide +kernel
theorem dX9_partOf_0 : decode cX9_partOf 0 = .ok (.lconst 0, 1) := by decide +kernel
theorem dX9_partOf_1 : decode cX9_partOf 1 = .ok (.lstore 5, 2) := by decide +kernel
theorem dX9_partOf_3 : decode cX9_partOf 3 = .ok (.iconst 0, 1) := by decide +kernel
theorem dX9_partOf_4 : decode cX9_partOf 4 = .ok (.istore 7, 2) := by decide +kernel
theorem dX9_partOf_6 : decode cX9_partOf 6 = .ok (.iload 7, 2) := by decide +kernel
theorem dX9_partOf_8 : decode cX9_partOf 8 = .ok (.aload_n 0, 1) := by decide +kernel
theorem dX9_partOf_9 : decode cX9_partOf 9 = .ok (.getfield 157, 3) := by decide +kernel
theorem dX9_partOf_12 : decode cX9_partOf 12 = .ok (.if_icmp .ge 83, 3) := by decide +kernel
theorem dX9_partOf_15 : decode cX9_partOf 15 = .ok (.lload_n 1, 1) := by decide +kernel
theorem dX9_partOf_16 : decode cX9_partOf 16 = .ok (.iload 7, 2) := by decide +kernel
theorem dX9_partOf_18 : decode cX9_partOf 18 = .ok (.lshr, 1) := by decide +kernel
theorem dX9_partOf_19 : decode cX9_partOf 19 = .ok (.lconst 1, 1) := by decide +kernel
theorem dX9_partOf_20 : decode cX9_partOf 20 = .ok (.land, 1) := by decide +kernel
theorem dX9_partOf_21 : decode cX9_partOf 21 = .ok (.lconst 1, 1) := by decide +kernel
theorem dX9_partOf_22 : decode cX9_partOf 22 = .ok (.lcmp, 1) := by decide +kernel
theorem dX9_partOf_23 : decode cX9_partOf 23 = .ok (.ifCond .ne 21, 3) := by decide +kernel
theorem dX9_partOf_26 : decode cX9_partOf 26 = .ok (.aload_n 0, 1) := by decide +kernel
theorem dX9_partOf_27 : decode cX9_partOf 27 = .ok (.aload_n 0, 1) := by decide +kernel
theorem dX9_partOf_28 : decode cX9_partOf 28 = .ok (.getfield 28, 3) := by decide +kernel
theorem dX9_partOf_31 : decode cX9_partOf 31 = .ok (.iload 7, 2) := by decide +kernel
theorem dX9_partOf_33 : decode cX9_partOf 33 = .ok (.iaload, 1) := by decide +kernel
theorem dX9_partOf_34 : decode cX9_partOf 34 = .ok (.invokevirtual 144, 3) := by decide +kernel
theorem dX9_partOf_37 : decode cX9_partOf 37 = .ok (.ifCond .eq 7, 3) := by decide +kernel
theorem dX9_partOf_40 : decode cX9_partOf 40 = .ok (.iconst 1, 1) := by decide +kernel
theorem dX9_partOf_41 : decode cX9_partOf 41 = .ok (.goto 4, 3) := by decide +kernel
theorem dX9_partOf_44 : decode cX9_partOf 44 = .ok (.iconst 0, 1) := by decide +kernel
theorem dX9_partOf_45 : decode cX9_partOf 45 = .ok (.istore 8, 2) := by decide +kernel
theorem dX9_partOf_47 : decode cX9_partOf 47 = .ok (.lload 5, 2) := by decide +kernel
theorem dX9_partOf_49 : decode cX9_partOf 49 = .ok (.iload 8, 2) := by decide +kernel
theorem dX9_partOf_51 : decode cX9_partOf 51 = .ok (.ifCond .eq 34, 3) := by decide +kernel
theorem dX9_partOf_54 : decode cX9_partOf 54 = .ok (.aload_n 0, 1) := by decide +kernel
theorem dX9_partOf_55 : decode cX9_partOf 55 = .ok (.getfield 7, 3) := by decide +kernel
theorem dX9_partOf_58 : decode cX9_partOf 58 = .ok (.aload_n 0, 1) := by decide +kernel
theorem dX9_partOf_59 : decode cX9_partOf 59 = .ok (.iload_n 3, 1) := by decide +kernel
theorem dX9_partOf_60 : decode cX9_partOf 60 = .ok (.invokevirtual 79, 3) := by decide +kernel
theorem dX9_partOf_63 : decode cX9_partOf 63 = .ok (.iconst 1, 1) := by decide +kernel
theorem dX9_partOf_64 : decode cX9_partOf 64 = .ok (.iadd, 1) := by decide +kernel
theorem dX9_partOf_65 : decode cX9_partOf 65 = .ok (.aload_n 0, 1) := by decide +kernel
theorem dX9_partOf_66 : decode cX9_partOf 66 = .ok (.getfield 13, 3) := by decide +kernel
theorem dX9_partOf_69 : decode cX9_partOf 69 = .ok (.iload_n 3, 1) := by decide +kernel
theorem dX9_partOf_70 : decode cX9_partOf 70 = .ok (.iaload, 1) := by decide +kernel
theorem dX9_partOf_71 : decode cX9_partOf 71 = .ok (.iadd, 1) := by decide +kernel
theorem dX9_partOf_72 : decode cX9_partOf 72 = .ok (.iaload, 1) := by decide +kernel
theorem dX9_partOf_73 : decode cX9_partOf 73 = .ok (.iload 4, 2) := by decide +kernel
theorem dX9_partOf_75 : decode cX9_partOf 75 = .ok (.if_icmp .ne 10, 3) := by decide +kernel
theorem dX9_partOf_78 : decode cX9_partOf 78 = .ok (.lconst 1, 1) := by decide +kernel
theorem dX9_partOf_79 : decode cX9_partOf 79 = .ok (.iload 7, 2) := by decide +kernel
theorem dX9_partOf_81 : decode cX9_partOf 81 = .ok (.lshl, 1) := by decide +kernel
theorem dX9_partOf_82 : decode cX9_partOf 82 = .ok (.goto 4, 3) := by decide +kernel
theorem dX9_partOf_85 : decode cX9_partOf 85 = .ok (.lconst 0, 1) := by decide +kernel
theorem dX9_partOf_86 : decode cX9_partOf 86 = .ok (.lor, 1) := by decide +kernel
theorem dX9_partOf_87 : decode cX9_partOf 87 = .ok (.lstore 5, 2) := by decide +kernel
theorem dX9_partOf_89 : decode cX9_partOf 89 = .ok (.iinc 7 1, 3) := by decide +kernel
theorem dX9_partOf_92 : decode cX9_partOf 92 = .ok (.goto (-86), 3) := by decide +kernel
theorem dX9_partOf_95 : decode cX9_partOf 95 = .ok (.lload 5, 2) := by decide +kernel
theorem dX9_partOf_97 : decode cX9_partOf 97 = .ok (.lreturn, 1) := by decide +kernel
theorem dX9_questions_0 : decode cX9_questions 0 = .ok (.aload_n 0, 1) := by decide +kernel
theorem dX9_questions_1 : decode cX9_questions 1 = .ok (.invokevirtual 169, 3) := by decide +kernel
theorem dX9_questions_4 : decode cX9_questions 4 = .ok (.aload_n 0, 1) := by decide +kernel
theorem dX9_questions_5 : decode cX9_questions 5 = .ok (.getfield 157, 3) := by decide +kernel
theorem dX9_questions_8 : decode cX9_questions 8 = .ok (.ifCond .eq 12, 3) := by decide +kernel
theorem dX9_questions_11 : decode cX9_questions 11 = .ok (.aload_n 0, 1) := by decide +kernel
theorem dX9_questions_12 : decode cX9_questions 12 = .ok (.getfield 157, 3) := by decide +kernel
theorem dX9_questions_15 : decode cX9_questions 15 = .ok (.bipush 60, 2) := by decide +kernel
theorem dX9_questions_17 : decode cX9_questions 17 = .ok (.if_icmp .le 6, 3) := by decide +kernel
theorem dX9_questions_20 : decode cX9_questions 20 = .ok (.bipush (-4), 2) := by decide +kernel
theorem dX9_questions_22 : decode cX9_questions 22 = .ok (.ireturn, 1) := by decide +kernel
theorem dX9_questions_23 : decode cX9_questions 23 = .ok (.iconst 0, 1) := by decide +kernel
theorem dX9_questions_24 : decode cX9_questions 24 = .ok (.istore_n 1, 1) := by decide +kernel
theorem dX9_questions_25 : decode cX9_questions 25 = .ok (.iconst 1, 1) := by decide +kernel
theorem dX9_questions_26 : decode cX9_questions 26 = .ok (.istore_n 2, 1) := by decide +kernel
theorem dX9_questions_27 : decode cX9_questions 27 = .ok (.aload_n 0, 1) := by decide +kernel
theorem dX9_questions_28 : decode cX9_questions 28 = .ok (.getfield 31, 3) := by decide +kernel
theorem dX9_questions_31 : decode cX9_questions 31 = .ok (.iconst 0, 1) := by decide +kernel
theorem dX9_questions_32 : decode cX9_questions 32 = .ok (.lconst 1, 1) := by decide +kernel
theorem dX9_questions_33 : decode cX9_questions 33 = .ok (.aload_n 0, 1) := by decide +kernel
theorem dX9_questions_34 : decode cX9_questions 34 = .ok (.getfield 157, 3) := by decide +kernel
theorem dX9_questions_37 : decode cX9_questions 37 = .ok (.lshl, 1) := by decide +kernel
theorem dX9_questions_38 : decode cX9_questions 38 = .ok (.lconst 1, 1) := by decide +kernel
theorem dX9_questions_39 : decode cX9_questions 39 = .ok (.lsub, 1) := by decide +kernel
theorem dX9_questions_40 : decode cX9_questions 40 = .ok (.lastore, 1) := by decide +kernel
theorem dX9_questions_41 : decode cX9_questions 41 = .ok (.aload_n 0, 1) := by decide +kernel
theorem dX9_questions_42 : decode cX9_questions 42 = .ok (.getfield 35, 3) := by decide +kernel
theorem dX9_questions_45 : decode cX9_questions 45 = .ok (.iconst 0, 1) := by decide +kernel
theorem dX9_questions_46 : decode cX9_questions 46 = .ok (.iconst 0, 1) := by decide +kernel
theorem dX9_questions_47 : decode cX9_questions 47 = .ok (.iastore, 1) := by decide +kernel
theorem dX9_questions_48 : decode cX9_questions 48 = .ok (.iload_n 2, 1) := by decide +kernel
theorem dX9_questions_49 : decode cX9_questions 49 = .ok (.ifCond .le 149, 3) := by decide +kernel
theorem dX9_questions_52 : decode cX9_questions 52 = .ok (.iinc 2 (-1), 3) := by decide +kernel
theorem dX9_questions_55 : decode cX9_questions 55 = .ok (.aload_n 0, 1) := by decide +kernel
theorem dX9_questions_56 : decode cX9_questions 56 = .ok (.getfield 31, 3) := by decide +kernel
theorem dX9_questions_59 : decode cX9_questions 59 = .ok (.iload_n 2, 1) := by decide +kernel
theorem dX9_questions_60 : decode cX9_questions 60 = .ok (.laload, 1) := by decide +kernel
theorem dX9_questions_61 : decode cX9_questions 61 = .ok (.lstore_n 3, 1) := by decide +kernel
theorem dX9_questions_62 : decode cX9_questions 62 = .ok (.aload_n 0, 1) := by decide +kernel
theorem dX9_questions_63 : decode cX9_questions 63 = .ok (.getfield 35, 3) := by decide +kernel
theorem dX9_questions_66 : decode cX9_questions 66 = .ok (.iload_n 2, 1) := by decide +kernel
theorem dX9_questions_67 : decode cX9_questions 67 = .ok (.iaload, 1) := by decide +kernel
theorem dX9_questions_68 : decode cX9_questions 68 = .ok (.istore 5, 2) := by decide +kernel
theorem dX9_questions_70 : decode cX9_questions 70 = .ok (.aload_n 0, 1) := by decide +kernel
theorem dX9_questions_71 : decode cX9_questions 71 = .ok (.lload_n 3, 1) := by decide +kernel
theorem dX9_questions_72 : decode cX9_questions 72 = .ok (.invokevirtual 172, 3) := by decide +kernel
theorem dX9_questions_75 : decode cX9_questions 75 = .ok (.istore 6, 2) := by decide +kernel
theorem dX9_questions_77 : decode cX9_questions 77 = .ok (.iload 6, 2) := by decide +kernel
theorem dX9_questions_79 : decode cX9_questions 79 = .ok (.ifCond .eq 8, 3) := by decide +kernel
theorem dX9_questions_82 : decode cX9_questions 82 = .ok (.bipush (-4), 2) := by decide +kernel
theorem dX9_questions_84 : decode cX9_questions 84 = .ok (.goto 11, 3) := by decide +kernel
theorem dX9_questions_87 : decode cX9_questions 87 = .ok (.aload_n 0, 1) := by decide +kernel
theorem dX9_questions_88 : decode cX9_questions 88 = .ok (.aload_n 0, 1) := by decide +kernel
theorem dX9_questions_89 : decode cX9_questions 89 = .ok (.getfield 166, 3) := by decide +kernel
theorem dX9_questions_92 : decode cX9_questions 92 = .ok (.invokevirtual 176, 3) := by decide +kernel
theorem dX9_questions_95 : decode cX9_questions 95 = .ok (.istore 7, 2) := by decide +kernel
theorem dX9_questions_97 : decode cX9_questions 97 = .ok (.iload 5, 2) := by decide +kernel
theorem dX9_questions_99 : decode cX9_questions 99 = .ok (.iload_n 1, 1) := by decide +kernel
theorem dX9_questions_100 : decode cX9_questions 100 = .ok (.if_icmp .le 8, 3) := by decide +kernel
theorem dX9_questions_103 : decode cX9_questions 103 = .ok (.iload 5, 2) := by decide +kernel
theorem dX9_questions_105 : decode cX9_questions 105 = .ok (.goto 4, 3) := by decide +kernel
theorem dX9_questions_108 : decode cX9_questions 108 = .ok (.iload_n 1, 1) := by decide +kernel
theorem dX9_questions_109 : decode cX9_questions 109 = .ok (.istore_n 1, 1) := by decide +kernel
theorem dX9_questions_110 : decode cX9_questions 110 = .ok (.iconst 0, 1) := by decide +kernel
theorem dX9_questions_111 : decode cX9_questions 111 = .ok (.istore 8, 2) := by decide +kernel
theorem dX9_questions_113 : decode cX9_questions 113 = .ok (.iload 7, 2) := by decide +kernel
theorem dX9_questions_115 : decode cX9_questions 115 = .ok (.bipush (-4), 2) := by decide +kernel
theorem dX9_questions_117 : decode cX9_questions 117 = .ok (.if_icmp .eq 78, 3) := by decide +kernel
theorem dX9_questions_120 : decode cX9_questions 120 = .ok (.iload 8, 2) := by decide +kernel
theorem dX9_questions_122 : decode cX9_questions 122 = .ok (.aload_n 0, 1) := by decide +kernel
theorem dX9_questions_123 : decode cX9_questions 123 = .ok (.getfield 7, 3) := by decide +kernel
theorem dX9_questions_126 : decode cX9_questions 126 = .ok (.aload_n 0, 1) := by decide +kernel
theorem dX9_questions_127 : decode cX9_questions 127 = .ok (.iload 7, 2) := by decide +kernel
theorem dX9_questions_129 : decode cX9_questions 129 = .ok (.invokevirtual 79, 3) := by decide +kernel
theorem dX9_questions_132 : decode cX9_questions 132 = .ok (.iaload, 1) := by decide +kernel
theorem dX9_questions_133 : decode cX9_questions 133 = .ok (.if_icmp .ge 62, 3) := by decide +kernel
theorem dX9_questions_136 : decode cX9_questions 136 = .ok (.aload_n 0, 1) := by decide +kernel
theorem dX9_questions_137 : decode cX9_questions 137 = .ok (.lload_n 3, 1) := by decide +kernel
theorem dX9_questions_138 : decode cX9_questions 138 = .ok (.iload 7, 2) := by decide +kernel
theorem dX9_questions_140 : decode cX9_questions 140 = .ok (.aload_n 0, 1) := by decide +kernel
theorem dX9_questions_141 : decode cX9_questions 141 = .ok (.getfield 7, 3) := by decide +kernel
theorem dX9_questions_144 : decode cX9_questions 144 = .ok (.aload_n 0, 1) := by decide +kernel
theorem dX9_questions_145 : decode cX9_questions 145 = .ok (.iload 7, 2) := by decide +kernel
theorem dX9_questions_147 : decode cX9_questions 147 = .ok (.invokevirtual 79, 3) := by decide +kernel
theorem dX9_questions_150 : decode cX9_questions 150 = .ok (.iconst 1, 1) := by decide +kernel
theorem dX9_questions_151 : decode cX9_questions 151 = .ok (.iadd, 1) := by decide +kernel
theorem dX9_questions_152 : decode cX9_questions 152 = .ok (.iload 8, 2) := by decide +kernel
theorem dX9_questions_154 : decode cX9_questions 154 = .ok (.iadd, 1) := by decide +kernel
theorem dX9_questions_155 : decode cX9_questions 155 = .ok (.iaload, 1) := by decide +kernel
theorem dX9_questions_156 : decode cX9_questions 156 = .ok (.invokevirtual 179, 3) := by decide +kernel
theorem dX9_questions_159 : decode cX9_questions 159 = .ok (.lstore 9, 2) := by decide +kernel
theorem dX9_questions_161 : decode cX9_questions 161 = .ok (.lload 9, 2) := by decide +kernel
theorem dX9_questions_163 : decode cX9_questions 163 = .ok (.lconst 0, 1) := by decide +kernel
theorem dX9_questions_164 : decode cX9_questions 164 = .ok (.lcmp, 1) := by decide +kernel
theorem dX9_questions_165 : decode cX9_questions 165 = .ok (.ifCond .eq 24, 3) := by decide +kernel
theorem dX9_questions_168 : decode cX9_questions 168 = .ok (.aload_n 0, 1) := by decide +kernel
theorem dX9_questions_169 : decode cX9_questions 169 = .ok (.getfield 31, 3) := by decide +kernel
theorem dX9_questions_172 : decode cX9_questions 172 = .ok (.iload_n 2, 1) := by decide +kernel
theorem dX9_questions_173 : decode cX9_questions 173 = .ok (.lload 9, 2) := by decide +kernel
theorem dX9_questions_175 : decode cX9_questions 175 = .ok (.lastore, 1) := by decide +kernel
theorem dX9_questions_176 : decode cX9_questions 176 = .ok (.aload_n 0, 1) := by decide +kernel
theorem dX9_questions_177 : decode cX9_questions 177 = .ok (.getfield 35, 3) := by decide +kernel
theorem dX9_questions_180 : decode cX9_questions 180 = .ok (.iload_n 2, 1) := by decide +kernel
theorem dX9_questions_181 : decode cX9_questions 181 = .ok (.iload 5, 2) := by decide +kernel
theorem dX9_questions_183 : decode cX9_questions 183 = .ok (.iconst 1, 1) := by decide +kernel
theorem dX9_questions_184 : decode cX9_questions 184 = .ok (.iadd, 1) := by decide +kernel
theorem dX9_questions_185 : decode cX9_questions 185 = .ok (.iastore, 1) := by decide +kernel
theorem dX9_questions_186 : decode cX9_questions 186 = .ok (.iinc 2 1, 3) := by decide +kernel
theorem dX9_questions_189 : decode cX9_questions 189 = .ok (.iinc 8 1, 3) := by decide +kernel
theorem dX9_questions_192 : decode cX9_questions 192 = .ok (.goto (-79), 3) := by decide +kernel
theorem dX9_questions_195 : decode cX9_questions 195 = .ok (.goto (-147), 3) := by decide +kernel
theorem dX9_questions_198 : decode cX9_questions 198 = .ok (.iload_n 1, 1) := by decide +kernel
theorem dX9_questions_199 : decode cX9_questions 199 = .ok (.ireturn, 1) := by decide +kernel
theorem dX9_spoilt_0 : decode cX9_spoilt 0 = .ok (.aload_n 0, 1) := by decide +kernel
theorem dX9_spoilt_1 : decode cX9_spoilt 1 = .ok (.invokevirtual 154, 3) := by decide +kernel
theorem dX9_spoilt_4 : decode cX9_spoilt 4 = .ok (.aload_n 0, 1) := by decide +kernel
theorem dX9_spoilt_5 : decode cX9_spoilt 5 = .ok (.getfield 135, 3) := by decide +kernel
theorem dX9_spoilt_8 : decode cX9_spoilt 8 = .ok (.bipush (-4), 2) := by decide +kernel
theorem dX9_spoilt_10 : decode cX9_spoilt 10 = .ok (.if_icmp .ne 6, 3) := by decide +kernel
theorem dX9_spoilt_13 : decode cX9_spoilt 13 = .ok (.bipush (-4), 2) := by decide +kernel
theorem dX9_spoilt_15 : decode cX9_spoilt 15 = .ok (.ireturn, 1) := by decide +kernel
theorem dX9_spoilt_16 : decode cX9_spoilt 16 = .ok (.iconst 0, 1) := by decide +kernel
theorem dX9_spoilt_17 : decode cX9_spoilt 17 = .ok (.istore_n 1, 1) := by decide +kernel
theorem dX9_spoilt_18 : decode cX9_spoilt 18 = .ok (.iconst 0, 1) := by decide +kernel
theorem dX9_spoilt_19 : decode cX9_spoilt 19 = .ok (.istore_n 2, 1) := by decide +kernel
theorem dX9_spoilt_20 : decode cX9_spoilt 20 = .ok (.iload_n 2, 1) := by decide +kernel
theorem dX9_spoilt_21 : decode cX9_spoilt 21 = .ok (.aload_n 0, 1) := by decide +kernel
theorem dX9_spoilt_22 : decode cX9_spoilt 22 = .ok (.getfield 7, 3) := by decide +kernel
theorem dX9_spoilt_25 : decode cX9_spoilt 25 = .ok (.iconst 0, 1) := by decide +kernel
theorem dX9_spoilt_26 : decode cX9_spoilt 26 = .ok (.iaload, 1) := by decide +kernel
theorem dX9_spoilt_27 : decode cX9_spoilt 27 = .ok (.if_icmp .ge 97, 3) := by decide +kernel
theorem dX9_spoilt_30 : decode cX9_spoilt 30 = .ok (.iconst 0, 1) := by decide +kernel
theorem dX9_spoilt_31 : decode cX9_spoilt 31 = .ok (.istore_n 3, 1) := by decide +kernel
theorem dX9_spoilt_32 : decode cX9_spoilt 32 = .ok (.iload_n 3, 1) := by decide +kernel
theorem dX9_spoilt_33 : decode cX9_spoilt 33 = .ok (.aload_n 0, 1) := by decide +kernel
theorem dX9_spoilt_34 : decode cX9_spoilt 34 = .ok (.getfield 7, 3) := by decide +kernel
theorem dX9_spoilt_37 : decode cX9_spoilt 37 = .ok (.aload_n 0, 1) := by decide +kernel
theorem dX9_spoilt_38 : decode cX9_spoilt 38 = .ok (.iload_n 2, 1) := by decide +kernel
theorem dX9_spoilt_39 : decode cX9_spoilt 39 = .ok (.invokevirtual 79, 3) := by decide +kernel
theorem dX9_spoilt_42 : decode cX9_spoilt 42 = .ok (.iaload, 1) := by decide +kernel
theorem dX9_spoilt_43 : decode cX9_spoilt 43 = .ok (.if_icmp .ge 75, 3) := by decide +kernel
theorem dX9_spoilt_46 : decode cX9_spoilt 46 = .ok (.aload_n 0, 1) := by decide +kernel
theorem dX9_spoilt_47 : decode cX9_spoilt 47 = .ok (.aload_n 0, 1) := by decide +kernel
theorem dX9_spoilt_48 : decode cX9_spoilt 48 = .ok (.getfield 135, 3) := by decide +kernel
theorem dX9_spoilt_51 : decode cX9_spoilt 51 = .ok (.invokevirtual 144, 3) := by decide +kernel
theorem dX9_spoilt_54 : decode cX9_spoilt 54 = .ok (.istore 4, 2) := by decide +kernel
theorem dX9_spoilt_56 : decode cX9_spoilt 56 = .ok (.aload_n 0, 1) := by decide +kernel
theorem dX9_spoilt_57 : decode cX9_spoilt 57 = .ok (.getfield 13, 3) := by decide +kernel
theorem dX9_spoilt_60 : decode cX9_spoilt 60 = .ok (.iload_n 2, 1) := by decide +kernel
theorem dX9_spoilt_61 : decode cX9_spoilt 61 = .ok (.iaload, 1) := by decide +kernel
theorem dX9_spoilt_62 : decode cX9_spoilt 62 = .ok (.iload_n 3, 1) := by decide +kernel
theorem dX9_spoilt_63 : decode cX9_spoilt 63 = .ok (.if_icmp .eq 7, 3) := by decide +kernel
theorem dX9_spoilt_66 : decode cX9_spoilt 66 = .ok (.iconst 1, 1) := by decide +kernel
theorem dX9_spoilt_67 : decode cX9_spoilt 67 = .ok (.goto 4, 3) := by decide +kernel
theorem dX9_spoilt_70 : decode cX9_spoilt 70 = .ok (.iconst 0, 1) := by decide +kernel
theorem dX9_spoilt_71 : decode cX9_spoilt 71 = .ok (.istore 5, 2) := by decide +kernel
theorem dX9_spoilt_73 : decode cX9_spoilt 73 = .ok (.aload_n 0, 1) := by decide +kernel
theorem dX9_spoilt_74 : decode cX9_spoilt 74 = .ok (.getfield 13, 3) := by decide +kernel
theorem dX9_spoilt_77 : decode cX9_spoilt 77 = .ok (.iload_n 2, 1) := by decide +kernel
theorem dX9_spoilt_78 : decode cX9_spoilt 78 = .ok (.iload_n 3, 1) := by decide +kernel
theorem dX9_spoilt_79 : decode cX9_spoilt 79 = .ok (.iastore, 1) := by decide +kernel
theorem dX9_spoilt_80 : decode cX9_spoilt 80 = .ok (.iload_n 1, 1) := by decide +kernel
theorem dX9_spoilt_81 : decode cX9_spoilt 81 = .ok (.iload 4, 2) := by decide +kernel
theorem dX9_spoilt_83 : decode cX9_spoilt 83 = .ok (.ifCond .eq 26, 3) := by decide +kernel
theorem dX9_spoilt_86 : decode cX9_spoilt 86 = .ok (.iload 5, 2) := by decide +kernel
theorem dX9_spoilt_88 : decode cX9_spoilt 88 = .ok (.ifCond .eq 21, 3) := by decide +kernel
theorem dX9_spoilt_91 : decode cX9_spoilt 91 = .ok (.aload_n 0, 1) := by decide +kernel
theorem dX9_spoilt_92 : decode cX9_spoilt 92 = .ok (.invokevirtual 119, 3) := by decide +kernel
theorem dX9_spoilt_95 : decode cX9_spoilt 95 = .ok (.ifCond .eq 14, 3) := by decide +kernel
theorem dX9_spoilt_98 : decode cX9_spoilt 98 = .ok (.aload_n 0, 1) := by decide +kernel
theorem dX9_spoilt_99 : decode cX9_spoilt 99 = .ok (.invokevirtual 148, 3) := by decide +kernel
theorem dX9_spoilt_102 : decode cX9_spoilt 102 = .ok (.ifCond .ne 7, 3) := by decide +kernel
theorem dX9_spoilt_105 : decode cX9_spoilt 105 = .ok (.iconst 1, 1) := by decide +kernel
theorem dX9_spoilt_106 : decode cX9_spoilt 106 = .ok (.goto 4, 3) := by decide +kernel
theorem dX9_spoilt_109 : decode cX9_spoilt 109 = .ok (.iconst 0, 1) := by decide +kernel
theorem dX9_spoilt_110 : decode cX9_spoilt 110 = .ok (.iadd, 1) := by decide +kernel
theorem dX9_spoilt_111 : decode cX9_spoilt 111 = .ok (.istore_n 1, 1) := by decide +kernel
theorem dX9_spoilt_112 : decode cX9_spoilt 112 = .ok (.iinc 3 1, 3) := by decide +kernel
theorem dX9_spoilt_115 : decode cX9_spoilt 115 = .ok (.goto (-83), 3) := by decide +kernel
theorem dX9_spoilt_118 : decode cX9_spoilt 118 = .ok (.iinc 2 1, 3) := by decide +kernel
theorem dX9_spoilt_121 : decode cX9_spoilt 121 = .ok (.goto (-101), 3) := by decide +kernel
theorem dX9_spoilt_124 : decode cX9_spoilt 124 = .ok (.iload_n 1, 1) := by decide +kernel
theorem dX9_spoilt_125 : decode cX9_spoilt 125 = .ok (.ireturn, 1) := by decide +kernel
theorem dX9_slot_0 : decode cX9_slot 0 = .ok (.aload_n 0, 1) := by decide +kernel
theorem dX9_slot_1 : decode cX9_slot 1 = .ok (.iload_n 1, 1) := by decide +kernel
theorem dX9_slot_2 : decode cX9_slot 2 = .ok (.invokevirtual 183, 3) := by decide +kernel
theorem dX9_slot_5 : decode cX9_slot 5 = .ok (.ifCond .eq 18, 3) := by decide +kernel
theorem dX9_slot_8 : decode cX9_slot 8 = .ok (.iload_n 2, 1) := by decide +kernel
theorem dX9_slot_9 : decode cX9_slot 9 = .ok (.iconst (-1), 1) := by decide +kernel
theorem dX9_slot_10 : decode cX9_slot 10 = .ok (.if_icmp .lt 13, 3) := by decide +kernel
theorem dX9_slot_13 : decode cX9_slot 13 = .ok (.iload_n 3, 1) := by decide +kernel
theorem dX9_slot_14 : decode cX9_slot 14 = .ok (.i2l, 1) := by decide +kernel
theorem dX9_slot_15 : decode cX9_slot 15 = .ok (.lconst 0, 1) := by decide +kernel
theorem dX9_slot_16 : decode cX9_slot 16 = .ok (.lconst 1, 1) := by decide +kernel
theorem dX9_slot_17 : decode cX9_slot 17 = .ok (.invokestatic 75, 3) := by decide +kernel
theorem dX9_slot_20 : decode cX9_slot 20 = .ok (.ifCond .ne 5, 3) := by decide +kernel
theorem dX9_slot_23 : decode cX9_slot 23 = .ok (.iconst (-1), 1) := by decide +kernel
theorem dX9_slot_24 : decode cX9_slot 24 = .ok (.ireturn, 1) := by decide +kernel
theorem dX9_slot_25 : decode cX9_slot 25 = .ok (.iload_n 2, 1) := by decide +kernel
theorem dX9_slot_26 : decode cX9_slot 26 = .ok (.iconst (-1), 1) := by decide +kernel
theorem dX9_slot_27 : decode cX9_slot 27 = .ok (.if_icmp .ne 16, 3) := by decide +kernel
theorem dX9_slot_30 : decode cX9_slot 30 = .ok (.aload_n 0, 1) := by decide +kernel
theorem dX9_slot_31 : decode cX9_slot 31 = .ok (.getfield 7, 3) := by decide +kernel
theorem dX9_slot_34 : decode cX9_slot 34 = .ok (.aload_n 0, 1) := by decide +kernel
theorem dX9_slot_35 : decode cX9_slot 35 = .ok (.iload_n 1, 1) := by decide +kernel
theorem dX9_slot_36 : decode cX9_slot 36 = .ok (.invokevirtual 79, 3) := by decide +kernel
theorem dX9_slot_39 : decode cX9_slot 39 = .ok (.iaload, 1) := by decide +kernel
theorem dX9_slot_40 : decode cX9_slot 40 = .ok (.goto 40, 3) := by decide +kernel
theorem dX9_slot_43 : decode cX9_slot 43 = .ok (.iload_n 2, 1) := by decide +kernel
theorem dX9_slot_44 : decode cX9_slot 44 = .ok (.aload_n 0, 1) := by decide +kernel
theorem dX9_slot_45 : decode cX9_slot 45 = .ok (.getfield 7, 3) := by decide +kernel
theorem dX9_slot_48 : decode cX9_slot 48 = .ok (.aload_n 0, 1) := by decide +kernel
theorem dX9_slot_49 : decode cX9_slot 49 = .ok (.iload_n 1, 1) := by decide +kernel
theorem dX9_slot_50 : decode cX9_slot 50 = .ok (.invokevirtual 79, 3) := by decide +kernel
theorem dX9_slot_53 : decode cX9_slot 53 = .ok (.iaload, 1) := by decide +kernel
theorem dX9_slot_54 : decode cX9_slot 54 = .ok (.if_icmp .ge 24, 3) := by decide +kernel
theorem dX9_slot_57 : decode cX9_slot 57 = .ok (.aload_n 0, 1) := by decide +kernel
theorem dX9_slot_58 : decode cX9_slot 58 = .ok (.getfield 7, 3) := by decide +kernel
theorem dX9_slot_61 : decode cX9_slot 61 = .ok (.aload_n 0, 1) := by decide +kernel
theorem dX9_slot_62 : decode cX9_slot 62 = .ok (.iload_n 1, 1) := by decide +kernel
theorem dX9_slot_63 : decode cX9_slot 63 = .ok (.invokevirtual 79, 3) := by decide +kernel
theorem dX9_slot_66 : decode cX9_slot 66 = .ok (.iconst 1, 1) := by decide +kernel
theorem dX9_slot_67 : decode cX9_slot 67 = .ok (.iadd, 1) := by decide +kernel
theorem dX9_slot_68 : decode cX9_slot 68 = .ok (.iconst 4, 1) := by decide +kernel
theorem dX9_slot_69 : decode cX9_slot 69 = .ok (.iload_n 3, 1) := by decide +kernel
theorem dX9_slot_70 : decode cX9_slot 70 = .ok (.imul, 1) := by decide +kernel
theorem dX9_slot_71 : decode cX9_slot 71 = .ok (.iadd, 1) := by decide +kernel
theorem dX9_slot_72 : decode cX9_slot 72 = .ok (.iload_n 2, 1) := by decide +kernel
theorem dX9_slot_73 : decode cX9_slot 73 = .ok (.iadd, 1) := by decide +kernel
theorem dX9_slot_74 : decode cX9_slot 74 = .ok (.iaload, 1) := by decide +kernel
theorem dX9_slot_75 : decode cX9_slot 75 = .ok (.goto 5, 3) := by decide +kernel
theorem dX9_slot_78 : decode cX9_slot 78 = .ok (.bipush (-4), 2) := by decide +kernel
theorem dX9_slot_80 : decode cX9_slot 80 = .ok (.ireturn, 1) := by decide +kernel
theorem dX9_count_0 : decode cX9_count 0 = .ok (.iload_n 1, 1) := by decide +kernel
theorem dX9_count_1 : decode cX9_count 1 = .ok (.tableswitch 159 0 10 #[59, 66, 73, 80, 89, 98, 107, 120, 125, 149, 154], 59) := by decide +kernel
theorem dX9_count_60 : decode cX9_count 60 = .ok (.aload_n 0, 1) := by decide +kernel
theorem dX9_count_61 : decode cX9_count 61 = .ok (.getfield 7, 3) := by decide +kernel
theorem dX9_count_64 : decode cX9_count 64 = .ok (.iconst 0, 1) := by decide +kernel
theorem dX9_count_65 : decode cX9_count 65 = .ok (.iaload, 1) := by decide +kernel
theorem dX9_count_66 : decode cX9_count 66 = .ok (.ireturn, 1) := by decide +kernel
theorem dX9_count_67 : decode cX9_count 67 = .ok (.aload_n 0, 1) := by decide +kernel
theorem dX9_count_68 : decode cX9_count 68 = .ok (.getfield 7, 3) := by decide +kernel
theorem dX9_count_71 : decode cX9_count 71 = .ok (.iconst 1, 1) := by decide +kernel
theorem dX9_count_72 : decode cX9_count 72 = .ok (.iaload, 1) := by decide +kernel
theorem dX9_count_73 : decode cX9_count 73 = .ok (.ireturn, 1) := by decide +kernel
theorem dX9_count_74 : decode cX9_count 74 = .ok (.aload_n 0, 1) := by decide +kernel
theorem dX9_count_75 : decode cX9_count 75 = .ok (.getfield 7, 3) := by decide +kernel
theorem dX9_count_78 : decode cX9_count 78 = .ok (.iconst 2, 1) := by decide +kernel
theorem dX9_count_79 : decode cX9_count 79 = .ok (.iaload, 1) := by decide +kernel
theorem dX9_count_80 : decode cX9_count 80 = .ok (.ireturn, 1) := by decide +kernel
theorem dX9_count_81 : decode cX9_count 81 = .ok (.aload_n 0, 1) := by decide +kernel
theorem dX9_count_82 : decode cX9_count 82 = .ok (.invokevirtual 154, 3) := by decide +kernel
theorem dX9_count_85 : decode cX9_count 85 = .ok (.aload_n 0, 1) := by decide +kernel
theorem dX9_count_86 : decode cX9_count 86 = .ok (.getfield 129, 3) := by decide +kernel
theorem dX9_count_89 : decode cX9_count 89 = .ok (.ireturn, 1) := by decide +kernel
theorem dX9_count_90 : decode cX9_count 90 = .ok (.aload_n 0, 1) := by decide +kernel
theorem dX9_count_91 : decode cX9_count 91 = .ok (.invokevirtual 154, 3) := by decide +kernel
theorem dX9_count_94 : decode cX9_count 94 = .ok (.aload_n 0, 1) := by decide +kernel
theorem dX9_count_95 : decode cX9_count 95 = .ok (.getfield 132, 3) := by decide +kernel
theorem dX9_count_98 : decode cX9_count 98 = .ok (.ireturn, 1) := by decide +kernel
theorem dX9_count_99 : decode cX9_count 99 = .ok (.aload_n 0, 1) := by decide +kernel
theorem dX9_count_100 : decode cX9_count 100 = .ok (.invokevirtual 169, 3) := by decide +kernel
theorem dX9_count_103 : decode cX9_count 103 = .ok (.aload_n 0, 1) := by decide +kernel
theorem dX9_count_104 : decode cX9_count 104 = .ok (.getfield 157, 3) := by decide +kernel
theorem dX9_count_107 : decode cX9_count 107 = .ok (.ireturn, 1) := by decide +kernel
theorem dX9_count_108 : decode cX9_count 108 = .ok (.aload_n 0, 1) := by decide +kernel
theorem dX9_count_109 : decode cX9_count 109 = .ok (.invokevirtual 169, 3) := by decide +kernel
theorem dX9_count_112 : decode cX9_count 112 = .ok (.aload_n 0, 1) := by decide +kernel
theorem dX9_count_113 : decode cX9_count 113 = .ok (.aload_n 0, 1) := by decide +kernel
theorem dX9_count_114 : decode cX9_count 114 = .ok (.getfield 157, 3) := by decide +kernel
theorem dX9_count_117 : decode cX9_count 117 = .ok (.invokevirtual 176, 3) := by decide +kernel
theorem dX9_count_120 : decode cX9_count 120 = .ok (.ireturn, 1) := by decide +kernel
theorem dX9_count_121 : decode cX9_count 121 = .ok (.aload_n 0, 1) := by decide +kernel
theorem dX9_count_122 : decode cX9_count 122 = .ok (.invokevirtual 186, 3) := by decide +kernel
theorem dX9_count_125 : decode cX9_count 125 = .ok (.ireturn, 1) := by decide +kernel
theorem dX9_count_126 : decode cX9_count 126 = .ok (.aload_n 0, 1) := by decide +kernel
theorem dX9_count_127 : decode cX9_count 127 = .ok (.invokevirtual 169, 3) := by decide +kernel
theorem dX9_count_130 : decode cX9_count 130 = .ok (.aload_n 0, 1) := by decide +kernel
theorem dX9_count_131 : decode cX9_count 131 = .ok (.getfield 160, 3) := by decide +kernel
theorem dX9_count_134 : decode cX9_count 134 = .ok (.sipush 9999, 3) := by decide +kernel
theorem dX9_count_137 : decode cX9_count 137 = .ok (.if_icmp .ne 8, 3) := by decide +kernel
theorem dX9_count_140 : decode cX9_count 140 = .ok (.bipush (-4), 2) := by decide +kernel
theorem dX9_count_142 : decode cX9_count 142 = .ok (.goto 7, 3) := by decide +kernel
theorem dX9_count_145 : decode cX9_count 145 = .ok (.aload_n 0, 1) := by decide +kernel
theorem dX9_count_146 : decode cX9_count 146 = .ok (.getfield 160, 3) := by decide +kernel
theorem dX9_count_149 : decode cX9_count 149 = .ok (.ireturn, 1) := by decide +kernel
theorem dX9_count_150 : decode cX9_count 150 = .ok (.aload_n 0, 1) := by decide +kernel
theorem dX9_count_151 : decode cX9_count 151 = .ok (.invokevirtual 189, 3) := by decide +kernel
theorem dX9_count_154 : decode cX9_count 154 = .ok (.ireturn, 1) := by decide +kernel
theorem dX9_count_155 : decode cX9_count 155 = .ok (.aload_n 0, 1) := by decide +kernel
theorem dX9_count_156 : decode cX9_count 156 = .ok (.getfield 192, 3) := by decide +kernel
theorem dX9_count_159 : decode cX9_count 159 = .ok (.ireturn, 1) := by decide +kernel
theorem dX9_count_160 : decode cX9_count 160 = .ok (.iconst (-1), 1) := by decide +kernel
theorem dX9_count_161 : decode cX9_count 161 = .ok (.ireturn, 1) := by decide +kernel
theorem dX9_type_0 : decode cX9_type 0 = .ok (.iload_n 1, 1) := by decide +kernel
theorem dX9_type_1 : decode cX9_type 1 = .ok (.i2l, 1) := by decide +kernel
theorem dX9_type_2 : decode cX9_type 2 = .ok (.ldc2_w 195, 3) := by decide +kernel
theorem dX9_type_5 : decode cX9_type 5 = .ok (.ldc2_w 197, 3) := by decide +kernel
theorem dX9_type_8 : decode cX9_type 8 = .ok (.invokestatic 75, 3) := by decide +kernel
theorem dX9_type_11 : decode cX9_type 11 = .ok (.ifCond .ne 5, 3) := by decide +kernel
theorem dX9_type_14 : decode cX9_type 14 = .ok (.iconst (-1), 1) := by decide +kernel
theorem dX9_type_15 : decode cX9_type 15 = .ok (.ireturn, 1) := by decide +kernel
theorem dX9_type_16 : decode cX9_type 16 = .ok (.aload_n 0, 1) := by decide +kernel
theorem dX9_type_17 : decode cX9_type 17 = .ok (.getfield 199, 3) := by decide +kernel
theorem dX9_type_20 : decode cX9_type 20 = .ok (.bipush 120, 2) := by decide +kernel
theorem dX9_type_22 : decode cX9_type 22 = .ok (.if_icmp .ne 6, 3) := by decide +kernel
theorem dX9_type_25 : decode cX9_type 25 = .ok (.bipush (-3), 2) := by decide +kernel
theorem dX9_type_27 : decode cX9_type 27 = .ok (.ireturn, 1) := by decide +kernel
theorem dX9_type_28 : decode cX9_type 28 = .ok (.aload_n 0, 1) := by decide +kernel
theorem dX9_type_29 : decode cX9_type 29 = .ok (.getfield 41, 3) := by decide +kernel
theorem dX9_type_32 : decode cX9_type 32 = .ok (.aload_n 0, 1) := by decide +kernel
theorem dX9_type_33 : decode cX9_type 33 = .ok (.getfield 199, 3) := by decide +kernel
theorem dX9_type_36 : decode cX9_type 36 = .ok (.iload_n 1, 1) := by decide +kernel
theorem dX9_type_37 : decode cX9_type 37 = .ok (.iastore, 1) := by decide +kernel
theorem dX9_type_38 : decode cX9_type 38 = .ok (.aload_n 0, 1) := by decide +kernel
theorem dX9_type_39 : decode cX9_type 39 = .ok (.dup, 1) := by decide +kernel
theorem dX9_type_40 : decode cX9_type 40 = .ok (.getfield 199, 3) := by decide +kernel
theorem dX9_type_43 : decode cX9_type 43 = .ok (.iconst 1, 1) := by decide +kernel
theorem dX9_type_44 : decode cX9_type 44 = .ok (.iadd, 1) := by decide +kernel
theorem dX9_type_45 : decode cX9_type 45 = .ok (.putfield 199, 3) := by decide +kernel
theorem dX9_type_48 : decode cX9_type 48 = .ok (.aload_n 0, 1) := by decide +kernel
theorem dX9_type_49 : decode cX9_type 49 = .ok (.getfield 199, 3) := by decide +kernel
theorem dX9_type_52 : decode cX9_type 52 = .ok (.ireturn, 1) := by decide +kernel
theorem dX9_here_0 : decode cX9_here 0 = .ok (.aload_n 0, 1) := by decide +kernel
theorem dX9_here_1 : decode cX9_here 1 = .ok (.getfield 202, 3) := by decide +kernel
theorem dX9_here_4 : decode cX9_here 4 = .ok (.aload_n 0, 1) := by decide +kernel
theorem dX9_here_5 : decode cX9_here 5 = .ok (.getfield 199, 3) := by decide +kernel
theorem dX9_here_8 : decode cX9_here 8 = .ok (.if_icmp .ge 30, 3) := by decide +kernel
theorem dX9_here_11 : decode cX9_here 11 = .ok (.aload_n 0, 1) := by decide +kernel
theorem dX9_here_12 : decode cX9_here 12 = .ok (.getfield 41, 3) := by decide +kernel
theorem dX9_here_15 : decode cX9_here 15 = .ok (.aload_n 0, 1) := by decide +kernel
theorem dX9_here_16 : decode cX9_here 16 = .ok (.getfield 202, 3) := by decide +kernel
theorem dX9_here_19 : decode cX9_here 19 = .ok (.iaload, 1) := by decide +kernel
theorem dX9_here_20 : decode cX9_here 20 = .ok (.bipush 32, 2) := by decide +kernel
theorem dX9_here_22 : decode cX9_here 22 = .ok (.if_icmp .ne 16, 3) := by decide +kernel
theorem dX9_here_25 : decode cX9_here 25 = .ok (.aload_n 0, 1) := by decide +kernel
theorem dX9_here_26 : decode cX9_here 26 = .ok (.dup, 1) := by decide +kernel
theorem dX9_here_27 : decode cX9_here 27 = .ok (.getfield 202, 3) := by decide +kernel
theorem dX9_here_30 : decode cX9_here 30 = .ok (.iconst 1, 1) := by decide +kernel
theorem dX9_here_31 : decode cX9_here 31 = .ok (.iadd, 1) := by decide +kernel
theorem dX9_here_32 : decode cX9_here 32 = .ok (.putfield 202, 3) := by decide +kernel
theorem dX9_here_35 : decode cX9_here 35 = .ok (.goto (-35), 3) := by decide +kernel
theorem dX9_here_38 : decode cX9_here 38 = .ok (.aload_n 0, 1) := by decide +kernel
theorem dX9_here_39 : decode cX9_here 39 = .ok (.getfield 202, 3) := by decide +kernel
theorem dX9_here_42 : decode cX9_here 42 = .ok (.aload_n 0, 1) := by decide +kernel
theorem dX9_here_43 : decode cX9_here 43 = .ok (.getfield 199, 3) := by decide +kernel
theorem dX9_here_46 : decode cX9_here 46 = .ok (.if_icmp .ge 15, 3) := by decide +kernel
theorem dX9_here_49 : decode cX9_here 49 = .ok (.aload_n 0, 1) := by decide +kernel
theorem dX9_here_50 : decode cX9_here 50 = .ok (.getfield 41, 3) := by decide +kernel
theorem dX9_here_53 : decode cX9_here 53 = .ok (.aload_n 0, 1) := by decide +kernel
theorem dX9_here_54 : decode cX9_here 54 = .ok (.getfield 202, 3) := by decide +kernel
theorem dX9_here_57 : decode cX9_here 57 = .ok (.iaload, 1) := by decide +kernel
theorem dX9_here_58 : decode cX9_here 58 = .ok (.goto 4, 3) := by decide +kernel
theorem dX9_here_61 : decode cX9_here 61 = .ok (.iconst 0, 1) := by decide +kernel
theorem dX9_here_62 : decode cX9_here 62 = .ok (.ireturn, 1) := by decide +kernel
theorem dX9_has_0 : decode cX9_has 0 = .ok (.aload_n 0, 1) := by decide +kernel
theorem dX9_has_1 : decode cX9_has 1 = .ok (.invokevirtual 205, 3) := by decide +kernel
theorem dX9_has_4 : decode cX9_has 4 = .ok (.iload_n 1, 1) := by decide +kernel
theorem dX9_has_5 : decode cX9_has 5 = .ok (.if_icmp .eq 5, 3) := by decide +kernel
theorem dX9_has_8 : decode cX9_has 8 = .ok (.iconst 0, 1) := by decide +kernel
theorem dX9_has_9 : decode cX9_has 9 = .ok (.ireturn, 1) := by decide +kernel
theorem dX9_has_10 : decode cX9_has 10 = .ok (.aload_n 0, 1) := by decide +kernel
theorem dX9_has_11 : decode cX9_has 11 = .ok (.dup, 1) := by decide +kernel
theorem dX9_has_12 : decode cX9_has 12 = .ok (.getfield 202, 3) := by decide +kernel
theorem dX9_has_15 : decode cX9_has 15 = .ok (.iconst 1, 1) := by decide +kernel
theorem dX9_has_16 : decode cX9_has 16 = .ok (.iadd, 1) := by decide +kernel
theorem dX9_has_17 : decode cX9_has 17 = .ok (.putfield 202, 3) := by decide +kernel
theorem dX9_has_20 : decode cX9_has 20 = .ok (.iconst 1, 1) := by decide +kernel
theorem dX9_has_21 : decode cX9_has 21 = .ok (.ireturn, 1) := by decide +kernel
theorem dX9_letterWord_0 : decode cX9_letterWord 0 = .ok (.iload_n 0, 1) := by decide +kernel
theorem dX9_letterWord_1 : decode cX9_letterWord 1 = .ok (.bipush 104, 2) := by decide +kernel
theorem dX9_letterWord_3 : decode cX9_letterWord 3 = .ok (.if_icmp .ne 8, 3) := by decide +kernel
theorem dX9_letterWord_6 : decode cX9_letterWord 6 = .ok (.bipush 28, 2) := by decide +kernel
theorem dX9_letterWord_8 : decode cX9_letterWord 8 = .ok (.goto 48, 3) := by decide +kernel
theorem dX9_letterWord_11 : decode cX9_letterWord 11 = .ok (.iload_n 0, 1) := by decide +kernel
theorem dX9_letterWord_12 : decode cX9_letterWord 12 = .ok (.bipush 116, 2) := by decide +kernel
theorem dX9_letterWord_14 : decode cX9_letterWord 14 = .ok (.if_icmp .ne 8, 3) := by decide +kernel
theorem dX9_letterWord_17 : decode cX9_letterWord 17 = .ok (.bipush 29, 2) := by decide +kernel
theorem dX9_letterWord_19 : decode cX9_letterWord 19 = .ok (.goto 37, 3) := by decide +kernel
theorem dX9_letterWord_22 : decode cX9_letterWord 22 = .ok (.iload_n 0, 1) := by decide +kernel
theorem dX9_letterWord_23 : decode cX9_letterWord 23 = .ok (.bipush 97, 2) := by decide +kernel
theorem dX9_letterWord_25 : decode cX9_letterWord 25 = .ok (.if_icmp .ne 8, 3) := by decide +kernel
theorem dX9_letterWord_28 : decode cX9_letterWord 28 = .ok (.bipush 30, 2) := by decide +kernel
theorem dX9_letterWord_30 : decode cX9_letterWord 30 = .ok (.goto 26, 3) := by decide +kernel
theorem dX9_letterWord_33 : decode cX9_letterWord 33 = .ok (.iload_n 0, 1) := by decide +kernel
theorem dX9_letterWord_34 : decode cX9_letterWord 34 = .ok (.bipush 115, 2) := by decide +kernel
theorem dX9_letterWord_36 : decode cX9_letterWord 36 = .ok (.if_icmp .ne 8, 3) := by decide +kernel
theorem dX9_letterWord_39 : decode cX9_letterWord 39 = .ok (.bipush 31, 2) := by decide +kernel
theorem dX9_letterWord_41 : decode cX9_letterWord 41 = .ok (.goto 15, 3) := by decide +kernel
theorem dX9_letterWord_44 : decode cX9_letterWord 44 = .ok (.iload_n 0, 1) := by decide +kernel
theorem dX9_letterWord_45 : decode cX9_letterWord 45 = .ok (.bipush 110, 2) := by decide +kernel
theorem dX9_letterWord_47 : decode cX9_letterWord 47 = .ok (.if_icmp .ne 7, 3) := by decide +kernel
theorem dX9_letterWord_50 : decode cX9_letterWord 50 = .ok (.iconst 0, 1) := by decide +kernel
theorem dX9_letterWord_51 : decode cX9_letterWord 51 = .ok (.goto 5, 3) := by decide +kernel
theorem dX9_letterWord_54 : decode cX9_letterWord 54 = .ok (.bipush (-4), 2) := by decide +kernel
theorem dX9_letterWord_56 : decode cX9_letterWord 56 = .ok (.ireturn, 1) := by decide +kernel
theorem dX9_wordRead_0 : decode cX9_wordRead 0 = .ok (.aload_n 0, 1) := by decide +kernel
theorem dX9_wordRead_1 : decode cX9_wordRead 1 = .ok (.invokevirtual 205, 3) := by decide +kernel
theorem dX9_wordRead_4 : decode cX9_wordRead 4 = .ok (.i2l, 1) := by decide +kernel
theorem dX9_wordRead_5 : decode cX9_wordRead 5 = .ok (.ldc2_w 208, 3) := by decide +kernel
theorem dX9_wordRead_8 : decode cX9_wordRead 8 = .ok (.ldc2_w 210, 3) := by decide +kernel
theorem dX9_wordRead_11 : decode cX9_wordRead 11 = .ok (.invokestatic 75, 3) := by decide +kernel
theorem dX9_wordRead_14 : decode cX9_wordRead 14 = .ok (.ifCond .ne 33, 3) := by decide +kernel
theorem dX9_wordRead_17 : decode cX9_wordRead 17 = .ok (.aload_n 0, 1) := by decide +kernel
theorem dX9_wordRead_18 : decode cX9_wordRead 18 = .ok (.invokevirtual 205, 3) := by decide +kernel
theorem dX9_wordRead_21 : decode cX9_wordRead 21 = .ok (.invokestatic 212, 3) := by decide +kernel
theorem dX9_wordRead_24 : decode cX9_wordRead 24 = .ok (.istore_n 1, 1) := by decide +kernel
theorem dX9_wordRead_25 : decode cX9_wordRead 25 = .ok (.aload_n 0, 1) := by decide +kernel
theorem dX9_wordRead_26 : decode cX9_wordRead 26 = .ok (.dup, 1) := by decide +kernel
theorem dX9_wordRead_27 : decode cX9_wordRead 27 = .ok (.getfield 202, 3) := by decide +kernel
theorem dX9_wordRead_30 : decode cX9_wordRead 30 = .ok (.iload_n 1, 1) := by decide +kernel
theorem dX9_wordRead_31 : decode cX9_wordRead 31 = .ok (.bipush (-4), 2) := by decide +kernel
theorem dX9_wordRead_33 : decode cX9_wordRead 33 = .ok (.if_icmp .ne 7, 3) := by decide +kernel
theorem dX9_wordRead_36 : decode cX9_wordRead 36 = .ok (.iconst 0, 1) := by decide +kernel
theorem dX9_wordRead_37 : decode cX9_wordRead 37 = .ok (.goto 4, 3) := by decide +kernel
theorem dX9_wordRead_40 : decode cX9_wordRead 40 = .ok (.iconst 1, 1) := by decide +kernel
theorem dX9_wordRead_41 : decode cX9_wordRead 41 = .ok (.iadd, 1) := by decide +kernel
theorem dX9_wordRead_42 : decode cX9_wordRead 42 = .ok (.putfield 202, 3) := by decide +kernel
theorem dX9_wordRead_45 : decode cX9_wordRead 45 = .ok (.iload_n 1, 1) := by decide +kernel
theorem dX9_wordRead_46 : decode cX9_wordRead 46 = .ok (.ireturn, 1) := by decide +kernel
theorem dX9_wordRead_47 : decode cX9_wordRead 47 = .ok (.aload_n 0, 1) := by decide +kernel
theorem dX9_wordRead_48 : decode cX9_wordRead 48 = .ok (.getfield 202, 3) := by decide +kernel
theorem dX9_wordRead_51 : decode cX9_wordRead 51 = .ok (.istore_n 1, 1) := by decide +kernel
theorem dX9_wordRead_52 : decode cX9_wordRead 52 = .ok (.aload_n 0, 1) := by decide +kernel
theorem dX9_wordRead_53 : decode cX9_wordRead 53 = .ok (.getfield 41, 3) := by decide +kernel
theorem dX9_wordRead_56 : decode cX9_wordRead 56 = .ok (.aload_n 0, 1) := by decide +kernel
theorem dX9_wordRead_57 : decode cX9_wordRead 57 = .ok (.getfield 202, 3) := by decide +kernel
theorem dX9_wordRead_60 : decode cX9_wordRead 60 = .ok (.iaload, 1) := by decide +kernel
theorem dX9_wordRead_61 : decode cX9_wordRead 61 = .ok (.bipush 48, 2) := by decide +kernel
theorem dX9_wordRead_63 : decode cX9_wordRead 63 = .ok (.isub, 1) := by decide +kernel
theorem dX9_wordRead_64 : decode cX9_wordRead 64 = .ok (.istore_n 2, 1) := by decide +kernel
theorem dX9_wordRead_65 : decode cX9_wordRead 65 = .ok (.aload_n 0, 1) := by decide +kernel
theorem dX9_wordRead_66 : decode cX9_wordRead 66 = .ok (.dup, 1) := by decide +kernel
theorem dX9_wordRead_67 : decode cX9_wordRead 67 = .ok (.getfield 202, 3) := by decide +kernel
theorem dX9_wordRead_70 : decode cX9_wordRead 70 = .ok (.iconst 1, 1) := by decide +kernel
theorem dX9_wordRead_71 : decode cX9_wordRead 71 = .ok (.iadd, 1) := by decide +kernel
theorem dX9_wordRead_72 : decode cX9_wordRead 72 = .ok (.putfield 202, 3) := by decide +kernel
theorem dX9_wordRead_75 : decode cX9_wordRead 75 = .ok (.aload_n 0, 1) := by decide +kernel
theorem dX9_wordRead_76 : decode cX9_wordRead 76 = .ok (.getfield 202, 3) := by decide +kernel
theorem dX9_wordRead_79 : decode cX9_wordRead 79 = .ok (.aload_n 0, 1) := by decide +kernel
theorem dX9_wordRead_80 : decode cX9_wordRead 80 = .ok (.getfield 199, 3) := by decide +kernel
theorem dX9_wordRead_83 : decode cX9_wordRead 83 = .ok (.if_icmp .ge 53, 3) := by decide +kernel
theorem dX9_wordRead_86 : decode cX9_wordRead 86 = .ok (.aload_n 0, 1) := by decide +kernel
theorem dX9_wordRead_87 : decode cX9_wordRead 87 = .ok (.getfield 41, 3) := by decide +kernel
theorem dX9_wordRead_90 : decode cX9_wordRead 90 = .ok (.aload_n 0, 1) := by decide +kernel
theorem dX9_wordRead_91 : decode cX9_wordRead 91 = .ok (.getfield 202, 3) := by decide +kernel
theorem dX9_wordRead_94 : decode cX9_wordRead 94 = .ok (.iaload, 1) := by decide +kernel
theorem dX9_wordRead_95 : decode cX9_wordRead 95 = .ok (.i2l, 1) := by decide +kernel
theorem dX9_wordRead_96 : decode cX9_wordRead 96 = .ok (.ldc2_w 208, 3) := by decide +kernel
theorem dX9_wordRead_99 : decode cX9_wordRead 99 = .ok (.ldc2_w 210, 3) := by decide +kernel
theorem dX9_wordRead_102 : decode cX9_wordRead 102 = .ok (.invokestatic 75, 3) := by decide +kernel
theorem dX9_wordRead_105 : decode cX9_wordRead 105 = .ok (.ifCond .eq 31, 3) := by decide +kernel
theorem dX9_wordRead_108 : decode cX9_wordRead 108 = .ok (.bipush 10, 2) := by decide +kernel
theorem dX9_wordRead_110 : decode cX9_wordRead 110 = .ok (.iload_n 2, 1) := by decide +kernel
theorem dX9_wordRead_111 : decode cX9_wordRead 111 = .ok (.imul, 1) := by decide +kernel
theorem dX9_wordRead_112 : decode cX9_wordRead 112 = .ok (.aload_n 0, 1) := by decide +kernel
theorem dX9_wordRead_113 : decode cX9_wordRead 113 = .ok (.getfield 41, 3) := by decide +kernel
theorem dX9_wordRead_116 : decode cX9_wordRead 116 = .ok (.aload_n 0, 1) := by decide +kernel
theorem dX9_wordRead_117 : decode cX9_wordRead 117 = .ok (.getfield 202, 3) := by decide +kernel
theorem dX9_wordRead_120 : decode cX9_wordRead 120 = .ok (.iaload, 1) := by decide +kernel
theorem dX9_wordRead_121 : decode cX9_wordRead 121 = .ok (.iadd, 1) := by decide +kernel
theorem dX9_wordRead_122 : decode cX9_wordRead 122 = .ok (.bipush 48, 2) := by decide +kernel
theorem dX9_wordRead_124 : decode cX9_wordRead 124 = .ok (.isub, 1) := by decide +kernel
theorem dX9_wordRead_125 : decode cX9_wordRead 125 = .ok (.istore_n 2, 1) := by decide +kernel
theorem dX9_wordRead_126 : decode cX9_wordRead 126 = .ok (.aload_n 0, 1) := by decide +kernel
theorem dX9_wordRead_127 : decode cX9_wordRead 127 = .ok (.dup, 1) := by decide +kernel
theorem dX9_wordRead_128 : decode cX9_wordRead 128 = .ok (.getfield 202, 3) := by decide +kernel
theorem dX9_wordRead_131 : decode cX9_wordRead 131 = .ok (.iconst 1, 1) := by decide +kernel
theorem dX9_wordRead_132 : decode cX9_wordRead 132 = .ok (.iadd, 1) := by decide +kernel
theorem dX9_wordRead_133 : decode cX9_wordRead 133 = .ok (.putfield 202, 3) := by decide +kernel
theorem dX9_wordRead_136 : decode cX9_wordRead 136 = .ok (.iload_n 2, 1) := by decide +kernel
theorem dX9_wordRead_137 : decode cX9_wordRead 137 = .ok (.i2l, 1) := by decide +kernel
theorem dX9_wordRead_138 : decode cX9_wordRead 138 = .ok (.lconst 1, 1) := by decide +kernel
theorem dX9_wordRead_139 : decode cX9_wordRead 139 = .ok (.ldc2_w 89, 3) := by decide +kernel
theorem dX9_wordRead_142 : decode cX9_wordRead 142 = .ok (.invokestatic 75, 3) := by decide +kernel
theorem dX9_wordRead_145 : decode cX9_wordRead 145 = .ok (.ifCond .eq 7, 3) := by decide +kernel
theorem dX9_wordRead_148 : decode cX9_wordRead 148 = .ok (.iload_n 2, 1) := by decide +kernel
theorem dX9_wordRead_149 : decode cX9_wordRead 149 = .ok (.goto 28, 3) := by decide +kernel
theorem dX9_wordRead_152 : decode cX9_wordRead 152 = .ok (.iload_n 2, 1) := by decide +kernel
theorem dX9_wordRead_153 : decode cX9_wordRead 153 = .ok (.bipush 19, 2) := by decide +kernel
theorem dX9_wordRead_155 : decode cX9_wordRead 155 = .ok (.if_icmp .le 20, 3) := by decide +kernel
theorem dX9_wordRead_158 : decode cX9_wordRead 158 = .ok (.iload_n 2, 1) := by decide +kernel
theorem dX9_wordRead_159 : decode cX9_wordRead 159 = .ok (.bipush 10, 2) := by decide +kernel
theorem dX9_wordRead_161 : decode cX9_wordRead 161 = .ok (.irem, 1) := by decide +kernel
theorem dX9_wordRead_162 : decode cX9_wordRead 162 = .ok (.ifCond .ne 13, 3) := by decide +kernel
theorem dX9_wordRead_165 : decode cX9_wordRead 165 = .ok (.bipush 18, 2) := by decide +kernel
theorem dX9_wordRead_167 : decode cX9_wordRead 167 = .ok (.iload_n 2, 1) := by decide +kernel
theorem dX9_wordRead_168 : decode cX9_wordRead 168 = .ok (.bipush 10, 2) := by decide +kernel
theorem dX9_wordRead_170 : decode cX9_wordRead 170 = .ok (.idiv, 1) := by decide +kernel
theorem dX9_wordRead_171 : decode cX9_wordRead 171 = .ok (.iadd, 1) := by decide +kernel
theorem dX9_wordRead_172 : decode cX9_wordRead 172 = .ok (.goto 5, 3) := by decide +kernel
theorem dX9_wordRead_175 : decode cX9_wordRead 175 = .ok (.bipush (-4), 2) := by decide +kernel
theorem dX9_wordRead_177 : decode cX9_wordRead 177 = .ok (.istore_n 3, 1) := by decide +kernel
theorem dX9_wordRead_178 : decode cX9_wordRead 178 = .ok (.aload_n 0, 1) := by decide +kernel
theorem dX9_wordRead_179 : decode cX9_wordRead 179 = .ok (.iload_n 3, 1) := by decide +kernel
theorem dX9_wordRead_180 : decode cX9_wordRead 180 = .ok (.bipush (-4), 2) := by decide +kernel
theorem dX9_wordRead_182 : decode cX9_wordRead 182 = .ok (.if_icmp .ne 7, 3) := by decide +kernel
theorem dX9_wordRead_185 : decode cX9_wordRead 185 = .ok (.iload_n 1, 1) := by decide +kernel
theorem dX9_wordRead_186 : decode cX9_wordRead 186 = .ok (.goto 7, 3) := by decide +kernel
theorem dX9_wordRead_189 : decode cX9_wordRead 189 = .ok (.aload_n 0, 1) := by decide +kernel
theorem dX9_wordRead_190 : decode cX9_wordRead 190 = .ok (.getfield 202, 3) := by decide +kernel
theorem dX9_wordRead_193 : decode cX9_wordRead 193 = .ok (.putfield 202, 3) := by decide +kernel
theorem dX9_wordRead_196 : decode cX9_wordRead 196 = .ok (.iload_n 3, 1) := by decide +kernel
theorem dX9_wordRead_197 : decode cX9_wordRead 197 = .ok (.ireturn, 1) := by decide +kernel
theorem dX9_reads_0 : decode cX9_reads 0 = .ok (.bipush 9, 2) := by decide +kernel
theorem dX9_reads_2 : decode cX9_reads 2 = .ok (.iload_n 1, 1) := by decide +kernel
theorem dX9_reads_3 : decode cX9_reads 3 = .ok (.imul, 1) := by decide +kernel
theorem dX9_reads_4 : decode cX9_reads 4 = .ok (.istore_n 2, 1) := by decide +kernel
theorem dX9_reads_5 : decode cX9_reads 5 = .ok (.aload_n 0, 1) := by decide +kernel
theorem dX9_reads_6 : decode cX9_reads 6 = .ok (.getfield 44, 3) := by decide +kernel
theorem dX9_reads_9 : decode cX9_reads 9 = .ok (.iload_n 2, 1) := by decide +kernel
theorem dX9_reads_10 : decode cX9_reads 10 = .ok (.iconst 0, 1) := by decide +kernel
theorem dX9_reads_11 : decode cX9_reads 11 = .ok (.iastore, 1) := by decide +kernel
theorem dX9_reads_12 : decode cX9_reads 12 = .ok (.iconst 1, 1) := by decide +kernel
theorem dX9_reads_13 : decode cX9_reads 13 = .ok (.istore_n 3, 1) := by decide +kernel
theorem dX9_reads_14 : decode cX9_reads 14 = .ok (.iload_n 3, 1) := by decide +kernel
theorem dX9_reads_15 : decode cX9_reads 15 = .ok (.ifCond .eq 239, 3) := by decide +kernel
theorem dX9_reads_18 : decode cX9_reads 18 = .ok (.aload_n 0, 1) := by decide +kernel
theorem dX9_reads_19 : decode cX9_reads 19 = .ok (.invokevirtual 205, 3) := by decide +kernel
theorem dX9_reads_22 : decode cX9_reads 22 = .ok (.ifCond .ne 7, 3) := by decide +kernel
theorem dX9_reads_25 : decode cX9_reads 25 = .ok (.iconst 1, 1) := by decide +kernel
theorem dX9_reads_26 : decode cX9_reads 26 = .ok (.goto 4, 3) := by decide +kernel
theorem dX9_reads_29 : decode cX9_reads 29 = .ok (.iconst 0, 1) := by decide +kernel
theorem dX9_reads_30 : decode cX9_reads 30 = .ok (.istore 4, 2) := by decide +kernel
theorem dX9_reads_32 : decode cX9_reads 32 = .ok (.iload 4, 2) := by decide +kernel
theorem dX9_reads_34 : decode cX9_reads 34 = .ok (.ifCond .eq 10, 3) := by decide +kernel
theorem dX9_reads_37 : decode cX9_reads 37 = .ok (.aload_n 0, 1) := by decide +kernel
theorem dX9_reads_38 : decode cX9_reads 38 = .ok (.getfield 199, 3) := by decide +kernel
theorem dX9_reads_41 : decode cX9_reads 41 = .ok (.goto 7, 3) := by decide +kernel
theorem dX9_reads_44 : decode cX9_reads 44 = .ok (.aload_n 0, 1) := by decide +kernel
theorem dX9_reads_45 : decode cX9_reads 45 = .ok (.getfield 202, 3) := by decide +kernel
theorem dX9_reads_48 : decode cX9_reads 48 = .ok (.istore 5, 2) := by decide +kernel
theorem dX9_reads_50 : decode cX9_reads 50 = .ok (.aload_n 0, 1) := by decide +kernel
theorem dX9_reads_51 : decode cX9_reads 51 = .ok (.invokevirtual 215, 3) := by decide +kernel
theorem dX9_reads_54 : decode cX9_reads 54 = .ok (.istore 6, 2) := by decide +kernel
theorem dX9_reads_56 : decode cX9_reads 56 = .ok (.iconst 0, 1) := by decide +kernel
theorem dX9_reads_57 : decode cX9_reads 57 = .ok (.istore 7, 2) := by decide +kernel
theorem dX9_reads_59 : decode cX9_reads 59 = .ok (.iconst 0, 1) := by decide +kernel
theorem dX9_reads_60 : decode cX9_reads 60 = .ok (.istore 8, 2) := by decide +kernel
theorem dX9_reads_62 : decode cX9_reads 62 = .ok (.iload 8, 2) := by decide +kernel
theorem dX9_reads_64 : decode cX9_reads 64 = .ok (.aload_n 0, 1) := by decide +kernel
theorem dX9_reads_65 : decode cX9_reads 65 = .ok (.getfield 44, 3) := by decide +kernel
theorem dX9_reads_68 : decode cX9_reads 68 = .ok (.iload_n 2, 1) := by decide +kernel
theorem dX9_reads_69 : decode cX9_reads 69 = .ok (.iaload, 1) := by decide +kernel
theorem dX9_reads_70 : decode cX9_reads 70 = .ok (.if_icmp .ge 37, 3) := by decide +kernel
theorem dX9_reads_73 : decode cX9_reads 73 = .ok (.iload 7, 2) := by decide +kernel
theorem dX9_reads_75 : decode cX9_reads 75 = .ok (.ifCond .ne 19, 3) := by decide +kernel
theorem dX9_reads_78 : decode cX9_reads 78 = .ok (.aload_n 0, 1) := by decide +kernel
theorem dX9_reads_79 : decode cX9_reads 79 = .ok (.getfield 44, 3) := by decide +kernel
theorem dX9_reads_82 : decode cX9_reads 82 = .ok (.iload_n 2, 1) := by decide +kernel
theorem dX9_reads_83 : decode cX9_reads 83 = .ok (.iconst 1, 1) := by decide +kernel
theorem dX9_reads_84 : decode cX9_reads 84 = .ok (.iadd, 1) := by decide +kernel
theorem dX9_reads_85 : decode cX9_reads 85 = .ok (.iload 8, 2) := by decide +kernel
theorem dX9_reads_87 : decode cX9_reads 87 = .ok (.iadd, 1) := by decide +kernel
theorem dX9_reads_88 : decode cX9_reads 88 = .ok (.iaload, 1) := by decide +kernel
theorem dX9_reads_89 : decode cX9_reads 89 = .ok (.iload 6, 2) := by decide +kernel
theorem dX9_reads_91 : decode cX9_reads 91 = .ok (.if_icmp .ne 7, 3) := by decide +kernel
theorem dX9_reads_94 : decode cX9_reads 94 = .ok (.iconst 1, 1) := by decide +kernel
theorem dX9_reads_95 : decode cX9_reads 95 = .ok (.goto 4, 3) := by decide +kernel
theorem dX9_reads_98 : decode cX9_reads 98 = .ok (.iconst 0, 1) := by decide +kernel
theorem dX9_reads_99 : decode cX9_reads 99 = .ok (.istore 7, 2) := by decide +kernel
theorem dX9_reads_101 : decode cX9_reads 101 = .ok (.iinc 8 1, 3) := by decide +kernel
theorem dX9_reads_104 : decode cX9_reads 104 = .ok (.goto (-42), 3) := by decide +kernel
theorem dX9_reads_107 : decode cX9_reads 107 = .ok (.iload 6, 2) := by decide +kernel
theorem dX9_reads_109 : decode cX9_reads 109 = .ok (.bipush (-4), 2) := by decide +kernel
theorem dX9_reads_111 : decode cX9_reads 111 = .ok (.if_icmp .eq 8, 3) := by decide +kernel
theorem dX9_reads_114 : decode cX9_reads 114 = .ok (.iload 7, 2) := by decide +kernel
theorem dX9_reads_116 : decode cX9_reads 116 = .ok (.ifCond .eq 11, 3) := by decide +kernel
theorem dX9_reads_119 : decode cX9_reads 119 = .ok (.aload_n 0, 1) := by decide +kernel
theorem dX9_reads_120 : decode cX9_reads 120 = .ok (.iload 5, 2) := by decide +kernel
theorem dX9_reads_122 : decode cX9_reads 122 = .ok (.putfield 202, 3) := by decide +kernel
theorem dX9_reads_125 : decode cX9_reads 125 = .ok (.iconst 0, 1) := by decide +kernel
theorem dX9_reads_126 : decode cX9_reads 126 = .ok (.ireturn, 1) := by decide +kernel
theorem dX9_reads_127 : decode cX9_reads 127 = .ok (.aload_n 0, 1) := by decide +kernel
theorem dX9_reads_128 : decode cX9_reads 128 = .ok (.getfield 44, 3) := by decide +kernel
theorem dX9_reads_131 : decode cX9_reads 131 = .ok (.iload_n 2, 1) := by decide +kernel
theorem dX9_reads_132 : decode cX9_reads 132 = .ok (.iaload, 1) := by decide +kernel
theorem dX9_reads_133 : decode cX9_reads 133 = .ok (.istore 8, 2) := by decide +kernel
theorem dX9_reads_135 : decode cX9_reads 135 = .ok (.aload_n 0, 1) := by decide +kernel
theorem dX9_reads_136 : decode cX9_reads 136 = .ok (.getfield 44, 3) := by decide +kernel
theorem dX9_reads_139 : decode cX9_reads 139 = .ok (.iload_n 2, 1) := by decide +kernel
theorem dX9_reads_140 : decode cX9_reads 140 = .ok (.iconst 1, 1) := by decide +kernel
theorem dX9_reads_141 : decode cX9_reads 141 = .ok (.iadd, 1) := by decide +kernel
theorem dX9_reads_142 : decode cX9_reads 142 = .ok (.iload 8, 2) := by decide +kernel
theorem dX9_reads_144 : decode cX9_reads 144 = .ok (.iadd, 1) := by decide +kernel
theorem dX9_reads_145 : decode cX9_reads 145 = .ok (.iload 6, 2) := by decide +kernel
theorem dX9_reads_147 : decode cX9_reads 147 = .ok (.iastore, 1) := by decide +kernel
theorem dX9_reads_148 : decode cX9_reads 148 = .ok (.aload_n 0, 1) := by decide +kernel
theorem dX9_reads_149 : decode cX9_reads 149 = .ok (.getfield 44, 3) := by decide +kernel
theorem dX9_reads_152 : decode cX9_reads 152 = .ok (.iload_n 2, 1) := by decide +kernel
theorem dX9_reads_153 : decode cX9_reads 153 = .ok (.iconst 5, 1) := by decide +kernel
theorem dX9_reads_154 : decode cX9_reads 154 = .ok (.iadd, 1) := by decide +kernel
theorem dX9_reads_155 : decode cX9_reads 155 = .ok (.iload 8, 2) := by decide +kernel
theorem dX9_reads_157 : decode cX9_reads 157 = .ok (.iadd, 1) := by decide +kernel
theorem dX9_reads_158 : decode cX9_reads 158 = .ok (.iconst 0, 1) := by decide +kernel
theorem dX9_reads_159 : decode cX9_reads 159 = .ok (.iastore, 1) := by decide +kernel
theorem dX9_reads_160 : decode cX9_reads 160 = .ok (.aload_n 0, 1) := by decide +kernel
theorem dX9_reads_161 : decode cX9_reads 161 = .ok (.bipush 58, 2) := by decide +kernel
theorem dX9_reads_163 : decode cX9_reads 163 = .ok (.invokevirtual 218, 3) := by decide +kernel
theorem dX9_reads_166 : decode cX9_reads 166 = .ok (.ifCond .eq 50, 3) := by decide +kernel
theorem dX9_reads_169 : decode cX9_reads 169 = .ok (.aload_n 0, 1) := by decide +kernel
theorem dX9_reads_170 : decode cX9_reads 170 = .ok (.invokevirtual 205, 3) := by decide +kernel
theorem dX9_reads_173 : decode cX9_reads 173 = .ok (.i2l, 1) := by decide +kernel
theorem dX9_reads_174 : decode cX9_reads 174 = .ok (.ldc2_w 208, 3) := by decide +kernel
theorem dX9_reads_177 : decode cX9_reads 177 = .ok (.ldc2_w 210, 3) := by decide +kernel
theorem dX9_reads_180 : decode cX9_reads 180 = .ok (.invokestatic 75, 3) := by decide +kernel
theorem dX9_reads_183 : decode cX9_reads 183 = .ok (.ifCond .ne 5, 3) := by decide +kernel
theorem dX9_reads_186 : decode cX9_reads 186 = .ok (.iconst 0, 1) := by decide +kernel
theorem dX9_reads_187 : decode cX9_reads 187 = .ok (.ireturn, 1) := by decide +kernel
theorem dX9_reads_188 : decode cX9_reads 188 = .ok (.aload_n 0, 1) := by decide +kernel
theorem dX9_reads_189 : decode cX9_reads 189 = .ok (.getfield 44, 3) := by decide +kernel
theorem dX9_reads_192 : decode cX9_reads 192 = .ok (.iload_n 2, 1) := by decide +kernel
theorem dX9_reads_193 : decode cX9_reads 193 = .ok (.iconst 5, 1) := by decide +kernel
theorem dX9_reads_194 : decode cX9_reads 194 = .ok (.iadd, 1) := by decide +kernel
theorem dX9_reads_195 : decode cX9_reads 195 = .ok (.iload 8, 2) := by decide +kernel
theorem dX9_reads_197 : decode cX9_reads 197 = .ok (.iadd, 1) := by decide +kernel
theorem dX9_reads_198 : decode cX9_reads 198 = .ok (.aload_n 0, 1) := by decide +kernel
theorem dX9_reads_199 : decode cX9_reads 199 = .ok (.invokevirtual 205, 3) := by decide +kernel
theorem dX9_reads_202 : decode cX9_reads 202 = .ok (.bipush 48, 2) := by decide +kernel
theorem dX9_reads_204 : decode cX9_reads 204 = .ok (.isub, 1) := by decide +kernel
theorem dX9_reads_205 : decode cX9_reads 205 = .ok (.iastore, 1) := by decide +kernel
theorem dX9_reads_206 : decode cX9_reads 206 = .ok (.aload_n 0, 1) := by decide +kernel
theorem dX9_reads_207 : decode cX9_reads 207 = .ok (.dup, 1) := by decide +kernel
theorem dX9_reads_208 : decode cX9_reads 208 = .ok (.getfield 202, 3) := by decide +kernel
theorem dX9_reads_211 : decode cX9_reads 211 = .ok (.iconst 1, 1) := by decide +kernel
theorem dX9_reads_212 : decode cX9_reads 212 = .ok (.iadd, 1) := by decide +kernel
theorem dX9_reads_213 : decode cX9_reads 213 = .ok (.putfield 202, 3) := by decide +kernel
theorem dX9_reads_216 : decode cX9_reads 216 = .ok (.aload_n 0, 1) := by decide +kernel
theorem dX9_reads_217 : decode cX9_reads 217 = .ok (.getfield 44, 3) := by decide +kernel
theorem dX9_reads_220 : decode cX9_reads 220 = .ok (.iload_n 2, 1) := by decide +kernel
theorem dX9_reads_221 : decode cX9_reads 221 = .ok (.dup2, 1) := by decide +kernel
theorem dX9_reads_222 : decode cX9_reads 222 = .ok (.iaload, 1) := by decide +kernel
theorem dX9_reads_223 : decode cX9_reads 223 = .ok (.iconst 1, 1) := by decide +kernel
theorem dX9_reads_224 : decode cX9_reads 224 = .ok (.iadd, 1) := by decide +kernel
theorem dX9_reads_225 : decode cX9_reads 225 = .ok (.iastore, 1) := by decide +kernel
theorem dX9_reads_226 : decode cX9_reads 226 = .ok (.aload_n 0, 1) := by decide +kernel
theorem dX9_reads_227 : decode cX9_reads 227 = .ok (.getfield 44, 3) := by decide +kernel
theorem dX9_reads_230 : decode cX9_reads 230 = .ok (.iload_n 2, 1) := by decide +kernel
theorem dX9_reads_231 : decode cX9_reads 231 = .ok (.iaload, 1) := by decide +kernel
theorem dX9_reads_232 : decode cX9_reads 232 = .ok (.iconst 4, 1) := by decide +kernel
theorem dX9_reads_233 : decode cX9_reads 233 = .ok (.if_icmp .ge 16, 3) := by decide +kernel
theorem dX9_reads_236 : decode cX9_reads 236 = .ok (.aload_n 0, 1) := by decide +kernel
theorem dX9_reads_237 : decode cX9_reads 237 = .ok (.bipush 44, 2) := by decide +kernel
theorem dX9_reads_239 : decode cX9_reads 239 = .ok (.invokevirtual 218, 3) := by decide +kernel
theorem dX9_reads_242 : decode cX9_reads 242 = .ok (.ifCond .eq 7, 3) := by decide +kernel
theorem dX9_reads_245 : decode cX9_reads 245 = .ok (.iconst 1, 1) := by decide +kernel
theorem dX9_reads_246 : decode cX9_reads 246 = .ok (.goto 4, 3) := by decide +kernel
theorem dX9_reads_249 : decode cX9_reads 249 = .ok (.iconst 0, 1) := by decide +kernel
theorem dX9_reads_250 : decode cX9_reads 250 = .ok (.istore_n 3, 1) := by decide +kernel
theorem dX9_reads_251 : decode cX9_reads 251 = .ok (.goto (-237), 3) := by decide +kernel
theorem dX9_reads_254 : decode cX9_reads 254 = .ok (.iconst 1, 1) := by decide +kernel
theorem dX9_reads_255 : decode cX9_reads 255 = .ok (.ireturn, 1) := by decide +kernel
theorem dX9_fault_0 : decode cX9_fault 0 = .ok (.aload_n 0, 1) := by decide +kernel
theorem dX9_fault_1 : decode cX9_fault 1 = .ok (.invokevirtual 205, 3) := by decide +kernel
theorem dX9_fault_4 : decode cX9_fault 4 = .ok (.ifCond .ne 7, 3) := by decide +kernel
theorem dX9_fault_7 : decode cX9_fault 7 = .ok (.iconst 1, 1) := by decide +kernel
theorem dX9_fault_8 : decode cX9_fault 8 = .ok (.goto 4, 3) := by decide +kernel
theorem dX9_fault_11 : decode cX9_fault 11 = .ok (.iconst 0, 1) := by decide +kernel
theorem dX9_fault_12 : decode cX9_fault 12 = .ok (.istore_n 1, 1) := by decide +kernel
theorem dX9_fault_13 : decode cX9_fault 13 = .ok (.bipush (-20), 2) := by decide +kernel
theorem dX9_fault_15 : decode cX9_fault 15 = .ok (.iload_n 1, 1) := by decide +kernel
theorem dX9_fault_16 : decode cX9_fault 16 = .ok (.ifCond .eq 10, 3) := by decide +kernel
theorem dX9_fault_19 : decode cX9_fault 19 = .ok (.aload_n 0, 1) := by decide +kernel
theorem dX9_fault_20 : decode cX9_fault 20 = .ok (.getfield 199, 3) := by decide +kernel
theorem dX9_fault_23 : decode cX9_fault 23 = .ok (.goto 7, 3) := by decide +kernel
theorem dX9_fault_26 : decode cX9_fault 26 = .ok (.aload_n 0, 1) := by decide +kernel
theorem dX9_fault_27 : decode cX9_fault 27 = .ok (.getfield 202, 3) := by decide +kernel
theorem dX9_fault_30 : decode cX9_fault 30 = .ok (.isub, 1) := by decide +kernel
theorem dX9_fault_31 : decode cX9_fault 31 = .ok (.istore_n 2, 1) := by decide +kernel
theorem dX9_fault_32 : decode cX9_fault 32 = .ok (.aload_n 0, 1) := by decide +kernel
theorem dX9_fault_33 : decode cX9_fault 33 = .ok (.iconst 0, 1) := by decide +kernel
theorem dX9_fault_34 : decode cX9_fault 34 = .ok (.putfield 199, 3) := by decide +kernel
theorem dX9_fault_37 : decode cX9_fault 37 = .ok (.iload_n 2, 1) := by decide +kernel
theorem dX9_fault_38 : decode cX9_fault 38 = .ok (.ireturn, 1) := by decide +kernel
theorem dX9_words_0 : decode cX9_words 0 = .ok (.aload_n 0, 1) := by decide +kernel
theorem dX9_words_1 : decode cX9_words 1 = .ok (.iconst 0, 1) := by decide +kernel
theorem dX9_words_2 : decode cX9_words 2 = .ok (.putfield 202, 3) := by decide +kernel
theorem dX9_words_5 : decode cX9_words 5 = .ok (.iconst 0, 1) := by decide +kernel
theorem dX9_words_6 : decode cX9_words 6 = .ok (.istore_n 1, 1) := by decide +kernel
theorem dX9_words_7 : decode cX9_words 7 = .ok (.aload_n 0, 1) := by decide +kernel
theorem dX9_words_8 : decode cX9_words 8 = .ok (.invokevirtual 205, 3) := by decide +kernel
theorem dX9_words_11 : decode cX9_words 11 = .ok (.ifCond .eq 7, 3) := by decide +kernel
theorem dX9_words_14 : decode cX9_words 14 = .ok (.iconst 1, 1) := by decide +kernel
theorem dX9_words_15 : decode cX9_words 15 = .ok (.goto 4, 3) := by decide +kernel
theorem dX9_words_18 : decode cX9_words 18 = .ok (.iconst 0, 1) := by decide +kernel
theorem dX9_words_19 : decode cX9_words 19 = .ok (.istore_n 2, 1) := by decide +kernel
theorem dX9_words_20 : decode cX9_words 20 = .ok (.iload_n 2, 1) := by decide +kernel
theorem dX9_words_21 : decode cX9_words 21 = .ok (.ifCond .eq 43, 3) := by decide +kernel
theorem dX9_words_24 : decode cX9_words 24 = .ok (.aload_n 0, 1) := by decide +kernel
theorem dX9_words_25 : decode cX9_words 25 = .ok (.iload_n 1, 1) := by decide +kernel
theorem dX9_words_26 : decode cX9_words 26 = .ok (.invokevirtual 221, 3) := by decide +kernel
theorem dX9_words_29 : decode cX9_words 29 = .ok (.ifCond .ne 8, 3) := by decide +kernel
theorem dX9_words_32 : decode cX9_words 32 = .ok (.aload_n 0, 1) := by decide +kernel
theorem dX9_words_33 : decode cX9_words 33 = .ok (.invokevirtual 224, 3) := by decide +kernel
theorem dX9_words_36 : decode cX9_words 36 = .ok (.ireturn, 1) := by decide +kernel
theorem dX9_words_37 : decode cX9_words 37 = .ok (.iinc 1 1, 3) := by decide +kernel
theorem dX9_words_40 : decode cX9_words 40 = .ok (.iload_n 1, 1) := by decide +kernel
theorem dX9_words_41 : decode cX9_words 41 = .ok (.bipush 8, 2) := by decide +kernel
theorem dX9_words_43 : decode cX9_words 43 = .ok (.if_icmp .ge 16, 3) := by decide +kernel
theorem dX9_words_46 : decode cX9_words 46 = .ok (.aload_n 0, 1) := by decide +kernel
theorem dX9_words_47 : decode cX9_words 47 = .ok (.bipush 59, 2) := by decide +kernel
theorem dX9_words_49 : decode cX9_words 49 = .ok (.invokevirtual 218, 3) := by decide +kernel
theorem dX9_words_52 : decode cX9_words 52 = .ok (.ifCond .eq 7, 3) := by decide +kernel
theorem dX9_words_55 : decode cX9_words 55 = .ok (.iconst 1, 1) := by decide +kernel
theorem dX9_words_56 : decode cX9_words 56 = .ok (.goto 4, 3) := by decide +kernel
theorem dX9_words_59 : decode cX9_words 59 = .ok (.iconst 0, 1) := by decide +kernel
theorem dX9_words_60 : decode cX9_words 60 = .ok (.istore_n 2, 1) := by decide +kernel
theorem dX9_words_61 : decode cX9_words 61 = .ok (.goto (-41), 3) := by decide +kernel
theorem dX9_words_64 : decode cX9_words 64 = .ok (.aload_n 0, 1) := by decide +kernel
theorem dX9_words_65 : decode cX9_words 65 = .ok (.invokevirtual 205, 3) := by decide +kernel
theorem dX9_words_68 : decode cX9_words 68 = .ok (.ifCond .eq 8, 3) := by decide +kernel
theorem dX9_words_71 : decode cX9_words 71 = .ok (.aload_n 0, 1) := by decide +kernel
theorem dX9_words_72 : decode cX9_words 72 = .ok (.invokevirtual 224, 3) := by decide +kernel
theorem dX9_words_75 : decode cX9_words 75 = .ok (.ireturn, 1) := by decide +kernel
theorem dX9_words_76 : decode cX9_words 76 = .ok (.aload_n 0, 1) := by decide +kernel
theorem dX9_words_77 : decode cX9_words 77 = .ok (.invokevirtual 227, 3) := by decide +kernel
theorem dX9_words_80 : decode cX9_words 80 = .ok (.aload_n 0, 1) := by decide +kernel
theorem dX9_words_81 : decode cX9_words 81 = .ok (.getfield 7, 3) := by decide +kernel
theorem dX9_words_84 : decode cX9_words 84 = .ok (.iconst 0, 1) := by decide +kernel
theorem dX9_words_85 : decode cX9_words 85 = .ok (.iload_n 1, 1) := by decide +kernel
theorem dX9_words_86 : decode cX9_words 86 = .ok (.iastore, 1) := by decide +kernel
theorem dX9_words_87 : decode cX9_words 87 = .ok (.iconst 0, 1) := by decide +kernel
theorem dX9_words_88 : decode cX9_words 88 = .ok (.istore_n 3, 1) := by decide +kernel
theorem dX9_words_89 : decode cX9_words 89 = .ok (.iload_n 3, 1) := by decide +kernel
theorem dX9_words_90 : decode cX9_words 90 = .ok (.bipush 9, 2) := by decide +kernel
theorem dX9_words_92 : decode cX9_words 92 = .ok (.iload_n 1, 1) := by decide +kernel
theorem dX9_words_93 : decode cX9_words 93 = .ok (.imul, 1) := by decide +kernel
theorem dX9_words_94 : decode cX9_words 94 = .ok (.if_icmp .ge 23, 3) := by decide +kernel
theorem dX9_words_97 : decode cX9_words 97 = .ok (.aload_n 0, 1) := by decide +kernel
theorem dX9_words_98 : decode cX9_words 98 = .ok (.getfield 7, 3) := by decide +kernel
theorem dX9_words_101 : decode cX9_words 101 = .ok (.iconst 4, 1) := by decide +kernel
theorem dX9_words_102 : decode cX9_words 102 = .ok (.iload_n 3, 1) := by decide +kernel
theorem dX9_words_103 : decode cX9_words 103 = .ok (.iadd, 1) := by decide +kernel
theorem dX9_words_104 : decode cX9_words 104 = .ok (.aload_n 0, 1) := by decide +kernel
theorem dX9_words_105 : decode cX9_words 105 = .ok (.getfield 44, 3) := by decide +kernel
theorem dX9_words_108 : decode cX9_words 108 = .ok (.iload_n 3, 1) := by decide +kernel
theorem dX9_words_109 : decode cX9_words 109 = .ok (.iaload, 1) := by decide +kernel
theorem dX9_words_110 : decode cX9_words 110 = .ok (.iastore, 1) := by decide +kernel
theorem dX9_words_111 : decode cX9_words 111 = .ok (.iinc 3 1, 3) := by decide +kernel
theorem dX9_words_114 : decode cX9_words 114 = .ok (.goto (-25), 3) := by decide +kernel
theorem dX9_words_117 : decode cX9_words 117 = .ok (.iconst 0, 1) := by decide +kernel
theorem dX9_words_118 : decode cX9_words 118 = .ok (.istore_n 3, 1) := by decide +kernel
theorem dX9_words_119 : decode cX9_words 119 = .ok (.iload_n 3, 1) := by decide +kernel
theorem dX9_words_120 : decode cX9_words 120 = .ok (.iload_n 1, 1) := by decide +kernel
theorem dX9_words_121 : decode cX9_words 121 = .ok (.if_icmp .ge 65, 3) := by decide +kernel
theorem dX9_words_124 : decode cX9_words 124 = .ok (.aload_n 0, 1) := by decide +kernel
theorem dX9_words_125 : decode cX9_words 125 = .ok (.getfield 7, 3) := by decide +kernel
theorem dX9_words_128 : decode cX9_words 128 = .ok (.aload_n 0, 1) := by decide +kernel
theorem dX9_words_129 : decode cX9_words 129 = .ok (.iload_n 3, 1) := by decide +kernel
theorem dX9_words_130 : decode cX9_words 130 = .ok (.invokevirtual 79, 3) := by decide +kernel
theorem dX9_words_133 : decode cX9_words 133 = .ok (.iaload, 1) := by decide +kernel
theorem dX9_words_134 : decode cX9_words 134 = .ok (.istore 4, 2) := by decide +kernel
theorem dX9_words_136 : decode cX9_words 136 = .ok (.iload 4, 2) := by decide +kernel
theorem dX9_words_138 : decode cX9_words 138 = .ok (.iconst 4, 1) := by decide +kernel
theorem dX9_words_139 : decode cX9_words 139 = .ok (.if_icmp .ge 41, 3) := by decide +kernel
theorem dX9_words_142 : decode cX9_words 142 = .ok (.aload_n 0, 1) := by decide +kernel
theorem dX9_words_143 : decode cX9_words 143 = .ok (.getfield 7, 3) := by decide +kernel
theorem dX9_words_146 : decode cX9_words 146 = .ok (.aload_n 0, 1) := by decide +kernel
theorem dX9_words_147 : decode cX9_words 147 = .ok (.iload_n 3, 1) := by decide +kernel
theorem dX9_words_148 : decode cX9_words 148 = .ok (.invokevirtual 79, 3) := by decide +kernel
theorem dX9_words_151 : decode cX9_words 151 = .ok (.iconst 1, 1) := by decide +kernel
theorem dX9_words_152 : decode cX9_words 152 = .ok (.iadd, 1) := by decide +kernel
theorem dX9_words_153 : decode cX9_words 153 = .ok (.iload 4, 2) := by decide +kernel
theorem dX9_words_155 : decode cX9_words 155 = .ok (.iadd, 1) := by decide +kernel
theorem dX9_words_156 : decode cX9_words 156 = .ok (.iconst 0, 1) := by decide +kernel
theorem dX9_words_157 : decode cX9_words 157 = .ok (.iastore, 1) := by decide +kernel
theorem dX9_words_158 : decode cX9_words 158 = .ok (.aload_n 0, 1) := by decide +kernel
theorem dX9_words_159 : decode cX9_words 159 = .ok (.getfield 7, 3) := by decide +kernel
theorem dX9_words_162 : decode cX9_words 162 = .ok (.aload_n 0, 1) := by decide +kernel
theorem dX9_words_163 : decode cX9_words 163 = .ok (.iload_n 3, 1) := by decide +kernel
theorem dX9_words_164 : decode cX9_words 164 = .ok (.invokevirtual 79, 3) := by decide +kernel
theorem dX9_words_167 : decode cX9_words 167 = .ok (.iconst 5, 1) := by decide +kernel
theorem dX9_words_168 : decode cX9_words 168 = .ok (.iadd, 1) := by decide +kernel
theorem dX9_words_169 : decode cX9_words 169 = .ok (.iload 4, 2) := by decide +kernel
theorem dX9_words_171 : decode cX9_words 171 = .ok (.iadd, 1) := by decide +kernel
theorem dX9_words_172 : decode cX9_words 172 = .ok (.iconst 0, 1) := by decide +kernel
theorem dX9_words_173 : decode cX9_words 173 = .ok (.iastore, 1) := by decide +kernel
theorem dX9_words_174 : decode cX9_words 174 = .ok (.iinc 4 1, 3) := by decide +kernel
theorem dX9_words_177 : decode cX9_words 177 = .ok (.goto (-41), 3) := by decide +kernel
theorem dX9_words_180 : decode cX9_words 180 = .ok (.iinc 3 1, 3) := by decide +kernel
theorem dX9_words_183 : decode cX9_words 183 = .ok (.goto (-64), 3) := by decide +kernel
theorem dX9_words_186 : decode cX9_words 186 = .ok (.aload_n 0, 1) := by decide +kernel
theorem dX9_words_187 : decode cX9_words 187 = .ok (.iconst 0, 1) := by decide +kernel
theorem dX9_words_188 : decode cX9_words 188 = .ok (.putfield 192, 3) := by decide +kernel
theorem dX9_words_191 : decode cX9_words 191 = .ok (.aload_n 0, 1) := by decide +kernel
theorem dX9_words_192 : decode cX9_words 192 = .ok (.iconst 0, 1) := by decide +kernel
theorem dX9_words_193 : decode cX9_words 193 = .ok (.putfield 199, 3) := by decide +kernel
theorem dX9_words_196 : decode cX9_words 196 = .ok (.iload_n 1, 1) := by decide +kernel
theorem dX9_words_197 : decode cX9_words 197 = .ok (.ireturn, 1) := by decide +kernel
theorem dX9_clears_0 : decode cX9_clears 0 = .ok (.aload_n 0, 1) := by decide +kernel
theorem dX9_clears_1 : decode cX9_clears 1 = .ok (.getfield 7, 3) := by decide +kernel
theorem dX9_clears_4 : decode cX9_clears 4 = .ok (.iconst 0, 1) := by decide +kernel
theorem dX9_clears_5 : decode cX9_clears 5 = .ok (.iconst 0, 1) := by decide +kernel
theorem dX9_clears_6 : decode cX9_clears 6 = .ok (.iastore, 1) := by decide +kernel
theorem dX9_clears_7 : decode cX9_clears 7 = .ok (.iconst 4, 1) := by decide +kernel
theorem dX9_clears_8 : decode cX9_clears 8 = .ok (.istore_n 1, 1) := by decide +kernel
theorem dX9_clears_9 : decode cX9_clears 9 = .ok (.iload_n 1, 1) := by decide +kernel
theorem dX9_clears_10 : decode cX9_clears 10 = .ok (.bipush 76, 2) := by decide +kernel
theorem dX9_clears_12 : decode cX9_clears 12 = .ok (.if_icmp .ge 16, 3) := by decide +kernel
theorem dX9_clears_15 : decode cX9_clears 15 = .ok (.aload_n 0, 1) := by decide +kernel
theorem dX9_clears_16 : decode cX9_clears 16 = .ok (.getfield 7, 3) := by decide +kernel
theorem dX9_clears_19 : decode cX9_clears 19 = .ok (.iload_n 1, 1) := by decide +kernel
theorem dX9_clears_20 : decode cX9_clears 20 = .ok (.iconst 0, 1) := by decide +kernel
theorem dX9_clears_21 : decode cX9_clears 21 = .ok (.iastore, 1) := by decide +kernel
theorem dX9_clears_22 : decode cX9_clears 22 = .ok (.iinc 1 1, 3) := by decide +kernel
theorem dX9_clears_25 : decode cX9_clears 25 = .ok (.goto (-16), 3) := by decide +kernel
theorem dX9_clears_28 : decode cX9_clears 28 = .ok (.return_, 1) := by decide +kernel
theorem dX9_hears_0 : decode cX9_hears 0 = .ok (.aload_n 0, 1) := by decide +kernel
theorem dX9_hears_1 : decode cX9_hears 1 = .ok (.getfield 7, 3) := by decide +kernel
theorem dX9_hears_4 : decode cX9_hears 4 = .ok (.iconst 0, 1) := by decide +kernel
theorem dX9_hears_5 : decode cX9_hears 5 = .ok (.iaload, 1) := by decide +kernel
theorem dX9_hears_6 : decode cX9_hears 6 = .ok (.istore_n 3, 1) := by decide +kernel
theorem dX9_hears_7 : decode cX9_hears 7 = .ok (.aload_n 0, 1) := by decide +kernel
theorem dX9_hears_8 : decode cX9_hears 8 = .ok (.getfield 7, 3) := by decide +kernel
theorem dX9_hears_11 : decode cX9_hears 11 = .ok (.iconst 0, 1) := by decide +kernel
theorem dX9_hears_12 : decode cX9_hears 12 = .ok (.dup2, 1) := by decide +kernel
theorem dX9_hears_13 : decode cX9_hears 13 = .ok (.iaload, 1) := by decide +kernel
theorem dX9_hears_14 : decode cX9_hears 14 = .ok (.iconst 1, 1) := by decide +kernel
theorem dX9_hears_15 : decode cX9_hears 15 = .ok (.iadd, 1) := by decide +kernel
theorem dX9_hears_16 : decode cX9_hears 16 = .ok (.iastore, 1) := by decide +kernel
theorem dX9_hears_17 : decode cX9_hears 17 = .ok (.aload_n 0, 1) := by decide +kernel
theorem dX9_hears_18 : decode cX9_hears 18 = .ok (.getfield 7, 3) := by decide +kernel
theorem dX9_hears_21 : decode cX9_hears 21 = .ok (.aload_n 0, 1) := by decide +kernel
theorem dX9_hears_22 : decode cX9_hears 22 = .ok (.iload_n 3, 1) := by decide +kernel
theorem dX9_hears_23 : decode cX9_hears 23 = .ok (.invokevirtual 79, 3) := by decide +kernel
theorem dX9_hears_26 : decode cX9_hears 26 = .ok (.iconst 1, 1) := by decide +kernel
theorem dX9_hears_27 : decode cX9_hears 27 = .ok (.iastore, 1) := by decide +kernel
theorem dX9_hears_28 : decode cX9_hears 28 = .ok (.aload_n 0, 1) := by decide +kernel
theorem dX9_hears_29 : decode cX9_hears 29 = .ok (.getfield 7, 3) := by decide +kernel
theorem dX9_hears_32 : decode cX9_hears 32 = .ok (.aload_n 0, 1) := by decide +kernel
theorem dX9_hears_33 : decode cX9_hears 33 = .ok (.iload_n 3, 1) := by decide +kernel
theorem dX9_hears_34 : decode cX9_hears 34 = .ok (.invokevirtual 79, 3) := by decide +kernel
theorem dX9_hears_37 : decode cX9_hears 37 = .ok (.iconst 1, 1) := by decide +kernel
theorem dX9_hears_38 : decode cX9_hears 38 = .ok (.iadd, 1) := by decide +kernel
theorem dX9_hears_39 : decode cX9_hears 39 = .ok (.iload_n 1, 1) := by decide +kernel
theorem dX9_hears_40 : decode cX9_hears 40 = .ok (.iastore, 1) := by decide +kernel
theorem dX9_hears_41 : decode cX9_hears 41 = .ok (.aload_n 0, 1) := by decide +kernel
theorem dX9_hears_42 : decode cX9_hears 42 = .ok (.getfield 7, 3) := by decide +kernel
theorem dX9_hears_45 : decode cX9_hears 45 = .ok (.aload_n 0, 1) := by decide +kernel
theorem dX9_hears_46 : decode cX9_hears 46 = .ok (.iload_n 3, 1) := by decide +kernel
theorem dX9_hears_47 : decode cX9_hears 47 = .ok (.invokevirtual 79, 3) := by decide +kernel
theorem dX9_hears_50 : decode cX9_hears 50 = .ok (.iconst 5, 1) := by decide +kernel
theorem dX9_hears_51 : decode cX9_hears 51 = .ok (.iadd, 1) := by decide +kernel
theorem dX9_hears_52 : decode cX9_hears 52 = .ok (.iload_n 2, 1) := by decide +kernel
theorem dX9_hears_53 : decode cX9_hears 53 = .ok (.iastore, 1) := by decide +kernel
theorem dX9_hears_54 : decode cX9_hears 54 = .ok (.return_, 1) := by decide +kernel
theorem dX9_says_0 : decode cX9_says 0 = .ok (.aload_n 0, 1) := by decide +kernel
theorem dX9_says_1 : decode cX9_says 1 = .ok (.getfield 47, 3) := by decide +kernel
theorem dX9_says_4 : decode cX9_says 4 = .ok (.aload_n 0, 1) := by decide +kernel
theorem dX9_says_5 : decode cX9_says 5 = .ok (.getfield 230, 3) := by decide +kernel
theorem dX9_says_8 : decode cX9_says 8 = .ok (.iload_n 1, 1) := by decide +kernel
theorem dX9_says_9 : decode cX9_says 9 = .ok (.iastore, 1) := by decide +kernel
theorem dX9_says_10 : decode cX9_says 10 = .ok (.aload_n 0, 1) := by decide +kernel
theorem dX9_says_11 : decode cX9_says 11 = .ok (.dup, 1) := by decide +kernel
theorem dX9_says_12 : decode cX9_says 12 = .ok (.getfield 230, 3) := by decide +kernel
theorem dX9_says_15 : decode cX9_says 15 = .ok (.iconst 1, 1) := by decide +kernel
theorem dX9_says_16 : decode cX9_says 16 = .ok (.iadd, 1) := by decide +kernel
theorem dX9_says_17 : decode cX9_says 17 = .ok (.putfield 230, 3) := by decide +kernel
theorem dX9_says_20 : decode cX9_says 20 = .ok (.return_, 1) := by decide +kernel
theorem dX9_saysSmall_0 : decode cX9_saysSmall 0 = .ok (.iload_n 1, 1) := by decide +kernel
theorem dX9_saysSmall_1 : decode cX9_saysSmall 1 = .ok (.bipush 100, 2) := by decide +kernel
theorem dX9_saysSmall_3 : decode cX9_saysSmall 3 = .ok (.if_icmp .lt 17, 3) := by decide +kernel
theorem dX9_saysSmall_6 : decode cX9_saysSmall 6 = .ok (.aload_n 0, 1) := by decide +kernel
theorem dX9_saysSmall_7 : decode cX9_saysSmall 7 = .ok (.iload_n 1, 1) := by decide +kernel
theorem dX9_saysSmall_8 : decode cX9_saysSmall 8 = .ok (.bipush 100, 2) := by decide +kernel
theorem dX9_saysSmall_10 : decode cX9_saysSmall 10 = .ok (.idiv, 1) := by decide +kernel
theorem dX9_saysSmall_11 : decode cX9_saysSmall 11 = .ok (.invokevirtual 233, 3) := by decide +kernel
theorem dX9_saysSmall_14 : decode cX9_saysSmall 14 = .ok (.aload_n 0, 1) := by decide +kernel
theorem dX9_saysSmall_15 : decode cX9_saysSmall 15 = .ok (.bipush 28, 2) := by decide +kernel
theorem dX9_saysSmall_17 : decode cX9_saysSmall 17 = .ok (.invokevirtual 233, 3) := by decide +kernel
theorem dX9_saysSmall_20 : decode cX9_saysSmall 20 = .ok (.iload_n 1, 1) := by decide +kernel
theorem dX9_saysSmall_21 : decode cX9_saysSmall 21 = .ok (.bipush 100, 2) := by decide +kernel
theorem dX9_saysSmall_23 : decode cX9_saysSmall 23 = .ok (.irem, 1) := by decide +kernel
theorem dX9_saysSmall_24 : decode cX9_saysSmall 24 = .ok (.istore_n 2, 1) := by decide +kernel
theorem dX9_saysSmall_25 : decode cX9_saysSmall 25 = .ok (.iload_n 2, 1) := by decide +kernel
theorem dX9_saysSmall_26 : decode cX9_saysSmall 26 = .ok (.bipush 19, 2) := by decide +kernel
theorem dX9_saysSmall_28 : decode cX9_saysSmall 28 = .ok (.if_icmp .le 14, 3) := by decide +kernel
theorem dX9_saysSmall_31 : decode cX9_saysSmall 31 = .ok (.aload_n 0, 1) := by decide +kernel
theorem dX9_saysSmall_32 : decode cX9_saysSmall 32 = .ok (.bipush 18, 2) := by decide +kernel
theorem dX9_saysSmall_34 : decode cX9_saysSmall 34 = .ok (.iload_n 2, 1) := by decide +kernel
theorem dX9_saysSmall_35 : decode cX9_saysSmall 35 = .ok (.bipush 10, 2) := by decide +kernel
theorem dX9_saysSmall_37 : decode cX9_saysSmall 37 = .ok (.idiv, 1) := by decide +kernel
theorem dX9_saysSmall_38 : decode cX9_saysSmall 38 = .ok (.iadd, 1) := by decide +kernel
theorem dX9_saysSmall_39 : decode cX9_saysSmall 39 = .ok (.invokevirtual 233, 3) := by decide +kernel
theorem dX9_saysSmall_42 : decode cX9_saysSmall 42 = .ok (.iload_n 2, 1) := by decide +kernel
theorem dX9_saysSmall_43 : decode cX9_saysSmall 43 = .ok (.bipush 19, 2) := by decide +kernel
theorem dX9_saysSmall_45 : decode cX9_saysSmall 45 = .ok (.if_icmp .le 10, 3) := by decide +kernel
theorem dX9_saysSmall_48 : decode cX9_saysSmall 48 = .ok (.iload_n 2, 1) := by decide +kernel
theorem dX9_saysSmall_49 : decode cX9_saysSmall 49 = .ok (.bipush 10, 2) := by decide +kernel
theorem dX9_saysSmall_51 : decode cX9_saysSmall 51 = .ok (.irem, 1) := by decide +kernel
theorem dX9_saysSmall_52 : decode cX9_saysSmall 52 = .ok (.goto 4, 3) := by decide +kernel
theorem dX9_saysSmall_55 : decode cX9_saysSmall 55 = .ok (.iload_n 2, 1) := by decide +kernel
theorem dX9_saysSmall_56 : decode cX9_saysSmall 56 = .ok (.istore_n 3, 1) := by decide +kernel
theorem dX9_saysSmall_57 : decode cX9_saysSmall 57 = .ok (.iload_n 3, 1) := by decide +kernel
theorem dX9_saysSmall_58 : decode cX9_saysSmall 58 = .ok (.ifCond .le 8, 3) := by decide +kernel
theorem dX9_saysSmall_61 : decode cX9_saysSmall 61 = .ok (.aload_n 0, 1) := by decide +kernel
theorem dX9_saysSmall_62 : decode cX9_saysSmall 62 = .ok (.iload_n 3, 1) := by decide +kernel
theorem dX9_saysSmall_63 : decode cX9_saysSmall 63 = .ok (.invokevirtual 233, 3) := by decide +kernel
theorem dX9_saysSmall_66 : decode cX9_saysSmall 66 = .ok (.return_, 1) := by decide +kernel
theorem dX9_say_0 : decode cX9_say 0 = .ok (.iload_n 1, 1) := by decide +kernel
theorem dX9_say_1 : decode cX9_say 1 = .ok (.i2l, 1) := by decide +kernel
theorem dX9_say_2 : decode cX9_say 2 = .ok (.lconst 1, 1) := by decide +kernel
theorem dX9_say_3 : decode cX9_say 3 = .ok (.ldc2_w 237, 3) := by decide +kernel
theorem dX9_say_6 : decode cX9_say 6 = .ok (.invokestatic 75, 3) := by decide +kernel
theorem dX9_say_9 : decode cX9_say 9 = .ok (.ifCond .ne 5, 3) := by decide +kernel
theorem dX9_say_12 : decode cX9_say 12 = .ok (.iconst (-1), 1) := by decide +kernel
theorem dX9_say_13 : decode cX9_say 13 = .ok (.ireturn, 1) := by decide +kernel
theorem dX9_say_14 : decode cX9_say 14 = .ok (.aload_n 0, 1) := by decide +kernel
theorem dX9_say_15 : decode cX9_say 15 = .ok (.iconst 0, 1) := by decide +kernel
theorem dX9_say_16 : decode cX9_say 16 = .ok (.putfield 230, 3) := by decide +kernel
theorem dX9_say_19 : decode cX9_say 19 = .ok (.iload_n 1, 1) := by decide +kernel
theorem dX9_say_20 : decode cX9_say 20 = .ok (.sipush 1000, 3) := by decide +kernel
theorem dX9_say_23 : decode cX9_say 23 = .ok (.if_icmp .lt 18, 3) := by decide +kernel
theorem dX9_say_26 : decode cX9_say 26 = .ok (.aload_n 0, 1) := by decide +kernel
theorem dX9_say_27 : decode cX9_say 27 = .ok (.iload_n 1, 1) := by decide +kernel
theorem dX9_say_28 : decode cX9_say 28 = .ok (.sipush 1000, 3) := by decide +kernel
theorem dX9_say_31 : decode cX9_say 31 = .ok (.idiv, 1) := by decide +kernel
theorem dX9_say_32 : decode cX9_say 32 = .ok (.invokevirtual 239, 3) := by decide +kernel
theorem dX9_say_35 : decode cX9_say 35 = .ok (.aload_n 0, 1) := by decide +kernel
theorem dX9_say_36 : decode cX9_say 36 = .ok (.bipush 29, 2) := by decide +kernel
theorem dX9_say_38 : decode cX9_say 38 = .ok (.invokevirtual 233, 3) := by decide +kernel
theorem dX9_say_41 : decode cX9_say 41 = .ok (.aload_n 0, 1) := by decide +kernel
theorem dX9_say_42 : decode cX9_say 42 = .ok (.iload_n 1, 1) := by decide +kernel
theorem dX9_say_43 : decode cX9_say 43 = .ok (.sipush 1000, 3) := by decide +kernel
theorem dX9_say_46 : decode cX9_say 46 = .ok (.irem, 1) := by decide +kernel
theorem dX9_say_47 : decode cX9_say 47 = .ok (.invokevirtual 239, 3) := by decide +kernel
theorem dX9_say_50 : decode cX9_say 50 = .ok (.aload_n 0, 1) := by decide +kernel
theorem dX9_say_51 : decode cX9_say 51 = .ok (.getfield 230, 3) := by decide +kernel
theorem dX9_say_54 : decode cX9_say 54 = .ok (.bipush 8, 2) := by decide +kernel
theorem dX9_say_56 : decode cX9_say 56 = .ok (.if_icmp .le 6, 3) := by decide +kernel
theorem dX9_say_59 : decode cX9_say 59 = .ok (.bipush (-3), 2) := by decide +kernel
theorem dX9_say_61 : decode cX9_say 61 = .ok (.ireturn, 1) := by decide +kernel
theorem dX9_say_62 : decode cX9_say 62 = .ok (.aload_n 0, 1) := by decide +kernel
theorem dX9_say_63 : decode cX9_say 63 = .ok (.invokevirtual 227, 3) := by decide +kernel
theorem dX9_say_66 : decode cX9_say 66 = .ok (.iconst 0, 1) := by decide +kernel
theorem dX9_say_67 : decode cX9_say 67 = .ok (.istore_n 2, 1) := by decide +kernel
theorem dX9_say_68 : decode cX9_say 68 = .ok (.iload_n 2, 1) := by decide +kernel
theorem dX9_say_69 : decode cX9_say 69 = .ok (.aload_n 0, 1) := by decide +kernel
theorem dX9_say_70 : decode cX9_say 70 = .ok (.getfield 230, 3) := by decide +kernel
theorem dX9_say_73 : decode cX9_say 73 = .ok (.if_icmp .ge 20, 3) := by decide +kernel
theorem dX9_say_76 : decode cX9_say 76 = .ok (.aload_n 0, 1) := by decide +kernel
theorem dX9_say_77 : decode cX9_say 77 = .ok (.aload_n 0, 1) := by decide +kernel
theorem dX9_say_78 : decode cX9_say 78 = .ok (.getfield 47, 3) := by decide +kernel
theorem dX9_say_81 : decode cX9_say 81 = .ok (.iload_n 2, 1) := by decide +kernel
theorem dX9_say_82 : decode cX9_say 82 = .ok (.iaload, 1) := by decide +kernel
theorem dX9_say_83 : decode cX9_say 83 = .ok (.iconst 0, 1) := by decide +kernel
theorem dX9_say_84 : decode cX9_say 84 = .ok (.invokevirtual 242, 3) := by decide +kernel
theorem dX9_say_87 : decode cX9_say 87 = .ok (.iinc 2 1, 3) := by decide +kernel
theorem dX9_say_90 : decode cX9_say 90 = .ok (.goto (-22), 3) := by decide +kernel
theorem dX9_say_93 : decode cX9_say 93 = .ok (.aload_n 0, 1) := by decide +kernel
theorem dX9_say_94 : decode cX9_say 94 = .ok (.iconst 0, 1) := by decide +kernel
theorem dX9_say_95 : decode cX9_say 95 = .ok (.putfield 192, 3) := by decide +kernel
theorem dX9_say_98 : decode cX9_say 98 = .ok (.aload_n 0, 1) := by decide +kernel
theorem dX9_say_99 : decode cX9_say 99 = .ok (.getfield 230, 3) := by decide +kernel
theorem dX9_say_102 : decode cX9_say 102 = .ok (.ireturn, 1) := by decide +kernel
theorem dX9_notes_0 : decode cX9_notes 0 = .ok (.aload_n 0, 1) := by decide +kernel
theorem dX9_notes_1 : decode cX9_notes 1 = .ok (.getfield 192, 3) := by decide +kernel
theorem dX9_notes_4 : decode cX9_notes 4 = .ok (.bipush 8, 2) := by decide +kernel
theorem dX9_notes_6 : decode cX9_notes 6 = .ok (.if_icmp .ne 40, 3) := by decide +kernel
theorem dX9_notes_9 : decode cX9_notes 9 = .ok (.bipush 76, 2) := by decide +kernel
theorem dX9_notes_11 : decode cX9_notes 11 = .ok (.istore_n 1, 1) := by decide +kernel
theorem dX9_notes_12 : decode cX9_notes 12 = .ok (.iload_n 1, 1) := by decide +kernel
theorem dX9_notes_13 : decode cX9_notes 13 = .ok (.sipush 608, 3) := by decide +kernel
theorem dX9_notes_16 : decode cX9_notes 16 = .ok (.if_icmp .ge 24, 3) := by decide +kernel
theorem dX9_notes_19 : decode cX9_notes 19 = .ok (.aload_n 0, 1) := by decide +kernel
theorem dX9_notes_20 : decode cX9_notes 20 = .ok (.getfield 50, 3) := by decide +kernel
theorem dX9_notes_23 : decode cX9_notes 23 = .ok (.iload_n 1, 1) := by decide +kernel
theorem dX9_notes_24 : decode cX9_notes 24 = .ok (.bipush 76, 2) := by decide +kernel
theorem dX9_notes_26 : decode cX9_notes 26 = .ok (.isub, 1) := by decide +kernel
theorem dX9_notes_27 : decode cX9_notes 27 = .ok (.aload_n 0, 1) := by decide +kernel
theorem dX9_notes_28 : decode cX9_notes 28 = .ok (.getfield 50, 3) := by decide +kernel
theorem dX9_notes_31 : decode cX9_notes 31 = .ok (.iload_n 1, 1) := by decide +kernel
theorem dX9_notes_32 : decode cX9_notes 32 = .ok (.iaload, 1) := by decide +kernel
theorem dX9_notes_33 : decode cX9_notes 33 = .ok (.iastore, 1) := by decide +kernel
theorem dX9_notes_34 : decode cX9_notes 34 = .ok (.iinc 1 1, 3) := by decide +kernel
theorem dX9_notes_37 : decode cX9_notes 37 = .ok (.goto (-25), 3) := by decide +kernel
theorem dX9_notes_40 : decode cX9_notes 40 = .ok (.aload_n 0, 1) := by decide +kernel
theorem dX9_notes_41 : decode cX9_notes 41 = .ok (.bipush 7, 2) := by decide +kernel
theorem dX9_notes_43 : decode cX9_notes 43 = .ok (.putfield 192, 3) := by decide +kernel
theorem dX9_notes_46 : decode cX9_notes 46 = .ok (.iconst 0, 1) := by decide +kernel
theorem dX9_notes_47 : decode cX9_notes 47 = .ok (.istore_n 1, 1) := by decide +kernel
theorem dX9_notes_48 : decode cX9_notes 48 = .ok (.iload_n 1, 1) := by decide +kernel
theorem dX9_notes_49 : decode cX9_notes 49 = .ok (.bipush 76, 2) := by decide +kernel
theorem dX9_notes_51 : decode cX9_notes 51 = .ok (.if_icmp .ge 29, 3) := by decide +kernel
theorem dX9_notes_54 : decode cX9_notes 54 = .ok (.aload_n 0, 1) := by decide +kernel
theorem dX9_notes_55 : decode cX9_notes 55 = .ok (.getfield 50, 3) := by decide +kernel
theorem dX9_notes_58 : decode cX9_notes 58 = .ok (.bipush 76, 2) := by decide +kernel
theorem dX9_notes_60 : decode cX9_notes 60 = .ok (.aload_n 0, 1) := by decide +kernel
theorem dX9_notes_61 : decode cX9_notes 61 = .ok (.getfield 192, 3) := by decide +kernel
theorem dX9_notes_64 : decode cX9_notes 64 = .ok (.imul, 1) := by decide +kernel
theorem dX9_notes_65 : decode cX9_notes 65 = .ok (.iload_n 1, 1) := by decide +kernel
theorem dX9_notes_66 : decode cX9_notes 66 = .ok (.iadd, 1) := by decide +kernel
theorem dX9_notes_67 : decode cX9_notes 67 = .ok (.aload_n 0, 1) := by decide +kernel
theorem dX9_notes_68 : decode cX9_notes 68 = .ok (.getfield 7, 3) := by decide +kernel
theorem dX9_notes_71 : decode cX9_notes 71 = .ok (.iload_n 1, 1) := by decide +kernel
theorem dX9_notes_72 : decode cX9_notes 72 = .ok (.iaload, 1) := by decide +kernel
theorem dX9_notes_73 : decode cX9_notes 73 = .ok (.iastore, 1) := by decide +kernel
theorem dX9_notes_74 : decode cX9_notes 74 = .ok (.iinc 1 1, 3) := by decide +kernel
theorem dX9_notes_77 : decode cX9_notes 77 = .ok (.goto (-29), 3) := by decide +kernel
theorem dX9_notes_80 : decode cX9_notes 80 = .ok (.aload_n 0, 1) := by decide +kernel
theorem dX9_notes_81 : decode cX9_notes 81 = .ok (.dup, 1) := by decide +kernel
theorem dX9_notes_82 : decode cX9_notes 82 = .ok (.getfield 192, 3) := by decide +kernel
theorem dX9_notes_85 : decode cX9_notes 85 = .ok (.iconst 1, 1) := by decide +kernel
theorem dX9_notes_86 : decode cX9_notes 86 = .ok (.iadd, 1) := by decide +kernel
theorem dX9_notes_87 : decode cX9_notes 87 = .ok (.putfield 192, 3) := by decide +kernel
theorem dX9_notes_90 : decode cX9_notes 90 = .ok (.return_, 1) := by decide +kernel
theorem dX9_isWord_0 : decode cX9_isWord 0 = .ok (.iload_n 0, 1) := by decide +kernel
theorem dX9_isWord_1 : decode cX9_isWord 1 = .ok (.i2l, 1) := by decide +kernel
theorem dX9_isWord_2 : decode cX9_isWord 2 = .ok (.lconst 0, 1) := by decide +kernel
theorem dX9_isWord_3 : decode cX9_isWord 3 = .ok (.ldc2_w 246, 3) := by decide +kernel
theorem dX9_isWord_6 : decode cX9_isWord 6 = .ok (.invokestatic 75, 3) := by decide +kernel
theorem dX9_isWord_9 : decode cX9_isWord 9 = .ok (.ireturn, 1) := by decide +kernel
theorem dX9_hear_0 : decode cX9_hear 0 = .ok (.iload_n 1, 1) := by decide +kernel
theorem dX9_hear_1 : decode cX9_hear 1 = .ok (.invokestatic 248, 3) := by decide +kernel
theorem dX9_hear_4 : decode cX9_hear 4 = .ok (.ifCond .eq 15, 3) := by decide +kernel
theorem dX9_hear_7 : decode cX9_hear 7 = .ok (.iload_n 2, 1) := by decide +kernel
theorem dX9_hear_8 : decode cX9_hear 8 = .ok (.i2l, 1) := by decide +kernel
theorem dX9_hear_9 : decode cX9_hear 9 = .ok (.lconst 0, 1) := by decide +kernel
theorem dX9_hear_10 : decode cX9_hear 10 = .ok (.ldc2_w 102, 3) := by decide +kernel
theorem dX9_hear_13 : decode cX9_hear 13 = .ok (.invokestatic 75, 3) := by decide +kernel
theorem dX9_hear_16 : decode cX9_hear 16 = .ok (.ifCond .ne 5, 3) := by decide +kernel
theorem dX9_hear_19 : decode cX9_hear 19 = .ok (.iconst (-1), 1) := by decide +kernel
theorem dX9_hear_20 : decode cX9_hear 20 = .ok (.ireturn, 1) := by decide +kernel
theorem dX9_hear_21 : decode cX9_hear 21 = .ok (.aload_n 0, 1) := by decide +kernel
theorem dX9_hear_22 : decode cX9_hear 22 = .ok (.getfield 7, 3) := by decide +kernel
theorem dX9_hear_25 : decode cX9_hear 25 = .ok (.iconst 0, 1) := by decide +kernel
theorem dX9_hear_26 : decode cX9_hear 26 = .ok (.iaload, 1) := by decide +kernel
theorem dX9_hear_27 : decode cX9_hear 27 = .ok (.bipush 8, 2) := by decide +kernel
theorem dX9_hear_29 : decode cX9_hear 29 = .ok (.if_icmp .ne 6, 3) := by decide +kernel
theorem dX9_hear_32 : decode cX9_hear 32 = .ok (.bipush (-3), 2) := by decide +kernel
theorem dX9_hear_34 : decode cX9_hear 34 = .ok (.ireturn, 1) := by decide +kernel
theorem dX9_hear_35 : decode cX9_hear 35 = .ok (.aload_n 0, 1) := by decide +kernel
theorem dX9_hear_36 : decode cX9_hear 36 = .ok (.invokevirtual 251, 3) := by decide +kernel
theorem dX9_hear_39 : decode cX9_hear 39 = .ok (.aload_n 0, 1) := by decide +kernel
theorem dX9_hear_40 : decode cX9_hear 40 = .ok (.iload_n 1, 1) := by decide +kernel
theorem dX9_hear_41 : decode cX9_hear 41 = .ok (.iload_n 2, 1) := by decide +kernel
theorem dX9_hear_42 : decode cX9_hear 42 = .ok (.invokevirtual 242, 3) := by decide +kernel
theorem dX9_hear_45 : decode cX9_hear 45 = .ok (.aload_n 0, 1) := by decide +kernel
theorem dX9_hear_46 : decode cX9_hear 46 = .ok (.getfield 7, 3) := by decide +kernel
theorem dX9_hear_49 : decode cX9_hear 49 = .ok (.iconst 0, 1) := by decide +kernel
theorem dX9_hear_50 : decode cX9_hear 50 = .ok (.iaload, 1) := by decide +kernel
theorem dX9_hear_51 : decode cX9_hear 51 = .ok (.ireturn, 1) := by decide +kernel
theorem dX9_comes_0 : decode cX9_comes 0 = .ok (.aload_n 0, 1) := by decide +kernel
theorem dX9_comes_1 : decode cX9_comes 1 = .ok (.getfield 7, 3) := by decide +kernel
theorem dX9_comes_4 : decode cX9_comes 4 = .ok (.aload_n 0, 1) := by decide +kernel
theorem dX9_comes_5 : decode cX9_comes 5 = .ok (.iload_n 1, 1) := by decide +kernel
theorem dX9_comes_6 : decode cX9_comes 6 = .ok (.invokevirtual 79, 3) := by decide +kernel
theorem dX9_comes_9 : decode cX9_comes 9 = .ok (.iaload, 1) := by decide +kernel
theorem dX9_comes_10 : decode cX9_comes 10 = .ok (.istore 4, 2) := by decide +kernel
theorem dX9_comes_12 : decode cX9_comes 12 = .ok (.aload_n 0, 1) := by decide +kernel
theorem dX9_comes_13 : decode cX9_comes 13 = .ok (.getfield 7, 3) := by decide +kernel
theorem dX9_comes_16 : decode cX9_comes 16 = .ok (.aload_n 0, 1) := by decide +kernel
theorem dX9_comes_17 : decode cX9_comes 17 = .ok (.iload_n 1, 1) := by decide +kernel
theorem dX9_comes_18 : decode cX9_comes 18 = .ok (.invokevirtual 79, 3) := by decide +kernel
theorem dX9_comes_21 : decode cX9_comes 21 = .ok (.iconst 1, 1) := by decide +kernel
theorem dX9_comes_22 : decode cX9_comes 22 = .ok (.iadd, 1) := by decide +kernel
theorem dX9_comes_23 : decode cX9_comes 23 = .ok (.iload 4, 2) := by decide +kernel
theorem dX9_comes_25 : decode cX9_comes 25 = .ok (.iadd, 1) := by decide +kernel
theorem dX9_comes_26 : decode cX9_comes 26 = .ok (.iload_n 2, 1) := by decide +kernel
theorem dX9_comes_27 : decode cX9_comes 27 = .ok (.iastore, 1) := by decide +kernel
theorem dX9_comes_28 : decode cX9_comes 28 = .ok (.aload_n 0, 1) := by decide +kernel
theorem dX9_comes_29 : decode cX9_comes 29 = .ok (.getfield 7, 3) := by decide +kernel
theorem dX9_comes_32 : decode cX9_comes 32 = .ok (.aload_n 0, 1) := by decide +kernel
theorem dX9_comes_33 : decode cX9_comes 33 = .ok (.iload_n 1, 1) := by decide +kernel
theorem dX9_comes_34 : decode cX9_comes 34 = .ok (.invokevirtual 79, 3) := by decide +kernel
theorem dX9_comes_37 : decode cX9_comes 37 = .ok (.iconst 5, 1) := by decide +kernel
theorem dX9_comes_38 : decode cX9_comes 38 = .ok (.iadd, 1) := by decide +kernel
theorem dX9_comes_39 : decode cX9_comes 39 = .ok (.iload 4, 2) := by decide +kernel
theorem dX9_comes_41 : decode cX9_comes 41 = .ok (.iadd, 1) := by decide +kernel
theorem dX9_comes_42 : decode cX9_comes 42 = .ok (.iload_n 3, 1) := by decide +kernel
theorem dX9_comes_43 : decode cX9_comes 43 = .ok (.iastore, 1) := by decide +kernel
theorem dX9_comes_44 : decode cX9_comes 44 = .ok (.aload_n 0, 1) := by decide +kernel
theorem dX9_comes_45 : decode cX9_comes 45 = .ok (.getfield 7, 3) := by decide +kernel
theorem dX9_comes_48 : decode cX9_comes 48 = .ok (.aload_n 0, 1) := by decide +kernel
theorem dX9_comes_49 : decode cX9_comes 49 = .ok (.iload_n 1, 1) := by decide +kernel
theorem dX9_comes_50 : decode cX9_comes 50 = .ok (.invokevirtual 79, 3) := by decide +kernel
theorem dX9_comes_53 : decode cX9_comes 53 = .ok (.dup2, 1) := by decide +kernel
theorem dX9_comes_54 : decode cX9_comes 54 = .ok (.iaload, 1) := by decide +kernel
theorem dX9_comes_55 : decode cX9_comes 55 = .ok (.iconst 1, 1) := by decide +kernel
theorem dX9_comes_56 : decode cX9_comes 56 = .ok (.iadd, 1) := by decide +kernel
theorem dX9_comes_57 : decode cX9_comes 57 = .ok (.iastore, 1) := by decide +kernel
theorem dX9_comes_58 : decode cX9_comes 58 = .ok (.return_, 1) := by decide +kernel
theorem dX9_also_0 : decode cX9_also 0 = .ok (.aload_n 0, 1) := by decide +kernel
theorem dX9_also_1 : decode cX9_also 1 = .ok (.iload_n 1, 1) := by decide +kernel
theorem dX9_also_2 : decode cX9_also 2 = .ok (.invokevirtual 183, 3) := by decide +kernel
theorem dX9_also_5 : decode cX9_also 5 = .ok (.ifCond .eq 22, 3) := by decide +kernel
theorem dX9_also_8 : decode cX9_also 8 = .ok (.iload_n 2, 1) := by decide +kernel
theorem dX9_also_9 : decode cX9_also 9 = .ok (.invokestatic 248, 3) := by decide +kernel
theorem dX9_also_12 : decode cX9_also 12 = .ok (.ifCond .eq 15, 3) := by decide +kernel
theorem dX9_also_15 : decode cX9_also 15 = .ok (.iload_n 3, 1) := by decide +kernel
theorem dX9_also_16 : decode cX9_also 16 = .ok (.i2l, 1) := by decide +kernel
theorem dX9_also_17 : decode cX9_also 17 = .ok (.lconst 0, 1) := by decide +kernel
theorem dX9_also_18 : decode cX9_also 18 = .ok (.ldc2_w 102, 3) := by decide +kernel
theorem dX9_also_21 : decode cX9_also 21 = .ok (.invokestatic 75, 3) := by decide +kernel
theorem dX9_also_24 : decode cX9_also 24 = .ok (.ifCond .ne 5, 3) := by decide +kernel
theorem dX9_also_27 : decode cX9_also 27 = .ok (.iconst (-1), 1) := by decide +kernel
theorem dX9_also_28 : decode cX9_also 28 = .ok (.ireturn, 1) := by decide +kernel
theorem dX9_also_29 : decode cX9_also 29 = .ok (.aload_n 0, 1) := by decide +kernel
theorem dX9_also_30 : decode cX9_also 30 = .ok (.iload_n 1, 1) := by decide +kernel
theorem dX9_also_31 : decode cX9_also 31 = .ok (.iload_n 2, 1) := by decide +kernel
theorem dX9_also_32 : decode cX9_also 32 = .ok (.invokevirtual 254, 3) := by decide +kernel
theorem dX9_also_35 : decode cX9_also 35 = .ok (.bipush (-4), 2) := by decide +kernel
theorem dX9_also_37 : decode cX9_also 37 = .ok (.if_icmp .eq 6, 3) := by decide +kernel
theorem dX9_also_40 : decode cX9_also 40 = .ok (.bipush (-2), 2) := by decide +kernel
theorem dX9_also_42 : decode cX9_also 42 = .ok (.ireturn, 1) := by decide +kernel
theorem dX9_also_43 : decode cX9_also 43 = .ok (.aload_n 0, 1) := by decide +kernel
theorem dX9_also_44 : decode cX9_also 44 = .ok (.getfield 7, 3) := by decide +kernel
theorem dX9_also_47 : decode cX9_also 47 = .ok (.aload_n 0, 1) := by decide +kernel
theorem dX9_also_48 : decode cX9_also 48 = .ok (.iload_n 1, 1) := by decide +kernel
theorem dX9_also_49 : decode cX9_also 49 = .ok (.invokevirtual 79, 3) := by decide +kernel
theorem dX9_also_52 : decode cX9_also 52 = .ok (.iaload, 1) := by decide +kernel
theorem dX9_also_53 : decode cX9_also 53 = .ok (.iconst 4, 1) := by decide +kernel
theorem dX9_also_54 : decode cX9_also 54 = .ok (.if_icmp .ne 6, 3) := by decide +kernel
theorem dX9_also_57 : decode cX9_also 57 = .ok (.bipush (-3), 2) := by decide +kernel
theorem dX9_also_59 : decode cX9_also 59 = .ok (.ireturn, 1) := by decide +kernel
theorem dX9_also_60 : decode cX9_also 60 = .ok (.aload_n 0, 1) := by decide +kernel
theorem dX9_also_61 : decode cX9_also 61 = .ok (.invokevirtual 251, 3) := by decide +kernel
theorem dX9_also_64 : decode cX9_also 64 = .ok (.aload_n 0, 1) := by decide +kernel
theorem dX9_also_65 : decode cX9_also 65 = .ok (.iload_n 1, 1) := by decide +kernel
theorem dX9_also_66 : decode cX9_also 66 = .ok (.iload_n 2, 1) := by decide +kernel
theorem dX9_also_67 : decode cX9_also 67 = .ok (.iload_n 3, 1) := by decide +kernel
theorem dX9_also_68 : decode cX9_also 68 = .ok (.invokevirtual 258, 3) := by decide +kernel
theorem dX9_also_71 : decode cX9_also 71 = .ok (.aload_n 0, 1) := by decide +kernel
theorem dX9_also_72 : decode cX9_also 72 = .ok (.getfield 7, 3) := by decide +kernel
theorem dX9_also_75 : decode cX9_also 75 = .ok (.aload_n 0, 1) := by decide +kernel
theorem dX9_also_76 : decode cX9_also 76 = .ok (.iload_n 1, 1) := by decide +kernel
theorem dX9_also_77 : decode cX9_also 77 = .ok (.invokevirtual 79, 3) := by decide +kernel
theorem dX9_also_80 : decode cX9_also 80 = .ok (.iaload, 1) := by decide +kernel
theorem dX9_also_81 : decode cX9_also 81 = .ok (.ireturn, 1) := by decide +kernel
theorem dX9_lose_0 : decode cX9_lose 0 = .ok (.aload_n 0, 1) := by decide +kernel
theorem dX9_lose_1 : decode cX9_lose 1 = .ok (.iload_n 1, 1) := by decide +kernel
theorem dX9_lose_2 : decode cX9_lose 2 = .ok (.invokevirtual 183, 3) := by decide +kernel
theorem dX9_lose_5 : decode cX9_lose 5 = .ok (.ifCond .ne 5, 3) := by decide +kernel
theorem dX9_lose_8 : decode cX9_lose 8 = .ok (.iconst (-1), 1) := by decide +kernel
theorem dX9_lose_9 : decode cX9_lose 9 = .ok (.ireturn, 1) := by decide +kernel
theorem dX9_lose_10 : decode cX9_lose 10 = .ok (.aload_n 0, 1) := by decide +kernel
theorem dX9_lose_11 : decode cX9_lose 11 = .ok (.invokevirtual 251, 3) := by decide +kernel
theorem dX9_lose_14 : decode cX9_lose 14 = .ok (.aload_n 0, 1) := by decide +kernel
theorem dX9_lose_15 : decode cX9_lose 15 = .ok (.getfield 7, 3) := by decide +kernel
theorem dX9_lose_18 : decode cX9_lose 18 = .ok (.iconst 0, 1) := by decide +kernel
theorem dX9_lose_19 : decode cX9_lose 19 = .ok (.dup2, 1) := by decide +kernel
theorem dX9_lose_20 : decode cX9_lose 20 = .ok (.iaload, 1) := by decide +kernel
theorem dX9_lose_21 : decode cX9_lose 21 = .ok (.iconst 1, 1) := by decide +kernel
theorem dX9_lose_22 : decode cX9_lose 22 = .ok (.isub, 1) := by decide +kernel
theorem dX9_lose_23 : decode cX9_lose 23 = .ok (.iastore, 1) := by decide +kernel
theorem dX9_lose_24 : decode cX9_lose 24 = .ok (.aload_n 0, 1) := by decide +kernel
theorem dX9_lose_25 : decode cX9_lose 25 = .ok (.iload_n 1, 1) := by decide +kernel
theorem dX9_lose_26 : decode cX9_lose 26 = .ok (.invokevirtual 79, 3) := by decide +kernel
theorem dX9_lose_29 : decode cX9_lose 29 = .ok (.istore_n 2, 1) := by decide +kernel
theorem dX9_lose_30 : decode cX9_lose 30 = .ok (.iload_n 2, 1) := by decide +kernel
theorem dX9_lose_31 : decode cX9_lose 31 = .ok (.aload_n 0, 1) := by decide +kernel
theorem dX9_lose_32 : decode cX9_lose 32 = .ok (.aload_n 0, 1) := by decide +kernel
theorem dX9_lose_33 : decode cX9_lose 33 = .ok (.getfield 7, 3) := by decide +kernel
theorem dX9_lose_36 : decode cX9_lose 36 = .ok (.iconst 0, 1) := by decide +kernel
theorem dX9_lose_37 : decode cX9_lose 37 = .ok (.iaload, 1) := by decide +kernel
theorem dX9_lose_38 : decode cX9_lose 38 = .ok (.invokevirtual 79, 3) := by decide +kernel
theorem dX9_lose_41 : decode cX9_lose 41 = .ok (.if_icmp .ge 24, 3) := by decide +kernel
theorem dX9_lose_44 : decode cX9_lose 44 = .ok (.aload_n 0, 1) := by decide +kernel
theorem dX9_lose_45 : decode cX9_lose 45 = .ok (.getfield 7, 3) := by decide +kernel
theorem dX9_lose_48 : decode cX9_lose 48 = .ok (.iload_n 2, 1) := by decide +kernel
theorem dX9_lose_49 : decode cX9_lose 49 = .ok (.aload_n 0, 1) := by decide +kernel
theorem dX9_lose_50 : decode cX9_lose 50 = .ok (.getfield 7, 3) := by decide +kernel
theorem dX9_lose_53 : decode cX9_lose 53 = .ok (.iload_n 2, 1) := by decide +kernel
theorem dX9_lose_54 : decode cX9_lose 54 = .ok (.bipush 9, 2) := by decide +kernel
theorem dX9_lose_56 : decode cX9_lose 56 = .ok (.iadd, 1) := by decide +kernel
theorem dX9_lose_57 : decode cX9_lose 57 = .ok (.iaload, 1) := by decide +kernel
theorem dX9_lose_58 : decode cX9_lose 58 = .ok (.iastore, 1) := by decide +kernel
theorem dX9_lose_59 : decode cX9_lose 59 = .ok (.iinc 2 1, 3) := by decide +kernel
theorem dX9_lose_62 : decode cX9_lose 62 = .ok (.goto (-32), 3) := by decide +kernel
theorem dX9_lose_65 : decode cX9_lose 65 = .ok (.iconst 0, 1) := by decide +kernel
theorem dX9_lose_66 : decode cX9_lose 66 = .ok (.istore_n 2, 1) := by decide +kernel
theorem dX9_lose_67 : decode cX9_lose 67 = .ok (.iload_n 2, 1) := by decide +kernel
theorem dX9_lose_68 : decode cX9_lose 68 = .ok (.bipush 9, 2) := by decide +kernel
theorem dX9_lose_70 : decode cX9_lose 70 = .ok (.if_icmp .ge 27, 3) := by decide +kernel
theorem dX9_lose_73 : decode cX9_lose 73 = .ok (.aload_n 0, 1) := by decide +kernel
theorem dX9_lose_74 : decode cX9_lose 74 = .ok (.getfield 7, 3) := by decide +kernel
theorem dX9_lose_77 : decode cX9_lose 77 = .ok (.aload_n 0, 1) := by decide +kernel
theorem dX9_lose_78 : decode cX9_lose 78 = .ok (.aload_n 0, 1) := by decide +kernel
theorem dX9_lose_79 : decode cX9_lose 79 = .ok (.getfield 7, 3) := by decide +kernel
theorem dX9_lose_82 : decode cX9_lose 82 = .ok (.iconst 0, 1) := by decide +kernel
theorem dX9_lose_83 : decode cX9_lose 83 = .ok (.iaload, 1) := by decide +kernel
theorem dX9_lose_84 : decode cX9_lose 84 = .ok (.invokevirtual 79, 3) := by decide +kernel
theorem dX9_lose_87 : decode cX9_lose 87 = .ok (.iload_n 2, 1) := by decide +kernel
theorem dX9_lose_88 : decode cX9_lose 88 = .ok (.iadd, 1) := by decide +kernel
theorem dX9_lose_89 : decode cX9_lose 89 = .ok (.iconst 0, 1) := by decide +kernel
theorem dX9_lose_90 : decode cX9_lose 90 = .ok (.iastore, 1) := by decide +kernel
theorem dX9_lose_91 : decode cX9_lose 91 = .ok (.iinc 2 1, 3) := by decide +kernel
theorem dX9_lose_94 : decode cX9_lose 94 = .ok (.goto (-27), 3) := by decide +kernel
theorem dX9_lose_97 : decode cX9_lose 97 = .ok (.aload_n 0, 1) := by decide +kernel
theorem dX9_lose_98 : decode cX9_lose 98 = .ok (.getfield 7, 3) := by decide +kernel
theorem dX9_lose_101 : decode cX9_lose 101 = .ok (.iconst 0, 1) := by decide +kernel
theorem dX9_lose_102 : decode cX9_lose 102 = .ok (.iaload, 1) := by decide +kernel
theorem dX9_lose_103 : decode cX9_lose 103 = .ok (.ireturn, 1) := by decide +kernel
theorem dX9_settle_0 : decode cX9_settle 0 = .ok (.aload_n 0, 1) := by decide +kernel
theorem dX9_settle_1 : decode cX9_settle 1 = .ok (.iload_n 1, 1) := by decide +kernel
theorem dX9_settle_2 : decode cX9_settle 2 = .ok (.invokevirtual 183, 3) := by decide +kernel
theorem dX9_settle_5 : decode cX9_settle 5 = .ok (.ifCond .eq 10, 3) := by decide +kernel
theorem dX9_settle_8 : decode cX9_settle 8 = .ok (.iload_n 2, 1) := by decide +kernel
theorem dX9_settle_9 : decode cX9_settle 9 = .ok (.invokestatic 248, 3) := by decide +kernel
theorem dX9_settle_12 : decode cX9_settle 12 = .ok (.ifCond .ne 5, 3) := by decide +kernel
theorem dX9_settle_15 : decode cX9_settle 15 = .ok (.iconst (-1), 1) := by decide +kernel
theorem dX9_settle_16 : decode cX9_settle 16 = .ok (.ireturn, 1) := by decide +kernel
theorem dX9_settle_17 : decode cX9_settle 17 = .ok (.aload_n 0, 1) := by decide +kernel
theorem dX9_settle_18 : decode cX9_settle 18 = .ok (.iload_n 1, 1) := by decide +kernel
theorem dX9_settle_19 : decode cX9_settle 19 = .ok (.iload_n 2, 1) := by decide +kernel
theorem dX9_settle_20 : decode cX9_settle 20 = .ok (.invokevirtual 254, 3) := by decide +kernel
theorem dX9_settle_23 : decode cX9_settle 23 = .ok (.istore_n 3, 1) := by decide +kernel
theorem dX9_settle_24 : decode cX9_settle 24 = .ok (.aload_n 0, 1) := by decide +kernel
theorem dX9_settle_25 : decode cX9_settle 25 = .ok (.getfield 7, 3) := by decide +kernel
theorem dX9_settle_28 : decode cX9_settle 28 = .ok (.aload_n 0, 1) := by decide +kernel
theorem dX9_settle_29 : decode cX9_settle 29 = .ok (.iload_n 1, 1) := by decide +kernel
theorem dX9_settle_30 : decode cX9_settle 30 = .ok (.invokevirtual 79, 3) := by decide +kernel
theorem dX9_settle_33 : decode cX9_settle 33 = .ok (.iaload, 1) := by decide +kernel
theorem dX9_settle_34 : decode cX9_settle 34 = .ok (.istore 4, 2) := by decide +kernel
theorem dX9_settle_36 : decode cX9_settle 36 = .ok (.iload_n 3, 1) := by decide +kernel
theorem dX9_settle_37 : decode cX9_settle 37 = .ok (.bipush (-4), 2) := by decide +kernel
theorem dX9_settle_39 : decode cX9_settle 39 = .ok (.if_icmp .eq 9, 3) := by decide +kernel
theorem dX9_settle_42 : decode cX9_settle 42 = .ok (.iload 4, 2) := by decide +kernel
theorem dX9_settle_44 : decode cX9_settle 44 = .ok (.iconst 1, 1) := by decide +kernel
theorem dX9_settle_45 : decode cX9_settle 45 = .ok (.if_icmp .ne 6, 3) := by decide +kernel
theorem dX9_settle_48 : decode cX9_settle 48 = .ok (.bipush (-2), 2) := by decide +kernel
theorem dX9_settle_50 : decode cX9_settle 50 = .ok (.ireturn, 1) := by decide +kernel
theorem dX9_settle_51 : decode cX9_settle 51 = .ok (.aload_n 0, 1) := by decide +kernel
theorem dX9_settle_52 : decode cX9_settle 52 = .ok (.invokevirtual 251, 3) := by decide +kernel
theorem dX9_settle_55 : decode cX9_settle 55 = .ok (.aload_n 0, 1) := by decide +kernel
theorem dX9_settle_56 : decode cX9_settle 56 = .ok (.getfield 7, 3) := by decide +kernel
theorem dX9_settle_59 : decode cX9_settle 59 = .ok (.aload_n 0, 1) := by decide +kernel
theorem dX9_settle_60 : decode cX9_settle 60 = .ok (.iload_n 1, 1) := by decide +kernel
theorem dX9_settle_61 : decode cX9_settle 61 = .ok (.invokevirtual 79, 3) := by decide +kernel
theorem dX9_settle_64 : decode cX9_settle 64 = .ok (.iconst 5, 1) := by decide +kernel
theorem dX9_settle_65 : decode cX9_settle 65 = .ok (.iadd, 1) := by decide +kernel
theorem dX9_settle_66 : decode cX9_settle 66 = .ok (.iload_n 3, 1) := by decide +kernel
theorem dX9_settle_67 : decode cX9_settle 67 = .ok (.iadd, 1) := by decide +kernel
theorem dX9_settle_68 : decode cX9_settle 68 = .ok (.iaload, 1) := by decide +kernel
theorem dX9_settle_69 : decode cX9_settle 69 = .ok (.istore 5, 2) := by decide +kernel
theorem dX9_settle_71 : decode cX9_settle 71 = .ok (.iconst 0, 1) := by decide +kernel
theorem dX9_settle_72 : decode cX9_settle 72 = .ok (.istore 6, 2) := by decide +kernel
theorem dX9_settle_74 : decode cX9_settle 74 = .ok (.iload 6, 2) := by decide +kernel
theorem dX9_settle_76 : decode cX9_settle 76 = .ok (.bipush 9, 2) := by decide +kernel
theorem dX9_settle_78 : decode cX9_settle 78 = .ok (.if_icmp .ge 23, 3) := by decide +kernel
theorem dX9_settle_81 : decode cX9_settle 81 = .ok (.aload_n 0, 1) := by decide +kernel
theorem dX9_settle_82 : decode cX9_settle 82 = .ok (.getfield 7, 3) := by decide +kernel
theorem dX9_settle_85 : decode cX9_settle 85 = .ok (.aload_n 0, 1) := by decide +kernel
theorem dX9_settle_86 : decode cX9_settle 86 = .ok (.iload_n 1, 1) := by decide +kernel
theorem dX9_settle_87 : decode cX9_settle 87 = .ok (.invokevirtual 79, 3) := by decide +kernel
theorem dX9_settle_90 : decode cX9_settle 90 = .ok (.iload 6, 2) := by decide +kernel
theorem dX9_settle_92 : decode cX9_settle 92 = .ok (.iadd, 1) := by decide +kernel
theorem dX9_settle_93 : decode cX9_settle 93 = .ok (.iconst 0, 1) := by decide +kernel
theorem dX9_settle_94 : decode cX9_settle 94 = .ok (.iastore, 1) := by decide +kernel
theorem dX9_settle_95 : decode cX9_settle 95 = .ok (.iinc 6 1, 3) := by decide +kernel
theorem dX9_settle_98 : decode cX9_settle 98 = .ok (.goto (-24), 3) := by decide +kernel
theorem dX9_settle_101 : decode cX9_settle 101 = .ok (.aload_n 0, 1) := by decide +kernel
theorem dX9_settle_102 : decode cX9_settle 102 = .ok (.iload_n 1, 1) := by decide +kernel
theorem dX9_settle_103 : decode cX9_settle 103 = .ok (.iload_n 2, 1) := by decide +kernel
theorem dX9_settle_104 : decode cX9_settle 104 = .ok (.iload 5, 2) := by decide +kernel
theorem dX9_settle_106 : decode cX9_settle 106 = .ok (.invokevirtual 258, 3) := by decide +kernel
theorem dX9_settle_109 : decode cX9_settle 109 = .ok (.iload 4, 2) := by decide +kernel
theorem dX9_settle_111 : decode cX9_settle 111 = .ok (.iconst 1, 1) := by decide +kernel
theorem dX9_settle_112 : decode cX9_settle 112 = .ok (.isub, 1) := by decide +kernel
theorem dX9_settle_113 : decode cX9_settle 113 = .ok (.ireturn, 1) := by decide +kernel
theorem dX9_check_0 : decode cX9_check 0 = .ok (.iload_n 1, 1) := by decide +kernel
theorem dX9_check_1 : decode cX9_check 1 = .ok (.i2l, 1) := by decide +kernel
theorem dX9_check_2 : decode cX9_check 2 = .ok (.lconst 0, 1) := by decide +kernel
theorem dX9_check_3 : decode cX9_check 3 = .ok (.ldc2_w 262, 3) := by decide +kernel
theorem dX9_check_6 : decode cX9_check 6 = .ok (.invokestatic 75, 3) := by decide +kernel
theorem dX9_check_9 : decode cX9_check 9 = .ok (.ifCond .ne 5, 3) := by decide +kernel
theorem dX9_check_12 : decode cX9_check 12 = .ok (.iconst (-1), 1) := by decide +kernel
theorem dX9_check_13 : decode cX9_check 13 = .ok (.ireturn, 1) := by decide +kernel
theorem dX9_check_14 : decode cX9_check 14 = .ok (.aload_n 0, 1) := by decide +kernel
theorem dX9_check_15 : decode cX9_check 15 = .ok (.getfield 7, 3) := by decide +kernel
theorem dX9_check_18 : decode cX9_check 18 = .ok (.iconst 1, 1) := by decide +kernel
theorem dX9_check_19 : decode cX9_check 19 = .ok (.iaload, 1) := by decide +kernel
theorem dX9_check_20 : decode cX9_check 20 = .ok (.istore_n 2, 1) := by decide +kernel
theorem dX9_check_21 : decode cX9_check 21 = .ok (.iload_n 2, 1) := by decide +kernel
theorem dX9_check_22 : decode cX9_check 22 = .ok (.iload_n 1, 1) := by decide +kernel
theorem dX9_check_23 : decode cX9_check 23 = .ok (.if_icmp .ne 6, 3) := by decide +kernel
theorem dX9_check_26 : decode cX9_check 26 = .ok (.bipush (-2), 2) := by decide +kernel
theorem dX9_check_28 : decode cX9_check 28 = .ok (.ireturn, 1) := by decide +kernel
theorem dX9_check_29 : decode cX9_check 29 = .ok (.aload_n 0, 1) := by decide +kernel
theorem dX9_check_30 : decode cX9_check 30 = .ok (.invokevirtual 251, 3) := by decide +kernel
theorem dX9_check_33 : decode cX9_check 33 = .ok (.aload_n 0, 1) := by decide +kernel
theorem dX9_check_34 : decode cX9_check 34 = .ok (.getfield 7, 3) := by decide +kernel
theorem dX9_check_37 : decode cX9_check 37 = .ok (.iconst 1, 1) := by decide +kernel
theorem dX9_check_38 : decode cX9_check 38 = .ok (.iload_n 1, 1) := by decide +kernel
theorem dX9_check_39 : decode cX9_check 39 = .ok (.iastore, 1) := by decide +kernel
theorem dX9_check_40 : decode cX9_check 40 = .ok (.iload_n 2, 1) := by decide +kernel
theorem dX9_check_41 : decode cX9_check 41 = .ok (.ireturn, 1) := by decide +kernel
theorem dX9_slack_0 : decode cX9_slack 0 = .ok (.iload_n 1, 1) := by decide +kernel
theorem dX9_slack_1 : decode cX9_slack 1 = .ok (.i2l, 1) := by decide +kernel
theorem dX9_slack_2 : decode cX9_slack 2 = .ok (.lconst 0, 1) := by decide +kernel
theorem dX9_slack_3 : decode cX9_slack 3 = .ok (.ldc2_w 91, 3) := by decide +kernel
theorem dX9_slack_6 : decode cX9_slack 6 = .ok (.invokestatic 75, 3) := by decide +kernel
theorem dX9_slack_9 : decode cX9_slack 9 = .ok (.ifCond .ne 5, 3) := by decide +kernel
theorem dX9_slack_12 : decode cX9_slack 12 = .ok (.iconst (-1), 1) := by decide +kernel
theorem dX9_slack_13 : decode cX9_slack 13 = .ok (.ireturn, 1) := by decide +kernel
theorem dX9_slack_14 : decode cX9_slack 14 = .ok (.aload_n 0, 1) := by decide +kernel
theorem dX9_slack_15 : decode cX9_slack 15 = .ok (.getfield 7, 3) := by decide +kernel
theorem dX9_slack_18 : decode cX9_slack 18 = .ok (.iconst 2, 1) := by decide +kernel
theorem dX9_slack_19 : decode cX9_slack 19 = .ok (.iaload, 1) := by decide +kernel
theorem dX9_slack_20 : decode cX9_slack 20 = .ok (.istore_n 2, 1) := by decide +kernel
theorem dX9_slack_21 : decode cX9_slack 21 = .ok (.iload_n 2, 1) := by decide +kernel
theorem dX9_slack_22 : decode cX9_slack 22 = .ok (.iload_n 1, 1) := by decide +kernel
theorem dX9_slack_23 : decode cX9_slack 23 = .ok (.if_icmp .ne 6, 3) := by decide +kernel
theorem dX9_slack_26 : decode cX9_slack 26 = .ok (.bipush (-2), 2) := by decide +kernel
theorem dX9_slack_28 : decode cX9_slack 28 = .ok (.ireturn, 1) := by decide +kernel
theorem dX9_slack_29 : decode cX9_slack 29 = .ok (.aload_n 0, 1) := by decide +kernel
theorem dX9_slack_30 : decode cX9_slack 30 = .ok (.invokevirtual 251, 3) := by decide +kernel
theorem dX9_slack_33 : decode cX9_slack 33 = .ok (.aload_n 0, 1) := by decide +kernel
theorem dX9_slack_34 : decode cX9_slack 34 = .ok (.getfield 7, 3) := by decide +kernel
theorem dX9_slack_37 : decode cX9_slack 37 = .ok (.iconst 2, 1) := by decide +kernel
theorem dX9_slack_38 : decode cX9_slack 38 = .ok (.iload_n 1, 1) := by decide +kernel
theorem dX9_slack_39 : decode cX9_slack 39 = .ok (.iastore, 1) := by decide +kernel
theorem dX9_slack_40 : decode cX9_slack 40 = .ok (.iload_n 2, 1) := by decide +kernel
theorem dX9_slack_41 : decode cX9_slack 41 = .ok (.ireturn, 1) := by decide +kernel
theorem dX9_storm_0 : decode cX9_storm 0 = .ok (.iload_n 1, 1) := by decide +kernel
theorem dX9_storm_1 : decode cX9_storm 1 = .ok (.i2l, 1) := by decide +kernel
theorem dX9_storm_2 : decode cX9_storm 2 = .ok (.lconst 1, 1) := by decide +kernel
theorem dX9_storm_3 : decode cX9_storm 3 = .ok (.ldc2_w 264, 3) := by decide +kernel
theorem dX9_storm_6 : decode cX9_storm 6 = .ok (.invokestatic 75, 3) := by decide +kernel
theorem dX9_storm_9 : decode cX9_storm 9 = .ok (.ifCond .ne 5, 3) := by decide +kernel
theorem dX9_storm_12 : decode cX9_storm 12 = .ok (.iconst (-1), 1) := by decide +kernel
theorem dX9_storm_13 : decode cX9_storm 13 = .ok (.ireturn, 1) := by decide +kernel
theorem dX9_storm_14 : decode cX9_storm 14 = .ok (.iconst 0, 1) := by decide +kernel
theorem dX9_storm_15 : decode cX9_storm 15 = .ok (.istore_n 2, 1) := by decide +kernel
theorem dX9_storm_16 : decode cX9_storm 16 = .ok (.iload_n 2, 1) := by decide +kernel
theorem dX9_storm_17 : decode cX9_storm 17 = .ok (.iload_n 1, 1) := by decide +kernel
theorem dX9_storm_18 : decode cX9_storm 18 = .ok (.if_icmp .ge 130, 3) := by decide +kernel
theorem dX9_storm_21 : decode cX9_storm 21 = .ok (.aload_n 0, 1) := by decide +kernel
theorem dX9_storm_22 : decode cX9_storm 22 = .ok (.invokevirtual 251, 3) := by decide +kernel
theorem dX9_storm_25 : decode cX9_storm 25 = .ok (.aload_n 0, 1) := by decide +kernel
theorem dX9_storm_26 : decode cX9_storm 26 = .ok (.getfield 7, 3) := by decide +kernel
theorem dX9_storm_29 : decode cX9_storm 29 = .ok (.iconst 3, 1) := by decide +kernel
theorem dX9_storm_30 : decode cX9_storm 30 = .ok (.iaload, 1) := by decide +kernel
theorem dX9_storm_31 : decode cX9_storm 31 = .ok (.i2l, 1) := by decide +kernel
theorem dX9_storm_32 : decode cX9_storm 32 = .ok (.ldc2_w 266, 3) := by decide +kernel
theorem dX9_storm_35 : decode cX9_storm 35 = .ok (.lmul, 1) := by decide +kernel
theorem dX9_storm_36 : decode cX9_storm 36 = .ok (.ldc2_w 268, 3) := by decide +kernel
theorem dX9_storm_39 : decode cX9_storm 39 = .ok (.ladd, 1) := by decide +kernel
theorem dX9_storm_40 : decode cX9_storm 40 = .ok (.ldc2_w 270, 3) := by decide +kernel
theorem dX9_storm_43 : decode cX9_storm 43 = .ok (.lrem, 1) := by decide +kernel
theorem dX9_storm_44 : decode cX9_storm 44 = .ok (.lstore_n 3, 1) := by decide +kernel
theorem dX9_storm_45 : decode cX9_storm 45 = .ok (.aload_n 0, 1) := by decide +kernel
theorem dX9_storm_46 : decode cX9_storm 46 = .ok (.getfield 7, 3) := by decide +kernel
theorem dX9_storm_49 : decode cX9_storm 49 = .ok (.iconst 3, 1) := by decide +kernel
theorem dX9_storm_50 : decode cX9_storm 50 = .ok (.lload_n 3, 1) := by decide +kernel
theorem dX9_storm_51 : decode cX9_storm 51 = .ok (.l2i, 1) := by decide +kernel
theorem dX9_storm_52 : decode cX9_storm 52 = .ok (.iastore, 1) := by decide +kernel
theorem dX9_storm_53 : decode cX9_storm 53 = .ok (.aload_n 0, 1) := by decide +kernel
theorem dX9_storm_54 : decode cX9_storm 54 = .ok (.getfield 7, 3) := by decide +kernel
theorem dX9_storm_57 : decode cX9_storm 57 = .ok (.iconst 3, 1) := by decide +kernel
theorem dX9_storm_58 : decode cX9_storm 58 = .ok (.iaload, 1) := by decide +kernel
theorem dX9_storm_59 : decode cX9_storm 59 = .ok (.ldc_w 272, 3) := by decide +kernel
theorem dX9_storm_62 : decode cX9_storm 62 = .ok (.idiv, 1) := by decide +kernel
theorem dX9_storm_63 : decode cX9_storm 63 = .ok (.istore 5, 2) := by decide +kernel
theorem dX9_storm_65 : decode cX9_storm 65 = .ok (.aload_n 0, 1) := by decide +kernel
theorem dX9_storm_66 : decode cX9_storm 66 = .ok (.getfield 7, 3) := by decide +kernel
theorem dX9_storm_69 : decode cX9_storm 69 = .ok (.iconst 0, 1) := by decide +kernel
theorem dX9_storm_70 : decode cX9_storm 70 = .ok (.iaload, 1) := by decide +kernel
theorem dX9_storm_71 : decode cX9_storm 71 = .ok (.ifCond .le 71, 3) := by decide +kernel
theorem dX9_storm_74 : decode cX9_storm 74 = .ok (.iload 5, 2) := by decide +kernel
theorem dX9_storm_76 : decode cX9_storm 76 = .ok (.aload_n 0, 1) := by decide +kernel
theorem dX9_storm_77 : decode cX9_storm 77 = .ok (.getfield 7, 3) := by decide +kernel
theorem dX9_storm_80 : decode cX9_storm 80 = .ok (.iconst 0, 1) := by decide +kernel
theorem dX9_storm_81 : decode cX9_storm 81 = .ok (.iaload, 1) := by decide +kernel
theorem dX9_storm_82 : decode cX9_storm 82 = .ok (.irem, 1) := by decide +kernel
theorem dX9_storm_83 : decode cX9_storm 83 = .ok (.istore 6, 2) := by decide +kernel
theorem dX9_storm_85 : decode cX9_storm 85 = .ok (.aload_n 0, 1) := by decide +kernel
theorem dX9_storm_86 : decode cX9_storm 86 = .ok (.getfield 7, 3) := by decide +kernel
theorem dX9_storm_89 : decode cX9_storm 89 = .ok (.aload_n 0, 1) := by decide +kernel
theorem dX9_storm_90 : decode cX9_storm 90 = .ok (.iload 6, 2) := by decide +kernel
theorem dX9_storm_92 : decode cX9_storm 92 = .ok (.invokevirtual 79, 3) := by decide +kernel
theorem dX9_storm_95 : decode cX9_storm 95 = .ok (.iaload, 1) := by decide +kernel
theorem dX9_storm_96 : decode cX9_storm 96 = .ok (.iconst 4, 1) := by decide +kernel
theorem dX9_storm_97 : decode cX9_storm 97 = .ok (.if_icmp .ge 45, 3) := by decide +kernel
theorem dX9_storm_100 : decode cX9_storm 100 = .ok (.aload_n 0, 1) := by decide +kernel
theorem dX9_storm_101 : decode cX9_storm 101 = .ok (.iload 6, 2) := by decide +kernel
theorem dX9_storm_103 : decode cX9_storm 103 = .ok (.iload 5, 2) := by decide +kernel
theorem dX9_storm_105 : decode cX9_storm 105 = .ok (.bipush 8, 2) := by decide +kernel
theorem dX9_storm_107 : decode cX9_storm 107 = .ok (.idiv, 1) := by decide +kernel
theorem dX9_storm_108 : decode cX9_storm 108 = .ok (.bipush 32, 2) := by decide +kernel
theorem dX9_storm_110 : decode cX9_storm 110 = .ok (.irem, 1) := by decide +kernel
theorem dX9_storm_111 : decode cX9_storm 111 = .ok (.invokevirtual 254, 3) := by decide +kernel
theorem dX9_storm_114 : decode cX9_storm 114 = .ok (.bipush (-4), 2) := by decide +kernel
theorem dX9_storm_116 : decode cX9_storm 116 = .ok (.if_icmp .ne 26, 3) := by decide +kernel
theorem dX9_storm_119 : decode cX9_storm 119 = .ok (.aload_n 0, 1) := by decide +kernel
theorem dX9_storm_120 : decode cX9_storm 120 = .ok (.iload 6, 2) := by decide +kernel
theorem dX9_storm_122 : decode cX9_storm 122 = .ok (.iload 5, 2) := by decide +kernel
theorem dX9_storm_124 : decode cX9_storm 124 = .ok (.bipush 8, 2) := by decide +kernel
theorem dX9_storm_126 : decode cX9_storm 126 = .ok (.idiv, 1) := by decide +kernel
theorem dX9_storm_127 : decode cX9_storm 127 = .ok (.bipush 32, 2) := by decide +kernel
theorem dX9_storm_129 : decode cX9_storm 129 = .ok (.irem, 1) := by decide +kernel
theorem dX9_storm_130 : decode cX9_storm 130 = .ok (.iload 5, 2) := by decide +kernel
theorem dX9_storm_132 : decode cX9_storm 132 = .ok (.sipush 256, 3) := by decide +kernel
theorem dX9_storm_135 : decode cX9_storm 135 = .ok (.idiv, 1) := by decide +kernel
theorem dX9_storm_136 : decode cX9_storm 136 = .ok (.bipush 10, 2) := by decide +kernel
theorem dX9_storm_138 : decode cX9_storm 138 = .ok (.irem, 1) := by decide +kernel
theorem dX9_storm_139 : decode cX9_storm 139 = .ok (.invokevirtual 258, 3) := by decide +kernel
theorem dX9_storm_142 : decode cX9_storm 142 = .ok (.iinc 2 1, 3) := by decide +kernel
theorem dX9_storm_145 : decode cX9_storm 145 = .ok (.goto (-129), 3) := by decide +kernel
theorem dX9_storm_148 : decode cX9_storm 148 = .ok (.iconst 0, 1) := by decide +kernel
theorem dX9_storm_149 : decode cX9_storm 149 = .ok (.istore_n 2, 1) := by decide +kernel
theorem dX9_storm_150 : decode cX9_storm 150 = .ok (.iconst 0, 1) := by decide +kernel
theorem dX9_storm_151 : decode cX9_storm 151 = .ok (.istore_n 3, 1) := by decide +kernel
theorem dX9_storm_152 : decode cX9_storm 152 = .ok (.iload_n 3, 1) := by decide +kernel
theorem dX9_storm_153 : decode cX9_storm 153 = .ok (.aload_n 0, 1) := by decide +kernel
theorem dX9_storm_154 : decode cX9_storm 154 = .ok (.getfield 7, 3) := by decide +kernel
theorem dX9_storm_157 : decode cX9_storm 157 = .ok (.iconst 0, 1) := by decide +kernel
theorem dX9_storm_158 : decode cX9_storm 158 = .ok (.iaload, 1) := by decide +kernel
theorem dX9_storm_159 : decode cX9_storm 159 = .ok (.if_icmp .ge 22, 3) := by decide +kernel
theorem dX9_storm_162 : decode cX9_storm 162 = .ok (.iload_n 2, 1) := by decide +kernel
theorem dX9_storm_163 : decode cX9_storm 163 = .ok (.aload_n 0, 1) := by decide +kernel
theorem dX9_storm_164 : decode cX9_storm 164 = .ok (.getfield 7, 3) := by decide +kernel
theorem dX9_storm_167 : decode cX9_storm 167 = .ok (.aload_n 0, 1) := by decide +kernel
theorem dX9_storm_168 : decode cX9_storm 168 = .ok (.iload_n 3, 1) := by decide +kernel
theorem dX9_storm_169 : decode cX9_storm 169 = .ok (.invokevirtual 79, 3) := by decide +kernel
theorem dX9_storm_172 : decode cX9_storm 172 = .ok (.iaload, 1) := by decide +kernel
theorem dX9_storm_173 : decode cX9_storm 173 = .ok (.iadd, 1) := by decide +kernel
theorem dX9_storm_174 : decode cX9_storm 174 = .ok (.istore_n 2, 1) := by decide +kernel
theorem dX9_storm_175 : decode cX9_storm 175 = .ok (.iinc 3 1, 3) := by decide +kernel
theorem dX9_storm_178 : decode cX9_storm 178 = .ok (.goto (-26), 3) := by decide +kernel
theorem dX9_storm_181 : decode cX9_storm 181 = .ok (.iload_n 2, 1) := by decide +kernel
theorem dX9_storm_182 : decode cX9_storm 182 = .ok (.ireturn, 1) := by decide +kernel
theorem dX9_undo_0 : decode cX9_undo 0 = .ok (.aload_n 0, 1) := by decide +kernel
theorem dX9_undo_1 : decode cX9_undo 1 = .ok (.getfield 192, 3) := by decide +kernel
theorem dX9_undo_4 : decode cX9_undo 4 = .ok (.ifCond .ne 6, 3) := by decide +kernel
theorem dX9_undo_7 : decode cX9_undo 7 = .ok (.bipush (-4), 2) := by decide +kernel
theorem dX9_undo_9 : decode cX9_undo 9 = .ok (.ireturn, 1) := by decide +kernel
theorem dX9_undo_10 : decode cX9_undo 10 = .ok (.aload_n 0, 1) := by decide +kernel
theorem dX9_undo_11 : decode cX9_undo 11 = .ok (.dup, 1) := by decide +kernel
theorem dX9_undo_12 : decode cX9_undo 12 = .ok (.getfield 192, 3) := by decide +kernel
theorem dX9_undo_15 : decode cX9_undo 15 = .ok (.iconst 1, 1) := by decide +kernel
theorem dX9_undo_16 : decode cX9_undo 16 = .ok (.isub, 1) := by decide +kernel
theorem dX9_undo_17 : decode cX9_undo 17 = .ok (.putfield 192, 3) := by decide +kernel
theorem dX9_undo_20 : decode cX9_undo 20 = .ok (.iconst 0, 1) := by decide +kernel
theorem dX9_undo_21 : decode cX9_undo 21 = .ok (.istore_n 1, 1) := by decide +kernel
theorem dX9_undo_22 : decode cX9_undo 22 = .ok (.iload_n 1, 1) := by decide +kernel
theorem dX9_undo_23 : decode cX9_undo 23 = .ok (.bipush 76, 2) := by decide +kernel
theorem dX9_undo_25 : decode cX9_undo 25 = .ok (.if_icmp .ge 29, 3) := by decide +kernel
theorem dX9_undo_28 : decode cX9_undo 28 = .ok (.aload_n 0, 1) := by decide +kernel
theorem dX9_undo_29 : decode cX9_undo 29 = .ok (.getfield 7, 3) := by decide +kernel
theorem dX9_undo_32 : decode cX9_undo 32 = .ok (.iload_n 1, 1) := by decide +kernel
theorem dX9_undo_33 : decode cX9_undo 33 = .ok (.aload_n 0, 1) := by decide +kernel
theorem dX9_undo_34 : decode cX9_undo 34 = .ok (.getfield 50, 3) := by decide +kernel
theorem dX9_undo_37 : decode cX9_undo 37 = .ok (.bipush 76, 2) := by decide +kernel
theorem dX9_undo_39 : decode cX9_undo 39 = .ok (.aload_n 0, 1) := by decide +kernel
theorem dX9_undo_40 : decode cX9_undo 40 = .ok (.getfield 192, 3) := by decide +kernel
theorem dX9_undo_43 : decode cX9_undo 43 = .ok (.imul, 1) := by decide +kernel
theorem dX9_undo_44 : decode cX9_undo 44 = .ok (.iload_n 1, 1) := by decide +kernel
theorem dX9_undo_45 : decode cX9_undo 45 = .ok (.iadd, 1) := by decide +kernel
theorem dX9_undo_46 : decode cX9_undo 46 = .ok (.iaload, 1) := by decide +kernel
theorem dX9_undo_47 : decode cX9_undo 47 = .ok (.iastore, 1) := by decide +kernel
theorem dX9_undo_48 : decode cX9_undo 48 = .ok (.iinc 1 1, 3) := by decide +kernel
theorem dX9_undo_51 : decode cX9_undo 51 = .ok (.goto (-29), 3) := by decide +kernel
theorem dX9_undo_54 : decode cX9_undo 54 = .ok (.aload_n 0, 1) := by decide +kernel
theorem dX9_undo_55 : decode cX9_undo 55 = .ok (.getfield 192, 3) := by decide +kernel
theorem dX9_undo_58 : decode cX9_undo 58 = .ok (.ireturn, 1) := by decide +kernel
theorem dX9_seed_0 : decode cX9_seed 0 = .ok (.iload_n 1, 1) := by decide +kernel
theorem dX9_seed_1 : decode cX9_seed 1 = .ok (.ifCond .ge 5, 3) := by decide +kernel
theorem dX9_seed_4 : decode cX9_seed 4 = .ok (.iconst (-1), 1) := by decide +kernel
theorem dX9_seed_5 : decode cX9_seed 5 = .ok (.ireturn, 1) := by decide +kernel
theorem dX9_seed_6 : decode cX9_seed 6 = .ok (.aload_n 0, 1) := by decide +kernel
theorem dX9_seed_7 : decode cX9_seed 7 = .ok (.getfield 7, 3) := by decide +kernel
theorem dX9_seed_10 : decode cX9_seed 10 = .ok (.iconst 3, 1) := by decide +kernel
theorem dX9_seed_11 : decode cX9_seed 11 = .ok (.iaload, 1) := by decide +kernel
theorem dX9_seed_12 : decode cX9_seed 12 = .ok (.istore_n 2, 1) := by decide +kernel
theorem dX9_seed_13 : decode cX9_seed 13 = .ok (.aload_n 0, 1) := by decide +kernel
theorem dX9_seed_14 : decode cX9_seed 14 = .ok (.getfield 7, 3) := by decide +kernel
theorem dX9_seed_17 : decode cX9_seed 17 = .ok (.iconst 3, 1) := by decide +kernel
theorem dX9_seed_18 : decode cX9_seed 18 = .ok (.iload_n 1, 1) := by decide +kernel
theorem dX9_seed_19 : decode cX9_seed 19 = .ok (.iastore, 1) := by decide +kernel
theorem dX9_seed_20 : decode cX9_seed 20 = .ok (.iload_n 2, 1) := by decide +kernel
theorem dX9_seed_21 : decode cX9_seed 21 = .ok (.ireturn, 1) := by decide +kernel
theorem dX9_best_0 : decode cX9_best 0 = .ok (.iload_n 1, 1) := by decide +kernel
theorem dX9_best_1 : decode cX9_best 1 = .ok (.bipush (-2), 2) := by decide +kernel
theorem dX9_best_3 : decode cX9_best 3 = .ok (.if_icmp .ge 5, 3) := by decide +kernel
theorem dX9_best_6 : decode cX9_best 6 = .ok (.iconst (-1), 1) := by decide +kernel
theorem dX9_best_7 : decode cX9_best 7 = .ok (.ireturn, 1) := by decide +kernel
theorem dX9_best_8 : decode cX9_best 8 = .ok (.aload_n 0, 1) := by decide +kernel
theorem dX9_best_9 : decode cX9_best 9 = .ok (.invokevirtual 154, 3) := by decide +kernel
theorem dX9_best_12 : decode cX9_best 12 = .ok (.aload_n 0, 1) := by decide +kernel
theorem dX9_best_13 : decode cX9_best 13 = .ok (.getfield 135, 3) := by decide +kernel
theorem dX9_best_16 : decode cX9_best 16 = .ok (.bipush (-4), 2) := by decide +kernel
theorem dX9_best_18 : decode cX9_best 18 = .ok (.if_icmp .ne 6, 3) := by decide +kernel
theorem dX9_best_21 : decode cX9_best 21 = .ok (.bipush (-4), 2) := by decide +kernel
theorem dX9_best_23 : decode cX9_best 23 = .ok (.ireturn, 1) := by decide +kernel
theorem dX9_best_24 : decode cX9_best 24 = .ok (.iload_n 1, 1) := by decide +kernel
theorem dX9_best_25 : decode cX9_best 25 = .ok (.iconst (-1), 1) := by decide +kernel
theorem dX9_best_26 : decode cX9_best 26 = .ok (.if_icmp .ne 10, 3) := by decide +kernel
theorem dX9_best_29 : decode cX9_best 29 = .ok (.aload_n 0, 1) := by decide +kernel
theorem dX9_best_30 : decode cX9_best 30 = .ok (.getfield 138, 3) := by decide +kernel
theorem dX9_best_33 : decode cX9_best 33 = .ok (.goto 35, 3) := by decide +kernel
theorem dX9_best_36 : decode cX9_best 36 = .ok (.iload_n 1, 1) := by decide +kernel
theorem dX9_best_37 : decode cX9_best 37 = .ok (.bipush (-2), 2) := by decide +kernel
theorem dX9_best_39 : decode cX9_best 39 = .ok (.if_icmp .ne 10, 3) := by decide +kernel
theorem dX9_best_42 : decode cX9_best 42 = .ok (.aload_n 0, 1) := by decide +kernel
theorem dX9_best_43 : decode cX9_best 43 = .ok (.getfield 151, 3) := by decide +kernel
theorem dX9_best_46 : decode cX9_best 46 = .ok (.goto 22, 3) := by decide +kernel
theorem dX9_best_49 : decode cX9_best 49 = .ok (.iload_n 1, 1) := by decide +kernel
theorem dX9_best_50 : decode cX9_best 50 = .ok (.aload_n 0, 1) := by decide +kernel
theorem dX9_best_51 : decode cX9_best 51 = .ok (.getfield 151, 3) := by decide +kernel
theorem dX9_best_54 : decode cX9_best 54 = .ok (.if_icmp .ge 12, 3) := by decide +kernel
theorem dX9_best_57 : decode cX9_best 57 = .ok (.aload_n 0, 1) := by decide +kernel
theorem dX9_best_58 : decode cX9_best 58 = .ok (.getfield 22, 3) := by decide +kernel
theorem dX9_best_61 : decode cX9_best 61 = .ok (.iload_n 1, 1) := by decide +kernel
theorem dX9_best_62 : decode cX9_best 62 = .ok (.iaload, 1) := by decide +kernel
theorem dX9_best_63 : decode cX9_best 63 = .ok (.goto 5, 3) := by decide +kernel
theorem dX9_best_66 : decode cX9_best 66 = .ok (.bipush (-4), 2) := by decide +kernel
theorem dX9_best_68 : decode cX9_best 68 = .ok (.ireturn, 1) := by decide +kernel
theorem dX9_taken_0 : decode cX9_taken 0 = .ok (.aload_n 0, 1) := by decide +kernel
theorem dX9_taken_1 : decode cX9_taken 1 = .ok (.iload_n 1, 1) := by decide +kernel
theorem dX9_taken_2 : decode cX9_taken 2 = .ok (.invokevirtual 183, 3) := by decide +kernel
theorem dX9_taken_5 : decode cX9_taken 5 = .ok (.ifCond .ne 5, 3) := by decide +kernel
theorem dX9_taken_8 : decode cX9_taken 8 = .ok (.iconst (-1), 1) := by decide +kernel
theorem dX9_taken_9 : decode cX9_taken 9 = .ok (.ireturn, 1) := by decide +kernel
theorem dX9_taken_10 : decode cX9_taken 10 = .ok (.aload_n 0, 1) := by decide +kernel
theorem dX9_taken_11 : decode cX9_taken 11 = .ok (.invokevirtual 154, 3) := by decide +kernel
theorem dX9_taken_14 : decode cX9_taken 14 = .ok (.aload_n 0, 1) := by decide +kernel
theorem dX9_taken_15 : decode cX9_taken 15 = .ok (.getfield 135, 3) := by decide +kernel
theorem dX9_taken_18 : decode cX9_taken 18 = .ok (.bipush (-4), 2) := by decide +kernel
theorem dX9_taken_20 : decode cX9_taken 20 = .ok (.if_icmp .eq 36, 3) := by decide +kernel
theorem dX9_taken_23 : decode cX9_taken 23 = .ok (.aload_n 0, 1) := by decide +kernel
theorem dX9_taken_24 : decode cX9_taken 24 = .ok (.aload_n 0, 1) := by decide +kernel
theorem dX9_taken_25 : decode cX9_taken 25 = .ok (.getfield 135, 3) := by decide +kernel
theorem dX9_taken_28 : decode cX9_taken 28 = .ok (.invokevirtual 144, 3) := by decide +kernel
theorem dX9_taken_31 : decode cX9_taken 31 = .ok (.ifCond .eq 25, 3) := by decide +kernel
theorem dX9_taken_34 : decode cX9_taken 34 = .ok (.aload_n 0, 1) := by decide +kernel
theorem dX9_taken_35 : decode cX9_taken 35 = .ok (.getfield 7, 3) := by decide +kernel
theorem dX9_taken_38 : decode cX9_taken 38 = .ok (.aload_n 0, 1) := by decide +kernel
theorem dX9_taken_39 : decode cX9_taken 39 = .ok (.iload_n 1, 1) := by decide +kernel
theorem dX9_taken_40 : decode cX9_taken 40 = .ok (.invokevirtual 79, 3) := by decide +kernel
theorem dX9_taken_43 : decode cX9_taken 43 = .ok (.iconst 1, 1) := by decide +kernel
theorem dX9_taken_44 : decode cX9_taken 44 = .ok (.iadd, 1) := by decide +kernel
theorem dX9_taken_45 : decode cX9_taken 45 = .ok (.aload_n 0, 1) := by decide +kernel
theorem dX9_taken_46 : decode cX9_taken 46 = .ok (.getfield 13, 3) := by decide +kernel
theorem dX9_taken_49 : decode cX9_taken 49 = .ok (.iload_n 1, 1) := by decide +kernel
theorem dX9_taken_50 : decode cX9_taken 50 = .ok (.iaload, 1) := by decide +kernel
theorem dX9_taken_51 : decode cX9_taken 51 = .ok (.iadd, 1) := by decide +kernel
theorem dX9_taken_52 : decode cX9_taken 52 = .ok (.iaload, 1) := by decide +kernel
theorem dX9_taken_53 : decode cX9_taken 53 = .ok (.goto 5, 3) := by decide +kernel
theorem dX9_taken_56 : decode cX9_taken 56 = .ok (.bipush (-4), 2) := by decide +kernel
theorem dX9_taken_58 : decode cX9_taken 58 = .ok (.ireturn, 1) := by decide +kernel
theorem dX9_open_0 : decode cX9_open 0 = .ok (.aload_n 0, 1) := by decide +kernel
theorem dX9_open_1 : decode cX9_open 1 = .ok (.iload_n 1, 1) := by decide +kernel
theorem dX9_open_2 : decode cX9_open 2 = .ok (.invokevirtual 183, 3) := by decide +kernel
theorem dX9_open_5 : decode cX9_open 5 = .ok (.ifCond .ne 7, 3) := by decide +kernel
theorem dX9_open_8 : decode cX9_open 8 = .ok (.ldc2_w 273, 3) := by decide +kernel
theorem dX9_open_11 : decode cX9_open 11 = .ok (.lreturn, 1) := by decide +kernel
theorem dX9_open_12 : decode cX9_open 12 = .ok (.aload_n 0, 1) := by decide +kernel
theorem dX9_open_13 : decode cX9_open 13 = .ok (.invokevirtual 169, 3) := by decide +kernel
theorem dX9_open_16 : decode cX9_open 16 = .ok (.lconst 0, 1) := by decide +kernel
theorem dX9_open_17 : decode cX9_open 17 = .ok (.lstore_n 2, 1) := by decide +kernel
theorem dX9_open_18 : decode cX9_open 18 = .ok (.iconst 0, 1) := by decide +kernel
theorem dX9_open_19 : decode cX9_open 19 = .ok (.istore 4, 2) := by decide +kernel
theorem dX9_open_21 : decode cX9_open 21 = .ok (.iload 4, 2) := by decide +kernel
theorem dX9_open_23 : decode cX9_open 23 = .ok (.bipush 32, 2) := by decide +kernel
theorem dX9_open_25 : decode cX9_open 25 = .ok (.if_icmp .ge 35, 3) := by decide +kernel
theorem dX9_open_28 : decode cX9_open 28 = .ok (.lload_n 2, 1) := by decide +kernel
theorem dX9_open_29 : decode cX9_open 29 = .ok (.aload_n 0, 1) := by decide +kernel
theorem dX9_open_30 : decode cX9_open 30 = .ok (.getfield 25, 3) := by decide +kernel
theorem dX9_open_33 : decode cX9_open 33 = .ok (.bipush 32, 2) := by decide +kernel
theorem dX9_open_35 : decode cX9_open 35 = .ok (.iload_n 1, 1) := by decide +kernel
theorem dX9_open_36 : decode cX9_open 36 = .ok (.imul, 1) := by decide +kernel
theorem dX9_open_37 : decode cX9_open 37 = .ok (.iload 4, 2) := by decide +kernel
theorem dX9_open_39 : decode cX9_open 39 = .ok (.iadd, 1) := by decide +kernel
theorem dX9_open_40 : decode cX9_open 40 = .ok (.iaload, 1) := by decide +kernel
theorem dX9_open_41 : decode cX9_open 41 = .ok (.ifCond .le 10, 3) := by decide +kernel
theorem dX9_open_44 : decode cX9_open 44 = .ok (.lconst 1, 1) := by decide +kernel
theorem dX9_open_45 : decode cX9_open 45 = .ok (.iload 4, 2) := by decide +kernel
theorem dX9_open_47 : decode cX9_open 47 = .ok (.lshl, 1) := by decide +kernel
theorem dX9_open_48 : decode cX9_open 48 = .ok (.goto 4, 3) := by decide +kernel
theorem dX9_open_51 : decode cX9_open 51 = .ok (.lconst 0, 1) := by decide +kernel
theorem dX9_open_52 : decode cX9_open 52 = .ok (.lor, 1) := by decide +kernel
theorem dX9_open_53 : decode cX9_open 53 = .ok (.lstore_n 2, 1) := by decide +kernel
theorem dX9_open_54 : decode cX9_open 54 = .ok (.iinc 4 1, 3) := by decide +kernel
theorem dX9_open_57 : decode cX9_open 57 = .ok (.goto (-36), 3) := by decide +kernel
theorem dX9_open_60 : decode cX9_open 60 = .ok (.lload_n 2, 1) := by decide +kernel
theorem dX9_open_61 : decode cX9_open 61 = .ok (.lreturn, 1) := by decide +kernel
theorem dX9_counted_0 : decode cX9_counted 0 = .ok (.iload_n 1, 1) := by decide +kernel
theorem dX9_counted_1 : decode cX9_counted 1 = .ok (.ifCond .lt 13, 3) := by decide +kernel
theorem dX9_counted_4 : decode cX9_counted 4 = .ok (.iload_n 2, 1) := by decide +kernel
theorem dX9_counted_5 : decode cX9_counted 5 = .ok (.i2l, 1) := by decide +kernel
theorem dX9_counted_6 : decode cX9_counted 6 = .ok (.lconst 0, 1) := by decide +kernel
theorem dX9_counted_7 : decode cX9_counted 7 = .ok (.lconst 1, 1) := by decide +kernel
theorem dX9_counted_8 : decode cX9_counted 8 = .ok (.invokestatic 75, 3) := by decide +kernel
theorem dX9_counted_11 : decode cX9_counted 11 = .ok (.ifCond .ne 5, 3) := by decide +kernel
theorem dX9_counted_14 : decode cX9_counted 14 = .ok (.iconst (-1), 1) := by decide +kernel
theorem dX9_counted_15 : decode cX9_counted 15 = .ok (.ireturn, 1) := by decide +kernel
theorem dX9_counted_16 : decode cX9_counted 16 = .ok (.aload_n 0, 1) := by decide +kernel
theorem dX9_counted_17 : decode cX9_counted 17 = .ok (.invokevirtual 154, 3) := by decide +kernel
theorem dX9_counted_20 : decode cX9_counted 20 = .ok (.aload_n 0, 1) := by decide +kernel
theorem dX9_counted_21 : decode cX9_counted 21 = .ok (.getfield 135, 3) := by decide +kernel
theorem dX9_counted_24 : decode cX9_counted 24 = .ok (.bipush (-4), 2) := by decide +kernel
theorem dX9_counted_26 : decode cX9_counted 26 = .ok (.if_icmp .ne 7, 3) := by decide +kernel
theorem dX9_counted_29 : decode cX9_counted 29 = .ok (.iconst 0, 1) := by decide +kernel
theorem dX9_counted_30 : decode cX9_counted 30 = .ok (.goto 7, 3) := by decide +kernel
theorem dX9_counted_33 : decode cX9_counted 33 = .ok (.aload_n 0, 1) := by decide +kernel
theorem dX9_counted_34 : decode cX9_counted 34 = .ok (.invokevirtual 141, 3) := by decide +kernel
theorem dX9_counted_37 : decode cX9_counted 37 = .ok (.istore_n 3, 1) := by decide +kernel
theorem dX9_counted_38 : decode cX9_counted 38 = .ok (.iconst 0, 1) := by decide +kernel
theorem dX9_counted_39 : decode cX9_counted 39 = .ok (.istore 4, 2) := by decide +kernel
theorem dX9_counted_41 : decode cX9_counted 41 = .ok (.iconst 0, 1) := by decide +kernel
theorem dX9_counted_42 : decode cX9_counted 42 = .ok (.istore 5, 2) := by decide +kernel
theorem dX9_counted_44 : decode cX9_counted 44 = .ok (.iload 5, 2) := by decide +kernel
theorem dX9_counted_46 : decode cX9_counted 46 = .ok (.iload_n 3, 1) := by decide +kernel
theorem dX9_counted_47 : decode cX9_counted 47 = .ok (.if_icmp .ge 50, 3) := by decide +kernel
theorem dX9_counted_50 : decode cX9_counted 50 = .ok (.aload_n 0, 1) := by decide +kernel
theorem dX9_counted_51 : decode cX9_counted 51 = .ok (.iload 5, 2) := by decide +kernel
theorem dX9_counted_53 : decode cX9_counted 53 = .ok (.invokevirtual 275, 3) := by decide +kernel
theorem dX9_counted_56 : decode cX9_counted 56 = .ok (.ifCond .eq 35, 3) := by decide +kernel
theorem dX9_counted_59 : decode cX9_counted 59 = .ok (.iload 4, 2) := by decide +kernel
theorem dX9_counted_61 : decode cX9_counted 61 = .ok (.iload_n 1, 1) := by decide +kernel
theorem dX9_counted_62 : decode cX9_counted 62 = .ok (.if_icmp .ne 26, 3) := by decide +kernel
theorem dX9_counted_65 : decode cX9_counted 65 = .ok (.iload_n 2, 1) := by decide +kernel
theorem dX9_counted_66 : decode cX9_counted 66 = .ok (.ifCond .ne 10, 3) := by decide +kernel
theorem dX9_counted_69 : decode cX9_counted 69 = .ok (.aload_n 0, 1) := by decide +kernel
theorem dX9_counted_70 : decode cX9_counted 70 = .ok (.getfield 123, 3) := by decide +kernel
theorem dX9_counted_73 : decode cX9_counted 73 = .ok (.goto 14, 3) := by decide +kernel
theorem dX9_counted_76 : decode cX9_counted 76 = .ok (.aload_n 0, 1) := by decide +kernel
theorem dX9_counted_77 : decode cX9_counted 77 = .ok (.getfield 19, 3) := by decide +kernel
theorem dX9_counted_80 : decode cX9_counted 80 = .ok (.aload_n 0, 1) := by decide +kernel
theorem dX9_counted_81 : decode cX9_counted 81 = .ok (.getfield 113, 3) := by decide +kernel
theorem dX9_counted_84 : decode cX9_counted 84 = .ok (.iconst 1, 1) := by decide +kernel
theorem dX9_counted_85 : decode cX9_counted 85 = .ok (.isub, 1) := by decide +kernel
theorem dX9_counted_86 : decode cX9_counted 86 = .ok (.iaload, 1) := by decide +kernel
theorem dX9_counted_87 : decode cX9_counted 87 = .ok (.ireturn, 1) := by decide +kernel
theorem dX9_counted_88 : decode cX9_counted 88 = .ok (.iinc 4 1, 3) := by decide +kernel
theorem dX9_counted_91 : decode cX9_counted 91 = .ok (.iinc 5 1, 3) := by decide +kernel
theorem dX9_counted_94 : decode cX9_counted 94 = .ok (.goto (-50), 3) := by decide +kernel
theorem dX9_counted_97 : decode cX9_counted 97 = .ok (.bipush (-4), 2) := by decide +kernel
theorem dX9_counted_99 : decode cX9_counted 99 = .ok (.ireturn, 1) := by decide +kernel
theorem dX9_likely_0 : decode cX9_likely 0 = .ok (.iload_n 1, 1) := by decide +kernel
theorem dX9_likely_1 : decode cX9_likely 1 = .ok (.i2l, 1) := by decide +kernel
theorem dX9_likely_2 : decode cX9_likely 2 = .ok (.lconst 0, 1) := by decide +kernel
theorem dX9_likely_3 : decode cX9_likely 3 = .ok (.ldc2_w 237, 3) := by decide +kernel
theorem dX9_likely_6 : decode cX9_likely 6 = .ok (.invokestatic 75, 3) := by decide +kernel
theorem dX9_likely_9 : decode cX9_likely 9 = .ok (.ifCond .eq 13, 3) := by decide +kernel
theorem dX9_likely_12 : decode cX9_likely 12 = .ok (.iload_n 2, 1) := by decide +kernel
theorem dX9_likely_13 : decode cX9_likely 13 = .ok (.i2l, 1) := by decide +kernel
theorem dX9_likely_14 : decode cX9_likely 14 = .ok (.lconst 0, 1) := by decide +kernel
theorem dX9_likely_15 : decode cX9_likely 15 = .ok (.lconst 1, 1) := by decide +kernel
theorem dX9_likely_16 : decode cX9_likely 16 = .ok (.invokestatic 75, 3) := by decide +kernel
theorem dX9_likely_19 : decode cX9_likely 19 = .ok (.ifCond .ne 7, 3) := by decide +kernel
theorem dX9_likely_22 : decode cX9_likely 22 = .ok (.ldc2_w 273, 3) := by decide +kernel
theorem dX9_likely_25 : decode cX9_likely 25 = .ok (.lreturn, 1) := by decide +kernel
theorem dX9_likely_26 : decode cX9_likely 26 = .ok (.lconst 0, 1) := by decide +kernel
theorem dX9_likely_27 : decode cX9_likely 27 = .ok (.lstore_n 3, 1) := by decide +kernel
theorem dX9_likely_28 : decode cX9_likely 28 = .ok (.lconst 0, 1) := by decide +kernel
theorem dX9_likely_29 : decode cX9_likely 29 = .ok (.lstore 5, 2) := by decide +kernel
theorem dX9_likely_31 : decode cX9_likely 31 = .ok (.aload_n 0, 1) := by decide +kernel
theorem dX9_likely_32 : decode cX9_likely 32 = .ok (.invokevirtual 141, 3) := by decide +kernel
theorem dX9_likely_35 : decode cX9_likely 35 = .ok (.istore 7, 2) := by decide +kernel
theorem dX9_likely_37 : decode cX9_likely 37 = .ok (.iconst 0, 1) := by decide +kernel
theorem dX9_likely_38 : decode cX9_likely 38 = .ok (.istore 8, 2) := by decide +kernel
theorem dX9_likely_40 : decode cX9_likely 40 = .ok (.iload 8, 2) := by decide +kernel
theorem dX9_likely_42 : decode cX9_likely 42 = .ok (.iload 7, 2) := by decide +kernel
theorem dX9_likely_44 : decode cX9_likely 44 = .ok (.if_icmp .ge 109, 3) := by decide +kernel
theorem dX9_likely_47 : decode cX9_likely 47 = .ok (.aload_n 0, 1) := by decide +kernel
theorem dX9_likely_48 : decode cX9_likely 48 = .ok (.iload 8, 2) := by decide +kernel
theorem dX9_likely_50 : decode cX9_likely 50 = .ok (.invokevirtual 144, 3) := by decide +kernel
theorem dX9_likely_53 : decode cX9_likely 53 = .ok (.ifCond .eq 94, 3) := by decide +kernel
theorem dX9_likely_56 : decode cX9_likely 56 = .ok (.aload_n 0, 1) := by decide +kernel
theorem dX9_likely_57 : decode cX9_likely 57 = .ok (.invokevirtual 148, 3) := by decide +kernel
theorem dX9_likely_60 : decode cX9_likely 60 = .ok (.ifCond .eq 87, 3) := by decide +kernel
theorem dX9_likely_63 : decode cX9_likely 63 = .ok (.lconst 1, 1) := by decide +kernel
theorem dX9_likely_64 : decode cX9_likely 64 = .ok (.lstore 9, 2) := by decide +kernel
theorem dX9_likely_66 : decode cX9_likely 66 = .ok (.iconst 0, 1) := by decide +kernel
theorem dX9_likely_67 : decode cX9_likely 67 = .ok (.istore 11, 2) := by decide +kernel
theorem dX9_likely_69 : decode cX9_likely 69 = .ok (.iload 11, 2) := by decide +kernel
theorem dX9_likely_71 : decode cX9_likely 71 = .ok (.aload_n 0, 1) := by decide +kernel
theorem dX9_likely_72 : decode cX9_likely 72 = .ok (.getfield 7, 3) := by decide +kernel
theorem dX9_likely_75 : decode cX9_likely 75 = .ok (.iconst 0, 1) := by decide +kernel
theorem dX9_likely_76 : decode cX9_likely 76 = .ok (.iaload, 1) := by decide +kernel
theorem dX9_likely_77 : decode cX9_likely 77 = .ok (.if_icmp .ge 39, 3) := by decide +kernel
theorem dX9_likely_80 : decode cX9_likely 80 = .ok (.lload 9, 2) := by decide +kernel
theorem dX9_likely_82 : decode cX9_likely 82 = .ok (.bipush 10, 2) := by decide +kernel
theorem dX9_likely_84 : decode cX9_likely 84 = .ok (.aload_n 0, 1) := by decide +kernel
theorem dX9_likely_85 : decode cX9_likely 85 = .ok (.getfield 7, 3) := by decide +kernel
theorem dX9_likely_88 : decode cX9_likely 88 = .ok (.aload_n 0, 1) := by decide +kernel
theorem dX9_likely_89 : decode cX9_likely 89 = .ok (.iload 11, 2) := by decide +kernel
theorem dX9_likely_91 : decode cX9_likely 91 = .ok (.invokevirtual 79, 3) := by decide +kernel
theorem dX9_likely_94 : decode cX9_likely 94 = .ok (.iconst 5, 1) := by decide +kernel
theorem dX9_likely_95 : decode cX9_likely 95 = .ok (.iadd, 1) := by decide +kernel
theorem dX9_likely_96 : decode cX9_likely 96 = .ok (.aload_n 0, 1) := by decide +kernel
theorem dX9_likely_97 : decode cX9_likely 97 = .ok (.getfield 13, 3) := by decide +kernel
theorem dX9_likely_100 : decode cX9_likely 100 = .ok (.iload 11, 2) := by decide +kernel
theorem dX9_likely_102 : decode cX9_likely 102 = .ok (.iaload, 1) := by decide +kernel
theorem dX9_likely_103 : decode cX9_likely 103 = .ok (.iadd, 1) := by decide +kernel
theorem dX9_likely_104 : decode cX9_likely 104 = .ok (.iaload, 1) := by decide +kernel
theorem dX9_likely_105 : decode cX9_likely 105 = .ok (.isub, 1) := by decide +kernel
theorem dX9_likely_106 : decode cX9_likely 106 = .ok (.i2l, 1) := by decide +kernel
theorem dX9_likely_107 : decode cX9_likely 107 = .ok (.lmul, 1) := by decide +kernel
theorem dX9_likely_108 : decode cX9_likely 108 = .ok (.lstore 9, 2) := by decide +kernel
theorem dX9_likely_110 : decode cX9_likely 110 = .ok (.iinc 11 1, 3) := by decide +kernel
theorem dX9_likely_113 : decode cX9_likely 113 = .ok (.goto (-44), 3) := by decide +kernel
theorem dX9_likely_116 : decode cX9_likely 116 = .ok (.lload 5, 2) := by decide +kernel
theorem dX9_likely_118 : decode cX9_likely 118 = .ok (.lload 9, 2) := by decide +kernel
theorem dX9_likely_120 : decode cX9_likely 120 = .ok (.ladd, 1) := by decide +kernel
theorem dX9_likely_121 : decode cX9_likely 121 = .ok (.lstore 5, 2) := by decide +kernel
theorem dX9_likely_123 : decode cX9_likely 123 = .ok (.lload_n 3, 1) := by decide +kernel
theorem dX9_likely_124 : decode cX9_likely 124 = .ok (.aload_n 0, 1) := by decide +kernel
theorem dX9_likely_125 : decode cX9_likely 125 = .ok (.getfield 19, 3) := by decide +kernel
theorem dX9_likely_128 : decode cX9_likely 128 = .ok (.aload_n 0, 1) := by decide +kernel
theorem dX9_likely_129 : decode cX9_likely 129 = .ok (.getfield 113, 3) := by decide +kernel
theorem dX9_likely_132 : decode cX9_likely 132 = .ok (.iconst 1, 1) := by decide +kernel
theorem dX9_likely_133 : decode cX9_likely 133 = .ok (.isub, 1) := by decide +kernel
theorem dX9_likely_134 : decode cX9_likely 134 = .ok (.iaload, 1) := by decide +kernel
theorem dX9_likely_135 : decode cX9_likely 135 = .ok (.iload_n 1, 1) := by decide +kernel
theorem dX9_likely_136 : decode cX9_likely 136 = .ok (.if_icmp .ne 8, 3) := by decide +kernel
theorem dX9_likely_139 : decode cX9_likely 139 = .ok (.lload 9, 2) := by decide +kernel
theorem dX9_likely_141 : decode cX9_likely 141 = .ok (.goto 4, 3) := by decide +kernel
theorem dX9_likely_144 : decode cX9_likely 144 = .ok (.lconst 0, 1) := by decide +kernel
theorem dX9_likely_145 : decode cX9_likely 145 = .ok (.ladd, 1) := by decide +kernel
theorem dX9_likely_146 : decode cX9_likely 146 = .ok (.lstore_n 3, 1) := by decide +kernel
theorem dX9_likely_147 : decode cX9_likely 147 = .ok (.iinc 8 1, 3) := by decide +kernel
theorem dX9_likely_150 : decode cX9_likely 150 = .ok (.goto (-110), 3) := by decide +kernel
theorem dX9_likely_153 : decode cX9_likely 153 = .ok (.lload 5, 2) := by decide +kernel
theorem dX9_likely_155 : decode cX9_likely 155 = .ok (.lconst 0, 1) := by decide +kernel
theorem dX9_likely_156 : decode cX9_likely 156 = .ok (.lcmp, 1) := by decide +kernel
theorem dX9_likely_157 : decode cX9_likely 157 = .ok (.ifCond .ne 7, 3) := by decide +kernel
theorem dX9_likely_160 : decode cX9_likely 160 = .ok (.ldc2_w 278, 3) := by decide +kernel
theorem dX9_likely_163 : decode cX9_likely 163 = .ok (.lreturn, 1) := by decide +kernel
theorem dX9_likely_164 : decode cX9_likely 164 = .ok (.lload_n 3, 1) := by decide +kernel
theorem dX9_likely_165 : decode cX9_likely 165 = .ok (.lstore 8, 2) := by decide +kernel
theorem dX9_likely_167 : decode cX9_likely 167 = .ok (.lload 5, 2) := by decide +kernel
theorem dX9_likely_169 : decode cX9_likely 169 = .ok (.lstore 10, 2) := by decide +kernel
theorem dX9_likely_171 : decode cX9_likely 171 = .ok (.lload 10, 2) := by decide +kernel
theorem dX9_likely_173 : decode cX9_likely 173 = .ok (.lconst 0, 1) := by decide +kernel
theorem dX9_likely_174 : decode cX9_likely 174 = .ok (.lcmp, 1) := by decide +kernel
theorem dX9_likely_175 : decode cX9_likely 175 = .ok (.ifCond .eq 21, 3) := by decide +kernel
theorem dX9_likely_178 : decode cX9_likely 178 = .ok (.lload 8, 2) := by decide +kernel
theorem dX9_likely_180 : decode cX9_likely 180 = .ok (.lload 10, 2) := by decide +kernel
theorem dX9_likely_182 : decode cX9_likely 182 = .ok (.lrem, 1) := by decide +kernel
theorem dX9_likely_183 : decode cX9_likely 183 = .ok (.lstore 12, 2) := by decide +kernel
theorem dX9_likely_185 : decode cX9_likely 185 = .ok (.lload 10, 2) := by decide +kernel
theorem dX9_likely_187 : decode cX9_likely 187 = .ok (.lstore 8, 2) := by decide +kernel
theorem dX9_likely_189 : decode cX9_likely 189 = .ok (.lload 12, 2) := by decide +kernel
theorem dX9_likely_191 : decode cX9_likely 191 = .ok (.lstore 10, 2) := by decide +kernel
theorem dX9_likely_193 : decode cX9_likely 193 = .ok (.goto (-22), 3) := by decide +kernel
theorem dX9_likely_196 : decode cX9_likely 196 = .ok (.iload_n 2, 1) := by decide +kernel
theorem dX9_likely_197 : decode cX9_likely 197 = .ok (.ifCond .ne 7, 3) := by decide +kernel
theorem dX9_likely_200 : decode cX9_likely 200 = .ok (.lload_n 3, 1) := by decide +kernel
theorem dX9_likely_201 : decode cX9_likely 201 = .ok (.goto 5, 3) := by decide +kernel
theorem dX9_likely_204 : decode cX9_likely 204 = .ok (.lload 5, 2) := by decide +kernel
theorem dX9_likely_206 : decode cX9_likely 206 = .ok (.lload 8, 2) := by decide +kernel
theorem dX9_likely_208 : decode cX9_likely 208 = .ok (.ldiv, 1) := by decide +kernel
theorem dX9_likely_209 : decode cX9_likely 209 = .ok (.lreturn, 1) := by decide +kernel
theorem dX9_image_0 : decode cX9_image 0 = .ok (.iconst 0, 1) := by decide +kernel
theorem dX9_image_1 : decode cX9_image 1 = .ok (.istore_n 1, 1) := by decide +kernel
theorem dX9_image_2 : decode cX9_image 2 = .ok (.iload_n 1, 1) := by decide +kernel
theorem dX9_image_3 : decode cX9_image 3 = .ok (.bipush 76, 2) := by decide +kernel
theorem dX9_image_5 : decode cX9_image 5 = .ok (.if_icmp .ge 21, 3) := by decide +kernel
theorem dX9_image_8 : decode cX9_image 8 = .ok (.aload_n 0, 1) := by decide +kernel
theorem dX9_image_9 : decode cX9_image 9 = .ok (.getfield 53, 3) := by decide +kernel
theorem dX9_image_12 : decode cX9_image 12 = .ok (.iload_n 1, 1) := by decide +kernel
theorem dX9_image_13 : decode cX9_image 13 = .ok (.aload_n 0, 1) := by decide +kernel
theorem dX9_image_14 : decode cX9_image 14 = .ok (.getfield 7, 3) := by decide +kernel
theorem dX9_image_17 : decode cX9_image 17 = .ok (.iload_n 1, 1) := by decide +kernel
theorem dX9_image_18 : decode cX9_image 18 = .ok (.iaload, 1) := by decide +kernel
theorem dX9_image_19 : decode cX9_image 19 = .ok (.iastore, 1) := by decide +kernel
theorem dX9_image_20 : decode cX9_image 20 = .ok (.iinc 1 1, 3) := by decide +kernel
theorem dX9_image_23 : decode cX9_image 23 = .ok (.goto (-21), 3) := by decide +kernel
theorem dX9_image_26 : decode cX9_image 26 = .ok (.iconst 0, 1) := by decide +kernel
theorem dX9_image_27 : decode cX9_image 27 = .ok (.istore_n 1, 1) := by decide +kernel
theorem dX9_image_28 : decode cX9_image 28 = .ok (.iload_n 1, 1) := by decide +kernel
theorem dX9_image_29 : decode cX9_image 29 = .ok (.sipush 608, 3) := by decide +kernel
theorem dX9_image_32 : decode cX9_image 32 = .ok (.if_icmp .ge 21, 3) := by decide +kernel
theorem dX9_image_35 : decode cX9_image 35 = .ok (.aload_n 0, 1) := by decide +kernel
theorem dX9_image_36 : decode cX9_image 36 = .ok (.getfield 56, 3) := by decide +kernel
theorem dX9_image_39 : decode cX9_image 39 = .ok (.iload_n 1, 1) := by decide +kernel
theorem dX9_image_40 : decode cX9_image 40 = .ok (.aload_n 0, 1) := by decide +kernel
theorem dX9_image_41 : decode cX9_image 41 = .ok (.getfield 50, 3) := by decide +kernel
theorem dX9_image_44 : decode cX9_image 44 = .ok (.iload_n 1, 1) := by decide +kernel
theorem dX9_image_45 : decode cX9_image 45 = .ok (.iaload, 1) := by decide +kernel
theorem dX9_image_46 : decode cX9_image 46 = .ok (.iastore, 1) := by decide +kernel
theorem dX9_image_47 : decode cX9_image 47 = .ok (.iinc 1 1, 3) := by decide +kernel
theorem dX9_image_50 : decode cX9_image 50 = .ok (.goto (-22), 3) := by decide +kernel
theorem dX9_image_53 : decode cX9_image 53 = .ok (.aload_n 0, 1) := by decide +kernel
theorem dX9_image_54 : decode cX9_image 54 = .ok (.aload_n 0, 1) := by decide +kernel
theorem dX9_image_55 : decode cX9_image 55 = .ok (.getfield 192, 3) := by decide +kernel
theorem dX9_image_58 : decode cX9_image 58 = .ok (.putfield 59, 3) := by decide +kernel
theorem dX9_image_61 : decode cX9_image 61 = .ok (.iconst 1, 1) := by decide +kernel
theorem dX9_image_62 : decode cX9_image 62 = .ok (.ireturn, 1) := by decide +kernel
theorem dX9_restore_0 : decode cX9_restore 0 = .ok (.aload_n 0, 1) := by decide +kernel
theorem dX9_restore_1 : decode cX9_restore 1 = .ok (.getfield 59, 3) := by decide +kernel
theorem dX9_restore_4 : decode cX9_restore 4 = .ok (.ifCond .ge 6, 3) := by decide +kernel
theorem dX9_restore_7 : decode cX9_restore 7 = .ok (.bipush (-4), 2) := by decide +kernel
theorem dX9_restore_9 : decode cX9_restore 9 = .ok (.ireturn, 1) := by decide +kernel
theorem dX9_restore_10 : decode cX9_restore 10 = .ok (.iconst 0, 1) := by decide +kernel
theorem dX9_restore_11 : decode cX9_restore 11 = .ok (.istore_n 1, 1) := by decide +kernel
theorem dX9_restore_12 : decode cX9_restore 12 = .ok (.iload_n 1, 1) := by decide +kernel
theorem dX9_restore_13 : decode cX9_restore 13 = .ok (.bipush 76, 2) := by decide +kernel
theorem dX9_restore_15 : decode cX9_restore 15 = .ok (.if_icmp .ge 21, 3) := by decide +kernel
theorem dX9_restore_18 : decode cX9_restore 18 = .ok (.aload_n 0, 1) := by decide +kernel
theorem dX9_restore_19 : decode cX9_restore 19 = .ok (.getfield 7, 3) := by decide +kernel
theorem dX9_restore_22 : decode cX9_restore 22 = .ok (.iload_n 1, 1) := by decide +kernel
theorem dX9_restore_23 : decode cX9_restore 23 = .ok (.aload_n 0, 1) := by decide +kernel
theorem dX9_restore_24 : decode cX9_restore 24 = .ok (.getfield 53, 3) := by decide +kernel
theorem dX9_restore_27 : decode cX9_restore 27 = .ok (.iload_n 1, 1) := by decide +kernel
theorem dX9_restore_28 : decode cX9_restore 28 = .ok (.iaload, 1) := by decide +kernel
theorem dX9_restore_29 : decode cX9_restore 29 = .ok (.iastore, 1) := by decide +kernel
theorem dX9_restore_30 : decode cX9_restore 30 = .ok (.iinc 1 1, 3) := by decide +kernel
theorem dX9_restore_33 : decode cX9_restore 33 = .ok (.goto (-21), 3) := by decide +kernel
theorem dX9_restore_36 : decode cX9_restore 36 = .ok (.iconst 0, 1) := by decide +kernel
theorem dX9_restore_37 : decode cX9_restore 37 = .ok (.istore_n 1, 1) := by decide +kernel
theorem dX9_restore_38 : decode cX9_restore 38 = .ok (.iload_n 1, 1) := by decide +kernel
theorem dX9_restore_39 : decode cX9_restore 39 = .ok (.sipush 608, 3) := by decide +kernel
theorem dX9_restore_42 : decode cX9_restore 42 = .ok (.if_icmp .ge 21, 3) := by decide +kernel
theorem dX9_restore_45 : decode cX9_restore 45 = .ok (.aload_n 0, 1) := by decide +kernel
theorem dX9_restore_46 : decode cX9_restore 46 = .ok (.getfield 50, 3) := by decide +kernel
theorem dX9_restore_49 : decode cX9_restore 49 = .ok (.iload_n 1, 1) := by decide +kernel
theorem dX9_restore_50 : decode cX9_restore 50 = .ok (.aload_n 0, 1) := by decide +kernel
theorem dX9_restore_51 : decode cX9_restore 51 = .ok (.getfield 56, 3) := by decide +kernel
theorem dX9_restore_54 : decode cX9_restore 54 = .ok (.iload_n 1, 1) := by decide +kernel
theorem dX9_restore_55 : decode cX9_restore 55 = .ok (.iaload, 1) := by decide +kernel
theorem dX9_restore_56 : decode cX9_restore 56 = .ok (.iastore, 1) := by decide +kernel
theorem dX9_restore_57 : decode cX9_restore 57 = .ok (.iinc 1 1, 3) := by decide +kernel
theorem dX9_restore_60 : decode cX9_restore 60 = .ok (.goto (-22), 3) := by decide +kernel
theorem dX9_restore_63 : decode cX9_restore 63 = .ok (.aload_n 0, 1) := by decide +kernel
theorem dX9_restore_64 : decode cX9_restore 64 = .ok (.aload_n 0, 1) := by decide +kernel
theorem dX9_restore_65 : decode cX9_restore 65 = .ok (.getfield 59, 3) := by decide +kernel
theorem dX9_restore_68 : decode cX9_restore 68 = .ok (.putfield 192, 3) := by decide +kernel
theorem dX9_restore_71 : decode cX9_restore 71 = .ok (.iconst 1, 1) := by decide +kernel
theorem dX9_restore_72 : decode cX9_restore 72 = .ok (.ireturn, 1) := by decide +kernel
theorem dX9_isSheet_0 : decode cX9_isSheet 0 = .ok (.iload_n 0, 1) := by decide +kernel
theorem dX9_isSheet_1 : decode cX9_isSheet 1 = .ok (.i2l, 1) := by decide +kernel
theorem dX9_isSheet_2 : decode cX9_isSheet 2 = .ok (.lconst 0, 1) := by decide +kernel
theorem dX9_isSheet_3 : decode cX9_isSheet 3 = .ok (.ldc2_w 280, 3) := by decide +kernel
theorem dX9_isSheet_6 : decode cX9_isSheet 6 = .ok (.invokestatic 75, 3) := by decide +kernel
theorem dX9_isSheet_9 : decode cX9_isSheet 9 = .ok (.ireturn, 1) := by decide +kernel
theorem dX9_cut_0 : decode cX9_cut 0 = .ok (.iload_n 2, 1) := by decide +kernel
theorem dX9_cut_1 : decode cX9_cut 1 = .ok (.ifCond .ne 10, 3) := by decide +kernel
theorem dX9_cut_4 : decode cX9_cut 4 = .ok (.lload_n 0, 1) := by decide +kernel
theorem dX9_cut_5 : decode cX9_cut 5 = .ok (.l2i, 1) := by decide +kernel
theorem dX9_cut_6 : decode cX9_cut 6 = .ok (.i2b, 1) := by decide +kernel
theorem dX9_cut_7 : decode cX9_cut 7 = .ok (.i2l, 1) := by decide +kernel
theorem dX9_cut_8 : decode cX9_cut 8 = .ok (.goto 27, 3) := by decide +kernel
theorem dX9_cut_11 : decode cX9_cut 11 = .ok (.iload_n 2, 1) := by decide +kernel
theorem dX9_cut_12 : decode cX9_cut 12 = .ok (.iconst 1, 1) := by decide +kernel
theorem dX9_cut_13 : decode cX9_cut 13 = .ok (.if_icmp .ne 10, 3) := by decide +kernel
theorem dX9_cut_16 : decode cX9_cut 16 = .ok (.lload_n 0, 1) := by decide +kernel
theorem dX9_cut_17 : decode cX9_cut 17 = .ok (.l2i, 1) := by decide +kernel
theorem dX9_cut_18 : decode cX9_cut 18 = .ok (.i2s, 1) := by decide +kernel
theorem dX9_cut_19 : decode cX9_cut 19 = .ok (.i2l, 1) := by decide +kernel
theorem dX9_cut_20 : decode cX9_cut 20 = .ok (.goto 15, 3) := by decide +kernel
theorem dX9_cut_23 : decode cX9_cut 23 = .ok (.iload_n 2, 1) := by decide +kernel
theorem dX9_cut_24 : decode cX9_cut 24 = .ok (.iconst 2, 1) := by decide +kernel
theorem dX9_cut_25 : decode cX9_cut 25 = .ok (.if_icmp .ne 9, 3) := by decide +kernel
theorem dX9_cut_28 : decode cX9_cut 28 = .ok (.lload_n 0, 1) := by decide +kernel
theorem dX9_cut_29 : decode cX9_cut 29 = .ok (.l2i, 1) := by decide +kernel
theorem dX9_cut_30 : decode cX9_cut 30 = .ok (.i2l, 1) := by decide +kernel
theorem dX9_cut_31 : decode cX9_cut 31 = .ok (.goto 4, 3) := by decide +kernel
theorem dX9_cut_34 : decode cX9_cut 34 = .ok (.lload_n 0, 1) := by decide +kernel
theorem dX9_cut_35 : decode cX9_cut 35 = .ok (.lreturn, 1) := by decide +kernel
theorem dX9_sheet_0 : decode cX9_sheet 0 = .ok (.iload_n 1, 1) := by decide +kernel
theorem dX9_sheet_1 : decode cX9_sheet 1 = .ok (.invokestatic 282, 3) := by decide +kernel
theorem dX9_sheet_4 : decode cX9_sheet 4 = .ok (.ifCond .eq 21, 3) := by decide +kernel
theorem dX9_sheet_7 : decode cX9_sheet 7 = .ok (.iload_n 2, 1) := by decide +kernel
theorem dX9_sheet_8 : decode cX9_sheet 8 = .ok (.i2l, 1) := by decide +kernel
theorem dX9_sheet_9 : decode cX9_sheet 9 = .ok (.lconst 0, 1) := by decide +kernel
theorem dX9_sheet_10 : decode cX9_sheet 10 = .ok (.ldc2_w 280, 3) := by decide +kernel
theorem dX9_sheet_13 : decode cX9_sheet 13 = .ok (.invokestatic 75, 3) := by decide +kernel
theorem dX9_sheet_16 : decode cX9_sheet 16 = .ok (.ifCond .eq 9, 3) := by decide +kernel
theorem dX9_sheet_19 : decode cX9_sheet 19 = .ok (.iload_n 3, 1) := by decide +kernel
theorem dX9_sheet_20 : decode cX9_sheet 20 = .ok (.bipush 24, 2) := by decide +kernel
theorem dX9_sheet_22 : decode cX9_sheet 22 = .ok (.if_icmp .le 5, 3) := by decide +kernel
theorem dX9_sheet_25 : decode cX9_sheet 25 = .ok (.iconst (-1), 1) := by decide +kernel
theorem dX9_sheet_26 : decode cX9_sheet 26 = .ok (.ireturn, 1) := by decide +kernel
theorem dX9_sheet_27 : decode cX9_sheet 27 = .ok (.iload_n 3, 1) := by decide +kernel
theorem dX9_sheet_28 : decode cX9_sheet 28 = .ok (.ifCond .ge 6, 3) := by decide +kernel
theorem dX9_sheet_31 : decode cX9_sheet 31 = .ok (.bipush (-14), 2) := by decide +kernel
theorem dX9_sheet_33 : decode cX9_sheet 33 = .ok (.ireturn, 1) := by decide +kernel
theorem dX9_sheet_34 : decode cX9_sheet 34 = .ok (.aload_n 0, 1) := by decide +kernel
theorem dX9_sheet_35 : decode cX9_sheet 35 = .ok (.getfield 63, 3) := by decide +kernel
theorem dX9_sheet_38 : decode cX9_sheet 38 = .ok (.iload_n 1, 1) := by decide +kernel
theorem dX9_sheet_39 : decode cX9_sheet 39 = .ok (.iload_n 2, 1) := by decide +kernel
theorem dX9_sheet_40 : decode cX9_sheet 40 = .ok (.iastore, 1) := by decide +kernel
theorem dX9_sheet_41 : decode cX9_sheet 41 = .ok (.aload_n 0, 1) := by decide +kernel
theorem dX9_sheet_42 : decode cX9_sheet 42 = .ok (.getfield 66, 3) := by decide +kernel
theorem dX9_sheet_45 : decode cX9_sheet 45 = .ok (.iload_n 1, 1) := by decide +kernel
theorem dX9_sheet_46 : decode cX9_sheet 46 = .ok (.iload_n 3, 1) := by decide +kernel
theorem dX9_sheet_47 : decode cX9_sheet 47 = .ok (.iastore, 1) := by decide +kernel
theorem dX9_sheet_48 : decode cX9_sheet 48 = .ok (.iconst 0, 1) := by decide +kernel
theorem dX9_sheet_49 : decode cX9_sheet 49 = .ok (.istore 4, 2) := by decide +kernel
theorem dX9_sheet_51 : decode cX9_sheet 51 = .ok (.iload 4, 2) := by decide +kernel
theorem dX9_sheet_53 : decode cX9_sheet 53 = .ok (.bipush 24, 2) := by decide +kernel
theorem dX9_sheet_55 : decode cX9_sheet 55 = .ok (.if_icmp .ge 22, 3) := by decide +kernel
theorem dX9_sheet_58 : decode cX9_sheet 58 = .ok (.aload_n 0, 1) := by decide +kernel
theorem dX9_sheet_59 : decode cX9_sheet 59 = .ok (.getfield 69, 3) := by decide +kernel
theorem dX9_sheet_62 : decode cX9_sheet 62 = .ok (.bipush 24, 2) := by decide +kernel
theorem dX9_sheet_64 : decode cX9_sheet 64 = .ok (.iload_n 1, 1) := by decide +kernel
theorem dX9_sheet_65 : decode cX9_sheet 65 = .ok (.imul, 1) := by decide +kernel
theorem dX9_sheet_66 : decode cX9_sheet 66 = .ok (.iload 4, 2) := by decide +kernel
theorem dX9_sheet_68 : decode cX9_sheet 68 = .ok (.iadd, 1) := by decide +kernel
theorem dX9_sheet_69 : decode cX9_sheet 69 = .ok (.lconst 0, 1) := by decide +kernel
theorem dX9_sheet_70 : decode cX9_sheet 70 = .ok (.lastore, 1) := by decide +kernel
theorem dX9_sheet_71 : decode cX9_sheet 71 = .ok (.iinc 4 1, 3) := by decide +kernel
theorem dX9_sheet_74 : decode cX9_sheet 74 = .ok (.goto (-23), 3) := by decide +kernel
theorem dX9_sheet_77 : decode cX9_sheet 77 = .ok (.iload_n 3, 1) := by decide +kernel
theorem dX9_sheet_78 : decode cX9_sheet 78 = .ok (.ireturn, 1) := by decide +kernel
theorem dX9_drop_0 : decode cX9_drop 0 = .ok (.iload_n 1, 1) := by decide +kernel
theorem dX9_drop_1 : decode cX9_drop 1 = .ok (.invokestatic 282, 3) := by decide +kernel
theorem dX9_drop_4 : decode cX9_drop 4 = .ok (.ifCond .ne 5, 3) := by decide +kernel
theorem dX9_drop_7 : decode cX9_drop 7 = .ok (.iconst (-1), 1) := by decide +kernel
theorem dX9_drop_8 : decode cX9_drop 8 = .ok (.ireturn, 1) := by decide +kernel
theorem dX9_drop_9 : decode cX9_drop 9 = .ok (.aload_n 0, 1) := by decide +kernel
theorem dX9_drop_10 : decode cX9_drop 10 = .ok (.getfield 63, 3) := by decide +kernel
theorem dX9_drop_13 : decode cX9_drop 13 = .ok (.iload_n 1, 1) := by decide +kernel
theorem dX9_drop_14 : decode cX9_drop 14 = .ok (.iaload, 1) := by decide +kernel
theorem dX9_drop_15 : decode cX9_drop 15 = .ok (.ifCond .ge 6, 3) := by decide +kernel
theorem dX9_drop_18 : decode cX9_drop 18 = .ok (.bipush (-11), 2) := by decide +kernel
theorem dX9_drop_20 : decode cX9_drop 20 = .ok (.ireturn, 1) := by decide +kernel
theorem dX9_drop_21 : decode cX9_drop 21 = .ok (.aload_n 0, 1) := by decide +kernel
theorem dX9_drop_22 : decode cX9_drop 22 = .ok (.getfield 63, 3) := by decide +kernel
theorem dX9_drop_25 : decode cX9_drop 25 = .ok (.iload_n 1, 1) := by decide +kernel
theorem dX9_drop_26 : decode cX9_drop 26 = .ok (.iconst (-1), 1) := by decide +kernel
theorem dX9_drop_27 : decode cX9_drop 27 = .ok (.iastore, 1) := by decide +kernel
theorem dX9_drop_28 : decode cX9_drop 28 = .ok (.aload_n 0, 1) := by decide +kernel
theorem dX9_drop_29 : decode cX9_drop 29 = .ok (.getfield 66, 3) := by decide +kernel
theorem dX9_drop_32 : decode cX9_drop 32 = .ok (.iload_n 1, 1) := by decide +kernel
theorem dX9_drop_33 : decode cX9_drop 33 = .ok (.iaload, 1) := by decide +kernel
theorem dX9_drop_34 : decode cX9_drop 34 = .ok (.ireturn, 1) := by decide +kernel
theorem dX9_why_0 : decode cX9_why 0 = .ok (.aload_n 0, 1) := by decide +kernel
theorem dX9_why_1 : decode cX9_why 1 = .ok (.getfield 63, 3) := by decide +kernel
theorem dX9_why_4 : decode cX9_why 4 = .ok (.iload_n 1, 1) := by decide +kernel
theorem dX9_why_5 : decode cX9_why 5 = .ok (.iaload, 1) := by decide +kernel
theorem dX9_why_6 : decode cX9_why 6 = .ok (.ifCond .ge 6, 3) := by decide +kernel
theorem dX9_why_9 : decode cX9_why 9 = .ok (.bipush (-11), 2) := by decide +kernel
theorem dX9_why_11 : decode cX9_why 11 = .ok (.ireturn, 1) := by decide +kernel
theorem dX9_why_12 : decode cX9_why 12 = .ok (.aload_n 0, 1) := by decide +kernel
theorem dX9_why_13 : decode cX9_why 13 = .ok (.getfield 63, 3) := by decide +kernel
theorem dX9_why_16 : decode cX9_why 16 = .ok (.iload_n 1, 1) := by decide +kernel
theorem dX9_why_17 : decode cX9_why 17 = .ok (.iaload, 1) := by decide +kernel
theorem dX9_why_18 : decode cX9_why 18 = .ok (.iload_n 2, 1) := by decide +kernel
theorem dX9_why_19 : decode cX9_why 19 = .ok (.if_icmp .eq 6, 3) := by decide +kernel
theorem dX9_why_22 : decode cX9_why 22 = .ok (.bipush (-12), 2) := by decide +kernel
theorem dX9_why_24 : decode cX9_why 24 = .ok (.ireturn, 1) := by decide +kernel
theorem dX9_why_25 : decode cX9_why 25 = .ok (.iload_n 3, 1) := by decide +kernel
theorem dX9_why_26 : decode cX9_why 26 = .ok (.ifCond .lt 16, 3) := by decide +kernel
theorem dX9_why_29 : decode cX9_why 29 = .ok (.iload 4, 2) := by decide +kernel
theorem dX9_why_31 : decode cX9_why 31 = .ok (.aload_n 0, 1) := by decide +kernel
theorem dX9_why_32 : decode cX9_why 32 = .ok (.getfield 66, 3) := by decide +kernel
theorem dX9_why_35 : decode cX9_why 35 = .ok (.iload_n 1, 1) := by decide +kernel
theorem dX9_why_36 : decode cX9_why 36 = .ok (.iaload, 1) := by decide +kernel
theorem dX9_why_37 : decode cX9_why 37 = .ok (.iload_n 3, 1) := by decide +kernel
theorem dX9_why_38 : decode cX9_why 38 = .ok (.isub, 1) := by decide +kernel
theorem dX9_why_39 : decode cX9_why 39 = .ok (.if_icmp .le 8, 3) := by decide +kernel
theorem dX9_why_42 : decode cX9_why 42 = .ok (.bipush (-13), 2) := by decide +kernel
theorem dX9_why_44 : decode cX9_why 44 = .ok (.goto 4, 3) := by decide +kernel
theorem dX9_why_47 : decode cX9_why 47 = .ok (.iconst 0, 1) := by decide +kernel
theorem dX9_why_48 : decode cX9_why 48 = .ok (.ireturn, 1) := by decide +kernel
theorem dX9_item_0 : decode cX9_item 0 = .ok (.iload_n 1, 1) := by decide +kernel
theorem dX9_item_1 : decode cX9_item 1 = .ok (.invokestatic 282, 3) := by decide +kernel
theorem dX9_item_4 : decode cX9_item 4 = .ok (.ifCond .eq 15, 3) := by decide +kernel
theorem dX9_item_7 : decode cX9_item 7 = .ok (.iload_n 2, 1) := by decide +kernel
theorem dX9_item_8 : decode cX9_item 8 = .ok (.i2l, 1) := by decide +kernel
theorem dX9_item_9 : decode cX9_item 9 = .ok (.lconst 0, 1) := by decide +kernel
theorem dX9_item_10 : decode cX9_item 10 = .ok (.ldc2_w 280, 3) := by decide +kernel
theorem dX9_item_13 : decode cX9_item 13 = .ok (.invokestatic 75, 3) := by decide +kernel
theorem dX9_item_16 : decode cX9_item 16 = .ok (.ifCond .ne 5, 3) := by decide +kernel
theorem dX9_item_19 : decode cX9_item 19 = .ok (.iconst (-1), 1) := by decide +kernel
theorem dX9_item_20 : decode cX9_item 20 = .ok (.ireturn, 1) := by decide +kernel
theorem dX9_item_21 : decode cX9_item 21 = .ok (.aload_n 0, 1) := by decide +kernel
theorem dX9_item_22 : decode cX9_item 22 = .ok (.iload_n 1, 1) := by decide +kernel
theorem dX9_item_23 : decode cX9_item 23 = .ok (.iload_n 2, 1) := by decide +kernel
theorem dX9_item_24 : decode cX9_item 24 = .ok (.iload_n 3, 1) := by decide +kernel
theorem dX9_item_25 : decode cX9_item 25 = .ok (.iconst 1, 1) := by decide +kernel
theorem dX9_item_26 : decode cX9_item 26 = .ok (.invokevirtual 285, 3) := by decide +kernel
theorem dX9_item_29 : decode cX9_item 29 = .ok (.istore 6, 2) := by decide +kernel
theorem dX9_item_31 : decode cX9_item 31 = .ok (.iload 6, 2) := by decide +kernel
theorem dX9_item_33 : decode cX9_item 33 = .ok (.ifCond .ge 6, 3) := by decide +kernel
theorem dX9_item_36 : decode cX9_item 36 = .ok (.iload 6, 2) := by decide +kernel
theorem dX9_item_38 : decode cX9_item 38 = .ok (.ireturn, 1) := by decide +kernel
theorem dX9_item_39 : decode cX9_item 39 = .ok (.aload_n 0, 1) := by decide +kernel
theorem dX9_item_40 : decode cX9_item 40 = .ok (.getfield 69, 3) := by decide +kernel
theorem dX9_item_43 : decode cX9_item 43 = .ok (.bipush 24, 2) := by decide +kernel
theorem dX9_item_45 : decode cX9_item 45 = .ok (.iload_n 1, 1) := by decide +kernel
theorem dX9_item_46 : decode cX9_item 46 = .ok (.imul, 1) := by decide +kernel
theorem dX9_item_47 : decode cX9_item 47 = .ok (.iload_n 3, 1) := by decide +kernel
theorem dX9_item_48 : decode cX9_item 48 = .ok (.iadd, 1) := by decide +kernel
theorem dX9_item_49 : decode cX9_item 49 = .ok (.lload 4, 2) := by decide +kernel
theorem dX9_item_51 : decode cX9_item 51 = .ok (.iload_n 2, 1) := by decide +kernel
theorem dX9_item_52 : decode cX9_item 52 = .ok (.invokestatic 289, 3) := by decide +kernel
theorem dX9_item_55 : decode cX9_item 55 = .ok (.lastore, 1) := by decide +kernel
theorem dX9_item_56 : decode cX9_item 56 = .ok (.iconst 1, 1) := by decide +kernel
theorem dX9_item_57 : decode cX9_item 57 = .ok (.ireturn, 1) := by decide +kernel
theorem dX9_copy_0 : decode cX9_copy 0 = .ok (.iload_n 1, 1) := by decide +kernel
theorem dX9_copy_1 : decode cX9_copy 1 = .ok (.invokestatic 282, 3) := by decide +kernel
theorem dX9_copy_4 : decode cX9_copy 4 = .ok (.ifCond .eq 10, 3) := by decide +kernel
theorem dX9_copy_7 : decode cX9_copy 7 = .ok (.iload_n 3, 1) := by decide +kernel
theorem dX9_copy_8 : decode cX9_copy 8 = .ok (.invokestatic 282, 3) := by decide +kernel
theorem dX9_copy_11 : decode cX9_copy 11 = .ok (.ifCond .ne 5, 3) := by decide +kernel
theorem dX9_copy_14 : decode cX9_copy 14 = .ok (.iconst (-1), 1) := by decide +kernel
theorem dX9_copy_15 : decode cX9_copy 15 = .ok (.ireturn, 1) := by decide +kernel
theorem dX9_copy_16 : decode cX9_copy 16 = .ok (.aload_n 0, 1) := by decide +kernel
theorem dX9_copy_17 : decode cX9_copy 17 = .ok (.getfield 63, 3) := by decide +kernel
theorem dX9_copy_20 : decode cX9_copy 20 = .ok (.iload_n 1, 1) := by decide +kernel
theorem dX9_copy_21 : decode cX9_copy 21 = .ok (.iaload, 1) := by decide +kernel
theorem dX9_copy_22 : decode cX9_copy 22 = .ok (.ifCond .lt 12, 3) := by decide +kernel
theorem dX9_copy_25 : decode cX9_copy 25 = .ok (.aload_n 0, 1) := by decide +kernel
theorem dX9_copy_26 : decode cX9_copy 26 = .ok (.getfield 63, 3) := by decide +kernel
theorem dX9_copy_29 : decode cX9_copy 29 = .ok (.iload_n 3, 1) := by decide +kernel
theorem dX9_copy_30 : decode cX9_copy 30 = .ok (.iaload, 1) := by decide +kernel
theorem dX9_copy_31 : decode cX9_copy 31 = .ok (.ifCond .ge 6, 3) := by decide +kernel
theorem dX9_copy_34 : decode cX9_copy 34 = .ok (.bipush (-11), 2) := by decide +kernel
theorem dX9_copy_36 : decode cX9_copy 36 = .ok (.ireturn, 1) := by decide +kernel
theorem dX9_copy_37 : decode cX9_copy 37 = .ok (.aload_n 0, 1) := by decide +kernel
theorem dX9_copy_38 : decode cX9_copy 38 = .ok (.getfield 63, 3) := by decide +kernel
theorem dX9_copy_41 : decode cX9_copy 41 = .ok (.iload_n 1, 1) := by decide +kernel
theorem dX9_copy_42 : decode cX9_copy 42 = .ok (.iaload, 1) := by decide +kernel
theorem dX9_copy_43 : decode cX9_copy 43 = .ok (.aload_n 0, 1) := by decide +kernel
theorem dX9_copy_44 : decode cX9_copy 44 = .ok (.getfield 63, 3) := by decide +kernel
theorem dX9_copy_47 : decode cX9_copy 47 = .ok (.iload_n 3, 1) := by decide +kernel
theorem dX9_copy_48 : decode cX9_copy 48 = .ok (.iaload, 1) := by decide +kernel
theorem dX9_copy_49 : decode cX9_copy 49 = .ok (.if_icmp .eq 6, 3) := by decide +kernel
theorem dX9_copy_52 : decode cX9_copy 52 = .ok (.bipush (-12), 2) := by decide +kernel
theorem dX9_copy_54 : decode cX9_copy 54 = .ok (.ireturn, 1) := by decide +kernel
theorem dX9_copy_55 : decode cX9_copy 55 = .ok (.iload 5, 2) := by decide +kernel
theorem dX9_copy_57 : decode cX9_copy 57 = .ok (.ifCond .lt 47, 3) := by decide +kernel
theorem dX9_copy_60 : decode cX9_copy 60 = .ok (.iload_n 2, 1) := by decide +kernel
theorem dX9_copy_61 : decode cX9_copy 61 = .ok (.ifCond .lt 43, 3) := by decide +kernel
theorem dX9_copy_64 : decode cX9_copy 64 = .ok (.iload 4, 2) := by decide +kernel
theorem dX9_copy_66 : decode cX9_copy 66 = .ok (.ifCond .lt 38, 3) := by decide +kernel
theorem dX9_copy_69 : decode cX9_copy 69 = .ok (.iload_n 2, 1) := by decide +kernel
theorem dX9_copy_70 : decode cX9_copy 70 = .ok (.i2l, 1) := by decide +kernel
theorem dX9_copy_71 : decode cX9_copy 71 = .ok (.iload 5, 2) := by decide +kernel
theorem dX9_copy_73 : decode cX9_copy 73 = .ok (.i2l, 1) := by decide +kernel
theorem dX9_copy_74 : decode cX9_copy 74 = .ok (.ladd, 1) := by decide +kernel
theorem dX9_copy_75 : decode cX9_copy 75 = .ok (.aload_n 0, 1) := by decide +kernel
theorem dX9_copy_76 : decode cX9_copy 76 = .ok (.getfield 66, 3) := by decide +kernel
theorem dX9_copy_79 : decode cX9_copy 79 = .ok (.iload_n 1, 1) := by decide +kernel
theorem dX9_copy_80 : decode cX9_copy 80 = .ok (.iaload, 1) := by decide +kernel
theorem dX9_copy_81 : decode cX9_copy 81 = .ok (.i2l, 1) := by decide +kernel
theorem dX9_copy_82 : decode cX9_copy 82 = .ok (.lcmp, 1) := by decide +kernel
theorem dX9_copy_83 : decode cX9_copy 83 = .ok (.ifCond .gt 21, 3) := by decide +kernel
theorem dX9_copy_86 : decode cX9_copy 86 = .ok (.iload 4, 2) := by decide +kernel
theorem dX9_copy_88 : decode cX9_copy 88 = .ok (.i2l, 1) := by decide +kernel
theorem dX9_copy_89 : decode cX9_copy 89 = .ok (.iload 5, 2) := by decide +kernel
theorem dX9_copy_91 : decode cX9_copy 91 = .ok (.i2l, 1) := by decide +kernel
theorem dX9_copy_92 : decode cX9_copy 92 = .ok (.ladd, 1) := by decide +kernel
theorem dX9_copy_93 : decode cX9_copy 93 = .ok (.aload_n 0, 1) := by decide +kernel
theorem dX9_copy_94 : decode cX9_copy 94 = .ok (.getfield 66, 3) := by decide +kernel
theorem dX9_copy_97 : decode cX9_copy 97 = .ok (.iload_n 3, 1) := by decide +kernel
theorem dX9_copy_98 : decode cX9_copy 98 = .ok (.iaload, 1) := by decide +kernel
theorem dX9_copy_99 : decode cX9_copy 99 = .ok (.i2l, 1) := by decide +kernel
theorem dX9_copy_100 : decode cX9_copy 100 = .ok (.lcmp, 1) := by decide +kernel
theorem dX9_copy_101 : decode cX9_copy 101 = .ok (.ifCond .le 6, 3) := by decide +kernel
theorem dX9_copy_104 : decode cX9_copy 104 = .ok (.bipush (-13), 2) := by decide +kernel
theorem dX9_copy_106 : decode cX9_copy 106 = .ok (.ireturn, 1) := by decide +kernel
theorem dX9_copy_107 : decode cX9_copy 107 = .ok (.iconst 0, 1) := by decide +kernel
theorem dX9_copy_108 : decode cX9_copy 108 = .ok (.istore 6, 2) := by decide +kernel
theorem dX9_copy_110 : decode cX9_copy 110 = .ok (.iload 6, 2) := by decide +kernel
theorem dX9_copy_112 : decode cX9_copy 112 = .ok (.iload 5, 2) := by decide +kernel
theorem dX9_copy_114 : decode cX9_copy 114 = .ok (.if_icmp .ge 30, 3) := by decide +kernel
theorem dX9_copy_117 : decode cX9_copy 117 = .ok (.aload_n 0, 1) := by decide +kernel
theorem dX9_copy_118 : decode cX9_copy 118 = .ok (.getfield 72, 3) := by decide +kernel
theorem dX9_copy_121 : decode cX9_copy 121 = .ok (.iload 6, 2) := by decide +kernel
theorem dX9_copy_123 : decode cX9_copy 123 = .ok (.aload_n 0, 1) := by decide +kernel
theorem dX9_copy_124 : decode cX9_copy 124 = .ok (.getfield 69, 3) := by decide +kernel
theorem dX9_copy_127 : decode cX9_copy 127 = .ok (.bipush 24, 2) := by decide +kernel
theorem dX9_copy_129 : decode cX9_copy 129 = .ok (.iload_n 1, 1) := by decide +kernel
theorem dX9_copy_130 : decode cX9_copy 130 = .ok (.imul, 1) := by decide +kernel
theorem dX9_copy_131 : decode cX9_copy 131 = .ok (.iload_n 2, 1) := by decide +kernel
theorem dX9_copy_132 : decode cX9_copy 132 = .ok (.iadd, 1) := by decide +kernel
theorem dX9_copy_133 : decode cX9_copy 133 = .ok (.iload 6, 2) := by decide +kernel
theorem dX9_copy_135 : decode cX9_copy 135 = .ok (.iadd, 1) := by decide +kernel
theorem dX9_copy_136 : decode cX9_copy 136 = .ok (.laload, 1) := by decide +kernel
theorem dX9_copy_137 : decode cX9_copy 137 = .ok (.lastore, 1) := by decide +kernel
theorem dX9_copy_138 : decode cX9_copy 138 = .ok (.iinc 6 1, 3) := by decide +kernel
theorem dX9_copy_141 : decode cX9_copy 141 = .ok (.goto (-31), 3) := by decide +kernel
theorem dX9_copy_144 : decode cX9_copy 144 = .ok (.iconst 0, 1) := by decide +kernel
theorem dX9_copy_145 : decode cX9_copy 145 = .ok (.istore 6, 2) := by decide +kernel
theorem dX9_copy_147 : decode cX9_copy 147 = .ok (.iload 6, 2) := by decide +kernel
theorem dX9_copy_149 : decode cX9_copy 149 = .ok (.iload 5, 2) := by decide +kernel
theorem dX9_copy_151 : decode cX9_copy 151 = .ok (.if_icmp .ge 31, 3) := by decide +kernel
theorem dX9_copy_154 : decode cX9_copy 154 = .ok (.aload_n 0, 1) := by decide +kernel
theorem dX9_copy_155 : decode cX9_copy 155 = .ok (.getfield 69, 3) := by decide +kernel
theorem dX9_copy_158 : decode cX9_copy 158 = .ok (.bipush 24, 2) := by decide +kernel
theorem dX9_copy_160 : decode cX9_copy 160 = .ok (.iload_n 3, 1) := by decide +kernel
theorem dX9_copy_161 : decode cX9_copy 161 = .ok (.imul, 1) := by decide +kernel
theorem dX9_copy_162 : decode cX9_copy 162 = .ok (.iload 4, 2) := by decide +kernel
theorem dX9_copy_164 : decode cX9_copy 164 = .ok (.iadd, 1) := by decide +kernel
theorem dX9_copy_165 : decode cX9_copy 165 = .ok (.iload 6, 2) := by decide +kernel
theorem dX9_copy_167 : decode cX9_copy 167 = .ok (.iadd, 1) := by decide +kernel
theorem dX9_copy_168 : decode cX9_copy 168 = .ok (.aload_n 0, 1) := by decide +kernel
theorem dX9_copy_169 : decode cX9_copy 169 = .ok (.getfield 72, 3) := by decide +kernel
theorem dX9_copy_172 : decode cX9_copy 172 = .ok (.iload 6, 2) := by decide +kernel
theorem dX9_copy_174 : decode cX9_copy 174 = .ok (.laload, 1) := by decide +kernel
theorem dX9_copy_175 : decode cX9_copy 175 = .ok (.lastore, 1) := by decide +kernel
theorem dX9_copy_176 : decode cX9_copy 176 = .ok (.iinc 6 1, 3) := by decide +kernel
theorem dX9_copy_179 : decode cX9_copy 179 = .ok (.goto (-32), 3) := by decide +kernel
theorem dX9_copy_182 : decode cX9_copy 182 = .ok (.iload 5, 2) := by decide +kernel
theorem dX9_copy_184 : decode cX9_copy 184 = .ok (.ireturn, 1) := by decide +kernel
theorem dX9_meant_0 : decode cX9_meant 0 = .ok (.iload_n 1, 1) := by decide +kernel
theorem dX9_meant_1 : decode cX9_meant 1 = .ok (.invokestatic 282, 3) := by decide +kernel
theorem dX9_meant_4 : decode cX9_meant 4 = .ok (.ifCond .eq 28, 3) := by decide +kernel
theorem dX9_meant_7 : decode cX9_meant 7 = .ok (.iload_n 2, 1) := by decide +kernel
theorem dX9_meant_8 : decode cX9_meant 8 = .ok (.i2l, 1) := by decide +kernel
theorem dX9_meant_9 : decode cX9_meant 9 = .ok (.lconst 0, 1) := by decide +kernel
theorem dX9_meant_10 : decode cX9_meant 10 = .ok (.ldc2_w 280, 3) := by decide +kernel
theorem dX9_meant_13 : decode cX9_meant 13 = .ok (.invokestatic 75, 3) := by decide +kernel
theorem dX9_meant_16 : decode cX9_meant 16 = .ok (.ifCond .eq 16, 3) := by decide +kernel
theorem dX9_meant_19 : decode cX9_meant 19 = .ok (.iload 4, 2) := by decide +kernel
theorem dX9_meant_21 : decode cX9_meant 21 = .ok (.i2l, 1) := by decide +kernel
theorem dX9_meant_22 : decode cX9_meant 22 = .ok (.lconst 1, 1) := by decide +kernel
theorem dX9_meant_23 : decode cX9_meant 23 = .ok (.ldc2_w 293, 3) := by decide +kernel
theorem dX9_meant_26 : decode cX9_meant 26 = .ok (.invokestatic 75, 3) := by decide +kernel
theorem dX9_meant_29 : decode cX9_meant 29 = .ok (.ifCond .ne 5, 3) := by decide +kernel
theorem dX9_meant_32 : decode cX9_meant 32 = .ok (.iconst (-1), 1) := by decide +kernel
theorem dX9_meant_33 : decode cX9_meant 33 = .ok (.ireturn, 1) := by decide +kernel
theorem dX9_meant_34 : decode cX9_meant 34 = .ok (.aload_n 0, 1) := by decide +kernel
theorem dX9_meant_35 : decode cX9_meant 35 = .ok (.iload_n 1, 1) := by decide +kernel
theorem dX9_meant_36 : decode cX9_meant 36 = .ok (.iload_n 2, 1) := by decide +kernel
theorem dX9_meant_37 : decode cX9_meant 37 = .ok (.iload_n 3, 1) := by decide +kernel
theorem dX9_meant_38 : decode cX9_meant 38 = .ok (.iload 4, 2) := by decide +kernel
theorem dX9_meant_40 : decode cX9_meant 40 = .ok (.invokevirtual 285, 3) := by decide +kernel
theorem dX9_meant_43 : decode cX9_meant 43 = .ok (.istore 5, 2) := by decide +kernel
theorem dX9_meant_45 : decode cX9_meant 45 = .ok (.iload 5, 2) := by decide +kernel
theorem dX9_meant_47 : decode cX9_meant 47 = .ok (.ifCond .ge 6, 3) := by decide +kernel
theorem dX9_meant_50 : decode cX9_meant 50 = .ok (.iload 5, 2) := by decide +kernel
theorem dX9_meant_52 : decode cX9_meant 52 = .ok (.ireturn, 1) := by decide +kernel
theorem dX9_meant_53 : decode cX9_meant 53 = .ok (.aload_n 0, 1) := by decide +kernel
theorem dX9_meant_54 : decode cX9_meant 54 = .ok (.getfield 7, 3) := by decide +kernel
theorem dX9_meant_57 : decode cX9_meant 57 = .ok (.iconst 1, 1) := by decide +kernel
theorem dX9_meant_58 : decode cX9_meant 58 = .ok (.iaload, 1) := by decide +kernel
theorem dX9_meant_59 : decode cX9_meant 59 = .ok (.istore 6, 2) := by decide +kernel
theorem dX9_meant_61 : decode cX9_meant 61 = .ok (.iconst 0, 1) := by decide +kernel
theorem dX9_meant_62 : decode cX9_meant 62 = .ok (.istore 7, 2) := by decide +kernel
theorem dX9_meant_64 : decode cX9_meant 64 = .ok (.iconst 0, 1) := by decide +kernel
theorem dX9_meant_65 : decode cX9_meant 65 = .ok (.istore 8, 2) := by decide +kernel
theorem dX9_meant_67 : decode cX9_meant 67 = .ok (.iload 8, 2) := by decide +kernel
theorem dX9_meant_69 : decode cX9_meant 69 = .ok (.iconst 5, 1) := by decide +kernel
theorem dX9_meant_70 : decode cX9_meant 70 = .ok (.if_icmp .ge 109, 3) := by decide +kernel
theorem dX9_meant_73 : decode cX9_meant 73 = .ok (.aload_n 0, 1) := by decide +kernel
theorem dX9_meant_74 : decode cX9_meant 74 = .ok (.getfield 7, 3) := by decide +kernel
theorem dX9_meant_77 : decode cX9_meant 77 = .ok (.iconst 1, 1) := by decide +kernel
theorem dX9_meant_78 : decode cX9_meant 78 = .ok (.iload 8, 2) := by decide +kernel
theorem dX9_meant_80 : decode cX9_meant 80 = .ok (.iastore, 1) := by decide +kernel
theorem dX9_meant_81 : decode cX9_meant 81 = .ok (.aload_n 0, 1) := by decide +kernel
theorem dX9_meant_82 : decode cX9_meant 82 = .ok (.invokevirtual 154, 3) := by decide +kernel
theorem dX9_meant_85 : decode cX9_meant 85 = .ok (.aload_n 0, 1) := by decide +kernel
theorem dX9_meant_86 : decode cX9_meant 86 = .ok (.getfield 151, 3) := by decide +kernel
theorem dX9_meant_89 : decode cX9_meant 89 = .ok (.iload 4, 2) := by decide +kernel
theorem dX9_meant_91 : decode cX9_meant 91 = .ok (.if_icmp .ne 7, 3) := by decide +kernel
theorem dX9_meant_94 : decode cX9_meant 94 = .ok (.iconst 1, 1) := by decide +kernel
theorem dX9_meant_95 : decode cX9_meant 95 = .ok (.goto 4, 3) := by decide +kernel
theorem dX9_meant_98 : decode cX9_meant 98 = .ok (.iconst 0, 1) := by decide +kernel
theorem dX9_meant_99 : decode cX9_meant 99 = .ok (.istore 9, 2) := by decide +kernel
theorem dX9_meant_101 : decode cX9_meant 101 = .ok (.iconst 0, 1) := by decide +kernel
theorem dX9_meant_102 : decode cX9_meant 102 = .ok (.istore 10, 2) := by decide +kernel
theorem dX9_meant_104 : decode cX9_meant 104 = .ok (.iload 10, 2) := by decide +kernel
theorem dX9_meant_106 : decode cX9_meant 106 = .ok (.iload 4, 2) := by decide +kernel
theorem dX9_meant_108 : decode cX9_meant 108 = .ok (.if_icmp .ge 47, 3) := by decide +kernel
theorem dX9_meant_111 : decode cX9_meant 111 = .ok (.iload 9, 2) := by decide +kernel
theorem dX9_meant_113 : decode cX9_meant 113 = .ok (.ifCond .eq 42, 3) := by decide +kernel
theorem dX9_meant_116 : decode cX9_meant 116 = .ok (.aload_n 0, 1) := by decide +kernel
theorem dX9_meant_117 : decode cX9_meant 117 = .ok (.getfield 22, 3) := by decide +kernel
theorem dX9_meant_120 : decode cX9_meant 120 = .ok (.iload 10, 2) := by decide +kernel
theorem dX9_meant_122 : decode cX9_meant 122 = .ok (.iaload, 1) := by decide +kernel
theorem dX9_meant_123 : decode cX9_meant 123 = .ok (.i2l, 1) := by decide +kernel
theorem dX9_meant_124 : decode cX9_meant 124 = .ok (.aload_n 0, 1) := by decide +kernel
theorem dX9_meant_125 : decode cX9_meant 125 = .ok (.getfield 69, 3) := by decide +kernel
theorem dX9_meant_128 : decode cX9_meant 128 = .ok (.bipush 24, 2) := by decide +kernel
theorem dX9_meant_130 : decode cX9_meant 130 = .ok (.iload_n 1, 1) := by decide +kernel
theorem dX9_meant_131 : decode cX9_meant 131 = .ok (.imul, 1) := by decide +kernel
theorem dX9_meant_132 : decode cX9_meant 132 = .ok (.iload_n 3, 1) := by decide +kernel
theorem dX9_meant_133 : decode cX9_meant 133 = .ok (.iadd, 1) := by decide +kernel
theorem dX9_meant_134 : decode cX9_meant 134 = .ok (.iload 10, 2) := by decide +kernel
theorem dX9_meant_136 : decode cX9_meant 136 = .ok (.iadd, 1) := by decide +kernel
theorem dX9_meant_137 : decode cX9_meant 137 = .ok (.laload, 1) := by decide +kernel
theorem dX9_meant_138 : decode cX9_meant 138 = .ok (.lcmp, 1) := by decide +kernel
theorem dX9_meant_139 : decode cX9_meant 139 = .ok (.ifCond .ne 7, 3) := by decide +kernel
theorem dX9_meant_142 : decode cX9_meant 142 = .ok (.iconst 1, 1) := by decide +kernel
theorem dX9_meant_143 : decode cX9_meant 143 = .ok (.goto 4, 3) := by decide +kernel
theorem dX9_meant_146 : decode cX9_meant 146 = .ok (.iconst 0, 1) := by decide +kernel
theorem dX9_meant_147 : decode cX9_meant 147 = .ok (.istore 9, 2) := by decide +kernel
theorem dX9_meant_149 : decode cX9_meant 149 = .ok (.iinc 10 1, 3) := by decide +kernel
theorem dX9_meant_152 : decode cX9_meant 152 = .ok (.goto (-48), 3) := by decide +kernel
theorem dX9_meant_155 : decode cX9_meant 155 = .ok (.iload 7, 2) := by decide +kernel
theorem dX9_meant_157 : decode cX9_meant 157 = .ok (.iload 9, 2) := by decide +kernel
theorem dX9_meant_159 : decode cX9_meant 159 = .ok (.ifCond .eq 10, 3) := by decide +kernel
theorem dX9_meant_162 : decode cX9_meant 162 = .ok (.iconst 1, 1) := by decide +kernel
theorem dX9_meant_163 : decode cX9_meant 163 = .ok (.iload 8, 2) := by decide +kernel
theorem dX9_meant_165 : decode cX9_meant 165 = .ok (.ishl, 1) := by decide +kernel
theorem dX9_meant_166 : decode cX9_meant 166 = .ok (.goto 4, 3) := by decide +kernel
theorem dX9_meant_169 : decode cX9_meant 169 = .ok (.iconst 0, 1) := by decide +kernel
theorem dX9_meant_170 : decode cX9_meant 170 = .ok (.ior, 1) := by decide +kernel
theorem dX9_meant_171 : decode cX9_meant 171 = .ok (.istore 7, 2) := by decide +kernel
theorem dX9_meant_173 : decode cX9_meant 173 = .ok (.iinc 8 1, 3) := by decide +kernel
theorem dX9_meant_176 : decode cX9_meant 176 = .ok (.goto (-109), 3) := by decide +kernel
theorem dX9_meant_179 : decode cX9_meant 179 = .ok (.aload_n 0, 1) := by decide +kernel
theorem dX9_meant_180 : decode cX9_meant 180 = .ok (.getfield 7, 3) := by decide +kernel
theorem dX9_meant_183 : decode cX9_meant 183 = .ok (.iconst 1, 1) := by decide +kernel
theorem dX9_meant_184 : decode cX9_meant 184 = .ok (.iload 6, 2) := by decide +kernel
theorem dX9_meant_186 : decode cX9_meant 186 = .ok (.iastore, 1) := by decide +kernel
theorem dX9_meant_187 : decode cX9_meant 187 = .ok (.iload 7, 2) := by decide +kernel
theorem dX9_meant_189 : decode cX9_meant 189 = .ok (.ireturn, 1) := by decide +kernel
theorem dX9_film_0 : decode cX9_film 0 = .ok (.iload_n 1, 1) := by decide +kernel
theorem dX9_film_1 : decode cX9_film 1 = .ok (.invokestatic 282, 3) := by decide +kernel
theorem dX9_film_4 : decode cX9_film 4 = .ok (.ifCond .eq 15, 3) := by decide +kernel
theorem dX9_film_7 : decode cX9_film 7 = .ok (.iload_n 2, 1) := by decide +kernel
theorem dX9_film_8 : decode cX9_film 8 = .ok (.i2l, 1) := by decide +kernel
theorem dX9_film_9 : decode cX9_film 9 = .ok (.lconst 0, 1) := by decide +kernel
theorem dX9_film_10 : decode cX9_film 10 = .ok (.ldc2_w 280, 3) := by decide +kernel
theorem dX9_film_13 : decode cX9_film 13 = .ok (.invokestatic 75, 3) := by decide +kernel
theorem dX9_film_16 : decode cX9_film 16 = .ok (.ifCond .ne 5, 3) := by decide +kernel
theorem dX9_film_19 : decode cX9_film 19 = .ok (.iconst (-1), 1) := by decide +kernel
theorem dX9_film_20 : decode cX9_film 20 = .ok (.ireturn, 1) := by decide +kernel
theorem dX9_film_21 : decode cX9_film 21 = .ok (.aload_n 0, 1) := by decide +kernel
theorem dX9_film_22 : decode cX9_film 22 = .ok (.invokevirtual 154, 3) := by decide +kernel
theorem dX9_film_25 : decode cX9_film 25 = .ok (.aload_n 0, 1) := by decide +kernel
theorem dX9_film_26 : decode cX9_film 26 = .ok (.getfield 135, 3) := by decide +kernel
theorem dX9_film_29 : decode cX9_film 29 = .ok (.bipush (-4), 2) := by decide +kernel
theorem dX9_film_31 : decode cX9_film 31 = .ok (.if_icmp .ne 6, 3) := by decide +kernel
theorem dX9_film_34 : decode cX9_film 34 = .ok (.bipush (-4), 2) := by decide +kernel
theorem dX9_film_36 : decode cX9_film 36 = .ok (.ireturn, 1) := by decide +kernel
theorem dX9_film_37 : decode cX9_film 37 = .ok (.aload_n 0, 1) := by decide +kernel
theorem dX9_film_38 : decode cX9_film 38 = .ok (.iload_n 1, 1) := by decide +kernel
theorem dX9_film_39 : decode cX9_film 39 = .ok (.iload_n 2, 1) := by decide +kernel
theorem dX9_film_40 : decode cX9_film 40 = .ok (.iload_n 3, 1) := by decide +kernel
theorem dX9_film_41 : decode cX9_film 41 = .ok (.aload_n 0, 1) := by decide +kernel
theorem dX9_film_42 : decode cX9_film 42 = .ok (.getfield 151, 3) := by decide +kernel
theorem dX9_film_45 : decode cX9_film 45 = .ok (.invokevirtual 285, 3) := by decide +kernel
theorem dX9_film_48 : decode cX9_film 48 = .ok (.istore 4, 2) := by decide +kernel
theorem dX9_film_50 : decode cX9_film 50 = .ok (.iload 4, 2) := by decide +kernel
theorem dX9_film_52 : decode cX9_film 52 = .ok (.ifCond .ge 6, 3) := by decide +kernel
theorem dX9_film_55 : decode cX9_film 55 = .ok (.iload 4, 2) := by decide +kernel
theorem dX9_film_57 : decode cX9_film 57 = .ok (.ireturn, 1) := by decide +kernel
theorem dX9_film_58 : decode cX9_film 58 = .ok (.iconst 0, 1) := by decide +kernel
theorem dX9_film_59 : decode cX9_film 59 = .ok (.istore 5, 2) := by decide +kernel
theorem dX9_film_61 : decode cX9_film 61 = .ok (.iload 5, 2) := by decide +kernel
theorem dX9_film_63 : decode cX9_film 63 = .ok (.aload_n 0, 1) := by decide +kernel
theorem dX9_film_64 : decode cX9_film 64 = .ok (.getfield 151, 3) := by decide +kernel
theorem dX9_film_67 : decode cX9_film 67 = .ok (.if_icmp .ge 35, 3) := by decide +kernel
theorem dX9_film_70 : decode cX9_film 70 = .ok (.aload_n 0, 1) := by decide +kernel
theorem dX9_film_71 : decode cX9_film 71 = .ok (.getfield 69, 3) := by decide +kernel
theorem dX9_film_74 : decode cX9_film 74 = .ok (.bipush 24, 2) := by decide +kernel
theorem dX9_film_76 : decode cX9_film 76 = .ok (.iload_n 1, 1) := by decide +kernel
theorem dX9_film_77 : decode cX9_film 77 = .ok (.imul, 1) := by decide +kernel
theorem dX9_film_78 : decode cX9_film 78 = .ok (.iload_n 3, 1) := by decide +kernel
theorem dX9_film_79 : decode cX9_film 79 = .ok (.iadd, 1) := by decide +kernel
theorem dX9_film_80 : decode cX9_film 80 = .ok (.iload 5, 2) := by decide +kernel
theorem dX9_film_82 : decode cX9_film 82 = .ok (.iadd, 1) := by decide +kernel
theorem dX9_film_83 : decode cX9_film 83 = .ok (.aload_n 0, 1) := by decide +kernel
theorem dX9_film_84 : decode cX9_film 84 = .ok (.getfield 22, 3) := by decide +kernel
theorem dX9_film_87 : decode cX9_film 87 = .ok (.iload 5, 2) := by decide +kernel
theorem dX9_film_89 : decode cX9_film 89 = .ok (.iaload, 1) := by decide +kernel
theorem dX9_film_90 : decode cX9_film 90 = .ok (.i2l, 1) := by decide +kernel
theorem dX9_film_91 : decode cX9_film 91 = .ok (.iload_n 2, 1) := by decide +kernel
theorem dX9_film_92 : decode cX9_film 92 = .ok (.invokestatic 289, 3) := by decide +kernel
theorem dX9_film_95 : decode cX9_film 95 = .ok (.lastore, 1) := by decide +kernel
theorem dX9_film_96 : decode cX9_film 96 = .ok (.iinc 5 1, 3) := by decide +kernel
theorem dX9_film_99 : decode cX9_film 99 = .ok (.goto (-38), 3) := by decide +kernel
theorem dX9_film_102 : decode cX9_film 102 = .ok (.aload_n 0, 1) := by decide +kernel
theorem dX9_film_103 : decode cX9_film 103 = .ok (.getfield 151, 3) := by decide +kernel
theorem dX9_film_106 : decode cX9_film 106 = .ok (.ireturn, 1) := by decide +kernel

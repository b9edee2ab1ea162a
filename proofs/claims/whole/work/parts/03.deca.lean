theorem dX0_isKept_0 : decode cX0_isKept 0 = .ok (.iload_n 2, 1) := by decide +kernel
theorem dX0_isKept_1 : decode cX0_isKept 1 = .ok (.iconst 1, 1) := by decide +kernel
theorem dX0_isKept_2 : decode cX0_isKept 2 = .ok (.if_icmp .lt 9, 3) := by decide +kernel
theorem dX0_isKept_5 : decode cX0_isKept 5 = .ok (.iload_n 2, 1) := by decide +kernel
theorem dX0_isKept_6 : decode cX0_isKept 6 = .ok (.aload_n 1, 1) := by decide +kernel
theorem dX0_isKept_7 : decode cX0_isKept 7 = .ok (.arraylength, 1) := by decide +kernel
theorem dX0_isKept_8 : decode cX0_isKept 8 = .ok (.if_icmp .le 5, 3) := by decide +kernel
theorem dX0_isKept_11 : decode cX0_isKept 11 = .ok (.iconst 0, 1) := by decide +kernel
theorem dX0_isKept_12 : decode cX0_isKept 12 = .ok (.ireturn, 1) := by decide +kernel
theorem dX0_isKept_13 : decode cX0_isKept 13 = .ok (.iload_n 0, 1) := by decide +kernel
theorem dX0_isKept_14 : decode cX0_isKept 14 = .ok (.tableswitch 112 1 4 #[30, 54, 60, 90], 30) := by decide +kernel
theorem dX0_isKept_44 : decode cX0_isKept 44 = .ok (.iload_n 2, 1) := by decide +kernel
theorem dX0_isKept_45 : decode cX0_isKept 45 = .ok (.iconst 2, 1) := by decide +kernel
theorem dX0_isKept_46 : decode cX0_isKept 46 = .ok (.if_icmp .lt 20, 3) := by decide +kernel
theorem dX0_isKept_49 : decode cX0_isKept 49 = .ok (.aload_n 1, 1) := by decide +kernel
theorem dX0_isKept_50 : decode cX0_isKept 50 = .ok (.iload_n 2, 1) := by decide +kernel
theorem dX0_isKept_51 : decode cX0_isKept 51 = .ok (.iconst 1, 1) := by decide +kernel
theorem dX0_isKept_52 : decode cX0_isKept 52 = .ok (.isub, 1) := by decide +kernel
theorem dX0_isKept_53 : decode cX0_isKept 53 = .ok (.iaload, 1) := by decide +kernel
theorem dX0_isKept_54 : decode cX0_isKept 54 = .ok (.aload_n 1, 1) := by decide +kernel
theorem dX0_isKept_55 : decode cX0_isKept 55 = .ok (.iload_n 2, 1) := by decide +kernel
theorem dX0_isKept_56 : decode cX0_isKept 56 = .ok (.invokestatic 7, 3) := by decide +kernel
theorem dX0_isKept_59 : decode cX0_isKept 59 = .ok (.if_icmp .ne 7, 3) := by decide +kernel
theorem dX0_isKept_62 : decode cX0_isKept 62 = .ok (.iconst 1, 1) := by decide +kernel
theorem dX0_isKept_63 : decode cX0_isKept 63 = .ok (.goto 4, 3) := by decide +kernel
theorem dX0_isKept_66 : decode cX0_isKept 66 = .ok (.iconst 0, 1) := by decide +kernel
theorem dX0_isKept_67 : decode cX0_isKept 67 = .ok (.ireturn, 1) := by decide +kernel
theorem dX0_isKept_68 : decode cX0_isKept 68 = .ok (.aload_n 1, 1) := by decide +kernel
theorem dX0_isKept_69 : decode cX0_isKept 69 = .ok (.iload_n 2, 1) := by decide +kernel
theorem dX0_isKept_70 : decode cX0_isKept 70 = .ok (.invokestatic 13, 3) := by decide +kernel
theorem dX0_isKept_73 : decode cX0_isKept 73 = .ok (.ireturn, 1) := by decide +kernel
theorem dX0_isKept_74 : decode cX0_isKept 74 = .ok (.iload_n 2, 1) := by decide +kernel
theorem dX0_isKept_75 : decode cX0_isKept 75 = .ok (.iconst 2, 1) := by decide +kernel
theorem dX0_isKept_76 : decode cX0_isKept 76 = .ok (.if_icmp .lt 26, 3) := by decide +kernel
theorem dX0_isKept_79 : decode cX0_isKept 79 = .ok (.aload_n 1, 1) := by decide +kernel
theorem dX0_isKept_80 : decode cX0_isKept 80 = .ok (.iload_n 2, 1) := by decide +kernel
theorem dX0_isKept_81 : decode cX0_isKept 81 = .ok (.iconst 1, 1) := by decide +kernel
theorem dX0_isKept_82 : decode cX0_isKept 82 = .ok (.isub, 1) := by decide +kernel
theorem dX0_isKept_83 : decode cX0_isKept 83 = .ok (.iaload, 1) := by decide +kernel
theorem dX0_isKept_84 : decode cX0_isKept 84 = .ok (.bipush 100, 2) := by decide +kernel
theorem dX0_isKept_86 : decode cX0_isKept 86 = .ok (.irem, 1) := by decide +kernel
theorem dX0_isKept_87 : decode cX0_isKept 87 = .ok (.aload_n 1, 1) := by decide +kernel
theorem dX0_isKept_88 : decode cX0_isKept 88 = .ok (.iload_n 2, 1) := by decide +kernel
theorem dX0_isKept_89 : decode cX0_isKept 89 = .ok (.invokestatic 7, 3) := by decide +kernel
theorem dX0_isKept_92 : decode cX0_isKept 92 = .ok (.bipush 100, 2) := by decide +kernel
theorem dX0_isKept_94 : decode cX0_isKept 94 = .ok (.irem, 1) := by decide +kernel
theorem dX0_isKept_95 : decode cX0_isKept 95 = .ok (.if_icmp .ne 7, 3) := by decide +kernel
theorem dX0_isKept_98 : decode cX0_isKept 98 = .ok (.iconst 1, 1) := by decide +kernel
theorem dX0_isKept_99 : decode cX0_isKept 99 = .ok (.goto 4, 3) := by decide +kernel
theorem dX0_isKept_102 : decode cX0_isKept 102 = .ok (.iconst 0, 1) := by decide +kernel
theorem dX0_isKept_103 : decode cX0_isKept 103 = .ok (.ireturn, 1) := by decide +kernel
theorem dX0_isKept_104 : decode cX0_isKept 104 = .ok (.aload_n 1, 1) := by decide +kernel
theorem dX0_isKept_105 : decode cX0_isKept 105 = .ok (.iload_n 2, 1) := by decide +kernel
theorem dX0_isKept_106 : decode cX0_isKept 106 = .ok (.invokestatic 13, 3) := by decide +kernel
theorem dX0_isKept_109 : decode cX0_isKept 109 = .ok (.ifCond .eq 15, 3) := by decide +kernel
theorem dX0_isKept_112 : decode cX0_isKept 112 = .ok (.aload_n 1, 1) := by decide +kernel
theorem dX0_isKept_113 : decode cX0_isKept 113 = .ok (.iload_n 2, 1) := by decide +kernel
theorem dX0_isKept_114 : decode cX0_isKept 114 = .ok (.invokestatic 17, 3) := by decide +kernel
theorem dX0_isKept_117 : decode cX0_isKept 117 = .ok (.ifCond .eq 7, 3) := by decide +kernel
theorem dX0_isKept_120 : decode cX0_isKept 120 = .ok (.iconst 1, 1) := by decide +kernel
theorem dX0_isKept_121 : decode cX0_isKept 121 = .ok (.goto 4, 3) := by decide +kernel
theorem dX0_isKept_124 : decode cX0_isKept 124 = .ok (.iconst 0, 1) := by decide +kernel
theorem dX0_isKept_125 : decode cX0_isKept 125 = .ok (.ireturn, 1) := by decide +kernel
theorem dX0_isKept_126 : decode cX0_isKept 126 = .ok (.iconst 1, 1) := by decide +kernel
theorem dX0_isKept_127 : decode cX0_isKept 127 = .ok (.ireturn, 1) := by decide +kernel
theorem dX0_others_0 : decode cX0_others 0 = .ok (.iconst 0, 1) := by decide +kernel
theorem dX0_others_1 : decode cX0_others 1 = .ok (.istore_n 2, 1) := by decide +kernel
theorem dX0_others_2 : decode cX0_others 2 = .ok (.iconst 0, 1) := by decide +kernel
theorem dX0_others_3 : decode cX0_others 3 = .ok (.istore_n 3, 1) := by decide +kernel
theorem dX0_others_4 : decode cX0_others 4 = .ok (.iload_n 3, 1) := by decide +kernel
theorem dX0_others_5 : decode cX0_others 5 = .ok (.iload_n 1, 1) := by decide +kernel
theorem dX0_others_6 : decode cX0_others 6 = .ok (.iconst 1, 1) := by decide +kernel
theorem dX0_others_7 : decode cX0_others 7 = .ok (.isub, 1) := by decide +kernel
theorem dX0_others_8 : decode cX0_others 8 = .ok (.if_icmp .ge 15, 3) := by decide +kernel
theorem dX0_others_11 : decode cX0_others 11 = .ok (.iload_n 2, 1) := by decide +kernel
theorem dX0_others_12 : decode cX0_others 12 = .ok (.aload_n 0, 1) := by decide +kernel
theorem dX0_others_13 : decode cX0_others 13 = .ok (.iload_n 3, 1) := by decide +kernel
theorem dX0_others_14 : decode cX0_others 14 = .ok (.iaload, 1) := by decide +kernel
theorem dX0_others_15 : decode cX0_others 15 = .ok (.iadd, 1) := by decide +kernel
theorem dX0_others_16 : decode cX0_others 16 = .ok (.istore_n 2, 1) := by decide +kernel
theorem dX0_others_17 : decode cX0_others 17 = .ok (.iinc 3 1, 3) := by decide +kernel
theorem dX0_others_20 : decode cX0_others 20 = .ok (.goto (-16), 3) := by decide +kernel
theorem dX0_others_23 : decode cX0_others 23 = .ok (.iload_n 2, 1) := by decide +kernel
theorem dX0_others_24 : decode cX0_others 24 = .ok (.ireturn, 1) := by decide +kernel
theorem dX0_rises_0 : decode cX0_rises 0 = .ok (.iconst 1, 1) := by decide +kernel
theorem dX0_rises_1 : decode cX0_rises 1 = .ok (.istore_n 2, 1) := by decide +kernel
theorem dX0_rises_2 : decode cX0_rises 2 = .ok (.iload_n 2, 1) := by decide +kernel
theorem dX0_rises_3 : decode cX0_rises 3 = .ok (.iload_n 1, 1) := by decide +kernel
theorem dX0_rises_4 : decode cX0_rises 4 = .ok (.if_icmp .ge 22, 3) := by decide +kernel
theorem dX0_rises_7 : decode cX0_rises 7 = .ok (.aload_n 0, 1) := by decide +kernel
theorem dX0_rises_8 : decode cX0_rises 8 = .ok (.iload_n 2, 1) := by decide +kernel
theorem dX0_rises_9 : decode cX0_rises 9 = .ok (.iaload, 1) := by decide +kernel
theorem dX0_rises_10 : decode cX0_rises 10 = .ok (.aload_n 0, 1) := by decide +kernel
theorem dX0_rises_11 : decode cX0_rises 11 = .ok (.iload_n 2, 1) := by decide +kernel
theorem dX0_rises_12 : decode cX0_rises 12 = .ok (.iconst 1, 1) := by decide +kernel
theorem dX0_rises_13 : decode cX0_rises 13 = .ok (.isub, 1) := by decide +kernel
theorem dX0_rises_14 : decode cX0_rises 14 = .ok (.iaload, 1) := by decide +kernel
theorem dX0_rises_15 : decode cX0_rises 15 = .ok (.if_icmp .gt 5, 3) := by decide +kernel
theorem dX0_rises_18 : decode cX0_rises 18 = .ok (.iconst 0, 1) := by decide +kernel
theorem dX0_rises_19 : decode cX0_rises 19 = .ok (.ireturn, 1) := by decide +kernel
theorem dX0_rises_20 : decode cX0_rises 20 = .ok (.iinc 2 1, 3) := by decide +kernel
theorem dX0_rises_23 : decode cX0_rises 23 = .ok (.goto (-21), 3) := by decide +kernel
theorem dX0_rises_26 : decode cX0_rises 26 = .ok (.iconst 1, 1) := by decide +kernel
theorem dX0_rises_27 : decode cX0_rises 27 = .ok (.ireturn, 1) := by decide +kernel
theorem dX0_isSteady_0 : decode cX0_isSteady 0 = .ok (.iconst 2, 1) := by decide +kernel
theorem dX0_isSteady_1 : decode cX0_isSteady 1 = .ok (.istore_n 2, 1) := by decide +kernel
theorem dX0_isSteady_2 : decode cX0_isSteady 2 = .ok (.iload_n 2, 1) := by decide +kernel
theorem dX0_isSteady_3 : decode cX0_isSteady 3 = .ok (.iload_n 1, 1) := by decide +kernel
theorem dX0_isSteady_4 : decode cX0_isSteady 4 = .ok (.if_icmp .ge 30, 3) := by decide +kernel
theorem dX0_isSteady_7 : decode cX0_isSteady 7 = .ok (.aload_n 0, 1) := by decide +kernel
theorem dX0_isSteady_8 : decode cX0_isSteady 8 = .ok (.iload_n 2, 1) := by decide +kernel
theorem dX0_isSteady_9 : decode cX0_isSteady 9 = .ok (.iaload, 1) := by decide +kernel
theorem dX0_isSteady_10 : decode cX0_isSteady 10 = .ok (.aload_n 0, 1) := by decide +kernel
theorem dX0_isSteady_11 : decode cX0_isSteady 11 = .ok (.iload_n 2, 1) := by decide +kernel
theorem dX0_isSteady_12 : decode cX0_isSteady 12 = .ok (.iconst 1, 1) := by decide +kernel
theorem dX0_isSteady_13 : decode cX0_isSteady 13 = .ok (.isub, 1) := by decide +kernel
theorem dX0_isSteady_14 : decode cX0_isSteady 14 = .ok (.iaload, 1) := by decide +kernel
theorem dX0_isSteady_15 : decode cX0_isSteady 15 = .ok (.isub, 1) := by decide +kernel
theorem dX0_isSteady_16 : decode cX0_isSteady 16 = .ok (.aload_n 0, 1) := by decide +kernel
theorem dX0_isSteady_17 : decode cX0_isSteady 17 = .ok (.iconst 1, 1) := by decide +kernel
theorem dX0_isSteady_18 : decode cX0_isSteady 18 = .ok (.iaload, 1) := by decide +kernel
theorem dX0_isSteady_19 : decode cX0_isSteady 19 = .ok (.aload_n 0, 1) := by decide +kernel
theorem dX0_isSteady_20 : decode cX0_isSteady 20 = .ok (.iconst 0, 1) := by decide +kernel
theorem dX0_isSteady_21 : decode cX0_isSteady 21 = .ok (.iaload, 1) := by decide +kernel
theorem dX0_isSteady_22 : decode cX0_isSteady 22 = .ok (.isub, 1) := by decide +kernel
theorem dX0_isSteady_23 : decode cX0_isSteady 23 = .ok (.if_icmp .eq 5, 3) := by decide +kernel
theorem dX0_isSteady_26 : decode cX0_isSteady 26 = .ok (.iconst 0, 1) := by decide +kernel
theorem dX0_isSteady_27 : decode cX0_isSteady 27 = .ok (.ireturn, 1) := by decide +kernel
theorem dX0_isSteady_28 : decode cX0_isSteady 28 = .ok (.iinc 2 1, 3) := by decide +kernel
theorem dX0_isSteady_31 : decode cX0_isSteady 31 = .ok (.goto (-29), 3) := by decide +kernel
theorem dX0_isSteady_34 : decode cX0_isSteady 34 = .ok (.iconst 1, 1) := by decide +kernel
theorem dX0_isSteady_35 : decode cX0_isSteady 35 = .ok (.ireturn, 1) := by decide +kernel
theorem dX1_init_0 : decode cX1_init 0 = .ok (.aload_n 0, 1) := by decide +kernel
theorem dX1_init_1 : decode cX1_init 1 = .ok (.invokespecial 3, 3) := by decide +kernel
theorem dX1_init_4 : decode cX1_init 4 = .ok (.aload_n 0, 1) := by decide +kernel
theorem dX1_init_5 : decode cX1_init 5 = .ok (.bipush 32, 2) := by decide +kernel
theorem dX1_init_7 : decode cX1_init 7 = .ok (.newarray .int, 2) := by decide +kernel
theorem dX1_init_9 : decode cX1_init 9 = .ok (.putfield 9, 3) := by decide +kernel
theorem dX1_init_12 : decode cX1_init 12 = .ok (.aload_n 0, 1) := by decide +kernel
theorem dX1_init_13 : decode cX1_init 13 = .ok (.bipush 60, 2) := by decide +kernel
theorem dX1_init_15 : decode cX1_init 15 = .ok (.newarray .int, 2) := by decide +kernel
theorem dX1_init_17 : decode cX1_init 17 = .ok (.putfield 15, 3) := by decide +kernel
theorem dX1_init_20 : decode cX1_init 20 = .ok (.aload_n 0, 1) := by decide +kernel
theorem dX1_init_21 : decode cX1_init 21 = .ok (.bipush 60, 2) := by decide +kernel
theorem dX1_init_23 : decode cX1_init 23 = .ok (.newarray .int, 2) := by decide +kernel
theorem dX1_init_25 : decode cX1_init 25 = .ok (.putfield 18, 3) := by decide +kernel
theorem dX1_init_28 : decode cX1_init 28 = .ok (.aload_n 0, 1) := by decide +kernel
theorem dX1_init_29 : decode cX1_init 29 = .ok (.sipush 240, 3) := by decide +kernel
theorem dX1_init_32 : decode cX1_init 32 = .ok (.newarray .int, 2) := by decide +kernel
theorem dX1_init_34 : decode cX1_init 34 = .ok (.putfield 21, 3) := by decide +kernel
theorem dX1_init_37 : decode cX1_init 37 = .ok (.aload_n 0, 1) := by decide +kernel
theorem dX1_init_38 : decode cX1_init 38 = .ok (.bipush 32, 2) := by decide +kernel
theorem dX1_init_40 : decode cX1_init 40 = .ok (.newarray .long, 2) := by decide +kernel
theorem dX1_init_42 : decode cX1_init 42 = .ok (.putfield 24, 3) := by decide +kernel
theorem dX1_init_45 : decode cX1_init 45 = .ok (.aload_n 0, 1) := by decide +kernel
theorem dX1_init_46 : decode cX1_init 46 = .ok (.bipush 32, 2) := by decide +kernel
theorem dX1_init_48 : decode cX1_init 48 = .ok (.newarray .int, 2) := by decide +kernel
theorem dX1_init_50 : decode cX1_init 50 = .ok (.putfield 28, 3) := by decide +kernel
theorem dX1_init_53 : decode cX1_init 53 = .ok (.return_, 1) := by decide +kernel
theorem dX1_clear_0 : decode cX1_clear 0 = .ok (.aload_n 0, 1) := by decide +kernel
theorem dX1_clear_1 : decode cX1_clear 1 = .ok (.iconst 1, 1) := by decide +kernel
theorem dX1_clear_2 : decode cX1_clear 2 = .ok (.putfield 31, 3) := by decide +kernel
theorem dX1_clear_5 : decode cX1_clear 5 = .ok (.aload_n 0, 1) := by decide +kernel
theorem dX1_clear_6 : decode cX1_clear 6 = .ok (.iconst 0, 1) := by decide +kernel
theorem dX1_clear_7 : decode cX1_clear 7 = .ok (.putfield 35, 3) := by decide +kernel
theorem dX1_clear_10 : decode cX1_clear 10 = .ok (.iconst 0, 1) := by decide +kernel
theorem dX1_clear_11 : decode cX1_clear 11 = .ok (.istore_n 1, 1) := by decide +kernel
theorem dX1_clear_12 : decode cX1_clear 12 = .ok (.iload_n 1, 1) := by decide +kernel
theorem dX1_clear_13 : decode cX1_clear 13 = .ok (.bipush 32, 2) := by decide +kernel
theorem dX1_clear_15 : decode cX1_clear 15 = .ok (.if_icmp .ge 23, 3) := by decide +kernel
theorem dX1_clear_18 : decode cX1_clear 18 = .ok (.aload_n 0, 1) := by decide +kernel
theorem dX1_clear_19 : decode cX1_clear 19 = .ok (.getfield 9, 3) := by decide +kernel
theorem dX1_clear_22 : decode cX1_clear 22 = .ok (.iload_n 1, 1) := by decide +kernel
theorem dX1_clear_23 : decode cX1_clear 23 = .ok (.iconst 0, 1) := by decide +kernel
theorem dX1_clear_24 : decode cX1_clear 24 = .ok (.iastore, 1) := by decide +kernel
theorem dX1_clear_25 : decode cX1_clear 25 = .ok (.aload_n 0, 1) := by decide +kernel
theorem dX1_clear_26 : decode cX1_clear 26 = .ok (.getfield 24, 3) := by decide +kernel
theorem dX1_clear_29 : decode cX1_clear 29 = .ok (.iload_n 1, 1) := by decide +kernel
theorem dX1_clear_30 : decode cX1_clear 30 = .ok (.lconst 0, 1) := by decide +kernel
theorem dX1_clear_31 : decode cX1_clear 31 = .ok (.lastore, 1) := by decide +kernel
theorem dX1_clear_32 : decode cX1_clear 32 = .ok (.iinc 1 1, 3) := by decide +kernel
theorem dX1_clear_35 : decode cX1_clear 35 = .ok (.goto (-23), 3) := by decide +kernel
theorem dX1_clear_38 : decode cX1_clear 38 = .ok (.return_, 1) := by decide +kernel
theorem dX1_add_0 : decode cX1_add 0 = .ok (.aload_n 0, 1) := by decide +kernel
theorem dX1_add_1 : decode cX1_add 1 = .ok (.getfield 35, 3) := by decide +kernel
theorem dX1_add_4 : decode cX1_add 4 = .ok (.bipush 60, 2) := by decide +kernel
theorem dX1_add_6 : decode cX1_add 6 = .ok (.if_icmp .ge 12, 3) := by decide +kernel
theorem dX1_add_9 : decode cX1_add 9 = .ok (.lconst 1, 1) := by decide +kernel
theorem dX1_add_10 : decode cX1_add 10 = .ok (.aload_n 0, 1) := by decide +kernel
theorem dX1_add_11 : decode cX1_add 11 = .ok (.getfield 35, 3) := by decide +kernel
theorem dX1_add_14 : decode cX1_add 14 = .ok (.lshl, 1) := by decide +kernel
theorem dX1_add_15 : decode cX1_add 15 = .ok (.goto 4, 3) := by decide +kernel
theorem dX1_add_18 : decode cX1_add 18 = .ok (.lconst 0, 1) := by decide +kernel
theorem dX1_add_19 : decode cX1_add 19 = .ok (.lstore_n 3, 1) := by decide +kernel
theorem dX1_add_20 : decode cX1_add 20 = .ok (.iconst 0, 1) := by decide +kernel
theorem dX1_add_21 : decode cX1_add 21 = .ok (.istore 5, 2) := by decide +kernel
theorem dX1_add_23 : decode cX1_add 23 = .ok (.iload 5, 2) := by decide +kernel
theorem dX1_add_25 : decode cX1_add 25 = .ok (.iload_n 2, 1) := by decide +kernel
theorem dX1_add_26 : decode cX1_add 26 = .ok (.if_icmp .ge 44, 3) := by decide +kernel
theorem dX1_add_29 : decode cX1_add 29 = .ok (.iload 5, 2) := by decide +kernel
theorem dX1_add_31 : decode cX1_add 31 = .ok (.iconst 4, 1) := by decide +kernel
theorem dX1_add_32 : decode cX1_add 32 = .ok (.imul, 1) := by decide +kernel
theorem dX1_add_33 : decode cX1_add 33 = .ok (.aload_n 1, 1) := by decide +kernel
theorem dX1_add_34 : decode cX1_add 34 = .ok (.iload 5, 2) := by decide +kernel
theorem dX1_add_36 : decode cX1_add 36 = .ok (.invokevirtual 39, 3) := by decide +kernel
theorem dX1_add_39 : decode cX1_add 39 = .ok (.iadd, 1) := by decide +kernel
theorem dX1_add_40 : decode cX1_add 40 = .ok (.istore 6, 2) := by decide +kernel
theorem dX1_add_42 : decode cX1_add 42 = .ok (.aload_n 0, 1) := by decide +kernel
theorem dX1_add_43 : decode cX1_add 43 = .ok (.getfield 9, 3) := by decide +kernel
theorem dX1_add_46 : decode cX1_add 46 = .ok (.iload 6, 2) := by decide +kernel
theorem dX1_add_48 : decode cX1_add 48 = .ok (.dup2, 1) := by decide +kernel
theorem dX1_add_49 : decode cX1_add 49 = .ok (.iaload, 1) := by decide +kernel
theorem dX1_add_50 : decode cX1_add 50 = .ok (.iconst 1, 1) := by decide +kernel
theorem dX1_add_51 : decode cX1_add 51 = .ok (.iadd, 1) := by decide +kernel
theorem dX1_add_52 : decode cX1_add 52 = .ok (.iastore, 1) := by decide +kernel
theorem dX1_add_53 : decode cX1_add 53 = .ok (.aload_n 0, 1) := by decide +kernel
theorem dX1_add_54 : decode cX1_add 54 = .ok (.getfield 24, 3) := by decide +kernel
theorem dX1_add_57 : decode cX1_add 57 = .ok (.iload 6, 2) := by decide +kernel
theorem dX1_add_59 : decode cX1_add 59 = .ok (.dup2, 1) := by decide +kernel
theorem dX1_add_60 : decode cX1_add 60 = .ok (.laload, 1) := by decide +kernel
theorem dX1_add_61 : decode cX1_add 61 = .ok (.lload_n 3, 1) := by decide +kernel
theorem dX1_add_62 : decode cX1_add 62 = .ok (.lor, 1) := by decide +kernel
theorem dX1_add_63 : decode cX1_add 63 = .ok (.lastore, 1) := by decide +kernel
theorem dX1_add_64 : decode cX1_add 64 = .ok (.iinc 5 1, 3) := by decide +kernel
theorem dX1_add_67 : decode cX1_add 67 = .ok (.goto (-44), 3) := by decide +kernel
theorem dX1_add_70 : decode cX1_add 70 = .ok (.aload_n 0, 1) := by decide +kernel
theorem dX1_add_71 : decode cX1_add 71 = .ok (.getfield 35, 3) := by decide +kernel
theorem dX1_add_74 : decode cX1_add 74 = .ok (.bipush 60, 2) := by decide +kernel
theorem dX1_add_76 : decode cX1_add 76 = .ok (.if_icmp .ge 51, 3) := by decide +kernel
theorem dX1_add_79 : decode cX1_add 79 = .ok (.aload_n 0, 1) := by decide +kernel
theorem dX1_add_80 : decode cX1_add 80 = .ok (.getfield 15, 3) := by decide +kernel
theorem dX1_add_83 : decode cX1_add 83 = .ok (.aload_n 0, 1) := by decide +kernel
theorem dX1_add_84 : decode cX1_add 84 = .ok (.getfield 35, 3) := by decide +kernel
theorem dX1_add_87 : decode cX1_add 87 = .ok (.aload_n 1, 1) := by decide +kernel
theorem dX1_add_88 : decode cX1_add 88 = .ok (.getfield 45, 3) := by decide +kernel
theorem dX1_add_91 : decode cX1_add 91 = .ok (.iastore, 1) := by decide +kernel
theorem dX1_add_92 : decode cX1_add 92 = .ok (.aload_n 0, 1) := by decide +kernel
theorem dX1_add_93 : decode cX1_add 93 = .ok (.getfield 18, 3) := by decide +kernel
theorem dX1_add_96 : decode cX1_add 96 = .ok (.aload_n 0, 1) := by decide +kernel
theorem dX1_add_97 : decode cX1_add 97 = .ok (.getfield 35, 3) := by decide +kernel
theorem dX1_add_100 : decode cX1_add 100 = .ok (.aload_n 1, 1) := by decide +kernel
theorem dX1_add_101 : decode cX1_add 101 = .ok (.getfield 47, 3) := by decide +kernel
theorem dX1_add_104 : decode cX1_add 104 = .ok (.iastore, 1) := by decide +kernel
theorem dX1_add_105 : decode cX1_add 105 = .ok (.aload_n 1, 1) := by decide +kernel
theorem dX1_add_106 : decode cX1_add 106 = .ok (.getfield 48, 3) := by decide +kernel
theorem dX1_add_109 : decode cX1_add 109 = .ok (.iconst 0, 1) := by decide +kernel
theorem dX1_add_110 : decode cX1_add 110 = .ok (.aload_n 0, 1) := by decide +kernel
theorem dX1_add_111 : decode cX1_add 111 = .ok (.getfield 21, 3) := by decide +kernel
theorem dX1_add_114 : decode cX1_add 114 = .ok (.aload_n 0, 1) := by decide +kernel
theorem dX1_add_115 : decode cX1_add 115 = .ok (.getfield 35, 3) := by decide +kernel
theorem dX1_add_118 : decode cX1_add 118 = .ok (.iconst 4, 1) := by decide +kernel
theorem dX1_add_119 : decode cX1_add 119 = .ok (.imul, 1) := by decide +kernel
theorem dX1_add_120 : decode cX1_add 120 = .ok (.aload_n 1, 1) := by decide +kernel
theorem dX1_add_121 : decode cX1_add 121 = .ok (.getfield 47, 3) := by decide +kernel
theorem dX1_add_124 : decode cX1_add 124 = .ok (.invokestatic 49, 3) := by decide +kernel
theorem dX1_add_127 : decode cX1_add 127 = .ok (.aload_n 0, 1) := by decide +kernel
theorem dX1_add_128 : decode cX1_add 128 = .ok (.dup, 1) := by decide +kernel
theorem dX1_add_129 : decode cX1_add 129 = .ok (.getfield 35, 3) := by decide +kernel
theorem dX1_add_132 : decode cX1_add 132 = .ok (.iconst 1, 1) := by decide +kernel
theorem dX1_add_133 : decode cX1_add 133 = .ok (.iadd, 1) := by decide +kernel
theorem dX1_add_134 : decode cX1_add 134 = .ok (.putfield 35, 3) := by decide +kernel
theorem dX1_add_137 : decode cX1_add 137 = .ok (.return_, 1) := by decide +kernel
theorem dX1_lastNumber_0 : decode cX1_lastNumber 0 = .ok (.iload_n 1, 1) := by decide +kernel
theorem dX1_lastNumber_1 : decode cX1_lastNumber 1 = .ok (.ifCond .lt 19, 3) := by decide +kernel
theorem dX1_lastNumber_4 : decode cX1_lastNumber 4 = .ok (.iload_n 1, 1) := by decide +kernel
theorem dX1_lastNumber_5 : decode cX1_lastNumber 5 = .ok (.bipush 60, 2) := by decide +kernel
theorem dX1_lastNumber_7 : decode cX1_lastNumber 7 = .ok (.if_icmp .ge 13, 3) := by decide +kernel
theorem dX1_lastNumber_10 : decode cX1_lastNumber 10 = .ok (.aload_n 0, 1) := by decide +kernel
theorem dX1_lastNumber_11 : decode cX1_lastNumber 11 = .ok (.getfield 18, 3) := by decide +kernel
theorem dX1_lastNumber_14 : decode cX1_lastNumber 14 = .ok (.iload_n 1, 1) := by decide +kernel
theorem dX1_lastNumber_15 : decode cX1_lastNumber 15 = .ok (.iaload, 1) := by decide +kernel
theorem dX1_lastNumber_16 : decode cX1_lastNumber 16 = .ok (.iconst 1, 1) := by decide +kernel
theorem dX1_lastNumber_17 : decode cX1_lastNumber 17 = .ok (.if_icmp .ge 6, 3) := by decide +kernel
theorem dX1_lastNumber_20 : decode cX1_lastNumber 20 = .ok (.bipush (-4), 2) := by decide +kernel
theorem dX1_lastNumber_22 : decode cX1_lastNumber 22 = .ok (.ireturn, 1) := by decide +kernel
theorem dX1_lastNumber_23 : decode cX1_lastNumber 23 = .ok (.aload_n 0, 1) := by decide +kernel
theorem dX1_lastNumber_24 : decode cX1_lastNumber 24 = .ok (.getfield 21, 3) := by decide +kernel
theorem dX1_lastNumber_27 : decode cX1_lastNumber 27 = .ok (.iload_n 1, 1) := by decide +kernel
theorem dX1_lastNumber_28 : decode cX1_lastNumber 28 = .ok (.iconst 4, 1) := by decide +kernel
theorem dX1_lastNumber_29 : decode cX1_lastNumber 29 = .ok (.imul, 1) := by decide +kernel
theorem dX1_lastNumber_30 : decode cX1_lastNumber 30 = .ok (.aload_n 0, 1) := by decide +kernel
theorem dX1_lastNumber_31 : decode cX1_lastNumber 31 = .ok (.getfield 18, 3) := by decide +kernel
theorem dX1_lastNumber_34 : decode cX1_lastNumber 34 = .ok (.iload_n 1, 1) := by decide +kernel
theorem dX1_lastNumber_35 : decode cX1_lastNumber 35 = .ok (.iaload, 1) := by decide +kernel
theorem dX1_lastNumber_36 : decode cX1_lastNumber 36 = .ok (.iadd, 1) := by decide +kernel
theorem dX1_lastNumber_37 : decode cX1_lastNumber 37 = .ok (.iconst 1, 1) := by decide +kernel
theorem dX1_lastNumber_38 : decode cX1_lastNumber 38 = .ok (.isub, 1) := by decide +kernel
theorem dX1_lastNumber_39 : decode cX1_lastNumber 39 = .ok (.iaload, 1) := by decide +kernel
theorem dX1_lastNumber_40 : decode cX1_lastNumber 40 = .ok (.ireturn, 1) := by decide +kernel
theorem dX1_partedBest_0 : decode cX1_partedBest 0 = .ok (.bipush (-4), 2) := by decide +kernel
theorem dX1_partedBest_2 : decode cX1_partedBest 2 = .ok (.istore_n 3, 1) := by decide +kernel
theorem dX1_partedBest_3 : decode cX1_partedBest 3 = .ok (.iload_n 2, 1) := by decide +kernel
theorem dX1_partedBest_4 : decode cX1_partedBest 4 = .ok (.istore 4, 2) := by decide +kernel
theorem dX1_partedBest_6 : decode cX1_partedBest 6 = .ok (.iconst 0, 1) := by decide +kernel
theorem dX1_partedBest_7 : decode cX1_partedBest 7 = .ok (.istore 5, 2) := by decide +kernel
theorem dX1_partedBest_9 : decode cX1_partedBest 9 = .ok (.iload 5, 2) := by decide +kernel
theorem dX1_partedBest_11 : decode cX1_partedBest 11 = .ok (.bipush 8, 2) := by decide +kernel
theorem dX1_partedBest_13 : decode cX1_partedBest 13 = .ok (.if_icmp .ge 62, 3) := by decide +kernel
theorem dX1_partedBest_16 : decode cX1_partedBest 16 = .ok (.iconst 0, 1) := by decide +kernel
theorem dX1_partedBest_17 : decode cX1_partedBest 17 = .ok (.istore 6, 2) := by decide +kernel
theorem dX1_partedBest_19 : decode cX1_partedBest 19 = .ok (.iconst 0, 1) := by decide +kernel
theorem dX1_partedBest_20 : decode cX1_partedBest 20 = .ok (.istore 7, 2) := by decide +kernel
theorem dX1_partedBest_22 : decode cX1_partedBest 22 = .ok (.iload 7, 2) := by decide +kernel
theorem dX1_partedBest_24 : decode cX1_partedBest 24 = .ok (.iconst 4, 1) := by decide +kernel
theorem dX1_partedBest_25 : decode cX1_partedBest 25 = .ok (.if_icmp .ge 25, 3) := by decide +kernel
theorem dX1_partedBest_28 : decode cX1_partedBest 28 = .ok (.iload 6, 2) := by decide +kernel
theorem dX1_partedBest_30 : decode cX1_partedBest 30 = .ok (.aload_n 1, 1) := by decide +kernel
theorem dX1_partedBest_31 : decode cX1_partedBest 31 = .ok (.iload 5, 2) := by decide +kernel
theorem dX1_partedBest_33 : decode cX1_partedBest 33 = .ok (.iconst 4, 1) := by decide +kernel
theorem dX1_partedBest_34 : decode cX1_partedBest 34 = .ok (.imul, 1) := by decide +kernel
theorem dX1_partedBest_35 : decode cX1_partedBest 35 = .ok (.iload 7, 2) := by decide +kernel
theorem dX1_partedBest_37 : decode cX1_partedBest 37 = .ok (.iadd, 1) := by decide +kernel
theorem dX1_partedBest_38 : decode cX1_partedBest 38 = .ok (.iaload, 1) := by decide +kernel
theorem dX1_partedBest_39 : decode cX1_partedBest 39 = .ok (.invokestatic 55, 3) := by decide +kernel
theorem dX1_partedBest_42 : decode cX1_partedBest 42 = .ok (.istore 6, 2) := by decide +kernel
theorem dX1_partedBest_44 : decode cX1_partedBest 44 = .ok (.iinc 7 1, 3) := by decide +kernel
theorem dX1_partedBest_47 : decode cX1_partedBest 47 = .ok (.goto (-25), 3) := by decide +kernel
theorem dX1_partedBest_50 : decode cX1_partedBest 50 = .ok (.iload 6, 2) := by decide +kernel
theorem dX1_partedBest_52 : decode cX1_partedBest 52 = .ok (.ifCond .le 17, 3) := by decide +kernel
theorem dX1_partedBest_55 : decode cX1_partedBest 55 = .ok (.iload 6, 2) := by decide +kernel
theorem dX1_partedBest_57 : decode cX1_partedBest 57 = .ok (.iload 4, 2) := by decide +kernel
theorem dX1_partedBest_59 : decode cX1_partedBest 59 = .ok (.if_icmp .ge 10, 3) := by decide +kernel
theorem dX1_partedBest_62 : decode cX1_partedBest 62 = .ok (.iload 6, 2) := by decide +kernel
theorem dX1_partedBest_64 : decode cX1_partedBest 64 = .ok (.istore 4, 2) := by decide +kernel
theorem dX1_partedBest_66 : decode cX1_partedBest 66 = .ok (.iload 5, 2) := by decide +kernel
theorem dX1_partedBest_68 : decode cX1_partedBest 68 = .ok (.istore_n 3, 1) := by decide +kernel
theorem dX1_partedBest_69 : decode cX1_partedBest 69 = .ok (.iinc 5 1, 3) := by decide +kernel
theorem dX1_partedBest_72 : decode cX1_partedBest 72 = .ok (.goto (-63), 3) := by decide +kernel
theorem dX1_partedBest_75 : decode cX1_partedBest 75 = .ok (.iload_n 3, 1) := by decide +kernel
theorem dX1_partedBest_76 : decode cX1_partedBest 76 = .ok (.ireturn, 1) := by decide +kernel
theorem dX1_questions_0 : decode cX1_questions 0 = .ok (.aload_n 0, 1) := by decide +kernel
theorem dX1_questions_1 : decode cX1_questions 1 = .ok (.getfield 35, 3) := by decide +kernel
theorem dX1_questions_4 : decode cX1_questions 4 = .ok (.ifCond .eq 12, 3) := by decide +kernel
theorem dX1_questions_7 : decode cX1_questions 7 = .ok (.aload_n 0, 1) := by decide +kernel
theorem dX1_questions_8 : decode cX1_questions 8 = .ok (.getfield 35, 3) := by decide +kernel
theorem dX1_questions_11 : decode cX1_questions 11 = .ok (.bipush 60, 2) := by decide +kernel
theorem dX1_questions_13 : decode cX1_questions 13 = .ok (.if_icmp .le 6, 3) := by decide +kernel
theorem dX1_questions_16 : decode cX1_questions 16 = .ok (.bipush (-4), 2) := by decide +kernel
theorem dX1_questions_18 : decode cX1_questions 18 = .ok (.ireturn, 1) := by decide +kernel
theorem dX1_questions_19 : decode cX1_questions 19 = .ok (.iconst 0, 1) := by decide +kernel
theorem dX1_questions_20 : decode cX1_questions 20 = .ok (.istore_n 1, 1) := by decide +kernel
theorem dX1_questions_21 : decode cX1_questions 21 = .ok (.iconst 0, 1) := by decide +kernel
theorem dX1_questions_22 : decode cX1_questions 22 = .ok (.istore_n 2, 1) := by decide +kernel
theorem dX1_questions_23 : decode cX1_questions 23 = .ok (.iload_n 2, 1) := by decide +kernel
theorem dX1_questions_24 : decode cX1_questions 24 = .ok (.aload_n 0, 1) := by decide +kernel
theorem dX1_questions_25 : decode cX1_questions 25 = .ok (.getfield 35, 3) := by decide +kernel
theorem dX1_questions_28 : decode cX1_questions 28 = .ok (.if_icmp .ge 19, 3) := by decide +kernel
theorem dX1_questions_31 : decode cX1_questions 31 = .ok (.iload_n 1, 1) := by decide +kernel
theorem dX1_questions_32 : decode cX1_questions 32 = .ok (.aload_n 0, 1) := by decide +kernel
theorem dX1_questions_33 : decode cX1_questions 33 = .ok (.iload_n 2, 1) := by decide +kernel
theorem dX1_questions_34 : decode cX1_questions 34 = .ok (.invokevirtual 61, 3) := by decide +kernel
theorem dX1_questions_37 : decode cX1_questions 37 = .ok (.invokestatic 55, 3) := by decide +kernel
theorem dX1_questions_40 : decode cX1_questions 40 = .ok (.istore_n 1, 1) := by decide +kernel
theorem dX1_questions_41 : decode cX1_questions 41 = .ok (.iinc 2 1, 3) := by decide +kernel
theorem dX1_questions_44 : decode cX1_questions 44 = .ok (.goto (-21), 3) := by decide +kernel
theorem dX1_questions_47 : decode cX1_questions 47 = .ok (.iload_n 1, 1) := by decide +kernel
theorem dX1_questions_48 : decode cX1_questions 48 = .ok (.ireturn, 1) := by decide +kernel
theorem dX1_questionsIfTrue_0 : decode cX1_questionsIfTrue 0 = .ok (.aload_n 0, 1) := by decide +kernel
theorem dX1_questionsIfTrue_1 : decode cX1_questionsIfTrue 1 = .ok (.iload_n 1, 1) := by decide +kernel
theorem dX1_questionsIfTrue_2 : decode cX1_questionsIfTrue 2 = .ok (.invokevirtual 64, 3) := by decide +kernel
theorem dX1_questionsIfTrue_5 : decode cX1_questionsIfTrue 5 = .ok (.lstore_n 2, 1) := by decide +kernel
theorem dX1_questionsIfTrue_6 : decode cX1_questionsIfTrue 6 = .ok (.lconst 1, 1) := by decide +kernel
theorem dX1_questionsIfTrue_7 : decode cX1_questionsIfTrue 7 = .ok (.aload_n 0, 1) := by decide +kernel
theorem dX1_questionsIfTrue_8 : decode cX1_questionsIfTrue 8 = .ok (.getfield 35, 3) := by decide +kernel
theorem dX1_questionsIfTrue_11 : decode cX1_questionsIfTrue 11 = .ok (.lshl, 1) := by decide +kernel
theorem dX1_questionsIfTrue_12 : decode cX1_questionsIfTrue 12 = .ok (.lconst 1, 1) := by decide +kernel
theorem dX1_questionsIfTrue_13 : decode cX1_questionsIfTrue 13 = .ok (.lsub, 1) := by decide +kernel
theorem dX1_questionsIfTrue_14 : decode cX1_questionsIfTrue 14 = .ok (.lstore 4, 2) := by decide +kernel
theorem dX1_questionsIfTrue_16 : decode cX1_questionsIfTrue 16 = .ok (.iconst 0, 1) := by decide +kernel
theorem dX1_questionsIfTrue_17 : decode cX1_questionsIfTrue 17 = .ok (.istore 6, 2) := by decide +kernel
theorem dX1_questionsIfTrue_19 : decode cX1_questionsIfTrue 19 = .ok (.iload 6, 2) := by decide +kernel
theorem dX1_questionsIfTrue_21 : decode cX1_questionsIfTrue 21 = .ok (.bipush 8, 2) := by decide +kernel
theorem dX1_questionsIfTrue_23 : decode cX1_questionsIfTrue 23 = .ok (.if_icmp .ge 96, 3) := by decide +kernel
theorem dX1_questionsIfTrue_26 : decode cX1_questionsIfTrue 26 = .ok (.lload 4, 2) := by decide +kernel
theorem dX1_questionsIfTrue_28 : decode cX1_questionsIfTrue 28 = .ok (.lload_n 2, 1) := by decide +kernel
theorem dX1_questionsIfTrue_29 : decode cX1_questionsIfTrue 29 = .ok (.ldc2_w 68, 3) := by decide +kernel
theorem dX1_questionsIfTrue_32 : decode cX1_questionsIfTrue 32 = .ok (.lxor, 1) := by decide +kernel
theorem dX1_questionsIfTrue_33 : decode cX1_questionsIfTrue 33 = .ok (.land, 1) := by decide +kernel
theorem dX1_questionsIfTrue_34 : decode cX1_questionsIfTrue 34 = .ok (.lconst 0, 1) := by decide +kernel
theorem dX1_questionsIfTrue_35 : decode cX1_questionsIfTrue 35 = .ok (.lcmp, 1) := by decide +kernel
theorem dX1_questionsIfTrue_36 : decode cX1_questionsIfTrue 36 = .ok (.ifCond .ne 6, 3) := by decide +kernel
theorem dX1_questionsIfTrue_39 : decode cX1_questionsIfTrue 39 = .ok (.iload 6, 2) := by decide +kernel
theorem dX1_questionsIfTrue_41 : decode cX1_questionsIfTrue 41 = .ok (.ireturn, 1) := by decide +kernel
theorem dX1_questionsIfTrue_42 : decode cX1_questionsIfTrue 42 = .ok (.iconst 0, 1) := by decide +kernel
theorem dX1_questionsIfTrue_43 : decode cX1_questionsIfTrue 43 = .ok (.istore 7, 2) := by decide +kernel
theorem dX1_questionsIfTrue_45 : decode cX1_questionsIfTrue 45 = .ok (.iload 7, 2) := by decide +kernel
theorem dX1_questionsIfTrue_47 : decode cX1_questionsIfTrue 47 = .ok (.bipush 32, 2) := by decide +kernel
theorem dX1_questionsIfTrue_49 : decode cX1_questionsIfTrue 49 = .ok (.if_icmp .ge 29, 3) := by decide +kernel
theorem dX1_questionsIfTrue_52 : decode cX1_questionsIfTrue 52 = .ok (.aload_n 0, 1) := by decide +kernel
theorem dX1_questionsIfTrue_53 : decode cX1_questionsIfTrue 53 = .ok (.getfield 28, 3) := by decide +kernel
theorem dX1_questionsIfTrue_56 : decode cX1_questionsIfTrue 56 = .ok (.iload 7, 2) := by decide +kernel
theorem dX1_questionsIfTrue_58 : decode cX1_questionsIfTrue 58 = .ok (.lload 4, 2) := by decide +kernel
theorem dX1_questionsIfTrue_60 : decode cX1_questionsIfTrue 60 = .ok (.aload_n 0, 1) := by decide +kernel
theorem dX1_questionsIfTrue_61 : decode cX1_questionsIfTrue 61 = .ok (.getfield 24, 3) := by decide +kernel
theorem dX1_questionsIfTrue_64 : decode cX1_questionsIfTrue 64 = .ok (.iload 7, 2) := by decide +kernel
theorem dX1_questionsIfTrue_66 : decode cX1_questionsIfTrue 66 = .ok (.laload, 1) := by decide +kernel
theorem dX1_questionsIfTrue_67 : decode cX1_questionsIfTrue 67 = .ok (.land, 1) := by decide +kernel
theorem dX1_questionsIfTrue_68 : decode cX1_questionsIfTrue 68 = .ok (.invokestatic 70, 3) := by decide +kernel
theorem dX1_questionsIfTrue_71 : decode cX1_questionsIfTrue 71 = .ok (.iastore, 1) := by decide +kernel
theorem dX1_questionsIfTrue_72 : decode cX1_questionsIfTrue 72 = .ok (.iinc 7 1, 3) := by decide +kernel
theorem dX1_questionsIfTrue_75 : decode cX1_questionsIfTrue 75 = .ok (.goto (-30), 3) := by decide +kernel
theorem dX1_questionsIfTrue_78 : decode cX1_questionsIfTrue 78 = .ok (.aload_n 0, 1) := by decide +kernel
theorem dX1_questionsIfTrue_79 : decode cX1_questionsIfTrue 79 = .ok (.aload_n 0, 1) := by decide +kernel
theorem dX1_questionsIfTrue_80 : decode cX1_questionsIfTrue 80 = .ok (.getfield 28, 3) := by decide +kernel
theorem dX1_questionsIfTrue_83 : decode cX1_questionsIfTrue 83 = .ok (.lload 4, 2) := by decide +kernel
theorem dX1_questionsIfTrue_85 : decode cX1_questionsIfTrue 85 = .ok (.invokestatic 70, 3) := by decide +kernel
theorem dX1_questionsIfTrue_88 : decode cX1_questionsIfTrue 88 = .ok (.invokevirtual 76, 3) := by decide +kernel
theorem dX1_questionsIfTrue_91 : decode cX1_questionsIfTrue 91 = .ok (.istore 7, 2) := by decide +kernel
theorem dX1_questionsIfTrue_93 : decode cX1_questionsIfTrue 93 = .ok (.iload 7, 2) := by decide +kernel
theorem dX1_questionsIfTrue_95 : decode cX1_questionsIfTrue 95 = .ok (.ifCond .ge 6, 3) := by decide +kernel
theorem dX1_questionsIfTrue_98 : decode cX1_questionsIfTrue 98 = .ok (.iload 6, 2) := by decide +kernel
theorem dX1_questionsIfTrue_100 : decode cX1_questionsIfTrue 100 = .ok (.ireturn, 1) := by decide +kernel
theorem dX1_questionsIfTrue_101 : decode cX1_questionsIfTrue 101 = .ok (.lload 4, 2) := by decide +kernel
theorem dX1_questionsIfTrue_103 : decode cX1_questionsIfTrue 103 = .ok (.aload_n 0, 1) := by decide +kernel
theorem dX1_questionsIfTrue_104 : decode cX1_questionsIfTrue 104 = .ok (.iload_n 1, 1) := by decide +kernel
theorem dX1_questionsIfTrue_105 : decode cX1_questionsIfTrue 105 = .ok (.iload 7, 2) := by decide +kernel
theorem dX1_questionsIfTrue_107 : decode cX1_questionsIfTrue 107 = .ok (.invokevirtual 80, 3) := by decide +kernel
theorem dX1_questionsIfTrue_110 : decode cX1_questionsIfTrue 110 = .ok (.land, 1) := by decide +kernel
theorem dX1_questionsIfTrue_111 : decode cX1_questionsIfTrue 111 = .ok (.lstore 4, 2) := by decide +kernel
theorem dX1_questionsIfTrue_113 : decode cX1_questionsIfTrue 113 = .ok (.iinc 6 1, 3) := by decide +kernel
theorem dX1_questionsIfTrue_116 : decode cX1_questionsIfTrue 116 = .ok (.goto (-97), 3) := by decide +kernel
theorem dX1_questionsIfTrue_119 : decode cX1_questionsIfTrue 119 = .ok (.bipush 8, 2) := by decide +kernel
theorem dX1_questionsIfTrue_121 : decode cX1_questionsIfTrue 121 = .ok (.ireturn, 1) := by decide +kernel
theorem dX1_takingLike_0 : decode cX1_takingLike 0 = .ok (.iconst 0, 1) := by decide +kernel
theorem dX1_takingLike_1 : decode cX1_takingLike 1 = .ok (.istore_n 3, 1) := by decide +kernel
theorem dX1_takingLike_2 : decode cX1_takingLike 2 = .ok (.iload_n 3, 1) := by decide +kernel
theorem dX1_takingLike_3 : decode cX1_takingLike 3 = .ok (.iconst 4, 1) := by decide +kernel
theorem dX1_takingLike_4 : decode cX1_takingLike 4 = .ok (.if_icmp .ge 35, 3) := by decide +kernel
theorem dX1_takingLike_7 : decode cX1_takingLike 7 = .ok (.aload_n 0, 1) := by decide +kernel
theorem dX1_takingLike_8 : decode cX1_takingLike 8 = .ok (.getfield 24, 3) := by decide +kernel
theorem dX1_takingLike_11 : decode cX1_takingLike 11 = .ok (.iload_n 2, 1) := by decide +kernel
theorem dX1_takingLike_12 : decode cX1_takingLike 12 = .ok (.iconst 4, 1) := by decide +kernel
theorem dX1_takingLike_13 : decode cX1_takingLike 13 = .ok (.imul, 1) := by decide +kernel
theorem dX1_takingLike_14 : decode cX1_takingLike 14 = .ok (.iload_n 3, 1) := by decide +kernel
theorem dX1_takingLike_15 : decode cX1_takingLike 15 = .ok (.iadd, 1) := by decide +kernel
theorem dX1_takingLike_16 : decode cX1_takingLike 16 = .ok (.laload, 1) := by decide +kernel
theorem dX1_takingLike_17 : decode cX1_takingLike 17 = .ok (.lstore 4, 2) := by decide +kernel
theorem dX1_takingLike_19 : decode cX1_takingLike 19 = .ok (.lload 4, 2) := by decide +kernel
theorem dX1_takingLike_21 : decode cX1_takingLike 21 = .ok (.iload_n 1, 1) := by decide +kernel
theorem dX1_takingLike_22 : decode cX1_takingLike 22 = .ok (.lushr, 1) := by decide +kernel
theorem dX1_takingLike_23 : decode cX1_takingLike 23 = .ok (.lconst 1, 1) := by decide +kernel
theorem dX1_takingLike_24 : decode cX1_takingLike 24 = .ok (.land, 1) := by decide +kernel
theorem dX1_takingLike_25 : decode cX1_takingLike 25 = .ok (.lconst 0, 1) := by decide +kernel
theorem dX1_takingLike_26 : decode cX1_takingLike 26 = .ok (.lcmp, 1) := by decide +kernel
theorem dX1_takingLike_27 : decode cX1_takingLike 27 = .ok (.ifCond .eq 6, 3) := by decide +kernel
theorem dX1_takingLike_30 : decode cX1_takingLike 30 = .ok (.lload 4, 2) := by decide +kernel
theorem dX1_takingLike_32 : decode cX1_takingLike 32 = .ok (.lreturn, 1) := by decide +kernel
theorem dX1_takingLike_33 : decode cX1_takingLike 33 = .ok (.iinc 3 1, 3) := by decide +kernel
theorem dX1_takingLike_36 : decode cX1_takingLike 36 = .ok (.goto (-34), 3) := by decide +kernel
theorem dX1_takingLike_39 : decode cX1_takingLike 39 = .ok (.lconst 0, 1) := by decide +kernel
theorem dX1_takingLike_40 : decode cX1_takingLike 40 = .ok (.lreturn, 1) := by decide +kernel
theorem dX1_alikeTo_0 : decode cX1_alikeTo 0 = .ok (.lconst 0, 1) := by decide +kernel
theorem dX1_alikeTo_1 : decode cX1_alikeTo 1 = .ok (.lstore_n 2, 1) := by decide +kernel
theorem dX1_alikeTo_2 : decode cX1_alikeTo 2 = .ok (.iconst 0, 1) := by decide +kernel
theorem dX1_alikeTo_3 : decode cX1_alikeTo 3 = .ok (.istore 4, 2) := by decide +kernel
theorem dX1_alikeTo_5 : decode cX1_alikeTo 5 = .ok (.iload 4, 2) := by decide +kernel
theorem dX1_alikeTo_7 : decode cX1_alikeTo 7 = .ok (.aload_n 0, 1) := by decide +kernel
theorem dX1_alikeTo_8 : decode cX1_alikeTo 8 = .ok (.getfield 35, 3) := by decide +kernel
theorem dX1_alikeTo_11 : decode cX1_alikeTo 11 = .ok (.if_icmp .ge 26, 3) := by decide +kernel
theorem dX1_alikeTo_14 : decode cX1_alikeTo 14 = .ok (.aload_n 0, 1) := by decide +kernel
theorem dX1_alikeTo_15 : decode cX1_alikeTo 15 = .ok (.iload_n 1, 1) := by decide +kernel
theorem dX1_alikeTo_16 : decode cX1_alikeTo 16 = .ok (.iload 4, 2) := by decide +kernel
theorem dX1_alikeTo_18 : decode cX1_alikeTo 18 = .ok (.invokevirtual 84, 3) := by decide +kernel
theorem dX1_alikeTo_21 : decode cX1_alikeTo 21 = .ok (.ifCond .eq 10, 3) := by decide +kernel
theorem dX1_alikeTo_24 : decode cX1_alikeTo 24 = .ok (.lload_n 2, 1) := by decide +kernel
theorem dX1_alikeTo_25 : decode cX1_alikeTo 25 = .ok (.lconst 1, 1) := by decide +kernel
theorem dX1_alikeTo_26 : decode cX1_alikeTo 26 = .ok (.iload 4, 2) := by decide +kernel
theorem dX1_alikeTo_28 : decode cX1_alikeTo 28 = .ok (.lshl, 1) := by decide +kernel
theorem dX1_alikeTo_29 : decode cX1_alikeTo 29 = .ok (.lor, 1) := by decide +kernel
theorem dX1_alikeTo_30 : decode cX1_alikeTo 30 = .ok (.lstore_n 2, 1) := by decide +kernel
theorem dX1_alikeTo_31 : decode cX1_alikeTo 31 = .ok (.iinc 4 1, 3) := by decide +kernel
theorem dX1_alikeTo_34 : decode cX1_alikeTo 34 = .ok (.goto (-29), 3) := by decide +kernel
theorem dX1_alikeTo_37 : decode cX1_alikeTo 37 = .ok (.lload_n 2, 1) := by decide +kernel
theorem dX1_alikeTo_38 : decode cX1_alikeTo 38 = .ok (.lreturn, 1) := by decide +kernel
theorem dX1_isAlike_0 : decode cX1_isAlike 0 = .ok (.aload_n 0, 1) := by decide +kernel
theorem dX1_isAlike_1 : decode cX1_isAlike 1 = .ok (.getfield 18, 3) := by decide +kernel
theorem dX1_isAlike_4 : decode cX1_isAlike 4 = .ok (.iload_n 1, 1) := by decide +kernel
theorem dX1_isAlike_5 : decode cX1_isAlike 5 = .ok (.iaload, 1) := by decide +kernel
theorem dX1_isAlike_6 : decode cX1_isAlike 6 = .ok (.aload_n 0, 1) := by decide +kernel
theorem dX1_isAlike_7 : decode cX1_isAlike 7 = .ok (.getfield 18, 3) := by decide +kernel
theorem dX1_isAlike_10 : decode cX1_isAlike 10 = .ok (.iload_n 2, 1) := by decide +kernel
theorem dX1_isAlike_11 : decode cX1_isAlike 11 = .ok (.iaload, 1) := by decide +kernel
theorem dX1_isAlike_12 : decode cX1_isAlike 12 = .ok (.if_icmp .eq 5, 3) := by decide +kernel
theorem dX1_isAlike_15 : decode cX1_isAlike 15 = .ok (.iconst 0, 1) := by decide +kernel
theorem dX1_isAlike_16 : decode cX1_isAlike 16 = .ok (.ireturn, 1) := by decide +kernel
theorem dX1_isAlike_17 : decode cX1_isAlike 17 = .ok (.iconst 0, 1) := by decide +kernel
theorem dX1_isAlike_18 : decode cX1_isAlike 18 = .ok (.istore_n 3, 1) := by decide +kernel
theorem dX1_isAlike_19 : decode cX1_isAlike 19 = .ok (.iload_n 3, 1) := by decide +kernel
theorem dX1_isAlike_20 : decode cX1_isAlike 20 = .ok (.aload_n 0, 1) := by decide +kernel
theorem dX1_isAlike_21 : decode cX1_isAlike 21 = .ok (.getfield 18, 3) := by decide +kernel
theorem dX1_isAlike_24 : decode cX1_isAlike 24 = .ok (.iload_n 1, 1) := by decide +kernel
theorem dX1_isAlike_25 : decode cX1_isAlike 25 = .ok (.iaload, 1) := by decide +kernel
theorem dX1_isAlike_26 : decode cX1_isAlike 26 = .ok (.if_icmp .ge 34, 3) := by decide +kernel
theorem dX1_isAlike_29 : decode cX1_isAlike 29 = .ok (.aload_n 0, 1) := by decide +kernel
theorem dX1_isAlike_30 : decode cX1_isAlike 30 = .ok (.getfield 21, 3) := by decide +kernel
theorem dX1_isAlike_33 : decode cX1_isAlike 33 = .ok (.iload_n 1, 1) := by decide +kernel
theorem dX1_isAlike_34 : decode cX1_isAlike 34 = .ok (.iconst 4, 1) := by decide +kernel
theorem dX1_isAlike_35 : decode cX1_isAlike 35 = .ok (.imul, 1) := by decide +kernel
theorem dX1_isAlike_36 : decode cX1_isAlike 36 = .ok (.iload_n 3, 1) := by decide +kernel
theorem dX1_isAlike_37 : decode cX1_isAlike 37 = .ok (.iadd, 1) := by decide +kernel
theorem dX1_isAlike_38 : decode cX1_isAlike 38 = .ok (.iaload, 1) := by decide +kernel
theorem dX1_isAlike_39 : decode cX1_isAlike 39 = .ok (.aload_n 0, 1) := by decide +kernel
theorem dX1_isAlike_40 : decode cX1_isAlike 40 = .ok (.getfield 21, 3) := by decide +kernel
theorem dX1_isAlike_43 : decode cX1_isAlike 43 = .ok (.iload_n 2, 1) := by decide +kernel
theorem dX1_isAlike_44 : decode cX1_isAlike 44 = .ok (.iconst 4, 1) := by decide +kernel
theorem dX1_isAlike_45 : decode cX1_isAlike 45 = .ok (.imul, 1) := by decide +kernel
theorem dX1_isAlike_46 : decode cX1_isAlike 46 = .ok (.iload_n 3, 1) := by decide +kernel
theorem dX1_isAlike_47 : decode cX1_isAlike 47 = .ok (.iadd, 1) := by decide +kernel
theorem dX1_isAlike_48 : decode cX1_isAlike 48 = .ok (.iaload, 1) := by decide +kernel
theorem dX1_isAlike_49 : decode cX1_isAlike 49 = .ok (.if_icmp .eq 5, 3) := by decide +kernel
theorem dX1_isAlike_52 : decode cX1_isAlike 52 = .ok (.iconst 0, 1) := by decide +kernel
theorem dX1_isAlike_53 : decode cX1_isAlike 53 = .ok (.ireturn, 1) := by decide +kernel
theorem dX1_isAlike_54 : decode cX1_isAlike 54 = .ok (.iinc 3 1, 3) := by decide +kernel
theorem dX1_isAlike_57 : decode cX1_isAlike 57 = .ok (.goto (-38), 3) := by decide +kernel
theorem dX1_isAlike_60 : decode cX1_isAlike 60 = .ok (.iconst 1, 1) := by decide +kernel
theorem dX1_isAlike_61 : decode cX1_isAlike 61 = .ok (.ireturn, 1) := by decide +kernel
theorem dX2_init_0 : decode cX2_init 0 = .ok (.aload_n 0, 1) := by decide +kernel
theorem dX2_init_1 : decode cX2_init 1 = .ok (.invokespecial 3, 3) := by decide +kernel
theorem dX2_init_4 : decode cX2_init 4 = .ok (.aload_n 0, 1) := by decide +kernel
theorem dX2_init_5 : decode cX2_init 5 = .ok (.bipush 8, 2) := by decide +kernel
theorem dX2_init_7 : decode cX2_init 7 = .ok (.newarray .int, 2) := by decide +kernel
theorem dX2_init_9 : decode cX2_init 9 = .ok (.putfield 9, 3) := by decide +kernel
theorem dX2_init_12 : decode cX2_init 12 = .ok (.aload_n 0, 1) := by decide +kernel
theorem dX2_init_13 : decode cX2_init 13 = .ok (.bipush 32, 2) := by decide +kernel
theorem dX2_init_15 : decode cX2_init 15 = .ok (.newarray .int, 2) := by decide +kernel
theorem dX2_init_17 : decode cX2_init 17 = .ok (.putfield 15, 3) := by decide +kernel
theorem dX2_init_20 : decode cX2_init 20 = .ok (.aload_n 0, 1) := by decide +kernel
theorem dX2_init_21 : decode cX2_init 21 = .ok (.bipush 32, 2) := by decide +kernel
theorem dX2_init_23 : decode cX2_init 23 = .ok (.newarray .int, 2) := by decide +kernel
theorem dX2_init_25 : decode cX2_init 25 = .ok (.putfield 18, 3) := by decide +kernel
theorem dX2_init_28 : decode cX2_init 28 = .ok (.aload_n 0, 1) := by decide +kernel
theorem dX2_init_29 : decode cX2_init 29 = .ok (.iconst 1, 1) := by decide +kernel
theorem dX2_init_30 : decode cX2_init 30 = .ok (.putfield 21, 3) := by decide +kernel
theorem dX2_init_33 : decode cX2_init 33 = .ok (.return_, 1) := by decide +kernel
theorem dX2_take_0 : decode cX2_take 0 = .ok (.aload_n 0, 1) := by decide +kernel
theorem dX2_take_1 : decode cX2_take 1 = .ok (.aload_n 1, 1) := by decide +kernel
theorem dX2_take_2 : decode cX2_take 2 = .ok (.invokevirtual 25, 3) := by decide +kernel
theorem dX2_take_5 : decode cX2_take 5 = .ok (.aload_n 0, 1) := by decide +kernel
theorem dX2_take_6 : decode cX2_take 6 = .ok (.aload_n 1, 1) := by decide +kernel
theorem dX2_take_7 : decode cX2_take 7 = .ok (.getfield 29, 3) := by decide +kernel
theorem dX2_take_10 : decode cX2_take 10 = .ok (.putfield 29, 3) := by decide +kernel
theorem dX2_take_13 : decode cX2_take 13 = .ok (.aload_n 0, 1) := by decide +kernel
theorem dX2_take_14 : decode cX2_take 14 = .ok (.aload_n 1, 1) := by decide +kernel
theorem dX2_take_15 : decode cX2_take 15 = .ok (.getfield 32, 3) := by decide +kernel
theorem dX2_take_18 : decode cX2_take 18 = .ok (.putfield 32, 3) := by decide +kernel
theorem dX2_take_21 : decode cX2_take 21 = .ok (.aload_n 0, 1) := by decide +kernel
theorem dX2_take_22 : decode cX2_take 22 = .ok (.aload_n 1, 1) := by decide +kernel
theorem dX2_take_23 : decode cX2_take 23 = .ok (.getfield 21, 3) := by decide +kernel
theorem dX2_take_26 : decode cX2_take 26 = .ok (.putfield 21, 3) := by decide +kernel
theorem dX2_take_29 : decode cX2_take 29 = .ok (.return_, 1) := by decide +kernel
theorem dX2_takeSlots_0 : decode cX2_takeSlots 0 = .ok (.aload_n 1, 1) := by decide +kernel
theorem dX2_takeSlots_1 : decode cX2_takeSlots 1 = .ok (.getfield 9, 3) := by decide +kernel
theorem dX2_takeSlots_4 : decode cX2_takeSlots 4 = .ok (.iconst 0, 1) := by decide +kernel
theorem dX2_takeSlots_5 : decode cX2_takeSlots 5 = .ok (.aload_n 0, 1) := by decide +kernel
theorem dX2_takeSlots_6 : decode cX2_takeSlots 6 = .ok (.getfield 9, 3) := by decide +kernel
theorem dX2_takeSlots_9 : decode cX2_takeSlots 9 = .ok (.iconst 0, 1) := by decide +kernel
theorem dX2_takeSlots_10 : decode cX2_takeSlots 10 = .ok (.bipush 8, 2) := by decide +kernel
theorem dX2_takeSlots_12 : decode cX2_takeSlots 12 = .ok (.invokestatic 35, 3) := by decide +kernel
theorem dX2_takeSlots_15 : decode cX2_takeSlots 15 = .ok (.aload_n 1, 1) := by decide +kernel
theorem dX2_takeSlots_16 : decode cX2_takeSlots 16 = .ok (.getfield 15, 3) := by decide +kernel
theorem dX2_takeSlots_19 : decode cX2_takeSlots 19 = .ok (.iconst 0, 1) := by decide +kernel
theorem dX2_takeSlots_20 : decode cX2_takeSlots 20 = .ok (.aload_n 0, 1) := by decide +kernel
theorem dX2_takeSlots_21 : decode cX2_takeSlots 21 = .ok (.getfield 15, 3) := by decide +kernel
theorem dX2_takeSlots_24 : decode cX2_takeSlots 24 = .ok (.iconst 0, 1) := by decide +kernel
theorem dX2_takeSlots_25 : decode cX2_takeSlots 25 = .ok (.bipush 32, 2) := by decide +kernel
theorem dX2_takeSlots_27 : decode cX2_takeSlots 27 = .ok (.invokestatic 35, 3) := by decide +kernel
theorem dX2_takeSlots_30 : decode cX2_takeSlots 30 = .ok (.aload_n 1, 1) := by decide +kernel
theorem dX2_takeSlots_31 : decode cX2_takeSlots 31 = .ok (.getfield 18, 3) := by decide +kernel
theorem dX2_takeSlots_34 : decode cX2_takeSlots 34 = .ok (.iconst 0, 1) := by decide +kernel
theorem dX2_takeSlots_35 : decode cX2_takeSlots 35 = .ok (.aload_n 0, 1) := by decide +kernel
theorem dX2_takeSlots_36 : decode cX2_takeSlots 36 = .ok (.getfield 18, 3) := by decide +kernel
theorem dX2_takeSlots_39 : decode cX2_takeSlots 39 = .ok (.iconst 0, 1) := by decide +kernel
theorem dX2_takeSlots_40 : decode cX2_takeSlots 40 = .ok (.bipush 32, 2) := by decide +kernel
theorem dX2_takeSlots_42 : decode cX2_takeSlots 42 = .ok (.invokestatic 35, 3) := by decide +kernel
theorem dX2_takeSlots_45 : decode cX2_takeSlots 45 = .ok (.aload_n 0, 1) := by decide +kernel
theorem dX2_takeSlots_46 : decode cX2_takeSlots 46 = .ok (.aload_n 1, 1) := by decide +kernel
theorem dX2_takeSlots_47 : decode cX2_takeSlots 47 = .ok (.getfield 41, 3) := by decide +kernel
theorem dX2_takeSlots_50 : decode cX2_takeSlots 50 = .ok (.putfield 41, 3) := by decide +kernel
theorem dX2_takeSlots_53 : decode cX2_takeSlots 53 = .ok (.return_, 1) := by decide +kernel
theorem dX2_isSlot_0 : decode cX2_isSlot 0 = .ok (.iload_n 1, 1) := by decide +kernel
theorem dX2_isSlot_1 : decode cX2_isSlot 1 = .ok (.ifCond .lt 15, 3) := by decide +kernel
theorem dX2_isSlot_4 : decode cX2_isSlot 4 = .ok (.iload_n 1, 1) := by decide +kernel
theorem dX2_isSlot_5 : decode cX2_isSlot 5 = .ok (.aload_n 0, 1) := by decide +kernel
theorem dX2_isSlot_6 : decode cX2_isSlot 6 = .ok (.getfield 41, 3) := by decide +kernel
theorem dX2_isSlot_9 : decode cX2_isSlot 9 = .ok (.if_icmp .ge 7, 3) := by decide +kernel
theorem dX2_isSlot_12 : decode cX2_isSlot 12 = .ok (.iconst 1, 1) := by decide +kernel
theorem dX2_isSlot_13 : decode cX2_isSlot 13 = .ok (.goto 4, 3) := by decide +kernel
theorem dX2_isSlot_16 : decode cX2_isSlot 16 = .ok (.iconst 0, 1) := by decide +kernel
theorem dX2_isSlot_17 : decode cX2_isSlot 17 = .ok (.ireturn, 1) := by decide +kernel
theorem dX2_find_0 : decode cX2_find 0 = .ok (.aload_n 0, 1) := by decide +kernel
theorem dX2_find_1 : decode cX2_find 1 = .ok (.iload_n 1, 1) := by decide +kernel
theorem dX2_find_2 : decode cX2_find 2 = .ok (.invokevirtual 44, 3) := by decide +kernel
theorem dX2_find_5 : decode cX2_find 5 = .ok (.ifCond .ne 5, 3) := by decide +kernel
theorem dX2_find_8 : decode cX2_find 8 = .ok (.iconst (-1), 1) := by decide +kernel
theorem dX2_find_9 : decode cX2_find 9 = .ok (.ireturn, 1) := by decide +kernel
theorem dX2_find_10 : decode cX2_find 10 = .ok (.iconst 0, 1) := by decide +kernel
theorem dX2_find_11 : decode cX2_find 11 = .ok (.istore_n 3, 1) := by decide +kernel
theorem dX2_find_12 : decode cX2_find 12 = .ok (.iload_n 3, 1) := by decide +kernel
theorem dX2_find_13 : decode cX2_find 13 = .ok (.aload_n 0, 1) := by decide +kernel
theorem dX2_find_14 : decode cX2_find 14 = .ok (.getfield 9, 3) := by decide +kernel
theorem dX2_find_17 : decode cX2_find 17 = .ok (.iload_n 1, 1) := by decide +kernel
theorem dX2_find_18 : decode cX2_find 18 = .ok (.iaload, 1) := by decide +kernel
theorem dX2_find_19 : decode cX2_find 19 = .ok (.if_icmp .ge 25, 3) := by decide +kernel
theorem dX2_find_22 : decode cX2_find 22 = .ok (.aload_n 0, 1) := by decide +kernel
theorem dX2_find_23 : decode cX2_find 23 = .ok (.getfield 15, 3) := by decide +kernel
theorem dX2_find_26 : decode cX2_find 26 = .ok (.iload_n 1, 1) := by decide +kernel
theorem dX2_find_27 : decode cX2_find 27 = .ok (.iconst 4, 1) := by decide +kernel
theorem dX2_find_28 : decode cX2_find 28 = .ok (.imul, 1) := by decide +kernel
theorem dX2_find_29 : decode cX2_find 29 = .ok (.iload_n 3, 1) := by decide +kernel
theorem dX2_find_30 : decode cX2_find 30 = .ok (.iadd, 1) := by decide +kernel
theorem dX2_find_31 : decode cX2_find 31 = .ok (.iaload, 1) := by decide +kernel
theorem dX2_find_32 : decode cX2_find 32 = .ok (.iload_n 2, 1) := by decide +kernel
theorem dX2_find_33 : decode cX2_find 33 = .ok (.if_icmp .ne 5, 3) := by decide +kernel
theorem dX2_find_36 : decode cX2_find 36 = .ok (.iload_n 3, 1) := by decide +kernel
theorem dX2_find_37 : decode cX2_find 37 = .ok (.ireturn, 1) := by decide +kernel
theorem dX2_find_38 : decode cX2_find 38 = .ok (.iinc 3 1, 3) := by decide +kernel
theorem dX2_find_41 : decode cX2_find 41 = .ok (.goto (-29), 3) := by decide +kernel
theorem dX2_find_44 : decode cX2_find 44 = .ok (.iconst (-1), 1) := by decide +kernel
theorem dX2_find_45 : decode cX2_find 45 = .ok (.ireturn, 1) := by decide +kernel
theorem dX2_candidates_0 : decode cX2_candidates 0 = .ok (.iconst 0, 1) := by decide +kernel
theorem dX2_candidates_1 : decode cX2_candidates 1 = .ok (.istore_n 1, 1) := by decide +kernel
theorem dX2_candidates_2 : decode cX2_candidates 2 = .ok (.iconst 0, 1) := by decide +kernel
theorem dX2_candidates_3 : decode cX2_candidates 3 = .ok (.istore_n 2, 1) := by decide +kernel
theorem dX2_candidates_4 : decode cX2_candidates 4 = .ok (.iload_n 2, 1) := by decide +kernel
theorem dX2_candidates_5 : decode cX2_candidates 5 = .ok (.aload_n 0, 1) := by decide +kernel
theorem dX2_candidates_6 : decode cX2_candidates 6 = .ok (.getfield 41, 3) := by decide +kernel
theorem dX2_candidates_9 : decode cX2_candidates 9 = .ok (.if_icmp .ge 18, 3) := by decide +kernel
theorem dX2_candidates_12 : decode cX2_candidates 12 = .ok (.iload_n 1, 1) := by decide +kernel
theorem dX2_candidates_13 : decode cX2_candidates 13 = .ok (.aload_n 0, 1) := by decide +kernel
theorem dX2_candidates_14 : decode cX2_candidates 14 = .ok (.getfield 9, 3) := by decide +kernel
theorem dX2_candidates_17 : decode cX2_candidates 17 = .ok (.iload_n 2, 1) := by decide +kernel
theorem dX2_candidates_18 : decode cX2_candidates 18 = .ok (.iaload, 1) := by decide +kernel
theorem dX2_candidates_19 : decode cX2_candidates 19 = .ok (.iadd, 1) := by decide +kernel
theorem dX2_candidates_20 : decode cX2_candidates 20 = .ok (.istore_n 1, 1) := by decide +kernel
theorem dX2_candidates_21 : decode cX2_candidates 21 = .ok (.iinc 2 1, 3) := by decide +kernel
theorem dX2_candidates_24 : decode cX2_candidates 24 = .ok (.goto (-20), 3) := by decide +kernel
theorem dX2_candidates_27 : decode cX2_candidates 27 = .ok (.iload_n 1, 1) := by decide +kernel
theorem dX2_candidates_28 : decode cX2_candidates 28 = .ok (.ireturn, 1) := by decide +kernel
theorem dX2_isLastFull_0 : decode cX2_isLastFull 0 = .ok (.aload_n 0, 1) := by decide +kernel
theorem dX2_isLastFull_1 : decode cX2_isLastFull 1 = .ok (.getfield 41, 3) := by decide +kernel
theorem dX2_isLastFull_4 : decode cX2_isLastFull 4 = .ok (.ifCond .le 22, 3) := by decide +kernel
theorem dX2_isLastFull_7 : decode cX2_isLastFull 7 = .ok (.aload_n 0, 1) := by decide +kernel
theorem dX2_isLastFull_8 : decode cX2_isLastFull 8 = .ok (.getfield 9, 3) := by decide +kernel
theorem dX2_isLastFull_11 : decode cX2_isLastFull 11 = .ok (.aload_n 0, 1) := by decide +kernel
theorem dX2_isLastFull_12 : decode cX2_isLastFull 12 = .ok (.getfield 41, 3) := by decide +kernel
theorem dX2_isLastFull_15 : decode cX2_isLastFull 15 = .ok (.iconst 1, 1) := by decide +kernel
theorem dX2_isLastFull_16 : decode cX2_isLastFull 16 = .ok (.isub, 1) := by decide +kernel
theorem dX2_isLastFull_17 : decode cX2_isLastFull 17 = .ok (.iaload, 1) := by decide +kernel
theorem dX2_isLastFull_18 : decode cX2_isLastFull 18 = .ok (.iconst 4, 1) := by decide +kernel
theorem dX2_isLastFull_19 : decode cX2_isLastFull 19 = .ok (.if_icmp .lt 7, 3) := by decide +kernel
theorem dX2_isLastFull_22 : decode cX2_isLastFull 22 = .ok (.iconst 1, 1) := by decide +kernel
theorem dX2_isLastFull_23 : decode cX2_isLastFull 23 = .ok (.goto 4, 3) := by decide +kernel
theorem dX2_isLastFull_26 : decode cX2_isLastFull 26 = .ok (.iconst 0, 1) := by decide +kernel
theorem dX2_isLastFull_27 : decode cX2_isLastFull 27 = .ok (.ireturn, 1) := by decide +kernel
theorem dX2_grow_0 : decode cX2_grow 0 = .ok (.aload_n 0, 1) := by decide +kernel
theorem dX2_grow_1 : decode cX2_grow 1 = .ok (.getfield 41, 3) := by decide +kernel
theorem dX2_grow_4 : decode cX2_grow 4 = .ok (.bipush 8, 2) := by decide +kernel
theorem dX2_grow_6 : decode cX2_grow 6 = .ok (.if_icmp .lt 5, 3) := by decide +kernel
theorem dX2_grow_9 : decode cX2_grow 9 = .ok (.iconst 0, 1) := by decide +kernel
theorem dX2_grow_10 : decode cX2_grow 10 = .ok (.ireturn, 1) := by decide +kernel
theorem dX2_grow_11 : decode cX2_grow 11 = .ok (.aload_n 0, 1) := by decide +kernel
theorem dX2_grow_12 : decode cX2_grow 12 = .ok (.getfield 9, 3) := by decide +kernel
theorem dX2_grow_15 : decode cX2_grow 15 = .ok (.aload_n 0, 1) := by decide +kernel
theorem dX2_grow_16 : decode cX2_grow 16 = .ok (.getfield 41, 3) := by decide +kernel
theorem dX2_grow_19 : decode cX2_grow 19 = .ok (.iconst 0, 1) := by decide +kernel
theorem dX2_grow_20 : decode cX2_grow 20 = .ok (.iastore, 1) := by decide +kernel
theorem dX2_grow_21 : decode cX2_grow 21 = .ok (.aload_n 0, 1) := by decide +kernel
theorem dX2_grow_22 : decode cX2_grow 22 = .ok (.dup, 1) := by decide +kernel
theorem dX2_grow_23 : decode cX2_grow 23 = .ok (.getfield 41, 3) := by decide +kernel
theorem dX2_grow_26 : decode cX2_grow 26 = .ok (.iconst 1, 1) := by decide +kernel
theorem dX2_grow_27 : decode cX2_grow 27 = .ok (.iadd, 1) := by decide +kernel
theorem dX2_grow_28 : decode cX2_grow 28 = .ok (.putfield 41, 3) := by decide +kernel
theorem dX2_grow_31 : decode cX2_grow 31 = .ok (.aload_n 0, 1) := by decide +kernel
theorem dX2_grow_32 : decode cX2_grow 32 = .ok (.aload_n 0, 1) := by decide +kernel
theorem dX2_grow_33 : decode cX2_grow 33 = .ok (.getfield 41, 3) := by decide +kernel
theorem dX2_grow_36 : decode cX2_grow 36 = .ok (.iconst 1, 1) := by decide +kernel
theorem dX2_grow_37 : decode cX2_grow 37 = .ok (.isub, 1) := by decide +kernel
theorem dX2_grow_38 : decode cX2_grow 38 = .ok (.iload_n 1, 1) := by decide +kernel
theorem dX2_grow_39 : decode cX2_grow 39 = .ok (.iload_n 2, 1) := by decide +kernel
theorem dX2_grow_40 : decode cX2_grow 40 = .ok (.invokevirtual 48, 3) := by decide +kernel
theorem dX2_grow_43 : decode cX2_grow 43 = .ok (.ireturn, 1) := by decide +kernel
theorem dX2_widen_0 : decode cX2_widen 0 = .ok (.aload_n 0, 1) := by decide +kernel
theorem dX2_widen_1 : decode cX2_widen 1 = .ok (.iload_n 1, 1) := by decide +kernel
theorem dX2_widen_2 : decode cX2_widen 2 = .ok (.invokevirtual 44, 3) := by decide +kernel
theorem dX2_widen_5 : decode cX2_widen 5 = .ok (.ifCond .eq 13, 3) := by decide +kernel
theorem dX2_widen_8 : decode cX2_widen 8 = .ok (.aload_n 0, 1) := by decide +kernel
theorem dX2_widen_9 : decode cX2_widen 9 = .ok (.getfield 9, 3) := by decide +kernel
theorem dX2_widen_12 : decode cX2_widen 12 = .ok (.iload_n 1, 1) := by decide +kernel
theorem dX2_widen_13 : decode cX2_widen 13 = .ok (.iaload, 1) := by decide +kernel
theorem dX2_widen_14 : decode cX2_widen 14 = .ok (.iconst 4, 1) := by decide +kernel
theorem dX2_widen_15 : decode cX2_widen 15 = .ok (.if_icmp .lt 5, 3) := by decide +kernel
theorem dX2_widen_18 : decode cX2_widen 18 = .ok (.iconst 0, 1) := by decide +kernel
theorem dX2_widen_19 : decode cX2_widen 19 = .ok (.ireturn, 1) := by decide +kernel
theorem dX2_widen_20 : decode cX2_widen 20 = .ok (.iload_n 1, 1) := by decide +kernel
theorem dX2_widen_21 : decode cX2_widen 21 = .ok (.iconst 4, 1) := by decide +kernel
theorem dX2_widen_22 : decode cX2_widen 22 = .ok (.imul, 1) := by decide +kernel
theorem dX2_widen_23 : decode cX2_widen 23 = .ok (.aload_n 0, 1) := by decide +kernel
theorem dX2_widen_24 : decode cX2_widen 24 = .ok (.getfield 9, 3) := by decide +kernel
theorem dX2_widen_27 : decode cX2_widen 27 = .ok (.iload_n 1, 1) := by decide +kernel
theorem dX2_widen_28 : decode cX2_widen 28 = .ok (.iaload, 1) := by decide +kernel
theorem dX2_widen_29 : decode cX2_widen 29 = .ok (.iadd, 1) := by decide +kernel
theorem dX2_widen_30 : decode cX2_widen 30 = .ok (.istore 4, 2) := by decide +kernel
theorem dX2_widen_32 : decode cX2_widen 32 = .ok (.aload_n 0, 1) := by decide +kernel
theorem dX2_widen_33 : decode cX2_widen 33 = .ok (.getfield 15, 3) := by decide +kernel
theorem dX2_widen_36 : decode cX2_widen 36 = .ok (.iload 4, 2) := by decide +kernel
theorem dX2_widen_38 : decode cX2_widen 38 = .ok (.iload_n 2, 1) := by decide +kernel
theorem dX2_widen_39 : decode cX2_widen 39 = .ok (.iastore, 1) := by decide +kernel
theorem dX2_widen_40 : decode cX2_widen 40 = .ok (.aload_n 0, 1) := by decide +kernel
theorem dX2_widen_41 : decode cX2_widen 41 = .ok (.getfield 18, 3) := by decide +kernel
theorem dX2_widen_44 : decode cX2_widen 44 = .ok (.iload 4, 2) := by decide +kernel
theorem dX2_widen_46 : decode cX2_widen 46 = .ok (.iload_n 3, 1) := by decide +kernel
theorem dX2_widen_47 : decode cX2_widen 47 = .ok (.iastore, 1) := by decide +kernel
theorem dX2_widen_48 : decode cX2_widen 48 = .ok (.aload_n 0, 1) := by decide +kernel
theorem dX2_widen_49 : decode cX2_widen 49 = .ok (.getfield 9, 3) := by decide +kernel
theorem dX2_widen_52 : decode cX2_widen 52 = .ok (.iload_n 1, 1) := by decide +kernel
theorem dX2_widen_53 : decode cX2_widen 53 = .ok (.dup2, 1) := by decide +kernel
theorem dX2_widen_54 : decode cX2_widen 54 = .ok (.iaload, 1) := by decide +kernel
theorem dX2_widen_55 : decode cX2_widen 55 = .ok (.iconst 1, 1) := by decide +kernel
theorem dX2_widen_56 : decode cX2_widen 56 = .ok (.iadd, 1) := by decide +kernel
theorem dX2_widen_57 : decode cX2_widen 57 = .ok (.iastore, 1) := by decide +kernel
theorem dX2_widen_58 : decode cX2_widen 58 = .ok (.iconst 1, 1) := by decide +kernel
theorem dX2_widen_59 : decode cX2_widen 59 = .ok (.ireturn, 1) := by decide +kernel
theorem dX2_cut_0 : decode cX2_cut 0 = .ok (.aload_n 0, 1) := by decide +kernel
theorem dX2_cut_1 : decode cX2_cut 1 = .ok (.iload_n 1, 1) := by decide +kernel
theorem dX2_cut_2 : decode cX2_cut 2 = .ok (.invokevirtual 44, 3) := by decide +kernel
theorem dX2_cut_5 : decode cX2_cut 5 = .ok (.ifCond .ne 4, 3) := by decide +kernel
theorem dX2_cut_8 : decode cX2_cut 8 = .ok (.return_, 1) := by decide +kernel
theorem dX2_cut_9 : decode cX2_cut 9 = .ok (.aload_n 0, 1) := by decide +kernel
theorem dX2_cut_10 : decode cX2_cut 10 = .ok (.getfield 41, 3) := by decide +kernel
theorem dX2_cut_13 : decode cX2_cut 13 = .ok (.iconst 1, 1) := by decide +kernel
theorem dX2_cut_14 : decode cX2_cut 14 = .ok (.isub, 1) := by decide +kernel
theorem dX2_cut_15 : decode cX2_cut 15 = .ok (.iload_n 1, 1) := by decide +kernel
theorem dX2_cut_16 : decode cX2_cut 16 = .ok (.isub, 1) := by decide +kernel
theorem dX2_cut_17 : decode cX2_cut 17 = .ok (.istore_n 2, 1) := by decide +kernel
theorem dX2_cut_18 : decode cX2_cut 18 = .ok (.iload_n 1, 1) := by decide +kernel
theorem dX2_cut_19 : decode cX2_cut 19 = .ok (.iconst 4, 1) := by decide +kernel
theorem dX2_cut_20 : decode cX2_cut 20 = .ok (.imul, 1) := by decide +kernel
theorem dX2_cut_21 : decode cX2_cut 21 = .ok (.istore_n 3, 1) := by decide +kernel
theorem dX2_cut_22 : decode cX2_cut 22 = .ok (.aload_n 0, 1) := by decide +kernel
theorem dX2_cut_23 : decode cX2_cut 23 = .ok (.getfield 9, 3) := by decide +kernel
theorem dX2_cut_26 : decode cX2_cut 26 = .ok (.iload_n 1, 1) := by decide +kernel
theorem dX2_cut_27 : decode cX2_cut 27 = .ok (.iconst 1, 1) := by decide +kernel
theorem dX2_cut_28 : decode cX2_cut 28 = .ok (.iadd, 1) := by decide +kernel
theorem dX2_cut_29 : decode cX2_cut 29 = .ok (.aload_n 0, 1) := by decide +kernel
theorem dX2_cut_30 : decode cX2_cut 30 = .ok (.getfield 9, 3) := by decide +kernel
theorem dX2_cut_33 : decode cX2_cut 33 = .ok (.iload_n 1, 1) := by decide +kernel
theorem dX2_cut_34 : decode cX2_cut 34 = .ok (.iload_n 2, 1) := by decide +kernel
theorem dX2_cut_35 : decode cX2_cut 35 = .ok (.invokestatic 35, 3) := by decide +kernel
theorem dX2_cut_38 : decode cX2_cut 38 = .ok (.aload_n 0, 1) := by decide +kernel
theorem dX2_cut_39 : decode cX2_cut 39 = .ok (.getfield 15, 3) := by decide +kernel
theorem dX2_cut_42 : decode cX2_cut 42 = .ok (.iload_n 3, 1) := by decide +kernel
theorem dX2_cut_43 : decode cX2_cut 43 = .ok (.iconst 4, 1) := by decide +kernel
theorem dX2_cut_44 : decode cX2_cut 44 = .ok (.iadd, 1) := by decide +kernel
theorem dX2_cut_45 : decode cX2_cut 45 = .ok (.aload_n 0, 1) := by decide +kernel
theorem dX2_cut_46 : decode cX2_cut 46 = .ok (.getfield 15, 3) := by decide +kernel
theorem dX2_cut_49 : decode cX2_cut 49 = .ok (.iload_n 3, 1) := by decide +kernel
theorem dX2_cut_50 : decode cX2_cut 50 = .ok (.iload_n 2, 1) := by decide +kernel
theorem dX2_cut_51 : decode cX2_cut 51 = .ok (.iconst 4, 1) := by decide +kernel
theorem dX2_cut_52 : decode cX2_cut 52 = .ok (.imul, 1) := by decide +kernel
theorem dX2_cut_53 : decode cX2_cut 53 = .ok (.invokestatic 35, 3) := by decide +kernel
theorem dX2_cut_56 : decode cX2_cut 56 = .ok (.aload_n 0, 1) := by decide +kernel
theorem dX2_cut_57 : decode cX2_cut 57 = .ok (.getfield 18, 3) := by decide +kernel
theorem dX2_cut_60 : decode cX2_cut 60 = .ok (.iload_n 3, 1) := by decide +kernel
theorem dX2_cut_61 : decode cX2_cut 61 = .ok (.iconst 4, 1) := by decide +kernel
theorem dX2_cut_62 : decode cX2_cut 62 = .ok (.iadd, 1) := by decide +kernel
theorem dX2_cut_63 : decode cX2_cut 63 = .ok (.aload_n 0, 1) := by decide +kernel
theorem dX2_cut_64 : decode cX2_cut 64 = .ok (.getfield 18, 3) := by decide +kernel
theorem dX2_cut_67 : decode cX2_cut 67 = .ok (.iload_n 3, 1) := by decide +kernel
theorem dX2_cut_68 : decode cX2_cut 68 = .ok (.iload_n 2, 1) := by decide +kernel
theorem dX2_cut_69 : decode cX2_cut 69 = .ok (.iconst 4, 1) := by decide +kernel
theorem dX2_cut_70 : decode cX2_cut 70 = .ok (.imul, 1) := by decide +kernel
theorem dX2_cut_71 : decode cX2_cut 71 = .ok (.invokestatic 35, 3) := by decide +kernel
theorem dX2_cut_74 : decode cX2_cut 74 = .ok (.aload_n 0, 1) := by decide +kernel
theorem dX2_cut_75 : decode cX2_cut 75 = .ok (.dup, 1) := by decide +kernel
theorem dX2_cut_76 : decode cX2_cut 76 = .ok (.getfield 41, 3) := by decide +kernel
theorem dX2_cut_79 : decode cX2_cut 79 = .ok (.iconst 1, 1) := by decide +kernel
theorem dX2_cut_80 : decode cX2_cut 80 = .ok (.isub, 1) := by decide +kernel
theorem dX2_cut_81 : decode cX2_cut 81 = .ok (.putfield 41, 3) := by decide +kernel
theorem dX2_cut_84 : decode cX2_cut 84 = .ok (.return_, 1) := by decide +kernel
theorem dX2_narrowTo_0 : decode cX2_narrowTo 0 = .ok (.aload_n 0, 1) := by decide +kernel
theorem dX2_narrowTo_1 : decode cX2_narrowTo 1 = .ok (.iload_n 1, 1) := by decide +kernel
theorem dX2_narrowTo_2 : decode cX2_narrowTo 2 = .ok (.invokevirtual 44, 3) := by decide +kernel
theorem dX2_narrowTo_5 : decode cX2_narrowTo 5 = .ok (.ifCond .eq 17, 3) := by decide +kernel
theorem dX2_narrowTo_8 : decode cX2_narrowTo 8 = .ok (.iload_n 2, 1) := by decide +kernel
theorem dX2_narrowTo_9 : decode cX2_narrowTo 9 = .ok (.ifCond .lt 13, 3) := by decide +kernel
theorem dX2_narrowTo_12 : decode cX2_narrowTo 12 = .ok (.iload_n 2, 1) := by decide +kernel
theorem dX2_narrowTo_13 : decode cX2_narrowTo 13 = .ok (.aload_n 0, 1) := by decide +kernel
theorem dX2_narrowTo_14 : decode cX2_narrowTo 14 = .ok (.getfield 9, 3) := by decide +kernel
theorem dX2_narrowTo_17 : decode cX2_narrowTo 17 = .ok (.iload_n 1, 1) := by decide +kernel
theorem dX2_narrowTo_18 : decode cX2_narrowTo 18 = .ok (.iaload, 1) := by decide +kernel
theorem dX2_narrowTo_19 : decode cX2_narrowTo 19 = .ok (.if_icmp .lt 4, 3) := by decide +kernel
theorem dX2_narrowTo_22 : decode cX2_narrowTo 22 = .ok (.return_, 1) := by decide +kernel
theorem dX2_narrowTo_23 : decode cX2_narrowTo 23 = .ok (.iload_n 1, 1) := by decide +kernel
theorem dX2_narrowTo_24 : decode cX2_narrowTo 24 = .ok (.iconst 4, 1) := by decide +kernel
theorem dX2_narrowTo_25 : decode cX2_narrowTo 25 = .ok (.imul, 1) := by decide +kernel
theorem dX2_narrowTo_26 : decode cX2_narrowTo 26 = .ok (.istore_n 3, 1) := by decide +kernel
theorem dX2_narrowTo_27 : decode cX2_narrowTo 27 = .ok (.aload_n 0, 1) := by decide +kernel
theorem dX2_narrowTo_28 : decode cX2_narrowTo 28 = .ok (.getfield 15, 3) := by decide +kernel
theorem dX2_narrowTo_31 : decode cX2_narrowTo 31 = .ok (.iload_n 3, 1) := by decide +kernel
theorem dX2_narrowTo_32 : decode cX2_narrowTo 32 = .ok (.aload_n 0, 1) := by decide +kernel
theorem dX2_narrowTo_33 : decode cX2_narrowTo 33 = .ok (.getfield 15, 3) := by decide +kernel
theorem dX2_narrowTo_36 : decode cX2_narrowTo 36 = .ok (.iload_n 3, 1) := by decide +kernel
theorem dX2_narrowTo_37 : decode cX2_narrowTo 37 = .ok (.iload_n 2, 1) := by decide +kernel
theorem dX2_narrowTo_38 : decode cX2_narrowTo 38 = .ok (.iadd, 1) := by decide +kernel
theorem dX2_narrowTo_39 : decode cX2_narrowTo 39 = .ok (.iaload, 1) := by decide +kernel
theorem dX2_narrowTo_40 : decode cX2_narrowTo 40 = .ok (.iastore, 1) := by decide +kernel
theorem dX2_narrowTo_41 : decode cX2_narrowTo 41 = .ok (.aload_n 0, 1) := by decide +kernel
theorem dX2_narrowTo_42 : decode cX2_narrowTo 42 = .ok (.getfield 18, 3) := by decide +kernel
theorem dX2_narrowTo_45 : decode cX2_narrowTo 45 = .ok (.iload_n 3, 1) := by decide +kernel
theorem dX2_narrowTo_46 : decode cX2_narrowTo 46 = .ok (.aload_n 0, 1) := by decide +kernel
theorem dX2_narrowTo_47 : decode cX2_narrowTo 47 = .ok (.getfield 18, 3) := by decide +kernel
theorem dX2_narrowTo_50 : decode cX2_narrowTo 50 = .ok (.iload_n 3, 1) := by decide +kernel
theorem dX2_narrowTo_51 : decode cX2_narrowTo 51 = .ok (.iload_n 2, 1) := by decide +kernel
theorem dX2_narrowTo_52 : decode cX2_narrowTo 52 = .ok (.iadd, 1) := by decide +kernel
theorem dX2_narrowTo_53 : decode cX2_narrowTo 53 = .ok (.iaload, 1) := by decide +kernel
theorem dX2_narrowTo_54 : decode cX2_narrowTo 54 = .ok (.iastore, 1) := by decide +kernel
theorem dX2_narrowTo_55 : decode cX2_narrowTo 55 = .ok (.aload_n 0, 1) := by decide +kernel
theorem dX2_narrowTo_56 : decode cX2_narrowTo 56 = .ok (.getfield 9, 3) := by decide +kernel
theorem dX2_narrowTo_59 : decode cX2_narrowTo 59 = .ok (.iload_n 1, 1) := by decide +kernel
theorem dX2_narrowTo_60 : decode cX2_narrowTo 60 = .ok (.iconst 1, 1) := by decide +kernel
theorem dX2_narrowTo_61 : decode cX2_narrowTo 61 = .ok (.iastore, 1) := by decide +kernel
theorem dX2_narrowTo_62 : decode cX2_narrowTo 62 = .ok (.return_, 1) := by decide +kernel
theorem dX2_turn_0 : decode cX2_turn 0 = .ok (.aload_n 0, 1) := by decide +kernel
theorem dX2_turn_1 : decode cX2_turn 1 = .ok (.aload_n 0, 1) := by decide +kernel
theorem dX2_turn_2 : decode cX2_turn 2 = .ok (.getfield 21, 3) := by decide +kernel
theorem dX2_turn_5 : decode cX2_turn 5 = .ok (.ldc 52, 2) := by decide +kernel
theorem dX2_turn_7 : decode cX2_turn 7 = .ok (.imul, 1) := by decide +kernel
theorem dX2_turn_8 : decode cX2_turn 8 = .ok (.sipush 12345, 3) := by decide +kernel
theorem dX2_turn_11 : decode cX2_turn 11 = .ok (.iadd, 1) := by decide +kernel
theorem dX2_turn_12 : decode cX2_turn 12 = .ok (.ldc 53, 2) := by decide +kernel
theorem dX2_turn_14 : decode cX2_turn 14 = .ok (.iand, 1) := by decide +kernel
theorem dX2_turn_15 : decode cX2_turn 15 = .ok (.putfield 21, 3) := by decide +kernel
theorem dX2_turn_18 : decode cX2_turn 18 = .ok (.aload_n 0, 1) := by decide +kernel
theorem dX2_turn_19 : decode cX2_turn 19 = .ok (.getfield 41, 3) := by decide +kernel
theorem dX2_turn_22 : decode cX2_turn 22 = .ok (.ifCond .ne 4, 3) := by decide +kernel
theorem dX2_turn_25 : decode cX2_turn 25 = .ok (.return_, 1) := by decide +kernel
theorem dX2_turn_26 : decode cX2_turn 26 = .ok (.aload_n 0, 1) := by decide +kernel
theorem dX2_turn_27 : decode cX2_turn 27 = .ok (.getfield 21, 3) := by decide +kernel
theorem dX2_turn_30 : decode cX2_turn 30 = .ok (.ldc 54, 2) := by decide +kernel
theorem dX2_turn_32 : decode cX2_turn 32 = .ok (.idiv, 1) := by decide +kernel
theorem dX2_turn_33 : decode cX2_turn 33 = .ok (.istore_n 1, 1) := by decide +kernel
theorem dX2_turn_34 : decode cX2_turn 34 = .ok (.iload_n 1, 1) := by decide +kernel
theorem dX2_turn_35 : decode cX2_turn 35 = .ok (.aload_n 0, 1) := by decide +kernel
theorem dX2_turn_36 : decode cX2_turn 36 = .ok (.getfield 41, 3) := by decide +kernel
theorem dX2_turn_39 : decode cX2_turn 39 = .ok (.irem, 1) := by decide +kernel
theorem dX2_turn_40 : decode cX2_turn 40 = .ok (.istore_n 2, 1) := by decide +kernel
theorem dX2_turn_41 : decode cX2_turn 41 = .ok (.iload_n 1, 1) := by decide +kernel
theorem dX2_turn_42 : decode cX2_turn 42 = .ok (.bipush 8, 2) := by decide +kernel
theorem dX2_turn_44 : decode cX2_turn 44 = .ok (.idiv, 1) := by decide +kernel
theorem dX2_turn_45 : decode cX2_turn 45 = .ok (.bipush 32, 2) := by decide +kernel
theorem dX2_turn_47 : decode cX2_turn 47 = .ok (.irem, 1) := by decide +kernel
theorem dX2_turn_48 : decode cX2_turn 48 = .ok (.istore_n 3, 1) := by decide +kernel
theorem dX2_turn_49 : decode cX2_turn 49 = .ok (.aload_n 0, 1) := by decide +kernel
theorem dX2_turn_50 : decode cX2_turn 50 = .ok (.iload_n 2, 1) := by decide +kernel
theorem dX2_turn_51 : decode cX2_turn 51 = .ok (.iload_n 3, 1) := by decide +kernel
theorem dX2_turn_52 : decode cX2_turn 52 = .ok (.invokevirtual 55, 3) := by decide +kernel
theorem dX2_turn_55 : decode cX2_turn 55 = .ok (.ifCond .ge 18, 3) := by decide +kernel
theorem dX2_turn_58 : decode cX2_turn 58 = .ok (.aload_n 0, 1) := by decide +kernel
theorem dX2_turn_59 : decode cX2_turn 59 = .ok (.iload_n 2, 1) := by decide +kernel
theorem dX2_turn_60 : decode cX2_turn 60 = .ok (.iload_n 3, 1) := by decide +kernel
theorem dX2_turn_61 : decode cX2_turn 61 = .ok (.iload_n 1, 1) := by decide +kernel
theorem dX2_turn_62 : decode cX2_turn 62 = .ok (.sipush 256, 3) := by decide +kernel
theorem dX2_turn_65 : decode cX2_turn 65 = .ok (.idiv, 1) := by decide +kernel
theorem dX2_turn_66 : decode cX2_turn 66 = .ok (.bipush 10, 2) := by decide +kernel
theorem dX2_turn_68 : decode cX2_turn 68 = .ok (.irem, 1) := by decide +kernel
theorem dX2_turn_69 : decode cX2_turn 69 = .ok (.invokevirtual 48, 3) := by decide +kernel
theorem dX2_turn_72 : decode cX2_turn 72 = .ok (.pop, 1) := by decide +kernel
theorem dX2_turn_73 : decode cX2_turn 73 = .ok (.return_, 1) := by decide +kernel
theorem dX2_spell_0 : decode cX2_spell 0 = .ok (.aload_n 0, 1) := by decide +kernel
theorem dX2_spell_1 : decode cX2_spell 1 = .ok (.iconst 0, 1) := by decide +kernel
theorem dX2_spell_2 : decode cX2_spell 2 = .ok (.putfield 41, 3) := by decide +kernel
theorem dX2_spell_5 : decode cX2_spell 5 = .ok (.iload_n 1, 1) := by decide +kernel
theorem dX2_spell_6 : decode cX2_spell 6 = .ok (.sipush 1000, 3) := by decide +kernel
theorem dX2_spell_9 : decode cX2_spell 9 = .ok (.if_icmp .lt 27, 3) := by decide +kernel
theorem dX2_spell_12 : decode cX2_spell 12 = .ok (.aload_n 0, 1) := by decide +kernel
theorem dX2_spell_13 : decode cX2_spell 13 = .ok (.iload_n 1, 1) := by decide +kernel
theorem dX2_spell_14 : decode cX2_spell 14 = .ok (.sipush 1000, 3) := by decide +kernel
theorem dX2_spell_17 : decode cX2_spell 17 = .ok (.idiv, 1) := by decide +kernel
theorem dX2_spell_18 : decode cX2_spell 18 = .ok (.invokevirtual 59, 3) := by decide +kernel
theorem dX2_spell_21 : decode cX2_spell 21 = .ok (.ifCond .eq 13, 3) := by decide +kernel
theorem dX2_spell_24 : decode cX2_spell 24 = .ok (.aload_n 0, 1) := by decide +kernel
theorem dX2_spell_25 : decode cX2_spell 25 = .ok (.bipush 29, 2) := by decide +kernel
theorem dX2_spell_27 : decode cX2_spell 27 = .ok (.iconst 0, 1) := by decide +kernel
theorem dX2_spell_28 : decode cX2_spell 28 = .ok (.invokevirtual 62, 3) := by decide +kernel
theorem dX2_spell_31 : decode cX2_spell 31 = .ok (.ifCond .ne 5, 3) := by decide +kernel
theorem dX2_spell_34 : decode cX2_spell 34 = .ok (.iconst 0, 1) := by decide +kernel
theorem dX2_spell_35 : decode cX2_spell 35 = .ok (.ireturn, 1) := by decide +kernel
theorem dX2_spell_36 : decode cX2_spell 36 = .ok (.aload_n 0, 1) := by decide +kernel
theorem dX2_spell_37 : decode cX2_spell 37 = .ok (.iload_n 1, 1) := by decide +kernel
theorem dX2_spell_38 : decode cX2_spell 38 = .ok (.sipush 1000, 3) := by decide +kernel
theorem dX2_spell_41 : decode cX2_spell 41 = .ok (.irem, 1) := by decide +kernel
theorem dX2_spell_42 : decode cX2_spell 42 = .ok (.invokevirtual 59, 3) := by decide +kernel
theorem dX2_spell_45 : decode cX2_spell 45 = .ok (.ireturn, 1) := by decide +kernel
theorem dX2_spellSmall_0 : decode cX2_spellSmall 0 = .ok (.iload_n 1, 1) := by decide +kernel
theorem dX2_spellSmall_1 : decode cX2_spellSmall 1 = .ok (.bipush 100, 2) := by decide +kernel
theorem dX2_spellSmall_3 : decode cX2_spellSmall 3 = .ok (.if_icmp .lt 27, 3) := by decide +kernel
theorem dX2_spellSmall_6 : decode cX2_spellSmall 6 = .ok (.aload_n 0, 1) := by decide +kernel
theorem dX2_spellSmall_7 : decode cX2_spellSmall 7 = .ok (.iload_n 1, 1) := by decide +kernel
theorem dX2_spellSmall_8 : decode cX2_spellSmall 8 = .ok (.bipush 100, 2) := by decide +kernel
theorem dX2_spellSmall_10 : decode cX2_spellSmall 10 = .ok (.idiv, 1) := by decide +kernel
theorem dX2_spellSmall_11 : decode cX2_spellSmall 11 = .ok (.iconst 0, 1) := by decide +kernel
theorem dX2_spellSmall_12 : decode cX2_spellSmall 12 = .ok (.invokevirtual 62, 3) := by decide +kernel
theorem dX2_spellSmall_15 : decode cX2_spellSmall 15 = .ok (.ifCond .eq 13, 3) := by decide +kernel
theorem dX2_spellSmall_18 : decode cX2_spellSmall 18 = .ok (.aload_n 0, 1) := by decide +kernel
theorem dX2_spellSmall_19 : decode cX2_spellSmall 19 = .ok (.bipush 28, 2) := by decide +kernel
theorem dX2_spellSmall_21 : decode cX2_spellSmall 21 = .ok (.iconst 0, 1) := by decide +kernel
theorem dX2_spellSmall_22 : decode cX2_spellSmall 22 = .ok (.invokevirtual 62, 3) := by decide +kernel
theorem dX2_spellSmall_25 : decode cX2_spellSmall 25 = .ok (.ifCond .ne 5, 3) := by decide +kernel
theorem dX2_spellSmall_28 : decode cX2_spellSmall 28 = .ok (.iconst 0, 1) := by decide +kernel
theorem dX2_spellSmall_29 : decode cX2_spellSmall 29 = .ok (.ireturn, 1) := by decide +kernel
theorem dX2_spellSmall_30 : decode cX2_spellSmall 30 = .ok (.iload_n 1, 1) := by decide +kernel
theorem dX2_spellSmall_31 : decode cX2_spellSmall 31 = .ok (.bipush 100, 2) := by decide +kernel
theorem dX2_spellSmall_33 : decode cX2_spellSmall 33 = .ok (.irem, 1) := by decide +kernel
theorem dX2_spellSmall_34 : decode cX2_spellSmall 34 = .ok (.istore_n 2, 1) := by decide +kernel
theorem dX2_spellSmall_35 : decode cX2_spellSmall 35 = .ok (.iload_n 2, 1) := by decide +kernel
theorem dX2_spellSmall_36 : decode cX2_spellSmall 36 = .ok (.bipush 20, 2) := by decide +kernel
theorem dX2_spellSmall_38 : decode cX2_spellSmall 38 = .ok (.if_icmp .lt 40, 3) := by decide +kernel
theorem dX2_spellSmall_41 : decode cX2_spellSmall 41 = .ok (.aload_n 0, 1) := by decide +kernel
theorem dX2_spellSmall_42 : decode cX2_spellSmall 42 = .ok (.iload_n 2, 1) := by decide +kernel
theorem dX2_spellSmall_43 : decode cX2_spellSmall 43 = .ok (.invokestatic 66, 3) := by decide +kernel
theorem dX2_spellSmall_46 : decode cX2_spellSmall 46 = .ok (.iconst 0, 1) := by decide +kernel
theorem dX2_spellSmall_47 : decode cX2_spellSmall 47 = .ok (.invokevirtual 62, 3) := by decide +kernel
theorem dX2_spellSmall_50 : decode cX2_spellSmall 50 = .ok (.ifCond .eq 26, 3) := by decide +kernel
theorem dX2_spellSmall_53 : decode cX2_spellSmall 53 = .ok (.iload_n 2, 1) := by decide +kernel
theorem dX2_spellSmall_54 : decode cX2_spellSmall 54 = .ok (.bipush 10, 2) := by decide +kernel
theorem dX2_spellSmall_56 : decode cX2_spellSmall 56 = .ok (.irem, 1) := by decide +kernel
theorem dX2_spellSmall_57 : decode cX2_spellSmall 57 = .ok (.ifCond .eq 15, 3) := by decide +kernel
theorem dX2_spellSmall_60 : decode cX2_spellSmall 60 = .ok (.aload_n 0, 1) := by decide +kernel
theorem dX2_spellSmall_61 : decode cX2_spellSmall 61 = .ok (.iload_n 2, 1) := by decide +kernel
theorem dX2_spellSmall_62 : decode cX2_spellSmall 62 = .ok (.bipush 10, 2) := by decide +kernel
theorem dX2_spellSmall_64 : decode cX2_spellSmall 64 = .ok (.irem, 1) := by decide +kernel
theorem dX2_spellSmall_65 : decode cX2_spellSmall 65 = .ok (.iconst 0, 1) := by decide +kernel
theorem dX2_spellSmall_66 : decode cX2_spellSmall 66 = .ok (.invokevirtual 62, 3) := by decide +kernel
theorem dX2_spellSmall_69 : decode cX2_spellSmall 69 = .ok (.ifCond .eq 7, 3) := by decide +kernel
theorem dX2_spellSmall_72 : decode cX2_spellSmall 72 = .ok (.iconst 1, 1) := by decide +kernel
theorem dX2_spellSmall_73 : decode cX2_spellSmall 73 = .ok (.goto 4, 3) := by decide +kernel
theorem dX2_spellSmall_76 : decode cX2_spellSmall 76 = .ok (.iconst 0, 1) := by decide +kernel
theorem dX2_spellSmall_77 : decode cX2_spellSmall 77 = .ok (.ireturn, 1) := by decide +kernel
theorem dX2_spellSmall_78 : decode cX2_spellSmall 78 = .ok (.iload_n 2, 1) := by decide +kernel
theorem dX2_spellSmall_79 : decode cX2_spellSmall 79 = .ok (.ifCond .eq 12, 3) := by decide +kernel
theorem dX2_spellSmall_82 : decode cX2_spellSmall 82 = .ok (.aload_n 0, 1) := by decide +kernel
theorem dX2_spellSmall_83 : decode cX2_spellSmall 83 = .ok (.iload_n 2, 1) := by decide +kernel
theorem dX2_spellSmall_84 : decode cX2_spellSmall 84 = .ok (.iconst 0, 1) := by decide +kernel
theorem dX2_spellSmall_85 : decode cX2_spellSmall 85 = .ok (.invokevirtual 62, 3) := by decide +kernel
theorem dX2_spellSmall_88 : decode cX2_spellSmall 88 = .ok (.ifCond .eq 7, 3) := by decide +kernel
theorem dX2_spellSmall_91 : decode cX2_spellSmall 91 = .ok (.iconst 1, 1) := by decide +kernel
theorem dX2_spellSmall_92 : decode cX2_spellSmall 92 = .ok (.goto 4, 3) := by decide +kernel
theorem dX2_spellSmall_95 : decode cX2_spellSmall 95 = .ok (.iconst 0, 1) := by decide +kernel
theorem dX2_spellSmall_96 : decode cX2_spellSmall 96 = .ok (.ireturn, 1) := by decide +kernel
theorem dX3_init_0 : decode cX3_init 0 = .ok (.aload_n 0, 1) := by decide +kernel
theorem dX3_init_1 : decode cX3_init 1 = .ok (.invokespecial 3, 3) := by decide +kernel
theorem dX3_init_4 : decode cX3_init 4 = .ok (.aload_n 0, 1) := by decide +kernel
theorem dX3_init_5 : decode cX3_init 5 = .ok (.bipush 8, 2) := by decide +kernel
theorem dX3_init_7 : decode cX3_init 7 = .ok (.anewarray 9, 3) := by decide +kernel
theorem dX3_init_10 : decode cX3_init 10 = .ok (.putfield 11, 3) := by decide +kernel
theorem dX3_init_13 : decode cX3_init 13 = .ok (.iconst 0, 1) := by decide +kernel
theorem dX3_init_14 : decode cX3_init 14 = .ok (.istore_n 1, 1) := by decide +kernel
theorem dX3_init_15 : decode cX3_init 15 = .ok (.iload_n 1, 1) := by decide +kernel
theorem dX3_init_16 : decode cX3_init 16 = .ok (.bipush 8, 2) := by decide +kernel
theorem dX3_init_18 : decode cX3_init 18 = .ok (.if_icmp .ge 22, 3) := by decide +kernel
theorem dX3_init_21 : decode cX3_init 21 = .ok (.aload_n 0, 1) := by decide +kernel
theorem dX3_init_22 : decode cX3_init 22 = .ok (.getfield 11, 3) := by decide +kernel
theorem dX3_init_25 : decode cX3_init 25 = .ok (.iload_n 1, 1) := by decide +kernel
theorem dX3_init_26 : decode cX3_init 26 = .ok (.new 9, 3) := by decide +kernel
theorem dX3_init_29 : decode cX3_init 29 = .ok (.dup, 1) := by decide +kernel
theorem dX3_init_30 : decode cX3_init 30 = .ok (.invokespecial 17, 3) := by decide +kernel
theorem dX3_init_33 : decode cX3_init 33 = .ok (.aastore, 1) := by decide +kernel
theorem dX3_init_34 : decode cX3_init 34 = .ok (.iinc 1 1, 3) := by decide +kernel
theorem dX3_init_37 : decode cX3_init 37 = .ok (.goto (-22), 3) := by decide +kernel
theorem dX3_init_40 : decode cX3_init 40 = .ok (.return_, 1) := by decide +kernel
theorem dX3_keep_0 : decode cX3_keep 0 = .ok (.aload_n 0, 1) := by decide +kernel
theorem dX3_keep_1 : decode cX3_keep 1 = .ok (.getfield 18, 3) := by decide +kernel
theorem dX3_keep_4 : decode cX3_keep 4 = .ok (.bipush 8, 2) := by decide +kernel
theorem dX3_keep_6 : decode cX3_keep 6 = .ok (.if_icmp .ne 26, 3) := by decide +kernel
theorem dX3_keep_9 : decode cX3_keep 9 = .ok (.aload_n 0, 1) := by decide +kernel
theorem dX3_keep_10 : decode cX3_keep 10 = .ok (.aload_n 0, 1) := by decide +kernel
theorem dX3_keep_11 : decode cX3_keep 11 = .ok (.getfield 22, 3) := by decide +kernel
theorem dX3_keep_14 : decode cX3_keep 14 = .ok (.iconst 1, 1) := by decide +kernel
theorem dX3_keep_15 : decode cX3_keep 15 = .ok (.iadd, 1) := by decide +kernel
theorem dX3_keep_16 : decode cX3_keep 16 = .ok (.bipush 8, 2) := by decide +kernel
theorem dX3_keep_18 : decode cX3_keep 18 = .ok (.irem, 1) := by decide +kernel
theorem dX3_keep_19 : decode cX3_keep 19 = .ok (.putfield 22, 3) := by decide +kernel
theorem dX3_keep_22 : decode cX3_keep 22 = .ok (.aload_n 0, 1) := by decide +kernel
theorem dX3_keep_23 : decode cX3_keep 23 = .ok (.dup, 1) := by decide +kernel
theorem dX3_keep_24 : decode cX3_keep 24 = .ok (.getfield 18, 3) := by decide +kernel
theorem dX3_keep_27 : decode cX3_keep 27 = .ok (.iconst 1, 1) := by decide +kernel
theorem dX3_keep_28 : decode cX3_keep 28 = .ok (.isub, 1) := by decide +kernel
theorem dX3_keep_29 : decode cX3_keep 29 = .ok (.putfield 18, 3) := by decide +kernel
theorem dX3_keep_32 : decode cX3_keep 32 = .ok (.aload_n 0, 1) := by decide +kernel
theorem dX3_keep_33 : decode cX3_keep 33 = .ok (.getfield 11, 3) := by decide +kernel
theorem dX3_keep_36 : decode cX3_keep 36 = .ok (.aload_n 0, 1) := by decide +kernel
theorem dX3_keep_37 : decode cX3_keep 37 = .ok (.getfield 22, 3) := by decide +kernel
theorem dX3_keep_40 : decode cX3_keep 40 = .ok (.aload_n 0, 1) := by decide +kernel
theorem dX3_keep_41 : decode cX3_keep 41 = .ok (.getfield 18, 3) := by decide +kernel
theorem dX3_keep_44 : decode cX3_keep 44 = .ok (.iadd, 1) := by decide +kernel
theorem dX3_keep_45 : decode cX3_keep 45 = .ok (.bipush 8, 2) := by decide +kernel
theorem dX3_keep_47 : decode cX3_keep 47 = .ok (.irem, 1) := by decide +kernel
theorem dX3_keep_48 : decode cX3_keep 48 = .ok (.aaload, 1) := by decide +kernel
theorem dX3_keep_49 : decode cX3_keep 49 = .ok (.aload_n 1, 1) := by decide +kernel
theorem dX3_keep_50 : decode cX3_keep 50 = .ok (.invokevirtual 25, 3) := by decide +kernel
theorem dX3_keep_53 : decode cX3_keep 53 = .ok (.aload_n 0, 1) := by decide +kernel
theorem dX3_keep_54 : decode cX3_keep 54 = .ok (.dup, 1) := by decide +kernel
theorem dX3_keep_55 : decode cX3_keep 55 = .ok (.getfield 18, 3) := by decide +kernel
theorem dX3_keep_58 : decode cX3_keep 58 = .ok (.iconst 1, 1) := by decide +kernel
theorem dX3_keep_59 : decode cX3_keep 59 = .ok (.iadd, 1) := by decide +kernel
theorem dX3_keep_60 : decode cX3_keep 60 = .ok (.putfield 18, 3) := by decide +kernel
theorem dX3_keep_63 : decode cX3_keep 63 = .ok (.return_, 1) := by decide +kernel
theorem dX3_giveBack_0 : decode cX3_giveBack 0 = .ok (.aload_n 0, 1) := by decide +kernel
theorem dX3_giveBack_1 : decode cX3_giveBack 1 = .ok (.getfield 18, 3) := by decide +kernel
theorem dX3_giveBack_4 : decode cX3_giveBack 4 = .ok (.ifCond .le 34, 3) := by decide +kernel
theorem dX3_giveBack_7 : decode cX3_giveBack 7 = .ok (.aload_n 0, 1) := by decide +kernel
theorem dX3_giveBack_8 : decode cX3_giveBack 8 = .ok (.dup, 1) := by decide +kernel
theorem dX3_giveBack_9 : decode cX3_giveBack 9 = .ok (.getfield 18, 3) := by decide +kernel
theorem dX3_giveBack_12 : decode cX3_giveBack 12 = .ok (.iconst 1, 1) := by decide +kernel
theorem dX3_giveBack_13 : decode cX3_giveBack 13 = .ok (.isub, 1) := by decide +kernel
theorem dX3_giveBack_14 : decode cX3_giveBack 14 = .ok (.putfield 18, 3) := by decide +kernel
theorem dX3_giveBack_17 : decode cX3_giveBack 17 = .ok (.aload_n 1, 1) := by decide +kernel
theorem dX3_giveBack_18 : decode cX3_giveBack 18 = .ok (.aload_n 0, 1) := by decide +kernel
theorem dX3_giveBack_19 : decode cX3_giveBack 19 = .ok (.getfield 11, 3) := by decide +kernel
theorem dX3_giveBack_22 : decode cX3_giveBack 22 = .ok (.aload_n 0, 1) := by decide +kernel
theorem dX3_giveBack_23 : decode cX3_giveBack 23 = .ok (.getfield 22, 3) := by decide +kernel
theorem dX3_giveBack_26 : decode cX3_giveBack 26 = .ok (.aload_n 0, 1) := by decide +kernel
theorem dX3_giveBack_27 : decode cX3_giveBack 27 = .ok (.getfield 18, 3) := by decide +kernel
theorem dX3_giveBack_30 : decode cX3_giveBack 30 = .ok (.iadd, 1) := by decide +kernel
theorem dX3_giveBack_31 : decode cX3_giveBack 31 = .ok (.bipush 8, 2) := by decide +kernel
theorem dX3_giveBack_33 : decode cX3_giveBack 33 = .ok (.irem, 1) := by decide +kernel
theorem dX3_giveBack_34 : decode cX3_giveBack 34 = .ok (.aaload, 1) := by decide +kernel
theorem dX3_giveBack_35 : decode cX3_giveBack 35 = .ok (.invokevirtual 25, 3) := by decide +kernel
theorem dX3_giveBack_38 : decode cX3_giveBack 38 = .ok (.return_, 1) := by decide +kernel
theorem dX3_take_0 : decode cX3_take 0 = .ok (.iconst 0, 1) := by decide +kernel
theorem dX3_take_1 : decode cX3_take 1 = .ok (.istore_n 2, 1) := by decide +kernel
theorem dX3_take_2 : decode cX3_take 2 = .ok (.iload_n 2, 1) := by decide +kernel
theorem dX3_take_3 : decode cX3_take 3 = .ok (.bipush 8, 2) := by decide +kernel
theorem dX3_take_5 : decode cX3_take 5 = .ok (.if_icmp .ge 24, 3) := by decide +kernel
theorem dX3_take_8 : decode cX3_take 8 = .ok (.aload_n 0, 1) := by decide +kernel
theorem dX3_take_9 : decode cX3_take 9 = .ok (.getfield 11, 3) := by decide +kernel
theorem dX3_take_12 : decode cX3_take 12 = .ok (.iload_n 2, 1) := by decide +kernel
theorem dX3_take_13 : decode cX3_take 13 = .ok (.aaload, 1) := by decide +kernel
theorem dX3_take_14 : decode cX3_take 14 = .ok (.aload_n 1, 1) := by decide +kernel
theorem dX3_take_15 : decode cX3_take 15 = .ok (.getfield 11, 3) := by decide +kernel
theorem dX3_take_18 : decode cX3_take 18 = .ok (.iload_n 2, 1) := by decide +kernel
theorem dX3_take_19 : decode cX3_take 19 = .ok (.aaload, 1) := by decide +kernel
theorem dX3_take_20 : decode cX3_take 20 = .ok (.invokevirtual 25, 3) := by decide +kernel
theorem dX3_take_23 : decode cX3_take 23 = .ok (.iinc 2 1, 3) := by decide +kernel
theorem dX3_take_26 : decode cX3_take 26 = .ok (.goto (-24), 3) := by decide +kernel
theorem dX3_take_29 : decode cX3_take 29 = .ok (.aload_n 0, 1) := by decide +kernel
theorem dX3_take_30 : decode cX3_take 30 = .ok (.aload_n 1, 1) := by decide +kernel
theorem dX3_take_31 : decode cX3_take 31 = .ok (.getfield 22, 3) := by decide +kernel
theorem dX3_take_34 : decode cX3_take 34 = .ok (.putfield 22, 3) := by decide +kernel
theorem dX3_take_37 : decode cX3_take 37 = .ok (.aload_n 0, 1) := by decide +kernel
theorem dX3_take_38 : decode cX3_take 38 = .ok (.aload_n 1, 1) := by decide +kernel
theorem dX3_take_39 : decode cX3_take 39 = .ok (.getfield 18, 3) := by decide +kernel
theorem dX3_take_42 : decode cX3_take 42 = .ok (.putfield 18, 3) := by decide +kernel
theorem dX3_take_45 : decode cX3_take 45 = .ok (.return_, 1) := by decide +kernel
theorem dX4_init_0 : decode cX4_init 0 = .ok (.aload_n 0, 1) := by decide +kernel
theorem dX4_init_1 : decode cX4_init 1 = .ok (.invokespecial 3, 3) := by decide +kernel
theorem dX4_init_4 : decode cX4_init 4 = .ok (.aload_n 0, 1) := by decide +kernel
theorem dX4_init_5 : decode cX4_init 5 = .ok (.bipush 120, 2) := by decide +kernel
theorem dX4_init_7 : decode cX4_init 7 = .ok (.newarray .char, 2) := by decide +kernel
theorem dX4_init_9 : decode cX4_init 9 = .ok (.putfield 9, 3) := by decide +kernel
theorem dX4_init_12 : decode cX4_init 12 = .ok (.return_, 1) := by decide +kernel
theorem dX4_write_0 : decode cX4_write 0 = .ok (.aload_n 0, 1) := by decide +kernel
theorem dX4_write_1 : decode cX4_write 1 = .ok (.getfield 15, 3) := by decide +kernel
theorem dX4_write_4 : decode cX4_write 4 = .ok (.bipush 120, 2) := by decide +kernel
theorem dX4_write_6 : decode cX4_write 6 = .ok (.if_icmp .lt 5, 3) := by decide +kernel
theorem dX4_write_9 : decode cX4_write 9 = .ok (.iconst 0, 1) := by decide +kernel
theorem dX4_write_10 : decode cX4_write 10 = .ok (.ireturn, 1) := by decide +kernel
theorem dX4_write_11 : decode cX4_write 11 = .ok (.aload_n 0, 1) := by decide +kernel
theorem dX4_write_12 : decode cX4_write 12 = .ok (.getfield 9, 3) := by decide +kernel
theorem dX4_write_15 : decode cX4_write 15 = .ok (.aload_n 0, 1) := by decide +kernel
theorem dX4_write_16 : decode cX4_write 16 = .ok (.getfield 15, 3) := by decide +kernel
theorem dX4_write_19 : decode cX4_write 19 = .ok (.iload_n 1, 1) := by decide +kernel
theorem dX4_write_20 : decode cX4_write 20 = .ok (.castore, 1) := by decide +kernel
theorem dX4_write_21 : decode cX4_write 21 = .ok (.aload_n 0, 1) := by decide +kernel
theorem dX4_write_22 : decode cX4_write 22 = .ok (.dup, 1) := by decide +kernel
theorem dX4_write_23 : decode cX4_write 23 = .ok (.getfield 15, 3) := by decide +kernel
theorem dX4_write_26 : decode cX4_write 26 = .ok (.iconst 1, 1) := by decide +kernel
theorem dX4_write_27 : decode cX4_write 27 = .ok (.iadd, 1) := by decide +kernel
theorem dX4_write_28 : decode cX4_write 28 = .ok (.putfield 15, 3) := by decide +kernel
theorem dX4_write_31 : decode cX4_write 31 = .ok (.iconst 1, 1) := by decide +kernel
theorem dX4_write_32 : decode cX4_write 32 = .ok (.ireturn, 1) := by decide +kernel
theorem dX4_read_0 : decode cX4_read 0 = .ok (.aload_n 1, 1) := by decide +kernel
theorem dX4_read_1 : decode cX4_read 1 = .ok (.iconst 0, 1) := by decide +kernel
theorem dX4_read_2 : decode cX4_read 2 = .ok (.putfield 19, 3) := by decide +kernel
theorem dX4_read_5 : decode cX4_read 5 = .ok (.aload_n 0, 1) := by decide +kernel
theorem dX4_read_6 : decode cX4_read 6 = .ok (.iconst 0, 1) := by decide +kernel
theorem dX4_read_7 : decode cX4_read 7 = .ok (.putfield 24, 3) := by decide +kernel
theorem dX4_read_10 : decode cX4_read 10 = .ok (.aload_n 0, 1) := by decide +kernel
theorem dX4_read_11 : decode cX4_read 11 = .ok (.invokevirtual 27, 3) := by decide +kernel
theorem dX4_read_14 : decode cX4_read 14 = .ok (.ifCond .eq 5, 3) := by decide +kernel
theorem dX4_read_17 : decode cX4_read 17 = .ok (.iconst (-1), 1) := by decide +kernel
theorem dX4_read_18 : decode cX4_read 18 = .ok (.ireturn, 1) := by decide +kernel
theorem dX4_read_19 : decode cX4_read 19 = .ok (.iconst 1, 1) := by decide +kernel
theorem dX4_read_20 : decode cX4_read 20 = .ok (.istore_n 2, 1) := by decide +kernel
theorem dX4_read_21 : decode cX4_read 21 = .ok (.bipush 32, 2) := by decide +kernel
theorem dX4_read_23 : decode cX4_read 23 = .ok (.istore_n 3, 1) := by decide +kernel
theorem dX4_read_24 : decode cX4_read 24 = .ok (.iload_n 3, 1) := by decide +kernel
theorem dX4_read_25 : decode cX4_read 25 = .ok (.ifCond .le 105, 3) := by decide +kernel
theorem dX4_read_28 : decode cX4_read 28 = .ok (.aload_n 0, 1) := by decide +kernel
theorem dX4_read_29 : decode cX4_read 29 = .ok (.aload_n 1, 1) := by decide +kernel
theorem dX4_read_30 : decode cX4_read 30 = .ok (.iload_n 2, 1) := by decide +kernel
theorem dX4_read_31 : decode cX4_read 31 = .ok (.invokevirtual 31, 3) := by decide +kernel
theorem dX4_read_34 : decode cX4_read 34 = .ok (.istore 4, 2) := by decide +kernel
theorem dX4_read_36 : decode cX4_read 36 = .ok (.iload 4, 2) := by decide +kernel
theorem dX4_read_38 : decode cX4_read 38 = .ok (.iconst (-1), 1) := by decide +kernel
theorem dX4_read_39 : decode cX4_read 39 = .ok (.if_icmp .ne 10, 3) := by decide +kernel
theorem dX4_read_42 : decode cX4_read 42 = .ok (.aload_n 0, 1) := by decide +kernel
theorem dX4_read_43 : decode cX4_read 43 = .ok (.invokevirtual 27, 3) := by decide +kernel
theorem dX4_read_46 : decode cX4_read 46 = .ok (.ifCond .eq 6, 3) := by decide +kernel
theorem dX4_read_49 : decode cX4_read 49 = .ok (.iload 4, 2) := by decide +kernel
theorem dX4_read_51 : decode cX4_read 51 = .ok (.ireturn, 1) := by decide +kernel
theorem dX4_read_52 : decode cX4_read 52 = .ok (.aload_n 0, 1) := by decide +kernel
theorem dX4_read_53 : decode cX4_read 53 = .ok (.getfield 9, 3) := by decide +kernel
theorem dX4_read_56 : decode cX4_read 56 = .ok (.aload_n 0, 1) := by decide +kernel
theorem dX4_read_57 : decode cX4_read 57 = .ok (.getfield 24, 3) := by decide +kernel
theorem dX4_read_60 : decode cX4_read 60 = .ok (.caload, 1) := by decide +kernel
theorem dX4_read_61 : decode cX4_read 61 = .ok (.bipush 59, 2) := by decide +kernel
theorem dX4_read_63 : decode cX4_read 63 = .ok (.if_icmp .ne 7, 3) := by decide +kernel
theorem dX4_read_66 : decode cX4_read 66 = .ok (.iconst 1, 1) := by decide +kernel
theorem dX4_read_67 : decode cX4_read 67 = .ok (.goto 4, 3) := by decide +kernel
theorem dX4_read_70 : decode cX4_read 70 = .ok (.iconst 0, 1) := by decide +kernel
theorem dX4_read_71 : decode cX4_read 71 = .ok (.istore_n 2, 1) := by decide +kernel
theorem dX4_read_72 : decode cX4_read 72 = .ok (.iload_n 2, 1) := by decide +kernel
theorem dX4_read_73 : decode cX4_read 73 = .ok (.ifCond .eq 15, 3) := by decide +kernel
theorem dX4_read_76 : decode cX4_read 76 = .ok (.aload_n 1, 1) := by decide +kernel
theorem dX4_read_77 : decode cX4_read 77 = .ok (.getfield 19, 3) := by decide +kernel
theorem dX4_read_80 : decode cX4_read 80 = .ok (.bipush 8, 2) := by decide +kernel
theorem dX4_read_82 : decode cX4_read 82 = .ok (.if_icmp .lt 32, 3) := by decide +kernel
theorem dX4_read_85 : decode cX4_read 85 = .ok (.goto 24, 3) := by decide +kernel
theorem dX4_read_88 : decode cX4_read 88 = .ok (.aload_n 0, 1) := by decide +kernel
theorem dX4_read_89 : decode cX4_read 89 = .ok (.getfield 9, 3) := by decide +kernel
theorem dX4_read_92 : decode cX4_read 92 = .ok (.aload_n 0, 1) := by decide +kernel
theorem dX4_read_93 : decode cX4_read 93 = .ok (.getfield 24, 3) := by decide +kernel
theorem dX4_read_96 : decode cX4_read 96 = .ok (.caload, 1) := by decide +kernel
theorem dX4_read_97 : decode cX4_read 97 = .ok (.bipush 44, 2) := by decide +kernel
theorem dX4_read_99 : decode cX4_read 99 = .ok (.if_icmp .ne 10, 3) := by decide +kernel
theorem dX4_read_102 : decode cX4_read 102 = .ok (.aload_n 1, 1) := by decide +kernel
theorem dX4_read_103 : decode cX4_read 103 = .ok (.invokevirtual 35, 3) := by decide +kernel
theorem dX4_read_106 : decode cX4_read 106 = .ok (.ifCond .eq 8, 3) := by decide +kernel
theorem dX4_read_109 : decode cX4_read 109 = .ok (.aload_n 0, 1) := by decide +kernel
theorem dX4_read_110 : decode cX4_read 110 = .ok (.getfield 24, 3) := by decide +kernel
theorem dX4_read_113 : decode cX4_read 113 = .ok (.ireturn, 1) := by decide +kernel
theorem dX4_read_114 : decode cX4_read 114 = .ok (.aload_n 0, 1) := by decide +kernel
theorem dX4_read_115 : decode cX4_read 115 = .ok (.dup, 1) := by decide +kernel
theorem dX4_read_116 : decode cX4_read 116 = .ok (.getfield 24, 3) := by decide +kernel
theorem dX4_read_119 : decode cX4_read 119 = .ok (.iconst 1, 1) := by decide +kernel
theorem dX4_read_120 : decode cX4_read 120 = .ok (.iadd, 1) := by decide +kernel
theorem dX4_read_121 : decode cX4_read 121 = .ok (.putfield 24, 3) := by decide +kernel
theorem dX4_read_124 : decode cX4_read 124 = .ok (.iinc 3 (-1), 3) := by decide +kernel
theorem dX4_read_127 : decode cX4_read 127 = .ok (.goto (-103), 3) := by decide +kernel
theorem dX4_read_130 : decode cX4_read 130 = .ok (.aload_n 0, 1) := by decide +kernel
theorem dX4_read_131 : decode cX4_read 131 = .ok (.getfield 24, 3) := by decide +kernel
theorem dX4_read_134 : decode cX4_read 134 = .ok (.ireturn, 1) := by decide +kernel
theorem dX4_readCandidate_0 : decode cX4_readCandidate 0 = .ok (.aload_n 0, 1) := by decide +kernel
theorem dX4_readCandidate_1 : decode cX4_readCandidate 1 = .ok (.invokevirtual 27, 3) := by decide +kernel
theorem dX4_readCandidate_4 : decode cX4_readCandidate 4 = .ok (.ifCond .eq 8, 3) := by decide +kernel
theorem dX4_readCandidate_7 : decode cX4_readCandidate 7 = .ok (.aload_n 0, 1) := by decide +kernel
theorem dX4_readCandidate_8 : decode cX4_readCandidate 8 = .ok (.getfield 15, 3) := by decide +kernel
theorem dX4_readCandidate_11 : decode cX4_readCandidate 11 = .ok (.ireturn, 1) := by decide +kernel
theorem dX4_readCandidate_12 : decode cX4_readCandidate 12 = .ok (.aload_n 0, 1) := by decide +kernel
theorem dX4_readCandidate_13 : decode cX4_readCandidate 13 = .ok (.getfield 24, 3) := by decide +kernel
theorem dX4_readCandidate_16 : decode cX4_readCandidate 16 = .ok (.istore_n 3, 1) := by decide +kernel
theorem dX4_readCandidate_17 : decode cX4_readCandidate 17 = .ok (.aload_n 0, 1) := by decide +kernel
theorem dX4_readCandidate_18 : decode cX4_readCandidate 18 = .ok (.getfield 9, 3) := by decide +kernel
theorem dX4_readCandidate_21 : decode cX4_readCandidate 21 = .ok (.aload_n 0, 1) := by decide +kernel
theorem dX4_readCandidate_22 : decode cX4_readCandidate 22 = .ok (.getfield 24, 3) := by decide +kernel
theorem dX4_readCandidate_25 : decode cX4_readCandidate 25 = .ok (.caload, 1) := by decide +kernel
theorem dX4_readCandidate_26 : decode cX4_readCandidate 26 = .ok (.istore 4, 2) := by decide +kernel
theorem dX4_readCandidate_28 : decode cX4_readCandidate 28 = .ok (.aload_n 0, 1) := by decide +kernel
theorem dX4_readCandidate_29 : decode cX4_readCandidate 29 = .ok (.dup, 1) := by decide +kernel
theorem dX4_readCandidate_30 : decode cX4_readCandidate 30 = .ok (.getfield 24, 3) := by decide +kernel
theorem dX4_readCandidate_33 : decode cX4_readCandidate 33 = .ok (.iconst 1, 1) := by decide +kernel
theorem dX4_readCandidate_34 : decode cX4_readCandidate 34 = .ok (.iadd, 1) := by decide +kernel
theorem dX4_readCandidate_35 : decode cX4_readCandidate 35 = .ok (.putfield 24, 3) := by decide +kernel
theorem dX4_readCandidate_38 : decode cX4_readCandidate 38 = .ok (.iload 4, 2) := by decide +kernel
theorem dX4_readCandidate_40 : decode cX4_readCandidate 40 = .ok (.invokestatic 38, 3) := by decide +kernel
theorem dX4_readCandidate_43 : decode cX4_readCandidate 43 = .ok (.ifCond .eq 18, 3) := by decide +kernel
theorem dX4_readCandidate_46 : decode cX4_readCandidate 46 = .ok (.aload_n 0, 1) := by decide +kernel
theorem dX4_readCandidate_47 : decode cX4_readCandidate 47 = .ok (.iload 4, 2) := by decide +kernel
theorem dX4_readCandidate_49 : decode cX4_readCandidate 49 = .ok (.bipush 48, 2) := by decide +kernel
theorem dX4_readCandidate_51 : decode cX4_readCandidate 51 = .ok (.isub, 1) := by decide +kernel
theorem dX4_readCandidate_52 : decode cX4_readCandidate 52 = .ok (.invokevirtual 42, 3) := by decide +kernel
theorem dX4_readCandidate_55 : decode cX4_readCandidate 55 = .ok (.invokestatic 46, 3) := by decide +kernel
theorem dX4_readCandidate_58 : decode cX4_readCandidate 58 = .ok (.goto 8, 3) := by decide +kernel
theorem dX4_readCandidate_61 : decode cX4_readCandidate 61 = .ok (.iload 4, 2) := by decide +kernel
theorem dX4_readCandidate_63 : decode cX4_readCandidate 63 = .ok (.invokestatic 49, 3) := by decide +kernel
theorem dX4_readCandidate_66 : decode cX4_readCandidate 66 = .ok (.istore 5, 2) := by decide +kernel
theorem dX4_readCandidate_68 : decode cX4_readCandidate 68 = .ok (.iload 5, 2) := by decide +kernel
theorem dX4_readCandidate_70 : decode cX4_readCandidate 70 = .ok (.ifCond .lt 22, 3) := by decide +kernel
theorem dX4_readCandidate_73 : decode cX4_readCandidate 73 = .ok (.iload_n 2, 1) := by decide +kernel
theorem dX4_readCandidate_74 : decode cX4_readCandidate 74 = .ok (.ifCond .ne 20, 3) := by decide +kernel
theorem dX4_readCandidate_77 : decode cX4_readCandidate 77 = .ok (.aload_n 1, 1) := by decide +kernel
theorem dX4_readCandidate_78 : decode cX4_readCandidate 78 = .ok (.aload_n 1, 1) := by decide +kernel
theorem dX4_readCandidate_79 : decode cX4_readCandidate 79 = .ok (.getfield 19, 3) := by decide +kernel
theorem dX4_readCandidate_82 : decode cX4_readCandidate 82 = .ok (.iconst 1, 1) := by decide +kernel
theorem dX4_readCandidate_83 : decode cX4_readCandidate 83 = .ok (.isub, 1) := by decide +kernel
theorem dX4_readCandidate_84 : decode cX4_readCandidate 84 = .ok (.iload 5, 2) := by decide +kernel
theorem dX4_readCandidate_86 : decode cX4_readCandidate 86 = .ok (.invokevirtual 52, 3) := by decide +kernel
theorem dX4_readCandidate_89 : decode cX4_readCandidate 89 = .ok (.ifCond .lt 5, 3) := by decide +kernel
theorem dX4_readCandidate_92 : decode cX4_readCandidate 92 = .ok (.iload_n 3, 1) := by decide +kernel
theorem dX4_readCandidate_93 : decode cX4_readCandidate 93 = .ok (.ireturn, 1) := by decide +kernel
theorem dX4_readCandidate_94 : decode cX4_readCandidate 94 = .ok (.iconst 0, 1) := by decide +kernel
theorem dX4_readCandidate_95 : decode cX4_readCandidate 95 = .ok (.istore 6, 2) := by decide +kernel
theorem dX4_readCandidate_97 : decode cX4_readCandidate 97 = .ok (.aload_n 0, 1) := by decide +kernel
theorem dX4_readCandidate_98 : decode cX4_readCandidate 98 = .ok (.invokevirtual 27, 3) := by decide +kernel
theorem dX4_readCandidate_101 : decode cX4_readCandidate 101 = .ok (.ifCond .ne 78, 3) := by decide +kernel
theorem dX4_readCandidate_104 : decode cX4_readCandidate 104 = .ok (.aload_n 0, 1) := by decide +kernel
theorem dX4_readCandidate_105 : decode cX4_readCandidate 105 = .ok (.getfield 9, 3) := by decide +kernel
theorem dX4_readCandidate_108 : decode cX4_readCandidate 108 = .ok (.aload_n 0, 1) := by decide +kernel
theorem dX4_readCandidate_109 : decode cX4_readCandidate 109 = .ok (.getfield 24, 3) := by decide +kernel
theorem dX4_readCandidate_112 : decode cX4_readCandidate 112 = .ok (.caload, 1) := by decide +kernel
theorem dX4_readCandidate_113 : decode cX4_readCandidate 113 = .ok (.bipush 58, 2) := by decide +kernel
theorem dX4_readCandidate_115 : decode cX4_readCandidate 115 = .ok (.if_icmp .ne 64, 3) := by decide +kernel
theorem dX4_readCandidate_118 : decode cX4_readCandidate 118 = .ok (.aload_n 0, 1) := by decide +kernel
theorem dX4_readCandidate_119 : decode cX4_readCandidate 119 = .ok (.dup, 1) := by decide +kernel
theorem dX4_readCandidate_120 : decode cX4_readCandidate 120 = .ok (.getfield 24, 3) := by decide +kernel
theorem dX4_readCandidate_123 : decode cX4_readCandidate 123 = .ok (.iconst 1, 1) := by decide +kernel
theorem dX4_readCandidate_124 : decode cX4_readCandidate 124 = .ok (.iadd, 1) := by decide +kernel
theorem dX4_readCandidate_125 : decode cX4_readCandidate 125 = .ok (.putfield 24, 3) := by decide +kernel
theorem dX4_readCandidate_128 : decode cX4_readCandidate 128 = .ok (.aload_n 0, 1) := by decide +kernel
theorem dX4_readCandidate_129 : decode cX4_readCandidate 129 = .ok (.invokevirtual 27, 3) := by decide +kernel
theorem dX4_readCandidate_132 : decode cX4_readCandidate 132 = .ok (.ifCond .ne 18, 3) := by decide +kernel
theorem dX4_readCandidate_135 : decode cX4_readCandidate 135 = .ok (.aload_n 0, 1) := by decide +kernel
theorem dX4_readCandidate_136 : decode cX4_readCandidate 136 = .ok (.getfield 9, 3) := by decide +kernel
theorem dX4_readCandidate_139 : decode cX4_readCandidate 139 = .ok (.aload_n 0, 1) := by decide +kernel
theorem dX4_readCandidate_140 : decode cX4_readCandidate 140 = .ok (.getfield 24, 3) := by decide +kernel
theorem dX4_readCandidate_143 : decode cX4_readCandidate 143 = .ok (.caload, 1) := by decide +kernel
theorem dX4_readCandidate_144 : decode cX4_readCandidate 144 = .ok (.invokestatic 38, 3) := by decide +kernel
theorem dX4_readCandidate_147 : decode cX4_readCandidate 147 = .ok (.ifCond .ne 8, 3) := by decide +kernel
theorem dX4_readCandidate_150 : decode cX4_readCandidate 150 = .ok (.aload_n 0, 1) := by decide +kernel
theorem dX4_readCandidate_151 : decode cX4_readCandidate 151 = .ok (.getfield 24, 3) := by decide +kernel
theorem dX4_readCandidate_154 : decode cX4_readCandidate 154 = .ok (.ireturn, 1) := by decide +kernel
theorem dX4_readCandidate_155 : decode cX4_readCandidate 155 = .ok (.aload_n 0, 1) := by decide +kernel
theorem dX4_readCandidate_156 : decode cX4_readCandidate 156 = .ok (.getfield 9, 3) := by decide +kernel
theorem dX4_readCandidate_159 : decode cX4_readCandidate 159 = .ok (.aload_n 0, 1) := by decide +kernel
theorem dX4_readCandidate_160 : decode cX4_readCandidate 160 = .ok (.getfield 24, 3) := by decide +kernel
theorem dX4_readCandidate_163 : decode cX4_readCandidate 163 = .ok (.caload, 1) := by decide +kernel
theorem dX4_readCandidate_164 : decode cX4_readCandidate 164 = .ok (.bipush 48, 2) := by decide +kernel
theorem dX4_readCandidate_166 : decode cX4_readCandidate 166 = .ok (.isub, 1) := by decide +kernel
theorem dX4_readCandidate_167 : decode cX4_readCandidate 167 = .ok (.istore 6, 2) := by decide +kernel
theorem dX4_readCandidate_169 : decode cX4_readCandidate 169 = .ok (.aload_n 0, 1) := by decide +kernel
theorem dX4_readCandidate_170 : decode cX4_readCandidate 170 = .ok (.dup, 1) := by decide +kernel
theorem dX4_readCandidate_171 : decode cX4_readCandidate 171 = .ok (.getfield 24, 3) := by decide +kernel
theorem dX4_readCandidate_174 : decode cX4_readCandidate 174 = .ok (.iconst 1, 1) := by decide +kernel
theorem dX4_readCandidate_175 : decode cX4_readCandidate 175 = .ok (.iadd, 1) := by decide +kernel
theorem dX4_readCandidate_176 : decode cX4_readCandidate 176 = .ok (.putfield 24, 3) := by decide +kernel
theorem dX4_readCandidate_179 : decode cX4_readCandidate 179 = .ok (.iload_n 2, 1) := by decide +kernel
theorem dX4_readCandidate_180 : decode cX4_readCandidate 180 = .ok (.ifCond .eq 15, 3) := by decide +kernel
theorem dX4_readCandidate_183 : decode cX4_readCandidate 183 = .ok (.aload_n 1, 1) := by decide +kernel
theorem dX4_readCandidate_184 : decode cX4_readCandidate 184 = .ok (.iload 5, 2) := by decide +kernel
theorem dX4_readCandidate_186 : decode cX4_readCandidate 186 = .ok (.iload 6, 2) := by decide +kernel
theorem dX4_readCandidate_188 : decode cX4_readCandidate 188 = .ok (.invokevirtual 56, 3) := by decide +kernel
theorem dX4_readCandidate_191 : decode cX4_readCandidate 191 = .ok (.pop, 1) := by decide +kernel
theorem dX4_readCandidate_192 : decode cX4_readCandidate 192 = .ok (.goto 18, 3) := by decide +kernel
theorem dX4_readCandidate_195 : decode cX4_readCandidate 195 = .ok (.aload_n 1, 1) := by decide +kernel
theorem dX4_readCandidate_196 : decode cX4_readCandidate 196 = .ok (.aload_n 1, 1) := by decide +kernel
theorem dX4_readCandidate_197 : decode cX4_readCandidate 197 = .ok (.getfield 19, 3) := by decide +kernel
theorem dX4_readCandidate_200 : decode cX4_readCandidate 200 = .ok (.iconst 1, 1) := by decide +kernel
theorem dX4_readCandidate_201 : decode cX4_readCandidate 201 = .ok (.isub, 1) := by decide +kernel
theorem dX4_readCandidate_202 : decode cX4_readCandidate 202 = .ok (.iload 5, 2) := by decide +kernel
theorem dX4_readCandidate_204 : decode cX4_readCandidate 204 = .ok (.iload 6, 2) := by decide +kernel
theorem dX4_readCandidate_206 : decode cX4_readCandidate 206 = .ok (.invokevirtual 60, 3) := by decide +kernel
theorem dX4_readCandidate_209 : decode cX4_readCandidate 209 = .ok (.pop, 1) := by decide +kernel
theorem dX4_readCandidate_210 : decode cX4_readCandidate 210 = .ok (.iconst (-1), 1) := by decide +kernel
theorem dX4_readCandidate_211 : decode cX4_readCandidate 211 = .ok (.ireturn, 1) := by decide +kernel
theorem dX4_valueFrom_0 : decode cX4_valueFrom 0 = .ok (.aload_n 0, 1) := by decide +kernel
theorem dX4_valueFrom_1 : decode cX4_valueFrom 1 = .ok (.getfield 24, 3) := by decide +kernel
theorem dX4_valueFrom_4 : decode cX4_valueFrom 4 = .ok (.aload_n 0, 1) := by decide +kernel
theorem dX4_valueFrom_5 : decode cX4_valueFrom 5 = .ok (.getfield 15, 3) := by decide +kernel
theorem dX4_valueFrom_8 : decode cX4_valueFrom 8 = .ok (.if_icmp .ge 18, 3) := by decide +kernel
theorem dX4_valueFrom_11 : decode cX4_valueFrom 11 = .ok (.aload_n 0, 1) := by decide +kernel
theorem dX4_valueFrom_12 : decode cX4_valueFrom 12 = .ok (.getfield 9, 3) := by decide +kernel
theorem dX4_valueFrom_15 : decode cX4_valueFrom 15 = .ok (.aload_n 0, 1) := by decide +kernel
theorem dX4_valueFrom_16 : decode cX4_valueFrom 16 = .ok (.getfield 24, 3) := by decide +kernel
theorem dX4_valueFrom_19 : decode cX4_valueFrom 19 = .ok (.caload, 1) := by decide +kernel
theorem dX4_valueFrom_20 : decode cX4_valueFrom 20 = .ok (.invokestatic 38, 3) := by decide +kernel
theorem dX4_valueFrom_23 : decode cX4_valueFrom 23 = .ok (.ifCond .ne 5, 3) := by decide +kernel
theorem dX4_valueFrom_26 : decode cX4_valueFrom 26 = .ok (.iload_n 1, 1) := by decide +kernel
theorem dX4_valueFrom_27 : decode cX4_valueFrom 27 = .ok (.ireturn, 1) := by decide +kernel
theorem dX4_valueFrom_28 : decode cX4_valueFrom 28 = .ok (.iload_n 1, 1) := by decide +kernel
theorem dX4_valueFrom_29 : decode cX4_valueFrom 29 = .ok (.bipush 10, 2) := by decide +kernel
theorem dX4_valueFrom_31 : decode cX4_valueFrom 31 = .ok (.imul, 1) := by decide +kernel
theorem dX4_valueFrom_32 : decode cX4_valueFrom 32 = .ok (.aload_n 0, 1) := by decide +kernel
theorem dX4_valueFrom_33 : decode cX4_valueFrom 33 = .ok (.getfield 9, 3) := by decide +kernel
theorem dX4_valueFrom_36 : decode cX4_valueFrom 36 = .ok (.aload_n 0, 1) := by decide +kernel
theorem dX4_valueFrom_37 : decode cX4_valueFrom 37 = .ok (.getfield 24, 3) := by decide +kernel
theorem dX4_valueFrom_40 : decode cX4_valueFrom 40 = .ok (.caload, 1) := by decide +kernel
theorem dX4_valueFrom_41 : decode cX4_valueFrom 41 = .ok (.iadd, 1) := by decide +kernel
theorem dX4_valueFrom_42 : decode cX4_valueFrom 42 = .ok (.bipush 48, 2) := by decide +kernel
theorem dX4_valueFrom_44 : decode cX4_valueFrom 44 = .ok (.isub, 1) := by decide +kernel
theorem dX4_valueFrom_45 : decode cX4_valueFrom 45 = .ok (.istore_n 2, 1) := by decide +kernel
theorem dX4_valueFrom_46 : decode cX4_valueFrom 46 = .ok (.aload_n 0, 1) := by decide +kernel
theorem dX4_valueFrom_47 : decode cX4_valueFrom 47 = .ok (.dup, 1) := by decide +kernel
theorem dX4_valueFrom_48 : decode cX4_valueFrom 48 = .ok (.getfield 24, 3) := by decide +kernel
theorem dX4_valueFrom_51 : decode cX4_valueFrom 51 = .ok (.iconst 1, 1) := by decide +kernel
theorem dX4_valueFrom_52 : decode cX4_valueFrom 52 = .ok (.iadd, 1) := by decide +kernel
theorem dX4_valueFrom_53 : decode cX4_valueFrom 53 = .ok (.putfield 24, 3) := by decide +kernel
theorem dX4_valueFrom_56 : decode cX4_valueFrom 56 = .ok (.iload_n 2, 1) := by decide +kernel
theorem dX4_valueFrom_57 : decode cX4_valueFrom 57 = .ok (.ireturn, 1) := by decide +kernel
theorem dX4_isAtEnd_0 : decode cX4_isAtEnd 0 = .ok (.aload_n 0, 1) := by decide +kernel
theorem dX4_isAtEnd_1 : decode cX4_isAtEnd 1 = .ok (.getfield 24, 3) := by decide +kernel
theorem dX4_isAtEnd_4 : decode cX4_isAtEnd 4 = .ok (.aload_n 0, 1) := by decide +kernel
theorem dX4_isAtEnd_5 : decode cX4_isAtEnd 5 = .ok (.getfield 15, 3) := by decide +kernel
theorem dX4_isAtEnd_8 : decode cX4_isAtEnd 8 = .ok (.if_icmp .ge 30, 3) := by decide +kernel
theorem dX4_isAtEnd_11 : decode cX4_isAtEnd 11 = .ok (.aload_n 0, 1) := by decide +kernel
theorem dX4_isAtEnd_12 : decode cX4_isAtEnd 12 = .ok (.getfield 9, 3) := by decide +kernel
theorem dX4_isAtEnd_15 : decode cX4_isAtEnd 15 = .ok (.aload_n 0, 1) := by decide +kernel
theorem dX4_isAtEnd_16 : decode cX4_isAtEnd 16 = .ok (.getfield 24, 3) := by decide +kernel
theorem dX4_isAtEnd_19 : decode cX4_isAtEnd 19 = .ok (.caload, 1) := by decide +kernel
theorem dX4_isAtEnd_20 : decode cX4_isAtEnd 20 = .ok (.bipush 32, 2) := by decide +kernel
theorem dX4_isAtEnd_22 : decode cX4_isAtEnd 22 = .ok (.if_icmp .ne 16, 3) := by decide +kernel
theorem dX4_isAtEnd_25 : decode cX4_isAtEnd 25 = .ok (.aload_n 0, 1) := by decide +kernel
theorem dX4_isAtEnd_26 : decode cX4_isAtEnd 26 = .ok (.dup, 1) := by decide +kernel
theorem dX4_isAtEnd_27 : decode cX4_isAtEnd 27 = .ok (.getfield 24, 3) := by decide +kernel
theorem dX4_isAtEnd_30 : decode cX4_isAtEnd 30 = .ok (.iconst 1, 1) := by decide +kernel
theorem dX4_isAtEnd_31 : decode cX4_isAtEnd 31 = .ok (.iadd, 1) := by decide +kernel
theorem dX4_isAtEnd_32 : decode cX4_isAtEnd 32 = .ok (.putfield 24, 3) := by decide +kernel
theorem dX4_isAtEnd_35 : decode cX4_isAtEnd 35 = .ok (.goto (-35), 3) := by decide +kernel
theorem dX4_isAtEnd_38 : decode cX4_isAtEnd 38 = .ok (.aload_n 0, 1) := by decide +kernel
theorem dX4_isAtEnd_39 : decode cX4_isAtEnd 39 = .ok (.getfield 24, 3) := by decide +kernel
theorem dX4_isAtEnd_42 : decode cX4_isAtEnd 42 = .ok (.aload_n 0, 1) := by decide +kernel
theorem dX4_isAtEnd_43 : decode cX4_isAtEnd 43 = .ok (.getfield 15, 3) := by decide +kernel
theorem dX4_isAtEnd_46 : decode cX4_isAtEnd 46 = .ok (.if_icmp .lt 7, 3) := by decide +kernel
theorem dX4_isAtEnd_49 : decode cX4_isAtEnd 49 = .ok (.iconst 1, 1) := by decide +kernel
theorem dX4_isAtEnd_50 : decode cX4_isAtEnd 50 = .ok (.goto 4, 3) := by decide +kernel
theorem dX4_isAtEnd_53 : decode cX4_isAtEnd 53 = .ok (.iconst 0, 1) := by decide +kernel
theorem dX4_isAtEnd_54 : decode cX4_isAtEnd 54 = .ok (.ireturn, 1) := by decide +kernel
theorem dX4_isDigit_0 : decode cX4_isDigit 0 = .ok (.iload_n 0, 1) := by decide +kernel
theorem dX4_isDigit_1 : decode cX4_isDigit 1 = .ok (.bipush 48, 2) := by decide +kernel
theorem dX4_isDigit_3 : decode cX4_isDigit 3 = .ok (.if_icmp .lt 13, 3) := by decide +kernel
theorem dX4_isDigit_6 : decode cX4_isDigit 6 = .ok (.iload_n 0, 1) := by decide +kernel
theorem dX4_isDigit_7 : decode cX4_isDigit 7 = .ok (.bipush 57, 2) := by decide +kernel
theorem dX4_isDigit_9 : decode cX4_isDigit 9 = .ok (.if_icmp .gt 7, 3) := by decide +kernel
theorem dX4_isDigit_12 : decode cX4_isDigit 12 = .ok (.iconst 1, 1) := by decide +kernel
theorem dX4_isDigit_13 : decode cX4_isDigit 13 = .ok (.goto 4, 3) := by decide +kernel
theorem dX4_isDigit_16 : decode cX4_isDigit 16 = .ok (.iconst 0, 1) := by decide +kernel
theorem dX4_isDigit_17 : decode cX4_isDigit 17 = .ok (.ireturn, 1) := by decide +kernel
theorem dX4_wordOfValue_0 : decode cX4_wordOfValue 0 = .ok (.iload_n 0, 1) := by decide +kernel
theorem dX4_wordOfValue_1 : decode cX4_wordOfValue 1 = .ok (.iconst 1, 1) := by decide +kernel
theorem dX4_wordOfValue_2 : decode cX4_wordOfValue 2 = .ok (.if_icmp .lt 11, 3) := by decide +kernel
theorem dX4_wordOfValue_5 : decode cX4_wordOfValue 5 = .ok (.iload_n 0, 1) := by decide +kernel
theorem dX4_wordOfValue_6 : decode cX4_wordOfValue 6 = .ok (.bipush 19, 2) := by decide +kernel
theorem dX4_wordOfValue_8 : decode cX4_wordOfValue 8 = .ok (.if_icmp .gt 5, 3) := by decide +kernel
theorem dX4_wordOfValue_11 : decode cX4_wordOfValue 11 = .ok (.iload_n 0, 1) := by decide +kernel
theorem dX4_wordOfValue_12 : decode cX4_wordOfValue 12 = .ok (.ireturn, 1) := by decide +kernel
theorem dX4_wordOfValue_13 : decode cX4_wordOfValue 13 = .ok (.iload_n 0, 1) := by decide +kernel
theorem dX4_wordOfValue_14 : decode cX4_wordOfValue 14 = .ok (.bipush 20, 2) := by decide +kernel
theorem dX4_wordOfValue_16 : decode cX4_wordOfValue 16 = .ok (.if_icmp .lt 17, 3) := by decide +kernel
theorem dX4_wordOfValue_19 : decode cX4_wordOfValue 19 = .ok (.iload_n 0, 1) := by decide +kernel
theorem dX4_wordOfValue_20 : decode cX4_wordOfValue 20 = .ok (.bipush 10, 2) := by decide +kernel
theorem dX4_wordOfValue_22 : decode cX4_wordOfValue 22 = .ok (.irem, 1) := by decide +kernel
theorem dX4_wordOfValue_23 : decode cX4_wordOfValue 23 = .ok (.ifCond .ne 10, 3) := by decide +kernel
theorem dX4_wordOfValue_26 : decode cX4_wordOfValue 26 = .ok (.iload_n 0, 1) := by decide +kernel
theorem dX4_wordOfValue_27 : decode cX4_wordOfValue 27 = .ok (.invokestatic 64, 3) := by decide +kernel
theorem dX4_wordOfValue_30 : decode cX4_wordOfValue 30 = .ok (.goto 4, 3) := by decide +kernel
theorem dX4_wordOfValue_33 : decode cX4_wordOfValue 33 = .ok (.iconst (-1), 1) := by decide +kernel
theorem dX4_wordOfValue_34 : decode cX4_wordOfValue 34 = .ok (.ireturn, 1) := by decide +kernel
theorem dX4_tensWord_0 : decode cX4_tensWord 0 = .ok (.bipush 18, 2) := by decide +kernel
theorem dX4_tensWord_2 : decode cX4_tensWord 2 = .ok (.iload_n 0, 1) := by decide +kernel
theorem dX4_tensWord_3 : decode cX4_tensWord 3 = .ok (.bipush 10, 2) := by decide +kernel
theorem dX4_tensWord_5 : decode cX4_tensWord 5 = .ok (.idiv, 1) := by decide +kernel
theorem dX4_tensWord_6 : decode cX4_tensWord 6 = .ok (.iadd, 1) := by decide +kernel
theorem dX4_tensWord_7 : decode cX4_tensWord 7 = .ok (.ireturn, 1) := by decide +kernel
theorem dX4_wordOfLetter_0 : decode cX4_wordOfLetter 0 = .ok (.iload_n 0, 1) := by decide +kernel
theorem dX4_wordOfLetter_1 : decode cX4_wordOfLetter 1 = .ok (.lookupswitch 65 #[(97, 57), (104, 51), (110, 63), (115, 60), (116, 54)], 51) := by decide +kernel
theorem dX4_wordOfLetter_52 : decode cX4_wordOfLetter 52 = .ok (.bipush 28, 2) := by decide +kernel
theorem dX4_wordOfLetter_54 : decode cX4_wordOfLetter 54 = .ok (.ireturn, 1) := by decide +kernel
theorem dX4_wordOfLetter_55 : decode cX4_wordOfLetter 55 = .ok (.bipush 29, 2) := by decide +kernel
theorem dX4_wordOfLetter_57 : decode cX4_wordOfLetter 57 = .ok (.ireturn, 1) := by decide +kernel
theorem dX4_wordOfLetter_58 : decode cX4_wordOfLetter 58 = .ok (.bipush 30, 2) := by decide +kernel
theorem dX4_wordOfLetter_60 : decode cX4_wordOfLetter 60 = .ok (.ireturn, 1) := by decide +kernel
theorem dX4_wordOfLetter_61 : decode cX4_wordOfLetter 61 = .ok (.bipush 31, 2) := by decide +kernel
theorem dX4_wordOfLetter_63 : decode cX4_wordOfLetter 63 = .ok (.ireturn, 1) := by decide +kernel
theorem dX4_wordOfLetter_64 : decode cX4_wordOfLetter 64 = .ok (.iconst 0, 1) := by decide +kernel
theorem dX4_wordOfLetter_65 : decode cX4_wordOfLetter 65 = .ok (.ireturn, 1) := by decide +kernel
theorem dX4_wordOfLetter_66 : decode cX4_wordOfLetter 66 = .ok (.iconst (-1), 1) := by decide +kernel
theorem dX4_wordOfLetter_67 : decode cX4_wordOfLetter 67 = .ok (.ireturn, 1) := by decide +kernel
theorem dX5_init_0 : decode cX5_init 0 = .ok (.aload_n 0, 1) := by decide +kernel
theorem dX5_init_1 : decode cX5_init 1 = .ok (.invokespecial 3, 3) := by decide +kernel
theorem dX5_init_4 : decode cX5_init 4 = .ok (.aload_n 0, 1) := by decide +kernel
theorem dX5_init_5 : decode cX5_init 5 = .ok (.bipush 24, 2) := by decide +kernel
theorem dX5_init_7 : decode cX5_init 7 = .ok (.newarray .long, 2) := by decide +kernel
theorem dX5_init_9 : decode cX5_init 9 = .ok (.putfield 9, 3) := by decide +kernel
theorem dX5_init_12 : decode cX5_init 12 = .ok (.aload_n 0, 1) := by decide +kernel
theorem dX5_init_13 : decode cX5_init 13 = .ok (.iconst (-1), 1) := by decide +kernel
theorem dX5_init_14 : decode cX5_init 14 = .ok (.putfield 15, 3) := by decide +kernel
theorem dX5_init_17 : decode cX5_init 17 = .ok (.return_, 1) := by decide +kernel
theorem dX5_renew_0 : decode cX5_renew 0 = .ok (.aload_n 0, 1) := by decide +kernel
theorem dX5_renew_1 : decode cX5_renew 1 = .ok (.iload_n 1, 1) := by decide +kernel
theorem dX5_renew_2 : decode cX5_renew 2 = .ok (.putfield 15, 3) := by decide +kernel
theorem dX5_renew_5 : decode cX5_renew 5 = .ok (.aload_n 0, 1) := by decide +kernel
theorem dX5_renew_6 : decode cX5_renew 6 = .ok (.iload_n 2, 1) := by decide +kernel
theorem dX5_renew_7 : decode cX5_renew 7 = .ok (.putfield 19, 3) := by decide +kernel
theorem dX5_renew_10 : decode cX5_renew 10 = .ok (.iconst 0, 1) := by decide +kernel
theorem dX5_renew_11 : decode cX5_renew 11 = .ok (.istore_n 3, 1) := by decide +kernel
theorem dX5_renew_12 : decode cX5_renew 12 = .ok (.iload_n 3, 1) := by decide +kernel
theorem dX5_renew_13 : decode cX5_renew 13 = .ok (.bipush 24, 2) := by decide +kernel
theorem dX5_renew_15 : decode cX5_renew 15 = .ok (.if_icmp .ge 16, 3) := by decide +kernel
theorem dX5_renew_18 : decode cX5_renew 18 = .ok (.aload_n 0, 1) := by decide +kernel
theorem dX5_renew_19 : decode cX5_renew 19 = .ok (.getfield 9, 3) := by decide +kernel
theorem dX5_renew_22 : decode cX5_renew 22 = .ok (.iload_n 3, 1) := by decide +kernel
theorem dX5_renew_23 : decode cX5_renew 23 = .ok (.lconst 0, 1) := by decide +kernel
theorem dX5_renew_24 : decode cX5_renew 24 = .ok (.lastore, 1) := by decide +kernel
theorem dX5_renew_25 : decode cX5_renew 25 = .ok (.iinc 3 1, 3) := by decide +kernel
theorem dX5_renew_28 : decode cX5_renew 28 = .ok (.goto (-16), 3) := by decide +kernel
theorem dX5_renew_31 : decode cX5_renew 31 = .ok (.return_, 1) := by decide +kernel
theorem dX5_lacks_0 : decode cX5_lacks 0 = .ok (.iload_n 1, 1) := by decide +kernel
theorem dX5_lacks_1 : decode cX5_lacks 1 = .ok (.ifCond .lt 17, 3) := by decide +kernel
theorem dX5_lacks_4 : decode cX5_lacks 4 = .ok (.iload_n 2, 1) := by decide +kernel
theorem dX5_lacks_5 : decode cX5_lacks 5 = .ok (.ifCond .lt 13, 3) := by decide +kernel
theorem dX5_lacks_8 : decode cX5_lacks 8 = .ok (.iload_n 1, 1) := by decide +kernel
theorem dX5_lacks_9 : decode cX5_lacks 9 = .ok (.aload_n 0, 1) := by decide +kernel
theorem dX5_lacks_10 : decode cX5_lacks 10 = .ok (.getfield 19, 3) := by decide +kernel
theorem dX5_lacks_13 : decode cX5_lacks 13 = .ok (.iload_n 2, 1) := by decide +kernel
theorem dX5_lacks_14 : decode cX5_lacks 14 = .ok (.isub, 1) := by decide +kernel
theorem dX5_lacks_15 : decode cX5_lacks 15 = .ok (.if_icmp .le 7, 3) := by decide +kernel
theorem dX5_lacks_18 : decode cX5_lacks 18 = .ok (.iconst 1, 1) := by decide +kernel
theorem dX5_lacks_19 : decode cX5_lacks 19 = .ok (.goto 4, 3) := by decide +kernel
theorem dX5_lacks_22 : decode cX5_lacks 22 = .ok (.iconst 0, 1) := by decide +kernel
theorem dX5_lacks_23 : decode cX5_lacks 23 = .ok (.ireturn, 1) := by decide +kernel
theorem dX5_refusal_0 : decode cX5_refusal 0 = .ok (.aload_n 0, 1) := by decide +kernel
theorem dX5_refusal_1 : decode cX5_refusal 1 = .ok (.getfield 15, 3) := by decide +kernel
theorem dX5_refusal_4 : decode cX5_refusal 4 = .ok (.iconst (-1), 1) := by decide +kernel
theorem dX5_refusal_5 : decode cX5_refusal 5 = .ok (.if_icmp .ne 6, 3) := by decide +kernel
theorem dX5_refusal_8 : decode cX5_refusal 8 = .ok (.bipush (-11), 2) := by decide +kernel
theorem dX5_refusal_10 : decode cX5_refusal 10 = .ok (.ireturn, 1) := by decide +kernel
theorem dX5_refusal_11 : decode cX5_refusal 11 = .ok (.aload_n 0, 1) := by decide +kernel
theorem dX5_refusal_12 : decode cX5_refusal 12 = .ok (.getfield 15, 3) := by decide +kernel
theorem dX5_refusal_15 : decode cX5_refusal 15 = .ok (.iload_n 1, 1) := by decide +kernel
theorem dX5_refusal_16 : decode cX5_refusal 16 = .ok (.if_icmp .eq 6, 3) := by decide +kernel
theorem dX5_refusal_19 : decode cX5_refusal 19 = .ok (.bipush (-12), 2) := by decide +kernel
theorem dX5_refusal_21 : decode cX5_refusal 21 = .ok (.ireturn, 1) := by decide +kernel
theorem dX5_refusal_22 : decode cX5_refusal 22 = .ok (.aload_n 0, 1) := by decide +kernel
theorem dX5_refusal_23 : decode cX5_refusal 23 = .ok (.iload_n 2, 1) := by decide +kernel
theorem dX5_refusal_24 : decode cX5_refusal 24 = .ok (.iload_n 3, 1) := by decide +kernel
theorem dX5_refusal_25 : decode cX5_refusal 25 = .ok (.invokevirtual 22, 3) := by decide +kernel
theorem dX5_refusal_28 : decode cX5_refusal 28 = .ok (.ifCond .eq 8, 3) := by decide +kernel
theorem dX5_refusal_31 : decode cX5_refusal 31 = .ok (.bipush (-13), 2) := by decide +kernel
theorem dX5_refusal_33 : decode cX5_refusal 33 = .ok (.goto 4, 3) := by decide +kernel
theorem dX5_refusal_36 : decode cX5_refusal 36 = .ok (.iconst 0, 1) := by decide +kernel
theorem dX5_refusal_37 : decode cX5_refusal 37 = .ok (.ireturn, 1) := by decide +kernel
theorem dX5_put_0 : decode cX5_put 0 = .ok (.aload_n 0, 1) := by decide +kernel
theorem dX5_put_1 : decode cX5_put 1 = .ok (.iload_n 1, 1) := by decide +kernel
theorem dX5_put_2 : decode cX5_put 2 = .ok (.iconst 1, 1) := by decide +kernel
theorem dX5_put_3 : decode cX5_put 3 = .ok (.invokevirtual 22, 3) := by decide +kernel
theorem dX5_put_6 : decode cX5_put 6 = .ok (.ifCond .ne 14, 3) := by decide +kernel
theorem dX5_put_9 : decode cX5_put 9 = .ok (.aload_n 0, 1) := by decide +kernel
theorem dX5_put_10 : decode cX5_put 10 = .ok (.getfield 9, 3) := by decide +kernel
theorem dX5_put_13 : decode cX5_put 13 = .ok (.iload_n 1, 1) := by decide +kernel
theorem dX5_put_14 : decode cX5_put 14 = .ok (.aload_n 0, 1) := by decide +kernel
theorem dX5_put_15 : decode cX5_put 15 = .ok (.lload_n 2, 1) := by decide +kernel
theorem dX5_put_16 : decode cX5_put 16 = .ok (.invokevirtual 26, 3) := by decide +kernel
theorem dX5_put_19 : decode cX5_put 19 = .ok (.lastore, 1) := by decide +kernel
theorem dX5_put_20 : decode cX5_put 20 = .ok (.return_, 1) := by decide +kernel
theorem dX5_tells_0 : decode cX5_tells 0 = .ok (.iload 4, 2) := by decide +kernel
theorem dX5_tells_2 : decode cX5_tells 2 = .ok (.iload_n 2, 1) := by decide +kernel
theorem dX5_tells_3 : decode cX5_tells 3 = .ok (.if_icmp .ne 19, 3) := by decide +kernel
theorem dX5_tells_6 : decode cX5_tells 6 = .ok (.iload 4, 2) := by decide +kernel
theorem dX5_tells_8 : decode cX5_tells 8 = .ok (.aload_n 3, 1) := by decide +kernel
theorem dX5_tells_9 : decode cX5_tells 9 = .ok (.arraylength, 1) := by decide +kernel
theorem dX5_tells_10 : decode cX5_tells 10 = .ok (.if_icmp .gt 12, 3) := by decide +kernel
theorem dX5_tells_13 : decode cX5_tells 13 = .ok (.aload_n 0, 1) := by decide +kernel
theorem dX5_tells_14 : decode cX5_tells 14 = .ok (.iload_n 1, 1) := by decide +kernel
theorem dX5_tells_15 : decode cX5_tells 15 = .ok (.iload_n 2, 1) := by decide +kernel
theorem dX5_tells_16 : decode cX5_tells 16 = .ok (.invokevirtual 22, 3) := by decide +kernel
theorem dX5_tells_19 : decode cX5_tells 19 = .ok (.ifCond .eq 5, 3) := by decide +kernel
theorem dX5_tells_22 : decode cX5_tells 22 = .ok (.iconst 0, 1) := by decide +kernel
theorem dX5_tells_23 : decode cX5_tells 23 = .ok (.ireturn, 1) := by decide +kernel
theorem dX5_tells_24 : decode cX5_tells 24 = .ok (.iconst 0, 1) := by decide +kernel
theorem dX5_tells_25 : decode cX5_tells 25 = .ok (.istore 5, 2) := by decide +kernel
theorem dX5_tells_27 : decode cX5_tells 27 = .ok (.iload 5, 2) := by decide +kernel
theorem dX5_tells_29 : decode cX5_tells 29 = .ok (.iload_n 2, 1) := by decide +kernel
theorem dX5_tells_30 : decode cX5_tells 30 = .ok (.if_icmp .ge 29, 3) := by decide +kernel
theorem dX5_tells_33 : decode cX5_tells 33 = .ok (.aload_n 0, 1) := by decide +kernel
theorem dX5_tells_34 : decode cX5_tells 34 = .ok (.getfield 9, 3) := by decide +kernel
theorem dX5_tells_37 : decode cX5_tells 37 = .ok (.iload_n 1, 1) := by decide +kernel
theorem dX5_tells_38 : decode cX5_tells 38 = .ok (.iload 5, 2) := by decide +kernel
theorem dX5_tells_40 : decode cX5_tells 40 = .ok (.iadd, 1) := by decide +kernel
theorem dX5_tells_41 : decode cX5_tells 41 = .ok (.laload, 1) := by decide +kernel
theorem dX5_tells_42 : decode cX5_tells 42 = .ok (.aload_n 3, 1) := by decide +kernel
theorem dX5_tells_43 : decode cX5_tells 43 = .ok (.iload 5, 2) := by decide +kernel
theorem dX5_tells_45 : decode cX5_tells 45 = .ok (.iaload, 1) := by decide +kernel
theorem dX5_tells_46 : decode cX5_tells 46 = .ok (.i2l, 1) := by decide +kernel
theorem dX5_tells_47 : decode cX5_tells 47 = .ok (.lcmp, 1) := by decide +kernel
theorem dX5_tells_48 : decode cX5_tells 48 = .ok (.ifCond .eq 5, 3) := by decide +kernel
theorem dX5_tells_51 : decode cX5_tells 51 = .ok (.iconst 0, 1) := by decide +kernel
theorem dX5_tells_52 : decode cX5_tells 52 = .ok (.ireturn, 1) := by decide +kernel
theorem dX5_tells_53 : decode cX5_tells 53 = .ok (.iinc 5 1, 3) := by decide +kernel
theorem dX5_tells_56 : decode cX5_tells 56 = .ok (.goto (-29), 3) := by decide +kernel
theorem dX5_tells_59 : decode cX5_tells 59 = .ok (.iconst 1, 1) := by decide +kernel
theorem dX5_tells_60 : decode cX5_tells 60 = .ok (.ireturn, 1) := by decide +kernel
theorem dX5_cutToLane_0 : decode cX5_cutToLane 0 = .ok (.aload_n 0, 1) := by decide +kernel
theorem dX5_cutToLane_1 : decode cX5_cutToLane 1 = .ok (.getfield 15, 3) := by decide +kernel
theorem dX5_cutToLane_4 : decode cX5_cutToLane 4 = .ok (.tableswitch 42 0 2 #[28, 33, 38], 28) := by decide +kernel
theorem dX5_cutToLane_32 : decode cX5_cutToLane 32 = .ok (.lload_n 1, 1) := by decide +kernel
theorem dX5_cutToLane_33 : decode cX5_cutToLane 33 = .ok (.l2i, 1) := by decide +kernel
theorem dX5_cutToLane_34 : decode cX5_cutToLane 34 = .ok (.i2b, 1) := by decide +kernel
theorem dX5_cutToLane_35 : decode cX5_cutToLane 35 = .ok (.i2l, 1) := by decide +kernel
theorem dX5_cutToLane_36 : decode cX5_cutToLane 36 = .ok (.lreturn, 1) := by decide +kernel
theorem dX5_cutToLane_37 : decode cX5_cutToLane 37 = .ok (.lload_n 1, 1) := by decide +kernel
theorem dX5_cutToLane_38 : decode cX5_cutToLane 38 = .ok (.l2i, 1) := by decide +kernel
theorem dX5_cutToLane_39 : decode cX5_cutToLane 39 = .ok (.i2s, 1) := by decide +kernel
theorem dX5_cutToLane_40 : decode cX5_cutToLane 40 = .ok (.i2l, 1) := by decide +kernel
theorem dX5_cutToLane_41 : decode cX5_cutToLane 41 = .ok (.lreturn, 1) := by decide +kernel
theorem dX5_cutToLane_42 : decode cX5_cutToLane 42 = .ok (.lload_n 1, 1) := by decide +kernel
theorem dX5_cutToLane_43 : decode cX5_cutToLane 43 = .ok (.l2i, 1) := by decide +kernel
theorem dX5_cutToLane_44 : decode cX5_cutToLane 44 = .ok (.i2l, 1) := by decide +kernel
theorem dX5_cutToLane_45 : decode cX5_cutToLane 45 = .ok (.lreturn, 1) := by decide +kernel
theorem dX5_cutToLane_46 : decode cX5_cutToLane 46 = .ok (.lload_n 1, 1) := by decide +kernel
theorem dX5_cutToLane_47 : decode cX5_cutToLane 47 = .ok (.lreturn, 1) := by decide +kernel
theorem dX6_init_0 : decode cX6_init 0 = .ok (.aload_n 0, 1) := by decide +kernel
theorem dX6_init_1 : decode cX6_init 1 = .ok (.invokespecial 3, 3) := by decide +kernel
theorem dX6_init_4 : decode cX6_init 4 = .ok (.aload_n 0, 1) := by decide +kernel
theorem dX6_init_5 : decode cX6_init 5 = .ok (.new 9, 3) := by decide +kernel
theorem dX6_init_8 : decode cX6_init 8 = .ok (.dup, 1) := by decide +kernel
theorem dX6_init_9 : decode cX6_init 9 = .ok (.invokespecial 11, 3) := by decide +kernel
theorem dX6_init_12 : decode cX6_init 12 = .ok (.putfield 12, 3) := by decide +kernel
theorem dX6_init_15 : decode cX6_init 15 = .ok (.aload_n 0, 1) := by decide +kernel
theorem dX6_init_16 : decode cX6_init 16 = .ok (.iconst 4, 1) := by decide +kernel
theorem dX6_init_17 : decode cX6_init 17 = .ok (.newarray .int, 2) := by decide +kernel
theorem dX6_init_19 : decode cX6_init 19 = .ok (.putfield 18, 3) := by decide +kernel
theorem dX6_init_22 : decode cX6_init 22 = .ok (.aload_n 0, 1) := by decide +kernel
theorem dX6_init_23 : decode cX6_init 23 = .ok (.bipush 8, 2) := by decide +kernel
theorem dX6_init_25 : decode cX6_init 25 = .ok (.newarray .int, 2) := by decide +kernel
theorem dX6_init_27 : decode cX6_init 27 = .ok (.putfield 22, 3) := by decide +kernel
theorem dX6_init_30 : decode cX6_init 30 = .ok (.aload_n 0, 1) := by decide +kernel
theorem dX6_init_31 : decode cX6_init 31 = .ok (.bipush 8, 2) := by decide +kernel
theorem dX6_init_33 : decode cX6_init 33 = .ok (.newarray .int, 2) := by decide +kernel
theorem dX6_init_35 : decode cX6_init 35 = .ok (.putfield 25, 3) := by decide +kernel
theorem dX6_init_38 : decode cX6_init 38 = .ok (.aload_n 0, 1) := by decide +kernel
theorem dX6_init_39 : decode cX6_init 39 = .ok (.iconst 5, 1) := by decide +kernel
theorem dX6_init_40 : decode cX6_init 40 = .ok (.newarray .int, 2) := by decide +kernel
theorem dX6_init_42 : decode cX6_init 42 = .ok (.putfield 28, 3) := by decide +kernel
theorem dX6_init_45 : decode cX6_init 45 = .ok (.aload_n 0, 1) := by decide +kernel
theorem dX6_init_46 : decode cX6_init 46 = .ok (.aload_n 1, 1) := by decide +kernel
theorem dX6_init_47 : decode cX6_init 47 = .ok (.putfield 31, 3) := by decide +kernel
theorem dX6_init_50 : decode cX6_init 50 = .ok (.aload_n 0, 1) := by decide +kernel
theorem dX6_init_51 : decode cX6_init 51 = .ok (.new 35, 3) := by decide +kernel
theorem dX6_init_54 : decode cX6_init 54 = .ok (.dup, 1) := by decide +kernel
theorem dX6_init_55 : decode cX6_init 55 = .ok (.aload_n 1, 1) := by decide +kernel
theorem dX6_init_56 : decode cX6_init 56 = .ok (.invokespecial 37, 3) := by decide +kernel
theorem dX6_init_59 : decode cX6_init 59 = .ok (.putfield 40, 3) := by decide +kernel
theorem dX6_init_62 : decode cX6_init 62 = .ok (.return_, 1) := by decide +kernel
theorem dX6_forget_0 : decode cX6_forget 0 = .ok (.aload_n 0, 1) := by decide +kernel
theorem dX6_forget_1 : decode cX6_forget 1 = .ok (.iconst 0, 1) := by decide +kernel
theorem dX6_forget_2 : decode cX6_forget 2 = .ok (.putfield 44, 3) := by decide +kernel
theorem dX6_forget_5 : decode cX6_forget 5 = .ok (.aload_n 0, 1) := by decide +kernel
theorem dX6_forget_6 : decode cX6_forget 6 = .ok (.getfield 12, 3) := by decide +kernel
theorem dX6_forget_9 : decode cX6_forget 9 = .ok (.iconst 0, 1) := by decide +kernel
theorem dX6_forget_10 : decode cX6_forget 10 = .ok (.putfield 48, 3) := by decide +kernel
theorem dX6_forget_13 : decode cX6_forget 13 = .ok (.aload_n 0, 1) := by decide +kernel
theorem dX6_forget_14 : decode cX6_forget 14 = .ok (.iconst 0, 1) := by decide +kernel
theorem dX6_forget_15 : decode cX6_forget 15 = .ok (.putfield 51, 3) := by decide +kernel
theorem dX6_forget_18 : decode cX6_forget 18 = .ok (.return_, 1) := by decide +kernel
theorem dX6_saidOnes_0 : decode cX6_saidOnes 0 = .ok (.aload_n 0, 1) := by decide +kernel
theorem dX6_saidOnes_1 : decode cX6_saidOnes 1 = .ok (.invokevirtual 54, 3) := by decide +kernel
theorem dX6_saidOnes_4 : decode cX6_saidOnes 4 = .ok (.aload_n 0, 1) := by decide +kernel
theorem dX6_saidOnes_5 : decode cX6_saidOnes 5 = .ok (.getfield 57, 3) := by decide +kernel
theorem dX6_saidOnes_8 : decode cX6_saidOnes 8 = .ok (.ireturn, 1) := by decide +kernel
theorem dX6_soundOnes_0 : decode cX6_soundOnes 0 = .ok (.aload_n 0, 1) := by decide +kernel
theorem dX6_soundOnes_1 : decode cX6_soundOnes 1 = .ok (.invokevirtual 54, 3) := by decide +kernel
theorem dX6_soundOnes_4 : decode cX6_soundOnes 4 = .ok (.aload_n 0, 1) := by decide +kernel
theorem dX6_soundOnes_5 : decode cX6_soundOnes 5 = .ok (.getfield 61, 3) := by decide +kernel
theorem dX6_soundOnes_8 : decode cX6_soundOnes 8 = .ok (.ireturn, 1) := by decide +kernel
theorem dX6_bestTells_0 : decode cX6_bestTells 0 = .ok (.aload_n 0, 1) := by decide +kernel
theorem dX6_bestTells_1 : decode cX6_bestTells 1 = .ok (.invokevirtual 54, 3) := by decide +kernel
theorem dX6_bestTells_4 : decode cX6_bestTells 4 = .ok (.aload_n 0, 1) := by decide +kernel
theorem dX6_bestTells_5 : decode cX6_bestTells 5 = .ok (.getfield 61, 3) := by decide +kernel
theorem dX6_bestTells_8 : decode cX6_bestTells 8 = .ok (.ifCond .ne 6, 3) := by decide +kernel
theorem dX6_bestTells_11 : decode cX6_bestTells 11 = .ok (.bipush (-4), 2) := by decide +kernel
theorem dX6_bestTells_13 : decode cX6_bestTells 13 = .ok (.ireturn, 1) := by decide +kernel
theorem dX6_bestTells_14 : decode cX6_bestTells 14 = .ok (.iload_n 1, 1) := by decide +kernel
theorem dX6_bestTells_15 : decode cX6_bestTells 15 = .ok (.iconst (-1), 1) := by decide +kernel
theorem dX6_bestTells_16 : decode cX6_bestTells 16 = .ok (.if_icmp .ne 8, 3) := by decide +kernel
theorem dX6_bestTells_19 : decode cX6_bestTells 19 = .ok (.aload_n 0, 1) := by decide +kernel
theorem dX6_bestTells_20 : decode cX6_bestTells 20 = .ok (.getfield 64, 3) := by decide +kernel
theorem dX6_bestTells_23 : decode cX6_bestTells 23 = .ok (.ireturn, 1) := by decide +kernel
theorem dX6_bestTells_24 : decode cX6_bestTells 24 = .ok (.iload_n 1, 1) := by decide +kernel
theorem dX6_bestTells_25 : decode cX6_bestTells 25 = .ok (.bipush (-2), 2) := by decide +kernel
theorem dX6_bestTells_27 : decode cX6_bestTells 27 = .ok (.if_icmp .ne 8, 3) := by decide +kernel
theorem dX6_bestTells_30 : decode cX6_bestTells 30 = .ok (.aload_n 0, 1) := by decide +kernel
theorem dX6_bestTells_31 : decode cX6_bestTells 31 = .ok (.getfield 67, 3) := by decide +kernel
theorem dX6_bestTells_34 : decode cX6_bestTells 34 = .ok (.ireturn, 1) := by decide +kernel
theorem dX6_bestTells_35 : decode cX6_bestTells 35 = .ok (.iload_n 1, 1) := by decide +kernel
theorem dX6_bestTells_36 : decode cX6_bestTells 36 = .ok (.ifCond .lt 20, 3) := by decide +kernel
theorem dX6_bestTells_39 : decode cX6_bestTells 39 = .ok (.iload_n 1, 1) := by decide +kernel
theorem dX6_bestTells_40 : decode cX6_bestTells 40 = .ok (.aload_n 0, 1) := by decide +kernel
theorem dX6_bestTells_41 : decode cX6_bestTells 41 = .ok (.getfield 67, 3) := by decide +kernel
theorem dX6_bestTells_44 : decode cX6_bestTells 44 = .ok (.if_icmp .ge 12, 3) := by decide +kernel
theorem dX6_bestTells_47 : decode cX6_bestTells 47 = .ok (.aload_n 0, 1) := by decide +kernel
theorem dX6_bestTells_48 : decode cX6_bestTells 48 = .ok (.getfield 18, 3) := by decide +kernel
theorem dX6_bestTells_51 : decode cX6_bestTells 51 = .ok (.iload_n 1, 1) := by decide +kernel
theorem dX6_bestTells_52 : decode cX6_bestTells 52 = .ok (.iaload, 1) := by decide +kernel
theorem dX6_bestTells_53 : decode cX6_bestTells 53 = .ok (.goto 5, 3) := by decide +kernel
theorem dX6_bestTells_56 : decode cX6_bestTells 56 = .ok (.bipush (-4), 2) := by decide +kernel
theorem dX6_bestTells_58 : decode cX6_bestTells 58 = .ok (.ireturn, 1) := by decide +kernel
theorem dX6_bestWord_0 : decode cX6_bestWord 0 = .ok (.aload_n 0, 1) := by decide +kernel
theorem dX6_bestWord_1 : decode cX6_bestWord 1 = .ok (.invokevirtual 54, 3) := by decide +kernel
theorem dX6_bestWord_4 : decode cX6_bestWord 4 = .ok (.aload_n 0, 1) := by decide +kernel
theorem dX6_bestWord_5 : decode cX6_bestWord 5 = .ok (.getfield 61, 3) := by decide +kernel
theorem dX6_bestWord_8 : decode cX6_bestWord 8 = .ok (.ifCond .ne 8, 3) := by decide +kernel
theorem dX6_bestWord_11 : decode cX6_bestWord 11 = .ok (.bipush (-4), 2) := by decide +kernel
theorem dX6_bestWord_13 : decode cX6_bestWord 13 = .ok (.goto 21, 3) := by decide +kernel
theorem dX6_bestWord_16 : decode cX6_bestWord 16 = .ok (.aload_n 0, 1) := by decide +kernel
theorem dX6_bestWord_17 : decode cX6_bestWord 17 = .ok (.getfield 31, 3) := by decide +kernel
theorem dX6_bestWord_20 : decode cX6_bestWord 20 = .ok (.getfield 70, 3) := by decide +kernel
theorem dX6_bestWord_23 : decode cX6_bestWord 23 = .ok (.iload_n 1, 1) := by decide +kernel
theorem dX6_bestWord_24 : decode cX6_bestWord 24 = .ok (.iconst 4, 1) := by decide +kernel
theorem dX6_bestWord_25 : decode cX6_bestWord 25 = .ok (.imul, 1) := by decide +kernel
theorem dX6_bestWord_26 : decode cX6_bestWord 26 = .ok (.aload_n 0, 1) := by decide +kernel
theorem dX6_bestWord_27 : decode cX6_bestWord 27 = .ok (.getfield 22, 3) := by decide +kernel
theorem dX6_bestWord_30 : decode cX6_bestWord 30 = .ok (.iload_n 1, 1) := by decide +kernel
theorem dX6_bestWord_31 : decode cX6_bestWord 31 = .ok (.iaload, 1) := by decide +kernel
theorem dX6_bestWord_32 : decode cX6_bestWord 32 = .ok (.iadd, 1) := by decide +kernel
theorem dX6_bestWord_33 : decode cX6_bestWord 33 = .ok (.iaload, 1) := by decide +kernel
theorem dX6_bestWord_34 : decode cX6_bestWord 34 = .ok (.ireturn, 1) := by decide +kernel
theorem dX6_countedOnes_0 : decode cX6_countedOnes 0 = .ok (.aload_n 0, 1) := by decide +kernel
theorem dX6_countedOnes_1 : decode cX6_countedOnes 1 = .ok (.invokevirtual 75, 3) := by decide +kernel
theorem dX6_countedOnes_4 : decode cX6_countedOnes 4 = .ok (.aload_n 0, 1) := by decide +kernel
theorem dX6_countedOnes_5 : decode cX6_countedOnes 5 = .ok (.getfield 12, 3) := by decide +kernel
theorem dX6_countedOnes_8 : decode cX6_countedOnes 8 = .ok (.getfield 78, 3) := by decide +kernel
theorem dX6_countedOnes_11 : decode cX6_countedOnes 11 = .ok (.ireturn, 1) := by decide +kernel
theorem dX6_lookAt_0 : decode cX6_lookAt 0 = .ok (.aload_n 0, 1) := by decide +kernel
theorem dX6_lookAt_1 : decode cX6_lookAt 1 = .ok (.invokevirtual 75, 3) := by decide +kernel
theorem dX6_lookAt_4 : decode cX6_lookAt 4 = .ok (.aload_n 0, 1) := by decide +kernel
theorem dX6_lookAt_5 : decode cX6_lookAt 5 = .ok (.getfield 12, 3) := by decide +kernel
theorem dX6_lookAt_8 : decode cX6_lookAt 8 = .ok (.aload_n 0, 1) := by decide +kernel
theorem dX6_lookAt_9 : decode cX6_lookAt 9 = .ok (.getfield 12, 3) := by decide +kernel
theorem dX6_lookAt_12 : decode cX6_lookAt 12 = .ok (.getfield 81, 3) := by decide +kernel
theorem dX6_lookAt_15 : decode cX6_lookAt 15 = .ok (.aload_n 0, 1) := by decide +kernel
theorem dX6_lookAt_16 : decode cX6_lookAt 16 = .ok (.getfield 12, 3) := by decide +kernel
theorem dX6_lookAt_19 : decode cX6_lookAt 19 = .ok (.getfield 78, 3) := by decide +kernel
theorem dX6_lookAt_22 : decode cX6_lookAt 22 = .ok (.invokevirtual 84, 3) := by decide +kernel
theorem dX6_lookAt_25 : decode cX6_lookAt 25 = .ok (.ireturn, 1) := by decide +kernel
theorem dX6_questions_0 : decode cX6_questions 0 = .ok (.aload_n 0, 1) := by decide +kernel
theorem dX6_questions_1 : decode cX6_questions 1 = .ok (.invokevirtual 75, 3) := by decide +kernel
theorem dX6_questions_4 : decode cX6_questions 4 = .ok (.aload_n 0, 1) := by decide +kernel
theorem dX6_questions_5 : decode cX6_questions 5 = .ok (.getfield 12, 3) := by decide +kernel
theorem dX6_questions_8 : decode cX6_questions 8 = .ok (.invokevirtual 88, 3) := by decide +kernel
theorem dX6_questions_11 : decode cX6_questions 11 = .ok (.ireturn, 1) := by decide +kernel
theorem dX6_nextCost_0 : decode cX6_nextCost 0 = .ok (.aload_n 0, 1) := by decide +kernel
theorem dX6_nextCost_1 : decode cX6_nextCost 1 = .ok (.invokevirtual 75, 3) := by decide +kernel
theorem dX6_nextCost_4 : decode cX6_nextCost 4 = .ok (.aload_n 0, 1) := by decide +kernel
theorem dX6_nextCost_5 : decode cX6_nextCost 5 = .ok (.getfield 92, 3) := by decide +kernel
theorem dX6_nextCost_8 : decode cX6_nextCost 8 = .ok (.ireturn, 1) := by decide +kernel
theorem dX6_countedWords_0 : decode cX6_countedWords 0 = .ok (.aload_n 0, 1) := by decide +kernel
theorem dX6_countedWords_1 : decode cX6_countedWords 1 = .ok (.invokevirtual 75, 3) := by decide +kernel
theorem dX6_countedWords_4 : decode cX6_countedWords 4 = .ok (.lconst 0, 1) := by decide +kernel
theorem dX6_countedWords_5 : decode cX6_countedWords 5 = .ok (.lstore_n 2, 1) := by decide +kernel
theorem dX6_countedWords_6 : decode cX6_countedWords 6 = .ok (.iconst 0, 1) := by decide +kernel
theorem dX6_countedWords_7 : decode cX6_countedWords 7 = .ok (.istore 4, 2) := by decide +kernel
theorem dX6_countedWords_9 : decode cX6_countedWords 9 = .ok (.iload 4, 2) := by decide +kernel
theorem dX6_countedWords_11 : decode cX6_countedWords 11 = .ok (.aload_n 0, 1) := by decide +kernel
theorem dX6_countedWords_12 : decode cX6_countedWords 12 = .ok (.getfield 31, 3) := by decide +kernel
theorem dX6_countedWords_15 : decode cX6_countedWords 15 = .ok (.getfield 95, 3) := by decide +kernel
theorem dX6_countedWords_18 : decode cX6_countedWords 18 = .ok (.iload_n 1, 1) := by decide +kernel
theorem dX6_countedWords_19 : decode cX6_countedWords 19 = .ok (.iaload, 1) := by decide +kernel
theorem dX6_countedWords_20 : decode cX6_countedWords 20 = .ok (.if_icmp .ge 45, 3) := by decide +kernel
theorem dX6_countedWords_23 : decode cX6_countedWords 23 = .ok (.iload_n 1, 1) := by decide +kernel
theorem dX6_countedWords_24 : decode cX6_countedWords 24 = .ok (.iconst 4, 1) := by decide +kernel
theorem dX6_countedWords_25 : decode cX6_countedWords 25 = .ok (.imul, 1) := by decide +kernel
theorem dX6_countedWords_26 : decode cX6_countedWords 26 = .ok (.iload 4, 2) := by decide +kernel
theorem dX6_countedWords_28 : decode cX6_countedWords 28 = .ok (.iadd, 1) := by decide +kernel
theorem dX6_countedWords_29 : decode cX6_countedWords 29 = .ok (.istore 5, 2) := by decide +kernel
theorem dX6_countedWords_31 : decode cX6_countedWords 31 = .ok (.aload_n 0, 1) := by decide +kernel
theorem dX6_countedWords_32 : decode cX6_countedWords 32 = .ok (.getfield 12, 3) := by decide +kernel
theorem dX6_countedWords_35 : decode cX6_countedWords 35 = .ok (.getfield 81, 3) := by decide +kernel
theorem dX6_countedWords_38 : decode cX6_countedWords 38 = .ok (.iload 5, 2) := by decide +kernel
theorem dX6_countedWords_40 : decode cX6_countedWords 40 = .ok (.iaload, 1) := by decide +kernel
theorem dX6_countedWords_41 : decode cX6_countedWords 41 = .ok (.ifCond .le 18, 3) := by decide +kernel
theorem dX6_countedWords_44 : decode cX6_countedWords 44 = .ok (.lload_n 2, 1) := by decide +kernel
theorem dX6_countedWords_45 : decode cX6_countedWords 45 = .ok (.lconst 1, 1) := by decide +kernel
theorem dX6_countedWords_46 : decode cX6_countedWords 46 = .ok (.aload_n 0, 1) := by decide +kernel
theorem dX6_countedWords_47 : decode cX6_countedWords 47 = .ok (.getfield 31, 3) := by decide +kernel
theorem dX6_countedWords_50 : decode cX6_countedWords 50 = .ok (.getfield 70, 3) := by decide +kernel
theorem dX6_countedWords_53 : decode cX6_countedWords 53 = .ok (.iload 5, 2) := by decide +kernel
theorem dX6_countedWords_55 : decode cX6_countedWords 55 = .ok (.iaload, 1) := by decide +kernel
theorem dX6_countedWords_56 : decode cX6_countedWords 56 = .ok (.lshl, 1) := by decide +kernel
theorem dX6_countedWords_57 : decode cX6_countedWords 57 = .ok (.lor, 1) := by decide +kernel
theorem dX6_countedWords_58 : decode cX6_countedWords 58 = .ok (.lstore_n 2, 1) := by decide +kernel
theorem dX6_countedWords_59 : decode cX6_countedWords 59 = .ok (.iinc 4 1, 3) := by decide +kernel
theorem dX6_countedWords_62 : decode cX6_countedWords 62 = .ok (.goto (-53), 3) := by decide +kernel
theorem dX6_countedWords_65 : decode cX6_countedWords 65 = .ok (.lload_n 2, 1) := by decide +kernel
theorem dX6_countedWords_66 : decode cX6_countedWords 66 = .ok (.lreturn, 1) := by decide +kernel
theorem dX6_countedTells_0 : decode cX6_countedTells 0 = .ok (.aload_n 0, 1) := by decide +kernel
theorem dX6_countedTells_1 : decode cX6_countedTells 1 = .ok (.invokevirtual 75, 3) := by decide +kernel
theorem dX6_countedTells_4 : decode cX6_countedTells 4 = .ok (.iload_n 1, 1) := by decide +kernel
theorem dX6_countedTells_5 : decode cX6_countedTells 5 = .ok (.aload_n 0, 1) := by decide +kernel
theorem dX6_countedTells_6 : decode cX6_countedTells 6 = .ok (.getfield 12, 3) := by decide +kernel
theorem dX6_countedTells_9 : decode cX6_countedTells 9 = .ok (.getfield 78, 3) := by decide +kernel
theorem dX6_countedTells_12 : decode cX6_countedTells 12 = .ok (.if_icmp .lt 6, 3) := by decide +kernel
theorem dX6_countedTells_15 : decode cX6_countedTells 15 = .ok (.bipush (-4), 2) := by decide +kernel
theorem dX6_countedTells_17 : decode cX6_countedTells 17 = .ok (.ireturn, 1) := by decide +kernel
theorem dX6_countedTells_18 : decode cX6_countedTells 18 = .ok (.iload_n 1, 1) := by decide +kernel
theorem dX6_countedTells_19 : decode cX6_countedTells 19 = .ok (.bipush 60, 2) := by decide +kernel
theorem dX6_countedTells_21 : decode cX6_countedTells 21 = .ok (.if_icmp .ge 28, 3) := by decide +kernel
theorem dX6_countedTells_24 : decode cX6_countedTells 24 = .ok (.iload_n 2, 1) := by decide +kernel
theorem dX6_countedTells_25 : decode cX6_countedTells 25 = .ok (.ifCond .eq 14, 3) := by decide +kernel
theorem dX6_countedTells_28 : decode cX6_countedTells 28 = .ok (.aload_n 0, 1) := by decide +kernel
theorem dX6_countedTells_29 : decode cX6_countedTells 29 = .ok (.getfield 12, 3) := by decide +kernel
theorem dX6_countedTells_32 : decode cX6_countedTells 32 = .ok (.iload_n 1, 1) := by decide +kernel
theorem dX6_countedTells_33 : decode cX6_countedTells 33 = .ok (.invokevirtual 98, 3) := by decide +kernel
theorem dX6_countedTells_36 : decode cX6_countedTells 36 = .ok (.goto 12, 3) := by decide +kernel
theorem dX6_countedTells_39 : decode cX6_countedTells 39 = .ok (.aload_n 0, 1) := by decide +kernel
theorem dX6_countedTells_40 : decode cX6_countedTells 40 = .ok (.getfield 12, 3) := by decide +kernel
theorem dX6_countedTells_43 : decode cX6_countedTells 43 = .ok (.getfield 102, 3) := by decide +kernel
theorem dX6_countedTells_46 : decode cX6_countedTells 46 = .ok (.iload_n 1, 1) := by decide +kernel
theorem dX6_countedTells_47 : decode cX6_countedTells 47 = .ok (.iaload, 1) := by decide +kernel
theorem dX6_countedTells_48 : decode cX6_countedTells 48 = .ok (.ireturn, 1) := by decide +kernel
theorem dX6_countedTells_49 : decode cX6_countedTells 49 = .ok (.iload_n 1, 1) := by decide +kernel
theorem dX6_countedTells_50 : decode cX6_countedTells 50 = .ok (.istore_n 3, 1) := by decide +kernel
theorem dX6_countedTells_51 : decode cX6_countedTells 51 = .ok (.aload_n 0, 1) := by decide +kernel
theorem dX6_countedTells_52 : decode cX6_countedTells 52 = .ok (.getfield 40, 3) := by decide +kernel
theorem dX6_countedTells_55 : decode cX6_countedTells 55 = .ok (.invokevirtual 105, 3) := by decide +kernel
theorem dX6_countedTells_58 : decode cX6_countedTells 58 = .ok (.ldc 108, 2) := by decide +kernel
theorem dX6_countedTells_60 : decode cX6_countedTells 60 = .ok (.istore 4, 2) := by decide +kernel
theorem dX6_countedTells_62 : decode cX6_countedTells 62 = .ok (.iload 4, 2) := by decide +kernel
theorem dX6_countedTells_64 : decode cX6_countedTells 64 = .ok (.ifCond .le 65, 3) := by decide +kernel
theorem dX6_countedTells_67 : decode cX6_countedTells 67 = .ok (.aload_n 0, 1) := by decide +kernel
theorem dX6_countedTells_68 : decode cX6_countedTells 68 = .ok (.getfield 40, 3) := by decide +kernel
theorem dX6_countedTells_71 : decode cX6_countedTells 71 = .ok (.invokevirtual 109, 3) := by decide +kernel
theorem dX6_countedTells_74 : decode cX6_countedTells 74 = .ok (.ifCond .eq 55, 3) := by decide +kernel
theorem dX6_countedTells_77 : decode cX6_countedTells 77 = .ok (.aload_n 0, 1) := by decide +kernel
theorem dX6_countedTells_78 : decode cX6_countedTells 78 = .ok (.invokevirtual 113, 3) := by decide +kernel
theorem dX6_countedTells_81 : decode cX6_countedTells 81 = .ok (.ifCond .eq 42, 3) := by decide +kernel
theorem dX6_countedTells_84 : decode cX6_countedTells 84 = .ok (.iload_n 3, 1) := by decide +kernel
theorem dX6_countedTells_85 : decode cX6_countedTells 85 = .ok (.iinc 3 (-1), 3) := by decide +kernel
theorem dX6_countedTells_88 : decode cX6_countedTells 88 = .ok (.ifCond .ne 35, 3) := by decide +kernel
theorem dX6_countedTells_91 : decode cX6_countedTells 91 = .ok (.iload_n 2, 1) := by decide +kernel
theorem dX6_countedTells_92 : decode cX6_countedTells 92 = .ok (.ifCond .eq 23, 3) := by decide +kernel
theorem dX6_countedTells_95 : decode cX6_countedTells 95 = .ok (.aload_n 0, 1) := by decide +kernel
theorem dX6_countedTells_96 : decode cX6_countedTells 96 = .ok (.getfield 40, 3) := by decide +kernel
theorem dX6_countedTells_99 : decode cX6_countedTells 99 = .ok (.getfield 116, 3) := by decide +kernel
theorem dX6_countedTells_102 : decode cX6_countedTells 102 = .ok (.aload_n 0, 1) := by decide +kernel
theorem dX6_countedTells_103 : decode cX6_countedTells 103 = .ok (.getfield 40, 3) := by decide +kernel
theorem dX6_countedTells_106 : decode cX6_countedTells 106 = .ok (.getfield 119, 3) := by decide +kernel
theorem dX6_countedTells_109 : decode cX6_countedTells 109 = .ok (.iconst 1, 1) := by decide +kernel
theorem dX6_countedTells_110 : decode cX6_countedTells 110 = .ok (.isub, 1) := by decide +kernel
theorem dX6_countedTells_111 : decode cX6_countedTells 111 = .ok (.iaload, 1) := by decide +kernel
theorem dX6_countedTells_112 : decode cX6_countedTells 112 = .ok (.goto 10, 3) := by decide +kernel
theorem dX6_countedTells_115 : decode cX6_countedTells 115 = .ok (.aload_n 0, 1) := by decide +kernel
theorem dX6_countedTells_116 : decode cX6_countedTells 116 = .ok (.getfield 40, 3) := by decide +kernel
theorem dX6_countedTells_119 : decode cX6_countedTells 119 = .ok (.getfield 120, 3) := by decide +kernel
theorem dX6_countedTells_122 : decode cX6_countedTells 122 = .ok (.ireturn, 1) := by decide +kernel
theorem dX6_countedTells_123 : decode cX6_countedTells 123 = .ok (.iinc 4 (-1), 3) := by decide +kernel
theorem dX6_countedTells_126 : decode cX6_countedTells 126 = .ok (.goto (-64), 3) := by decide +kernel
theorem dX6_countedTells_129 : decode cX6_countedTells 129 = .ok (.bipush (-4), 2) := by decide +kernel
theorem dX6_countedTells_131 : decode cX6_countedTells 131 = .ok (.ireturn, 1) := by decide +kernel
theorem dX6_spoilt_0 : decode cX6_spoilt 0 = .ok (.aload_n 0, 1) := by decide +kernel
theorem dX6_spoilt_1 : decode cX6_spoilt 1 = .ok (.invokevirtual 54, 3) := by decide +kernel
theorem dX6_spoilt_4 : decode cX6_spoilt 4 = .ok (.aload_n 0, 1) := by decide +kernel
theorem dX6_spoilt_5 : decode cX6_spoilt 5 = .ok (.getfield 61, 3) := by decide +kernel
theorem dX6_spoilt_8 : decode cX6_spoilt 8 = .ok (.ifCond .ne 6, 3) := by decide +kernel
theorem dX6_spoilt_11 : decode cX6_spoilt 11 = .ok (.bipush (-4), 2) := by decide +kernel
theorem dX6_spoilt_13 : decode cX6_spoilt 13 = .ok (.ireturn, 1) := by decide +kernel
theorem dX6_spoilt_14 : decode cX6_spoilt 14 = .ok (.iconst 0, 1) := by decide +kernel
theorem dX6_spoilt_15 : decode cX6_spoilt 15 = .ok (.istore_n 1, 1) := by decide +kernel
theorem dX6_spoilt_16 : decode cX6_spoilt 16 = .ok (.aload_n 0, 1) := by decide +kernel
theorem dX6_spoilt_17 : decode cX6_spoilt 17 = .ok (.getfield 22, 3) := by decide +kernel
theorem dX6_spoilt_20 : decode cX6_spoilt 20 = .ok (.iconst 0, 1) := by decide +kernel
theorem dX6_spoilt_21 : decode cX6_spoilt 21 = .ok (.aload_n 0, 1) := by decide +kernel
theorem dX6_spoilt_22 : decode cX6_spoilt 22 = .ok (.getfield 25, 3) := by decide +kernel
theorem dX6_spoilt_25 : decode cX6_spoilt 25 = .ok (.iconst 0, 1) := by decide +kernel
theorem dX6_spoilt_26 : decode cX6_spoilt 26 = .ok (.bipush 8, 2) := by decide +kernel
theorem dX6_spoilt_28 : decode cX6_spoilt 28 = .ok (.invokestatic 122, 3) := by decide +kernel
theorem dX6_spoilt_31 : decode cX6_spoilt 31 = .ok (.iconst 0, 1) := by decide +kernel
theorem dX6_spoilt_32 : decode cX6_spoilt 32 = .ok (.istore_n 2, 1) := by decide +kernel
theorem dX6_spoilt_33 : decode cX6_spoilt 33 = .ok (.iload_n 2, 1) := by decide +kernel
theorem dX6_spoilt_34 : decode cX6_spoilt 34 = .ok (.aload_n 0, 1) := by decide +kernel
theorem dX6_spoilt_35 : decode cX6_spoilt 35 = .ok (.getfield 31, 3) := by decide +kernel
theorem dX6_spoilt_38 : decode cX6_spoilt 38 = .ok (.getfield 128, 3) := by decide +kernel
theorem dX6_spoilt_41 : decode cX6_spoilt 41 = .ok (.if_icmp .ge 73, 3) := by decide +kernel
theorem dX6_spoilt_44 : decode cX6_spoilt 44 = .ok (.iconst 0, 1) := by decide +kernel
theorem dX6_spoilt_45 : decode cX6_spoilt 45 = .ok (.istore_n 3, 1) := by decide +kernel
theorem dX6_spoilt_46 : decode cX6_spoilt 46 = .ok (.iload_n 3, 1) := by decide +kernel
theorem dX6_spoilt_47 : decode cX6_spoilt 47 = .ok (.aload_n 0, 1) := by decide +kernel
theorem dX6_spoilt_48 : decode cX6_spoilt 48 = .ok (.getfield 31, 3) := by decide +kernel
theorem dX6_spoilt_51 : decode cX6_spoilt 51 = .ok (.getfield 95, 3) := by decide +kernel
theorem dX6_spoilt_54 : decode cX6_spoilt 54 = .ok (.iload_n 2, 1) := by decide +kernel
theorem dX6_spoilt_55 : decode cX6_spoilt 55 = .ok (.iaload, 1) := by decide +kernel
theorem dX6_spoilt_56 : decode cX6_spoilt 56 = .ok (.if_icmp .ge 40, 3) := by decide +kernel
theorem dX6_spoilt_59 : decode cX6_spoilt 59 = .ok (.aload_n 0, 1) := by decide +kernel
theorem dX6_spoilt_60 : decode cX6_spoilt 60 = .ok (.getfield 25, 3) := by decide +kernel
theorem dX6_spoilt_63 : decode cX6_spoilt 63 = .ok (.iload_n 2, 1) := by decide +kernel
theorem dX6_spoilt_64 : decode cX6_spoilt 64 = .ok (.iload_n 3, 1) := by decide +kernel
theorem dX6_spoilt_65 : decode cX6_spoilt 65 = .ok (.iastore, 1) := by decide +kernel
theorem dX6_spoilt_66 : decode cX6_spoilt 66 = .ok (.aload_n 0, 1) := by decide +kernel
theorem dX6_spoilt_67 : decode cX6_spoilt 67 = .ok (.getfield 40, 3) := by decide +kernel
theorem dX6_spoilt_70 : decode cX6_spoilt 70 = .ok (.aload_n 0, 1) := by decide +kernel
theorem dX6_spoilt_71 : decode cX6_spoilt 71 = .ok (.getfield 25, 3) := by decide +kernel
theorem dX6_spoilt_74 : decode cX6_spoilt 74 = .ok (.invokevirtual 131, 3) := by decide +kernel
theorem dX6_spoilt_77 : decode cX6_spoilt 77 = .ok (.ifCond .eq 13, 3) := by decide +kernel
theorem dX6_spoilt_80 : decode cX6_spoilt 80 = .ok (.aload_n 0, 1) := by decide +kernel
theorem dX6_spoilt_81 : decode cX6_spoilt 81 = .ok (.invokevirtual 135, 3) := by decide +kernel
theorem dX6_spoilt_84 : decode cX6_spoilt 84 = .ok (.ifCond .ne 6, 3) := by decide +kernel
theorem dX6_spoilt_87 : decode cX6_spoilt 87 = .ok (.iinc 1 1, 3) := by decide +kernel
theorem dX6_spoilt_90 : decode cX6_spoilt 90 = .ok (.iinc 3 1, 3) := by decide +kernel
theorem dX6_spoilt_93 : decode cX6_spoilt 93 = .ok (.goto (-47), 3) := by decide +kernel
theorem dX6_spoilt_96 : decode cX6_spoilt 96 = .ok (.aload_n 0, 1) := by decide +kernel
theorem dX6_spoilt_97 : decode cX6_spoilt 97 = .ok (.getfield 25, 3) := by decide +kernel
theorem dX6_spoilt_100 : decode cX6_spoilt 100 = .ok (.iload_n 2, 1) := by decide +kernel
theorem dX6_spoilt_101 : decode cX6_spoilt 101 = .ok (.aload_n 0, 1) := by decide +kernel
theorem dX6_spoilt_102 : decode cX6_spoilt 102 = .ok (.getfield 22, 3) := by decide +kernel
theorem dX6_spoilt_105 : decode cX6_spoilt 105 = .ok (.iload_n 2, 1) := by decide +kernel
theorem dX6_spoilt_106 : decode cX6_spoilt 106 = .ok (.iaload, 1) := by decide +kernel
theorem dX6_spoilt_107 : decode cX6_spoilt 107 = .ok (.iastore, 1) := by decide +kernel
theorem dX6_spoilt_108 : decode cX6_spoilt 108 = .ok (.iinc 2 1, 3) := by decide +kernel
theorem dX6_spoilt_111 : decode cX6_spoilt 111 = .ok (.goto (-78), 3) := by decide +kernel
theorem dX6_spoilt_114 : decode cX6_spoilt 114 = .ok (.iload_n 1, 1) := by decide +kernel
theorem dX6_spoilt_115 : decode cX6_spoilt 115 = .ok (.ireturn, 1) := by decide +kernel
theorem dX6_likelihood_0 : decode cX6_likelihood 0 = .ok (.aload_n 0, 1) := by decide +kernel
theorem dX6_likelihood_1 : decode cX6_likelihood 1 = .ok (.iload_n 1, 1) := by decide +kernel
theorem dX6_likelihood_2 : decode cX6_likelihood 2 = .ok (.invokevirtual 138, 3) := by decide +kernel
theorem dX6_likelihood_5 : decode cX6_likelihood 5 = .ok (.aload_n 0, 1) := by decide +kernel
theorem dX6_likelihood_6 : decode cX6_likelihood 6 = .ok (.getfield 142, 3) := by decide +kernel
theorem dX6_likelihood_9 : decode cX6_likelihood 9 = .ok (.aload_n 0, 1) := by decide +kernel
theorem dX6_likelihood_10 : decode cX6_likelihood 10 = .ok (.getfield 146, 3) := by decide +kernel
theorem dX6_likelihood_13 : decode cX6_likelihood 13 = .ok (.invokestatic 149, 3) := by decide +kernel
theorem dX6_likelihood_16 : decode cX6_likelihood 16 = .ok (.lstore_n 3, 1) := by decide +kernel
theorem dX6_likelihood_17 : decode cX6_likelihood 17 = .ok (.aload_n 0, 1) := by decide +kernel
theorem dX6_likelihood_18 : decode cX6_likelihood 18 = .ok (.getfield 142, 3) := by decide +kernel
theorem dX6_likelihood_21 : decode cX6_likelihood 21 = .ok (.lconst 0, 1) := by decide +kernel
theorem dX6_likelihood_22 : decode cX6_likelihood 22 = .ok (.lcmp, 1) := by decide +kernel
theorem dX6_likelihood_23 : decode cX6_likelihood 23 = .ok (.ifCond .eq 9, 3) := by decide +kernel
theorem dX6_likelihood_26 : decode cX6_likelihood 26 = .ok (.lload_n 3, 1) := by decide +kernel
theorem dX6_likelihood_27 : decode cX6_likelihood 27 = .ok (.lconst 0, 1) := by decide +kernel
theorem dX6_likelihood_28 : decode cX6_likelihood 28 = .ok (.lcmp, 1) := by decide +kernel
theorem dX6_likelihood_29 : decode cX6_likelihood 29 = .ok (.ifCond .ne 7, 3) := by decide +kernel
theorem dX6_likelihood_32 : decode cX6_likelihood 32 = .ok (.ldc2_w 153, 3) := by decide +kernel
theorem dX6_likelihood_35 : decode cX6_likelihood 35 = .ok (.lreturn, 1) := by decide +kernel
theorem dX6_likelihood_36 : decode cX6_likelihood 36 = .ok (.iload_n 2, 1) := by decide +kernel
theorem dX6_likelihood_37 : decode cX6_likelihood 37 = .ok (.ifCond .eq 10, 3) := by decide +kernel
theorem dX6_likelihood_40 : decode cX6_likelihood 40 = .ok (.aload_n 0, 1) := by decide +kernel
theorem dX6_likelihood_41 : decode cX6_likelihood 41 = .ok (.getfield 142, 3) := by decide +kernel
theorem dX6_likelihood_44 : decode cX6_likelihood 44 = .ok (.goto 7, 3) := by decide +kernel
theorem dX6_likelihood_47 : decode cX6_likelihood 47 = .ok (.aload_n 0, 1) := by decide +kernel
theorem dX6_likelihood_48 : decode cX6_likelihood 48 = .ok (.getfield 146, 3) := by decide +kernel
theorem dX6_likelihood_51 : decode cX6_likelihood 51 = .ok (.lload_n 3, 1) := by decide +kernel
theorem dX6_likelihood_52 : decode cX6_likelihood 52 = .ok (.ldiv, 1) := by decide +kernel
theorem dX6_likelihood_53 : decode cX6_likelihood 53 = .ok (.lreturn, 1) := by decide +kernel
theorem dX6_kindsMeant_0 : decode cX6_kindsMeant 0 = .ok (.iconst 0, 1) := by decide +kernel
theorem dX6_kindsMeant_1 : decode cX6_kindsMeant 1 = .ok (.istore 4, 2) := by decide +kernel
theorem dX6_kindsMeant_3 : decode cX6_kindsMeant 3 = .ok (.iconst 0, 1) := by decide +kernel
theorem dX6_kindsMeant_4 : decode cX6_kindsMeant 4 = .ok (.istore 5, 2) := by decide +kernel
theorem dX6_kindsMeant_6 : decode cX6_kindsMeant 6 = .ok (.iload 5, 2) := by decide +kernel
theorem dX6_kindsMeant_8 : decode cX6_kindsMeant 8 = .ok (.iconst 5, 1) := by decide +kernel
theorem dX6_kindsMeant_9 : decode cX6_kindsMeant 9 = .ok (.if_icmp .ge 18, 3) := by decide +kernel
theorem dX6_kindsMeant_12 : decode cX6_kindsMeant 12 = .ok (.aload_n 0, 1) := by decide +kernel
theorem dX6_kindsMeant_13 : decode cX6_kindsMeant 13 = .ok (.getfield 28, 3) := by decide +kernel
theorem dX6_kindsMeant_16 : decode cX6_kindsMeant 16 = .ok (.iload 5, 2) := by decide +kernel
theorem dX6_kindsMeant_18 : decode cX6_kindsMeant 18 = .ok (.bipush 80, 2) := by decide +kernel
theorem dX6_kindsMeant_20 : decode cX6_kindsMeant 20 = .ok (.iastore, 1) := by decide +kernel
theorem dX6_kindsMeant_21 : decode cX6_kindsMeant 21 = .ok (.iinc 5 1, 3) := by decide +kernel
theorem dX6_kindsMeant_24 : decode cX6_kindsMeant 24 = .ok (.goto (-18), 3) := by decide +kernel
theorem dX6_kindsMeant_27 : decode cX6_kindsMeant 27 = .ok (.aload_n 0, 1) := by decide +kernel
theorem dX6_kindsMeant_28 : decode cX6_kindsMeant 28 = .ok (.getfield 40, 3) := by decide +kernel
theorem dX6_kindsMeant_31 : decode cX6_kindsMeant 31 = .ok (.invokevirtual 105, 3) := by decide +kernel
theorem dX6_kindsMeant_34 : decode cX6_kindsMeant 34 = .ok (.ldc 108, 2) := by decide +kernel
theorem dX6_kindsMeant_36 : decode cX6_kindsMeant 36 = .ok (.istore 5, 2) := by decide +kernel
theorem dX6_kindsMeant_38 : decode cX6_kindsMeant 38 = .ok (.iload 5, 2) := by decide +kernel
theorem dX6_kindsMeant_40 : decode cX6_kindsMeant 40 = .ok (.ifCond .le 135, 3) := by decide +kernel
theorem dX6_kindsMeant_43 : decode cX6_kindsMeant 43 = .ok (.aload_n 0, 1) := by decide +kernel
theorem dX6_kindsMeant_44 : decode cX6_kindsMeant 44 = .ok (.getfield 40, 3) := by decide +kernel
theorem dX6_kindsMeant_47 : decode cX6_kindsMeant 47 = .ok (.invokevirtual 109, 3) := by decide +kernel
theorem dX6_kindsMeant_50 : decode cX6_kindsMeant 50 = .ok (.ifCond .eq 125, 3) := by decide +kernel
theorem dX6_kindsMeant_53 : decode cX6_kindsMeant 53 = .ok (.aload_n 1, 1) := by decide +kernel
theorem dX6_kindsMeant_54 : decode cX6_kindsMeant 54 = .ok (.iload_n 2, 1) := by decide +kernel
theorem dX6_kindsMeant_55 : decode cX6_kindsMeant 55 = .ok (.iload_n 3, 1) := by decide +kernel
theorem dX6_kindsMeant_56 : decode cX6_kindsMeant 56 = .ok (.aload_n 0, 1) := by decide +kernel
theorem dX6_kindsMeant_57 : decode cX6_kindsMeant 57 = .ok (.getfield 40, 3) := by decide +kernel
theorem dX6_kindsMeant_60 : decode cX6_kindsMeant 60 = .ok (.getfield 116, 3) := by decide +kernel
theorem dX6_kindsMeant_63 : decode cX6_kindsMeant 63 = .ok (.aload_n 0, 1) := by decide +kernel
theorem dX6_kindsMeant_64 : decode cX6_kindsMeant 64 = .ok (.getfield 40, 3) := by decide +kernel
theorem dX6_kindsMeant_67 : decode cX6_kindsMeant 67 = .ok (.getfield 119, 3) := by decide +kernel
theorem dX6_kindsMeant_70 : decode cX6_kindsMeant 70 = .ok (.invokevirtual 155, 3) := by decide +kernel
theorem dX6_kindsMeant_73 : decode cX6_kindsMeant 73 = .ok (.istore 6, 2) := by decide +kernel
theorem dX6_kindsMeant_75 : decode cX6_kindsMeant 75 = .ok (.iconst 0, 1) := by decide +kernel
theorem dX6_kindsMeant_76 : decode cX6_kindsMeant 76 = .ok (.istore 7, 2) := by decide +kernel
theorem dX6_kindsMeant_78 : decode cX6_kindsMeant 78 = .ok (.iload 7, 2) := by decide +kernel
theorem dX6_kindsMeant_80 : decode cX6_kindsMeant 80 = .ok (.iconst 5, 1) := by decide +kernel
theorem dX6_kindsMeant_81 : decode cX6_kindsMeant 81 = .ok (.if_icmp .ge 88, 3) := by decide +kernel
theorem dX6_kindsMeant_84 : decode cX6_kindsMeant 84 = .ok (.aload_n 0, 1) := by decide +kernel
theorem dX6_kindsMeant_85 : decode cX6_kindsMeant 85 = .ok (.getfield 40, 3) := by decide +kernel
theorem dX6_kindsMeant_88 : decode cX6_kindsMeant 88 = .ok (.getfield 120, 3) := by decide +kernel
theorem dX6_kindsMeant_91 : decode cX6_kindsMeant 91 = .ok (.aload_n 0, 1) := by decide +kernel
theorem dX6_kindsMeant_92 : decode cX6_kindsMeant 92 = .ok (.getfield 28, 3) := by decide +kernel
theorem dX6_kindsMeant_95 : decode cX6_kindsMeant 95 = .ok (.iload 7, 2) := by decide +kernel
theorem dX6_kindsMeant_97 : decode cX6_kindsMeant 97 = .ok (.iaload, 1) := by decide +kernel
theorem dX6_kindsMeant_98 : decode cX6_kindsMeant 98 = .ok (.if_icmp .ge 65, 3) := by decide +kernel
theorem dX6_kindsMeant_101 : decode cX6_kindsMeant 101 = .ok (.iload 7, 2) := by decide +kernel
theorem dX6_kindsMeant_103 : decode cX6_kindsMeant 103 = .ok (.aload_n 0, 1) := by decide +kernel
theorem dX6_kindsMeant_104 : decode cX6_kindsMeant 104 = .ok (.getfield 40, 3) := by decide +kernel
theorem dX6_kindsMeant_107 : decode cX6_kindsMeant 107 = .ok (.getfield 116, 3) := by decide +kernel
theorem dX6_kindsMeant_110 : decode cX6_kindsMeant 110 = .ok (.aload_n 0, 1) := by decide +kernel
theorem dX6_kindsMeant_111 : decode cX6_kindsMeant 111 = .ok (.getfield 40, 3) := by decide +kernel
theorem dX6_kindsMeant_114 : decode cX6_kindsMeant 114 = .ok (.getfield 119, 3) := by decide +kernel
theorem dX6_kindsMeant_117 : decode cX6_kindsMeant 117 = .ok (.invokestatic 161, 3) := by decide +kernel
theorem dX6_kindsMeant_120 : decode cX6_kindsMeant 120 = .ok (.ifCond .eq 43, 3) := by decide +kernel
theorem dX6_kindsMeant_123 : decode cX6_kindsMeant 123 = .ok (.aload_n 0, 1) := by decide +kernel
theorem dX6_kindsMeant_124 : decode cX6_kindsMeant 124 = .ok (.getfield 28, 3) := by decide +kernel
theorem dX6_kindsMeant_127 : decode cX6_kindsMeant 127 = .ok (.iload 7, 2) := by decide +kernel
theorem dX6_kindsMeant_129 : decode cX6_kindsMeant 129 = .ok (.aload_n 0, 1) := by decide +kernel
theorem dX6_kindsMeant_130 : decode cX6_kindsMeant 130 = .ok (.getfield 40, 3) := by decide +kernel
theorem dX6_kindsMeant_133 : decode cX6_kindsMeant 133 = .ok (.getfield 120, 3) := by decide +kernel
theorem dX6_kindsMeant_136 : decode cX6_kindsMeant 136 = .ok (.iastore, 1) := by decide +kernel
theorem dX6_kindsMeant_137 : decode cX6_kindsMeant 137 = .ok (.iload 6, 2) := by decide +kernel
theorem dX6_kindsMeant_139 : decode cX6_kindsMeant 139 = .ok (.ifCond .eq 13, 3) := by decide +kernel
theorem dX6_kindsMeant_142 : decode cX6_kindsMeant 142 = .ok (.iload 4, 2) := by decide +kernel
theorem dX6_kindsMeant_144 : decode cX6_kindsMeant 144 = .ok (.iconst 1, 1) := by decide +kernel
theorem dX6_kindsMeant_145 : decode cX6_kindsMeant 145 = .ok (.iload 7, 2) := by decide +kernel
theorem dX6_kindsMeant_147 : decode cX6_kindsMeant 147 = .ok (.ishl, 1) := by decide +kernel
theorem dX6_kindsMeant_148 : decode cX6_kindsMeant 148 = .ok (.ior, 1) := by decide +kernel
theorem dX6_kindsMeant_149 : decode cX6_kindsMeant 149 = .ok (.goto 12, 3) := by decide +kernel
theorem dX6_kindsMeant_152 : decode cX6_kindsMeant 152 = .ok (.iload 4, 2) := by decide +kernel
theorem dX6_kindsMeant_154 : decode cX6_kindsMeant 154 = .ok (.iconst 1, 1) := by decide +kernel
theorem dX6_kindsMeant_155 : decode cX6_kindsMeant 155 = .ok (.iload 7, 2) := by decide +kernel
theorem dX6_kindsMeant_157 : decode cX6_kindsMeant 157 = .ok (.ishl, 1) := by decide +kernel
theorem dX6_kindsMeant_158 : decode cX6_kindsMeant 158 = .ok (.iconst (-1), 1) := by decide +kernel
theorem dX6_kindsMeant_159 : decode cX6_kindsMeant 159 = .ok (.ixor, 1) := by decide +kernel
theorem dX6_kindsMeant_160 : decode cX6_kindsMeant 160 = .ok (.iand, 1) := by decide +kernel
theorem dX6_kindsMeant_161 : decode cX6_kindsMeant 161 = .ok (.istore 4, 2) := by decide +kernel
theorem dX6_kindsMeant_163 : decode cX6_kindsMeant 163 = .ok (.iinc 7 1, 3) := by decide +kernel
theorem dX6_kindsMeant_166 : decode cX6_kindsMeant 166 = .ok (.goto (-88), 3) := by decide +kernel
theorem dX6_kindsMeant_169 : decode cX6_kindsMeant 169 = .ok (.iinc 5 (-1), 3) := by decide +kernel
theorem dX6_kindsMeant_172 : decode cX6_kindsMeant 172 = .ok (.goto (-134), 3) := by decide +kernel
theorem dX6_kindsMeant_175 : decode cX6_kindsMeant 175 = .ok (.iload 4, 2) := by decide +kernel
theorem dX6_kindsMeant_177 : decode cX6_kindsMeant 177 = .ok (.ireturn, 1) := by decide +kernel
theorem dX6_isSound_0 : decode cX6_isSound 0 = .ok (.aload_n 0, 1) := by decide +kernel
theorem dX6_isSound_1 : decode cX6_isSound 1 = .ok (.getfield 31, 3) := by decide +kernel
theorem dX6_isSound_4 : decode cX6_isSound 4 = .ok (.getfield 167, 3) := by decide +kernel
theorem dX6_isSound_7 : decode cX6_isSound 7 = .ok (.aload_n 0, 1) := by decide +kernel
theorem dX6_isSound_8 : decode cX6_isSound 8 = .ok (.getfield 40, 3) := by decide +kernel
theorem dX6_isSound_11 : decode cX6_isSound 11 = .ok (.getfield 116, 3) := by decide +kernel
theorem dX6_isSound_14 : decode cX6_isSound 14 = .ok (.aload_n 0, 1) := by decide +kernel
theorem dX6_isSound_15 : decode cX6_isSound 15 = .ok (.getfield 40, 3) := by decide +kernel
theorem dX6_isSound_18 : decode cX6_isSound 18 = .ok (.getfield 119, 3) := by decide +kernel
theorem dX6_isSound_21 : decode cX6_isSound 21 = .ok (.invokestatic 161, 3) := by decide +kernel
theorem dX6_isSound_24 : decode cX6_isSound 24 = .ok (.ireturn, 1) := by decide +kernel
theorem dX6_isCounted_0 : decode cX6_isCounted 0 = .ok (.aload_n 0, 1) := by decide +kernel
theorem dX6_isCounted_1 : decode cX6_isCounted 1 = .ok (.getfield 40, 3) := by decide +kernel
theorem dX6_isCounted_4 : decode cX6_isCounted 4 = .ok (.getfield 120, 3) := by decide +kernel
theorem dX6_isCounted_7 : decode cX6_isCounted 7 = .ok (.aload_n 0, 1) := by decide +kernel
theorem dX6_isCounted_8 : decode cX6_isCounted 8 = .ok (.getfield 64, 3) := by decide +kernel
theorem dX6_isCounted_11 : decode cX6_isCounted 11 = .ok (.aload_n 0, 1) := by decide +kernel
theorem dX6_isCounted_12 : decode cX6_isCounted 12 = .ok (.getfield 31, 3) := by decide +kernel
theorem dX6_isCounted_15 : decode cX6_isCounted 15 = .ok (.getfield 170, 3) := by decide +kernel
theorem dX6_isCounted_18 : decode cX6_isCounted 18 = .ok (.iadd, 1) := by decide +kernel
theorem dX6_isCounted_19 : decode cX6_isCounted 19 = .ok (.if_icmp .gt 14, 3) := by decide +kernel
theorem dX6_isCounted_22 : decode cX6_isCounted 22 = .ok (.aload_n 0, 1) := by decide +kernel
theorem dX6_isCounted_23 : decode cX6_isCounted 23 = .ok (.invokevirtual 135, 3) := by decide +kernel
theorem dX6_isCounted_26 : decode cX6_isCounted 26 = .ok (.ifCond .eq 7, 3) := by decide +kernel
theorem dX6_isCounted_29 : decode cX6_isCounted 29 = .ok (.iconst 1, 1) := by decide +kernel
theorem dX6_isCounted_30 : decode cX6_isCounted 30 = .ok (.goto 4, 3) := by decide +kernel
theorem dX6_isCounted_33 : decode cX6_isCounted 33 = .ok (.iconst 0, 1) := by decide +kernel
theorem dX6_isCounted_34 : decode cX6_isCounted 34 = .ok (.ireturn, 1) := by decide +kernel
theorem dX6_findBest_0 : decode cX6_findBest 0 = .ok (.aload_n 0, 1) := by decide +kernel
theorem dX6_findBest_1 : decode cX6_findBest 1 = .ok (.getfield 44, 3) := by decide +kernel
theorem dX6_findBest_4 : decode cX6_findBest 4 = .ok (.ifCond .eq 4, 3) := by decide +kernel
theorem dX6_findBest_7 : decode cX6_findBest 7 = .ok (.return_, 1) := by decide +kernel
theorem dX6_findBest_8 : decode cX6_findBest 8 = .ok (.aload_n 0, 1) := by decide +kernel
theorem dX6_findBest_9 : decode cX6_findBest 9 = .ok (.iconst 1, 1) := by decide +kernel
theorem dX6_findBest_10 : decode cX6_findBest 10 = .ok (.putfield 44, 3) := by decide +kernel
theorem dX6_findBest_13 : decode cX6_findBest 13 = .ok (.aload_n 0, 1) := by decide +kernel
theorem dX6_findBest_14 : decode cX6_findBest 14 = .ok (.iconst 0, 1) := by decide +kernel
theorem dX6_findBest_15 : decode cX6_findBest 15 = .ok (.putfield 57, 3) := by decide +kernel
theorem dX6_findBest_18 : decode cX6_findBest 18 = .ok (.aload_n 0, 1) := by decide +kernel
theorem dX6_findBest_19 : decode cX6_findBest 19 = .ok (.iconst 0, 1) := by decide +kernel
theorem dX6_findBest_20 : decode cX6_findBest 20 = .ok (.putfield 61, 3) := by decide +kernel
theorem dX6_findBest_23 : decode cX6_findBest 23 = .ok (.aload_n 0, 1) := by decide +kernel
theorem dX6_findBest_24 : decode cX6_findBest 24 = .ok (.getfield 40, 3) := by decide +kernel
theorem dX6_findBest_27 : decode cX6_findBest 27 = .ok (.invokevirtual 105, 3) := by decide +kernel
theorem dX6_findBest_30 : decode cX6_findBest 30 = .ok (.ldc 108, 2) := by decide +kernel
theorem dX6_findBest_32 : decode cX6_findBest 32 = .ok (.istore_n 1, 1) := by decide +kernel
theorem dX6_findBest_33 : decode cX6_findBest 33 = .ok (.iload_n 1, 1) := by decide +kernel
theorem dX6_findBest_34 : decode cX6_findBest 34 = .ok (.ifCond .le 72, 3) := by decide +kernel
theorem dX6_findBest_37 : decode cX6_findBest 37 = .ok (.aload_n 0, 1) := by decide +kernel
theorem dX6_findBest_38 : decode cX6_findBest 38 = .ok (.getfield 40, 3) := by decide +kernel
theorem dX6_findBest_41 : decode cX6_findBest 41 = .ok (.invokevirtual 109, 3) := by decide +kernel
theorem dX6_findBest_44 : decode cX6_findBest 44 = .ok (.ifCond .eq 62, 3) := by decide +kernel
theorem dX6_findBest_47 : decode cX6_findBest 47 = .ok (.aload_n 0, 1) := by decide +kernel
theorem dX6_findBest_48 : decode cX6_findBest 48 = .ok (.dup, 1) := by decide +kernel
theorem dX6_findBest_49 : decode cX6_findBest 49 = .ok (.getfield 57, 3) := by decide +kernel
theorem dX6_findBest_52 : decode cX6_findBest 52 = .ok (.iconst 1, 1) := by decide +kernel
theorem dX6_findBest_53 : decode cX6_findBest 53 = .ok (.iadd, 1) := by decide +kernel
theorem dX6_findBest_54 : decode cX6_findBest 54 = .ok (.putfield 57, 3) := by decide +kernel
theorem dX6_findBest_57 : decode cX6_findBest 57 = .ok (.aload_n 0, 1) := by decide +kernel
theorem dX6_findBest_58 : decode cX6_findBest 58 = .ok (.invokevirtual 135, 3) := by decide +kernel
theorem dX6_findBest_61 : decode cX6_findBest 61 = .ok (.ifCond .eq 39, 3) := by decide +kernel
theorem dX6_findBest_64 : decode cX6_findBest 64 = .ok (.aload_n 0, 1) := by decide +kernel
theorem dX6_findBest_65 : decode cX6_findBest 65 = .ok (.dup, 1) := by decide +kernel
theorem dX6_findBest_66 : decode cX6_findBest 66 = .ok (.getfield 61, 3) := by decide +kernel
theorem dX6_findBest_69 : decode cX6_findBest 69 = .ok (.iconst 1, 1) := by decide +kernel
theorem dX6_findBest_70 : decode cX6_findBest 70 = .ok (.iadd, 1) := by decide +kernel
theorem dX6_findBest_71 : decode cX6_findBest 71 = .ok (.putfield 61, 3) := by decide +kernel
theorem dX6_findBest_74 : decode cX6_findBest 74 = .ok (.aload_n 0, 1) := by decide +kernel
theorem dX6_findBest_75 : decode cX6_findBest 75 = .ok (.getfield 61, 3) := by decide +kernel
theorem dX6_findBest_78 : decode cX6_findBest 78 = .ok (.iconst 1, 1) := by decide +kernel
theorem dX6_findBest_79 : decode cX6_findBest 79 = .ok (.if_icmp .eq 17, 3) := by decide +kernel
theorem dX6_findBest_82 : decode cX6_findBest 82 = .ok (.aload_n 0, 1) := by decide +kernel
theorem dX6_findBest_83 : decode cX6_findBest 83 = .ok (.getfield 40, 3) := by decide +kernel
theorem dX6_findBest_86 : decode cX6_findBest 86 = .ok (.getfield 120, 3) := by decide +kernel
theorem dX6_findBest_89 : decode cX6_findBest 89 = .ok (.aload_n 0, 1) := by decide +kernel
theorem dX6_findBest_90 : decode cX6_findBest 90 = .ok (.getfield 64, 3) := by decide +kernel
theorem dX6_findBest_93 : decode cX6_findBest 93 = .ok (.if_icmp .ge 7, 3) := by decide +kernel
theorem dX6_findBest_96 : decode cX6_findBest 96 = .ok (.aload_n 0, 1) := by decide +kernel
theorem dX6_findBest_97 : decode cX6_findBest 97 = .ok (.invokevirtual 173, 3) := by decide +kernel
theorem dX6_findBest_100 : decode cX6_findBest 100 = .ok (.iinc 1 (-1), 3) := by decide +kernel
theorem dX6_findBest_103 : decode cX6_findBest 103 = .ok (.goto (-70), 3) := by decide +kernel
theorem dX6_findBest_106 : decode cX6_findBest 106 = .ok (.return_, 1) := by decide +kernel
theorem dX6_keepBest_0 : decode cX6_keepBest 0 = .ok (.aload_n 0, 1) := by decide +kernel
theorem dX6_keepBest_1 : decode cX6_keepBest 1 = .ok (.aload_n 0, 1) := by decide +kernel
theorem dX6_keepBest_2 : decode cX6_keepBest 2 = .ok (.getfield 40, 3) := by decide +kernel
theorem dX6_keepBest_5 : decode cX6_keepBest 5 = .ok (.getfield 120, 3) := by decide +kernel
theorem dX6_keepBest_8 : decode cX6_keepBest 8 = .ok (.putfield 64, 3) := by decide +kernel
theorem dX6_keepBest_11 : decode cX6_keepBest 11 = .ok (.aload_n 0, 1) := by decide +kernel
theorem dX6_keepBest_12 : decode cX6_keepBest 12 = .ok (.aload_n 0, 1) := by decide +kernel
theorem dX6_keepBest_13 : decode cX6_keepBest 13 = .ok (.getfield 40, 3) := by decide +kernel
theorem dX6_keepBest_16 : decode cX6_keepBest 16 = .ok (.getfield 119, 3) := by decide +kernel
theorem dX6_keepBest_19 : decode cX6_keepBest 19 = .ok (.putfield 67, 3) := by decide +kernel
theorem dX6_keepBest_22 : decode cX6_keepBest 22 = .ok (.aload_n 0, 1) := by decide +kernel
theorem dX6_keepBest_23 : decode cX6_keepBest 23 = .ok (.getfield 40, 3) := by decide +kernel
theorem dX6_keepBest_26 : decode cX6_keepBest 26 = .ok (.getfield 116, 3) := by decide +kernel
theorem dX6_keepBest_29 : decode cX6_keepBest 29 = .ok (.iconst 0, 1) := by decide +kernel
theorem dX6_keepBest_30 : decode cX6_keepBest 30 = .ok (.aload_n 0, 1) := by decide +kernel
theorem dX6_keepBest_31 : decode cX6_keepBest 31 = .ok (.getfield 18, 3) := by decide +kernel
theorem dX6_keepBest_34 : decode cX6_keepBest 34 = .ok (.iconst 0, 1) := by decide +kernel
theorem dX6_keepBest_35 : decode cX6_keepBest 35 = .ok (.iconst 4, 1) := by decide +kernel
theorem dX6_keepBest_36 : decode cX6_keepBest 36 = .ok (.invokestatic 122, 3) := by decide +kernel
theorem dX6_keepBest_39 : decode cX6_keepBest 39 = .ok (.iconst 0, 1) := by decide +kernel
theorem dX6_keepBest_40 : decode cX6_keepBest 40 = .ok (.istore_n 1, 1) := by decide +kernel
theorem dX6_keepBest_41 : decode cX6_keepBest 41 = .ok (.iload_n 1, 1) := by decide +kernel
theorem dX6_keepBest_42 : decode cX6_keepBest 42 = .ok (.aload_n 0, 1) := by decide +kernel
theorem dX6_keepBest_43 : decode cX6_keepBest 43 = .ok (.getfield 31, 3) := by decide +kernel
theorem dX6_keepBest_46 : decode cX6_keepBest 46 = .ok (.getfield 128, 3) := by decide +kernel
theorem dX6_keepBest_49 : decode cX6_keepBest 49 = .ok (.if_icmp .ge 23, 3) := by decide +kernel
theorem dX6_keepBest_52 : decode cX6_keepBest 52 = .ok (.aload_n 0, 1) := by decide +kernel
theorem dX6_keepBest_53 : decode cX6_keepBest 53 = .ok (.getfield 22, 3) := by decide +kernel
theorem dX6_keepBest_56 : decode cX6_keepBest 56 = .ok (.iload_n 1, 1) := by decide +kernel
theorem dX6_keepBest_57 : decode cX6_keepBest 57 = .ok (.aload_n 0, 1) := by decide +kernel
theorem dX6_keepBest_58 : decode cX6_keepBest 58 = .ok (.getfield 40, 3) := by decide +kernel
theorem dX6_keepBest_61 : decode cX6_keepBest 61 = .ok (.iload_n 1, 1) := by decide +kernel
theorem dX6_keepBest_62 : decode cX6_keepBest 62 = .ok (.invokevirtual 176, 3) := by decide +kernel
theorem dX6_keepBest_65 : decode cX6_keepBest 65 = .ok (.iastore, 1) := by decide +kernel
theorem dX6_keepBest_66 : decode cX6_keepBest 66 = .ok (.iinc 1 1, 3) := by decide +kernel
theorem dX6_keepBest_69 : decode cX6_keepBest 69 = .ok (.goto (-28), 3) := by decide +kernel
theorem dX6_keepBest_72 : decode cX6_keepBest 72 = .ok (.return_, 1) := by decide +kernel
theorem dX6_findCounted_0 : decode cX6_findCounted 0 = .ok (.aload_n 0, 1) := by decide +kernel
theorem dX6_findCounted_1 : decode cX6_findCounted 1 = .ok (.invokevirtual 54, 3) := by decide +kernel
theorem dX6_findCounted_4 : decode cX6_findCounted 4 = .ok (.aload_n 0, 1) := by decide +kernel
theorem dX6_findCounted_5 : decode cX6_findCounted 5 = .ok (.getfield 12, 3) := by decide +kernel
theorem dX6_findCounted_8 : decode cX6_findCounted 8 = .ok (.getfield 48, 3) := by decide +kernel
theorem dX6_findCounted_11 : decode cX6_findCounted 11 = .ok (.ifCond .eq 4, 3) := by decide +kernel
theorem dX6_findCounted_14 : decode cX6_findCounted 14 = .ok (.return_, 1) := by decide +kernel
theorem dX6_findCounted_15 : decode cX6_findCounted 15 = .ok (.aload_n 0, 1) := by decide +kernel
theorem dX6_findCounted_16 : decode cX6_findCounted 16 = .ok (.getfield 12, 3) := by decide +kernel
theorem dX6_findCounted_19 : decode cX6_findCounted 19 = .ok (.invokevirtual 179, 3) := by decide +kernel
theorem dX6_findCounted_22 : decode cX6_findCounted 22 = .ok (.aload_n 0, 1) := by decide +kernel
theorem dX6_findCounted_23 : decode cX6_findCounted 23 = .ok (.bipush (-4), 2) := by decide +kernel
theorem dX6_findCounted_25 : decode cX6_findCounted 25 = .ok (.putfield 92, 3) := by decide +kernel
theorem dX6_findCounted_28 : decode cX6_findCounted 28 = .ok (.aload_n 0, 1) := by decide +kernel
theorem dX6_findCounted_29 : decode cX6_findCounted 29 = .ok (.getfield 61, 3) := by decide +kernel
theorem dX6_findCounted_32 : decode cX6_findCounted 32 = .ok (.ifCond .ne 4, 3) := by decide +kernel
theorem dX6_findCounted_35 : decode cX6_findCounted 35 = .ok (.return_, 1) := by decide +kernel
theorem dX6_findCounted_36 : decode cX6_findCounted 36 = .ok (.aload_n 0, 1) := by decide +kernel
theorem dX6_findCounted_37 : decode cX6_findCounted 37 = .ok (.getfield 40, 3) := by decide +kernel
theorem dX6_findCounted_40 : decode cX6_findCounted 40 = .ok (.invokevirtual 105, 3) := by decide +kernel
theorem dX6_findCounted_43 : decode cX6_findCounted 43 = .ok (.ldc 108, 2) := by decide +kernel
theorem dX6_findCounted_45 : decode cX6_findCounted 45 = .ok (.istore_n 1, 1) := by decide +kernel
theorem dX6_findCounted_46 : decode cX6_findCounted 46 = .ok (.iload_n 1, 1) := by decide +kernel
theorem dX6_findCounted_47 : decode cX6_findCounted 47 = .ok (.ifCond .le 110, 3) := by decide +kernel
theorem dX6_findCounted_50 : decode cX6_findCounted 50 = .ok (.aload_n 0, 1) := by decide +kernel
theorem dX6_findCounted_51 : decode cX6_findCounted 51 = .ok (.getfield 40, 3) := by decide +kernel
theorem dX6_findCounted_54 : decode cX6_findCounted 54 = .ok (.invokevirtual 109, 3) := by decide +kernel
theorem dX6_findCounted_57 : decode cX6_findCounted 57 = .ok (.ifCond .eq 100, 3) := by decide +kernel
theorem dX6_findCounted_60 : decode cX6_findCounted 60 = .ok (.aload_n 0, 1) := by decide +kernel
theorem dX6_findCounted_61 : decode cX6_findCounted 61 = .ok (.invokevirtual 135, 3) := by decide +kernel
theorem dX6_findCounted_64 : decode cX6_findCounted 64 = .ok (.ifCond .ne 6, 3) := by decide +kernel
theorem dX6_findCounted_67 : decode cX6_findCounted 67 = .ok (.goto 84, 3) := by decide +kernel
theorem dX6_findCounted_70 : decode cX6_findCounted 70 = .ok (.aload_n 0, 1) := by decide +kernel
theorem dX6_findCounted_71 : decode cX6_findCounted 71 = .ok (.getfield 40, 3) := by decide +kernel
theorem dX6_findCounted_74 : decode cX6_findCounted 74 = .ok (.getfield 120, 3) := by decide +kernel
theorem dX6_findCounted_77 : decode cX6_findCounted 77 = .ok (.aload_n 0, 1) := by decide +kernel
theorem dX6_findCounted_78 : decode cX6_findCounted 78 = .ok (.getfield 64, 3) := by decide +kernel
theorem dX6_findCounted_81 : decode cX6_findCounted 81 = .ok (.aload_n 0, 1) := by decide +kernel
theorem dX6_findCounted_82 : decode cX6_findCounted 82 = .ok (.getfield 31, 3) := by decide +kernel
theorem dX6_findCounted_85 : decode cX6_findCounted 85 = .ok (.getfield 170, 3) := by decide +kernel
theorem dX6_findCounted_88 : decode cX6_findCounted 88 = .ok (.iadd, 1) := by decide +kernel
theorem dX6_findCounted_89 : decode cX6_findCounted 89 = .ok (.if_icmp .gt 21, 3) := by decide +kernel
theorem dX6_findCounted_92 : decode cX6_findCounted 92 = .ok (.aload_n 0, 1) := by decide +kernel
theorem dX6_findCounted_93 : decode cX6_findCounted 93 = .ok (.getfield 12, 3) := by decide +kernel
theorem dX6_findCounted_96 : decode cX6_findCounted 96 = .ok (.aload_n 0, 1) := by decide +kernel
theorem dX6_findCounted_97 : decode cX6_findCounted 97 = .ok (.getfield 40, 3) := by decide +kernel
theorem dX6_findCounted_100 : decode cX6_findCounted 100 = .ok (.aload_n 0, 1) := by decide +kernel
theorem dX6_findCounted_101 : decode cX6_findCounted 101 = .ok (.getfield 31, 3) := by decide +kernel
theorem dX6_findCounted_104 : decode cX6_findCounted 104 = .ok (.getfield 128, 3) := by decide +kernel
theorem dX6_findCounted_107 : decode cX6_findCounted 107 = .ok (.invokevirtual 182, 3) := by decide +kernel
theorem dX6_findCounted_110 : decode cX6_findCounted 110 = .ok (.aload_n 0, 1) := by decide +kernel
theorem dX6_findCounted_111 : decode cX6_findCounted 111 = .ok (.getfield 92, 3) := by decide +kernel
theorem dX6_findCounted_114 : decode cX6_findCounted 114 = .ok (.bipush (-4), 2) := by decide +kernel
theorem dX6_findCounted_116 : decode cX6_findCounted 116 = .ok (.if_icmp .eq 17, 3) := by decide +kernel
theorem dX6_findCounted_119 : decode cX6_findCounted 119 = .ok (.aload_n 0, 1) := by decide +kernel
theorem dX6_findCounted_120 : decode cX6_findCounted 120 = .ok (.getfield 40, 3) := by decide +kernel
theorem dX6_findCounted_123 : decode cX6_findCounted 123 = .ok (.getfield 120, 3) := by decide +kernel
theorem dX6_findCounted_126 : decode cX6_findCounted 126 = .ok (.aload_n 0, 1) := by decide +kernel
theorem dX6_findCounted_127 : decode cX6_findCounted 127 = .ok (.getfield 92, 3) := by decide +kernel
theorem dX6_findCounted_130 : decode cX6_findCounted 130 = .ok (.if_icmp .ge 21, 3) := by decide +kernel
theorem dX6_findCounted_133 : decode cX6_findCounted 133 = .ok (.aload_n 0, 1) := by decide +kernel
theorem dX6_findCounted_134 : decode cX6_findCounted 134 = .ok (.invokevirtual 186, 3) := by decide +kernel
theorem dX6_findCounted_137 : decode cX6_findCounted 137 = .ok (.ifCond .ne 14, 3) := by decide +kernel
theorem dX6_findCounted_140 : decode cX6_findCounted 140 = .ok (.aload_n 0, 1) := by decide +kernel
theorem dX6_findCounted_141 : decode cX6_findCounted 141 = .ok (.aload_n 0, 1) := by decide +kernel
theorem dX6_findCounted_142 : decode cX6_findCounted 142 = .ok (.getfield 40, 3) := by decide +kernel
theorem dX6_findCounted_145 : decode cX6_findCounted 145 = .ok (.getfield 120, 3) := by decide +kernel
theorem dX6_findCounted_148 : decode cX6_findCounted 148 = .ok (.putfield 92, 3) := by decide +kernel
theorem dX6_findCounted_151 : decode cX6_findCounted 151 = .ok (.iinc 1 (-1), 3) := by decide +kernel
theorem dX6_findCounted_154 : decode cX6_findCounted 154 = .ok (.goto (-108), 3) := by decide +kernel
theorem dX6_findCounted_157 : decode cX6_findCounted 157 = .ok (.return_, 1) := by decide +kernel
theorem dX6_tellsBest_0 : decode cX6_tellsBest 0 = .ok (.aload_n 0, 1) := by decide +kernel
theorem dX6_tellsBest_1 : decode cX6_tellsBest 1 = .ok (.getfield 40, 3) := by decide +kernel
theorem dX6_tellsBest_4 : decode cX6_tellsBest 4 = .ok (.getfield 119, 3) := by decide +kernel
theorem dX6_tellsBest_7 : decode cX6_tellsBest 7 = .ok (.aload_n 0, 1) := by decide +kernel
theorem dX6_tellsBest_8 : decode cX6_tellsBest 8 = .ok (.getfield 67, 3) := by decide +kernel
theorem dX6_tellsBest_11 : decode cX6_tellsBest 11 = .ok (.if_icmp .eq 5, 3) := by decide +kernel
theorem dX6_tellsBest_14 : decode cX6_tellsBest 14 = .ok (.iconst 0, 1) := by decide +kernel
theorem dX6_tellsBest_15 : decode cX6_tellsBest 15 = .ok (.ireturn, 1) := by decide +kernel
theorem dX6_tellsBest_16 : decode cX6_tellsBest 16 = .ok (.iconst 0, 1) := by decide +kernel
theorem dX6_tellsBest_17 : decode cX6_tellsBest 17 = .ok (.istore_n 1, 1) := by decide +kernel
theorem dX6_tellsBest_18 : decode cX6_tellsBest 18 = .ok (.iload_n 1, 1) := by decide +kernel
theorem dX6_tellsBest_19 : decode cX6_tellsBest 19 = .ok (.aload_n 0, 1) := by decide +kernel
theorem dX6_tellsBest_20 : decode cX6_tellsBest 20 = .ok (.getfield 67, 3) := by decide +kernel
theorem dX6_tellsBest_23 : decode cX6_tellsBest 23 = .ok (.if_icmp .ge 29, 3) := by decide +kernel
theorem dX6_tellsBest_26 : decode cX6_tellsBest 26 = .ok (.aload_n 0, 1) := by decide +kernel
theorem dX6_tellsBest_27 : decode cX6_tellsBest 27 = .ok (.getfield 40, 3) := by decide +kernel
theorem dX6_tellsBest_30 : decode cX6_tellsBest 30 = .ok (.getfield 116, 3) := by decide +kernel
theorem dX6_tellsBest_33 : decode cX6_tellsBest 33 = .ok (.iload_n 1, 1) := by decide +kernel
theorem dX6_tellsBest_34 : decode cX6_tellsBest 34 = .ok (.iaload, 1) := by decide +kernel
theorem dX6_tellsBest_35 : decode cX6_tellsBest 35 = .ok (.aload_n 0, 1) := by decide +kernel
theorem dX6_tellsBest_36 : decode cX6_tellsBest 36 = .ok (.getfield 18, 3) := by decide +kernel
theorem dX6_tellsBest_39 : decode cX6_tellsBest 39 = .ok (.iload_n 1, 1) := by decide +kernel
theorem dX6_tellsBest_40 : decode cX6_tellsBest 40 = .ok (.iaload, 1) := by decide +kernel
theorem dX6_tellsBest_41 : decode cX6_tellsBest 41 = .ok (.if_icmp .eq 5, 3) := by decide +kernel
theorem dX6_tellsBest_44 : decode cX6_tellsBest 44 = .ok (.iconst 0, 1) := by decide +kernel
theorem dX6_tellsBest_45 : decode cX6_tellsBest 45 = .ok (.ireturn, 1) := by decide +kernel
theorem dX6_tellsBest_46 : decode cX6_tellsBest 46 = .ok (.iinc 1 1, 3) := by decide +kernel
theorem dX6_tellsBest_49 : decode cX6_tellsBest 49 = .ok (.goto (-31), 3) := by decide +kernel
theorem dX6_tellsBest_52 : decode cX6_tellsBest 52 = .ok (.iconst 1, 1) := by decide +kernel
theorem dX6_tellsBest_53 : decode cX6_tellsBest 53 = .ok (.ireturn, 1) := by decide +kernel
theorem dX6_weigh_0 : decode cX6_weigh 0 = .ok (.aload_n 0, 1) := by decide +kernel
theorem dX6_weigh_1 : decode cX6_weigh 1 = .ok (.getfield 51, 3) := by decide +kernel
theorem dX6_weigh_4 : decode cX6_weigh 4 = .ok (.ifCond .eq 12, 3) := by decide +kernel
theorem dX6_weigh_7 : decode cX6_weigh 7 = .ok (.aload_n 0, 1) := by decide +kernel
theorem dX6_weigh_8 : decode cX6_weigh 8 = .ok (.getfield 189, 3) := by decide +kernel
theorem dX6_weigh_11 : decode cX6_weigh 11 = .ok (.iload_n 1, 1) := by decide +kernel
theorem dX6_weigh_12 : decode cX6_weigh 12 = .ok (.if_icmp .ne 4, 3) := by decide +kernel
theorem dX6_weigh_15 : decode cX6_weigh 15 = .ok (.return_, 1) := by decide +kernel
theorem dX6_weigh_16 : decode cX6_weigh 16 = .ok (.aload_n 0, 1) := by decide +kernel
theorem dX6_weigh_17 : decode cX6_weigh 17 = .ok (.iconst 1, 1) := by decide +kernel
theorem dX6_weigh_18 : decode cX6_weigh 18 = .ok (.putfield 51, 3) := by decide +kernel
theorem dX6_weigh_21 : decode cX6_weigh 21 = .ok (.aload_n 0, 1) := by decide +kernel
theorem dX6_weigh_22 : decode cX6_weigh 22 = .ok (.iload_n 1, 1) := by decide +kernel
theorem dX6_weigh_23 : decode cX6_weigh 23 = .ok (.putfield 189, 3) := by decide +kernel
theorem dX6_weigh_26 : decode cX6_weigh 26 = .ok (.aload_n 0, 1) := by decide +kernel
theorem dX6_weigh_27 : decode cX6_weigh 27 = .ok (.lconst 0, 1) := by decide +kernel
theorem dX6_weigh_28 : decode cX6_weigh 28 = .ok (.putfield 146, 3) := by decide +kernel
theorem dX6_weigh_31 : decode cX6_weigh 31 = .ok (.aload_n 0, 1) := by decide +kernel
theorem dX6_weigh_32 : decode cX6_weigh 32 = .ok (.lconst 0, 1) := by decide +kernel
theorem dX6_weigh_33 : decode cX6_weigh 33 = .ok (.putfield 142, 3) := by decide +kernel
theorem dX6_weigh_36 : decode cX6_weigh 36 = .ok (.aload_n 0, 1) := by decide +kernel
theorem dX6_weigh_37 : decode cX6_weigh 37 = .ok (.getfield 40, 3) := by decide +kernel
theorem dX6_weigh_40 : decode cX6_weigh 40 = .ok (.invokevirtual 105, 3) := by decide +kernel
theorem dX6_weigh_43 : decode cX6_weigh 43 = .ok (.ldc 108, 2) := by decide +kernel
theorem dX6_weigh_45 : decode cX6_weigh 45 = .ok (.istore_n 2, 1) := by decide +kernel
theorem dX6_weigh_46 : decode cX6_weigh 46 = .ok (.iload_n 2, 1) := by decide +kernel
theorem dX6_weigh_47 : decode cX6_weigh 47 = .ok (.ifCond .le 79, 3) := by decide +kernel
theorem dX6_weigh_50 : decode cX6_weigh 50 = .ok (.aload_n 0, 1) := by decide +kernel
theorem dX6_weigh_51 : decode cX6_weigh 51 = .ok (.getfield 40, 3) := by decide +kernel
theorem dX6_weigh_54 : decode cX6_weigh 54 = .ok (.invokevirtual 109, 3) := by decide +kernel
theorem dX6_weigh_57 : decode cX6_weigh 57 = .ok (.ifCond .eq 69, 3) := by decide +kernel
theorem dX6_weigh_60 : decode cX6_weigh 60 = .ok (.aload_n 0, 1) := by decide +kernel
theorem dX6_weigh_61 : decode cX6_weigh 61 = .ok (.invokevirtual 135, 3) := by decide +kernel
theorem dX6_weigh_64 : decode cX6_weigh 64 = .ok (.ifCond .eq 56, 3) := by decide +kernel
theorem dX6_weigh_67 : decode cX6_weigh 67 = .ok (.aload_n 0, 1) := by decide +kernel
theorem dX6_weigh_68 : decode cX6_weigh 68 = .ok (.dup, 1) := by decide +kernel
theorem dX6_weigh_69 : decode cX6_weigh 69 = .ok (.getfield 142, 3) := by decide +kernel
theorem dX6_weigh_72 : decode cX6_weigh 72 = .ok (.aload_n 0, 1) := by decide +kernel
theorem dX6_weigh_73 : decode cX6_weigh 73 = .ok (.getfield 40, 3) := by decide +kernel
theorem dX6_weigh_76 : decode cX6_weigh 76 = .ok (.getfield 192, 3) := by decide +kernel
theorem dX6_weigh_79 : decode cX6_weigh 79 = .ok (.ladd, 1) := by decide +kernel
theorem dX6_weigh_80 : decode cX6_weigh 80 = .ok (.putfield 142, 3) := by decide +kernel
theorem dX6_weigh_83 : decode cX6_weigh 83 = .ok (.aload_n 0, 1) := by decide +kernel
theorem dX6_weigh_84 : decode cX6_weigh 84 = .ok (.getfield 40, 3) := by decide +kernel
theorem dX6_weigh_87 : decode cX6_weigh 87 = .ok (.getfield 116, 3) := by decide +kernel
theorem dX6_weigh_90 : decode cX6_weigh 90 = .ok (.aload_n 0, 1) := by decide +kernel
theorem dX6_weigh_91 : decode cX6_weigh 91 = .ok (.getfield 40, 3) := by decide +kernel
theorem dX6_weigh_94 : decode cX6_weigh 94 = .ok (.getfield 119, 3) := by decide +kernel
theorem dX6_weigh_97 : decode cX6_weigh 97 = .ok (.iconst 1, 1) := by decide +kernel
theorem dX6_weigh_98 : decode cX6_weigh 98 = .ok (.isub, 1) := by decide +kernel
theorem dX6_weigh_99 : decode cX6_weigh 99 = .ok (.iaload, 1) := by decide +kernel
theorem dX6_weigh_100 : decode cX6_weigh 100 = .ok (.iload_n 1, 1) := by decide +kernel
theorem dX6_weigh_101 : decode cX6_weigh 101 = .ok (.if_icmp .ne 19, 3) := by decide +kernel
theorem dX6_weigh_104 : decode cX6_weigh 104 = .ok (.aload_n 0, 1) := by decide +kernel
theorem dX6_weigh_105 : decode cX6_weigh 105 = .ok (.dup, 1) := by decide +kernel
theorem dX6_weigh_106 : decode cX6_weigh 106 = .ok (.getfield 146, 3) := by decide +kernel
theorem dX6_weigh_109 : decode cX6_weigh 109 = .ok (.aload_n 0, 1) := by decide +kernel
theorem dX6_weigh_110 : decode cX6_weigh 110 = .ok (.getfield 40, 3) := by decide +kernel
theorem dX6_weigh_113 : decode cX6_weigh 113 = .ok (.getfield 192, 3) := by decide +kernel
theorem dX6_weigh_116 : decode cX6_weigh 116 = .ok (.ladd, 1) := by decide +kernel
theorem dX6_weigh_117 : decode cX6_weigh 117 = .ok (.putfield 146, 3) := by decide +kernel
theorem dX6_weigh_120 : decode cX6_weigh 120 = .ok (.iinc 2 (-1), 3) := by decide +kernel
theorem dX6_weigh_123 : decode cX6_weigh 123 = .ok (.goto (-77), 3) := by decide +kernel
theorem dX6_weigh_126 : decode cX6_weigh 126 = .ok (.return_, 1) := by decide +kernel
theorem dX6_divisor_0 : decode cX6_divisor 0 = .ok (.sipush 200, 3) := by decide +kernel
theorem dX6_divisor_3 : decode cX6_divisor 3 = .ok (.istore 4, 2) := by decide +kernel
theorem dX6_divisor_5 : decode cX6_divisor 5 = .ok (.iload 4, 2) := by decide +kernel
theorem dX6_divisor_7 : decode cX6_divisor 7 = .ok (.ifCond .le 25, 3) := by decide +kernel
theorem dX6_divisor_10 : decode cX6_divisor 10 = .ok (.lload_n 2, 1) := by decide +kernel
theorem dX6_divisor_11 : decode cX6_divisor 11 = .ok (.lconst 0, 1) := by decide +kernel
theorem dX6_divisor_12 : decode cX6_divisor 12 = .ok (.lcmp, 1) := by decide +kernel
theorem dX6_divisor_13 : decode cX6_divisor 13 = .ok (.ifCond .eq 19, 3) := by decide +kernel
theorem dX6_divisor_16 : decode cX6_divisor 16 = .ok (.lload_n 0, 1) := by decide +kernel
theorem dX6_divisor_17 : decode cX6_divisor 17 = .ok (.lload_n 2, 1) := by decide +kernel
theorem dX6_divisor_18 : decode cX6_divisor 18 = .ok (.lrem, 1) := by decide +kernel
theorem dX6_divisor_19 : decode cX6_divisor 19 = .ok (.lstore 5, 2) := by decide +kernel
theorem dX6_divisor_21 : decode cX6_divisor 21 = .ok (.lload_n 2, 1) := by decide +kernel
theorem dX6_divisor_22 : decode cX6_divisor 22 = .ok (.lstore_n 0, 1) := by decide +kernel
theorem dX6_divisor_23 : decode cX6_divisor 23 = .ok (.lload 5, 2) := by decide +kernel
theorem dX6_divisor_25 : decode cX6_divisor 25 = .ok (.lstore_n 2, 1) := by decide +kernel
theorem dX6_divisor_26 : decode cX6_divisor 26 = .ok (.iinc 4 (-1), 3) := by decide +kernel
theorem dX6_divisor_29 : decode cX6_divisor 29 = .ok (.goto (-24), 3) := by decide +kernel
theorem dX6_divisor_32 : decode cX6_divisor 32 = .ok (.lload_n 0, 1) := by decide +kernel
theorem dX6_divisor_33 : decode cX6_divisor 33 = .ok (.lreturn, 1) := by decide +kernel
theorem dX7_init_0 : decode cX7_init 0 = .ok (.aload_n 0, 1) := by decide +kernel
theorem dX7_init_1 : decode cX7_init 1 = .ok (.invokespecial 3, 3) := by decide +kernel
theorem dX7_init_4 : decode cX7_init 4 = .ok (.aload_n 0, 1) := by decide +kernel
theorem dX7_init_5 : decode cX7_init 5 = .ok (.bipush 9, 2) := by decide +kernel
theorem dX7_init_7 : decode cX7_init 7 = .ok (.newarray .int, 2) := by decide +kernel
theorem dX7_init_9 : decode cX7_init 9 = .ok (.putfield 9, 3) := by decide +kernel
theorem dX7_init_12 : decode cX7_init 12 = .ok (.aload_n 0, 1) := by decide +kernel
theorem dX7_init_13 : decode cX7_init 13 = .ok (.bipush 9, 2) := by decide +kernel
theorem dX7_init_15 : decode cX7_init 15 = .ok (.newarray .int, 2) := by decide +kernel
theorem dX7_init_17 : decode cX7_init 17 = .ok (.putfield 15, 3) := by decide +kernel
theorem dX7_init_20 : decode cX7_init 20 = .ok (.aload_n 0, 1) := by decide +kernel
theorem dX7_init_21 : decode cX7_init 21 = .ok (.bipush 9, 2) := by decide +kernel
theorem dX7_init_23 : decode cX7_init 23 = .ok (.newarray .int, 2) := by decide +kernel
theorem dX7_init_25 : decode cX7_init 25 = .ok (.putfield 18, 3) := by decide +kernel
theorem dX7_init_28 : decode cX7_init 28 = .ok (.aload_n 0, 1) := by decide +kernel
theorem dX7_init_29 : decode cX7_init 29 = .ok (.bipush 9, 2) := by decide +kernel
theorem dX7_init_31 : decode cX7_init 31 = .ok (.newarray .int, 2) := by decide +kernel
theorem dX7_init_33 : decode cX7_init 33 = .ok (.putfield 21, 3) := by decide +kernel
theorem dX7_init_36 : decode cX7_init 36 = .ok (.aload_n 0, 1) := by decide +kernel
theorem dX7_init_37 : decode cX7_init 37 = .ok (.bipush 9, 2) := by decide +kernel
theorem dX7_init_39 : decode cX7_init 39 = .ok (.newarray .int, 2) := by decide +kernel
theorem dX7_init_41 : decode cX7_init 41 = .ok (.putfield 24, 3) := by decide +kernel
theorem dX7_init_44 : decode cX7_init 44 = .ok (.aload_n 0, 1) := by decide +kernel
theorem dX7_init_45 : decode cX7_init 45 = .ok (.bipush 9, 2) := by decide +kernel
theorem dX7_init_47 : decode cX7_init 47 = .ok (.newarray .int, 2) := by decide +kernel
theorem dX7_init_49 : decode cX7_init 49 = .ok (.putfield 27, 3) := by decide +kernel
theorem dX7_init_52 : decode cX7_init 52 = .ok (.aload_n 0, 1) := by decide +kernel
theorem dX7_init_53 : decode cX7_init 53 = .ok (.bipush 9, 2) := by decide +kernel
theorem dX7_init_55 : decode cX7_init 55 = .ok (.newarray .long, 2) := by decide +kernel
theorem dX7_init_57 : decode cX7_init 57 = .ok (.putfield 30, 3) := by decide +kernel
theorem dX7_init_60 : decode cX7_init 60 = .ok (.aload_n 0, 1) := by decide +kernel
theorem dX7_init_61 : decode cX7_init 61 = .ok (.iconst 4, 1) := by decide +kernel
theorem dX7_init_62 : decode cX7_init 62 = .ok (.newarray .int, 2) := by decide +kernel
theorem dX7_init_64 : decode cX7_init 64 = .ok (.putfield 34, 3) := by decide +kernel
theorem dX7_init_67 : decode cX7_init 67 = .ok (.aload_n 0, 1) := by decide +kernel
theorem dX7_init_68 : decode cX7_init 68 = .ok (.aload_n 1, 1) := by decide +kernel
theorem dX7_init_69 : decode cX7_init 69 = .ok (.putfield 37, 3) := by decide +kernel
theorem dX7_init_72 : decode cX7_init 72 = .ok (.return_, 1) := by decide +kernel
theorem dX7_begin_0 : decode cX7_begin 0 = .ok (.aload_n 0, 1) := by decide +kernel
theorem dX7_begin_1 : decode cX7_begin 1 = .ok (.iconst 0, 1) := by decide +kernel
theorem dX7_begin_2 : decode cX7_begin 2 = .ok (.putfield 41, 3) := by decide +kernel
theorem dX7_begin_5 : decode cX7_begin 5 = .ok (.aload_n 0, 1) := by decide +kernel
theorem dX7_begin_6 : decode cX7_begin 6 = .ok (.getfield 9, 3) := by decide +kernel
theorem dX7_begin_9 : decode cX7_begin 9 = .ok (.iconst 0, 1) := by decide +kernel
theorem dX7_begin_10 : decode cX7_begin 10 = .ok (.iconst 0, 1) := by decide +kernel
theorem dX7_begin_11 : decode cX7_begin 11 = .ok (.iastore, 1) := by decide +kernel
theorem dX7_begin_12 : decode cX7_begin 12 = .ok (.aload_n 0, 1) := by decide +kernel
theorem dX7_begin_13 : decode cX7_begin 13 = .ok (.getfield 15, 3) := by decide +kernel
theorem dX7_begin_16 : decode cX7_begin 16 = .ok (.iconst 0, 1) := by decide +kernel
theorem dX7_begin_17 : decode cX7_begin 17 = .ok (.iconst 0, 1) := by decide +kernel
theorem dX7_begin_18 : decode cX7_begin 18 = .ok (.iastore, 1) := by decide +kernel
theorem dX7_begin_19 : decode cX7_begin 19 = .ok (.aload_n 0, 1) := by decide +kernel
theorem dX7_begin_20 : decode cX7_begin 20 = .ok (.getfield 18, 3) := by decide +kernel
theorem dX7_begin_23 : decode cX7_begin 23 = .ok (.iconst 0, 1) := by decide +kernel
theorem dX7_begin_24 : decode cX7_begin 24 = .ok (.iconst 0, 1) := by decide +kernel
theorem dX7_begin_25 : decode cX7_begin 25 = .ok (.iastore, 1) := by decide +kernel
theorem dX7_begin_26 : decode cX7_begin 26 = .ok (.aload_n 0, 1) := by decide +kernel
theorem dX7_begin_27 : decode cX7_begin 27 = .ok (.getfield 21, 3) := by decide +kernel
theorem dX7_begin_30 : decode cX7_begin 30 = .ok (.iconst 0, 1) := by decide +kernel
theorem dX7_begin_31 : decode cX7_begin 31 = .ok (.iconst 0, 1) := by decide +kernel
theorem dX7_begin_32 : decode cX7_begin 32 = .ok (.iastore, 1) := by decide +kernel
theorem dX7_begin_33 : decode cX7_begin 33 = .ok (.aload_n 0, 1) := by decide +kernel
theorem dX7_begin_34 : decode cX7_begin 34 = .ok (.getfield 24, 3) := by decide +kernel
theorem dX7_begin_37 : decode cX7_begin 37 = .ok (.iconst 0, 1) := by decide +kernel
theorem dX7_begin_38 : decode cX7_begin 38 = .ok (.iconst 0, 1) := by decide +kernel
theorem dX7_begin_39 : decode cX7_begin 39 = .ok (.iastore, 1) := by decide +kernel
theorem dX7_begin_40 : decode cX7_begin 40 = .ok (.aload_n 0, 1) := by decide +kernel
theorem dX7_begin_41 : decode cX7_begin 41 = .ok (.getfield 27, 3) := by decide +kernel
theorem dX7_begin_44 : decode cX7_begin 44 = .ok (.iconst 0, 1) := by decide +kernel
theorem dX7_begin_45 : decode cX7_begin 45 = .ok (.iconst 0, 1) := by decide +kernel
theorem dX7_begin_46 : decode cX7_begin 46 = .ok (.iastore, 1) := by decide +kernel
theorem dX7_begin_47 : decode cX7_begin 47 = .ok (.aload_n 0, 1) := by decide +kernel
theorem dX7_begin_48 : decode cX7_begin 48 = .ok (.getfield 30, 3) := by decide +kernel
theorem dX7_begin_51 : decode cX7_begin 51 = .ok (.iconst 0, 1) := by decide +kernel
theorem dX7_begin_52 : decode cX7_begin 52 = .ok (.lconst 1, 1) := by decide +kernel
theorem dX7_begin_53 : decode cX7_begin 53 = .ok (.lastore, 1) := by decide +kernel
theorem dX7_begin_54 : decode cX7_begin 54 = .ok (.return_, 1) := by decide +kernel
theorem dX7_step_0 : decode cX7_step 0 = .ok (.ldc 45, 2) := by decide +kernel
theorem dX7_step_2 : decode cX7_step 2 = .ok (.istore_n 1, 1) := by decide +kernel
theorem dX7_step_3 : decode cX7_step 3 = .ok (.iload_n 1, 1) := by decide +kernel
theorem dX7_step_4 : decode cX7_step 4 = .ok (.ifCond .le 149, 3) := by decide +kernel
theorem dX7_step_7 : decode cX7_step 7 = .ok (.aload_n 0, 1) := by decide +kernel
theorem dX7_step_8 : decode cX7_step 8 = .ok (.getfield 41, 3) := by decide +kernel
theorem dX7_step_11 : decode cX7_step 11 = .ok (.ifCond .lt 142, 3) := by decide +kernel
theorem dX7_step_14 : decode cX7_step 14 = .ok (.aload_n 0, 1) := by decide +kernel
theorem dX7_step_15 : decode cX7_step 15 = .ok (.getfield 41, 3) := by decide +kernel
theorem dX7_step_18 : decode cX7_step 18 = .ok (.aload_n 0, 1) := by decide +kernel
theorem dX7_step_19 : decode cX7_step 19 = .ok (.getfield 37, 3) := by decide +kernel
theorem dX7_step_22 : decode cX7_step 22 = .ok (.getfield 46, 3) := by decide +kernel
theorem dX7_step_25 : decode cX7_step 25 = .ok (.if_icmp .lt 31, 3) := by decide +kernel
theorem dX7_step_28 : decode cX7_step 28 = .ok (.aload_n 0, 1) := by decide +kernel
theorem dX7_step_29 : decode cX7_step 29 = .ok (.aload_n 0, 1) := by decide +kernel
theorem dX7_step_30 : decode cX7_step 30 = .ok (.getfield 41, 3) := by decide +kernel
theorem dX7_step_33 : decode cX7_step 33 = .ok (.invokevirtual 51, 3) := by decide +kernel
theorem dX7_step_36 : decode cX7_step 36 = .ok (.istore_n 2, 1) := by decide +kernel
theorem dX7_step_37 : decode cX7_step 37 = .ok (.aload_n 0, 1) := by decide +kernel
theorem dX7_step_38 : decode cX7_step 38 = .ok (.dup, 1) := by decide +kernel
theorem dX7_step_39 : decode cX7_step 39 = .ok (.getfield 41, 3) := by decide +kernel
theorem dX7_step_42 : decode cX7_step 42 = .ok (.iconst 1, 1) := by decide +kernel
theorem dX7_step_43 : decode cX7_step 43 = .ok (.isub, 1) := by decide +kernel
theorem dX7_step_44 : decode cX7_step 44 = .ok (.putfield 41, 3) := by decide +kernel
theorem dX7_step_47 : decode cX7_step 47 = .ok (.iload_n 2, 1) := by decide +kernel
theorem dX7_step_48 : decode cX7_step 48 = .ok (.ifCond .eq 5, 3) := by decide +kernel
theorem dX7_step_51 : decode cX7_step 51 = .ok (.iconst 1, 1) := by decide +kernel
theorem dX7_step_52 : decode cX7_step 52 = .ok (.ireturn, 1) := by decide +kernel
theorem dX7_step_53 : decode cX7_step 53 = .ok (.goto 94, 3) := by decide +kernel
theorem dX7_step_56 : decode cX7_step 56 = .ok (.aload_n 0, 1) := by decide +kernel
theorem dX7_step_57 : decode cX7_step 57 = .ok (.getfield 9, 3) := by decide +kernel
theorem dX7_step_60 : decode cX7_step 60 = .ok (.aload_n 0, 1) := by decide +kernel
theorem dX7_step_61 : decode cX7_step 61 = .ok (.getfield 41, 3) := by decide +kernel
theorem dX7_step_64 : decode cX7_step 64 = .ok (.iaload, 1) := by decide +kernel
theorem dX7_step_65 : decode cX7_step 65 = .ok (.aload_n 0, 1) := by decide +kernel
theorem dX7_step_66 : decode cX7_step 66 = .ok (.getfield 37, 3) := by decide +kernel
theorem dX7_step_69 : decode cX7_step 69 = .ok (.getfield 55, 3) := by decide +kernel
theorem dX7_step_72 : decode cX7_step 72 = .ok (.aload_n 0, 1) := by decide +kernel
theorem dX7_step_73 : decode cX7_step 73 = .ok (.getfield 41, 3) := by decide +kernel
theorem dX7_step_76 : decode cX7_step 76 = .ok (.iaload, 1) := by decide +kernel
theorem dX7_step_77 : decode cX7_step 77 = .ok (.if_icmp .lt 16, 3) := by decide +kernel
theorem dX7_step_80 : decode cX7_step 80 = .ok (.aload_n 0, 1) := by decide +kernel
theorem dX7_step_81 : decode cX7_step 81 = .ok (.dup, 1) := by decide +kernel
theorem dX7_step_82 : decode cX7_step 82 = .ok (.getfield 41, 3) := by decide +kernel
theorem dX7_step_85 : decode cX7_step 85 = .ok (.iconst 1, 1) := by decide +kernel
theorem dX7_step_86 : decode cX7_step 86 = .ok (.isub, 1) := by decide +kernel
theorem dX7_step_87 : decode cX7_step 87 = .ok (.putfield 41, 3) := by decide +kernel
theorem dX7_step_90 : decode cX7_step 90 = .ok (.goto 57, 3) := by decide +kernel
theorem dX7_step_93 : decode cX7_step 93 = .ok (.aload_n 0, 1) := by decide +kernel
theorem dX7_step_94 : decode cX7_step 94 = .ok (.getfield 9, 3) := by decide +kernel
theorem dX7_step_97 : decode cX7_step 97 = .ok (.aload_n 0, 1) := by decide +kernel
theorem dX7_step_98 : decode cX7_step 98 = .ok (.getfield 41, 3) := by decide +kernel
theorem dX7_step_101 : decode cX7_step 101 = .ok (.iaload, 1) := by decide +kernel
theorem dX7_step_102 : decode cX7_step 102 = .ok (.istore_n 2, 1) := by decide +kernel
theorem dX7_step_103 : decode cX7_step 103 = .ok (.aload_n 0, 1) := by decide +kernel
theorem dX7_step_104 : decode cX7_step 104 = .ok (.getfield 9, 3) := by decide +kernel
theorem dX7_step_107 : decode cX7_step 107 = .ok (.aload_n 0, 1) := by decide +kernel
theorem dX7_step_108 : decode cX7_step 108 = .ok (.getfield 41, 3) := by decide +kernel
theorem dX7_step_111 : decode cX7_step 111 = .ok (.iload_n 2, 1) := by decide +kernel
theorem dX7_step_112 : decode cX7_step 112 = .ok (.iconst 1, 1) := by decide +kernel
theorem dX7_step_113 : decode cX7_step 113 = .ok (.iadd, 1) := by decide +kernel
theorem dX7_step_114 : decode cX7_step 114 = .ok (.iastore, 1) := by decide +kernel
theorem dX7_step_115 : decode cX7_step 115 = .ok (.aload_n 0, 1) := by decide +kernel
theorem dX7_step_116 : decode cX7_step 116 = .ok (.aload_n 0, 1) := by decide +kernel
theorem dX7_step_117 : decode cX7_step 117 = .ok (.getfield 41, 3) := by decide +kernel
theorem dX7_step_120 : decode cX7_step 120 = .ok (.iload_n 2, 1) := by decide +kernel
theorem dX7_step_121 : decode cX7_step 121 = .ok (.invokevirtual 58, 3) := by decide +kernel
theorem dX7_step_124 : decode cX7_step 124 = .ok (.ifCond .eq 23, 3) := by decide +kernel
theorem dX7_step_127 : decode cX7_step 127 = .ok (.aload_n 0, 1) := by decide +kernel
theorem dX7_step_128 : decode cX7_step 128 = .ok (.dup, 1) := by decide +kernel
theorem dX7_step_129 : decode cX7_step 129 = .ok (.getfield 41, 3) := by decide +kernel
theorem dX7_step_132 : decode cX7_step 132 = .ok (.iconst 1, 1) := by decide +kernel
theorem dX7_step_133 : decode cX7_step 133 = .ok (.iadd, 1) := by decide +kernel
theorem dX7_step_134 : decode cX7_step 134 = .ok (.putfield 41, 3) := by decide +kernel
theorem dX7_step_137 : decode cX7_step 137 = .ok (.aload_n 0, 1) := by decide +kernel
theorem dX7_step_138 : decode cX7_step 138 = .ok (.getfield 9, 3) := by decide +kernel
theorem dX7_step_141 : decode cX7_step 141 = .ok (.aload_n 0, 1) := by decide +kernel
theorem dX7_step_142 : decode cX7_step 142 = .ok (.getfield 41, 3) := by decide +kernel
theorem dX7_step_145 : decode cX7_step 145 = .ok (.iconst 0, 1) := by decide +kernel
theorem dX7_step_146 : decode cX7_step 146 = .ok (.iastore, 1) := by decide +kernel
theorem dX7_step_147 : decode cX7_step 147 = .ok (.iinc 1 (-1), 3) := by decide +kernel
theorem dX7_step_150 : decode cX7_step 150 = .ok (.goto (-147), 3) := by decide +kernel
theorem dX7_step_153 : decode cX7_step 153 = .ok (.iconst 0, 1) := by decide +kernel
theorem dX7_step_154 : decode cX7_step 154 = .ok (.ireturn, 1) := by decide +kernel
theorem dX7_pick_0 : decode cX7_pick 0 = .ok (.aload_n 0, 1) := by decide +kernel
theorem dX7_pick_1 : decode cX7_pick 1 = .ok (.getfield 9, 3) := by decide +kernel
theorem dX7_pick_4 : decode cX7_pick 4 = .ok (.iload_n 1, 1) := by decide +kernel
theorem dX7_pick_5 : decode cX7_pick 5 = .ok (.iaload, 1) := by decide +kernel
theorem dX7_pick_6 : decode cX7_pick 6 = .ok (.iconst 1, 1) := by decide +kernel
theorem dX7_pick_7 : decode cX7_pick 7 = .ok (.isub, 1) := by decide +kernel
theorem dX7_pick_8 : decode cX7_pick 8 = .ok (.ireturn, 1) := by decide +kernel
theorem dX7_isSaid_0 : decode cX7_isSaid 0 = .ok (.aload_n 0, 1) := by decide +kernel
theorem dX7_isSaid_1 : decode cX7_isSaid 1 = .ok (.invokevirtual 62, 3) := by decide +kernel
theorem dX7_isSaid_4 : decode cX7_isSaid 4 = .ok (.iconst 0, 1) := by decide +kernel
theorem dX7_isSaid_5 : decode cX7_isSaid 5 = .ok (.istore_n 2, 1) := by decide +kernel
theorem dX7_isSaid_6 : decode cX7_isSaid 6 = .ok (.iload_n 2, 1) := by decide +kernel
theorem dX7_isSaid_7 : decode cX7_isSaid 7 = .ok (.aload_n 0, 1) := by decide +kernel
theorem dX7_isSaid_8 : decode cX7_isSaid 8 = .ok (.getfield 37, 3) := by decide +kernel
theorem dX7_isSaid_11 : decode cX7_isSaid 11 = .ok (.getfield 46, 3) := by decide +kernel
theorem dX7_isSaid_14 : decode cX7_isSaid 14 = .ok (.if_icmp .ge 22, 3) := by decide +kernel
theorem dX7_isSaid_17 : decode cX7_isSaid 17 = .ok (.aload_n 0, 1) := by decide +kernel
theorem dX7_isSaid_18 : decode cX7_isSaid 18 = .ok (.iload_n 2, 1) := by decide +kernel
theorem dX7_isSaid_19 : decode cX7_isSaid 19 = .ok (.aload_n 1, 1) := by decide +kernel
theorem dX7_isSaid_20 : decode cX7_isSaid 20 = .ok (.iload_n 2, 1) := by decide +kernel
theorem dX7_isSaid_21 : decode cX7_isSaid 21 = .ok (.iaload, 1) := by decide +kernel
theorem dX7_isSaid_22 : decode cX7_isSaid 22 = .ok (.invokevirtual 58, 3) := by decide +kernel
theorem dX7_isSaid_25 : decode cX7_isSaid 25 = .ok (.ifCond .ne 5, 3) := by decide +kernel
theorem dX7_isSaid_28 : decode cX7_isSaid 28 = .ok (.iconst 0, 1) := by decide +kernel
theorem dX7_isSaid_29 : decode cX7_isSaid 29 = .ok (.ireturn, 1) := by decide +kernel
theorem dX7_isSaid_30 : decode cX7_isSaid 30 = .ok (.iinc 2 1, 3) := by decide +kernel
theorem dX7_isSaid_33 : decode cX7_isSaid 33 = .ok (.goto (-27), 3) := by decide +kernel
theorem dX7_isSaid_36 : decode cX7_isSaid 36 = .ok (.aload_n 0, 1) := by decide +kernel
theorem dX7_isSaid_37 : decode cX7_isSaid 37 = .ok (.aload_n 0, 1) := by decide +kernel
theorem dX7_isSaid_38 : decode cX7_isSaid 38 = .ok (.getfield 37, 3) := by decide +kernel
theorem dX7_isSaid_41 : decode cX7_isSaid 41 = .ok (.getfield 46, 3) := by decide +kernel
theorem dX7_isSaid_44 : decode cX7_isSaid 44 = .ok (.invokevirtual 51, 3) := by decide +kernel
theorem dX7_isSaid_47 : decode cX7_isSaid 47 = .ok (.ireturn, 1) := by decide +kernel
theorem dX7_finish_0 : decode cX7_finish 0 = .ok (.aload_n 0, 1) := by decide +kernel
theorem dX7_finish_1 : decode cX7_finish 1 = .ok (.iload_n 1, 1) := by decide +kernel
theorem dX7_finish_2 : decode cX7_finish 2 = .ok (.invokevirtual 65, 3) := by decide +kernel
theorem dX7_finish_5 : decode cX7_finish 5 = .ok (.ifCond .eq 13, 3) := by decide +kernel
theorem dX7_finish_8 : decode cX7_finish 8 = .ok (.aload_n 0, 1) := by decide +kernel
theorem dX7_finish_9 : decode cX7_finish 9 = .ok (.getfield 24, 3) := by decide +kernel
theorem dX7_finish_12 : decode cX7_finish 12 = .ok (.iload_n 1, 1) := by decide +kernel
theorem dX7_finish_13 : decode cX7_finish 13 = .ok (.iaload, 1) := by decide +kernel
theorem dX7_finish_14 : decode cX7_finish 14 = .ok (.iconst 4, 1) := by decide +kernel
theorem dX7_finish_15 : decode cX7_finish 15 = .ok (.if_icmp .lt 5, 3) := by decide +kernel
theorem dX7_finish_18 : decode cX7_finish 18 = .ok (.iconst 0, 1) := by decide +kernel
theorem dX7_finish_19 : decode cX7_finish 19 = .ok (.ireturn, 1) := by decide +kernel
theorem dX7_finish_20 : decode cX7_finish 20 = .ok (.aload_n 0, 1) := by decide +kernel
theorem dX7_finish_21 : decode cX7_finish 21 = .ok (.getfield 34, 3) := by decide +kernel
theorem dX7_finish_24 : decode cX7_finish 24 = .ok (.aload_n 0, 1) := by decide +kernel
theorem dX7_finish_25 : decode cX7_finish 25 = .ok (.getfield 24, 3) := by decide +kernel
theorem dX7_finish_28 : decode cX7_finish 28 = .ok (.iload_n 1, 1) := by decide +kernel
theorem dX7_finish_29 : decode cX7_finish 29 = .ok (.iaload, 1) := by decide +kernel
theorem dX7_finish_30 : decode cX7_finish 30 = .ok (.aload_n 0, 1) := by decide +kernel
theorem dX7_finish_31 : decode cX7_finish 31 = .ok (.getfield 18, 3) := by decide +kernel
theorem dX7_finish_34 : decode cX7_finish 34 = .ok (.iload_n 1, 1) := by decide +kernel
theorem dX7_finish_35 : decode cX7_finish 35 = .ok (.iaload, 1) := by decide +kernel
theorem dX7_finish_36 : decode cX7_finish 36 = .ok (.aload_n 0, 1) := by decide +kernel
theorem dX7_finish_37 : decode cX7_finish 37 = .ok (.getfield 21, 3) := by decide +kernel
theorem dX7_finish_40 : decode cX7_finish 40 = .ok (.iload_n 1, 1) := by decide +kernel
theorem dX7_finish_41 : decode cX7_finish 41 = .ok (.iaload, 1) := by decide +kernel
theorem dX7_finish_42 : decode cX7_finish 42 = .ok (.iadd, 1) := by decide +kernel
theorem dX7_finish_43 : decode cX7_finish 43 = .ok (.iastore, 1) := by decide +kernel
theorem dX7_finish_44 : decode cX7_finish 44 = .ok (.aload_n 0, 1) := by decide +kernel
theorem dX7_finish_45 : decode cX7_finish 45 = .ok (.aload_n 0, 1) := by decide +kernel
theorem dX7_finish_46 : decode cX7_finish 46 = .ok (.getfield 24, 3) := by decide +kernel
theorem dX7_finish_49 : decode cX7_finish 49 = .ok (.iload_n 1, 1) := by decide +kernel
theorem dX7_finish_50 : decode cX7_finish 50 = .ok (.iaload, 1) := by decide +kernel
theorem dX7_finish_51 : decode cX7_finish 51 = .ok (.iconst 1, 1) := by decide +kernel
theorem dX7_finish_52 : decode cX7_finish 52 = .ok (.iadd, 1) := by decide +kernel
theorem dX7_finish_53 : decode cX7_finish 53 = .ok (.putfield 68, 3) := by decide +kernel
theorem dX7_finish_56 : decode cX7_finish 56 = .ok (.aload_n 0, 1) := by decide +kernel
theorem dX7_finish_57 : decode cX7_finish 57 = .ok (.aload_n 0, 1) := by decide +kernel
theorem dX7_finish_58 : decode cX7_finish 58 = .ok (.getfield 27, 3) := by decide +kernel
theorem dX7_finish_61 : decode cX7_finish 61 = .ok (.iload_n 1, 1) := by decide +kernel
theorem dX7_finish_62 : decode cX7_finish 62 = .ok (.iaload, 1) := by decide +kernel
theorem dX7_finish_63 : decode cX7_finish 63 = .ok (.putfield 71, 3) := by decide +kernel
theorem dX7_finish_66 : decode cX7_finish 66 = .ok (.aload_n 0, 1) := by decide +kernel
theorem dX7_finish_67 : decode cX7_finish 67 = .ok (.aload_n 0, 1) := by decide +kernel
theorem dX7_finish_68 : decode cX7_finish 68 = .ok (.getfield 30, 3) := by decide +kernel
theorem dX7_finish_71 : decode cX7_finish 71 = .ok (.iload_n 1, 1) := by decide +kernel
theorem dX7_finish_72 : decode cX7_finish 72 = .ok (.laload, 1) := by decide +kernel
theorem dX7_finish_73 : decode cX7_finish 73 = .ok (.putfield 74, 3) := by decide +kernel
theorem dX7_finish_76 : decode cX7_finish 76 = .ok (.iconst 1, 1) := by decide +kernel
theorem dX7_finish_77 : decode cX7_finish 77 = .ok (.ireturn, 1) := by decide +kernel
theorem dX7_enter_0 : decode cX7_enter 0 = .ok (.iload_n 1, 1) := by decide +kernel
theorem dX7_enter_1 : decode cX7_enter 1 = .ok (.iconst 4, 1) := by decide +kernel
theorem dX7_enter_2 : decode cX7_enter 2 = .ok (.imul, 1) := by decide +kernel
theorem dX7_enter_3 : decode cX7_enter 3 = .ok (.iload_n 2, 1) := by decide +kernel
theorem dX7_enter_4 : decode cX7_enter 4 = .ok (.iadd, 1) := by decide +kernel
theorem dX7_enter_5 : decode cX7_enter 5 = .ok (.istore_n 3, 1) := by decide +kernel
theorem dX7_enter_6 : decode cX7_enter 6 = .ok (.iload_n 1, 1) := by decide +kernel
theorem dX7_enter_7 : decode cX7_enter 7 = .ok (.iconst 1, 1) := by decide +kernel
theorem dX7_enter_8 : decode cX7_enter 8 = .ok (.iadd, 1) := by decide +kernel
theorem dX7_enter_9 : decode cX7_enter 9 = .ok (.istore 4, 2) := by decide +kernel
theorem dX7_enter_11 : decode cX7_enter 11 = .ok (.aload_n 0, 1) := by decide +kernel
theorem dX7_enter_12 : decode cX7_enter 12 = .ok (.getfield 15, 3) := by decide +kernel
theorem dX7_enter_15 : decode cX7_enter 15 = .ok (.iload 4, 2) := by decide +kernel
theorem dX7_enter_17 : decode cX7_enter 17 = .ok (.aload_n 0, 1) := by decide +kernel
theorem dX7_enter_18 : decode cX7_enter 18 = .ok (.getfield 15, 3) := by decide +kernel
theorem dX7_enter_21 : decode cX7_enter 21 = .ok (.iload_n 1, 1) := by decide +kernel
theorem dX7_enter_22 : decode cX7_enter 22 = .ok (.iaload, 1) := by decide +kernel
theorem dX7_enter_23 : decode cX7_enter 23 = .ok (.iastore, 1) := by decide +kernel
theorem dX7_enter_24 : decode cX7_enter 24 = .ok (.aload_n 0, 1) := by decide +kernel
theorem dX7_enter_25 : decode cX7_enter 25 = .ok (.getfield 18, 3) := by decide +kernel
theorem dX7_enter_28 : decode cX7_enter 28 = .ok (.iload 4, 2) := by decide +kernel
theorem dX7_enter_30 : decode cX7_enter 30 = .ok (.aload_n 0, 1) := by decide +kernel
theorem dX7_enter_31 : decode cX7_enter 31 = .ok (.getfield 18, 3) := by decide +kernel
theorem dX7_enter_34 : decode cX7_enter 34 = .ok (.iload_n 1, 1) := by decide +kernel
theorem dX7_enter_35 : decode cX7_enter 35 = .ok (.iaload, 1) := by decide +kernel
theorem dX7_enter_36 : decode cX7_enter 36 = .ok (.iastore, 1) := by decide +kernel
theorem dX7_enter_37 : decode cX7_enter 37 = .ok (.aload_n 0, 1) := by decide +kernel
theorem dX7_enter_38 : decode cX7_enter 38 = .ok (.getfield 21, 3) := by decide +kernel
theorem dX7_enter_41 : decode cX7_enter 41 = .ok (.iload 4, 2) := by decide +kernel
theorem dX7_enter_43 : decode cX7_enter 43 = .ok (.aload_n 0, 1) := by decide +kernel
theorem dX7_enter_44 : decode cX7_enter 44 = .ok (.getfield 21, 3) := by decide +kernel
theorem dX7_enter_47 : decode cX7_enter 47 = .ok (.iload_n 1, 1) := by decide +kernel
theorem dX7_enter_48 : decode cX7_enter 48 = .ok (.iaload, 1) := by decide +kernel
theorem dX7_enter_49 : decode cX7_enter 49 = .ok (.iastore, 1) := by decide +kernel
theorem dX7_enter_50 : decode cX7_enter 50 = .ok (.aload_n 0, 1) := by decide +kernel
theorem dX7_enter_51 : decode cX7_enter 51 = .ok (.getfield 24, 3) := by decide +kernel
theorem dX7_enter_54 : decode cX7_enter 54 = .ok (.iload 4, 2) := by decide +kernel
theorem dX7_enter_56 : decode cX7_enter 56 = .ok (.aload_n 0, 1) := by decide +kernel
theorem dX7_enter_57 : decode cX7_enter 57 = .ok (.getfield 24, 3) := by decide +kernel
theorem dX7_enter_60 : decode cX7_enter 60 = .ok (.iload_n 1, 1) := by decide +kernel
theorem dX7_enter_61 : decode cX7_enter 61 = .ok (.iaload, 1) := by decide +kernel
theorem dX7_enter_62 : decode cX7_enter 62 = .ok (.iastore, 1) := by decide +kernel
theorem dX7_enter_63 : decode cX7_enter 63 = .ok (.aload_n 0, 1) := by decide +kernel
theorem dX7_enter_64 : decode cX7_enter 64 = .ok (.getfield 27, 3) := by decide +kernel
theorem dX7_enter_67 : decode cX7_enter 67 = .ok (.iload 4, 2) := by decide +kernel
theorem dX7_enter_69 : decode cX7_enter 69 = .ok (.aload_n 0, 1) := by decide +kernel
theorem dX7_enter_70 : decode cX7_enter 70 = .ok (.getfield 27, 3) := by decide +kernel
theorem dX7_enter_73 : decode cX7_enter 73 = .ok (.iload_n 1, 1) := by decide +kernel
theorem dX7_enter_74 : decode cX7_enter 74 = .ok (.iaload, 1) := by decide +kernel
theorem dX7_enter_75 : decode cX7_enter 75 = .ok (.aload_n 0, 1) := by decide +kernel
theorem dX7_enter_76 : decode cX7_enter 76 = .ok (.getfield 37, 3) := by decide +kernel
theorem dX7_enter_79 : decode cX7_enter 79 = .ok (.getfield 78, 3) := by decide +kernel
theorem dX7_enter_82 : decode cX7_enter 82 = .ok (.iload_n 3, 1) := by decide +kernel
theorem dX7_enter_83 : decode cX7_enter 83 = .ok (.iaload, 1) := by decide +kernel
theorem dX7_enter_84 : decode cX7_enter 84 = .ok (.iadd, 1) := by decide +kernel
theorem dX7_enter_85 : decode cX7_enter 85 = .ok (.iastore, 1) := by decide +kernel
theorem dX7_enter_86 : decode cX7_enter 86 = .ok (.aload_n 0, 1) := by decide +kernel
theorem dX7_enter_87 : decode cX7_enter 87 = .ok (.getfield 30, 3) := by decide +kernel
theorem dX7_enter_90 : decode cX7_enter 90 = .ok (.iload 4, 2) := by decide +kernel
theorem dX7_enter_92 : decode cX7_enter 92 = .ok (.aload_n 0, 1) := by decide +kernel
theorem dX7_enter_93 : decode cX7_enter 93 = .ok (.getfield 30, 3) := by decide +kernel
theorem dX7_enter_96 : decode cX7_enter 96 = .ok (.iload_n 1, 1) := by decide +kernel
theorem dX7_enter_97 : decode cX7_enter 97 = .ok (.laload, 1) := by decide +kernel
theorem dX7_enter_98 : decode cX7_enter 98 = .ok (.bipush 10, 2) := by decide +kernel
theorem dX7_enter_100 : decode cX7_enter 100 = .ok (.aload_n 0, 1) := by decide +kernel
theorem dX7_enter_101 : decode cX7_enter 101 = .ok (.getfield 37, 3) := by decide +kernel
theorem dX7_enter_104 : decode cX7_enter 104 = .ok (.getfield 78, 3) := by decide +kernel
theorem dX7_enter_107 : decode cX7_enter 107 = .ok (.iload_n 3, 1) := by decide +kernel
theorem dX7_enter_108 : decode cX7_enter 108 = .ok (.iaload, 1) := by decide +kernel
theorem dX7_enter_109 : decode cX7_enter 109 = .ok (.isub, 1) := by decide +kernel
theorem dX7_enter_110 : decode cX7_enter 110 = .ok (.i2l, 1) := by decide +kernel
theorem dX7_enter_111 : decode cX7_enter 111 = .ok (.lmul, 1) := by decide +kernel
theorem dX7_enter_112 : decode cX7_enter 112 = .ok (.lastore, 1) := by decide +kernel
theorem dX7_enter_113 : decode cX7_enter 113 = .ok (.aload_n 0, 1) := by decide +kernel
theorem dX7_enter_114 : decode cX7_enter 114 = .ok (.getfield 37, 3) := by decide +kernel
theorem dX7_enter_117 : decode cX7_enter 117 = .ok (.getfield 80, 3) := by decide +kernel
theorem dX7_enter_120 : decode cX7_enter 120 = .ok (.iload_n 3, 1) := by decide +kernel
theorem dX7_enter_121 : decode cX7_enter 121 = .ok (.iaload, 1) := by decide +kernel
theorem dX7_enter_122 : decode cX7_enter 122 = .ok (.lookupswitch 112 #[(0, 50), (28, 82), (29, 89), (30, 75), (31, 52)], 50) := by decide +kernel
theorem dX7_enter_172 : decode cX7_enter 172 = .ok (.iconst 1, 1) := by decide +kernel
theorem dX7_enter_173 : decode cX7_enter 173 = .ok (.ireturn, 1) := by decide +kernel
theorem dX7_enter_174 : decode cX7_enter 174 = .ok (.aload_n 0, 1) := by decide +kernel
theorem dX7_enter_175 : decode cX7_enter 175 = .ok (.iload_n 1, 1) := by decide +kernel
theorem dX7_enter_176 : decode cX7_enter 176 = .ok (.invokevirtual 65, 3) := by decide +kernel
theorem dX7_enter_179 : decode cX7_enter 179 = .ok (.ifCond .eq 16, 3) := by decide +kernel
theorem dX7_enter_182 : decode cX7_enter 182 = .ok (.aload_n 0, 1) := by decide +kernel
theorem dX7_enter_183 : decode cX7_enter 183 = .ok (.iload 4, 2) := by decide +kernel
theorem dX7_enter_185 : decode cX7_enter 185 = .ok (.invokevirtual 83, 3) := by decide +kernel
theorem dX7_enter_188 : decode cX7_enter 188 = .ok (.ifCond .eq 7, 3) := by decide +kernel
theorem dX7_enter_191 : decode cX7_enter 191 = .ok (.iconst 1, 1) := by decide +kernel
theorem dX7_enter_192 : decode cX7_enter 192 = .ok (.goto 4, 3) := by decide +kernel
theorem dX7_enter_195 : decode cX7_enter 195 = .ok (.iconst 0, 1) := by decide +kernel
theorem dX7_enter_196 : decode cX7_enter 196 = .ok (.ireturn, 1) := by decide +kernel
theorem dX7_enter_197 : decode cX7_enter 197 = .ok (.aload_n 0, 1) := by decide +kernel
theorem dX7_enter_198 : decode cX7_enter 198 = .ok (.iload 4, 2) := by decide +kernel
theorem dX7_enter_200 : decode cX7_enter 200 = .ok (.invokevirtual 86, 3) := by decide +kernel
theorem dX7_enter_203 : decode cX7_enter 203 = .ok (.ireturn, 1) := by decide +kernel
theorem dX7_enter_204 : decode cX7_enter 204 = .ok (.aload_n 0, 1) := by decide +kernel
theorem dX7_enter_205 : decode cX7_enter 205 = .ok (.iload 4, 2) := by decide +kernel
theorem dX7_enter_207 : decode cX7_enter 207 = .ok (.invokevirtual 89, 3) := by decide +kernel
theorem dX7_enter_210 : decode cX7_enter 210 = .ok (.ireturn, 1) := by decide +kernel
theorem dX7_enter_211 : decode cX7_enter 211 = .ok (.aload_n 0, 1) := by decide +kernel
theorem dX7_enter_212 : decode cX7_enter 212 = .ok (.iload_n 1, 1) := by decide +kernel
theorem dX7_enter_213 : decode cX7_enter 213 = .ok (.invokevirtual 65, 3) := by decide +kernel
theorem dX7_enter_216 : decode cX7_enter 216 = .ok (.ifCond .eq 16, 3) := by decide +kernel
theorem dX7_enter_219 : decode cX7_enter 219 = .ok (.aload_n 0, 1) := by decide +kernel
theorem dX7_enter_220 : decode cX7_enter 220 = .ok (.iload 4, 2) := by decide +kernel
theorem dX7_enter_222 : decode cX7_enter 222 = .ok (.invokevirtual 92, 3) := by decide +kernel
theorem dX7_enter_225 : decode cX7_enter 225 = .ok (.ifCond .eq 7, 3) := by decide +kernel
theorem dX7_enter_228 : decode cX7_enter 228 = .ok (.iconst 1, 1) := by decide +kernel
theorem dX7_enter_229 : decode cX7_enter 229 = .ok (.goto 4, 3) := by decide +kernel
theorem dX7_enter_232 : decode cX7_enter 232 = .ok (.iconst 0, 1) := by decide +kernel
theorem dX7_enter_233 : decode cX7_enter 233 = .ok (.ireturn, 1) := by decide +kernel
theorem dX7_enter_234 : decode cX7_enter 234 = .ok (.aload_n 0, 1) := by decide +kernel
theorem dX7_enter_235 : decode cX7_enter 235 = .ok (.iload 4, 2) := by decide +kernel
theorem dX7_enter_237 : decode cX7_enter 237 = .ok (.aload_n 0, 1) := by decide +kernel
theorem dX7_enter_238 : decode cX7_enter 238 = .ok (.getfield 37, 3) := by decide +kernel
theorem dX7_enter_241 : decode cX7_enter 241 = .ok (.getfield 80, 3) := by decide +kernel
theorem dX7_enter_244 : decode cX7_enter 244 = .ok (.iload_n 3, 1) := by decide +kernel
theorem dX7_enter_245 : decode cX7_enter 245 = .ok (.iaload, 1) := by decide +kernel
theorem dX7_enter_246 : decode cX7_enter 246 = .ok (.invokevirtual 95, 3) := by decide +kernel
theorem dX7_enter_249 : decode cX7_enter 249 = .ok (.ireturn, 1) := by decide +kernel
theorem dX7_isWhole_0 : decode cX7_isWhole 0 = .ok (.aload_n 0, 1) := by decide +kernel
theorem dX7_isWhole_1 : decode cX7_isWhole 1 = .ok (.getfield 15, 3) := by decide +kernel
theorem dX7_isWhole_4 : decode cX7_isWhole 4 = .ok (.iload_n 1, 1) := by decide +kernel
theorem dX7_isWhole_5 : decode cX7_isWhole 5 = .ok (.iaload, 1) := by decide +kernel
theorem dX7_isWhole_6 : decode cX7_isWhole 6 = .ok (.ifCond .eq 17, 3) := by decide +kernel
theorem dX7_isWhole_9 : decode cX7_isWhole 9 = .ok (.aload_n 0, 1) := by decide +kernel
theorem dX7_isWhole_10 : decode cX7_isWhole 10 = .ok (.getfield 15, 3) := by decide +kernel
theorem dX7_isWhole_13 : decode cX7_isWhole 13 = .ok (.iload_n 1, 1) := by decide +kernel
theorem dX7_isWhole_14 : decode cX7_isWhole 14 = .ok (.iaload, 1) := by decide +kernel
theorem dX7_isWhole_15 : decode cX7_isWhole 15 = .ok (.iconst 5, 1) := by decide +kernel
theorem dX7_isWhole_16 : decode cX7_isWhole 16 = .ok (.if_icmp .eq 7, 3) := by decide +kernel
theorem dX7_isWhole_19 : decode cX7_isWhole 19 = .ok (.iconst 1, 1) := by decide +kernel
theorem dX7_isWhole_20 : decode cX7_isWhole 20 = .ok (.goto 4, 3) := by decide +kernel
theorem dX7_isWhole_23 : decode cX7_isWhole 23 = .ok (.iconst 0, 1) := by decide +kernel
theorem dX7_isWhole_24 : decode cX7_isWhole 24 = .ok (.ireturn, 1) := by decide +kernel
theorem dX7_passStop_0 : decode cX7_passStop 0 = .ok (.aload_n 0, 1) := by decide +kernel
theorem dX7_passStop_1 : decode cX7_passStop 1 = .ok (.getfield 24, 3) := by decide +kernel
theorem dX7_passStop_4 : decode cX7_passStop 4 = .ok (.iload_n 1, 1) := by decide +kernel
theorem dX7_passStop_5 : decode cX7_passStop 5 = .ok (.iaload, 1) := by decide +kernel
theorem dX7_passStop_6 : decode cX7_passStop 6 = .ok (.iconst 4, 1) := by decide +kernel
theorem dX7_passStop_7 : decode cX7_passStop 7 = .ok (.if_icmp .lt 5, 3) := by decide +kernel
theorem dX7_passStop_10 : decode cX7_passStop 10 = .ok (.iconst 0, 1) := by decide +kernel
theorem dX7_passStop_11 : decode cX7_passStop 11 = .ok (.ireturn, 1) := by decide +kernel
theorem dX7_passStop_12 : decode cX7_passStop 12 = .ok (.aload_n 0, 1) := by decide +kernel
theorem dX7_passStop_13 : decode cX7_passStop 13 = .ok (.getfield 34, 3) := by decide +kernel
theorem dX7_passStop_16 : decode cX7_passStop 16 = .ok (.aload_n 0, 1) := by decide +kernel
theorem dX7_passStop_17 : decode cX7_passStop 17 = .ok (.getfield 24, 3) := by decide +kernel
theorem dX7_passStop_20 : decode cX7_passStop 20 = .ok (.iload_n 1, 1) := by decide +kernel
theorem dX7_passStop_21 : decode cX7_passStop 21 = .ok (.iaload, 1) := by decide +kernel
theorem dX7_passStop_22 : decode cX7_passStop 22 = .ok (.aload_n 0, 1) := by decide +kernel
theorem dX7_passStop_23 : decode cX7_passStop 23 = .ok (.getfield 18, 3) := by decide +kernel
theorem dX7_passStop_26 : decode cX7_passStop 26 = .ok (.iload_n 1, 1) := by decide +kernel
theorem dX7_passStop_27 : decode cX7_passStop 27 = .ok (.iaload, 1) := by decide +kernel
theorem dX7_passStop_28 : decode cX7_passStop 28 = .ok (.aload_n 0, 1) := by decide +kernel
theorem dX7_passStop_29 : decode cX7_passStop 29 = .ok (.getfield 21, 3) := by decide +kernel
theorem dX7_passStop_32 : decode cX7_passStop 32 = .ok (.iload_n 1, 1) := by decide +kernel
theorem dX7_passStop_33 : decode cX7_passStop 33 = .ok (.iaload, 1) := by decide +kernel
theorem dX7_passStop_34 : decode cX7_passStop 34 = .ok (.iadd, 1) := by decide +kernel
theorem dX7_passStop_35 : decode cX7_passStop 35 = .ok (.iastore, 1) := by decide +kernel
theorem dX7_passStop_36 : decode cX7_passStop 36 = .ok (.aload_n 0, 1) := by decide +kernel
theorem dX7_passStop_37 : decode cX7_passStop 37 = .ok (.getfield 24, 3) := by decide +kernel
theorem dX7_passStop_40 : decode cX7_passStop 40 = .ok (.iload_n 1, 1) := by decide +kernel
theorem dX7_passStop_41 : decode cX7_passStop 41 = .ok (.dup2, 1) := by decide +kernel
theorem dX7_passStop_42 : decode cX7_passStop 42 = .ok (.iaload, 1) := by decide +kernel
theorem dX7_passStop_43 : decode cX7_passStop 43 = .ok (.iconst 1, 1) := by decide +kernel
theorem dX7_passStop_44 : decode cX7_passStop 44 = .ok (.iadd, 1) := by decide +kernel
theorem dX7_passStop_45 : decode cX7_passStop 45 = .ok (.iastore, 1) := by decide +kernel
theorem dX7_passStop_46 : decode cX7_passStop 46 = .ok (.aload_n 0, 1) := by decide +kernel
theorem dX7_passStop_47 : decode cX7_passStop 47 = .ok (.getfield 15, 3) := by decide +kernel
theorem dX7_passStop_50 : decode cX7_passStop 50 = .ok (.iload_n 1, 1) := by decide +kernel
theorem dX7_passStop_51 : decode cX7_passStop 51 = .ok (.iconst 0, 1) := by decide +kernel
theorem dX7_passStop_52 : decode cX7_passStop 52 = .ok (.iastore, 1) := by decide +kernel
theorem dX7_passStop_53 : decode cX7_passStop 53 = .ok (.aload_n 0, 1) := by decide +kernel
theorem dX7_passStop_54 : decode cX7_passStop 54 = .ok (.getfield 18, 3) := by decide +kernel
theorem dX7_passStop_57 : decode cX7_passStop 57 = .ok (.iload_n 1, 1) := by decide +kernel
theorem dX7_passStop_58 : decode cX7_passStop 58 = .ok (.iconst 0, 1) := by decide +kernel
theorem dX7_passStop_59 : decode cX7_passStop 59 = .ok (.iastore, 1) := by decide +kernel
theorem dX7_passStop_60 : decode cX7_passStop 60 = .ok (.aload_n 0, 1) := by decide +kernel
theorem dX7_passStop_61 : decode cX7_passStop 61 = .ok (.getfield 21, 3) := by decide +kernel
theorem dX7_passStop_64 : decode cX7_passStop 64 = .ok (.iload_n 1, 1) := by decide +kernel
theorem dX7_passStop_65 : decode cX7_passStop 65 = .ok (.iconst 0, 1) := by decide +kernel
theorem dX7_passStop_66 : decode cX7_passStop 66 = .ok (.iastore, 1) := by decide +kernel
theorem dX7_passStop_67 : decode cX7_passStop 67 = .ok (.iconst 1, 1) := by decide +kernel
theorem dX7_passStop_68 : decode cX7_passStop 68 = .ok (.ireturn, 1) := by decide +kernel
theorem dX7_passAnd_0 : decode cX7_passAnd 0 = .ok (.aload_n 0, 1) := by decide +kernel
theorem dX7_passAnd_1 : decode cX7_passAnd 1 = .ok (.getfield 15, 3) := by decide +kernel
theorem dX7_passAnd_4 : decode cX7_passAnd 4 = .ok (.iload_n 1, 1) := by decide +kernel
theorem dX7_passAnd_5 : decode cX7_passAnd 5 = .ok (.iaload, 1) := by decide +kernel
theorem dX7_passAnd_6 : decode cX7_passAnd 6 = .ok (.iconst 4, 1) := by decide +kernel
theorem dX7_passAnd_7 : decode cX7_passAnd 7 = .ok (.if_icmp .eq 16, 3) := by decide +kernel
theorem dX7_passAnd_10 : decode cX7_passAnd 10 = .ok (.aload_n 0, 1) := by decide +kernel
theorem dX7_passAnd_11 : decode cX7_passAnd 11 = .ok (.getfield 15, 3) := by decide +kernel
theorem dX7_passAnd_14 : decode cX7_passAnd 14 = .ok (.iload_n 1, 1) := by decide +kernel
theorem dX7_passAnd_15 : decode cX7_passAnd 15 = .ok (.iaload, 1) := by decide +kernel
theorem dX7_passAnd_16 : decode cX7_passAnd 16 = .ok (.bipush 6, 2) := by decide +kernel
theorem dX7_passAnd_18 : decode cX7_passAnd 18 = .ok (.if_icmp .eq 5, 3) := by decide +kernel
theorem dX7_passAnd_21 : decode cX7_passAnd 21 = .ok (.iconst 0, 1) := by decide +kernel
theorem dX7_passAnd_22 : decode cX7_passAnd 22 = .ok (.ireturn, 1) := by decide +kernel
theorem dX7_passAnd_23 : decode cX7_passAnd 23 = .ok (.aload_n 0, 1) := by decide +kernel
theorem dX7_passAnd_24 : decode cX7_passAnd 24 = .ok (.getfield 15, 3) := by decide +kernel
theorem dX7_passAnd_27 : decode cX7_passAnd 27 = .ok (.iload_n 1, 1) := by decide +kernel
theorem dX7_passAnd_28 : decode cX7_passAnd 28 = .ok (.iconst 5, 1) := by decide +kernel
theorem dX7_passAnd_29 : decode cX7_passAnd 29 = .ok (.iastore, 1) := by decide +kernel
theorem dX7_passAnd_30 : decode cX7_passAnd 30 = .ok (.iconst 1, 1) := by decide +kernel
theorem dX7_passAnd_31 : decode cX7_passAnd 31 = .ok (.ireturn, 1) := by decide +kernel
theorem dX7_passHundred_0 : decode cX7_passHundred 0 = .ok (.aload_n 0, 1) := by decide +kernel
theorem dX7_passHundred_1 : decode cX7_passHundred 1 = .ok (.getfield 15, 3) := by decide +kernel
theorem dX7_passHundred_4 : decode cX7_passHundred 4 = .ok (.iload_n 1, 1) := by decide +kernel
theorem dX7_passHundred_5 : decode cX7_passHundred 5 = .ok (.iaload, 1) := by decide +kernel
theorem dX7_passHundred_6 : decode cX7_passHundred 6 = .ok (.iconst 1, 1) := by decide +kernel
theorem dX7_passHundred_7 : decode cX7_passHundred 7 = .ok (.if_icmp .eq 5, 3) := by decide +kernel
theorem dX7_passHundred_10 : decode cX7_passHundred 10 = .ok (.iconst 0, 1) := by decide +kernel
theorem dX7_passHundred_11 : decode cX7_passHundred 11 = .ok (.ireturn, 1) := by decide +kernel
theorem dX7_passHundred_12 : decode cX7_passHundred 12 = .ok (.aload_n 0, 1) := by decide +kernel
theorem dX7_passHundred_13 : decode cX7_passHundred 13 = .ok (.getfield 21, 3) := by decide +kernel
theorem dX7_passHundred_16 : decode cX7_passHundred 16 = .ok (.iload_n 1, 1) := by decide +kernel
theorem dX7_passHundred_17 : decode cX7_passHundred 17 = .ok (.dup2, 1) := by decide +kernel
theorem dX7_passHundred_18 : decode cX7_passHundred 18 = .ok (.iaload, 1) := by decide +kernel
theorem dX7_passHundred_19 : decode cX7_passHundred 19 = .ok (.bipush 100, 2) := by decide +kernel
theorem dX7_passHundred_21 : decode cX7_passHundred 21 = .ok (.imul, 1) := by decide +kernel
theorem dX7_passHundred_22 : decode cX7_passHundred 22 = .ok (.iastore, 1) := by decide +kernel
theorem dX7_passHundred_23 : decode cX7_passHundred 23 = .ok (.aload_n 0, 1) := by decide +kernel
theorem dX7_passHundred_24 : decode cX7_passHundred 24 = .ok (.getfield 15, 3) := by decide +kernel
theorem dX7_passHundred_27 : decode cX7_passHundred 27 = .ok (.iload_n 1, 1) := by decide +kernel
theorem dX7_passHundred_28 : decode cX7_passHundred 28 = .ok (.iconst 4, 1) := by decide +kernel
theorem dX7_passHundred_29 : decode cX7_passHundred 29 = .ok (.iastore, 1) := by decide +kernel
theorem dX7_passHundred_30 : decode cX7_passHundred 30 = .ok (.iconst 1, 1) := by decide +kernel
theorem dX7_passHundred_31 : decode cX7_passHundred 31 = .ok (.ireturn, 1) := by decide +kernel
theorem dX7_passThousand_0 : decode cX7_passThousand 0 = .ok (.aload_n 0, 1) := by decide +kernel
theorem dX7_passThousand_1 : decode cX7_passThousand 1 = .ok (.getfield 18, 3) := by decide +kernel
theorem dX7_passThousand_4 : decode cX7_passThousand 4 = .ok (.iload_n 1, 1) := by decide +kernel
theorem dX7_passThousand_5 : decode cX7_passThousand 5 = .ok (.iaload, 1) := by decide +kernel
theorem dX7_passThousand_6 : decode cX7_passThousand 6 = .ok (.ifCond .eq 5, 3) := by decide +kernel
theorem dX7_passThousand_9 : decode cX7_passThousand 9 = .ok (.iconst 0, 1) := by decide +kernel
theorem dX7_passThousand_10 : decode cX7_passThousand 10 = .ok (.ireturn, 1) := by decide +kernel
theorem dX7_passThousand_11 : decode cX7_passThousand 11 = .ok (.aload_n 0, 1) := by decide +kernel
theorem dX7_passThousand_12 : decode cX7_passThousand 12 = .ok (.getfield 18, 3) := by decide +kernel
theorem dX7_passThousand_15 : decode cX7_passThousand 15 = .ok (.iload_n 1, 1) := by decide +kernel
theorem dX7_passThousand_16 : decode cX7_passThousand 16 = .ok (.aload_n 0, 1) := by decide +kernel
theorem dX7_passThousand_17 : decode cX7_passThousand 17 = .ok (.getfield 21, 3) := by decide +kernel
theorem dX7_passThousand_20 : decode cX7_passThousand 20 = .ok (.iload_n 1, 1) := by decide +kernel
theorem dX7_passThousand_21 : decode cX7_passThousand 21 = .ok (.iaload, 1) := by decide +kernel
theorem dX7_passThousand_22 : decode cX7_passThousand 22 = .ok (.sipush 1000, 3) := by decide +kernel
theorem dX7_passThousand_25 : decode cX7_passThousand 25 = .ok (.imul, 1) := by decide +kernel
theorem dX7_passThousand_26 : decode cX7_passThousand 26 = .ok (.iastore, 1) := by decide +kernel
theorem dX7_passThousand_27 : decode cX7_passThousand 27 = .ok (.aload_n 0, 1) := by decide +kernel
theorem dX7_passThousand_28 : decode cX7_passThousand 28 = .ok (.getfield 21, 3) := by decide +kernel
theorem dX7_passThousand_31 : decode cX7_passThousand 31 = .ok (.iload_n 1, 1) := by decide +kernel
theorem dX7_passThousand_32 : decode cX7_passThousand 32 = .ok (.iconst 0, 1) := by decide +kernel
theorem dX7_passThousand_33 : decode cX7_passThousand 33 = .ok (.iastore, 1) := by decide +kernel
theorem dX7_passThousand_34 : decode cX7_passThousand 34 = .ok (.aload_n 0, 1) := by decide +kernel
theorem dX7_passThousand_35 : decode cX7_passThousand 35 = .ok (.getfield 15, 3) := by decide +kernel
theorem dX7_passThousand_38 : decode cX7_passThousand 38 = .ok (.iload_n 1, 1) := by decide +kernel
theorem dX7_passThousand_39 : decode cX7_passThousand 39 = .ok (.bipush 6, 2) := by decide +kernel
theorem dX7_passThousand_41 : decode cX7_passThousand 41 = .ok (.iastore, 1) := by decide +kernel
theorem dX7_passThousand_42 : decode cX7_passThousand 42 = .ok (.iconst 1, 1) := by decide +kernel
theorem dX7_passThousand_43 : decode cX7_passThousand 43 = .ok (.ireturn, 1) := by decide +kernel
theorem dX7_passLow_0 : decode cX7_passLow 0 = .ok (.aload_n 0, 1) := by decide +kernel
theorem dX7_passLow_1 : decode cX7_passLow 1 = .ok (.getfield 15, 3) := by decide +kernel
theorem dX7_passLow_4 : decode cX7_passLow 4 = .ok (.iload_n 1, 1) := by decide +kernel
theorem dX7_passLow_5 : decode cX7_passLow 5 = .ok (.iaload, 1) := by decide +kernel
theorem dX7_passLow_6 : decode cX7_passLow 6 = .ok (.istore_n 3, 1) := by decide +kernel
theorem dX7_passLow_7 : decode cX7_passLow 7 = .ok (.iload_n 3, 1) := by decide +kernel
theorem dX7_passLow_8 : decode cX7_passLow 8 = .ok (.ifCond .eq 9, 3) := by decide +kernel
theorem dX7_passLow_11 : decode cX7_passLow 11 = .ok (.iload_n 3, 1) := by decide +kernel
theorem dX7_passLow_12 : decode cX7_passLow 12 = .ok (.bipush 6, 2) := by decide +kernel
theorem dX7_passLow_14 : decode cX7_passLow 14 = .ok (.if_icmp .ne 7, 3) := by decide +kernel
theorem dX7_passLow_17 : decode cX7_passLow 17 = .ok (.iconst 1, 1) := by decide +kernel
theorem dX7_passLow_18 : decode cX7_passLow 18 = .ok (.goto 4, 3) := by decide +kernel
theorem dX7_passLow_21 : decode cX7_passLow 21 = .ok (.iconst 0, 1) := by decide +kernel
theorem dX7_passLow_22 : decode cX7_passLow 22 = .ok (.istore 4, 2) := by decide +kernel
theorem dX7_passLow_24 : decode cX7_passLow 24 = .ok (.iload 4, 2) := by decide +kernel
theorem dX7_passLow_26 : decode cX7_passLow 26 = .ok (.ifCond .ne 13, 3) := by decide +kernel
theorem dX7_passLow_29 : decode cX7_passLow 29 = .ok (.iload_n 3, 1) := by decide +kernel
theorem dX7_passLow_30 : decode cX7_passLow 30 = .ok (.iconst 4, 1) := by decide +kernel
theorem dX7_passLow_31 : decode cX7_passLow 31 = .ok (.if_icmp .eq 8, 3) := by decide +kernel
theorem dX7_passLow_34 : decode cX7_passLow 34 = .ok (.iload_n 3, 1) := by decide +kernel
theorem dX7_passLow_35 : decode cX7_passLow 35 = .ok (.iconst 5, 1) := by decide +kernel
theorem dX7_passLow_36 : decode cX7_passLow 36 = .ok (.if_icmp .ne 7, 3) := by decide +kernel
theorem dX7_passLow_39 : decode cX7_passLow 39 = .ok (.iconst 1, 1) := by decide +kernel
theorem dX7_passLow_40 : decode cX7_passLow 40 = .ok (.goto 4, 3) := by decide +kernel
theorem dX7_passLow_43 : decode cX7_passLow 43 = .ok (.iconst 0, 1) := by decide +kernel
theorem dX7_passLow_44 : decode cX7_passLow 44 = .ok (.istore 5, 2) := by decide +kernel
theorem dX7_passLow_46 : decode cX7_passLow 46 = .ok (.iload 5, 2) := by decide +kernel
theorem dX7_passLow_48 : decode cX7_passLow 48 = .ok (.ifCond .ne 16, 3) := by decide +kernel
theorem dX7_passLow_51 : decode cX7_passLow 51 = .ok (.iload_n 3, 1) := by decide +kernel
theorem dX7_passLow_52 : decode cX7_passLow 52 = .ok (.iconst 3, 1) := by decide +kernel
theorem dX7_passLow_53 : decode cX7_passLow 53 = .ok (.if_icmp .ne 9, 3) := by decide +kernel
theorem dX7_passLow_56 : decode cX7_passLow 56 = .ok (.iload_n 2, 1) := by decide +kernel
theorem dX7_passLow_57 : decode cX7_passLow 57 = .ok (.bipush 9, 2) := by decide +kernel
theorem dX7_passLow_59 : decode cX7_passLow 59 = .ok (.if_icmp .le 5, 3) := by decide +kernel
theorem dX7_passLow_62 : decode cX7_passLow 62 = .ok (.iconst 0, 1) := by decide +kernel
theorem dX7_passLow_63 : decode cX7_passLow 63 = .ok (.ireturn, 1) := by decide +kernel
theorem dX7_passLow_64 : decode cX7_passLow 64 = .ok (.iload_n 2, 1) := by decide +kernel
theorem dX7_passLow_65 : decode cX7_passLow 65 = .ok (.bipush 19, 2) := by decide +kernel
theorem dX7_passLow_67 : decode cX7_passLow 67 = .ok (.if_icmp .gt 38, 3) := by decide +kernel
theorem dX7_passLow_70 : decode cX7_passLow 70 = .ok (.aload_n 0, 1) := by decide +kernel
theorem dX7_passLow_71 : decode cX7_passLow 71 = .ok (.getfield 21, 3) := by decide +kernel
theorem dX7_passLow_74 : decode cX7_passLow 74 = .ok (.iload_n 1, 1) := by decide +kernel
theorem dX7_passLow_75 : decode cX7_passLow 75 = .ok (.dup2, 1) := by decide +kernel
theorem dX7_passLow_76 : decode cX7_passLow 76 = .ok (.iaload, 1) := by decide +kernel
theorem dX7_passLow_77 : decode cX7_passLow 77 = .ok (.iload_n 2, 1) := by decide +kernel
theorem dX7_passLow_78 : decode cX7_passLow 78 = .ok (.iadd, 1) := by decide +kernel
theorem dX7_passLow_79 : decode cX7_passLow 79 = .ok (.iastore, 1) := by decide +kernel
theorem dX7_passLow_80 : decode cX7_passLow 80 = .ok (.aload_n 0, 1) := by decide +kernel
theorem dX7_passLow_81 : decode cX7_passLow 81 = .ok (.getfield 15, 3) := by decide +kernel
theorem dX7_passLow_84 : decode cX7_passLow 84 = .ok (.iload_n 1, 1) := by decide +kernel
theorem dX7_passLow_85 : decode cX7_passLow 85 = .ok (.iload 4, 2) := by decide +kernel
theorem dX7_passLow_87 : decode cX7_passLow 87 = .ok (.ifCond .eq 13, 3) := by decide +kernel
theorem dX7_passLow_90 : decode cX7_passLow 90 = .ok (.iload_n 2, 1) := by decide +kernel
theorem dX7_passLow_91 : decode cX7_passLow 91 = .ok (.bipush 9, 2) := by decide +kernel
theorem dX7_passLow_93 : decode cX7_passLow 93 = .ok (.if_icmp .gt 7, 3) := by decide +kernel
theorem dX7_passLow_96 : decode cX7_passLow 96 = .ok (.iconst 1, 1) := by decide +kernel
theorem dX7_passLow_97 : decode cX7_passLow 97 = .ok (.goto 4, 3) := by decide +kernel
theorem dX7_passLow_100 : decode cX7_passLow 100 = .ok (.iconst 2, 1) := by decide +kernel
theorem dX7_passLow_101 : decode cX7_passLow 101 = .ok (.iastore, 1) := by decide +kernel
theorem dX7_passLow_102 : decode cX7_passLow 102 = .ok (.goto 26, 3) := by decide +kernel
theorem dX7_passLow_105 : decode cX7_passLow 105 = .ok (.aload_n 0, 1) := by decide +kernel
theorem dX7_passLow_106 : decode cX7_passLow 106 = .ok (.getfield 21, 3) := by decide +kernel
theorem dX7_passLow_109 : decode cX7_passLow 109 = .ok (.iload_n 1, 1) := by decide +kernel
theorem dX7_passLow_110 : decode cX7_passLow 110 = .ok (.dup2, 1) := by decide +kernel
theorem dX7_passLow_111 : decode cX7_passLow 111 = .ok (.iaload, 1) := by decide +kernel
theorem dX7_passLow_112 : decode cX7_passLow 112 = .ok (.iload_n 2, 1) := by decide +kernel
theorem dX7_passLow_113 : decode cX7_passLow 113 = .ok (.bipush 18, 2) := by decide +kernel
theorem dX7_passLow_115 : decode cX7_passLow 115 = .ok (.isub, 1) := by decide +kernel
theorem dX7_passLow_116 : decode cX7_passLow 116 = .ok (.bipush 10, 2) := by decide +kernel
theorem dX7_passLow_118 : decode cX7_passLow 118 = .ok (.imul, 1) := by decide +kernel
theorem dX7_passLow_119 : decode cX7_passLow 119 = .ok (.iadd, 1) := by decide +kernel
theorem dX7_passLow_120 : decode cX7_passLow 120 = .ok (.iastore, 1) := by decide +kernel
theorem dX7_passLow_121 : decode cX7_passLow 121 = .ok (.aload_n 0, 1) := by decide +kernel
theorem dX7_passLow_122 : decode cX7_passLow 122 = .ok (.getfield 15, 3) := by decide +kernel
theorem dX7_passLow_125 : decode cX7_passLow 125 = .ok (.iload_n 1, 1) := by decide +kernel
theorem dX7_passLow_126 : decode cX7_passLow 126 = .ok (.iconst 3, 1) := by decide +kernel
theorem dX7_passLow_127 : decode cX7_passLow 127 = .ok (.iastore, 1) := by decide +kernel
theorem dX7_passLow_128 : decode cX7_passLow 128 = .ok (.iconst 1, 1) := by decide +kernel
theorem dX7_passLow_129 : decode cX7_passLow 129 = .ok (.ireturn, 1) := by decide +kernel
theorem dX8_init_0 : decode cX8_init 0 = .ok (.aload_n 0, 1) := by decide +kernel
theorem dX8_init_1 : decode cX8_init 1 = .ok (.invokespecial 3, 3) := by decide +kernel
theorem dX8_init_4 : decode cX8_init 4 = .ok (.aload_n 0, 1) := by decide +kernel
theorem dX8_init_5 : decode cX8_init 5 = .ok (.new 9, 3) := by decide +kernel
theorem dX8_init_8 : decode cX8_init 8 = .ok (.dup, 1) := by decide +kernel
theorem dX8_init_9 : decode cX8_init 9 = .ok (.invokespecial 11, 3) := by decide +kernel
theorem dX8_init_12 : decode cX8_init 12 = .ok (.putfield 12, 3) := by decide +kernel
theorem dX8_init_15 : decode cX8_init 15 = .ok (.aload_n 0, 1) := by decide +kernel
theorem dX8_init_16 : decode cX8_init 16 = .ok (.new 9, 3) := by decide +kernel
theorem dX8_init_19 : decode cX8_init 19 = .ok (.dup, 1) := by decide +kernel
theorem dX8_init_20 : decode cX8_init 20 = .ok (.invokespecial 11, 3) := by decide +kernel
theorem dX8_init_23 : decode cX8_init 23 = .ok (.putfield 16, 3) := by decide +kernel
theorem dX8_init_26 : decode cX8_init 26 = .ok (.aload_n 0, 1) := by decide +kernel
theorem dX8_init_27 : decode cX8_init 27 = .ok (.new 19, 3) := by decide +kernel
theorem dX8_init_30 : decode cX8_init 30 = .ok (.dup, 1) := by decide +kernel
theorem dX8_init_31 : decode cX8_init 31 = .ok (.invokespecial 21, 3) := by decide +kernel
theorem dX8_init_34 : decode cX8_init 34 = .ok (.putfield 22, 3) := by decide +kernel
theorem dX8_init_37 : decode cX8_init 37 = .ok (.aload_n 0, 1) := by decide +kernel
theorem dX8_init_38 : decode cX8_init 38 = .ok (.new 9, 3) := by decide +kernel
theorem dX8_init_41 : decode cX8_init 41 = .ok (.dup, 1) := by decide +kernel
theorem dX8_init_42 : decode cX8_init 42 = .ok (.invokespecial 11, 3) := by decide +kernel
theorem dX8_init_45 : decode cX8_init 45 = .ok (.putfield 26, 3) := by decide +kernel
theorem dX8_init_48 : decode cX8_init 48 = .ok (.aload_n 0, 1) := by decide +kernel
theorem dX8_init_49 : decode cX8_init 49 = .ok (.new 19, 3) := by decide +kernel
theorem dX8_init_52 : decode cX8_init 52 = .ok (.dup, 1) := by decide +kernel
theorem dX8_init_53 : decode cX8_init 53 = .ok (.invokespecial 21, 3) := by decide +kernel
theorem dX8_init_56 : decode cX8_init 56 = .ok (.putfield 29, 3) := by decide +kernel
theorem dX8_init_59 : decode cX8_init 59 = .ok (.aload_n 0, 1) := by decide +kernel
theorem dX8_init_60 : decode cX8_init 60 = .ok (.new 32, 3) := by decide +kernel
theorem dX8_init_63 : decode cX8_init 63 = .ok (.dup, 1) := by decide +kernel
theorem dX8_init_64 : decode cX8_init 64 = .ok (.invokespecial 34, 3) := by decide +kernel
theorem dX8_init_67 : decode cX8_init 67 = .ok (.putfield 35, 3) := by decide +kernel
theorem dX8_init_70 : decode cX8_init 70 = .ok (.aload_n 0, 1) := by decide +kernel
theorem dX8_init_71 : decode cX8_init 71 = .ok (.new 39, 3) := by decide +kernel
theorem dX8_init_74 : decode cX8_init 74 = .ok (.dup, 1) := by decide +kernel
theorem dX8_init_75 : decode cX8_init 75 = .ok (.aload_n 0, 1) := by decide +kernel
theorem dX8_init_76 : decode cX8_init 76 = .ok (.getfield 12, 3) := by decide +kernel
theorem dX8_init_79 : decode cX8_init 79 = .ok (.invokespecial 41, 3) := by decide +kernel
theorem dX8_init_82 : decode cX8_init 82 = .ok (.putfield 44, 3) := by decide +kernel
theorem dX8_init_85 : decode cX8_init 85 = .ok (.aload_n 0, 1) := by decide +kernel
theorem dX8_init_86 : decode cX8_init 86 = .ok (.iconst 4, 1) := by decide +kernel
theorem dX8_init_87 : decode cX8_init 87 = .ok (.anewarray 48, 3) := by decide +kernel
theorem dX8_init_90 : decode cX8_init 90 = .ok (.putfield 50, 3) := by decide +kernel
theorem dX8_init_93 : decode cX8_init 93 = .ok (.iconst 0, 1) := by decide +kernel
theorem dX8_init_94 : decode cX8_init 94 = .ok (.istore_n 1, 1) := by decide +kernel
theorem dX8_init_95 : decode cX8_init 95 = .ok (.iload_n 1, 1) := by decide +kernel
theorem dX8_init_96 : decode cX8_init 96 = .ok (.iconst 4, 1) := by decide +kernel
theorem dX8_init_97 : decode cX8_init 97 = .ok (.if_icmp .ge 22, 3) := by decide +kernel
theorem dX8_init_100 : decode cX8_init 100 = .ok (.aload_n 0, 1) := by decide +kernel
theorem dX8_init_101 : decode cX8_init 101 = .ok (.getfield 50, 3) := by decide +kernel
theorem dX8_init_104 : decode cX8_init 104 = .ok (.iload_n 1, 1) := by decide +kernel
theorem dX8_init_105 : decode cX8_init 105 = .ok (.new 48, 3) := by decide +kernel
theorem dX8_init_108 : decode cX8_init 108 = .ok (.dup, 1) := by decide +kernel
theorem dX8_init_109 : decode cX8_init 109 = .ok (.invokespecial 54, 3) := by decide +kernel
theorem dX8_init_112 : decode cX8_init 112 = .ok (.aastore, 1) := by decide +kernel
theorem dX8_init_113 : decode cX8_init 113 = .ok (.iinc 1 1, 3) := by decide +kernel
theorem dX8_init_116 : decode cX8_init 116 = .ok (.goto (-21), 3) := by decide +kernel
theorem dX8_init_119 : decode cX8_init 119 = .ok (.return_, 1) := by decide +kernel
theorem dX8_type_0 : decode cX8_type 0 = .ok (.iload_n 1, 1) := by decide +kernel
theorem dX8_type_1 : decode cX8_type 1 = .ok (.bipush 32, 2) := by decide +kernel
theorem dX8_type_3 : decode cX8_type 3 = .ok (.if_icmp .lt 9, 3) := by decide +kernel
theorem dX8_type_6 : decode cX8_type 6 = .ok (.iload_n 1, 1) := by decide +kernel
theorem dX8_type_7 : decode cX8_type 7 = .ok (.bipush 126, 2) := by decide +kernel
theorem dX8_type_9 : decode cX8_type 9 = .ok (.if_icmp .le 5, 3) := by decide +kernel
theorem dX8_type_12 : decode cX8_type 12 = .ok (.iconst (-1), 1) := by decide +kernel
theorem dX8_type_13 : decode cX8_type 13 = .ok (.ireturn, 1) := by decide +kernel
theorem dX8_type_14 : decode cX8_type 14 = .ok (.aload_n 0, 1) := by decide +kernel
theorem dX8_type_15 : decode cX8_type 15 = .ok (.getfield 35, 3) := by decide +kernel
theorem dX8_type_18 : decode cX8_type 18 = .ok (.iload_n 1, 1) := by decide +kernel
theorem dX8_type_19 : decode cX8_type 19 = .ok (.i2c, 1) := by decide +kernel
theorem dX8_type_20 : decode cX8_type 20 = .ok (.invokevirtual 55, 3) := by decide +kernel
theorem dX8_type_23 : decode cX8_type 23 = .ok (.ifCond .eq 13, 3) := by decide +kernel
theorem dX8_type_26 : decode cX8_type 26 = .ok (.aload_n 0, 1) := by decide +kernel
theorem dX8_type_27 : decode cX8_type 27 = .ok (.getfield 35, 3) := by decide +kernel
theorem dX8_type_30 : decode cX8_type 30 = .ok (.getfield 59, 3) := by decide +kernel
theorem dX8_type_33 : decode cX8_type 33 = .ok (.goto 5, 3) := by decide +kernel
theorem dX8_type_36 : decode cX8_type 36 = .ok (.bipush (-3), 2) := by decide +kernel
theorem dX8_type_38 : decode cX8_type 38 = .ok (.ireturn, 1) := by decide +kernel
theorem dX8_words_0 : decode cX8_words 0 = .ok (.aload_n 0, 1) := by decide +kernel
theorem dX8_words_1 : decode cX8_words 1 = .ok (.getfield 35, 3) := by decide +kernel
theorem dX8_words_4 : decode cX8_words 4 = .ok (.aload_n 0, 1) := by decide +kernel
theorem dX8_words_5 : decode cX8_words 5 = .ok (.getfield 16, 3) := by decide +kernel
theorem dX8_words_8 : decode cX8_words 8 = .ok (.invokevirtual 63, 3) := by decide +kernel
theorem dX8_words_11 : decode cX8_words 11 = .ok (.istore_n 1, 1) := by decide +kernel
theorem dX8_words_12 : decode cX8_words 12 = .ok (.aload_n 0, 1) := by decide +kernel
theorem dX8_words_13 : decode cX8_words 13 = .ok (.getfield 35, 3) := by decide +kernel
theorem dX8_words_16 : decode cX8_words 16 = .ok (.iconst 0, 1) := by decide +kernel
theorem dX8_words_17 : decode cX8_words 17 = .ok (.putfield 59, 3) := by decide +kernel
theorem dX8_words_20 : decode cX8_words 20 = .ok (.iload_n 1, 1) := by decide +kernel
theorem dX8_words_21 : decode cX8_words 21 = .ok (.ifCond .lt 8, 3) := by decide +kernel
theorem dX8_words_24 : decode cX8_words 24 = .ok (.bipush (-20), 2) := by decide +kernel
theorem dX8_words_26 : decode cX8_words 26 = .ok (.iload_n 1, 1) := by decide +kernel
theorem dX8_words_27 : decode cX8_words 27 = .ok (.isub, 1) := by decide +kernel
theorem dX8_words_28 : decode cX8_words 28 = .ok (.ireturn, 1) := by decide +kernel
theorem dX8_words_29 : decode cX8_words 29 = .ok (.aload_n 0, 1) := by decide +kernel
theorem dX8_words_30 : decode cX8_words 30 = .ok (.invokevirtual 67, 3) := by decide +kernel
theorem dX8_words_33 : decode cX8_words 33 = .ok (.ireturn, 1) := by decide +kernel
theorem dX8_say_0 : decode cX8_say 0 = .ok (.iload_n 1, 1) := by decide +kernel
theorem dX8_say_1 : decode cX8_say 1 = .ok (.iconst 1, 1) := by decide +kernel
theorem dX8_say_2 : decode cX8_say 2 = .ok (.if_icmp .lt 9, 3) := by decide +kernel
theorem dX8_say_5 : decode cX8_say 5 = .ok (.iload_n 1, 1) := by decide +kernel
theorem dX8_say_6 : decode cX8_say 6 = .ok (.ldc 71, 2) := by decide +kernel
theorem dX8_say_8 : decode cX8_say 8 = .ok (.if_icmp .le 5, 3) := by decide +kernel
theorem dX8_say_11 : decode cX8_say 11 = .ok (.iconst (-1), 1) := by decide +kernel
theorem dX8_say_12 : decode cX8_say 12 = .ok (.ireturn, 1) := by decide +kernel
theorem dX8_say_13 : decode cX8_say 13 = .ok (.aload_n 0, 1) := by decide +kernel
theorem dX8_say_14 : decode cX8_say 14 = .ok (.getfield 16, 3) := by decide +kernel
theorem dX8_say_17 : decode cX8_say 17 = .ok (.iload_n 1, 1) := by decide +kernel
theorem dX8_say_18 : decode cX8_say 18 = .ok (.invokevirtual 72, 3) := by decide +kernel
theorem dX8_say_21 : decode cX8_say 21 = .ok (.ifCond .eq 10, 3) := by decide +kernel
theorem dX8_say_24 : decode cX8_say 24 = .ok (.aload_n 0, 1) := by decide +kernel
theorem dX8_say_25 : decode cX8_say 25 = .ok (.invokevirtual 67, 3) := by decide +kernel
theorem dX8_say_28 : decode cX8_say 28 = .ok (.goto 5, 3) := by decide +kernel
theorem dX8_say_31 : decode cX8_say 31 = .ok (.bipush (-3), 2) := by decide +kernel
theorem dX8_say_33 : decode cX8_say 33 = .ok (.ireturn, 1) := by decide +kernel
theorem dX8_slot_0 : decode cX8_slot 0 = .ok (.aload_n 0, 1) := by decide +kernel
theorem dX8_slot_1 : decode cX8_slot 1 = .ok (.getfield 12, 3) := by decide +kernel
theorem dX8_slot_4 : decode cX8_slot 4 = .ok (.iload_n 1, 1) := by decide +kernel
theorem dX8_slot_5 : decode cX8_slot 5 = .ok (.invokevirtual 76, 3) := by decide +kernel
theorem dX8_slot_8 : decode cX8_slot 8 = .ok (.ifCond .eq 17, 3) := by decide +kernel
theorem dX8_slot_11 : decode cX8_slot 11 = .ok (.iload_n 2, 1) := by decide +kernel
theorem dX8_slot_12 : decode cX8_slot 12 = .ok (.iconst (-1), 1) := by decide +kernel
theorem dX8_slot_13 : decode cX8_slot 13 = .ok (.if_icmp .lt 12, 3) := by decide +kernel
theorem dX8_slot_16 : decode cX8_slot 16 = .ok (.iload_n 3, 1) := by decide +kernel
theorem dX8_slot_17 : decode cX8_slot 17 = .ok (.ifCond .lt 8, 3) := by decide +kernel
theorem dX8_slot_20 : decode cX8_slot 20 = .ok (.iload_n 3, 1) := by decide +kernel
theorem dX8_slot_21 : decode cX8_slot 21 = .ok (.iconst 1, 1) := by decide +kernel
theorem dX8_slot_22 : decode cX8_slot 22 = .ok (.if_icmp .le 5, 3) := by decide +kernel
theorem dX8_slot_25 : decode cX8_slot 25 = .ok (.iconst (-1), 1) := by decide +kernel
theorem dX8_slot_26 : decode cX8_slot 26 = .ok (.ireturn, 1) := by decide +kernel
theorem dX8_slot_27 : decode cX8_slot 27 = .ok (.iload_n 2, 1) := by decide +kernel
theorem dX8_slot_28 : decode cX8_slot 28 = .ok (.iconst (-1), 1) := by decide +kernel
theorem dX8_slot_29 : decode cX8_slot 29 = .ok (.if_icmp .ne 13, 3) := by decide +kernel
theorem dX8_slot_32 : decode cX8_slot 32 = .ok (.aload_n 0, 1) := by decide +kernel
theorem dX8_slot_33 : decode cX8_slot 33 = .ok (.getfield 12, 3) := by decide +kernel
theorem dX8_slot_36 : decode cX8_slot 36 = .ok (.getfield 79, 3) := by decide +kernel
theorem dX8_slot_39 : decode cX8_slot 39 = .ok (.iload_n 1, 1) := by decide +kernel
theorem dX8_slot_40 : decode cX8_slot 40 = .ok (.iaload, 1) := by decide +kernel
theorem dX8_slot_41 : decode cX8_slot 41 = .ok (.ireturn, 1) := by decide +kernel
theorem dX8_slot_42 : decode cX8_slot 42 = .ok (.iload_n 2, 1) := by decide +kernel
theorem dX8_slot_43 : decode cX8_slot 43 = .ok (.aload_n 0, 1) := by decide +kernel
theorem dX8_slot_44 : decode cX8_slot 44 = .ok (.getfield 12, 3) := by decide +kernel
theorem dX8_slot_47 : decode cX8_slot 47 = .ok (.getfield 79, 3) := by decide +kernel
theorem dX8_slot_50 : decode cX8_slot 50 = .ok (.iload_n 1, 1) := by decide +kernel
theorem dX8_slot_51 : decode cX8_slot 51 = .ok (.iaload, 1) := by decide +kernel
theorem dX8_slot_52 : decode cX8_slot 52 = .ok (.if_icmp .lt 6, 3) := by decide +kernel
theorem dX8_slot_55 : decode cX8_slot 55 = .ok (.bipush (-4), 2) := by decide +kernel
theorem dX8_slot_57 : decode cX8_slot 57 = .ok (.ireturn, 1) := by decide +kernel
theorem dX8_slot_58 : decode cX8_slot 58 = .ok (.iload_n 1, 1) := by decide +kernel
theorem dX8_slot_59 : decode cX8_slot 59 = .ok (.iconst 4, 1) := by decide +kernel
theorem dX8_slot_60 : decode cX8_slot 60 = .ok (.imul, 1) := by decide +kernel
theorem dX8_slot_61 : decode cX8_slot 61 = .ok (.iload_n 2, 1) := by decide +kernel
theorem dX8_slot_62 : decode cX8_slot 62 = .ok (.iadd, 1) := by decide +kernel
theorem dX8_slot_63 : decode cX8_slot 63 = .ok (.istore 4, 2) := by decide +kernel
theorem dX8_slot_65 : decode cX8_slot 65 = .ok (.iload_n 3, 1) := by decide +kernel
theorem dX8_slot_66 : decode cX8_slot 66 = .ok (.ifCond .ne 16, 3) := by decide +kernel
theorem dX8_slot_69 : decode cX8_slot 69 = .ok (.aload_n 0, 1) := by decide +kernel
theorem dX8_slot_70 : decode cX8_slot 70 = .ok (.getfield 12, 3) := by decide +kernel
theorem dX8_slot_73 : decode cX8_slot 73 = .ok (.getfield 83, 3) := by decide +kernel
theorem dX8_slot_76 : decode cX8_slot 76 = .ok (.iload 4, 2) := by decide +kernel
theorem dX8_slot_78 : decode cX8_slot 78 = .ok (.iaload, 1) := by decide +kernel
theorem dX8_slot_79 : decode cX8_slot 79 = .ok (.goto 13, 3) := by decide +kernel
theorem dX8_slot_82 : decode cX8_slot 82 = .ok (.aload_n 0, 1) := by decide +kernel
theorem dX8_slot_83 : decode cX8_slot 83 = .ok (.getfield 12, 3) := by decide +kernel
theorem dX8_slot_86 : decode cX8_slot 86 = .ok (.getfield 86, 3) := by decide +kernel
theorem dX8_slot_89 : decode cX8_slot 89 = .ok (.iload 4, 2) := by decide +kernel
theorem dX8_slot_91 : decode cX8_slot 91 = .ok (.iaload, 1) := by decide +kernel
theorem dX8_slot_92 : decode cX8_slot 92 = .ok (.ireturn, 1) := by decide +kernel
theorem dX8_count_0 : decode cX8_count 0 = .ok (.iload_n 1, 1) := by decide +kernel
theorem dX8_count_1 : decode cX8_count 1 = .ok (.tableswitch 147 0 10 #[59, 67, 75, 83, 91, 99, 107, 115, 123, 131, 139], 59) := by decide +kernel
theorem dX8_count_60 : decode cX8_count 60 = .ok (.aload_n 0, 1) := by decide +kernel
theorem dX8_count_61 : decode cX8_count 61 = .ok (.getfield 12, 3) := by decide +kernel
theorem dX8_count_64 : decode cX8_count 64 = .ok (.getfield 89, 3) := by decide +kernel
theorem dX8_count_67 : decode cX8_count 67 = .ok (.ireturn, 1) := by decide +kernel
theorem dX8_count_68 : decode cX8_count 68 = .ok (.aload_n 0, 1) := by decide +kernel
theorem dX8_count_69 : decode cX8_count 69 = .ok (.getfield 12, 3) := by decide +kernel
theorem dX8_count_72 : decode cX8_count 72 = .ok (.getfield 92, 3) := by decide +kernel
theorem dX8_count_75 : decode cX8_count 75 = .ok (.ireturn, 1) := by decide +kernel
theorem dX8_count_76 : decode cX8_count 76 = .ok (.aload_n 0, 1) := by decide +kernel
theorem dX8_count_77 : decode cX8_count 77 = .ok (.getfield 12, 3) := by decide +kernel
theorem dX8_count_80 : decode cX8_count 80 = .ok (.getfield 95, 3) := by decide +kernel
theorem dX8_count_83 : decode cX8_count 83 = .ok (.ireturn, 1) := by decide +kernel
theorem dX8_count_84 : decode cX8_count 84 = .ok (.aload_n 0, 1) := by decide +kernel
theorem dX8_count_85 : decode cX8_count 85 = .ok (.getfield 44, 3) := by decide +kernel
theorem dX8_count_88 : decode cX8_count 88 = .ok (.invokevirtual 98, 3) := by decide +kernel
theorem dX8_count_91 : decode cX8_count 91 = .ok (.ireturn, 1) := by decide +kernel
theorem dX8_count_92 : decode cX8_count 92 = .ok (.aload_n 0, 1) := by decide +kernel
theorem dX8_count_93 : decode cX8_count 93 = .ok (.getfield 44, 3) := by decide +kernel
theorem dX8_count_96 : decode cX8_count 96 = .ok (.invokevirtual 101, 3) := by decide +kernel
theorem dX8_count_99 : decode cX8_count 99 = .ok (.ireturn, 1) := by decide +kernel
theorem dX8_count_100 : decode cX8_count 100 = .ok (.aload_n 0, 1) := by decide +kernel
theorem dX8_count_101 : decode cX8_count 101 = .ok (.getfield 44, 3) := by decide +kernel
theorem dX8_count_104 : decode cX8_count 104 = .ok (.invokevirtual 104, 3) := by decide +kernel
theorem dX8_count_107 : decode cX8_count 107 = .ok (.ireturn, 1) := by decide +kernel
theorem dX8_count_108 : decode cX8_count 108 = .ok (.aload_n 0, 1) := by decide +kernel
theorem dX8_count_109 : decode cX8_count 109 = .ok (.getfield 44, 3) := by decide +kernel
theorem dX8_count_112 : decode cX8_count 112 = .ok (.invokevirtual 107, 3) := by decide +kernel
theorem dX8_count_115 : decode cX8_count 115 = .ok (.ireturn, 1) := by decide +kernel
theorem dX8_count_116 : decode cX8_count 116 = .ok (.aload_n 0, 1) := by decide +kernel
theorem dX8_count_117 : decode cX8_count 117 = .ok (.getfield 44, 3) := by decide +kernel
theorem dX8_count_120 : decode cX8_count 120 = .ok (.invokevirtual 110, 3) := by decide +kernel
theorem dX8_count_123 : decode cX8_count 123 = .ok (.ireturn, 1) := by decide +kernel
theorem dX8_count_124 : decode cX8_count 124 = .ok (.aload_n 0, 1) := by decide +kernel
theorem dX8_count_125 : decode cX8_count 125 = .ok (.getfield 44, 3) := by decide +kernel
theorem dX8_count_128 : decode cX8_count 128 = .ok (.invokevirtual 113, 3) := by decide +kernel
theorem dX8_count_131 : decode cX8_count 131 = .ok (.ireturn, 1) := by decide +kernel
theorem dX8_count_132 : decode cX8_count 132 = .ok (.aload_n 0, 1) := by decide +kernel
theorem dX8_count_133 : decode cX8_count 133 = .ok (.getfield 44, 3) := by decide +kernel
theorem dX8_count_136 : decode cX8_count 136 = .ok (.invokevirtual 116, 3) := by decide +kernel
theorem dX8_count_139 : decode cX8_count 139 = .ok (.ireturn, 1) := by decide +kernel
theorem dX8_count_140 : decode cX8_count 140 = .ok (.aload_n 0, 1) := by decide +kernel
theorem dX8_count_141 : decode cX8_count 141 = .ok (.getfield 22, 3) := by decide +kernel
theorem dX8_count_144 : decode cX8_count 144 = .ok (.getfield 119, 3) := by decide +kernel
theorem dX8_count_147 : decode cX8_count 147 = .ok (.ireturn, 1) := by decide +kernel
theorem dX8_count_148 : decode cX8_count 148 = .ok (.iconst (-1), 1) := by decide +kernel
theorem dX8_count_149 : decode cX8_count 149 = .ok (.ireturn, 1) := by decide +kernel
theorem dX8_hear_0 : decode cX8_hear 0 = .ok (.iload_n 1, 1) := by decide +kernel
theorem dX8_hear_1 : decode cX8_hear 1 = .ok (.invokestatic 122, 3) := by decide +kernel
theorem dX8_hear_4 : decode cX8_hear 4 = .ok (.ifCond .eq 10, 3) := by decide +kernel
theorem dX8_hear_7 : decode cX8_hear 7 = .ok (.iload_n 2, 1) := by decide +kernel
theorem dX8_hear_8 : decode cX8_hear 8 = .ok (.invokestatic 125, 3) := by decide +kernel
theorem dX8_hear_11 : decode cX8_hear 11 = .ok (.ifCond .ne 5, 3) := by decide +kernel
theorem dX8_hear_14 : decode cX8_hear 14 = .ok (.iconst (-1), 1) := by decide +kernel
theorem dX8_hear_15 : decode cX8_hear 15 = .ok (.ireturn, 1) := by decide +kernel
theorem dX8_hear_16 : decode cX8_hear 16 = .ok (.aload_n 0, 1) := by decide +kernel
theorem dX8_hear_17 : decode cX8_hear 17 = .ok (.getfield 12, 3) := by decide +kernel
theorem dX8_hear_20 : decode cX8_hear 20 = .ok (.getfield 89, 3) := by decide +kernel
theorem dX8_hear_23 : decode cX8_hear 23 = .ok (.bipush 8, 2) := by decide +kernel
theorem dX8_hear_25 : decode cX8_hear 25 = .ok (.if_icmp .lt 6, 3) := by decide +kernel
theorem dX8_hear_28 : decode cX8_hear 28 = .ok (.bipush (-3), 2) := by decide +kernel
theorem dX8_hear_30 : decode cX8_hear 30 = .ok (.ireturn, 1) := by decide +kernel
theorem dX8_hear_31 : decode cX8_hear 31 = .ok (.aload_n 0, 1) := by decide +kernel
theorem dX8_hear_32 : decode cX8_hear 32 = .ok (.invokevirtual 128, 3) := by decide +kernel
theorem dX8_hear_35 : decode cX8_hear 35 = .ok (.aload_n 0, 1) := by decide +kernel
theorem dX8_hear_36 : decode cX8_hear 36 = .ok (.getfield 12, 3) := by decide +kernel
theorem dX8_hear_39 : decode cX8_hear 39 = .ok (.iload_n 1, 1) := by decide +kernel
theorem dX8_hear_40 : decode cX8_hear 40 = .ok (.iload_n 2, 1) := by decide +kernel
theorem dX8_hear_41 : decode cX8_hear 41 = .ok (.invokevirtual 131, 3) := by decide +kernel
theorem dX8_hear_44 : decode cX8_hear 44 = .ok (.pop, 1) := by decide +kernel
theorem dX8_hear_45 : decode cX8_hear 45 = .ok (.aload_n 0, 1) := by decide +kernel
theorem dX8_hear_46 : decode cX8_hear 46 = .ok (.getfield 12, 3) := by decide +kernel
theorem dX8_hear_49 : decode cX8_hear 49 = .ok (.getfield 89, 3) := by decide +kernel
theorem dX8_hear_52 : decode cX8_hear 52 = .ok (.ireturn, 1) := by decide +kernel
theorem dX8_also_0 : decode cX8_also 0 = .ok (.aload_n 0, 1) := by decide +kernel
theorem dX8_also_1 : decode cX8_also 1 = .ok (.getfield 12, 3) := by decide +kernel
theorem dX8_also_4 : decode cX8_also 4 = .ok (.iload_n 1, 1) := by decide +kernel
theorem dX8_also_5 : decode cX8_also 5 = .ok (.invokevirtual 76, 3) := by decide +kernel
theorem dX8_also_8 : decode cX8_also 8 = .ok (.ifCond .eq 17, 3) := by decide +kernel
theorem dX8_also_11 : decode cX8_also 11 = .ok (.iload_n 2, 1) := by decide +kernel
theorem dX8_also_12 : decode cX8_also 12 = .ok (.invokestatic 122, 3) := by decide +kernel
theorem dX8_also_15 : decode cX8_also 15 = .ok (.ifCond .eq 10, 3) := by decide +kernel
theorem dX8_also_18 : decode cX8_also 18 = .ok (.iload_n 3, 1) := by decide +kernel
theorem dX8_also_19 : decode cX8_also 19 = .ok (.invokestatic 125, 3) := by decide +kernel
theorem dX8_also_22 : decode cX8_also 22 = .ok (.ifCond .ne 5, 3) := by decide +kernel
theorem dX8_also_25 : decode cX8_also 25 = .ok (.iconst (-1), 1) := by decide +kernel
theorem dX8_also_26 : decode cX8_also 26 = .ok (.ireturn, 1) := by decide +kernel
theorem dX8_also_27 : decode cX8_also 27 = .ok (.aload_n 0, 1) := by decide +kernel
theorem dX8_also_28 : decode cX8_also 28 = .ok (.getfield 12, 3) := by decide +kernel
theorem dX8_also_31 : decode cX8_also 31 = .ok (.iload_n 1, 1) := by decide +kernel
theorem dX8_also_32 : decode cX8_also 32 = .ok (.iload_n 2, 1) := by decide +kernel
theorem dX8_also_33 : decode cX8_also 33 = .ok (.invokevirtual 135, 3) := by decide +kernel
theorem dX8_also_36 : decode cX8_also 36 = .ok (.ifCond .lt 6, 3) := by decide +kernel
theorem dX8_also_39 : decode cX8_also 39 = .ok (.bipush (-2), 2) := by decide +kernel
theorem dX8_also_41 : decode cX8_also 41 = .ok (.ireturn, 1) := by decide +kernel
theorem dX8_also_42 : decode cX8_also 42 = .ok (.aload_n 0, 1) := by decide +kernel
theorem dX8_also_43 : decode cX8_also 43 = .ok (.getfield 12, 3) := by decide +kernel
theorem dX8_also_46 : decode cX8_also 46 = .ok (.getfield 79, 3) := by decide +kernel
theorem dX8_also_49 : decode cX8_also 49 = .ok (.iload_n 1, 1) := by decide +kernel
theorem dX8_also_50 : decode cX8_also 50 = .ok (.iaload, 1) := by decide +kernel
theorem dX8_also_51 : decode cX8_also 51 = .ok (.iconst 4, 1) := by decide +kernel
theorem dX8_also_52 : decode cX8_also 52 = .ok (.if_icmp .lt 6, 3) := by decide +kernel
theorem dX8_also_55 : decode cX8_also 55 = .ok (.bipush (-3), 2) := by decide +kernel
theorem dX8_also_57 : decode cX8_also 57 = .ok (.ireturn, 1) := by decide +kernel
theorem dX8_also_58 : decode cX8_also 58 = .ok (.aload_n 0, 1) := by decide +kernel
theorem dX8_also_59 : decode cX8_also 59 = .ok (.invokevirtual 128, 3) := by decide +kernel
theorem dX8_also_62 : decode cX8_also 62 = .ok (.aload_n 0, 1) := by decide +kernel
theorem dX8_also_63 : decode cX8_also 63 = .ok (.getfield 12, 3) := by decide +kernel
theorem dX8_also_66 : decode cX8_also 66 = .ok (.iload_n 1, 1) := by decide +kernel
theorem dX8_also_67 : decode cX8_also 67 = .ok (.iload_n 2, 1) := by decide +kernel
theorem dX8_also_68 : decode cX8_also 68 = .ok (.iload_n 3, 1) := by decide +kernel
theorem dX8_also_69 : decode cX8_also 69 = .ok (.invokevirtual 139, 3) := by decide +kernel
theorem dX8_also_72 : decode cX8_also 72 = .ok (.pop, 1) := by decide +kernel
theorem dX8_also_73 : decode cX8_also 73 = .ok (.aload_n 0, 1) := by decide +kernel
theorem dX8_also_74 : decode cX8_also 74 = .ok (.getfield 12, 3) := by decide +kernel
theorem dX8_also_77 : decode cX8_also 77 = .ok (.getfield 79, 3) := by decide +kernel
theorem dX8_also_80 : decode cX8_also 80 = .ok (.iload_n 1, 1) := by decide +kernel
theorem dX8_also_81 : decode cX8_also 81 = .ok (.iaload, 1) := by decide +kernel
theorem dX8_also_82 : decode cX8_also 82 = .ok (.ireturn, 1) := by decide +kernel
theorem dX8_lose_0 : decode cX8_lose 0 = .ok (.aload_n 0, 1) := by decide +kernel
theorem dX8_lose_1 : decode cX8_lose 1 = .ok (.getfield 12, 3) := by decide +kernel
theorem dX8_lose_4 : decode cX8_lose 4 = .ok (.iload_n 1, 1) := by decide +kernel
theorem dX8_lose_5 : decode cX8_lose 5 = .ok (.invokevirtual 76, 3) := by decide +kernel
theorem dX8_lose_8 : decode cX8_lose 8 = .ok (.ifCond .ne 5, 3) := by decide +kernel
theorem dX8_lose_11 : decode cX8_lose 11 = .ok (.iconst (-1), 1) := by decide +kernel
theorem dX8_lose_12 : decode cX8_lose 12 = .ok (.ireturn, 1) := by decide +kernel
theorem dX8_lose_13 : decode cX8_lose 13 = .ok (.aload_n 0, 1) := by decide +kernel
theorem dX8_lose_14 : decode cX8_lose 14 = .ok (.invokevirtual 128, 3) := by decide +kernel
theorem dX8_lose_17 : decode cX8_lose 17 = .ok (.aload_n 0, 1) := by decide +kernel
theorem dX8_lose_18 : decode cX8_lose 18 = .ok (.getfield 12, 3) := by decide +kernel
theorem dX8_lose_21 : decode cX8_lose 21 = .ok (.iload_n 1, 1) := by decide +kernel
theorem dX8_lose_22 : decode cX8_lose 22 = .ok (.invokevirtual 143, 3) := by decide +kernel
theorem dX8_lose_25 : decode cX8_lose 25 = .ok (.aload_n 0, 1) := by decide +kernel
theorem dX8_lose_26 : decode cX8_lose 26 = .ok (.getfield 12, 3) := by decide +kernel
theorem dX8_lose_29 : decode cX8_lose 29 = .ok (.getfield 89, 3) := by decide +kernel
theorem dX8_lose_32 : decode cX8_lose 32 = .ok (.ireturn, 1) := by decide +kernel
theorem dX8_settle_0 : decode cX8_settle 0 = .ok (.aload_n 0, 1) := by decide +kernel
theorem dX8_settle_1 : decode cX8_settle 1 = .ok (.getfield 12, 3) := by decide +kernel
theorem dX8_settle_4 : decode cX8_settle 4 = .ok (.iload_n 1, 1) := by decide +kernel
theorem dX8_settle_5 : decode cX8_settle 5 = .ok (.invokevirtual 76, 3) := by decide +kernel
theorem dX8_settle_8 : decode cX8_settle 8 = .ok (.ifCond .eq 10, 3) := by decide +kernel
theorem dX8_settle_11 : decode cX8_settle 11 = .ok (.iload_n 2, 1) := by decide +kernel
theorem dX8_settle_12 : decode cX8_settle 12 = .ok (.invokestatic 122, 3) := by decide +kernel
theorem dX8_settle_15 : decode cX8_settle 15 = .ok (.ifCond .ne 5, 3) := by decide +kernel
theorem dX8_settle_18 : decode cX8_settle 18 = .ok (.iconst (-1), 1) := by decide +kernel
theorem dX8_settle_19 : decode cX8_settle 19 = .ok (.ireturn, 1) := by decide +kernel
theorem dX8_settle_20 : decode cX8_settle 20 = .ok (.aload_n 0, 1) := by decide +kernel
theorem dX8_settle_21 : decode cX8_settle 21 = .ok (.getfield 12, 3) := by decide +kernel
theorem dX8_settle_24 : decode cX8_settle 24 = .ok (.iload_n 1, 1) := by decide +kernel
theorem dX8_settle_25 : decode cX8_settle 25 = .ok (.iload_n 2, 1) := by decide +kernel
theorem dX8_settle_26 : decode cX8_settle 26 = .ok (.invokevirtual 135, 3) := by decide +kernel
theorem dX8_settle_29 : decode cX8_settle 29 = .ok (.istore_n 3, 1) := by decide +kernel
theorem dX8_settle_30 : decode cX8_settle 30 = .ok (.aload_n 0, 1) := by decide +kernel
theorem dX8_settle_31 : decode cX8_settle 31 = .ok (.getfield 12, 3) := by decide +kernel
theorem dX8_settle_34 : decode cX8_settle 34 = .ok (.getfield 79, 3) := by decide +kernel
theorem dX8_settle_37 : decode cX8_settle 37 = .ok (.iload_n 1, 1) := by decide +kernel
theorem dX8_settle_38 : decode cX8_settle 38 = .ok (.iaload, 1) := by decide +kernel
theorem dX8_settle_39 : decode cX8_settle 39 = .ok (.iconst 1, 1) := by decide +kernel
theorem dX8_settle_40 : decode cX8_settle 40 = .ok (.isub, 1) := by decide +kernel
theorem dX8_settle_41 : decode cX8_settle 41 = .ok (.istore 4, 2) := by decide +kernel
theorem dX8_settle_43 : decode cX8_settle 43 = .ok (.iload_n 3, 1) := by decide +kernel
theorem dX8_settle_44 : decode cX8_settle 44 = .ok (.ifCond .lt 8, 3) := by decide +kernel
theorem dX8_settle_47 : decode cX8_settle 47 = .ok (.iload 4, 2) := by decide +kernel
theorem dX8_settle_49 : decode cX8_settle 49 = .ok (.ifCond .ne 6, 3) := by decide +kernel
theorem dX8_settle_52 : decode cX8_settle 52 = .ok (.bipush (-2), 2) := by decide +kernel
theorem dX8_settle_54 : decode cX8_settle 54 = .ok (.ireturn, 1) := by decide +kernel
theorem dX8_settle_55 : decode cX8_settle 55 = .ok (.aload_n 0, 1) := by decide +kernel
theorem dX8_settle_56 : decode cX8_settle 56 = .ok (.invokevirtual 128, 3) := by decide +kernel
theorem dX8_settle_59 : decode cX8_settle 59 = .ok (.aload_n 0, 1) := by decide +kernel
theorem dX8_settle_60 : decode cX8_settle 60 = .ok (.getfield 12, 3) := by decide +kernel
theorem dX8_settle_63 : decode cX8_settle 63 = .ok (.iload_n 1, 1) := by decide +kernel
theorem dX8_settle_64 : decode cX8_settle 64 = .ok (.iload_n 3, 1) := by decide +kernel
theorem dX8_settle_65 : decode cX8_settle 65 = .ok (.invokevirtual 147, 3) := by decide +kernel
theorem dX8_settle_68 : decode cX8_settle 68 = .ok (.iload 4, 2) := by decide +kernel
theorem dX8_settle_70 : decode cX8_settle 70 = .ok (.ireturn, 1) := by decide +kernel
theorem dX8_check_0 : decode cX8_check 0 = .ok (.iload_n 1, 1) := by decide +kernel
theorem dX8_check_1 : decode cX8_check 1 = .ok (.ifCond .lt 8, 3) := by decide +kernel
theorem dX8_check_4 : decode cX8_check 4 = .ok (.iload_n 1, 1) := by decide +kernel
theorem dX8_check_5 : decode cX8_check 5 = .ok (.iconst 5, 1) := by decide +kernel
theorem dX8_check_6 : decode cX8_check 6 = .ok (.if_icmp .lt 5, 3) := by decide +kernel
theorem dX8_check_9 : decode cX8_check 9 = .ok (.iconst (-1), 1) := by decide +kernel
theorem dX8_check_10 : decode cX8_check 10 = .ok (.ireturn, 1) := by decide +kernel
theorem dX8_check_11 : decode cX8_check 11 = .ok (.aload_n 0, 1) := by decide +kernel
theorem dX8_check_12 : decode cX8_check 12 = .ok (.getfield 12, 3) := by decide +kernel
theorem dX8_check_15 : decode cX8_check 15 = .ok (.getfield 92, 3) := by decide +kernel
theorem dX8_check_18 : decode cX8_check 18 = .ok (.istore_n 2, 1) := by decide +kernel
theorem dX8_check_19 : decode cX8_check 19 = .ok (.iload_n 2, 1) := by decide +kernel
theorem dX8_check_20 : decode cX8_check 20 = .ok (.iload_n 1, 1) := by decide +kernel
theorem dX8_check_21 : decode cX8_check 21 = .ok (.if_icmp .ne 6, 3) := by decide +kernel
theorem dX8_check_24 : decode cX8_check 24 = .ok (.bipush (-2), 2) := by decide +kernel
theorem dX8_check_26 : decode cX8_check 26 = .ok (.ireturn, 1) := by decide +kernel
theorem dX8_check_27 : decode cX8_check 27 = .ok (.aload_n 0, 1) := by decide +kernel
theorem dX8_check_28 : decode cX8_check 28 = .ok (.invokevirtual 128, 3) := by decide +kernel
theorem dX8_check_31 : decode cX8_check 31 = .ok (.aload_n 0, 1) := by decide +kernel
theorem dX8_check_32 : decode cX8_check 32 = .ok (.getfield 12, 3) := by decide +kernel
theorem dX8_check_35 : decode cX8_check 35 = .ok (.iload_n 1, 1) := by decide +kernel
theorem dX8_check_36 : decode cX8_check 36 = .ok (.putfield 92, 3) := by decide +kernel
theorem dX8_check_39 : decode cX8_check 39 = .ok (.iload_n 2, 1) := by decide +kernel
theorem dX8_check_40 : decode cX8_check 40 = .ok (.ireturn, 1) := by decide +kernel
theorem dX8_slack_0 : decode cX8_slack 0 = .ok (.iload_n 1, 1) := by decide +kernel
theorem dX8_slack_1 : decode cX8_slack 1 = .ok (.ifCond .lt 9, 3) := by decide +kernel
theorem dX8_slack_4 : decode cX8_slack 4 = .ok (.iload_n 1, 1) := by decide +kernel
theorem dX8_slack_5 : decode cX8_slack 5 = .ok (.bipush 20, 2) := by decide +kernel
theorem dX8_slack_7 : decode cX8_slack 7 = .ok (.if_icmp .le 5, 3) := by decide +kernel
theorem dX8_slack_10 : decode cX8_slack 10 = .ok (.iconst (-1), 1) := by decide +kernel
theorem dX8_slack_11 : decode cX8_slack 11 = .ok (.ireturn, 1) := by decide +kernel
theorem dX8_slack_12 : decode cX8_slack 12 = .ok (.aload_n 0, 1) := by decide +kernel
theorem dX8_slack_13 : decode cX8_slack 13 = .ok (.getfield 12, 3) := by decide +kernel
theorem dX8_slack_16 : decode cX8_slack 16 = .ok (.getfield 95, 3) := by decide +kernel
theorem dX8_slack_19 : decode cX8_slack 19 = .ok (.istore_n 2, 1) := by decide +kernel
theorem dX8_slack_20 : decode cX8_slack 20 = .ok (.iload_n 2, 1) := by decide +kernel
theorem dX8_slack_21 : decode cX8_slack 21 = .ok (.iload_n 1, 1) := by decide +kernel
theorem dX8_slack_22 : decode cX8_slack 22 = .ok (.if_icmp .ne 6, 3) := by decide +kernel
theorem dX8_slack_25 : decode cX8_slack 25 = .ok (.bipush (-2), 2) := by decide +kernel
theorem dX8_slack_27 : decode cX8_slack 27 = .ok (.ireturn, 1) := by decide +kernel
theorem dX8_slack_28 : decode cX8_slack 28 = .ok (.aload_n 0, 1) := by decide +kernel
theorem dX8_slack_29 : decode cX8_slack 29 = .ok (.invokevirtual 128, 3) := by decide +kernel
theorem dX8_slack_32 : decode cX8_slack 32 = .ok (.aload_n 0, 1) := by decide +kernel
theorem dX8_slack_33 : decode cX8_slack 33 = .ok (.getfield 12, 3) := by decide +kernel
theorem dX8_slack_36 : decode cX8_slack 36 = .ok (.iload_n 1, 1) := by decide +kernel
theorem dX8_slack_37 : decode cX8_slack 37 = .ok (.putfield 95, 3) := by decide +kernel
theorem dX8_slack_40 : decode cX8_slack 40 = .ok (.iload_n 2, 1) := by decide +kernel
theorem dX8_slack_41 : decode cX8_slack 41 = .ok (.ireturn, 1) := by decide +kernel
theorem dX8_storm_0 : decode cX8_storm 0 = .ok (.iload_n 1, 1) := by decide +kernel
theorem dX8_storm_1 : decode cX8_storm 1 = .ok (.iconst 1, 1) := by decide +kernel
theorem dX8_storm_2 : decode cX8_storm 2 = .ok (.if_icmp .lt 9, 3) := by decide +kernel
theorem dX8_storm_5 : decode cX8_storm 5 = .ok (.iload_n 1, 1) := by decide +kernel
theorem dX8_storm_6 : decode cX8_storm 6 = .ok (.bipush 40, 2) := by decide +kernel
theorem dX8_storm_8 : decode cX8_storm 8 = .ok (.if_icmp .le 5, 3) := by decide +kernel
theorem dX8_storm_11 : decode cX8_storm 11 = .ok (.iconst (-1), 1) := by decide +kernel
theorem dX8_storm_12 : decode cX8_storm 12 = .ok (.ireturn, 1) := by decide +kernel
theorem dX8_storm_13 : decode cX8_storm 13 = .ok (.iconst 0, 1) := by decide +kernel
theorem dX8_storm_14 : decode cX8_storm 14 = .ok (.istore_n 2, 1) := by decide +kernel
theorem dX8_storm_15 : decode cX8_storm 15 = .ok (.iload_n 2, 1) := by decide +kernel
theorem dX8_storm_16 : decode cX8_storm 16 = .ok (.iload_n 1, 1) := by decide +kernel
theorem dX8_storm_17 : decode cX8_storm 17 = .ok (.if_icmp .ge 20, 3) := by decide +kernel
theorem dX8_storm_20 : decode cX8_storm 20 = .ok (.aload_n 0, 1) := by decide +kernel
theorem dX8_storm_21 : decode cX8_storm 21 = .ok (.invokevirtual 128, 3) := by decide +kernel
theorem dX8_storm_24 : decode cX8_storm 24 = .ok (.aload_n 0, 1) := by decide +kernel
theorem dX8_storm_25 : decode cX8_storm 25 = .ok (.getfield 12, 3) := by decide +kernel
theorem dX8_storm_28 : decode cX8_storm 28 = .ok (.invokevirtual 151, 3) := by decide +kernel
theorem dX8_storm_31 : decode cX8_storm 31 = .ok (.iinc 2 1, 3) := by decide +kernel
theorem dX8_storm_34 : decode cX8_storm 34 = .ok (.goto (-19), 3) := by decide +kernel
theorem dX8_storm_37 : decode cX8_storm 37 = .ok (.aload_n 0, 1) := by decide +kernel
theorem dX8_storm_38 : decode cX8_storm 38 = .ok (.getfield 12, 3) := by decide +kernel
theorem dX8_storm_41 : decode cX8_storm 41 = .ok (.invokevirtual 154, 3) := by decide +kernel
theorem dX8_storm_44 : decode cX8_storm 44 = .ok (.ireturn, 1) := by decide +kernel
theorem dX8_undo_0 : decode cX8_undo 0 = .ok (.aload_n 0, 1) := by decide +kernel
theorem dX8_undo_1 : decode cX8_undo 1 = .ok (.getfield 22, 3) := by decide +kernel
theorem dX8_undo_4 : decode cX8_undo 4 = .ok (.getfield 119, 3) := by decide +kernel
theorem dX8_undo_7 : decode cX8_undo 7 = .ok (.ifCond .ne 6, 3) := by decide +kernel
theorem dX8_undo_10 : decode cX8_undo 10 = .ok (.bipush (-4), 2) := by decide +kernel
theorem dX8_undo_12 : decode cX8_undo 12 = .ok (.ireturn, 1) := by decide +kernel
theorem dX8_undo_13 : decode cX8_undo 13 = .ok (.aload_n 0, 1) := by decide +kernel
theorem dX8_undo_14 : decode cX8_undo 14 = .ok (.getfield 22, 3) := by decide +kernel
theorem dX8_undo_17 : decode cX8_undo 17 = .ok (.aload_n 0, 1) := by decide +kernel
theorem dX8_undo_18 : decode cX8_undo 18 = .ok (.getfield 12, 3) := by decide +kernel
theorem dX8_undo_21 : decode cX8_undo 21 = .ok (.invokevirtual 157, 3) := by decide +kernel
theorem dX8_undo_24 : decode cX8_undo 24 = .ok (.aload_n 0, 1) := by decide +kernel
theorem dX8_undo_25 : decode cX8_undo 25 = .ok (.getfield 44, 3) := by decide +kernel
theorem dX8_undo_28 : decode cX8_undo 28 = .ok (.invokevirtual 160, 3) := by decide +kernel
theorem dX8_undo_31 : decode cX8_undo 31 = .ok (.aload_n 0, 1) := by decide +kernel
theorem dX8_undo_32 : decode cX8_undo 32 = .ok (.getfield 22, 3) := by decide +kernel
theorem dX8_undo_35 : decode cX8_undo 35 = .ok (.getfield 119, 3) := by decide +kernel
theorem dX8_undo_38 : decode cX8_undo 38 = .ok (.ireturn, 1) := by decide +kernel
theorem dX8_seed_0 : decode cX8_seed 0 = .ok (.iload_n 1, 1) := by decide +kernel
theorem dX8_seed_1 : decode cX8_seed 1 = .ok (.ifCond .ge 5, 3) := by decide +kernel
theorem dX8_seed_4 : decode cX8_seed 4 = .ok (.iconst (-1), 1) := by decide +kernel
theorem dX8_seed_5 : decode cX8_seed 5 = .ok (.ireturn, 1) := by decide +kernel
theorem dX8_seed_6 : decode cX8_seed 6 = .ok (.aload_n 0, 1) := by decide +kernel
theorem dX8_seed_7 : decode cX8_seed 7 = .ok (.getfield 12, 3) := by decide +kernel
theorem dX8_seed_10 : decode cX8_seed 10 = .ok (.getfield 163, 3) := by decide +kernel
theorem dX8_seed_13 : decode cX8_seed 13 = .ok (.istore_n 2, 1) := by decide +kernel
theorem dX8_seed_14 : decode cX8_seed 14 = .ok (.aload_n 0, 1) := by decide +kernel
theorem dX8_seed_15 : decode cX8_seed 15 = .ok (.getfield 12, 3) := by decide +kernel
theorem dX8_seed_18 : decode cX8_seed 18 = .ok (.iload_n 1, 1) := by decide +kernel
theorem dX8_seed_19 : decode cX8_seed 19 = .ok (.putfield 163, 3) := by decide +kernel
theorem dX8_seed_22 : decode cX8_seed 22 = .ok (.iload_n 2, 1) := by decide +kernel
theorem dX8_seed_23 : decode cX8_seed 23 = .ok (.ireturn, 1) := by decide +kernel
theorem dX8_best_0 : decode cX8_best 0 = .ok (.iload_n 1, 1) := by decide +kernel
theorem dX8_best_1 : decode cX8_best 1 = .ok (.bipush (-2), 2) := by decide +kernel
theorem dX8_best_3 : decode cX8_best 3 = .ok (.if_icmp .ge 7, 3) := by decide +kernel
theorem dX8_best_6 : decode cX8_best 6 = .ok (.iconst (-1), 1) := by decide +kernel
theorem dX8_best_7 : decode cX8_best 7 = .ok (.goto 11, 3) := by decide +kernel
theorem dX8_best_10 : decode cX8_best 10 = .ok (.aload_n 0, 1) := by decide +kernel
theorem dX8_best_11 : decode cX8_best 11 = .ok (.getfield 44, 3) := by decide +kernel
theorem dX8_best_14 : decode cX8_best 14 = .ok (.iload_n 1, 1) := by decide +kernel
theorem dX8_best_15 : decode cX8_best 15 = .ok (.invokevirtual 166, 3) := by decide +kernel
theorem dX8_best_18 : decode cX8_best 18 = .ok (.ireturn, 1) := by decide +kernel
theorem dX8_taken_0 : decode cX8_taken 0 = .ok (.aload_n 0, 1) := by decide +kernel
theorem dX8_taken_1 : decode cX8_taken 1 = .ok (.getfield 12, 3) := by decide +kernel
theorem dX8_taken_4 : decode cX8_taken 4 = .ok (.iload_n 1, 1) := by decide +kernel
theorem dX8_taken_5 : decode cX8_taken 5 = .ok (.invokevirtual 76, 3) := by decide +kernel
theorem dX8_taken_8 : decode cX8_taken 8 = .ok (.ifCond .eq 14, 3) := by decide +kernel
theorem dX8_taken_11 : decode cX8_taken 11 = .ok (.aload_n 0, 1) := by decide +kernel
theorem dX8_taken_12 : decode cX8_taken 12 = .ok (.getfield 44, 3) := by decide +kernel
theorem dX8_taken_15 : decode cX8_taken 15 = .ok (.iload_n 1, 1) := by decide +kernel
theorem dX8_taken_16 : decode cX8_taken 16 = .ok (.invokevirtual 170, 3) := by decide +kernel
theorem dX8_taken_19 : decode cX8_taken 19 = .ok (.goto 4, 3) := by decide +kernel
theorem dX8_taken_22 : decode cX8_taken 22 = .ok (.iconst (-1), 1) := by decide +kernel
theorem dX8_taken_23 : decode cX8_taken 23 = .ok (.ireturn, 1) := by decide +kernel
theorem dX8_open_0 : decode cX8_open 0 = .ok (.aload_n 0, 1) := by decide +kernel
theorem dX8_open_1 : decode cX8_open 1 = .ok (.getfield 12, 3) := by decide +kernel
theorem dX8_open_4 : decode cX8_open 4 = .ok (.iload_n 1, 1) := by decide +kernel
theorem dX8_open_5 : decode cX8_open 5 = .ok (.invokevirtual 76, 3) := by decide +kernel
theorem dX8_open_8 : decode cX8_open 8 = .ok (.ifCond .eq 14, 3) := by decide +kernel
theorem dX8_open_11 : decode cX8_open 11 = .ok (.aload_n 0, 1) := by decide +kernel
theorem dX8_open_12 : decode cX8_open 12 = .ok (.getfield 44, 3) := by decide +kernel
theorem dX8_open_15 : decode cX8_open 15 = .ok (.iload_n 1, 1) := by decide +kernel
theorem dX8_open_16 : decode cX8_open 16 = .ok (.invokevirtual 173, 3) := by decide +kernel
theorem dX8_open_19 : decode cX8_open 19 = .ok (.goto 6, 3) := by decide +kernel
theorem dX8_open_22 : decode cX8_open 22 = .ok (.ldc2_w 177, 3) := by decide +kernel
theorem dX8_open_25 : decode cX8_open 25 = .ok (.lreturn, 1) := by decide +kernel
theorem dX8_counted_0 : decode cX8_counted 0 = .ok (.iload_n 1, 1) := by decide +kernel
theorem dX8_counted_1 : decode cX8_counted 1 = .ok (.ifCond .lt 12, 3) := by decide +kernel
theorem dX8_counted_4 : decode cX8_counted 4 = .ok (.iload_n 2, 1) := by decide +kernel
theorem dX8_counted_5 : decode cX8_counted 5 = .ok (.ifCond .lt 8, 3) := by decide +kernel
theorem dX8_counted_8 : decode cX8_counted 8 = .ok (.iload_n 2, 1) := by decide +kernel
theorem dX8_counted_9 : decode cX8_counted 9 = .ok (.iconst 1, 1) := by decide +kernel
theorem dX8_counted_10 : decode cX8_counted 10 = .ok (.if_icmp .le 7, 3) := by decide +kernel
theorem dX8_counted_13 : decode cX8_counted 13 = .ok (.iconst (-1), 1) := by decide +kernel
theorem dX8_counted_14 : decode cX8_counted 14 = .ok (.goto 21, 3) := by decide +kernel
theorem dX8_counted_17 : decode cX8_counted 17 = .ok (.aload_n 0, 1) := by decide +kernel
theorem dX8_counted_18 : decode cX8_counted 18 = .ok (.getfield 44, 3) := by decide +kernel
theorem dX8_counted_21 : decode cX8_counted 21 = .ok (.iload_n 1, 1) := by decide +kernel
theorem dX8_counted_22 : decode cX8_counted 22 = .ok (.iload_n 2, 1) := by decide +kernel
theorem dX8_counted_23 : decode cX8_counted 23 = .ok (.iconst 1, 1) := by decide +kernel
theorem dX8_counted_24 : decode cX8_counted 24 = .ok (.if_icmp .ne 7, 3) := by decide +kernel
theorem dX8_counted_27 : decode cX8_counted 27 = .ok (.iconst 1, 1) := by decide +kernel
theorem dX8_counted_28 : decode cX8_counted 28 = .ok (.goto 4, 3) := by decide +kernel
theorem dX8_counted_31 : decode cX8_counted 31 = .ok (.iconst 0, 1) := by decide +kernel
theorem dX8_counted_32 : decode cX8_counted 32 = .ok (.invokevirtual 179, 3) := by decide +kernel
theorem dX8_counted_35 : decode cX8_counted 35 = .ok (.ireturn, 1) := by decide +kernel
theorem dX8_likely_0 : decode cX8_likely 0 = .ok (.iload_n 1, 1) := by decide +kernel
theorem dX8_likely_1 : decode cX8_likely 1 = .ok (.ifCond .lt 18, 3) := by decide +kernel
theorem dX8_likely_4 : decode cX8_likely 4 = .ok (.iload_n 1, 1) := by decide +kernel
theorem dX8_likely_5 : decode cX8_likely 5 = .ok (.ldc 71, 2) := by decide +kernel
theorem dX8_likely_7 : decode cX8_likely 7 = .ok (.if_icmp .gt 12, 3) := by decide +kernel
theorem dX8_likely_10 : decode cX8_likely 10 = .ok (.iload_n 2, 1) := by decide +kernel
theorem dX8_likely_11 : decode cX8_likely 11 = .ok (.ifCond .lt 8, 3) := by decide +kernel
theorem dX8_likely_14 : decode cX8_likely 14 = .ok (.iload_n 2, 1) := by decide +kernel
theorem dX8_likely_15 : decode cX8_likely 15 = .ok (.iconst 1, 1) := by decide +kernel
theorem dX8_likely_16 : decode cX8_likely 16 = .ok (.if_icmp .le 9, 3) := by decide +kernel
theorem dX8_likely_19 : decode cX8_likely 19 = .ok (.ldc2_w 177, 3) := by decide +kernel
theorem dX8_likely_22 : decode cX8_likely 22 = .ok (.goto 21, 3) := by decide +kernel
theorem dX8_likely_25 : decode cX8_likely 25 = .ok (.aload_n 0, 1) := by decide +kernel
theorem dX8_likely_26 : decode cX8_likely 26 = .ok (.getfield 44, 3) := by decide +kernel
theorem dX8_likely_29 : decode cX8_likely 29 = .ok (.iload_n 1, 1) := by decide +kernel
theorem dX8_likely_30 : decode cX8_likely 30 = .ok (.iload_n 2, 1) := by decide +kernel
theorem dX8_likely_31 : decode cX8_likely 31 = .ok (.iconst 1, 1) := by decide +kernel
theorem dX8_likely_32 : decode cX8_likely 32 = .ok (.if_icmp .ne 7, 3) := by decide +kernel
theorem dX8_likely_35 : decode cX8_likely 35 = .ok (.iconst 1, 1) := by decide +kernel
theorem dX8_likely_36 : decode cX8_likely 36 = .ok (.goto 4, 3) := by decide +kernel
theorem dX8_likely_39 : decode cX8_likely 39 = .ok (.iconst 0, 1) := by decide +kernel
theorem dX8_likely_40 : decode cX8_likely 40 = .ok (.invokevirtual 183, 3) := by decide +kernel
theorem dX8_likely_43 : decode cX8_likely 43 = .ok (.lreturn, 1) := by decide +kernel
theorem dX8_image_0 : decode cX8_image 0 = .ok (.aload_n 0, 1) := by decide +kernel
theorem dX8_image_1 : decode cX8_image 1 = .ok (.getfield 26, 3) := by decide +kernel
theorem dX8_image_4 : decode cX8_image 4 = .ok (.aload_n 0, 1) := by decide +kernel
theorem dX8_image_5 : decode cX8_image 5 = .ok (.getfield 12, 3) := by decide +kernel
theorem dX8_image_8 : decode cX8_image 8 = .ok (.invokevirtual 187, 3) := by decide +kernel
theorem dX8_image_11 : decode cX8_image 11 = .ok (.aload_n 0, 1) := by decide +kernel
theorem dX8_image_12 : decode cX8_image 12 = .ok (.getfield 29, 3) := by decide +kernel
theorem dX8_image_15 : decode cX8_image 15 = .ok (.aload_n 0, 1) := by decide +kernel
theorem dX8_image_16 : decode cX8_image 16 = .ok (.getfield 22, 3) := by decide +kernel
theorem dX8_image_19 : decode cX8_image 19 = .ok (.invokevirtual 190, 3) := by decide +kernel
theorem dX8_image_22 : decode cX8_image 22 = .ok (.aload_n 0, 1) := by decide +kernel
theorem dX8_image_23 : decode cX8_image 23 = .ok (.iconst 1, 1) := by decide +kernel
theorem dX8_image_24 : decode cX8_image 24 = .ok (.putfield 193, 3) := by decide +kernel
theorem dX8_image_27 : decode cX8_image 27 = .ok (.iconst 1, 1) := by decide +kernel
theorem dX8_image_28 : decode cX8_image 28 = .ok (.ireturn, 1) := by decide +kernel
theorem dX8_restore_0 : decode cX8_restore 0 = .ok (.aload_n 0, 1) := by decide +kernel
theorem dX8_restore_1 : decode cX8_restore 1 = .ok (.getfield 193, 3) := by decide +kernel
theorem dX8_restore_4 : decode cX8_restore 4 = .ok (.ifCond .ne 6, 3) := by decide +kernel
theorem dX8_restore_7 : decode cX8_restore 7 = .ok (.bipush (-4), 2) := by decide +kernel
theorem dX8_restore_9 : decode cX8_restore 9 = .ok (.ireturn, 1) := by decide +kernel
theorem dX8_restore_10 : decode cX8_restore 10 = .ok (.aload_n 0, 1) := by decide +kernel
theorem dX8_restore_11 : decode cX8_restore 11 = .ok (.getfield 12, 3) := by decide +kernel
theorem dX8_restore_14 : decode cX8_restore 14 = .ok (.aload_n 0, 1) := by decide +kernel
theorem dX8_restore_15 : decode cX8_restore 15 = .ok (.getfield 26, 3) := by decide +kernel
theorem dX8_restore_18 : decode cX8_restore 18 = .ok (.invokevirtual 187, 3) := by decide +kernel
theorem dX8_restore_21 : decode cX8_restore 21 = .ok (.aload_n 0, 1) := by decide +kernel
theorem dX8_restore_22 : decode cX8_restore 22 = .ok (.getfield 22, 3) := by decide +kernel
theorem dX8_restore_25 : decode cX8_restore 25 = .ok (.aload_n 0, 1) := by decide +kernel
theorem dX8_restore_26 : decode cX8_restore 26 = .ok (.getfield 29, 3) := by decide +kernel
theorem dX8_restore_29 : decode cX8_restore 29 = .ok (.invokevirtual 190, 3) := by decide +kernel
theorem dX8_restore_32 : decode cX8_restore 32 = .ok (.aload_n 0, 1) := by decide +kernel
theorem dX8_restore_33 : decode cX8_restore 33 = .ok (.getfield 44, 3) := by decide +kernel
theorem dX8_restore_36 : decode cX8_restore 36 = .ok (.invokevirtual 160, 3) := by decide +kernel
theorem dX8_restore_39 : decode cX8_restore 39 = .ok (.iconst 1, 1) := by decide +kernel
theorem dX8_restore_40 : decode cX8_restore 40 = .ok (.ireturn, 1) := by decide +kernel
theorem dX8_meant_0 : decode cX8_meant 0 = .ok (.iload_n 1, 1) := by decide +kernel
theorem dX8_meant_1 : decode cX8_meant 1 = .ok (.invokestatic 197, 3) := by decide +kernel
theorem dX8_meant_4 : decode cX8_meant 4 = .ok (.ifCond .eq 23, 3) := by decide +kernel
theorem dX8_meant_7 : decode cX8_meant 7 = .ok (.iload_n 2, 1) := by decide +kernel
theorem dX8_meant_8 : decode cX8_meant 8 = .ok (.invokestatic 200, 3) := by decide +kernel
theorem dX8_meant_11 : decode cX8_meant 11 = .ok (.ifCond .eq 16, 3) := by decide +kernel
theorem dX8_meant_14 : decode cX8_meant 14 = .ok (.iload 4, 2) := by decide +kernel
theorem dX8_meant_16 : decode cX8_meant 16 = .ok (.iconst 1, 1) := by decide +kernel
theorem dX8_meant_17 : decode cX8_meant 17 = .ok (.if_icmp .lt 10, 3) := by decide +kernel
theorem dX8_meant_20 : decode cX8_meant 20 = .ok (.iload 4, 2) := by decide +kernel
theorem dX8_meant_22 : decode cX8_meant 22 = .ok (.bipush 6, 2) := by decide +kernel
theorem dX8_meant_24 : decode cX8_meant 24 = .ok (.if_icmp .le 5, 3) := by decide +kernel
theorem dX8_meant_27 : decode cX8_meant 27 = .ok (.iconst (-1), 1) := by decide +kernel
theorem dX8_meant_28 : decode cX8_meant 28 = .ok (.ireturn, 1) := by decide +kernel
theorem dX8_meant_29 : decode cX8_meant 29 = .ok (.aload_n 0, 1) := by decide +kernel
theorem dX8_meant_30 : decode cX8_meant 30 = .ok (.getfield 50, 3) := by decide +kernel
theorem dX8_meant_33 : decode cX8_meant 33 = .ok (.iload_n 1, 1) := by decide +kernel
theorem dX8_meant_34 : decode cX8_meant 34 = .ok (.aaload, 1) := by decide +kernel
theorem dX8_meant_35 : decode cX8_meant 35 = .ok (.astore 5, 2) := by decide +kernel
theorem dX8_meant_37 : decode cX8_meant 37 = .ok (.aload 5, 2) := by decide +kernel
theorem dX8_meant_39 : decode cX8_meant 39 = .ok (.iload_n 2, 1) := by decide +kernel
theorem dX8_meant_40 : decode cX8_meant 40 = .ok (.iload_n 3, 1) := by decide +kernel
theorem dX8_meant_41 : decode cX8_meant 41 = .ok (.iload 4, 2) := by decide +kernel
theorem dX8_meant_43 : decode cX8_meant 43 = .ok (.invokevirtual 203, 3) := by decide +kernel
theorem dX8_meant_46 : decode cX8_meant 46 = .ok (.istore 6, 2) := by decide +kernel
theorem dX8_meant_48 : decode cX8_meant 48 = .ok (.iload 6, 2) := by decide +kernel
theorem dX8_meant_50 : decode cX8_meant 50 = .ok (.ifCond .eq 8, 3) := by decide +kernel
theorem dX8_meant_53 : decode cX8_meant 53 = .ok (.iload 6, 2) := by decide +kernel
theorem dX8_meant_55 : decode cX8_meant 55 = .ok (.goto 15, 3) := by decide +kernel
theorem dX8_meant_58 : decode cX8_meant 58 = .ok (.aload_n 0, 1) := by decide +kernel
theorem dX8_meant_59 : decode cX8_meant 59 = .ok (.getfield 44, 3) := by decide +kernel
theorem dX8_meant_62 : decode cX8_meant 62 = .ok (.aload 5, 2) := by decide +kernel
theorem dX8_meant_64 : decode cX8_meant 64 = .ok (.iload_n 3, 1) := by decide +kernel
theorem dX8_meant_65 : decode cX8_meant 65 = .ok (.iload 4, 2) := by decide +kernel
theorem dX8_meant_67 : decode cX8_meant 67 = .ok (.invokevirtual 207, 3) := by decide +kernel
theorem dX8_meant_70 : decode cX8_meant 70 = .ok (.ireturn, 1) := by decide +kernel
theorem dX8_film_0 : decode cX8_film 0 = .ok (.iload_n 1, 1) := by decide +kernel
theorem dX8_film_1 : decode cX8_film 1 = .ok (.invokestatic 197, 3) := by decide +kernel
theorem dX8_film_4 : decode cX8_film 4 = .ok (.ifCond .eq 10, 3) := by decide +kernel
theorem dX8_film_7 : decode cX8_film 7 = .ok (.iload_n 2, 1) := by decide +kernel
theorem dX8_film_8 : decode cX8_film 8 = .ok (.invokestatic 200, 3) := by decide +kernel
theorem dX8_film_11 : decode cX8_film 11 = .ok (.ifCond .ne 5, 3) := by decide +kernel
theorem dX8_film_14 : decode cX8_film 14 = .ok (.iconst (-1), 1) := by decide +kernel
theorem dX8_film_15 : decode cX8_film 15 = .ok (.ireturn, 1) := by decide +kernel
theorem dX8_film_16 : decode cX8_film 16 = .ok (.aload_n 0, 1) := by decide +kernel
theorem dX8_film_17 : decode cX8_film 17 = .ok (.getfield 44, 3) := by decide +kernel
theorem dX8_film_20 : decode cX8_film 20 = .ok (.bipush (-2), 2) := by decide +kernel
theorem dX8_film_22 : decode cX8_film 22 = .ok (.invokevirtual 166, 3) := by decide +kernel
theorem dX8_film_25 : decode cX8_film 25 = .ok (.istore 4, 2) := by decide +kernel
theorem dX8_film_27 : decode cX8_film 27 = .ok (.iload 4, 2) := by decide +kernel
theorem dX8_film_29 : decode cX8_film 29 = .ok (.ifCond .ge 6, 3) := by decide +kernel
theorem dX8_film_32 : decode cX8_film 32 = .ok (.bipush (-4), 2) := by decide +kernel
theorem dX8_film_34 : decode cX8_film 34 = .ok (.ireturn, 1) := by decide +kernel
theorem dX8_film_35 : decode cX8_film 35 = .ok (.aload_n 0, 1) := by decide +kernel
theorem dX8_film_36 : decode cX8_film 36 = .ok (.getfield 50, 3) := by decide +kernel
theorem dX8_film_39 : decode cX8_film 39 = .ok (.iload_n 1, 1) := by decide +kernel
theorem dX8_film_40 : decode cX8_film 40 = .ok (.aaload, 1) := by decide +kernel
theorem dX8_film_41 : decode cX8_film 41 = .ok (.astore 5, 2) := by decide +kernel
theorem dX8_film_43 : decode cX8_film 43 = .ok (.aload 5, 2) := by decide +kernel
theorem dX8_film_45 : decode cX8_film 45 = .ok (.iload_n 2, 1) := by decide +kernel
theorem dX8_film_46 : decode cX8_film 46 = .ok (.iload_n 3, 1) := by decide +kernel
theorem dX8_film_47 : decode cX8_film 47 = .ok (.iload 4, 2) := by decide +kernel
theorem dX8_film_49 : decode cX8_film 49 = .ok (.invokevirtual 203, 3) := by decide +kernel
theorem dX8_film_52 : decode cX8_film 52 = .ok (.istore 6, 2) := by decide +kernel
theorem dX8_film_54 : decode cX8_film 54 = .ok (.iload 6, 2) := by decide +kernel
theorem dX8_film_56 : decode cX8_film 56 = .ok (.ifCond .eq 6, 3) := by decide +kernel
theorem dX8_film_59 : decode cX8_film 59 = .ok (.iload 6, 2) := by decide +kernel
theorem dX8_film_61 : decode cX8_film 61 = .ok (.ireturn, 1) := by decide +kernel
theorem dX8_film_62 : decode cX8_film 62 = .ok (.iconst 0, 1) := by decide +kernel
theorem dX8_film_63 : decode cX8_film 63 = .ok (.istore 7, 2) := by decide +kernel
theorem dX8_film_65 : decode cX8_film 65 = .ok (.iload 7, 2) := by decide +kernel
theorem dX8_film_67 : decode cX8_film 67 = .ok (.iload 4, 2) := by decide +kernel
theorem dX8_film_69 : decode cX8_film 69 = .ok (.if_icmp .ge 28, 3) := by decide +kernel
theorem dX8_film_72 : decode cX8_film 72 = .ok (.aload 5, 2) := by decide +kernel
theorem dX8_film_74 : decode cX8_film 74 = .ok (.iload_n 3, 1) := by decide +kernel
theorem dX8_film_75 : decode cX8_film 75 = .ok (.iload 7, 2) := by decide +kernel
theorem dX8_film_77 : decode cX8_film 77 = .ok (.iadd, 1) := by decide +kernel
theorem dX8_film_78 : decode cX8_film 78 = .ok (.aload_n 0, 1) := by decide +kernel
theorem dX8_film_79 : decode cX8_film 79 = .ok (.getfield 44, 3) := by decide +kernel
theorem dX8_film_82 : decode cX8_film 82 = .ok (.iload 7, 2) := by decide +kernel
theorem dX8_film_84 : decode cX8_film 84 = .ok (.invokevirtual 166, 3) := by decide +kernel
theorem dX8_film_87 : decode cX8_film 87 = .ok (.i2l, 1) := by decide +kernel
theorem dX8_film_88 : decode cX8_film 88 = .ok (.invokevirtual 211, 3) := by decide +kernel
theorem dX8_film_91 : decode cX8_film 91 = .ok (.iinc 7 1, 3) := by decide +kernel
theorem dX8_film_94 : decode cX8_film 94 = .ok (.goto (-29), 3) := by decide +kernel
theorem dX8_film_97 : decode cX8_film 97 = .ok (.iload 4, 2) := by decide +kernel
theorem dX8_film_99 : decode cX8_film 99 = .ok (.ireturn, 1) := by decide +kernel
theorem dX8_sheet_0 : decode cX8_sheet 0 = .ok (.iload_n 1, 1) := by decide +kernel
theorem dX8_sheet_1 : decode cX8_sheet 1 = .ok (.invokestatic 197, 3) := by decide +kernel
theorem dX8_sheet_4 : decode cX8_sheet 4 = .ok (.ifCond .eq 16, 3) := by decide +kernel
theorem dX8_sheet_7 : decode cX8_sheet 7 = .ok (.iload_n 2, 1) := by decide +kernel
theorem dX8_sheet_8 : decode cX8_sheet 8 = .ok (.invokestatic 200, 3) := by decide +kernel
theorem dX8_sheet_11 : decode cX8_sheet 11 = .ok (.ifCond .eq 9, 3) := by decide +kernel
theorem dX8_sheet_14 : decode cX8_sheet 14 = .ok (.iload_n 3, 1) := by decide +kernel
theorem dX8_sheet_15 : decode cX8_sheet 15 = .ok (.bipush 24, 2) := by decide +kernel
theorem dX8_sheet_17 : decode cX8_sheet 17 = .ok (.if_icmp .le 5, 3) := by decide +kernel
theorem dX8_sheet_20 : decode cX8_sheet 20 = .ok (.iconst (-1), 1) := by decide +kernel
theorem dX8_sheet_21 : decode cX8_sheet 21 = .ok (.ireturn, 1) := by decide +kernel
theorem dX8_sheet_22 : decode cX8_sheet 22 = .ok (.iload_n 3, 1) := by decide +kernel
theorem dX8_sheet_23 : decode cX8_sheet 23 = .ok (.ifCond .ge 6, 3) := by decide +kernel
theorem dX8_sheet_26 : decode cX8_sheet 26 = .ok (.bipush (-14), 2) := by decide +kernel
theorem dX8_sheet_28 : decode cX8_sheet 28 = .ok (.ireturn, 1) := by decide +kernel
theorem dX8_sheet_29 : decode cX8_sheet 29 = .ok (.aload_n 0, 1) := by decide +kernel
theorem dX8_sheet_30 : decode cX8_sheet 30 = .ok (.getfield 50, 3) := by decide +kernel
theorem dX8_sheet_33 : decode cX8_sheet 33 = .ok (.iload_n 1, 1) := by decide +kernel
theorem dX8_sheet_34 : decode cX8_sheet 34 = .ok (.aaload, 1) := by decide +kernel
theorem dX8_sheet_35 : decode cX8_sheet 35 = .ok (.iload_n 2, 1) := by decide +kernel
theorem dX8_sheet_36 : decode cX8_sheet 36 = .ok (.iload_n 3, 1) := by decide +kernel
theorem dX8_sheet_37 : decode cX8_sheet 37 = .ok (.invokevirtual 215, 3) := by decide +kernel
theorem dX8_sheet_40 : decode cX8_sheet 40 = .ok (.iload_n 3, 1) := by decide +kernel
theorem dX8_sheet_41 : decode cX8_sheet 41 = .ok (.ireturn, 1) := by decide +kernel
theorem dX8_drop_0 : decode cX8_drop 0 = .ok (.iload_n 1, 1) := by decide +kernel
theorem dX8_drop_1 : decode cX8_drop 1 = .ok (.invokestatic 197, 3) := by decide +kernel
theorem dX8_drop_4 : decode cX8_drop 4 = .ok (.ifCond .ne 5, 3) := by decide +kernel
theorem dX8_drop_7 : decode cX8_drop 7 = .ok (.iconst (-1), 1) := by decide +kernel
theorem dX8_drop_8 : decode cX8_drop 8 = .ok (.ireturn, 1) := by decide +kernel
theorem dX8_drop_9 : decode cX8_drop 9 = .ok (.aload_n 0, 1) := by decide +kernel
theorem dX8_drop_10 : decode cX8_drop 10 = .ok (.getfield 50, 3) := by decide +kernel
theorem dX8_drop_13 : decode cX8_drop 13 = .ok (.iload_n 1, 1) := by decide +kernel
theorem dX8_drop_14 : decode cX8_drop 14 = .ok (.aaload, 1) := by decide +kernel
theorem dX8_drop_15 : decode cX8_drop 15 = .ok (.astore_n 2, 1) := by decide +kernel
theorem dX8_drop_16 : decode cX8_drop 16 = .ok (.aload_n 2, 1) := by decide +kernel
theorem dX8_drop_17 : decode cX8_drop 17 = .ok (.getfield 218, 3) := by decide +kernel
theorem dX8_drop_20 : decode cX8_drop 20 = .ok (.ifCond .ge 6, 3) := by decide +kernel
theorem dX8_drop_23 : decode cX8_drop 23 = .ok (.bipush (-11), 2) := by decide +kernel
theorem dX8_drop_25 : decode cX8_drop 25 = .ok (.ireturn, 1) := by decide +kernel
theorem dX8_drop_26 : decode cX8_drop 26 = .ok (.aload_n 2, 1) := by decide +kernel
theorem dX8_drop_27 : decode cX8_drop 27 = .ok (.getfield 221, 3) := by decide +kernel
theorem dX8_drop_30 : decode cX8_drop 30 = .ok (.istore_n 3, 1) := by decide +kernel
theorem dX8_drop_31 : decode cX8_drop 31 = .ok (.aload_n 2, 1) := by decide +kernel
theorem dX8_drop_32 : decode cX8_drop 32 = .ok (.iconst (-1), 1) := by decide +kernel
theorem dX8_drop_33 : decode cX8_drop 33 = .ok (.iconst 0, 1) := by decide +kernel
theorem dX8_drop_34 : decode cX8_drop 34 = .ok (.invokevirtual 215, 3) := by decide +kernel
theorem dX8_drop_37 : decode cX8_drop 37 = .ok (.iload_n 3, 1) := by decide +kernel
theorem dX8_drop_38 : decode cX8_drop 38 = .ok (.ireturn, 1) := by decide +kernel
theorem dX8_item_0 : decode cX8_item 0 = .ok (.iload_n 1, 1) := by decide +kernel
theorem dX8_item_1 : decode cX8_item 1 = .ok (.invokestatic 197, 3) := by decide +kernel
theorem dX8_item_4 : decode cX8_item 4 = .ok (.ifCond .eq 10, 3) := by decide +kernel
theorem dX8_item_7 : decode cX8_item 7 = .ok (.iload_n 2, 1) := by decide +kernel
theorem dX8_item_8 : decode cX8_item 8 = .ok (.invokestatic 200, 3) := by decide +kernel
theorem dX8_item_11 : decode cX8_item 11 = .ok (.ifCond .ne 5, 3) := by decide +kernel
theorem dX8_item_14 : decode cX8_item 14 = .ok (.iconst (-1), 1) := by decide +kernel
theorem dX8_item_15 : decode cX8_item 15 = .ok (.ireturn, 1) := by decide +kernel
theorem dX8_item_16 : decode cX8_item 16 = .ok (.aload_n 0, 1) := by decide +kernel
theorem dX8_item_17 : decode cX8_item 17 = .ok (.getfield 50, 3) := by decide +kernel
theorem dX8_item_20 : decode cX8_item 20 = .ok (.iload_n 1, 1) := by decide +kernel
theorem dX8_item_21 : decode cX8_item 21 = .ok (.aaload, 1) := by decide +kernel
theorem dX8_item_22 : decode cX8_item 22 = .ok (.astore 6, 2) := by decide +kernel
theorem dX8_item_24 : decode cX8_item 24 = .ok (.aload 6, 2) := by decide +kernel
theorem dX8_item_26 : decode cX8_item 26 = .ok (.iload_n 2, 1) := by decide +kernel
theorem dX8_item_27 : decode cX8_item 27 = .ok (.iload_n 3, 1) := by decide +kernel
theorem dX8_item_28 : decode cX8_item 28 = .ok (.iconst 1, 1) := by decide +kernel
theorem dX8_item_29 : decode cX8_item 29 = .ok (.invokevirtual 203, 3) := by decide +kernel
theorem dX8_item_32 : decode cX8_item 32 = .ok (.istore 7, 2) := by decide +kernel
theorem dX8_item_34 : decode cX8_item 34 = .ok (.iload 7, 2) := by decide +kernel
theorem dX8_item_36 : decode cX8_item 36 = .ok (.ifCond .eq 6, 3) := by decide +kernel
theorem dX8_item_39 : decode cX8_item 39 = .ok (.iload 7, 2) := by decide +kernel
theorem dX8_item_41 : decode cX8_item 41 = .ok (.ireturn, 1) := by decide +kernel
theorem dX8_item_42 : decode cX8_item 42 = .ok (.aload 6, 2) := by decide +kernel
theorem dX8_item_44 : decode cX8_item 44 = .ok (.iload_n 3, 1) := by decide +kernel
theorem dX8_item_45 : decode cX8_item 45 = .ok (.lload 4, 2) := by decide +kernel
theorem dX8_item_47 : decode cX8_item 47 = .ok (.invokevirtual 211, 3) := by decide +kernel
theorem dX8_item_50 : decode cX8_item 50 = .ok (.iconst 1, 1) := by decide +kernel
theorem dX8_item_51 : decode cX8_item 51 = .ok (.ireturn, 1) := by decide +kernel
theorem dX8_copy_0 : decode cX8_copy 0 = .ok (.iload_n 1, 1) := by decide +kernel
theorem dX8_copy_1 : decode cX8_copy 1 = .ok (.invokestatic 197, 3) := by decide +kernel
theorem dX8_copy_4 : decode cX8_copy 4 = .ok (.ifCond .eq 10, 3) := by decide +kernel
theorem dX8_copy_7 : decode cX8_copy 7 = .ok (.iload_n 3, 1) := by decide +kernel
theorem dX8_copy_8 : decode cX8_copy 8 = .ok (.invokestatic 197, 3) := by decide +kernel
theorem dX8_copy_11 : decode cX8_copy 11 = .ok (.ifCond .ne 5, 3) := by decide +kernel
theorem dX8_copy_14 : decode cX8_copy 14 = .ok (.iconst (-1), 1) := by decide +kernel
theorem dX8_copy_15 : decode cX8_copy 15 = .ok (.ireturn, 1) := by decide +kernel
theorem dX8_copy_16 : decode cX8_copy 16 = .ok (.aload_n 0, 1) := by decide +kernel
theorem dX8_copy_17 : decode cX8_copy 17 = .ok (.getfield 50, 3) := by decide +kernel
theorem dX8_copy_20 : decode cX8_copy 20 = .ok (.iload_n 1, 1) := by decide +kernel
theorem dX8_copy_21 : decode cX8_copy 21 = .ok (.aaload, 1) := by decide +kernel
theorem dX8_copy_22 : decode cX8_copy 22 = .ok (.astore 6, 2) := by decide +kernel
theorem dX8_copy_24 : decode cX8_copy 24 = .ok (.aload_n 0, 1) := by decide +kernel
theorem dX8_copy_25 : decode cX8_copy 25 = .ok (.getfield 50, 3) := by decide +kernel
theorem dX8_copy_28 : decode cX8_copy 28 = .ok (.iload_n 3, 1) := by decide +kernel
theorem dX8_copy_29 : decode cX8_copy 29 = .ok (.aaload, 1) := by decide +kernel
theorem dX8_copy_30 : decode cX8_copy 30 = .ok (.astore 7, 2) := by decide +kernel
theorem dX8_copy_32 : decode cX8_copy 32 = .ok (.aload 6, 2) := by decide +kernel
theorem dX8_copy_34 : decode cX8_copy 34 = .ok (.getfield 218, 3) := by decide +kernel
theorem dX8_copy_37 : decode cX8_copy 37 = .ok (.ifCond .lt 11, 3) := by decide +kernel
theorem dX8_copy_40 : decode cX8_copy 40 = .ok (.aload 7, 2) := by decide +kernel
theorem dX8_copy_42 : decode cX8_copy 42 = .ok (.getfield 218, 3) := by decide +kernel
theorem dX8_copy_45 : decode cX8_copy 45 = .ok (.ifCond .ge 6, 3) := by decide +kernel
theorem dX8_copy_48 : decode cX8_copy 48 = .ok (.bipush (-11), 2) := by decide +kernel
theorem dX8_copy_50 : decode cX8_copy 50 = .ok (.ireturn, 1) := by decide +kernel
theorem dX8_copy_51 : decode cX8_copy 51 = .ok (.aload 6, 2) := by decide +kernel
theorem dX8_copy_53 : decode cX8_copy 53 = .ok (.getfield 218, 3) := by decide +kernel
theorem dX8_copy_56 : decode cX8_copy 56 = .ok (.aload 7, 2) := by decide +kernel
theorem dX8_copy_58 : decode cX8_copy 58 = .ok (.getfield 218, 3) := by decide +kernel
theorem dX8_copy_61 : decode cX8_copy 61 = .ok (.if_icmp .eq 6, 3) := by decide +kernel
theorem dX8_copy_64 : decode cX8_copy 64 = .ok (.bipush (-12), 2) := by decide +kernel
theorem dX8_copy_66 : decode cX8_copy 66 = .ok (.ireturn, 1) := by decide +kernel
theorem dX8_copy_67 : decode cX8_copy 67 = .ok (.aload 6, 2) := by decide +kernel
theorem dX8_copy_69 : decode cX8_copy 69 = .ok (.iload_n 2, 1) := by decide +kernel
theorem dX8_copy_70 : decode cX8_copy 70 = .ok (.iload 5, 2) := by decide +kernel
theorem dX8_copy_72 : decode cX8_copy 72 = .ok (.invokevirtual 222, 3) := by decide +kernel
theorem dX8_copy_75 : decode cX8_copy 75 = .ok (.ifCond .ne 15, 3) := by decide +kernel
theorem dX8_copy_78 : decode cX8_copy 78 = .ok (.aload 7, 2) := by decide +kernel
theorem dX8_copy_80 : decode cX8_copy 80 = .ok (.iload 4, 2) := by decide +kernel
theorem dX8_copy_82 : decode cX8_copy 82 = .ok (.iload 5, 2) := by decide +kernel
theorem dX8_copy_84 : decode cX8_copy 84 = .ok (.invokevirtual 222, 3) := by decide +kernel
theorem dX8_copy_87 : decode cX8_copy 87 = .ok (.ifCond .eq 6, 3) := by decide +kernel
theorem dX8_copy_90 : decode cX8_copy 90 = .ok (.bipush (-13), 2) := by decide +kernel
theorem dX8_copy_92 : decode cX8_copy 92 = .ok (.ireturn, 1) := by decide +kernel
theorem dX8_copy_93 : decode cX8_copy 93 = .ok (.aload 6, 2) := by decide +kernel
theorem dX8_copy_95 : decode cX8_copy 95 = .ok (.getfield 225, 3) := by decide +kernel
theorem dX8_copy_98 : decode cX8_copy 98 = .ok (.iload_n 2, 1) := by decide +kernel
theorem dX8_copy_99 : decode cX8_copy 99 = .ok (.aload 7, 2) := by decide +kernel
theorem dX8_copy_101 : decode cX8_copy 101 = .ok (.getfield 225, 3) := by decide +kernel
theorem dX8_copy_104 : decode cX8_copy 104 = .ok (.iload 4, 2) := by decide +kernel
theorem dX8_copy_106 : decode cX8_copy 106 = .ok (.iload 5, 2) := by decide +kernel
theorem dX8_copy_108 : decode cX8_copy 108 = .ok (.invokestatic 229, 3) := by decide +kernel
theorem dX8_copy_111 : decode cX8_copy 111 = .ok (.iload 5, 2) := by decide +kernel
theorem dX8_copy_113 : decode cX8_copy 113 = .ok (.ireturn, 1) := by decide +kernel
theorem dX8_isWord_0 : decode cX8_isWord 0 = .ok (.iload_n 0, 1) := by decide +kernel
theorem dX8_isWord_1 : decode cX8_isWord 1 = .ok (.ifCond .lt 13, 3) := by decide +kernel
theorem dX8_isWord_4 : decode cX8_isWord 4 = .ok (.iload_n 0, 1) := by decide +kernel
theorem dX8_isWord_5 : decode cX8_isWord 5 = .ok (.bipush 32, 2) := by decide +kernel
theorem dX8_isWord_7 : decode cX8_isWord 7 = .ok (.if_icmp .ge 7, 3) := by decide +kernel
theorem dX8_isWord_10 : decode cX8_isWord 10 = .ok (.iconst 1, 1) := by decide +kernel
theorem dX8_isWord_11 : decode cX8_isWord 11 = .ok (.goto 4, 3) := by decide +kernel
theorem dX8_isWord_14 : decode cX8_isWord 14 = .ok (.iconst 0, 1) := by decide +kernel
theorem dX8_isWord_15 : decode cX8_isWord 15 = .ok (.ireturn, 1) := by decide +kernel
theorem dX8_isCost_0 : decode cX8_isCost 0 = .ok (.iload_n 0, 1) := by decide +kernel
theorem dX8_isCost_1 : decode cX8_isCost 1 = .ok (.ifCond .lt 13, 3) := by decide +kernel
theorem dX8_isCost_4 : decode cX8_isCost 4 = .ok (.iload_n 0, 1) := by decide +kernel
theorem dX8_isCost_5 : decode cX8_isCost 5 = .ok (.bipush 10, 2) := by decide +kernel
theorem dX8_isCost_7 : decode cX8_isCost 7 = .ok (.if_icmp .ge 7, 3) := by decide +kernel
theorem dX8_isCost_10 : decode cX8_isCost 10 = .ok (.iconst 1, 1) := by decide +kernel
theorem dX8_isCost_11 : decode cX8_isCost 11 = .ok (.goto 4, 3) := by decide +kernel
theorem dX8_isCost_14 : decode cX8_isCost 14 = .ok (.iconst 0, 1) := by decide +kernel
theorem dX8_isCost_15 : decode cX8_isCost 15 = .ok (.ireturn, 1) := by decide +kernel
theorem dX8_isSheet_0 : decode cX8_isSheet 0 = .ok (.iload_n 0, 1) := by decide +kernel
theorem dX8_isSheet_1 : decode cX8_isSheet 1 = .ok (.ifCond .lt 12, 3) := by decide +kernel
theorem dX8_isSheet_4 : decode cX8_isSheet 4 = .ok (.iload_n 0, 1) := by decide +kernel
theorem dX8_isSheet_5 : decode cX8_isSheet 5 = .ok (.iconst 4, 1) := by decide +kernel
theorem dX8_isSheet_6 : decode cX8_isSheet 6 = .ok (.if_icmp .ge 7, 3) := by decide +kernel
theorem dX8_isSheet_9 : decode cX8_isSheet 9 = .ok (.iconst 1, 1) := by decide +kernel
theorem dX8_isSheet_10 : decode cX8_isSheet 10 = .ok (.goto 4, 3) := by decide +kernel
theorem dX8_isSheet_13 : decode cX8_isSheet 13 = .ok (.iconst 0, 1) := by decide +kernel
theorem dX8_isSheet_14 : decode cX8_isSheet 14 = .ok (.ireturn, 1) := by decide +kernel
theorem dX8_isLane_0 : decode cX8_isLane 0 = .ok (.iload_n 0, 1) := by decide +kernel
theorem dX8_isLane_1 : decode cX8_isLane 1 = .ok (.ifCond .lt 12, 3) := by decide +kernel
theorem dX8_isLane_4 : decode cX8_isLane 4 = .ok (.iload_n 0, 1) := by decide +kernel
theorem dX8_isLane_5 : decode cX8_isLane 5 = .ok (.iconst 4, 1) := by decide +kernel
theorem dX8_isLane_6 : decode cX8_isLane 6 = .ok (.if_icmp .ge 7, 3) := by decide +kernel
theorem dX8_isLane_9 : decode cX8_isLane 9 = .ok (.iconst 1, 1) := by decide +kernel
theorem dX8_isLane_10 : decode cX8_isLane 10 = .ok (.goto 4, 3) := by decide +kernel
theorem dX8_isLane_13 : decode cX8_isLane 13 = .ok (.iconst 0, 1) := by decide +kernel
theorem dX8_isLane_14 : decode cX8_isLane 14 = .ok (.ireturn, 1) := by decide +kernel
theorem dX8_keepForUndo_0 : decode cX8_keepForUndo 0 = .ok (.aload_n 0, 1) := by decide +kernel
theorem dX8_keepForUndo_1 : decode cX8_keepForUndo 1 = .ok (.getfield 22, 3) := by decide +kernel
theorem dX8_keepForUndo_4 : decode cX8_keepForUndo 4 = .ok (.aload_n 0, 1) := by decide +kernel
theorem dX8_keepForUndo_5 : decode cX8_keepForUndo 5 = .ok (.getfield 12, 3) := by decide +kernel
theorem dX8_keepForUndo_8 : decode cX8_keepForUndo 8 = .ok (.invokevirtual 235, 3) := by decide +kernel
theorem dX8_keepForUndo_11 : decode cX8_keepForUndo 11 = .ok (.aload_n 0, 1) := by decide +kernel
theorem dX8_keepForUndo_12 : decode cX8_keepForUndo 12 = .ok (.getfield 44, 3) := by decide +kernel
theorem dX8_keepForUndo_15 : decode cX8_keepForUndo 15 = .ok (.invokevirtual 160, 3) := by decide +kernel
theorem dX8_keepForUndo_18 : decode cX8_keepForUndo 18 = .ok (.return_, 1) := by decide +kernel
theorem dX8_tellAnew_0 : decode cX8_tellAnew 0 = .ok (.aload_n 0, 1) := by decide +kernel
theorem dX8_tellAnew_1 : decode cX8_tellAnew 1 = .ok (.getfield 12, 3) := by decide +kernel
theorem dX8_tellAnew_4 : decode cX8_tellAnew 4 = .ok (.aload_n 0, 1) := by decide +kernel
theorem dX8_tellAnew_5 : decode cX8_tellAnew 5 = .ok (.getfield 16, 3) := by decide +kernel
theorem dX8_tellAnew_8 : decode cX8_tellAnew 8 = .ok (.invokevirtual 238, 3) := by decide +kernel
theorem dX8_tellAnew_11 : decode cX8_tellAnew 11 = .ok (.aload_n 0, 1) := by decide +kernel
theorem dX8_tellAnew_12 : decode cX8_tellAnew 12 = .ok (.getfield 22, 3) := by decide +kernel
theorem dX8_tellAnew_15 : decode cX8_tellAnew 15 = .ok (.iconst 0, 1) := by decide +kernel
theorem dX8_tellAnew_16 : decode cX8_tellAnew 16 = .ok (.putfield 119, 3) := by decide +kernel
theorem dX8_tellAnew_19 : decode cX8_tellAnew 19 = .ok (.aload_n 0, 1) := by decide +kernel
theorem dX8_tellAnew_20 : decode cX8_tellAnew 20 = .ok (.getfield 44, 3) := by decide +kernel
theorem dX8_tellAnew_23 : decode cX8_tellAnew 23 = .ok (.invokevirtual 160, 3) := by decide +kernel
theorem dX8_tellAnew_26 : decode cX8_tellAnew 26 = .ok (.aload_n 0, 1) := by decide +kernel
theorem dX8_tellAnew_27 : decode cX8_tellAnew 27 = .ok (.getfield 12, 3) := by decide +kernel
theorem dX8_tellAnew_30 : decode cX8_tellAnew 30 = .ok (.getfield 89, 3) := by decide +kernel
theorem dX8_tellAnew_33 : decode cX8_tellAnew 33 = .ok (.ireturn, 1) := by decide +kernel
theorem dJ13_bitCount_95d88_0 : decode cJ13_bitCount_95d88 0 = .ok (.lload_n 0, 1) := by decide +kernel
theorem dJ13_bitCount_95d88_1 : decode cJ13_bitCount_95d88 1 = .ok (.lload_n 0, 1) := by decide +kernel
theorem dJ13_bitCount_95d88_2 : decode cJ13_bitCount_95d88 2 = .ok (.iconst 1, 1) := by decide +kernel
theorem dJ13_bitCount_95d88_3 : decode cJ13_bitCount_95d88 3 = .ok (.lushr, 1) := by decide +kernel
theorem dJ13_bitCount_95d88_4 : decode cJ13_bitCount_95d88 4 = .ok (.ldc2_w 314, 3) := by decide +kernel
theorem dJ13_bitCount_95d88_7 : decode cJ13_bitCount_95d88 7 = .ok (.land, 1) := by decide +kernel
theorem dJ13_bitCount_95d88_8 : decode cJ13_bitCount_95d88 8 = .ok (.lsub, 1) := by decide +kernel
theorem dJ13_bitCount_95d88_9 : decode cJ13_bitCount_95d88 9 = .ok (.lstore_n 0, 1) := by decide +kernel
theorem dJ13_bitCount_95d88_10 : decode cJ13_bitCount_95d88 10 = .ok (.lload_n 0, 1) := by decide +kernel
theorem dJ13_bitCount_95d88_11 : decode cJ13_bitCount_95d88 11 = .ok (.ldc2_w 316, 3) := by decide +kernel
theorem dJ13_bitCount_95d88_14 : decode cJ13_bitCount_95d88 14 = .ok (.land, 1) := by decide +kernel
theorem dJ13_bitCount_95d88_15 : decode cJ13_bitCount_95d88 15 = .ok (.lload_n 0, 1) := by decide +kernel
theorem dJ13_bitCount_95d88_16 : decode cJ13_bitCount_95d88 16 = .ok (.iconst 2, 1) := by decide +kernel
theorem dJ13_bitCount_95d88_17 : decode cJ13_bitCount_95d88 17 = .ok (.lushr, 1) := by decide +kernel
theorem dJ13_bitCount_95d88_18 : decode cJ13_bitCount_95d88 18 = .ok (.ldc2_w 316, 3) := by decide +kernel
theorem dJ13_bitCount_95d88_21 : decode cJ13_bitCount_95d88 21 = .ok (.land, 1) := by decide +kernel
theorem dJ13_bitCount_95d88_22 : decode cJ13_bitCount_95d88 22 = .ok (.ladd, 1) := by decide +kernel
theorem dJ13_bitCount_95d88_23 : decode cJ13_bitCount_95d88 23 = .ok (.lstore_n 0, 1) := by decide +kernel
theorem dJ13_bitCount_95d88_24 : decode cJ13_bitCount_95d88 24 = .ok (.lload_n 0, 1) := by decide +kernel
theorem dJ13_bitCount_95d88_25 : decode cJ13_bitCount_95d88 25 = .ok (.lload_n 0, 1) := by decide +kernel
theorem dJ13_bitCount_95d88_26 : decode cJ13_bitCount_95d88 26 = .ok (.iconst 4, 1) := by decide +kernel
theorem dJ13_bitCount_95d88_27 : decode cJ13_bitCount_95d88 27 = .ok (.lushr, 1) := by decide +kernel
theorem dJ13_bitCount_95d88_28 : decode cJ13_bitCount_95d88 28 = .ok (.ladd, 1) := by decide +kernel
theorem dJ13_bitCount_95d88_29 : decode cJ13_bitCount_95d88 29 = .ok (.ldc2_w 318, 3) := by decide +kernel
theorem dJ13_bitCount_95d88_32 : decode cJ13_bitCount_95d88 32 = .ok (.land, 1) := by decide +kernel
theorem dJ13_bitCount_95d88_33 : decode cJ13_bitCount_95d88 33 = .ok (.lstore_n 0, 1) := by decide +kernel
theorem dJ13_bitCount_95d88_34 : decode cJ13_bitCount_95d88 34 = .ok (.lload_n 0, 1) := by decide +kernel
theorem dJ13_bitCount_95d88_35 : decode cJ13_bitCount_95d88 35 = .ok (.lload_n 0, 1) := by decide +kernel
theorem dJ13_bitCount_95d88_36 : decode cJ13_bitCount_95d88 36 = .ok (.bipush 8, 2) := by decide +kernel
theorem dJ13_bitCount_95d88_38 : decode cJ13_bitCount_95d88 38 = .ok (.lushr, 1) := by decide +kernel
theorem dJ13_bitCount_95d88_39 : decode cJ13_bitCount_95d88 39 = .ok (.ladd, 1) := by decide +kernel
theorem dJ13_bitCount_95d88_40 : decode cJ13_bitCount_95d88 40 = .ok (.lstore_n 0, 1) := by decide +kernel
theorem dJ13_bitCount_95d88_41 : decode cJ13_bitCount_95d88 41 = .ok (.lload_n 0, 1) := by decide +kernel
theorem dJ13_bitCount_95d88_42 : decode cJ13_bitCount_95d88 42 = .ok (.lload_n 0, 1) := by decide +kernel
theorem dJ13_bitCount_95d88_43 : decode cJ13_bitCount_95d88 43 = .ok (.bipush 16, 2) := by decide +kernel
theorem dJ13_bitCount_95d88_45 : decode cJ13_bitCount_95d88 45 = .ok (.lushr, 1) := by decide +kernel
theorem dJ13_bitCount_95d88_46 : decode cJ13_bitCount_95d88 46 = .ok (.ladd, 1) := by decide +kernel
theorem dJ13_bitCount_95d88_47 : decode cJ13_bitCount_95d88 47 = .ok (.lstore_n 0, 1) := by decide +kernel
theorem dJ13_bitCount_95d88_48 : decode cJ13_bitCount_95d88 48 = .ok (.lload_n 0, 1) := by decide +kernel
theorem dJ13_bitCount_95d88_49 : decode cJ13_bitCount_95d88 49 = .ok (.lload_n 0, 1) := by decide +kernel
theorem dJ13_bitCount_95d88_50 : decode cJ13_bitCount_95d88 50 = .ok (.bipush 32, 2) := by decide +kernel
theorem dJ13_bitCount_95d88_52 : decode cJ13_bitCount_95d88 52 = .ok (.lushr, 1) := by decide +kernel
theorem dJ13_bitCount_95d88_53 : decode cJ13_bitCount_95d88 53 = .ok (.ladd, 1) := by decide +kernel
theorem dJ13_bitCount_95d88_54 : decode cJ13_bitCount_95d88 54 = .ok (.lstore_n 0, 1) := by decide +kernel
theorem dJ13_bitCount_95d88_55 : decode cJ13_bitCount_95d88 55 = .ok (.lload_n 0, 1) := by decide +kernel
theorem dJ13_bitCount_95d88_56 : decode cJ13_bitCount_95d88 56 = .ok (.l2i, 1) := by decide +kernel
theorem dJ13_bitCount_95d88_57 : decode cJ13_bitCount_95d88 57 = .ok (.bipush 127, 2) := by decide +kernel
theorem dJ13_bitCount_95d88_59 : decode cJ13_bitCount_95d88 59 = .ok (.iand, 1) := by decide +kernel
theorem dJ13_bitCount_95d88_60 : decode cJ13_bitCount_95d88 60 = .ok (.ireturn, 1) := by decide +kernel
theorem dJ9_max_7cf53_0 : decode cJ9_max_7cf53 0 = .ok (.iload_n 0, 1) := by decide +kernel
theorem dJ9_max_7cf53_1 : decode cJ9_max_7cf53 1 = .ok (.iload_n 1, 1) := by decide +kernel
theorem dJ9_max_7cf53_2 : decode cJ9_max_7cf53 2 = .ok (.if_icmp .lt 7, 3) := by decide +kernel
theorem dJ9_max_7cf53_5 : decode cJ9_max_7cf53 5 = .ok (.iload_n 0, 1) := by decide +kernel
theorem dJ9_max_7cf53_6 : decode cJ9_max_7cf53 6 = .ok (.goto 4, 3) := by decide +kernel
theorem dJ9_max_7cf53_9 : decode cJ9_max_7cf53 9 = .ok (.iload_n 1, 1) := by decide +kernel
theorem dJ9_max_7cf53_10 : decode cJ9_max_7cf53 10 = .ok (.ireturn, 1) := by decide +kernel

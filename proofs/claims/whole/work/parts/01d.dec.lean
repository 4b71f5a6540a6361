theorem dX7_init_0 : decode cX7_init 0 = .ok (.aload_n 0, 1) := by decide +kernel
theorem dX7_init_1 : decode cX7_init 1 = .ok (.invokespecial 1, 3) := by decide +kernel
theorem dX7_init_4 : decode cX7_init 4 = .ok (.aload_n 0, 1) := by decide +kernel
theorem dX7_init_5 : decode cX7_init 5 = .ok (.bipush 12, 2) := by decide +kernel
theorem dX7_init_7 : decode cX7_init 7 = .ok (.newarray .int, 2) := by decide +kernel
theorem dX7_init_9 : decode cX7_init 9 = .ok (.putfield 7, 3) := by decide +kernel
theorem dX7_init_12 : decode cX7_init 12 = .ok (.aload_n 0, 1) := by decide +kernel
theorem dX7_init_13 : decode cX7_init 13 = .ok (.bipush 36, 2) := by decide +kernel
theorem dX7_init_15 : decode cX7_init 15 = .ok (.newarray .int, 2) := by decide +kernel
theorem dX7_init_17 : decode cX7_init 17 = .ok (.putfield 13, 3) := by decide +kernel
theorem dX7_init_20 : decode cX7_init 20 = .ok (.aload_n 0, 1) := by decide +kernel
theorem dX7_init_21 : decode cX7_init 21 = .ok (.bipush 12, 2) := by decide +kernel
theorem dX7_init_23 : decode cX7_init 23 = .ok (.newarray .int, 2) := by decide +kernel
theorem dX7_init_25 : decode cX7_init 25 = .ok (.putfield 16, 3) := by decide +kernel
theorem dX7_init_28 : decode cX7_init 28 = .ok (.aload_n 0, 1) := by decide +kernel
theorem dX7_init_29 : decode cX7_init 29 = .ok (.bipush 12, 2) := by decide +kernel
theorem dX7_init_31 : decode cX7_init 31 = .ok (.newarray .int, 2) := by decide +kernel
theorem dX7_init_33 : decode cX7_init 33 = .ok (.putfield 19, 3) := by decide +kernel
theorem dX7_init_36 : decode cX7_init 36 = .ok (.aload_n 0, 1) := by decide +kernel
theorem dX7_init_37 : decode cX7_init 37 = .ok (.bipush 12, 2) := by decide +kernel
theorem dX7_init_39 : decode cX7_init 39 = .ok (.newarray .int, 2) := by decide +kernel
theorem dX7_init_41 : decode cX7_init 41 = .ok (.putfield 22, 3) := by decide +kernel
theorem dX7_init_44 : decode cX7_init 44 = .ok (.aload_n 0, 1) := by decide +kernel
theorem dX7_init_45 : decode cX7_init 45 = .ok (.bipush 12, 2) := by decide +kernel
theorem dX7_init_47 : decode cX7_init 47 = .ok (.newarray .int, 2) := by decide +kernel
theorem dX7_init_49 : decode cX7_init 49 = .ok (.putfield 25, 3) := by decide +kernel
theorem dX7_init_52 : decode cX7_init 52 = .ok (.aload_n 0, 1) := by decide +kernel
theorem dX7_init_53 : decode cX7_init 53 = .ok (.bipush 12, 2) := by decide +kernel
theorem dX7_init_55 : decode cX7_init 55 = .ok (.newarray .boolean, 2) := by decide +kernel
theorem dX7_init_57 : decode cX7_init 57 = .ok (.putfield 28, 3) := by decide +kernel
theorem dX7_init_60 : decode cX7_init 60 = .ok (.aload_n 0, 1) := by decide +kernel
theorem dX7_init_61 : decode cX7_init 61 = .ok (.bipush 60, 2) := by decide +kernel
theorem dX7_init_63 : decode cX7_init 63 = .ok (.newarray .int, 2) := by decide +kernel
theorem dX7_init_65 : decode cX7_init 65 = .ok (.putfield 32, 3) := by decide +kernel
theorem dX7_init_68 : decode cX7_init 68 = .ok (.aload_n 0, 1) := by decide +kernel
theorem dX7_init_69 : decode cX7_init 69 = .ok (.bipush 6, 2) := by decide +kernel
theorem dX7_init_71 : decode cX7_init 71 = .ok (.newarray .int, 2) := by decide +kernel
theorem dX7_init_73 : decode cX7_init 73 = .ok (.putfield 35, 3) := by decide +kernel
theorem dX7_init_76 : decode cX7_init 76 = .ok (.aload_n 0, 1) := by decide +kernel
theorem dX7_init_77 : decode cX7_init 77 = .ok (.sipush 600, 3) := by decide +kernel
theorem dX7_init_80 : decode cX7_init 80 = .ok (.newarray .int, 2) := by decide +kernel
theorem dX7_init_82 : decode cX7_init 82 = .ok (.putfield 38, 3) := by decide +kernel
theorem dX7_init_85 : decode cX7_init 85 = .ok (.aload_n 0, 1) := by decide +kernel
theorem dX7_init_86 : decode cX7_init 86 = .ok (.bipush 6, 2) := by decide +kernel
theorem dX7_init_88 : decode cX7_init 88 = .ok (.newarray .int, 2) := by decide +kernel
theorem dX7_init_90 : decode cX7_init 90 = .ok (.putfield 41, 3) := by decide +kernel
theorem dX7_init_93 : decode cX7_init 93 = .ok (.aload_n 0, 1) := by decide +kernel
theorem dX7_init_94 : decode cX7_init 94 = .ok (.bipush 10, 2) := by decide +kernel
theorem dX7_init_96 : decode cX7_init 96 = .ok (.newarray .int, 2) := by decide +kernel
theorem dX7_init_98 : decode cX7_init 98 = .ok (.putfield 44, 3) := by decide +kernel
theorem dX7_init_101 : decode cX7_init 101 = .ok (.aload_n 0, 1) := by decide +kernel
theorem dX7_init_102 : decode cX7_init 102 = .ok (.sipush 500, 3) := by decide +kernel
theorem dX7_init_105 : decode cX7_init 105 = .ok (.newarray .int, 2) := by decide +kernel
theorem dX7_init_107 : decode cX7_init 107 = .ok (.putfield 47, 3) := by decide +kernel
theorem dX7_init_110 : decode cX7_init 110 = .ok (.aload_n 0, 1) := by decide +kernel
theorem dX7_init_111 : decode cX7_init 111 = .ok (.bipush 100, 2) := by decide +kernel
theorem dX7_init_113 : decode cX7_init 113 = .ok (.newarray .int, 2) := by decide +kernel
theorem dX7_init_115 : decode cX7_init 115 = .ok (.putfield 50, 3) := by decide +kernel
theorem dX7_init_118 : decode cX7_init 118 = .ok (.aload_n 0, 1) := by decide +kernel
theorem dX7_init_119 : decode cX7_init 119 = .ok (.bipush 10, 2) := by decide +kernel
theorem dX7_init_121 : decode cX7_init 121 = .ok (.newarray .int, 2) := by decide +kernel
theorem dX7_init_123 : decode cX7_init 123 = .ok (.putfield 53, 3) := by decide +kernel
theorem dX7_init_126 : decode cX7_init 126 = .ok (.aload_n 0, 1) := by decide +kernel
theorem dX7_init_127 : decode cX7_init 127 = .ok (.bipush 64, 2) := by decide +kernel
theorem dX7_init_129 : decode cX7_init 129 = .ok (.newarray .char, 2) := by decide +kernel
theorem dX7_init_131 : decode cX7_init 131 = .ok (.putfield 56, 3) := by decide +kernel
theorem dX7_init_134 : decode cX7_init 134 = .ok (.return_, 1) := by decide +kernel
theorem dX7_thrown_0 : decode cX7_thrown 0 = .ok (.aload_n 0, 1) := by decide +kernel
theorem dX7_thrown_1 : decode cX7_thrown 1 = .ok (.getfield 60, 3) := by decide +kernel
theorem dX7_thrown_4 : decode cX7_thrown 4 = .ok (.ireturn, 1) := by decide +kernel
theorem dX7_in_0 : decode cX7_in 0 = .ok (.lload_n 0, 1) := by decide +kernel
theorem dX7_in_1 : decode cX7_in 1 = .ok (.lload_n 2, 1) := by decide +kernel
theorem dX7_in_2 : decode cX7_in 2 = .ok (.lcmp, 1) := by decide +kernel
theorem dX7_in_3 : decode cX7_in 3 = .ok (.ifCond .lt 14, 3) := by decide +kernel
theorem dX7_in_6 : decode cX7_in 6 = .ok (.lload_n 0, 1) := by decide +kernel
theorem dX7_in_7 : decode cX7_in 7 = .ok (.lload 4, 2) := by decide +kernel
theorem dX7_in_9 : decode cX7_in 9 = .ok (.lcmp, 1) := by decide +kernel
theorem dX7_in_10 : decode cX7_in 10 = .ok (.ifCond .gt 7, 3) := by decide +kernel
theorem dX7_in_13 : decode cX7_in 13 = .ok (.iconst 1, 1) := by decide +kernel
theorem dX7_in_14 : decode cX7_in 14 = .ok (.goto 4, 3) := by decide +kernel
theorem dX7_in_17 : decode cX7_in 17 = .ok (.iconst 0, 1) := by decide +kernel
theorem dX7_in_18 : decode cX7_in 18 = .ok (.ireturn, 1) := by decide +kernel
theorem dX7_isName_0 : decode cX7_isName 0 = .ok (.iload_n 0, 1) := by decide +kernel
theorem dX7_isName_1 : decode cX7_isName 1 = .ok (.i2l, 1) := by decide +kernel
theorem dX7_isName_2 : decode cX7_isName 2 = .ok (.ldc2_w 64, 3) := by decide +kernel
theorem dX7_isName_5 : decode cX7_isName 5 = .ok (.ldc2_w 66, 3) := by decide +kernel
theorem dX7_isName_8 : decode cX7_isName 8 = .ok (.invokestatic 68, 3) := by decide +kernel
theorem dX7_isName_11 : decode cX7_isName 11 = .ok (.ireturn, 1) := by decide +kernel
theorem dX7_isLetter_0 : decode cX7_isLetter 0 = .ok (.iload_n 0, 1) := by decide +kernel
theorem dX7_isLetter_1 : decode cX7_isLetter 1 = .ok (.i2l, 1) := by decide +kernel
theorem dX7_isLetter_2 : decode cX7_isLetter 2 = .ok (.lconst 0, 1) := by decide +kernel
theorem dX7_isLetter_3 : decode cX7_isLetter 3 = .ok (.ldc2_w 72, 3) := by decide +kernel
theorem dX7_isLetter_6 : decode cX7_isLetter 6 = .ok (.invokestatic 68, 3) := by decide +kernel
theorem dX7_isLetter_9 : decode cX7_isLetter 9 = .ok (.ireturn, 1) := by decide +kernel
theorem dX7_isSymbol_0 : decode cX7_isSymbol 0 = .ok (.iload_n 0, 1) := by decide +kernel
theorem dX7_isSymbol_1 : decode cX7_isSymbol 1 = .ok (.invokestatic 74, 3) := by decide +kernel
theorem dX7_isSymbol_4 : decode cX7_isSymbol 4 = .ok (.ifCond .ne 10, 3) := by decide +kernel
theorem dX7_isSymbol_7 : decode cX7_isSymbol 7 = .ok (.iload_n 0, 1) := by decide +kernel
theorem dX7_isSymbol_8 : decode cX7_isSymbol 8 = .ok (.invokestatic 78, 3) := by decide +kernel
theorem dX7_isSymbol_11 : decode cX7_isSymbol 11 = .ok (.ifCond .eq 7, 3) := by decide +kernel
theorem dX7_isSymbol_14 : decode cX7_isSymbol 14 = .ok (.iconst 1, 1) := by decide +kernel
theorem dX7_isSymbol_15 : decode cX7_isSymbol 15 = .ok (.goto 4, 3) := by decide +kernel
theorem dX7_isSymbol_18 : decode cX7_isSymbol 18 = .ok (.iconst 0, 1) := by decide +kernel
theorem dX7_isSymbol_19 : decode cX7_isSymbol 19 = .ok (.ireturn, 1) := by decide +kernel
theorem dX7_held_0 : decode cX7_held 0 = .ok (.iload_n 0, 1) := by decide +kernel
theorem dX7_held_1 : decode cX7_held 1 = .ok (.sipush 1000, 3) := by decide +kernel
theorem dX7_held_4 : decode cX7_held 4 = .ok (.if_icmp .le 9, 3) := by decide +kernel
theorem dX7_held_7 : decode cX7_held 7 = .ok (.sipush 1000, 3) := by decide +kernel
theorem dX7_held_10 : decode cX7_held 10 = .ok (.goto 4, 3) := by decide +kernel
theorem dX7_held_13 : decode cX7_held 13 = .ok (.iload_n 0, 1) := by decide +kernel
theorem dX7_held_14 : decode cX7_held 14 = .ok (.ireturn, 1) := by decide +kernel
theorem dX7_part_0 : decode cX7_part 0 = .ok (.iload_n 1, 1) := by decide +kernel
theorem dX7_part_1 : decode cX7_part 1 = .ok (.invokestatic 78, 3) := by decide +kernel
theorem dX7_part_4 : decode cX7_part 4 = .ok (.ifCond .eq 24, 3) := by decide +kernel
theorem dX7_part_7 : decode cX7_part 7 = .ok (.iload_n 2, 1) := by decide +kernel
theorem dX7_part_8 : decode cX7_part 8 = .ok (.iload_n 3, 1) := by decide +kernel
theorem dX7_part_9 : decode cX7_part 9 = .ok (.if_icmp .ne 17, 3) := by decide +kernel
theorem dX7_part_12 : decode cX7_part 12 = .ok (.aload_n 0, 1) := by decide +kernel
theorem dX7_part_13 : decode cX7_part 13 = .ok (.getfield 44, 3) := by decide +kernel
theorem dX7_part_16 : decode cX7_part 16 = .ok (.iload_n 2, 1) := by decide +kernel
theorem dX7_part_17 : decode cX7_part 17 = .ok (.iaload, 1) := by decide +kernel
theorem dX7_part_18 : decode cX7_part 18 = .ok (.iload_n 1, 1) := by decide +kernel
theorem dX7_part_19 : decode cX7_part 19 = .ok (.if_icmp .ne 7, 3) := by decide +kernel
theorem dX7_part_22 : decode cX7_part 22 = .ok (.iconst 1, 1) := by decide +kernel
theorem dX7_part_23 : decode cX7_part 23 = .ok (.goto 4, 3) := by decide +kernel
theorem dX7_part_26 : decode cX7_part 26 = .ok (.iconst 0, 1) := by decide +kernel
theorem dX7_part_27 : decode cX7_part 27 = .ok (.ireturn, 1) := by decide +kernel
theorem dX7_part_28 : decode cX7_part 28 = .ok (.aload_n 0, 1) := by decide +kernel
theorem dX7_part_29 : decode cX7_part 29 = .ok (.getfield 47, 3) := by decide +kernel
theorem dX7_part_32 : decode cX7_part 32 = .ok (.bipush 100, 2) := by decide +kernel
theorem dX7_part_34 : decode cX7_part 34 = .ok (.iload_n 1, 1) := by decide +kernel
theorem dX7_part_35 : decode cX7_part 35 = .ok (.bipush 10, 2) := by decide +kernel
theorem dX7_part_37 : decode cX7_part 37 = .ok (.isub, 1) := by decide +kernel
theorem dX7_part_38 : decode cX7_part 38 = .ok (.imul, 1) := by decide +kernel
theorem dX7_part_39 : decode cX7_part 39 = .ok (.bipush 10, 2) := by decide +kernel
theorem dX7_part_41 : decode cX7_part 41 = .ok (.iload_n 2, 1) := by decide +kernel
theorem dX7_part_42 : decode cX7_part 42 = .ok (.imul, 1) := by decide +kernel
theorem dX7_part_43 : decode cX7_part 43 = .ok (.iadd, 1) := by decide +kernel
theorem dX7_part_44 : decode cX7_part 44 = .ok (.iload_n 3, 1) := by decide +kernel
theorem dX7_part_45 : decode cX7_part 45 = .ok (.iadd, 1) := by decide +kernel
theorem dX7_part_46 : decode cX7_part 46 = .ok (.iaload, 1) := by decide +kernel
theorem dX7_part_47 : decode cX7_part 47 = .ok (.ireturn, 1) := by decide +kernel
theorem dX7_twoParts_0 : decode cX7_twoParts 0 = .ok (.iconst 0, 1) := by decide +kernel
theorem dX7_twoParts_1 : decode cX7_twoParts 1 = .ok (.istore 5, 2) := by decide +kernel
theorem dX7_twoParts_3 : decode cX7_twoParts 3 = .ok (.iload_n 3, 1) := by decide +kernel
theorem dX7_twoParts_4 : decode cX7_twoParts 4 = .ok (.istore 6, 2) := by decide +kernel
theorem dX7_twoParts_6 : decode cX7_twoParts 6 = .ok (.iload 6, 2) := by decide +kernel
theorem dX7_twoParts_8 : decode cX7_twoParts 8 = .ok (.iload 4, 2) := by decide +kernel
theorem dX7_twoParts_10 : decode cX7_twoParts 10 = .ok (.if_icmp .ge 40, 3) := by decide +kernel
theorem dX7_twoParts_13 : decode cX7_twoParts 13 = .ok (.iload 5, 2) := by decide +kernel
theorem dX7_twoParts_15 : decode cX7_twoParts 15 = .ok (.aload_n 0, 1) := by decide +kernel
theorem dX7_twoParts_16 : decode cX7_twoParts 16 = .ok (.iload_n 1, 1) := by decide +kernel
theorem dX7_twoParts_17 : decode cX7_twoParts 17 = .ok (.iload_n 3, 1) := by decide +kernel
theorem dX7_twoParts_18 : decode cX7_twoParts 18 = .ok (.iload 6, 2) := by decide +kernel
theorem dX7_twoParts_20 : decode cX7_twoParts 20 = .ok (.invokevirtual 81, 3) := by decide +kernel
theorem dX7_twoParts_23 : decode cX7_twoParts 23 = .ok (.aload_n 0, 1) := by decide +kernel
theorem dX7_twoParts_24 : decode cX7_twoParts 24 = .ok (.iload_n 2, 1) := by decide +kernel
theorem dX7_twoParts_25 : decode cX7_twoParts 25 = .ok (.iload 6, 2) := by decide +kernel
theorem dX7_twoParts_27 : decode cX7_twoParts 27 = .ok (.iconst 1, 1) := by decide +kernel
theorem dX7_twoParts_28 : decode cX7_twoParts 28 = .ok (.iadd, 1) := by decide +kernel
theorem dX7_twoParts_29 : decode cX7_twoParts 29 = .ok (.iload 4, 2) := by decide +kernel
theorem dX7_twoParts_31 : decode cX7_twoParts 31 = .ok (.invokevirtual 81, 3) := by decide +kernel
theorem dX7_twoParts_34 : decode cX7_twoParts 34 = .ok (.imul, 1) := by decide +kernel
theorem dX7_twoParts_35 : decode cX7_twoParts 35 = .ok (.invokestatic 85, 3) := by decide +kernel
theorem dX7_twoParts_38 : decode cX7_twoParts 38 = .ok (.iadd, 1) := by decide +kernel
theorem dX7_twoParts_39 : decode cX7_twoParts 39 = .ok (.invokestatic 85, 3) := by decide +kernel
theorem dX7_twoParts_42 : decode cX7_twoParts 42 = .ok (.istore 5, 2) := by decide +kernel
theorem dX7_twoParts_44 : decode cX7_twoParts 44 = .ok (.iinc 6 1, 3) := by decide +kernel
theorem dX7_twoParts_47 : decode cX7_twoParts 47 = .ok (.goto (-41), 3) := by decide +kernel
theorem dX7_twoParts_50 : decode cX7_twoParts 50 = .ok (.iload 5, 2) := by decide +kernel
theorem dX7_twoParts_52 : decode cX7_twoParts 52 = .ok (.ireturn, 1) := by decide +kernel
theorem dX7_ways_0 : decode cX7_ways 0 = .ok (.iconst 3, 1) := by decide +kernel
theorem dX7_ways_1 : decode cX7_ways 1 = .ok (.iload_n 1, 1) := by decide +kernel
theorem dX7_ways_2 : decode cX7_ways 2 = .ok (.imul, 1) := by decide +kernel
theorem dX7_ways_3 : decode cX7_ways 3 = .ok (.istore 4, 2) := by decide +kernel
theorem dX7_ways_5 : decode cX7_ways 5 = .ok (.aload_n 0, 1) := by decide +kernel
theorem dX7_ways_6 : decode cX7_ways 6 = .ok (.getfield 16, 3) := by decide +kernel
theorem dX7_ways_9 : decode cX7_ways 9 = .ok (.iload_n 1, 1) := by decide +kernel
theorem dX7_ways_10 : decode cX7_ways 10 = .ok (.iaload, 1) := by decide +kernel
theorem dX7_ways_11 : decode cX7_ways 11 = .ok (.iconst 1, 1) := by decide +kernel
theorem dX7_ways_12 : decode cX7_ways 12 = .ok (.if_icmp .ne 17, 3) := by decide +kernel
theorem dX7_ways_15 : decode cX7_ways 15 = .ok (.aload_n 0, 1) := by decide +kernel
theorem dX7_ways_16 : decode cX7_ways 16 = .ok (.aload_n 0, 1) := by decide +kernel
theorem dX7_ways_17 : decode cX7_ways 17 = .ok (.getfield 13, 3) := by decide +kernel
theorem dX7_ways_20 : decode cX7_ways 20 = .ok (.iload 4, 2) := by decide +kernel
theorem dX7_ways_22 : decode cX7_ways 22 = .ok (.iaload, 1) := by decide +kernel
theorem dX7_ways_23 : decode cX7_ways 23 = .ok (.iload_n 2, 1) := by decide +kernel
theorem dX7_ways_24 : decode cX7_ways 24 = .ok (.iload_n 3, 1) := by decide +kernel
theorem dX7_ways_25 : decode cX7_ways 25 = .ok (.invokevirtual 81, 3) := by decide +kernel
theorem dX7_ways_28 : decode cX7_ways 28 = .ok (.ireturn, 1) := by decide +kernel
theorem dX7_ways_29 : decode cX7_ways 29 = .ok (.aload_n 0, 1) := by decide +kernel
theorem dX7_ways_30 : decode cX7_ways 30 = .ok (.getfield 16, 3) := by decide +kernel
theorem dX7_ways_33 : decode cX7_ways 33 = .ok (.iload_n 1, 1) := by decide +kernel
theorem dX7_ways_34 : decode cX7_ways 34 = .ok (.iaload, 1) := by decide +kernel
theorem dX7_ways_35 : decode cX7_ways 35 = .ok (.iconst 2, 1) := by decide +kernel
theorem dX7_ways_36 : decode cX7_ways 36 = .ok (.if_icmp .ne 26, 3) := by decide +kernel
theorem dX7_ways_39 : decode cX7_ways 39 = .ok (.aload_n 0, 1) := by decide +kernel
theorem dX7_ways_40 : decode cX7_ways 40 = .ok (.aload_n 0, 1) := by decide +kernel
theorem dX7_ways_41 : decode cX7_ways 41 = .ok (.getfield 13, 3) := by decide +kernel
theorem dX7_ways_44 : decode cX7_ways 44 = .ok (.iload 4, 2) := by decide +kernel
theorem dX7_ways_46 : decode cX7_ways 46 = .ok (.iaload, 1) := by decide +kernel
theorem dX7_ways_47 : decode cX7_ways 47 = .ok (.aload_n 0, 1) := by decide +kernel
theorem dX7_ways_48 : decode cX7_ways 48 = .ok (.getfield 13, 3) := by decide +kernel
theorem dX7_ways_51 : decode cX7_ways 51 = .ok (.iload 4, 2) := by decide +kernel
theorem dX7_ways_53 : decode cX7_ways 53 = .ok (.iconst 1, 1) := by decide +kernel
theorem dX7_ways_54 : decode cX7_ways 54 = .ok (.iadd, 1) := by decide +kernel
theorem dX7_ways_55 : decode cX7_ways 55 = .ok (.iaload, 1) := by decide +kernel
theorem dX7_ways_56 : decode cX7_ways 56 = .ok (.iload_n 2, 1) := by decide +kernel
theorem dX7_ways_57 : decode cX7_ways 57 = .ok (.iload_n 3, 1) := by decide +kernel
theorem dX7_ways_58 : decode cX7_ways 58 = .ok (.invokevirtual 89, 3) := by decide +kernel
theorem dX7_ways_61 : decode cX7_ways 61 = .ok (.ireturn, 1) := by decide +kernel
theorem dX7_ways_62 : decode cX7_ways 62 = .ok (.iconst 0, 1) := by decide +kernel
theorem dX7_ways_63 : decode cX7_ways 63 = .ok (.istore 5, 2) := by decide +kernel
theorem dX7_ways_65 : decode cX7_ways 65 = .ok (.iload_n 2, 1) := by decide +kernel
theorem dX7_ways_66 : decode cX7_ways 66 = .ok (.istore 6, 2) := by decide +kernel
theorem dX7_ways_68 : decode cX7_ways 68 = .ok (.iload 6, 2) := by decide +kernel
theorem dX7_ways_70 : decode cX7_ways 70 = .ok (.iload_n 3, 1) := by decide +kernel
theorem dX7_ways_71 : decode cX7_ways 71 = .ok (.iconst 1, 1) := by decide +kernel
theorem dX7_ways_72 : decode cX7_ways 72 = .ok (.isub, 1) := by decide +kernel
theorem dX7_ways_73 : decode cX7_ways 73 = .ok (.if_icmp .ge 62, 3) := by decide +kernel
theorem dX7_ways_76 : decode cX7_ways 76 = .ok (.iload 5, 2) := by decide +kernel
theorem dX7_ways_78 : decode cX7_ways 78 = .ok (.aload_n 0, 1) := by decide +kernel
theorem dX7_ways_79 : decode cX7_ways 79 = .ok (.aload_n 0, 1) := by decide +kernel
theorem dX7_ways_80 : decode cX7_ways 80 = .ok (.getfield 13, 3) := by decide +kernel
theorem dX7_ways_83 : decode cX7_ways 83 = .ok (.iload 4, 2) := by decide +kernel
theorem dX7_ways_85 : decode cX7_ways 85 = .ok (.iaload, 1) := by decide +kernel
theorem dX7_ways_86 : decode cX7_ways 86 = .ok (.iload_n 2, 1) := by decide +kernel
theorem dX7_ways_87 : decode cX7_ways 87 = .ok (.iload 6, 2) := by decide +kernel
theorem dX7_ways_89 : decode cX7_ways 89 = .ok (.invokevirtual 81, 3) := by decide +kernel
theorem dX7_ways_92 : decode cX7_ways 92 = .ok (.aload_n 0, 1) := by decide +kernel
theorem dX7_ways_93 : decode cX7_ways 93 = .ok (.aload_n 0, 1) := by decide +kernel
theorem dX7_ways_94 : decode cX7_ways 94 = .ok (.getfield 13, 3) := by decide +kernel
theorem dX7_ways_97 : decode cX7_ways 97 = .ok (.iload 4, 2) := by decide +kernel
theorem dX7_ways_99 : decode cX7_ways 99 = .ok (.iconst 1, 1) := by decide +kernel
theorem dX7_ways_100 : decode cX7_ways 100 = .ok (.iadd, 1) := by decide +kernel
theorem dX7_ways_101 : decode cX7_ways 101 = .ok (.iaload, 1) := by decide +kernel
theorem dX7_ways_102 : decode cX7_ways 102 = .ok (.aload_n 0, 1) := by decide +kernel
theorem dX7_ways_103 : decode cX7_ways 103 = .ok (.getfield 13, 3) := by decide +kernel
theorem dX7_ways_106 : decode cX7_ways 106 = .ok (.iload 4, 2) := by decide +kernel
theorem dX7_ways_108 : decode cX7_ways 108 = .ok (.iconst 2, 1) := by decide +kernel
theorem dX7_ways_109 : decode cX7_ways 109 = .ok (.iadd, 1) := by decide +kernel
theorem dX7_ways_110 : decode cX7_ways 110 = .ok (.iaload, 1) := by decide +kernel
theorem dX7_ways_111 : decode cX7_ways 111 = .ok (.iload 6, 2) := by decide +kernel
theorem dX7_ways_113 : decode cX7_ways 113 = .ok (.iconst 1, 1) := by decide +kernel
theorem dX7_ways_114 : decode cX7_ways 114 = .ok (.iadd, 1) := by decide +kernel
theorem dX7_ways_115 : decode cX7_ways 115 = .ok (.iload_n 3, 1) := by decide +kernel
theorem dX7_ways_116 : decode cX7_ways 116 = .ok (.invokevirtual 89, 3) := by decide +kernel
theorem dX7_ways_119 : decode cX7_ways 119 = .ok (.imul, 1) := by decide +kernel
theorem dX7_ways_120 : decode cX7_ways 120 = .ok (.invokestatic 85, 3) := by decide +kernel
theorem dX7_ways_123 : decode cX7_ways 123 = .ok (.iadd, 1) := by decide +kernel
theorem dX7_ways_124 : decode cX7_ways 124 = .ok (.invokestatic 85, 3) := by decide +kernel
theorem dX7_ways_127 : decode cX7_ways 127 = .ok (.istore 5, 2) := by decide +kernel
theorem dX7_ways_129 : decode cX7_ways 129 = .ok (.iinc 6 1, 3) := by decide +kernel
theorem dX7_ways_132 : decode cX7_ways 132 = .ok (.goto (-64), 3) := by decide +kernel
theorem dX7_ways_135 : decode cX7_ways 135 = .ok (.iload 5, 2) := by decide +kernel
theorem dX7_ways_137 : decode cX7_ways 137 = .ok (.ireturn, 1) := by decide +kernel
theorem dX7_lays_0 : decode cX7_lays 0 = .ok (.iconst 1, 1) := by decide +kernel
theorem dX7_lays_1 : decode cX7_lays 1 = .ok (.istore_n 1, 1) := by decide +kernel
theorem dX7_lays_2 : decode cX7_lays 2 = .ok (.iload_n 1, 1) := by decide +kernel
theorem dX7_lays_3 : decode cX7_lays 3 = .ok (.aload_n 0, 1) := by decide +kernel
theorem dX7_lays_4 : decode cX7_lays 4 = .ok (.getfield 93, 3) := by decide +kernel
theorem dX7_lays_7 : decode cX7_lays 7 = .ok (.if_icmp .gt 135, 3) := by decide +kernel
theorem dX7_lays_10 : decode cX7_lays 10 = .ok (.iconst 0, 1) := by decide +kernel
theorem dX7_lays_11 : decode cX7_lays 11 = .ok (.istore_n 2, 1) := by decide +kernel
theorem dX7_lays_12 : decode cX7_lays 12 = .ok (.iload_n 2, 1) := by decide +kernel
theorem dX7_lays_13 : decode cX7_lays 13 = .ok (.iload_n 1, 1) := by decide +kernel
theorem dX7_lays_14 : decode cX7_lays 14 = .ok (.iadd, 1) := by decide +kernel
theorem dX7_lays_15 : decode cX7_lays 15 = .ok (.aload_n 0, 1) := by decide +kernel
theorem dX7_lays_16 : decode cX7_lays 16 = .ok (.getfield 93, 3) := by decide +kernel
theorem dX7_lays_19 : decode cX7_lays 19 = .ok (.if_icmp .gt 117, 3) := by decide +kernel
theorem dX7_lays_22 : decode cX7_lays 22 = .ok (.iload_n 2, 1) := by decide +kernel
theorem dX7_lays_23 : decode cX7_lays 23 = .ok (.iload_n 1, 1) := by decide +kernel
theorem dX7_lays_24 : decode cX7_lays 24 = .ok (.iadd, 1) := by decide +kernel
theorem dX7_lays_25 : decode cX7_lays 25 = .ok (.iconst 1, 1) := by decide +kernel
theorem dX7_lays_26 : decode cX7_lays 26 = .ok (.isub, 1) := by decide +kernel
theorem dX7_lays_27 : decode cX7_lays 27 = .ok (.istore_n 3, 1) := by decide +kernel
theorem dX7_lays_28 : decode cX7_lays 28 = .ok (.bipush 14, 2) := by decide +kernel
theorem dX7_lays_30 : decode cX7_lays 30 = .ok (.istore 4, 2) := by decide +kernel
theorem dX7_lays_32 : decode cX7_lays 32 = .ok (.iload 4, 2) := by decide +kernel
theorem dX7_lays_34 : decode cX7_lays 34 = .ok (.bipush 10, 2) := by decide +kernel
theorem dX7_lays_36 : decode cX7_lays 36 = .ok (.if_icmp .lt 94, 3) := by decide +kernel
theorem dX7_lays_39 : decode cX7_lays 39 = .ok (.iconst 0, 1) := by decide +kernel
theorem dX7_lays_40 : decode cX7_lays 40 = .ok (.istore 5, 2) := by decide +kernel
theorem dX7_lays_42 : decode cX7_lays 42 = .ok (.iconst 0, 1) := by decide +kernel
theorem dX7_lays_43 : decode cX7_lays 43 = .ok (.istore 6, 2) := by decide +kernel
theorem dX7_lays_45 : decode cX7_lays 45 = .ok (.iload 6, 2) := by decide +kernel
theorem dX7_lays_47 : decode cX7_lays 47 = .ok (.aload_n 0, 1) := by decide +kernel
theorem dX7_lays_48 : decode cX7_lays 48 = .ok (.getfield 96, 3) := by decide +kernel
theorem dX7_lays_51 : decode cX7_lays 51 = .ok (.if_icmp .ge 51, 3) := by decide +kernel
theorem dX7_lays_54 : decode cX7_lays 54 = .ok (.iload 5, 2) := by decide +kernel
theorem dX7_lays_56 : decode cX7_lays 56 = .ok (.aload_n 0, 1) := by decide +kernel
theorem dX7_lays_57 : decode cX7_lays 57 = .ok (.getfield 28, 3) := by decide +kernel
theorem dX7_lays_60 : decode cX7_lays 60 = .ok (.iload 6, 2) := by decide +kernel
theorem dX7_lays_62 : decode cX7_lays 62 = .ok (.baload, 1) := by decide +kernel
theorem dX7_lays_63 : decode cX7_lays 63 = .ok (.ifCond .ne 26, 3) := by decide +kernel
theorem dX7_lays_66 : decode cX7_lays 66 = .ok (.aload_n 0, 1) := by decide +kernel
theorem dX7_lays_67 : decode cX7_lays 67 = .ok (.getfield 7, 3) := by decide +kernel
theorem dX7_lays_70 : decode cX7_lays 70 = .ok (.iload 6, 2) := by decide +kernel
theorem dX7_lays_72 : decode cX7_lays 72 = .ok (.iaload, 1) := by decide +kernel
theorem dX7_lays_73 : decode cX7_lays 73 = .ok (.iload 4, 2) := by decide +kernel
theorem dX7_lays_75 : decode cX7_lays 75 = .ok (.if_icmp .ne 14, 3) := by decide +kernel
theorem dX7_lays_78 : decode cX7_lays 78 = .ok (.aload_n 0, 1) := by decide +kernel
theorem dX7_lays_79 : decode cX7_lays 79 = .ok (.iload 6, 2) := by decide +kernel
theorem dX7_lays_81 : decode cX7_lays 81 = .ok (.iload_n 2, 1) := by decide +kernel
theorem dX7_lays_82 : decode cX7_lays 82 = .ok (.iload_n 3, 1) := by decide +kernel
theorem dX7_lays_83 : decode cX7_lays 83 = .ok (.invokevirtual 99, 3) := by decide +kernel
theorem dX7_lays_86 : decode cX7_lays 86 = .ok (.goto 4, 3) := by decide +kernel
theorem dX7_lays_89 : decode cX7_lays 89 = .ok (.iconst 0, 1) := by decide +kernel
theorem dX7_lays_90 : decode cX7_lays 90 = .ok (.iadd, 1) := by decide +kernel
theorem dX7_lays_91 : decode cX7_lays 91 = .ok (.invokestatic 85, 3) := by decide +kernel
theorem dX7_lays_94 : decode cX7_lays 94 = .ok (.istore 5, 2) := by decide +kernel
theorem dX7_lays_96 : decode cX7_lays 96 = .ok (.iinc 6 1, 3) := by decide +kernel
theorem dX7_lays_99 : decode cX7_lays 99 = .ok (.goto (-54), 3) := by decide +kernel
theorem dX7_lays_102 : decode cX7_lays 102 = .ok (.aload_n 0, 1) := by decide +kernel
theorem dX7_lays_103 : decode cX7_lays 103 = .ok (.getfield 47, 3) := by decide +kernel
theorem dX7_lays_106 : decode cX7_lays 106 = .ok (.bipush 100, 2) := by decide +kernel
theorem dX7_lays_108 : decode cX7_lays 108 = .ok (.iload 4, 2) := by decide +kernel
theorem dX7_lays_110 : decode cX7_lays 110 = .ok (.bipush 10, 2) := by decide +kernel
theorem dX7_lays_112 : decode cX7_lays 112 = .ok (.isub, 1) := by decide +kernel
theorem dX7_lays_113 : decode cX7_lays 113 = .ok (.imul, 1) := by decide +kernel
theorem dX7_lays_114 : decode cX7_lays 114 = .ok (.bipush 10, 2) := by decide +kernel
theorem dX7_lays_116 : decode cX7_lays 116 = .ok (.iload_n 2, 1) := by decide +kernel
theorem dX7_lays_117 : decode cX7_lays 117 = .ok (.imul, 1) := by decide +kernel
theorem dX7_lays_118 : decode cX7_lays 118 = .ok (.iadd, 1) := by decide +kernel
theorem dX7_lays_119 : decode cX7_lays 119 = .ok (.iload_n 3, 1) := by decide +kernel
theorem dX7_lays_120 : decode cX7_lays 120 = .ok (.iadd, 1) := by decide +kernel
theorem dX7_lays_121 : decode cX7_lays 121 = .ok (.iload 5, 2) := by decide +kernel
theorem dX7_lays_123 : decode cX7_lays 123 = .ok (.iastore, 1) := by decide +kernel
theorem dX7_lays_124 : decode cX7_lays 124 = .ok (.iinc 4 (-1), 3) := by decide +kernel
theorem dX7_lays_127 : decode cX7_lays 127 = .ok (.goto (-95), 3) := by decide +kernel
theorem dX7_lays_130 : decode cX7_lays 130 = .ok (.iinc 2 1, 3) := by decide +kernel
theorem dX7_lays_133 : decode cX7_lays 133 = .ok (.goto (-121), 3) := by decide +kernel
theorem dX7_lays_136 : decode cX7_lays 136 = .ok (.iinc 1 1, 3) := by decide +kernel
theorem dX7_lays_139 : decode cX7_lays 139 = .ok (.goto (-137), 3) := by decide +kernel
theorem dX7_lays_142 : decode cX7_lays 142 = .ok (.return_, 1) := by decide +kernel
theorem dX7_laysText_0 : decode cX7_laysText 0 = .ok (.aload_n 0, 1) := by decide +kernel
theorem dX7_laysText_1 : decode cX7_laysText 1 = .ok (.aload_n 0, 1) := by decide +kernel
theorem dX7_laysText_2 : decode cX7_laysText 2 = .ok (.getfield 35, 3) := by decide +kernel
theorem dX7_laysText_5 : decode cX7_laysText 5 = .ok (.iload_n 1, 1) := by decide +kernel
theorem dX7_laysText_6 : decode cX7_laysText 6 = .ok (.iaload, 1) := by decide +kernel
theorem dX7_laysText_7 : decode cX7_laysText 7 = .ok (.putfield 93, 3) := by decide +kernel
theorem dX7_laysText_10 : decode cX7_laysText 10 = .ok (.iconst 0, 1) := by decide +kernel
theorem dX7_laysText_11 : decode cX7_laysText 11 = .ok (.istore_n 2, 1) := by decide +kernel
theorem dX7_laysText_12 : decode cX7_laysText 12 = .ok (.iload_n 2, 1) := by decide +kernel
theorem dX7_laysText_13 : decode cX7_laysText 13 = .ok (.aload_n 0, 1) := by decide +kernel
theorem dX7_laysText_14 : decode cX7_laysText 14 = .ok (.getfield 93, 3) := by decide +kernel
theorem dX7_laysText_17 : decode cX7_laysText 17 = .ok (.if_icmp .ge 26, 3) := by decide +kernel
theorem dX7_laysText_20 : decode cX7_laysText 20 = .ok (.aload_n 0, 1) := by decide +kernel
theorem dX7_laysText_21 : decode cX7_laysText 21 = .ok (.getfield 44, 3) := by decide +kernel
theorem dX7_laysText_24 : decode cX7_laysText 24 = .ok (.iload_n 2, 1) := by decide +kernel
theorem dX7_laysText_25 : decode cX7_laysText 25 = .ok (.aload_n 0, 1) := by decide +kernel
theorem dX7_laysText_26 : decode cX7_laysText 26 = .ok (.getfield 32, 3) := by decide +kernel
theorem dX7_laysText_29 : decode cX7_laysText 29 = .ok (.bipush 10, 2) := by decide +kernel
theorem dX7_laysText_31 : decode cX7_laysText 31 = .ok (.iload_n 1, 1) := by decide +kernel
theorem dX7_laysText_32 : decode cX7_laysText 32 = .ok (.imul, 1) := by decide +kernel
theorem dX7_laysText_33 : decode cX7_laysText 33 = .ok (.iload_n 2, 1) := by decide +kernel
theorem dX7_laysText_34 : decode cX7_laysText 34 = .ok (.iadd, 1) := by decide +kernel
theorem dX7_laysText_35 : decode cX7_laysText 35 = .ok (.iaload, 1) := by decide +kernel
theorem dX7_laysText_36 : decode cX7_laysText 36 = .ok (.iastore, 1) := by decide +kernel
theorem dX7_laysText_37 : decode cX7_laysText 37 = .ok (.iinc 2 1, 3) := by decide +kernel
theorem dX7_laysText_40 : decode cX7_laysText 40 = .ok (.goto (-28), 3) := by decide +kernel
theorem dX7_laysText_43 : decode cX7_laysText 43 = .ok (.aload_n 0, 1) := by decide +kernel
theorem dX7_laysText_44 : decode cX7_laysText 44 = .ok (.invokevirtual 102, 3) := by decide +kernel
theorem dX7_laysText_47 : decode cX7_laysText 47 = .ok (.aload_n 0, 1) := by decide +kernel
theorem dX7_laysText_48 : decode cX7_laysText 48 = .ok (.bipush 10, 2) := by decide +kernel
theorem dX7_laysText_50 : decode cX7_laysText 50 = .ok (.iconst 0, 1) := by decide +kernel
theorem dX7_laysText_51 : decode cX7_laysText 51 = .ok (.aload_n 0, 1) := by decide +kernel
theorem dX7_laysText_52 : decode cX7_laysText 52 = .ok (.getfield 93, 3) := by decide +kernel
theorem dX7_laysText_55 : decode cX7_laysText 55 = .ok (.iconst 1, 1) := by decide +kernel
theorem dX7_laysText_56 : decode cX7_laysText 56 = .ok (.isub, 1) := by decide +kernel
theorem dX7_laysText_57 : decode cX7_laysText 57 = .ok (.invokevirtual 81, 3) := by decide +kernel
theorem dX7_laysText_60 : decode cX7_laysText 60 = .ok (.ireturn, 1) := by decide +kernel
theorem dX7_chosen_0 : decode cX7_chosen 0 = .ok (.iconst (-1), 1) := by decide +kernel
theorem dX7_chosen_1 : decode cX7_chosen 1 = .ok (.istore 4, 2) := by decide +kernel
theorem dX7_chosen_3 : decode cX7_chosen 3 = .ok (.iconst 0, 1) := by decide +kernel
theorem dX7_chosen_4 : decode cX7_chosen 4 = .ok (.istore 5, 2) := by decide +kernel
theorem dX7_chosen_6 : decode cX7_chosen 6 = .ok (.iload 5, 2) := by decide +kernel
theorem dX7_chosen_8 : decode cX7_chosen 8 = .ok (.aload_n 0, 1) := by decide +kernel
theorem dX7_chosen_9 : decode cX7_chosen 9 = .ok (.getfield 96, 3) := by decide +kernel
theorem dX7_chosen_12 : decode cX7_chosen 12 = .ok (.if_icmp .ge 85, 3) := by decide +kernel
theorem dX7_chosen_15 : decode cX7_chosen 15 = .ok (.aload_n 0, 1) := by decide +kernel
theorem dX7_chosen_16 : decode cX7_chosen 16 = .ok (.getfield 28, 3) := by decide +kernel
theorem dX7_chosen_19 : decode cX7_chosen 19 = .ok (.iload 5, 2) := by decide +kernel
theorem dX7_chosen_21 : decode cX7_chosen 21 = .ok (.baload, 1) := by decide +kernel
theorem dX7_chosen_22 : decode cX7_chosen 22 = .ok (.ifCond .ne 29, 3) := by decide +kernel
theorem dX7_chosen_25 : decode cX7_chosen 25 = .ok (.aload_n 0, 1) := by decide +kernel
theorem dX7_chosen_26 : decode cX7_chosen 26 = .ok (.getfield 7, 3) := by decide +kernel
theorem dX7_chosen_29 : decode cX7_chosen 29 = .ok (.iload 5, 2) := by decide +kernel
theorem dX7_chosen_31 : decode cX7_chosen 31 = .ok (.iaload, 1) := by decide +kernel
theorem dX7_chosen_32 : decode cX7_chosen 32 = .ok (.iload_n 1, 1) := by decide +kernel
theorem dX7_chosen_33 : decode cX7_chosen 33 = .ok (.if_icmp .ne 18, 3) := by decide +kernel
theorem dX7_chosen_36 : decode cX7_chosen 36 = .ok (.aload_n 0, 1) := by decide +kernel
theorem dX7_chosen_37 : decode cX7_chosen 37 = .ok (.iload 5, 2) := by decide +kernel
theorem dX7_chosen_39 : decode cX7_chosen 39 = .ok (.iload_n 2, 1) := by decide +kernel
theorem dX7_chosen_40 : decode cX7_chosen 40 = .ok (.iload_n 3, 1) := by decide +kernel
theorem dX7_chosen_41 : decode cX7_chosen 41 = .ok (.invokevirtual 99, 3) := by decide +kernel
theorem dX7_chosen_44 : decode cX7_chosen 44 = .ok (.ifCond .le 7, 3) := by decide +kernel
theorem dX7_chosen_47 : decode cX7_chosen 47 = .ok (.iconst 1, 1) := by decide +kernel
theorem dX7_chosen_48 : decode cX7_chosen 48 = .ok (.goto 4, 3) := by decide +kernel
theorem dX7_chosen_51 : decode cX7_chosen 51 = .ok (.iconst 0, 1) := by decide +kernel
theorem dX7_chosen_52 : decode cX7_chosen 52 = .ok (.istore 6, 2) := by decide +kernel
theorem dX7_chosen_54 : decode cX7_chosen 54 = .ok (.iload 6, 2) := by decide +kernel
theorem dX7_chosen_56 : decode cX7_chosen 56 = .ok (.ifCond .eq 31, 3) := by decide +kernel
theorem dX7_chosen_59 : decode cX7_chosen 59 = .ok (.iload 4, 2) := by decide +kernel
theorem dX7_chosen_61 : decode cX7_chosen 61 = .ok (.iconst (-1), 1) := by decide +kernel
theorem dX7_chosen_62 : decode cX7_chosen 62 = .ok (.if_icmp .eq 20, 3) := by decide +kernel
theorem dX7_chosen_65 : decode cX7_chosen 65 = .ok (.aload_n 0, 1) := by decide +kernel
theorem dX7_chosen_66 : decode cX7_chosen 66 = .ok (.getfield 19, 3) := by decide +kernel
theorem dX7_chosen_69 : decode cX7_chosen 69 = .ok (.iload 5, 2) := by decide +kernel
theorem dX7_chosen_71 : decode cX7_chosen 71 = .ok (.iaload, 1) := by decide +kernel
theorem dX7_chosen_72 : decode cX7_chosen 72 = .ok (.aload_n 0, 1) := by decide +kernel
theorem dX7_chosen_73 : decode cX7_chosen 73 = .ok (.getfield 19, 3) := by decide +kernel
theorem dX7_chosen_76 : decode cX7_chosen 76 = .ok (.iload 4, 2) := by decide +kernel
theorem dX7_chosen_78 : decode cX7_chosen 78 = .ok (.iaload, 1) := by decide +kernel
theorem dX7_chosen_79 : decode cX7_chosen 79 = .ok (.if_icmp .le 8, 3) := by decide +kernel
theorem dX7_chosen_82 : decode cX7_chosen 82 = .ok (.iload 5, 2) := by decide +kernel
theorem dX7_chosen_84 : decode cX7_chosen 84 = .ok (.goto 5, 3) := by decide +kernel
theorem dX7_chosen_87 : decode cX7_chosen 87 = .ok (.iload 4, 2) := by decide +kernel
theorem dX7_chosen_89 : decode cX7_chosen 89 = .ok (.istore 4, 2) := by decide +kernel
theorem dX7_chosen_91 : decode cX7_chosen 91 = .ok (.iinc 5 1, 3) := by decide +kernel
theorem dX7_chosen_94 : decode cX7_chosen 94 = .ok (.goto (-88), 3) := by decide +kernel
theorem dX7_chosen_97 : decode cX7_chosen 97 = .ok (.iload 4, 2) := by decide +kernel
theorem dX7_chosen_99 : decode cX7_chosen 99 = .ok (.ireturn, 1) := by decide +kernel
theorem dX7_sees_0 : decode cX7_sees 0 = .ok (.iload_n 1, 1) := by decide +kernel
theorem dX7_sees_1 : decode cX7_sees 1 = .ok (.invokestatic 74, 3) := by decide +kernel
theorem dX7_sees_4 : decode cX7_sees 4 = .ok (.ifCond .eq 15, 3) := by decide +kernel
theorem dX7_sees_7 : decode cX7_sees 7 = .ok (.aload_n 0, 1) := by decide +kernel
theorem dX7_sees_8 : decode cX7_sees 8 = .ok (.iload_n 1, 1) := by decide +kernel
theorem dX7_sees_9 : decode cX7_sees 9 = .ok (.iload_n 2, 1) := by decide +kernel
theorem dX7_sees_10 : decode cX7_sees 10 = .ok (.iload_n 3, 1) := by decide +kernel
theorem dX7_sees_11 : decode cX7_sees 11 = .ok (.iload 4, 2) := by decide +kernel
theorem dX7_sees_13 : decode cX7_sees 13 = .ok (.iload 5, 2) := by decide +kernel
theorem dX7_sees_15 : decode cX7_sees 15 = .ok (.invokevirtual 105, 3) := by decide +kernel
theorem dX7_sees_18 : decode cX7_sees 18 = .ok (.return_, 1) := by decide +kernel
theorem dX7_sees_19 : decode cX7_sees 19 = .ok (.aload_n 0, 1) := by decide +kernel
theorem dX7_sees_20 : decode cX7_sees 20 = .ok (.getfield 53, 3) := by decide +kernel
theorem dX7_sees_23 : decode cX7_sees 23 = .ok (.iload_n 2, 1) := by decide +kernel
theorem dX7_sees_24 : decode cX7_sees 24 = .ok (.iload 5, 2) := by decide +kernel
theorem dX7_sees_26 : decode cX7_sees 26 = .ok (.iastore, 1) := by decide +kernel
theorem dX7_sees_27 : decode cX7_sees 27 = .ok (.aload_n 0, 1) := by decide +kernel
theorem dX7_sees_28 : decode cX7_sees 28 = .ok (.getfield 56, 3) := by decide +kernel
theorem dX7_sees_31 : decode cX7_sees 31 = .ok (.aload_n 0, 1) := by decide +kernel
theorem dX7_sees_32 : decode cX7_sees 32 = .ok (.getfield 109, 3) := by decide +kernel
theorem dX7_sees_35 : decode cX7_sees 35 = .ok (.bipush 97, 2) := by decide +kernel
theorem dX7_sees_37 : decode cX7_sees 37 = .ok (.iload_n 1, 1) := by decide +kernel
theorem dX7_sees_38 : decode cX7_sees 38 = .ok (.iadd, 1) := by decide +kernel
theorem dX7_sees_39 : decode cX7_sees 39 = .ok (.i2c, 1) := by decide +kernel
theorem dX7_sees_40 : decode cX7_sees 40 = .ok (.castore, 1) := by decide +kernel
theorem dX7_sees_41 : decode cX7_sees 41 = .ok (.aload_n 0, 1) := by decide +kernel
theorem dX7_sees_42 : decode cX7_sees 42 = .ok (.dup, 1) := by decide +kernel
theorem dX7_sees_43 : decode cX7_sees 43 = .ok (.getfield 109, 3) := by decide +kernel
theorem dX7_sees_46 : decode cX7_sees 46 = .ok (.iconst 1, 1) := by decide +kernel
theorem dX7_sees_47 : decode cX7_sees 47 = .ok (.iadd, 1) := by decide +kernel
theorem dX7_sees_48 : decode cX7_sees 48 = .ok (.putfield 109, 3) := by decide +kernel
theorem dX7_sees_51 : decode cX7_sees 51 = .ok (.return_, 1) := by decide +kernel
theorem dX7_blanks_0 : decode cX7_blanks 0 = .ok (.iconst 0, 1) := by decide +kernel
theorem dX7_blanks_1 : decode cX7_blanks 1 = .ok (.istore_n 2, 1) := by decide +kernel
theorem dX7_blanks_2 : decode cX7_blanks 2 = .ok (.iload_n 2, 1) := by decide +kernel
theorem dX7_blanks_3 : decode cX7_blanks 3 = .ok (.aload_n 0, 1) := by decide +kernel
theorem dX7_blanks_4 : decode cX7_blanks 4 = .ok (.getfield 25, 3) := by decide +kernel
theorem dX7_blanks_7 : decode cX7_blanks 7 = .ok (.iload_n 1, 1) := by decide +kernel
theorem dX7_blanks_8 : decode cX7_blanks 8 = .ok (.iaload, 1) := by decide +kernel
theorem dX7_blanks_9 : decode cX7_blanks 9 = .ok (.if_icmp .ge 30, 3) := by decide +kernel
theorem dX7_blanks_12 : decode cX7_blanks 12 = .ok (.aload_n 0, 1) := by decide +kernel
theorem dX7_blanks_13 : decode cX7_blanks 13 = .ok (.getfield 56, 3) := by decide +kernel
theorem dX7_blanks_16 : decode cX7_blanks 16 = .ok (.aload_n 0, 1) := by decide +kernel
theorem dX7_blanks_17 : decode cX7_blanks 17 = .ok (.getfield 109, 3) := by decide +kernel
theorem dX7_blanks_20 : decode cX7_blanks 20 = .ok (.bipush 32, 2) := by decide +kernel
theorem dX7_blanks_22 : decode cX7_blanks 22 = .ok (.castore, 1) := by decide +kernel
theorem dX7_blanks_23 : decode cX7_blanks 23 = .ok (.aload_n 0, 1) := by decide +kernel
theorem dX7_blanks_24 : decode cX7_blanks 24 = .ok (.dup, 1) := by decide +kernel
theorem dX7_blanks_25 : decode cX7_blanks 25 = .ok (.getfield 109, 3) := by decide +kernel
theorem dX7_blanks_28 : decode cX7_blanks 28 = .ok (.iconst 1, 1) := by decide +kernel
theorem dX7_blanks_29 : decode cX7_blanks 29 = .ok (.iadd, 1) := by decide +kernel
theorem dX7_blanks_30 : decode cX7_blanks 30 = .ok (.putfield 109, 3) := by decide +kernel
theorem dX7_blanks_33 : decode cX7_blanks 33 = .ok (.iinc 2 1, 3) := by decide +kernel
theorem dX7_blanks_36 : decode cX7_blanks 36 = .ok (.goto (-34), 3) := by decide +kernel
theorem dX7_blanks_39 : decode cX7_blanks 39 = .ok (.return_, 1) := by decide +kernel
theorem dX7_cut_0 : decode cX7_cut 0 = .ok (.iload_n 3, 1) := by decide +kernel
theorem dX7_cut_1 : decode cX7_cut 1 = .ok (.istore 5, 2) := by decide +kernel
theorem dX7_cut_3 : decode cX7_cut 3 = .ok (.aload_n 0, 1) := by decide +kernel
theorem dX7_cut_4 : decode cX7_cut 4 = .ok (.iload_n 1, 1) := by decide +kernel
theorem dX7_cut_5 : decode cX7_cut 5 = .ok (.iload_n 3, 1) := by decide +kernel
theorem dX7_cut_6 : decode cX7_cut 6 = .ok (.iload 5, 2) := by decide +kernel
theorem dX7_cut_8 : decode cX7_cut 8 = .ok (.invokevirtual 81, 3) := by decide +kernel
theorem dX7_cut_11 : decode cX7_cut 11 = .ok (.ifCond .eq 17, 3) := by decide +kernel
theorem dX7_cut_14 : decode cX7_cut 14 = .ok (.aload_n 0, 1) := by decide +kernel
theorem dX7_cut_15 : decode cX7_cut 15 = .ok (.iload_n 2, 1) := by decide +kernel
theorem dX7_cut_16 : decode cX7_cut 16 = .ok (.iload 5, 2) := by decide +kernel
theorem dX7_cut_18 : decode cX7_cut 18 = .ok (.iconst 1, 1) := by decide +kernel
theorem dX7_cut_19 : decode cX7_cut 19 = .ok (.iadd, 1) := by decide +kernel
theorem dX7_cut_20 : decode cX7_cut 20 = .ok (.iload 4, 2) := by decide +kernel
theorem dX7_cut_22 : decode cX7_cut 22 = .ok (.invokevirtual 81, 3) := by decide +kernel
theorem dX7_cut_25 : decode cX7_cut 25 = .ok (.ifCond .ne 9, 3) := by decide +kernel
theorem dX7_cut_28 : decode cX7_cut 28 = .ok (.iinc 5 1, 3) := by decide +kernel
theorem dX7_cut_31 : decode cX7_cut 31 = .ok (.goto (-28), 3) := by decide +kernel
theorem dX7_cut_34 : decode cX7_cut 34 = .ok (.iload 5, 2) := by decide +kernel
theorem dX7_cut_36 : decode cX7_cut 36 = .ok (.ireturn, 1) := by decide +kernel
theorem dX7_walks_0 : decode cX7_walks 0 = .ok (.aload_n 0, 1) := by decide +kernel
theorem dX7_walks_1 : decode cX7_walks 1 = .ok (.iload_n 1, 1) := by decide +kernel
theorem dX7_walks_2 : decode cX7_walks 2 = .ok (.iload_n 2, 1) := by decide +kernel
theorem dX7_walks_3 : decode cX7_walks 3 = .ok (.iload_n 3, 1) := by decide +kernel
theorem dX7_walks_4 : decode cX7_walks 4 = .ok (.invokevirtual 112, 3) := by decide +kernel
theorem dX7_walks_7 : decode cX7_walks 7 = .ok (.istore 6, 2) := by decide +kernel
theorem dX7_walks_9 : decode cX7_walks 9 = .ok (.aload_n 0, 1) := by decide +kernel
theorem dX7_walks_10 : decode cX7_walks 10 = .ok (.getfield 22, 3) := by decide +kernel
theorem dX7_walks_13 : decode cX7_walks 13 = .ok (.iload 6, 2) := by decide +kernel
theorem dX7_walks_15 : decode cX7_walks 15 = .ok (.iaload, 1) := by decide +kernel
theorem dX7_walks_16 : decode cX7_walks 16 = .ok (.ifCond .ne 8, 3) := by decide +kernel
theorem dX7_walks_19 : decode cX7_walks 19 = .ok (.iload 5, 2) := by decide +kernel
theorem dX7_walks_21 : decode cX7_walks 21 = .ok (.goto 10, 3) := by decide +kernel
theorem dX7_walks_24 : decode cX7_walks 24 = .ok (.aload_n 0, 1) := by decide +kernel
theorem dX7_walks_25 : decode cX7_walks 25 = .ok (.getfield 22, 3) := by decide +kernel
theorem dX7_walks_28 : decode cX7_walks 28 = .ok (.iload 6, 2) := by decide +kernel
theorem dX7_walks_30 : decode cX7_walks 30 = .ok (.iaload, 1) := by decide +kernel
theorem dX7_walks_31 : decode cX7_walks 31 = .ok (.istore 7, 2) := by decide +kernel
theorem dX7_walks_33 : decode cX7_walks 33 = .ok (.iconst 3, 1) := by decide +kernel
theorem dX7_walks_34 : decode cX7_walks 34 = .ok (.iload 6, 2) := by decide +kernel
theorem dX7_walks_36 : decode cX7_walks 36 = .ok (.imul, 1) := by decide +kernel
theorem dX7_walks_37 : decode cX7_walks 37 = .ok (.istore 8, 2) := by decide +kernel
theorem dX7_walks_39 : decode cX7_walks 39 = .ok (.aload_n 0, 1) := by decide +kernel
theorem dX7_walks_40 : decode cX7_walks 40 = .ok (.getfield 50, 3) := by decide +kernel
theorem dX7_walks_43 : decode cX7_walks 43 = .ok (.aload_n 0, 1) := by decide +kernel
theorem dX7_walks_44 : decode cX7_walks 44 = .ok (.getfield 115, 3) := by decide +kernel
theorem dX7_walks_47 : decode cX7_walks 47 = .ok (.iload 6, 2) := by decide +kernel
theorem dX7_walks_49 : decode cX7_walks 49 = .ok (.iastore, 1) := by decide +kernel
theorem dX7_walks_50 : decode cX7_walks 50 = .ok (.aload_n 0, 1) := by decide +kernel
theorem dX7_walks_51 : decode cX7_walks 51 = .ok (.dup, 1) := by decide +kernel
theorem dX7_walks_52 : decode cX7_walks 52 = .ok (.getfield 115, 3) := by decide +kernel
theorem dX7_walks_55 : decode cX7_walks 55 = .ok (.iconst 1, 1) := by decide +kernel
theorem dX7_walks_56 : decode cX7_walks 56 = .ok (.iadd, 1) := by decide +kernel
theorem dX7_walks_57 : decode cX7_walks 57 = .ok (.putfield 115, 3) := by decide +kernel
theorem dX7_walks_60 : decode cX7_walks 60 = .ok (.aload_n 0, 1) := by decide +kernel
theorem dX7_walks_61 : decode cX7_walks 61 = .ok (.iload 4, 2) := by decide +kernel
theorem dX7_walks_63 : decode cX7_walks 63 = .ok (.aload_n 0, 1) := by decide +kernel
theorem dX7_walks_64 : decode cX7_walks 64 = .ok (.getfield 118, 3) := by decide +kernel
theorem dX7_walks_67 : decode cX7_walks 67 = .ok (.if_icmp .le 8, 3) := by decide +kernel
theorem dX7_walks_70 : decode cX7_walks 70 = .ok (.iload 4, 2) := by decide +kernel
theorem dX7_walks_72 : decode cX7_walks 72 = .ok (.goto 7, 3) := by decide +kernel
theorem dX7_walks_75 : decode cX7_walks 75 = .ok (.aload_n 0, 1) := by decide +kernel
theorem dX7_walks_76 : decode cX7_walks 76 = .ok (.getfield 118, 3) := by decide +kernel
theorem dX7_walks_79 : decode cX7_walks 79 = .ok (.putfield 118, 3) := by decide +kernel
theorem dX7_walks_82 : decode cX7_walks 82 = .ok (.aload_n 0, 1) := by decide +kernel
theorem dX7_walks_83 : decode cX7_walks 83 = .ok (.getfield 16, 3) := by decide +kernel
theorem dX7_walks_86 : decode cX7_walks 86 = .ok (.iload 6, 2) := by decide +kernel
theorem dX7_walks_88 : decode cX7_walks 88 = .ok (.iaload, 1) := by decide +kernel
theorem dX7_walks_89 : decode cX7_walks 89 = .ok (.iconst 1, 1) := by decide +kernel
theorem dX7_walks_90 : decode cX7_walks 90 = .ok (.if_icmp .ne 23, 3) := by decide +kernel
theorem dX7_walks_93 : decode cX7_walks 93 = .ok (.aload_n 0, 1) := by decide +kernel
theorem dX7_walks_94 : decode cX7_walks 94 = .ok (.aload_n 0, 1) := by decide +kernel
theorem dX7_walks_95 : decode cX7_walks 95 = .ok (.getfield 13, 3) := by decide +kernel
theorem dX7_walks_98 : decode cX7_walks 98 = .ok (.iload 8, 2) := by decide +kernel
theorem dX7_walks_100 : decode cX7_walks 100 = .ok (.iaload, 1) := by decide +kernel
theorem dX7_walks_101 : decode cX7_walks 101 = .ok (.iload_n 2, 1) := by decide +kernel
theorem dX7_walks_102 : decode cX7_walks 102 = .ok (.iload_n 3, 1) := by decide +kernel
theorem dX7_walks_103 : decode cX7_walks 103 = .ok (.iload 4, 2) := by decide +kernel
theorem dX7_walks_105 : decode cX7_walks 105 = .ok (.iconst 1, 1) := by decide +kernel
theorem dX7_walks_106 : decode cX7_walks 106 = .ok (.iadd, 1) := by decide +kernel
theorem dX7_walks_107 : decode cX7_walks 107 = .ok (.iload 7, 2) := by decide +kernel
theorem dX7_walks_109 : decode cX7_walks 109 = .ok (.invokevirtual 121, 3) := by decide +kernel
theorem dX7_walks_112 : decode cX7_walks 112 = .ok (.return_, 1) := by decide +kernel
theorem dX7_walks_113 : decode cX7_walks 113 = .ok (.aload_n 0, 1) := by decide +kernel
theorem dX7_walks_114 : decode cX7_walks 114 = .ok (.getfield 16, 3) := by decide +kernel
theorem dX7_walks_117 : decode cX7_walks 117 = .ok (.iload 6, 2) := by decide +kernel
theorem dX7_walks_119 : decode cX7_walks 119 = .ok (.iaload, 1) := by decide +kernel
theorem dX7_walks_120 : decode cX7_walks 120 = .ok (.iconst 2, 1) := by decide +kernel
theorem dX7_walks_121 : decode cX7_walks 121 = .ok (.if_icmp .ne 78, 3) := by decide +kernel
theorem dX7_walks_124 : decode cX7_walks 124 = .ok (.aload_n 0, 1) := by decide +kernel
theorem dX7_walks_125 : decode cX7_walks 125 = .ok (.aload_n 0, 1) := by decide +kernel
theorem dX7_walks_126 : decode cX7_walks 126 = .ok (.getfield 13, 3) := by decide +kernel
theorem dX7_walks_129 : decode cX7_walks 129 = .ok (.iload 8, 2) := by decide +kernel
theorem dX7_walks_131 : decode cX7_walks 131 = .ok (.iaload, 1) := by decide +kernel
theorem dX7_walks_132 : decode cX7_walks 132 = .ok (.aload_n 0, 1) := by decide +kernel
theorem dX7_walks_133 : decode cX7_walks 133 = .ok (.getfield 13, 3) := by decide +kernel
theorem dX7_walks_136 : decode cX7_walks 136 = .ok (.iload 8, 2) := by decide +kernel
theorem dX7_walks_138 : decode cX7_walks 138 = .ok (.iconst 1, 1) := by decide +kernel
theorem dX7_walks_139 : decode cX7_walks 139 = .ok (.iadd, 1) := by decide +kernel
theorem dX7_walks_140 : decode cX7_walks 140 = .ok (.iaload, 1) := by decide +kernel
theorem dX7_walks_141 : decode cX7_walks 141 = .ok (.iload_n 2, 1) := by decide +kernel
theorem dX7_walks_142 : decode cX7_walks 142 = .ok (.iload_n 3, 1) := by decide +kernel
theorem dX7_walks_143 : decode cX7_walks 143 = .ok (.invokevirtual 124, 3) := by decide +kernel
theorem dX7_walks_146 : decode cX7_walks 146 = .ok (.istore 9, 2) := by decide +kernel
theorem dX7_walks_148 : decode cX7_walks 148 = .ok (.aload_n 0, 1) := by decide +kernel
theorem dX7_walks_149 : decode cX7_walks 149 = .ok (.aload_n 0, 1) := by decide +kernel
theorem dX7_walks_150 : decode cX7_walks 150 = .ok (.getfield 13, 3) := by decide +kernel
theorem dX7_walks_153 : decode cX7_walks 153 = .ok (.iload 8, 2) := by decide +kernel
theorem dX7_walks_155 : decode cX7_walks 155 = .ok (.iaload, 1) := by decide +kernel
theorem dX7_walks_156 : decode cX7_walks 156 = .ok (.iload_n 2, 1) := by decide +kernel
theorem dX7_walks_157 : decode cX7_walks 157 = .ok (.iload 9, 2) := by decide +kernel
theorem dX7_walks_159 : decode cX7_walks 159 = .ok (.iload 4, 2) := by decide +kernel
theorem dX7_walks_161 : decode cX7_walks 161 = .ok (.iconst 1, 1) := by decide +kernel
theorem dX7_walks_162 : decode cX7_walks 162 = .ok (.iadd, 1) := by decide +kernel
theorem dX7_walks_163 : decode cX7_walks 163 = .ok (.iload 7, 2) := by decide +kernel
theorem dX7_walks_165 : decode cX7_walks 165 = .ok (.invokevirtual 121, 3) := by decide +kernel
theorem dX7_walks_168 : decode cX7_walks 168 = .ok (.aload_n 0, 1) := by decide +kernel
theorem dX7_walks_169 : decode cX7_walks 169 = .ok (.iload 6, 2) := by decide +kernel
theorem dX7_walks_171 : decode cX7_walks 171 = .ok (.invokevirtual 127, 3) := by decide +kernel
theorem dX7_walks_174 : decode cX7_walks 174 = .ok (.aload_n 0, 1) := by decide +kernel
theorem dX7_walks_175 : decode cX7_walks 175 = .ok (.aload_n 0, 1) := by decide +kernel
theorem dX7_walks_176 : decode cX7_walks 176 = .ok (.getfield 13, 3) := by decide +kernel
theorem dX7_walks_179 : decode cX7_walks 179 = .ok (.iload 8, 2) := by decide +kernel
theorem dX7_walks_181 : decode cX7_walks 181 = .ok (.iconst 1, 1) := by decide +kernel
theorem dX7_walks_182 : decode cX7_walks 182 = .ok (.iadd, 1) := by decide +kernel
theorem dX7_walks_183 : decode cX7_walks 183 = .ok (.iaload, 1) := by decide +kernel
theorem dX7_walks_184 : decode cX7_walks 184 = .ok (.iload 9, 2) := by decide +kernel
theorem dX7_walks_186 : decode cX7_walks 186 = .ok (.iconst 1, 1) := by decide +kernel
theorem dX7_walks_187 : decode cX7_walks 187 = .ok (.iadd, 1) := by decide +kernel
theorem dX7_walks_188 : decode cX7_walks 188 = .ok (.iload_n 3, 1) := by decide +kernel
theorem dX7_walks_189 : decode cX7_walks 189 = .ok (.iload 4, 2) := by decide +kernel
theorem dX7_walks_191 : decode cX7_walks 191 = .ok (.iconst 1, 1) := by decide +kernel
theorem dX7_walks_192 : decode cX7_walks 192 = .ok (.iadd, 1) := by decide +kernel
theorem dX7_walks_193 : decode cX7_walks 193 = .ok (.iload 7, 2) := by decide +kernel
theorem dX7_walks_195 : decode cX7_walks 195 = .ok (.invokevirtual 121, 3) := by decide +kernel
theorem dX7_walks_198 : decode cX7_walks 198 = .ok (.return_, 1) := by decide +kernel
theorem dX7_walks_199 : decode cX7_walks 199 = .ok (.iload_n 2, 1) := by decide +kernel
theorem dX7_walks_200 : decode cX7_walks 200 = .ok (.istore 9, 2) := by decide +kernel
theorem dX7_walks_202 : decode cX7_walks 202 = .ok (.aload_n 0, 1) := by decide +kernel
theorem dX7_walks_203 : decode cX7_walks 203 = .ok (.aload_n 0, 1) := by decide +kernel
theorem dX7_walks_204 : decode cX7_walks 204 = .ok (.getfield 13, 3) := by decide +kernel
theorem dX7_walks_207 : decode cX7_walks 207 = .ok (.iload 8, 2) := by decide +kernel
theorem dX7_walks_209 : decode cX7_walks 209 = .ok (.iaload, 1) := by decide +kernel
theorem dX7_walks_210 : decode cX7_walks 210 = .ok (.iload_n 2, 1) := by decide +kernel
theorem dX7_walks_211 : decode cX7_walks 211 = .ok (.iload 9, 2) := by decide +kernel
theorem dX7_walks_213 : decode cX7_walks 213 = .ok (.invokevirtual 81, 3) := by decide +kernel
theorem dX7_walks_216 : decode cX7_walks 216 = .ok (.ifCond .eq 33, 3) := by decide +kernel
theorem dX7_walks_219 : decode cX7_walks 219 = .ok (.aload_n 0, 1) := by decide +kernel
theorem dX7_walks_220 : decode cX7_walks 220 = .ok (.aload_n 0, 1) := by decide +kernel
theorem dX7_walks_221 : decode cX7_walks 221 = .ok (.getfield 13, 3) := by decide +kernel
theorem dX7_walks_224 : decode cX7_walks 224 = .ok (.iload 8, 2) := by decide +kernel
theorem dX7_walks_226 : decode cX7_walks 226 = .ok (.iconst 1, 1) := by decide +kernel
theorem dX7_walks_227 : decode cX7_walks 227 = .ok (.iadd, 1) := by decide +kernel
theorem dX7_walks_228 : decode cX7_walks 228 = .ok (.iaload, 1) := by decide +kernel
theorem dX7_walks_229 : decode cX7_walks 229 = .ok (.aload_n 0, 1) := by decide +kernel
theorem dX7_walks_230 : decode cX7_walks 230 = .ok (.getfield 13, 3) := by decide +kernel
theorem dX7_walks_233 : decode cX7_walks 233 = .ok (.iload 8, 2) := by decide +kernel
theorem dX7_walks_235 : decode cX7_walks 235 = .ok (.iconst 2, 1) := by decide +kernel
theorem dX7_walks_236 : decode cX7_walks 236 = .ok (.iadd, 1) := by decide +kernel
theorem dX7_walks_237 : decode cX7_walks 237 = .ok (.iaload, 1) := by decide +kernel
theorem dX7_walks_238 : decode cX7_walks 238 = .ok (.iload 9, 2) := by decide +kernel
theorem dX7_walks_240 : decode cX7_walks 240 = .ok (.iconst 1, 1) := by decide +kernel
theorem dX7_walks_241 : decode cX7_walks 241 = .ok (.iadd, 1) := by decide +kernel
theorem dX7_walks_242 : decode cX7_walks 242 = .ok (.iload_n 3, 1) := by decide +kernel
theorem dX7_walks_243 : decode cX7_walks 243 = .ok (.invokevirtual 89, 3) := by decide +kernel
theorem dX7_walks_246 : decode cX7_walks 246 = .ok (.ifCond .ne 9, 3) := by decide +kernel
theorem dX7_walks_249 : decode cX7_walks 249 = .ok (.iinc 9 1, 3) := by decide +kernel
theorem dX7_walks_252 : decode cX7_walks 252 = .ok (.goto (-50), 3) := by decide +kernel
theorem dX7_walks_255 : decode cX7_walks 255 = .ok (.aload_n 0, 1) := by decide +kernel
theorem dX7_walks_256 : decode cX7_walks 256 = .ok (.aload_n 0, 1) := by decide +kernel
theorem dX7_walks_257 : decode cX7_walks 257 = .ok (.getfield 13, 3) := by decide +kernel
theorem dX7_walks_260 : decode cX7_walks 260 = .ok (.iload 8, 2) := by decide +kernel
theorem dX7_walks_262 : decode cX7_walks 262 = .ok (.iconst 1, 1) := by decide +kernel
theorem dX7_walks_263 : decode cX7_walks 263 = .ok (.iadd, 1) := by decide +kernel
theorem dX7_walks_264 : decode cX7_walks 264 = .ok (.iaload, 1) := by decide +kernel
theorem dX7_walks_265 : decode cX7_walks 265 = .ok (.aload_n 0, 1) := by decide +kernel
theorem dX7_walks_266 : decode cX7_walks 266 = .ok (.getfield 13, 3) := by decide +kernel
theorem dX7_walks_269 : decode cX7_walks 269 = .ok (.iload 8, 2) := by decide +kernel
theorem dX7_walks_271 : decode cX7_walks 271 = .ok (.iconst 2, 1) := by decide +kernel
theorem dX7_walks_272 : decode cX7_walks 272 = .ok (.iadd, 1) := by decide +kernel
theorem dX7_walks_273 : decode cX7_walks 273 = .ok (.iaload, 1) := by decide +kernel
theorem dX7_walks_274 : decode cX7_walks 274 = .ok (.iload 9, 2) := by decide +kernel
theorem dX7_walks_276 : decode cX7_walks 276 = .ok (.iconst 1, 1) := by decide +kernel
theorem dX7_walks_277 : decode cX7_walks 277 = .ok (.iadd, 1) := by decide +kernel
theorem dX7_walks_278 : decode cX7_walks 278 = .ok (.iload_n 3, 1) := by decide +kernel
theorem dX7_walks_279 : decode cX7_walks 279 = .ok (.invokevirtual 124, 3) := by decide +kernel
theorem dX7_walks_282 : decode cX7_walks 282 = .ok (.istore 10, 2) := by decide +kernel
theorem dX7_walks_284 : decode cX7_walks 284 = .ok (.aload_n 0, 1) := by decide +kernel
theorem dX7_walks_285 : decode cX7_walks 285 = .ok (.aload_n 0, 1) := by decide +kernel
theorem dX7_walks_286 : decode cX7_walks 286 = .ok (.getfield 13, 3) := by decide +kernel
theorem dX7_walks_289 : decode cX7_walks 289 = .ok (.iload 8, 2) := by decide +kernel
theorem dX7_walks_291 : decode cX7_walks 291 = .ok (.iaload, 1) := by decide +kernel
theorem dX7_walks_292 : decode cX7_walks 292 = .ok (.iload_n 2, 1) := by decide +kernel
theorem dX7_walks_293 : decode cX7_walks 293 = .ok (.iload 9, 2) := by decide +kernel
theorem dX7_walks_295 : decode cX7_walks 295 = .ok (.iload 4, 2) := by decide +kernel
theorem dX7_walks_297 : decode cX7_walks 297 = .ok (.iconst 1, 1) := by decide +kernel
theorem dX7_walks_298 : decode cX7_walks 298 = .ok (.iadd, 1) := by decide +kernel
theorem dX7_walks_299 : decode cX7_walks 299 = .ok (.iload 7, 2) := by decide +kernel
theorem dX7_walks_301 : decode cX7_walks 301 = .ok (.invokevirtual 121, 3) := by decide +kernel
theorem dX7_walks_304 : decode cX7_walks 304 = .ok (.aload_n 0, 1) := by decide +kernel
theorem dX7_walks_305 : decode cX7_walks 305 = .ok (.iload 6, 2) := by decide +kernel
theorem dX7_walks_307 : decode cX7_walks 307 = .ok (.invokevirtual 127, 3) := by decide +kernel
theorem dX7_walks_310 : decode cX7_walks 310 = .ok (.aload_n 0, 1) := by decide +kernel
theorem dX7_walks_311 : decode cX7_walks 311 = .ok (.aload_n 0, 1) := by decide +kernel
theorem dX7_walks_312 : decode cX7_walks 312 = .ok (.getfield 13, 3) := by decide +kernel
theorem dX7_walks_315 : decode cX7_walks 315 = .ok (.iload 8, 2) := by decide +kernel
theorem dX7_walks_317 : decode cX7_walks 317 = .ok (.iconst 1, 1) := by decide +kernel
theorem dX7_walks_318 : decode cX7_walks 318 = .ok (.iadd, 1) := by decide +kernel
theorem dX7_walks_319 : decode cX7_walks 319 = .ok (.iaload, 1) := by decide +kernel
theorem dX7_walks_320 : decode cX7_walks 320 = .ok (.iload 9, 2) := by decide +kernel
theorem dX7_walks_322 : decode cX7_walks 322 = .ok (.iconst 1, 1) := by decide +kernel
theorem dX7_walks_323 : decode cX7_walks 323 = .ok (.iadd, 1) := by decide +kernel
theorem dX7_walks_324 : decode cX7_walks 324 = .ok (.iload 10, 2) := by decide +kernel
theorem dX7_walks_326 : decode cX7_walks 326 = .ok (.iload 4, 2) := by decide +kernel
theorem dX7_walks_328 : decode cX7_walks 328 = .ok (.iconst 1, 1) := by decide +kernel
theorem dX7_walks_329 : decode cX7_walks 329 = .ok (.iadd, 1) := by decide +kernel
theorem dX7_walks_330 : decode cX7_walks 330 = .ok (.iload 7, 2) := by decide +kernel
theorem dX7_walks_332 : decode cX7_walks 332 = .ok (.invokevirtual 121, 3) := by decide +kernel
theorem dX7_walks_335 : decode cX7_walks 335 = .ok (.aload_n 0, 1) := by decide +kernel
theorem dX7_walks_336 : decode cX7_walks 336 = .ok (.iload 6, 2) := by decide +kernel
theorem dX7_walks_338 : decode cX7_walks 338 = .ok (.invokevirtual 127, 3) := by decide +kernel
theorem dX7_walks_341 : decode cX7_walks 341 = .ok (.aload_n 0, 1) := by decide +kernel
theorem dX7_walks_342 : decode cX7_walks 342 = .ok (.aload_n 0, 1) := by decide +kernel
theorem dX7_walks_343 : decode cX7_walks 343 = .ok (.getfield 13, 3) := by decide +kernel
theorem dX7_walks_346 : decode cX7_walks 346 = .ok (.iload 8, 2) := by decide +kernel
theorem dX7_walks_348 : decode cX7_walks 348 = .ok (.iconst 2, 1) := by decide +kernel
theorem dX7_walks_349 : decode cX7_walks 349 = .ok (.iadd, 1) := by decide +kernel
theorem dX7_walks_350 : decode cX7_walks 350 = .ok (.iaload, 1) := by decide +kernel
theorem dX7_walks_351 : decode cX7_walks 351 = .ok (.iload 10, 2) := by decide +kernel
theorem dX7_walks_353 : decode cX7_walks 353 = .ok (.iconst 1, 1) := by decide +kernel
theorem dX7_walks_354 : decode cX7_walks 354 = .ok (.iadd, 1) := by decide +kernel
theorem dX7_walks_355 : decode cX7_walks 355 = .ok (.iload_n 3, 1) := by decide +kernel
theorem dX7_walks_356 : decode cX7_walks 356 = .ok (.iload 4, 2) := by decide +kernel
theorem dX7_walks_358 : decode cX7_walks 358 = .ok (.iconst 1, 1) := by decide +kernel
theorem dX7_walks_359 : decode cX7_walks 359 = .ok (.iadd, 1) := by decide +kernel
theorem dX7_walks_360 : decode cX7_walks 360 = .ok (.iload 7, 2) := by decide +kernel
theorem dX7_walks_362 : decode cX7_walks 362 = .ok (.invokevirtual 121, 3) := by decide +kernel
theorem dX7_walks_365 : decode cX7_walks 365 = .ok (.return_, 1) := by decide +kernel
theorem dX7_walksText_0 : decode cX7_walksText 0 = .ok (.aload_n 0, 1) := by decide +kernel
theorem dX7_walksText_1 : decode cX7_walksText 1 = .ok (.iload_n 1, 1) := by decide +kernel
theorem dX7_walksText_2 : decode cX7_walksText 2 = .ok (.invokevirtual 131, 3) := by decide +kernel
theorem dX7_walksText_5 : decode cX7_walksText 5 = .ok (.istore_n 2, 1) := by decide +kernel
theorem dX7_walksText_6 : decode cX7_walksText 6 = .ok (.aload_n 0, 1) := by decide +kernel
theorem dX7_walksText_7 : decode cX7_walksText 7 = .ok (.iconst 0, 1) := by decide +kernel
theorem dX7_walksText_8 : decode cX7_walksText 8 = .ok (.putfield 115, 3) := by decide +kernel
theorem dX7_walksText_11 : decode cX7_walksText 11 = .ok (.aload_n 0, 1) := by decide +kernel
theorem dX7_walksText_12 : decode cX7_walksText 12 = .ok (.iconst 0, 1) := by decide +kernel
theorem dX7_walksText_13 : decode cX7_walksText 13 = .ok (.putfield 109, 3) := by decide +kernel
theorem dX7_walksText_16 : decode cX7_walksText 16 = .ok (.aload_n 0, 1) := by decide +kernel
theorem dX7_walksText_17 : decode cX7_walksText 17 = .ok (.iconst 0, 1) := by decide +kernel
theorem dX7_walksText_18 : decode cX7_walksText 18 = .ok (.putfield 118, 3) := by decide +kernel
theorem dX7_walksText_21 : decode cX7_walksText 21 = .ok (.iconst 0, 1) := by decide +kernel
theorem dX7_walksText_22 : decode cX7_walksText 22 = .ok (.istore_n 3, 1) := by decide +kernel
theorem dX7_walksText_23 : decode cX7_walksText 23 = .ok (.iload_n 3, 1) := by decide +kernel
theorem dX7_walksText_24 : decode cX7_walksText 24 = .ok (.bipush 10, 2) := by decide +kernel
theorem dX7_walksText_26 : decode cX7_walksText 26 = .ok (.if_icmp .ge 16, 3) := by decide +kernel
theorem dX7_walksText_29 : decode cX7_walksText 29 = .ok (.aload_n 0, 1) := by decide +kernel
theorem dX7_walksText_30 : decode cX7_walksText 30 = .ok (.getfield 53, 3) := by decide +kernel
theorem dX7_walksText_33 : decode cX7_walksText 33 = .ok (.iload_n 3, 1) := by decide +kernel
theorem dX7_walksText_34 : decode cX7_walksText 34 = .ok (.iconst 0, 1) := by decide +kernel
theorem dX7_walksText_35 : decode cX7_walksText 35 = .ok (.iastore, 1) := by decide +kernel
theorem dX7_walksText_36 : decode cX7_walksText 36 = .ok (.iinc 3 1, 3) := by decide +kernel
theorem dX7_walksText_39 : decode cX7_walksText 39 = .ok (.goto (-16), 3) := by decide +kernel
theorem dX7_walksText_42 : decode cX7_walksText 42 = .ok (.iload_n 2, 1) := by decide +kernel
theorem dX7_walksText_43 : decode cX7_walksText 43 = .ok (.ifCond .le 18, 3) := by decide +kernel
theorem dX7_walksText_46 : decode cX7_walksText 46 = .ok (.aload_n 0, 1) := by decide +kernel
theorem dX7_walksText_47 : decode cX7_walksText 47 = .ok (.bipush 10, 2) := by decide +kernel
theorem dX7_walksText_49 : decode cX7_walksText 49 = .ok (.iconst 0, 1) := by decide +kernel
theorem dX7_walksText_50 : decode cX7_walksText 50 = .ok (.aload_n 0, 1) := by decide +kernel
theorem dX7_walksText_51 : decode cX7_walksText 51 = .ok (.getfield 93, 3) := by decide +kernel
theorem dX7_walksText_54 : decode cX7_walksText 54 = .ok (.iconst 1, 1) := by decide +kernel
theorem dX7_walksText_55 : decode cX7_walksText 55 = .ok (.isub, 1) := by decide +kernel
theorem dX7_walksText_56 : decode cX7_walksText 56 = .ok (.iconst 1, 1) := by decide +kernel
theorem dX7_walksText_57 : decode cX7_walksText 57 = .ok (.iconst 0, 1) := by decide +kernel
theorem dX7_walksText_58 : decode cX7_walksText 58 = .ok (.invokevirtual 105, 3) := by decide +kernel
theorem dX7_walksText_61 : decode cX7_walksText 61 = .ok (.iload_n 2, 1) := by decide +kernel
theorem dX7_walksText_62 : decode cX7_walksText 62 = .ok (.ireturn, 1) := by decide +kernel
theorem dX7_touched_0 : decode cX7_touched 0 = .ok (.iconst 0, 1) := by decide +kernel
theorem dX7_touched_1 : decode cX7_touched 1 = .ok (.istore_n 2, 1) := by decide +kernel
theorem dX7_touched_2 : decode cX7_touched 2 = .ok (.iconst 0, 1) := by decide +kernel
theorem dX7_touched_3 : decode cX7_touched 3 = .ok (.istore_n 3, 1) := by decide +kernel
theorem dX7_touched_4 : decode cX7_touched 4 = .ok (.iload_n 3, 1) := by decide +kernel
theorem dX7_touched_5 : decode cX7_touched 5 = .ok (.aload_n 0, 1) := by decide +kernel
theorem dX7_touched_6 : decode cX7_touched 6 = .ok (.getfield 134, 3) := by decide +kernel
theorem dX7_touched_9 : decode cX7_touched 9 = .ok (.if_icmp .ge 167, 3) := by decide +kernel
theorem dX7_touched_12 : decode cX7_touched 12 = .ok (.iconst 1, 1) := by decide +kernel
theorem dX7_touched_13 : decode cX7_touched 13 = .ok (.istore 4, 2) := by decide +kernel
theorem dX7_touched_15 : decode cX7_touched 15 = .ok (.iconst 0, 1) := by decide +kernel
theorem dX7_touched_16 : decode cX7_touched 16 = .ok (.istore 5, 2) := by decide +kernel
theorem dX7_touched_18 : decode cX7_touched 18 = .ok (.iload 5, 2) := by decide +kernel
theorem dX7_touched_20 : decode cX7_touched 20 = .ok (.aload_n 0, 1) := by decide +kernel
theorem dX7_touched_21 : decode cX7_touched 21 = .ok (.getfield 16, 3) := by decide +kernel
theorem dX7_touched_24 : decode cX7_touched 24 = .ok (.iload_n 1, 1) := by decide +kernel
theorem dX7_touched_25 : decode cX7_touched 25 = .ok (.iaload, 1) := by decide +kernel
theorem dX7_touched_26 : decode cX7_touched 26 = .ok (.if_icmp .ge 95, 3) := by decide +kernel
theorem dX7_touched_29 : decode cX7_touched 29 = .ok (.aload_n 0, 1) := by decide +kernel
theorem dX7_touched_30 : decode cX7_touched 30 = .ok (.getfield 13, 3) := by decide +kernel
theorem dX7_touched_33 : decode cX7_touched 33 = .ok (.iconst 3, 1) := by decide +kernel
theorem dX7_touched_34 : decode cX7_touched 34 = .ok (.iload_n 1, 1) := by decide +kernel
theorem dX7_touched_35 : decode cX7_touched 35 = .ok (.imul, 1) := by decide +kernel
theorem dX7_touched_36 : decode cX7_touched 36 = .ok (.iload 5, 2) := by decide +kernel
theorem dX7_touched_38 : decode cX7_touched 38 = .ok (.iadd, 1) := by decide +kernel
theorem dX7_touched_39 : decode cX7_touched 39 = .ok (.iaload, 1) := by decide +kernel
theorem dX7_touched_40 : decode cX7_touched 40 = .ok (.istore 6, 2) := by decide +kernel
theorem dX7_touched_42 : decode cX7_touched 42 = .ok (.iload 6, 2) := by decide +kernel
theorem dX7_touched_44 : decode cX7_touched 44 = .ok (.invokestatic 74, 3) := by decide +kernel
theorem dX7_touched_47 : decode cX7_touched 47 = .ok (.istore 7, 2) := by decide +kernel
theorem dX7_touched_49 : decode cX7_touched 49 = .ok (.iconst 0, 1) := by decide +kernel
theorem dX7_touched_50 : decode cX7_touched 50 = .ok (.istore 8, 2) := by decide +kernel
theorem dX7_touched_52 : decode cX7_touched 52 = .ok (.iload 8, 2) := by decide +kernel
theorem dX7_touched_54 : decode cX7_touched 54 = .ok (.aload_n 0, 1) := by decide +kernel
theorem dX7_touched_55 : decode cX7_touched 55 = .ok (.getfield 35, 3) := by decide +kernel
theorem dX7_touched_58 : decode cX7_touched 58 = .ok (.iload_n 3, 1) := by decide +kernel
theorem dX7_touched_59 : decode cX7_touched 59 = .ok (.iaload, 1) := by decide +kernel
theorem dX7_touched_60 : decode cX7_touched 60 = .ok (.if_icmp .ge 38, 3) := by decide +kernel
theorem dX7_touched_63 : decode cX7_touched 63 = .ok (.iload 7, 2) := by decide +kernel
theorem dX7_touched_65 : decode cX7_touched 65 = .ok (.ifCond .ne 20, 3) := by decide +kernel
theorem dX7_touched_68 : decode cX7_touched 68 = .ok (.aload_n 0, 1) := by decide +kernel
theorem dX7_touched_69 : decode cX7_touched 69 = .ok (.getfield 32, 3) := by decide +kernel
theorem dX7_touched_72 : decode cX7_touched 72 = .ok (.bipush 10, 2) := by decide +kernel
theorem dX7_touched_74 : decode cX7_touched 74 = .ok (.iload_n 3, 1) := by decide +kernel
theorem dX7_touched_75 : decode cX7_touched 75 = .ok (.imul, 1) := by decide +kernel
theorem dX7_touched_76 : decode cX7_touched 76 = .ok (.iload 8, 2) := by decide +kernel
theorem dX7_touched_78 : decode cX7_touched 78 = .ok (.iadd, 1) := by decide +kernel
theorem dX7_touched_79 : decode cX7_touched 79 = .ok (.iaload, 1) := by decide +kernel
theorem dX7_touched_80 : decode cX7_touched 80 = .ok (.iload 6, 2) := by decide +kernel
theorem dX7_touched_82 : decode cX7_touched 82 = .ok (.if_icmp .ne 7, 3) := by decide +kernel
theorem dX7_touched_85 : decode cX7_touched 85 = .ok (.iconst 1, 1) := by decide +kernel
theorem dX7_touched_86 : decode cX7_touched 86 = .ok (.goto 4, 3) := by decide +kernel
theorem dX7_touched_89 : decode cX7_touched 89 = .ok (.iconst 0, 1) := by decide +kernel
theorem dX7_touched_90 : decode cX7_touched 90 = .ok (.istore 7, 2) := by decide +kernel
theorem dX7_touched_92 : decode cX7_touched 92 = .ok (.iinc 8 1, 3) := by decide +kernel
theorem dX7_touched_95 : decode cX7_touched 95 = .ok (.goto (-43), 3) := by decide +kernel
theorem dX7_touched_98 : decode cX7_touched 98 = .ok (.iload 4, 2) := by decide +kernel
theorem dX7_touched_100 : decode cX7_touched 100 = .ok (.ifCond .eq 12, 3) := by decide +kernel
theorem dX7_touched_103 : decode cX7_touched 103 = .ok (.iload 7, 2) := by decide +kernel
theorem dX7_touched_105 : decode cX7_touched 105 = .ok (.ifCond .eq 7, 3) := by decide +kernel
theorem dX7_touched_108 : decode cX7_touched 108 = .ok (.iconst 1, 1) := by decide +kernel
theorem dX7_touched_109 : decode cX7_touched 109 = .ok (.goto 4, 3) := by decide +kernel
theorem dX7_touched_112 : decode cX7_touched 112 = .ok (.iconst 0, 1) := by decide +kernel
theorem dX7_touched_113 : decode cX7_touched 113 = .ok (.istore 4, 2) := by decide +kernel
theorem dX7_touched_115 : decode cX7_touched 115 = .ok (.iinc 5 1, 3) := by decide +kernel
theorem dX7_touched_118 : decode cX7_touched 118 = .ok (.goto (-100), 3) := by decide +kernel
theorem dX7_touched_121 : decode cX7_touched 121 = .ok (.iload_n 2, 1) := by decide +kernel
theorem dX7_touched_122 : decode cX7_touched 122 = .ok (.iload 4, 2) := by decide +kernel
theorem dX7_touched_124 : decode cX7_touched 124 = .ok (.ifCond .eq 7, 3) := by decide +kernel
theorem dX7_touched_127 : decode cX7_touched 127 = .ok (.iconst 1, 1) := by decide +kernel
theorem dX7_touched_128 : decode cX7_touched 128 = .ok (.goto 4, 3) := by decide +kernel
theorem dX7_touched_131 : decode cX7_touched 131 = .ok (.iconst 0, 1) := by decide +kernel
theorem dX7_touched_132 : decode cX7_touched 132 = .ok (.iadd, 1) := by decide +kernel
theorem dX7_touched_133 : decode cX7_touched 133 = .ok (.istore_n 2, 1) := by decide +kernel
theorem dX7_touched_134 : decode cX7_touched 134 = .ok (.aload_n 0, 1) := by decide +kernel
theorem dX7_touched_135 : decode cX7_touched 135 = .ok (.dup, 1) := by decide +kernel
theorem dX7_touched_136 : decode cX7_touched 136 = .ok (.getfield 137, 3) := by decide +kernel
theorem dX7_touched_139 : decode cX7_touched 139 = .ok (.iload 4, 2) := by decide +kernel
theorem dX7_touched_141 : decode cX7_touched 141 = .ok (.ifCond .eq 24, 3) := by decide +kernel
theorem dX7_touched_144 : decode cX7_touched 144 = .ok (.aload_n 0, 1) := by decide +kernel
theorem dX7_touched_145 : decode cX7_touched 145 = .ok (.getfield 35, 3) := by decide +kernel
theorem dX7_touched_148 : decode cX7_touched 148 = .ok (.iload_n 3, 1) := by decide +kernel
theorem dX7_touched_149 : decode cX7_touched 149 = .ok (.iaload, 1) := by decide +kernel
theorem dX7_touched_150 : decode cX7_touched 150 = .ok (.aload_n 0, 1) := by decide +kernel
theorem dX7_touched_151 : decode cX7_touched 151 = .ok (.getfield 35, 3) := by decide +kernel
theorem dX7_touched_154 : decode cX7_touched 154 = .ok (.iload_n 3, 1) := by decide +kernel
theorem dX7_touched_155 : decode cX7_touched 155 = .ok (.iaload, 1) := by decide +kernel
theorem dX7_touched_156 : decode cX7_touched 156 = .ok (.iconst 1, 1) := by decide +kernel
theorem dX7_touched_157 : decode cX7_touched 157 = .ok (.iadd, 1) := by decide +kernel
theorem dX7_touched_158 : decode cX7_touched 158 = .ok (.imul, 1) := by decide +kernel
theorem dX7_touched_159 : decode cX7_touched 159 = .ok (.iconst 2, 1) := by decide +kernel
theorem dX7_touched_160 : decode cX7_touched 160 = .ok (.idiv, 1) := by decide +kernel
theorem dX7_touched_161 : decode cX7_touched 161 = .ok (.i2l, 1) := by decide +kernel
theorem dX7_touched_162 : decode cX7_touched 162 = .ok (.goto 4, 3) := by decide +kernel
theorem dX7_touched_165 : decode cX7_touched 165 = .ok (.lconst 0, 1) := by decide +kernel
theorem dX7_touched_166 : decode cX7_touched 166 = .ok (.ladd, 1) := by decide +kernel
theorem dX7_touched_167 : decode cX7_touched 167 = .ok (.putfield 137, 3) := by decide +kernel
theorem dX7_touched_170 : decode cX7_touched 170 = .ok (.iinc 3 1, 3) := by decide +kernel
theorem dX7_touched_173 : decode cX7_touched 173 = .ok (.goto (-169), 3) := by decide +kernel
theorem dX7_touched_176 : decode cX7_touched 176 = .ok (.iload_n 2, 1) := by decide +kernel
theorem dX7_touched_177 : decode cX7_touched 177 = .ok (.ireturn, 1) := by decide +kernel
theorem dX7_addRule_0 : decode cX7_addRule 0 = .ok (.iload_n 1, 1) := by decide +kernel
theorem dX7_addRule_1 : decode cX7_addRule 1 = .ok (.invokestatic 74, 3) := by decide +kernel
theorem dX7_addRule_4 : decode cX7_addRule 4 = .ok (.ifCond .eq 40, 3) := by decide +kernel
theorem dX7_addRule_7 : decode cX7_addRule 7 = .ok (.iload_n 2, 1) := by decide +kernel
theorem dX7_addRule_8 : decode cX7_addRule 8 = .ok (.invokestatic 141, 3) := by decide +kernel
theorem dX7_addRule_11 : decode cX7_addRule 11 = .ok (.ifCond .eq 33, 3) := by decide +kernel
theorem dX7_addRule_14 : decode cX7_addRule 14 = .ok (.iload_n 3, 1) := by decide +kernel
theorem dX7_addRule_15 : decode cX7_addRule 15 = .ok (.iconst (-1), 1) := by decide +kernel
theorem dX7_addRule_16 : decode cX7_addRule 16 = .ok (.if_icmp .eq 10, 3) := by decide +kernel
theorem dX7_addRule_19 : decode cX7_addRule 19 = .ok (.iload_n 3, 1) := by decide +kernel
theorem dX7_addRule_20 : decode cX7_addRule 20 = .ok (.invokestatic 141, 3) := by decide +kernel
theorem dX7_addRule_23 : decode cX7_addRule 23 = .ok (.ifCond .eq 21, 3) := by decide +kernel
theorem dX7_addRule_26 : decode cX7_addRule 26 = .ok (.iload 4, 2) := by decide +kernel
theorem dX7_addRule_28 : decode cX7_addRule 28 = .ok (.iconst (-1), 1) := by decide +kernel
theorem dX7_addRule_29 : decode cX7_addRule 29 = .ok (.if_icmp .eq 11, 3) := by decide +kernel
theorem dX7_addRule_32 : decode cX7_addRule 32 = .ok (.iload 4, 2) := by decide +kernel
theorem dX7_addRule_34 : decode cX7_addRule 34 = .ok (.invokestatic 141, 3) := by decide +kernel
theorem dX7_addRule_37 : decode cX7_addRule 37 = .ok (.ifCond .eq 7, 3) := by decide +kernel
theorem dX7_addRule_40 : decode cX7_addRule 40 = .ok (.iconst 1, 1) := by decide +kernel
theorem dX7_addRule_41 : decode cX7_addRule 41 = .ok (.goto 4, 3) := by decide +kernel
theorem dX7_addRule_44 : decode cX7_addRule 44 = .ok (.iconst 0, 1) := by decide +kernel
theorem dX7_addRule_45 : decode cX7_addRule 45 = .ok (.istore 5, 2) := by decide +kernel
theorem dX7_addRule_47 : decode cX7_addRule 47 = .ok (.iload 5, 2) := by decide +kernel
theorem dX7_addRule_49 : decode cX7_addRule 49 = .ok (.ifCond .eq 35, 3) := by decide +kernel
theorem dX7_addRule_52 : decode cX7_addRule 52 = .ok (.iload_n 3, 1) := by decide +kernel
theorem dX7_addRule_53 : decode cX7_addRule 53 = .ok (.iconst (-1), 1) := by decide +kernel
theorem dX7_addRule_54 : decode cX7_addRule 54 = .ok (.if_icmp .ne 9, 3) := by decide +kernel
theorem dX7_addRule_57 : decode cX7_addRule 57 = .ok (.iload 4, 2) := by decide +kernel
theorem dX7_addRule_59 : decode cX7_addRule 59 = .ok (.iconst (-1), 1) := by decide +kernel
theorem dX7_addRule_60 : decode cX7_addRule 60 = .ok (.if_icmp .ne 24, 3) := by decide +kernel
theorem dX7_addRule_63 : decode cX7_addRule 63 = .ok (.iload_n 3, 1) := by decide +kernel
theorem dX7_addRule_64 : decode cX7_addRule 64 = .ok (.iconst (-1), 1) := by decide +kernel
theorem dX7_addRule_65 : decode cX7_addRule 65 = .ok (.if_icmp .ne 15, 3) := by decide +kernel
theorem dX7_addRule_68 : decode cX7_addRule 68 = .ok (.iload_n 2, 1) := by decide +kernel
theorem dX7_addRule_69 : decode cX7_addRule 69 = .ok (.invokestatic 78, 3) := by decide +kernel
theorem dX7_addRule_72 : decode cX7_addRule 72 = .ok (.ifCond .ne 8, 3) := by decide +kernel
theorem dX7_addRule_75 : decode cX7_addRule 75 = .ok (.iload_n 2, 1) := by decide +kernel
theorem dX7_addRule_76 : decode cX7_addRule 76 = .ok (.iload_n 1, 1) := by decide +kernel
theorem dX7_addRule_77 : decode cX7_addRule 77 = .ok (.if_icmp .le 7, 3) := by decide +kernel
theorem dX7_addRule_80 : decode cX7_addRule 80 = .ok (.iconst 1, 1) := by decide +kernel
theorem dX7_addRule_81 : decode cX7_addRule 81 = .ok (.goto 4, 3) := by decide +kernel
theorem dX7_addRule_84 : decode cX7_addRule 84 = .ok (.iconst 0, 1) := by decide +kernel
theorem dX7_addRule_85 : decode cX7_addRule 85 = .ok (.istore 5, 2) := by decide +kernel
theorem dX7_addRule_87 : decode cX7_addRule 87 = .ok (.aload_n 0, 1) := by decide +kernel
theorem dX7_addRule_88 : decode cX7_addRule 88 = .ok (.iload 5, 2) := by decide +kernel
theorem dX7_addRule_90 : decode cX7_addRule 90 = .ok (.ifCond .ne 7, 3) := by decide +kernel
theorem dX7_addRule_93 : decode cX7_addRule 93 = .ok (.iconst 1, 1) := by decide +kernel
theorem dX7_addRule_94 : decode cX7_addRule 94 = .ok (.goto 17, 3) := by decide +kernel
theorem dX7_addRule_97 : decode cX7_addRule 97 = .ok (.aload_n 0, 1) := by decide +kernel
theorem dX7_addRule_98 : decode cX7_addRule 98 = .ok (.getfield 96, 3) := by decide +kernel
theorem dX7_addRule_101 : decode cX7_addRule 101 = .ok (.bipush 12, 2) := by decide +kernel
theorem dX7_addRule_103 : decode cX7_addRule 103 = .ok (.if_icmp .ne 7, 3) := by decide +kernel
theorem dX7_addRule_106 : decode cX7_addRule 106 = .ok (.iconst 2, 1) := by decide +kernel
theorem dX7_addRule_107 : decode cX7_addRule 107 = .ok (.goto 4, 3) := by decide +kernel
theorem dX7_addRule_110 : decode cX7_addRule 110 = .ok (.iconst 0, 1) := by decide +kernel
theorem dX7_addRule_111 : decode cX7_addRule 111 = .ok (.putfield 60, 3) := by decide +kernel
theorem dX7_addRule_114 : decode cX7_addRule 114 = .ok (.aload_n 0, 1) := by decide +kernel
theorem dX7_addRule_115 : decode cX7_addRule 115 = .ok (.getfield 60, 3) := by decide +kernel
theorem dX7_addRule_118 : decode cX7_addRule 118 = .ok (.ifCond .le 5, 3) := by decide +kernel
theorem dX7_addRule_121 : decode cX7_addRule 121 = .ok (.iconst (-1), 1) := by decide +kernel
theorem dX7_addRule_122 : decode cX7_addRule 122 = .ok (.ireturn, 1) := by decide +kernel
theorem dX7_addRule_123 : decode cX7_addRule 123 = .ok (.aload_n 0, 1) := by decide +kernel
theorem dX7_addRule_124 : decode cX7_addRule 124 = .ok (.getfield 7, 3) := by decide +kernel
theorem dX7_addRule_127 : decode cX7_addRule 127 = .ok (.aload_n 0, 1) := by decide +kernel
theorem dX7_addRule_128 : decode cX7_addRule 128 = .ok (.getfield 96, 3) := by decide +kernel
theorem dX7_addRule_131 : decode cX7_addRule 131 = .ok (.iload_n 1, 1) := by decide +kernel
theorem dX7_addRule_132 : decode cX7_addRule 132 = .ok (.iastore, 1) := by decide +kernel
theorem dX7_addRule_133 : decode cX7_addRule 133 = .ok (.aload_n 0, 1) := by decide +kernel
theorem dX7_addRule_134 : decode cX7_addRule 134 = .ok (.getfield 13, 3) := by decide +kernel
theorem dX7_addRule_137 : decode cX7_addRule 137 = .ok (.iconst 3, 1) := by decide +kernel
theorem dX7_addRule_138 : decode cX7_addRule 138 = .ok (.aload_n 0, 1) := by decide +kernel
theorem dX7_addRule_139 : decode cX7_addRule 139 = .ok (.getfield 96, 3) := by decide +kernel
theorem dX7_addRule_142 : decode cX7_addRule 142 = .ok (.imul, 1) := by decide +kernel
theorem dX7_addRule_143 : decode cX7_addRule 143 = .ok (.iload_n 2, 1) := by decide +kernel
theorem dX7_addRule_144 : decode cX7_addRule 144 = .ok (.iastore, 1) := by decide +kernel
theorem dX7_addRule_145 : decode cX7_addRule 145 = .ok (.aload_n 0, 1) := by decide +kernel
theorem dX7_addRule_146 : decode cX7_addRule 146 = .ok (.getfield 13, 3) := by decide +kernel
theorem dX7_addRule_149 : decode cX7_addRule 149 = .ok (.iconst 3, 1) := by decide +kernel
theorem dX7_addRule_150 : decode cX7_addRule 150 = .ok (.aload_n 0, 1) := by decide +kernel
theorem dX7_addRule_151 : decode cX7_addRule 151 = .ok (.getfield 96, 3) := by decide +kernel
theorem dX7_addRule_154 : decode cX7_addRule 154 = .ok (.imul, 1) := by decide +kernel
theorem dX7_addRule_155 : decode cX7_addRule 155 = .ok (.iconst 1, 1) := by decide +kernel
theorem dX7_addRule_156 : decode cX7_addRule 156 = .ok (.iadd, 1) := by decide +kernel
theorem dX7_addRule_157 : decode cX7_addRule 157 = .ok (.iload_n 3, 1) := by decide +kernel
theorem dX7_addRule_158 : decode cX7_addRule 158 = .ok (.iastore, 1) := by decide +kernel
theorem dX7_addRule_159 : decode cX7_addRule 159 = .ok (.aload_n 0, 1) := by decide +kernel
theorem dX7_addRule_160 : decode cX7_addRule 160 = .ok (.getfield 13, 3) := by decide +kernel
theorem dX7_addRule_163 : decode cX7_addRule 163 = .ok (.iconst 3, 1) := by decide +kernel
theorem dX7_addRule_164 : decode cX7_addRule 164 = .ok (.aload_n 0, 1) := by decide +kernel
theorem dX7_addRule_165 : decode cX7_addRule 165 = .ok (.getfield 96, 3) := by decide +kernel
theorem dX7_addRule_168 : decode cX7_addRule 168 = .ok (.imul, 1) := by decide +kernel
theorem dX7_addRule_169 : decode cX7_addRule 169 = .ok (.iconst 2, 1) := by decide +kernel
theorem dX7_addRule_170 : decode cX7_addRule 170 = .ok (.iadd, 1) := by decide +kernel
theorem dX7_addRule_171 : decode cX7_addRule 171 = .ok (.iload 4, 2) := by decide +kernel
theorem dX7_addRule_173 : decode cX7_addRule 173 = .ok (.iastore, 1) := by decide +kernel
theorem dX7_addRule_174 : decode cX7_addRule 174 = .ok (.aload_n 0, 1) := by decide +kernel
theorem dX7_addRule_175 : decode cX7_addRule 175 = .ok (.getfield 16, 3) := by decide +kernel
theorem dX7_addRule_178 : decode cX7_addRule 178 = .ok (.aload_n 0, 1) := by decide +kernel
theorem dX7_addRule_179 : decode cX7_addRule 179 = .ok (.getfield 96, 3) := by decide +kernel
theorem dX7_addRule_182 : decode cX7_addRule 182 = .ok (.iload_n 3, 1) := by decide +kernel
theorem dX7_addRule_183 : decode cX7_addRule 183 = .ok (.iconst (-1), 1) := by decide +kernel
theorem dX7_addRule_184 : decode cX7_addRule 184 = .ok (.if_icmp .ne 7, 3) := by decide +kernel
theorem dX7_addRule_187 : decode cX7_addRule 187 = .ok (.iconst 1, 1) := by decide +kernel
theorem dX7_addRule_188 : decode cX7_addRule 188 = .ok (.goto 14, 3) := by decide +kernel
theorem dX7_addRule_191 : decode cX7_addRule 191 = .ok (.iload 4, 2) := by decide +kernel
theorem dX7_addRule_193 : decode cX7_addRule 193 = .ok (.iconst (-1), 1) := by decide +kernel
theorem dX7_addRule_194 : decode cX7_addRule 194 = .ok (.if_icmp .ne 7, 3) := by decide +kernel
theorem dX7_addRule_197 : decode cX7_addRule 197 = .ok (.iconst 2, 1) := by decide +kernel
theorem dX7_addRule_198 : decode cX7_addRule 198 = .ok (.goto 4, 3) := by decide +kernel
theorem dX7_addRule_201 : decode cX7_addRule 201 = .ok (.iconst 3, 1) := by decide +kernel
theorem dX7_addRule_202 : decode cX7_addRule 202 = .ok (.iastore, 1) := by decide +kernel
theorem dX7_addRule_203 : decode cX7_addRule 203 = .ok (.aload_n 0, 1) := by decide +kernel
theorem dX7_addRule_204 : decode cX7_addRule 204 = .ok (.dup, 1) := by decide +kernel
theorem dX7_addRule_205 : decode cX7_addRule 205 = .ok (.getfield 96, 3) := by decide +kernel
theorem dX7_addRule_208 : decode cX7_addRule 208 = .ok (.iconst 1, 1) := by decide +kernel
theorem dX7_addRule_209 : decode cX7_addRule 209 = .ok (.iadd, 1) := by decide +kernel
theorem dX7_addRule_210 : decode cX7_addRule 210 = .ok (.putfield 96, 3) := by decide +kernel
theorem dX7_addRule_213 : decode cX7_addRule 213 = .ok (.aload_n 0, 1) := by decide +kernel
theorem dX7_addRule_214 : decode cX7_addRule 214 = .ok (.aload_n 0, 1) := by decide +kernel
theorem dX7_addRule_215 : decode cX7_addRule 215 = .ok (.getfield 96, 3) := by decide +kernel
theorem dX7_addRule_218 : decode cX7_addRule 218 = .ok (.iconst 1, 1) := by decide +kernel
theorem dX7_addRule_219 : decode cX7_addRule 219 = .ok (.isub, 1) := by decide +kernel
theorem dX7_addRule_220 : decode cX7_addRule 220 = .ok (.invokevirtual 144, 3) := by decide +kernel
theorem dX7_addRule_223 : decode cX7_addRule 223 = .ok (.pop, 1) := by decide +kernel
theorem dX7_addRule_224 : decode cX7_addRule 224 = .ok (.aload_n 0, 1) := by decide +kernel
theorem dX7_addRule_225 : decode cX7_addRule 225 = .ok (.getfield 96, 3) := by decide +kernel
theorem dX7_addRule_228 : decode cX7_addRule 228 = .ok (.iconst 1, 1) := by decide +kernel
theorem dX7_addRule_229 : decode cX7_addRule 229 = .ok (.isub, 1) := by decide +kernel
theorem dX7_addRule_230 : decode cX7_addRule 230 = .ok (.ireturn, 1) := by decide +kernel
theorem dX7_isRule_0 : decode cX7_isRule 0 = .ok (.iload_n 1, 1) := by decide +kernel
theorem dX7_isRule_1 : decode cX7_isRule 1 = .ok (.i2l, 1) := by decide +kernel
theorem dX7_isRule_2 : decode cX7_isRule 2 = .ok (.lconst 0, 1) := by decide +kernel
theorem dX7_isRule_3 : decode cX7_isRule 3 = .ok (.aload_n 0, 1) := by decide +kernel
theorem dX7_isRule_4 : decode cX7_isRule 4 = .ok (.getfield 96, 3) := by decide +kernel
theorem dX7_isRule_7 : decode cX7_isRule 7 = .ok (.iconst 1, 1) := by decide +kernel
theorem dX7_isRule_8 : decode cX7_isRule 8 = .ok (.isub, 1) := by decide +kernel
theorem dX7_isRule_9 : decode cX7_isRule 9 = .ok (.i2l, 1) := by decide +kernel
theorem dX7_isRule_10 : decode cX7_isRule 10 = .ok (.invokestatic 68, 3) := by decide +kernel
theorem dX7_isRule_13 : decode cX7_isRule 13 = .ok (.ifCond .eq 16, 3) := by decide +kernel
theorem dX7_isRule_16 : decode cX7_isRule 16 = .ok (.aload_n 0, 1) := by decide +kernel
theorem dX7_isRule_17 : decode cX7_isRule 17 = .ok (.getfield 28, 3) := by decide +kernel
theorem dX7_isRule_20 : decode cX7_isRule 20 = .ok (.iload_n 1, 1) := by decide +kernel
theorem dX7_isRule_21 : decode cX7_isRule 21 = .ok (.baload, 1) := by decide +kernel
theorem dX7_isRule_22 : decode cX7_isRule 22 = .ok (.ifCond .ne 7, 3) := by decide +kernel
theorem dX7_isRule_25 : decode cX7_isRule 25 = .ok (.iconst 1, 1) := by decide +kernel
theorem dX7_isRule_26 : decode cX7_isRule 26 = .ok (.goto 4, 3) := by decide +kernel
theorem dX7_isRule_29 : decode cX7_isRule 29 = .ok (.iconst 0, 1) := by decide +kernel
theorem dX7_isRule_30 : decode cX7_isRule 30 = .ok (.ireturn, 1) := by decide +kernel
theorem dX7_dropRule_0 : decode cX7_dropRule 0 = .ok (.aload_n 0, 1) := by decide +kernel
theorem dX7_dropRule_1 : decode cX7_dropRule 1 = .ok (.aload_n 0, 1) := by decide +kernel
theorem dX7_dropRule_2 : decode cX7_dropRule 2 = .ok (.iload_n 1, 1) := by decide +kernel
theorem dX7_dropRule_3 : decode cX7_dropRule 3 = .ok (.invokevirtual 147, 3) := by decide +kernel
theorem dX7_dropRule_6 : decode cX7_dropRule 6 = .ok (.ifCond .eq 7, 3) := by decide +kernel
theorem dX7_dropRule_9 : decode cX7_dropRule 9 = .ok (.iconst 0, 1) := by decide +kernel
theorem dX7_dropRule_10 : decode cX7_dropRule 10 = .ok (.goto 4, 3) := by decide +kernel
theorem dX7_dropRule_13 : decode cX7_dropRule 13 = .ok (.iconst 1, 1) := by decide +kernel
theorem dX7_dropRule_14 : decode cX7_dropRule 14 = .ok (.putfield 60, 3) := by decide +kernel
theorem dX7_dropRule_17 : decode cX7_dropRule 17 = .ok (.aload_n 0, 1) := by decide +kernel
theorem dX7_dropRule_18 : decode cX7_dropRule 18 = .ok (.getfield 60, 3) := by decide +kernel
theorem dX7_dropRule_21 : decode cX7_dropRule 21 = .ok (.ifCond .le 5, 3) := by decide +kernel
theorem dX7_dropRule_24 : decode cX7_dropRule 24 = .ok (.iconst (-1), 1) := by decide +kernel
theorem dX7_dropRule_25 : decode cX7_dropRule 25 = .ok (.ireturn, 1) := by decide +kernel
theorem dX7_dropRule_26 : decode cX7_dropRule 26 = .ok (.aload_n 0, 1) := by decide +kernel
theorem dX7_dropRule_27 : decode cX7_dropRule 27 = .ok (.getfield 28, 3) := by decide +kernel
theorem dX7_dropRule_30 : decode cX7_dropRule 30 = .ok (.iload_n 1, 1) := by decide +kernel
theorem dX7_dropRule_31 : decode cX7_dropRule 31 = .ok (.iconst 1, 1) := by decide +kernel
theorem dX7_dropRule_32 : decode cX7_dropRule 32 = .ok (.bastore, 1) := by decide +kernel
theorem dX7_dropRule_33 : decode cX7_dropRule 33 = .ok (.aload_n 0, 1) := by decide +kernel
theorem dX7_dropRule_34 : decode cX7_dropRule 34 = .ok (.iload_n 1, 1) := by decide +kernel
theorem dX7_dropRule_35 : decode cX7_dropRule 35 = .ok (.invokevirtual 144, 3) := by decide +kernel
theorem dX7_dropRule_38 : decode cX7_dropRule 38 = .ok (.ireturn, 1) := by decide +kernel
theorem dX7_setRank_0 : decode cX7_setRank 0 = .ok (.aload_n 0, 1) := by decide +kernel
theorem dX7_setRank_1 : decode cX7_setRank 1 = .ok (.aload_n 0, 1) := by decide +kernel
theorem dX7_setRank_2 : decode cX7_setRank 2 = .ok (.iload_n 1, 1) := by decide +kernel
theorem dX7_setRank_3 : decode cX7_setRank 3 = .ok (.invokevirtual 147, 3) := by decide +kernel
theorem dX7_setRank_6 : decode cX7_setRank 6 = .ok (.ifCond .ne 7, 3) := by decide +kernel
theorem dX7_setRank_9 : decode cX7_setRank 9 = .ok (.iconst 1, 1) := by decide +kernel
theorem dX7_setRank_10 : decode cX7_setRank 10 = .ok (.goto 20, 3) := by decide +kernel
theorem dX7_setRank_13 : decode cX7_setRank 13 = .ok (.iload_n 2, 1) := by decide +kernel
theorem dX7_setRank_14 : decode cX7_setRank 14 = .ok (.i2l, 1) := by decide +kernel
theorem dX7_setRank_15 : decode cX7_setRank 15 = .ok (.lconst 0, 1) := by decide +kernel
theorem dX7_setRank_16 : decode cX7_setRank 16 = .ok (.ldc2_w 150, 3) := by decide +kernel
theorem dX7_setRank_19 : decode cX7_setRank 19 = .ok (.invokestatic 68, 3) := by decide +kernel
theorem dX7_setRank_22 : decode cX7_setRank 22 = .ok (.ifCond .ne 7, 3) := by decide +kernel
theorem dX7_setRank_25 : decode cX7_setRank 25 = .ok (.iconst 2, 1) := by decide +kernel
theorem dX7_setRank_26 : decode cX7_setRank 26 = .ok (.goto 4, 3) := by decide +kernel
theorem dX7_setRank_29 : decode cX7_setRank 29 = .ok (.iconst 0, 1) := by decide +kernel
theorem dX7_setRank_30 : decode cX7_setRank 30 = .ok (.putfield 60, 3) := by decide +kernel
theorem dX7_setRank_33 : decode cX7_setRank 33 = .ok (.aload_n 0, 1) := by decide +kernel
theorem dX7_setRank_34 : decode cX7_setRank 34 = .ok (.getfield 60, 3) := by decide +kernel
theorem dX7_setRank_37 : decode cX7_setRank 37 = .ok (.ifCond .le 5, 3) := by decide +kernel
theorem dX7_setRank_40 : decode cX7_setRank 40 = .ok (.iconst (-1), 1) := by decide +kernel
theorem dX7_setRank_41 : decode cX7_setRank 41 = .ok (.ireturn, 1) := by decide +kernel
theorem dX7_setRank_42 : decode cX7_setRank 42 = .ok (.aload_n 0, 1) := by decide +kernel
theorem dX7_setRank_43 : decode cX7_setRank 43 = .ok (.getfield 19, 3) := by decide +kernel
theorem dX7_setRank_46 : decode cX7_setRank 46 = .ok (.iload_n 1, 1) := by decide +kernel
theorem dX7_setRank_47 : decode cX7_setRank 47 = .ok (.iaload, 1) := by decide +kernel
theorem dX7_setRank_48 : decode cX7_setRank 48 = .ok (.istore_n 3, 1) := by decide +kernel
theorem dX7_setRank_49 : decode cX7_setRank 49 = .ok (.aload_n 0, 1) := by decide +kernel
theorem dX7_setRank_50 : decode cX7_setRank 50 = .ok (.getfield 19, 3) := by decide +kernel
theorem dX7_setRank_53 : decode cX7_setRank 53 = .ok (.iload_n 1, 1) := by decide +kernel
theorem dX7_setRank_54 : decode cX7_setRank 54 = .ok (.iload_n 2, 1) := by decide +kernel
theorem dX7_setRank_55 : decode cX7_setRank 55 = .ok (.iastore, 1) := by decide +kernel
theorem dX7_setRank_56 : decode cX7_setRank 56 = .ok (.iload_n 3, 1) := by decide +kernel
theorem dX7_setRank_57 : decode cX7_setRank 57 = .ok (.ireturn, 1) := by decide +kernel
theorem dX7_setStyle_0 : decode cX7_setStyle 0 = .ok (.aload_n 0, 1) := by decide +kernel
theorem dX7_setStyle_1 : decode cX7_setStyle 1 = .ok (.aload_n 0, 1) := by decide +kernel
theorem dX7_setStyle_2 : decode cX7_setStyle 2 = .ok (.iload_n 1, 1) := by decide +kernel
theorem dX7_setStyle_3 : decode cX7_setStyle 3 = .ok (.invokevirtual 147, 3) := by decide +kernel
theorem dX7_setStyle_6 : decode cX7_setStyle 6 = .ok (.ifCond .ne 7, 3) := by decide +kernel
theorem dX7_setStyle_9 : decode cX7_setStyle 9 = .ok (.iconst 1, 1) := by decide +kernel
theorem dX7_setStyle_10 : decode cX7_setStyle 10 = .ok (.goto 32, 3) := by decide +kernel
theorem dX7_setStyle_13 : decode cX7_setStyle 13 = .ok (.iload_n 2, 1) := by decide +kernel
theorem dX7_setStyle_14 : decode cX7_setStyle 14 = .ok (.i2l, 1) := by decide +kernel
theorem dX7_setStyle_15 : decode cX7_setStyle 15 = .ok (.lconst 0, 1) := by decide +kernel
theorem dX7_setStyle_16 : decode cX7_setStyle 16 = .ok (.ldc2_w 150, 3) := by decide +kernel
theorem dX7_setStyle_19 : decode cX7_setStyle 19 = .ok (.invokestatic 68, 3) := by decide +kernel
theorem dX7_setStyle_22 : decode cX7_setStyle 22 = .ok (.ifCond .eq 15, 3) := by decide +kernel
theorem dX7_setStyle_25 : decode cX7_setStyle 25 = .ok (.iload_n 3, 1) := by decide +kernel
theorem dX7_setStyle_26 : decode cX7_setStyle 26 = .ok (.i2l, 1) := by decide +kernel
theorem dX7_setStyle_27 : decode cX7_setStyle 27 = .ok (.lconst 0, 1) := by decide +kernel
theorem dX7_setStyle_28 : decode cX7_setStyle 28 = .ok (.ldc2_w 152, 3) := by decide +kernel
theorem dX7_setStyle_31 : decode cX7_setStyle 31 = .ok (.invokestatic 68, 3) := by decide +kernel
theorem dX7_setStyle_34 : decode cX7_setStyle 34 = .ok (.ifCond .ne 7, 3) := by decide +kernel
theorem dX7_setStyle_37 : decode cX7_setStyle 37 = .ok (.iconst 2, 1) := by decide +kernel
theorem dX7_setStyle_38 : decode cX7_setStyle 38 = .ok (.goto 4, 3) := by decide +kernel
theorem dX7_setStyle_41 : decode cX7_setStyle 41 = .ok (.iconst 0, 1) := by decide +kernel
theorem dX7_setStyle_42 : decode cX7_setStyle 42 = .ok (.putfield 60, 3) := by decide +kernel
theorem dX7_setStyle_45 : decode cX7_setStyle 45 = .ok (.aload_n 0, 1) := by decide +kernel
theorem dX7_setStyle_46 : decode cX7_setStyle 46 = .ok (.getfield 60, 3) := by decide +kernel
theorem dX7_setStyle_49 : decode cX7_setStyle 49 = .ok (.ifCond .le 5, 3) := by decide +kernel
theorem dX7_setStyle_52 : decode cX7_setStyle 52 = .ok (.iconst (-1), 1) := by decide +kernel
theorem dX7_setStyle_53 : decode cX7_setStyle 53 = .ok (.ireturn, 1) := by decide +kernel
theorem dX7_setStyle_54 : decode cX7_setStyle 54 = .ok (.bipush 10, 2) := by decide +kernel
theorem dX7_setStyle_56 : decode cX7_setStyle 56 = .ok (.aload_n 0, 1) := by decide +kernel
theorem dX7_setStyle_57 : decode cX7_setStyle 57 = .ok (.getfield 22, 3) := by decide +kernel
theorem dX7_setStyle_60 : decode cX7_setStyle 60 = .ok (.iload_n 1, 1) := by decide +kernel
theorem dX7_setStyle_61 : decode cX7_setStyle 61 = .ok (.iaload, 1) := by decide +kernel
theorem dX7_setStyle_62 : decode cX7_setStyle 62 = .ok (.imul, 1) := by decide +kernel
theorem dX7_setStyle_63 : decode cX7_setStyle 63 = .ok (.aload_n 0, 1) := by decide +kernel
theorem dX7_setStyle_64 : decode cX7_setStyle 64 = .ok (.getfield 25, 3) := by decide +kernel
theorem dX7_setStyle_67 : decode cX7_setStyle 67 = .ok (.iload_n 1, 1) := by decide +kernel
theorem dX7_setStyle_68 : decode cX7_setStyle 68 = .ok (.iaload, 1) := by decide +kernel
theorem dX7_setStyle_69 : decode cX7_setStyle 69 = .ok (.iadd, 1) := by decide +kernel
theorem dX7_setStyle_70 : decode cX7_setStyle 70 = .ok (.istore 4, 2) := by decide +kernel
theorem dX7_setStyle_72 : decode cX7_setStyle 72 = .ok (.aload_n 0, 1) := by decide +kernel
theorem dX7_setStyle_73 : decode cX7_setStyle 73 = .ok (.getfield 22, 3) := by decide +kernel
theorem dX7_setStyle_76 : decode cX7_setStyle 76 = .ok (.iload_n 1, 1) := by decide +kernel
theorem dX7_setStyle_77 : decode cX7_setStyle 77 = .ok (.iload_n 2, 1) := by decide +kernel
theorem dX7_setStyle_78 : decode cX7_setStyle 78 = .ok (.iastore, 1) := by decide +kernel
theorem dX7_setStyle_79 : decode cX7_setStyle 79 = .ok (.aload_n 0, 1) := by decide +kernel
theorem dX7_setStyle_80 : decode cX7_setStyle 80 = .ok (.getfield 25, 3) := by decide +kernel
theorem dX7_setStyle_83 : decode cX7_setStyle 83 = .ok (.iload_n 1, 1) := by decide +kernel
theorem dX7_setStyle_84 : decode cX7_setStyle 84 = .ok (.iload_n 3, 1) := by decide +kernel
theorem dX7_setStyle_85 : decode cX7_setStyle 85 = .ok (.iastore, 1) := by decide +kernel
theorem dX7_setStyle_86 : decode cX7_setStyle 86 = .ok (.iload 4, 2) := by decide +kernel
theorem dX7_setStyle_88 : decode cX7_setStyle 88 = .ok (.ireturn, 1) := by decide +kernel
theorem dX7_rules_0 : decode cX7_rules 0 = .ok (.aload_n 0, 1) := by decide +kernel
theorem dX7_rules_1 : decode cX7_rules 1 = .ok (.iconst 0, 1) := by decide +kernel
theorem dX7_rules_2 : decode cX7_rules 2 = .ok (.putfield 60, 3) := by decide +kernel
theorem dX7_rules_5 : decode cX7_rules 5 = .ok (.iconst 0, 1) := by decide +kernel
theorem dX7_rules_6 : decode cX7_rules 6 = .ok (.istore_n 1, 1) := by decide +kernel
theorem dX7_rules_7 : decode cX7_rules 7 = .ok (.iconst 0, 1) := by decide +kernel
theorem dX7_rules_8 : decode cX7_rules 8 = .ok (.istore_n 2, 1) := by decide +kernel
theorem dX7_rules_9 : decode cX7_rules 9 = .ok (.iload_n 2, 1) := by decide +kernel
theorem dX7_rules_10 : decode cX7_rules 10 = .ok (.aload_n 0, 1) := by decide +kernel
theorem dX7_rules_11 : decode cX7_rules 11 = .ok (.getfield 96, 3) := by decide +kernel
theorem dX7_rules_14 : decode cX7_rules 14 = .ok (.if_icmp .ge 26, 3) := by decide +kernel
theorem dX7_rules_17 : decode cX7_rules 17 = .ok (.iload_n 1, 1) := by decide +kernel
theorem dX7_rules_18 : decode cX7_rules 18 = .ok (.aload_n 0, 1) := by decide +kernel
theorem dX7_rules_19 : decode cX7_rules 19 = .ok (.getfield 28, 3) := by decide +kernel
theorem dX7_rules_22 : decode cX7_rules 22 = .ok (.iload_n 2, 1) := by decide +kernel
theorem dX7_rules_23 : decode cX7_rules 23 = .ok (.baload, 1) := by decide +kernel
theorem dX7_rules_24 : decode cX7_rules 24 = .ok (.ifCond .eq 7, 3) := by decide +kernel
theorem dX7_rules_27 : decode cX7_rules 27 = .ok (.iconst 0, 1) := by decide +kernel
theorem dX7_rules_28 : decode cX7_rules 28 = .ok (.goto 4, 3) := by decide +kernel
theorem dX7_rules_31 : decode cX7_rules 31 = .ok (.iconst 1, 1) := by decide +kernel
theorem dX7_rules_32 : decode cX7_rules 32 = .ok (.iadd, 1) := by decide +kernel
theorem dX7_rules_33 : decode cX7_rules 33 = .ok (.istore_n 1, 1) := by decide +kernel
theorem dX7_rules_34 : decode cX7_rules 34 = .ok (.iinc 2 1, 3) := by decide +kernel
theorem dX7_rules_37 : decode cX7_rules 37 = .ok (.goto (-28), 3) := by decide +kernel
theorem dX7_rules_40 : decode cX7_rules 40 = .ok (.iload_n 1, 1) := by decide +kernel
theorem dX7_rules_41 : decode cX7_rules 41 = .ok (.ireturn, 1) := by decide +kernel
theorem dX7_addText_0 : decode cX7_addText 0 = .ok (.aload_n 0, 1) := by decide +kernel
theorem dX7_addText_1 : decode cX7_addText 1 = .ok (.iload_n 1, 1) := by decide +kernel
theorem dX7_addText_2 : decode cX7_addText 2 = .ok (.invokestatic 78, 3) := by decide +kernel
theorem dX7_addText_5 : decode cX7_addText 5 = .ok (.ifCond .ne 7, 3) := by decide +kernel
theorem dX7_addText_8 : decode cX7_addText 8 = .ok (.iconst 1, 1) := by decide +kernel
theorem dX7_addText_9 : decode cX7_addText 9 = .ok (.goto 17, 3) := by decide +kernel
theorem dX7_addText_12 : decode cX7_addText 12 = .ok (.aload_n 0, 1) := by decide +kernel
theorem dX7_addText_13 : decode cX7_addText 13 = .ok (.getfield 134, 3) := by decide +kernel
theorem dX7_addText_16 : decode cX7_addText 16 = .ok (.bipush 6, 2) := by decide +kernel
theorem dX7_addText_18 : decode cX7_addText 18 = .ok (.if_icmp .ne 7, 3) := by decide +kernel
theorem dX7_addText_21 : decode cX7_addText 21 = .ok (.iconst 2, 1) := by decide +kernel
theorem dX7_addText_22 : decode cX7_addText 22 = .ok (.goto 4, 3) := by decide +kernel
theorem dX7_addText_25 : decode cX7_addText 25 = .ok (.iconst 0, 1) := by decide +kernel
theorem dX7_addText_26 : decode cX7_addText 26 = .ok (.putfield 60, 3) := by decide +kernel
theorem dX7_addText_29 : decode cX7_addText 29 = .ok (.aload_n 0, 1) := by decide +kernel
theorem dX7_addText_30 : decode cX7_addText 30 = .ok (.getfield 60, 3) := by decide +kernel
theorem dX7_addText_33 : decode cX7_addText 33 = .ok (.ifCond .le 5, 3) := by decide +kernel
theorem dX7_addText_36 : decode cX7_addText 36 = .ok (.iconst (-1), 1) := by decide +kernel
theorem dX7_addText_37 : decode cX7_addText 37 = .ok (.ireturn, 1) := by decide +kernel
theorem dX7_addText_38 : decode cX7_addText 38 = .ok (.aload_n 0, 1) := by decide +kernel
theorem dX7_addText_39 : decode cX7_addText 39 = .ok (.getfield 32, 3) := by decide +kernel
theorem dX7_addText_42 : decode cX7_addText 42 = .ok (.bipush 10, 2) := by decide +kernel
theorem dX7_addText_44 : decode cX7_addText 44 = .ok (.aload_n 0, 1) := by decide +kernel
theorem dX7_addText_45 : decode cX7_addText 45 = .ok (.getfield 134, 3) := by decide +kernel
theorem dX7_addText_48 : decode cX7_addText 48 = .ok (.imul, 1) := by decide +kernel
theorem dX7_addText_49 : decode cX7_addText 49 = .ok (.iload_n 1, 1) := by decide +kernel
theorem dX7_addText_50 : decode cX7_addText 50 = .ok (.iastore, 1) := by decide +kernel
theorem dX7_addText_51 : decode cX7_addText 51 = .ok (.aload_n 0, 1) := by decide +kernel
theorem dX7_addText_52 : decode cX7_addText 52 = .ok (.getfield 35, 3) := by decide +kernel
theorem dX7_addText_55 : decode cX7_addText 55 = .ok (.aload_n 0, 1) := by decide +kernel
theorem dX7_addText_56 : decode cX7_addText 56 = .ok (.getfield 134, 3) := by decide +kernel
theorem dX7_addText_59 : decode cX7_addText 59 = .ok (.iconst 1, 1) := by decide +kernel
theorem dX7_addText_60 : decode cX7_addText 60 = .ok (.iastore, 1) := by decide +kernel
theorem dX7_addText_61 : decode cX7_addText 61 = .ok (.aload_n 0, 1) := by decide +kernel
theorem dX7_addText_62 : decode cX7_addText 62 = .ok (.getfield 41, 3) := by decide +kernel
theorem dX7_addText_65 : decode cX7_addText 65 = .ok (.aload_n 0, 1) := by decide +kernel
theorem dX7_addText_66 : decode cX7_addText 66 = .ok (.getfield 134, 3) := by decide +kernel
theorem dX7_addText_69 : decode cX7_addText 69 = .ok (.iconst 0, 1) := by decide +kernel
theorem dX7_addText_70 : decode cX7_addText 70 = .ok (.iastore, 1) := by decide +kernel
theorem dX7_addText_71 : decode cX7_addText 71 = .ok (.aload_n 0, 1) := by decide +kernel
theorem dX7_addText_72 : decode cX7_addText 72 = .ok (.dup, 1) := by decide +kernel
theorem dX7_addText_73 : decode cX7_addText 73 = .ok (.getfield 137, 3) := by decide +kernel
theorem dX7_addText_76 : decode cX7_addText 76 = .ok (.lconst 1, 1) := by decide +kernel
theorem dX7_addText_77 : decode cX7_addText 77 = .ok (.ladd, 1) := by decide +kernel
theorem dX7_addText_78 : decode cX7_addText 78 = .ok (.putfield 137, 3) := by decide +kernel
theorem dX7_addText_81 : decode cX7_addText 81 = .ok (.aload_n 0, 1) := by decide +kernel
theorem dX7_addText_82 : decode cX7_addText 82 = .ok (.dup, 1) := by decide +kernel
theorem dX7_addText_83 : decode cX7_addText 83 = .ok (.getfield 134, 3) := by decide +kernel
theorem dX7_addText_86 : decode cX7_addText 86 = .ok (.iconst 1, 1) := by decide +kernel
theorem dX7_addText_87 : decode cX7_addText 87 = .ok (.iadd, 1) := by decide +kernel
theorem dX7_addText_88 : decode cX7_addText 88 = .ok (.putfield 134, 3) := by decide +kernel
theorem dX7_addText_91 : decode cX7_addText 91 = .ok (.aload_n 0, 1) := by decide +kernel
theorem dX7_addText_92 : decode cX7_addText 92 = .ok (.getfield 134, 3) := by decide +kernel
theorem dX7_addText_95 : decode cX7_addText 95 = .ok (.iconst 1, 1) := by decide +kernel
theorem dX7_addText_96 : decode cX7_addText 96 = .ok (.isub, 1) := by decide +kernel
theorem dX7_addText_97 : decode cX7_addText 97 = .ok (.ireturn, 1) := by decide +kernel
theorem dX7_isText_0 : decode cX7_isText 0 = .ok (.iload_n 1, 1) := by decide +kernel
theorem dX7_isText_1 : decode cX7_isText 1 = .ok (.i2l, 1) := by decide +kernel
theorem dX7_isText_2 : decode cX7_isText 2 = .ok (.lconst 0, 1) := by decide +kernel
theorem dX7_isText_3 : decode cX7_isText 3 = .ok (.aload_n 0, 1) := by decide +kernel
theorem dX7_isText_4 : decode cX7_isText 4 = .ok (.getfield 134, 3) := by decide +kernel
theorem dX7_isText_7 : decode cX7_isText 7 = .ok (.iconst 1, 1) := by decide +kernel
theorem dX7_isText_8 : decode cX7_isText 8 = .ok (.isub, 1) := by decide +kernel
theorem dX7_isText_9 : decode cX7_isText 9 = .ok (.i2l, 1) := by decide +kernel
theorem dX7_isText_10 : decode cX7_isText 10 = .ok (.invokestatic 68, 3) := by decide +kernel
theorem dX7_isText_13 : decode cX7_isText 13 = .ok (.ireturn, 1) := by decide +kernel
theorem dX7_addLetter_0 : decode cX7_addLetter 0 = .ok (.aload_n 0, 1) := by decide +kernel
theorem dX7_addLetter_1 : decode cX7_addLetter 1 = .ok (.aload_n 0, 1) := by decide +kernel
theorem dX7_addLetter_2 : decode cX7_addLetter 2 = .ok (.iload_n 1, 1) := by decide +kernel
theorem dX7_addLetter_3 : decode cX7_addLetter 3 = .ok (.invokevirtual 154, 3) := by decide +kernel
theorem dX7_addLetter_6 : decode cX7_addLetter 6 = .ok (.ifCond .ne 7, 3) := by decide +kernel
theorem dX7_addLetter_9 : decode cX7_addLetter 9 = .ok (.iconst 1, 1) := by decide +kernel
theorem dX7_addLetter_10 : decode cX7_addLetter 10 = .ok (.goto 30, 3) := by decide +kernel
theorem dX7_addLetter_13 : decode cX7_addLetter 13 = .ok (.iload_n 2, 1) := by decide +kernel
theorem dX7_addLetter_14 : decode cX7_addLetter 14 = .ok (.invokestatic 78, 3) := by decide +kernel
theorem dX7_addLetter_17 : decode cX7_addLetter 17 = .ok (.ifCond .ne 7, 3) := by decide +kernel
theorem dX7_addLetter_20 : decode cX7_addLetter 20 = .ok (.iconst 2, 1) := by decide +kernel
theorem dX7_addLetter_21 : decode cX7_addLetter 21 = .ok (.goto 19, 3) := by decide +kernel
theorem dX7_addLetter_24 : decode cX7_addLetter 24 = .ok (.aload_n 0, 1) := by decide +kernel
theorem dX7_addLetter_25 : decode cX7_addLetter 25 = .ok (.getfield 35, 3) := by decide +kernel
theorem dX7_addLetter_28 : decode cX7_addLetter 28 = .ok (.iload_n 1, 1) := by decide +kernel
theorem dX7_addLetter_29 : decode cX7_addLetter 29 = .ok (.iaload, 1) := by decide +kernel
theorem dX7_addLetter_30 : decode cX7_addLetter 30 = .ok (.bipush 10, 2) := by decide +kernel
theorem dX7_addLetter_32 : decode cX7_addLetter 32 = .ok (.if_icmp .ne 7, 3) := by decide +kernel
theorem dX7_addLetter_35 : decode cX7_addLetter 35 = .ok (.iconst 3, 1) := by decide +kernel
theorem dX7_addLetter_36 : decode cX7_addLetter 36 = .ok (.goto 4, 3) := by decide +kernel
theorem dX7_addLetter_39 : decode cX7_addLetter 39 = .ok (.iconst 0, 1) := by decide +kernel
theorem dX7_addLetter_40 : decode cX7_addLetter 40 = .ok (.putfield 60, 3) := by decide +kernel
theorem dX7_addLetter_43 : decode cX7_addLetter 43 = .ok (.aload_n 0, 1) := by decide +kernel
theorem dX7_addLetter_44 : decode cX7_addLetter 44 = .ok (.getfield 60, 3) := by decide +kernel
theorem dX7_addLetter_47 : decode cX7_addLetter 47 = .ok (.ifCond .le 5, 3) := by decide +kernel
theorem dX7_addLetter_50 : decode cX7_addLetter 50 = .ok (.iconst (-1), 1) := by decide +kernel
theorem dX7_addLetter_51 : decode cX7_addLetter 51 = .ok (.ireturn, 1) := by decide +kernel
theorem dX7_addLetter_52 : decode cX7_addLetter 52 = .ok (.aload_n 0, 1) := by decide +kernel
theorem dX7_addLetter_53 : decode cX7_addLetter 53 = .ok (.getfield 32, 3) := by decide +kernel
theorem dX7_addLetter_56 : decode cX7_addLetter 56 = .ok (.bipush 10, 2) := by decide +kernel
theorem dX7_addLetter_58 : decode cX7_addLetter 58 = .ok (.iload_n 1, 1) := by decide +kernel
theorem dX7_addLetter_59 : decode cX7_addLetter 59 = .ok (.imul, 1) := by decide +kernel
theorem dX7_addLetter_60 : decode cX7_addLetter 60 = .ok (.aload_n 0, 1) := by decide +kernel
theorem dX7_addLetter_61 : decode cX7_addLetter 61 = .ok (.getfield 35, 3) := by decide +kernel
theorem dX7_addLetter_64 : decode cX7_addLetter 64 = .ok (.iload_n 1, 1) := by decide +kernel
theorem dX7_addLetter_65 : decode cX7_addLetter 65 = .ok (.iaload, 1) := by decide +kernel
theorem dX7_addLetter_66 : decode cX7_addLetter 66 = .ok (.iadd, 1) := by decide +kernel
theorem dX7_addLetter_67 : decode cX7_addLetter 67 = .ok (.iload_n 2, 1) := by decide +kernel
theorem dX7_addLetter_68 : decode cX7_addLetter 68 = .ok (.iastore, 1) := by decide +kernel
theorem dX7_addLetter_69 : decode cX7_addLetter 69 = .ok (.aload_n 0, 1) := by decide +kernel
theorem dX7_addLetter_70 : decode cX7_addLetter 70 = .ok (.getfield 35, 3) := by decide +kernel
theorem dX7_addLetter_73 : decode cX7_addLetter 73 = .ok (.iload_n 1, 1) := by decide +kernel
theorem dX7_addLetter_74 : decode cX7_addLetter 74 = .ok (.dup2, 1) := by decide +kernel
theorem dX7_addLetter_75 : decode cX7_addLetter 75 = .ok (.iaload, 1) := by decide +kernel
theorem dX7_addLetter_76 : decode cX7_addLetter 76 = .ok (.iconst 1, 1) := by decide +kernel
theorem dX7_addLetter_77 : decode cX7_addLetter 77 = .ok (.iadd, 1) := by decide +kernel
theorem dX7_addLetter_78 : decode cX7_addLetter 78 = .ok (.iastore, 1) := by decide +kernel
theorem dX7_addLetter_79 : decode cX7_addLetter 79 = .ok (.aload_n 0, 1) := by decide +kernel
theorem dX7_addLetter_80 : decode cX7_addLetter 80 = .ok (.dup, 1) := by decide +kernel
theorem dX7_addLetter_81 : decode cX7_addLetter 81 = .ok (.getfield 137, 3) := by decide +kernel
theorem dX7_addLetter_84 : decode cX7_addLetter 84 = .ok (.aload_n 0, 1) := by decide +kernel
theorem dX7_addLetter_85 : decode cX7_addLetter 85 = .ok (.getfield 35, 3) := by decide +kernel
theorem dX7_addLetter_88 : decode cX7_addLetter 88 = .ok (.iload_n 1, 1) := by decide +kernel
theorem dX7_addLetter_89 : decode cX7_addLetter 89 = .ok (.iaload, 1) := by decide +kernel
theorem dX7_addLetter_90 : decode cX7_addLetter 90 = .ok (.i2l, 1) := by decide +kernel
theorem dX7_addLetter_91 : decode cX7_addLetter 91 = .ok (.ladd, 1) := by decide +kernel
theorem dX7_addLetter_92 : decode cX7_addLetter 92 = .ok (.putfield 137, 3) := by decide +kernel
theorem dX7_addLetter_95 : decode cX7_addLetter 95 = .ok (.aload_n 0, 1) := by decide +kernel
theorem dX7_addLetter_96 : decode cX7_addLetter 96 = .ok (.iload_n 1, 1) := by decide +kernel
theorem dX7_addLetter_97 : decode cX7_addLetter 97 = .ok (.invokevirtual 131, 3) := by decide +kernel
theorem dX7_addLetter_100 : decode cX7_addLetter 100 = .ok (.ireturn, 1) := by decide +kernel
theorem dX7_isPlace_0 : decode cX7_isPlace 0 = .ok (.aload_n 0, 1) := by decide +kernel
theorem dX7_isPlace_1 : decode cX7_isPlace 1 = .ok (.iload_n 1, 1) := by decide +kernel
theorem dX7_isPlace_2 : decode cX7_isPlace 2 = .ok (.invokevirtual 154, 3) := by decide +kernel
theorem dX7_isPlace_5 : decode cX7_isPlace 5 = .ok (.ifCond .eq 25, 3) := by decide +kernel
theorem dX7_isPlace_8 : decode cX7_isPlace 8 = .ok (.iload_n 2, 1) := by decide +kernel
theorem dX7_isPlace_9 : decode cX7_isPlace 9 = .ok (.i2l, 1) := by decide +kernel
theorem dX7_isPlace_10 : decode cX7_isPlace 10 = .ok (.lconst 0, 1) := by decide +kernel
theorem dX7_isPlace_11 : decode cX7_isPlace 11 = .ok (.aload_n 0, 1) := by decide +kernel
theorem dX7_isPlace_12 : decode cX7_isPlace 12 = .ok (.getfield 35, 3) := by decide +kernel
theorem dX7_isPlace_15 : decode cX7_isPlace 15 = .ok (.iload_n 1, 1) := by decide +kernel
theorem dX7_isPlace_16 : decode cX7_isPlace 16 = .ok (.iaload, 1) := by decide +kernel
theorem dX7_isPlace_17 : decode cX7_isPlace 17 = .ok (.iconst 1, 1) := by decide +kernel
theorem dX7_isPlace_18 : decode cX7_isPlace 18 = .ok (.isub, 1) := by decide +kernel
theorem dX7_isPlace_19 : decode cX7_isPlace 19 = .ok (.i2l, 1) := by decide +kernel
theorem dX7_isPlace_20 : decode cX7_isPlace 20 = .ok (.invokestatic 68, 3) := by decide +kernel
theorem dX7_isPlace_23 : decode cX7_isPlace 23 = .ok (.ifCond .eq 7, 3) := by decide +kernel
theorem dX7_isPlace_26 : decode cX7_isPlace 26 = .ok (.iconst 1, 1) := by decide +kernel
theorem dX7_isPlace_27 : decode cX7_isPlace 27 = .ok (.goto 4, 3) := by decide +kernel
theorem dX7_isPlace_30 : decode cX7_isPlace 30 = .ok (.iconst 0, 1) := by decide +kernel
theorem dX7_isPlace_31 : decode cX7_isPlace 31 = .ok (.ireturn, 1) := by decide +kernel
theorem dX7_replace_0 : decode cX7_replace 0 = .ok (.aload_n 0, 1) := by decide +kernel
theorem dX7_replace_1 : decode cX7_replace 1 = .ok (.aload_n 0, 1) := by decide +kernel
theorem dX7_replace_2 : decode cX7_replace 2 = .ok (.iload_n 1, 1) := by decide +kernel
theorem dX7_replace_3 : decode cX7_replace 3 = .ok (.iload_n 2, 1) := by decide +kernel
theorem dX7_replace_4 : decode cX7_replace 4 = .ok (.invokevirtual 157, 3) := by decide +kernel
theorem dX7_replace_7 : decode cX7_replace 7 = .ok (.ifCond .ne 7, 3) := by decide +kernel
theorem dX7_replace_10 : decode cX7_replace 10 = .ok (.iconst 1, 1) := by decide +kernel
theorem dX7_replace_11 : decode cX7_replace 11 = .ok (.goto 15, 3) := by decide +kernel
theorem dX7_replace_14 : decode cX7_replace 14 = .ok (.iload_n 3, 1) := by decide +kernel
theorem dX7_replace_15 : decode cX7_replace 15 = .ok (.invokestatic 78, 3) := by decide +kernel
theorem dX7_replace_18 : decode cX7_replace 18 = .ok (.ifCond .ne 7, 3) := by decide +kernel
theorem dX7_replace_21 : decode cX7_replace 21 = .ok (.iconst 2, 1) := by decide +kernel
theorem dX7_replace_22 : decode cX7_replace 22 = .ok (.goto 4, 3) := by decide +kernel
theorem dX7_replace_25 : decode cX7_replace 25 = .ok (.iconst 0, 1) := by decide +kernel
theorem dX7_replace_26 : decode cX7_replace 26 = .ok (.putfield 60, 3) := by decide +kernel
theorem dX7_replace_29 : decode cX7_replace 29 = .ok (.aload_n 0, 1) := by decide +kernel
theorem dX7_replace_30 : decode cX7_replace 30 = .ok (.getfield 60, 3) := by decide +kernel
theorem dX7_replace_33 : decode cX7_replace 33 = .ok (.ifCond .le 5, 3) := by decide +kernel
theorem dX7_replace_36 : decode cX7_replace 36 = .ok (.iconst (-1), 1) := by decide +kernel
theorem dX7_replace_37 : decode cX7_replace 37 = .ok (.ireturn, 1) := by decide +kernel
theorem dX7_replace_38 : decode cX7_replace 38 = .ok (.aload_n 0, 1) := by decide +kernel
theorem dX7_replace_39 : decode cX7_replace 39 = .ok (.getfield 32, 3) := by decide +kernel
theorem dX7_replace_42 : decode cX7_replace 42 = .ok (.bipush 10, 2) := by decide +kernel
theorem dX7_replace_44 : decode cX7_replace 44 = .ok (.iload_n 1, 1) := by decide +kernel
theorem dX7_replace_45 : decode cX7_replace 45 = .ok (.imul, 1) := by decide +kernel
theorem dX7_replace_46 : decode cX7_replace 46 = .ok (.iload_n 2, 1) := by decide +kernel
theorem dX7_replace_47 : decode cX7_replace 47 = .ok (.iadd, 1) := by decide +kernel
theorem dX7_replace_48 : decode cX7_replace 48 = .ok (.iload_n 3, 1) := by decide +kernel
theorem dX7_replace_49 : decode cX7_replace 49 = .ok (.iastore, 1) := by decide +kernel
theorem dX7_replace_50 : decode cX7_replace 50 = .ok (.aload_n 0, 1) := by decide +kernel
theorem dX7_replace_51 : decode cX7_replace 51 = .ok (.dup, 1) := by decide +kernel
theorem dX7_replace_52 : decode cX7_replace 52 = .ok (.getfield 137, 3) := by decide +kernel
theorem dX7_replace_55 : decode cX7_replace 55 = .ok (.iload_n 2, 1) := by decide +kernel
theorem dX7_replace_56 : decode cX7_replace 56 = .ok (.iconst 1, 1) := by decide +kernel
theorem dX7_replace_57 : decode cX7_replace 57 = .ok (.iadd, 1) := by decide +kernel
theorem dX7_replace_58 : decode cX7_replace 58 = .ok (.aload_n 0, 1) := by decide +kernel
theorem dX7_replace_59 : decode cX7_replace 59 = .ok (.getfield 35, 3) := by decide +kernel
theorem dX7_replace_62 : decode cX7_replace 62 = .ok (.iload_n 1, 1) := by decide +kernel
theorem dX7_replace_63 : decode cX7_replace 63 = .ok (.iaload, 1) := by decide +kernel
theorem dX7_replace_64 : decode cX7_replace 64 = .ok (.iload_n 2, 1) := by decide +kernel
theorem dX7_replace_65 : decode cX7_replace 65 = .ok (.isub, 1) := by decide +kernel
theorem dX7_replace_66 : decode cX7_replace 66 = .ok (.imul, 1) := by decide +kernel
theorem dX7_replace_67 : decode cX7_replace 67 = .ok (.i2l, 1) := by decide +kernel
theorem dX7_replace_68 : decode cX7_replace 68 = .ok (.ladd, 1) := by decide +kernel
theorem dX7_replace_69 : decode cX7_replace 69 = .ok (.putfield 137, 3) := by decide +kernel
theorem dX7_replace_72 : decode cX7_replace 72 = .ok (.aload_n 0, 1) := by decide +kernel
theorem dX7_replace_73 : decode cX7_replace 73 = .ok (.iload_n 1, 1) := by decide +kernel
theorem dX7_replace_74 : decode cX7_replace 74 = .ok (.invokevirtual 131, 3) := by decide +kernel
theorem dX7_replace_77 : decode cX7_replace 77 = .ok (.ireturn, 1) := by decide +kernel
theorem dX7_asks_0 : decode cX7_asks 0 = .ok (.aload_n 0, 1) := by decide +kernel
theorem dX7_asks_1 : decode cX7_asks 1 = .ok (.aload_n 0, 1) := by decide +kernel
theorem dX7_asks_2 : decode cX7_asks 2 = .ok (.iload_n 1, 1) := by decide +kernel
theorem dX7_asks_3 : decode cX7_asks 3 = .ok (.invokevirtual 154, 3) := by decide +kernel
theorem dX7_asks_6 : decode cX7_asks 6 = .ok (.ifCond .eq 7, 3) := by decide +kernel
theorem dX7_asks_9 : decode cX7_asks 9 = .ok (.iconst 0, 1) := by decide +kernel
theorem dX7_asks_10 : decode cX7_asks 10 = .ok (.goto 4, 3) := by decide +kernel
theorem dX7_asks_13 : decode cX7_asks 13 = .ok (.iconst 1, 1) := by decide +kernel
theorem dX7_asks_14 : decode cX7_asks 14 = .ok (.putfield 60, 3) := by decide +kernel
theorem dX7_asks_17 : decode cX7_asks 17 = .ok (.aload_n 0, 1) := by decide +kernel
theorem dX7_asks_18 : decode cX7_asks 18 = .ok (.getfield 60, 3) := by decide +kernel
theorem dX7_asks_21 : decode cX7_asks 21 = .ok (.ifCond .ne 7, 3) := by decide +kernel
theorem dX7_asks_24 : decode cX7_asks 24 = .ok (.iconst 1, 1) := by decide +kernel
theorem dX7_asks_25 : decode cX7_asks 25 = .ok (.goto 4, 3) := by decide +kernel
theorem dX7_asks_28 : decode cX7_asks 28 = .ok (.iconst 0, 1) := by decide +kernel
theorem dX7_asks_29 : decode cX7_asks 29 = .ok (.ireturn, 1) := by decide +kernel
theorem dX7_length_0 : decode cX7_length 0 = .ok (.aload_n 0, 1) := by decide +kernel
theorem dX7_length_1 : decode cX7_length 1 = .ok (.iload_n 1, 1) := by decide +kernel
theorem dX7_length_2 : decode cX7_length 2 = .ok (.invokevirtual 161, 3) := by decide +kernel
theorem dX7_length_5 : decode cX7_length 5 = .ok (.ifCond .eq 12, 3) := by decide +kernel
theorem dX7_length_8 : decode cX7_length 8 = .ok (.aload_n 0, 1) := by decide +kernel
theorem dX7_length_9 : decode cX7_length 9 = .ok (.getfield 35, 3) := by decide +kernel
theorem dX7_length_12 : decode cX7_length 12 = .ok (.iload_n 1, 1) := by decide +kernel
theorem dX7_length_13 : decode cX7_length 13 = .ok (.iaload, 1) := by decide +kernel
theorem dX7_length_14 : decode cX7_length 14 = .ok (.goto 4, 3) := by decide +kernel
theorem dX7_length_17 : decode cX7_length 17 = .ok (.iconst (-1), 1) := by decide +kernel
theorem dX7_length_18 : decode cX7_length 18 = .ok (.ireturn, 1) := by decide +kernel
theorem dX7_letterAt_0 : decode cX7_letterAt 0 = .ok (.aload_n 0, 1) := by decide +kernel
theorem dX7_letterAt_1 : decode cX7_letterAt 1 = .ok (.aload_n 0, 1) := by decide +kernel
theorem dX7_letterAt_2 : decode cX7_letterAt 2 = .ok (.iload_n 1, 1) := by decide +kernel
theorem dX7_letterAt_3 : decode cX7_letterAt 3 = .ok (.iload_n 2, 1) := by decide +kernel
theorem dX7_letterAt_4 : decode cX7_letterAt 4 = .ok (.invokevirtual 157, 3) := by decide +kernel
theorem dX7_letterAt_7 : decode cX7_letterAt 7 = .ok (.ifCond .eq 7, 3) := by decide +kernel
theorem dX7_letterAt_10 : decode cX7_letterAt 10 = .ok (.iconst 0, 1) := by decide +kernel
theorem dX7_letterAt_11 : decode cX7_letterAt 11 = .ok (.goto 4, 3) := by decide +kernel
theorem dX7_letterAt_14 : decode cX7_letterAt 14 = .ok (.iconst 1, 1) := by decide +kernel
theorem dX7_letterAt_15 : decode cX7_letterAt 15 = .ok (.putfield 60, 3) := by decide +kernel
theorem dX7_letterAt_18 : decode cX7_letterAt 18 = .ok (.aload_n 0, 1) := by decide +kernel
theorem dX7_letterAt_19 : decode cX7_letterAt 19 = .ok (.getfield 60, 3) := by decide +kernel
theorem dX7_letterAt_22 : decode cX7_letterAt 22 = .ok (.ifCond .ne 17, 3) := by decide +kernel
theorem dX7_letterAt_25 : decode cX7_letterAt 25 = .ok (.aload_n 0, 1) := by decide +kernel
theorem dX7_letterAt_26 : decode cX7_letterAt 26 = .ok (.getfield 32, 3) := by decide +kernel
theorem dX7_letterAt_29 : decode cX7_letterAt 29 = .ok (.bipush 10, 2) := by decide +kernel
theorem dX7_letterAt_31 : decode cX7_letterAt 31 = .ok (.iload_n 1, 1) := by decide +kernel
theorem dX7_letterAt_32 : decode cX7_letterAt 32 = .ok (.imul, 1) := by decide +kernel
theorem dX7_letterAt_33 : decode cX7_letterAt 33 = .ok (.iload_n 2, 1) := by decide +kernel
theorem dX7_letterAt_34 : decode cX7_letterAt 34 = .ok (.iadd, 1) := by decide +kernel
theorem dX7_letterAt_35 : decode cX7_letterAt 35 = .ok (.iaload, 1) := by decide +kernel
theorem dX7_letterAt_36 : decode cX7_letterAt 36 = .ok (.goto 4, 3) := by decide +kernel
theorem dX7_letterAt_39 : decode cX7_letterAt 39 = .ok (.iconst (-1), 1) := by decide +kernel
theorem dX7_letterAt_40 : decode cX7_letterAt 40 = .ok (.ireturn, 1) := by decide +kernel
theorem dX7_trees_0 : decode cX7_trees 0 = .ok (.aload_n 0, 1) := by decide +kernel
theorem dX7_trees_1 : decode cX7_trees 1 = .ok (.iload_n 1, 1) := by decide +kernel
theorem dX7_trees_2 : decode cX7_trees 2 = .ok (.invokevirtual 161, 3) := by decide +kernel
theorem dX7_trees_5 : decode cX7_trees 5 = .ok (.ifCond .eq 11, 3) := by decide +kernel
theorem dX7_trees_8 : decode cX7_trees 8 = .ok (.aload_n 0, 1) := by decide +kernel
theorem dX7_trees_9 : decode cX7_trees 9 = .ok (.iload_n 1, 1) := by decide +kernel
theorem dX7_trees_10 : decode cX7_trees 10 = .ok (.invokevirtual 131, 3) := by decide +kernel
theorem dX7_trees_13 : decode cX7_trees 13 = .ok (.goto 4, 3) := by decide +kernel
theorem dX7_trees_16 : decode cX7_trees 16 = .ok (.iconst (-1), 1) := by decide +kernel
theorem dX7_trees_17 : decode cX7_trees 17 = .ok (.ireturn, 1) := by decide +kernel
theorem dX7_treesByTrying_0 : decode cX7_treesByTrying 0 = .ok (.aload_n 0, 1) := by decide +kernel
theorem dX7_treesByTrying_1 : decode cX7_treesByTrying 1 = .ok (.aload_n 0, 1) := by decide +kernel
theorem dX7_treesByTrying_2 : decode cX7_treesByTrying 2 = .ok (.iload_n 1, 1) := by decide +kernel
theorem dX7_treesByTrying_3 : decode cX7_treesByTrying 3 = .ok (.invokevirtual 154, 3) := by decide +kernel
theorem dX7_treesByTrying_6 : decode cX7_treesByTrying 6 = .ok (.ifCond .ne 7, 3) := by decide +kernel
theorem dX7_treesByTrying_9 : decode cX7_treesByTrying 9 = .ok (.iconst 1, 1) := by decide +kernel
theorem dX7_treesByTrying_10 : decode cX7_treesByTrying 10 = .ok (.goto 18, 3) := by decide +kernel
theorem dX7_treesByTrying_13 : decode cX7_treesByTrying 13 = .ok (.aload_n 0, 1) := by decide +kernel
theorem dX7_treesByTrying_14 : decode cX7_treesByTrying 14 = .ok (.getfield 35, 3) := by decide +kernel
theorem dX7_treesByTrying_17 : decode cX7_treesByTrying 17 = .ok (.iload_n 1, 1) := by decide +kernel
theorem dX7_treesByTrying_18 : decode cX7_treesByTrying 18 = .ok (.iaload, 1) := by decide +kernel
theorem dX7_treesByTrying_19 : decode cX7_treesByTrying 19 = .ok (.iconst 5, 1) := by decide +kernel
theorem dX7_treesByTrying_20 : decode cX7_treesByTrying 20 = .ok (.if_icmp .le 7, 3) := by decide +kernel
theorem dX7_treesByTrying_23 : decode cX7_treesByTrying 23 = .ok (.iconst 2, 1) := by decide +kernel
theorem dX7_treesByTrying_24 : decode cX7_treesByTrying 24 = .ok (.goto 4, 3) := by decide +kernel
theorem dX7_treesByTrying_27 : decode cX7_treesByTrying 27 = .ok (.iconst 0, 1) := by decide +kernel
theorem dX7_treesByTrying_28 : decode cX7_treesByTrying 28 = .ok (.putfield 60, 3) := by decide +kernel
theorem dX7_treesByTrying_31 : decode cX7_treesByTrying 31 = .ok (.aload_n 0, 1) := by decide +kernel
theorem dX7_treesByTrying_32 : decode cX7_treesByTrying 32 = .ok (.getfield 60, 3) := by decide +kernel
theorem dX7_treesByTrying_35 : decode cX7_treesByTrying 35 = .ok (.ifCond .ne 11, 3) := by decide +kernel
theorem dX7_treesByTrying_38 : decode cX7_treesByTrying 38 = .ok (.aload_n 0, 1) := by decide +kernel
theorem dX7_treesByTrying_39 : decode cX7_treesByTrying 39 = .ok (.iload_n 1, 1) := by decide +kernel
theorem dX7_treesByTrying_40 : decode cX7_treesByTrying 40 = .ok (.invokevirtual 131, 3) := by decide +kernel
theorem dX7_treesByTrying_43 : decode cX7_treesByTrying 43 = .ok (.goto 4, 3) := by decide +kernel
theorem dX7_treesByTrying_46 : decode cX7_treesByTrying 46 = .ok (.iconst (-1), 1) := by decide +kernel
theorem dX7_treesByTrying_47 : decode cX7_treesByTrying 47 = .ok (.ireturn, 1) := by decide +kernel
theorem dX7_treesOver_0 : decode cX7_treesOver 0 = .ok (.aload_n 0, 1) := by decide +kernel
theorem dX7_treesOver_1 : decode cX7_treesOver 1 = .ok (.iload_n 1, 1) := by decide +kernel
theorem dX7_treesOver_2 : decode cX7_treesOver 2 = .ok (.iload_n 3, 1) := by decide +kernel
theorem dX7_treesOver_3 : decode cX7_treesOver 3 = .ok (.invokevirtual 157, 3) := by decide +kernel
theorem dX7_treesOver_6 : decode cX7_treesOver 6 = .ok (.ifCond .eq 17, 3) := by decide +kernel
theorem dX7_treesOver_9 : decode cX7_treesOver 9 = .ok (.aload_n 0, 1) := by decide +kernel
theorem dX7_treesOver_10 : decode cX7_treesOver 10 = .ok (.iload_n 1, 1) := by decide +kernel
theorem dX7_treesOver_11 : decode cX7_treesOver 11 = .ok (.iload 4, 2) := by decide +kernel
theorem dX7_treesOver_13 : decode cX7_treesOver 13 = .ok (.invokevirtual 157, 3) := by decide +kernel
theorem dX7_treesOver_16 : decode cX7_treesOver 16 = .ok (.ifCond .eq 7, 3) := by decide +kernel
theorem dX7_treesOver_19 : decode cX7_treesOver 19 = .ok (.iconst 1, 1) := by decide +kernel
theorem dX7_treesOver_20 : decode cX7_treesOver 20 = .ok (.goto 4, 3) := by decide +kernel
theorem dX7_treesOver_23 : decode cX7_treesOver 23 = .ok (.iconst 0, 1) := by decide +kernel
theorem dX7_treesOver_24 : decode cX7_treesOver 24 = .ok (.istore 5, 2) := by decide +kernel
theorem dX7_treesOver_26 : decode cX7_treesOver 26 = .ok (.aload_n 0, 1) := by decide +kernel
theorem dX7_treesOver_27 : decode cX7_treesOver 27 = .ok (.iload 5, 2) := by decide +kernel
theorem dX7_treesOver_29 : decode cX7_treesOver 29 = .ok (.ifCond .ne 7, 3) := by decide +kernel
theorem dX7_treesOver_32 : decode cX7_treesOver 32 = .ok (.iconst 1, 1) := by decide +kernel
theorem dX7_treesOver_33 : decode cX7_treesOver 33 = .ok (.goto 21, 3) := by decide +kernel
theorem dX7_treesOver_36 : decode cX7_treesOver 36 = .ok (.iload_n 2, 1) := by decide +kernel
theorem dX7_treesOver_37 : decode cX7_treesOver 37 = .ok (.invokestatic 74, 3) := by decide +kernel
theorem dX7_treesOver_40 : decode cX7_treesOver 40 = .ok (.ifCond .eq 9, 3) := by decide +kernel
theorem dX7_treesOver_43 : decode cX7_treesOver 43 = .ok (.iload 4, 2) := by decide +kernel
theorem dX7_treesOver_45 : decode cX7_treesOver 45 = .ok (.iload_n 3, 1) := by decide +kernel
theorem dX7_treesOver_46 : decode cX7_treesOver 46 = .ok (.if_icmp .ge 7, 3) := by decide +kernel
theorem dX7_treesOver_49 : decode cX7_treesOver 49 = .ok (.iconst 2, 1) := by decide +kernel
theorem dX7_treesOver_50 : decode cX7_treesOver 50 = .ok (.goto 4, 3) := by decide +kernel
theorem dX7_treesOver_53 : decode cX7_treesOver 53 = .ok (.iconst 0, 1) := by decide +kernel
theorem dX7_treesOver_54 : decode cX7_treesOver 54 = .ok (.putfield 60, 3) := by decide +kernel
theorem dX7_treesOver_57 : decode cX7_treesOver 57 = .ok (.aload_n 0, 1) := by decide +kernel
theorem dX7_treesOver_58 : decode cX7_treesOver 58 = .ok (.getfield 60, 3) := by decide +kernel
theorem dX7_treesOver_61 : decode cX7_treesOver 61 = .ok (.ifCond .le 5, 3) := by decide +kernel
theorem dX7_treesOver_64 : decode cX7_treesOver 64 = .ok (.iconst (-1), 1) := by decide +kernel
theorem dX7_treesOver_65 : decode cX7_treesOver 65 = .ok (.ireturn, 1) := by decide +kernel
theorem dX7_treesOver_66 : decode cX7_treesOver 66 = .ok (.aload_n 0, 1) := by decide +kernel
theorem dX7_treesOver_67 : decode cX7_treesOver 67 = .ok (.iload_n 1, 1) := by decide +kernel
theorem dX7_treesOver_68 : decode cX7_treesOver 68 = .ok (.invokevirtual 131, 3) := by decide +kernel
theorem dX7_treesOver_71 : decode cX7_treesOver 71 = .ok (.pop, 1) := by decide +kernel
theorem dX7_treesOver_72 : decode cX7_treesOver 72 = .ok (.aload_n 0, 1) := by decide +kernel
theorem dX7_treesOver_73 : decode cX7_treesOver 73 = .ok (.iload_n 2, 1) := by decide +kernel
theorem dX7_treesOver_74 : decode cX7_treesOver 74 = .ok (.iload_n 3, 1) := by decide +kernel
theorem dX7_treesOver_75 : decode cX7_treesOver 75 = .ok (.iload 4, 2) := by decide +kernel
theorem dX7_treesOver_77 : decode cX7_treesOver 77 = .ok (.invokevirtual 81, 3) := by decide +kernel
theorem dX7_treesOver_80 : decode cX7_treesOver 80 = .ok (.ireturn, 1) := by decide +kernel
theorem dX7_size_0 : decode cX7_size 0 = .ok (.aload_n 0, 1) := by decide +kernel
theorem dX7_size_1 : decode cX7_size 1 = .ok (.iload_n 1, 1) := by decide +kernel
theorem dX7_size_2 : decode cX7_size 2 = .ok (.invokevirtual 161, 3) := by decide +kernel
theorem dX7_size_5 : decode cX7_size 5 = .ok (.ifCond .ne 5, 3) := by decide +kernel
theorem dX7_size_8 : decode cX7_size 8 = .ok (.iconst (-1), 1) := by decide +kernel
theorem dX7_size_9 : decode cX7_size 9 = .ok (.ireturn, 1) := by decide +kernel
theorem dX7_size_10 : decode cX7_size 10 = .ok (.aload_n 0, 1) := by decide +kernel
theorem dX7_size_11 : decode cX7_size 11 = .ok (.iload_n 1, 1) := by decide +kernel
theorem dX7_size_12 : decode cX7_size 12 = .ok (.invokevirtual 164, 3) := by decide +kernel
theorem dX7_size_15 : decode cX7_size 15 = .ok (.pop, 1) := by decide +kernel
theorem dX7_size_16 : decode cX7_size 16 = .ok (.aload_n 0, 1) := by decide +kernel
theorem dX7_size_17 : decode cX7_size 17 = .ok (.getfield 115, 3) := by decide +kernel
theorem dX7_size_20 : decode cX7_size 20 = .ok (.ireturn, 1) := by decide +kernel
theorem dX7_ruleAt_0 : decode cX7_ruleAt 0 = .ok (.aload_n 0, 1) := by decide +kernel
theorem dX7_ruleAt_1 : decode cX7_ruleAt 1 = .ok (.iload_n 1, 1) := by decide +kernel
theorem dX7_ruleAt_2 : decode cX7_ruleAt 2 = .ok (.invokevirtual 161, 3) := by decide +kernel
theorem dX7_ruleAt_5 : decode cX7_ruleAt 5 = .ok (.ifCond .ne 5, 3) := by decide +kernel
theorem dX7_ruleAt_8 : decode cX7_ruleAt 8 = .ok (.iconst (-1), 1) := by decide +kernel
theorem dX7_ruleAt_9 : decode cX7_ruleAt 9 = .ok (.ireturn, 1) := by decide +kernel
theorem dX7_ruleAt_10 : decode cX7_ruleAt 10 = .ok (.aload_n 0, 1) := by decide +kernel
theorem dX7_ruleAt_11 : decode cX7_ruleAt 11 = .ok (.iload_n 1, 1) := by decide +kernel
theorem dX7_ruleAt_12 : decode cX7_ruleAt 12 = .ok (.invokevirtual 164, 3) := by decide +kernel
theorem dX7_ruleAt_15 : decode cX7_ruleAt 15 = .ok (.pop, 1) := by decide +kernel
theorem dX7_ruleAt_16 : decode cX7_ruleAt 16 = .ok (.aload_n 0, 1) := by decide +kernel
theorem dX7_ruleAt_17 : decode cX7_ruleAt 17 = .ok (.iload_n 2, 1) := by decide +kernel
theorem dX7_ruleAt_18 : decode cX7_ruleAt 18 = .ok (.i2l, 1) := by decide +kernel
theorem dX7_ruleAt_19 : decode cX7_ruleAt 19 = .ok (.lconst 0, 1) := by decide +kernel
theorem dX7_ruleAt_20 : decode cX7_ruleAt 20 = .ok (.aload_n 0, 1) := by decide +kernel
theorem dX7_ruleAt_21 : decode cX7_ruleAt 21 = .ok (.getfield 115, 3) := by decide +kernel
theorem dX7_ruleAt_24 : decode cX7_ruleAt 24 = .ok (.iconst 1, 1) := by decide +kernel
theorem dX7_ruleAt_25 : decode cX7_ruleAt 25 = .ok (.isub, 1) := by decide +kernel
theorem dX7_ruleAt_26 : decode cX7_ruleAt 26 = .ok (.i2l, 1) := by decide +kernel
theorem dX7_ruleAt_27 : decode cX7_ruleAt 27 = .ok (.invokestatic 68, 3) := by decide +kernel
theorem dX7_ruleAt_30 : decode cX7_ruleAt 30 = .ok (.ifCond .eq 7, 3) := by decide +kernel
theorem dX7_ruleAt_33 : decode cX7_ruleAt 33 = .ok (.iconst 0, 1) := by decide +kernel
theorem dX7_ruleAt_34 : decode cX7_ruleAt 34 = .ok (.goto 4, 3) := by decide +kernel
theorem dX7_ruleAt_37 : decode cX7_ruleAt 37 = .ok (.iconst 2, 1) := by decide +kernel
theorem dX7_ruleAt_38 : decode cX7_ruleAt 38 = .ok (.putfield 60, 3) := by decide +kernel
theorem dX7_ruleAt_41 : decode cX7_ruleAt 41 = .ok (.aload_n 0, 1) := by decide +kernel
theorem dX7_ruleAt_42 : decode cX7_ruleAt 42 = .ok (.getfield 60, 3) := by decide +kernel
theorem dX7_ruleAt_45 : decode cX7_ruleAt 45 = .ok (.ifCond .ne 12, 3) := by decide +kernel
theorem dX7_ruleAt_48 : decode cX7_ruleAt 48 = .ok (.aload_n 0, 1) := by decide +kernel
theorem dX7_ruleAt_49 : decode cX7_ruleAt 49 = .ok (.getfield 50, 3) := by decide +kernel
theorem dX7_ruleAt_52 : decode cX7_ruleAt 52 = .ok (.iload_n 2, 1) := by decide +kernel
theorem dX7_ruleAt_53 : decode cX7_ruleAt 53 = .ok (.iaload, 1) := by decide +kernel
theorem dX7_ruleAt_54 : decode cX7_ruleAt 54 = .ok (.goto 4, 3) := by decide +kernel
theorem dX7_ruleAt_57 : decode cX7_ruleAt 57 = .ok (.iconst (-1), 1) := by decide +kernel
theorem dX7_ruleAt_58 : decode cX7_ruleAt 58 = .ok (.ireturn, 1) := by decide +kernel
theorem dX7_depth_0 : decode cX7_depth 0 = .ok (.aload_n 0, 1) := by decide +kernel
theorem dX7_depth_1 : decode cX7_depth 1 = .ok (.iload_n 1, 1) := by decide +kernel
theorem dX7_depth_2 : decode cX7_depth 2 = .ok (.invokevirtual 161, 3) := by decide +kernel
theorem dX7_depth_5 : decode cX7_depth 5 = .ok (.ifCond .ne 5, 3) := by decide +kernel
theorem dX7_depth_8 : decode cX7_depth 8 = .ok (.iconst (-1), 1) := by decide +kernel
theorem dX7_depth_9 : decode cX7_depth 9 = .ok (.ireturn, 1) := by decide +kernel
theorem dX7_depth_10 : decode cX7_depth 10 = .ok (.aload_n 0, 1) := by decide +kernel
theorem dX7_depth_11 : decode cX7_depth 11 = .ok (.iload_n 1, 1) := by decide +kernel
theorem dX7_depth_12 : decode cX7_depth 12 = .ok (.invokevirtual 164, 3) := by decide +kernel
theorem dX7_depth_15 : decode cX7_depth 15 = .ok (.pop, 1) := by decide +kernel
theorem dX7_depth_16 : decode cX7_depth 16 = .ok (.aload_n 0, 1) := by decide +kernel
theorem dX7_depth_17 : decode cX7_depth 17 = .ok (.getfield 118, 3) := by decide +kernel
theorem dX7_depth_20 : decode cX7_depth 20 = .ok (.ireturn, 1) := by decide +kernel
theorem dX7_colourAt_0 : decode cX7_colourAt 0 = .ok (.aload_n 0, 1) := by decide +kernel
theorem dX7_colourAt_1 : decode cX7_colourAt 1 = .ok (.aload_n 0, 1) := by decide +kernel
theorem dX7_colourAt_2 : decode cX7_colourAt 2 = .ok (.iload_n 1, 1) := by decide +kernel
theorem dX7_colourAt_3 : decode cX7_colourAt 3 = .ok (.iload_n 2, 1) := by decide +kernel
theorem dX7_colourAt_4 : decode cX7_colourAt 4 = .ok (.invokevirtual 157, 3) := by decide +kernel
theorem dX7_colourAt_7 : decode cX7_colourAt 7 = .ok (.ifCond .eq 7, 3) := by decide +kernel
theorem dX7_colourAt_10 : decode cX7_colourAt 10 = .ok (.iconst 0, 1) := by decide +kernel
theorem dX7_colourAt_11 : decode cX7_colourAt 11 = .ok (.goto 4, 3) := by decide +kernel
theorem dX7_colourAt_14 : decode cX7_colourAt 14 = .ok (.iconst 1, 1) := by decide +kernel
theorem dX7_colourAt_15 : decode cX7_colourAt 15 = .ok (.putfield 60, 3) := by decide +kernel
theorem dX7_colourAt_18 : decode cX7_colourAt 18 = .ok (.aload_n 0, 1) := by decide +kernel
theorem dX7_colourAt_19 : decode cX7_colourAt 19 = .ok (.getfield 60, 3) := by decide +kernel
theorem dX7_colourAt_22 : decode cX7_colourAt 22 = .ok (.ifCond .le 5, 3) := by decide +kernel
theorem dX7_colourAt_25 : decode cX7_colourAt 25 = .ok (.iconst (-1), 1) := by decide +kernel
theorem dX7_colourAt_26 : decode cX7_colourAt 26 = .ok (.ireturn, 1) := by decide +kernel
theorem dX7_colourAt_27 : decode cX7_colourAt 27 = .ok (.aload_n 0, 1) := by decide +kernel
theorem dX7_colourAt_28 : decode cX7_colourAt 28 = .ok (.iload_n 1, 1) := by decide +kernel
theorem dX7_colourAt_29 : decode cX7_colourAt 29 = .ok (.invokevirtual 164, 3) := by decide +kernel
theorem dX7_colourAt_32 : decode cX7_colourAt 32 = .ok (.pop, 1) := by decide +kernel
theorem dX7_colourAt_33 : decode cX7_colourAt 33 = .ok (.aload_n 0, 1) := by decide +kernel
theorem dX7_colourAt_34 : decode cX7_colourAt 34 = .ok (.getfield 53, 3) := by decide +kernel
theorem dX7_colourAt_37 : decode cX7_colourAt 37 = .ok (.iload_n 2, 1) := by decide +kernel
theorem dX7_colourAt_38 : decode cX7_colourAt 38 = .ok (.iaload, 1) := by decide +kernel
theorem dX7_colourAt_39 : decode cX7_colourAt 39 = .ok (.ireturn, 1) := by decide +kernel
theorem dX7_formatted_0 : decode cX7_formatted 0 = .ok (.aload_n 0, 1) := by decide +kernel
theorem dX7_formatted_1 : decode cX7_formatted 1 = .ok (.iload_n 1, 1) := by decide +kernel
theorem dX7_formatted_2 : decode cX7_formatted 2 = .ok (.invokevirtual 161, 3) := by decide +kernel
theorem dX7_formatted_5 : decode cX7_formatted 5 = .ok (.ifCond .ne 5, 3) := by decide +kernel
theorem dX7_formatted_8 : decode cX7_formatted 8 = .ok (.iconst (-1), 1) := by decide +kernel
theorem dX7_formatted_9 : decode cX7_formatted 9 = .ok (.ireturn, 1) := by decide +kernel
theorem dX7_formatted_10 : decode cX7_formatted 10 = .ok (.aload_n 0, 1) := by decide +kernel
theorem dX7_formatted_11 : decode cX7_formatted 11 = .ok (.iload_n 1, 1) := by decide +kernel
theorem dX7_formatted_12 : decode cX7_formatted 12 = .ok (.invokevirtual 164, 3) := by decide +kernel
theorem dX7_formatted_15 : decode cX7_formatted 15 = .ok (.pop, 1) := by decide +kernel
theorem dX7_formatted_16 : decode cX7_formatted 16 = .ok (.aload_n 0, 1) := by decide +kernel
theorem dX7_formatted_17 : decode cX7_formatted 17 = .ok (.getfield 109, 3) := by decide +kernel
theorem dX7_formatted_20 : decode cX7_formatted 20 = .ok (.ireturn, 1) := by decide +kernel
theorem dX7_formattedAt_0 : decode cX7_formattedAt 0 = .ok (.aload_n 0, 1) := by decide +kernel
theorem dX7_formattedAt_1 : decode cX7_formattedAt 1 = .ok (.iload_n 1, 1) := by decide +kernel
theorem dX7_formattedAt_2 : decode cX7_formattedAt 2 = .ok (.invokevirtual 161, 3) := by decide +kernel
theorem dX7_formattedAt_5 : decode cX7_formattedAt 5 = .ok (.ifCond .ne 6, 3) := by decide +kernel
theorem dX7_formattedAt_8 : decode cX7_formattedAt 8 = .ok (.bipush 32, 2) := by decide +kernel
theorem dX7_formattedAt_10 : decode cX7_formattedAt 10 = .ok (.ireturn, 1) := by decide +kernel
theorem dX7_formattedAt_11 : decode cX7_formattedAt 11 = .ok (.aload_n 0, 1) := by decide +kernel
theorem dX7_formattedAt_12 : decode cX7_formattedAt 12 = .ok (.iload_n 1, 1) := by decide +kernel
theorem dX7_formattedAt_13 : decode cX7_formattedAt 13 = .ok (.invokevirtual 164, 3) := by decide +kernel
theorem dX7_formattedAt_16 : decode cX7_formattedAt 16 = .ok (.pop, 1) := by decide +kernel
theorem dX7_formattedAt_17 : decode cX7_formattedAt 17 = .ok (.aload_n 0, 1) := by decide +kernel
theorem dX7_formattedAt_18 : decode cX7_formattedAt 18 = .ok (.iload_n 2, 1) := by decide +kernel
theorem dX7_formattedAt_19 : decode cX7_formattedAt 19 = .ok (.i2l, 1) := by decide +kernel
theorem dX7_formattedAt_20 : decode cX7_formattedAt 20 = .ok (.lconst 0, 1) := by decide +kernel
theorem dX7_formattedAt_21 : decode cX7_formattedAt 21 = .ok (.aload_n 0, 1) := by decide +kernel
theorem dX7_formattedAt_22 : decode cX7_formattedAt 22 = .ok (.getfield 109, 3) := by decide +kernel
theorem dX7_formattedAt_25 : decode cX7_formattedAt 25 = .ok (.iconst 1, 1) := by decide +kernel
theorem dX7_formattedAt_26 : decode cX7_formattedAt 26 = .ok (.isub, 1) := by decide +kernel
theorem dX7_formattedAt_27 : decode cX7_formattedAt 27 = .ok (.i2l, 1) := by decide +kernel
theorem dX7_formattedAt_28 : decode cX7_formattedAt 28 = .ok (.invokestatic 68, 3) := by decide +kernel
theorem dX7_formattedAt_31 : decode cX7_formattedAt 31 = .ok (.ifCond .eq 7, 3) := by decide +kernel
theorem dX7_formattedAt_34 : decode cX7_formattedAt 34 = .ok (.iconst 0, 1) := by decide +kernel
theorem dX7_formattedAt_35 : decode cX7_formattedAt 35 = .ok (.goto 4, 3) := by decide +kernel
theorem dX7_formattedAt_38 : decode cX7_formattedAt 38 = .ok (.iconst 2, 1) := by decide +kernel
theorem dX7_formattedAt_39 : decode cX7_formattedAt 39 = .ok (.putfield 60, 3) := by decide +kernel
theorem dX7_formattedAt_42 : decode cX7_formattedAt 42 = .ok (.aload_n 0, 1) := by decide +kernel
theorem dX7_formattedAt_43 : decode cX7_formattedAt 43 = .ok (.getfield 60, 3) := by decide +kernel
theorem dX7_formattedAt_46 : decode cX7_formattedAt 46 = .ok (.ifCond .ne 12, 3) := by decide +kernel
theorem dX7_formattedAt_49 : decode cX7_formattedAt 49 = .ok (.aload_n 0, 1) := by decide +kernel
theorem dX7_formattedAt_50 : decode cX7_formattedAt 50 = .ok (.getfield 56, 3) := by decide +kernel
theorem dX7_formattedAt_53 : decode cX7_formattedAt 53 = .ok (.iload_n 2, 1) := by decide +kernel
theorem dX7_formattedAt_54 : decode cX7_formattedAt 54 = .ok (.caload, 1) := by decide +kernel
theorem dX7_formattedAt_55 : decode cX7_formattedAt 55 = .ok (.goto 5, 3) := by decide +kernel
theorem dX7_formattedAt_58 : decode cX7_formattedAt 58 = .ok (.bipush 32, 2) := by decide +kernel
theorem dX7_formattedAt_60 : decode cX7_formattedAt 60 = .ok (.ireturn, 1) := by decide +kernel
theorem dX7_accept_0 : decode cX7_accept 0 = .ok (.aload_n 0, 1) := by decide +kernel
theorem dX7_accept_1 : decode cX7_accept 1 = .ok (.iload_n 1, 1) := by decide +kernel
theorem dX7_accept_2 : decode cX7_accept 2 = .ok (.invokevirtual 161, 3) := by decide +kernel
theorem dX7_accept_5 : decode cX7_accept 5 = .ok (.ifCond .ne 5, 3) := by decide +kernel
theorem dX7_accept_8 : decode cX7_accept 8 = .ok (.iconst (-1), 1) := by decide +kernel
theorem dX7_accept_9 : decode cX7_accept 9 = .ok (.ireturn, 1) := by decide +kernel
theorem dX7_accept_10 : decode cX7_accept 10 = .ok (.aload_n 0, 1) := by decide +kernel
theorem dX7_accept_11 : decode cX7_accept 11 = .ok (.aload_n 0, 1) := by decide +kernel
theorem dX7_accept_12 : decode cX7_accept 12 = .ok (.iload_n 1, 1) := by decide +kernel
theorem dX7_accept_13 : decode cX7_accept 13 = .ok (.invokevirtual 164, 3) := by decide +kernel
theorem dX7_accept_16 : decode cX7_accept 16 = .ok (.ifCond .ne 7, 3) := by decide +kernel
theorem dX7_accept_19 : decode cX7_accept 19 = .ok (.iconst 2, 1) := by decide +kernel
theorem dX7_accept_20 : decode cX7_accept 20 = .ok (.goto 4, 3) := by decide +kernel
theorem dX7_accept_23 : decode cX7_accept 23 = .ok (.iconst 0, 1) := by decide +kernel
theorem dX7_accept_24 : decode cX7_accept 24 = .ok (.putfield 60, 3) := by decide +kernel
theorem dX7_accept_27 : decode cX7_accept 27 = .ok (.aload_n 0, 1) := by decide +kernel
theorem dX7_accept_28 : decode cX7_accept 28 = .ok (.getfield 60, 3) := by decide +kernel
theorem dX7_accept_31 : decode cX7_accept 31 = .ok (.ifCond .le 5, 3) := by decide +kernel
theorem dX7_accept_34 : decode cX7_accept 34 = .ok (.iconst (-1), 1) := by decide +kernel
theorem dX7_accept_35 : decode cX7_accept 35 = .ok (.ireturn, 1) := by decide +kernel
theorem dX7_accept_36 : decode cX7_accept 36 = .ok (.iconst 0, 1) := by decide +kernel
theorem dX7_accept_37 : decode cX7_accept 37 = .ok (.istore_n 2, 1) := by decide +kernel
theorem dX7_accept_38 : decode cX7_accept 38 = .ok (.iload_n 2, 1) := by decide +kernel
theorem dX7_accept_39 : decode cX7_accept 39 = .ok (.aload_n 0, 1) := by decide +kernel
theorem dX7_accept_40 : decode cX7_accept 40 = .ok (.getfield 115, 3) := by decide +kernel
theorem dX7_accept_43 : decode cX7_accept 43 = .ok (.if_icmp .ge 26, 3) := by decide +kernel
theorem dX7_accept_46 : decode cX7_accept 46 = .ok (.aload_n 0, 1) := by decide +kernel
theorem dX7_accept_47 : decode cX7_accept 47 = .ok (.getfield 38, 3) := by decide +kernel
theorem dX7_accept_50 : decode cX7_accept 50 = .ok (.bipush 100, 2) := by decide +kernel
theorem dX7_accept_52 : decode cX7_accept 52 = .ok (.iload_n 1, 1) := by decide +kernel
theorem dX7_accept_53 : decode cX7_accept 53 = .ok (.imul, 1) := by decide +kernel
theorem dX7_accept_54 : decode cX7_accept 54 = .ok (.iload_n 2, 1) := by decide +kernel
theorem dX7_accept_55 : decode cX7_accept 55 = .ok (.iadd, 1) := by decide +kernel
theorem dX7_accept_56 : decode cX7_accept 56 = .ok (.aload_n 0, 1) := by decide +kernel
theorem dX7_accept_57 : decode cX7_accept 57 = .ok (.getfield 50, 3) := by decide +kernel
theorem dX7_accept_60 : decode cX7_accept 60 = .ok (.iload_n 2, 1) := by decide +kernel
theorem dX7_accept_61 : decode cX7_accept 61 = .ok (.iaload, 1) := by decide +kernel
theorem dX7_accept_62 : decode cX7_accept 62 = .ok (.iastore, 1) := by decide +kernel
theorem dX7_accept_63 : decode cX7_accept 63 = .ok (.iinc 2 1, 3) := by decide +kernel
theorem dX7_accept_66 : decode cX7_accept 66 = .ok (.goto (-28), 3) := by decide +kernel
theorem dX7_accept_69 : decode cX7_accept 69 = .ok (.aload_n 0, 1) := by decide +kernel
theorem dX7_accept_70 : decode cX7_accept 70 = .ok (.getfield 41, 3) := by decide +kernel
theorem dX7_accept_73 : decode cX7_accept 73 = .ok (.iload_n 1, 1) := by decide +kernel
theorem dX7_accept_74 : decode cX7_accept 74 = .ok (.aload_n 0, 1) := by decide +kernel
theorem dX7_accept_75 : decode cX7_accept 75 = .ok (.getfield 115, 3) := by decide +kernel
theorem dX7_accept_78 : decode cX7_accept 78 = .ok (.iastore, 1) := by decide +kernel
theorem dX7_accept_79 : decode cX7_accept 79 = .ok (.aload_n 0, 1) := by decide +kernel
theorem dX7_accept_80 : decode cX7_accept 80 = .ok (.getfield 115, 3) := by decide +kernel
theorem dX7_accept_83 : decode cX7_accept 83 = .ok (.ireturn, 1) := by decide +kernel
theorem dX7_faultOf_0 : decode cX7_faultOf 0 = .ok (.aload_n 0, 1) := by decide +kernel
theorem dX7_faultOf_1 : decode cX7_faultOf 1 = .ok (.iload_n 1, 1) := by decide +kernel
theorem dX7_faultOf_2 : decode cX7_faultOf 2 = .ok (.invokevirtual 164, 3) := by decide +kernel
theorem dX7_faultOf_5 : decode cX7_faultOf 5 = .ok (.istore_n 2, 1) := by decide +kernel
theorem dX7_faultOf_6 : decode cX7_faultOf 6 = .ok (.iload_n 2, 1) := by decide +kernel
theorem dX7_faultOf_7 : decode cX7_faultOf 7 = .ok (.iconst 1, 1) := by decide +kernel
theorem dX7_faultOf_8 : decode cX7_faultOf 8 = .ok (.if_icmp .eq 15, 3) := by decide +kernel
theorem dX7_faultOf_11 : decode cX7_faultOf 11 = .ok (.iload_n 2, 1) := by decide +kernel
theorem dX7_faultOf_12 : decode cX7_faultOf 12 = .ok (.ifCond .ne 8, 3) := by decide +kernel
theorem dX7_faultOf_15 : decode cX7_faultOf 15 = .ok (.bipush 110, 2) := by decide +kernel
theorem dX7_faultOf_17 : decode cX7_faultOf 17 = .ok (.goto 5, 3) := by decide +kernel
theorem dX7_faultOf_20 : decode cX7_faultOf 20 = .ok (.bipush 97, 2) := by decide +kernel
theorem dX7_faultOf_22 : decode cX7_faultOf 22 = .ok (.ireturn, 1) := by decide +kernel
theorem dX7_faultOf_23 : decode cX7_faultOf 23 = .ok (.aload_n 0, 1) := by decide +kernel
theorem dX7_faultOf_24 : decode cX7_faultOf 24 = .ok (.getfield 41, 3) := by decide +kernel
theorem dX7_faultOf_27 : decode cX7_faultOf 27 = .ok (.iload_n 1, 1) := by decide +kernel
theorem dX7_faultOf_28 : decode cX7_faultOf 28 = .ok (.iaload, 1) := by decide +kernel
theorem dX7_faultOf_29 : decode cX7_faultOf 29 = .ok (.ifCond .ne 6, 3) := by decide +kernel
theorem dX7_faultOf_32 : decode cX7_faultOf 32 = .ok (.bipush 117, 2) := by decide +kernel
theorem dX7_faultOf_34 : decode cX7_faultOf 34 = .ok (.ireturn, 1) := by decide +kernel
theorem dX7_faultOf_35 : decode cX7_faultOf 35 = .ok (.aload_n 0, 1) := by decide +kernel
theorem dX7_faultOf_36 : decode cX7_faultOf 36 = .ok (.getfield 41, 3) := by decide +kernel
theorem dX7_faultOf_39 : decode cX7_faultOf 39 = .ok (.iload_n 1, 1) := by decide +kernel
theorem dX7_faultOf_40 : decode cX7_faultOf 40 = .ok (.iaload, 1) := by decide +kernel
theorem dX7_faultOf_41 : decode cX7_faultOf 41 = .ok (.aload_n 0, 1) := by decide +kernel
theorem dX7_faultOf_42 : decode cX7_faultOf 42 = .ok (.getfield 115, 3) := by decide +kernel
theorem dX7_faultOf_45 : decode cX7_faultOf 45 = .ok (.if_icmp .ne 7, 3) := by decide +kernel
theorem dX7_faultOf_48 : decode cX7_faultOf 48 = .ok (.iconst 1, 1) := by decide +kernel
theorem dX7_faultOf_49 : decode cX7_faultOf 49 = .ok (.goto 4, 3) := by decide +kernel
theorem dX7_faultOf_52 : decode cX7_faultOf 52 = .ok (.iconst 0, 1) := by decide +kernel
theorem dX7_faultOf_53 : decode cX7_faultOf 53 = .ok (.istore_n 3, 1) := by decide +kernel
theorem dX7_faultOf_54 : decode cX7_faultOf 54 = .ok (.iconst 0, 1) := by decide +kernel
theorem dX7_faultOf_55 : decode cX7_faultOf 55 = .ok (.istore 4, 2) := by decide +kernel
theorem dX7_faultOf_57 : decode cX7_faultOf 57 = .ok (.iload 4, 2) := by decide +kernel
theorem dX7_faultOf_59 : decode cX7_faultOf 59 = .ok (.aload_n 0, 1) := by decide +kernel
theorem dX7_faultOf_60 : decode cX7_faultOf 60 = .ok (.getfield 115, 3) := by decide +kernel
theorem dX7_faultOf_63 : decode cX7_faultOf 63 = .ok (.if_icmp .ge 41, 3) := by decide +kernel
theorem dX7_faultOf_66 : decode cX7_faultOf 66 = .ok (.iload_n 3, 1) := by decide +kernel
theorem dX7_faultOf_67 : decode cX7_faultOf 67 = .ok (.ifCond .eq 37, 3) := by decide +kernel
theorem dX7_faultOf_70 : decode cX7_faultOf 70 = .ok (.aload_n 0, 1) := by decide +kernel
theorem dX7_faultOf_71 : decode cX7_faultOf 71 = .ok (.getfield 38, 3) := by decide +kernel
theorem dX7_faultOf_74 : decode cX7_faultOf 74 = .ok (.bipush 100, 2) := by decide +kernel
theorem dX7_faultOf_76 : decode cX7_faultOf 76 = .ok (.iload_n 1, 1) := by decide +kernel
theorem dX7_faultOf_77 : decode cX7_faultOf 77 = .ok (.imul, 1) := by decide +kernel
theorem dX7_faultOf_78 : decode cX7_faultOf 78 = .ok (.iload 4, 2) := by decide +kernel
theorem dX7_faultOf_80 : decode cX7_faultOf 80 = .ok (.iadd, 1) := by decide +kernel
theorem dX7_faultOf_81 : decode cX7_faultOf 81 = .ok (.iaload, 1) := by decide +kernel
theorem dX7_faultOf_82 : decode cX7_faultOf 82 = .ok (.aload_n 0, 1) := by decide +kernel
theorem dX7_faultOf_83 : decode cX7_faultOf 83 = .ok (.getfield 50, 3) := by decide +kernel
theorem dX7_faultOf_86 : decode cX7_faultOf 86 = .ok (.iload 4, 2) := by decide +kernel
theorem dX7_faultOf_88 : decode cX7_faultOf 88 = .ok (.iaload, 1) := by decide +kernel
theorem dX7_faultOf_89 : decode cX7_faultOf 89 = .ok (.if_icmp .ne 7, 3) := by decide +kernel
theorem dX7_faultOf_92 : decode cX7_faultOf 92 = .ok (.iconst 1, 1) := by decide +kernel
theorem dX7_faultOf_93 : decode cX7_faultOf 93 = .ok (.goto 4, 3) := by decide +kernel
theorem dX7_faultOf_96 : decode cX7_faultOf 96 = .ok (.iconst 0, 1) := by decide +kernel
theorem dX7_faultOf_97 : decode cX7_faultOf 97 = .ok (.istore_n 3, 1) := by decide +kernel
theorem dX7_faultOf_98 : decode cX7_faultOf 98 = .ok (.iinc 4 1, 3) := by decide +kernel
theorem dX7_faultOf_101 : decode cX7_faultOf 101 = .ok (.goto (-44), 3) := by decide +kernel
theorem dX7_faultOf_104 : decode cX7_faultOf 104 = .ok (.iload_n 3, 1) := by decide +kernel
theorem dX7_faultOf_105 : decode cX7_faultOf 105 = .ok (.ifCond .eq 8, 3) := by decide +kernel
theorem dX7_faultOf_108 : decode cX7_faultOf 108 = .ok (.bipush 45, 2) := by decide +kernel
theorem dX7_faultOf_110 : decode cX7_faultOf 110 = .ok (.goto 5, 3) := by decide +kernel
theorem dX7_faultOf_113 : decode cX7_faultOf 113 = .ok (.bipush 120, 2) := by decide +kernel
theorem dX7_faultOf_115 : decode cX7_faultOf 115 = .ok (.ireturn, 1) := by decide +kernel
theorem dX7_fault_0 : decode cX7_fault 0 = .ok (.aload_n 0, 1) := by decide +kernel
theorem dX7_fault_1 : decode cX7_fault 1 = .ok (.iload_n 1, 1) := by decide +kernel
theorem dX7_fault_2 : decode cX7_fault 2 = .ok (.invokevirtual 161, 3) := by decide +kernel
theorem dX7_fault_5 : decode cX7_fault 5 = .ok (.ifCond .eq 11, 3) := by decide +kernel
theorem dX7_fault_8 : decode cX7_fault 8 = .ok (.aload_n 0, 1) := by decide +kernel
theorem dX7_fault_9 : decode cX7_fault 9 = .ok (.iload_n 1, 1) := by decide +kernel
theorem dX7_fault_10 : decode cX7_fault 10 = .ok (.invokevirtual 167, 3) := by decide +kernel
theorem dX7_fault_13 : decode cX7_fault 13 = .ok (.goto 5, 3) := by decide +kernel
theorem dX7_fault_16 : decode cX7_fault 16 = .ok (.bipush 32, 2) := by decide +kernel
theorem dX7_fault_18 : decode cX7_fault 18 = .ok (.ireturn, 1) := by decide +kernel
theorem dX7_clean_0 : decode cX7_clean 0 = .ok (.iconst 0, 1) := by decide +kernel
theorem dX7_clean_1 : decode cX7_clean 1 = .ok (.istore_n 1, 1) := by decide +kernel
theorem dX7_clean_2 : decode cX7_clean 2 = .ok (.iconst 0, 1) := by decide +kernel
theorem dX7_clean_3 : decode cX7_clean 3 = .ok (.istore_n 2, 1) := by decide +kernel
theorem dX7_clean_4 : decode cX7_clean 4 = .ok (.iload_n 2, 1) := by decide +kernel
theorem dX7_clean_5 : decode cX7_clean 5 = .ok (.aload_n 0, 1) := by decide +kernel
theorem dX7_clean_6 : decode cX7_clean 6 = .ok (.getfield 134, 3) := by decide +kernel
theorem dX7_clean_9 : decode cX7_clean 9 = .ok (.if_icmp .ge 27, 3) := by decide +kernel
theorem dX7_clean_12 : decode cX7_clean 12 = .ok (.iload_n 1, 1) := by decide +kernel
theorem dX7_clean_13 : decode cX7_clean 13 = .ok (.aload_n 0, 1) := by decide +kernel
theorem dX7_clean_14 : decode cX7_clean 14 = .ok (.iload_n 2, 1) := by decide +kernel
theorem dX7_clean_15 : decode cX7_clean 15 = .ok (.invokevirtual 167, 3) := by decide +kernel
theorem dX7_clean_18 : decode cX7_clean 18 = .ok (.bipush 45, 2) := by decide +kernel
theorem dX7_clean_20 : decode cX7_clean 20 = .ok (.if_icmp .ne 7, 3) := by decide +kernel
theorem dX7_clean_23 : decode cX7_clean 23 = .ok (.iconst 1, 1) := by decide +kernel
theorem dX7_clean_24 : decode cX7_clean 24 = .ok (.goto 4, 3) := by decide +kernel
theorem dX7_clean_27 : decode cX7_clean 27 = .ok (.iconst 0, 1) := by decide +kernel
theorem dX7_clean_28 : decode cX7_clean 28 = .ok (.iadd, 1) := by decide +kernel
theorem dX7_clean_29 : decode cX7_clean 29 = .ok (.istore_n 1, 1) := by decide +kernel
theorem dX7_clean_30 : decode cX7_clean 30 = .ok (.iinc 2 1, 3) := by decide +kernel
theorem dX7_clean_33 : decode cX7_clean 33 = .ok (.goto (-29), 3) := by decide +kernel
theorem dX7_clean_36 : decode cX7_clean 36 = .ok (.iload_n 1, 1) := by decide +kernel
theorem dX7_clean_37 : decode cX7_clean 37 = .ok (.ireturn, 1) := by decide +kernel
theorem dX7_release_0 : decode cX7_release 0 = .ok (.aload_n 0, 1) := by decide +kernel
theorem dX7_release_1 : decode cX7_release 1 = .ok (.aload_n 0, 1) := by decide +kernel
theorem dX7_release_2 : decode cX7_release 2 = .ok (.getfield 134, 3) := by decide +kernel
theorem dX7_release_5 : decode cX7_release 5 = .ok (.ifCond .ne 7, 3) := by decide +kernel
theorem dX7_release_8 : decode cX7_release 8 = .ok (.iconst 1, 1) := by decide +kernel
theorem dX7_release_9 : decode cX7_release 9 = .ok (.goto 19, 3) := by decide +kernel
theorem dX7_release_12 : decode cX7_release 12 = .ok (.aload_n 0, 1) := by decide +kernel
theorem dX7_release_13 : decode cX7_release 13 = .ok (.invokevirtual 171, 3) := by decide +kernel
theorem dX7_release_16 : decode cX7_release 16 = .ok (.aload_n 0, 1) := by decide +kernel
theorem dX7_release_17 : decode cX7_release 17 = .ok (.getfield 134, 3) := by decide +kernel
theorem dX7_release_20 : decode cX7_release 20 = .ok (.if_icmp .ge 7, 3) := by decide +kernel
theorem dX7_release_23 : decode cX7_release 23 = .ok (.iconst 2, 1) := by decide +kernel
theorem dX7_release_24 : decode cX7_release 24 = .ok (.goto 4, 3) := by decide +kernel
theorem dX7_release_27 : decode cX7_release 27 = .ok (.iconst 0, 1) := by decide +kernel
theorem dX7_release_28 : decode cX7_release 28 = .ok (.putfield 60, 3) := by decide +kernel
theorem dX7_release_31 : decode cX7_release 31 = .ok (.aload_n 0, 1) := by decide +kernel
theorem dX7_release_32 : decode cX7_release 32 = .ok (.getfield 60, 3) := by decide +kernel
theorem dX7_release_35 : decode cX7_release 35 = .ok (.ifCond .le 5, 3) := by decide +kernel
theorem dX7_release_38 : decode cX7_release 38 = .ok (.iconst (-1), 1) := by decide +kernel
theorem dX7_release_39 : decode cX7_release 39 = .ok (.ireturn, 1) := by decide +kernel
theorem dX7_release_40 : decode cX7_release 40 = .ok (.aload_n 0, 1) := by decide +kernel
theorem dX7_release_41 : decode cX7_release 41 = .ok (.dup, 1) := by decide +kernel
theorem dX7_release_42 : decode cX7_release 42 = .ok (.getfield 175, 3) := by decide +kernel
theorem dX7_release_45 : decode cX7_release 45 = .ok (.iconst 1, 1) := by decide +kernel
theorem dX7_release_46 : decode cX7_release 46 = .ok (.iadd, 1) := by decide +kernel
theorem dX7_release_47 : decode cX7_release 47 = .ok (.putfield 175, 3) := by decide +kernel
theorem dX7_release_50 : decode cX7_release 50 = .ok (.aload_n 0, 1) := by decide +kernel
theorem dX7_release_51 : decode cX7_release 51 = .ok (.getfield 175, 3) := by decide +kernel
theorem dX7_release_54 : decode cX7_release 54 = .ok (.ireturn, 1) := by decide +kernel
theorem dX7_finds_0 : decode cX7_finds 0 = .ok (.aload_n 0, 1) := by decide +kernel
theorem dX7_finds_1 : decode cX7_finds 1 = .ok (.iconst 1, 1) := by decide +kernel
theorem dX7_finds_2 : decode cX7_finds 2 = .ok (.putfield 93, 3) := by decide +kernel
theorem dX7_finds_5 : decode cX7_finds 5 = .ok (.aload_n 0, 1) := by decide +kernel
theorem dX7_finds_6 : decode cX7_finds 6 = .ok (.getfield 93, 3) := by decide +kernel
theorem dX7_finds_9 : decode cX7_finds 9 = .ok (.iload_n 2, 1) := by decide +kernel
theorem dX7_finds_10 : decode cX7_finds 10 = .ok (.if_icmp .gt 118, 3) := by decide +kernel
theorem dX7_finds_13 : decode cX7_finds 13 = .ok (.iconst 1, 1) := by decide +kernel
theorem dX7_finds_14 : decode cX7_finds 14 = .ok (.istore_n 3, 1) := by decide +kernel
theorem dX7_finds_15 : decode cX7_finds 15 = .ok (.iconst 0, 1) := by decide +kernel
theorem dX7_finds_16 : decode cX7_finds 16 = .ok (.istore 4, 2) := by decide +kernel
theorem dX7_finds_18 : decode cX7_finds 18 = .ok (.iload 4, 2) := by decide +kernel
theorem dX7_finds_20 : decode cX7_finds 20 = .ok (.aload_n 0, 1) := by decide +kernel
theorem dX7_finds_21 : decode cX7_finds 21 = .ok (.getfield 93, 3) := by decide +kernel
theorem dX7_finds_24 : decode cX7_finds 24 = .ok (.if_icmp .ge 13, 3) := by decide +kernel
theorem dX7_finds_27 : decode cX7_finds 27 = .ok (.iload_n 3, 1) := by decide +kernel
theorem dX7_finds_28 : decode cX7_finds 28 = .ok (.iload_n 1, 1) := by decide +kernel
theorem dX7_finds_29 : decode cX7_finds 29 = .ok (.imul, 1) := by decide +kernel
theorem dX7_finds_30 : decode cX7_finds 30 = .ok (.istore_n 3, 1) := by decide +kernel
theorem dX7_finds_31 : decode cX7_finds 31 = .ok (.iinc 4 1, 3) := by decide +kernel
theorem dX7_finds_34 : decode cX7_finds 34 = .ok (.goto (-16), 3) := by decide +kernel
theorem dX7_finds_37 : decode cX7_finds 37 = .ok (.iconst 0, 1) := by decide +kernel
theorem dX7_finds_38 : decode cX7_finds 38 = .ok (.istore 4, 2) := by decide +kernel
theorem dX7_finds_40 : decode cX7_finds 40 = .ok (.iload 4, 2) := by decide +kernel
theorem dX7_finds_42 : decode cX7_finds 42 = .ok (.iload_n 3, 1) := by decide +kernel
theorem dX7_finds_43 : decode cX7_finds 43 = .ok (.if_icmp .ge 72, 3) := by decide +kernel
theorem dX7_finds_46 : decode cX7_finds 46 = .ok (.iload 4, 2) := by decide +kernel
theorem dX7_finds_48 : decode cX7_finds 48 = .ok (.istore 5, 2) := by decide +kernel
theorem dX7_finds_50 : decode cX7_finds 50 = .ok (.aload_n 0, 1) := by decide +kernel
theorem dX7_finds_51 : decode cX7_finds 51 = .ok (.getfield 93, 3) := by decide +kernel
theorem dX7_finds_54 : decode cX7_finds 54 = .ok (.iconst 1, 1) := by decide +kernel
theorem dX7_finds_55 : decode cX7_finds 55 = .ok (.isub, 1) := by decide +kernel
theorem dX7_finds_56 : decode cX7_finds 56 = .ok (.istore 6, 2) := by decide +kernel
theorem dX7_finds_58 : decode cX7_finds 58 = .ok (.iload 6, 2) := by decide +kernel
theorem dX7_finds_60 : decode cX7_finds 60 = .ok (.ifCond .lt 26, 3) := by decide +kernel
theorem dX7_finds_63 : decode cX7_finds 63 = .ok (.aload_n 0, 1) := by decide +kernel
theorem dX7_finds_64 : decode cX7_finds 64 = .ok (.getfield 44, 3) := by decide +kernel
theorem dX7_finds_67 : decode cX7_finds 67 = .ok (.iload 6, 2) := by decide +kernel
theorem dX7_finds_69 : decode cX7_finds 69 = .ok (.iload 5, 2) := by decide +kernel
theorem dX7_finds_71 : decode cX7_finds 71 = .ok (.iload_n 1, 1) := by decide +kernel
theorem dX7_finds_72 : decode cX7_finds 72 = .ok (.irem, 1) := by decide +kernel
theorem dX7_finds_73 : decode cX7_finds 73 = .ok (.iastore, 1) := by decide +kernel
theorem dX7_finds_74 : decode cX7_finds 74 = .ok (.iload 5, 2) := by decide +kernel
theorem dX7_finds_76 : decode cX7_finds 76 = .ok (.iload_n 1, 1) := by decide +kernel
theorem dX7_finds_77 : decode cX7_finds 77 = .ok (.idiv, 1) := by decide +kernel
theorem dX7_finds_78 : decode cX7_finds 78 = .ok (.istore 5, 2) := by decide +kernel
theorem dX7_finds_80 : decode cX7_finds 80 = .ok (.iinc 6 (-1), 3) := by decide +kernel
theorem dX7_finds_83 : decode cX7_finds 83 = .ok (.goto (-25), 3) := by decide +kernel
theorem dX7_finds_86 : decode cX7_finds 86 = .ok (.aload_n 0, 1) := by decide +kernel
theorem dX7_finds_87 : decode cX7_finds 87 = .ok (.invokevirtual 102, 3) := by decide +kernel
theorem dX7_finds_90 : decode cX7_finds 90 = .ok (.aload_n 0, 1) := by decide +kernel
theorem dX7_finds_91 : decode cX7_finds 91 = .ok (.bipush 10, 2) := by decide +kernel
theorem dX7_finds_93 : decode cX7_finds 93 = .ok (.iconst 0, 1) := by decide +kernel
theorem dX7_finds_94 : decode cX7_finds 94 = .ok (.aload_n 0, 1) := by decide +kernel
theorem dX7_finds_95 : decode cX7_finds 95 = .ok (.getfield 93, 3) := by decide +kernel
theorem dX7_finds_98 : decode cX7_finds 98 = .ok (.iconst 1, 1) := by decide +kernel
theorem dX7_finds_99 : decode cX7_finds 99 = .ok (.isub, 1) := by decide +kernel
theorem dX7_finds_100 : decode cX7_finds 100 = .ok (.invokevirtual 81, 3) := by decide +kernel
theorem dX7_finds_103 : decode cX7_finds 103 = .ok (.iconst 1, 1) := by decide +kernel
theorem dX7_finds_104 : decode cX7_finds 104 = .ok (.if_icmp .le 5, 3) := by decide +kernel
theorem dX7_finds_107 : decode cX7_finds 107 = .ok (.iconst 1, 1) := by decide +kernel
theorem dX7_finds_108 : decode cX7_finds 108 = .ok (.ireturn, 1) := by decide +kernel
theorem dX7_finds_109 : decode cX7_finds 109 = .ok (.iinc 4 1, 3) := by decide +kernel
theorem dX7_finds_112 : decode cX7_finds 112 = .ok (.goto (-72), 3) := by decide +kernel
theorem dX7_finds_115 : decode cX7_finds 115 = .ok (.aload_n 0, 1) := by decide +kernel
theorem dX7_finds_116 : decode cX7_finds 116 = .ok (.dup, 1) := by decide +kernel
theorem dX7_finds_117 : decode cX7_finds 117 = .ok (.getfield 93, 3) := by decide +kernel
theorem dX7_finds_120 : decode cX7_finds 120 = .ok (.iconst 1, 1) := by decide +kernel
theorem dX7_finds_121 : decode cX7_finds 121 = .ok (.iadd, 1) := by decide +kernel
theorem dX7_finds_122 : decode cX7_finds 122 = .ok (.putfield 93, 3) := by decide +kernel
theorem dX7_finds_125 : decode cX7_finds 125 = .ok (.goto (-120), 3) := by decide +kernel
theorem dX7_finds_128 : decode cX7_finds 128 = .ok (.iconst 0, 1) := by decide +kernel
theorem dX7_finds_129 : decode cX7_finds 129 = .ok (.ireturn, 1) := by decide +kernel
theorem dX7_asksRow_0 : decode cX7_asksRow 0 = .ok (.iload_n 1, 1) := by decide +kernel
theorem dX7_asksRow_1 : decode cX7_asksRow 1 = .ok (.i2l, 1) := by decide +kernel
theorem dX7_asksRow_2 : decode cX7_asksRow 2 = .ok (.lconst 1, 1) := by decide +kernel
theorem dX7_asksRow_3 : decode cX7_asksRow 3 = .ok (.ldc2_w 152, 3) := by decide +kernel
theorem dX7_asksRow_6 : decode cX7_asksRow 6 = .ok (.invokestatic 68, 3) := by decide +kernel
theorem dX7_asksRow_9 : decode cX7_asksRow 9 = .ok (.ifCond .eq 19, 3) := by decide +kernel
theorem dX7_asksRow_12 : decode cX7_asksRow 12 = .ok (.iload_n 2, 1) := by decide +kernel
theorem dX7_asksRow_13 : decode cX7_asksRow 13 = .ok (.i2l, 1) := by decide +kernel
theorem dX7_asksRow_14 : decode cX7_asksRow 14 = .ok (.lconst 1, 1) := by decide +kernel
theorem dX7_asksRow_15 : decode cX7_asksRow 15 = .ok (.ldc2_w 178, 3) := by decide +kernel
theorem dX7_asksRow_18 : decode cX7_asksRow 18 = .ok (.invokestatic 68, 3) := by decide +kernel
theorem dX7_asksRow_21 : decode cX7_asksRow 21 = .ok (.ifCond .eq 7, 3) := by decide +kernel
theorem dX7_asksRow_24 : decode cX7_asksRow 24 = .ok (.iconst 1, 1) := by decide +kernel
theorem dX7_asksRow_25 : decode cX7_asksRow 25 = .ok (.goto 4, 3) := by decide +kernel
theorem dX7_asksRow_28 : decode cX7_asksRow 28 = .ok (.iconst 0, 1) := by decide +kernel
theorem dX7_asksRow_29 : decode cX7_asksRow 29 = .ok (.istore_n 3, 1) := by decide +kernel
theorem dX7_asksRow_30 : decode cX7_asksRow 30 = .ok (.aload_n 0, 1) := by decide +kernel
theorem dX7_asksRow_31 : decode cX7_asksRow 31 = .ok (.iload_n 3, 1) := by decide +kernel
theorem dX7_asksRow_32 : decode cX7_asksRow 32 = .ok (.ifCond .ne 7, 3) := by decide +kernel
theorem dX7_asksRow_35 : decode cX7_asksRow 35 = .ok (.iconst 1, 1) := by decide +kernel
theorem dX7_asksRow_36 : decode cX7_asksRow 36 = .ok (.goto 17, 3) := by decide +kernel
theorem dX7_asksRow_39 : decode cX7_asksRow 39 = .ok (.aload_n 0, 1) := by decide +kernel
theorem dX7_asksRow_40 : decode cX7_asksRow 40 = .ok (.iload_n 1, 1) := by decide +kernel
theorem dX7_asksRow_41 : decode cX7_asksRow 41 = .ok (.iload_n 2, 1) := by decide +kernel
theorem dX7_asksRow_42 : decode cX7_asksRow 42 = .ok (.invokevirtual 180, 3) := by decide +kernel
theorem dX7_asksRow_45 : decode cX7_asksRow 45 = .ok (.ifCond .ne 7, 3) := by decide +kernel
theorem dX7_asksRow_48 : decode cX7_asksRow 48 = .ok (.iconst 2, 1) := by decide +kernel
theorem dX7_asksRow_49 : decode cX7_asksRow 49 = .ok (.goto 4, 3) := by decide +kernel
theorem dX7_asksRow_52 : decode cX7_asksRow 52 = .ok (.iconst 0, 1) := by decide +kernel
theorem dX7_asksRow_53 : decode cX7_asksRow 53 = .ok (.putfield 60, 3) := by decide +kernel
theorem dX7_asksRow_56 : decode cX7_asksRow 56 = .ok (.aload_n 0, 1) := by decide +kernel
theorem dX7_asksRow_57 : decode cX7_asksRow 57 = .ok (.getfield 60, 3) := by decide +kernel
theorem dX7_asksRow_60 : decode cX7_asksRow 60 = .ok (.ifCond .ne 7, 3) := by decide +kernel
theorem dX7_asksRow_63 : decode cX7_asksRow 63 = .ok (.iconst 1, 1) := by decide +kernel
theorem dX7_asksRow_64 : decode cX7_asksRow 64 = .ok (.goto 4, 3) := by decide +kernel
theorem dX7_asksRow_67 : decode cX7_asksRow 67 = .ok (.iconst 0, 1) := by decide +kernel
theorem dX7_asksRow_68 : decode cX7_asksRow 68 = .ok (.ireturn, 1) := by decide +kernel
theorem dX7_ambiguous_0 : decode cX7_ambiguous 0 = .ok (.aload_n 0, 1) := by decide +kernel
theorem dX7_ambiguous_1 : decode cX7_ambiguous 1 = .ok (.iload_n 1, 1) := by decide +kernel
theorem dX7_ambiguous_2 : decode cX7_ambiguous 2 = .ok (.iload_n 2, 1) := by decide +kernel
theorem dX7_ambiguous_3 : decode cX7_ambiguous 3 = .ok (.invokevirtual 183, 3) := by decide +kernel
theorem dX7_ambiguous_6 : decode cX7_ambiguous 6 = .ok (.ifCond .eq 10, 3) := by decide +kernel
theorem dX7_ambiguous_9 : decode cX7_ambiguous 9 = .ok (.aload_n 0, 1) := by decide +kernel
theorem dX7_ambiguous_10 : decode cX7_ambiguous 10 = .ok (.getfield 93, 3) := by decide +kernel
theorem dX7_ambiguous_13 : decode cX7_ambiguous 13 = .ok (.goto 4, 3) := by decide +kernel
theorem dX7_ambiguous_16 : decode cX7_ambiguous 16 = .ok (.iconst (-1), 1) := by decide +kernel
theorem dX7_ambiguous_17 : decode cX7_ambiguous 17 = .ok (.ireturn, 1) := by decide +kernel
theorem dX7_ambiguousAt_0 : decode cX7_ambiguousAt 0 = .ok (.aload_n 0, 1) := by decide +kernel
theorem dX7_ambiguousAt_1 : decode cX7_ambiguousAt 1 = .ok (.iload_n 1, 1) := by decide +kernel
theorem dX7_ambiguousAt_2 : decode cX7_ambiguousAt 2 = .ok (.iload_n 2, 1) := by decide +kernel
theorem dX7_ambiguousAt_3 : decode cX7_ambiguousAt 3 = .ok (.invokevirtual 183, 3) := by decide +kernel
theorem dX7_ambiguousAt_6 : decode cX7_ambiguousAt 6 = .ok (.ifCond .eq 28, 3) := by decide +kernel
theorem dX7_ambiguousAt_9 : decode cX7_ambiguousAt 9 = .ok (.aload_n 0, 1) := by decide +kernel
theorem dX7_ambiguousAt_10 : decode cX7_ambiguousAt 10 = .ok (.iload_n 3, 1) := by decide +kernel
theorem dX7_ambiguousAt_11 : decode cX7_ambiguousAt 11 = .ok (.i2l, 1) := by decide +kernel
theorem dX7_ambiguousAt_12 : decode cX7_ambiguousAt 12 = .ok (.lconst 0, 1) := by decide +kernel
theorem dX7_ambiguousAt_13 : decode cX7_ambiguousAt 13 = .ok (.aload_n 0, 1) := by decide +kernel
theorem dX7_ambiguousAt_14 : decode cX7_ambiguousAt 14 = .ok (.getfield 93, 3) := by decide +kernel
theorem dX7_ambiguousAt_17 : decode cX7_ambiguousAt 17 = .ok (.iconst 1, 1) := by decide +kernel
theorem dX7_ambiguousAt_18 : decode cX7_ambiguousAt 18 = .ok (.isub, 1) := by decide +kernel
theorem dX7_ambiguousAt_19 : decode cX7_ambiguousAt 19 = .ok (.i2l, 1) := by decide +kernel
theorem dX7_ambiguousAt_20 : decode cX7_ambiguousAt 20 = .ok (.invokestatic 68, 3) := by decide +kernel
theorem dX7_ambiguousAt_23 : decode cX7_ambiguousAt 23 = .ok (.ifCond .eq 7, 3) := by decide +kernel
theorem dX7_ambiguousAt_26 : decode cX7_ambiguousAt 26 = .ok (.iconst 0, 1) := by decide +kernel
theorem dX7_ambiguousAt_27 : decode cX7_ambiguousAt 27 = .ok (.goto 4, 3) := by decide +kernel
theorem dX7_ambiguousAt_30 : decode cX7_ambiguousAt 30 = .ok (.iconst 2, 1) := by decide +kernel
theorem dX7_ambiguousAt_31 : decode cX7_ambiguousAt 31 = .ok (.putfield 60, 3) := by decide +kernel
theorem dX7_ambiguousAt_34 : decode cX7_ambiguousAt 34 = .ok (.aload_n 0, 1) := by decide +kernel
theorem dX7_ambiguousAt_35 : decode cX7_ambiguousAt 35 = .ok (.getfield 60, 3) := by decide +kernel
theorem dX7_ambiguousAt_38 : decode cX7_ambiguousAt 38 = .ok (.ifCond .ne 12, 3) := by decide +kernel
theorem dX7_ambiguousAt_41 : decode cX7_ambiguousAt 41 = .ok (.aload_n 0, 1) := by decide +kernel
theorem dX7_ambiguousAt_42 : decode cX7_ambiguousAt 42 = .ok (.getfield 44, 3) := by decide +kernel
theorem dX7_ambiguousAt_45 : decode cX7_ambiguousAt 45 = .ok (.iload_n 3, 1) := by decide +kernel
theorem dX7_ambiguousAt_46 : decode cX7_ambiguousAt 46 = .ok (.iaload, 1) := by decide +kernel
theorem dX7_ambiguousAt_47 : decode cX7_ambiguousAt 47 = .ok (.goto 4, 3) := by decide +kernel
theorem dX7_ambiguousAt_50 : decode cX7_ambiguousAt 50 = .ok (.iconst (-1), 1) := by decide +kernel
theorem dX7_ambiguousAt_51 : decode cX7_ambiguousAt 51 = .ok (.ireturn, 1) := by decide +kernel
theorem dX7_work_0 : decode cX7_work 0 = .ok (.aload_n 0, 1) := by decide +kernel
theorem dX7_work_1 : decode cX7_work 1 = .ok (.iconst 0, 1) := by decide +kernel
theorem dX7_work_2 : decode cX7_work 2 = .ok (.putfield 60, 3) := by decide +kernel
theorem dX7_work_5 : decode cX7_work 5 = .ok (.aload_n 0, 1) := by decide +kernel
theorem dX7_work_6 : decode cX7_work 6 = .ok (.getfield 137, 3) := by decide +kernel
theorem dX7_work_9 : decode cX7_work 9 = .ok (.lreturn, 1) := by decide +kernel
theorem dX7_cleanShare_0 : decode cX7_cleanShare 0 = .ok (.aload_n 0, 1) := by decide +kernel
theorem dX7_cleanShare_1 : decode cX7_cleanShare 1 = .ok (.aload_n 0, 1) := by decide +kernel
theorem dX7_cleanShare_2 : decode cX7_cleanShare 2 = .ok (.getfield 134, 3) := by decide +kernel
theorem dX7_cleanShare_5 : decode cX7_cleanShare 5 = .ok (.ifCond .ne 7, 3) := by decide +kernel
theorem dX7_cleanShare_8 : decode cX7_cleanShare 8 = .ok (.iconst 1, 1) := by decide +kernel
theorem dX7_cleanShare_9 : decode cX7_cleanShare 9 = .ok (.goto 4, 3) := by decide +kernel
theorem dX7_cleanShare_12 : decode cX7_cleanShare 12 = .ok (.iconst 0, 1) := by decide +kernel
theorem dX7_cleanShare_13 : decode cX7_cleanShare 13 = .ok (.putfield 60, 3) := by decide +kernel
theorem dX7_cleanShare_16 : decode cX7_cleanShare 16 = .ok (.aload_n 0, 1) := by decide +kernel
theorem dX7_cleanShare_17 : decode cX7_cleanShare 17 = .ok (.getfield 60, 3) := by decide +kernel
theorem dX7_cleanShare_20 : decode cX7_cleanShare 20 = .ok (.ifCond .ne 17, 3) := by decide +kernel
theorem dX7_cleanShare_23 : decode cX7_cleanShare 23 = .ok (.aload_n 0, 1) := by decide +kernel
theorem dX7_cleanShare_24 : decode cX7_cleanShare 24 = .ok (.invokevirtual 171, 3) := by decide +kernel
theorem dX7_cleanShare_27 : decode cX7_cleanShare 27 = .ok (.i2f, 1) := by decide +kernel
theorem dX7_cleanShare_28 : decode cX7_cleanShare 28 = .ok (.aload_n 0, 1) := by decide +kernel
theorem dX7_cleanShare_29 : decode cX7_cleanShare 29 = .ok (.getfield 134, 3) := by decide +kernel
theorem dX7_cleanShare_32 : decode cX7_cleanShare 32 = .ok (.i2f, 1) := by decide +kernel
theorem dX7_cleanShare_33 : decode cX7_cleanShare 33 = .ok (.fdiv, 1) := by decide +kernel
theorem dX7_cleanShare_34 : decode cX7_cleanShare 34 = .ok (.goto 4, 3) := by decide +kernel
theorem dX7_cleanShare_37 : decode cX7_cleanShare 37 = .ok (.fconst 0, 1) := by decide +kernel
theorem dX7_cleanShare_38 : decode cX7_cleanShare 38 = .ok (.freturn, 1) := by decide +kernel
theorem dX7_meanTrees_0 : decode cX7_meanTrees 0 = .ok (.iconst 0, 1) := by decide +kernel
theorem dX7_meanTrees_1 : decode cX7_meanTrees 1 = .ok (.istore_n 1, 1) := by decide +kernel
theorem dX7_meanTrees_2 : decode cX7_meanTrees 2 = .ok (.iconst 0, 1) := by decide +kernel
theorem dX7_meanTrees_3 : decode cX7_meanTrees 3 = .ok (.istore_n 2, 1) := by decide +kernel
theorem dX7_meanTrees_4 : decode cX7_meanTrees 4 = .ok (.iload_n 2, 1) := by decide +kernel
theorem dX7_meanTrees_5 : decode cX7_meanTrees 5 = .ok (.aload_n 0, 1) := by decide +kernel
theorem dX7_meanTrees_6 : decode cX7_meanTrees 6 = .ok (.getfield 134, 3) := by decide +kernel
theorem dX7_meanTrees_9 : decode cX7_meanTrees 9 = .ok (.if_icmp .ge 17, 3) := by decide +kernel
theorem dX7_meanTrees_12 : decode cX7_meanTrees 12 = .ok (.iload_n 1, 1) := by decide +kernel
theorem dX7_meanTrees_13 : decode cX7_meanTrees 13 = .ok (.aload_n 0, 1) := by decide +kernel
theorem dX7_meanTrees_14 : decode cX7_meanTrees 14 = .ok (.iload_n 2, 1) := by decide +kernel
theorem dX7_meanTrees_15 : decode cX7_meanTrees 15 = .ok (.invokevirtual 131, 3) := by decide +kernel
theorem dX7_meanTrees_18 : decode cX7_meanTrees 18 = .ok (.iadd, 1) := by decide +kernel
theorem dX7_meanTrees_19 : decode cX7_meanTrees 19 = .ok (.istore_n 1, 1) := by decide +kernel
theorem dX7_meanTrees_20 : decode cX7_meanTrees 20 = .ok (.iinc 2 1, 3) := by decide +kernel
theorem dX7_meanTrees_23 : decode cX7_meanTrees 23 = .ok (.goto (-19), 3) := by decide +kernel
theorem dX7_meanTrees_26 : decode cX7_meanTrees 26 = .ok (.aload_n 0, 1) := by decide +kernel
theorem dX7_meanTrees_27 : decode cX7_meanTrees 27 = .ok (.aload_n 0, 1) := by decide +kernel
theorem dX7_meanTrees_28 : decode cX7_meanTrees 28 = .ok (.getfield 134, 3) := by decide +kernel
theorem dX7_meanTrees_31 : decode cX7_meanTrees 31 = .ok (.ifCond .ne 7, 3) := by decide +kernel
theorem dX7_meanTrees_34 : decode cX7_meanTrees 34 = .ok (.iconst 1, 1) := by decide +kernel
theorem dX7_meanTrees_35 : decode cX7_meanTrees 35 = .ok (.goto 4, 3) := by decide +kernel
theorem dX7_meanTrees_38 : decode cX7_meanTrees 38 = .ok (.iconst 0, 1) := by decide +kernel
theorem dX7_meanTrees_39 : decode cX7_meanTrees 39 = .ok (.putfield 60, 3) := by decide +kernel
theorem dX7_meanTrees_42 : decode cX7_meanTrees 42 = .ok (.aload_n 0, 1) := by decide +kernel
theorem dX7_meanTrees_43 : decode cX7_meanTrees 43 = .ok (.getfield 60, 3) := by decide +kernel
theorem dX7_meanTrees_46 : decode cX7_meanTrees 46 = .ok (.ifCond .ne 14, 3) := by decide +kernel
theorem dX7_meanTrees_49 : decode cX7_meanTrees 49 = .ok (.iload_n 1, 1) := by decide +kernel
theorem dX7_meanTrees_50 : decode cX7_meanTrees 50 = .ok (.i2d, 1) := by decide +kernel
theorem dX7_meanTrees_51 : decode cX7_meanTrees 51 = .ok (.aload_n 0, 1) := by decide +kernel
theorem dX7_meanTrees_52 : decode cX7_meanTrees 52 = .ok (.getfield 134, 3) := by decide +kernel
theorem dX7_meanTrees_55 : decode cX7_meanTrees 55 = .ok (.i2d, 1) := by decide +kernel
theorem dX7_meanTrees_56 : decode cX7_meanTrees 56 = .ok (.ddiv, 1) := by decide +kernel
theorem dX7_meanTrees_57 : decode cX7_meanTrees 57 = .ok (.goto 4, 3) := by decide +kernel
theorem dX7_meanTrees_60 : decode cX7_meanTrees 60 = .ok (.dconst 0, 1) := by decide +kernel
theorem dX7_meanTrees_61 : decode cX7_meanTrees 61 = .ok (.dreturn, 1) := by decide +kernel
theorem dX7_isSound_0 : decode cX7_isSound 0 = .ok (.aload_n 0, 1) := by decide +kernel
theorem dX7_isSound_1 : decode cX7_isSound 1 = .ok (.iconst 0, 1) := by decide +kernel
theorem dX7_isSound_2 : decode cX7_isSound 2 = .ok (.putfield 60, 3) := by decide +kernel
theorem dX7_isSound_5 : decode cX7_isSound 5 = .ok (.iconst 1, 1) := by decide +kernel
theorem dX7_isSound_6 : decode cX7_isSound 6 = .ok (.ireturn, 1) := by decide +kernel

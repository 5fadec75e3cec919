theorem dX4_init_0 : decode cX4_init 0 = .ok (.aload_n 0, 1) := by decide +kernel
theorem dX4_init_1 : decode cX4_init 1 = .ok (.invokespecial 3, 3) := by decide +kernel
theorem dX4_init_4 : decode cX4_init 4 = .ok (.aload_n 0, 1) := by decide +kernel
theorem dX4_init_5 : decode cX4_init 5 = .ok (.sipush 901, 3) := by decide +kernel
theorem dX4_init_8 : decode cX4_init 8 = .ok (.newarray .int, 2) := by decide +kernel
theorem dX4_init_10 : decode cX4_init 10 = .ok (.putfield 11, 3) := by decide +kernel
theorem dX4_init_13 : decode cX4_init 13 = .ok (.aload_n 0, 1) := by decide +kernel
theorem dX4_init_14 : decode cX4_init 14 = .ok (.sipush 901, 3) := by decide +kernel
theorem dX4_init_17 : decode cX4_init 17 = .ok (.newarray .int, 2) := by decide +kernel
theorem dX4_init_19 : decode cX4_init 19 = .ok (.putfield 15, 3) := by decide +kernel
theorem dX4_init_22 : decode cX4_init 22 = .ok (.aload_n 0, 1) := by decide +kernel
theorem dX4_init_23 : decode cX4_init 23 = .ok (.sipush 901, 3) := by decide +kernel
theorem dX4_init_26 : decode cX4_init 26 = .ok (.newarray .long, 2) := by decide +kernel
theorem dX4_init_28 : decode cX4_init 28 = .ok (.putfield 18, 3) := by decide +kernel
theorem dX4_init_31 : decode cX4_init 31 = .ok (.aload_n 0, 1) := by decide +kernel
theorem dX4_init_32 : decode cX4_init 32 = .ok (.iconst (-1), 1) := by decide +kernel
theorem dX4_init_33 : decode cX4_init 33 = .ok (.putfield 22, 3) := by decide +kernel
theorem dX4_init_36 : decode cX4_init 36 = .ok (.aload_n 0, 1) := by decide +kernel
theorem dX4_init_37 : decode cX4_init 37 = .ok (.iconst (-1), 1) := by decide +kernel
theorem dX4_init_38 : decode cX4_init 38 = .ok (.putfield 26, 3) := by decide +kernel
theorem dX4_init_41 : decode cX4_init 41 = .ok (.return_, 1) := by decide +kernel
theorem dX4_open_0 : decode cX4_open 0 = .ok (.iconst 0, 1) := by decide +kernel
theorem dX4_open_1 : decode cX4_open 1 = .ok (.iload_n 2, 1) := by decide +kernel
theorem dX4_open_2 : decode cX4_open 2 = .ok (.aload_n 1, 1) := by decide +kernel
theorem dX4_open_3 : decode cX4_open 3 = .ok (.arraylength, 1) := by decide +kernel
theorem dX4_open_4 : decode cX4_open 4 = .ok (.sipush 900, 3) := by decide +kernel
theorem dX4_open_7 : decode cX4_open 7 = .ok (.invokestatic 29, 3) := by decide +kernel
theorem dX4_open_10 : decode cX4_open 10 = .ok (.invokestatic 29, 3) := by decide +kernel
theorem dX4_open_13 : decode cX4_open 13 = .ok (.invokestatic 35, 3) := by decide +kernel
theorem dX4_open_16 : decode cX4_open 16 = .ok (.istore_n 3, 1) := by decide +kernel
theorem dX4_open_17 : decode cX4_open 17 = .ok (.iconst 0, 1) := by decide +kernel
theorem dX4_open_18 : decode cX4_open 18 = .ok (.istore 4, 2) := by decide +kernel
theorem dX4_open_20 : decode cX4_open 20 = .ok (.aload_n 0, 1) := by decide +kernel
theorem dX4_open_21 : decode cX4_open 21 = .ok (.iconst 0, 1) := by decide +kernel
theorem dX4_open_22 : decode cX4_open 22 = .ok (.putfield 38, 3) := by decide +kernel
theorem dX4_open_25 : decode cX4_open 25 = .ok (.iload 4, 2) := by decide +kernel
theorem dX4_open_27 : decode cX4_open 27 = .ok (.iload_n 3, 1) := by decide +kernel
theorem dX4_open_28 : decode cX4_open 28 = .ok (.if_icmp .ge 105, 3) := by decide +kernel
theorem dX4_open_31 : decode cX4_open 31 = .ok (.aload_n 1, 1) := by decide +kernel
theorem dX4_open_32 : decode cX4_open 32 = .ok (.iload 4, 2) := by decide +kernel
theorem dX4_open_34 : decode cX4_open 34 = .ok (.baload, 1) := by decide +kernel
theorem dX4_open_35 : decode cX4_open 35 = .ok (.istore 5, 2) := by decide +kernel
theorem dX4_open_37 : decode cX4_open 37 = .ok (.iconst 1, 1) := by decide +kernel
theorem dX4_open_38 : decode cX4_open 38 = .ok (.istore 6, 2) := by decide +kernel
theorem dX4_open_40 : decode cX4_open 40 = .ok (.iload 5, 2) := by decide +kernel
theorem dX4_open_42 : decode cX4_open 42 = .ok (.invokestatic 41, 3) := by decide +kernel
theorem dX4_open_45 : decode cX4_open 45 = .ok (.ifCond .eq 16, 3) := by decide +kernel
theorem dX4_open_48 : decode cX4_open 48 = .ok (.aload_n 0, 1) := by decide +kernel
theorem dX4_open_49 : decode cX4_open 49 = .ok (.aload_n 1, 1) := by decide +kernel
theorem dX4_open_50 : decode cX4_open 50 = .ok (.iload 4, 2) := by decide +kernel
theorem dX4_open_52 : decode cX4_open 52 = .ok (.iload_n 3, 1) := by decide +kernel
theorem dX4_open_53 : decode cX4_open 53 = .ok (.invokevirtual 45, 3) := by decide +kernel
theorem dX4_open_56 : decode cX4_open 56 = .ok (.istore 6, 2) := by decide +kernel
theorem dX4_open_58 : decode cX4_open 58 = .ok (.goto 61, 3) := by decide +kernel
theorem dX4_open_61 : decode cX4_open 61 = .ok (.iload 5, 2) := by decide +kernel
theorem dX4_open_63 : decode cX4_open 63 = .ok (.invokestatic 49, 3) := by decide +kernel
theorem dX4_open_66 : decode cX4_open 66 = .ok (.ifCond .eq 16, 3) := by decide +kernel
theorem dX4_open_69 : decode cX4_open 69 = .ok (.aload_n 0, 1) := by decide +kernel
theorem dX4_open_70 : decode cX4_open 70 = .ok (.aload_n 1, 1) := by decide +kernel
theorem dX4_open_71 : decode cX4_open 71 = .ok (.iload 4, 2) := by decide +kernel
theorem dX4_open_73 : decode cX4_open 73 = .ok (.iload_n 3, 1) := by decide +kernel
theorem dX4_open_74 : decode cX4_open 74 = .ok (.invokevirtual 52, 3) := by decide +kernel
theorem dX4_open_77 : decode cX4_open 77 = .ok (.istore 6, 2) := by decide +kernel
theorem dX4_open_79 : decode cX4_open 79 = .ok (.goto 40, 3) := by decide +kernel
theorem dX4_open_82 : decode cX4_open 82 = .ok (.iload 5, 2) := by decide +kernel
theorem dX4_open_84 : decode cX4_open 84 = .ok (.bipush 32, 2) := by decide +kernel
theorem dX4_open_86 : decode cX4_open 86 = .ok (.if_icmp .eq 33, 3) := by decide +kernel
theorem dX4_open_89 : decode cX4_open 89 = .ok (.iload 5, 2) := by decide +kernel
theorem dX4_open_91 : decode cX4_open 91 = .ok (.bipush 10, 2) := by decide +kernel
theorem dX4_open_93 : decode cX4_open 93 = .ok (.if_icmp .eq 26, 3) := by decide +kernel
theorem dX4_open_96 : decode cX4_open 96 = .ok (.aload_n 0, 1) := by decide +kernel
theorem dX4_open_97 : decode cX4_open 97 = .ok (.iload 5, 2) := by decide +kernel
theorem dX4_open_99 : decode cX4_open 99 = .ok (.invokestatic 55, 3) := by decide +kernel
theorem dX4_open_102 : decode cX4_open 102 = .ok (.ifCond .eq 7, 3) := by decide +kernel
theorem dX4_open_105 : decode cX4_open 105 = .ok (.iconst 5, 1) := by decide +kernel
theorem dX4_open_106 : decode cX4_open 106 = .ok (.goto 5, 3) := by decide +kernel
theorem dX4_open_109 : decode cX4_open 109 = .ok (.bipush 6, 2) := by decide +kernel
theorem dX4_open_111 : decode cX4_open 111 = .ok (.iload 4, 2) := by decide +kernel
theorem dX4_open_113 : decode cX4_open 113 = .ok (.iload 5, 2) := by decide +kernel
theorem dX4_open_115 : decode cX4_open 115 = .ok (.i2l, 1) := by decide +kernel
theorem dX4_open_116 : decode cX4_open 116 = .ok (.invokevirtual 58, 3) := by decide +kernel
theorem dX4_open_119 : decode cX4_open 119 = .ok (.iload 4, 2) := by decide +kernel
theorem dX4_open_121 : decode cX4_open 121 = .ok (.iconst 1, 1) := by decide +kernel
theorem dX4_open_122 : decode cX4_open 122 = .ok (.iload 6, 2) := by decide +kernel
theorem dX4_open_124 : decode cX4_open 124 = .ok (.invokestatic 35, 3) := by decide +kernel
theorem dX4_open_127 : decode cX4_open 127 = .ok (.iadd, 1) := by decide +kernel
theorem dX4_open_128 : decode cX4_open 128 = .ok (.istore 4, 2) := by decide +kernel
theorem dX4_open_130 : decode cX4_open 130 = .ok (.goto (-105), 3) := by decide +kernel
theorem dX4_open_133 : decode cX4_open 133 = .ok (.aload_n 0, 1) := by decide +kernel
theorem dX4_open_134 : decode cX4_open 134 = .ok (.iconst 0, 1) := by decide +kernel
theorem dX4_open_135 : decode cX4_open 135 = .ok (.iload_n 3, 1) := by decide +kernel
theorem dX4_open_136 : decode cX4_open 136 = .ok (.lconst 0, 1) := by decide +kernel
theorem dX4_open_137 : decode cX4_open 137 = .ok (.invokevirtual 58, 3) := by decide +kernel
theorem dX4_open_140 : decode cX4_open 140 = .ok (.aload_n 0, 1) := by decide +kernel
theorem dX4_open_141 : decode cX4_open 141 = .ok (.iconst 0, 1) := by decide +kernel
theorem dX4_open_142 : decode cX4_open 142 = .ok (.putfield 62, 3) := by decide +kernel
theorem dX4_open_145 : decode cX4_open 145 = .ok (.aload_n 0, 1) := by decide +kernel
theorem dX4_open_146 : decode cX4_open 146 = .ok (.iconst 0, 1) := by decide +kernel
theorem dX4_open_147 : decode cX4_open 147 = .ok (.putfield 22, 3) := by decide +kernel
theorem dX4_open_150 : decode cX4_open 150 = .ok (.aload_n 0, 1) := by decide +kernel
theorem dX4_open_151 : decode cX4_open 151 = .ok (.iconst (-1), 1) := by decide +kernel
theorem dX4_open_152 : decode cX4_open 152 = .ok (.putfield 26, 3) := by decide +kernel
theorem dX4_open_155 : decode cX4_open 155 = .ok (.return_, 1) := by decide +kernel
theorem dX4_add_0 : decode cX4_add 0 = .ok (.aload_n 0, 1) := by decide +kernel
theorem dX4_add_1 : decode cX4_add 1 = .ok (.getfield 38, 3) := by decide +kernel
theorem dX4_add_4 : decode cX4_add 4 = .ok (.sipush 901, 3) := by decide +kernel
theorem dX4_add_7 : decode cX4_add 7 = .ok (.if_icmp .ge 43, 3) := by decide +kernel
theorem dX4_add_10 : decode cX4_add 10 = .ok (.aload_n 0, 1) := by decide +kernel
theorem dX4_add_11 : decode cX4_add 11 = .ok (.getfield 11, 3) := by decide +kernel
theorem dX4_add_14 : decode cX4_add 14 = .ok (.aload_n 0, 1) := by decide +kernel
theorem dX4_add_15 : decode cX4_add 15 = .ok (.getfield 38, 3) := by decide +kernel
theorem dX4_add_18 : decode cX4_add 18 = .ok (.iload_n 1, 1) := by decide +kernel
theorem dX4_add_19 : decode cX4_add 19 = .ok (.iastore, 1) := by decide +kernel
theorem dX4_add_20 : decode cX4_add 20 = .ok (.aload_n 0, 1) := by decide +kernel
theorem dX4_add_21 : decode cX4_add 21 = .ok (.getfield 15, 3) := by decide +kernel
theorem dX4_add_24 : decode cX4_add 24 = .ok (.aload_n 0, 1) := by decide +kernel
theorem dX4_add_25 : decode cX4_add 25 = .ok (.getfield 38, 3) := by decide +kernel
theorem dX4_add_28 : decode cX4_add 28 = .ok (.iload_n 2, 1) := by decide +kernel
theorem dX4_add_29 : decode cX4_add 29 = .ok (.iastore, 1) := by decide +kernel
theorem dX4_add_30 : decode cX4_add 30 = .ok (.aload_n 0, 1) := by decide +kernel
theorem dX4_add_31 : decode cX4_add 31 = .ok (.getfield 18, 3) := by decide +kernel
theorem dX4_add_34 : decode cX4_add 34 = .ok (.aload_n 0, 1) := by decide +kernel
theorem dX4_add_35 : decode cX4_add 35 = .ok (.getfield 38, 3) := by decide +kernel
theorem dX4_add_38 : decode cX4_add 38 = .ok (.lload_n 3, 1) := by decide +kernel
theorem dX4_add_39 : decode cX4_add 39 = .ok (.lastore, 1) := by decide +kernel
theorem dX4_add_40 : decode cX4_add 40 = .ok (.aload_n 0, 1) := by decide +kernel
theorem dX4_add_41 : decode cX4_add 41 = .ok (.dup, 1) := by decide +kernel
theorem dX4_add_42 : decode cX4_add 42 = .ok (.getfield 38, 3) := by decide +kernel
theorem dX4_add_45 : decode cX4_add 45 = .ok (.iconst 1, 1) := by decide +kernel
theorem dX4_add_46 : decode cX4_add 46 = .ok (.iadd, 1) := by decide +kernel
theorem dX4_add_47 : decode cX4_add 47 = .ok (.putfield 38, 3) := by decide +kernel
theorem dX4_add_50 : decode cX4_add 50 = .ok (.return_, 1) := by decide +kernel
theorem dX4_addWord_0 : decode cX4_addWord 0 = .ok (.lconst 0, 1) := by decide +kernel
theorem dX4_addWord_1 : decode cX4_addWord 1 = .ok (.lstore 4, 2) := by decide +kernel
theorem dX4_addWord_3 : decode cX4_addWord 3 = .ok (.iload_n 2, 1) := by decide +kernel
theorem dX4_addWord_4 : decode cX4_addWord 4 = .ok (.istore 6, 2) := by decide +kernel
theorem dX4_addWord_6 : decode cX4_addWord 6 = .ok (.iload 6, 2) := by decide +kernel
theorem dX4_addWord_8 : decode cX4_addWord 8 = .ok (.iload_n 3, 1) := by decide +kernel
theorem dX4_addWord_9 : decode cX4_addWord 9 = .ok (.if_icmp .ge 30, 3) := by decide +kernel
theorem dX4_addWord_12 : decode cX4_addWord 12 = .ok (.aload_n 1, 1) := by decide +kernel
theorem dX4_addWord_13 : decode cX4_addWord 13 = .ok (.iload 6, 2) := by decide +kernel
theorem dX4_addWord_15 : decode cX4_addWord 15 = .ok (.baload, 1) := by decide +kernel
theorem dX4_addWord_16 : decode cX4_addWord 16 = .ok (.invokestatic 41, 3) := by decide +kernel
theorem dX4_addWord_19 : decode cX4_addWord 19 = .ok (.ifCond .eq 20, 3) := by decide +kernel
theorem dX4_addWord_22 : decode cX4_addWord 22 = .ok (.lload 4, 2) := by decide +kernel
theorem dX4_addWord_24 : decode cX4_addWord 24 = .ok (.aload_n 1, 1) := by decide +kernel
theorem dX4_addWord_25 : decode cX4_addWord 25 = .ok (.iload 6, 2) := by decide +kernel
theorem dX4_addWord_27 : decode cX4_addWord 27 = .ok (.baload, 1) := by decide +kernel
theorem dX4_addWord_28 : decode cX4_addWord 28 = .ok (.invokestatic 65, 3) := by decide +kernel
theorem dX4_addWord_31 : decode cX4_addWord 31 = .ok (.lstore 4, 2) := by decide +kernel
theorem dX4_addWord_33 : decode cX4_addWord 33 = .ok (.iinc 6 1, 3) := by decide +kernel
theorem dX4_addWord_36 : decode cX4_addWord 36 = .ok (.goto (-30), 3) := by decide +kernel
theorem dX4_addWord_39 : decode cX4_addWord 39 = .ok (.lload 4, 2) := by decide +kernel
theorem dX4_addWord_41 : decode cX4_addWord 41 = .ok (.invokestatic 71, 3) := by decide +kernel
theorem dX4_addWord_44 : decode cX4_addWord 44 = .ok (.istore 7, 2) := by decide +kernel
theorem dX4_addWord_46 : decode cX4_addWord 46 = .ok (.iload 6, 2) := by decide +kernel
theorem dX4_addWord_48 : decode cX4_addWord 48 = .ok (.iload_n 2, 1) := by decide +kernel
theorem dX4_addWord_49 : decode cX4_addWord 49 = .ok (.isub, 1) := by decide +kernel
theorem dX4_addWord_50 : decode cX4_addWord 50 = .ok (.bipush 8, 2) := by decide +kernel
theorem dX4_addWord_52 : decode cX4_addWord 52 = .ok (.if_icmp .le 13, 3) := by decide +kernel
theorem dX4_addWord_55 : decode cX4_addWord 55 = .ok (.aload_n 0, 1) := by decide +kernel
theorem dX4_addWord_56 : decode cX4_addWord 56 = .ok (.iconst 3, 1) := by decide +kernel
theorem dX4_addWord_57 : decode cX4_addWord 57 = .ok (.iload_n 2, 1) := by decide +kernel
theorem dX4_addWord_58 : decode cX4_addWord 58 = .ok (.lconst 0, 1) := by decide +kernel
theorem dX4_addWord_59 : decode cX4_addWord 59 = .ok (.invokevirtual 58, 3) := by decide +kernel
theorem dX4_addWord_62 : decode cX4_addWord 62 = .ok (.goto 29, 3) := by decide +kernel
theorem dX4_addWord_65 : decode cX4_addWord 65 = .ok (.iload 7, 2) := by decide +kernel
theorem dX4_addWord_67 : decode cX4_addWord 67 = .ok (.iconst (-1), 1) := by decide +kernel
theorem dX4_addWord_68 : decode cX4_addWord 68 = .ok (.if_icmp .eq 15, 3) := by decide +kernel
theorem dX4_addWord_71 : decode cX4_addWord 71 = .ok (.aload_n 0, 1) := by decide +kernel
theorem dX4_addWord_72 : decode cX4_addWord 72 = .ok (.iconst 1, 1) := by decide +kernel
theorem dX4_addWord_73 : decode cX4_addWord 73 = .ok (.iload_n 2, 1) := by decide +kernel
theorem dX4_addWord_74 : decode cX4_addWord 74 = .ok (.iload 7, 2) := by decide +kernel
theorem dX4_addWord_76 : decode cX4_addWord 76 = .ok (.i2l, 1) := by decide +kernel
theorem dX4_addWord_77 : decode cX4_addWord 77 = .ok (.invokevirtual 58, 3) := by decide +kernel
theorem dX4_addWord_80 : decode cX4_addWord 80 = .ok (.goto 11, 3) := by decide +kernel
theorem dX4_addWord_83 : decode cX4_addWord 83 = .ok (.aload_n 0, 1) := by decide +kernel
theorem dX4_addWord_84 : decode cX4_addWord 84 = .ok (.iconst 2, 1) := by decide +kernel
theorem dX4_addWord_85 : decode cX4_addWord 85 = .ok (.iload_n 2, 1) := by decide +kernel
theorem dX4_addWord_86 : decode cX4_addWord 86 = .ok (.lload 4, 2) := by decide +kernel
theorem dX4_addWord_88 : decode cX4_addWord 88 = .ok (.invokevirtual 58, 3) := by decide +kernel
theorem dX4_addWord_91 : decode cX4_addWord 91 = .ok (.iload 6, 2) := by decide +kernel
theorem dX4_addWord_93 : decode cX4_addWord 93 = .ok (.iload_n 2, 1) := by decide +kernel
theorem dX4_addWord_94 : decode cX4_addWord 94 = .ok (.isub, 1) := by decide +kernel
theorem dX4_addWord_95 : decode cX4_addWord 95 = .ok (.ireturn, 1) := by decide +kernel
theorem dX4_addNumber_0 : decode cX4_addNumber 0 = .ok (.iconst 0, 1) := by decide +kernel
theorem dX4_addNumber_1 : decode cX4_addNumber 1 = .ok (.istore 4, 2) := by decide +kernel
theorem dX4_addNumber_3 : decode cX4_addNumber 3 = .ok (.iload_n 2, 1) := by decide +kernel
theorem dX4_addNumber_4 : decode cX4_addNumber 4 = .ok (.istore 5, 2) := by decide +kernel
theorem dX4_addNumber_6 : decode cX4_addNumber 6 = .ok (.iload 5, 2) := by decide +kernel
theorem dX4_addNumber_8 : decode cX4_addNumber 8 = .ok (.iload_n 3, 1) := by decide +kernel
theorem dX4_addNumber_9 : decode cX4_addNumber 9 = .ok (.if_icmp .ge 34, 3) := by decide +kernel
theorem dX4_addNumber_12 : decode cX4_addNumber 12 = .ok (.aload_n 1, 1) := by decide +kernel
theorem dX4_addNumber_13 : decode cX4_addNumber 13 = .ok (.iload 5, 2) := by decide +kernel
theorem dX4_addNumber_15 : decode cX4_addNumber 15 = .ok (.baload, 1) := by decide +kernel
theorem dX4_addNumber_16 : decode cX4_addNumber 16 = .ok (.invokestatic 49, 3) := by decide +kernel
theorem dX4_addNumber_19 : decode cX4_addNumber 19 = .ok (.ifCond .eq 24, 3) := by decide +kernel
theorem dX4_addNumber_22 : decode cX4_addNumber 22 = .ok (.iload 4, 2) := by decide +kernel
theorem dX4_addNumber_24 : decode cX4_addNumber 24 = .ok (.bipush 10, 2) := by decide +kernel
theorem dX4_addNumber_26 : decode cX4_addNumber 26 = .ok (.imul, 1) := by decide +kernel
theorem dX4_addNumber_27 : decode cX4_addNumber 27 = .ok (.aload_n 1, 1) := by decide +kernel
theorem dX4_addNumber_28 : decode cX4_addNumber 28 = .ok (.iload 5, 2) := by decide +kernel
theorem dX4_addNumber_30 : decode cX4_addNumber 30 = .ok (.baload, 1) := by decide +kernel
theorem dX4_addNumber_31 : decode cX4_addNumber 31 = .ok (.bipush 48, 2) := by decide +kernel
theorem dX4_addNumber_33 : decode cX4_addNumber 33 = .ok (.isub, 1) := by decide +kernel
theorem dX4_addNumber_34 : decode cX4_addNumber 34 = .ok (.iadd, 1) := by decide +kernel
theorem dX4_addNumber_35 : decode cX4_addNumber 35 = .ok (.istore 4, 2) := by decide +kernel
theorem dX4_addNumber_37 : decode cX4_addNumber 37 = .ok (.iinc 5 1, 3) := by decide +kernel
theorem dX4_addNumber_40 : decode cX4_addNumber 40 = .ok (.goto (-34), 3) := by decide +kernel
theorem dX4_addNumber_43 : decode cX4_addNumber 43 = .ok (.aload_n 0, 1) := by decide +kernel
theorem dX4_addNumber_44 : decode cX4_addNumber 44 = .ok (.iload 5, 2) := by decide +kernel
theorem dX4_addNumber_46 : decode cX4_addNumber 46 = .ok (.iload_n 2, 1) := by decide +kernel
theorem dX4_addNumber_47 : decode cX4_addNumber 47 = .ok (.isub, 1) := by decide +kernel
theorem dX4_addNumber_48 : decode cX4_addNumber 48 = .ok (.iconst 4, 1) := by decide +kernel
theorem dX4_addNumber_49 : decode cX4_addNumber 49 = .ok (.if_icmp .le 8, 3) := by decide +kernel
theorem dX4_addNumber_52 : decode cX4_addNumber 52 = .ok (.bipush 6, 2) := by decide +kernel
theorem dX4_addNumber_54 : decode cX4_addNumber 54 = .ok (.goto 4, 3) := by decide +kernel
theorem dX4_addNumber_57 : decode cX4_addNumber 57 = .ok (.iconst 4, 1) := by decide +kernel
theorem dX4_addNumber_58 : decode cX4_addNumber 58 = .ok (.iload_n 2, 1) := by decide +kernel
theorem dX4_addNumber_59 : decode cX4_addNumber 59 = .ok (.iload 4, 2) := by decide +kernel
theorem dX4_addNumber_61 : decode cX4_addNumber 61 = .ok (.i2l, 1) := by decide +kernel
theorem dX4_addNumber_62 : decode cX4_addNumber 62 = .ok (.invokevirtual 58, 3) := by decide +kernel
theorem dX4_addNumber_65 : decode cX4_addNumber 65 = .ok (.iload 5, 2) := by decide +kernel
theorem dX4_addNumber_67 : decode cX4_addNumber 67 = .ok (.iload_n 2, 1) := by decide +kernel
theorem dX4_addNumber_68 : decode cX4_addNumber 68 = .ok (.isub, 1) := by decide +kernel
theorem dX4_addNumber_69 : decode cX4_addNumber 69 = .ok (.ireturn, 1) := by decide +kernel
theorem dX4_isLetter_0 : decode cX4_isLetter 0 = .ok (.iload_n 0, 1) := by decide +kernel
theorem dX4_isLetter_1 : decode cX4_isLetter 1 = .ok (.bipush 97, 2) := by decide +kernel
theorem dX4_isLetter_3 : decode cX4_isLetter 3 = .ok (.if_icmp .lt 13, 3) := by decide +kernel
theorem dX4_isLetter_6 : decode cX4_isLetter 6 = .ok (.iload_n 0, 1) := by decide +kernel
theorem dX4_isLetter_7 : decode cX4_isLetter 7 = .ok (.bipush 122, 2) := by decide +kernel
theorem dX4_isLetter_9 : decode cX4_isLetter 9 = .ok (.if_icmp .gt 7, 3) := by decide +kernel
theorem dX4_isLetter_12 : decode cX4_isLetter 12 = .ok (.iconst 1, 1) := by decide +kernel
theorem dX4_isLetter_13 : decode cX4_isLetter 13 = .ok (.goto 4, 3) := by decide +kernel
theorem dX4_isLetter_16 : decode cX4_isLetter 16 = .ok (.iconst 0, 1) := by decide +kernel
theorem dX4_isLetter_17 : decode cX4_isLetter 17 = .ok (.ireturn, 1) := by decide +kernel
theorem dX4_isDigit_0 : decode cX4_isDigit 0 = .ok (.iload_n 0, 1) := by decide +kernel
theorem dX4_isDigit_1 : decode cX4_isDigit 1 = .ok (.bipush 48, 2) := by decide +kernel
theorem dX4_isDigit_3 : decode cX4_isDigit 3 = .ok (.if_icmp .lt 13, 3) := by decide +kernel
theorem dX4_isDigit_6 : decode cX4_isDigit 6 = .ok (.iload_n 0, 1) := by decide +kernel
theorem dX4_isDigit_7 : decode cX4_isDigit 7 = .ok (.bipush 57, 2) := by decide +kernel
theorem dX4_isDigit_9 : decode cX4_isDigit 9 = .ok (.if_icmp .gt 7, 3) := by decide +kernel
theorem dX4_isDigit_12 : decode cX4_isDigit 12 = .ok (.iconst 1, 1) := by decide +kernel
theorem dX4_isDigit_13 : decode cX4_isDigit 13 = .ok (.goto 4, 3) := by decide +kernel
theorem dX4_isDigit_16 : decode cX4_isDigit 16 = .ok (.iconst 0, 1) := by decide +kernel
theorem dX4_isDigit_17 : decode cX4_isDigit 17 = .ok (.ireturn, 1) := by decide +kernel
theorem dX4_isSign_0 : decode cX4_isSign 0 = .ok (.iload_n 0, 1) := by decide +kernel
theorem dX4_isSign_1 : decode cX4_isSign 1 = .ok (.bipush 59, 2) := by decide +kernel
theorem dX4_isSign_3 : decode cX4_isSign 3 = .ok (.if_icmp .eq 21, 3) := by decide +kernel
theorem dX4_isSign_6 : decode cX4_isSign 6 = .ok (.iload_n 0, 1) := by decide +kernel
theorem dX4_isSign_7 : decode cX4_isSign 7 = .ok (.bipush 60, 2) := by decide +kernel
theorem dX4_isSign_9 : decode cX4_isSign 9 = .ok (.if_icmp .eq 15, 3) := by decide +kernel
theorem dX4_isSign_12 : decode cX4_isSign 12 = .ok (.iload_n 0, 1) := by decide +kernel
theorem dX4_isSign_13 : decode cX4_isSign 13 = .ok (.bipush 62, 2) := by decide +kernel
theorem dX4_isSign_15 : decode cX4_isSign 15 = .ok (.if_icmp .eq 9, 3) := by decide +kernel
theorem dX4_isSign_18 : decode cX4_isSign 18 = .ok (.iload_n 0, 1) := by decide +kernel
theorem dX4_isSign_19 : decode cX4_isSign 19 = .ok (.bipush 61, 2) := by decide +kernel
theorem dX4_isSign_21 : decode cX4_isSign 21 = .ok (.if_icmp .ne 7, 3) := by decide +kernel
theorem dX4_isSign_24 : decode cX4_isSign 24 = .ok (.iconst 1, 1) := by decide +kernel
theorem dX4_isSign_25 : decode cX4_isSign 25 = .ok (.goto 4, 3) := by decide +kernel
theorem dX4_isSign_28 : decode cX4_isSign 28 = .ok (.iconst 0, 1) := by decide +kernel
theorem dX4_isSign_29 : decode cX4_isSign 29 = .ok (.ireturn, 1) := by decide +kernel
theorem dX4_areGood_0 : decode cX4_areGood 0 = .ok (.aload_n 0, 1) := by decide +kernel
theorem dX4_areGood_1 : decode cX4_areGood 1 = .ok (.getfield 22, 3) := by decide +kernel
theorem dX4_areGood_4 : decode cX4_areGood 4 = .ok (.ifCond .ne 7, 3) := by decide +kernel
theorem dX4_areGood_7 : decode cX4_areGood 7 = .ok (.iconst 1, 1) := by decide +kernel
theorem dX4_areGood_8 : decode cX4_areGood 8 = .ok (.goto 4, 3) := by decide +kernel
theorem dX4_areGood_11 : decode cX4_areGood 11 = .ok (.iconst 0, 1) := by decide +kernel
theorem dX4_areGood_12 : decode cX4_areGood 12 = .ok (.ireturn, 1) := by decide +kernel
theorem dX4_goOn_0 : decode cX4_goOn 0 = .ok (.aload_n 0, 1) := by decide +kernel
theorem dX4_goOn_1 : decode cX4_goOn 1 = .ok (.getfield 22, 3) := by decide +kernel
theorem dX4_goOn_4 : decode cX4_goOn 4 = .ok (.ifCond .ne 19, 3) := by decide +kernel
theorem dX4_goOn_7 : decode cX4_goOn 7 = .ok (.aload_n 0, 1) := by decide +kernel
theorem dX4_goOn_8 : decode cX4_goOn 8 = .ok (.getfield 11, 3) := by decide +kernel
theorem dX4_goOn_11 : decode cX4_goOn 11 = .ok (.aload_n 0, 1) := by decide +kernel
theorem dX4_goOn_12 : decode cX4_goOn 12 = .ok (.getfield 62, 3) := by decide +kernel
theorem dX4_goOn_15 : decode cX4_goOn 15 = .ok (.iaload, 1) := by decide +kernel
theorem dX4_goOn_16 : decode cX4_goOn 16 = .ok (.ifCond .eq 7, 3) := by decide +kernel
theorem dX4_goOn_19 : decode cX4_goOn 19 = .ok (.iconst 1, 1) := by decide +kernel
theorem dX4_goOn_20 : decode cX4_goOn 20 = .ok (.goto 4, 3) := by decide +kernel
theorem dX4_goOn_23 : decode cX4_goOn 23 = .ok (.iconst 0, 1) := by decide +kernel
theorem dX4_goOn_24 : decode cX4_goOn 24 = .ok (.ireturn, 1) := by decide +kernel
theorem dX4_fail_0 : decode cX4_fail 0 = .ok (.aload_n 0, 1) := by decide +kernel
theorem dX4_fail_1 : decode cX4_fail 1 = .ok (.getfield 22, 3) := by decide +kernel
theorem dX4_fail_4 : decode cX4_fail 4 = .ok (.ifCond .ne 39, 3) := by decide +kernel
theorem dX4_fail_7 : decode cX4_fail 7 = .ok (.aload_n 0, 1) := by decide +kernel
theorem dX4_fail_8 : decode cX4_fail 8 = .ok (.aload_n 0, 1) := by decide +kernel
theorem dX4_fail_9 : decode cX4_fail 9 = .ok (.getfield 11, 3) := by decide +kernel
theorem dX4_fail_12 : decode cX4_fail 12 = .ok (.aload_n 0, 1) := by decide +kernel
theorem dX4_fail_13 : decode cX4_fail 13 = .ok (.getfield 62, 3) := by decide +kernel
theorem dX4_fail_16 : decode cX4_fail 16 = .ok (.iaload, 1) := by decide +kernel
theorem dX4_fail_17 : decode cX4_fail 17 = .ok (.bipush 6, 2) := by decide +kernel
theorem dX4_fail_19 : decode cX4_fail 19 = .ok (.if_icmp .ne 7, 3) := by decide +kernel
theorem dX4_fail_22 : decode cX4_fail 22 = .ok (.iconst 1, 1) := by decide +kernel
theorem dX4_fail_23 : decode cX4_fail 23 = .ok (.goto 4, 3) := by decide +kernel
theorem dX4_fail_26 : decode cX4_fail 26 = .ok (.iload_n 1, 1) := by decide +kernel
theorem dX4_fail_27 : decode cX4_fail 27 = .ok (.putfield 22, 3) := by decide +kernel
theorem dX4_fail_30 : decode cX4_fail 30 = .ok (.aload_n 0, 1) := by decide +kernel
theorem dX4_fail_31 : decode cX4_fail 31 = .ok (.aload_n 0, 1) := by decide +kernel
theorem dX4_fail_32 : decode cX4_fail 32 = .ok (.getfield 15, 3) := by decide +kernel
theorem dX4_fail_35 : decode cX4_fail 35 = .ok (.aload_n 0, 1) := by decide +kernel
theorem dX4_fail_36 : decode cX4_fail 36 = .ok (.getfield 62, 3) := by decide +kernel
theorem dX4_fail_39 : decode cX4_fail 39 = .ok (.iaload, 1) := by decide +kernel
theorem dX4_fail_40 : decode cX4_fail 40 = .ok (.putfield 26, 3) := by decide +kernel
theorem dX4_fail_43 : decode cX4_fail 43 = .ok (.return_, 1) := by decide +kernel
theorem dX4_step_0 : decode cX4_step 0 = .ok (.aload_n 0, 1) := by decide +kernel
theorem dX4_step_1 : decode cX4_step 1 = .ok (.getfield 22, 3) := by decide +kernel
theorem dX4_step_4 : decode cX4_step 4 = .ok (.ifCond .ne 26, 3) := by decide +kernel
theorem dX4_step_7 : decode cX4_step 7 = .ok (.aload_n 0, 1) := by decide +kernel
theorem dX4_step_8 : decode cX4_step 8 = .ok (.getfield 62, 3) := by decide +kernel
theorem dX4_step_11 : decode cX4_step 11 = .ok (.aload_n 0, 1) := by decide +kernel
theorem dX4_step_12 : decode cX4_step 12 = .ok (.getfield 38, 3) := by decide +kernel
theorem dX4_step_15 : decode cX4_step 15 = .ok (.iconst 1, 1) := by decide +kernel
theorem dX4_step_16 : decode cX4_step 16 = .ok (.isub, 1) := by decide +kernel
theorem dX4_step_17 : decode cX4_step 17 = .ok (.if_icmp .ge 13, 3) := by decide +kernel
theorem dX4_step_20 : decode cX4_step 20 = .ok (.aload_n 0, 1) := by decide +kernel
theorem dX4_step_21 : decode cX4_step 21 = .ok (.dup, 1) := by decide +kernel
theorem dX4_step_22 : decode cX4_step 22 = .ok (.getfield 62, 3) := by decide +kernel
theorem dX4_step_25 : decode cX4_step 25 = .ok (.iconst 1, 1) := by decide +kernel
theorem dX4_step_26 : decode cX4_step 26 = .ok (.iadd, 1) := by decide +kernel
theorem dX4_step_27 : decode cX4_step 27 = .ok (.putfield 62, 3) := by decide +kernel
theorem dX4_step_30 : decode cX4_step 30 = .ok (.return_, 1) := by decide +kernel
theorem dX4_keyword_0 : decode cX4_keyword 0 = .ok (.aload_n 0, 1) := by decide +kernel
theorem dX4_keyword_1 : decode cX4_keyword 1 = .ok (.getfield 11, 3) := by decide +kernel
theorem dX4_keyword_4 : decode cX4_keyword 4 = .ok (.aload_n 0, 1) := by decide +kernel
theorem dX4_keyword_5 : decode cX4_keyword 5 = .ok (.getfield 62, 3) := by decide +kernel
theorem dX4_keyword_8 : decode cX4_keyword 8 = .ok (.iaload, 1) := by decide +kernel
theorem dX4_keyword_9 : decode cX4_keyword 9 = .ok (.iconst 1, 1) := by decide +kernel
theorem dX4_keyword_10 : decode cX4_keyword 10 = .ok (.if_icmp .ne 16, 3) := by decide +kernel
theorem dX4_keyword_13 : decode cX4_keyword 13 = .ok (.aload_n 0, 1) := by decide +kernel
theorem dX4_keyword_14 : decode cX4_keyword 14 = .ok (.getfield 18, 3) := by decide +kernel
theorem dX4_keyword_17 : decode cX4_keyword 17 = .ok (.aload_n 0, 1) := by decide +kernel
theorem dX4_keyword_18 : decode cX4_keyword 18 = .ok (.getfield 62, 3) := by decide +kernel
theorem dX4_keyword_21 : decode cX4_keyword 21 = .ok (.laload, 1) := by decide +kernel
theorem dX4_keyword_22 : decode cX4_keyword 22 = .ok (.l2i, 1) := by decide +kernel
theorem dX4_keyword_23 : decode cX4_keyword 23 = .ok (.goto 4, 3) := by decide +kernel
theorem dX4_keyword_26 : decode cX4_keyword 26 = .ok (.iconst (-1), 1) := by decide +kernel
theorem dX4_keyword_27 : decode cX4_keyword 27 = .ok (.ireturn, 1) := by decide +kernel
theorem dX4_takeKeyword_0 : decode cX4_takeKeyword 0 = .ok (.aload_n 0, 1) := by decide +kernel
theorem dX4_takeKeyword_1 : decode cX4_takeKeyword 1 = .ok (.invokevirtual 75, 3) := by decide +kernel
theorem dX4_takeKeyword_4 : decode cX4_takeKeyword 4 = .ok (.iload_n 1, 1) := by decide +kernel
theorem dX4_takeKeyword_5 : decode cX4_takeKeyword 5 = .ok (.if_icmp .eq 8, 3) := by decide +kernel
theorem dX4_takeKeyword_8 : decode cX4_takeKeyword 8 = .ok (.aload_n 0, 1) := by decide +kernel
theorem dX4_takeKeyword_9 : decode cX4_takeKeyword 9 = .ok (.iconst 2, 1) := by decide +kernel
theorem dX4_takeKeyword_10 : decode cX4_takeKeyword 10 = .ok (.invokevirtual 79, 3) := by decide +kernel
theorem dX4_takeKeyword_13 : decode cX4_takeKeyword 13 = .ok (.aload_n 0, 1) := by decide +kernel
theorem dX4_takeKeyword_14 : decode cX4_takeKeyword 14 = .ok (.invokevirtual 83, 3) := by decide +kernel
theorem dX4_takeKeyword_17 : decode cX4_takeKeyword 17 = .ok (.return_, 1) := by decide +kernel
theorem dX4_takeEndOfPart_0 : decode cX4_takeEndOfPart 0 = .ok (.aload_n 0, 1) := by decide +kernel
theorem dX4_takeEndOfPart_1 : decode cX4_takeEndOfPart 1 = .ok (.getfield 11, 3) := by decide +kernel
theorem dX4_takeEndOfPart_4 : decode cX4_takeEndOfPart 4 = .ok (.aload_n 0, 1) := by decide +kernel
theorem dX4_takeEndOfPart_5 : decode cX4_takeEndOfPart 5 = .ok (.getfield 62, 3) := by decide +kernel
theorem dX4_takeEndOfPart_8 : decode cX4_takeEndOfPart 8 = .ok (.iaload, 1) := by decide +kernel
theorem dX4_takeEndOfPart_9 : decode cX4_takeEndOfPart 9 = .ok (.iconst 5, 1) := by decide +kernel
theorem dX4_takeEndOfPart_10 : decode cX4_takeEndOfPart 10 = .ok (.if_icmp .ne 19, 3) := by decide +kernel
theorem dX4_takeEndOfPart_13 : decode cX4_takeEndOfPart 13 = .ok (.aload_n 0, 1) := by decide +kernel
theorem dX4_takeEndOfPart_14 : decode cX4_takeEndOfPart 14 = .ok (.getfield 18, 3) := by decide +kernel
theorem dX4_takeEndOfPart_17 : decode cX4_takeEndOfPart 17 = .ok (.aload_n 0, 1) := by decide +kernel
theorem dX4_takeEndOfPart_18 : decode cX4_takeEndOfPart 18 = .ok (.getfield 62, 3) := by decide +kernel
theorem dX4_takeEndOfPart_21 : decode cX4_takeEndOfPart 21 = .ok (.laload, 1) := by decide +kernel
theorem dX4_takeEndOfPart_22 : decode cX4_takeEndOfPart 22 = .ok (.ldc2_w 86, 3) := by decide +kernel
theorem dX4_takeEndOfPart_25 : decode cX4_takeEndOfPart 25 = .ok (.lcmp, 1) := by decide +kernel
theorem dX4_takeEndOfPart_26 : decode cX4_takeEndOfPart 26 = .ok (.ifCond .eq 8, 3) := by decide +kernel
theorem dX4_takeEndOfPart_29 : decode cX4_takeEndOfPart 29 = .ok (.aload_n 0, 1) := by decide +kernel
theorem dX4_takeEndOfPart_30 : decode cX4_takeEndOfPart 30 = .ok (.iconst 2, 1) := by decide +kernel
theorem dX4_takeEndOfPart_31 : decode cX4_takeEndOfPart 31 = .ok (.invokevirtual 79, 3) := by decide +kernel
theorem dX4_takeEndOfPart_34 : decode cX4_takeEndOfPart 34 = .ok (.aload_n 0, 1) := by decide +kernel
theorem dX4_takeEndOfPart_35 : decode cX4_takeEndOfPart 35 = .ok (.invokevirtual 83, 3) := by decide +kernel
theorem dX4_takeEndOfPart_38 : decode cX4_takeEndOfPart 38 = .ok (.return_, 1) := by decide +kernel
theorem dX4_takeCompare_0 : decode cX4_takeCompare 0 = .ok (.aload_n 0, 1) := by decide +kernel
theorem dX4_takeCompare_1 : decode cX4_takeCompare 1 = .ok (.getfield 18, 3) := by decide +kernel
theorem dX4_takeCompare_4 : decode cX4_takeCompare 4 = .ok (.aload_n 0, 1) := by decide +kernel
theorem dX4_takeCompare_5 : decode cX4_takeCompare 5 = .ok (.getfield 62, 3) := by decide +kernel
theorem dX4_takeCompare_8 : decode cX4_takeCompare 8 = .ok (.laload, 1) := by decide +kernel
theorem dX4_takeCompare_9 : decode cX4_takeCompare 9 = .ok (.l2i, 1) := by decide +kernel
theorem dX4_takeCompare_10 : decode cX4_takeCompare 10 = .ok (.istore_n 1, 1) := by decide +kernel
theorem dX4_takeCompare_11 : decode cX4_takeCompare 11 = .ok (.aload_n 0, 1) := by decide +kernel
theorem dX4_takeCompare_12 : decode cX4_takeCompare 12 = .ok (.getfield 11, 3) := by decide +kernel
theorem dX4_takeCompare_15 : decode cX4_takeCompare 15 = .ok (.aload_n 0, 1) := by decide +kernel
theorem dX4_takeCompare_16 : decode cX4_takeCompare 16 = .ok (.getfield 62, 3) := by decide +kernel
theorem dX4_takeCompare_19 : decode cX4_takeCompare 19 = .ok (.iaload, 1) := by decide +kernel
theorem dX4_takeCompare_20 : decode cX4_takeCompare 20 = .ok (.iconst 5, 1) := by decide +kernel
theorem dX4_takeCompare_21 : decode cX4_takeCompare 21 = .ok (.if_icmp .ne 9, 3) := by decide +kernel
theorem dX4_takeCompare_24 : decode cX4_takeCompare 24 = .ok (.iload_n 1, 1) := by decide +kernel
theorem dX4_takeCompare_25 : decode cX4_takeCompare 25 = .ok (.bipush 59, 2) := by decide +kernel
theorem dX4_takeCompare_27 : decode cX4_takeCompare 27 = .ok (.if_icmp .ne 8, 3) := by decide +kernel
theorem dX4_takeCompare_30 : decode cX4_takeCompare 30 = .ok (.aload_n 0, 1) := by decide +kernel
theorem dX4_takeCompare_31 : decode cX4_takeCompare 31 = .ok (.iconst 2, 1) := by decide +kernel
theorem dX4_takeCompare_32 : decode cX4_takeCompare 32 = .ok (.invokevirtual 79, 3) := by decide +kernel
theorem dX4_takeCompare_35 : decode cX4_takeCompare 35 = .ok (.aload_n 0, 1) := by decide +kernel
theorem dX4_takeCompare_36 : decode cX4_takeCompare 36 = .ok (.invokevirtual 83, 3) := by decide +kernel
theorem dX4_takeCompare_39 : decode cX4_takeCompare 39 = .ok (.iload_n 1, 1) := by decide +kernel
theorem dX4_takeCompare_40 : decode cX4_takeCompare 40 = .ok (.ireturn, 1) := by decide +kernel
theorem dX4_takeNumber_0 : decode cX4_takeNumber 0 = .ok (.aload_n 0, 1) := by decide +kernel
theorem dX4_takeNumber_1 : decode cX4_takeNumber 1 = .ok (.getfield 18, 3) := by decide +kernel
theorem dX4_takeNumber_4 : decode cX4_takeNumber 4 = .ok (.aload_n 0, 1) := by decide +kernel
theorem dX4_takeNumber_5 : decode cX4_takeNumber 5 = .ok (.getfield 62, 3) := by decide +kernel
theorem dX4_takeNumber_8 : decode cX4_takeNumber 8 = .ok (.laload, 1) := by decide +kernel
theorem dX4_takeNumber_9 : decode cX4_takeNumber 9 = .ok (.l2i, 1) := by decide +kernel
theorem dX4_takeNumber_10 : decode cX4_takeNumber 10 = .ok (.istore_n 3, 1) := by decide +kernel
theorem dX4_takeNumber_11 : decode cX4_takeNumber 11 = .ok (.aload_n 0, 1) := by decide +kernel
theorem dX4_takeNumber_12 : decode cX4_takeNumber 12 = .ok (.getfield 11, 3) := by decide +kernel
theorem dX4_takeNumber_15 : decode cX4_takeNumber 15 = .ok (.aload_n 0, 1) := by decide +kernel
theorem dX4_takeNumber_16 : decode cX4_takeNumber 16 = .ok (.getfield 62, 3) := by decide +kernel
theorem dX4_takeNumber_19 : decode cX4_takeNumber 19 = .ok (.iaload, 1) := by decide +kernel
theorem dX4_takeNumber_20 : decode cX4_takeNumber 20 = .ok (.iconst 4, 1) := by decide +kernel
theorem dX4_takeNumber_21 : decode cX4_takeNumber 21 = .ok (.if_icmp .eq 11, 3) := by decide +kernel
theorem dX4_takeNumber_24 : decode cX4_takeNumber 24 = .ok (.aload_n 0, 1) := by decide +kernel
theorem dX4_takeNumber_25 : decode cX4_takeNumber 25 = .ok (.iconst 2, 1) := by decide +kernel
theorem dX4_takeNumber_26 : decode cX4_takeNumber 26 = .ok (.invokevirtual 79, 3) := by decide +kernel
theorem dX4_takeNumber_29 : decode cX4_takeNumber 29 = .ok (.goto 18, 3) := by decide +kernel
theorem dX4_takeNumber_32 : decode cX4_takeNumber 32 = .ok (.iload_n 3, 1) := by decide +kernel
theorem dX4_takeNumber_33 : decode cX4_takeNumber 33 = .ok (.iload_n 1, 1) := by decide +kernel
theorem dX4_takeNumber_34 : decode cX4_takeNumber 34 = .ok (.if_icmp .lt 8, 3) := by decide +kernel
theorem dX4_takeNumber_37 : decode cX4_takeNumber 37 = .ok (.iload_n 3, 1) := by decide +kernel
theorem dX4_takeNumber_38 : decode cX4_takeNumber 38 = .ok (.iload_n 2, 1) := by decide +kernel
theorem dX4_takeNumber_39 : decode cX4_takeNumber 39 = .ok (.if_icmp .le 8, 3) := by decide +kernel
theorem dX4_takeNumber_42 : decode cX4_takeNumber 42 = .ok (.aload_n 0, 1) := by decide +kernel
theorem dX4_takeNumber_43 : decode cX4_takeNumber 43 = .ok (.iconst 4, 1) := by decide +kernel
theorem dX4_takeNumber_44 : decode cX4_takeNumber 44 = .ok (.invokevirtual 79, 3) := by decide +kernel
theorem dX4_takeNumber_47 : decode cX4_takeNumber 47 = .ok (.aload_n 0, 1) := by decide +kernel
theorem dX4_takeNumber_48 : decode cX4_takeNumber 48 = .ok (.invokevirtual 83, 3) := by decide +kernel
theorem dX4_takeNumber_51 : decode cX4_takeNumber 51 = .ok (.iload_n 3, 1) := by decide +kernel
theorem dX4_takeNumber_52 : decode cX4_takeNumber 52 = .ok (.ireturn, 1) := by decide +kernel
theorem dX4_takeNewName_0 : decode cX4_takeNewName 0 = .ok (.aload_n 0, 1) := by decide +kernel
theorem dX4_takeNewName_1 : decode cX4_takeNewName 1 = .ok (.getfield 18, 3) := by decide +kernel
theorem dX4_takeNewName_4 : decode cX4_takeNewName 4 = .ok (.aload_n 0, 1) := by decide +kernel
theorem dX4_takeNewName_5 : decode cX4_takeNewName 5 = .ok (.getfield 62, 3) := by decide +kernel
theorem dX4_takeNewName_8 : decode cX4_takeNewName 8 = .ok (.laload, 1) := by decide +kernel
theorem dX4_takeNewName_9 : decode cX4_takeNewName 9 = .ok (.lstore_n 2, 1) := by decide +kernel
theorem dX4_takeNewName_10 : decode cX4_takeNewName 10 = .ok (.aload_n 0, 1) := by decide +kernel
theorem dX4_takeNewName_11 : decode cX4_takeNewName 11 = .ok (.getfield 11, 3) := by decide +kernel
theorem dX4_takeNewName_14 : decode cX4_takeNewName 14 = .ok (.aload_n 0, 1) := by decide +kernel
theorem dX4_takeNewName_15 : decode cX4_takeNewName 15 = .ok (.getfield 62, 3) := by decide +kernel
theorem dX4_takeNewName_18 : decode cX4_takeNewName 18 = .ok (.iaload, 1) := by decide +kernel
theorem dX4_takeNewName_19 : decode cX4_takeNewName 19 = .ok (.iconst 2, 1) := by decide +kernel
theorem dX4_takeNewName_20 : decode cX4_takeNewName 20 = .ok (.if_icmp .eq 11, 3) := by decide +kernel
theorem dX4_takeNewName_23 : decode cX4_takeNewName 23 = .ok (.aload_n 0, 1) := by decide +kernel
theorem dX4_takeNewName_24 : decode cX4_takeNewName 24 = .ok (.iconst 2, 1) := by decide +kernel
theorem dX4_takeNewName_25 : decode cX4_takeNewName 25 = .ok (.invokevirtual 79, 3) := by decide +kernel
theorem dX4_takeNewName_28 : decode cX4_takeNewName 28 = .ok (.goto 26, 3) := by decide +kernel
theorem dX4_takeNewName_31 : decode cX4_takeNewName 31 = .ok (.aload_n 1, 1) := by decide +kernel
theorem dX4_takeNewName_32 : decode cX4_takeNewName 32 = .ok (.lload_n 2, 1) := by decide +kernel
theorem dX4_takeNewName_33 : decode cX4_takeNewName 33 = .ok (.invokevirtual 88, 3) := by decide +kernel
theorem dX4_takeNewName_36 : decode cX4_takeNewName 36 = .ok (.iconst (-1), 1) := by decide +kernel
theorem dX4_takeNewName_37 : decode cX4_takeNewName 37 = .ok (.if_icmp .ne 12, 3) := by decide +kernel
theorem dX4_takeNewName_40 : decode cX4_takeNewName 40 = .ok (.aload_n 1, 1) := by decide +kernel
theorem dX4_takeNewName_41 : decode cX4_takeNewName 41 = .ok (.lload_n 2, 1) := by decide +kernel
theorem dX4_takeNewName_42 : decode cX4_takeNewName 42 = .ok (.invokevirtual 93, 3) := by decide +kernel
theorem dX4_takeNewName_45 : decode cX4_takeNewName 45 = .ok (.iconst (-1), 1) := by decide +kernel
theorem dX4_takeNewName_46 : decode cX4_takeNewName 46 = .ok (.if_icmp .eq 8, 3) := by decide +kernel
theorem dX4_takeNewName_49 : decode cX4_takeNewName 49 = .ok (.aload_n 0, 1) := by decide +kernel
theorem dX4_takeNewName_50 : decode cX4_takeNewName 50 = .ok (.iconst 3, 1) := by decide +kernel
theorem dX4_takeNewName_51 : decode cX4_takeNewName 51 = .ok (.invokevirtual 79, 3) := by decide +kernel
theorem dX4_takeNewName_54 : decode cX4_takeNewName 54 = .ok (.aload_n 0, 1) := by decide +kernel
theorem dX4_takeNewName_55 : decode cX4_takeNewName 55 = .ok (.invokevirtual 83, 3) := by decide +kernel
theorem dX4_takeNewName_58 : decode cX4_takeNewName 58 = .ok (.lload_n 2, 1) := by decide +kernel
theorem dX4_takeNewName_59 : decode cX4_takeNewName 59 = .ok (.lreturn, 1) := by decide +kernel
theorem dX4_matterHere_0 : decode cX4_matterHere 0 = .ok (.aload_n 0, 1) := by decide +kernel
theorem dX4_matterHere_1 : decode cX4_matterHere 1 = .ok (.getfield 11, 3) := by decide +kernel
theorem dX4_matterHere_4 : decode cX4_matterHere 4 = .ok (.aload_n 0, 1) := by decide +kernel
theorem dX4_matterHere_5 : decode cX4_matterHere 5 = .ok (.getfield 62, 3) := by decide +kernel
theorem dX4_matterHere_8 : decode cX4_matterHere 8 = .ok (.iaload, 1) := by decide +kernel
theorem dX4_matterHere_9 : decode cX4_matterHere 9 = .ok (.iconst 2, 1) := by decide +kernel
theorem dX4_matterHere_10 : decode cX4_matterHere 10 = .ok (.if_icmp .eq 10, 3) := by decide +kernel
theorem dX4_matterHere_13 : decode cX4_matterHere 13 = .ok (.aload_n 0, 1) := by decide +kernel
theorem dX4_matterHere_14 : decode cX4_matterHere 14 = .ok (.iconst 2, 1) := by decide +kernel
theorem dX4_matterHere_15 : decode cX4_matterHere 15 = .ok (.invokevirtual 79, 3) := by decide +kernel
theorem dX4_matterHere_18 : decode cX4_matterHere 18 = .ok (.iconst (-1), 1) := by decide +kernel
theorem dX4_matterHere_19 : decode cX4_matterHere 19 = .ok (.ireturn, 1) := by decide +kernel
theorem dX4_matterHere_20 : decode cX4_matterHere 20 = .ok (.aload_n 1, 1) := by decide +kernel
theorem dX4_matterHere_21 : decode cX4_matterHere 21 = .ok (.aload_n 0, 1) := by decide +kernel
theorem dX4_matterHere_22 : decode cX4_matterHere 22 = .ok (.getfield 18, 3) := by decide +kernel
theorem dX4_matterHere_25 : decode cX4_matterHere 25 = .ok (.aload_n 0, 1) := by decide +kernel
theorem dX4_matterHere_26 : decode cX4_matterHere 26 = .ok (.getfield 62, 3) := by decide +kernel
theorem dX4_matterHere_29 : decode cX4_matterHere 29 = .ok (.laload, 1) := by decide +kernel
theorem dX4_matterHere_30 : decode cX4_matterHere 30 = .ok (.invokevirtual 88, 3) := by decide +kernel
theorem dX4_matterHere_33 : decode cX4_matterHere 33 = .ok (.istore_n 2, 1) := by decide +kernel
theorem dX4_matterHere_34 : decode cX4_matterHere 34 = .ok (.iload_n 2, 1) := by decide +kernel
theorem dX4_matterHere_35 : decode cX4_matterHere 35 = .ok (.iconst (-1), 1) := by decide +kernel
theorem dX4_matterHere_36 : decode cX4_matterHere 36 = .ok (.if_icmp .ne 8, 3) := by decide +kernel
theorem dX4_matterHere_39 : decode cX4_matterHere 39 = .ok (.aload_n 0, 1) := by decide +kernel
theorem dX4_matterHere_40 : decode cX4_matterHere 40 = .ok (.iconst 3, 1) := by decide +kernel
theorem dX4_matterHere_41 : decode cX4_matterHere 41 = .ok (.invokevirtual 79, 3) := by decide +kernel
theorem dX4_matterHere_44 : decode cX4_matterHere 44 = .ok (.iload_n 2, 1) := by decide +kernel
theorem dX4_matterHere_45 : decode cX4_matterHere 45 = .ok (.ireturn, 1) := by decide +kernel
theorem dX4_takeMatter_0 : decode cX4_takeMatter 0 = .ok (.aload_n 0, 1) := by decide +kernel
theorem dX4_takeMatter_1 : decode cX4_takeMatter 1 = .ok (.aload_n 1, 1) := by decide +kernel
theorem dX4_takeMatter_2 : decode cX4_takeMatter 2 = .ok (.invokevirtual 96, 3) := by decide +kernel
theorem dX4_takeMatter_5 : decode cX4_takeMatter 5 = .ok (.istore_n 2, 1) := by decide +kernel
theorem dX4_takeMatter_6 : decode cX4_takeMatter 6 = .ok (.aload_n 0, 1) := by decide +kernel
theorem dX4_takeMatter_7 : decode cX4_takeMatter 7 = .ok (.invokevirtual 83, 3) := by decide +kernel
theorem dX4_takeMatter_10 : decode cX4_takeMatter 10 = .ok (.iload_n 2, 1) := by decide +kernel
theorem dX4_takeMatter_11 : decode cX4_takeMatter 11 = .ok (.ireturn, 1) := by decide +kernel
theorem dX4_takeSitter_0 : decode cX4_takeSitter 0 = .ok (.aload_n 0, 1) := by decide +kernel
theorem dX4_takeSitter_1 : decode cX4_takeSitter 1 = .ok (.getfield 11, 3) := by decide +kernel
theorem dX4_takeSitter_4 : decode cX4_takeSitter 4 = .ok (.aload_n 0, 1) := by decide +kernel
theorem dX4_takeSitter_5 : decode cX4_takeSitter 5 = .ok (.getfield 62, 3) := by decide +kernel
theorem dX4_takeSitter_8 : decode cX4_takeSitter 8 = .ok (.iaload, 1) := by decide +kernel
theorem dX4_takeSitter_9 : decode cX4_takeSitter 9 = .ok (.iconst 2, 1) := by decide +kernel
theorem dX4_takeSitter_10 : decode cX4_takeSitter 10 = .ok (.if_icmp .eq 10, 3) := by decide +kernel
theorem dX4_takeSitter_13 : decode cX4_takeSitter 13 = .ok (.aload_n 0, 1) := by decide +kernel
theorem dX4_takeSitter_14 : decode cX4_takeSitter 14 = .ok (.iconst 2, 1) := by decide +kernel
theorem dX4_takeSitter_15 : decode cX4_takeSitter 15 = .ok (.invokevirtual 79, 3) := by decide +kernel
theorem dX4_takeSitter_18 : decode cX4_takeSitter 18 = .ok (.iconst (-1), 1) := by decide +kernel
theorem dX4_takeSitter_19 : decode cX4_takeSitter 19 = .ok (.ireturn, 1) := by decide +kernel
theorem dX4_takeSitter_20 : decode cX4_takeSitter 20 = .ok (.aload_n 1, 1) := by decide +kernel
theorem dX4_takeSitter_21 : decode cX4_takeSitter 21 = .ok (.aload_n 0, 1) := by decide +kernel
theorem dX4_takeSitter_22 : decode cX4_takeSitter 22 = .ok (.getfield 18, 3) := by decide +kernel
theorem dX4_takeSitter_25 : decode cX4_takeSitter 25 = .ok (.aload_n 0, 1) := by decide +kernel
theorem dX4_takeSitter_26 : decode cX4_takeSitter 26 = .ok (.getfield 62, 3) := by decide +kernel
theorem dX4_takeSitter_29 : decode cX4_takeSitter 29 = .ok (.laload, 1) := by decide +kernel
theorem dX4_takeSitter_30 : decode cX4_takeSitter 30 = .ok (.invokevirtual 93, 3) := by decide +kernel
theorem dX4_takeSitter_33 : decode cX4_takeSitter 33 = .ok (.istore_n 2, 1) := by decide +kernel
theorem dX4_takeSitter_34 : decode cX4_takeSitter 34 = .ok (.iload_n 2, 1) := by decide +kernel
theorem dX4_takeSitter_35 : decode cX4_takeSitter 35 = .ok (.iconst (-1), 1) := by decide +kernel
theorem dX4_takeSitter_36 : decode cX4_takeSitter 36 = .ok (.if_icmp .ne 8, 3) := by decide +kernel
theorem dX4_takeSitter_39 : decode cX4_takeSitter 39 = .ok (.aload_n 0, 1) := by decide +kernel
theorem dX4_takeSitter_40 : decode cX4_takeSitter 40 = .ok (.iconst 3, 1) := by decide +kernel
theorem dX4_takeSitter_41 : decode cX4_takeSitter 41 = .ok (.invokevirtual 79, 3) := by decide +kernel
theorem dX4_takeSitter_44 : decode cX4_takeSitter 44 = .ok (.aload_n 0, 1) := by decide +kernel
theorem dX4_takeSitter_45 : decode cX4_takeSitter 45 = .ok (.invokevirtual 83, 3) := by decide +kernel
theorem dX4_takeSitter_48 : decode cX4_takeSitter 48 = .ok (.iload_n 2, 1) := by decide +kernel
theorem dX4_takeSitter_49 : decode cX4_takeSitter 49 = .ok (.ireturn, 1) := by decide +kernel
theorem dX7_init_0 : decode cX7_init 0 = .ok (.aload_n 0, 1) := by decide +kernel
theorem dX7_init_1 : decode cX7_init 1 = .ok (.invokespecial 3, 3) := by decide +kernel
theorem dX7_init_4 : decode cX7_init 4 = .ok (.return_, 1) := by decide +kernel
theorem dX7_readInto_0 : decode cX7_readInto 0 = .ok (.aload_n 1, 1) := by decide +kernel
theorem dX7_readInto_1 : decode cX7_readInto 1 = .ok (.invokevirtual 9, 3) := by decide +kernel
theorem dX7_readInto_4 : decode cX7_readInto 4 = .ok (.aload_n 0, 1) := by decide +kernel
theorem dX7_readInto_5 : decode cX7_readInto 5 = .ok (.iconst 0, 1) := by decide +kernel
theorem dX7_readInto_6 : decode cX7_readInto 6 = .ok (.putfield 14, 3) := by decide +kernel
theorem dX7_readInto_9 : decode cX7_readInto 9 = .ok (.iconst 0, 1) := by decide +kernel
theorem dX7_readInto_10 : decode cX7_readInto 10 = .ok (.istore_n 3, 1) := by decide +kernel
theorem dX7_readInto_11 : decode cX7_readInto 11 = .ok (.iload_n 3, 1) := by decide +kernel
theorem dX7_readInto_12 : decode cX7_readInto 12 = .ok (.sipush 900, 3) := by decide +kernel
theorem dX7_readInto_15 : decode cX7_readInto 15 = .ok (.if_icmp .ge 26, 3) := by decide +kernel
theorem dX7_readInto_18 : decode cX7_readInto 18 = .ok (.aload_n 2, 1) := by decide +kernel
theorem dX7_readInto_19 : decode cX7_readInto 19 = .ok (.invokevirtual 20, 3) := by decide +kernel
theorem dX7_readInto_22 : decode cX7_readInto 22 = .ok (.ifCond .eq 19, 3) := by decide +kernel
theorem dX7_readInto_25 : decode cX7_readInto 25 = .ok (.aload_n 0, 1) := by decide +kernel
theorem dX7_readInto_26 : decode cX7_readInto 26 = .ok (.aload_n 1, 1) := by decide +kernel
theorem dX7_readInto_27 : decode cX7_readInto 27 = .ok (.aload_n 2, 1) := by decide +kernel
theorem dX7_readInto_28 : decode cX7_readInto 28 = .ok (.invokevirtual 26, 3) := by decide +kernel
theorem dX7_readInto_31 : decode cX7_readInto 31 = .ok (.aload_n 2, 1) := by decide +kernel
theorem dX7_readInto_32 : decode cX7_readInto 32 = .ok (.invokevirtual 30, 3) := by decide +kernel
theorem dX7_readInto_35 : decode cX7_readInto 35 = .ok (.iinc 3 1, 3) := by decide +kernel
theorem dX7_readInto_38 : decode cX7_readInto 38 = .ok (.goto (-27), 3) := by decide +kernel
theorem dX7_readInto_41 : decode cX7_readInto 41 = .ok (.return_, 1) := by decide +kernel
theorem dX7_readPart_0 : decode cX7_readPart 0 = .ok (.aload_n 2, 1) := by decide +kernel
theorem dX7_readPart_1 : decode cX7_readPart 1 = .ok (.invokevirtual 33, 3) := by decide +kernel
theorem dX7_readPart_4 : decode cX7_readPart 4 = .ok (.tableswitch 105 0 11 #[64, 73, 105, 105, 81, 105, 89, 105, 105, 105, 105, 97], 64) := by decide +kernel
theorem dX7_readPart_68 : decode cX7_readPart 68 = .ok (.aload_n 0, 1) := by decide +kernel
theorem dX7_readPart_69 : decode cX7_readPart 69 = .ok (.aload_n 1, 1) := by decide +kernel
theorem dX7_readPart_70 : decode cX7_readPart 70 = .ok (.aload_n 2, 1) := by decide +kernel
theorem dX7_readPart_71 : decode cX7_readPart 71 = .ok (.invokevirtual 37, 3) := by decide +kernel
theorem dX7_readPart_74 : decode cX7_readPart 74 = .ok (.goto 40, 3) := by decide +kernel
theorem dX7_readPart_77 : decode cX7_readPart 77 = .ok (.aload_n 1, 1) := by decide +kernel
theorem dX7_readPart_78 : decode cX7_readPart 78 = .ok (.aload_n 2, 1) := by decide +kernel
theorem dX7_readPart_79 : decode cX7_readPart 79 = .ok (.invokestatic 40, 3) := by decide +kernel
theorem dX7_readPart_82 : decode cX7_readPart 82 = .ok (.goto 32, 3) := by decide +kernel
theorem dX7_readPart_85 : decode cX7_readPart 85 = .ok (.aload_n 1, 1) := by decide +kernel
theorem dX7_readPart_86 : decode cX7_readPart 86 = .ok (.aload_n 2, 1) := by decide +kernel
theorem dX7_readPart_87 : decode cX7_readPart 87 = .ok (.invokestatic 43, 3) := by decide +kernel
theorem dX7_readPart_90 : decode cX7_readPart 90 = .ok (.goto 24, 3) := by decide +kernel
theorem dX7_readPart_93 : decode cX7_readPart 93 = .ok (.aload_n 1, 1) := by decide +kernel
theorem dX7_readPart_94 : decode cX7_readPart 94 = .ok (.aload_n 2, 1) := by decide +kernel
theorem dX7_readPart_95 : decode cX7_readPart 95 = .ok (.invokestatic 46, 3) := by decide +kernel
theorem dX7_readPart_98 : decode cX7_readPart 98 = .ok (.goto 16, 3) := by decide +kernel
theorem dX7_readPart_101 : decode cX7_readPart 101 = .ok (.aload_n 1, 1) := by decide +kernel
theorem dX7_readPart_102 : decode cX7_readPart 102 = .ok (.aload_n 2, 1) := by decide +kernel
theorem dX7_readPart_103 : decode cX7_readPart 103 = .ok (.invokestatic 49, 3) := by decide +kernel
theorem dX7_readPart_106 : decode cX7_readPart 106 = .ok (.goto 8, 3) := by decide +kernel
theorem dX7_readPart_109 : decode cX7_readPart 109 = .ok (.aload_n 2, 1) := by decide +kernel
theorem dX7_readPart_110 : decode cX7_readPart 110 = .ok (.iconst 2, 1) := by decide +kernel
theorem dX7_readPart_111 : decode cX7_readPart 111 = .ok (.invokevirtual 52, 3) := by decide +kernel
theorem dX7_readPart_114 : decode cX7_readPart 114 = .ok (.return_, 1) := by decide +kernel
theorem dX7_begin_0 : decode cX7_begin 0 = .ok (.iload_n 1, 1) := by decide +kernel
theorem dX7_begin_1 : decode cX7_begin 1 = .ok (.ifCond .eq 9, 3) := by decide +kernel
theorem dX7_begin_4 : decode cX7_begin 4 = .ok (.aload_n 0, 1) := by decide +kernel
theorem dX7_begin_5 : decode cX7_begin 5 = .ok (.bipush 6, 2) := by decide +kernel
theorem dX7_begin_7 : decode cX7_begin 7 = .ok (.invokevirtual 52, 3) := by decide +kernel
theorem dX7_begin_10 : decode cX7_begin 10 = .ok (.aload_n 0, 1) := by decide +kernel
theorem dX7_begin_11 : decode cX7_begin 11 = .ok (.invokevirtual 56, 3) := by decide +kernel
theorem dX7_begin_14 : decode cX7_begin 14 = .ok (.return_, 1) := by decide +kernel
theorem dX7_readOdds_0 : decode cX7_readOdds 0 = .ok (.aload_n 0, 1) := by decide +kernel
theorem dX7_readOdds_1 : decode cX7_readOdds 1 = .ok (.getfield 14, 3) := by decide +kernel
theorem dX7_readOdds_4 : decode cX7_readOdds 4 = .ok (.ifCond .eq 8, 3) := by decide +kernel
theorem dX7_readOdds_7 : decode cX7_readOdds 7 = .ok (.aload_n 2, 1) := by decide +kernel
theorem dX7_readOdds_8 : decode cX7_readOdds 8 = .ok (.iconst 5, 1) := by decide +kernel
theorem dX7_readOdds_9 : decode cX7_readOdds 9 = .ok (.invokevirtual 52, 3) := by decide +kernel
theorem dX7_readOdds_12 : decode cX7_readOdds 12 = .ok (.aload_n 2, 1) := by decide +kernel
theorem dX7_readOdds_13 : decode cX7_readOdds 13 = .ok (.invokevirtual 56, 3) := by decide +kernel
theorem dX7_readOdds_16 : decode cX7_readOdds 16 = .ok (.aload_n 1, 1) := by decide +kernel
theorem dX7_readOdds_17 : decode cX7_readOdds 17 = .ok (.aload_n 2, 1) := by decide +kernel
theorem dX7_readOdds_18 : decode cX7_readOdds 18 = .ok (.iconst 0, 1) := by decide +kernel
theorem dX7_readOdds_19 : decode cX7_readOdds 19 = .ok (.bipush 16, 2) := by decide +kernel
theorem dX7_readOdds_21 : decode cX7_readOdds 21 = .ok (.invokevirtual 59, 3) := by decide +kernel
theorem dX7_readOdds_24 : decode cX7_readOdds 24 = .ok (.putfield 63, 3) := by decide +kernel
theorem dX7_readOdds_27 : decode cX7_readOdds 27 = .ok (.aload_n 0, 1) := by decide +kernel
theorem dX7_readOdds_28 : decode cX7_readOdds 28 = .ok (.iconst 1, 1) := by decide +kernel
theorem dX7_readOdds_29 : decode cX7_readOdds 29 = .ok (.putfield 14, 3) := by decide +kernel
theorem dX7_readOdds_32 : decode cX7_readOdds 32 = .ok (.return_, 1) := by decide +kernel
theorem dX7_readMatter_0 : decode cX7_readMatter 0 = .ok (.aload_n 1, 1) := by decide +kernel
theorem dX7_readMatter_1 : decode cX7_readMatter 1 = .ok (.aload_n 0, 1) := by decide +kernel
theorem dX7_readMatter_2 : decode cX7_readMatter 2 = .ok (.getfield 67, 3) := by decide +kernel
theorem dX7_readMatter_5 : decode cX7_readMatter 5 = .ok (.bipush 6, 2) := by decide +kernel
theorem dX7_readMatter_7 : decode cX7_readMatter 7 = .ok (.if_icmp .lt 7, 3) := by decide +kernel
theorem dX7_readMatter_10 : decode cX7_readMatter 10 = .ok (.iconst 1, 1) := by decide +kernel
theorem dX7_readMatter_11 : decode cX7_readMatter 11 = .ok (.goto 4, 3) := by decide +kernel
theorem dX7_readMatter_14 : decode cX7_readMatter 14 = .ok (.iconst 0, 1) := by decide +kernel
theorem dX7_readMatter_15 : decode cX7_readMatter 15 = .ok (.invokestatic 70, 3) := by decide +kernel
theorem dX7_readMatter_18 : decode cX7_readMatter 18 = .ok (.aload_n 1, 1) := by decide +kernel
theorem dX7_readMatter_19 : decode cX7_readMatter 19 = .ok (.aload_n 0, 1) := by decide +kernel
theorem dX7_readMatter_20 : decode cX7_readMatter 20 = .ok (.invokevirtual 74, 3) := by decide +kernel
theorem dX7_readMatter_23 : decode cX7_readMatter 23 = .ok (.lstore_n 2, 1) := by decide +kernel
theorem dX7_readMatter_24 : decode cX7_readMatter 24 = .ok (.aload_n 1, 1) := by decide +kernel
theorem dX7_readMatter_25 : decode cX7_readMatter 25 = .ok (.iconst 2, 1) := by decide +kernel
theorem dX7_readMatter_26 : decode cX7_readMatter 26 = .ok (.invokevirtual 80, 3) := by decide +kernel
theorem dX7_readMatter_29 : decode cX7_readMatter 29 = .ok (.aload_n 1, 1) := by decide +kernel
theorem dX7_readMatter_30 : decode cX7_readMatter 30 = .ok (.iconst 0, 1) := by decide +kernel
theorem dX7_readMatter_31 : decode cX7_readMatter 31 = .ok (.bipush 20, 2) := by decide +kernel
theorem dX7_readMatter_33 : decode cX7_readMatter 33 = .ok (.invokevirtual 59, 3) := by decide +kernel
theorem dX7_readMatter_36 : decode cX7_readMatter 36 = .ok (.istore 4, 2) := by decide +kernel
theorem dX7_readMatter_38 : decode cX7_readMatter 38 = .ok (.iconst 0, 1) := by decide +kernel
theorem dX7_readMatter_39 : decode cX7_readMatter 39 = .ok (.istore 5, 2) := by decide +kernel
theorem dX7_readMatter_41 : decode cX7_readMatter 41 = .ok (.aload_n 1, 1) := by decide +kernel
theorem dX7_readMatter_42 : decode cX7_readMatter 42 = .ok (.invokevirtual 33, 3) := by decide +kernel
theorem dX7_readMatter_45 : decode cX7_readMatter 45 = .ok (.iconst 3, 1) := by decide +kernel
theorem dX7_readMatter_46 : decode cX7_readMatter 46 = .ok (.if_icmp .ne 16, 3) := by decide +kernel
theorem dX7_readMatter_49 : decode cX7_readMatter 49 = .ok (.aload_n 1, 1) := by decide +kernel
theorem dX7_readMatter_50 : decode cX7_readMatter 50 = .ok (.invokevirtual 56, 3) := by decide +kernel
theorem dX7_readMatter_53 : decode cX7_readMatter 53 = .ok (.aload_n 1, 1) := by decide +kernel
theorem dX7_readMatter_54 : decode cX7_readMatter 54 = .ok (.iconst 0, 1) := by decide +kernel
theorem dX7_readMatter_55 : decode cX7_readMatter 55 = .ok (.bipush 100, 2) := by decide +kernel
theorem dX7_readMatter_57 : decode cX7_readMatter 57 = .ok (.invokevirtual 59, 3) := by decide +kernel
theorem dX7_readMatter_60 : decode cX7_readMatter 60 = .ok (.istore 5, 2) := by decide +kernel
theorem dX7_readMatter_62 : decode cX7_readMatter 62 = .ok (.aload_n 1, 1) := by decide +kernel
theorem dX7_readMatter_63 : decode cX7_readMatter 63 = .ok (.invokevirtual 83, 3) := by decide +kernel
theorem dX7_readMatter_66 : decode cX7_readMatter 66 = .ok (.ifCond .eq 12, 3) := by decide +kernel
theorem dX7_readMatter_69 : decode cX7_readMatter 69 = .ok (.aload_n 0, 1) := by decide +kernel
theorem dX7_readMatter_70 : decode cX7_readMatter 70 = .ok (.lload_n 2, 1) := by decide +kernel
theorem dX7_readMatter_71 : decode cX7_readMatter 71 = .ok (.iload 4, 2) := by decide +kernel
theorem dX7_readMatter_73 : decode cX7_readMatter 73 = .ok (.iload 5, 2) := by decide +kernel
theorem dX7_readMatter_75 : decode cX7_readMatter 75 = .ok (.invokevirtual 86, 3) := by decide +kernel
theorem dX7_readMatter_78 : decode cX7_readMatter 78 = .ok (.return_, 1) := by decide +kernel
theorem dX7_readHold_0 : decode cX7_readHold 0 = .ok (.aload_n 1, 1) := by decide +kernel
theorem dX7_readHold_1 : decode cX7_readHold 1 = .ok (.aload_n 0, 1) := by decide +kernel
theorem dX7_readHold_2 : decode cX7_readHold 2 = .ok (.getfield 90, 3) := by decide +kernel
theorem dX7_readHold_5 : decode cX7_readHold 5 = .ok (.bipush 10, 2) := by decide +kernel
theorem dX7_readHold_7 : decode cX7_readHold 7 = .ok (.if_icmp .lt 7, 3) := by decide +kernel
theorem dX7_readHold_10 : decode cX7_readHold 10 = .ok (.iconst 1, 1) := by decide +kernel
theorem dX7_readHold_11 : decode cX7_readHold 11 = .ok (.goto 4, 3) := by decide +kernel
theorem dX7_readHold_14 : decode cX7_readHold 14 = .ok (.iconst 0, 1) := by decide +kernel
theorem dX7_readHold_15 : decode cX7_readHold 15 = .ok (.invokestatic 70, 3) := by decide +kernel
theorem dX7_readHold_18 : decode cX7_readHold 18 = .ok (.aload_n 1, 1) := by decide +kernel
theorem dX7_readHold_19 : decode cX7_readHold 19 = .ok (.aload_n 0, 1) := by decide +kernel
theorem dX7_readHold_20 : decode cX7_readHold 20 = .ok (.invokevirtual 93, 3) := by decide +kernel
theorem dX7_readHold_23 : decode cX7_readHold 23 = .ok (.istore_n 2, 1) := by decide +kernel
theorem dX7_readHold_24 : decode cX7_readHold 24 = .ok (.aload_n 1, 1) := by decide +kernel
theorem dX7_readHold_25 : decode cX7_readHold 25 = .ok (.iconst 5, 1) := by decide +kernel
theorem dX7_readHold_26 : decode cX7_readHold 26 = .ok (.invokevirtual 80, 3) := by decide +kernel
theorem dX7_readHold_29 : decode cX7_readHold 29 = .ok (.aload_n 1, 1) := by decide +kernel
theorem dX7_readHold_30 : decode cX7_readHold 30 = .ok (.aload_n 0, 1) := by decide +kernel
theorem dX7_readHold_31 : decode cX7_readHold 31 = .ok (.invokevirtual 97, 3) := by decide +kernel
theorem dX7_readHold_34 : decode cX7_readHold 34 = .ok (.istore_n 3, 1) := by decide +kernel
theorem dX7_readHold_35 : decode cX7_readHold 35 = .ok (.iload_n 2, 1) := by decide +kernel
theorem dX7_readHold_36 : decode cX7_readHold 36 = .ok (.iload_n 3, 1) := by decide +kernel
theorem dX7_readHold_37 : decode cX7_readHold 37 = .ok (.if_icmp .eq 12, 3) := by decide +kernel
theorem dX7_readHold_40 : decode cX7_readHold 40 = .ok (.aload_n 0, 1) := by decide +kernel
theorem dX7_readHold_41 : decode cX7_readHold 41 = .ok (.iload_n 2, 1) := by decide +kernel
theorem dX7_readHold_42 : decode cX7_readHold 42 = .ok (.iload_n 3, 1) := by decide +kernel
theorem dX7_readHold_43 : decode cX7_readHold 43 = .ok (.invokevirtual 100, 3) := by decide +kernel
theorem dX7_readHold_46 : decode cX7_readHold 46 = .ok (.ifCond .eq 8, 3) := by decide +kernel
theorem dX7_readHold_49 : decode cX7_readHold 49 = .ok (.aload_n 1, 1) := by decide +kernel
theorem dX7_readHold_50 : decode cX7_readHold 50 = .ok (.iconst 5, 1) := by decide +kernel
theorem dX7_readHold_51 : decode cX7_readHold 51 = .ok (.invokevirtual 52, 3) := by decide +kernel
theorem dX7_readHold_54 : decode cX7_readHold 54 = .ok (.aload_n 1, 1) := by decide +kernel
theorem dX7_readHold_55 : decode cX7_readHold 55 = .ok (.invokevirtual 56, 3) := by decide +kernel
theorem dX7_readHold_58 : decode cX7_readHold 58 = .ok (.aload_n 1, 1) := by decide +kernel
theorem dX7_readHold_59 : decode cX7_readHold 59 = .ok (.invokevirtual 83, 3) := by decide +kernel
theorem dX7_readHold_62 : decode cX7_readHold 62 = .ok (.ifCond .eq 9, 3) := by decide +kernel
theorem dX7_readHold_65 : decode cX7_readHold 65 = .ok (.aload_n 0, 1) := by decide +kernel
theorem dX7_readHold_66 : decode cX7_readHold 66 = .ok (.iload_n 2, 1) := by decide +kernel
theorem dX7_readHold_67 : decode cX7_readHold 67 = .ok (.iload_n 3, 1) := by decide +kernel
theorem dX7_readHold_68 : decode cX7_readHold 68 = .ok (.invokevirtual 104, 3) := by decide +kernel
theorem dX7_readHold_71 : decode cX7_readHold 71 = .ok (.return_, 1) := by decide +kernel
theorem dX7_readSitter_0 : decode cX7_readSitter 0 = .ok (.aload_n 1, 1) := by decide +kernel
theorem dX7_readSitter_1 : decode cX7_readSitter 1 = .ok (.aload_n 0, 1) := by decide +kernel
theorem dX7_readSitter_2 : decode cX7_readSitter 2 = .ok (.getfield 108, 3) := by decide +kernel
theorem dX7_readSitter_5 : decode cX7_readSitter 5 = .ok (.bipush 7, 2) := by decide +kernel
theorem dX7_readSitter_7 : decode cX7_readSitter 7 = .ok (.if_icmp .lt 7, 3) := by decide +kernel
theorem dX7_readSitter_10 : decode cX7_readSitter 10 = .ok (.iconst 1, 1) := by decide +kernel
theorem dX7_readSitter_11 : decode cX7_readSitter 11 = .ok (.goto 4, 3) := by decide +kernel
theorem dX7_readSitter_14 : decode cX7_readSitter 14 = .ok (.iconst 0, 1) := by decide +kernel
theorem dX7_readSitter_15 : decode cX7_readSitter 15 = .ok (.invokestatic 70, 3) := by decide +kernel
theorem dX7_readSitter_18 : decode cX7_readSitter 18 = .ok (.aload_n 1, 1) := by decide +kernel
theorem dX7_readSitter_19 : decode cX7_readSitter 19 = .ok (.aload_n 0, 1) := by decide +kernel
theorem dX7_readSitter_20 : decode cX7_readSitter 20 = .ok (.invokevirtual 74, 3) := by decide +kernel
theorem dX7_readSitter_23 : decode cX7_readSitter 23 = .ok (.lstore_n 2, 1) := by decide +kernel
theorem dX7_readSitter_24 : decode cX7_readSitter 24 = .ok (.aload_n 1, 1) := by decide +kernel
theorem dX7_readSitter_25 : decode cX7_readSitter 25 = .ok (.bipush 7, 2) := by decide +kernel
theorem dX7_readSitter_27 : decode cX7_readSitter 27 = .ok (.invokevirtual 80, 3) := by decide +kernel
theorem dX7_readSitter_30 : decode cX7_readSitter 30 = .ok (.aload_n 1, 1) := by decide +kernel
theorem dX7_readSitter_31 : decode cX7_readSitter 31 = .ok (.iconst 0, 1) := by decide +kernel
theorem dX7_readSitter_32 : decode cX7_readSitter 32 = .ok (.bipush 59, 2) := by decide +kernel
theorem dX7_readSitter_34 : decode cX7_readSitter 34 = .ok (.invokevirtual 59, 3) := by decide +kernel
theorem dX7_readSitter_37 : decode cX7_readSitter 37 = .ok (.istore 4, 2) := by decide +kernel
theorem dX7_readSitter_39 : decode cX7_readSitter 39 = .ok (.aload_n 1, 1) := by decide +kernel
theorem dX7_readSitter_40 : decode cX7_readSitter 40 = .ok (.bipush 8, 2) := by decide +kernel
theorem dX7_readSitter_42 : decode cX7_readSitter 42 = .ok (.invokevirtual 80, 3) := by decide +kernel
theorem dX7_readSitter_45 : decode cX7_readSitter 45 = .ok (.aload_n 1, 1) := by decide +kernel
theorem dX7_readSitter_46 : decode cX7_readSitter 46 = .ok (.iconst 1, 1) := by decide +kernel
theorem dX7_readSitter_47 : decode cX7_readSitter 47 = .ok (.bipush 99, 2) := by decide +kernel
theorem dX7_readSitter_49 : decode cX7_readSitter 49 = .ok (.invokevirtual 59, 3) := by decide +kernel
theorem dX7_readSitter_52 : decode cX7_readSitter 52 = .ok (.istore 5, 2) := by decide +kernel
theorem dX7_readSitter_54 : decode cX7_readSitter 54 = .ok (.aload_n 1, 1) := by decide +kernel
theorem dX7_readSitter_55 : decode cX7_readSitter 55 = .ok (.bipush 9, 2) := by decide +kernel
theorem dX7_readSitter_57 : decode cX7_readSitter 57 = .ok (.invokevirtual 80, 3) := by decide +kernel
theorem dX7_readSitter_60 : decode cX7_readSitter 60 = .ok (.aload_n 1, 1) := by decide +kernel
theorem dX7_readSitter_61 : decode cX7_readSitter 61 = .ok (.aload_n 0, 1) := by decide +kernel
theorem dX7_readSitter_62 : decode cX7_readSitter 62 = .ok (.invokevirtual 93, 3) := by decide +kernel
theorem dX7_readSitter_65 : decode cX7_readSitter 65 = .ok (.istore 6, 2) := by decide +kernel
theorem dX7_readSitter_67 : decode cX7_readSitter 67 = .ok (.iconst 1, 1) := by decide +kernel
theorem dX7_readSitter_68 : decode cX7_readSitter 68 = .ok (.istore 7, 2) := by decide +kernel
theorem dX7_readSitter_70 : decode cX7_readSitter 70 = .ok (.aload_n 1, 1) := by decide +kernel
theorem dX7_readSitter_71 : decode cX7_readSitter 71 = .ok (.invokevirtual 33, 3) := by decide +kernel
theorem dX7_readSitter_74 : decode cX7_readSitter 74 = .ok (.bipush 10, 2) := by decide +kernel
theorem dX7_readSitter_76 : decode cX7_readSitter 76 = .ok (.if_icmp .ne 16, 3) := by decide +kernel
theorem dX7_readSitter_79 : decode cX7_readSitter 79 = .ok (.aload_n 1, 1) := by decide +kernel
theorem dX7_readSitter_80 : decode cX7_readSitter 80 = .ok (.invokevirtual 56, 3) := by decide +kernel
theorem dX7_readSitter_83 : decode cX7_readSitter 83 = .ok (.aload_n 1, 1) := by decide +kernel
theorem dX7_readSitter_84 : decode cX7_readSitter 84 = .ok (.iconst 1, 1) := by decide +kernel
theorem dX7_readSitter_85 : decode cX7_readSitter 85 = .ok (.bipush 9, 2) := by decide +kernel
theorem dX7_readSitter_87 : decode cX7_readSitter 87 = .ok (.invokevirtual 59, 3) := by decide +kernel
theorem dX7_readSitter_90 : decode cX7_readSitter 90 = .ok (.istore 7, 2) := by decide +kernel
theorem dX7_readSitter_92 : decode cX7_readSitter 92 = .ok (.aload_n 1, 1) := by decide +kernel
theorem dX7_readSitter_93 : decode cX7_readSitter 93 = .ok (.invokevirtual 83, 3) := by decide +kernel
theorem dX7_readSitter_96 : decode cX7_readSitter 96 = .ok (.ifCond .eq 16, 3) := by decide +kernel
theorem dX7_readSitter_99 : decode cX7_readSitter 99 = .ok (.aload_n 0, 1) := by decide +kernel
theorem dX7_readSitter_100 : decode cX7_readSitter 100 = .ok (.lload_n 2, 1) := by decide +kernel
theorem dX7_readSitter_101 : decode cX7_readSitter 101 = .ok (.iload 4, 2) := by decide +kernel
theorem dX7_readSitter_103 : decode cX7_readSitter 103 = .ok (.iload 5, 2) := by decide +kernel
theorem dX7_readSitter_105 : decode cX7_readSitter 105 = .ok (.iload 6, 2) := by decide +kernel
theorem dX7_readSitter_107 : decode cX7_readSitter 107 = .ok (.iload 7, 2) := by decide +kernel
theorem dX7_readSitter_109 : decode cX7_readSitter 109 = .ok (.invokevirtual 111, 3) := by decide +kernel
theorem dX7_readSitter_112 : decode cX7_readSitter 112 = .ok (.return_, 1) := by decide +kernel
theorem dX7_readNews_0 : decode cX7_readNews 0 = .ok (.aload_n 1, 1) := by decide +kernel
theorem dX7_readNews_1 : decode cX7_readNews 1 = .ok (.aload_n 0, 1) := by decide +kernel
theorem dX7_readNews_2 : decode cX7_readNews 2 = .ok (.getfield 115, 3) := by decide +kernel
theorem dX7_readNews_5 : decode cX7_readNews 5 = .ok (.bipush 8, 2) := by decide +kernel
theorem dX7_readNews_7 : decode cX7_readNews 7 = .ok (.if_icmp .lt 7, 3) := by decide +kernel
theorem dX7_readNews_10 : decode cX7_readNews 10 = .ok (.iconst 1, 1) := by decide +kernel
theorem dX7_readNews_11 : decode cX7_readNews 11 = .ok (.goto 4, 3) := by decide +kernel
theorem dX7_readNews_14 : decode cX7_readNews 14 = .ok (.iconst 0, 1) := by decide +kernel
theorem dX7_readNews_15 : decode cX7_readNews 15 = .ok (.invokestatic 70, 3) := by decide +kernel
theorem dX7_readNews_18 : decode cX7_readNews 18 = .ok (.aload_n 1, 1) := by decide +kernel
theorem dX7_readNews_19 : decode cX7_readNews 19 = .ok (.aload_n 0, 1) := by decide +kernel
theorem dX7_readNews_20 : decode cX7_readNews 20 = .ok (.invokevirtual 93, 3) := by decide +kernel
theorem dX7_readNews_23 : decode cX7_readNews 23 = .ok (.istore_n 2, 1) := by decide +kernel
theorem dX7_readNews_24 : decode cX7_readNews 24 = .ok (.aload_n 1, 1) := by decide +kernel
theorem dX7_readNews_25 : decode cX7_readNews 25 = .ok (.bipush 12, 2) := by decide +kernel
theorem dX7_readNews_27 : decode cX7_readNews 27 = .ok (.invokevirtual 80, 3) := by decide +kernel
theorem dX7_readNews_30 : decode cX7_readNews 30 = .ok (.aload_n 1, 1) := by decide +kernel
theorem dX7_readNews_31 : decode cX7_readNews 31 = .ok (.iconst 1, 1) := by decide +kernel
theorem dX7_readNews_32 : decode cX7_readNews 32 = .ok (.bipush 100, 2) := by decide +kernel
theorem dX7_readNews_34 : decode cX7_readNews 34 = .ok (.invokevirtual 59, 3) := by decide +kernel
theorem dX7_readNews_37 : decode cX7_readNews 37 = .ok (.istore_n 3, 1) := by decide +kernel
theorem dX7_readNews_38 : decode cX7_readNews 38 = .ok (.aload_n 1, 1) := by decide +kernel
theorem dX7_readNews_39 : decode cX7_readNews 39 = .ok (.invokevirtual 83, 3) := by decide +kernel
theorem dX7_readNews_42 : decode cX7_readNews 42 = .ok (.ifCond .eq 9, 3) := by decide +kernel
theorem dX7_readNews_45 : decode cX7_readNews 45 = .ok (.aload_n 0, 1) := by decide +kernel
theorem dX7_readNews_46 : decode cX7_readNews 46 = .ok (.iload_n 2, 1) := by decide +kernel
theorem dX7_readNews_47 : decode cX7_readNews 47 = .ok (.iload_n 3, 1) := by decide +kernel
theorem dX7_readNews_48 : decode cX7_readNews 48 = .ok (.invokevirtual 118, 3) := by decide +kernel
theorem dX7_readNews_51 : decode cX7_readNews 51 = .ok (.return_, 1) := by decide +kernel
theorem dX10_init_0 : decode cX10_init 0 = .ok (.aload_n 0, 1) := by decide +kernel
theorem dX10_init_1 : decode cX10_init 1 = .ok (.invokespecial 3, 3) := by decide +kernel
theorem dX10_init_4 : decode cX10_init 4 = .ok (.aload_n 0, 1) := by decide +kernel
theorem dX10_init_5 : decode cX10_init 5 = .ok (.iconst 3, 1) := by decide +kernel
theorem dX10_init_6 : decode cX10_init 6 = .ok (.newarray .int, 2) := by decide +kernel
theorem dX10_init_8 : decode cX10_init 8 = .ok (.putfield 11, 3) := by decide +kernel
theorem dX10_init_11 : decode cX10_init 11 = .ok (.return_, 1) := by decide +kernel
theorem dX10_readInto_0 : decode cX10_readInto 0 = .ok (.aload_n 1, 1) := by decide +kernel
theorem dX10_readInto_1 : decode cX10_readInto 1 = .ok (.invokevirtual 15, 3) := by decide +kernel
theorem dX10_readInto_4 : decode cX10_readInto 4 = .ok (.aload_n 1, 1) := by decide +kernel
theorem dX10_readInto_5 : decode cX10_readInto 5 = .ok (.iconst 1, 1) := by decide +kernel
theorem dX10_readInto_6 : decode cX10_readInto 6 = .ok (.putfield 20, 3) := by decide +kernel
theorem dX10_readInto_9 : decode cX10_readInto 9 = .ok (.aload_n 0, 1) := by decide +kernel
theorem dX10_readInto_10 : decode cX10_readInto 10 = .ok (.iconst 0, 1) := by decide +kernel
theorem dX10_readInto_11 : decode cX10_readInto 11 = .ok (.putfield 24, 3) := by decide +kernel
theorem dX10_readInto_14 : decode cX10_readInto 14 = .ok (.iconst 0, 1) := by decide +kernel
theorem dX10_readInto_15 : decode cX10_readInto 15 = .ok (.istore 4, 2) := by decide +kernel
theorem dX10_readInto_17 : decode cX10_readInto 17 = .ok (.iload 4, 2) := by decide +kernel
theorem dX10_readInto_19 : decode cX10_readInto 19 = .ok (.sipush 300, 3) := by decide +kernel
theorem dX10_readInto_22 : decode cX10_readInto 22 = .ok (.if_icmp .ge 50, 3) := by decide +kernel
theorem dX10_readInto_25 : decode cX10_readInto 25 = .ok (.aload_n 2, 1) := by decide +kernel
theorem dX10_readInto_26 : decode cX10_readInto 26 = .ok (.invokevirtual 28, 3) := by decide +kernel
theorem dX10_readInto_29 : decode cX10_readInto 29 = .ok (.ifCond .eq 43, 3) := by decide +kernel
theorem dX10_readInto_32 : decode cX10_readInto 32 = .ok (.aload_n 2, 1) := by decide +kernel
theorem dX10_readInto_33 : decode cX10_readInto 33 = .ok (.invokevirtual 34, 3) := by decide +kernel
theorem dX10_readInto_36 : decode cX10_readInto 36 = .ok (.istore 5, 2) := by decide +kernel
theorem dX10_readInto_38 : decode cX10_readInto 38 = .ok (.aload_n 0, 1) := by decide +kernel
theorem dX10_readInto_39 : decode cX10_readInto 39 = .ok (.iload 5, 2) := by decide +kernel
theorem dX10_readInto_41 : decode cX10_readInto 41 = .ok (.aload_n 1, 1) := by decide +kernel
theorem dX10_readInto_42 : decode cX10_readInto 42 = .ok (.aload_n 2, 1) := by decide +kernel
theorem dX10_readInto_43 : decode cX10_readInto 43 = .ok (.invokevirtual 38, 3) := by decide +kernel
theorem dX10_readInto_46 : decode cX10_readInto 46 = .ok (.aload_n 2, 1) := by decide +kernel
theorem dX10_readInto_47 : decode cX10_readInto 47 = .ok (.invokevirtual 42, 3) := by decide +kernel
theorem dX10_readInto_50 : decode cX10_readInto 50 = .ok (.ifCond .eq 12, 3) := by decide +kernel
theorem dX10_readInto_53 : decode cX10_readInto 53 = .ok (.aload_n 0, 1) := by decide +kernel
theorem dX10_readInto_54 : decode cX10_readInto 54 = .ok (.iload 5, 2) := by decide +kernel
theorem dX10_readInto_56 : decode cX10_readInto 56 = .ok (.aload_n 1, 1) := by decide +kernel
theorem dX10_readInto_57 : decode cX10_readInto 57 = .ok (.aload_n 2, 1) := by decide +kernel
theorem dX10_readInto_58 : decode cX10_readInto 58 = .ok (.aload_n 3, 1) := by decide +kernel
theorem dX10_readInto_59 : decode cX10_readInto 59 = .ok (.invokevirtual 45, 3) := by decide +kernel
theorem dX10_readInto_62 : decode cX10_readInto 62 = .ok (.aload_n 2, 1) := by decide +kernel
theorem dX10_readInto_63 : decode cX10_readInto 63 = .ok (.invokevirtual 49, 3) := by decide +kernel
theorem dX10_readInto_66 : decode cX10_readInto 66 = .ok (.iinc 4 1, 3) := by decide +kernel
theorem dX10_readInto_69 : decode cX10_readInto 69 = .ok (.goto (-52), 3) := by decide +kernel
theorem dX10_readInto_72 : decode cX10_readInto 72 = .ok (.aload_n 0, 1) := by decide +kernel
theorem dX10_readInto_73 : decode cX10_readInto 73 = .ok (.getfield 24, 3) := by decide +kernel
theorem dX10_readInto_76 : decode cX10_readInto 76 = .ok (.ifCond .le 8, 3) := by decide +kernel
theorem dX10_readInto_79 : decode cX10_readInto 79 = .ok (.aload_n 2, 1) := by decide +kernel
theorem dX10_readInto_80 : decode cX10_readInto 80 = .ok (.iconst 2, 1) := by decide +kernel
theorem dX10_readInto_81 : decode cX10_readInto 81 = .ok (.invokevirtual 52, 3) := by decide +kernel
theorem dX10_readInto_84 : decode cX10_readInto 84 = .ok (.return_, 1) := by decide +kernel
theorem dX10_begin_0 : decode cX10_begin 0 = .ok (.iload_n 1, 1) := by decide +kernel
theorem dX10_begin_1 : decode cX10_begin 1 = .ok (.bipush 23, 2) := by decide +kernel
theorem dX10_begin_3 : decode cX10_begin 3 = .ok (.if_icmp .ne 18, 3) := by decide +kernel
theorem dX10_begin_6 : decode cX10_begin 6 = .ok (.aload_n 0, 1) := by decide +kernel
theorem dX10_begin_7 : decode cX10_begin 7 = .ok (.getfield 24, 3) := by decide +kernel
theorem dX10_begin_10 : decode cX10_begin 10 = .ok (.ifCond .le 7, 3) := by decide +kernel
theorem dX10_begin_13 : decode cX10_begin 13 = .ok (.iconst 1, 1) := by decide +kernel
theorem dX10_begin_14 : decode cX10_begin 14 = .ok (.goto 11, 3) := by decide +kernel
theorem dX10_begin_17 : decode cX10_begin 17 = .ok (.iconst 0, 1) := by decide +kernel
theorem dX10_begin_18 : decode cX10_begin 18 = .ok (.goto 7, 3) := by decide +kernel
theorem dX10_begin_21 : decode cX10_begin 21 = .ok (.iload_n 1, 1) := by decide +kernel
theorem dX10_begin_22 : decode cX10_begin 22 = .ok (.invokestatic 58, 3) := by decide +kernel
theorem dX10_begin_25 : decode cX10_begin 25 = .ok (.istore 4, 2) := by decide +kernel
theorem dX10_begin_27 : decode cX10_begin 27 = .ok (.iload 4, 2) := by decide +kernel
theorem dX10_begin_29 : decode cX10_begin 29 = .ok (.ifCond .ne 11, 3) := by decide +kernel
theorem dX10_begin_32 : decode cX10_begin 32 = .ok (.aload_n 3, 1) := by decide +kernel
theorem dX10_begin_33 : decode cX10_begin 33 = .ok (.iconst 2, 1) := by decide +kernel
theorem dX10_begin_34 : decode cX10_begin 34 = .ok (.invokevirtual 52, 3) := by decide +kernel
theorem dX10_begin_37 : decode cX10_begin 37 = .ok (.goto 49, 3) := by decide +kernel
theorem dX10_begin_40 : decode cX10_begin 40 = .ok (.iload_n 1, 1) := by decide +kernel
theorem dX10_begin_41 : decode cX10_begin 41 = .ok (.invokestatic 58, 3) := by decide +kernel
theorem dX10_begin_44 : decode cX10_begin 44 = .ok (.ifCond .eq 21, 3) := by decide +kernel
theorem dX10_begin_47 : decode cX10_begin 47 = .ok (.aload_n 2, 1) := by decide +kernel
theorem dX10_begin_48 : decode cX10_begin 48 = .ok (.getfield 62, 3) := by decide +kernel
theorem dX10_begin_51 : decode cX10_begin 51 = .ok (.bipush 30, 2) := by decide +kernel
theorem dX10_begin_53 : decode cX10_begin 53 = .ok (.if_icmp .lt 12, 3) := by decide +kernel
theorem dX10_begin_56 : decode cX10_begin 56 = .ok (.aload_n 3, 1) := by decide +kernel
theorem dX10_begin_57 : decode cX10_begin 57 = .ok (.bipush 6, 2) := by decide +kernel
theorem dX10_begin_59 : decode cX10_begin 59 = .ok (.invokevirtual 52, 3) := by decide +kernel
theorem dX10_begin_62 : decode cX10_begin 62 = .ok (.goto 24, 3) := by decide +kernel
theorem dX10_begin_65 : decode cX10_begin 65 = .ok (.iload_n 1, 1) := by decide +kernel
theorem dX10_begin_66 : decode cX10_begin 66 = .ok (.invokestatic 65, 3) := by decide +kernel
theorem dX10_begin_69 : decode cX10_begin 69 = .ok (.ifCond .eq 17, 3) := by decide +kernel
theorem dX10_begin_72 : decode cX10_begin 72 = .ok (.aload_n 0, 1) := by decide +kernel
theorem dX10_begin_73 : decode cX10_begin 73 = .ok (.getfield 24, 3) := by decide +kernel
theorem dX10_begin_76 : decode cX10_begin 76 = .ok (.iconst 3, 1) := by decide +kernel
theorem dX10_begin_77 : decode cX10_begin 77 = .ok (.if_icmp .lt 9, 3) := by decide +kernel
theorem dX10_begin_80 : decode cX10_begin 80 = .ok (.aload_n 3, 1) := by decide +kernel
theorem dX10_begin_81 : decode cX10_begin 81 = .ok (.bipush 7, 2) := by decide +kernel
theorem dX10_begin_83 : decode cX10_begin 83 = .ok (.invokevirtual 52, 3) := by decide +kernel
theorem dX10_begin_86 : decode cX10_begin 86 = .ok (.aload_n 3, 1) := by decide +kernel
theorem dX10_begin_87 : decode cX10_begin 87 = .ok (.invokevirtual 68, 3) := by decide +kernel
theorem dX10_begin_90 : decode cX10_begin 90 = .ok (.return_, 1) := by decide +kernel
theorem dX10_isStep_0 : decode cX10_isStep 0 = .ok (.iload_n 0, 1) := by decide +kernel
theorem dX10_isStep_1 : decode cX10_isStep 1 = .ok (.bipush 13, 2) := by decide +kernel
theorem dX10_isStep_3 : decode cX10_isStep 3 = .ok (.if_icmp .lt 9, 3) := by decide +kernel
theorem dX10_isStep_6 : decode cX10_isStep 6 = .ok (.iload_n 0, 1) := by decide +kernel
theorem dX10_isStep_7 : decode cX10_isStep 7 = .ok (.bipush 18, 2) := by decide +kernel
theorem dX10_isStep_9 : decode cX10_isStep 9 = .ok (.if_icmp .le 15, 3) := by decide +kernel
theorem dX10_isStep_12 : decode cX10_isStep 12 = .ok (.iload_n 0, 1) := by decide +kernel
theorem dX10_isStep_13 : decode cX10_isStep 13 = .ok (.bipush 22, 2) := by decide +kernel
theorem dX10_isStep_15 : decode cX10_isStep 15 = .ok (.if_icmp .eq 9, 3) := by decide +kernel
theorem dX10_isStep_18 : decode cX10_isStep 18 = .ok (.iload_n 0, 1) := by decide +kernel
theorem dX10_isStep_19 : decode cX10_isStep 19 = .ok (.bipush 24, 2) := by decide +kernel
theorem dX10_isStep_21 : decode cX10_isStep 21 = .ok (.if_icmp .ne 7, 3) := by decide +kernel
theorem dX10_isStep_24 : decode cX10_isStep 24 = .ok (.iconst 1, 1) := by decide +kernel
theorem dX10_isStep_25 : decode cX10_isStep 25 = .ok (.goto 4, 3) := by decide +kernel
theorem dX10_isStep_28 : decode cX10_isStep 28 = .ok (.iconst 0, 1) := by decide +kernel
theorem dX10_isStep_29 : decode cX10_isStep 29 = .ok (.ireturn, 1) := by decide +kernel
theorem dX10_isOpening_0 : decode cX10_isOpening 0 = .ok (.iload_n 0, 1) := by decide +kernel
theorem dX10_isOpening_1 : decode cX10_isOpening 1 = .ok (.bipush 18, 2) := by decide +kernel
theorem dX10_isOpening_3 : decode cX10_isOpening 3 = .ok (.if_icmp .eq 9, 3) := by decide +kernel
theorem dX10_isOpening_6 : decode cX10_isOpening 6 = .ok (.iload_n 0, 1) := by decide +kernel
theorem dX10_isOpening_7 : decode cX10_isOpening 7 = .ok (.bipush 22, 2) := by decide +kernel
theorem dX10_isOpening_9 : decode cX10_isOpening 9 = .ok (.if_icmp .ne 7, 3) := by decide +kernel
theorem dX10_isOpening_12 : decode cX10_isOpening 12 = .ok (.iconst 1, 1) := by decide +kernel
theorem dX10_isOpening_13 : decode cX10_isOpening 13 = .ok (.goto 4, 3) := by decide +kernel
theorem dX10_isOpening_16 : decode cX10_isOpening 16 = .ok (.iconst 0, 1) := by decide +kernel
theorem dX10_isOpening_17 : decode cX10_isOpening 17 = .ok (.ireturn, 1) := by decide +kernel
theorem dX10_readRest_0 : decode cX10_readRest 0 = .ok (.iload_n 1, 1) := by decide +kernel
theorem dX10_readRest_1 : decode cX10_readRest 1 = .ok (.tableswitch 176 13 23 #[59, 75, 91, 112, 176, 132, 176, 176, 176, 147, 168], 59) := by decide +kernel
theorem dX10_readRest_60 : decode cX10_readRest 60 = .ok (.aload_n 2, 1) := by decide +kernel
theorem dX10_readRest_61 : decode cX10_readRest 61 = .ok (.iload_n 1, 1) := by decide +kernel
theorem dX10_readRest_62 : decode cX10_readRest 62 = .ok (.iconst (-1), 1) := by decide +kernel
theorem dX10_readRest_63 : decode cX10_readRest 63 = .ok (.aload_n 3, 1) := by decide +kernel
theorem dX10_readRest_64 : decode cX10_readRest 64 = .ok (.iconst 1, 1) := by decide +kernel
theorem dX10_readRest_65 : decode cX10_readRest 65 = .ok (.bipush 40, 2) := by decide +kernel
theorem dX10_readRest_67 : decode cX10_readRest 67 = .ok (.invokevirtual 71, 3) := by decide +kernel
theorem dX10_readRest_70 : decode cX10_readRest 70 = .ok (.invokevirtual 75, 3) := by decide +kernel
theorem dX10_readRest_73 : decode cX10_readRest 73 = .ok (.goto 111, 3) := by decide +kernel
theorem dX10_readRest_76 : decode cX10_readRest 76 = .ok (.aload_n 2, 1) := by decide +kernel
theorem dX10_readRest_77 : decode cX10_readRest 77 = .ok (.iload_n 1, 1) := by decide +kernel
theorem dX10_readRest_78 : decode cX10_readRest 78 = .ok (.iconst (-1), 1) := by decide +kernel
theorem dX10_readRest_79 : decode cX10_readRest 79 = .ok (.aload_n 3, 1) := by decide +kernel
theorem dX10_readRest_80 : decode cX10_readRest 80 = .ok (.iconst 0, 1) := by decide +kernel
theorem dX10_readRest_81 : decode cX10_readRest 81 = .ok (.bipush 7, 2) := by decide +kernel
theorem dX10_readRest_83 : decode cX10_readRest 83 = .ok (.invokevirtual 71, 3) := by decide +kernel
theorem dX10_readRest_86 : decode cX10_readRest 86 = .ok (.invokevirtual 75, 3) := by decide +kernel
theorem dX10_readRest_89 : decode cX10_readRest 89 = .ok (.goto 95, 3) := by decide +kernel
theorem dX10_readRest_92 : decode cX10_readRest 92 = .ok (.aload_n 2, 1) := by decide +kernel
theorem dX10_readRest_93 : decode cX10_readRest 93 = .ok (.iload_n 1, 1) := by decide +kernel
theorem dX10_readRest_94 : decode cX10_readRest 94 = .ok (.aload_n 3, 1) := by decide +kernel
theorem dX10_readRest_95 : decode cX10_readRest 95 = .ok (.aload 4, 2) := by decide +kernel
theorem dX10_readRest_97 : decode cX10_readRest 97 = .ok (.invokevirtual 79, 3) := by decide +kernel
theorem dX10_readRest_100 : decode cX10_readRest 100 = .ok (.aload_n 3, 1) := by decide +kernel
theorem dX10_readRest_101 : decode cX10_readRest 101 = .ok (.iconst 1, 1) := by decide +kernel
theorem dX10_readRest_102 : decode cX10_readRest 102 = .ok (.bipush 100, 2) := by decide +kernel
theorem dX10_readRest_104 : decode cX10_readRest 104 = .ok (.invokevirtual 71, 3) := by decide +kernel
theorem dX10_readRest_107 : decode cX10_readRest 107 = .ok (.invokevirtual 75, 3) := by decide +kernel
theorem dX10_readRest_110 : decode cX10_readRest 110 = .ok (.goto 74, 3) := by decide +kernel
theorem dX10_readRest_113 : decode cX10_readRest 113 = .ok (.aload_n 2, 1) := by decide +kernel
theorem dX10_readRest_114 : decode cX10_readRest 114 = .ok (.iload_n 1, 1) := by decide +kernel
theorem dX10_readRest_115 : decode cX10_readRest 115 = .ok (.aload_n 3, 1) := by decide +kernel
theorem dX10_readRest_116 : decode cX10_readRest 116 = .ok (.aload 4, 2) := by decide +kernel
theorem dX10_readRest_118 : decode cX10_readRest 118 = .ok (.invokevirtual 83, 3) := by decide +kernel
theorem dX10_readRest_121 : decode cX10_readRest 121 = .ok (.aload_n 3, 1) := by decide +kernel
theorem dX10_readRest_122 : decode cX10_readRest 122 = .ok (.aload 4, 2) := by decide +kernel
theorem dX10_readRest_124 : decode cX10_readRest 124 = .ok (.invokevirtual 79, 3) := by decide +kernel
theorem dX10_readRest_127 : decode cX10_readRest 127 = .ok (.invokevirtual 75, 3) := by decide +kernel
theorem dX10_readRest_130 : decode cX10_readRest 130 = .ok (.goto 54, 3) := by decide +kernel
theorem dX10_readRest_133 : decode cX10_readRest 133 = .ok (.aload_n 0, 1) := by decide +kernel
theorem dX10_readRest_134 : decode cX10_readRest 134 = .ok (.aload_n 2, 1) := by decide +kernel
theorem dX10_readRest_135 : decode cX10_readRest 135 = .ok (.invokevirtual 86, 3) := by decide +kernel
theorem dX10_readRest_138 : decode cX10_readRest 138 = .ok (.aload_n 2, 1) := by decide +kernel
theorem dX10_readRest_139 : decode cX10_readRest 139 = .ok (.aload_n 3, 1) := by decide +kernel
theorem dX10_readRest_140 : decode cX10_readRest 140 = .ok (.aload 4, 2) := by decide +kernel
theorem dX10_readRest_142 : decode cX10_readRest 142 = .ok (.invokestatic 90, 3) := by decide +kernel
theorem dX10_readRest_145 : decode cX10_readRest 145 = .ok (.goto 39, 3) := by decide +kernel
theorem dX10_readRest_148 : decode cX10_readRest 148 = .ok (.aload_n 0, 1) := by decide +kernel
theorem dX10_readRest_149 : decode cX10_readRest 149 = .ok (.aload_n 2, 1) := by decide +kernel
theorem dX10_readRest_150 : decode cX10_readRest 150 = .ok (.invokevirtual 86, 3) := by decide +kernel
theorem dX10_readRest_153 : decode cX10_readRest 153 = .ok (.aload_n 2, 1) := by decide +kernel
theorem dX10_readRest_154 : decode cX10_readRest 154 = .ok (.iload_n 1, 1) := by decide +kernel
theorem dX10_readRest_155 : decode cX10_readRest 155 = .ok (.iconst (-1), 1) := by decide +kernel
theorem dX10_readRest_156 : decode cX10_readRest 156 = .ok (.aload_n 3, 1) := by decide +kernel
theorem dX10_readRest_157 : decode cX10_readRest 157 = .ok (.iconst 1, 1) := by decide +kernel
theorem dX10_readRest_158 : decode cX10_readRest 158 = .ok (.bipush 99, 2) := by decide +kernel
theorem dX10_readRest_160 : decode cX10_readRest 160 = .ok (.invokevirtual 71, 3) := by decide +kernel
theorem dX10_readRest_163 : decode cX10_readRest 163 = .ok (.invokevirtual 75, 3) := by decide +kernel
theorem dX10_readRest_166 : decode cX10_readRest 166 = .ok (.goto 18, 3) := by decide +kernel
theorem dX10_readRest_169 : decode cX10_readRest 169 = .ok (.aload_n 0, 1) := by decide +kernel
theorem dX10_readRest_170 : decode cX10_readRest 170 = .ok (.aload_n 2, 1) := by decide +kernel
theorem dX10_readRest_171 : decode cX10_readRest 171 = .ok (.invokevirtual 94, 3) := by decide +kernel
theorem dX10_readRest_174 : decode cX10_readRest 174 = .ok (.goto 10, 3) := by decide +kernel
theorem dX10_readRest_177 : decode cX10_readRest 177 = .ok (.aload_n 2, 1) := by decide +kernel
theorem dX10_readRest_178 : decode cX10_readRest 178 = .ok (.iload_n 1, 1) := by decide +kernel
theorem dX10_readRest_179 : decode cX10_readRest 179 = .ok (.iconst (-1), 1) := by decide +kernel
theorem dX10_readRest_180 : decode cX10_readRest 180 = .ok (.iconst 0, 1) := by decide +kernel
theorem dX10_readRest_181 : decode cX10_readRest 181 = .ok (.invokevirtual 75, 3) := by decide +kernel
theorem dX10_readRest_184 : decode cX10_readRest 184 = .ok (.return_, 1) := by decide +kernel
theorem dX10_goIn_0 : decode cX10_goIn 0 = .ok (.aload_n 0, 1) := by decide +kernel
theorem dX10_goIn_1 : decode cX10_goIn 1 = .ok (.getfield 24, 3) := by decide +kernel
theorem dX10_goIn_4 : decode cX10_goIn 4 = .ok (.iconst 3, 1) := by decide +kernel
theorem dX10_goIn_5 : decode cX10_goIn 5 = .ok (.if_icmp .ge 26, 3) := by decide +kernel
theorem dX10_goIn_8 : decode cX10_goIn 8 = .ok (.aload_n 0, 1) := by decide +kernel
theorem dX10_goIn_9 : decode cX10_goIn 9 = .ok (.getfield 11, 3) := by decide +kernel
theorem dX10_goIn_12 : decode cX10_goIn 12 = .ok (.aload_n 0, 1) := by decide +kernel
theorem dX10_goIn_13 : decode cX10_goIn 13 = .ok (.getfield 24, 3) := by decide +kernel
theorem dX10_goIn_16 : decode cX10_goIn 16 = .ok (.aload_n 1, 1) := by decide +kernel
theorem dX10_goIn_17 : decode cX10_goIn 17 = .ok (.getfield 97, 3) := by decide +kernel
theorem dX10_goIn_20 : decode cX10_goIn 20 = .ok (.iastore, 1) := by decide +kernel
theorem dX10_goIn_21 : decode cX10_goIn 21 = .ok (.aload_n 0, 1) := by decide +kernel
theorem dX10_goIn_22 : decode cX10_goIn 22 = .ok (.dup, 1) := by decide +kernel
theorem dX10_goIn_23 : decode cX10_goIn 23 = .ok (.getfield 24, 3) := by decide +kernel
theorem dX10_goIn_26 : decode cX10_goIn 26 = .ok (.iconst 1, 1) := by decide +kernel
theorem dX10_goIn_27 : decode cX10_goIn 27 = .ok (.iadd, 1) := by decide +kernel
theorem dX10_goIn_28 : decode cX10_goIn 28 = .ok (.putfield 24, 3) := by decide +kernel
theorem dX10_goIn_31 : decode cX10_goIn 31 = .ok (.return_, 1) := by decide +kernel
theorem dX10_goOut_0 : decode cX10_goOut 0 = .ok (.aload_n 0, 1) := by decide +kernel
theorem dX10_goOut_1 : decode cX10_goOut 1 = .ok (.getfield 24, 3) := by decide +kernel
theorem dX10_goOut_4 : decode cX10_goOut 4 = .ok (.ifCond .le 26, 3) := by decide +kernel
theorem dX10_goOut_7 : decode cX10_goOut 7 = .ok (.aload_n 0, 1) := by decide +kernel
theorem dX10_goOut_8 : decode cX10_goOut 8 = .ok (.dup, 1) := by decide +kernel
theorem dX10_goOut_9 : decode cX10_goOut 9 = .ok (.getfield 24, 3) := by decide +kernel
theorem dX10_goOut_12 : decode cX10_goOut 12 = .ok (.iconst 1, 1) := by decide +kernel
theorem dX10_goOut_13 : decode cX10_goOut 13 = .ok (.isub, 1) := by decide +kernel
theorem dX10_goOut_14 : decode cX10_goOut 14 = .ok (.putfield 24, 3) := by decide +kernel
theorem dX10_goOut_17 : decode cX10_goOut 17 = .ok (.aload_n 1, 1) := by decide +kernel
theorem dX10_goOut_18 : decode cX10_goOut 18 = .ok (.aload_n 0, 1) := by decide +kernel
theorem dX10_goOut_19 : decode cX10_goOut 19 = .ok (.getfield 11, 3) := by decide +kernel
theorem dX10_goOut_22 : decode cX10_goOut 22 = .ok (.aload_n 0, 1) := by decide +kernel
theorem dX10_goOut_23 : decode cX10_goOut 23 = .ok (.getfield 24, 3) := by decide +kernel
theorem dX10_goOut_26 : decode cX10_goOut 26 = .ok (.iaload, 1) := by decide +kernel
theorem dX10_goOut_27 : decode cX10_goOut 27 = .ok (.invokevirtual 100, 3) := by decide +kernel
theorem dX10_goOut_30 : decode cX10_goOut 30 = .ok (.return_, 1) := by decide +kernel
theorem dX10_readTest_0 : decode cX10_readTest 0 = .ok (.aload_n 1, 1) := by decide +kernel
theorem dX10_readTest_1 : decode cX10_readTest 1 = .ok (.invokevirtual 34, 3) := by decide +kernel
theorem dX10_readTest_4 : decode cX10_readTest 4 = .ok (.istore_n 3, 1) := by decide +kernel
theorem dX10_readTest_5 : decode cX10_readTest 5 = .ok (.iload_n 3, 1) := by decide +kernel
theorem dX10_readTest_6 : decode cX10_readTest 6 = .ok (.bipush 19, 2) := by decide +kernel
theorem dX10_readTest_8 : decode cX10_readTest 8 = .ok (.if_icmp .eq 20, 3) := by decide +kernel
theorem dX10_readTest_11 : decode cX10_readTest 11 = .ok (.iload_n 3, 1) := by decide +kernel
theorem dX10_readTest_12 : decode cX10_readTest 12 = .ok (.bipush 20, 2) := by decide +kernel
theorem dX10_readTest_14 : decode cX10_readTest 14 = .ok (.if_icmp .eq 14, 3) := by decide +kernel
theorem dX10_readTest_17 : decode cX10_readTest 17 = .ok (.iload_n 3, 1) := by decide +kernel
theorem dX10_readTest_18 : decode cX10_readTest 18 = .ok (.bipush 21, 2) := by decide +kernel
theorem dX10_readTest_20 : decode cX10_readTest 20 = .ok (.if_icmp .eq 8, 3) := by decide +kernel
theorem dX10_readTest_23 : decode cX10_readTest 23 = .ok (.aload_n 1, 1) := by decide +kernel
theorem dX10_readTest_24 : decode cX10_readTest 24 = .ok (.iconst 2, 1) := by decide +kernel
theorem dX10_readTest_25 : decode cX10_readTest 25 = .ok (.invokevirtual 52, 3) := by decide +kernel
theorem dX10_readTest_28 : decode cX10_readTest 28 = .ok (.aload_n 1, 1) := by decide +kernel
theorem dX10_readTest_29 : decode cX10_readTest 29 = .ok (.invokevirtual 68, 3) := by decide +kernel
theorem dX10_readTest_32 : decode cX10_readTest 32 = .ok (.iload_n 3, 1) := by decide +kernel
theorem dX10_readTest_33 : decode cX10_readTest 33 = .ok (.bipush 20, 2) := by decide +kernel
theorem dX10_readTest_35 : decode cX10_readTest 35 = .ok (.if_icmp .ne 11, 3) := by decide +kernel
theorem dX10_readTest_38 : decode cX10_readTest 38 = .ok (.aload_n 1, 1) := by decide +kernel
theorem dX10_readTest_39 : decode cX10_readTest 39 = .ok (.aload_n 2, 1) := by decide +kernel
theorem dX10_readTest_40 : decode cX10_readTest 40 = .ok (.invokevirtual 79, 3) := by decide +kernel
theorem dX10_readTest_43 : decode cX10_readTest 43 = .ok (.goto 8, 3) := by decide +kernel
theorem dX10_readTest_46 : decode cX10_readTest 46 = .ok (.aload_n 1, 1) := by decide +kernel
theorem dX10_readTest_47 : decode cX10_readTest 47 = .ok (.aload_n 2, 1) := by decide +kernel
theorem dX10_readTest_48 : decode cX10_readTest 48 = .ok (.invokevirtual 83, 3) := by decide +kernel
theorem dX10_readTest_51 : decode cX10_readTest 51 = .ok (.istore 4, 2) := by decide +kernel
theorem dX10_readTest_53 : decode cX10_readTest 53 = .ok (.iconst (-1), 1) := by decide +kernel
theorem dX10_readTest_54 : decode cX10_readTest 54 = .ok (.istore 5, 2) := by decide +kernel
theorem dX10_readTest_56 : decode cX10_readTest 56 = .ok (.iconst 0, 1) := by decide +kernel
theorem dX10_readTest_57 : decode cX10_readTest 57 = .ok (.istore 6, 2) := by decide +kernel
theorem dX10_readTest_59 : decode cX10_readTest 59 = .ok (.iload_n 3, 1) := by decide +kernel
theorem dX10_readTest_60 : decode cX10_readTest 60 = .ok (.bipush 21, 2) := by decide +kernel
theorem dX10_readTest_62 : decode cX10_readTest 62 = .ok (.if_icmp .ne 18, 3) := by decide +kernel
theorem dX10_readTest_65 : decode cX10_readTest 65 = .ok (.aload_n 1, 1) := by decide +kernel
theorem dX10_readTest_66 : decode cX10_readTest 66 = .ok (.invokevirtual 103, 3) := by decide +kernel
theorem dX10_readTest_69 : decode cX10_readTest 69 = .ok (.istore 5, 2) := by decide +kernel
theorem dX10_readTest_71 : decode cX10_readTest 71 = .ok (.aload_n 1, 1) := by decide +kernel
theorem dX10_readTest_72 : decode cX10_readTest 72 = .ok (.iconst 0, 1) := by decide +kernel
theorem dX10_readTest_73 : decode cX10_readTest 73 = .ok (.bipush 99, 2) := by decide +kernel
theorem dX10_readTest_75 : decode cX10_readTest 75 = .ok (.invokevirtual 71, 3) := by decide +kernel
theorem dX10_readTest_78 : decode cX10_readTest 78 = .ok (.istore 6, 2) := by decide +kernel
theorem dX10_readTest_80 : decode cX10_readTest 80 = .ok (.aload_n 0, 1) := by decide +kernel
theorem dX10_readTest_81 : decode cX10_readTest 81 = .ok (.iload_n 3, 1) := by decide +kernel
theorem dX10_readTest_82 : decode cX10_readTest 82 = .ok (.iload 4, 2) := by decide +kernel
theorem dX10_readTest_84 : decode cX10_readTest 84 = .ok (.iload 5, 2) := by decide +kernel
theorem dX10_readTest_86 : decode cX10_readTest 86 = .ok (.iload 6, 2) := by decide +kernel
theorem dX10_readTest_88 : decode cX10_readTest 88 = .ok (.invokevirtual 106, 3) := by decide +kernel
theorem dX10_readTest_91 : decode cX10_readTest 91 = .ok (.return_, 1) := by decide +kernel

theorem dX12_init_0 : decode cX12_init 0 = .ok (.aload_n 0, 1) := by decide +kernel
theorem dX12_init_1 : decode cX12_init 1 = .ok (.invokespecial 1, 3) := by decide +kernel
theorem dX12_init_4 : decode cX12_init 4 = .ok (.aload_n 0, 1) := by decide +kernel
theorem dX12_init_5 : decode cX12_init 5 = .ok (.lconst 1, 1) := by decide +kernel
theorem dX12_init_6 : decode cX12_init 6 = .ok (.putfield 7, 3) := by decide +kernel
theorem dX12_init_9 : decode cX12_init 9 = .ok (.aload_n 0, 1) := by decide +kernel
theorem dX12_init_10 : decode cX12_init 10 = .ok (.iconst 4, 1) := by decide +kernel
theorem dX12_init_11 : decode cX12_init 11 = .ok (.newarray .int, 2) := by decide +kernel
theorem dX12_init_13 : decode cX12_init 13 = .ok (.putfield 13, 3) := by decide +kernel
theorem dX12_init_16 : decode cX12_init 16 = .ok (.aload_n 0, 1) := by decide +kernel
theorem dX12_init_17 : decode cX12_init 17 = .ok (.iconst 4, 1) := by decide +kernel
theorem dX12_init_18 : decode cX12_init 18 = .ok (.newarray .int, 2) := by decide +kernel
theorem dX12_init_20 : decode cX12_init 20 = .ok (.putfield 17, 3) := by decide +kernel
theorem dX12_init_23 : decode cX12_init 23 = .ok (.aload_n 0, 1) := by decide +kernel
theorem dX12_init_24 : decode cX12_init 24 = .ok (.sipush 240, 3) := by decide +kernel
theorem dX12_init_27 : decode cX12_init 27 = .ok (.newarray .long, 2) := by decide +kernel
theorem dX12_init_29 : decode cX12_init 29 = .ok (.putfield 20, 3) := by decide +kernel
theorem dX12_init_32 : decode cX12_init 32 = .ok (.aload_n 0, 1) := by decide +kernel
theorem dX12_init_33 : decode cX12_init 33 = .ok (.sipush 900, 3) := by decide +kernel
theorem dX12_init_36 : decode cX12_init 36 = .ok (.newarray .byte, 2) := by decide +kernel
theorem dX12_init_38 : decode cX12_init 38 = .ok (.putfield 24, 3) := by decide +kernel
theorem dX12_init_41 : decode cX12_init 41 = .ok (.aload_n 0, 1) := by decide +kernel
theorem dX12_init_42 : decode cX12_init 42 = .ok (.iconst (-1), 1) := by decide +kernel
theorem dX12_init_43 : decode cX12_init 43 = .ok (.putfield 28, 3) := by decide +kernel
theorem dX12_init_46 : decode cX12_init 46 = .ok (.aload_n 0, 1) := by decide +kernel
theorem dX12_init_47 : decode cX12_init 47 = .ok (.iconst (-1), 1) := by decide +kernel
theorem dX12_init_48 : decode cX12_init 48 = .ok (.putfield 32, 3) := by decide +kernel
theorem dX12_init_51 : decode cX12_init 51 = .ok (.aload_n 0, 1) := by decide +kernel
theorem dX12_init_52 : decode cX12_init 52 = .ok (.sipush 1810, 3) := by decide +kernel
theorem dX12_init_55 : decode cX12_init 55 = .ok (.newarray .int, 2) := by decide +kernel
theorem dX12_init_57 : decode cX12_init 57 = .ok (.putfield 35, 3) := by decide +kernel
theorem dX12_init_60 : decode cX12_init 60 = .ok (.aload_n 0, 1) := by decide +kernel
theorem dX12_init_61 : decode cX12_init 61 = .ok (.bipush 90, 2) := by decide +kernel
theorem dX12_init_63 : decode cX12_init 63 = .ok (.newarray .int, 2) := by decide +kernel
theorem dX12_init_65 : decode cX12_init 65 = .ok (.putfield 38, 3) := by decide +kernel
theorem dX12_init_68 : decode cX12_init 68 = .ok (.aload_n 0, 1) := by decide +kernel
theorem dX12_init_69 : decode cX12_init 69 = .ok (.bipush 65, 2) := by decide +kernel
theorem dX12_init_71 : decode cX12_init 71 = .ok (.newarray .long, 2) := by decide +kernel
theorem dX12_init_73 : decode cX12_init 73 = .ok (.putfield 41, 3) := by decide +kernel
theorem dX12_init_76 : decode cX12_init 76 = .ok (.aload_n 0, 1) := by decide +kernel
theorem dX12_init_77 : decode cX12_init 77 = .ok (.bipush 6, 2) := by decide +kernel
theorem dX12_init_79 : decode cX12_init 79 = .ok (.newarray .int, 2) := by decide +kernel
theorem dX12_init_81 : decode cX12_init 81 = .ok (.putfield 44, 3) := by decide +kernel
theorem dX12_init_84 : decode cX12_init 84 = .ok (.aload_n 0, 1) := by decide +kernel
theorem dX12_init_85 : decode cX12_init 85 = .ok (.bipush 6, 2) := by decide +kernel
theorem dX12_init_87 : decode cX12_init 87 = .ok (.newarray .int, 2) := by decide +kernel
theorem dX12_init_89 : decode cX12_init 89 = .ok (.putfield 47, 3) := by decide +kernel
theorem dX12_init_92 : decode cX12_init 92 = .ok (.aload_n 0, 1) := by decide +kernel
theorem dX12_init_93 : decode cX12_init 93 = .ok (.bipush 6, 2) := by decide +kernel
theorem dX12_init_95 : decode cX12_init 95 = .ok (.newarray .int, 2) := by decide +kernel
theorem dX12_init_97 : decode cX12_init 97 = .ok (.putfield 50, 3) := by decide +kernel
theorem dX12_init_100 : decode cX12_init 100 = .ok (.aload_n 0, 1) := by decide +kernel
theorem dX12_init_101 : decode cX12_init 101 = .ok (.bipush 7, 2) := by decide +kernel
theorem dX12_init_103 : decode cX12_init 103 = .ok (.newarray .int, 2) := by decide +kernel
theorem dX12_init_105 : decode cX12_init 105 = .ok (.putfield 53, 3) := by decide +kernel
theorem dX12_init_108 : decode cX12_init 108 = .ok (.aload_n 0, 1) := by decide +kernel
theorem dX12_init_109 : decode cX12_init 109 = .ok (.bipush 7, 2) := by decide +kernel
theorem dX12_init_111 : decode cX12_init 111 = .ok (.newarray .int, 2) := by decide +kernel
theorem dX12_init_113 : decode cX12_init 113 = .ok (.putfield 56, 3) := by decide +kernel
theorem dX12_init_116 : decode cX12_init 116 = .ok (.aload_n 0, 1) := by decide +kernel
theorem dX12_init_117 : decode cX12_init 117 = .ok (.sipush 246, 3) := by decide +kernel
theorem dX12_init_120 : decode cX12_init 120 = .ok (.newarray .int, 2) := by decide +kernel
theorem dX12_init_122 : decode cX12_init 122 = .ok (.putfield 59, 3) := by decide +kernel
theorem dX12_init_125 : decode cX12_init 125 = .ok (.aload_n 0, 1) := by decide +kernel
theorem dX12_init_126 : decode cX12_init 126 = .ok (.iconst 5, 1) := by decide +kernel
theorem dX12_init_127 : decode cX12_init 127 = .ok (.newarray .int, 2) := by decide +kernel
theorem dX12_init_129 : decode cX12_init 129 = .ok (.putfield 62, 3) := by decide +kernel
theorem dX12_init_132 : decode cX12_init 132 = .ok (.iconst 0, 1) := by decide +kernel
theorem dX12_init_133 : decode cX12_init 133 = .ok (.istore_n 1, 1) := by decide +kernel
theorem dX12_init_134 : decode cX12_init 134 = .ok (.iload_n 1, 1) := by decide +kernel
theorem dX12_init_135 : decode cX12_init 135 = .ok (.iconst 4, 1) := by decide +kernel
theorem dX12_init_136 : decode cX12_init 136 = .ok (.if_icmp .ge 16, 3) := by decide +kernel
theorem dX12_init_139 : decode cX12_init 139 = .ok (.aload_n 0, 1) := by decide +kernel
theorem dX12_init_140 : decode cX12_init 140 = .ok (.getfield 17, 3) := by decide +kernel
theorem dX12_init_143 : decode cX12_init 143 = .ok (.iload_n 1, 1) := by decide +kernel
theorem dX12_init_144 : decode cX12_init 144 = .ok (.iconst (-1), 1) := by decide +kernel
theorem dX12_init_145 : decode cX12_init 145 = .ok (.iastore, 1) := by decide +kernel
theorem dX12_init_146 : decode cX12_init 146 = .ok (.iinc 1 1, 3) := by decide +kernel
theorem dX12_init_149 : decode cX12_init 149 = .ok (.goto (-15), 3) := by decide +kernel
theorem dX12_init_152 : decode cX12_init 152 = .ok (.aload_n 0, 1) := by decide +kernel
theorem dX12_init_153 : decode cX12_init 153 = .ok (.iconst 0, 1) := by decide +kernel
theorem dX12_init_154 : decode cX12_init 154 = .ok (.invokevirtual 65, 3) := by decide +kernel
theorem dX12_init_157 : decode cX12_init 157 = .ok (.return_, 1) := by decide +kernel
theorem dX12_status_0 : decode cX12_status 0 = .ok (.aload_n 0, 1) := by decide +kernel
theorem dX12_status_1 : decode cX12_status 1 = .ok (.iconst 0, 1) := by decide +kernel
theorem dX12_status_2 : decode cX12_status 2 = .ok (.putfield 69, 3) := by decide +kernel
theorem dX12_status_5 : decode cX12_status 5 = .ok (.aload_n 0, 1) := by decide +kernel
theorem dX12_status_6 : decode cX12_status 6 = .ok (.getfield 72, 3) := by decide +kernel
theorem dX12_status_9 : decode cX12_status 9 = .ok (.ireturn, 1) := by decide +kernel
theorem dX12_top_0 : decode cX12_top 0 = .ok (.aload_n 0, 1) := by decide +kernel
theorem dX12_top_1 : decode cX12_top 1 = .ok (.iconst 0, 1) := by decide +kernel
theorem dX12_top_2 : decode cX12_top 2 = .ok (.putfield 69, 3) := by decide +kernel
theorem dX12_top_5 : decode cX12_top 5 = .ok (.aload_n 0, 1) := by decide +kernel
theorem dX12_top_6 : decode cX12_top 6 = .ok (.getfield 75, 3) := by decide +kernel
theorem dX12_top_9 : decode cX12_top 9 = .ok (.lreturn, 1) := by decide +kernel
theorem dX12_bottom_0 : decode cX12_bottom 0 = .ok (.aload_n 0, 1) := by decide +kernel
theorem dX12_bottom_1 : decode cX12_bottom 1 = .ok (.iconst 0, 1) := by decide +kernel
theorem dX12_bottom_2 : decode cX12_bottom 2 = .ok (.putfield 69, 3) := by decide +kernel
theorem dX12_bottom_5 : decode cX12_bottom 5 = .ok (.aload_n 0, 1) := by decide +kernel
theorem dX12_bottom_6 : decode cX12_bottom 6 = .ok (.getfield 7, 3) := by decide +kernel
theorem dX12_bottom_9 : decode cX12_bottom 9 = .ok (.lreturn, 1) := by decide +kernel
theorem dX12_refuse_0 : decode cX12_refuse 0 = .ok (.aload_n 0, 1) := by decide +kernel
theorem dX12_refuse_1 : decode cX12_refuse 1 = .ok (.iload_n 1, 1) := by decide +kernel
theorem dX12_refuse_2 : decode cX12_refuse 2 = .ok (.putfield 72, 3) := by decide +kernel
theorem dX12_refuse_5 : decode cX12_refuse 5 = .ok (.iconst (-1), 1) := by decide +kernel
theorem dX12_refuse_6 : decode cX12_refuse 6 = .ok (.ireturn, 1) := by decide +kernel
theorem dX12_no_0 : decode cX12_no 0 = .ok (.aload_n 0, 1) := by decide +kernel
theorem dX12_no_1 : decode cX12_no 1 = .ok (.iload_n 1, 1) := by decide +kernel
theorem dX12_no_2 : decode cX12_no 2 = .ok (.putfield 72, 3) := by decide +kernel
theorem dX12_no_5 : decode cX12_no 5 = .ok (.iconst 0, 1) := by decide +kernel
theorem dX12_no_6 : decode cX12_no 6 = .ok (.ireturn, 1) := by decide +kernel
theorem dX12_isIn_0 : decode cX12_isIn 0 = .ok (.lload_n 0, 1) := by decide +kernel
theorem dX12_isIn_1 : decode cX12_isIn 1 = .ok (.lload_n 2, 1) := by decide +kernel
theorem dX12_isIn_2 : decode cX12_isIn 2 = .ok (.lcmp, 1) := by decide +kernel
theorem dX12_isIn_3 : decode cX12_isIn 3 = .ok (.ifCond .lt 14, 3) := by decide +kernel
theorem dX12_isIn_6 : decode cX12_isIn 6 = .ok (.lload_n 0, 1) := by decide +kernel
theorem dX12_isIn_7 : decode cX12_isIn 7 = .ok (.lload 4, 2) := by decide +kernel
theorem dX12_isIn_9 : decode cX12_isIn 9 = .ok (.lcmp, 1) := by decide +kernel
theorem dX12_isIn_10 : decode cX12_isIn 10 = .ok (.ifCond .gt 7, 3) := by decide +kernel
theorem dX12_isIn_13 : decode cX12_isIn 13 = .ok (.iconst 1, 1) := by decide +kernel
theorem dX12_isIn_14 : decode cX12_isIn 14 = .ok (.goto 4, 3) := by decide +kernel
theorem dX12_isIn_17 : decode cX12_isIn 17 = .ok (.iconst 0, 1) := by decide +kernel
theorem dX12_isIn_18 : decode cX12_isIn 18 = .ok (.ireturn, 1) := by decide +kernel
theorem dX12_fraction_0 : decode cX12_fraction 0 = .ok (.lload_n 1, 1) := by decide +kernel
theorem dX12_fraction_1 : decode cX12_fraction 1 = .ok (.invokestatic 78, 3) := by decide +kernel
theorem dX12_fraction_4 : decode cX12_fraction 4 = .ok (.lstore 5, 2) := by decide +kernel
theorem dX12_fraction_6 : decode cX12_fraction 6 = .ok (.lload_n 3, 1) := by decide +kernel
theorem dX12_fraction_7 : decode cX12_fraction 7 = .ok (.lstore 7, 2) := by decide +kernel
theorem dX12_fraction_9 : decode cX12_fraction 9 = .ok (.lload 7, 2) := by decide +kernel
theorem dX12_fraction_11 : decode cX12_fraction 11 = .ok (.lconst 0, 1) := by decide +kernel
theorem dX12_fraction_12 : decode cX12_fraction 12 = .ok (.lcmp, 1) := by decide +kernel
theorem dX12_fraction_13 : decode cX12_fraction 13 = .ok (.ifCond .eq 21, 3) := by decide +kernel
theorem dX12_fraction_16 : decode cX12_fraction 16 = .ok (.lload 5, 2) := by decide +kernel
theorem dX12_fraction_18 : decode cX12_fraction 18 = .ok (.lload 7, 2) := by decide +kernel
theorem dX12_fraction_20 : decode cX12_fraction 20 = .ok (.lrem, 1) := by decide +kernel
theorem dX12_fraction_21 : decode cX12_fraction 21 = .ok (.lstore 9, 2) := by decide +kernel
theorem dX12_fraction_23 : decode cX12_fraction 23 = .ok (.lload 7, 2) := by decide +kernel
theorem dX12_fraction_25 : decode cX12_fraction 25 = .ok (.lstore 5, 2) := by decide +kernel
theorem dX12_fraction_27 : decode cX12_fraction 27 = .ok (.lload 9, 2) := by decide +kernel
theorem dX12_fraction_29 : decode cX12_fraction 29 = .ok (.lstore 7, 2) := by decide +kernel
theorem dX12_fraction_31 : decode cX12_fraction 31 = .ok (.goto (-22), 3) := by decide +kernel
theorem dX12_fraction_34 : decode cX12_fraction 34 = .ok (.aload_n 0, 1) := by decide +kernel
theorem dX12_fraction_35 : decode cX12_fraction 35 = .ok (.lload_n 1, 1) := by decide +kernel
theorem dX12_fraction_36 : decode cX12_fraction 36 = .ok (.lload 5, 2) := by decide +kernel
theorem dX12_fraction_38 : decode cX12_fraction 38 = .ok (.ldiv, 1) := by decide +kernel
theorem dX12_fraction_39 : decode cX12_fraction 39 = .ok (.putfield 75, 3) := by decide +kernel
theorem dX12_fraction_42 : decode cX12_fraction 42 = .ok (.aload_n 0, 1) := by decide +kernel
theorem dX12_fraction_43 : decode cX12_fraction 43 = .ok (.lload_n 3, 1) := by decide +kernel
theorem dX12_fraction_44 : decode cX12_fraction 44 = .ok (.lload 5, 2) := by decide +kernel
theorem dX12_fraction_46 : decode cX12_fraction 46 = .ok (.ldiv, 1) := by decide +kernel
theorem dX12_fraction_47 : decode cX12_fraction 47 = .ok (.putfield 7, 3) := by decide +kernel
theorem dX12_fraction_50 : decode cX12_fraction 50 = .ok (.iconst 1, 1) := by decide +kernel
theorem dX12_fraction_51 : decode cX12_fraction 51 = .ok (.ireturn, 1) := by decide +kernel
theorem dX12_cut_0 : decode cX12_cut 0 = .ok (.iload_n 0, 1) := by decide +kernel
theorem dX12_cut_1 : decode cX12_cut 1 = .ok (.ifCond .ne 10, 3) := by decide +kernel
theorem dX12_cut_4 : decode cX12_cut 4 = .ok (.lload_n 1, 1) := by decide +kernel
theorem dX12_cut_5 : decode cX12_cut 5 = .ok (.l2i, 1) := by decide +kernel
theorem dX12_cut_6 : decode cX12_cut 6 = .ok (.i2b, 1) := by decide +kernel
theorem dX12_cut_7 : decode cX12_cut 7 = .ok (.i2l, 1) := by decide +kernel
theorem dX12_cut_8 : decode cX12_cut 8 = .ok (.goto 27, 3) := by decide +kernel
theorem dX12_cut_11 : decode cX12_cut 11 = .ok (.iload_n 0, 1) := by decide +kernel
theorem dX12_cut_12 : decode cX12_cut 12 = .ok (.iconst 1, 1) := by decide +kernel
theorem dX12_cut_13 : decode cX12_cut 13 = .ok (.if_icmp .ne 10, 3) := by decide +kernel
theorem dX12_cut_16 : decode cX12_cut 16 = .ok (.lload_n 1, 1) := by decide +kernel
theorem dX12_cut_17 : decode cX12_cut 17 = .ok (.l2i, 1) := by decide +kernel
theorem dX12_cut_18 : decode cX12_cut 18 = .ok (.i2s, 1) := by decide +kernel
theorem dX12_cut_19 : decode cX12_cut 19 = .ok (.i2l, 1) := by decide +kernel
theorem dX12_cut_20 : decode cX12_cut 20 = .ok (.goto 15, 3) := by decide +kernel
theorem dX12_cut_23 : decode cX12_cut 23 = .ok (.iload_n 0, 1) := by decide +kernel
theorem dX12_cut_24 : decode cX12_cut 24 = .ok (.iconst 2, 1) := by decide +kernel
theorem dX12_cut_25 : decode cX12_cut 25 = .ok (.if_icmp .ne 9, 3) := by decide +kernel
theorem dX12_cut_28 : decode cX12_cut 28 = .ok (.lload_n 1, 1) := by decide +kernel
theorem dX12_cut_29 : decode cX12_cut 29 = .ok (.l2i, 1) := by decide +kernel
theorem dX12_cut_30 : decode cX12_cut 30 = .ok (.i2l, 1) := by decide +kernel
theorem dX12_cut_31 : decode cX12_cut 31 = .ok (.goto 4, 3) := by decide +kernel
theorem dX12_cut_34 : decode cX12_cut 34 = .ok (.lload_n 1, 1) := by decide +kernel
theorem dX12_cut_35 : decode cX12_cut 35 = .ok (.lreturn, 1) := by decide +kernel
theorem dX12_tray_0 : decode cX12_tray 0 = .ok (.aload_n 0, 1) := by decide +kernel
theorem dX12_tray_1 : decode cX12_tray 1 = .ok (.iconst 0, 1) := by decide +kernel
theorem dX12_tray_2 : decode cX12_tray 2 = .ok (.putfield 69, 3) := by decide +kernel
theorem dX12_tray_5 : decode cX12_tray 5 = .ok (.aload_n 0, 1) := by decide +kernel
theorem dX12_tray_6 : decode cX12_tray 6 = .ok (.iconst 0, 1) := by decide +kernel
theorem dX12_tray_7 : decode cX12_tray 7 = .ok (.putfield 72, 3) := by decide +kernel
theorem dX12_tray_10 : decode cX12_tray 10 = .ok (.iload_n 1, 1) := by decide +kernel
theorem dX12_tray_11 : decode cX12_tray 11 = .ok (.ifCond .lt 17, 3) := by decide +kernel
theorem dX12_tray_14 : decode cX12_tray 14 = .ok (.iload_n 1, 1) := by decide +kernel
theorem dX12_tray_15 : decode cX12_tray 15 = .ok (.iconst 4, 1) := by decide +kernel
theorem dX12_tray_16 : decode cX12_tray 16 = .ok (.if_icmp .ge 12, 3) := by decide +kernel
theorem dX12_tray_19 : decode cX12_tray 19 = .ok (.iload_n 2, 1) := by decide +kernel
theorem dX12_tray_20 : decode cX12_tray 20 = .ok (.ifCond .lt 8, 3) := by decide +kernel
theorem dX12_tray_23 : decode cX12_tray 23 = .ok (.iload_n 2, 1) := by decide +kernel
theorem dX12_tray_24 : decode cX12_tray 24 = .ok (.iconst 3, 1) := by decide +kernel
theorem dX12_tray_25 : decode cX12_tray 25 = .ok (.if_icmp .le 9, 3) := by decide +kernel
theorem dX12_tray_28 : decode cX12_tray 28 = .ok (.aload_n 0, 1) := by decide +kernel
theorem dX12_tray_29 : decode cX12_tray 29 = .ok (.iconst 1, 1) := by decide +kernel
theorem dX12_tray_30 : decode cX12_tray 30 = .ok (.invokevirtual 84, 3) := by decide +kernel
theorem dX12_tray_33 : decode cX12_tray 33 = .ok (.ireturn, 1) := by decide +kernel
theorem dX12_tray_34 : decode cX12_tray 34 = .ok (.iload_n 3, 1) := by decide +kernel
theorem dX12_tray_35 : decode cX12_tray 35 = .ok (.bipush 60, 2) := by decide +kernel
theorem dX12_tray_37 : decode cX12_tray 37 = .ok (.if_icmp .le 9, 3) := by decide +kernel
theorem dX12_tray_40 : decode cX12_tray 40 = .ok (.aload_n 0, 1) := by decide +kernel
theorem dX12_tray_41 : decode cX12_tray 41 = .ok (.iconst 5, 1) := by decide +kernel
theorem dX12_tray_42 : decode cX12_tray 42 = .ok (.invokevirtual 84, 3) := by decide +kernel
theorem dX12_tray_45 : decode cX12_tray 45 = .ok (.ireturn, 1) := by decide +kernel
theorem dX12_tray_46 : decode cX12_tray 46 = .ok (.iload_n 3, 1) := by decide +kernel
theorem dX12_tray_47 : decode cX12_tray 47 = .ok (.ifCond .ge 10, 3) := by decide +kernel
theorem dX12_tray_50 : decode cX12_tray 50 = .ok (.aload_n 0, 1) := by decide +kernel
theorem dX12_tray_51 : decode cX12_tray 51 = .ok (.bipush 6, 2) := by decide +kernel
theorem dX12_tray_53 : decode cX12_tray 53 = .ok (.invokevirtual 84, 3) := by decide +kernel
theorem dX12_tray_56 : decode cX12_tray 56 = .ok (.ireturn, 1) := by decide +kernel
theorem dX12_tray_57 : decode cX12_tray 57 = .ok (.aload_n 0, 1) := by decide +kernel
theorem dX12_tray_58 : decode cX12_tray 58 = .ok (.getfield 13, 3) := by decide +kernel
theorem dX12_tray_61 : decode cX12_tray 61 = .ok (.iload_n 1, 1) := by decide +kernel
theorem dX12_tray_62 : decode cX12_tray 62 = .ok (.iload_n 2, 1) := by decide +kernel
theorem dX12_tray_63 : decode cX12_tray 63 = .ok (.iastore, 1) := by decide +kernel
theorem dX12_tray_64 : decode cX12_tray 64 = .ok (.aload_n 0, 1) := by decide +kernel
theorem dX12_tray_65 : decode cX12_tray 65 = .ok (.getfield 17, 3) := by decide +kernel
theorem dX12_tray_68 : decode cX12_tray 68 = .ok (.iload_n 1, 1) := by decide +kernel
theorem dX12_tray_69 : decode cX12_tray 69 = .ok (.iload_n 3, 1) := by decide +kernel
theorem dX12_tray_70 : decode cX12_tray 70 = .ok (.iastore, 1) := by decide +kernel
theorem dX12_tray_71 : decode cX12_tray 71 = .ok (.iconst 0, 1) := by decide +kernel
theorem dX12_tray_72 : decode cX12_tray 72 = .ok (.istore 4, 2) := by decide +kernel
theorem dX12_tray_74 : decode cX12_tray 74 = .ok (.iload 4, 2) := by decide +kernel
theorem dX12_tray_76 : decode cX12_tray 76 = .ok (.iload_n 3, 1) := by decide +kernel
theorem dX12_tray_77 : decode cX12_tray 77 = .ok (.if_icmp .ge 22, 3) := by decide +kernel
theorem dX12_tray_80 : decode cX12_tray 80 = .ok (.aload_n 0, 1) := by decide +kernel
theorem dX12_tray_81 : decode cX12_tray 81 = .ok (.getfield 20, 3) := by decide +kernel
theorem dX12_tray_84 : decode cX12_tray 84 = .ok (.bipush 60, 2) := by decide +kernel
theorem dX12_tray_86 : decode cX12_tray 86 = .ok (.iload_n 1, 1) := by decide +kernel
theorem dX12_tray_87 : decode cX12_tray 87 = .ok (.imul, 1) := by decide +kernel
theorem dX12_tray_88 : decode cX12_tray 88 = .ok (.iload 4, 2) := by decide +kernel
theorem dX12_tray_90 : decode cX12_tray 90 = .ok (.iadd, 1) := by decide +kernel
theorem dX12_tray_91 : decode cX12_tray 91 = .ok (.lconst 0, 1) := by decide +kernel
theorem dX12_tray_92 : decode cX12_tray 92 = .ok (.lastore, 1) := by decide +kernel
theorem dX12_tray_93 : decode cX12_tray 93 = .ok (.iinc 4 1, 3) := by decide +kernel
theorem dX12_tray_96 : decode cX12_tray 96 = .ok (.goto (-22), 3) := by decide +kernel
theorem dX12_tray_99 : decode cX12_tray 99 = .ok (.iconst 1, 1) := by decide +kernel
theorem dX12_tray_100 : decode cX12_tray 100 = .ok (.ireturn, 1) := by decide +kernel
theorem dX12_trayed_0 : decode cX12_trayed 0 = .ok (.iload_n 1, 1) := by decide +kernel
theorem dX12_trayed_1 : decode cX12_trayed 1 = .ok (.ifCond .lt 8, 3) := by decide +kernel
theorem dX12_trayed_4 : decode cX12_trayed 4 = .ok (.iload_n 1, 1) := by decide +kernel
theorem dX12_trayed_5 : decode cX12_trayed 5 = .ok (.iconst 4, 1) := by decide +kernel
theorem dX12_trayed_6 : decode cX12_trayed 6 = .ok (.if_icmp .lt 7, 3) := by decide +kernel
theorem dX12_trayed_9 : decode cX12_trayed 9 = .ok (.iconst 1, 1) := by decide +kernel
theorem dX12_trayed_10 : decode cX12_trayed 10 = .ok (.goto 17, 3) := by decide +kernel
theorem dX12_trayed_13 : decode cX12_trayed 13 = .ok (.aload_n 0, 1) := by decide +kernel
theorem dX12_trayed_14 : decode cX12_trayed 14 = .ok (.getfield 17, 3) := by decide +kernel
theorem dX12_trayed_17 : decode cX12_trayed 17 = .ok (.iload_n 1, 1) := by decide +kernel
theorem dX12_trayed_18 : decode cX12_trayed 18 = .ok (.iaload, 1) := by decide +kernel
theorem dX12_trayed_19 : decode cX12_trayed 19 = .ok (.ifCond .ge 7, 3) := by decide +kernel
theorem dX12_trayed_22 : decode cX12_trayed 22 = .ok (.iconst 3, 1) := by decide +kernel
theorem dX12_trayed_23 : decode cX12_trayed 23 = .ok (.goto 4, 3) := by decide +kernel
theorem dX12_trayed_26 : decode cX12_trayed 26 = .ok (.iconst 0, 1) := by decide +kernel
theorem dX12_trayed_27 : decode cX12_trayed 27 = .ok (.ireturn, 1) := by decide +kernel
theorem dX12_placed_0 : decode cX12_placed 0 = .ok (.aload_n 0, 1) := by decide +kernel
theorem dX12_placed_1 : decode cX12_placed 1 = .ok (.iload_n 1, 1) := by decide +kernel
theorem dX12_placed_2 : decode cX12_placed 2 = .ok (.invokevirtual 88, 3) := by decide +kernel
theorem dX12_placed_5 : decode cX12_placed 5 = .ok (.istore_n 3, 1) := by decide +kernel
theorem dX12_placed_6 : decode cX12_placed 6 = .ok (.iload_n 3, 1) := by decide +kernel
theorem dX12_placed_7 : decode cX12_placed 7 = .ok (.ifCond .le 7, 3) := by decide +kernel
theorem dX12_placed_10 : decode cX12_placed 10 = .ok (.iload_n 3, 1) := by decide +kernel
theorem dX12_placed_11 : decode cX12_placed 11 = .ok (.goto 22, 3) := by decide +kernel
theorem dX12_placed_14 : decode cX12_placed 14 = .ok (.iload_n 2, 1) := by decide +kernel
theorem dX12_placed_15 : decode cX12_placed 15 = .ok (.ifCond .lt 13, 3) := by decide +kernel
theorem dX12_placed_18 : decode cX12_placed 18 = .ok (.iload_n 2, 1) := by decide +kernel
theorem dX12_placed_19 : decode cX12_placed 19 = .ok (.aload_n 0, 1) := by decide +kernel
theorem dX12_placed_20 : decode cX12_placed 20 = .ok (.getfield 17, 3) := by decide +kernel
theorem dX12_placed_23 : decode cX12_placed 23 = .ok (.iload_n 1, 1) := by decide +kernel
theorem dX12_placed_24 : decode cX12_placed 24 = .ok (.iaload, 1) := by decide +kernel
theorem dX12_placed_25 : decode cX12_placed 25 = .ok (.if_icmp .lt 7, 3) := by decide +kernel
theorem dX12_placed_28 : decode cX12_placed 28 = .ok (.iconst 4, 1) := by decide +kernel
theorem dX12_placed_29 : decode cX12_placed 29 = .ok (.goto 4, 3) := by decide +kernel
theorem dX12_placed_32 : decode cX12_placed 32 = .ok (.iconst 0, 1) := by decide +kernel
theorem dX12_placed_33 : decode cX12_placed 33 = .ok (.ireturn, 1) := by decide +kernel
theorem dX12_write_0 : decode cX12_write 0 = .ok (.aload_n 0, 1) := by decide +kernel
theorem dX12_write_1 : decode cX12_write 1 = .ok (.iconst 0, 1) := by decide +kernel
theorem dX12_write_2 : decode cX12_write 2 = .ok (.putfield 69, 3) := by decide +kernel
theorem dX12_write_5 : decode cX12_write 5 = .ok (.aload_n 0, 1) := by decide +kernel
theorem dX12_write_6 : decode cX12_write 6 = .ok (.aload_n 0, 1) := by decide +kernel
theorem dX12_write_7 : decode cX12_write 7 = .ok (.iload_n 1, 1) := by decide +kernel
theorem dX12_write_8 : decode cX12_write 8 = .ok (.iload_n 2, 1) := by decide +kernel
theorem dX12_write_9 : decode cX12_write 9 = .ok (.invokevirtual 92, 3) := by decide +kernel
theorem dX12_write_12 : decode cX12_write 12 = .ok (.putfield 72, 3) := by decide +kernel
theorem dX12_write_15 : decode cX12_write 15 = .ok (.aload_n 0, 1) := by decide +kernel
theorem dX12_write_16 : decode cX12_write 16 = .ok (.getfield 72, 3) := by decide +kernel
theorem dX12_write_19 : decode cX12_write 19 = .ok (.ifCond .le 5, 3) := by decide +kernel
theorem dX12_write_22 : decode cX12_write 22 = .ok (.iconst 0, 1) := by decide +kernel
theorem dX12_write_23 : decode cX12_write 23 = .ok (.ireturn, 1) := by decide +kernel
theorem dX12_write_24 : decode cX12_write 24 = .ok (.aload_n 0, 1) := by decide +kernel
theorem dX12_write_25 : decode cX12_write 25 = .ok (.getfield 20, 3) := by decide +kernel
theorem dX12_write_28 : decode cX12_write 28 = .ok (.bipush 60, 2) := by decide +kernel
theorem dX12_write_30 : decode cX12_write 30 = .ok (.iload_n 1, 1) := by decide +kernel
theorem dX12_write_31 : decode cX12_write 31 = .ok (.imul, 1) := by decide +kernel
theorem dX12_write_32 : decode cX12_write 32 = .ok (.iload_n 2, 1) := by decide +kernel
theorem dX12_write_33 : decode cX12_write 33 = .ok (.iadd, 1) := by decide +kernel
theorem dX12_write_34 : decode cX12_write 34 = .ok (.aload_n 0, 1) := by decide +kernel
theorem dX12_write_35 : decode cX12_write 35 = .ok (.getfield 13, 3) := by decide +kernel
theorem dX12_write_38 : decode cX12_write 38 = .ok (.iload_n 1, 1) := by decide +kernel
theorem dX12_write_39 : decode cX12_write 39 = .ok (.iaload, 1) := by decide +kernel
theorem dX12_write_40 : decode cX12_write 40 = .ok (.lload_n 3, 1) := by decide +kernel
theorem dX12_write_41 : decode cX12_write 41 = .ok (.invokestatic 96, 3) := by decide +kernel
theorem dX12_write_44 : decode cX12_write 44 = .ok (.lastore, 1) := by decide +kernel
theorem dX12_write_45 : decode cX12_write 45 = .ok (.iconst 1, 1) := by decide +kernel
theorem dX12_write_46 : decode cX12_write 46 = .ok (.ireturn, 1) := by decide +kernel
theorem dX12_read_0 : decode cX12_read 0 = .ok (.aload_n 0, 1) := by decide +kernel
theorem dX12_read_1 : decode cX12_read 1 = .ok (.iconst 0, 1) := by decide +kernel
theorem dX12_read_2 : decode cX12_read 2 = .ok (.putfield 69, 3) := by decide +kernel
theorem dX12_read_5 : decode cX12_read 5 = .ok (.aload_n 0, 1) := by decide +kernel
theorem dX12_read_6 : decode cX12_read 6 = .ok (.aload_n 0, 1) := by decide +kernel
theorem dX12_read_7 : decode cX12_read 7 = .ok (.iload_n 1, 1) := by decide +kernel
theorem dX12_read_8 : decode cX12_read 8 = .ok (.iload_n 2, 1) := by decide +kernel
theorem dX12_read_9 : decode cX12_read 9 = .ok (.invokevirtual 92, 3) := by decide +kernel
theorem dX12_read_12 : decode cX12_read 12 = .ok (.putfield 72, 3) := by decide +kernel
theorem dX12_read_15 : decode cX12_read 15 = .ok (.aload_n 0, 1) := by decide +kernel
theorem dX12_read_16 : decode cX12_read 16 = .ok (.getfield 72, 3) := by decide +kernel
theorem dX12_read_19 : decode cX12_read 19 = .ok (.ifCond .le 9, 3) := by decide +kernel
theorem dX12_read_22 : decode cX12_read 22 = .ok (.ldc2_w 100, 3) := by decide +kernel
theorem dX12_read_25 : decode cX12_read 25 = .ok (.goto 14, 3) := by decide +kernel
theorem dX12_read_28 : decode cX12_read 28 = .ok (.aload_n 0, 1) := by decide +kernel
theorem dX12_read_29 : decode cX12_read 29 = .ok (.getfield 20, 3) := by decide +kernel
theorem dX12_read_32 : decode cX12_read 32 = .ok (.bipush 60, 2) := by decide +kernel
theorem dX12_read_34 : decode cX12_read 34 = .ok (.iload_n 1, 1) := by decide +kernel
theorem dX12_read_35 : decode cX12_read 35 = .ok (.imul, 1) := by decide +kernel
theorem dX12_read_36 : decode cX12_read 36 = .ok (.iload_n 2, 1) := by decide +kernel
theorem dX12_read_37 : decode cX12_read 37 = .ok (.iadd, 1) := by decide +kernel
theorem dX12_read_38 : decode cX12_read 38 = .ok (.laload, 1) := by decide +kernel
theorem dX12_read_39 : decode cX12_read 39 = .ok (.lreturn, 1) := by decide +kernel
theorem dX12_pour_0 : decode cX12_pour 0 = .ok (.aload_n 0, 1) := by decide +kernel
theorem dX12_pour_1 : decode cX12_pour 1 = .ok (.iconst 0, 1) := by decide +kernel
theorem dX12_pour_2 : decode cX12_pour 2 = .ok (.putfield 69, 3) := by decide +kernel
theorem dX12_pour_5 : decode cX12_pour 5 = .ok (.aload_n 0, 1) := by decide +kernel
theorem dX12_pour_6 : decode cX12_pour 6 = .ok (.iconst 0, 1) := by decide +kernel
theorem dX12_pour_7 : decode cX12_pour 7 = .ok (.putfield 72, 3) := by decide +kernel
theorem dX12_pour_10 : decode cX12_pour 10 = .ok (.iload_n 1, 1) := by decide +kernel
theorem dX12_pour_11 : decode cX12_pour 11 = .ok (.ifCond .lt 17, 3) := by decide +kernel
theorem dX12_pour_14 : decode cX12_pour 14 = .ok (.iload_n 1, 1) := by decide +kernel
theorem dX12_pour_15 : decode cX12_pour 15 = .ok (.iconst 4, 1) := by decide +kernel
theorem dX12_pour_16 : decode cX12_pour 16 = .ok (.if_icmp .ge 12, 3) := by decide +kernel
theorem dX12_pour_19 : decode cX12_pour 19 = .ok (.iload_n 3, 1) := by decide +kernel
theorem dX12_pour_20 : decode cX12_pour 20 = .ok (.ifCond .lt 8, 3) := by decide +kernel
theorem dX12_pour_23 : decode cX12_pour 23 = .ok (.iload_n 3, 1) := by decide +kernel
theorem dX12_pour_24 : decode cX12_pour 24 = .ok (.iconst 4, 1) := by decide +kernel
theorem dX12_pour_25 : decode cX12_pour 25 = .ok (.if_icmp .lt 9, 3) := by decide +kernel
theorem dX12_pour_28 : decode cX12_pour 28 = .ok (.aload_n 0, 1) := by decide +kernel
theorem dX12_pour_29 : decode cX12_pour 29 = .ok (.iconst 1, 1) := by decide +kernel
theorem dX12_pour_30 : decode cX12_pour 30 = .ok (.invokevirtual 84, 3) := by decide +kernel
theorem dX12_pour_33 : decode cX12_pour 33 = .ok (.ireturn, 1) := by decide +kernel
theorem dX12_pour_34 : decode cX12_pour 34 = .ok (.aload_n 0, 1) := by decide +kernel
theorem dX12_pour_35 : decode cX12_pour 35 = .ok (.getfield 17, 3) := by decide +kernel
theorem dX12_pour_38 : decode cX12_pour 38 = .ok (.iload_n 1, 1) := by decide +kernel
theorem dX12_pour_39 : decode cX12_pour 39 = .ok (.iaload, 1) := by decide +kernel
theorem dX12_pour_40 : decode cX12_pour 40 = .ok (.ifCond .lt 12, 3) := by decide +kernel
theorem dX12_pour_43 : decode cX12_pour 43 = .ok (.aload_n 0, 1) := by decide +kernel
theorem dX12_pour_44 : decode cX12_pour 44 = .ok (.getfield 17, 3) := by decide +kernel
theorem dX12_pour_47 : decode cX12_pour 47 = .ok (.iload_n 3, 1) := by decide +kernel
theorem dX12_pour_48 : decode cX12_pour 48 = .ok (.iaload, 1) := by decide +kernel
theorem dX12_pour_49 : decode cX12_pour 49 = .ok (.ifCond .ge 9, 3) := by decide +kernel
theorem dX12_pour_52 : decode cX12_pour 52 = .ok (.aload_n 0, 1) := by decide +kernel
theorem dX12_pour_53 : decode cX12_pour 53 = .ok (.iconst 3, 1) := by decide +kernel
theorem dX12_pour_54 : decode cX12_pour 54 = .ok (.invokevirtual 84, 3) := by decide +kernel
theorem dX12_pour_57 : decode cX12_pour 57 = .ok (.ireturn, 1) := by decide +kernel
theorem dX12_pour_58 : decode cX12_pour 58 = .ok (.aload_n 0, 1) := by decide +kernel
theorem dX12_pour_59 : decode cX12_pour 59 = .ok (.getfield 13, 3) := by decide +kernel
theorem dX12_pour_62 : decode cX12_pour 62 = .ok (.iload_n 1, 1) := by decide +kernel
theorem dX12_pour_63 : decode cX12_pour 63 = .ok (.iaload, 1) := by decide +kernel
theorem dX12_pour_64 : decode cX12_pour 64 = .ok (.aload_n 0, 1) := by decide +kernel
theorem dX12_pour_65 : decode cX12_pour 65 = .ok (.getfield 13, 3) := by decide +kernel
theorem dX12_pour_68 : decode cX12_pour 68 = .ok (.iload_n 3, 1) := by decide +kernel
theorem dX12_pour_69 : decode cX12_pour 69 = .ok (.iaload, 1) := by decide +kernel
theorem dX12_pour_70 : decode cX12_pour 70 = .ok (.if_icmp .eq 10, 3) := by decide +kernel
theorem dX12_pour_73 : decode cX12_pour 73 = .ok (.aload_n 0, 1) := by decide +kernel
theorem dX12_pour_74 : decode cX12_pour 74 = .ok (.bipush 11, 2) := by decide +kernel
theorem dX12_pour_76 : decode cX12_pour 76 = .ok (.invokevirtual 84, 3) := by decide +kernel
theorem dX12_pour_79 : decode cX12_pour 79 = .ok (.ireturn, 1) := by decide +kernel
theorem dX12_pour_80 : decode cX12_pour 80 = .ok (.iload 5, 2) := by decide +kernel
theorem dX12_pour_82 : decode cX12_pour 82 = .ok (.ifCond .ge 10, 3) := by decide +kernel
theorem dX12_pour_85 : decode cX12_pour 85 = .ok (.aload_n 0, 1) := by decide +kernel
theorem dX12_pour_86 : decode cX12_pour 86 = .ok (.bipush 6, 2) := by decide +kernel
theorem dX12_pour_88 : decode cX12_pour 88 = .ok (.invokevirtual 84, 3) := by decide +kernel
theorem dX12_pour_91 : decode cX12_pour 91 = .ok (.ireturn, 1) := by decide +kernel
theorem dX12_pour_92 : decode cX12_pour 92 = .ok (.iload_n 2, 1) := by decide +kernel
theorem dX12_pour_93 : decode cX12_pour 93 = .ok (.ifCond .lt 43, 3) := by decide +kernel
theorem dX12_pour_96 : decode cX12_pour 96 = .ok (.iload 4, 2) := by decide +kernel
theorem dX12_pour_98 : decode cX12_pour 98 = .ok (.ifCond .lt 38, 3) := by decide +kernel
theorem dX12_pour_101 : decode cX12_pour 101 = .ok (.iload_n 2, 1) := by decide +kernel
theorem dX12_pour_102 : decode cX12_pour 102 = .ok (.i2l, 1) := by decide +kernel
theorem dX12_pour_103 : decode cX12_pour 103 = .ok (.iload 5, 2) := by decide +kernel
theorem dX12_pour_105 : decode cX12_pour 105 = .ok (.i2l, 1) := by decide +kernel
theorem dX12_pour_106 : decode cX12_pour 106 = .ok (.ladd, 1) := by decide +kernel
theorem dX12_pour_107 : decode cX12_pour 107 = .ok (.aload_n 0, 1) := by decide +kernel
theorem dX12_pour_108 : decode cX12_pour 108 = .ok (.getfield 17, 3) := by decide +kernel
theorem dX12_pour_111 : decode cX12_pour 111 = .ok (.iload_n 1, 1) := by decide +kernel
theorem dX12_pour_112 : decode cX12_pour 112 = .ok (.iaload, 1) := by decide +kernel
theorem dX12_pour_113 : decode cX12_pour 113 = .ok (.i2l, 1) := by decide +kernel
theorem dX12_pour_114 : decode cX12_pour 114 = .ok (.lcmp, 1) := by decide +kernel
theorem dX12_pour_115 : decode cX12_pour 115 = .ok (.ifCond .gt 21, 3) := by decide +kernel
theorem dX12_pour_118 : decode cX12_pour 118 = .ok (.iload 4, 2) := by decide +kernel
theorem dX12_pour_120 : decode cX12_pour 120 = .ok (.i2l, 1) := by decide +kernel
theorem dX12_pour_121 : decode cX12_pour 121 = .ok (.iload 5, 2) := by decide +kernel
theorem dX12_pour_123 : decode cX12_pour 123 = .ok (.i2l, 1) := by decide +kernel
theorem dX12_pour_124 : decode cX12_pour 124 = .ok (.ladd, 1) := by decide +kernel
theorem dX12_pour_125 : decode cX12_pour 125 = .ok (.aload_n 0, 1) := by decide +kernel
theorem dX12_pour_126 : decode cX12_pour 126 = .ok (.getfield 17, 3) := by decide +kernel
theorem dX12_pour_129 : decode cX12_pour 129 = .ok (.iload_n 3, 1) := by decide +kernel
theorem dX12_pour_130 : decode cX12_pour 130 = .ok (.iaload, 1) := by decide +kernel
theorem dX12_pour_131 : decode cX12_pour 131 = .ok (.i2l, 1) := by decide +kernel
theorem dX12_pour_132 : decode cX12_pour 132 = .ok (.lcmp, 1) := by decide +kernel
theorem dX12_pour_133 : decode cX12_pour 133 = .ok (.ifCond .le 9, 3) := by decide +kernel
theorem dX12_pour_136 : decode cX12_pour 136 = .ok (.aload_n 0, 1) := by decide +kernel
theorem dX12_pour_137 : decode cX12_pour 137 = .ok (.iconst 4, 1) := by decide +kernel
theorem dX12_pour_138 : decode cX12_pour 138 = .ok (.invokevirtual 84, 3) := by decide +kernel
theorem dX12_pour_141 : decode cX12_pour 141 = .ok (.ireturn, 1) := by decide +kernel
theorem dX12_pour_142 : decode cX12_pour 142 = .ok (.iload_n 2, 1) := by decide +kernel
theorem dX12_pour_143 : decode cX12_pour 143 = .ok (.iload 4, 2) := by decide +kernel
theorem dX12_pour_145 : decode cX12_pour 145 = .ok (.if_icmp .ge 7, 3) := by decide +kernel
theorem dX12_pour_148 : decode cX12_pour 148 = .ok (.iconst 1, 1) := by decide +kernel
theorem dX12_pour_149 : decode cX12_pour 149 = .ok (.goto 4, 3) := by decide +kernel
theorem dX12_pour_152 : decode cX12_pour 152 = .ok (.iconst 0, 1) := by decide +kernel
theorem dX12_pour_153 : decode cX12_pour 153 = .ok (.istore 6, 2) := by decide +kernel
theorem dX12_pour_155 : decode cX12_pour 155 = .ok (.iconst 0, 1) := by decide +kernel
theorem dX12_pour_156 : decode cX12_pour 156 = .ok (.istore 7, 2) := by decide +kernel
theorem dX12_pour_158 : decode cX12_pour 158 = .ok (.iload 7, 2) := by decide +kernel
theorem dX12_pour_160 : decode cX12_pour 160 = .ok (.iload 5, 2) := by decide +kernel
theorem dX12_pour_162 : decode cX12_pour 162 = .ok (.if_icmp .ge 57, 3) := by decide +kernel
theorem dX12_pour_165 : decode cX12_pour 165 = .ok (.iload 6, 2) := by decide +kernel
theorem dX12_pour_167 : decode cX12_pour 167 = .ok (.ifCond .eq 13, 3) := by decide +kernel
theorem dX12_pour_170 : decode cX12_pour 170 = .ok (.iload 5, 2) := by decide +kernel
theorem dX12_pour_172 : decode cX12_pour 172 = .ok (.iconst 1, 1) := by decide +kernel
theorem dX12_pour_173 : decode cX12_pour 173 = .ok (.isub, 1) := by decide +kernel
theorem dX12_pour_174 : decode cX12_pour 174 = .ok (.iload 7, 2) := by decide +kernel
theorem dX12_pour_176 : decode cX12_pour 176 = .ok (.isub, 1) := by decide +kernel
theorem dX12_pour_177 : decode cX12_pour 177 = .ok (.goto 5, 3) := by decide +kernel
theorem dX12_pour_180 : decode cX12_pour 180 = .ok (.iload 7, 2) := by decide +kernel
theorem dX12_pour_182 : decode cX12_pour 182 = .ok (.istore 8, 2) := by decide +kernel
theorem dX12_pour_184 : decode cX12_pour 184 = .ok (.aload_n 0, 1) := by decide +kernel
theorem dX12_pour_185 : decode cX12_pour 185 = .ok (.getfield 20, 3) := by decide +kernel
theorem dX12_pour_188 : decode cX12_pour 188 = .ok (.bipush 60, 2) := by decide +kernel
theorem dX12_pour_190 : decode cX12_pour 190 = .ok (.iload_n 3, 1) := by decide +kernel
theorem dX12_pour_191 : decode cX12_pour 191 = .ok (.imul, 1) := by decide +kernel
theorem dX12_pour_192 : decode cX12_pour 192 = .ok (.iload 4, 2) := by decide +kernel
theorem dX12_pour_194 : decode cX12_pour 194 = .ok (.iadd, 1) := by decide +kernel
theorem dX12_pour_195 : decode cX12_pour 195 = .ok (.iload 8, 2) := by decide +kernel
theorem dX12_pour_197 : decode cX12_pour 197 = .ok (.iadd, 1) := by decide +kernel
theorem dX12_pour_198 : decode cX12_pour 198 = .ok (.aload_n 0, 1) := by decide +kernel
theorem dX12_pour_199 : decode cX12_pour 199 = .ok (.getfield 20, 3) := by decide +kernel
theorem dX12_pour_202 : decode cX12_pour 202 = .ok (.bipush 60, 2) := by decide +kernel
theorem dX12_pour_204 : decode cX12_pour 204 = .ok (.iload_n 1, 1) := by decide +kernel
theorem dX12_pour_205 : decode cX12_pour 205 = .ok (.imul, 1) := by decide +kernel
theorem dX12_pour_206 : decode cX12_pour 206 = .ok (.iload_n 2, 1) := by decide +kernel
theorem dX12_pour_207 : decode cX12_pour 207 = .ok (.iadd, 1) := by decide +kernel
theorem dX12_pour_208 : decode cX12_pour 208 = .ok (.iload 8, 2) := by decide +kernel
theorem dX12_pour_210 : decode cX12_pour 210 = .ok (.iadd, 1) := by decide +kernel
theorem dX12_pour_211 : decode cX12_pour 211 = .ok (.laload, 1) := by decide +kernel
theorem dX12_pour_212 : decode cX12_pour 212 = .ok (.lastore, 1) := by decide +kernel
theorem dX12_pour_213 : decode cX12_pour 213 = .ok (.iinc 7 1, 3) := by decide +kernel
theorem dX12_pour_216 : decode cX12_pour 216 = .ok (.goto (-58), 3) := by decide +kernel
theorem dX12_pour_219 : decode cX12_pour 219 = .ok (.iconst 1, 1) := by decide +kernel
theorem dX12_pour_220 : decode cX12_pour 220 = .ok (.ireturn, 1) := by decide +kernel
theorem dX12_numberOf_0 : decode cX12_numberOf 0 = .ok (.aload_n 0, 1) := by decide +kernel
theorem dX12_numberOf_1 : decode cX12_numberOf 1 = .ok (.getfield 20, 3) := by decide +kernel
theorem dX12_numberOf_4 : decode cX12_numberOf 4 = .ok (.bipush 60, 2) := by decide +kernel
theorem dX12_numberOf_6 : decode cX12_numberOf 6 = .ok (.iload_n 1, 1) := by decide +kernel
theorem dX12_numberOf_7 : decode cX12_numberOf 7 = .ok (.imul, 1) := by decide +kernel
theorem dX12_numberOf_8 : decode cX12_numberOf 8 = .ok (.iload_n 2, 1) := by decide +kernel
theorem dX12_numberOf_9 : decode cX12_numberOf 9 = .ok (.iadd, 1) := by decide +kernel
theorem dX12_numberOf_10 : decode cX12_numberOf 10 = .ok (.laload, 1) := by decide +kernel
theorem dX12_numberOf_11 : decode cX12_numberOf 11 = .ok (.lreturn, 1) := by decide +kernel
theorem dX12_isTray_0 : decode cX12_isTray 0 = .ok (.iload_n 1, 1) := by decide +kernel
theorem dX12_isTray_1 : decode cX12_isTray 1 = .ok (.i2l, 1) := by decide +kernel
theorem dX12_isTray_2 : decode cX12_isTray 2 = .ok (.lconst 0, 1) := by decide +kernel
theorem dX12_isTray_3 : decode cX12_isTray 3 = .ok (.ldc2_w 102, 3) := by decide +kernel
theorem dX12_isTray_6 : decode cX12_isTray 6 = .ok (.invokestatic 104, 3) := by decide +kernel
theorem dX12_isTray_9 : decode cX12_isTray 9 = .ok (.ireturn, 1) := by decide +kernel
theorem dX12_has_0 : decode cX12_has 0 = .ok (.iload_n 0, 1) := by decide +kernel
theorem dX12_has_1 : decode cX12_has 1 = .ok (.iload_n 1, 1) := by decide +kernel
theorem dX12_has_2 : decode cX12_has 2 = .ok (.ishr, 1) := by decide +kernel
theorem dX12_has_3 : decode cX12_has 3 = .ok (.iconst 1, 1) := by decide +kernel
theorem dX12_has_4 : decode cX12_has 4 = .ok (.iand, 1) := by decide +kernel
theorem dX12_has_5 : decode cX12_has 5 = .ok (.iconst 1, 1) := by decide +kernel
theorem dX12_has_6 : decode cX12_has 6 = .ok (.if_icmp .ne 7, 3) := by decide +kernel
theorem dX12_has_9 : decode cX12_has 9 = .ok (.iconst 1, 1) := by decide +kernel
theorem dX12_has_10 : decode cX12_has 10 = .ok (.goto 4, 3) := by decide +kernel
theorem dX12_has_13 : decode cX12_has 13 = .ok (.iconst 0, 1) := by decide +kernel
theorem dX12_has_14 : decode cX12_has 14 = .ok (.ireturn, 1) := by decide +kernel
theorem dX12_sizeOf_0 : decode cX12_sizeOf 0 = .ok (.iconst 0, 1) := by decide +kernel
theorem dX12_sizeOf_1 : decode cX12_sizeOf 1 = .ok (.istore_n 1, 1) := by decide +kernel
theorem dX12_sizeOf_2 : decode cX12_sizeOf 2 = .ok (.iconst 0, 1) := by decide +kernel
theorem dX12_sizeOf_3 : decode cX12_sizeOf 3 = .ok (.istore_n 2, 1) := by decide +kernel
theorem dX12_sizeOf_4 : decode cX12_sizeOf 4 = .ok (.iload_n 2, 1) := by decide +kernel
theorem dX12_sizeOf_5 : decode cX12_sizeOf 5 = .ok (.bipush 10, 2) := by decide +kernel
theorem dX12_sizeOf_7 : decode cX12_sizeOf 7 = .ok (.if_icmp .ge 25, 3) := by decide +kernel
theorem dX12_sizeOf_10 : decode cX12_sizeOf 10 = .ok (.iload_n 1, 1) := by decide +kernel
theorem dX12_sizeOf_11 : decode cX12_sizeOf 11 = .ok (.iload_n 0, 1) := by decide +kernel
theorem dX12_sizeOf_12 : decode cX12_sizeOf 12 = .ok (.iload_n 2, 1) := by decide +kernel
theorem dX12_sizeOf_13 : decode cX12_sizeOf 13 = .ok (.invokestatic 108, 3) := by decide +kernel
theorem dX12_sizeOf_16 : decode cX12_sizeOf 16 = .ok (.ifCond .eq 7, 3) := by decide +kernel
theorem dX12_sizeOf_19 : decode cX12_sizeOf 19 = .ok (.iconst 1, 1) := by decide +kernel
theorem dX12_sizeOf_20 : decode cX12_sizeOf 20 = .ok (.goto 4, 3) := by decide +kernel
theorem dX12_sizeOf_23 : decode cX12_sizeOf 23 = .ok (.iconst 0, 1) := by decide +kernel
theorem dX12_sizeOf_24 : decode cX12_sizeOf 24 = .ok (.iadd, 1) := by decide +kernel
theorem dX12_sizeOf_25 : decode cX12_sizeOf 25 = .ok (.istore_n 1, 1) := by decide +kernel
theorem dX12_sizeOf_26 : decode cX12_sizeOf 26 = .ok (.iinc 2 1, 3) := by decide +kernel
theorem dX12_sizeOf_29 : decode cX12_sizeOf 29 = .ok (.goto (-25), 3) := by decide +kernel
theorem dX12_sizeOf_32 : decode cX12_sizeOf 32 = .ok (.iload_n 1, 1) := by decide +kernel
theorem dX12_sizeOf_33 : decode cX12_sizeOf 33 = .ok (.ireturn, 1) := by decide +kernel
theorem dX12_look2_0 : decode cX12_look2 0 = .ok (.iload_n 1, 1) := by decide +kernel
theorem dX12_look2_1 : decode cX12_look2 1 = .ok (.aload_n 0, 1) := by decide +kernel
theorem dX12_look2_2 : decode cX12_look2 2 = .ok (.getfield 112, 3) := by decide +kernel
theorem dX12_look2_5 : decode cX12_look2 5 = .ok (.if_icmp .ge 16, 3) := by decide +kernel
theorem dX12_look2_8 : decode cX12_look2 8 = .ok (.aload_n 0, 1) := by decide +kernel
theorem dX12_look2_9 : decode cX12_look2 9 = .ok (.getfield 24, 3) := by decide +kernel
theorem dX12_look2_12 : decode cX12_look2 12 = .ok (.iload_n 1, 1) := by decide +kernel
theorem dX12_look2_13 : decode cX12_look2 13 = .ok (.baload, 1) := by decide +kernel
theorem dX12_look2_14 : decode cX12_look2 14 = .ok (.sipush 255, 3) := by decide +kernel
theorem dX12_look2_17 : decode cX12_look2 17 = .ok (.iand, 1) := by decide +kernel
theorem dX12_look2_18 : decode cX12_look2 18 = .ok (.goto 4, 3) := by decide +kernel
theorem dX12_look2_21 : decode cX12_look2 21 = .ok (.iconst 0, 1) := by decide +kernel
theorem dX12_look2_22 : decode cX12_look2 22 = .ok (.ireturn, 1) := by decide +kernel
theorem dX12_isLetter_0 : decode cX12_isLetter 0 = .ok (.iload_n 0, 1) := by decide +kernel
theorem dX12_isLetter_1 : decode cX12_isLetter 1 = .ok (.bipush 97, 2) := by decide +kernel
theorem dX12_isLetter_3 : decode cX12_isLetter 3 = .ok (.if_icmp .lt 13, 3) := by decide +kernel
theorem dX12_isLetter_6 : decode cX12_isLetter 6 = .ok (.iload_n 0, 1) := by decide +kernel
theorem dX12_isLetter_7 : decode cX12_isLetter 7 = .ok (.bipush 122, 2) := by decide +kernel
theorem dX12_isLetter_9 : decode cX12_isLetter 9 = .ok (.if_icmp .gt 7, 3) := by decide +kernel
theorem dX12_isLetter_12 : decode cX12_isLetter 12 = .ok (.iconst 1, 1) := by decide +kernel
theorem dX12_isLetter_13 : decode cX12_isLetter 13 = .ok (.goto 4, 3) := by decide +kernel
theorem dX12_isLetter_16 : decode cX12_isLetter 16 = .ok (.iconst 0, 1) := by decide +kernel
theorem dX12_isLetter_17 : decode cX12_isLetter 17 = .ok (.ireturn, 1) := by decide +kernel
theorem dX12_isDigit_0 : decode cX12_isDigit 0 = .ok (.iload_n 0, 1) := by decide +kernel
theorem dX12_isDigit_1 : decode cX12_isDigit 1 = .ok (.bipush 48, 2) := by decide +kernel
theorem dX12_isDigit_3 : decode cX12_isDigit 3 = .ok (.if_icmp .lt 13, 3) := by decide +kernel
theorem dX12_isDigit_6 : decode cX12_isDigit 6 = .ok (.iload_n 0, 1) := by decide +kernel
theorem dX12_isDigit_7 : decode cX12_isDigit 7 = .ok (.bipush 57, 2) := by decide +kernel
theorem dX12_isDigit_9 : decode cX12_isDigit 9 = .ok (.if_icmp .gt 7, 3) := by decide +kernel
theorem dX12_isDigit_12 : decode cX12_isDigit 12 = .ok (.iconst 1, 1) := by decide +kernel
theorem dX12_isDigit_13 : decode cX12_isDigit 13 = .ok (.goto 4, 3) := by decide +kernel
theorem dX12_isDigit_16 : decode cX12_isDigit 16 = .ok (.iconst 0, 1) := by decide +kernel
theorem dX12_isDigit_17 : decode cX12_isDigit 17 = .ok (.ireturn, 1) := by decide +kernel
theorem dX12_isSignByte_0 : decode cX12_isSignByte 0 = .ok (.iload_n 1, 1) := by decide +kernel
theorem dX12_isSignByte_1 : decode cX12_isSignByte 1 = .ok (.bipush 59, 2) := by decide +kernel
theorem dX12_isSignByte_3 : decode cX12_isSignByte 3 = .ok (.if_icmp .eq 21, 3) := by decide +kernel
theorem dX12_isSignByte_6 : decode cX12_isSignByte 6 = .ok (.iload_n 1, 1) := by decide +kernel
theorem dX12_isSignByte_7 : decode cX12_isSignByte 7 = .ok (.bipush 60, 2) := by decide +kernel
theorem dX12_isSignByte_9 : decode cX12_isSignByte 9 = .ok (.if_icmp .eq 15, 3) := by decide +kernel
theorem dX12_isSignByte_12 : decode cX12_isSignByte 12 = .ok (.iload_n 1, 1) := by decide +kernel
theorem dX12_isSignByte_13 : decode cX12_isSignByte 13 = .ok (.bipush 62, 2) := by decide +kernel
theorem dX12_isSignByte_15 : decode cX12_isSignByte 15 = .ok (.if_icmp .eq 9, 3) := by decide +kernel
theorem dX12_isSignByte_18 : decode cX12_isSignByte 18 = .ok (.iload_n 1, 1) := by decide +kernel
theorem dX12_isSignByte_19 : decode cX12_isSignByte 19 = .ok (.bipush 61, 2) := by decide +kernel
theorem dX12_isSignByte_21 : decode cX12_isSignByte 21 = .ok (.if_icmp .ne 7, 3) := by decide +kernel
theorem dX12_isSignByte_24 : decode cX12_isSignByte 24 = .ok (.iconst 1, 1) := by decide +kernel
theorem dX12_isSignByte_25 : decode cX12_isSignByte 25 = .ok (.goto 4, 3) := by decide +kernel
theorem dX12_isSignByte_28 : decode cX12_isSignByte 28 = .ok (.iconst 0, 1) := by decide +kernel
theorem dX12_isSignByte_29 : decode cX12_isSignByte 29 = .ok (.ireturn, 1) := by decide +kernel
theorem dX12_advance_0 : decode cX12_advance 0 = .ok (.aload_n 0, 1) := by decide +kernel
theorem dX12_advance_1 : decode cX12_advance 1 = .ok (.aload_n 0, 1) := by decide +kernel
theorem dX12_advance_2 : decode cX12_advance 2 = .ok (.getfield 115, 3) := by decide +kernel
theorem dX12_advance_5 : decode cX12_advance 5 = .ok (.putfield 118, 3) := by decide +kernel
theorem dX12_advance_8 : decode cX12_advance 8 = .ok (.aload_n 0, 1) := by decide +kernel
theorem dX12_advance_9 : decode cX12_advance 9 = .ok (.getfield 118, 3) := by decide +kernel
theorem dX12_advance_12 : decode cX12_advance 12 = .ok (.aload_n 0, 1) := by decide +kernel
theorem dX12_advance_13 : decode cX12_advance 13 = .ok (.getfield 112, 3) := by decide +kernel
theorem dX12_advance_16 : decode cX12_advance 16 = .ok (.if_icmp .ge 42, 3) := by decide +kernel
theorem dX12_advance_19 : decode cX12_advance 19 = .ok (.aload_n 0, 1) := by decide +kernel
theorem dX12_advance_20 : decode cX12_advance 20 = .ok (.aload_n 0, 1) := by decide +kernel
theorem dX12_advance_21 : decode cX12_advance 21 = .ok (.getfield 118, 3) := by decide +kernel
theorem dX12_advance_24 : decode cX12_advance 24 = .ok (.invokevirtual 121, 3) := by decide +kernel
theorem dX12_advance_27 : decode cX12_advance 27 = .ok (.bipush 10, 2) := by decide +kernel
theorem dX12_advance_29 : decode cX12_advance 29 = .ok (.if_icmp .eq 16, 3) := by decide +kernel
theorem dX12_advance_32 : decode cX12_advance 32 = .ok (.aload_n 0, 1) := by decide +kernel
theorem dX12_advance_33 : decode cX12_advance 33 = .ok (.aload_n 0, 1) := by decide +kernel
theorem dX12_advance_34 : decode cX12_advance 34 = .ok (.getfield 118, 3) := by decide +kernel
theorem dX12_advance_37 : decode cX12_advance 37 = .ok (.invokevirtual 121, 3) := by decide +kernel
theorem dX12_advance_40 : decode cX12_advance 40 = .ok (.bipush 32, 2) := by decide +kernel
theorem dX12_advance_42 : decode cX12_advance 42 = .ok (.if_icmp .ne 16, 3) := by decide +kernel
theorem dX12_advance_45 : decode cX12_advance 45 = .ok (.aload_n 0, 1) := by decide +kernel
theorem dX12_advance_46 : decode cX12_advance 46 = .ok (.dup, 1) := by decide +kernel
theorem dX12_advance_47 : decode cX12_advance 47 = .ok (.getfield 118, 3) := by decide +kernel
theorem dX12_advance_50 : decode cX12_advance 50 = .ok (.iconst 1, 1) := by decide +kernel
theorem dX12_advance_51 : decode cX12_advance 51 = .ok (.iadd, 1) := by decide +kernel
theorem dX12_advance_52 : decode cX12_advance 52 = .ok (.putfield 118, 3) := by decide +kernel
theorem dX12_advance_55 : decode cX12_advance 55 = .ok (.goto (-47), 3) := by decide +kernel
theorem dX12_advance_58 : decode cX12_advance 58 = .ok (.aload_n 0, 1) := by decide +kernel
theorem dX12_advance_59 : decode cX12_advance 59 = .ok (.aload_n 0, 1) := by decide +kernel
theorem dX12_advance_60 : decode cX12_advance 60 = .ok (.getfield 118, 3) := by decide +kernel
theorem dX12_advance_63 : decode cX12_advance 63 = .ok (.putfield 115, 3) := by decide +kernel
theorem dX12_advance_66 : decode cX12_advance 66 = .ok (.aload_n 0, 1) := by decide +kernel
theorem dX12_advance_67 : decode cX12_advance 67 = .ok (.getfield 118, 3) := by decide +kernel
theorem dX12_advance_70 : decode cX12_advance 70 = .ok (.aload_n 0, 1) := by decide +kernel
theorem dX12_advance_71 : decode cX12_advance 71 = .ok (.getfield 112, 3) := by decide +kernel
theorem dX12_advance_74 : decode cX12_advance 74 = .ok (.if_icmp .lt 9, 3) := by decide +kernel
theorem dX12_advance_77 : decode cX12_advance 77 = .ok (.aload_n 0, 1) := by decide +kernel
theorem dX12_advance_78 : decode cX12_advance 78 = .ok (.iconst 0, 1) := by decide +kernel
theorem dX12_advance_79 : decode cX12_advance 79 = .ok (.putfield 124, 3) := by decide +kernel
theorem dX12_advance_82 : decode cX12_advance 82 = .ok (.return_, 1) := by decide +kernel
theorem dX12_advance_83 : decode cX12_advance 83 = .ok (.aload_n 0, 1) := by decide +kernel
theorem dX12_advance_84 : decode cX12_advance 84 = .ok (.aload_n 0, 1) := by decide +kernel
theorem dX12_advance_85 : decode cX12_advance 85 = .ok (.getfield 118, 3) := by decide +kernel
theorem dX12_advance_88 : decode cX12_advance 88 = .ok (.invokevirtual 121, 3) := by decide +kernel
theorem dX12_advance_91 : decode cX12_advance 91 = .ok (.istore_n 1, 1) := by decide +kernel
theorem dX12_advance_92 : decode cX12_advance 92 = .ok (.iload_n 1, 1) := by decide +kernel
theorem dX12_advance_93 : decode cX12_advance 93 = .ok (.invokestatic 127, 3) := by decide +kernel
theorem dX12_advance_96 : decode cX12_advance 96 = .ok (.ifCond .eq 102, 3) := by decide +kernel
theorem dX12_advance_99 : decode cX12_advance 99 = .ok (.aload_n 0, 1) := by decide +kernel
theorem dX12_advance_100 : decode cX12_advance 100 = .ok (.iconst 1, 1) := by decide +kernel
theorem dX12_advance_101 : decode cX12_advance 101 = .ok (.putfield 124, 3) := by decide +kernel
theorem dX12_advance_104 : decode cX12_advance 104 = .ok (.aload_n 0, 1) := by decide +kernel
theorem dX12_advance_105 : decode cX12_advance 105 = .ok (.lconst 0, 1) := by decide +kernel
theorem dX12_advance_106 : decode cX12_advance 106 = .ok (.putfield 130, 3) := by decide +kernel
theorem dX12_advance_109 : decode cX12_advance 109 = .ok (.aload_n 0, 1) := by decide +kernel
theorem dX12_advance_110 : decode cX12_advance 110 = .ok (.aload_n 0, 1) := by decide +kernel
theorem dX12_advance_111 : decode cX12_advance 111 = .ok (.getfield 115, 3) := by decide +kernel
theorem dX12_advance_114 : decode cX12_advance 114 = .ok (.invokevirtual 121, 3) := by decide +kernel
theorem dX12_advance_117 : decode cX12_advance 117 = .ok (.invokestatic 127, 3) := by decide +kernel
theorem dX12_advance_120 : decode cX12_advance 120 = .ok (.ifCond .eq 62, 3) := by decide +kernel
theorem dX12_advance_123 : decode cX12_advance 123 = .ok (.aload_n 0, 1) := by decide +kernel
theorem dX12_advance_124 : decode cX12_advance 124 = .ok (.aload_n 0, 1) := by decide +kernel
theorem dX12_advance_125 : decode cX12_advance 125 = .ok (.getfield 115, 3) := by decide +kernel
theorem dX12_advance_128 : decode cX12_advance 128 = .ok (.aload_n 0, 1) := by decide +kernel
theorem dX12_advance_129 : decode cX12_advance 129 = .ok (.getfield 118, 3) := by decide +kernel
theorem dX12_advance_132 : decode cX12_advance 132 = .ok (.isub, 1) := by decide +kernel
theorem dX12_advance_133 : decode cX12_advance 133 = .ok (.bipush 8, 2) := by decide +kernel
theorem dX12_advance_135 : decode cX12_advance 135 = .ok (.if_icmp .ge 28, 3) := by decide +kernel
theorem dX12_advance_138 : decode cX12_advance 138 = .ok (.aload_n 0, 1) := by decide +kernel
theorem dX12_advance_139 : decode cX12_advance 139 = .ok (.getfield 130, 3) := by decide +kernel
theorem dX12_advance_142 : decode cX12_advance 142 = .ok (.ldc2_w 133, 3) := by decide +kernel
theorem dX12_advance_145 : decode cX12_advance 145 = .ok (.lmul, 1) := by decide +kernel
theorem dX12_advance_146 : decode cX12_advance 146 = .ok (.aload_n 0, 1) := by decide +kernel
theorem dX12_advance_147 : decode cX12_advance 147 = .ok (.aload_n 0, 1) := by decide +kernel
theorem dX12_advance_148 : decode cX12_advance 148 = .ok (.getfield 115, 3) := by decide +kernel
theorem dX12_advance_151 : decode cX12_advance 151 = .ok (.invokevirtual 121, 3) := by decide +kernel
theorem dX12_advance_154 : decode cX12_advance 154 = .ok (.i2l, 1) := by decide +kernel
theorem dX12_advance_155 : decode cX12_advance 155 = .ok (.ladd, 1) := by decide +kernel
theorem dX12_advance_156 : decode cX12_advance 156 = .ok (.ldc2_w 135, 3) := by decide +kernel
theorem dX12_advance_159 : decode cX12_advance 159 = .ok (.lsub, 1) := by decide +kernel
theorem dX12_advance_160 : decode cX12_advance 160 = .ok (.goto 6, 3) := by decide +kernel
theorem dX12_advance_163 : decode cX12_advance 163 = .ok (.ldc2_w 100, 3) := by decide +kernel
theorem dX12_advance_166 : decode cX12_advance 166 = .ok (.putfield 130, 3) := by decide +kernel
theorem dX12_advance_169 : decode cX12_advance 169 = .ok (.aload_n 0, 1) := by decide +kernel
theorem dX12_advance_170 : decode cX12_advance 170 = .ok (.dup, 1) := by decide +kernel
theorem dX12_advance_171 : decode cX12_advance 171 = .ok (.getfield 115, 3) := by decide +kernel
theorem dX12_advance_174 : decode cX12_advance 174 = .ok (.iconst 1, 1) := by decide +kernel
theorem dX12_advance_175 : decode cX12_advance 175 = .ok (.iadd, 1) := by decide +kernel
theorem dX12_advance_176 : decode cX12_advance 176 = .ok (.putfield 115, 3) := by decide +kernel
theorem dX12_advance_179 : decode cX12_advance 179 = .ok (.goto (-70), 3) := by decide +kernel
theorem dX12_advance_182 : decode cX12_advance 182 = .ok (.aload_n 0, 1) := by decide +kernel
theorem dX12_advance_183 : decode cX12_advance 183 = .ok (.aload_n 0, 1) := by decide +kernel
theorem dX12_advance_184 : decode cX12_advance 184 = .ok (.getfield 115, 3) := by decide +kernel
theorem dX12_advance_187 : decode cX12_advance 187 = .ok (.aload_n 0, 1) := by decide +kernel
theorem dX12_advance_188 : decode cX12_advance 188 = .ok (.getfield 118, 3) := by decide +kernel
theorem dX12_advance_191 : decode cX12_advance 191 = .ok (.isub, 1) := by decide +kernel
theorem dX12_advance_192 : decode cX12_advance 192 = .ok (.putfield 137, 3) := by decide +kernel
theorem dX12_advance_195 : decode cX12_advance 195 = .ok (.goto 135, 3) := by decide +kernel
theorem dX12_advance_198 : decode cX12_advance 198 = .ok (.iload_n 1, 1) := by decide +kernel
theorem dX12_advance_199 : decode cX12_advance 199 = .ok (.invokestatic 140, 3) := by decide +kernel
theorem dX12_advance_202 : decode cX12_advance 202 = .ok (.ifCond .eq 96, 3) := by decide +kernel
theorem dX12_advance_205 : decode cX12_advance 205 = .ok (.aload_n 0, 1) := by decide +kernel
theorem dX12_advance_206 : decode cX12_advance 206 = .ok (.iconst 0, 1) := by decide +kernel
theorem dX12_advance_207 : decode cX12_advance 207 = .ok (.putfield 143, 3) := by decide +kernel
theorem dX12_advance_210 : decode cX12_advance 210 = .ok (.aload_n 0, 1) := by decide +kernel
theorem dX12_advance_211 : decode cX12_advance 211 = .ok (.aload_n 0, 1) := by decide +kernel
theorem dX12_advance_212 : decode cX12_advance 212 = .ok (.getfield 115, 3) := by decide +kernel
theorem dX12_advance_215 : decode cX12_advance 215 = .ok (.invokevirtual 121, 3) := by decide +kernel
theorem dX12_advance_218 : decode cX12_advance 218 = .ok (.invokestatic 140, 3) := by decide +kernel
theorem dX12_advance_221 : decode cX12_advance 221 = .ok (.ifCond .eq 52, 3) := by decide +kernel
theorem dX12_advance_224 : decode cX12_advance 224 = .ok (.aload_n 0, 1) := by decide +kernel
theorem dX12_advance_225 : decode cX12_advance 225 = .ok (.getfield 115, 3) := by decide +kernel
theorem dX12_advance_228 : decode cX12_advance 228 = .ok (.aload_n 0, 1) := by decide +kernel
theorem dX12_advance_229 : decode cX12_advance 229 = .ok (.getfield 118, 3) := by decide +kernel
theorem dX12_advance_232 : decode cX12_advance 232 = .ok (.isub, 1) := by decide +kernel
theorem dX12_advance_233 : decode cX12_advance 233 = .ok (.iconst 4, 1) := by decide +kernel
theorem dX12_advance_234 : decode cX12_advance 234 = .ok (.if_icmp .ge 26, 3) := by decide +kernel
theorem dX12_advance_237 : decode cX12_advance 237 = .ok (.aload_n 0, 1) := by decide +kernel
theorem dX12_advance_238 : decode cX12_advance 238 = .ok (.bipush 10, 2) := by decide +kernel
theorem dX12_advance_240 : decode cX12_advance 240 = .ok (.aload_n 0, 1) := by decide +kernel
theorem dX12_advance_241 : decode cX12_advance 241 = .ok (.getfield 143, 3) := by decide +kernel
theorem dX12_advance_244 : decode cX12_advance 244 = .ok (.imul, 1) := by decide +kernel
theorem dX12_advance_245 : decode cX12_advance 245 = .ok (.aload_n 0, 1) := by decide +kernel
theorem dX12_advance_246 : decode cX12_advance 246 = .ok (.aload_n 0, 1) := by decide +kernel
theorem dX12_advance_247 : decode cX12_advance 247 = .ok (.getfield 115, 3) := by decide +kernel
theorem dX12_advance_250 : decode cX12_advance 250 = .ok (.invokevirtual 121, 3) := by decide +kernel
theorem dX12_advance_253 : decode cX12_advance 253 = .ok (.iadd, 1) := by decide +kernel
theorem dX12_advance_254 : decode cX12_advance 254 = .ok (.bipush 48, 2) := by decide +kernel
theorem dX12_advance_256 : decode cX12_advance 256 = .ok (.isub, 1) := by decide +kernel
theorem dX12_advance_257 : decode cX12_advance 257 = .ok (.putfield 143, 3) := by decide +kernel
theorem dX12_advance_260 : decode cX12_advance 260 = .ok (.aload_n 0, 1) := by decide +kernel
theorem dX12_advance_261 : decode cX12_advance 261 = .ok (.dup, 1) := by decide +kernel
theorem dX12_advance_262 : decode cX12_advance 262 = .ok (.getfield 115, 3) := by decide +kernel
theorem dX12_advance_265 : decode cX12_advance 265 = .ok (.iconst 1, 1) := by decide +kernel
theorem dX12_advance_266 : decode cX12_advance 266 = .ok (.iadd, 1) := by decide +kernel
theorem dX12_advance_267 : decode cX12_advance 267 = .ok (.putfield 115, 3) := by decide +kernel
theorem dX12_advance_270 : decode cX12_advance 270 = .ok (.goto (-60), 3) := by decide +kernel
theorem dX12_advance_273 : decode cX12_advance 273 = .ok (.aload_n 0, 1) := by decide +kernel
theorem dX12_advance_274 : decode cX12_advance 274 = .ok (.aload_n 0, 1) := by decide +kernel
theorem dX12_advance_275 : decode cX12_advance 275 = .ok (.getfield 115, 3) := by decide +kernel
theorem dX12_advance_278 : decode cX12_advance 278 = .ok (.aload_n 0, 1) := by decide +kernel
theorem dX12_advance_279 : decode cX12_advance 279 = .ok (.getfield 118, 3) := by decide +kernel
theorem dX12_advance_282 : decode cX12_advance 282 = .ok (.isub, 1) := by decide +kernel
theorem dX12_advance_283 : decode cX12_advance 283 = .ok (.iconst 4, 1) := by decide +kernel
theorem dX12_advance_284 : decode cX12_advance 284 = .ok (.if_icmp .le 7, 3) := by decide +kernel
theorem dX12_advance_287 : decode cX12_advance 287 = .ok (.iconst 4, 1) := by decide +kernel
theorem dX12_advance_288 : decode cX12_advance 288 = .ok (.goto 4, 3) := by decide +kernel
theorem dX12_advance_291 : decode cX12_advance 291 = .ok (.iconst 2, 1) := by decide +kernel
theorem dX12_advance_292 : decode cX12_advance 292 = .ok (.putfield 124, 3) := by decide +kernel
theorem dX12_advance_295 : decode cX12_advance 295 = .ok (.goto 35, 3) := by decide +kernel
theorem dX12_advance_298 : decode cX12_advance 298 = .ok (.aload_n 0, 1) := by decide +kernel
theorem dX12_advance_299 : decode cX12_advance 299 = .ok (.aload_n 0, 1) := by decide +kernel
theorem dX12_advance_300 : decode cX12_advance 300 = .ok (.getfield 118, 3) := by decide +kernel
theorem dX12_advance_303 : decode cX12_advance 303 = .ok (.iconst 1, 1) := by decide +kernel
theorem dX12_advance_304 : decode cX12_advance 304 = .ok (.iadd, 1) := by decide +kernel
theorem dX12_advance_305 : decode cX12_advance 305 = .ok (.putfield 115, 3) := by decide +kernel
theorem dX12_advance_308 : decode cX12_advance 308 = .ok (.aload_n 0, 1) := by decide +kernel
theorem dX12_advance_309 : decode cX12_advance 309 = .ok (.iload_n 1, 1) := by decide +kernel
theorem dX12_advance_310 : decode cX12_advance 310 = .ok (.putfield 143, 3) := by decide +kernel
theorem dX12_advance_313 : decode cX12_advance 313 = .ok (.aload_n 0, 1) := by decide +kernel
theorem dX12_advance_314 : decode cX12_advance 314 = .ok (.aload_n 0, 1) := by decide +kernel
theorem dX12_advance_315 : decode cX12_advance 315 = .ok (.iload_n 1, 1) := by decide +kernel
theorem dX12_advance_316 : decode cX12_advance 316 = .ok (.invokevirtual 146, 3) := by decide +kernel
theorem dX12_advance_319 : decode cX12_advance 319 = .ok (.ifCond .eq 7, 3) := by decide +kernel
theorem dX12_advance_322 : decode cX12_advance 322 = .ok (.iconst 3, 1) := by decide +kernel
theorem dX12_advance_323 : decode cX12_advance 323 = .ok (.goto 4, 3) := by decide +kernel
theorem dX12_advance_326 : decode cX12_advance 326 = .ok (.iconst 4, 1) := by decide +kernel
theorem dX12_advance_327 : decode cX12_advance 327 = .ok (.putfield 124, 3) := by decide +kernel
theorem dX12_advance_330 : decode cX12_advance 330 = .ok (.return_, 1) := by decide +kernel
theorem dX12_isSign_0 : decode cX12_isSign 0 = .ok (.aload_n 0, 1) := by decide +kernel
theorem dX12_isSign_1 : decode cX12_isSign 1 = .ok (.getfield 124, 3) := by decide +kernel
theorem dX12_isSign_4 : decode cX12_isSign 4 = .ok (.iconst 3, 1) := by decide +kernel
theorem dX12_isSign_5 : decode cX12_isSign 5 = .ok (.if_icmp .ne 15, 3) := by decide +kernel
theorem dX12_isSign_8 : decode cX12_isSign 8 = .ok (.aload_n 0, 1) := by decide +kernel
theorem dX12_isSign_9 : decode cX12_isSign 9 = .ok (.getfield 143, 3) := by decide +kernel
theorem dX12_isSign_12 : decode cX12_isSign 12 = .ok (.iload_n 1, 1) := by decide +kernel
theorem dX12_isSign_13 : decode cX12_isSign 13 = .ok (.if_icmp .ne 7, 3) := by decide +kernel
theorem dX12_isSign_16 : decode cX12_isSign 16 = .ok (.iconst 1, 1) := by decide +kernel
theorem dX12_isSign_17 : decode cX12_isSign 17 = .ok (.goto 4, 3) := by decide +kernel
theorem dX12_isSign_20 : decode cX12_isSign 20 = .ok (.iconst 0, 1) := by decide +kernel
theorem dX12_isSign_21 : decode cX12_isSign 21 = .ok (.ireturn, 1) := by decide +kernel
theorem dX12_spelled_0 : decode cX12_spelled 0 = .ok (.iload_n 0, 1) := by decide +kernel
theorem dX12_spelled_1 : decode cX12_spelled 1 = .ok (.i2l, 1) := by decide +kernel
theorem dX12_spelled_2 : decode cX12_spelled 2 = .ok (.ldc2_w 135, 3) := by decide +kernel
theorem dX12_spelled_5 : decode cX12_spelled 5 = .ok (.lsub, 1) := by decide +kernel
theorem dX12_spelled_6 : decode cX12_spelled 6 = .ok (.ldc2_w 133, 3) := by decide +kernel
theorem dX12_spelled_9 : decode cX12_spelled 9 = .ok (.lmul, 1) := by decide +kernel
theorem dX12_spelled_10 : decode cX12_spelled 10 = .ok (.iload_n 1, 1) := by decide +kernel
theorem dX12_spelled_11 : decode cX12_spelled 11 = .ok (.i2l, 1) := by decide +kernel
theorem dX12_spelled_12 : decode cX12_spelled 12 = .ok (.ladd, 1) := by decide +kernel
theorem dX12_spelled_13 : decode cX12_spelled 13 = .ok (.ldc2_w 135, 3) := by decide +kernel
theorem dX12_spelled_16 : decode cX12_spelled 16 = .ok (.lsub, 1) := by decide +kernel
theorem dX12_spelled_17 : decode cX12_spelled 17 = .ok (.lstore 6, 2) := by decide +kernel
theorem dX12_spelled_19 : decode cX12_spelled 19 = .ok (.iload_n 2, 1) := by decide +kernel
theorem dX12_spelled_20 : decode cX12_spelled 20 = .ok (.ifCond .le 19, 3) := by decide +kernel
theorem dX12_spelled_23 : decode cX12_spelled 23 = .ok (.lload 6, 2) := by decide +kernel
theorem dX12_spelled_25 : decode cX12_spelled 25 = .ok (.ldc2_w 133, 3) := by decide +kernel
theorem dX12_spelled_28 : decode cX12_spelled 28 = .ok (.lmul, 1) := by decide +kernel
theorem dX12_spelled_29 : decode cX12_spelled 29 = .ok (.iload_n 2, 1) := by decide +kernel
theorem dX12_spelled_30 : decode cX12_spelled 30 = .ok (.i2l, 1) := by decide +kernel
theorem dX12_spelled_31 : decode cX12_spelled 31 = .ok (.ladd, 1) := by decide +kernel
theorem dX12_spelled_32 : decode cX12_spelled 32 = .ok (.ldc2_w 135, 3) := by decide +kernel
theorem dX12_spelled_35 : decode cX12_spelled 35 = .ok (.lsub, 1) := by decide +kernel
theorem dX12_spelled_36 : decode cX12_spelled 36 = .ok (.goto 5, 3) := by decide +kernel
theorem dX12_spelled_39 : decode cX12_spelled 39 = .ok (.lload 6, 2) := by decide +kernel
theorem dX12_spelled_41 : decode cX12_spelled 41 = .ok (.lstore 6, 2) := by decide +kernel
theorem dX12_spelled_43 : decode cX12_spelled 43 = .ok (.iload_n 3, 1) := by decide +kernel
theorem dX12_spelled_44 : decode cX12_spelled 44 = .ok (.ifCond .le 19, 3) := by decide +kernel
theorem dX12_spelled_47 : decode cX12_spelled 47 = .ok (.lload 6, 2) := by decide +kernel
theorem dX12_spelled_49 : decode cX12_spelled 49 = .ok (.ldc2_w 133, 3) := by decide +kernel
theorem dX12_spelled_52 : decode cX12_spelled 52 = .ok (.lmul, 1) := by decide +kernel
theorem dX12_spelled_53 : decode cX12_spelled 53 = .ok (.iload_n 3, 1) := by decide +kernel
theorem dX12_spelled_54 : decode cX12_spelled 54 = .ok (.i2l, 1) := by decide +kernel
theorem dX12_spelled_55 : decode cX12_spelled 55 = .ok (.ladd, 1) := by decide +kernel
theorem dX12_spelled_56 : decode cX12_spelled 56 = .ok (.ldc2_w 135, 3) := by decide +kernel
theorem dX12_spelled_59 : decode cX12_spelled 59 = .ok (.lsub, 1) := by decide +kernel
theorem dX12_spelled_60 : decode cX12_spelled 60 = .ok (.goto 5, 3) := by decide +kernel
theorem dX12_spelled_63 : decode cX12_spelled 63 = .ok (.lload 6, 2) := by decide +kernel
theorem dX12_spelled_65 : decode cX12_spelled 65 = .ok (.lstore 6, 2) := by decide +kernel
theorem dX12_spelled_67 : decode cX12_spelled 67 = .ok (.iload 4, 2) := by decide +kernel
theorem dX12_spelled_69 : decode cX12_spelled 69 = .ok (.ifCond .le 20, 3) := by decide +kernel
theorem dX12_spelled_72 : decode cX12_spelled 72 = .ok (.lload 6, 2) := by decide +kernel
theorem dX12_spelled_74 : decode cX12_spelled 74 = .ok (.ldc2_w 133, 3) := by decide +kernel
theorem dX12_spelled_77 : decode cX12_spelled 77 = .ok (.lmul, 1) := by decide +kernel
theorem dX12_spelled_78 : decode cX12_spelled 78 = .ok (.iload 4, 2) := by decide +kernel
theorem dX12_spelled_80 : decode cX12_spelled 80 = .ok (.i2l, 1) := by decide +kernel
theorem dX12_spelled_81 : decode cX12_spelled 81 = .ok (.ladd, 1) := by decide +kernel
theorem dX12_spelled_82 : decode cX12_spelled 82 = .ok (.ldc2_w 135, 3) := by decide +kernel
theorem dX12_spelled_85 : decode cX12_spelled 85 = .ok (.lsub, 1) := by decide +kernel
theorem dX12_spelled_86 : decode cX12_spelled 86 = .ok (.goto 5, 3) := by decide +kernel
theorem dX12_spelled_89 : decode cX12_spelled 89 = .ok (.lload 6, 2) := by decide +kernel
theorem dX12_spelled_91 : decode cX12_spelled 91 = .ok (.lstore 6, 2) := by decide +kernel
theorem dX12_spelled_93 : decode cX12_spelled 93 = .ok (.iload 5, 2) := by decide +kernel
theorem dX12_spelled_95 : decode cX12_spelled 95 = .ok (.ifCond .le 20, 3) := by decide +kernel
theorem dX12_spelled_98 : decode cX12_spelled 98 = .ok (.lload 6, 2) := by decide +kernel
theorem dX12_spelled_100 : decode cX12_spelled 100 = .ok (.ldc2_w 133, 3) := by decide +kernel
theorem dX12_spelled_103 : decode cX12_spelled 103 = .ok (.lmul, 1) := by decide +kernel
theorem dX12_spelled_104 : decode cX12_spelled 104 = .ok (.iload 5, 2) := by decide +kernel
theorem dX12_spelled_106 : decode cX12_spelled 106 = .ok (.i2l, 1) := by decide +kernel
theorem dX12_spelled_107 : decode cX12_spelled 107 = .ok (.ladd, 1) := by decide +kernel
theorem dX12_spelled_108 : decode cX12_spelled 108 = .ok (.ldc2_w 135, 3) := by decide +kernel
theorem dX12_spelled_111 : decode cX12_spelled 111 = .ok (.lsub, 1) := by decide +kernel
theorem dX12_spelled_112 : decode cX12_spelled 112 = .ok (.goto 5, 3) := by decide +kernel
theorem dX12_spelled_115 : decode cX12_spelled 115 = .ok (.lload 6, 2) := by decide +kernel
theorem dX12_spelled_117 : decode cX12_spelled 117 = .ok (.lreturn, 1) := by decide +kernel
theorem dX12_isWord_0 : decode cX12_isWord 0 = .ok (.aload_n 0, 1) := by decide +kernel
theorem dX12_isWord_1 : decode cX12_isWord 1 = .ok (.getfield 124, 3) := by decide +kernel
theorem dX12_isWord_4 : decode cX12_isWord 4 = .ok (.iconst 1, 1) := by decide +kernel
theorem dX12_isWord_5 : decode cX12_isWord 5 = .ok (.if_icmp .ne 16, 3) := by decide +kernel
theorem dX12_isWord_8 : decode cX12_isWord 8 = .ok (.aload_n 0, 1) := by decide +kernel
theorem dX12_isWord_9 : decode cX12_isWord 9 = .ok (.getfield 130, 3) := by decide +kernel
theorem dX12_isWord_12 : decode cX12_isWord 12 = .ok (.lload_n 1, 1) := by decide +kernel
theorem dX12_isWord_13 : decode cX12_isWord 13 = .ok (.lcmp, 1) := by decide +kernel
theorem dX12_isWord_14 : decode cX12_isWord 14 = .ok (.ifCond .ne 7, 3) := by decide +kernel
theorem dX12_isWord_17 : decode cX12_isWord 17 = .ok (.iconst 1, 1) := by decide +kernel
theorem dX12_isWord_18 : decode cX12_isWord 18 = .ok (.goto 4, 3) := by decide +kernel
theorem dX12_isWord_21 : decode cX12_isWord 21 = .ok (.iconst 0, 1) := by decide +kernel
theorem dX12_isWord_22 : decode cX12_isWord 22 = .ok (.ireturn, 1) := by decide +kernel
theorem dX12_isOdds_0 : decode cX12_isOdds 0 = .ok (.aload_n 0, 1) := by decide +kernel
theorem dX12_isOdds_1 : decode cX12_isOdds 1 = .ok (.bipush 111, 2) := by decide +kernel
theorem dX12_isOdds_3 : decode cX12_isOdds 3 = .ok (.bipush 100, 2) := by decide +kernel
theorem dX12_isOdds_5 : decode cX12_isOdds 5 = .ok (.bipush 100, 2) := by decide +kernel
theorem dX12_isOdds_7 : decode cX12_isOdds 7 = .ok (.bipush 115, 2) := by decide +kernel
theorem dX12_isOdds_9 : decode cX12_isOdds 9 = .ok (.iconst 0, 1) := by decide +kernel
theorem dX12_isOdds_10 : decode cX12_isOdds 10 = .ok (.iconst 0, 1) := by decide +kernel
theorem dX12_isOdds_11 : decode cX12_isOdds 11 = .ok (.invokestatic 149, 3) := by decide +kernel
theorem dX12_isOdds_14 : decode cX12_isOdds 14 = .ok (.invokevirtual 153, 3) := by decide +kernel
theorem dX12_isOdds_17 : decode cX12_isOdds 17 = .ok (.ireturn, 1) := by decide +kernel
theorem dX12_isMatter_0 : decode cX12_isMatter 0 = .ok (.aload_n 0, 1) := by decide +kernel
theorem dX12_isMatter_1 : decode cX12_isMatter 1 = .ok (.bipush 109, 2) := by decide +kernel
theorem dX12_isMatter_3 : decode cX12_isMatter 3 = .ok (.bipush 97, 2) := by decide +kernel
theorem dX12_isMatter_5 : decode cX12_isMatter 5 = .ok (.bipush 116, 2) := by decide +kernel
theorem dX12_isMatter_7 : decode cX12_isMatter 7 = .ok (.bipush 116, 2) := by decide +kernel
theorem dX12_isMatter_9 : decode cX12_isMatter 9 = .ok (.bipush 101, 2) := by decide +kernel
theorem dX12_isMatter_11 : decode cX12_isMatter 11 = .ok (.bipush 114, 2) := by decide +kernel
theorem dX12_isMatter_13 : decode cX12_isMatter 13 = .ok (.invokestatic 149, 3) := by decide +kernel
theorem dX12_isMatter_16 : decode cX12_isMatter 16 = .ok (.invokevirtual 153, 3) := by decide +kernel
theorem dX12_isMatter_19 : decode cX12_isMatter 19 = .ok (.ireturn, 1) := by decide +kernel
theorem dX12_isPace_0 : decode cX12_isPace 0 = .ok (.aload_n 0, 1) := by decide +kernel
theorem dX12_isPace_1 : decode cX12_isPace 1 = .ok (.bipush 112, 2) := by decide +kernel
theorem dX12_isPace_3 : decode cX12_isPace 3 = .ok (.bipush 97, 2) := by decide +kernel
theorem dX12_isPace_5 : decode cX12_isPace 5 = .ok (.bipush 99, 2) := by decide +kernel
theorem dX12_isPace_7 : decode cX12_isPace 7 = .ok (.bipush 101, 2) := by decide +kernel
theorem dX12_isPace_9 : decode cX12_isPace 9 = .ok (.iconst 0, 1) := by decide +kernel
theorem dX12_isPace_10 : decode cX12_isPace 10 = .ok (.iconst 0, 1) := by decide +kernel
theorem dX12_isPace_11 : decode cX12_isPace 11 = .ok (.invokestatic 149, 3) := by decide +kernel
theorem dX12_isPace_14 : decode cX12_isPace 14 = .ok (.invokevirtual 153, 3) := by decide +kernel
theorem dX12_isPace_17 : decode cX12_isPace 17 = .ok (.ireturn, 1) := by decide +kernel
theorem dX12_isClearWord_0 : decode cX12_isClearWord 0 = .ok (.aload_n 0, 1) := by decide +kernel
theorem dX12_isClearWord_1 : decode cX12_isClearWord 1 = .ok (.bipush 99, 2) := by decide +kernel
theorem dX12_isClearWord_3 : decode cX12_isClearWord 3 = .ok (.bipush 108, 2) := by decide +kernel
theorem dX12_isClearWord_5 : decode cX12_isClearWord 5 = .ok (.bipush 101, 2) := by decide +kernel
theorem dX12_isClearWord_7 : decode cX12_isClearWord 7 = .ok (.bipush 97, 2) := by decide +kernel
theorem dX12_isClearWord_9 : decode cX12_isClearWord 9 = .ok (.bipush 114, 2) := by decide +kernel
theorem dX12_isClearWord_11 : decode cX12_isClearWord 11 = .ok (.iconst 0, 1) := by decide +kernel
theorem dX12_isClearWord_12 : decode cX12_isClearWord 12 = .ok (.invokestatic 149, 3) := by decide +kernel
theorem dX12_isClearWord_15 : decode cX12_isClearWord 15 = .ok (.invokevirtual 153, 3) := by decide +kernel
theorem dX12_isClearWord_18 : decode cX12_isClearWord 18 = .ok (.ireturn, 1) := by decide +kernel
theorem dX12_isHold_0 : decode cX12_isHold 0 = .ok (.aload_n 0, 1) := by decide +kernel
theorem dX12_isHold_1 : decode cX12_isHold 1 = .ok (.bipush 104, 2) := by decide +kernel
theorem dX12_isHold_3 : decode cX12_isHold 3 = .ok (.bipush 111, 2) := by decide +kernel
theorem dX12_isHold_5 : decode cX12_isHold 5 = .ok (.bipush 108, 2) := by decide +kernel
theorem dX12_isHold_7 : decode cX12_isHold 7 = .ok (.bipush 100, 2) := by decide +kernel
theorem dX12_isHold_9 : decode cX12_isHold 9 = .ok (.iconst 0, 1) := by decide +kernel
theorem dX12_isHold_10 : decode cX12_isHold 10 = .ok (.iconst 0, 1) := by decide +kernel
theorem dX12_isHold_11 : decode cX12_isHold 11 = .ok (.invokestatic 149, 3) := by decide +kernel
theorem dX12_isHold_14 : decode cX12_isHold 14 = .ok (.invokevirtual 153, 3) := by decide +kernel
theorem dX12_isHold_17 : decode cX12_isHold 17 = .ok (.ireturn, 1) := by decide +kernel
theorem dX12_isBy_0 : decode cX12_isBy 0 = .ok (.aload_n 0, 1) := by decide +kernel
theorem dX12_isBy_1 : decode cX12_isBy 1 = .ok (.bipush 98, 2) := by decide +kernel
theorem dX12_isBy_3 : decode cX12_isBy 3 = .ok (.bipush 121, 2) := by decide +kernel
theorem dX12_isBy_5 : decode cX12_isBy 5 = .ok (.iconst 0, 1) := by decide +kernel
theorem dX12_isBy_6 : decode cX12_isBy 6 = .ok (.iconst 0, 1) := by decide +kernel
theorem dX12_isBy_7 : decode cX12_isBy 7 = .ok (.iconst 0, 1) := by decide +kernel
theorem dX12_isBy_8 : decode cX12_isBy 8 = .ok (.iconst 0, 1) := by decide +kernel
theorem dX12_isBy_9 : decode cX12_isBy 9 = .ok (.invokestatic 149, 3) := by decide +kernel
theorem dX12_isBy_12 : decode cX12_isBy 12 = .ok (.invokevirtual 153, 3) := by decide +kernel
theorem dX12_isBy_15 : decode cX12_isBy 15 = .ok (.ireturn, 1) := by decide +kernel
theorem dX12_isSitter_0 : decode cX12_isSitter 0 = .ok (.aload_n 0, 1) := by decide +kernel
theorem dX12_isSitter_1 : decode cX12_isSitter 1 = .ok (.bipush 115, 2) := by decide +kernel
theorem dX12_isSitter_3 : decode cX12_isSitter 3 = .ok (.bipush 105, 2) := by decide +kernel
theorem dX12_isSitter_5 : decode cX12_isSitter 5 = .ok (.bipush 116, 2) := by decide +kernel
theorem dX12_isSitter_7 : decode cX12_isSitter 7 = .ok (.bipush 116, 2) := by decide +kernel
theorem dX12_isSitter_9 : decode cX12_isSitter 9 = .ok (.bipush 101, 2) := by decide +kernel
theorem dX12_isSitter_11 : decode cX12_isSitter 11 = .ok (.bipush 114, 2) := by decide +kernel
theorem dX12_isSitter_13 : decode cX12_isSitter 13 = .ok (.invokestatic 149, 3) := by decide +kernel
theorem dX12_isSitter_16 : decode cX12_isSitter 16 = .ok (.invokevirtual 153, 3) := by decide +kernel
theorem dX12_isSitter_19 : decode cX12_isSitter 19 = .ok (.ireturn, 1) := by decide +kernel
theorem dX12_isMile_0 : decode cX12_isMile 0 = .ok (.aload_n 0, 1) := by decide +kernel
theorem dX12_isMile_1 : decode cX12_isMile 1 = .ok (.bipush 109, 2) := by decide +kernel
theorem dX12_isMile_3 : decode cX12_isMile 3 = .ok (.bipush 105, 2) := by decide +kernel
theorem dX12_isMile_5 : decode cX12_isMile 5 = .ok (.bipush 108, 2) := by decide +kernel
theorem dX12_isMile_7 : decode cX12_isMile 7 = .ok (.bipush 101, 2) := by decide +kernel
theorem dX12_isMile_9 : decode cX12_isMile 9 = .ok (.iconst 0, 1) := by decide +kernel
theorem dX12_isMile_10 : decode cX12_isMile 10 = .ok (.iconst 0, 1) := by decide +kernel
theorem dX12_isMile_11 : decode cX12_isMile 11 = .ok (.invokestatic 149, 3) := by decide +kernel
theorem dX12_isMile_14 : decode cX12_isMile 14 = .ok (.invokevirtual 153, 3) := by decide +kernel
theorem dX12_isMile_17 : decode cX12_isMile 17 = .ok (.ireturn, 1) := by decide +kernel
theorem dX12_isTall_0 : decode cX12_isTall 0 = .ok (.aload_n 0, 1) := by decide +kernel
theorem dX12_isTall_1 : decode cX12_isTall 1 = .ok (.bipush 116, 2) := by decide +kernel
theorem dX12_isTall_3 : decode cX12_isTall 3 = .ok (.bipush 97, 2) := by decide +kernel
theorem dX12_isTall_5 : decode cX12_isTall 5 = .ok (.bipush 108, 2) := by decide +kernel
theorem dX12_isTall_7 : decode cX12_isTall 7 = .ok (.bipush 108, 2) := by decide +kernel
theorem dX12_isTall_9 : decode cX12_isTall 9 = .ok (.iconst 0, 1) := by decide +kernel
theorem dX12_isTall_10 : decode cX12_isTall 10 = .ok (.iconst 0, 1) := by decide +kernel
theorem dX12_isTall_11 : decode cX12_isTall 11 = .ok (.invokestatic 149, 3) := by decide +kernel
theorem dX12_isTall_14 : decode cX12_isTall 14 = .ok (.invokevirtual 153, 3) := by decide +kernel
theorem dX12_isTall_17 : decode cX12_isTall 17 = .ok (.ireturn, 1) := by decide +kernel
theorem dX12_isFor_0 : decode cX12_isFor 0 = .ok (.aload_n 0, 1) := by decide +kernel
theorem dX12_isFor_1 : decode cX12_isFor 1 = .ok (.bipush 102, 2) := by decide +kernel
theorem dX12_isFor_3 : decode cX12_isFor 3 = .ok (.bipush 111, 2) := by decide +kernel
theorem dX12_isFor_5 : decode cX12_isFor 5 = .ok (.bipush 114, 2) := by decide +kernel
theorem dX12_isFor_7 : decode cX12_isFor 7 = .ok (.iconst 0, 1) := by decide +kernel
theorem dX12_isFor_8 : decode cX12_isFor 8 = .ok (.iconst 0, 1) := by decide +kernel
theorem dX12_isFor_9 : decode cX12_isFor 9 = .ok (.iconst 0, 1) := by decide +kernel
theorem dX12_isFor_10 : decode cX12_isFor 10 = .ok (.invokestatic 149, 3) := by decide +kernel
theorem dX12_isFor_13 : decode cX12_isFor 13 = .ok (.invokevirtual 153, 3) := by decide +kernel
theorem dX12_isFor_16 : decode cX12_isFor 16 = .ok (.ireturn, 1) := by decide +kernel
theorem dX12_isWeight_0 : decode cX12_isWeight 0 = .ok (.aload_n 0, 1) := by decide +kernel
theorem dX12_isWeight_1 : decode cX12_isWeight 1 = .ok (.bipush 119, 2) := by decide +kernel
theorem dX12_isWeight_3 : decode cX12_isWeight 3 = .ok (.bipush 101, 2) := by decide +kernel
theorem dX12_isWeight_5 : decode cX12_isWeight 5 = .ok (.bipush 105, 2) := by decide +kernel
theorem dX12_isWeight_7 : decode cX12_isWeight 7 = .ok (.bipush 103, 2) := by decide +kernel
theorem dX12_isWeight_9 : decode cX12_isWeight 9 = .ok (.bipush 104, 2) := by decide +kernel
theorem dX12_isWeight_11 : decode cX12_isWeight 11 = .ok (.bipush 116, 2) := by decide +kernel
theorem dX12_isWeight_13 : decode cX12_isWeight 13 = .ok (.invokestatic 149, 3) := by decide +kernel
theorem dX12_isWeight_16 : decode cX12_isWeight 16 = .ok (.invokevirtual 153, 3) := by decide +kernel
theorem dX12_isWeight_19 : decode cX12_isWeight 19 = .ok (.ireturn, 1) := by decide +kernel
theorem dX12_isNews_0 : decode cX12_isNews 0 = .ok (.aload_n 0, 1) := by decide +kernel
theorem dX12_isNews_1 : decode cX12_isNews 1 = .ok (.bipush 110, 2) := by decide +kernel
theorem dX12_isNews_3 : decode cX12_isNews 3 = .ok (.bipush 101, 2) := by decide +kernel
theorem dX12_isNews_5 : decode cX12_isNews 5 = .ok (.bipush 119, 2) := by decide +kernel
theorem dX12_isNews_7 : decode cX12_isNews 7 = .ok (.bipush 115, 2) := by decide +kernel
theorem dX12_isNews_9 : decode cX12_isNews 9 = .ok (.iconst 0, 1) := by decide +kernel
theorem dX12_isNews_10 : decode cX12_isNews 10 = .ok (.iconst 0, 1) := by decide +kernel
theorem dX12_isNews_11 : decode cX12_isNews 11 = .ok (.invokestatic 149, 3) := by decide +kernel
theorem dX12_isNews_14 : decode cX12_isNews 14 = .ok (.invokevirtual 153, 3) := by decide +kernel
theorem dX12_isNews_17 : decode cX12_isNews 17 = .ok (.ireturn, 1) := by decide +kernel
theorem dX12_isSize_0 : decode cX12_isSize 0 = .ok (.aload_n 0, 1) := by decide +kernel
theorem dX12_isSize_1 : decode cX12_isSize 1 = .ok (.bipush 115, 2) := by decide +kernel
theorem dX12_isSize_3 : decode cX12_isSize 3 = .ok (.bipush 105, 2) := by decide +kernel
theorem dX12_isSize_5 : decode cX12_isSize 5 = .ok (.bipush 122, 2) := by decide +kernel
theorem dX12_isSize_7 : decode cX12_isSize 7 = .ok (.bipush 101, 2) := by decide +kernel
theorem dX12_isSize_9 : decode cX12_isSize 9 = .ok (.iconst 0, 1) := by decide +kernel
theorem dX12_isSize_10 : decode cX12_isSize 10 = .ok (.iconst 0, 1) := by decide +kernel
theorem dX12_isSize_11 : decode cX12_isSize 11 = .ok (.invokestatic 149, 3) := by decide +kernel
theorem dX12_isSize_14 : decode cX12_isSize 14 = .ok (.invokevirtual 153, 3) := by decide +kernel
theorem dX12_isSize_17 : decode cX12_isSize 17 = .ok (.ireturn, 1) := by decide +kernel
theorem dX12_stepWord_0 : decode cX12_stepWord 0 = .ok (.aload_n 0, 1) := by decide +kernel
theorem dX12_stepWord_1 : decode cX12_stepWord 1 = .ok (.bipush 100, 2) := by decide +kernel
theorem dX12_stepWord_3 : decode cX12_stepWord 3 = .ok (.bipush 97, 2) := by decide +kernel
theorem dX12_stepWord_5 : decode cX12_stepWord 5 = .ok (.bipush 121, 2) := by decide +kernel
theorem dX12_stepWord_7 : decode cX12_stepWord 7 = .ok (.iconst 0, 1) := by decide +kernel
theorem dX12_stepWord_8 : decode cX12_stepWord 8 = .ok (.iconst 0, 1) := by decide +kernel
theorem dX12_stepWord_9 : decode cX12_stepWord 9 = .ok (.iconst 0, 1) := by decide +kernel
theorem dX12_stepWord_10 : decode cX12_stepWord 10 = .ok (.invokestatic 149, 3) := by decide +kernel
theorem dX12_stepWord_13 : decode cX12_stepWord 13 = .ok (.invokevirtual 153, 3) := by decide +kernel
theorem dX12_stepWord_16 : decode cX12_stepWord 16 = .ok (.ifCond .eq 5, 3) := by decide +kernel
theorem dX12_stepWord_19 : decode cX12_stepWord 19 = .ok (.iconst 0, 1) := by decide +kernel
theorem dX12_stepWord_20 : decode cX12_stepWord 20 = .ok (.ireturn, 1) := by decide +kernel
theorem dX12_stepWord_21 : decode cX12_stepWord 21 = .ok (.aload_n 0, 1) := by decide +kernel
theorem dX12_stepWord_22 : decode cX12_stepWord 22 = .ok (.bipush 98, 2) := by decide +kernel
theorem dX12_stepWord_24 : decode cX12_stepWord 24 = .ok (.bipush 114, 2) := by decide +kernel
theorem dX12_stepWord_26 : decode cX12_stepWord 26 = .ok (.bipush 105, 2) := by decide +kernel
theorem dX12_stepWord_28 : decode cX12_stepWord 28 = .ok (.bipush 110, 2) := by decide +kernel
theorem dX12_stepWord_30 : decode cX12_stepWord 30 = .ok (.bipush 103, 2) := by decide +kernel
theorem dX12_stepWord_32 : decode cX12_stepWord 32 = .ok (.iconst 0, 1) := by decide +kernel
theorem dX12_stepWord_33 : decode cX12_stepWord 33 = .ok (.invokestatic 149, 3) := by decide +kernel
theorem dX12_stepWord_36 : decode cX12_stepWord 36 = .ok (.invokevirtual 153, 3) := by decide +kernel
theorem dX12_stepWord_39 : decode cX12_stepWord 39 = .ok (.ifCond .eq 5, 3) := by decide +kernel
theorem dX12_stepWord_42 : decode cX12_stepWord 42 = .ok (.iconst 1, 1) := by decide +kernel
theorem dX12_stepWord_43 : decode cX12_stepWord 43 = .ok (.ireturn, 1) := by decide +kernel
theorem dX12_stepWord_44 : decode cX12_stepWord 44 = .ok (.aload_n 0, 1) := by decide +kernel
theorem dX12_stepWord_45 : decode cX12_stepWord 45 = .ok (.bipush 99, 2) := by decide +kernel
theorem dX12_stepWord_47 : decode cX12_stepWord 47 = .ok (.bipush 114, 2) := by decide +kernel
theorem dX12_stepWord_49 : decode cX12_stepWord 49 = .ok (.bipush 105, 2) := by decide +kernel
theorem dX12_stepWord_51 : decode cX12_stepWord 51 = .ok (.bipush 115, 2) := by decide +kernel
theorem dX12_stepWord_53 : decode cX12_stepWord 53 = .ok (.bipush 105, 2) := by decide +kernel
theorem dX12_stepWord_55 : decode cX12_stepWord 55 = .ok (.bipush 115, 2) := by decide +kernel
theorem dX12_stepWord_57 : decode cX12_stepWord 57 = .ok (.invokestatic 149, 3) := by decide +kernel
theorem dX12_stepWord_60 : decode cX12_stepWord 60 = .ok (.invokevirtual 153, 3) := by decide +kernel
theorem dX12_stepWord_63 : decode cX12_stepWord 63 = .ok (.ifCond .eq 5, 3) := by decide +kernel
theorem dX12_stepWord_66 : decode cX12_stepWord 66 = .ok (.iconst 2, 1) := by decide +kernel
theorem dX12_stepWord_67 : decode cX12_stepWord 67 = .ok (.ireturn, 1) := by decide +kernel
theorem dX12_stepWord_68 : decode cX12_stepWord 68 = .ok (.aload_n 0, 1) := by decide +kernel
theorem dX12_stepWord_69 : decode cX12_stepWord 69 = .ok (.bipush 116, 2) := by decide +kernel
theorem dX12_stepWord_71 : decode cX12_stepWord 71 = .ok (.bipush 117, 2) := by decide +kernel
theorem dX12_stepWord_73 : decode cX12_stepWord 73 = .ok (.bipush 114, 2) := by decide +kernel
theorem dX12_stepWord_75 : decode cX12_stepWord 75 = .ok (.bipush 110, 2) := by decide +kernel
theorem dX12_stepWord_77 : decode cX12_stepWord 77 = .ok (.iconst 0, 1) := by decide +kernel
theorem dX12_stepWord_78 : decode cX12_stepWord 78 = .ok (.iconst 0, 1) := by decide +kernel
theorem dX12_stepWord_79 : decode cX12_stepWord 79 = .ok (.invokestatic 149, 3) := by decide +kernel
theorem dX12_stepWord_82 : decode cX12_stepWord 82 = .ok (.invokevirtual 153, 3) := by decide +kernel
theorem dX12_stepWord_85 : decode cX12_stepWord 85 = .ok (.ifCond .eq 5, 3) := by decide +kernel
theorem dX12_stepWord_88 : decode cX12_stepWord 88 = .ok (.iconst 3, 1) := by decide +kernel
theorem dX12_stepWord_89 : decode cX12_stepWord 89 = .ok (.ireturn, 1) := by decide +kernel
theorem dX12_stepWord_90 : decode cX12_stepWord 90 = .ok (.aload_n 0, 1) := by decide +kernel
theorem dX12_stepWord_91 : decode cX12_stepWord 91 = .ok (.bipush 97, 2) := by decide +kernel
theorem dX12_stepWord_93 : decode cX12_stepWord 93 = .ok (.bipush 110, 2) := by decide +kernel
theorem dX12_stepWord_95 : decode cX12_stepWord 95 = .ok (.bipush 121, 2) := by decide +kernel
theorem dX12_stepWord_97 : decode cX12_stepWord 97 = .ok (.iconst 0, 1) := by decide +kernel
theorem dX12_stepWord_98 : decode cX12_stepWord 98 = .ok (.iconst 0, 1) := by decide +kernel
theorem dX12_stepWord_99 : decode cX12_stepWord 99 = .ok (.iconst 0, 1) := by decide +kernel
theorem dX12_stepWord_100 : decode cX12_stepWord 100 = .ok (.invokestatic 149, 3) := by decide +kernel
theorem dX12_stepWord_103 : decode cX12_stepWord 103 = .ok (.invokevirtual 153, 3) := by decide +kernel
theorem dX12_stepWord_106 : decode cX12_stepWord 106 = .ok (.ifCond .eq 5, 3) := by decide +kernel
theorem dX12_stepWord_109 : decode cX12_stepWord 109 = .ok (.iconst 4, 1) := by decide +kernel
theorem dX12_stepWord_110 : decode cX12_stepWord 110 = .ok (.ireturn, 1) := by decide +kernel
theorem dX12_stepWord_111 : decode cX12_stepWord 111 = .ok (.aload_n 0, 1) := by decide +kernel
theorem dX12_stepWord_112 : decode cX12_stepWord 112 = .ok (.bipush 119, 2) := by decide +kernel
theorem dX12_stepWord_114 : decode cX12_stepWord 114 = .ok (.bipush 104, 2) := by decide +kernel
theorem dX12_stepWord_116 : decode cX12_stepWord 116 = .ok (.bipush 101, 2) := by decide +kernel
theorem dX12_stepWord_118 : decode cX12_stepWord 118 = .ok (.bipush 110, 2) := by decide +kernel
theorem dX12_stepWord_120 : decode cX12_stepWord 120 = .ok (.iconst 0, 1) := by decide +kernel
theorem dX12_stepWord_121 : decode cX12_stepWord 121 = .ok (.iconst 0, 1) := by decide +kernel
theorem dX12_stepWord_122 : decode cX12_stepWord 122 = .ok (.invokestatic 149, 3) := by decide +kernel
theorem dX12_stepWord_125 : decode cX12_stepWord 125 = .ok (.invokevirtual 153, 3) := by decide +kernel
theorem dX12_stepWord_128 : decode cX12_stepWord 128 = .ok (.ifCond .eq 5, 3) := by decide +kernel
theorem dX12_stepWord_131 : decode cX12_stepWord 131 = .ok (.iconst 5, 1) := by decide +kernel
theorem dX12_stepWord_132 : decode cX12_stepWord 132 = .ok (.ireturn, 1) := by decide +kernel
theorem dX12_stepWord_133 : decode cX12_stepWord 133 = .ok (.aload_n 0, 1) := by decide +kernel
theorem dX12_stepWord_134 : decode cX12_stepWord 134 = .ok (.bipush 108, 2) := by decide +kernel
theorem dX12_stepWord_136 : decode cX12_stepWord 136 = .ok (.bipush 111, 2) := by decide +kernel
theorem dX12_stepWord_138 : decode cX12_stepWord 138 = .ok (.bipush 111, 2) := by decide +kernel
theorem dX12_stepWord_140 : decode cX12_stepWord 140 = .ok (.bipush 112, 2) := by decide +kernel
theorem dX12_stepWord_142 : decode cX12_stepWord 142 = .ok (.iconst 0, 1) := by decide +kernel
theorem dX12_stepWord_143 : decode cX12_stepWord 143 = .ok (.iconst 0, 1) := by decide +kernel
theorem dX12_stepWord_144 : decode cX12_stepWord 144 = .ok (.invokestatic 149, 3) := by decide +kernel
theorem dX12_stepWord_147 : decode cX12_stepWord 147 = .ok (.invokevirtual 153, 3) := by decide +kernel
theorem dX12_stepWord_150 : decode cX12_stepWord 150 = .ok (.ifCond .eq 6, 3) := by decide +kernel
theorem dX12_stepWord_153 : decode cX12_stepWord 153 = .ok (.bipush 6, 2) := by decide +kernel
theorem dX12_stepWord_155 : decode cX12_stepWord 155 = .ok (.ireturn, 1) := by decide +kernel
theorem dX12_stepWord_156 : decode cX12_stepWord 156 = .ok (.aload_n 0, 1) := by decide +kernel
theorem dX12_stepWord_157 : decode cX12_stepWord 157 = .ok (.bipush 115, 2) := by decide +kernel
theorem dX12_stepWord_159 : decode cX12_stepWord 159 = .ok (.bipush 116, 2) := by decide +kernel
theorem dX12_stepWord_161 : decode cX12_stepWord 161 = .ok (.bipush 111, 2) := by decide +kernel
theorem dX12_stepWord_163 : decode cX12_stepWord 163 = .ok (.bipush 112, 2) := by decide +kernel
theorem dX12_stepWord_165 : decode cX12_stepWord 165 = .ok (.iconst 0, 1) := by decide +kernel
theorem dX12_stepWord_166 : decode cX12_stepWord 166 = .ok (.iconst 0, 1) := by decide +kernel
theorem dX12_stepWord_167 : decode cX12_stepWord 167 = .ok (.invokestatic 149, 3) := by decide +kernel
theorem dX12_stepWord_170 : decode cX12_stepWord 170 = .ok (.invokevirtual 153, 3) := by decide +kernel
theorem dX12_stepWord_173 : decode cX12_stepWord 173 = .ok (.ifCond .eq 8, 3) := by decide +kernel
theorem dX12_stepWord_176 : decode cX12_stepWord 176 = .ok (.bipush 7, 2) := by decide +kernel
theorem dX12_stepWord_178 : decode cX12_stepWord 178 = .ok (.goto 4, 3) := by decide +kernel
theorem dX12_stepWord_181 : decode cX12_stepWord 181 = .ok (.iconst (-1), 1) := by decide +kernel
theorem dX12_stepWord_182 : decode cX12_stepWord 182 = .ok (.ireturn, 1) := by decide +kernel
theorem dX12_testWord_0 : decode cX12_testWord 0 = .ok (.aload_n 0, 1) := by decide +kernel
theorem dX12_testWord_1 : decode cX12_testWord 1 = .ok (.bipush 100, 2) := by decide +kernel
theorem dX12_testWord_3 : decode cX12_testWord 3 = .ok (.bipush 111, 2) := by decide +kernel
theorem dX12_testWord_5 : decode cX12_testWord 5 = .ok (.bipush 119, 2) := by decide +kernel
theorem dX12_testWord_7 : decode cX12_testWord 7 = .ok (.bipush 110, 2) := by decide +kernel
theorem dX12_testWord_9 : decode cX12_testWord 9 = .ok (.iconst 0, 1) := by decide +kernel
theorem dX12_testWord_10 : decode cX12_testWord 10 = .ok (.iconst 0, 1) := by decide +kernel
theorem dX12_testWord_11 : decode cX12_testWord 11 = .ok (.invokestatic 149, 3) := by decide +kernel
theorem dX12_testWord_14 : decode cX12_testWord 14 = .ok (.invokevirtual 153, 3) := by decide +kernel
theorem dX12_testWord_17 : decode cX12_testWord 17 = .ok (.ifCond .eq 5, 3) := by decide +kernel
theorem dX12_testWord_20 : decode cX12_testWord 20 = .ok (.iconst 0, 1) := by decide +kernel
theorem dX12_testWord_21 : decode cX12_testWord 21 = .ok (.ireturn, 1) := by decide +kernel
theorem dX12_testWord_22 : decode cX12_testWord 22 = .ok (.aload_n 0, 1) := by decide +kernel
theorem dX12_testWord_23 : decode cX12_testWord 23 = .ok (.bipush 115, 2) := by decide +kernel
theorem dX12_testWord_25 : decode cX12_testWord 25 = .ok (.bipush 101, 2) := by decide +kernel
theorem dX12_testWord_27 : decode cX12_testWord 27 = .ok (.bipush 116, 2) := by decide +kernel
theorem dX12_testWord_29 : decode cX12_testWord 29 = .ok (.bipush 116, 2) := by decide +kernel
theorem dX12_testWord_31 : decode cX12_testWord 31 = .ok (.bipush 108, 2) := by decide +kernel
theorem dX12_testWord_33 : decode cX12_testWord 33 = .ok (.bipush 101, 2) := by decide +kernel
theorem dX12_testWord_35 : decode cX12_testWord 35 = .ok (.invokestatic 149, 3) := by decide +kernel
theorem dX12_testWord_38 : decode cX12_testWord 38 = .ok (.ldc2_w 133, 3) := by decide +kernel
theorem dX12_testWord_41 : decode cX12_testWord 41 = .ok (.lmul, 1) := by decide +kernel
theorem dX12_testWord_42 : decode cX12_testWord 42 = .ok (.ldc2_w 157, 3) := by decide +kernel
theorem dX12_testWord_45 : decode cX12_testWord 45 = .ok (.ladd, 1) := by decide +kernel
theorem dX12_testWord_46 : decode cX12_testWord 46 = .ok (.ldc2_w 135, 3) := by decide +kernel
theorem dX12_testWord_49 : decode cX12_testWord 49 = .ok (.lsub, 1) := by decide +kernel
theorem dX12_testWord_50 : decode cX12_testWord 50 = .ok (.invokevirtual 153, 3) := by decide +kernel
theorem dX12_testWord_53 : decode cX12_testWord 53 = .ok (.ifCond .eq 5, 3) := by decide +kernel
theorem dX12_testWord_56 : decode cX12_testWord 56 = .ok (.iconst 1, 1) := by decide +kernel
theorem dX12_testWord_57 : decode cX12_testWord 57 = .ok (.ireturn, 1) := by decide +kernel
theorem dX12_testWord_58 : decode cX12_testWord 58 = .ok (.aload_n 0, 1) := by decide +kernel
theorem dX12_testWord_59 : decode cX12_testWord 59 = .ok (.bipush 104, 2) := by decide +kernel
theorem dX12_testWord_61 : decode cX12_testWord 61 = .ok (.bipush 105, 2) := by decide +kernel
theorem dX12_testWord_63 : decode cX12_testWord 63 = .ok (.bipush 103, 2) := by decide +kernel
theorem dX12_testWord_65 : decode cX12_testWord 65 = .ok (.bipush 104, 2) := by decide +kernel
theorem dX12_testWord_67 : decode cX12_testWord 67 = .ok (.iconst 0, 1) := by decide +kernel
theorem dX12_testWord_68 : decode cX12_testWord 68 = .ok (.iconst 0, 1) := by decide +kernel
theorem dX12_testWord_69 : decode cX12_testWord 69 = .ok (.invokestatic 149, 3) := by decide +kernel
theorem dX12_testWord_72 : decode cX12_testWord 72 = .ok (.invokevirtual 153, 3) := by decide +kernel
theorem dX12_testWord_75 : decode cX12_testWord 75 = .ok (.ifCond .eq 7, 3) := by decide +kernel
theorem dX12_testWord_78 : decode cX12_testWord 78 = .ok (.iconst 2, 1) := by decide +kernel
theorem dX12_testWord_79 : decode cX12_testWord 79 = .ok (.goto 4, 3) := by decide +kernel
theorem dX12_testWord_82 : decode cX12_testWord 82 = .ok (.iconst (-1), 1) := by decide +kernel
theorem dX12_testWord_83 : decode cX12_testWord 83 = .ok (.ireturn, 1) := by decide +kernel
theorem dX12_isEnd_0 : decode cX12_isEnd 0 = .ok (.aload_n 0, 1) := by decide +kernel
theorem dX12_isEnd_1 : decode cX12_isEnd 1 = .ok (.bipush 101, 2) := by decide +kernel
theorem dX12_isEnd_3 : decode cX12_isEnd 3 = .ok (.bipush 110, 2) := by decide +kernel
theorem dX12_isEnd_5 : decode cX12_isEnd 5 = .ok (.bipush 100, 2) := by decide +kernel
theorem dX12_isEnd_7 : decode cX12_isEnd 7 = .ok (.iconst 0, 1) := by decide +kernel
theorem dX12_isEnd_8 : decode cX12_isEnd 8 = .ok (.iconst 0, 1) := by decide +kernel
theorem dX12_isEnd_9 : decode cX12_isEnd 9 = .ok (.iconst 0, 1) := by decide +kernel
theorem dX12_isEnd_10 : decode cX12_isEnd 10 = .ok (.invokestatic 149, 3) := by decide +kernel
theorem dX12_isEnd_13 : decode cX12_isEnd 13 = .ok (.invokevirtual 153, 3) := by decide +kernel
theorem dX12_isEnd_16 : decode cX12_isEnd 16 = .ok (.ireturn, 1) := by decide +kernel
theorem dX12_isKept_0 : decode cX12_isKept 0 = .ok (.aload_n 0, 1) := by decide +kernel
theorem dX12_isKept_1 : decode cX12_isKept 1 = .ok (.invokevirtual 159, 3) := by decide +kernel
theorem dX12_isKept_4 : decode cX12_isKept 4 = .ok (.ifCond .ne 87, 3) := by decide +kernel
theorem dX12_isKept_7 : decode cX12_isKept 7 = .ok (.aload_n 0, 1) := by decide +kernel
theorem dX12_isKept_8 : decode cX12_isKept 8 = .ok (.invokevirtual 163, 3) := by decide +kernel
theorem dX12_isKept_11 : decode cX12_isKept 11 = .ok (.ifCond .ne 80, 3) := by decide +kernel
theorem dX12_isKept_14 : decode cX12_isKept 14 = .ok (.aload_n 0, 1) := by decide +kernel
theorem dX12_isKept_15 : decode cX12_isKept 15 = .ok (.invokevirtual 166, 3) := by decide +kernel
theorem dX12_isKept_18 : decode cX12_isKept 18 = .ok (.ifCond .ne 73, 3) := by decide +kernel
theorem dX12_isKept_21 : decode cX12_isKept 21 = .ok (.aload_n 0, 1) := by decide +kernel
theorem dX12_isKept_22 : decode cX12_isKept 22 = .ok (.invokevirtual 169, 3) := by decide +kernel
theorem dX12_isKept_25 : decode cX12_isKept 25 = .ok (.ifCond .ne 66, 3) := by decide +kernel
theorem dX12_isKept_28 : decode cX12_isKept 28 = .ok (.aload_n 0, 1) := by decide +kernel
theorem dX12_isKept_29 : decode cX12_isKept 29 = .ok (.invokevirtual 172, 3) := by decide +kernel
theorem dX12_isKept_32 : decode cX12_isKept 32 = .ok (.ifCond .ne 59, 3) := by decide +kernel
theorem dX12_isKept_35 : decode cX12_isKept 35 = .ok (.aload_n 0, 1) := by decide +kernel
theorem dX12_isKept_36 : decode cX12_isKept 36 = .ok (.invokevirtual 175, 3) := by decide +kernel
theorem dX12_isKept_39 : decode cX12_isKept 39 = .ok (.ifCond .ne 52, 3) := by decide +kernel
theorem dX12_isKept_42 : decode cX12_isKept 42 = .ok (.aload_n 0, 1) := by decide +kernel
theorem dX12_isKept_43 : decode cX12_isKept 43 = .ok (.invokevirtual 178, 3) := by decide +kernel
theorem dX12_isKept_46 : decode cX12_isKept 46 = .ok (.ifCond .ne 45, 3) := by decide +kernel
theorem dX12_isKept_49 : decode cX12_isKept 49 = .ok (.aload_n 0, 1) := by decide +kernel
theorem dX12_isKept_50 : decode cX12_isKept 50 = .ok (.invokevirtual 181, 3) := by decide +kernel
theorem dX12_isKept_53 : decode cX12_isKept 53 = .ok (.ifCond .ne 38, 3) := by decide +kernel
theorem dX12_isKept_56 : decode cX12_isKept 56 = .ok (.aload_n 0, 1) := by decide +kernel
theorem dX12_isKept_57 : decode cX12_isKept 57 = .ok (.invokevirtual 184, 3) := by decide +kernel
theorem dX12_isKept_60 : decode cX12_isKept 60 = .ok (.ifCond .ne 31, 3) := by decide +kernel
theorem dX12_isKept_63 : decode cX12_isKept 63 = .ok (.aload_n 0, 1) := by decide +kernel
theorem dX12_isKept_64 : decode cX12_isKept 64 = .ok (.invokevirtual 187, 3) := by decide +kernel
theorem dX12_isKept_67 : decode cX12_isKept 67 = .ok (.ifCond .ne 24, 3) := by decide +kernel
theorem dX12_isKept_70 : decode cX12_isKept 70 = .ok (.aload_n 0, 1) := by decide +kernel
theorem dX12_isKept_71 : decode cX12_isKept 71 = .ok (.invokevirtual 190, 3) := by decide +kernel
theorem dX12_isKept_74 : decode cX12_isKept 74 = .ok (.ifCond .ne 17, 3) := by decide +kernel
theorem dX12_isKept_77 : decode cX12_isKept 77 = .ok (.aload_n 0, 1) := by decide +kernel
theorem dX12_isKept_78 : decode cX12_isKept 78 = .ok (.invokevirtual 193, 3) := by decide +kernel
theorem dX12_isKept_81 : decode cX12_isKept 81 = .ok (.ifCond .ne 10, 3) := by decide +kernel
theorem dX12_isKept_84 : decode cX12_isKept 84 = .ok (.aload_n 0, 1) := by decide +kernel
theorem dX12_isKept_85 : decode cX12_isKept 85 = .ok (.invokevirtual 196, 3) := by decide +kernel
theorem dX12_isKept_88 : decode cX12_isKept 88 = .ok (.ifCond .eq 5, 3) := by decide +kernel
theorem dX12_isKept_91 : decode cX12_isKept 91 = .ok (.iconst 1, 1) := by decide +kernel
theorem dX12_isKept_92 : decode cX12_isKept 92 = .ok (.ireturn, 1) := by decide +kernel
theorem dX12_isKept_93 : decode cX12_isKept 93 = .ok (.aload_n 0, 1) := by decide +kernel
theorem dX12_isKept_94 : decode cX12_isKept 94 = .ok (.invokevirtual 199, 3) := by decide +kernel
theorem dX12_isKept_97 : decode cX12_isKept 97 = .ok (.ifCond .ge 17, 3) := by decide +kernel
theorem dX12_isKept_100 : decode cX12_isKept 100 = .ok (.aload_n 0, 1) := by decide +kernel
theorem dX12_isKept_101 : decode cX12_isKept 101 = .ok (.invokevirtual 203, 3) := by decide +kernel
theorem dX12_isKept_104 : decode cX12_isKept 104 = .ok (.ifCond .ge 10, 3) := by decide +kernel
theorem dX12_isKept_107 : decode cX12_isKept 107 = .ok (.aload_n 0, 1) := by decide +kernel
theorem dX12_isKept_108 : decode cX12_isKept 108 = .ok (.invokevirtual 206, 3) := by decide +kernel
theorem dX12_isKept_111 : decode cX12_isKept 111 = .ok (.ifCond .eq 7, 3) := by decide +kernel
theorem dX12_isKept_114 : decode cX12_isKept 114 = .ok (.iconst 1, 1) := by decide +kernel
theorem dX12_isKept_115 : decode cX12_isKept 115 = .ok (.goto 4, 3) := by decide +kernel
theorem dX12_isKept_118 : decode cX12_isKept 118 = .ok (.iconst 0, 1) := by decide +kernel
theorem dX12_isKept_119 : decode cX12_isKept 119 = .ok (.ireturn, 1) := by decide +kernel
theorem dX12_isName_0 : decode cX12_isName 0 = .ok (.aload_n 0, 1) := by decide +kernel
theorem dX12_isName_1 : decode cX12_isName 1 = .ok (.getfield 124, 3) := by decide +kernel
theorem dX12_isName_4 : decode cX12_isName 4 = .ok (.iconst 1, 1) := by decide +kernel
theorem dX12_isName_5 : decode cX12_isName 5 = .ok (.if_icmp .ne 23, 3) := by decide +kernel
theorem dX12_isName_8 : decode cX12_isName 8 = .ok (.aload_n 0, 1) := by decide +kernel
theorem dX12_isName_9 : decode cX12_isName 9 = .ok (.getfield 137, 3) := by decide +kernel
theorem dX12_isName_12 : decode cX12_isName 12 = .ok (.bipush 8, 2) := by decide +kernel
theorem dX12_isName_14 : decode cX12_isName 14 = .ok (.if_icmp .gt 14, 3) := by decide +kernel
theorem dX12_isName_17 : decode cX12_isName 17 = .ok (.aload_n 0, 1) := by decide +kernel
theorem dX12_isName_18 : decode cX12_isName 18 = .ok (.invokevirtual 209, 3) := by decide +kernel
theorem dX12_isName_21 : decode cX12_isName 21 = .ok (.ifCond .ne 7, 3) := by decide +kernel
theorem dX12_isName_24 : decode cX12_isName 24 = .ok (.iconst 1, 1) := by decide +kernel
theorem dX12_isName_25 : decode cX12_isName 25 = .ok (.goto 4, 3) := by decide +kernel
theorem dX12_isName_28 : decode cX12_isName 28 = .ok (.iconst 0, 1) := by decide +kernel
theorem dX12_isName_29 : decode cX12_isName 29 = .ok (.ireturn, 1) := by decide +kernel
theorem dX12_fail_0 : decode cX12_fail 0 = .ok (.aload_n 0, 1) := by decide +kernel
theorem dX12_fail_1 : decode cX12_fail 1 = .ok (.getfield 212, 3) := by decide +kernel
theorem dX12_fail_4 : decode cX12_fail 4 = .ok (.ifCond .le 4, 3) := by decide +kernel
theorem dX12_fail_7 : decode cX12_fail 7 = .ok (.return_, 1) := by decide +kernel
theorem dX12_fail_8 : decode cX12_fail 8 = .ok (.aload_n 0, 1) := by decide +kernel
theorem dX12_fail_9 : decode cX12_fail 9 = .ok (.iload_n 1, 1) := by decide +kernel
theorem dX12_fail_10 : decode cX12_fail 10 = .ok (.putfield 212, 3) := by decide +kernel
theorem dX12_fail_13 : decode cX12_fail 13 = .ok (.aload_n 0, 1) := by decide +kernel
theorem dX12_fail_14 : decode cX12_fail 14 = .ok (.iload_n 2, 1) := by decide +kernel
theorem dX12_fail_15 : decode cX12_fail 15 = .ok (.putfield 215, 3) := by decide +kernel
theorem dX12_fail_18 : decode cX12_fail 18 = .ok (.return_, 1) := by decide +kernel
theorem dX12_amiss_0 : decode cX12_amiss 0 = .ok (.aload_n 0, 1) := by decide +kernel
theorem dX12_amiss_1 : decode cX12_amiss 1 = .ok (.aload_n 0, 1) := by decide +kernel
theorem dX12_amiss_2 : decode cX12_amiss 2 = .ok (.getfield 124, 3) := by decide +kernel
theorem dX12_amiss_5 : decode cX12_amiss 5 = .ok (.iconst 4, 1) := by decide +kernel
theorem dX12_amiss_6 : decode cX12_amiss 6 = .ok (.if_icmp .ne 7, 3) := by decide +kernel
theorem dX12_amiss_9 : decode cX12_amiss 9 = .ok (.iconst 1, 1) := by decide +kernel
theorem dX12_amiss_10 : decode cX12_amiss 10 = .ok (.goto 4, 3) := by decide +kernel
theorem dX12_amiss_13 : decode cX12_amiss 13 = .ok (.iconst 2, 1) := by decide +kernel
theorem dX12_amiss_14 : decode cX12_amiss 14 = .ok (.aload_n 0, 1) := by decide +kernel
theorem dX12_amiss_15 : decode cX12_amiss 15 = .ok (.getfield 118, 3) := by decide +kernel
theorem dX12_amiss_18 : decode cX12_amiss 18 = .ok (.invokevirtual 218, 3) := by decide +kernel
theorem dX12_amiss_21 : decode cX12_amiss 21 = .ok (.return_, 1) := by decide +kernel
theorem dX12_must_0 : decode cX12_must 0 = .ok (.aload_n 0, 1) := by decide +kernel
theorem dX12_must_1 : decode cX12_must 1 = .ok (.getfield 212, 3) := by decide +kernel
theorem dX12_must_4 : decode cX12_must 4 = .ok (.ifCond .le 4, 3) := by decide +kernel
theorem dX12_must_7 : decode cX12_must 7 = .ok (.return_, 1) := by decide +kernel
theorem dX12_must_8 : decode cX12_must 8 = .ok (.iload_n 1, 1) := by decide +kernel
theorem dX12_must_9 : decode cX12_must 9 = .ok (.ifCond .eq 10, 3) := by decide +kernel
theorem dX12_must_12 : decode cX12_must 12 = .ok (.aload_n 0, 1) := by decide +kernel
theorem dX12_must_13 : decode cX12_must 13 = .ok (.invokevirtual 222, 3) := by decide +kernel
theorem dX12_must_16 : decode cX12_must 16 = .ok (.goto 7, 3) := by decide +kernel
theorem dX12_must_19 : decode cX12_must 19 = .ok (.aload_n 0, 1) := by decide +kernel
theorem dX12_must_20 : decode cX12_must 20 = .ok (.invokevirtual 225, 3) := by decide +kernel
theorem dX12_must_23 : decode cX12_must 23 = .ok (.return_, 1) := by decide +kernel
theorem dX12_count_0 : decode cX12_count 0 = .ok (.aload_n 0, 1) := by decide +kernel
theorem dX12_count_1 : decode cX12_count 1 = .ok (.getfield 212, 3) := by decide +kernel
theorem dX12_count_4 : decode cX12_count 4 = .ok (.ifCond .ne 15, 3) := by decide +kernel
theorem dX12_count_7 : decode cX12_count 7 = .ok (.aload_n 0, 1) := by decide +kernel
theorem dX12_count_8 : decode cX12_count 8 = .ok (.getfield 124, 3) := by decide +kernel
theorem dX12_count_11 : decode cX12_count 11 = .ok (.iconst 2, 1) := by decide +kernel
theorem dX12_count_12 : decode cX12_count 12 = .ok (.if_icmp .eq 7, 3) := by decide +kernel
theorem dX12_count_15 : decode cX12_count 15 = .ok (.aload_n 0, 1) := by decide +kernel
theorem dX12_count_16 : decode cX12_count 16 = .ok (.invokevirtual 225, 3) := by decide +kernel
theorem dX12_count_19 : decode cX12_count 19 = .ok (.aload_n 0, 1) := by decide +kernel
theorem dX12_count_20 : decode cX12_count 20 = .ok (.getfield 212, 3) := by decide +kernel
theorem dX12_count_23 : decode cX12_count 23 = .ok (.ifCond .ne 27, 3) := by decide +kernel
theorem dX12_count_26 : decode cX12_count 26 = .ok (.aload_n 0, 1) := by decide +kernel
theorem dX12_count_27 : decode cX12_count 27 = .ok (.getfield 143, 3) := by decide +kernel
theorem dX12_count_30 : decode cX12_count 30 = .ok (.i2l, 1) := by decide +kernel
theorem dX12_count_31 : decode cX12_count 31 = .ok (.iload_n 1, 1) := by decide +kernel
theorem dX12_count_32 : decode cX12_count 32 = .ok (.i2l, 1) := by decide +kernel
theorem dX12_count_33 : decode cX12_count 33 = .ok (.iload_n 2, 1) := by decide +kernel
theorem dX12_count_34 : decode cX12_count 34 = .ok (.i2l, 1) := by decide +kernel
theorem dX12_count_35 : decode cX12_count 35 = .ok (.invokestatic 104, 3) := by decide +kernel
theorem dX12_count_38 : decode cX12_count 38 = .ok (.ifCond .ne 12, 3) := by decide +kernel
theorem dX12_count_41 : decode cX12_count 41 = .ok (.aload_n 0, 1) := by decide +kernel
theorem dX12_count_42 : decode cX12_count 42 = .ok (.iconst 4, 1) := by decide +kernel
theorem dX12_count_43 : decode cX12_count 43 = .ok (.aload_n 0, 1) := by decide +kernel
theorem dX12_count_44 : decode cX12_count 44 = .ok (.getfield 118, 3) := by decide +kernel
theorem dX12_count_47 : decode cX12_count 47 = .ok (.invokevirtual 218, 3) := by decide +kernel
theorem dX12_count_50 : decode cX12_count 50 = .ok (.aload_n 0, 1) := by decide +kernel
theorem dX12_count_51 : decode cX12_count 51 = .ok (.getfield 212, 3) := by decide +kernel
theorem dX12_count_54 : decode cX12_count 54 = .ok (.ifCond .le 5, 3) := by decide +kernel
theorem dX12_count_57 : decode cX12_count 57 = .ok (.iconst 0, 1) := by decide +kernel
theorem dX12_count_58 : decode cX12_count 58 = .ok (.ireturn, 1) := by decide +kernel
theorem dX12_count_59 : decode cX12_count 59 = .ok (.aload_n 0, 1) := by decide +kernel
theorem dX12_count_60 : decode cX12_count 60 = .ok (.getfield 143, 3) := by decide +kernel
theorem dX12_count_63 : decode cX12_count 63 = .ok (.istore_n 3, 1) := by decide +kernel
theorem dX12_count_64 : decode cX12_count 64 = .ok (.aload_n 0, 1) := by decide +kernel
theorem dX12_count_65 : decode cX12_count 65 = .ok (.invokevirtual 222, 3) := by decide +kernel
theorem dX12_count_68 : decode cX12_count 68 = .ok (.iload_n 3, 1) := by decide +kernel
theorem dX12_count_69 : decode cX12_count 69 = .ok (.ireturn, 1) := by decide +kernel
theorem dX12_behindWord_0 : decode cX12_behindWord 0 = .ok (.aload_n 0, 1) := by decide +kernel
theorem dX12_behindWord_1 : decode cX12_behindWord 1 = .ok (.iload_n 1, 1) := by decide +kernel
theorem dX12_behindWord_2 : decode cX12_behindWord 2 = .ok (.invokevirtual 228, 3) := by decide +kernel
theorem dX12_behindWord_5 : decode cX12_behindWord 5 = .ok (.aload_n 0, 1) := by decide +kernel
theorem dX12_behindWord_6 : decode cX12_behindWord 6 = .ok (.iload_n 2, 1) := by decide +kernel
theorem dX12_behindWord_7 : decode cX12_behindWord 7 = .ok (.iload_n 3, 1) := by decide +kernel
theorem dX12_behindWord_8 : decode cX12_behindWord 8 = .ok (.invokevirtual 232, 3) := by decide +kernel
theorem dX12_behindWord_11 : decode cX12_behindWord 11 = .ok (.ireturn, 1) := by decide +kernel
theorem dX12_perhaps_0 : decode cX12_perhaps 0 = .ok (.aload_n 0, 1) := by decide +kernel
theorem dX12_perhaps_1 : decode cX12_perhaps 1 = .ok (.getfield 212, 3) := by decide +kernel
theorem dX12_perhaps_4 : decode cX12_perhaps 4 = .ok (.ifCond .gt 7, 3) := by decide +kernel
theorem dX12_perhaps_7 : decode cX12_perhaps 7 = .ok (.iload_n 1, 1) := by decide +kernel
theorem dX12_perhaps_8 : decode cX12_perhaps 8 = .ok (.ifCond .ne 5, 3) := by decide +kernel
theorem dX12_perhaps_11 : decode cX12_perhaps 11 = .ok (.iconst 0, 1) := by decide +kernel
theorem dX12_perhaps_12 : decode cX12_perhaps 12 = .ok (.ireturn, 1) := by decide +kernel
theorem dX12_perhaps_13 : decode cX12_perhaps 13 = .ok (.aload_n 0, 1) := by decide +kernel
theorem dX12_perhaps_14 : decode cX12_perhaps 14 = .ok (.invokevirtual 222, 3) := by decide +kernel
theorem dX12_perhaps_17 : decode cX12_perhaps 17 = .ok (.iconst 1, 1) := by decide +kernel
theorem dX12_perhaps_18 : decode cX12_perhaps 18 = .ok (.ireturn, 1) := by decide +kernel
theorem dX12_feed_0 : decode cX12_feed 0 = .ok (.aload_n 0, 1) := by decide +kernel
theorem dX12_feed_1 : decode cX12_feed 1 = .ok (.iconst 0, 1) := by decide +kernel
theorem dX12_feed_2 : decode cX12_feed 2 = .ok (.putfield 69, 3) := by decide +kernel
theorem dX12_feed_5 : decode cX12_feed 5 = .ok (.aload_n 0, 1) := by decide +kernel
theorem dX12_feed_6 : decode cX12_feed 6 = .ok (.getfield 235, 3) := by decide +kernel
theorem dX12_feed_9 : decode cX12_feed 9 = .ok (.bipush 20, 2) := by decide +kernel
theorem dX12_feed_11 : decode cX12_feed 11 = .ok (.iadd, 1) := by decide +kernel
theorem dX12_feed_12 : decode cX12_feed 12 = .ok (.sipush 900, 3) := by decide +kernel
theorem dX12_feed_15 : decode cX12_feed 15 = .ok (.if_icmp .le 5, 3) := by decide +kernel
theorem dX12_feed_18 : decode cX12_feed 18 = .ok (.iconst (-1), 1) := by decide +kernel
theorem dX12_feed_19 : decode cX12_feed 19 = .ok (.ireturn, 1) := by decide +kernel
theorem dX12_feed_20 : decode cX12_feed 20 = .ok (.aload_n 0, 1) := by decide +kernel
theorem dX12_feed_21 : decode cX12_feed 21 = .ok (.iload_n 1, 1) := by decide +kernel
theorem dX12_feed_22 : decode cX12_feed 22 = .ok (.invokevirtual 238, 3) := by decide +kernel
theorem dX12_feed_25 : decode cX12_feed 25 = .ok (.aload_n 0, 1) := by decide +kernel
theorem dX12_feed_26 : decode cX12_feed 26 = .ok (.iload_n 2, 1) := by decide +kernel
theorem dX12_feed_27 : decode cX12_feed 27 = .ok (.invokevirtual 238, 3) := by decide +kernel
theorem dX12_feed_30 : decode cX12_feed 30 = .ok (.aload_n 0, 1) := by decide +kernel
theorem dX12_feed_31 : decode cX12_feed 31 = .ok (.iload_n 3, 1) := by decide +kernel
theorem dX12_feed_32 : decode cX12_feed 32 = .ok (.invokevirtual 238, 3) := by decide +kernel
theorem dX12_feed_35 : decode cX12_feed 35 = .ok (.aload_n 0, 1) := by decide +kernel
theorem dX12_feed_36 : decode cX12_feed 36 = .ok (.iload 4, 2) := by decide +kernel
theorem dX12_feed_38 : decode cX12_feed 38 = .ok (.invokevirtual 238, 3) := by decide +kernel
theorem dX12_feed_41 : decode cX12_feed 41 = .ok (.aload_n 0, 1) := by decide +kernel
theorem dX12_feed_42 : decode cX12_feed 42 = .ok (.iload 5, 2) := by decide +kernel
theorem dX12_feed_44 : decode cX12_feed 44 = .ok (.invokevirtual 238, 3) := by decide +kernel
theorem dX12_feed_47 : decode cX12_feed 47 = .ok (.aload_n 0, 1) := by decide +kernel
theorem dX12_feed_48 : decode cX12_feed 48 = .ok (.getfield 235, 3) := by decide +kernel
theorem dX12_feed_51 : decode cX12_feed 51 = .ok (.ireturn, 1) := by decide +kernel
theorem dX12_lay_0 : decode cX12_lay 0 = .ok (.iconst 3, 1) := by decide +kernel
theorem dX12_lay_1 : decode cX12_lay 1 = .ok (.istore_n 2, 1) := by decide +kernel
theorem dX12_lay_2 : decode cX12_lay 2 = .ok (.iload_n 2, 1) := by decide +kernel
theorem dX12_lay_3 : decode cX12_lay 3 = .ok (.ifCond .lt 35, 3) := by decide +kernel
theorem dX12_lay_6 : decode cX12_lay 6 = .ok (.aload_n 0, 1) := by decide +kernel
theorem dX12_lay_7 : decode cX12_lay 7 = .ok (.getfield 24, 3) := by decide +kernel
theorem dX12_lay_10 : decode cX12_lay 10 = .ok (.aload_n 0, 1) := by decide +kernel
theorem dX12_lay_11 : decode cX12_lay 11 = .ok (.getfield 235, 3) := by decide +kernel
theorem dX12_lay_14 : decode cX12_lay 14 = .ok (.iload_n 1, 1) := by decide +kernel
theorem dX12_lay_15 : decode cX12_lay 15 = .ok (.bipush 8, 2) := by decide +kernel
theorem dX12_lay_17 : decode cX12_lay 17 = .ok (.iload_n 2, 1) := by decide +kernel
theorem dX12_lay_18 : decode cX12_lay 18 = .ok (.imul, 1) := by decide +kernel
theorem dX12_lay_19 : decode cX12_lay 19 = .ok (.ishr, 1) := by decide +kernel
theorem dX12_lay_20 : decode cX12_lay 20 = .ok (.i2b, 1) := by decide +kernel
theorem dX12_lay_21 : decode cX12_lay 21 = .ok (.bastore, 1) := by decide +kernel
theorem dX12_lay_22 : decode cX12_lay 22 = .ok (.aload_n 0, 1) := by decide +kernel
theorem dX12_lay_23 : decode cX12_lay 23 = .ok (.dup, 1) := by decide +kernel
theorem dX12_lay_24 : decode cX12_lay 24 = .ok (.getfield 235, 3) := by decide +kernel
theorem dX12_lay_27 : decode cX12_lay 27 = .ok (.iconst 1, 1) := by decide +kernel
theorem dX12_lay_28 : decode cX12_lay 28 = .ok (.iadd, 1) := by decide +kernel
theorem dX12_lay_29 : decode cX12_lay 29 = .ok (.putfield 235, 3) := by decide +kernel
theorem dX12_lay_32 : decode cX12_lay 32 = .ok (.iinc 2 (-1), 3) := by decide +kernel
theorem dX12_lay_35 : decode cX12_lay 35 = .ok (.goto (-33), 3) := by decide +kernel
theorem dX12_lay_38 : decode cX12_lay 38 = .ok (.return_, 1) := by decide +kernel
theorem dX12_starts_0 : decode cX12_starts 0 = .ok (.iload_n 1, 1) := by decide +kernel
theorem dX12_starts_1 : decode cX12_starts 1 = .ok (.ifCond .lt 16, 3) := by decide +kernel
theorem dX12_starts_4 : decode cX12_starts 4 = .ok (.iload_n 1, 1) := by decide +kernel
theorem dX12_starts_5 : decode cX12_starts 5 = .ok (.aload_n 0, 1) := by decide +kernel
theorem dX12_starts_6 : decode cX12_starts 6 = .ok (.getfield 235, 3) := by decide +kernel
theorem dX12_starts_9 : decode cX12_starts 9 = .ok (.if_icmp .gt 8, 3) := by decide +kernel
theorem dX12_starts_12 : decode cX12_starts 12 = .ok (.iload_n 1, 1) := by decide +kernel
theorem dX12_starts_13 : decode cX12_starts 13 = .ok (.iload_n 2, 1) := by decide +kernel
theorem dX12_starts_14 : decode cX12_starts 14 = .ok (.if_icmp .le 9, 3) := by decide +kernel
theorem dX12_starts_17 : decode cX12_starts 17 = .ok (.aload_n 0, 1) := by decide +kernel
theorem dX12_starts_18 : decode cX12_starts 18 = .ok (.iconst 5, 1) := by decide +kernel
theorem dX12_starts_19 : decode cX12_starts 19 = .ok (.invokevirtual 84, 3) := by decide +kernel
theorem dX12_starts_22 : decode cX12_starts 22 = .ok (.ireturn, 1) := by decide +kernel
theorem dX12_starts_23 : decode cX12_starts 23 = .ok (.aload_n 0, 1) := by decide +kernel
theorem dX12_starts_24 : decode cX12_starts 24 = .ok (.iload_n 1, 1) := by decide +kernel
theorem dX12_starts_25 : decode cX12_starts 25 = .ok (.putfield 112, 3) := by decide +kernel
theorem dX12_starts_28 : decode cX12_starts 28 = .ok (.aload_n 0, 1) := by decide +kernel
theorem dX12_starts_29 : decode cX12_starts 29 = .ok (.iconst 0, 1) := by decide +kernel
theorem dX12_starts_30 : decode cX12_starts 30 = .ok (.putfield 235, 3) := by decide +kernel
theorem dX12_starts_33 : decode cX12_starts 33 = .ok (.aload_n 0, 1) := by decide +kernel
theorem dX12_starts_34 : decode cX12_starts 34 = .ok (.iconst 0, 1) := by decide +kernel
theorem dX12_starts_35 : decode cX12_starts 35 = .ok (.putfield 115, 3) := by decide +kernel
theorem dX12_starts_38 : decode cX12_starts 38 = .ok (.aload_n 0, 1) := by decide +kernel
theorem dX12_starts_39 : decode cX12_starts 39 = .ok (.iconst 0, 1) := by decide +kernel
theorem dX12_starts_40 : decode cX12_starts 40 = .ok (.putfield 212, 3) := by decide +kernel
theorem dX12_starts_43 : decode cX12_starts 43 = .ok (.aload_n 0, 1) := by decide +kernel
theorem dX12_starts_44 : decode cX12_starts 44 = .ok (.invokevirtual 222, 3) := by decide +kernel
theorem dX12_starts_47 : decode cX12_starts 47 = .ok (.iconst 1, 1) := by decide +kernel
theorem dX12_starts_48 : decode cX12_starts 48 = .ok (.ireturn, 1) := by decide +kernel
theorem dX12_isWell_0 : decode cX12_isWell 0 = .ok (.aload_n 0, 1) := by decide +kernel
theorem dX12_isWell_1 : decode cX12_isWell 1 = .ok (.aload_n 0, 1) := by decide +kernel
theorem dX12_isWell_2 : decode cX12_isWell 2 = .ok (.getfield 212, 3) := by decide +kernel
theorem dX12_isWell_5 : decode cX12_isWell 5 = .ok (.putfield 28, 3) := by decide +kernel
theorem dX12_isWell_8 : decode cX12_isWell 8 = .ok (.aload_n 0, 1) := by decide +kernel
theorem dX12_isWell_9 : decode cX12_isWell 9 = .ok (.aload_n 0, 1) := by decide +kernel
theorem dX12_isWell_10 : decode cX12_isWell 10 = .ok (.getfield 212, 3) := by decide +kernel
theorem dX12_isWell_13 : decode cX12_isWell 13 = .ok (.ifCond .ne 7, 3) := by decide +kernel
theorem dX12_isWell_16 : decode cX12_isWell 16 = .ok (.iconst (-1), 1) := by decide +kernel
theorem dX12_isWell_17 : decode cX12_isWell 17 = .ok (.goto 7, 3) := by decide +kernel
theorem dX12_isWell_20 : decode cX12_isWell 20 = .ok (.aload_n 0, 1) := by decide +kernel
theorem dX12_isWell_21 : decode cX12_isWell 21 = .ok (.getfield 215, 3) := by decide +kernel
theorem dX12_isWell_24 : decode cX12_isWell 24 = .ok (.putfield 32, 3) := by decide +kernel
theorem dX12_isWell_27 : decode cX12_isWell 27 = .ok (.aload_n 0, 1) := by decide +kernel
theorem dX12_isWell_28 : decode cX12_isWell 28 = .ok (.getfield 212, 3) := by decide +kernel
theorem dX12_isWell_31 : decode cX12_isWell 31 = .ok (.ifCond .eq 12, 3) := by decide +kernel
theorem dX12_isWell_34 : decode cX12_isWell 34 = .ok (.aload_n 0, 1) := by decide +kernel
theorem dX12_isWell_35 : decode cX12_isWell 35 = .ok (.bipush 10, 2) := by decide +kernel
theorem dX12_isWell_37 : decode cX12_isWell 37 = .ok (.invokevirtual 84, 3) := by decide +kernel
theorem dX12_isWell_40 : decode cX12_isWell 40 = .ok (.ifCond .eq 7, 3) := by decide +kernel
theorem dX12_isWell_43 : decode cX12_isWell 43 = .ok (.iconst 1, 1) := by decide +kernel
theorem dX12_isWell_44 : decode cX12_isWell 44 = .ok (.goto 4, 3) := by decide +kernel
theorem dX12_isWell_47 : decode cX12_isWell 47 = .ok (.iconst 0, 1) := by decide +kernel
theorem dX12_isWell_48 : decode cX12_isWell 48 = .ok (.ireturn, 1) := by decide +kernel
theorem dX12_fault_0 : decode cX12_fault 0 = .ok (.aload_n 0, 1) := by decide +kernel
theorem dX12_fault_1 : decode cX12_fault 1 = .ok (.iconst 0, 1) := by decide +kernel
theorem dX12_fault_2 : decode cX12_fault 2 = .ok (.putfield 69, 3) := by decide +kernel
theorem dX12_fault_5 : decode cX12_fault 5 = .ok (.iload_n 1, 1) := by decide +kernel
theorem dX12_fault_6 : decode cX12_fault 6 = .ok (.ifCond .ne 10, 3) := by decide +kernel
theorem dX12_fault_9 : decode cX12_fault 9 = .ok (.aload_n 0, 1) := by decide +kernel
theorem dX12_fault_10 : decode cX12_fault 10 = .ok (.getfield 28, 3) := by decide +kernel
theorem dX12_fault_13 : decode cX12_fault 13 = .ok (.goto 16, 3) := by decide +kernel
theorem dX12_fault_16 : decode cX12_fault 16 = .ok (.iload_n 1, 1) := by decide +kernel
theorem dX12_fault_17 : decode cX12_fault 17 = .ok (.iconst 1, 1) := by decide +kernel
theorem dX12_fault_18 : decode cX12_fault 18 = .ok (.if_icmp .ne 10, 3) := by decide +kernel
theorem dX12_fault_21 : decode cX12_fault 21 = .ok (.aload_n 0, 1) := by decide +kernel
theorem dX12_fault_22 : decode cX12_fault 22 = .ok (.getfield 32, 3) := by decide +kernel
theorem dX12_fault_25 : decode cX12_fault 25 = .ok (.goto 4, 3) := by decide +kernel
theorem dX12_fault_28 : decode cX12_fault 28 = .ok (.iconst (-1), 1) := by decide +kernel
theorem dX12_fault_29 : decode cX12_fault 29 = .ok (.ireturn, 1) := by decide +kernel
theorem dX12_empties_0 : decode cX12_empties 0 = .ok (.iconst 0, 1) := by decide +kernel
theorem dX12_empties_1 : decode cX12_empties 1 = .ok (.istore_n 2, 1) := by decide +kernel
theorem dX12_empties_2 : decode cX12_empties 2 = .ok (.iload_n 2, 1) := by decide +kernel
theorem dX12_empties_3 : decode cX12_empties 3 = .ok (.sipush 362, 3) := by decide +kernel
theorem dX12_empties_6 : decode cX12_empties 6 = .ok (.if_icmp .ge 22, 3) := by decide +kernel
theorem dX12_empties_9 : decode cX12_empties 9 = .ok (.aload_n 0, 1) := by decide +kernel
theorem dX12_empties_10 : decode cX12_empties 10 = .ok (.getfield 35, 3) := by decide +kernel
theorem dX12_empties_13 : decode cX12_empties 13 = .ok (.sipush 362, 3) := by decide +kernel
theorem dX12_empties_16 : decode cX12_empties 16 = .ok (.iload_n 1, 1) := by decide +kernel
theorem dX12_empties_17 : decode cX12_empties 17 = .ok (.imul, 1) := by decide +kernel
theorem dX12_empties_18 : decode cX12_empties 18 = .ok (.iload_n 2, 1) := by decide +kernel
theorem dX12_empties_19 : decode cX12_empties 19 = .ok (.iadd, 1) := by decide +kernel
theorem dX12_empties_20 : decode cX12_empties 20 = .ok (.iconst 0, 1) := by decide +kernel
theorem dX12_empties_21 : decode cX12_empties 21 = .ok (.iastore, 1) := by decide +kernel
theorem dX12_empties_22 : decode cX12_empties 22 = .ok (.iinc 2 1, 3) := by decide +kernel
theorem dX12_empties_25 : decode cX12_empties 25 = .ok (.goto (-23), 3) := by decide +kernel
theorem dX12_empties_28 : decode cX12_empties 28 = .ok (.aload_n 0, 1) := by decide +kernel
theorem dX12_empties_29 : decode cX12_empties 29 = .ok (.getfield 35, 3) := by decide +kernel
theorem dX12_empties_32 : decode cX12_empties 32 = .ok (.sipush 362, 3) := by decide +kernel
theorem dX12_empties_35 : decode cX12_empties 35 = .ok (.iload_n 1, 1) := by decide +kernel
theorem dX12_empties_36 : decode cX12_empties 36 = .ok (.imul, 1) := by decide +kernel
theorem dX12_empties_37 : decode cX12_empties 37 = .ok (.iconst 4, 1) := by decide +kernel
theorem dX12_empties_38 : decode cX12_empties 38 = .ok (.iadd, 1) := by decide +kernel
theorem dX12_empties_39 : decode cX12_empties 39 = .ok (.iconst 4, 1) := by decide +kernel
theorem dX12_empties_40 : decode cX12_empties 40 = .ok (.iastore, 1) := by decide +kernel
theorem dX12_empties_41 : decode cX12_empties 41 = .ok (.return_, 1) := by decide +kernel
theorem dX12_named_0 : decode cX12_named 0 = .ok (.aload_n 0, 1) := by decide +kernel
theorem dX12_named_1 : decode cX12_named 1 = .ok (.getfield 35, 3) := by decide +kernel
theorem dX12_named_4 : decode cX12_named 4 = .ok (.sipush 362, 3) := by decide +kernel
theorem dX12_named_7 : decode cX12_named 7 = .ok (.iload_n 1, 1) := by decide +kernel
theorem dX12_named_8 : decode cX12_named 8 = .ok (.imul, 1) := by decide +kernel
theorem dX12_named_9 : decode cX12_named 9 = .ok (.iload_n 2, 1) := by decide +kernel
theorem dX12_named_10 : decode cX12_named 10 = .ok (.ifCond .ne 7, 3) := by decide +kernel
theorem dX12_named_13 : decode cX12_named 13 = .ok (.iconst 0, 1) := by decide +kernel
theorem dX12_named_14 : decode cX12_named 14 = .ok (.goto 4, 3) := by decide +kernel
theorem dX12_named_17 : decode cX12_named 17 = .ok (.iconst 2, 1) := by decide +kernel
theorem dX12_named_18 : decode cX12_named 18 = .ok (.iadd, 1) := by decide +kernel
theorem dX12_named_19 : decode cX12_named 19 = .ok (.iaload, 1) := by decide +kernel
theorem dX12_named_20 : decode cX12_named 20 = .ok (.istore_n 3, 1) := by decide +kernel
theorem dX12_named_21 : decode cX12_named 21 = .ok (.iconst 0, 1) := by decide +kernel
theorem dX12_named_22 : decode cX12_named 22 = .ok (.istore 4, 2) := by decide +kernel
theorem dX12_named_24 : decode cX12_named 24 = .ok (.iload 4, 2) := by decide +kernel
theorem dX12_named_26 : decode cX12_named 26 = .ok (.iload_n 3, 1) := by decide +kernel
theorem dX12_named_27 : decode cX12_named 27 = .ok (.if_icmp .ge 37, 3) := by decide +kernel
theorem dX12_named_30 : decode cX12_named 30 = .ok (.aload_n 0, 1) := by decide +kernel
theorem dX12_named_31 : decode cX12_named 31 = .ok (.getfield 41, 3) := by decide +kernel
theorem dX12_named_34 : decode cX12_named 34 = .ok (.bipush 13, 2) := by decide +kernel
theorem dX12_named_36 : decode cX12_named 36 = .ok (.iload_n 1, 1) := by decide +kernel
theorem dX12_named_37 : decode cX12_named 37 = .ok (.imul, 1) := by decide +kernel
theorem dX12_named_38 : decode cX12_named 38 = .ok (.bipush 6, 2) := by decide +kernel
theorem dX12_named_40 : decode cX12_named 40 = .ok (.iload_n 2, 1) := by decide +kernel
theorem dX12_named_41 : decode cX12_named 41 = .ok (.imul, 1) := by decide +kernel
theorem dX12_named_42 : decode cX12_named 42 = .ok (.iadd, 1) := by decide +kernel
theorem dX12_named_43 : decode cX12_named 43 = .ok (.iload 4, 2) := by decide +kernel
theorem dX12_named_45 : decode cX12_named 45 = .ok (.iadd, 1) := by decide +kernel
theorem dX12_named_46 : decode cX12_named 46 = .ok (.laload, 1) := by decide +kernel
theorem dX12_named_47 : decode cX12_named 47 = .ok (.aload_n 0, 1) := by decide +kernel
theorem dX12_named_48 : decode cX12_named 48 = .ok (.getfield 130, 3) := by decide +kernel
theorem dX12_named_51 : decode cX12_named 51 = .ok (.lcmp, 1) := by decide +kernel
theorem dX12_named_52 : decode cX12_named 52 = .ok (.ifCond .ne 6, 3) := by decide +kernel
theorem dX12_named_55 : decode cX12_named 55 = .ok (.iload 4, 2) := by decide +kernel
theorem dX12_named_57 : decode cX12_named 57 = .ok (.ireturn, 1) := by decide +kernel
theorem dX12_named_58 : decode cX12_named 58 = .ok (.iinc 4 1, 3) := by decide +kernel
theorem dX12_named_61 : decode cX12_named 61 = .ok (.goto (-37), 3) := by decide +kernel
theorem dX12_named_64 : decode cX12_named 64 = .ok (.iconst (-1), 1) := by decide +kernel
theorem dX12_named_65 : decode cX12_named 65 = .ok (.ireturn, 1) := by decide +kernel
theorem dX12_readNew_0 : decode cX12_readNew 0 = .ok (.aload_n 0, 1) := by decide +kernel
theorem dX12_readNew_1 : decode cX12_readNew 1 = .ok (.getfield 35, 3) := by decide +kernel
theorem dX12_readNew_4 : decode cX12_readNew 4 = .ok (.sipush 1448, 3) := by decide +kernel
theorem dX12_readNew_7 : decode cX12_readNew 7 = .ok (.iload_n 1, 1) := by decide +kernel
theorem dX12_readNew_8 : decode cX12_readNew 8 = .ok (.ifCond .ne 7, 3) := by decide +kernel
theorem dX12_readNew_11 : decode cX12_readNew 11 = .ok (.iconst 0, 1) := by decide +kernel
theorem dX12_readNew_12 : decode cX12_readNew 12 = .ok (.goto 4, 3) := by decide +kernel
theorem dX12_readNew_15 : decode cX12_readNew 15 = .ok (.iconst 2, 1) := by decide +kernel
theorem dX12_readNew_16 : decode cX12_readNew 16 = .ok (.iadd, 1) := by decide +kernel
theorem dX12_readNew_17 : decode cX12_readNew 17 = .ok (.iaload, 1) := by decide +kernel
theorem dX12_readNew_18 : decode cX12_readNew 18 = .ok (.istore_n 3, 1) := by decide +kernel
theorem dX12_readNew_19 : decode cX12_readNew 19 = .ok (.iload_n 3, 1) := by decide +kernel
theorem dX12_readNew_20 : decode cX12_readNew 20 = .ok (.iload_n 2, 1) := by decide +kernel
theorem dX12_readNew_21 : decode cX12_readNew 21 = .ok (.if_icmp .ne 13, 3) := by decide +kernel
theorem dX12_readNew_24 : decode cX12_readNew 24 = .ok (.aload_n 0, 1) := by decide +kernel
theorem dX12_readNew_25 : decode cX12_readNew 25 = .ok (.bipush 6, 2) := by decide +kernel
theorem dX12_readNew_27 : decode cX12_readNew 27 = .ok (.aload_n 0, 1) := by decide +kernel
theorem dX12_readNew_28 : decode cX12_readNew 28 = .ok (.getfield 118, 3) := by decide +kernel
theorem dX12_readNew_31 : decode cX12_readNew 31 = .ok (.invokevirtual 218, 3) := by decide +kernel
theorem dX12_readNew_34 : decode cX12_readNew 34 = .ok (.aload_n 0, 1) := by decide +kernel
theorem dX12_readNew_35 : decode cX12_readNew 35 = .ok (.iconst 1, 1) := by decide +kernel
theorem dX12_readNew_36 : decode cX12_readNew 36 = .ok (.invokevirtual 228, 3) := by decide +kernel
theorem dX12_readNew_39 : decode cX12_readNew 39 = .ok (.aload_n 0, 1) := by decide +kernel
theorem dX12_readNew_40 : decode cX12_readNew 40 = .ok (.getfield 212, 3) := by decide +kernel
theorem dX12_readNew_43 : decode cX12_readNew 43 = .ok (.ifCond .ne 14, 3) := by decide +kernel
theorem dX12_readNew_46 : decode cX12_readNew 46 = .ok (.aload_n 0, 1) := by decide +kernel
theorem dX12_readNew_47 : decode cX12_readNew 47 = .ok (.invokevirtual 241, 3) := by decide +kernel
theorem dX12_readNew_50 : decode cX12_readNew 50 = .ok (.ifCond .ne 7, 3) := by decide +kernel
theorem dX12_readNew_53 : decode cX12_readNew 53 = .ok (.aload_n 0, 1) := by decide +kernel
theorem dX12_readNew_54 : decode cX12_readNew 54 = .ok (.invokevirtual 225, 3) := by decide +kernel
theorem dX12_readNew_57 : decode cX12_readNew 57 = .ok (.aload_n 0, 1) := by decide +kernel
theorem dX12_readNew_58 : decode cX12_readNew 58 = .ok (.getfield 212, 3) := by decide +kernel
theorem dX12_readNew_61 : decode cX12_readNew 61 = .ok (.ifCond .ne 30, 3) := by decide +kernel
theorem dX12_readNew_64 : decode cX12_readNew 64 = .ok (.aload_n 0, 1) := by decide +kernel
theorem dX12_readNew_65 : decode cX12_readNew 65 = .ok (.iconst 4, 1) := by decide +kernel
theorem dX12_readNew_66 : decode cX12_readNew 66 = .ok (.iconst 0, 1) := by decide +kernel
theorem dX12_readNew_67 : decode cX12_readNew 67 = .ok (.invokevirtual 244, 3) := by decide +kernel
theorem dX12_readNew_70 : decode cX12_readNew 70 = .ok (.ifCond .ge 12, 3) := by decide +kernel
theorem dX12_readNew_73 : decode cX12_readNew 73 = .ok (.aload_n 0, 1) := by decide +kernel
theorem dX12_readNew_74 : decode cX12_readNew 74 = .ok (.iconst 4, 1) := by decide +kernel
theorem dX12_readNew_75 : decode cX12_readNew 75 = .ok (.iconst 1, 1) := by decide +kernel
theorem dX12_readNew_76 : decode cX12_readNew 76 = .ok (.invokevirtual 244, 3) := by decide +kernel
theorem dX12_readNew_79 : decode cX12_readNew 79 = .ok (.ifCond .lt 12, 3) := by decide +kernel
theorem dX12_readNew_82 : decode cX12_readNew 82 = .ok (.aload_n 0, 1) := by decide +kernel
theorem dX12_readNew_83 : decode cX12_readNew 83 = .ok (.iconst 3, 1) := by decide +kernel
theorem dX12_readNew_84 : decode cX12_readNew 84 = .ok (.aload_n 0, 1) := by decide +kernel
theorem dX12_readNew_85 : decode cX12_readNew 85 = .ok (.getfield 118, 3) := by decide +kernel
theorem dX12_readNew_88 : decode cX12_readNew 88 = .ok (.invokevirtual 218, 3) := by decide +kernel
theorem dX12_readNew_91 : decode cX12_readNew 91 = .ok (.aload_n 0, 1) := by decide +kernel
theorem dX12_readNew_92 : decode cX12_readNew 92 = .ok (.getfield 212, 3) := by decide +kernel
theorem dX12_readNew_95 : decode cX12_readNew 95 = .ok (.ifCond .ne 21, 3) := by decide +kernel
theorem dX12_readNew_98 : decode cX12_readNew 98 = .ok (.aload_n 0, 1) := by decide +kernel
theorem dX12_readNew_99 : decode cX12_readNew 99 = .ok (.getfield 41, 3) := by decide +kernel
theorem dX12_readNew_102 : decode cX12_readNew 102 = .ok (.bipush 52, 2) := by decide +kernel
theorem dX12_readNew_104 : decode cX12_readNew 104 = .ok (.bipush 6, 2) := by decide +kernel
theorem dX12_readNew_106 : decode cX12_readNew 106 = .ok (.iload_n 1, 1) := by decide +kernel
theorem dX12_readNew_107 : decode cX12_readNew 107 = .ok (.imul, 1) := by decide +kernel
theorem dX12_readNew_108 : decode cX12_readNew 108 = .ok (.iadd, 1) := by decide +kernel
theorem dX12_readNew_109 : decode cX12_readNew 109 = .ok (.iload_n 3, 1) := by decide +kernel
theorem dX12_readNew_110 : decode cX12_readNew 110 = .ok (.iadd, 1) := by decide +kernel
theorem dX12_readNew_111 : decode cX12_readNew 111 = .ok (.aload_n 0, 1) := by decide +kernel
theorem dX12_readNew_112 : decode cX12_readNew 112 = .ok (.getfield 130, 3) := by decide +kernel
theorem dX12_readNew_115 : decode cX12_readNew 115 = .ok (.lastore, 1) := by decide +kernel
theorem dX12_readNew_116 : decode cX12_readNew 116 = .ok (.aload_n 0, 1) := by decide +kernel
theorem dX12_readNew_117 : decode cX12_readNew 117 = .ok (.iconst 1, 1) := by decide +kernel
theorem dX12_readNew_118 : decode cX12_readNew 118 = .ok (.invokevirtual 228, 3) := by decide +kernel
theorem dX12_readNew_121 : decode cX12_readNew 121 = .ok (.iload_n 3, 1) := by decide +kernel
theorem dX12_readNew_122 : decode cX12_readNew 122 = .ok (.ireturn, 1) := by decide +kernel
theorem dX12_told_0 : decode cX12_told 0 = .ok (.aload_n 0, 1) := by decide +kernel
theorem dX12_told_1 : decode cX12_told 1 = .ok (.getfield 212, 3) := by decide +kernel
theorem dX12_told_4 : decode cX12_told 4 = .ok (.ifCond .ne 14, 3) := by decide +kernel
theorem dX12_told_7 : decode cX12_told 7 = .ok (.aload_n 0, 1) := by decide +kernel
theorem dX12_told_8 : decode cX12_told 8 = .ok (.invokevirtual 241, 3) := by decide +kernel
theorem dX12_told_11 : decode cX12_told 11 = .ok (.ifCond .ne 7, 3) := by decide +kernel
theorem dX12_told_14 : decode cX12_told 14 = .ok (.aload_n 0, 1) := by decide +kernel
theorem dX12_told_15 : decode cX12_told 15 = .ok (.invokevirtual 225, 3) := by decide +kernel
theorem dX12_told_18 : decode cX12_told 18 = .ok (.aload_n 0, 1) := by decide +kernel
theorem dX12_told_19 : decode cX12_told 19 = .ok (.getfield 212, 3) := by decide +kernel
theorem dX12_told_22 : decode cX12_told 22 = .ok (.ifCond .le 5, 3) := by decide +kernel
theorem dX12_told_25 : decode cX12_told 25 = .ok (.iconst 0, 1) := by decide +kernel
theorem dX12_told_26 : decode cX12_told 26 = .ok (.ireturn, 1) := by decide +kernel
theorem dX12_told_27 : decode cX12_told 27 = .ok (.aload_n 0, 1) := by decide +kernel
theorem dX12_told_28 : decode cX12_told 28 = .ok (.iload_n 1, 1) := by decide +kernel
theorem dX12_told_29 : decode cX12_told 29 = .ok (.iload_n 2, 1) := by decide +kernel
theorem dX12_told_30 : decode cX12_told 30 = .ok (.invokevirtual 244, 3) := by decide +kernel
theorem dX12_told_33 : decode cX12_told 33 = .ok (.istore_n 3, 1) := by decide +kernel
theorem dX12_told_34 : decode cX12_told 34 = .ok (.iload_n 3, 1) := by decide +kernel
theorem dX12_told_35 : decode cX12_told 35 = .ok (.ifCond .ge 12, 3) := by decide +kernel
theorem dX12_told_38 : decode cX12_told 38 = .ok (.aload_n 0, 1) := by decide +kernel
theorem dX12_told_39 : decode cX12_told 39 = .ok (.iconst 3, 1) := by decide +kernel
theorem dX12_told_40 : decode cX12_told 40 = .ok (.aload_n 0, 1) := by decide +kernel
theorem dX12_told_41 : decode cX12_told 41 = .ok (.getfield 118, 3) := by decide +kernel
theorem dX12_told_44 : decode cX12_told 44 = .ok (.invokevirtual 218, 3) := by decide +kernel
theorem dX12_told_47 : decode cX12_told 47 = .ok (.iconst 0, 1) := by decide +kernel
theorem dX12_told_48 : decode cX12_told 48 = .ok (.iload_n 3, 1) := by decide +kernel
theorem dX12_told_49 : decode cX12_told 49 = .ok (.invokestatic 247, 3) := by decide +kernel
theorem dX12_told_52 : decode cX12_told 52 = .ok (.ireturn, 1) := by decide +kernel
theorem dX12_readTold_0 : decode cX12_readTold 0 = .ok (.aload_n 0, 1) := by decide +kernel
theorem dX12_readTold_1 : decode cX12_readTold 1 = .ok (.iload_n 1, 1) := by decide +kernel
theorem dX12_readTold_2 : decode cX12_readTold 2 = .ok (.iload_n 2, 1) := by decide +kernel
theorem dX12_readTold_3 : decode cX12_readTold 3 = .ok (.invokevirtual 250, 3) := by decide +kernel
theorem dX12_readTold_6 : decode cX12_readTold 6 = .ok (.istore_n 3, 1) := by decide +kernel
theorem dX12_readTold_7 : decode cX12_readTold 7 = .ok (.aload_n 0, 1) := by decide +kernel
theorem dX12_readTold_8 : decode cX12_readTold 8 = .ok (.iconst 1, 1) := by decide +kernel
theorem dX12_readTold_9 : decode cX12_readTold 9 = .ok (.invokevirtual 228, 3) := by decide +kernel
theorem dX12_readTold_12 : decode cX12_readTold 12 = .ok (.iload_n 3, 1) := by decide +kernel
theorem dX12_readTold_13 : decode cX12_readTold 13 = .ok (.ireturn, 1) := by decide +kernel
theorem dX12_readOdds_0 : decode cX12_readOdds 0 = .ok (.aload_n 0, 1) := by decide +kernel
theorem dX12_readOdds_1 : decode cX12_readOdds 1 = .ok (.getfield 253, 3) := by decide +kernel
theorem dX12_readOdds_4 : decode cX12_readOdds 4 = .ok (.ifCond .eq 12, 3) := by decide +kernel
theorem dX12_readOdds_7 : decode cX12_readOdds 7 = .ok (.aload_n 0, 1) := by decide +kernel
theorem dX12_readOdds_8 : decode cX12_readOdds 8 = .ok (.iconst 5, 1) := by decide +kernel
theorem dX12_readOdds_9 : decode cX12_readOdds 9 = .ok (.aload_n 0, 1) := by decide +kernel
theorem dX12_readOdds_10 : decode cX12_readOdds 10 = .ok (.getfield 118, 3) := by decide +kernel
theorem dX12_readOdds_13 : decode cX12_readOdds 13 = .ok (.invokevirtual 218, 3) := by decide +kernel
theorem dX12_readOdds_16 : decode cX12_readOdds 16 = .ok (.aload_n 0, 1) := by decide +kernel
theorem dX12_readOdds_17 : decode cX12_readOdds 17 = .ok (.iconst 1, 1) := by decide +kernel
theorem dX12_readOdds_18 : decode cX12_readOdds 18 = .ok (.putfield 253, 3) := by decide +kernel
theorem dX12_readOdds_21 : decode cX12_readOdds 21 = .ok (.aload_n 0, 1) := by decide +kernel
theorem dX12_readOdds_22 : decode cX12_readOdds 22 = .ok (.iconst 1, 1) := by decide +kernel
theorem dX12_readOdds_23 : decode cX12_readOdds 23 = .ok (.invokevirtual 228, 3) := by decide +kernel
theorem dX12_readOdds_26 : decode cX12_readOdds 26 = .ok (.aload_n 0, 1) := by decide +kernel
theorem dX12_readOdds_27 : decode cX12_readOdds 27 = .ok (.iconst 0, 1) := by decide +kernel
theorem dX12_readOdds_28 : decode cX12_readOdds 28 = .ok (.bipush 16, 2) := by decide +kernel
theorem dX12_readOdds_30 : decode cX12_readOdds 30 = .ok (.invokevirtual 232, 3) := by decide +kernel
theorem dX12_readOdds_33 : decode cX12_readOdds 33 = .ok (.istore_n 1, 1) := by decide +kernel
theorem dX12_readOdds_34 : decode cX12_readOdds 34 = .ok (.aload_n 0, 1) := by decide +kernel
theorem dX12_readOdds_35 : decode cX12_readOdds 35 = .ok (.getfield 212, 3) := by decide +kernel
theorem dX12_readOdds_38 : decode cX12_readOdds 38 = .ok (.ifCond .ne 12, 3) := by decide +kernel
theorem dX12_readOdds_41 : decode cX12_readOdds 41 = .ok (.aload_n 0, 1) := by decide +kernel
theorem dX12_readOdds_42 : decode cX12_readOdds 42 = .ok (.getfield 35, 3) := by decide +kernel
theorem dX12_readOdds_45 : decode cX12_readOdds 45 = .ok (.sipush 1452, 3) := by decide +kernel
theorem dX12_readOdds_48 : decode cX12_readOdds 48 = .ok (.iload_n 1, 1) := by decide +kernel
theorem dX12_readOdds_49 : decode cX12_readOdds 49 = .ok (.iastore, 1) := by decide +kernel
theorem dX12_readOdds_50 : decode cX12_readOdds 50 = .ok (.return_, 1) := by decide +kernel
theorem dX12_readMatter_0 : decode cX12_readMatter 0 = .ok (.aload_n 0, 1) := by decide +kernel
theorem dX12_readMatter_1 : decode cX12_readMatter 1 = .ok (.iconst 0, 1) := by decide +kernel
theorem dX12_readMatter_2 : decode cX12_readMatter 2 = .ok (.bipush 6, 2) := by decide +kernel
theorem dX12_readMatter_4 : decode cX12_readMatter 4 = .ok (.invokevirtual 257, 3) := by decide +kernel
theorem dX12_readMatter_7 : decode cX12_readMatter 7 = .ok (.istore_n 1, 1) := by decide +kernel
theorem dX12_readMatter_8 : decode cX12_readMatter 8 = .ok (.aload_n 0, 1) := by decide +kernel
theorem dX12_readMatter_9 : decode cX12_readMatter 9 = .ok (.aload_n 0, 1) := by decide +kernel
theorem dX12_readMatter_10 : decode cX12_readMatter 10 = .ok (.invokevirtual 166, 3) := by decide +kernel
theorem dX12_readMatter_13 : decode cX12_readMatter 13 = .ok (.iconst 0, 1) := by decide +kernel
theorem dX12_readMatter_14 : decode cX12_readMatter 14 = .ok (.bipush 20, 2) := by decide +kernel
theorem dX12_readMatter_16 : decode cX12_readMatter 16 = .ok (.invokevirtual 260, 3) := by decide +kernel
theorem dX12_readMatter_19 : decode cX12_readMatter 19 = .ok (.istore_n 2, 1) := by decide +kernel
theorem dX12_readMatter_20 : decode cX12_readMatter 20 = .ok (.aload_n 0, 1) := by decide +kernel
theorem dX12_readMatter_21 : decode cX12_readMatter 21 = .ok (.aload_n 0, 1) := by decide +kernel
theorem dX12_readMatter_22 : decode cX12_readMatter 22 = .ok (.invokevirtual 169, 3) := by decide +kernel
theorem dX12_readMatter_25 : decode cX12_readMatter 25 = .ok (.invokevirtual 264, 3) := by decide +kernel
theorem dX12_readMatter_28 : decode cX12_readMatter 28 = .ok (.ifCond .eq 13, 3) := by decide +kernel
theorem dX12_readMatter_31 : decode cX12_readMatter 31 = .ok (.aload_n 0, 1) := by decide +kernel
theorem dX12_readMatter_32 : decode cX12_readMatter 32 = .ok (.iconst 0, 1) := by decide +kernel
theorem dX12_readMatter_33 : decode cX12_readMatter 33 = .ok (.bipush 100, 2) := by decide +kernel
theorem dX12_readMatter_35 : decode cX12_readMatter 35 = .ok (.invokevirtual 232, 3) := by decide +kernel
theorem dX12_readMatter_38 : decode cX12_readMatter 38 = .ok (.goto 4, 3) := by decide +kernel
theorem dX12_readMatter_41 : decode cX12_readMatter 41 = .ok (.iconst 0, 1) := by decide +kernel
theorem dX12_readMatter_42 : decode cX12_readMatter 42 = .ok (.istore_n 3, 1) := by decide +kernel
theorem dX12_readMatter_43 : decode cX12_readMatter 43 = .ok (.aload_n 0, 1) := by decide +kernel
theorem dX12_readMatter_44 : decode cX12_readMatter 44 = .ok (.getfield 212, 3) := by decide +kernel
theorem dX12_readMatter_47 : decode cX12_readMatter 47 = .ok (.ifCond .le 4, 3) := by decide +kernel
theorem dX12_readMatter_50 : decode cX12_readMatter 50 = .ok (.return_, 1) := by decide +kernel
theorem dX12_readMatter_51 : decode cX12_readMatter 51 = .ok (.aload_n 0, 1) := by decide +kernel
theorem dX12_readMatter_52 : decode cX12_readMatter 52 = .ok (.getfield 35, 3) := by decide +kernel
theorem dX12_readMatter_55 : decode cX12_readMatter 55 = .ok (.sipush 1460, 3) := by decide +kernel
theorem dX12_readMatter_58 : decode cX12_readMatter 58 = .ok (.iload_n 1, 1) := by decide +kernel
theorem dX12_readMatter_59 : decode cX12_readMatter 59 = .ok (.iadd, 1) := by decide +kernel
theorem dX12_readMatter_60 : decode cX12_readMatter 60 = .ok (.iload_n 2, 1) := by decide +kernel
theorem dX12_readMatter_61 : decode cX12_readMatter 61 = .ok (.iastore, 1) := by decide +kernel
theorem dX12_readMatter_62 : decode cX12_readMatter 62 = .ok (.aload_n 0, 1) := by decide +kernel
theorem dX12_readMatter_63 : decode cX12_readMatter 63 = .ok (.getfield 35, 3) := by decide +kernel
theorem dX12_readMatter_66 : decode cX12_readMatter 66 = .ok (.sipush 1454, 3) := by decide +kernel
theorem dX12_readMatter_69 : decode cX12_readMatter 69 = .ok (.iload_n 1, 1) := by decide +kernel
theorem dX12_readMatter_70 : decode cX12_readMatter 70 = .ok (.iadd, 1) := by decide +kernel
theorem dX12_readMatter_71 : decode cX12_readMatter 71 = .ok (.iload_n 3, 1) := by decide +kernel
theorem dX12_readMatter_72 : decode cX12_readMatter 72 = .ok (.iastore, 1) := by decide +kernel
theorem dX12_readMatter_73 : decode cX12_readMatter 73 = .ok (.aload_n 0, 1) := by decide +kernel
theorem dX12_readMatter_74 : decode cX12_readMatter 74 = .ok (.getfield 35, 3) := by decide +kernel
theorem dX12_readMatter_77 : decode cX12_readMatter 77 = .ok (.sipush 1448, 3) := by decide +kernel
theorem dX12_readMatter_80 : decode cX12_readMatter 80 = .ok (.dup2, 1) := by decide +kernel
theorem dX12_readMatter_81 : decode cX12_readMatter 81 = .ok (.iaload, 1) := by decide +kernel
theorem dX12_readMatter_82 : decode cX12_readMatter 82 = .ok (.iconst 1, 1) := by decide +kernel
theorem dX12_readMatter_83 : decode cX12_readMatter 83 = .ok (.iadd, 1) := by decide +kernel
theorem dX12_readMatter_84 : decode cX12_readMatter 84 = .ok (.iastore, 1) := by decide +kernel
theorem dX12_readMatter_85 : decode cX12_readMatter 85 = .ok (.return_, 1) := by decide +kernel
theorem dX12_isBound_0 : decode cX12_isBound 0 = .ok (.sipush 362, 3) := by decide +kernel
theorem dX12_isBound_3 : decode cX12_isBound 3 = .ok (.iload_n 1, 1) := by decide +kernel
theorem dX12_isBound_4 : decode cX12_isBound 4 = .ok (.imul, 1) := by decide +kernel
theorem dX12_isBound_5 : decode cX12_isBound 5 = .ok (.istore 4, 2) := by decide +kernel
theorem dX12_isBound_7 : decode cX12_isBound 7 = .ok (.iconst 0, 1) := by decide +kernel
theorem dX12_isBound_8 : decode cX12_isBound 8 = .ok (.istore 5, 2) := by decide +kernel
theorem dX12_isBound_10 : decode cX12_isBound 10 = .ok (.iload 5, 2) := by decide +kernel
theorem dX12_isBound_12 : decode cX12_isBound 12 = .ok (.aload_n 0, 1) := by decide +kernel
theorem dX12_isBound_13 : decode cX12_isBound 13 = .ok (.getfield 35, 3) := by decide +kernel
theorem dX12_isBound_16 : decode cX12_isBound 16 = .ok (.iload 4, 2) := by decide +kernel
theorem dX12_isBound_18 : decode cX12_isBound 18 = .ok (.iconst 1, 1) := by decide +kernel
theorem dX12_isBound_19 : decode cX12_isBound 19 = .ok (.iadd, 1) := by decide +kernel
theorem dX12_isBound_20 : decode cX12_isBound 20 = .ok (.iaload, 1) := by decide +kernel
theorem dX12_isBound_21 : decode cX12_isBound 21 = .ok (.if_icmp .ge 45, 3) := by decide +kernel
theorem dX12_isBound_24 : decode cX12_isBound 24 = .ok (.aload_n 0, 1) := by decide +kernel
theorem dX12_isBound_25 : decode cX12_isBound 25 = .ok (.getfield 35, 3) := by decide +kernel
theorem dX12_isBound_28 : decode cX12_isBound 28 = .ok (.iload 4, 2) := by decide +kernel
theorem dX12_isBound_30 : decode cX12_isBound 30 = .ok (.bipush 18, 2) := by decide +kernel
theorem dX12_isBound_32 : decode cX12_isBound 32 = .ok (.iadd, 1) := by decide +kernel
theorem dX12_isBound_33 : decode cX12_isBound 33 = .ok (.iload 5, 2) := by decide +kernel
theorem dX12_isBound_35 : decode cX12_isBound 35 = .ok (.iadd, 1) := by decide +kernel
theorem dX12_isBound_36 : decode cX12_isBound 36 = .ok (.iaload, 1) := by decide +kernel
theorem dX12_isBound_37 : decode cX12_isBound 37 = .ok (.iload_n 2, 1) := by decide +kernel
theorem dX12_isBound_38 : decode cX12_isBound 38 = .ok (.if_icmp .ne 22, 3) := by decide +kernel
theorem dX12_isBound_41 : decode cX12_isBound 41 = .ok (.aload_n 0, 1) := by decide +kernel
theorem dX12_isBound_42 : decode cX12_isBound 42 = .ok (.getfield 35, 3) := by decide +kernel
theorem dX12_isBound_45 : decode cX12_isBound 45 = .ok (.iload 4, 2) := by decide +kernel
theorem dX12_isBound_47 : decode cX12_isBound 47 = .ok (.bipush 28, 2) := by decide +kernel
theorem dX12_isBound_49 : decode cX12_isBound 49 = .ok (.iadd, 1) := by decide +kernel
theorem dX12_isBound_50 : decode cX12_isBound 50 = .ok (.iload 5, 2) := by decide +kernel
theorem dX12_isBound_52 : decode cX12_isBound 52 = .ok (.iadd, 1) := by decide +kernel
theorem dX12_isBound_53 : decode cX12_isBound 53 = .ok (.iaload, 1) := by decide +kernel
theorem dX12_isBound_54 : decode cX12_isBound 54 = .ok (.iload_n 3, 1) := by decide +kernel
theorem dX12_isBound_55 : decode cX12_isBound 55 = .ok (.if_icmp .ne 5, 3) := by decide +kernel
theorem dX12_isBound_58 : decode cX12_isBound 58 = .ok (.iconst 1, 1) := by decide +kernel
theorem dX12_isBound_59 : decode cX12_isBound 59 = .ok (.ireturn, 1) := by decide +kernel
theorem dX12_isBound_60 : decode cX12_isBound 60 = .ok (.iinc 5 1, 3) := by decide +kernel
theorem dX12_isBound_63 : decode cX12_isBound 63 = .ok (.goto (-53), 3) := by decide +kernel
theorem dX12_isBound_66 : decode cX12_isBound 66 = .ok (.iconst 0, 1) := by decide +kernel
theorem dX12_isBound_67 : decode cX12_isBound 67 = .ok (.ireturn, 1) := by decide +kernel
theorem dX12_binds_0 : decode cX12_binds 0 = .ok (.sipush 362, 3) := by decide +kernel
theorem dX12_binds_3 : decode cX12_binds 3 = .ok (.iload_n 1, 1) := by decide +kernel
theorem dX12_binds_4 : decode cX12_binds 4 = .ok (.imul, 1) := by decide +kernel
theorem dX12_binds_5 : decode cX12_binds 5 = .ok (.istore 4, 2) := by decide +kernel
theorem dX12_binds_7 : decode cX12_binds 7 = .ok (.aload_n 0, 1) := by decide +kernel
theorem dX12_binds_8 : decode cX12_binds 8 = .ok (.getfield 35, 3) := by decide +kernel
theorem dX12_binds_11 : decode cX12_binds 11 = .ok (.iload 4, 2) := by decide +kernel
theorem dX12_binds_13 : decode cX12_binds 13 = .ok (.iconst 1, 1) := by decide +kernel
theorem dX12_binds_14 : decode cX12_binds 14 = .ok (.iadd, 1) := by decide +kernel
theorem dX12_binds_15 : decode cX12_binds 15 = .ok (.iaload, 1) := by decide +kernel
theorem dX12_binds_16 : decode cX12_binds 16 = .ok (.istore 5, 2) := by decide +kernel
theorem dX12_binds_18 : decode cX12_binds 18 = .ok (.aload_n 0, 1) := by decide +kernel
theorem dX12_binds_19 : decode cX12_binds 19 = .ok (.getfield 35, 3) := by decide +kernel
theorem dX12_binds_22 : decode cX12_binds 22 = .ok (.iload 4, 2) := by decide +kernel
theorem dX12_binds_24 : decode cX12_binds 24 = .ok (.bipush 18, 2) := by decide +kernel
theorem dX12_binds_26 : decode cX12_binds 26 = .ok (.iadd, 1) := by decide +kernel
theorem dX12_binds_27 : decode cX12_binds 27 = .ok (.iload 5, 2) := by decide +kernel
theorem dX12_binds_29 : decode cX12_binds 29 = .ok (.iadd, 1) := by decide +kernel
theorem dX12_binds_30 : decode cX12_binds 30 = .ok (.iload_n 2, 1) := by decide +kernel
theorem dX12_binds_31 : decode cX12_binds 31 = .ok (.iastore, 1) := by decide +kernel
theorem dX12_binds_32 : decode cX12_binds 32 = .ok (.aload_n 0, 1) := by decide +kernel
theorem dX12_binds_33 : decode cX12_binds 33 = .ok (.getfield 35, 3) := by decide +kernel
theorem dX12_binds_36 : decode cX12_binds 36 = .ok (.iload 4, 2) := by decide +kernel
theorem dX12_binds_38 : decode cX12_binds 38 = .ok (.bipush 28, 2) := by decide +kernel
theorem dX12_binds_40 : decode cX12_binds 40 = .ok (.iadd, 1) := by decide +kernel
theorem dX12_binds_41 : decode cX12_binds 41 = .ok (.iload 5, 2) := by decide +kernel
theorem dX12_binds_43 : decode cX12_binds 43 = .ok (.iadd, 1) := by decide +kernel
theorem dX12_binds_44 : decode cX12_binds 44 = .ok (.iload_n 3, 1) := by decide +kernel
theorem dX12_binds_45 : decode cX12_binds 45 = .ok (.iastore, 1) := by decide +kernel
theorem dX12_binds_46 : decode cX12_binds 46 = .ok (.aload_n 0, 1) := by decide +kernel
theorem dX12_binds_47 : decode cX12_binds 47 = .ok (.getfield 35, 3) := by decide +kernel
theorem dX12_binds_50 : decode cX12_binds 50 = .ok (.iload 4, 2) := by decide +kernel
theorem dX12_binds_52 : decode cX12_binds 52 = .ok (.iconst 1, 1) := by decide +kernel
theorem dX12_binds_53 : decode cX12_binds 53 = .ok (.iadd, 1) := by decide +kernel
theorem dX12_binds_54 : decode cX12_binds 54 = .ok (.dup2, 1) := by decide +kernel
theorem dX12_binds_55 : decode cX12_binds 55 = .ok (.iaload, 1) := by decide +kernel
theorem dX12_binds_56 : decode cX12_binds 56 = .ok (.iconst 1, 1) := by decide +kernel
theorem dX12_binds_57 : decode cX12_binds 57 = .ok (.iadd, 1) := by decide +kernel
theorem dX12_binds_58 : decode cX12_binds 58 = .ok (.iastore, 1) := by decide +kernel
theorem dX12_binds_59 : decode cX12_binds 59 = .ok (.return_, 1) := by decide +kernel
theorem dX12_readHold_0 : decode cX12_readHold 0 = .ok (.aload_n 0, 1) := by decide +kernel
theorem dX12_readHold_1 : decode cX12_readHold 1 = .ok (.getfield 35, 3) := by decide +kernel
theorem dX12_readHold_4 : decode cX12_readHold 4 = .ok (.sipush 1449, 3) := by decide +kernel
theorem dX12_readHold_7 : decode cX12_readHold 7 = .ok (.iaload, 1) := by decide +kernel
theorem dX12_readHold_8 : decode cX12_readHold 8 = .ok (.bipush 10, 2) := by decide +kernel
theorem dX12_readHold_10 : decode cX12_readHold 10 = .ok (.if_icmp .ne 13, 3) := by decide +kernel
theorem dX12_readHold_13 : decode cX12_readHold 13 = .ok (.aload_n 0, 1) := by decide +kernel
theorem dX12_readHold_14 : decode cX12_readHold 14 = .ok (.bipush 6, 2) := by decide +kernel
theorem dX12_readHold_16 : decode cX12_readHold 16 = .ok (.aload_n 0, 1) := by decide +kernel
theorem dX12_readHold_17 : decode cX12_readHold 17 = .ok (.getfield 118, 3) := by decide +kernel
theorem dX12_readHold_20 : decode cX12_readHold 20 = .ok (.invokevirtual 218, 3) := by decide +kernel
theorem dX12_readHold_23 : decode cX12_readHold 23 = .ok (.aload_n 0, 1) := by decide +kernel
theorem dX12_readHold_24 : decode cX12_readHold 24 = .ok (.iconst 1, 1) := by decide +kernel
theorem dX12_readHold_25 : decode cX12_readHold 25 = .ok (.invokevirtual 228, 3) := by decide +kernel
theorem dX12_readHold_28 : decode cX12_readHold 28 = .ok (.aload_n 0, 1) := by decide +kernel
theorem dX12_readHold_29 : decode cX12_readHold 29 = .ok (.iconst 4, 1) := by decide +kernel
theorem dX12_readHold_30 : decode cX12_readHold 30 = .ok (.iconst 0, 1) := by decide +kernel
theorem dX12_readHold_31 : decode cX12_readHold 31 = .ok (.invokevirtual 268, 3) := by decide +kernel
theorem dX12_readHold_34 : decode cX12_readHold 34 = .ok (.istore_n 1, 1) := by decide +kernel
theorem dX12_readHold_35 : decode cX12_readHold 35 = .ok (.aload_n 0, 1) := by decide +kernel
theorem dX12_readHold_36 : decode cX12_readHold 36 = .ok (.aload_n 0, 1) := by decide +kernel
theorem dX12_readHold_37 : decode cX12_readHold 37 = .ok (.invokevirtual 175, 3) := by decide +kernel
theorem dX12_readHold_40 : decode cX12_readHold 40 = .ok (.invokevirtual 228, 3) := by decide +kernel
theorem dX12_readHold_43 : decode cX12_readHold 43 = .ok (.aload_n 0, 1) := by decide +kernel
theorem dX12_readHold_44 : decode cX12_readHold 44 = .ok (.iconst 4, 1) := by decide +kernel
theorem dX12_readHold_45 : decode cX12_readHold 45 = .ok (.iconst 0, 1) := by decide +kernel
theorem dX12_readHold_46 : decode cX12_readHold 46 = .ok (.invokevirtual 250, 3) := by decide +kernel
theorem dX12_readHold_49 : decode cX12_readHold 49 = .ok (.istore_n 2, 1) := by decide +kernel
theorem dX12_readHold_50 : decode cX12_readHold 50 = .ok (.aload_n 0, 1) := by decide +kernel
theorem dX12_readHold_51 : decode cX12_readHold 51 = .ok (.getfield 212, 3) := by decide +kernel
theorem dX12_readHold_54 : decode cX12_readHold 54 = .ok (.ifCond .ne 27, 3) := by decide +kernel
theorem dX12_readHold_57 : decode cX12_readHold 57 = .ok (.iload_n 1, 1) := by decide +kernel
theorem dX12_readHold_58 : decode cX12_readHold 58 = .ok (.iload_n 2, 1) := by decide +kernel
theorem dX12_readHold_59 : decode cX12_readHold 59 = .ok (.if_icmp .eq 13, 3) := by decide +kernel
theorem dX12_readHold_62 : decode cX12_readHold 62 = .ok (.aload_n 0, 1) := by decide +kernel
theorem dX12_readHold_63 : decode cX12_readHold 63 = .ok (.iconst 4, 1) := by decide +kernel
theorem dX12_readHold_64 : decode cX12_readHold 64 = .ok (.iload_n 1, 1) := by decide +kernel
theorem dX12_readHold_65 : decode cX12_readHold 65 = .ok (.iload_n 2, 1) := by decide +kernel
theorem dX12_readHold_66 : decode cX12_readHold 66 = .ok (.invokevirtual 271, 3) := by decide +kernel
theorem dX12_readHold_69 : decode cX12_readHold 69 = .ok (.ifCond .eq 12, 3) := by decide +kernel
theorem dX12_readHold_72 : decode cX12_readHold 72 = .ok (.aload_n 0, 1) := by decide +kernel
theorem dX12_readHold_73 : decode cX12_readHold 73 = .ok (.iconst 5, 1) := by decide +kernel
theorem dX12_readHold_74 : decode cX12_readHold 74 = .ok (.aload_n 0, 1) := by decide +kernel
theorem dX12_readHold_75 : decode cX12_readHold 75 = .ok (.getfield 118, 3) := by decide +kernel
theorem dX12_readHold_78 : decode cX12_readHold 78 = .ok (.invokevirtual 218, 3) := by decide +kernel
theorem dX12_readHold_81 : decode cX12_readHold 81 = .ok (.aload_n 0, 1) := by decide +kernel
theorem dX12_readHold_82 : decode cX12_readHold 82 = .ok (.iconst 1, 1) := by decide +kernel
theorem dX12_readHold_83 : decode cX12_readHold 83 = .ok (.invokevirtual 228, 3) := by decide +kernel
theorem dX12_readHold_86 : decode cX12_readHold 86 = .ok (.aload_n 0, 1) := by decide +kernel
theorem dX12_readHold_87 : decode cX12_readHold 87 = .ok (.getfield 212, 3) := by decide +kernel
theorem dX12_readHold_90 : decode cX12_readHold 90 = .ok (.ifCond .ne 10, 3) := by decide +kernel
theorem dX12_readHold_93 : decode cX12_readHold 93 = .ok (.aload_n 0, 1) := by decide +kernel
theorem dX12_readHold_94 : decode cX12_readHold 94 = .ok (.iconst 4, 1) := by decide +kernel
theorem dX12_readHold_95 : decode cX12_readHold 95 = .ok (.iload_n 1, 1) := by decide +kernel
theorem dX12_readHold_96 : decode cX12_readHold 96 = .ok (.iload_n 2, 1) := by decide +kernel
theorem dX12_readHold_97 : decode cX12_readHold 97 = .ok (.invokevirtual 275, 3) := by decide +kernel
theorem dX12_readHold_100 : decode cX12_readHold 100 = .ok (.return_, 1) := by decide +kernel
theorem dX12_sits_0 : decode cX12_sits 0 = .ok (.sipush 362, 3) := by decide +kernel
theorem dX12_sits_3 : decode cX12_sits 3 = .ok (.iload_n 1, 1) := by decide +kernel
theorem dX12_sits_4 : decode cX12_sits 4 = .ok (.imul, 1) := by decide +kernel
theorem dX12_sits_5 : decode cX12_sits 5 = .ok (.istore 6, 2) := by decide +kernel
theorem dX12_sits_7 : decode cX12_sits 7 = .ok (.aload_n 0, 1) := by decide +kernel
theorem dX12_sits_8 : decode cX12_sits 8 = .ok (.getfield 35, 3) := by decide +kernel
theorem dX12_sits_11 : decode cX12_sits 11 = .ok (.iload 6, 2) := by decide +kernel
theorem dX12_sits_13 : decode cX12_sits 13 = .ok (.iconst 2, 1) := by decide +kernel
theorem dX12_sits_14 : decode cX12_sits 14 = .ok (.iadd, 1) := by decide +kernel
theorem dX12_sits_15 : decode cX12_sits 15 = .ok (.iaload, 1) := by decide +kernel
theorem dX12_sits_16 : decode cX12_sits 16 = .ok (.istore 7, 2) := by decide +kernel
theorem dX12_sits_18 : decode cX12_sits 18 = .ok (.aload_n 0, 1) := by decide +kernel
theorem dX12_sits_19 : decode cX12_sits 19 = .ok (.getfield 35, 3) := by decide +kernel
theorem dX12_sits_22 : decode cX12_sits 22 = .ok (.iload 6, 2) := by decide +kernel
theorem dX12_sits_24 : decode cX12_sits 24 = .ok (.bipush 38, 2) := by decide +kernel
theorem dX12_sits_26 : decode cX12_sits 26 = .ok (.iadd, 1) := by decide +kernel
theorem dX12_sits_27 : decode cX12_sits 27 = .ok (.iload 7, 2) := by decide +kernel
theorem dX12_sits_29 : decode cX12_sits 29 = .ok (.iadd, 1) := by decide +kernel
theorem dX12_sits_30 : decode cX12_sits 30 = .ok (.iload_n 2, 1) := by decide +kernel
theorem dX12_sits_31 : decode cX12_sits 31 = .ok (.iastore, 1) := by decide +kernel
theorem dX12_sits_32 : decode cX12_sits 32 = .ok (.aload_n 0, 1) := by decide +kernel
theorem dX12_sits_33 : decode cX12_sits 33 = .ok (.getfield 35, 3) := by decide +kernel
theorem dX12_sits_36 : decode cX12_sits 36 = .ok (.iload 6, 2) := by decide +kernel
theorem dX12_sits_38 : decode cX12_sits 38 = .ok (.bipush 45, 2) := by decide +kernel
theorem dX12_sits_40 : decode cX12_sits 40 = .ok (.iadd, 1) := by decide +kernel
theorem dX12_sits_41 : decode cX12_sits 41 = .ok (.iload 7, 2) := by decide +kernel
theorem dX12_sits_43 : decode cX12_sits 43 = .ok (.iadd, 1) := by decide +kernel
theorem dX12_sits_44 : decode cX12_sits 44 = .ok (.iload_n 3, 1) := by decide +kernel
theorem dX12_sits_45 : decode cX12_sits 45 = .ok (.iastore, 1) := by decide +kernel
theorem dX12_sits_46 : decode cX12_sits 46 = .ok (.aload_n 0, 1) := by decide +kernel
theorem dX12_sits_47 : decode cX12_sits 47 = .ok (.getfield 35, 3) := by decide +kernel
theorem dX12_sits_50 : decode cX12_sits 50 = .ok (.iload 6, 2) := by decide +kernel
theorem dX12_sits_52 : decode cX12_sits 52 = .ok (.bipush 52, 2) := by decide +kernel
theorem dX12_sits_54 : decode cX12_sits 54 = .ok (.iadd, 1) := by decide +kernel
theorem dX12_sits_55 : decode cX12_sits 55 = .ok (.iload 7, 2) := by decide +kernel
theorem dX12_sits_57 : decode cX12_sits 57 = .ok (.iadd, 1) := by decide +kernel
theorem dX12_sits_58 : decode cX12_sits 58 = .ok (.iload 4, 2) := by decide +kernel
theorem dX12_sits_60 : decode cX12_sits 60 = .ok (.iastore, 1) := by decide +kernel
theorem dX12_sits_61 : decode cX12_sits 61 = .ok (.aload_n 0, 1) := by decide +kernel
theorem dX12_sits_62 : decode cX12_sits 62 = .ok (.getfield 35, 3) := by decide +kernel
theorem dX12_sits_65 : decode cX12_sits 65 = .ok (.iload 6, 2) := by decide +kernel
theorem dX12_sits_67 : decode cX12_sits 67 = .ok (.bipush 59, 2) := by decide +kernel
theorem dX12_sits_69 : decode cX12_sits 69 = .ok (.iadd, 1) := by decide +kernel
theorem dX12_sits_70 : decode cX12_sits 70 = .ok (.iload 7, 2) := by decide +kernel
theorem dX12_sits_72 : decode cX12_sits 72 = .ok (.iadd, 1) := by decide +kernel
theorem dX12_sits_73 : decode cX12_sits 73 = .ok (.iload 5, 2) := by decide +kernel
theorem dX12_sits_75 : decode cX12_sits 75 = .ok (.iastore, 1) := by decide +kernel
theorem dX12_sits_76 : decode cX12_sits 76 = .ok (.aload_n 0, 1) := by decide +kernel
theorem dX12_sits_77 : decode cX12_sits 77 = .ok (.getfield 35, 3) := by decide +kernel
theorem dX12_sits_80 : decode cX12_sits 80 = .ok (.iload 6, 2) := by decide +kernel
theorem dX12_sits_82 : decode cX12_sits 82 = .ok (.iconst 2, 1) := by decide +kernel
theorem dX12_sits_83 : decode cX12_sits 83 = .ok (.iadd, 1) := by decide +kernel
theorem dX12_sits_84 : decode cX12_sits 84 = .ok (.dup2, 1) := by decide +kernel
theorem dX12_sits_85 : decode cX12_sits 85 = .ok (.iaload, 1) := by decide +kernel
theorem dX12_sits_86 : decode cX12_sits 86 = .ok (.iconst 1, 1) := by decide +kernel
theorem dX12_sits_87 : decode cX12_sits 87 = .ok (.iadd, 1) := by decide +kernel
theorem dX12_sits_88 : decode cX12_sits 88 = .ok (.iastore, 1) := by decide +kernel
theorem dX12_sits_89 : decode cX12_sits 89 = .ok (.return_, 1) := by decide +kernel
theorem dX12_readSitter_0 : decode cX12_readSitter 0 = .ok (.aload_n 0, 1) := by decide +kernel
theorem dX12_readSitter_1 : decode cX12_readSitter 1 = .ok (.iconst 1, 1) := by decide +kernel
theorem dX12_readSitter_2 : decode cX12_readSitter 2 = .ok (.bipush 7, 2) := by decide +kernel
theorem dX12_readSitter_4 : decode cX12_readSitter 4 = .ok (.invokevirtual 257, 3) := by decide +kernel
theorem dX12_readSitter_7 : decode cX12_readSitter 7 = .ok (.pop, 1) := by decide +kernel
theorem dX12_readSitter_8 : decode cX12_readSitter 8 = .ok (.aload_n 0, 1) := by decide +kernel
theorem dX12_readSitter_9 : decode cX12_readSitter 9 = .ok (.aload_n 0, 1) := by decide +kernel
theorem dX12_readSitter_10 : decode cX12_readSitter 10 = .ok (.invokevirtual 181, 3) := by decide +kernel
theorem dX12_readSitter_13 : decode cX12_readSitter 13 = .ok (.iconst 0, 1) := by decide +kernel
theorem dX12_readSitter_14 : decode cX12_readSitter 14 = .ok (.bipush 59, 2) := by decide +kernel
theorem dX12_readSitter_16 : decode cX12_readSitter 16 = .ok (.invokevirtual 260, 3) := by decide +kernel
theorem dX12_readSitter_19 : decode cX12_readSitter 19 = .ok (.istore_n 1, 1) := by decide +kernel
theorem dX12_readSitter_20 : decode cX12_readSitter 20 = .ok (.aload_n 0, 1) := by decide +kernel
theorem dX12_readSitter_21 : decode cX12_readSitter 21 = .ok (.aload_n 0, 1) := by decide +kernel
theorem dX12_readSitter_22 : decode cX12_readSitter 22 = .ok (.invokevirtual 184, 3) := by decide +kernel
theorem dX12_readSitter_25 : decode cX12_readSitter 25 = .ok (.iconst 1, 1) := by decide +kernel
theorem dX12_readSitter_26 : decode cX12_readSitter 26 = .ok (.bipush 99, 2) := by decide +kernel
theorem dX12_readSitter_28 : decode cX12_readSitter 28 = .ok (.invokevirtual 260, 3) := by decide +kernel
theorem dX12_readSitter_31 : decode cX12_readSitter 31 = .ok (.istore_n 2, 1) := by decide +kernel
theorem dX12_readSitter_32 : decode cX12_readSitter 32 = .ok (.aload_n 0, 1) := by decide +kernel
theorem dX12_readSitter_33 : decode cX12_readSitter 33 = .ok (.aload_n 0, 1) := by decide +kernel
theorem dX12_readSitter_34 : decode cX12_readSitter 34 = .ok (.invokevirtual 187, 3) := by decide +kernel
theorem dX12_readSitter_37 : decode cX12_readSitter 37 = .ok (.invokevirtual 228, 3) := by decide +kernel
theorem dX12_readSitter_40 : decode cX12_readSitter 40 = .ok (.aload_n 0, 1) := by decide +kernel
theorem dX12_readSitter_41 : decode cX12_readSitter 41 = .ok (.iconst 4, 1) := by decide +kernel
theorem dX12_readSitter_42 : decode cX12_readSitter 42 = .ok (.iconst 0, 1) := by decide +kernel
theorem dX12_readSitter_43 : decode cX12_readSitter 43 = .ok (.invokevirtual 268, 3) := by decide +kernel
theorem dX12_readSitter_46 : decode cX12_readSitter 46 = .ok (.istore_n 3, 1) := by decide +kernel
theorem dX12_readSitter_47 : decode cX12_readSitter 47 = .ok (.aload_n 0, 1) := by decide +kernel
theorem dX12_readSitter_48 : decode cX12_readSitter 48 = .ok (.aload_n 0, 1) := by decide +kernel
theorem dX12_readSitter_49 : decode cX12_readSitter 49 = .ok (.invokevirtual 190, 3) := by decide +kernel
theorem dX12_readSitter_52 : decode cX12_readSitter 52 = .ok (.invokevirtual 264, 3) := by decide +kernel
theorem dX12_readSitter_55 : decode cX12_readSitter 55 = .ok (.ifCond .eq 13, 3) := by decide +kernel
theorem dX12_readSitter_58 : decode cX12_readSitter 58 = .ok (.aload_n 0, 1) := by decide +kernel
theorem dX12_readSitter_59 : decode cX12_readSitter 59 = .ok (.iconst 1, 1) := by decide +kernel
theorem dX12_readSitter_60 : decode cX12_readSitter 60 = .ok (.bipush 9, 2) := by decide +kernel
theorem dX12_readSitter_62 : decode cX12_readSitter 62 = .ok (.invokevirtual 232, 3) := by decide +kernel
theorem dX12_readSitter_65 : decode cX12_readSitter 65 = .ok (.goto 4, 3) := by decide +kernel
theorem dX12_readSitter_68 : decode cX12_readSitter 68 = .ok (.iconst 1, 1) := by decide +kernel
theorem dX12_readSitter_69 : decode cX12_readSitter 69 = .ok (.istore 4, 2) := by decide +kernel
theorem dX12_readSitter_71 : decode cX12_readSitter 71 = .ok (.aload_n 0, 1) := by decide +kernel
theorem dX12_readSitter_72 : decode cX12_readSitter 72 = .ok (.getfield 212, 3) := by decide +kernel
theorem dX12_readSitter_75 : decode cX12_readSitter 75 = .ok (.ifCond .ne 13, 3) := by decide +kernel
theorem dX12_readSitter_78 : decode cX12_readSitter 78 = .ok (.aload_n 0, 1) := by decide +kernel
theorem dX12_readSitter_79 : decode cX12_readSitter 79 = .ok (.iconst 4, 1) := by decide +kernel
theorem dX12_readSitter_80 : decode cX12_readSitter 80 = .ok (.iload_n 1, 1) := by decide +kernel
theorem dX12_readSitter_81 : decode cX12_readSitter 81 = .ok (.iload_n 2, 1) := by decide +kernel
theorem dX12_readSitter_82 : decode cX12_readSitter 82 = .ok (.iload_n 3, 1) := by decide +kernel
theorem dX12_readSitter_83 : decode cX12_readSitter 83 = .ok (.iload 4, 2) := by decide +kernel
theorem dX12_readSitter_85 : decode cX12_readSitter 85 = .ok (.invokevirtual 279, 3) := by decide +kernel
theorem dX12_readSitter_88 : decode cX12_readSitter 88 = .ok (.return_, 1) := by decide +kernel
theorem dX12_hears_0 : decode cX12_hears 0 = .ok (.sipush 362, 3) := by decide +kernel
theorem dX12_hears_3 : decode cX12_hears 3 = .ok (.iload_n 1, 1) := by decide +kernel
theorem dX12_hears_4 : decode cX12_hears 4 = .ok (.imul, 1) := by decide +kernel
theorem dX12_hears_5 : decode cX12_hears 5 = .ok (.istore 4, 2) := by decide +kernel
theorem dX12_hears_7 : decode cX12_hears 7 = .ok (.aload_n 0, 1) := by decide +kernel
theorem dX12_hears_8 : decode cX12_hears 8 = .ok (.getfield 35, 3) := by decide +kernel
theorem dX12_hears_11 : decode cX12_hears 11 = .ok (.iload 4, 2) := by decide +kernel
theorem dX12_hears_13 : decode cX12_hears 13 = .ok (.iconst 3, 1) := by decide +kernel
theorem dX12_hears_14 : decode cX12_hears 14 = .ok (.iadd, 1) := by decide +kernel
theorem dX12_hears_15 : decode cX12_hears 15 = .ok (.iaload, 1) := by decide +kernel
theorem dX12_hears_16 : decode cX12_hears 16 = .ok (.istore 5, 2) := by decide +kernel
theorem dX12_hears_18 : decode cX12_hears 18 = .ok (.aload_n 0, 1) := by decide +kernel
theorem dX12_hears_19 : decode cX12_hears 19 = .ok (.getfield 35, 3) := by decide +kernel
theorem dX12_hears_22 : decode cX12_hears 22 = .ok (.iload 4, 2) := by decide +kernel
theorem dX12_hears_24 : decode cX12_hears 24 = .ok (.bipush 66, 2) := by decide +kernel
theorem dX12_hears_26 : decode cX12_hears 26 = .ok (.iadd, 1) := by decide +kernel
theorem dX12_hears_27 : decode cX12_hears 27 = .ok (.iload 5, 2) := by decide +kernel
theorem dX12_hears_29 : decode cX12_hears 29 = .ok (.iadd, 1) := by decide +kernel
theorem dX12_hears_30 : decode cX12_hears 30 = .ok (.iload_n 2, 1) := by decide +kernel
theorem dX12_hears_31 : decode cX12_hears 31 = .ok (.iastore, 1) := by decide +kernel
theorem dX12_hears_32 : decode cX12_hears 32 = .ok (.aload_n 0, 1) := by decide +kernel
theorem dX12_hears_33 : decode cX12_hears 33 = .ok (.getfield 35, 3) := by decide +kernel
theorem dX12_hears_36 : decode cX12_hears 36 = .ok (.iload 4, 2) := by decide +kernel
theorem dX12_hears_38 : decode cX12_hears 38 = .ok (.bipush 74, 2) := by decide +kernel
theorem dX12_hears_40 : decode cX12_hears 40 = .ok (.iadd, 1) := by decide +kernel
theorem dX12_hears_41 : decode cX12_hears 41 = .ok (.iload 5, 2) := by decide +kernel
theorem dX12_hears_43 : decode cX12_hears 43 = .ok (.iadd, 1) := by decide +kernel
theorem dX12_hears_44 : decode cX12_hears 44 = .ok (.iload_n 3, 1) := by decide +kernel
theorem dX12_hears_45 : decode cX12_hears 45 = .ok (.iastore, 1) := by decide +kernel
theorem dX12_hears_46 : decode cX12_hears 46 = .ok (.aload_n 0, 1) := by decide +kernel
theorem dX12_hears_47 : decode cX12_hears 47 = .ok (.getfield 35, 3) := by decide +kernel
theorem dX12_hears_50 : decode cX12_hears 50 = .ok (.iload 4, 2) := by decide +kernel
theorem dX12_hears_52 : decode cX12_hears 52 = .ok (.bipush 82, 2) := by decide +kernel
theorem dX12_hears_54 : decode cX12_hears 54 = .ok (.iadd, 1) := by decide +kernel
theorem dX12_hears_55 : decode cX12_hears 55 = .ok (.iload 5, 2) := by decide +kernel
theorem dX12_hears_57 : decode cX12_hears 57 = .ok (.iadd, 1) := by decide +kernel
theorem dX12_hears_58 : decode cX12_hears 58 = .ok (.iconst 0, 1) := by decide +kernel
theorem dX12_hears_59 : decode cX12_hears 59 = .ok (.iastore, 1) := by decide +kernel
theorem dX12_hears_60 : decode cX12_hears 60 = .ok (.aload_n 0, 1) := by decide +kernel
theorem dX12_hears_61 : decode cX12_hears 61 = .ok (.getfield 35, 3) := by decide +kernel
theorem dX12_hears_64 : decode cX12_hears 64 = .ok (.iload 4, 2) := by decide +kernel
theorem dX12_hears_66 : decode cX12_hears 66 = .ok (.iconst 3, 1) := by decide +kernel
theorem dX12_hears_67 : decode cX12_hears 67 = .ok (.iadd, 1) := by decide +kernel
theorem dX12_hears_68 : decode cX12_hears 68 = .ok (.dup2, 1) := by decide +kernel
theorem dX12_hears_69 : decode cX12_hears 69 = .ok (.iaload, 1) := by decide +kernel
theorem dX12_hears_70 : decode cX12_hears 70 = .ok (.iconst 1, 1) := by decide +kernel
theorem dX12_hears_71 : decode cX12_hears 71 = .ok (.iadd, 1) := by decide +kernel
theorem dX12_hears_72 : decode cX12_hears 72 = .ok (.iastore, 1) := by decide +kernel
theorem dX12_hears_73 : decode cX12_hears 73 = .ok (.return_, 1) := by decide +kernel
theorem dX12_readNews_0 : decode cX12_readNews 0 = .ok (.aload_n 0, 1) := by decide +kernel
theorem dX12_readNews_1 : decode cX12_readNews 1 = .ok (.getfield 35, 3) := by decide +kernel
theorem dX12_readNews_4 : decode cX12_readNews 4 = .ok (.sipush 1451, 3) := by decide +kernel
theorem dX12_readNews_7 : decode cX12_readNews 7 = .ok (.iaload, 1) := by decide +kernel
theorem dX12_readNews_8 : decode cX12_readNews 8 = .ok (.bipush 8, 2) := by decide +kernel
theorem dX12_readNews_10 : decode cX12_readNews 10 = .ok (.if_icmp .ne 13, 3) := by decide +kernel
theorem dX12_readNews_13 : decode cX12_readNews 13 = .ok (.aload_n 0, 1) := by decide +kernel
theorem dX12_readNews_14 : decode cX12_readNews 14 = .ok (.bipush 6, 2) := by decide +kernel
theorem dX12_readNews_16 : decode cX12_readNews 16 = .ok (.aload_n 0, 1) := by decide +kernel
theorem dX12_readNews_17 : decode cX12_readNews 17 = .ok (.getfield 118, 3) := by decide +kernel
theorem dX12_readNews_20 : decode cX12_readNews 20 = .ok (.invokevirtual 218, 3) := by decide +kernel
theorem dX12_readNews_23 : decode cX12_readNews 23 = .ok (.aload_n 0, 1) := by decide +kernel
theorem dX12_readNews_24 : decode cX12_readNews 24 = .ok (.iconst 1, 1) := by decide +kernel
theorem dX12_readNews_25 : decode cX12_readNews 25 = .ok (.invokevirtual 228, 3) := by decide +kernel
theorem dX12_readNews_28 : decode cX12_readNews 28 = .ok (.aload_n 0, 1) := by decide +kernel
theorem dX12_readNews_29 : decode cX12_readNews 29 = .ok (.iconst 4, 1) := by decide +kernel
theorem dX12_readNews_30 : decode cX12_readNews 30 = .ok (.iconst 0, 1) := by decide +kernel
theorem dX12_readNews_31 : decode cX12_readNews 31 = .ok (.invokevirtual 268, 3) := by decide +kernel
theorem dX12_readNews_34 : decode cX12_readNews 34 = .ok (.istore_n 1, 1) := by decide +kernel
theorem dX12_readNews_35 : decode cX12_readNews 35 = .ok (.aload_n 0, 1) := by decide +kernel
theorem dX12_readNews_36 : decode cX12_readNews 36 = .ok (.aload_n 0, 1) := by decide +kernel
theorem dX12_readNews_37 : decode cX12_readNews 37 = .ok (.invokevirtual 196, 3) := by decide +kernel
theorem dX12_readNews_40 : decode cX12_readNews 40 = .ok (.iconst 1, 1) := by decide +kernel
theorem dX12_readNews_41 : decode cX12_readNews 41 = .ok (.bipush 100, 2) := by decide +kernel
theorem dX12_readNews_43 : decode cX12_readNews 43 = .ok (.invokevirtual 260, 3) := by decide +kernel
theorem dX12_readNews_46 : decode cX12_readNews 46 = .ok (.istore_n 2, 1) := by decide +kernel
theorem dX12_readNews_47 : decode cX12_readNews 47 = .ok (.aload_n 0, 1) := by decide +kernel
theorem dX12_readNews_48 : decode cX12_readNews 48 = .ok (.getfield 212, 3) := by decide +kernel
theorem dX12_readNews_51 : decode cX12_readNews 51 = .ok (.ifCond .ne 10, 3) := by decide +kernel
theorem dX12_readNews_54 : decode cX12_readNews 54 = .ok (.aload_n 0, 1) := by decide +kernel
theorem dX12_readNews_55 : decode cX12_readNews 55 = .ok (.iconst 4, 1) := by decide +kernel
theorem dX12_readNews_56 : decode cX12_readNews 56 = .ok (.iload_n 1, 1) := by decide +kernel
theorem dX12_readNews_57 : decode cX12_readNews 57 = .ok (.iload_n 2, 1) := by decide +kernel
theorem dX12_readNews_58 : decode cX12_readNews 58 = .ok (.invokevirtual 283, 3) := by decide +kernel
theorem dX12_readNews_61 : decode cX12_readNews 61 = .ok (.return_, 1) := by decide +kernel
theorem dX12_readPart_0 : decode cX12_readPart 0 = .ok (.aload_n 0, 1) := by decide +kernel
theorem dX12_readPart_1 : decode cX12_readPart 1 = .ok (.invokevirtual 159, 3) := by decide +kernel
theorem dX12_readPart_4 : decode cX12_readPart 4 = .ok (.ifCond .eq 10, 3) := by decide +kernel
theorem dX12_readPart_7 : decode cX12_readPart 7 = .ok (.aload_n 0, 1) := by decide +kernel
theorem dX12_readPart_8 : decode cX12_readPart 8 = .ok (.invokevirtual 286, 3) := by decide +kernel
theorem dX12_readPart_11 : decode cX12_readPart 11 = .ok (.goto 63, 3) := by decide +kernel
theorem dX12_readPart_14 : decode cX12_readPart 14 = .ok (.aload_n 0, 1) := by decide +kernel
theorem dX12_readPart_15 : decode cX12_readPart 15 = .ok (.invokevirtual 163, 3) := by decide +kernel
theorem dX12_readPart_18 : decode cX12_readPart 18 = .ok (.ifCond .eq 10, 3) := by decide +kernel
theorem dX12_readPart_21 : decode cX12_readPart 21 = .ok (.aload_n 0, 1) := by decide +kernel
theorem dX12_readPart_22 : decode cX12_readPart 22 = .ok (.invokevirtual 289, 3) := by decide +kernel
theorem dX12_readPart_25 : decode cX12_readPart 25 = .ok (.goto 49, 3) := by decide +kernel
theorem dX12_readPart_28 : decode cX12_readPart 28 = .ok (.aload_n 0, 1) := by decide +kernel
theorem dX12_readPart_29 : decode cX12_readPart 29 = .ok (.invokevirtual 172, 3) := by decide +kernel
theorem dX12_readPart_32 : decode cX12_readPart 32 = .ok (.ifCond .eq 10, 3) := by decide +kernel
theorem dX12_readPart_35 : decode cX12_readPart 35 = .ok (.aload_n 0, 1) := by decide +kernel
theorem dX12_readPart_36 : decode cX12_readPart 36 = .ok (.invokevirtual 292, 3) := by decide +kernel
theorem dX12_readPart_39 : decode cX12_readPart 39 = .ok (.goto 35, 3) := by decide +kernel
theorem dX12_readPart_42 : decode cX12_readPart 42 = .ok (.aload_n 0, 1) := by decide +kernel
theorem dX12_readPart_43 : decode cX12_readPart 43 = .ok (.invokevirtual 178, 3) := by decide +kernel
theorem dX12_readPart_46 : decode cX12_readPart 46 = .ok (.ifCond .eq 10, 3) := by decide +kernel
theorem dX12_readPart_49 : decode cX12_readPart 49 = .ok (.aload_n 0, 1) := by decide +kernel
theorem dX12_readPart_50 : decode cX12_readPart 50 = .ok (.invokevirtual 295, 3) := by decide +kernel
theorem dX12_readPart_53 : decode cX12_readPart 53 = .ok (.goto 21, 3) := by decide +kernel
theorem dX12_readPart_56 : decode cX12_readPart 56 = .ok (.aload_n 0, 1) := by decide +kernel
theorem dX12_readPart_57 : decode cX12_readPart 57 = .ok (.invokevirtual 193, 3) := by decide +kernel
theorem dX12_readPart_60 : decode cX12_readPart 60 = .ok (.ifCond .eq 10, 3) := by decide +kernel
theorem dX12_readPart_63 : decode cX12_readPart 63 = .ok (.aload_n 0, 1) := by decide +kernel
theorem dX12_readPart_64 : decode cX12_readPart 64 = .ok (.invokevirtual 298, 3) := by decide +kernel
theorem dX12_readPart_67 : decode cX12_readPart 67 = .ok (.goto 7, 3) := by decide +kernel
theorem dX12_readPart_70 : decode cX12_readPart 70 = .ok (.aload_n 0, 1) := by decide +kernel
theorem dX12_readPart_71 : decode cX12_readPart 71 = .ok (.invokevirtual 225, 3) := by decide +kernel
theorem dX12_readPart_74 : decode cX12_readPart 74 = .ok (.return_, 1) := by decide +kernel
theorem dX12_wood_0 : decode cX12_wood 0 = .ok (.aload_n 0, 1) := by decide +kernel
theorem dX12_wood_1 : decode cX12_wood 1 = .ok (.iconst 0, 1) := by decide +kernel
theorem dX12_wood_2 : decode cX12_wood 2 = .ok (.putfield 69, 3) := by decide +kernel
theorem dX12_wood_5 : decode cX12_wood 5 = .ok (.aload_n 0, 1) := by decide +kernel
theorem dX12_wood_6 : decode cX12_wood 6 = .ok (.iconst 0, 1) := by decide +kernel
theorem dX12_wood_7 : decode cX12_wood 7 = .ok (.putfield 72, 3) := by decide +kernel
theorem dX12_wood_10 : decode cX12_wood 10 = .ok (.aload_n 0, 1) := by decide +kernel
theorem dX12_wood_11 : decode cX12_wood 11 = .ok (.iload_n 1, 1) := by decide +kernel
theorem dX12_wood_12 : decode cX12_wood 12 = .ok (.sipush 900, 3) := by decide +kernel
theorem dX12_wood_15 : decode cX12_wood 15 = .ok (.invokevirtual 301, 3) := by decide +kernel
theorem dX12_wood_18 : decode cX12_wood 18 = .ok (.ifCond .ne 5, 3) := by decide +kernel
theorem dX12_wood_21 : decode cX12_wood 21 = .ok (.iconst (-1), 1) := by decide +kernel
theorem dX12_wood_22 : decode cX12_wood 22 = .ok (.ireturn, 1) := by decide +kernel
theorem dX12_wood_23 : decode cX12_wood 23 = .ok (.aload_n 0, 1) := by decide +kernel
theorem dX12_wood_24 : decode cX12_wood 24 = .ok (.iconst 4, 1) := by decide +kernel
theorem dX12_wood_25 : decode cX12_wood 25 = .ok (.invokevirtual 65, 3) := by decide +kernel
theorem dX12_wood_28 : decode cX12_wood 28 = .ok (.aload_n 0, 1) := by decide +kernel
theorem dX12_wood_29 : decode cX12_wood 29 = .ok (.iconst 0, 1) := by decide +kernel

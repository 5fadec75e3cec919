theorem dX11_init_0 : decode cX11_init 0 = .ok (.aload_n 0, 1) := by decide +kernel
theorem dX11_init_1 : decode cX11_init 1 = .ok (.invokespecial 1, 3) := by decide +kernel
theorem dX11_init_4 : decode cX11_init 4 = .ok (.aload_n 0, 1) := by decide +kernel
theorem dX11_init_5 : decode cX11_init 5 = .ok (.iconst 0, 1) := by decide +kernel
theorem dX11_init_6 : decode cX11_init 6 = .ok (.putfield 9, 3) := by decide +kernel
theorem dX11_init_9 : decode cX11_init 9 = .ok (.aload_n 0, 1) := by decide +kernel
theorem dX11_init_10 : decode cX11_init 10 = .ok (.lconst 0, 1) := by decide +kernel
theorem dX11_init_11 : decode cX11_init 11 = .ok (.putfield 13, 3) := by decide +kernel
theorem dX11_init_14 : decode cX11_init 14 = .ok (.aload_n 0, 1) := by decide +kernel
theorem dX11_init_15 : decode cX11_init 15 = .ok (.lconst 1, 1) := by decide +kernel
theorem dX11_init_16 : decode cX11_init 16 = .ok (.putfield 17, 3) := by decide +kernel
theorem dX11_init_19 : decode cX11_init 19 = .ok (.aload_n 0, 1) := by decide +kernel
theorem dX11_init_20 : decode cX11_init 20 = .ok (.sipush 900, 3) := by decide +kernel
theorem dX11_init_23 : decode cX11_init 23 = .ok (.newarray .byte, 2) := by decide +kernel
theorem dX11_init_25 : decode cX11_init 25 = .ok (.putfield 20, 3) := by decide +kernel
theorem dX11_init_28 : decode cX11_init 28 = .ok (.aload_n 0, 1) := by decide +kernel
theorem dX11_init_29 : decode cX11_init 29 = .ok (.iconst 0, 1) := by decide +kernel
theorem dX11_init_30 : decode cX11_init 30 = .ok (.putfield 24, 3) := by decide +kernel
theorem dX11_init_33 : decode cX11_init 33 = .ok (.aload_n 0, 1) := by decide +kernel
theorem dX11_init_34 : decode cX11_init 34 = .ok (.new 27, 3) := by decide +kernel
theorem dX11_init_37 : decode cX11_init 37 = .ok (.dup, 1) := by decide +kernel
theorem dX11_init_38 : decode cX11_init 38 = .ok (.invokespecial 29, 3) := by decide +kernel
theorem dX11_init_41 : decode cX11_init 41 = .ok (.putfield 30, 3) := by decide +kernel
theorem dX11_init_44 : decode cX11_init 44 = .ok (.aload_n 0, 1) := by decide +kernel
theorem dX11_init_45 : decode cX11_init 45 = .ok (.new 34, 3) := by decide +kernel
theorem dX11_init_48 : decode cX11_init 48 = .ok (.dup, 1) := by decide +kernel
theorem dX11_init_49 : decode cX11_init 49 = .ok (.invokespecial 36, 3) := by decide +kernel
theorem dX11_init_52 : decode cX11_init 52 = .ok (.putfield 37, 3) := by decide +kernel
theorem dX11_init_55 : decode cX11_init 55 = .ok (.aload_n 0, 1) := by decide +kernel
theorem dX11_init_56 : decode cX11_init 56 = .ok (.new 41, 3) := by decide +kernel
theorem dX11_init_59 : decode cX11_init 59 = .ok (.dup, 1) := by decide +kernel
theorem dX11_init_60 : decode cX11_init 60 = .ok (.invokespecial 43, 3) := by decide +kernel
theorem dX11_init_63 : decode cX11_init 63 = .ok (.putfield 44, 3) := by decide +kernel
theorem dX11_init_66 : decode cX11_init 66 = .ok (.aload_n 0, 1) := by decide +kernel
theorem dX11_init_67 : decode cX11_init 67 = .ok (.new 48, 3) := by decide +kernel
theorem dX11_init_70 : decode cX11_init 70 = .ok (.dup, 1) := by decide +kernel
theorem dX11_init_71 : decode cX11_init 71 = .ok (.invokespecial 50, 3) := by decide +kernel
theorem dX11_init_74 : decode cX11_init 74 = .ok (.putfield 51, 3) := by decide +kernel
theorem dX11_init_77 : decode cX11_init 77 = .ok (.aload_n 0, 1) := by decide +kernel
theorem dX11_init_78 : decode cX11_init 78 = .ok (.new 55, 3) := by decide +kernel
theorem dX11_init_81 : decode cX11_init 81 = .ok (.dup, 1) := by decide +kernel
theorem dX11_init_82 : decode cX11_init 82 = .ok (.invokespecial 57, 3) := by decide +kernel
theorem dX11_init_85 : decode cX11_init 85 = .ok (.putfield 58, 3) := by decide +kernel
theorem dX11_init_88 : decode cX11_init 88 = .ok (.aload_n 0, 1) := by decide +kernel
theorem dX11_init_89 : decode cX11_init 89 = .ok (.new 55, 3) := by decide +kernel
theorem dX11_init_92 : decode cX11_init 92 = .ok (.dup, 1) := by decide +kernel
theorem dX11_init_93 : decode cX11_init 93 = .ok (.invokespecial 57, 3) := by decide +kernel
theorem dX11_init_96 : decode cX11_init 96 = .ok (.putfield 62, 3) := by decide +kernel
theorem dX11_init_99 : decode cX11_init 99 = .ok (.aload_n 0, 1) := by decide +kernel
theorem dX11_init_100 : decode cX11_init 100 = .ok (.iconst 3, 1) := by decide +kernel
theorem dX11_init_101 : decode cX11_init 101 = .ok (.anewarray 55, 3) := by decide +kernel
theorem dX11_init_104 : decode cX11_init 104 = .ok (.putfield 65, 3) := by decide +kernel
theorem dX11_init_107 : decode cX11_init 107 = .ok (.iconst 0, 1) := by decide +kernel
theorem dX11_init_108 : decode cX11_init 108 = .ok (.istore_n 1, 1) := by decide +kernel
theorem dX11_init_109 : decode cX11_init 109 = .ok (.iload_n 1, 1) := by decide +kernel
theorem dX11_init_110 : decode cX11_init 110 = .ok (.iconst 3, 1) := by decide +kernel
theorem dX11_init_111 : decode cX11_init 111 = .ok (.if_icmp .ge 22, 3) := by decide +kernel
theorem dX11_init_114 : decode cX11_init 114 = .ok (.aload_n 0, 1) := by decide +kernel
theorem dX11_init_115 : decode cX11_init 115 = .ok (.getfield 65, 3) := by decide +kernel
theorem dX11_init_118 : decode cX11_init 118 = .ok (.iload_n 1, 1) := by decide +kernel
theorem dX11_init_119 : decode cX11_init 119 = .ok (.new 55, 3) := by decide +kernel
theorem dX11_init_122 : decode cX11_init 122 = .ok (.dup, 1) := by decide +kernel
theorem dX11_init_123 : decode cX11_init 123 = .ok (.invokespecial 57, 3) := by decide +kernel
theorem dX11_init_126 : decode cX11_init 126 = .ok (.aastore, 1) := by decide +kernel
theorem dX11_init_127 : decode cX11_init 127 = .ok (.iinc 1 1, 3) := by decide +kernel
theorem dX11_init_130 : decode cX11_init 130 = .ok (.goto (-21), 3) := by decide +kernel
theorem dX11_init_133 : decode cX11_init 133 = .ok (.aload_n 0, 1) := by decide +kernel
theorem dX11_init_134 : decode cX11_init 134 = .ok (.iconst 0, 1) := by decide +kernel
theorem dX11_init_135 : decode cX11_init 135 = .ok (.putfield 69, 3) := by decide +kernel
theorem dX11_init_138 : decode cX11_init 138 = .ok (.aload_n 0, 1) := by decide +kernel
theorem dX11_init_139 : decode cX11_init 139 = .ok (.new 72, 3) := by decide +kernel
theorem dX11_init_142 : decode cX11_init 142 = .ok (.dup, 1) := by decide +kernel
theorem dX11_init_143 : decode cX11_init 143 = .ok (.invokespecial 74, 3) := by decide +kernel
theorem dX11_init_146 : decode cX11_init 146 = .ok (.putfield 75, 3) := by decide +kernel
theorem dX11_init_149 : decode cX11_init 149 = .ok (.aload_n 0, 1) := by decide +kernel
theorem dX11_init_150 : decode cX11_init 150 = .ok (.iconst 5, 1) := by decide +kernel
theorem dX11_init_151 : decode cX11_init 151 = .ok (.newarray .int, 2) := by decide +kernel
theorem dX11_init_153 : decode cX11_init 153 = .ok (.putfield 79, 3) := by decide +kernel
theorem dX11_init_156 : decode cX11_init 156 = .ok (.aload_n 0, 1) := by decide +kernel
theorem dX11_init_157 : decode cX11_init 157 = .ok (.iconst 0, 1) := by decide +kernel
theorem dX11_init_158 : decode cX11_init 158 = .ok (.putfield 83, 3) := by decide +kernel
theorem dX11_init_161 : decode cX11_init 161 = .ok (.aload_n 0, 1) := by decide +kernel
theorem dX11_init_162 : decode cX11_init 162 = .ok (.new 87, 3) := by decide +kernel
theorem dX11_init_165 : decode cX11_init 165 = .ok (.dup, 1) := by decide +kernel
theorem dX11_init_166 : decode cX11_init 166 = .ok (.invokespecial 89, 3) := by decide +kernel
theorem dX11_init_169 : decode cX11_init 169 = .ok (.putfield 90, 3) := by decide +kernel
theorem dX11_init_172 : decode cX11_init 172 = .ok (.aload_n 0, 1) := by decide +kernel
theorem dX11_init_173 : decode cX11_init 173 = .ok (.new 94, 3) := by decide +kernel
theorem dX11_init_176 : decode cX11_init 176 = .ok (.dup, 1) := by decide +kernel
theorem dX11_init_177 : decode cX11_init 177 = .ok (.invokespecial 96, 3) := by decide +kernel
theorem dX11_init_180 : decode cX11_init 180 = .ok (.putfield 97, 3) := by decide +kernel
theorem dX11_init_183 : decode cX11_init 183 = .ok (.aload_n 0, 1) := by decide +kernel
theorem dX11_init_184 : decode cX11_init 184 = .ok (.new 101, 3) := by decide +kernel
theorem dX11_init_187 : decode cX11_init 187 = .ok (.dup, 1) := by decide +kernel
theorem dX11_init_188 : decode cX11_init 188 = .ok (.invokespecial 103, 3) := by decide +kernel
theorem dX11_init_191 : decode cX11_init 191 = .ok (.putfield 104, 3) := by decide +kernel
theorem dX11_init_194 : decode cX11_init 194 = .ok (.return_, 1) := by decide +kernel
theorem dX11_status_0 : decode cX11_status 0 = .ok (.aload_n 0, 1) := by decide +kernel
theorem dX11_status_1 : decode cX11_status 1 = .ok (.getfield 9, 3) := by decide +kernel
theorem dX11_status_4 : decode cX11_status 4 = .ok (.ireturn, 1) := by decide +kernel
theorem dX11_top_0 : decode cX11_top 0 = .ok (.aload_n 0, 1) := by decide +kernel
theorem dX11_top_1 : decode cX11_top 1 = .ok (.getfield 13, 3) := by decide +kernel
theorem dX11_top_4 : decode cX11_top 4 = .ok (.lreturn, 1) := by decide +kernel
theorem dX11_bottom_0 : decode cX11_bottom 0 = .ok (.aload_n 0, 1) := by decide +kernel
theorem dX11_bottom_1 : decode cX11_bottom 1 = .ok (.getfield 17, 3) := by decide +kernel
theorem dX11_bottom_4 : decode cX11_bottom 4 = .ok (.lreturn, 1) := by decide +kernel
theorem dX11_tray_0 : decode cX11_tray 0 = .ok (.iload_n 1, 1) := by decide +kernel
theorem dX11_tray_1 : decode cX11_tray 1 = .ok (.invokestatic 108, 3) := by decide +kernel
theorem dX11_tray_4 : decode cX11_tray 4 = .ok (.ifCond .eq 12, 3) := by decide +kernel
theorem dX11_tray_7 : decode cX11_tray 7 = .ok (.iload_n 2, 1) := by decide +kernel
theorem dX11_tray_8 : decode cX11_tray 8 = .ok (.ifCond .lt 8, 3) := by decide +kernel
theorem dX11_tray_11 : decode cX11_tray 11 = .ok (.iload_n 2, 1) := by decide +kernel
theorem dX11_tray_12 : decode cX11_tray 12 = .ok (.iconst 4, 1) := by decide +kernel
theorem dX11_tray_13 : decode cX11_tray 13 = .ok (.if_icmp .lt 9, 3) := by decide +kernel
theorem dX11_tray_16 : decode cX11_tray 16 = .ok (.aload_n 0, 1) := by decide +kernel
theorem dX11_tray_17 : decode cX11_tray 17 = .ok (.iconst 1, 1) := by decide +kernel
theorem dX11_tray_18 : decode cX11_tray 18 = .ok (.invokevirtual 112, 3) := by decide +kernel
theorem dX11_tray_21 : decode cX11_tray 21 = .ok (.ireturn, 1) := by decide +kernel
theorem dX11_tray_22 : decode cX11_tray 22 = .ok (.iload_n 3, 1) := by decide +kernel
theorem dX11_tray_23 : decode cX11_tray 23 = .ok (.bipush 60, 2) := by decide +kernel
theorem dX11_tray_25 : decode cX11_tray 25 = .ok (.if_icmp .le 9, 3) := by decide +kernel
theorem dX11_tray_28 : decode cX11_tray 28 = .ok (.aload_n 0, 1) := by decide +kernel
theorem dX11_tray_29 : decode cX11_tray 29 = .ok (.iconst 5, 1) := by decide +kernel
theorem dX11_tray_30 : decode cX11_tray 30 = .ok (.invokevirtual 112, 3) := by decide +kernel
theorem dX11_tray_33 : decode cX11_tray 33 = .ok (.ireturn, 1) := by decide +kernel
theorem dX11_tray_34 : decode cX11_tray 34 = .ok (.iload_n 3, 1) := by decide +kernel
theorem dX11_tray_35 : decode cX11_tray 35 = .ok (.ifCond .ge 10, 3) := by decide +kernel
theorem dX11_tray_38 : decode cX11_tray 38 = .ok (.aload_n 0, 1) := by decide +kernel
theorem dX11_tray_39 : decode cX11_tray 39 = .ok (.bipush 6, 2) := by decide +kernel
theorem dX11_tray_41 : decode cX11_tray 41 = .ok (.invokevirtual 112, 3) := by decide +kernel
theorem dX11_tray_44 : decode cX11_tray 44 = .ok (.ireturn, 1) := by decide +kernel
theorem dX11_tray_45 : decode cX11_tray 45 = .ok (.aload_n 0, 1) := by decide +kernel
theorem dX11_tray_46 : decode cX11_tray 46 = .ok (.getfield 30, 3) := by decide +kernel
theorem dX11_tray_49 : decode cX11_tray 49 = .ok (.iload_n 1, 1) := by decide +kernel
theorem dX11_tray_50 : decode cX11_tray 50 = .ok (.iload_n 2, 1) := by decide +kernel
theorem dX11_tray_51 : decode cX11_tray 51 = .ok (.iload_n 3, 1) := by decide +kernel
theorem dX11_tray_52 : decode cX11_tray 52 = .ok (.invokevirtual 115, 3) := by decide +kernel
theorem dX11_tray_55 : decode cX11_tray 55 = .ok (.aload_n 0, 1) := by decide +kernel
theorem dX11_tray_56 : decode cX11_tray 56 = .ok (.invokevirtual 119, 3) := by decide +kernel
theorem dX11_tray_59 : decode cX11_tray 59 = .ok (.ireturn, 1) := by decide +kernel
theorem dX11_write_0 : decode cX11_write 0 = .ok (.aload_n 0, 1) := by decide +kernel
theorem dX11_write_1 : decode cX11_write 1 = .ok (.getfield 30, 3) := by decide +kernel
theorem dX11_write_4 : decode cX11_write 4 = .ok (.iload_n 1, 1) := by decide +kernel
theorem dX11_write_5 : decode cX11_write 5 = .ok (.iload_n 2, 1) := by decide +kernel
theorem dX11_write_6 : decode cX11_write 6 = .ok (.iconst 1, 1) := by decide +kernel
theorem dX11_write_7 : decode cX11_write 7 = .ok (.invokevirtual 123, 3) := by decide +kernel
theorem dX11_write_10 : decode cX11_write 10 = .ok (.istore 5, 2) := by decide +kernel
theorem dX11_write_12 : decode cX11_write 12 = .ok (.iload 5, 2) := by decide +kernel
theorem dX11_write_14 : decode cX11_write 14 = .ok (.ifCond .eq 10, 3) := by decide +kernel
theorem dX11_write_17 : decode cX11_write 17 = .ok (.aload_n 0, 1) := by decide +kernel
theorem dX11_write_18 : decode cX11_write 18 = .ok (.iload 5, 2) := by decide +kernel
theorem dX11_write_20 : decode cX11_write 20 = .ok (.invokevirtual 112, 3) := by decide +kernel
theorem dX11_write_23 : decode cX11_write 23 = .ok (.ireturn, 1) := by decide +kernel
theorem dX11_write_24 : decode cX11_write 24 = .ok (.aload_n 0, 1) := by decide +kernel
theorem dX11_write_25 : decode cX11_write 25 = .ok (.getfield 30, 3) := by decide +kernel
theorem dX11_write_28 : decode cX11_write 28 = .ok (.iload_n 1, 1) := by decide +kernel
theorem dX11_write_29 : decode cX11_write 29 = .ok (.iload_n 2, 1) := by decide +kernel
theorem dX11_write_30 : decode cX11_write 30 = .ok (.lload_n 3, 1) := by decide +kernel
theorem dX11_write_31 : decode cX11_write 31 = .ok (.invokevirtual 127, 3) := by decide +kernel
theorem dX11_write_34 : decode cX11_write 34 = .ok (.aload_n 0, 1) := by decide +kernel
theorem dX11_write_35 : decode cX11_write 35 = .ok (.invokevirtual 119, 3) := by decide +kernel
theorem dX11_write_38 : decode cX11_write 38 = .ok (.ireturn, 1) := by decide +kernel
theorem dX11_read_0 : decode cX11_read 0 = .ok (.aload_n 0, 1) := by decide +kernel
theorem dX11_read_1 : decode cX11_read 1 = .ok (.getfield 30, 3) := by decide +kernel
theorem dX11_read_4 : decode cX11_read 4 = .ok (.iload_n 1, 1) := by decide +kernel
theorem dX11_read_5 : decode cX11_read 5 = .ok (.iload_n 2, 1) := by decide +kernel
theorem dX11_read_6 : decode cX11_read 6 = .ok (.iconst 1, 1) := by decide +kernel
theorem dX11_read_7 : decode cX11_read 7 = .ok (.invokevirtual 123, 3) := by decide +kernel
theorem dX11_read_10 : decode cX11_read 10 = .ok (.istore_n 3, 1) := by decide +kernel
theorem dX11_read_11 : decode cX11_read 11 = .ok (.iload_n 3, 1) := by decide +kernel
theorem dX11_read_12 : decode cX11_read 12 = .ok (.ifCond .eq 10, 3) := by decide +kernel
theorem dX11_read_15 : decode cX11_read 15 = .ok (.aload_n 0, 1) := by decide +kernel
theorem dX11_read_16 : decode cX11_read 16 = .ok (.iload_n 3, 1) := by decide +kernel
theorem dX11_read_17 : decode cX11_read 17 = .ok (.invokevirtual 131, 3) := by decide +kernel
theorem dX11_read_20 : decode cX11_read 20 = .ok (.i2l, 1) := by decide +kernel
theorem dX11_read_21 : decode cX11_read 21 = .ok (.lreturn, 1) := by decide +kernel
theorem dX11_read_22 : decode cX11_read 22 = .ok (.aload_n 0, 1) := by decide +kernel
theorem dX11_read_23 : decode cX11_read 23 = .ok (.iconst 0, 1) := by decide +kernel
theorem dX11_read_24 : decode cX11_read 24 = .ok (.putfield 9, 3) := by decide +kernel
theorem dX11_read_27 : decode cX11_read 27 = .ok (.aload_n 0, 1) := by decide +kernel
theorem dX11_read_28 : decode cX11_read 28 = .ok (.getfield 30, 3) := by decide +kernel
theorem dX11_read_31 : decode cX11_read 31 = .ok (.getfield 135, 3) := by decide +kernel
theorem dX11_read_34 : decode cX11_read 34 = .ok (.iload_n 1, 1) := by decide +kernel
theorem dX11_read_35 : decode cX11_read 35 = .ok (.aaload, 1) := by decide +kernel
theorem dX11_read_36 : decode cX11_read 36 = .ok (.iload_n 2, 1) := by decide +kernel
theorem dX11_read_37 : decode cX11_read 37 = .ok (.laload, 1) := by decide +kernel
theorem dX11_read_38 : decode cX11_read 38 = .ok (.lreturn, 1) := by decide +kernel
theorem dX11_pour_0 : decode cX11_pour 0 = .ok (.iload_n 1, 1) := by decide +kernel
theorem dX11_pour_1 : decode cX11_pour 1 = .ok (.invokestatic 108, 3) := by decide +kernel
theorem dX11_pour_4 : decode cX11_pour 4 = .ok (.ifCond .eq 10, 3) := by decide +kernel
theorem dX11_pour_7 : decode cX11_pour 7 = .ok (.iload_n 3, 1) := by decide +kernel
theorem dX11_pour_8 : decode cX11_pour 8 = .ok (.invokestatic 108, 3) := by decide +kernel
theorem dX11_pour_11 : decode cX11_pour 11 = .ok (.ifCond .ne 9, 3) := by decide +kernel
theorem dX11_pour_14 : decode cX11_pour 14 = .ok (.aload_n 0, 1) := by decide +kernel
theorem dX11_pour_15 : decode cX11_pour 15 = .ok (.iconst 1, 1) := by decide +kernel
theorem dX11_pour_16 : decode cX11_pour 16 = .ok (.invokevirtual 112, 3) := by decide +kernel
theorem dX11_pour_19 : decode cX11_pour 19 = .ok (.ireturn, 1) := by decide +kernel
theorem dX11_pour_20 : decode cX11_pour 20 = .ok (.aload_n 0, 1) := by decide +kernel
theorem dX11_pour_21 : decode cX11_pour 21 = .ok (.getfield 30, 3) := by decide +kernel
theorem dX11_pour_24 : decode cX11_pour 24 = .ok (.iload_n 1, 1) := by decide +kernel
theorem dX11_pour_25 : decode cX11_pour 25 = .ok (.invokevirtual 139, 3) := by decide +kernel
theorem dX11_pour_28 : decode cX11_pour 28 = .ok (.ifCond .ne 14, 3) := by decide +kernel
theorem dX11_pour_31 : decode cX11_pour 31 = .ok (.aload_n 0, 1) := by decide +kernel
theorem dX11_pour_32 : decode cX11_pour 32 = .ok (.getfield 30, 3) := by decide +kernel
theorem dX11_pour_35 : decode cX11_pour 35 = .ok (.iload_n 3, 1) := by decide +kernel
theorem dX11_pour_36 : decode cX11_pour 36 = .ok (.invokevirtual 139, 3) := by decide +kernel
theorem dX11_pour_39 : decode cX11_pour 39 = .ok (.ifCond .eq 9, 3) := by decide +kernel
theorem dX11_pour_42 : decode cX11_pour 42 = .ok (.aload_n 0, 1) := by decide +kernel
theorem dX11_pour_43 : decode cX11_pour 43 = .ok (.iconst 3, 1) := by decide +kernel
theorem dX11_pour_44 : decode cX11_pour 44 = .ok (.invokevirtual 112, 3) := by decide +kernel
theorem dX11_pour_47 : decode cX11_pour 47 = .ok (.ireturn, 1) := by decide +kernel
theorem dX11_pour_48 : decode cX11_pour 48 = .ok (.aload_n 0, 1) := by decide +kernel
theorem dX11_pour_49 : decode cX11_pour 49 = .ok (.getfield 30, 3) := by decide +kernel
theorem dX11_pour_52 : decode cX11_pour 52 = .ok (.getfield 142, 3) := by decide +kernel
theorem dX11_pour_55 : decode cX11_pour 55 = .ok (.iload_n 1, 1) := by decide +kernel
theorem dX11_pour_56 : decode cX11_pour 56 = .ok (.iaload, 1) := by decide +kernel
theorem dX11_pour_57 : decode cX11_pour 57 = .ok (.aload_n 0, 1) := by decide +kernel
theorem dX11_pour_58 : decode cX11_pour 58 = .ok (.getfield 30, 3) := by decide +kernel
theorem dX11_pour_61 : decode cX11_pour 61 = .ok (.getfield 142, 3) := by decide +kernel
theorem dX11_pour_64 : decode cX11_pour 64 = .ok (.iload_n 3, 1) := by decide +kernel
theorem dX11_pour_65 : decode cX11_pour 65 = .ok (.iaload, 1) := by decide +kernel
theorem dX11_pour_66 : decode cX11_pour 66 = .ok (.if_icmp .eq 10, 3) := by decide +kernel
theorem dX11_pour_69 : decode cX11_pour 69 = .ok (.aload_n 0, 1) := by decide +kernel
theorem dX11_pour_70 : decode cX11_pour 70 = .ok (.bipush 11, 2) := by decide +kernel
theorem dX11_pour_72 : decode cX11_pour 72 = .ok (.invokevirtual 112, 3) := by decide +kernel
theorem dX11_pour_75 : decode cX11_pour 75 = .ok (.ireturn, 1) := by decide +kernel
theorem dX11_pour_76 : decode cX11_pour 76 = .ok (.iload 5, 2) := by decide +kernel
theorem dX11_pour_78 : decode cX11_pour 78 = .ok (.ifCond .ge 10, 3) := by decide +kernel
theorem dX11_pour_81 : decode cX11_pour 81 = .ok (.aload_n 0, 1) := by decide +kernel
theorem dX11_pour_82 : decode cX11_pour 82 = .ok (.bipush 6, 2) := by decide +kernel
theorem dX11_pour_84 : decode cX11_pour 84 = .ok (.invokevirtual 112, 3) := by decide +kernel
theorem dX11_pour_87 : decode cX11_pour 87 = .ok (.ireturn, 1) := by decide +kernel
theorem dX11_pour_88 : decode cX11_pour 88 = .ok (.aload_n 0, 1) := by decide +kernel
theorem dX11_pour_89 : decode cX11_pour 89 = .ok (.getfield 30, 3) := by decide +kernel
theorem dX11_pour_92 : decode cX11_pour 92 = .ok (.iload_n 1, 1) := by decide +kernel
theorem dX11_pour_93 : decode cX11_pour 93 = .ok (.iload_n 2, 1) := by decide +kernel
theorem dX11_pour_94 : decode cX11_pour 94 = .ok (.iload 5, 2) := by decide +kernel
theorem dX11_pour_96 : decode cX11_pour 96 = .ok (.invokevirtual 145, 3) := by decide +kernel
theorem dX11_pour_99 : decode cX11_pour 99 = .ok (.ifCond .eq 18, 3) := by decide +kernel
theorem dX11_pour_102 : decode cX11_pour 102 = .ok (.aload_n 0, 1) := by decide +kernel
theorem dX11_pour_103 : decode cX11_pour 103 = .ok (.getfield 30, 3) := by decide +kernel
theorem dX11_pour_106 : decode cX11_pour 106 = .ok (.iload_n 3, 1) := by decide +kernel
theorem dX11_pour_107 : decode cX11_pour 107 = .ok (.iload 4, 2) := by decide +kernel
theorem dX11_pour_109 : decode cX11_pour 109 = .ok (.iload 5, 2) := by decide +kernel
theorem dX11_pour_111 : decode cX11_pour 111 = .ok (.invokevirtual 145, 3) := by decide +kernel
theorem dX11_pour_114 : decode cX11_pour 114 = .ok (.ifCond .ne 9, 3) := by decide +kernel
theorem dX11_pour_117 : decode cX11_pour 117 = .ok (.aload_n 0, 1) := by decide +kernel
theorem dX11_pour_118 : decode cX11_pour 118 = .ok (.iconst 4, 1) := by decide +kernel
theorem dX11_pour_119 : decode cX11_pour 119 = .ok (.invokevirtual 112, 3) := by decide +kernel
theorem dX11_pour_122 : decode cX11_pour 122 = .ok (.ireturn, 1) := by decide +kernel
theorem dX11_pour_123 : decode cX11_pour 123 = .ok (.aload_n 0, 1) := by decide +kernel
theorem dX11_pour_124 : decode cX11_pour 124 = .ok (.getfield 30, 3) := by decide +kernel
theorem dX11_pour_127 : decode cX11_pour 127 = .ok (.getfield 135, 3) := by decide +kernel
theorem dX11_pour_130 : decode cX11_pour 130 = .ok (.iload_n 1, 1) := by decide +kernel
theorem dX11_pour_131 : decode cX11_pour 131 = .ok (.aaload, 1) := by decide +kernel
theorem dX11_pour_132 : decode cX11_pour 132 = .ok (.iload_n 2, 1) := by decide +kernel
theorem dX11_pour_133 : decode cX11_pour 133 = .ok (.aload_n 0, 1) := by decide +kernel
theorem dX11_pour_134 : decode cX11_pour 134 = .ok (.getfield 30, 3) := by decide +kernel
theorem dX11_pour_137 : decode cX11_pour 137 = .ok (.getfield 135, 3) := by decide +kernel
theorem dX11_pour_140 : decode cX11_pour 140 = .ok (.iload_n 3, 1) := by decide +kernel
theorem dX11_pour_141 : decode cX11_pour 141 = .ok (.aaload, 1) := by decide +kernel
theorem dX11_pour_142 : decode cX11_pour 142 = .ok (.iload 4, 2) := by decide +kernel
theorem dX11_pour_144 : decode cX11_pour 144 = .ok (.iload 5, 2) := by decide +kernel
theorem dX11_pour_146 : decode cX11_pour 146 = .ok (.invokestatic 149, 3) := by decide +kernel
theorem dX11_pour_149 : decode cX11_pour 149 = .ok (.aload_n 0, 1) := by decide +kernel
theorem dX11_pour_150 : decode cX11_pour 150 = .ok (.invokevirtual 119, 3) := by decide +kernel
theorem dX11_pour_153 : decode cX11_pour 153 = .ok (.ireturn, 1) := by decide +kernel
theorem dX11_feed_0 : decode cX11_feed 0 = .ok (.aload_n 0, 1) := by decide +kernel
theorem dX11_feed_1 : decode cX11_feed 1 = .ok (.getfield 24, 3) := by decide +kernel
theorem dX11_feed_4 : decode cX11_feed 4 = .ok (.sipush 880, 3) := by decide +kernel
theorem dX11_feed_7 : decode cX11_feed 7 = .ok (.if_icmp .le 5, 3) := by decide +kernel
theorem dX11_feed_10 : decode cX11_feed 10 = .ok (.iconst (-1), 1) := by decide +kernel
theorem dX11_feed_11 : decode cX11_feed 11 = .ok (.ireturn, 1) := by decide +kernel
theorem dX11_feed_12 : decode cX11_feed 12 = .ok (.aload_n 0, 1) := by decide +kernel
theorem dX11_feed_13 : decode cX11_feed 13 = .ok (.iload_n 1, 1) := by decide +kernel
theorem dX11_feed_14 : decode cX11_feed 14 = .ok (.invokevirtual 155, 3) := by decide +kernel
theorem dX11_feed_17 : decode cX11_feed 17 = .ok (.aload_n 0, 1) := by decide +kernel
theorem dX11_feed_18 : decode cX11_feed 18 = .ok (.iload_n 2, 1) := by decide +kernel
theorem dX11_feed_19 : decode cX11_feed 19 = .ok (.invokevirtual 155, 3) := by decide +kernel
theorem dX11_feed_22 : decode cX11_feed 22 = .ok (.aload_n 0, 1) := by decide +kernel
theorem dX11_feed_23 : decode cX11_feed 23 = .ok (.iload_n 3, 1) := by decide +kernel
theorem dX11_feed_24 : decode cX11_feed 24 = .ok (.invokevirtual 155, 3) := by decide +kernel
theorem dX11_feed_27 : decode cX11_feed 27 = .ok (.aload_n 0, 1) := by decide +kernel
theorem dX11_feed_28 : decode cX11_feed 28 = .ok (.iload 4, 2) := by decide +kernel
theorem dX11_feed_30 : decode cX11_feed 30 = .ok (.invokevirtual 155, 3) := by decide +kernel
theorem dX11_feed_33 : decode cX11_feed 33 = .ok (.aload_n 0, 1) := by decide +kernel
theorem dX11_feed_34 : decode cX11_feed 34 = .ok (.iload 5, 2) := by decide +kernel
theorem dX11_feed_36 : decode cX11_feed 36 = .ok (.invokevirtual 155, 3) := by decide +kernel
theorem dX11_feed_39 : decode cX11_feed 39 = .ok (.aload_n 0, 1) := by decide +kernel
theorem dX11_feed_40 : decode cX11_feed 40 = .ok (.getfield 24, 3) := by decide +kernel
theorem dX11_feed_43 : decode cX11_feed 43 = .ok (.ireturn, 1) := by decide +kernel
theorem dX11_wood_0 : decode cX11_wood 0 = .ok (.iload_n 1, 1) := by decide +kernel
theorem dX11_wood_1 : decode cX11_wood 1 = .ok (.ifCond .lt 11, 3) := by decide +kernel
theorem dX11_wood_4 : decode cX11_wood 4 = .ok (.iload_n 1, 1) := by decide +kernel
theorem dX11_wood_5 : decode cX11_wood 5 = .ok (.aload_n 0, 1) := by decide +kernel
theorem dX11_wood_6 : decode cX11_wood 6 = .ok (.getfield 24, 3) := by decide +kernel
theorem dX11_wood_9 : decode cX11_wood 9 = .ok (.if_icmp .le 9, 3) := by decide +kernel
theorem dX11_wood_12 : decode cX11_wood 12 = .ok (.aload_n 0, 1) := by decide +kernel
theorem dX11_wood_13 : decode cX11_wood 13 = .ok (.iconst 5, 1) := by decide +kernel
theorem dX11_wood_14 : decode cX11_wood 14 = .ok (.invokevirtual 131, 3) := by decide +kernel
theorem dX11_wood_17 : decode cX11_wood 17 = .ok (.ireturn, 1) := by decide +kernel
theorem dX11_wood_18 : decode cX11_wood 18 = .ok (.aload_n 0, 1) := by decide +kernel
theorem dX11_wood_19 : decode cX11_wood 19 = .ok (.getfield 37, 3) := by decide +kernel
theorem dX11_wood_22 : decode cX11_wood 22 = .ok (.aload_n 0, 1) := by decide +kernel
theorem dX11_wood_23 : decode cX11_wood 23 = .ok (.getfield 20, 3) := by decide +kernel
theorem dX11_wood_26 : decode cX11_wood 26 = .ok (.iload_n 1, 1) := by decide +kernel
theorem dX11_wood_27 : decode cX11_wood 27 = .ok (.invokevirtual 159, 3) := by decide +kernel
theorem dX11_wood_30 : decode cX11_wood 30 = .ok (.aload_n 0, 1) := by decide +kernel
theorem dX11_wood_31 : decode cX11_wood 31 = .ok (.iconst 0, 1) := by decide +kernel
theorem dX11_wood_32 : decode cX11_wood 32 = .ok (.putfield 24, 3) := by decide +kernel
theorem dX11_wood_35 : decode cX11_wood 35 = .ok (.aload_n 0, 1) := by decide +kernel
theorem dX11_wood_36 : decode cX11_wood 36 = .ok (.getfield 44, 3) := by decide +kernel
theorem dX11_wood_39 : decode cX11_wood 39 = .ok (.aload_n 0, 1) := by decide +kernel
theorem dX11_wood_40 : decode cX11_wood 40 = .ok (.getfield 62, 3) := by decide +kernel
theorem dX11_wood_43 : decode cX11_wood 43 = .ok (.aload_n 0, 1) := by decide +kernel
theorem dX11_wood_44 : decode cX11_wood 44 = .ok (.getfield 37, 3) := by decide +kernel
theorem dX11_wood_47 : decode cX11_wood 47 = .ok (.invokevirtual 163, 3) := by decide +kernel
theorem dX11_wood_50 : decode cX11_wood 50 = .ok (.aload_n 0, 1) := by decide +kernel
theorem dX11_wood_51 : decode cX11_wood 51 = .ok (.getfield 37, 3) := by decide +kernel
theorem dX11_wood_54 : decode cX11_wood 54 = .ok (.invokevirtual 167, 3) := by decide +kernel
theorem dX11_wood_57 : decode cX11_wood 57 = .ok (.ifCond .ne 10, 3) := by decide +kernel
theorem dX11_wood_60 : decode cX11_wood 60 = .ok (.aload_n 0, 1) := by decide +kernel
theorem dX11_wood_61 : decode cX11_wood 61 = .ok (.bipush 10, 2) := by decide +kernel
theorem dX11_wood_63 : decode cX11_wood 63 = .ok (.invokevirtual 131, 3) := by decide +kernel
theorem dX11_wood_66 : decode cX11_wood 66 = .ok (.ireturn, 1) := by decide +kernel
theorem dX11_wood_67 : decode cX11_wood 67 = .ok (.aload_n 0, 1) := by decide +kernel
theorem dX11_wood_68 : decode cX11_wood 68 = .ok (.getfield 58, 3) := by decide +kernel
theorem dX11_wood_71 : decode cX11_wood 71 = .ok (.aload_n 0, 1) := by decide +kernel
theorem dX11_wood_72 : decode cX11_wood 72 = .ok (.getfield 62, 3) := by decide +kernel
theorem dX11_wood_75 : decode cX11_wood 75 = .ok (.invokevirtual 170, 3) := by decide +kernel
theorem dX11_wood_78 : decode cX11_wood 78 = .ok (.aload_n 0, 1) := by decide +kernel
theorem dX11_wood_79 : decode cX11_wood 79 = .ok (.aload_n 0, 1) := by decide +kernel
theorem dX11_wood_80 : decode cX11_wood 80 = .ok (.getfield 58, 3) := by decide +kernel
theorem dX11_wood_83 : decode cX11_wood 83 = .ok (.getfield 174, 3) := by decide +kernel
theorem dX11_wood_86 : decode cX11_wood 86 = .ok (.invokevirtual 177, 3) := by decide +kernel
theorem dX11_wood_89 : decode cX11_wood 89 = .ok (.ireturn, 1) := by decide +kernel
theorem dX11_years_0 : decode cX11_years 0 = .ok (.iload_n 1, 1) := by decide +kernel
theorem dX11_years_1 : decode cX11_years 1 = .ok (.ifCond .lt 18, 3) := by decide +kernel
theorem dX11_years_4 : decode cX11_years 4 = .ok (.iload_n 1, 1) := by decide +kernel
theorem dX11_years_5 : decode cX11_years 5 = .ok (.aload_n 0, 1) := by decide +kernel
theorem dX11_years_6 : decode cX11_years 6 = .ok (.getfield 24, 3) := by decide +kernel
theorem dX11_years_9 : decode cX11_years 9 = .ok (.if_icmp .gt 10, 3) := by decide +kernel
theorem dX11_years_12 : decode cX11_years 12 = .ok (.iload_n 1, 1) := by decide +kernel
theorem dX11_years_13 : decode cX11_years 13 = .ok (.sipush 300, 3) := by decide +kernel
theorem dX11_years_16 : decode cX11_years 16 = .ok (.if_icmp .le 9, 3) := by decide +kernel
theorem dX11_years_19 : decode cX11_years 19 = .ok (.aload_n 0, 1) := by decide +kernel
theorem dX11_years_20 : decode cX11_years 20 = .ok (.iconst 5, 1) := by decide +kernel
theorem dX11_years_21 : decode cX11_years 21 = .ok (.invokevirtual 131, 3) := by decide +kernel
theorem dX11_years_24 : decode cX11_years 24 = .ok (.ireturn, 1) := by decide +kernel
theorem dX11_years_25 : decode cX11_years 25 = .ok (.aload_n 0, 1) := by decide +kernel
theorem dX11_years_26 : decode cX11_years 26 = .ok (.getfield 37, 3) := by decide +kernel
theorem dX11_years_29 : decode cX11_years 29 = .ok (.aload_n 0, 1) := by decide +kernel
theorem dX11_years_30 : decode cX11_years 30 = .ok (.getfield 20, 3) := by decide +kernel
theorem dX11_years_33 : decode cX11_years 33 = .ok (.iload_n 1, 1) := by decide +kernel
theorem dX11_years_34 : decode cX11_years 34 = .ok (.invokevirtual 159, 3) := by decide +kernel
theorem dX11_years_37 : decode cX11_years 37 = .ok (.aload_n 0, 1) := by decide +kernel
theorem dX11_years_38 : decode cX11_years 38 = .ok (.iconst 0, 1) := by decide +kernel
theorem dX11_years_39 : decode cX11_years 39 = .ok (.putfield 24, 3) := by decide +kernel
theorem dX11_years_42 : decode cX11_years 42 = .ok (.aload_n 0, 1) := by decide +kernel
theorem dX11_years_43 : decode cX11_years 43 = .ok (.getfield 51, 3) := by decide +kernel
theorem dX11_years_46 : decode cX11_years 46 = .ok (.aload_n 0, 1) := by decide +kernel
theorem dX11_years_47 : decode cX11_years 47 = .ok (.getfield 62, 3) := by decide +kernel
theorem dX11_years_50 : decode cX11_years 50 = .ok (.getfield 180, 3) := by decide +kernel
theorem dX11_years_53 : decode cX11_years 53 = .ok (.aload_n 0, 1) := by decide +kernel
theorem dX11_years_54 : decode cX11_years 54 = .ok (.getfield 37, 3) := by decide +kernel
theorem dX11_years_57 : decode cX11_years 57 = .ok (.aload_n 0, 1) := by decide +kernel
theorem dX11_years_58 : decode cX11_years 58 = .ok (.getfield 58, 3) := by decide +kernel
theorem dX11_years_61 : decode cX11_years 61 = .ok (.invokevirtual 184, 3) := by decide +kernel
theorem dX11_years_64 : decode cX11_years 64 = .ok (.aload_n 0, 1) := by decide +kernel
theorem dX11_years_65 : decode cX11_years 65 = .ok (.getfield 37, 3) := by decide +kernel
theorem dX11_years_68 : decode cX11_years 68 = .ok (.invokevirtual 167, 3) := by decide +kernel
theorem dX11_years_71 : decode cX11_years 71 = .ok (.ifCond .ne 10, 3) := by decide +kernel
theorem dX11_years_74 : decode cX11_years 74 = .ok (.aload_n 0, 1) := by decide +kernel
theorem dX11_years_75 : decode cX11_years 75 = .ok (.bipush 10, 2) := by decide +kernel
theorem dX11_years_77 : decode cX11_years 77 = .ok (.invokevirtual 131, 3) := by decide +kernel
theorem dX11_years_80 : decode cX11_years 80 = .ok (.ireturn, 1) := by decide +kernel
theorem dX11_years_81 : decode cX11_years 81 = .ok (.aload_n 0, 1) := by decide +kernel
theorem dX11_years_82 : decode cX11_years 82 = .ok (.getfield 58, 3) := by decide +kernel
theorem dX11_years_85 : decode cX11_years 85 = .ok (.getfield 180, 3) := by decide +kernel
theorem dX11_years_88 : decode cX11_years 88 = .ok (.aload_n 0, 1) := by decide +kernel
theorem dX11_years_89 : decode cX11_years 89 = .ok (.getfield 62, 3) := by decide +kernel
theorem dX11_years_92 : decode cX11_years 92 = .ok (.getfield 180, 3) := by decide +kernel
theorem dX11_years_95 : decode cX11_years 95 = .ok (.invokevirtual 187, 3) := by decide +kernel
theorem dX11_years_98 : decode cX11_years 98 = .ok (.aload_n 0, 1) := by decide +kernel
theorem dX11_years_99 : decode cX11_years 99 = .ok (.aload_n 0, 1) := by decide +kernel
theorem dX11_years_100 : decode cX11_years 100 = .ok (.getfield 58, 3) := by decide +kernel
theorem dX11_years_103 : decode cX11_years 103 = .ok (.getfield 180, 3) := by decide +kernel
theorem dX11_years_106 : decode cX11_years 106 = .ok (.getfield 192, 3) := by decide +kernel
theorem dX11_years_109 : decode cX11_years 109 = .ok (.invokevirtual 177, 3) := by decide +kernel
theorem dX11_years_112 : decode cX11_years 112 = .ok (.ireturn, 1) := by decide +kernel
theorem dX11_fault_0 : decode cX11_fault 0 = .ok (.iload_n 1, 1) := by decide +kernel
theorem dX11_fault_1 : decode cX11_fault 1 = .ok (.ifCond .ne 11, 3) := by decide +kernel
theorem dX11_fault_4 : decode cX11_fault 4 = .ok (.aload_n 0, 1) := by decide +kernel
theorem dX11_fault_5 : decode cX11_fault 5 = .ok (.getfield 37, 3) := by decide +kernel
theorem dX11_fault_8 : decode cX11_fault 8 = .ok (.getfield 195, 3) := by decide +kernel
theorem dX11_fault_11 : decode cX11_fault 11 = .ok (.ireturn, 1) := by decide +kernel
theorem dX11_fault_12 : decode cX11_fault 12 = .ok (.iload_n 1, 1) := by decide +kernel
theorem dX11_fault_13 : decode cX11_fault 13 = .ok (.iconst 1, 1) := by decide +kernel
theorem dX11_fault_14 : decode cX11_fault 14 = .ok (.if_icmp .ne 13, 3) := by decide +kernel
theorem dX11_fault_17 : decode cX11_fault 17 = .ok (.aload_n 0, 1) := by decide +kernel
theorem dX11_fault_18 : decode cX11_fault 18 = .ok (.getfield 37, 3) := by decide +kernel
theorem dX11_fault_21 : decode cX11_fault 21 = .ok (.getfield 198, 3) := by decide +kernel
theorem dX11_fault_24 : decode cX11_fault 24 = .ok (.goto 4, 3) := by decide +kernel
theorem dX11_fault_27 : decode cX11_fault 27 = .ok (.iconst (-1), 1) := by decide +kernel
theorem dX11_fault_28 : decode cX11_fault 28 = .ok (.ireturn, 1) := by decide +kernel
theorem dX11_many_0 : decode cX11_many 0 = .ok (.iload_n 1, 1) := by decide +kernel
theorem dX11_many_1 : decode cX11_many 1 = .ok (.tableswitch 196 0 9 #[55, 67, 79, 91, 103, 115, 127, 146, 165, 184], 55) := by decide +kernel
theorem dX11_many_56 : decode cX11_many 56 = .ok (.aload_n 0, 1) := by decide +kernel
theorem dX11_many_57 : decode cX11_many 57 = .ok (.aload_n 0, 1) := by decide +kernel
theorem dX11_many_58 : decode cX11_many 58 = .ok (.getfield 58, 3) := by decide +kernel
theorem dX11_many_61 : decode cX11_many 61 = .ok (.getfield 201, 3) := by decide +kernel
theorem dX11_many_64 : decode cX11_many 64 = .ok (.invokevirtual 177, 3) := by decide +kernel
theorem dX11_many_67 : decode cX11_many 67 = .ok (.ireturn, 1) := by decide +kernel
theorem dX11_many_68 : decode cX11_many 68 = .ok (.aload_n 0, 1) := by decide +kernel
theorem dX11_many_69 : decode cX11_many 69 = .ok (.aload_n 0, 1) := by decide +kernel
theorem dX11_many_70 : decode cX11_many 70 = .ok (.getfield 58, 3) := by decide +kernel
theorem dX11_many_73 : decode cX11_many 73 = .ok (.getfield 204, 3) := by decide +kernel
theorem dX11_many_76 : decode cX11_many 76 = .ok (.invokevirtual 177, 3) := by decide +kernel
theorem dX11_many_79 : decode cX11_many 79 = .ok (.ireturn, 1) := by decide +kernel
theorem dX11_many_80 : decode cX11_many 80 = .ok (.aload_n 0, 1) := by decide +kernel
theorem dX11_many_81 : decode cX11_many 81 = .ok (.aload_n 0, 1) := by decide +kernel
theorem dX11_many_82 : decode cX11_many 82 = .ok (.getfield 58, 3) := by decide +kernel
theorem dX11_many_85 : decode cX11_many 85 = .ok (.getfield 174, 3) := by decide +kernel
theorem dX11_many_88 : decode cX11_many 88 = .ok (.invokevirtual 177, 3) := by decide +kernel
theorem dX11_many_91 : decode cX11_many 91 = .ok (.ireturn, 1) := by decide +kernel
theorem dX11_many_92 : decode cX11_many 92 = .ok (.aload_n 0, 1) := by decide +kernel
theorem dX11_many_93 : decode cX11_many 93 = .ok (.aload_n 0, 1) := by decide +kernel
theorem dX11_many_94 : decode cX11_many 94 = .ok (.getfield 58, 3) := by decide +kernel
theorem dX11_many_97 : decode cX11_many 97 = .ok (.getfield 207, 3) := by decide +kernel
theorem dX11_many_100 : decode cX11_many 100 = .ok (.invokevirtual 177, 3) := by decide +kernel
theorem dX11_many_103 : decode cX11_many 103 = .ok (.ireturn, 1) := by decide +kernel
theorem dX11_many_104 : decode cX11_many 104 = .ok (.aload_n 0, 1) := by decide +kernel
theorem dX11_many_105 : decode cX11_many 105 = .ok (.aload_n 0, 1) := by decide +kernel
theorem dX11_many_106 : decode cX11_many 106 = .ok (.getfield 58, 3) := by decide +kernel
theorem dX11_many_109 : decode cX11_many 109 = .ok (.getfield 210, 3) := by decide +kernel
theorem dX11_many_112 : decode cX11_many 112 = .ok (.invokevirtual 177, 3) := by decide +kernel
theorem dX11_many_115 : decode cX11_many 115 = .ok (.ireturn, 1) := by decide +kernel
theorem dX11_many_116 : decode cX11_many 116 = .ok (.aload_n 0, 1) := by decide +kernel
theorem dX11_many_117 : decode cX11_many 117 = .ok (.aload_n 0, 1) := by decide +kernel
theorem dX11_many_118 : decode cX11_many 118 = .ok (.getfield 58, 3) := by decide +kernel
theorem dX11_many_121 : decode cX11_many 121 = .ok (.getfield 213, 3) := by decide +kernel
theorem dX11_many_124 : decode cX11_many 124 = .ok (.invokevirtual 177, 3) := by decide +kernel
theorem dX11_many_127 : decode cX11_many 127 = .ok (.ireturn, 1) := by decide +kernel
theorem dX11_many_128 : decode cX11_many 128 = .ok (.aload_n 0, 1) := by decide +kernel
theorem dX11_many_129 : decode cX11_many 129 = .ok (.aload_n 0, 1) := by decide +kernel
theorem dX11_many_130 : decode cX11_many 130 = .ok (.getfield 58, 3) := by decide +kernel
theorem dX11_many_133 : decode cX11_many 133 = .ok (.aload_n 0, 1) := by decide +kernel
theorem dX11_many_134 : decode cX11_many 134 = .ok (.getfield 58, 3) := by decide +kernel
theorem dX11_many_137 : decode cX11_many 137 = .ok (.getfield 216, 3) := by decide +kernel
theorem dX11_many_140 : decode cX11_many 140 = .ok (.invokevirtual 219, 3) := by decide +kernel
theorem dX11_many_143 : decode cX11_many 143 = .ok (.invokevirtual 177, 3) := by decide +kernel
theorem dX11_many_146 : decode cX11_many 146 = .ok (.ireturn, 1) := by decide +kernel
theorem dX11_many_147 : decode cX11_many 147 = .ok (.aload_n 0, 1) := by decide +kernel
theorem dX11_many_148 : decode cX11_many 148 = .ok (.aload_n 0, 1) := by decide +kernel
theorem dX11_many_149 : decode cX11_many 149 = .ok (.getfield 58, 3) := by decide +kernel
theorem dX11_many_152 : decode cX11_many 152 = .ok (.aload_n 0, 1) := by decide +kernel
theorem dX11_many_153 : decode cX11_many 153 = .ok (.getfield 58, 3) := by decide +kernel
theorem dX11_many_156 : decode cX11_many 156 = .ok (.getfield 216, 3) := by decide +kernel
theorem dX11_many_159 : decode cX11_many 159 = .ok (.invokevirtual 223, 3) := by decide +kernel
theorem dX11_many_162 : decode cX11_many 162 = .ok (.invokevirtual 177, 3) := by decide +kernel
theorem dX11_many_165 : decode cX11_many 165 = .ok (.ireturn, 1) := by decide +kernel
theorem dX11_many_166 : decode cX11_many 166 = .ok (.aload_n 0, 1) := by decide +kernel
theorem dX11_many_167 : decode cX11_many 167 = .ok (.aload_n 0, 1) := by decide +kernel
theorem dX11_many_168 : decode cX11_many 168 = .ok (.getfield 58, 3) := by decide +kernel
theorem dX11_many_171 : decode cX11_many 171 = .ok (.aload_n 0, 1) := by decide +kernel
theorem dX11_many_172 : decode cX11_many 172 = .ok (.getfield 58, 3) := by decide +kernel
theorem dX11_many_175 : decode cX11_many 175 = .ok (.getfield 216, 3) := by decide +kernel
theorem dX11_many_178 : decode cX11_many 178 = .ok (.invokevirtual 226, 3) := by decide +kernel
theorem dX11_many_181 : decode cX11_many 181 = .ok (.invokevirtual 177, 3) := by decide +kernel
theorem dX11_many_184 : decode cX11_many 184 = .ok (.ireturn, 1) := by decide +kernel
theorem dX11_many_185 : decode cX11_many 185 = .ok (.aload_n 0, 1) := by decide +kernel
theorem dX11_many_186 : decode cX11_many 186 = .ok (.aload_n 0, 1) := by decide +kernel
theorem dX11_many_187 : decode cX11_many 187 = .ok (.getfield 58, 3) := by decide +kernel
theorem dX11_many_190 : decode cX11_many 190 = .ok (.getfield 229, 3) := by decide +kernel
theorem dX11_many_193 : decode cX11_many 193 = .ok (.invokevirtual 177, 3) := by decide +kernel
theorem dX11_many_196 : decode cX11_many 196 = .ok (.ireturn, 1) := by decide +kernel
theorem dX11_many_197 : decode cX11_many 197 = .ok (.aload_n 0, 1) := by decide +kernel
theorem dX11_many_198 : decode cX11_many 198 = .ok (.iconst 5, 1) := by decide +kernel
theorem dX11_many_199 : decode cX11_many 199 = .ok (.invokevirtual 131, 3) := by decide +kernel
theorem dX11_many_202 : decode cX11_many 202 = .ok (.ireturn, 1) := by decide +kernel
theorem dX11_matter_0 : decode cX11_matter 0 = .ok (.aload_n 0, 1) := by decide +kernel
theorem dX11_matter_1 : decode cX11_matter 1 = .ok (.getfield 58, 3) := by decide +kernel
theorem dX11_matter_4 : decode cX11_matter 4 = .ok (.iload_n 1, 1) := by decide +kernel
theorem dX11_matter_5 : decode cX11_matter 5 = .ok (.invokevirtual 232, 3) := by decide +kernel
theorem dX11_matter_8 : decode cX11_matter 8 = .ok (.ifCond .ne 9, 3) := by decide +kernel
theorem dX11_matter_11 : decode cX11_matter 11 = .ok (.aload_n 0, 1) := by decide +kernel
theorem dX11_matter_12 : decode cX11_matter 12 = .ok (.iconst 2, 1) := by decide +kernel
theorem dX11_matter_13 : decode cX11_matter 13 = .ok (.invokevirtual 131, 3) := by decide +kernel
theorem dX11_matter_16 : decode cX11_matter 16 = .ok (.ireturn, 1) := by decide +kernel
theorem dX11_matter_17 : decode cX11_matter 17 = .ok (.iload_n 2, 1) := by decide +kernel
theorem dX11_matter_18 : decode cX11_matter 18 = .ok (.tableswitch 101 0 4 #[34, 48, 62, 75, 88], 34) := by decide +kernel
theorem dX11_matter_52 : decode cX11_matter 52 = .ok (.aload_n 0, 1) := by decide +kernel
theorem dX11_matter_53 : decode cX11_matter 53 = .ok (.aload_n 0, 1) := by decide +kernel
theorem dX11_matter_54 : decode cX11_matter 54 = .ok (.getfield 58, 3) := by decide +kernel
theorem dX11_matter_57 : decode cX11_matter 57 = .ok (.getfield 216, 3) := by decide +kernel
theorem dX11_matter_60 : decode cX11_matter 60 = .ok (.iload_n 1, 1) := by decide +kernel
theorem dX11_matter_61 : decode cX11_matter 61 = .ok (.iaload, 1) := by decide +kernel
theorem dX11_matter_62 : decode cX11_matter 62 = .ok (.invokevirtual 177, 3) := by decide +kernel
theorem dX11_matter_65 : decode cX11_matter 65 = .ok (.ireturn, 1) := by decide +kernel
theorem dX11_matter_66 : decode cX11_matter 66 = .ok (.aload_n 0, 1) := by decide +kernel
theorem dX11_matter_67 : decode cX11_matter 67 = .ok (.aload_n 0, 1) := by decide +kernel
theorem dX11_matter_68 : decode cX11_matter 68 = .ok (.getfield 58, 3) := by decide +kernel
theorem dX11_matter_71 : decode cX11_matter 71 = .ok (.getfield 235, 3) := by decide +kernel
theorem dX11_matter_74 : decode cX11_matter 74 = .ok (.iload_n 1, 1) := by decide +kernel
theorem dX11_matter_75 : decode cX11_matter 75 = .ok (.iaload, 1) := by decide +kernel
theorem dX11_matter_76 : decode cX11_matter 76 = .ok (.invokevirtual 177, 3) := by decide +kernel
theorem dX11_matter_79 : decode cX11_matter 79 = .ok (.ireturn, 1) := by decide +kernel
theorem dX11_matter_80 : decode cX11_matter 80 = .ok (.aload_n 0, 1) := by decide +kernel
theorem dX11_matter_81 : decode cX11_matter 81 = .ok (.aload_n 0, 1) := by decide +kernel
theorem dX11_matter_82 : decode cX11_matter 82 = .ok (.getfield 58, 3) := by decide +kernel
theorem dX11_matter_85 : decode cX11_matter 85 = .ok (.iload_n 1, 1) := by decide +kernel
theorem dX11_matter_86 : decode cX11_matter 86 = .ok (.invokevirtual 238, 3) := by decide +kernel
theorem dX11_matter_89 : decode cX11_matter 89 = .ok (.invokevirtual 177, 3) := by decide +kernel
theorem dX11_matter_92 : decode cX11_matter 92 = .ok (.ireturn, 1) := by decide +kernel
theorem dX11_matter_93 : decode cX11_matter 93 = .ok (.aload_n 0, 1) := by decide +kernel
theorem dX11_matter_94 : decode cX11_matter 94 = .ok (.aload_n 0, 1) := by decide +kernel
theorem dX11_matter_95 : decode cX11_matter 95 = .ok (.getfield 58, 3) := by decide +kernel
theorem dX11_matter_98 : decode cX11_matter 98 = .ok (.iload_n 1, 1) := by decide +kernel
theorem dX11_matter_99 : decode cX11_matter 99 = .ok (.invokevirtual 241, 3) := by decide +kernel
theorem dX11_matter_102 : decode cX11_matter 102 = .ok (.invokevirtual 177, 3) := by decide +kernel
theorem dX11_matter_105 : decode cX11_matter 105 = .ok (.ireturn, 1) := by decide +kernel
theorem dX11_matter_106 : decode cX11_matter 106 = .ok (.aload_n 0, 1) := by decide +kernel
theorem dX11_matter_107 : decode cX11_matter 107 = .ok (.aload_n 0, 1) := by decide +kernel
theorem dX11_matter_108 : decode cX11_matter 108 = .ok (.getfield 58, 3) := by decide +kernel
theorem dX11_matter_111 : decode cX11_matter 111 = .ok (.iload_n 1, 1) := by decide +kernel
theorem dX11_matter_112 : decode cX11_matter 112 = .ok (.invokevirtual 244, 3) := by decide +kernel
theorem dX11_matter_115 : decode cX11_matter 115 = .ok (.invokevirtual 247, 3) := by decide +kernel
theorem dX11_matter_118 : decode cX11_matter 118 = .ok (.ireturn, 1) := by decide +kernel
theorem dX11_matter_119 : decode cX11_matter 119 = .ok (.aload_n 0, 1) := by decide +kernel
theorem dX11_matter_120 : decode cX11_matter 120 = .ok (.iconst 5, 1) := by decide +kernel
theorem dX11_matter_121 : decode cX11_matter 121 = .ok (.invokevirtual 131, 3) := by decide +kernel
theorem dX11_matter_124 : decode cX11_matter 124 = .ok (.ireturn, 1) := by decide +kernel
theorem dX11_hold_0 : decode cX11_hold 0 = .ok (.aload_n 0, 1) := by decide +kernel
theorem dX11_hold_1 : decode cX11_hold 1 = .ok (.getfield 58, 3) := by decide +kernel
theorem dX11_hold_4 : decode cX11_hold 4 = .ok (.iload_n 1, 1) := by decide +kernel
theorem dX11_hold_5 : decode cX11_hold 5 = .ok (.invokevirtual 250, 3) := by decide +kernel
theorem dX11_hold_8 : decode cX11_hold 8 = .ok (.ifCond .ne 9, 3) := by decide +kernel
theorem dX11_hold_11 : decode cX11_hold 11 = .ok (.aload_n 0, 1) := by decide +kernel
theorem dX11_hold_12 : decode cX11_hold 12 = .ok (.iconst 2, 1) := by decide +kernel
theorem dX11_hold_13 : decode cX11_hold 13 = .ok (.invokevirtual 131, 3) := by decide +kernel
theorem dX11_hold_16 : decode cX11_hold 16 = .ok (.ireturn, 1) := by decide +kernel
theorem dX11_hold_17 : decode cX11_hold 17 = .ok (.iload_n 2, 1) := by decide +kernel
theorem dX11_hold_18 : decode cX11_hold 18 = .ok (.ifCond .ne 17, 3) := by decide +kernel
theorem dX11_hold_21 : decode cX11_hold 21 = .ok (.aload_n 0, 1) := by decide +kernel
theorem dX11_hold_22 : decode cX11_hold 22 = .ok (.aload_n 0, 1) := by decide +kernel
theorem dX11_hold_23 : decode cX11_hold 23 = .ok (.getfield 58, 3) := by decide +kernel
theorem dX11_hold_26 : decode cX11_hold 26 = .ok (.getfield 253, 3) := by decide +kernel
theorem dX11_hold_29 : decode cX11_hold 29 = .ok (.iload_n 1, 1) := by decide +kernel
theorem dX11_hold_30 : decode cX11_hold 30 = .ok (.iaload, 1) := by decide +kernel
theorem dX11_hold_31 : decode cX11_hold 31 = .ok (.invokevirtual 177, 3) := by decide +kernel
theorem dX11_hold_34 : decode cX11_hold 34 = .ok (.ireturn, 1) := by decide +kernel
theorem dX11_hold_35 : decode cX11_hold 35 = .ok (.iload_n 2, 1) := by decide +kernel
theorem dX11_hold_36 : decode cX11_hold 36 = .ok (.iconst 1, 1) := by decide +kernel
theorem dX11_hold_37 : decode cX11_hold 37 = .ok (.if_icmp .ne 19, 3) := by decide +kernel
theorem dX11_hold_40 : decode cX11_hold 40 = .ok (.aload_n 0, 1) := by decide +kernel
theorem dX11_hold_41 : decode cX11_hold 41 = .ok (.aload_n 0, 1) := by decide +kernel
theorem dX11_hold_42 : decode cX11_hold 42 = .ok (.getfield 58, 3) := by decide +kernel
theorem dX11_hold_45 : decode cX11_hold 45 = .ok (.getfield 256, 3) := by decide +kernel
theorem dX11_hold_48 : decode cX11_hold 48 = .ok (.iload_n 1, 1) := by decide +kernel
theorem dX11_hold_49 : decode cX11_hold 49 = .ok (.iaload, 1) := by decide +kernel
theorem dX11_hold_50 : decode cX11_hold 50 = .ok (.invokevirtual 177, 3) := by decide +kernel
theorem dX11_hold_53 : decode cX11_hold 53 = .ok (.goto 8, 3) := by decide +kernel
theorem dX11_hold_56 : decode cX11_hold 56 = .ok (.aload_n 0, 1) := by decide +kernel
theorem dX11_hold_57 : decode cX11_hold 57 = .ok (.iconst 5, 1) := by decide +kernel
theorem dX11_hold_58 : decode cX11_hold 58 = .ok (.invokevirtual 131, 3) := by decide +kernel
theorem dX11_hold_61 : decode cX11_hold 61 = .ok (.ireturn, 1) := by decide +kernel
theorem dX11_sitter_0 : decode cX11_sitter 0 = .ok (.aload_n 0, 1) := by decide +kernel
theorem dX11_sitter_1 : decode cX11_sitter 1 = .ok (.getfield 58, 3) := by decide +kernel
theorem dX11_sitter_4 : decode cX11_sitter 4 = .ok (.iload_n 1, 1) := by decide +kernel
theorem dX11_sitter_5 : decode cX11_sitter 5 = .ok (.invokevirtual 259, 3) := by decide +kernel
theorem dX11_sitter_8 : decode cX11_sitter 8 = .ok (.ifCond .ne 9, 3) := by decide +kernel
theorem dX11_sitter_11 : decode cX11_sitter 11 = .ok (.aload_n 0, 1) := by decide +kernel
theorem dX11_sitter_12 : decode cX11_sitter 12 = .ok (.iconst 2, 1) := by decide +kernel
theorem dX11_sitter_13 : decode cX11_sitter 13 = .ok (.invokevirtual 131, 3) := by decide +kernel
theorem dX11_sitter_16 : decode cX11_sitter 16 = .ok (.ireturn, 1) := by decide +kernel
theorem dX11_sitter_17 : decode cX11_sitter 17 = .ok (.iload_n 2, 1) := by decide +kernel
theorem dX11_sitter_18 : decode cX11_sitter 18 = .ok (.tableswitch 103 0 4 #[34, 48, 62, 76, 90], 34) := by decide +kernel
theorem dX11_sitter_52 : decode cX11_sitter 52 = .ok (.aload_n 0, 1) := by decide +kernel
theorem dX11_sitter_53 : decode cX11_sitter 53 = .ok (.aload_n 0, 1) := by decide +kernel
theorem dX11_sitter_54 : decode cX11_sitter 54 = .ok (.getfield 58, 3) := by decide +kernel
theorem dX11_sitter_57 : decode cX11_sitter 57 = .ok (.getfield 262, 3) := by decide +kernel
theorem dX11_sitter_60 : decode cX11_sitter 60 = .ok (.iload_n 1, 1) := by decide +kernel
theorem dX11_sitter_61 : decode cX11_sitter 61 = .ok (.iaload, 1) := by decide +kernel
theorem dX11_sitter_62 : decode cX11_sitter 62 = .ok (.invokevirtual 177, 3) := by decide +kernel
theorem dX11_sitter_65 : decode cX11_sitter 65 = .ok (.ireturn, 1) := by decide +kernel
theorem dX11_sitter_66 : decode cX11_sitter 66 = .ok (.aload_n 0, 1) := by decide +kernel
theorem dX11_sitter_67 : decode cX11_sitter 67 = .ok (.aload_n 0, 1) := by decide +kernel
theorem dX11_sitter_68 : decode cX11_sitter 68 = .ok (.getfield 58, 3) := by decide +kernel
theorem dX11_sitter_71 : decode cX11_sitter 71 = .ok (.getfield 265, 3) := by decide +kernel
theorem dX11_sitter_74 : decode cX11_sitter 74 = .ok (.iload_n 1, 1) := by decide +kernel
theorem dX11_sitter_75 : decode cX11_sitter 75 = .ok (.iaload, 1) := by decide +kernel
theorem dX11_sitter_76 : decode cX11_sitter 76 = .ok (.invokevirtual 177, 3) := by decide +kernel
theorem dX11_sitter_79 : decode cX11_sitter 79 = .ok (.ireturn, 1) := by decide +kernel
theorem dX11_sitter_80 : decode cX11_sitter 80 = .ok (.aload_n 0, 1) := by decide +kernel
theorem dX11_sitter_81 : decode cX11_sitter 81 = .ok (.aload_n 0, 1) := by decide +kernel
theorem dX11_sitter_82 : decode cX11_sitter 82 = .ok (.getfield 58, 3) := by decide +kernel
theorem dX11_sitter_85 : decode cX11_sitter 85 = .ok (.getfield 268, 3) := by decide +kernel
theorem dX11_sitter_88 : decode cX11_sitter 88 = .ok (.iload_n 1, 1) := by decide +kernel
theorem dX11_sitter_89 : decode cX11_sitter 89 = .ok (.iaload, 1) := by decide +kernel
theorem dX11_sitter_90 : decode cX11_sitter 90 = .ok (.invokevirtual 177, 3) := by decide +kernel
theorem dX11_sitter_93 : decode cX11_sitter 93 = .ok (.ireturn, 1) := by decide +kernel
theorem dX11_sitter_94 : decode cX11_sitter 94 = .ok (.aload_n 0, 1) := by decide +kernel
theorem dX11_sitter_95 : decode cX11_sitter 95 = .ok (.aload_n 0, 1) := by decide +kernel
theorem dX11_sitter_96 : decode cX11_sitter 96 = .ok (.getfield 58, 3) := by decide +kernel
theorem dX11_sitter_99 : decode cX11_sitter 99 = .ok (.getfield 271, 3) := by decide +kernel
theorem dX11_sitter_102 : decode cX11_sitter 102 = .ok (.iload_n 1, 1) := by decide +kernel
theorem dX11_sitter_103 : decode cX11_sitter 103 = .ok (.iaload, 1) := by decide +kernel
theorem dX11_sitter_104 : decode cX11_sitter 104 = .ok (.invokevirtual 177, 3) := by decide +kernel
theorem dX11_sitter_107 : decode cX11_sitter 107 = .ok (.ireturn, 1) := by decide +kernel
theorem dX11_sitter_108 : decode cX11_sitter 108 = .ok (.aload_n 0, 1) := by decide +kernel
theorem dX11_sitter_109 : decode cX11_sitter 109 = .ok (.aload_n 0, 1) := by decide +kernel
theorem dX11_sitter_110 : decode cX11_sitter 110 = .ok (.getfield 58, 3) := by decide +kernel
theorem dX11_sitter_113 : decode cX11_sitter 113 = .ok (.iload_n 1, 1) := by decide +kernel
theorem dX11_sitter_114 : decode cX11_sitter 114 = .ok (.invokevirtual 274, 3) := by decide +kernel
theorem dX11_sitter_117 : decode cX11_sitter 117 = .ok (.invokevirtual 177, 3) := by decide +kernel
theorem dX11_sitter_120 : decode cX11_sitter 120 = .ok (.ireturn, 1) := by decide +kernel
theorem dX11_sitter_121 : decode cX11_sitter 121 = .ok (.aload_n 0, 1) := by decide +kernel
theorem dX11_sitter_122 : decode cX11_sitter 122 = .ok (.iconst 5, 1) := by decide +kernel
theorem dX11_sitter_123 : decode cX11_sitter 123 = .ok (.invokevirtual 131, 3) := by decide +kernel
theorem dX11_sitter_126 : decode cX11_sitter 126 = .ok (.ireturn, 1) := by decide +kernel
theorem dX11_news_0 : decode cX11_news 0 = .ok (.aload_n 0, 1) := by decide +kernel
theorem dX11_news_1 : decode cX11_news 1 = .ok (.getfield 58, 3) := by decide +kernel
theorem dX11_news_4 : decode cX11_news 4 = .ok (.iload_n 1, 1) := by decide +kernel
theorem dX11_news_5 : decode cX11_news 5 = .ok (.invokevirtual 277, 3) := by decide +kernel
theorem dX11_news_8 : decode cX11_news 8 = .ok (.ifCond .ne 9, 3) := by decide +kernel
theorem dX11_news_11 : decode cX11_news 11 = .ok (.aload_n 0, 1) := by decide +kernel
theorem dX11_news_12 : decode cX11_news 12 = .ok (.iconst 2, 1) := by decide +kernel
theorem dX11_news_13 : decode cX11_news 13 = .ok (.invokevirtual 131, 3) := by decide +kernel
theorem dX11_news_16 : decode cX11_news 16 = .ok (.ireturn, 1) := by decide +kernel
theorem dX11_news_17 : decode cX11_news 17 = .ok (.iload_n 2, 1) := by decide +kernel
theorem dX11_news_18 : decode cX11_news 18 = .ok (.tableswitch 70 0 2 #[26, 40, 54], 26) := by decide +kernel
theorem dX11_news_44 : decode cX11_news 44 = .ok (.aload_n 0, 1) := by decide +kernel
theorem dX11_news_45 : decode cX11_news 45 = .ok (.aload_n 0, 1) := by decide +kernel
theorem dX11_news_46 : decode cX11_news 46 = .ok (.getfield 58, 3) := by decide +kernel
theorem dX11_news_49 : decode cX11_news 49 = .ok (.getfield 280, 3) := by decide +kernel
theorem dX11_news_52 : decode cX11_news 52 = .ok (.iload_n 1, 1) := by decide +kernel
theorem dX11_news_53 : decode cX11_news 53 = .ok (.iaload, 1) := by decide +kernel
theorem dX11_news_54 : decode cX11_news 54 = .ok (.invokevirtual 177, 3) := by decide +kernel
theorem dX11_news_57 : decode cX11_news 57 = .ok (.ireturn, 1) := by decide +kernel
theorem dX11_news_58 : decode cX11_news 58 = .ok (.aload_n 0, 1) := by decide +kernel
theorem dX11_news_59 : decode cX11_news 59 = .ok (.aload_n 0, 1) := by decide +kernel
theorem dX11_news_60 : decode cX11_news 60 = .ok (.getfield 58, 3) := by decide +kernel
theorem dX11_news_63 : decode cX11_news 63 = .ok (.getfield 283, 3) := by decide +kernel
theorem dX11_news_66 : decode cX11_news 66 = .ok (.iload_n 1, 1) := by decide +kernel
theorem dX11_news_67 : decode cX11_news 67 = .ok (.iaload, 1) := by decide +kernel
theorem dX11_news_68 : decode cX11_news 68 = .ok (.invokevirtual 177, 3) := by decide +kernel
theorem dX11_news_71 : decode cX11_news 71 = .ok (.ireturn, 1) := by decide +kernel
theorem dX11_news_72 : decode cX11_news 72 = .ok (.aload_n 0, 1) := by decide +kernel
theorem dX11_news_73 : decode cX11_news 73 = .ok (.aload_n 0, 1) := by decide +kernel
theorem dX11_news_74 : decode cX11_news 74 = .ok (.getfield 58, 3) := by decide +kernel
theorem dX11_news_77 : decode cX11_news 77 = .ok (.getfield 229, 3) := by decide +kernel
theorem dX11_news_80 : decode cX11_news 80 = .ok (.iload_n 1, 1) := by decide +kernel
theorem dX11_news_81 : decode cX11_news 81 = .ok (.ishr, 1) := by decide +kernel
theorem dX11_news_82 : decode cX11_news 82 = .ok (.iconst 1, 1) := by decide +kernel
theorem dX11_news_83 : decode cX11_news 83 = .ok (.iand, 1) := by decide +kernel
theorem dX11_news_84 : decode cX11_news 84 = .ok (.invokevirtual 177, 3) := by decide +kernel
theorem dX11_news_87 : decode cX11_news 87 = .ok (.ireturn, 1) := by decide +kernel
theorem dX11_news_88 : decode cX11_news 88 = .ok (.aload_n 0, 1) := by decide +kernel
theorem dX11_news_89 : decode cX11_news 89 = .ok (.iconst 5, 1) := by decide +kernel
theorem dX11_news_90 : decode cX11_news 90 = .ok (.invokevirtual 131, 3) := by decide +kernel
theorem dX11_news_93 : decode cX11_news 93 = .ok (.ireturn, 1) := by decide +kernel
theorem dX11_copyHeights_0 : decode cX11_copyHeights 0 = .ok (.aload_n 0, 1) := by decide +kernel
theorem dX11_copyHeights_1 : decode cX11_copyHeights 1 = .ok (.getfield 30, 3) := by decide +kernel
theorem dX11_copyHeights_4 : decode cX11_copyHeights 4 = .ok (.iload_n 1, 1) := by decide +kernel
theorem dX11_copyHeights_5 : decode cX11_copyHeights 5 = .ok (.iconst 0, 1) := by decide +kernel
theorem dX11_copyHeights_6 : decode cX11_copyHeights 6 = .ok (.aload_n 0, 1) := by decide +kernel
theorem dX11_copyHeights_7 : decode cX11_copyHeights 7 = .ok (.getfield 58, 3) := by decide +kernel
theorem dX11_copyHeights_10 : decode cX11_copyHeights 10 = .ok (.getfield 174, 3) := by decide +kernel
theorem dX11_copyHeights_13 : decode cX11_copyHeights 13 = .ok (.invokevirtual 123, 3) := by decide +kernel
theorem dX11_copyHeights_16 : decode cX11_copyHeights 16 = .ok (.istore_n 2, 1) := by decide +kernel
theorem dX11_copyHeights_17 : decode cX11_copyHeights 17 = .ok (.iload_n 2, 1) := by decide +kernel
theorem dX11_copyHeights_18 : decode cX11_copyHeights 18 = .ok (.ifCond .eq 9, 3) := by decide +kernel
theorem dX11_copyHeights_21 : decode cX11_copyHeights 21 = .ok (.aload_n 0, 1) := by decide +kernel
theorem dX11_copyHeights_22 : decode cX11_copyHeights 22 = .ok (.iload_n 2, 1) := by decide +kernel
theorem dX11_copyHeights_23 : decode cX11_copyHeights 23 = .ok (.invokevirtual 131, 3) := by decide +kernel
theorem dX11_copyHeights_26 : decode cX11_copyHeights 26 = .ok (.ireturn, 1) := by decide +kernel
theorem dX11_copyHeights_27 : decode cX11_copyHeights 27 = .ok (.iconst 0, 1) := by decide +kernel
theorem dX11_copyHeights_28 : decode cX11_copyHeights 28 = .ok (.istore_n 3, 1) := by decide +kernel
theorem dX11_copyHeights_29 : decode cX11_copyHeights 29 = .ok (.iload_n 3, 1) := by decide +kernel
theorem dX11_copyHeights_30 : decode cX11_copyHeights 30 = .ok (.aload_n 0, 1) := by decide +kernel
theorem dX11_copyHeights_31 : decode cX11_copyHeights 31 = .ok (.getfield 58, 3) := by decide +kernel
theorem dX11_copyHeights_34 : decode cX11_copyHeights 34 = .ok (.getfield 174, 3) := by decide +kernel
theorem dX11_copyHeights_37 : decode cX11_copyHeights 37 = .ok (.if_icmp .ge 27, 3) := by decide +kernel
theorem dX11_copyHeights_40 : decode cX11_copyHeights 40 = .ok (.aload_n 0, 1) := by decide +kernel
theorem dX11_copyHeights_41 : decode cX11_copyHeights 41 = .ok (.getfield 30, 3) := by decide +kernel
theorem dX11_copyHeights_44 : decode cX11_copyHeights 44 = .ok (.iload_n 1, 1) := by decide +kernel
theorem dX11_copyHeights_45 : decode cX11_copyHeights 45 = .ok (.iload_n 3, 1) := by decide +kernel
theorem dX11_copyHeights_46 : decode cX11_copyHeights 46 = .ok (.aload_n 0, 1) := by decide +kernel
theorem dX11_copyHeights_47 : decode cX11_copyHeights 47 = .ok (.getfield 58, 3) := by decide +kernel
theorem dX11_copyHeights_50 : decode cX11_copyHeights 50 = .ok (.iload_n 3, 1) := by decide +kernel
theorem dX11_copyHeights_51 : decode cX11_copyHeights 51 = .ok (.invokevirtual 274, 3) := by decide +kernel
theorem dX11_copyHeights_54 : decode cX11_copyHeights 54 = .ok (.i2l, 1) := by decide +kernel
theorem dX11_copyHeights_55 : decode cX11_copyHeights 55 = .ok (.invokevirtual 127, 3) := by decide +kernel
theorem dX11_copyHeights_58 : decode cX11_copyHeights 58 = .ok (.iinc 3 1, 3) := by decide +kernel
theorem dX11_copyHeights_61 : decode cX11_copyHeights 61 = .ok (.goto (-32), 3) := by decide +kernel
theorem dX11_copyHeights_64 : decode cX11_copyHeights 64 = .ok (.aload_n 0, 1) := by decide +kernel
theorem dX11_copyHeights_65 : decode cX11_copyHeights 65 = .ok (.aload_n 0, 1) := by decide +kernel
theorem dX11_copyHeights_66 : decode cX11_copyHeights 66 = .ok (.getfield 58, 3) := by decide +kernel
theorem dX11_copyHeights_69 : decode cX11_copyHeights 69 = .ok (.getfield 174, 3) := by decide +kernel
theorem dX11_copyHeights_72 : decode cX11_copyHeights 72 = .ok (.invokevirtual 177, 3) := by decide +kernel
theorem dX11_copyHeights_75 : decode cX11_copyHeights 75 = .ok (.ireturn, 1) := by decide +kernel
theorem dX11_day_0 : decode cX11_day 0 = .ok (.iload_n 1, 1) := by decide +kernel
theorem dX11_day_1 : decode cX11_day 1 = .ok (.iconst 1, 1) := by decide +kernel
theorem dX11_day_2 : decode cX11_day 2 = .ok (.if_icmp .lt 10, 3) := by decide +kernel
theorem dX11_day_5 : decode cX11_day 5 = .ok (.iload_n 1, 1) := by decide +kernel
theorem dX11_day_6 : decode cX11_day 6 = .ok (.sipush 999, 3) := by decide +kernel
theorem dX11_day_9 : decode cX11_day 9 = .ok (.if_icmp .le 9, 3) := by decide +kernel
theorem dX11_day_12 : decode cX11_day 12 = .ok (.aload_n 0, 1) := by decide +kernel
theorem dX11_day_13 : decode cX11_day 13 = .ok (.iconst 5, 1) := by decide +kernel
theorem dX11_day_14 : decode cX11_day 14 = .ok (.invokevirtual 131, 3) := by decide +kernel
theorem dX11_day_17 : decode cX11_day 17 = .ok (.ireturn, 1) := by decide +kernel
theorem dX11_day_18 : decode cX11_day 18 = .ok (.aload_n 0, 1) := by decide +kernel
theorem dX11_day_19 : decode cX11_day 19 = .ok (.getfield 58, 3) := by decide +kernel
theorem dX11_day_22 : decode cX11_day 22 = .ok (.iload_n 1, 1) := by decide +kernel
theorem dX11_day_23 : decode cX11_day 23 = .ok (.invokevirtual 286, 3) := by decide +kernel
theorem dX11_day_26 : decode cX11_day 26 = .ok (.ifCond .ne 10, 3) := by decide +kernel
theorem dX11_day_29 : decode cX11_day 29 = .ok (.aload_n 0, 1) := by decide +kernel
theorem dX11_day_30 : decode cX11_day 30 = .ok (.bipush 7, 2) := by decide +kernel
theorem dX11_day_32 : decode cX11_day 32 = .ok (.invokevirtual 131, 3) := by decide +kernel
theorem dX11_day_35 : decode cX11_day 35 = .ok (.ireturn, 1) := by decide +kernel
theorem dX11_day_36 : decode cX11_day 36 = .ok (.aload_n 0, 1) := by decide +kernel
theorem dX11_day_37 : decode cX11_day 37 = .ok (.getfield 58, 3) := by decide +kernel
theorem dX11_day_40 : decode cX11_day 40 = .ok (.iload_n 1, 1) := by decide +kernel
theorem dX11_day_41 : decode cX11_day 41 = .ok (.invokevirtual 289, 3) := by decide +kernel
theorem dX11_day_44 : decode cX11_day 44 = .ok (.aload_n 0, 1) := by decide +kernel
theorem dX11_day_45 : decode cX11_day 45 = .ok (.aload_n 0, 1) := by decide +kernel
theorem dX11_day_46 : decode cX11_day 46 = .ok (.getfield 58, 3) := by decide +kernel
theorem dX11_day_49 : decode cX11_day 49 = .ok (.aload_n 0, 1) := by decide +kernel
theorem dX11_day_50 : decode cX11_day 50 = .ok (.getfield 58, 3) := by decide +kernel
theorem dX11_day_53 : decode cX11_day 53 = .ok (.getfield 216, 3) := by decide +kernel
theorem dX11_day_56 : decode cX11_day 56 = .ok (.invokevirtual 226, 3) := by decide +kernel
theorem dX11_day_59 : decode cX11_day 59 = .ok (.invokevirtual 177, 3) := by decide +kernel
theorem dX11_day_62 : decode cX11_day 62 = .ok (.ireturn, 1) := by decide +kernel
theorem dX11_bring_0 : decode cX11_bring 0 = .ok (.aload_n 0, 1) := by decide +kernel
theorem dX11_bring_1 : decode cX11_bring 1 = .ok (.getfield 58, 3) := by decide +kernel
theorem dX11_bring_4 : decode cX11_bring 4 = .ok (.iload_n 1, 1) := by decide +kernel
theorem dX11_bring_5 : decode cX11_bring 5 = .ok (.invokevirtual 277, 3) := by decide +kernel
theorem dX11_bring_8 : decode cX11_bring 8 = .ok (.ifCond .ne 9, 3) := by decide +kernel
theorem dX11_bring_11 : decode cX11_bring 11 = .ok (.aload_n 0, 1) := by decide +kernel
theorem dX11_bring_12 : decode cX11_bring 12 = .ok (.iconst 2, 1) := by decide +kernel
theorem dX11_bring_13 : decode cX11_bring 13 = .ok (.invokevirtual 131, 3) := by decide +kernel
theorem dX11_bring_16 : decode cX11_bring 16 = .ok (.ireturn, 1) := by decide +kernel
theorem dX11_bring_17 : decode cX11_bring 17 = .ok (.aload_n 0, 1) := by decide +kernel
theorem dX11_bring_18 : decode cX11_bring 18 = .ok (.getfield 58, 3) := by decide +kernel
theorem dX11_bring_21 : decode cX11_bring 21 = .ok (.iload_n 1, 1) := by decide +kernel
theorem dX11_bring_22 : decode cX11_bring 22 = .ok (.invokevirtual 292, 3) := by decide +kernel
theorem dX11_bring_25 : decode cX11_bring 25 = .ok (.ifCond .ne 10, 3) := by decide +kernel
theorem dX11_bring_28 : decode cX11_bring 28 = .ok (.aload_n 0, 1) := by decide +kernel
theorem dX11_bring_29 : decode cX11_bring 29 = .ok (.bipush 9, 2) := by decide +kernel
theorem dX11_bring_31 : decode cX11_bring 31 = .ok (.invokevirtual 131, 3) := by decide +kernel
theorem dX11_bring_34 : decode cX11_bring 34 = .ok (.ireturn, 1) := by decide +kernel
theorem dX11_bring_35 : decode cX11_bring 35 = .ok (.aload_n 0, 1) := by decide +kernel
theorem dX11_bring_36 : decode cX11_bring 36 = .ok (.getfield 58, 3) := by decide +kernel
theorem dX11_bring_39 : decode cX11_bring 39 = .ok (.iload_n 1, 1) := by decide +kernel
theorem dX11_bring_40 : decode cX11_bring 40 = .ok (.invokevirtual 295, 3) := by decide +kernel
theorem dX11_bring_43 : decode cX11_bring 43 = .ok (.aload_n 0, 1) := by decide +kernel
theorem dX11_bring_44 : decode cX11_bring 44 = .ok (.aload_n 0, 1) := by decide +kernel
theorem dX11_bring_45 : decode cX11_bring 45 = .ok (.getfield 58, 3) := by decide +kernel
theorem dX11_bring_48 : decode cX11_bring 48 = .ok (.getfield 216, 3) := by decide +kernel
theorem dX11_bring_51 : decode cX11_bring 51 = .ok (.aload_n 0, 1) := by decide +kernel
theorem dX11_bring_52 : decode cX11_bring 52 = .ok (.getfield 58, 3) := by decide +kernel
theorem dX11_bring_55 : decode cX11_bring 55 = .ok (.getfield 280, 3) := by decide +kernel
theorem dX11_bring_58 : decode cX11_bring 58 = .ok (.iload_n 1, 1) := by decide +kernel
theorem dX11_bring_59 : decode cX11_bring 59 = .ok (.iaload, 1) := by decide +kernel
theorem dX11_bring_60 : decode cX11_bring 60 = .ok (.iaload, 1) := by decide +kernel
theorem dX11_bring_61 : decode cX11_bring 61 = .ok (.invokevirtual 177, 3) := by decide +kernel
theorem dX11_bring_64 : decode cX11_bring 64 = .ok (.ireturn, 1) := by decide +kernel
theorem dX11_crisis_0 : decode cX11_crisis 0 = .ok (.aload_n 0, 1) := by decide +kernel
theorem dX11_crisis_1 : decode cX11_crisis 1 = .ok (.getfield 58, 3) := by decide +kernel
theorem dX11_crisis_4 : decode cX11_crisis 4 = .ok (.iload_n 1, 1) := by decide +kernel
theorem dX11_crisis_5 : decode cX11_crisis 5 = .ok (.invokevirtual 232, 3) := by decide +kernel
theorem dX11_crisis_8 : decode cX11_crisis 8 = .ok (.ifCond .ne 9, 3) := by decide +kernel
theorem dX11_crisis_11 : decode cX11_crisis 11 = .ok (.aload_n 0, 1) := by decide +kernel
theorem dX11_crisis_12 : decode cX11_crisis 12 = .ok (.iconst 2, 1) := by decide +kernel
theorem dX11_crisis_13 : decode cX11_crisis 13 = .ok (.invokevirtual 131, 3) := by decide +kernel
theorem dX11_crisis_16 : decode cX11_crisis 16 = .ok (.ireturn, 1) := by decide +kernel
theorem dX11_crisis_17 : decode cX11_crisis 17 = .ok (.iload_n 2, 1) := by decide +kernel
theorem dX11_crisis_18 : decode cX11_crisis 18 = .ok (.iconst 1, 1) := by decide +kernel
theorem dX11_crisis_19 : decode cX11_crisis 19 = .ok (.if_icmp .lt 9, 3) := by decide +kernel
theorem dX11_crisis_22 : decode cX11_crisis 22 = .ok (.iload_n 2, 1) := by decide +kernel
theorem dX11_crisis_23 : decode cX11_crisis 23 = .ok (.bipush 100, 2) := by decide +kernel
theorem dX11_crisis_25 : decode cX11_crisis 25 = .ok (.if_icmp .le 9, 3) := by decide +kernel
theorem dX11_crisis_28 : decode cX11_crisis 28 = .ok (.aload_n 0, 1) := by decide +kernel
theorem dX11_crisis_29 : decode cX11_crisis 29 = .ok (.iconst 5, 1) := by decide +kernel
theorem dX11_crisis_30 : decode cX11_crisis 30 = .ok (.invokevirtual 131, 3) := by decide +kernel
theorem dX11_crisis_33 : decode cX11_crisis 33 = .ok (.ireturn, 1) := by decide +kernel
theorem dX11_crisis_34 : decode cX11_crisis 34 = .ok (.aload_n 0, 1) := by decide +kernel
theorem dX11_crisis_35 : decode cX11_crisis 35 = .ok (.getfield 58, 3) := by decide +kernel
theorem dX11_crisis_38 : decode cX11_crisis 38 = .ok (.getfield 216, 3) := by decide +kernel
theorem dX11_crisis_41 : decode cX11_crisis 41 = .ok (.iload_n 1, 1) := by decide +kernel
theorem dX11_crisis_42 : decode cX11_crisis 42 = .ok (.iaload, 1) := by decide +kernel
theorem dX11_crisis_43 : decode cX11_crisis 43 = .ok (.ifCond .ne 10, 3) := by decide +kernel
theorem dX11_crisis_46 : decode cX11_crisis 46 = .ok (.aload_n 0, 1) := by decide +kernel
theorem dX11_crisis_47 : decode cX11_crisis 47 = .ok (.bipush 9, 2) := by decide +kernel
theorem dX11_crisis_49 : decode cX11_crisis 49 = .ok (.invokevirtual 131, 3) := by decide +kernel
theorem dX11_crisis_52 : decode cX11_crisis 52 = .ok (.ireturn, 1) := by decide +kernel
theorem dX11_crisis_53 : decode cX11_crisis 53 = .ok (.aload_n 0, 1) := by decide +kernel
theorem dX11_crisis_54 : decode cX11_crisis 54 = .ok (.getfield 58, 3) := by decide +kernel
theorem dX11_crisis_57 : decode cX11_crisis 57 = .ok (.iload_n 1, 1) := by decide +kernel
theorem dX11_crisis_58 : decode cX11_crisis 58 = .ok (.iload_n 2, 1) := by decide +kernel
theorem dX11_crisis_59 : decode cX11_crisis 59 = .ok (.invokevirtual 298, 3) := by decide +kernel
theorem dX11_crisis_62 : decode cX11_crisis 62 = .ok (.aload_n 0, 1) := by decide +kernel
theorem dX11_crisis_63 : decode cX11_crisis 63 = .ok (.aload_n 0, 1) := by decide +kernel
theorem dX11_crisis_64 : decode cX11_crisis 64 = .ok (.getfield 58, 3) := by decide +kernel
theorem dX11_crisis_67 : decode cX11_crisis 67 = .ok (.getfield 216, 3) := by decide +kernel
theorem dX11_crisis_70 : decode cX11_crisis 70 = .ok (.iload_n 1, 1) := by decide +kernel
theorem dX11_crisis_71 : decode cX11_crisis 71 = .ok (.iaload, 1) := by decide +kernel
theorem dX11_crisis_72 : decode cX11_crisis 72 = .ok (.invokevirtual 177, 3) := by decide +kernel
theorem dX11_crisis_75 : decode cX11_crisis 75 = .ok (.ireturn, 1) := by decide +kernel
theorem dX11_turn_0 : decode cX11_turn 0 = .ok (.aload_n 0, 1) := by decide +kernel
theorem dX11_turn_1 : decode cX11_turn 1 = .ok (.getfield 58, 3) := by decide +kernel
theorem dX11_turn_4 : decode cX11_turn 4 = .ok (.iload_n 1, 1) := by decide +kernel
theorem dX11_turn_5 : decode cX11_turn 5 = .ok (.invokevirtual 259, 3) := by decide +kernel
theorem dX11_turn_8 : decode cX11_turn 8 = .ok (.ifCond .eq 14, 3) := by decide +kernel
theorem dX11_turn_11 : decode cX11_turn 11 = .ok (.aload_n 0, 1) := by decide +kernel
theorem dX11_turn_12 : decode cX11_turn 12 = .ok (.getfield 58, 3) := by decide +kernel
theorem dX11_turn_15 : decode cX11_turn 15 = .ok (.iload_n 2, 1) := by decide +kernel
theorem dX11_turn_16 : decode cX11_turn 16 = .ok (.invokevirtual 232, 3) := by decide +kernel
theorem dX11_turn_19 : decode cX11_turn 19 = .ok (.ifCond .ne 9, 3) := by decide +kernel
theorem dX11_turn_22 : decode cX11_turn 22 = .ok (.aload_n 0, 1) := by decide +kernel
theorem dX11_turn_23 : decode cX11_turn 23 = .ok (.iconst 2, 1) := by decide +kernel
theorem dX11_turn_24 : decode cX11_turn 24 = .ok (.invokevirtual 131, 3) := by decide +kernel
theorem dX11_turn_27 : decode cX11_turn 27 = .ok (.ireturn, 1) := by decide +kernel
theorem dX11_turn_28 : decode cX11_turn 28 = .ok (.aload_n 0, 1) := by decide +kernel
theorem dX11_turn_29 : decode cX11_turn 29 = .ok (.getfield 58, 3) := by decide +kernel
theorem dX11_turn_32 : decode cX11_turn 32 = .ok (.getfield 268, 3) := by decide +kernel
theorem dX11_turn_35 : decode cX11_turn 35 = .ok (.iload_n 1, 1) := by decide +kernel
theorem dX11_turn_36 : decode cX11_turn 36 = .ok (.iaload, 1) := by decide +kernel
theorem dX11_turn_37 : decode cX11_turn 37 = .ok (.iload_n 2, 1) := by decide +kernel
theorem dX11_turn_38 : decode cX11_turn 38 = .ok (.if_icmp .ne 10, 3) := by decide +kernel
theorem dX11_turn_41 : decode cX11_turn 41 = .ok (.aload_n 0, 1) := by decide +kernel
theorem dX11_turn_42 : decode cX11_turn 42 = .ok (.bipush 9, 2) := by decide +kernel
theorem dX11_turn_44 : decode cX11_turn 44 = .ok (.invokevirtual 131, 3) := by decide +kernel
theorem dX11_turn_47 : decode cX11_turn 47 = .ok (.ireturn, 1) := by decide +kernel
theorem dX11_turn_48 : decode cX11_turn 48 = .ok (.aload_n 0, 1) := by decide +kernel
theorem dX11_turn_49 : decode cX11_turn 49 = .ok (.getfield 58, 3) := by decide +kernel
theorem dX11_turn_52 : decode cX11_turn 52 = .ok (.getfield 268, 3) := by decide +kernel
theorem dX11_turn_55 : decode cX11_turn 55 = .ok (.iload_n 1, 1) := by decide +kernel
theorem dX11_turn_56 : decode cX11_turn 56 = .ok (.iload_n 2, 1) := by decide +kernel
theorem dX11_turn_57 : decode cX11_turn 57 = .ok (.iastore, 1) := by decide +kernel
theorem dX11_turn_58 : decode cX11_turn 58 = .ok (.aload_n 0, 1) := by decide +kernel
theorem dX11_turn_59 : decode cX11_turn 59 = .ok (.aload_n 0, 1) := by decide +kernel
theorem dX11_turn_60 : decode cX11_turn 60 = .ok (.getfield 58, 3) := by decide +kernel
theorem dX11_turn_63 : decode cX11_turn 63 = .ok (.iload_n 1, 1) := by decide +kernel
theorem dX11_turn_64 : decode cX11_turn 64 = .ok (.invokevirtual 274, 3) := by decide +kernel
theorem dX11_turn_67 : decode cX11_turn 67 = .ok (.invokevirtual 177, 3) := by decide +kernel
theorem dX11_turn_70 : decode cX11_turn 70 = .ok (.ireturn, 1) := by decide +kernel
theorem dX11_sit_0 : decode cX11_sit 0 = .ok (.aload_n 0, 1) := by decide +kernel
theorem dX11_sit_1 : decode cX11_sit 1 = .ok (.getfield 58, 3) := by decide +kernel
theorem dX11_sit_4 : decode cX11_sit 4 = .ok (.iload_n 3, 1) := by decide +kernel
theorem dX11_sit_5 : decode cX11_sit 5 = .ok (.invokevirtual 232, 3) := by decide +kernel
theorem dX11_sit_8 : decode cX11_sit 8 = .ok (.ifCond .ne 9, 3) := by decide +kernel
theorem dX11_sit_11 : decode cX11_sit 11 = .ok (.aload_n 0, 1) := by decide +kernel
theorem dX11_sit_12 : decode cX11_sit 12 = .ok (.iconst 2, 1) := by decide +kernel
theorem dX11_sit_13 : decode cX11_sit 13 = .ok (.invokevirtual 131, 3) := by decide +kernel
theorem dX11_sit_16 : decode cX11_sit 16 = .ok (.ireturn, 1) := by decide +kernel
theorem dX11_sit_17 : decode cX11_sit 17 = .ok (.iload_n 1, 1) := by decide +kernel
theorem dX11_sit_18 : decode cX11_sit 18 = .ok (.ifCond .lt 20, 3) := by decide +kernel
theorem dX11_sit_21 : decode cX11_sit 21 = .ok (.iload_n 1, 1) := by decide +kernel
theorem dX11_sit_22 : decode cX11_sit 22 = .ok (.bipush 59, 2) := by decide +kernel
theorem dX11_sit_24 : decode cX11_sit 24 = .ok (.if_icmp .gt 14, 3) := by decide +kernel
theorem dX11_sit_27 : decode cX11_sit 27 = .ok (.iload_n 2, 1) := by decide +kernel
theorem dX11_sit_28 : decode cX11_sit 28 = .ok (.iconst 1, 1) := by decide +kernel
theorem dX11_sit_29 : decode cX11_sit 29 = .ok (.if_icmp .lt 9, 3) := by decide +kernel
theorem dX11_sit_32 : decode cX11_sit 32 = .ok (.iload_n 2, 1) := by decide +kernel
theorem dX11_sit_33 : decode cX11_sit 33 = .ok (.bipush 99, 2) := by decide +kernel
theorem dX11_sit_35 : decode cX11_sit 35 = .ok (.if_icmp .le 9, 3) := by decide +kernel
theorem dX11_sit_38 : decode cX11_sit 38 = .ok (.aload_n 0, 1) := by decide +kernel
theorem dX11_sit_39 : decode cX11_sit 39 = .ok (.iconst 5, 1) := by decide +kernel
theorem dX11_sit_40 : decode cX11_sit 40 = .ok (.invokevirtual 131, 3) := by decide +kernel
theorem dX11_sit_43 : decode cX11_sit 43 = .ok (.ireturn, 1) := by decide +kernel
theorem dX11_sit_44 : decode cX11_sit 44 = .ok (.aload_n 0, 1) := by decide +kernel
theorem dX11_sit_45 : decode cX11_sit 45 = .ok (.getfield 58, 3) := by decide +kernel
theorem dX11_sit_48 : decode cX11_sit 48 = .ok (.getfield 174, 3) := by decide +kernel
theorem dX11_sit_51 : decode cX11_sit 51 = .ok (.bipush 7, 2) := by decide +kernel
theorem dX11_sit_53 : decode cX11_sit 53 = .ok (.if_icmp .lt 10, 3) := by decide +kernel
theorem dX11_sit_56 : decode cX11_sit 56 = .ok (.aload_n 0, 1) := by decide +kernel
theorem dX11_sit_57 : decode cX11_sit 57 = .ok (.bipush 7, 2) := by decide +kernel
theorem dX11_sit_59 : decode cX11_sit 59 = .ok (.invokevirtual 131, 3) := by decide +kernel
theorem dX11_sit_62 : decode cX11_sit 62 = .ok (.ireturn, 1) := by decide +kernel
theorem dX11_sit_63 : decode cX11_sit 63 = .ok (.aload_n 0, 1) := by decide +kernel
theorem dX11_sit_64 : decode cX11_sit 64 = .ok (.getfield 58, 3) := by decide +kernel
theorem dX11_sit_67 : decode cX11_sit 67 = .ok (.lconst 0, 1) := by decide +kernel
theorem dX11_sit_68 : decode cX11_sit 68 = .ok (.iload_n 1, 1) := by decide +kernel
theorem dX11_sit_69 : decode cX11_sit 69 = .ok (.iload_n 2, 1) := by decide +kernel
theorem dX11_sit_70 : decode cX11_sit 70 = .ok (.iload_n 3, 1) := by decide +kernel
theorem dX11_sit_71 : decode cX11_sit 71 = .ok (.iconst 1, 1) := by decide +kernel
theorem dX11_sit_72 : decode cX11_sit 72 = .ok (.invokevirtual 302, 3) := by decide +kernel
theorem dX11_sit_75 : decode cX11_sit 75 = .ok (.aload_n 0, 1) := by decide +kernel
theorem dX11_sit_76 : decode cX11_sit 76 = .ok (.aload_n 0, 1) := by decide +kernel
theorem dX11_sit_77 : decode cX11_sit 77 = .ok (.getfield 58, 3) := by decide +kernel
theorem dX11_sit_80 : decode cX11_sit 80 = .ok (.getfield 174, 3) := by decide +kernel
theorem dX11_sit_83 : decode cX11_sit 83 = .ok (.iconst 1, 1) := by decide +kernel
theorem dX11_sit_84 : decode cX11_sit 84 = .ok (.isub, 1) := by decide +kernel
theorem dX11_sit_85 : decode cX11_sit 85 = .ok (.invokevirtual 177, 3) := by decide +kernel
theorem dX11_sit_88 : decode cX11_sit 88 = .ok (.ireturn, 1) := by decide +kernel
theorem dX11_hear_0 : decode cX11_hear 0 = .ok (.aload_n 0, 1) := by decide +kernel
theorem dX11_hear_1 : decode cX11_hear 1 = .ok (.getfield 58, 3) := by decide +kernel
theorem dX11_hear_4 : decode cX11_hear 4 = .ok (.iload_n 1, 1) := by decide +kernel
theorem dX11_hear_5 : decode cX11_hear 5 = .ok (.invokevirtual 232, 3) := by decide +kernel
theorem dX11_hear_8 : decode cX11_hear 8 = .ok (.ifCond .ne 9, 3) := by decide +kernel
theorem dX11_hear_11 : decode cX11_hear 11 = .ok (.aload_n 0, 1) := by decide +kernel
theorem dX11_hear_12 : decode cX11_hear 12 = .ok (.iconst 2, 1) := by decide +kernel
theorem dX11_hear_13 : decode cX11_hear 13 = .ok (.invokevirtual 131, 3) := by decide +kernel
theorem dX11_hear_16 : decode cX11_hear 16 = .ok (.ireturn, 1) := by decide +kernel
theorem dX11_hear_17 : decode cX11_hear 17 = .ok (.iload_n 2, 1) := by decide +kernel
theorem dX11_hear_18 : decode cX11_hear 18 = .ok (.iconst 1, 1) := by decide +kernel
theorem dX11_hear_19 : decode cX11_hear 19 = .ok (.if_icmp .lt 9, 3) := by decide +kernel
theorem dX11_hear_22 : decode cX11_hear 22 = .ok (.iload_n 2, 1) := by decide +kernel
theorem dX11_hear_23 : decode cX11_hear 23 = .ok (.bipush 100, 2) := by decide +kernel
theorem dX11_hear_25 : decode cX11_hear 25 = .ok (.if_icmp .le 9, 3) := by decide +kernel
theorem dX11_hear_28 : decode cX11_hear 28 = .ok (.aload_n 0, 1) := by decide +kernel
theorem dX11_hear_29 : decode cX11_hear 29 = .ok (.iconst 5, 1) := by decide +kernel
theorem dX11_hear_30 : decode cX11_hear 30 = .ok (.invokevirtual 131, 3) := by decide +kernel
theorem dX11_hear_33 : decode cX11_hear 33 = .ok (.ireturn, 1) := by decide +kernel
theorem dX11_hear_34 : decode cX11_hear 34 = .ok (.aload_n 0, 1) := by decide +kernel
theorem dX11_hear_35 : decode cX11_hear 35 = .ok (.getfield 58, 3) := by decide +kernel
theorem dX11_hear_38 : decode cX11_hear 38 = .ok (.getfield 207, 3) := by decide +kernel
theorem dX11_hear_41 : decode cX11_hear 41 = .ok (.bipush 8, 2) := by decide +kernel
theorem dX11_hear_43 : decode cX11_hear 43 = .ok (.if_icmp .lt 10, 3) := by decide +kernel
theorem dX11_hear_46 : decode cX11_hear 46 = .ok (.aload_n 0, 1) := by decide +kernel
theorem dX11_hear_47 : decode cX11_hear 47 = .ok (.bipush 7, 2) := by decide +kernel
theorem dX11_hear_49 : decode cX11_hear 49 = .ok (.invokevirtual 131, 3) := by decide +kernel
theorem dX11_hear_52 : decode cX11_hear 52 = .ok (.ireturn, 1) := by decide +kernel
theorem dX11_hear_53 : decode cX11_hear 53 = .ok (.aload_n 0, 1) := by decide +kernel
theorem dX11_hear_54 : decode cX11_hear 54 = .ok (.getfield 58, 3) := by decide +kernel
theorem dX11_hear_57 : decode cX11_hear 57 = .ok (.iload_n 1, 1) := by decide +kernel
theorem dX11_hear_58 : decode cX11_hear 58 = .ok (.iload_n 2, 1) := by decide +kernel
theorem dX11_hear_59 : decode cX11_hear 59 = .ok (.invokevirtual 306, 3) := by decide +kernel
theorem dX11_hear_62 : decode cX11_hear 62 = .ok (.aload_n 0, 1) := by decide +kernel
theorem dX11_hear_63 : decode cX11_hear 63 = .ok (.aload_n 0, 1) := by decide +kernel
theorem dX11_hear_64 : decode cX11_hear 64 = .ok (.getfield 58, 3) := by decide +kernel
theorem dX11_hear_67 : decode cX11_hear 67 = .ok (.getfield 207, 3) := by decide +kernel
theorem dX11_hear_70 : decode cX11_hear 70 = .ok (.iconst 1, 1) := by decide +kernel
theorem dX11_hear_71 : decode cX11_hear 71 = .ok (.isub, 1) := by decide +kernel
theorem dX11_hear_72 : decode cX11_hear 72 = .ok (.invokevirtual 177, 3) := by decide +kernel
theorem dX11_hear_75 : decode cX11_hear 75 = .ok (.ireturn, 1) := by decide +kernel
theorem dX11_bind_0 : decode cX11_bind 0 = .ok (.aload_n 0, 1) := by decide +kernel
theorem dX11_bind_1 : decode cX11_bind 1 = .ok (.getfield 58, 3) := by decide +kernel
theorem dX11_bind_4 : decode cX11_bind 4 = .ok (.iload_n 1, 1) := by decide +kernel
theorem dX11_bind_5 : decode cX11_bind 5 = .ok (.invokevirtual 232, 3) := by decide +kernel
theorem dX11_bind_8 : decode cX11_bind 8 = .ok (.ifCond .eq 14, 3) := by decide +kernel
theorem dX11_bind_11 : decode cX11_bind 11 = .ok (.aload_n 0, 1) := by decide +kernel
theorem dX11_bind_12 : decode cX11_bind 12 = .ok (.getfield 58, 3) := by decide +kernel
theorem dX11_bind_15 : decode cX11_bind 15 = .ok (.iload_n 2, 1) := by decide +kernel
theorem dX11_bind_16 : decode cX11_bind 16 = .ok (.invokevirtual 232, 3) := by decide +kernel
theorem dX11_bind_19 : decode cX11_bind 19 = .ok (.ifCond .ne 9, 3) := by decide +kernel
theorem dX11_bind_22 : decode cX11_bind 22 = .ok (.aload_n 0, 1) := by decide +kernel
theorem dX11_bind_23 : decode cX11_bind 23 = .ok (.iconst 2, 1) := by decide +kernel
theorem dX11_bind_24 : decode cX11_bind 24 = .ok (.invokevirtual 131, 3) := by decide +kernel
theorem dX11_bind_27 : decode cX11_bind 27 = .ok (.ireturn, 1) := by decide +kernel
theorem dX11_bind_28 : decode cX11_bind 28 = .ok (.iload_n 1, 1) := by decide +kernel
theorem dX11_bind_29 : decode cX11_bind 29 = .ok (.iload_n 2, 1) := by decide +kernel
theorem dX11_bind_30 : decode cX11_bind 30 = .ok (.if_icmp .ne 9, 3) := by decide +kernel
theorem dX11_bind_33 : decode cX11_bind 33 = .ok (.aload_n 0, 1) := by decide +kernel
theorem dX11_bind_34 : decode cX11_bind 34 = .ok (.iconst 5, 1) := by decide +kernel
theorem dX11_bind_35 : decode cX11_bind 35 = .ok (.invokevirtual 131, 3) := by decide +kernel
theorem dX11_bind_38 : decode cX11_bind 38 = .ok (.ireturn, 1) := by decide +kernel
theorem dX11_bind_39 : decode cX11_bind 39 = .ok (.aload_n 0, 1) := by decide +kernel
theorem dX11_bind_40 : decode cX11_bind 40 = .ok (.getfield 58, 3) := by decide +kernel
theorem dX11_bind_43 : decode cX11_bind 43 = .ok (.getfield 204, 3) := by decide +kernel
theorem dX11_bind_46 : decode cX11_bind 46 = .ok (.bipush 10, 2) := by decide +kernel
theorem dX11_bind_48 : decode cX11_bind 48 = .ok (.if_icmp .lt 10, 3) := by decide +kernel
theorem dX11_bind_51 : decode cX11_bind 51 = .ok (.aload_n 0, 1) := by decide +kernel
theorem dX11_bind_52 : decode cX11_bind 52 = .ok (.bipush 7, 2) := by decide +kernel
theorem dX11_bind_54 : decode cX11_bind 54 = .ok (.invokevirtual 131, 3) := by decide +kernel
theorem dX11_bind_57 : decode cX11_bind 57 = .ok (.ireturn, 1) := by decide +kernel
theorem dX11_bind_58 : decode cX11_bind 58 = .ok (.aload_n 0, 1) := by decide +kernel
theorem dX11_bind_59 : decode cX11_bind 59 = .ok (.getfield 58, 3) := by decide +kernel
theorem dX11_bind_62 : decode cX11_bind 62 = .ok (.iload_n 1, 1) := by decide +kernel
theorem dX11_bind_63 : decode cX11_bind 63 = .ok (.iload_n 2, 1) := by decide +kernel
theorem dX11_bind_64 : decode cX11_bind 64 = .ok (.invokevirtual 309, 3) := by decide +kernel
theorem dX11_bind_67 : decode cX11_bind 67 = .ok (.ifCond .eq 10, 3) := by decide +kernel
theorem dX11_bind_70 : decode cX11_bind 70 = .ok (.aload_n 0, 1) := by decide +kernel
theorem dX11_bind_71 : decode cX11_bind 71 = .ok (.bipush 9, 2) := by decide +kernel
theorem dX11_bind_73 : decode cX11_bind 73 = .ok (.invokevirtual 131, 3) := by decide +kernel
theorem dX11_bind_76 : decode cX11_bind 76 = .ok (.ireturn, 1) := by decide +kernel
theorem dX11_bind_77 : decode cX11_bind 77 = .ok (.aload_n 0, 1) := by decide +kernel
theorem dX11_bind_78 : decode cX11_bind 78 = .ok (.getfield 58, 3) := by decide +kernel
theorem dX11_bind_81 : decode cX11_bind 81 = .ok (.iload_n 1, 1) := by decide +kernel
theorem dX11_bind_82 : decode cX11_bind 82 = .ok (.iload_n 2, 1) := by decide +kernel
theorem dX11_bind_83 : decode cX11_bind 83 = .ok (.invokevirtual 313, 3) := by decide +kernel
theorem dX11_bind_86 : decode cX11_bind 86 = .ok (.aload_n 0, 1) := by decide +kernel
theorem dX11_bind_87 : decode cX11_bind 87 = .ok (.aload_n 0, 1) := by decide +kernel
theorem dX11_bind_88 : decode cX11_bind 88 = .ok (.getfield 58, 3) := by decide +kernel
theorem dX11_bind_91 : decode cX11_bind 91 = .ok (.getfield 204, 3) := by decide +kernel
theorem dX11_bind_94 : decode cX11_bind 94 = .ok (.iconst 1, 1) := by decide +kernel
theorem dX11_bind_95 : decode cX11_bind 95 = .ok (.isub, 1) := by decide +kernel
theorem dX11_bind_96 : decode cX11_bind 96 = .ok (.invokevirtual 177, 3) := by decide +kernel
theorem dX11_bind_99 : decode cX11_bind 99 = .ok (.ireturn, 1) := by decide +kernel
theorem dX11_loose_0 : decode cX11_loose 0 = .ok (.aload_n 0, 1) := by decide +kernel
theorem dX11_loose_1 : decode cX11_loose 1 = .ok (.getfield 58, 3) := by decide +kernel
theorem dX11_loose_4 : decode cX11_loose 4 = .ok (.iload_n 1, 1) := by decide +kernel
theorem dX11_loose_5 : decode cX11_loose 5 = .ok (.invokevirtual 250, 3) := by decide +kernel
theorem dX11_loose_8 : decode cX11_loose 8 = .ok (.ifCond .ne 9, 3) := by decide +kernel
theorem dX11_loose_11 : decode cX11_loose 11 = .ok (.aload_n 0, 1) := by decide +kernel
theorem dX11_loose_12 : decode cX11_loose 12 = .ok (.iconst 2, 1) := by decide +kernel
theorem dX11_loose_13 : decode cX11_loose 13 = .ok (.invokevirtual 131, 3) := by decide +kernel
theorem dX11_loose_16 : decode cX11_loose 16 = .ok (.ireturn, 1) := by decide +kernel
theorem dX11_loose_17 : decode cX11_loose 17 = .ok (.aload_n 0, 1) := by decide +kernel
theorem dX11_loose_18 : decode cX11_loose 18 = .ok (.getfield 58, 3) := by decide +kernel
theorem dX11_loose_21 : decode cX11_loose 21 = .ok (.iload_n 1, 1) := by decide +kernel
theorem dX11_loose_22 : decode cX11_loose 22 = .ok (.invokevirtual 316, 3) := by decide +kernel
theorem dX11_loose_25 : decode cX11_loose 25 = .ok (.aload_n 0, 1) := by decide +kernel
theorem dX11_loose_26 : decode cX11_loose 26 = .ok (.aload_n 0, 1) := by decide +kernel
theorem dX11_loose_27 : decode cX11_loose 27 = .ok (.getfield 58, 3) := by decide +kernel
theorem dX11_loose_30 : decode cX11_loose 30 = .ok (.getfield 204, 3) := by decide +kernel
theorem dX11_loose_33 : decode cX11_loose 33 = .ok (.invokevirtual 177, 3) := by decide +kernel
theorem dX11_loose_36 : decode cX11_loose 36 = .ok (.ireturn, 1) := by decide +kernel
theorem dX11_hurry_0 : decode cX11_hurry 0 = .ok (.aload_n 0, 1) := by decide +kernel
theorem dX11_hurry_1 : decode cX11_hurry 1 = .ok (.getfield 58, 3) := by decide +kernel
theorem dX11_hurry_4 : decode cX11_hurry 4 = .ok (.iload_n 1, 1) := by decide +kernel
theorem dX11_hurry_5 : decode cX11_hurry 5 = .ok (.invokevirtual 232, 3) := by decide +kernel
theorem dX11_hurry_8 : decode cX11_hurry 8 = .ok (.ifCond .ne 9, 3) := by decide +kernel
theorem dX11_hurry_11 : decode cX11_hurry 11 = .ok (.aload_n 0, 1) := by decide +kernel
theorem dX11_hurry_12 : decode cX11_hurry 12 = .ok (.iconst 2, 1) := by decide +kernel
theorem dX11_hurry_13 : decode cX11_hurry 13 = .ok (.invokevirtual 131, 3) := by decide +kernel
theorem dX11_hurry_16 : decode cX11_hurry 16 = .ok (.ireturn, 1) := by decide +kernel
theorem dX11_hurry_17 : decode cX11_hurry 17 = .ok (.iload_n 2, 1) := by decide +kernel
theorem dX11_hurry_18 : decode cX11_hurry 18 = .ok (.ifCond .lt 9, 3) := by decide +kernel
theorem dX11_hurry_21 : decode cX11_hurry 21 = .ok (.iload_n 2, 1) := by decide +kernel
theorem dX11_hurry_22 : decode cX11_hurry 22 = .ok (.bipush 20, 2) := by decide +kernel
theorem dX11_hurry_24 : decode cX11_hurry 24 = .ok (.if_icmp .le 9, 3) := by decide +kernel
theorem dX11_hurry_27 : decode cX11_hurry 27 = .ok (.aload_n 0, 1) := by decide +kernel
theorem dX11_hurry_28 : decode cX11_hurry 28 = .ok (.iconst 5, 1) := by decide +kernel
theorem dX11_hurry_29 : decode cX11_hurry 29 = .ok (.invokevirtual 131, 3) := by decide +kernel
theorem dX11_hurry_32 : decode cX11_hurry 32 = .ok (.ireturn, 1) := by decide +kernel
theorem dX11_hurry_33 : decode cX11_hurry 33 = .ok (.aload_n 0, 1) := by decide +kernel
theorem dX11_hurry_34 : decode cX11_hurry 34 = .ok (.getfield 58, 3) := by decide +kernel
theorem dX11_hurry_37 : decode cX11_hurry 37 = .ok (.getfield 235, 3) := by decide +kernel
theorem dX11_hurry_40 : decode cX11_hurry 40 = .ok (.iload_n 1, 1) := by decide +kernel
theorem dX11_hurry_41 : decode cX11_hurry 41 = .ok (.iaload, 1) := by decide +kernel
theorem dX11_hurry_42 : decode cX11_hurry 42 = .ok (.istore_n 3, 1) := by decide +kernel
theorem dX11_hurry_43 : decode cX11_hurry 43 = .ok (.aload_n 0, 1) := by decide +kernel
theorem dX11_hurry_44 : decode cX11_hurry 44 = .ok (.getfield 58, 3) := by decide +kernel
theorem dX11_hurry_47 : decode cX11_hurry 47 = .ok (.getfield 235, 3) := by decide +kernel
theorem dX11_hurry_50 : decode cX11_hurry 50 = .ok (.iload_n 1, 1) := by decide +kernel
theorem dX11_hurry_51 : decode cX11_hurry 51 = .ok (.iload_n 2, 1) := by decide +kernel
theorem dX11_hurry_52 : decode cX11_hurry 52 = .ok (.iastore, 1) := by decide +kernel
theorem dX11_hurry_53 : decode cX11_hurry 53 = .ok (.aload_n 0, 1) := by decide +kernel
theorem dX11_hurry_54 : decode cX11_hurry 54 = .ok (.iload_n 3, 1) := by decide +kernel
theorem dX11_hurry_55 : decode cX11_hurry 55 = .ok (.invokevirtual 177, 3) := by decide +kernel
theorem dX11_hurry_58 : decode cX11_hurry 58 = .ok (.ireturn, 1) := by decide +kernel
theorem dX11_rule_0 : decode cX11_rule 0 = .ok (.iload_n 1, 1) := by decide +kernel
theorem dX11_rule_1 : decode cX11_rule 1 = .ok (.ifCond .lt 9, 3) := by decide +kernel
theorem dX11_rule_4 : decode cX11_rule 4 = .ok (.iload_n 1, 1) := by decide +kernel
theorem dX11_rule_5 : decode cX11_rule 5 = .ok (.bipush 16, 2) := by decide +kernel
theorem dX11_rule_7 : decode cX11_rule 7 = .ok (.if_icmp .le 9, 3) := by decide +kernel
theorem dX11_rule_10 : decode cX11_rule 10 = .ok (.aload_n 0, 1) := by decide +kernel
theorem dX11_rule_11 : decode cX11_rule 11 = .ok (.iconst 5, 1) := by decide +kernel
theorem dX11_rule_12 : decode cX11_rule 12 = .ok (.invokevirtual 112, 3) := by decide +kernel
theorem dX11_rule_15 : decode cX11_rule 15 = .ok (.ireturn, 1) := by decide +kernel
theorem dX11_rule_16 : decode cX11_rule 16 = .ok (.aload_n 0, 1) := by decide +kernel
theorem dX11_rule_17 : decode cX11_rule 17 = .ok (.getfield 58, 3) := by decide +kernel
theorem dX11_rule_20 : decode cX11_rule 20 = .ok (.iload_n 1, 1) := by decide +kernel
theorem dX11_rule_21 : decode cX11_rule 21 = .ok (.putfield 210, 3) := by decide +kernel
theorem dX11_rule_24 : decode cX11_rule 24 = .ok (.aload_n 0, 1) := by decide +kernel
theorem dX11_rule_25 : decode cX11_rule 25 = .ok (.invokevirtual 119, 3) := by decide +kernel
theorem dX11_rule_28 : decode cX11_rule 28 = .ok (.ireturn, 1) := by decide +kernel
theorem dX11_clearIn_0 : decode cX11_clearIn 0 = .ok (.aload_n 0, 1) := by decide +kernel
theorem dX11_clearIn_1 : decode cX11_clearIn 1 = .ok (.getfield 58, 3) := by decide +kernel
theorem dX11_clearIn_4 : decode cX11_clearIn 4 = .ok (.iload_n 1, 1) := by decide +kernel
theorem dX11_clearIn_5 : decode cX11_clearIn 5 = .ok (.invokevirtual 232, 3) := by decide +kernel
theorem dX11_clearIn_8 : decode cX11_clearIn 8 = .ok (.ifCond .ne 9, 3) := by decide +kernel
theorem dX11_clearIn_11 : decode cX11_clearIn 11 = .ok (.aload_n 0, 1) := by decide +kernel
theorem dX11_clearIn_12 : decode cX11_clearIn 12 = .ok (.iconst 2, 1) := by decide +kernel
theorem dX11_clearIn_13 : decode cX11_clearIn 13 = .ok (.invokevirtual 131, 3) := by decide +kernel
theorem dX11_clearIn_16 : decode cX11_clearIn 16 = .ok (.ireturn, 1) := by decide +kernel
theorem dX11_clearIn_17 : decode cX11_clearIn 17 = .ok (.iload_n 2, 1) := by decide +kernel
theorem dX11_clearIn_18 : decode cX11_clearIn 18 = .ok (.ifCond .lt 10, 3) := by decide +kernel
theorem dX11_clearIn_21 : decode cX11_clearIn 21 = .ok (.iload_n 2, 1) := by decide +kernel
theorem dX11_clearIn_22 : decode cX11_clearIn 22 = .ok (.sipush 200, 3) := by decide +kernel
theorem dX11_clearIn_25 : decode cX11_clearIn 25 = .ok (.if_icmp .le 9, 3) := by decide +kernel
theorem dX11_clearIn_28 : decode cX11_clearIn 28 = .ok (.aload_n 0, 1) := by decide +kernel
theorem dX11_clearIn_29 : decode cX11_clearIn 29 = .ok (.iconst 5, 1) := by decide +kernel
theorem dX11_clearIn_30 : decode cX11_clearIn 30 = .ok (.invokevirtual 131, 3) := by decide +kernel
theorem dX11_clearIn_33 : decode cX11_clearIn 33 = .ok (.ireturn, 1) := by decide +kernel
theorem dX11_clearIn_34 : decode cX11_clearIn 34 = .ok (.aload_n 0, 1) := by decide +kernel
theorem dX11_clearIn_35 : decode cX11_clearIn 35 = .ok (.getfield 90, 3) := by decide +kernel
theorem dX11_clearIn_38 : decode cX11_clearIn 38 = .ok (.aload_n 0, 1) := by decide +kernel
theorem dX11_clearIn_39 : decode cX11_clearIn 39 = .ok (.getfield 58, 3) := by decide +kernel
theorem dX11_clearIn_42 : decode cX11_clearIn 42 = .ok (.iload_n 2, 1) := by decide +kernel
theorem dX11_clearIn_43 : decode cX11_clearIn 43 = .ok (.invokevirtual 319, 3) := by decide +kernel
theorem dX11_clearIn_46 : decode cX11_clearIn 46 = .ok (.aload_n 0, 1) := by decide +kernel
theorem dX11_clearIn_47 : decode cX11_clearIn 47 = .ok (.aload_n 0, 1) := by decide +kernel
theorem dX11_clearIn_48 : decode cX11_clearIn 48 = .ok (.getfield 90, 3) := by decide +kernel
theorem dX11_clearIn_51 : decode cX11_clearIn 51 = .ok (.getfield 323, 3) := by decide +kernel
theorem dX11_clearIn_54 : decode cX11_clearIn 54 = .ok (.iload_n 1, 1) := by decide +kernel
theorem dX11_clearIn_55 : decode cX11_clearIn 55 = .ok (.iaload, 1) := by decide +kernel
theorem dX11_clearIn_56 : decode cX11_clearIn 56 = .ok (.invokevirtual 177, 3) := by decide +kernel
theorem dX11_clearIn_59 : decode cX11_clearIn 59 = .ok (.ireturn, 1) := by decide +kernel
theorem dX11_heightIn_0 : decode cX11_heightIn 0 = .ok (.aload_n 0, 1) := by decide +kernel
theorem dX11_heightIn_1 : decode cX11_heightIn 1 = .ok (.getfield 58, 3) := by decide +kernel
theorem dX11_heightIn_4 : decode cX11_heightIn 4 = .ok (.iload_n 1, 1) := by decide +kernel
theorem dX11_heightIn_5 : decode cX11_heightIn 5 = .ok (.invokevirtual 259, 3) := by decide +kernel
theorem dX11_heightIn_8 : decode cX11_heightIn 8 = .ok (.ifCond .ne 9, 3) := by decide +kernel
theorem dX11_heightIn_11 : decode cX11_heightIn 11 = .ok (.aload_n 0, 1) := by decide +kernel
theorem dX11_heightIn_12 : decode cX11_heightIn 12 = .ok (.iconst 2, 1) := by decide +kernel
theorem dX11_heightIn_13 : decode cX11_heightIn 13 = .ok (.invokevirtual 131, 3) := by decide +kernel
theorem dX11_heightIn_16 : decode cX11_heightIn 16 = .ok (.ireturn, 1) := by decide +kernel
theorem dX11_heightIn_17 : decode cX11_heightIn 17 = .ok (.iload_n 2, 1) := by decide +kernel
theorem dX11_heightIn_18 : decode cX11_heightIn 18 = .ok (.ifCond .lt 10, 3) := by decide +kernel
theorem dX11_heightIn_21 : decode cX11_heightIn 21 = .ok (.iload_n 2, 1) := by decide +kernel
theorem dX11_heightIn_22 : decode cX11_heightIn 22 = .ok (.sipush 200, 3) := by decide +kernel
theorem dX11_heightIn_25 : decode cX11_heightIn 25 = .ok (.if_icmp .le 9, 3) := by decide +kernel
theorem dX11_heightIn_28 : decode cX11_heightIn 28 = .ok (.aload_n 0, 1) := by decide +kernel
theorem dX11_heightIn_29 : decode cX11_heightIn 29 = .ok (.iconst 5, 1) := by decide +kernel
theorem dX11_heightIn_30 : decode cX11_heightIn 30 = .ok (.invokevirtual 131, 3) := by decide +kernel
theorem dX11_heightIn_33 : decode cX11_heightIn 33 = .ok (.ireturn, 1) := by decide +kernel
theorem dX11_heightIn_34 : decode cX11_heightIn 34 = .ok (.aload_n 0, 1) := by decide +kernel
theorem dX11_heightIn_35 : decode cX11_heightIn 35 = .ok (.getfield 90, 3) := by decide +kernel
theorem dX11_heightIn_38 : decode cX11_heightIn 38 = .ok (.aload_n 0, 1) := by decide +kernel
theorem dX11_heightIn_39 : decode cX11_heightIn 39 = .ok (.getfield 58, 3) := by decide +kernel
theorem dX11_heightIn_42 : decode cX11_heightIn 42 = .ok (.iload_n 2, 1) := by decide +kernel
theorem dX11_heightIn_43 : decode cX11_heightIn 43 = .ok (.invokevirtual 319, 3) := by decide +kernel
theorem dX11_heightIn_46 : decode cX11_heightIn 46 = .ok (.aload_n 0, 1) := by decide +kernel
theorem dX11_heightIn_47 : decode cX11_heightIn 47 = .ok (.aload_n 0, 1) := by decide +kernel
theorem dX11_heightIn_48 : decode cX11_heightIn 48 = .ok (.getfield 58, 3) := by decide +kernel
theorem dX11_heightIn_51 : decode cX11_heightIn 51 = .ok (.iload_n 1, 1) := by decide +kernel
theorem dX11_heightIn_52 : decode cX11_heightIn 52 = .ok (.aload_n 0, 1) := by decide +kernel
theorem dX11_heightIn_53 : decode cX11_heightIn 53 = .ok (.getfield 90, 3) := by decide +kernel
theorem dX11_heightIn_56 : decode cX11_heightIn 56 = .ok (.getfield 323, 3) := by decide +kernel
theorem dX11_heightIn_59 : decode cX11_heightIn 59 = .ok (.aload_n 0, 1) := by decide +kernel
theorem dX11_heightIn_60 : decode cX11_heightIn 60 = .ok (.getfield 58, 3) := by decide +kernel
theorem dX11_heightIn_63 : decode cX11_heightIn 63 = .ok (.getfield 268, 3) := by decide +kernel
theorem dX11_heightIn_66 : decode cX11_heightIn 66 = .ok (.iload_n 1, 1) := by decide +kernel
theorem dX11_heightIn_67 : decode cX11_heightIn 67 = .ok (.iaload, 1) := by decide +kernel
theorem dX11_heightIn_68 : decode cX11_heightIn 68 = .ok (.iaload, 1) := by decide +kernel
theorem dX11_heightIn_69 : decode cX11_heightIn 69 = .ok (.invokevirtual 326, 3) := by decide +kernel
theorem dX11_heightIn_72 : decode cX11_heightIn 72 = .ok (.invokevirtual 177, 3) := by decide +kernel
theorem dX11_heightIn_75 : decode cX11_heightIn 75 = .ok (.ireturn, 1) := by decide +kernel
theorem dX11_downIn_0 : decode cX11_downIn 0 = .ok (.aload_n 0, 1) := by decide +kernel
theorem dX11_downIn_1 : decode cX11_downIn 1 = .ok (.getfield 58, 3) := by decide +kernel
theorem dX11_downIn_4 : decode cX11_downIn 4 = .ok (.iload_n 1, 1) := by decide +kernel
theorem dX11_downIn_5 : decode cX11_downIn 5 = .ok (.invokevirtual 259, 3) := by decide +kernel
theorem dX11_downIn_8 : decode cX11_downIn 8 = .ok (.ifCond .ne 9, 3) := by decide +kernel
theorem dX11_downIn_11 : decode cX11_downIn 11 = .ok (.aload_n 0, 1) := by decide +kernel
theorem dX11_downIn_12 : decode cX11_downIn 12 = .ok (.iconst 2, 1) := by decide +kernel
theorem dX11_downIn_13 : decode cX11_downIn 13 = .ok (.invokevirtual 131, 3) := by decide +kernel
theorem dX11_downIn_16 : decode cX11_downIn 16 = .ok (.ireturn, 1) := by decide +kernel
theorem dX11_downIn_17 : decode cX11_downIn 17 = .ok (.aload_n 0, 1) := by decide +kernel
theorem dX11_downIn_18 : decode cX11_downIn 18 = .ok (.aload_n 0, 1) := by decide +kernel
theorem dX11_downIn_19 : decode cX11_downIn 19 = .ok (.getfield 90, 3) := by decide +kernel
theorem dX11_downIn_22 : decode cX11_downIn 22 = .ok (.aload_n 0, 1) := by decide +kernel
theorem dX11_downIn_23 : decode cX11_downIn 23 = .ok (.getfield 58, 3) := by decide +kernel
theorem dX11_downIn_26 : decode cX11_downIn 26 = .ok (.iload_n 1, 1) := by decide +kernel
theorem dX11_downIn_27 : decode cX11_downIn 27 = .ok (.invokevirtual 330, 3) := by decide +kernel
theorem dX11_downIn_30 : decode cX11_downIn 30 = .ok (.invokevirtual 247, 3) := by decide +kernel
theorem dX11_downIn_33 : decode cX11_downIn 33 = .ok (.ireturn, 1) := by decide +kernel
theorem dX11_least_0 : decode cX11_least 0 = .ok (.aload_n 0, 1) := by decide +kernel
theorem dX11_least_1 : decode cX11_least 1 = .ok (.getfield 58, 3) := by decide +kernel
theorem dX11_least_4 : decode cX11_least 4 = .ok (.iload_n 1, 1) := by decide +kernel
theorem dX11_least_5 : decode cX11_least 5 = .ok (.invokevirtual 334, 3) := by decide +kernel
theorem dX11_least_8 : decode cX11_least 8 = .ok (.ifCond .ne 9, 3) := by decide +kernel
theorem dX11_least_11 : decode cX11_least 11 = .ok (.aload_n 0, 1) := by decide +kernel
theorem dX11_least_12 : decode cX11_least 12 = .ok (.iconst 5, 1) := by decide +kernel
theorem dX11_least_13 : decode cX11_least 13 = .ok (.invokevirtual 131, 3) := by decide +kernel
theorem dX11_least_16 : decode cX11_least 16 = .ok (.ireturn, 1) := by decide +kernel
theorem dX11_least_17 : decode cX11_least 17 = .ok (.aload_n 0, 1) := by decide +kernel
theorem dX11_least_18 : decode cX11_least 18 = .ok (.getfield 97, 3) := by decide +kernel
theorem dX11_least_21 : decode cX11_least 21 = .ok (.aload_n 0, 1) := by decide +kernel
theorem dX11_least_22 : decode cX11_least 22 = .ok (.getfield 58, 3) := by decide +kernel
theorem dX11_least_25 : decode cX11_least 25 = .ok (.iload_n 1, 1) := by decide +kernel
theorem dX11_least_26 : decode cX11_least 26 = .ok (.invokevirtual 337, 3) := by decide +kernel
theorem dX11_least_29 : decode cX11_least 29 = .ok (.istore_n 2, 1) := by decide +kernel
theorem dX11_least_30 : decode cX11_least 30 = .ok (.iload_n 2, 1) := by decide +kernel
theorem dX11_least_31 : decode cX11_least 31 = .ok (.iconst (-1), 1) := by decide +kernel
theorem dX11_least_32 : decode cX11_least 32 = .ok (.if_icmp .ne 12, 3) := by decide +kernel
theorem dX11_least_35 : decode cX11_least 35 = .ok (.aload_n 0, 1) := by decide +kernel
theorem dX11_least_36 : decode cX11_least 36 = .ok (.bipush 8, 2) := by decide +kernel
theorem dX11_least_38 : decode cX11_least 38 = .ok (.invokevirtual 131, 3) := by decide +kernel
theorem dX11_least_41 : decode cX11_least 41 = .ok (.goto 11, 3) := by decide +kernel
theorem dX11_least_44 : decode cX11_least 44 = .ok (.aload_n 0, 1) := by decide +kernel
theorem dX11_least_45 : decode cX11_least 45 = .ok (.iload_n 2, 1) := by decide +kernel
theorem dX11_least_46 : decode cX11_least 46 = .ok (.invokestatic 340, 3) := by decide +kernel
theorem dX11_least_49 : decode cX11_least 49 = .ok (.invokevirtual 177, 3) := by decide +kernel
theorem dX11_least_52 : decode cX11_least 52 = .ok (.ireturn, 1) := by decide +kernel
theorem dX11_leastSet_0 : decode cX11_leastSet 0 = .ok (.aload_n 0, 1) := by decide +kernel
theorem dX11_leastSet_1 : decode cX11_leastSet 1 = .ok (.getfield 58, 3) := by decide +kernel
theorem dX11_leastSet_4 : decode cX11_leastSet 4 = .ok (.iload_n 1, 1) := by decide +kernel
theorem dX11_leastSet_5 : decode cX11_leastSet 5 = .ok (.invokevirtual 334, 3) := by decide +kernel
theorem dX11_leastSet_8 : decode cX11_leastSet 8 = .ok (.ifCond .ne 9, 3) := by decide +kernel
theorem dX11_leastSet_11 : decode cX11_leastSet 11 = .ok (.aload_n 0, 1) := by decide +kernel
theorem dX11_leastSet_12 : decode cX11_leastSet 12 = .ok (.iconst 5, 1) := by decide +kernel
theorem dX11_leastSet_13 : decode cX11_leastSet 13 = .ok (.invokevirtual 131, 3) := by decide +kernel
theorem dX11_leastSet_16 : decode cX11_leastSet 16 = .ok (.ireturn, 1) := by decide +kernel
theorem dX11_leastSet_17 : decode cX11_leastSet 17 = .ok (.aload_n 0, 1) := by decide +kernel
theorem dX11_leastSet_18 : decode cX11_leastSet 18 = .ok (.aload_n 0, 1) := by decide +kernel
theorem dX11_leastSet_19 : decode cX11_leastSet 19 = .ok (.getfield 97, 3) := by decide +kernel
theorem dX11_leastSet_22 : decode cX11_leastSet 22 = .ok (.aload_n 0, 1) := by decide +kernel
theorem dX11_leastSet_23 : decode cX11_leastSet 23 = .ok (.getfield 58, 3) := by decide +kernel
theorem dX11_leastSet_26 : decode cX11_leastSet 26 = .ok (.iload_n 1, 1) := by decide +kernel
theorem dX11_leastSet_27 : decode cX11_leastSet 27 = .ok (.invokevirtual 337, 3) := by decide +kernel
theorem dX11_leastSet_30 : decode cX11_leastSet 30 = .ok (.invokevirtual 247, 3) := by decide +kernel
theorem dX11_leastSet_33 : decode cX11_leastSet 33 = .ok (.ireturn, 1) := by decide +kernel
theorem dX11_ring_0 : decode cX11_ring 0 = .ok (.aload_n 0, 1) := by decide +kernel
theorem dX11_ring_1 : decode cX11_ring 1 = .ok (.aload_n 0, 1) := by decide +kernel
theorem dX11_ring_2 : decode cX11_ring 2 = .ok (.getfield 97, 3) := by decide +kernel
theorem dX11_ring_5 : decode cX11_ring 5 = .ok (.aload_n 0, 1) := by decide +kernel
theorem dX11_ring_6 : decode cX11_ring 6 = .ok (.getfield 58, 3) := by decide +kernel
theorem dX11_ring_9 : decode cX11_ring 9 = .ok (.invokevirtual 345, 3) := by decide +kernel
theorem dX11_ring_12 : decode cX11_ring 12 = .ok (.invokevirtual 247, 3) := by decide +kernel
theorem dX11_ring_15 : decode cX11_ring 15 = .ok (.ireturn, 1) := by decide +kernel
theorem dX11_loosen_0 : decode cX11_loosen 0 = .ok (.aload_n 0, 1) := by decide +kernel
theorem dX11_loosen_1 : decode cX11_loosen 1 = .ok (.aload_n 0, 1) := by decide +kernel
theorem dX11_loosen_2 : decode cX11_loosen 2 = .ok (.getfield 97, 3) := by decide +kernel
theorem dX11_loosen_5 : decode cX11_loosen 5 = .ok (.aload_n 0, 1) := by decide +kernel
theorem dX11_loosen_6 : decode cX11_loosen 6 = .ok (.getfield 58, 3) := by decide +kernel
theorem dX11_loosen_9 : decode cX11_loosen 9 = .ok (.invokevirtual 349, 3) := by decide +kernel
theorem dX11_loosen_12 : decode cX11_loosen 12 = .ok (.invokestatic 340, 3) := by decide +kernel
theorem dX11_loosen_15 : decode cX11_loosen 15 = .ok (.invokevirtual 177, 3) := by decide +kernel
theorem dX11_loosen_18 : decode cX11_loosen 18 = .ok (.ireturn, 1) := by decide +kernel
theorem dX11_loosenSet_0 : decode cX11_loosenSet 0 = .ok (.aload_n 0, 1) := by decide +kernel
theorem dX11_loosenSet_1 : decode cX11_loosenSet 1 = .ok (.aload_n 0, 1) := by decide +kernel
theorem dX11_loosenSet_2 : decode cX11_loosenSet 2 = .ok (.getfield 97, 3) := by decide +kernel
theorem dX11_loosenSet_5 : decode cX11_loosenSet 5 = .ok (.aload_n 0, 1) := by decide +kernel
theorem dX11_loosenSet_6 : decode cX11_loosenSet 6 = .ok (.getfield 58, 3) := by decide +kernel
theorem dX11_loosenSet_9 : decode cX11_loosenSet 9 = .ok (.invokevirtual 349, 3) := by decide +kernel
theorem dX11_loosenSet_12 : decode cX11_loosenSet 12 = .ok (.invokevirtual 177, 3) := by decide +kernel
theorem dX11_loosenSet_15 : decode cX11_loosenSet 15 = .ok (.ireturn, 1) := by decide +kernel
theorem dX11_waiting_0 : decode cX11_waiting 0 = .ok (.aload_n 0, 1) := by decide +kernel
theorem dX11_waiting_1 : decode cX11_waiting 1 = .ok (.aload_n 0, 1) := by decide +kernel
theorem dX11_waiting_2 : decode cX11_waiting 2 = .ok (.getfield 97, 3) := by decide +kernel
theorem dX11_waiting_5 : decode cX11_waiting 5 = .ok (.aload_n 0, 1) := by decide +kernel
theorem dX11_waiting_6 : decode cX11_waiting 6 = .ok (.getfield 58, 3) := by decide +kernel
theorem dX11_waiting_9 : decode cX11_waiting 9 = .ok (.invokevirtual 352, 3) := by decide +kernel
theorem dX11_waiting_12 : decode cX11_waiting 12 = .ok (.invokevirtual 247, 3) := by decide +kernel
theorem dX11_waiting_15 : decode cX11_waiting 15 = .ok (.ireturn, 1) := by decide +kernel
theorem dX11_orderAt_0 : decode cX11_orderAt 0 = .ok (.aload_n 0, 1) := by decide +kernel
theorem dX11_orderAt_1 : decode cX11_orderAt 1 = .ok (.getfield 97, 3) := by decide +kernel
theorem dX11_orderAt_4 : decode cX11_orderAt 4 = .ok (.aload_n 0, 1) := by decide +kernel
theorem dX11_orderAt_5 : decode cX11_orderAt 5 = .ok (.getfield 58, 3) := by decide +kernel
theorem dX11_orderAt_8 : decode cX11_orderAt 8 = .ok (.invokevirtual 352, 3) := by decide +kernel
theorem dX11_orderAt_11 : decode cX11_orderAt 11 = .ok (.iconst (-1), 1) := by decide +kernel
theorem dX11_orderAt_12 : decode cX11_orderAt 12 = .ok (.if_icmp .eq 18, 3) := by decide +kernel
theorem dX11_orderAt_15 : decode cX11_orderAt 15 = .ok (.iload_n 1, 1) := by decide +kernel
theorem dX11_orderAt_16 : decode cX11_orderAt 16 = .ok (.ifCond .lt 14, 3) := by decide +kernel
theorem dX11_orderAt_19 : decode cX11_orderAt 19 = .ok (.iload_n 1, 1) := by decide +kernel
theorem dX11_orderAt_20 : decode cX11_orderAt 20 = .ok (.aload_n 0, 1) := by decide +kernel
theorem dX11_orderAt_21 : decode cX11_orderAt 21 = .ok (.getfield 58, 3) := by decide +kernel
theorem dX11_orderAt_24 : decode cX11_orderAt 24 = .ok (.getfield 201, 3) := by decide +kernel
theorem dX11_orderAt_27 : decode cX11_orderAt 27 = .ok (.if_icmp .lt 10, 3) := by decide +kernel
theorem dX11_orderAt_30 : decode cX11_orderAt 30 = .ok (.aload_n 0, 1) := by decide +kernel
theorem dX11_orderAt_31 : decode cX11_orderAt 31 = .ok (.bipush 8, 2) := by decide +kernel
theorem dX11_orderAt_33 : decode cX11_orderAt 33 = .ok (.invokevirtual 131, 3) := by decide +kernel
theorem dX11_orderAt_36 : decode cX11_orderAt 36 = .ok (.ireturn, 1) := by decide +kernel
theorem dX11_orderAt_37 : decode cX11_orderAt 37 = .ok (.aload_n 0, 1) := by decide +kernel
theorem dX11_orderAt_38 : decode cX11_orderAt 38 = .ok (.aload_n 0, 1) := by decide +kernel
theorem dX11_orderAt_39 : decode cX11_orderAt 39 = .ok (.getfield 97, 3) := by decide +kernel
theorem dX11_orderAt_42 : decode cX11_orderAt 42 = .ok (.aload_n 0, 1) := by decide +kernel
theorem dX11_orderAt_43 : decode cX11_orderAt 43 = .ok (.getfield 58, 3) := by decide +kernel
theorem dX11_orderAt_46 : decode cX11_orderAt 46 = .ok (.iload_n 1, 1) := by decide +kernel
theorem dX11_orderAt_47 : decode cX11_orderAt 47 = .ok (.invokevirtual 355, 3) := by decide +kernel
theorem dX11_orderAt_50 : decode cX11_orderAt 50 = .ok (.invokevirtual 177, 3) := by decide +kernel
theorem dX11_orderAt_53 : decode cX11_orderAt 53 = .ok (.ireturn, 1) := by decide +kernel
theorem dX11_round_0 : decode cX11_round 0 = .ok (.iload_n 1, 1) := by decide +kernel
theorem dX11_round_1 : decode cX11_round 1 = .ok (.ifCond .lt 9, 3) := by decide +kernel
theorem dX11_round_4 : decode cX11_round 4 = .ok (.iload_n 1, 1) := by decide +kernel
theorem dX11_round_5 : decode cX11_round 5 = .ok (.bipush 59, 2) := by decide +kernel
theorem dX11_round_7 : decode cX11_round 7 = .ok (.if_icmp .le 9, 3) := by decide +kernel
theorem dX11_round_10 : decode cX11_round 10 = .ok (.aload_n 0, 1) := by decide +kernel
theorem dX11_round_11 : decode cX11_round 11 = .ok (.iconst 5, 1) := by decide +kernel
theorem dX11_round_12 : decode cX11_round 12 = .ok (.invokevirtual 131, 3) := by decide +kernel
theorem dX11_round_15 : decode cX11_round 15 = .ok (.ireturn, 1) := by decide +kernel
theorem dX11_round_16 : decode cX11_round 16 = .ok (.aload_n 0, 1) := by decide +kernel
theorem dX11_round_17 : decode cX11_round 17 = .ok (.aload_n 0, 1) := by decide +kernel
theorem dX11_round_18 : decode cX11_round 18 = .ok (.getfield 97, 3) := by decide +kernel
theorem dX11_round_21 : decode cX11_round 21 = .ok (.aload_n 0, 1) := by decide +kernel
theorem dX11_round_22 : decode cX11_round 22 = .ok (.getfield 58, 3) := by decide +kernel
theorem dX11_round_25 : decode cX11_round 25 = .ok (.iload_n 1, 1) := by decide +kernel
theorem dX11_round_26 : decode cX11_round 26 = .ok (.invokevirtual 358, 3) := by decide +kernel
theorem dX11_round_29 : decode cX11_round 29 = .ok (.invokevirtual 177, 3) := by decide +kernel
theorem dX11_round_32 : decode cX11_round 32 = .ok (.ireturn, 1) := by decide +kernel
theorem dX11_out_0 : decode cX11_out 0 = .ok (.aload_n 0, 1) := by decide +kernel
theorem dX11_out_1 : decode cX11_out 1 = .ok (.iload_n 1, 1) := by decide +kernel
theorem dX11_out_2 : decode cX11_out 2 = .ok (.iload_n 2, 1) := by decide +kernel
theorem dX11_out_3 : decode cX11_out 3 = .ok (.iload_n 3, 1) := by decide +kernel
theorem dX11_out_4 : decode cX11_out 4 = .ok (.invokevirtual 361, 3) := by decide +kernel
theorem dX11_out_7 : decode cX11_out 7 = .ok (.istore 4, 2) := by decide +kernel
theorem dX11_out_9 : decode cX11_out 9 = .ok (.iload 4, 2) := by decide +kernel
theorem dX11_out_11 : decode cX11_out 11 = .ok (.ifCond .eq 10, 3) := by decide +kernel
theorem dX11_out_14 : decode cX11_out 14 = .ok (.aload_n 0, 1) := by decide +kernel
theorem dX11_out_15 : decode cX11_out 15 = .ok (.iload 4, 2) := by decide +kernel
theorem dX11_out_17 : decode cX11_out 17 = .ok (.invokevirtual 131, 3) := by decide +kernel
theorem dX11_out_20 : decode cX11_out 20 = .ok (.ireturn, 1) := by decide +kernel
theorem dX11_out_21 : decode cX11_out 21 = .ok (.aload_n 0, 1) := by decide +kernel
theorem dX11_out_22 : decode cX11_out 22 = .ok (.aload_n 0, 1) := by decide +kernel
theorem dX11_out_23 : decode cX11_out 23 = .ok (.getfield 90, 3) := by decide +kernel
theorem dX11_out_26 : decode cX11_out 26 = .ok (.aload_n 0, 1) := by decide +kernel
theorem dX11_out_27 : decode cX11_out 27 = .ok (.getfield 58, 3) := by decide +kernel
theorem dX11_out_30 : decode cX11_out 30 = .ok (.iload_n 1, 1) := by decide +kernel
theorem dX11_out_31 : decode cX11_out 31 = .ok (.aload_n 0, 1) := by decide +kernel
theorem dX11_out_32 : decode cX11_out 32 = .ok (.getfield 30, 3) := by decide +kernel
theorem dX11_out_35 : decode cX11_out 35 = .ok (.getfield 135, 3) := by decide +kernel
theorem dX11_out_38 : decode cX11_out 38 = .ok (.iload_n 2, 1) := by decide +kernel
theorem dX11_out_39 : decode cX11_out 39 = .ok (.aaload, 1) := by decide +kernel
theorem dX11_out_40 : decode cX11_out 40 = .ok (.iload_n 3, 1) := by decide +kernel
theorem dX11_out_41 : decode cX11_out 41 = .ok (.invokevirtual 364, 3) := by decide +kernel
theorem dX11_out_44 : decode cX11_out 44 = .ok (.invokevirtual 177, 3) := by decide +kernel
theorem dX11_out_47 : decode cX11_out 47 = .ok (.ireturn, 1) := by decide +kernel
theorem dX11_ask_0 : decode cX11_ask 0 = .ok (.aload_n 0, 1) := by decide +kernel
theorem dX11_ask_1 : decode cX11_ask 1 = .ok (.iload_n 1, 1) := by decide +kernel
theorem dX11_ask_2 : decode cX11_ask 2 = .ok (.iload_n 2, 1) := by decide +kernel
theorem dX11_ask_3 : decode cX11_ask 3 = .ok (.iload_n 3, 1) := by decide +kernel
theorem dX11_ask_4 : decode cX11_ask 4 = .ok (.invokevirtual 361, 3) := by decide +kernel
theorem dX11_ask_7 : decode cX11_ask 7 = .ok (.istore 4, 2) := by decide +kernel
theorem dX11_ask_9 : decode cX11_ask 9 = .ok (.iload 4, 2) := by decide +kernel
theorem dX11_ask_11 : decode cX11_ask 11 = .ok (.ifCond .eq 10, 3) := by decide +kernel
theorem dX11_ask_14 : decode cX11_ask 14 = .ok (.aload_n 0, 1) := by decide +kernel
theorem dX11_ask_15 : decode cX11_ask 15 = .ok (.iload 4, 2) := by decide +kernel
theorem dX11_ask_17 : decode cX11_ask 17 = .ok (.invokevirtual 131, 3) := by decide +kernel
theorem dX11_ask_20 : decode cX11_ask 20 = .ok (.ireturn, 1) := by decide +kernel
theorem dX11_ask_21 : decode cX11_ask 21 = .ok (.aload_n 0, 1) := by decide +kernel
theorem dX11_ask_22 : decode cX11_ask 22 = .ok (.getfield 90, 3) := by decide +kernel
theorem dX11_ask_25 : decode cX11_ask 25 = .ok (.aload_n 0, 1) := by decide +kernel
theorem dX11_ask_26 : decode cX11_ask 26 = .ok (.getfield 58, 3) := by decide +kernel
theorem dX11_ask_29 : decode cX11_ask 29 = .ok (.iload_n 1, 1) := by decide +kernel
theorem dX11_ask_30 : decode cX11_ask 30 = .ok (.aload_n 0, 1) := by decide +kernel
theorem dX11_ask_31 : decode cX11_ask 31 = .ok (.getfield 30, 3) := by decide +kernel
theorem dX11_ask_34 : decode cX11_ask 34 = .ok (.getfield 135, 3) := by decide +kernel
theorem dX11_ask_37 : decode cX11_ask 37 = .ok (.iload_n 2, 1) := by decide +kernel
theorem dX11_ask_38 : decode cX11_ask 38 = .ok (.aaload, 1) := by decide +kernel
theorem dX11_ask_39 : decode cX11_ask 39 = .ok (.iload_n 3, 1) := by decide +kernel
theorem dX11_ask_40 : decode cX11_ask 40 = .ok (.invokevirtual 364, 3) := by decide +kernel
theorem dX11_ask_43 : decode cX11_ask 43 = .ok (.istore 5, 2) := by decide +kernel
theorem dX11_ask_45 : decode cX11_ask 45 = .ok (.iload 5, 2) := by decide +kernel
theorem dX11_ask_47 : decode cX11_ask 47 = .ok (.invokestatic 340, 3) := by decide +kernel
theorem dX11_ask_50 : decode cX11_ask 50 = .ok (.iconst 2, 1) := by decide +kernel
theorem dX11_ask_51 : decode cX11_ask 51 = .ok (.if_icmp .ge 10, 3) := by decide +kernel
theorem dX11_ask_54 : decode cX11_ask 54 = .ok (.aload_n 0, 1) := by decide +kernel
theorem dX11_ask_55 : decode cX11_ask 55 = .ok (.bipush 8, 2) := by decide +kernel
theorem dX11_ask_57 : decode cX11_ask 57 = .ok (.invokevirtual 131, 3) := by decide +kernel
theorem dX11_ask_60 : decode cX11_ask 60 = .ok (.ireturn, 1) := by decide +kernel
theorem dX11_ask_61 : decode cX11_ask 61 = .ok (.aload_n 0, 1) := by decide +kernel
theorem dX11_ask_62 : decode cX11_ask 62 = .ok (.aload_n 0, 1) := by decide +kernel
theorem dX11_ask_63 : decode cX11_ask 63 = .ok (.getfield 90, 3) := by decide +kernel
theorem dX11_ask_66 : decode cX11_ask 66 = .ok (.aload_n 0, 1) := by decide +kernel
theorem dX11_ask_67 : decode cX11_ask 67 = .ok (.getfield 58, 3) := by decide +kernel
theorem dX11_ask_70 : decode cX11_ask 70 = .ok (.iload_n 1, 1) := by decide +kernel
theorem dX11_ask_71 : decode cX11_ask 71 = .ok (.iload 5, 2) := by decide +kernel
theorem dX11_ask_73 : decode cX11_ask 73 = .ok (.invokevirtual 368, 3) := by decide +kernel
theorem dX11_ask_76 : decode cX11_ask 76 = .ok (.invokevirtual 177, 3) := by decide +kernel
theorem dX11_ask_79 : decode cX11_ask 79 = .ok (.ireturn, 1) := by decide +kernel
theorem dX11_laws_0 : decode cX11_laws 0 = .ok (.iload_n 1, 1) := by decide +kernel
theorem dX11_laws_1 : decode cX11_laws 1 = .ok (.invokestatic 108, 3) := by decide +kernel
theorem dX11_laws_4 : decode cX11_laws 4 = .ok (.ifCond .eq 15, 3) := by decide +kernel
theorem dX11_laws_7 : decode cX11_laws 7 = .ok (.aload_n 0, 1) := by decide +kernel
theorem dX11_laws_8 : decode cX11_laws 8 = .ok (.getfield 30, 3) := by decide +kernel
theorem dX11_laws_11 : decode cX11_laws 11 = .ok (.iload_n 1, 1) := by decide +kernel
theorem dX11_laws_12 : decode cX11_laws 12 = .ok (.iload_n 2, 1) := by decide +kernel
theorem dX11_laws_13 : decode cX11_laws 13 = .ok (.invokevirtual 372, 3) := by decide +kernel
theorem dX11_laws_16 : decode cX11_laws 16 = .ok (.goto 4, 3) := by decide +kernel
theorem dX11_laws_19 : decode cX11_laws 19 = .ok (.iconst 1, 1) := by decide +kernel
theorem dX11_laws_20 : decode cX11_laws 20 = .ok (.istore_n 3, 1) := by decide +kernel
theorem dX11_laws_21 : decode cX11_laws 21 = .ok (.iload_n 3, 1) := by decide +kernel
theorem dX11_laws_22 : decode cX11_laws 22 = .ok (.ifCond .eq 9, 3) := by decide +kernel
theorem dX11_laws_25 : decode cX11_laws 25 = .ok (.aload_n 0, 1) := by decide +kernel
theorem dX11_laws_26 : decode cX11_laws 26 = .ok (.iload_n 3, 1) := by decide +kernel
theorem dX11_laws_27 : decode cX11_laws 27 = .ok (.invokevirtual 131, 3) := by decide +kernel
theorem dX11_laws_30 : decode cX11_laws 30 = .ok (.ireturn, 1) := by decide +kernel
theorem dX11_laws_31 : decode cX11_laws 31 = .ok (.aload_n 0, 1) := by decide +kernel
theorem dX11_laws_32 : decode cX11_laws 32 = .ok (.aload_n 0, 1) := by decide +kernel
theorem dX11_laws_33 : decode cX11_laws 33 = .ok (.getfield 30, 3) := by decide +kernel
theorem dX11_laws_36 : decode cX11_laws 36 = .ok (.getfield 135, 3) := by decide +kernel
theorem dX11_laws_39 : decode cX11_laws 39 = .ok (.iload_n 1, 1) := by decide +kernel
theorem dX11_laws_40 : decode cX11_laws 40 = .ok (.aaload, 1) := by decide +kernel
theorem dX11_laws_41 : decode cX11_laws 41 = .ok (.iload_n 2, 1) := by decide +kernel
theorem dX11_laws_42 : decode cX11_laws 42 = .ok (.invokestatic 375, 3) := by decide +kernel
theorem dX11_laws_45 : decode cX11_laws 45 = .ok (.invokevirtual 177, 3) := by decide +kernel
theorem dX11_laws_48 : decode cX11_laws 48 = .ok (.ireturn, 1) := by decide +kernel
theorem dX11_lawOf_0 : decode cX11_lawOf 0 = .ok (.iload_n 1, 1) := by decide +kernel
theorem dX11_lawOf_1 : decode cX11_lawOf 1 = .ok (.invokestatic 108, 3) := by decide +kernel
theorem dX11_lawOf_4 : decode cX11_lawOf 4 = .ok (.ifCond .eq 15, 3) := by decide +kernel
theorem dX11_lawOf_7 : decode cX11_lawOf 7 = .ok (.aload_n 0, 1) := by decide +kernel
theorem dX11_lawOf_8 : decode cX11_lawOf 8 = .ok (.getfield 30, 3) := by decide +kernel
theorem dX11_lawOf_11 : decode cX11_lawOf 11 = .ok (.iload_n 1, 1) := by decide +kernel
theorem dX11_lawOf_12 : decode cX11_lawOf 12 = .ok (.iload_n 2, 1) := by decide +kernel
theorem dX11_lawOf_13 : decode cX11_lawOf 13 = .ok (.invokevirtual 372, 3) := by decide +kernel
theorem dX11_lawOf_16 : decode cX11_lawOf 16 = .ok (.goto 4, 3) := by decide +kernel
theorem dX11_lawOf_19 : decode cX11_lawOf 19 = .ok (.iconst 1, 1) := by decide +kernel
theorem dX11_lawOf_20 : decode cX11_lawOf 20 = .ok (.istore 4, 2) := by decide +kernel
theorem dX11_lawOf_22 : decode cX11_lawOf 22 = .ok (.iload 4, 2) := by decide +kernel
theorem dX11_lawOf_24 : decode cX11_lawOf 24 = .ok (.ifCond .eq 10, 3) := by decide +kernel
theorem dX11_lawOf_27 : decode cX11_lawOf 27 = .ok (.aload_n 0, 1) := by decide +kernel
theorem dX11_lawOf_28 : decode cX11_lawOf 28 = .ok (.iload 4, 2) := by decide +kernel
theorem dX11_lawOf_30 : decode cX11_lawOf 30 = .ok (.invokevirtual 131, 3) := by decide +kernel
theorem dX11_lawOf_33 : decode cX11_lawOf 33 = .ok (.ireturn, 1) := by decide +kernel
theorem dX11_lawOf_34 : decode cX11_lawOf 34 = .ok (.iload_n 3, 1) := by decide +kernel
theorem dX11_lawOf_35 : decode cX11_lawOf 35 = .ok (.ifCond .eq 14, 3) := by decide +kernel
theorem dX11_lawOf_38 : decode cX11_lawOf 38 = .ok (.iload_n 3, 1) := by decide +kernel
theorem dX11_lawOf_39 : decode cX11_lawOf 39 = .ok (.iconst 1, 1) := by decide +kernel
theorem dX11_lawOf_40 : decode cX11_lawOf 40 = .ok (.if_icmp .eq 9, 3) := by decide +kernel
theorem dX11_lawOf_43 : decode cX11_lawOf 43 = .ok (.aload_n 0, 1) := by decide +kernel
theorem dX11_lawOf_44 : decode cX11_lawOf 44 = .ok (.iconst 5, 1) := by decide +kernel
theorem dX11_lawOf_45 : decode cX11_lawOf 45 = .ok (.invokevirtual 131, 3) := by decide +kernel
theorem dX11_lawOf_48 : decode cX11_lawOf 48 = .ok (.ireturn, 1) := by decide +kernel
theorem dX11_lawOf_49 : decode cX11_lawOf 49 = .ok (.aload_n 0, 1) := by decide +kernel
theorem dX11_lawOf_50 : decode cX11_lawOf 50 = .ok (.getfield 30, 3) := by decide +kernel
theorem dX11_lawOf_53 : decode cX11_lawOf 53 = .ok (.getfield 135, 3) := by decide +kernel
theorem dX11_lawOf_56 : decode cX11_lawOf 56 = .ok (.iload_n 1, 1) := by decide +kernel
theorem dX11_lawOf_57 : decode cX11_lawOf 57 = .ok (.aaload, 1) := by decide +kernel
theorem dX11_lawOf_58 : decode cX11_lawOf 58 = .ok (.iload_n 2, 1) := by decide +kernel
theorem dX11_lawOf_59 : decode cX11_lawOf 59 = .ok (.invokestatic 379, 3) := by decide +kernel
theorem dX11_lawOf_62 : decode cX11_lawOf 62 = .ok (.istore 5, 2) := by decide +kernel
theorem dX11_lawOf_64 : decode cX11_lawOf 64 = .ok (.iload 5, 2) := by decide +kernel
theorem dX11_lawOf_66 : decode cX11_lawOf 66 = .ok (.iconst (-1), 1) := by decide +kernel
theorem dX11_lawOf_67 : decode cX11_lawOf 67 = .ok (.if_icmp .ne 10, 3) := by decide +kernel
theorem dX11_lawOf_70 : decode cX11_lawOf 70 = .ok (.aload_n 0, 1) := by decide +kernel
theorem dX11_lawOf_71 : decode cX11_lawOf 71 = .ok (.bipush 8, 2) := by decide +kernel
theorem dX11_lawOf_73 : decode cX11_lawOf 73 = .ok (.invokevirtual 131, 3) := by decide +kernel
theorem dX11_lawOf_76 : decode cX11_lawOf 76 = .ok (.ireturn, 1) := by decide +kernel
theorem dX11_lawOf_77 : decode cX11_lawOf 77 = .ok (.aload_n 0, 1) := by decide +kernel
theorem dX11_lawOf_78 : decode cX11_lawOf 78 = .ok (.iload_n 3, 1) := by decide +kernel
theorem dX11_lawOf_79 : decode cX11_lawOf 79 = .ok (.ifCond .ne 11, 3) := by decide +kernel
theorem dX11_lawOf_82 : decode cX11_lawOf 82 = .ok (.iload 5, 2) := by decide +kernel
theorem dX11_lawOf_84 : decode cX11_lawOf 84 = .ok (.bipush 21, 2) := by decide +kernel
theorem dX11_lawOf_86 : decode cX11_lawOf 86 = .ok (.idiv, 1) := by decide +kernel
theorem dX11_lawOf_87 : decode cX11_lawOf 87 = .ok (.goto 8, 3) := by decide +kernel
theorem dX11_lawOf_90 : decode cX11_lawOf 90 = .ok (.iload 5, 2) := by decide +kernel
theorem dX11_lawOf_92 : decode cX11_lawOf 92 = .ok (.bipush 21, 2) := by decide +kernel
theorem dX11_lawOf_94 : decode cX11_lawOf 94 = .ok (.irem, 1) := by decide +kernel
theorem dX11_lawOf_95 : decode cX11_lawOf 95 = .ok (.invokevirtual 177, 3) := by decide +kernel
theorem dX11_lawOf_98 : decode cX11_lawOf 98 = .ok (.ireturn, 1) := by decide +kernel
theorem dX11_off_0 : decode cX11_off 0 = .ok (.iload_n 1, 1) := by decide +kernel
theorem dX11_off_1 : decode cX11_off 1 = .ok (.iload_n 2, 1) := by decide +kernel
theorem dX11_off_2 : decode cX11_off 2 = .ok (.invokestatic 382, 3) := by decide +kernel
theorem dX11_off_5 : decode cX11_off 5 = .ok (.ifCond .ne 9, 3) := by decide +kernel
theorem dX11_off_8 : decode cX11_off 8 = .ok (.aload_n 0, 1) := by decide +kernel
theorem dX11_off_9 : decode cX11_off 9 = .ok (.iconst 5, 1) := by decide +kernel
theorem dX11_off_10 : decode cX11_off 10 = .ok (.invokevirtual 112, 3) := by decide +kernel
theorem dX11_off_13 : decode cX11_off 13 = .ok (.ireturn, 1) := by decide +kernel
theorem dX11_off_14 : decode cX11_off 14 = .ok (.aload_n 0, 1) := by decide +kernel
theorem dX11_off_15 : decode cX11_off 15 = .ok (.aload_n 0, 1) := by decide +kernel
theorem dX11_off_16 : decode cX11_off 16 = .ok (.iload_n 1, 1) := by decide +kernel
theorem dX11_off_17 : decode cX11_off 17 = .ok (.iload_n 2, 1) := by decide +kernel
theorem dX11_off_18 : decode cX11_off 18 = .ok (.invokevirtual 385, 3) := by decide +kernel
theorem dX11_off_21 : decode cX11_off 21 = .ok (.iload_n 2, 1) := by decide +kernel
theorem dX11_off_22 : decode cX11_off 22 = .ok (.invokestatic 389, 3) := by decide +kernel
theorem dX11_off_25 : decode cX11_off 25 = .ok (.invokevirtual 393, 3) := by decide +kernel
theorem dX11_off_28 : decode cX11_off 28 = .ok (.aload_n 0, 1) := by decide +kernel
theorem dX11_off_29 : decode cX11_off 29 = .ok (.invokevirtual 119, 3) := by decide +kernel
theorem dX11_off_32 : decode cX11_off 32 = .ok (.ireturn, 1) := by decide +kernel
theorem dX11_stay_0 : decode cX11_stay 0 = .ok (.iload_n 1, 1) := by decide +kernel
theorem dX11_stay_1 : decode cX11_stay 1 = .ok (.iload_n 2, 1) := by decide +kernel
theorem dX11_stay_2 : decode cX11_stay 2 = .ok (.invokestatic 382, 3) := by decide +kernel
theorem dX11_stay_5 : decode cX11_stay 5 = .ok (.ifCond .ne 9, 3) := by decide +kernel
theorem dX11_stay_8 : decode cX11_stay 8 = .ok (.aload_n 0, 1) := by decide +kernel
theorem dX11_stay_9 : decode cX11_stay 9 = .ok (.iconst 5, 1) := by decide +kernel
theorem dX11_stay_10 : decode cX11_stay 10 = .ok (.invokevirtual 131, 3) := by decide +kernel
theorem dX11_stay_13 : decode cX11_stay 13 = .ok (.ireturn, 1) := by decide +kernel
theorem dX11_stay_14 : decode cX11_stay 14 = .ok (.aload_n 0, 1) := by decide +kernel
theorem dX11_stay_15 : decode cX11_stay 15 = .ok (.aload_n 0, 1) := by decide +kernel
theorem dX11_stay_16 : decode cX11_stay 16 = .ok (.iload_n 1, 1) := by decide +kernel
theorem dX11_stay_17 : decode cX11_stay 17 = .ok (.iload_n 2, 1) := by decide +kernel
theorem dX11_stay_18 : decode cX11_stay 18 = .ok (.invokevirtual 385, 3) := by decide +kernel
theorem dX11_stay_21 : decode cX11_stay 21 = .ok (.iload_n 1, 1) := by decide +kernel
theorem dX11_stay_22 : decode cX11_stay 22 = .ok (.i2l, 1) := by decide +kernel
theorem dX11_stay_23 : decode cX11_stay 23 = .ok (.iload_n 2, 1) := by decide +kernel
theorem dX11_stay_24 : decode cX11_stay 24 = .ok (.invokestatic 389, 3) := by decide +kernel
theorem dX11_stay_27 : decode cX11_stay 27 = .ok (.lmul, 1) := by decide +kernel
theorem dX11_stay_28 : decode cX11_stay 28 = .ok (.lcmp, 1) := by decide +kernel
theorem dX11_stay_29 : decode cX11_stay 29 = .ok (.ifCond .ge 7, 3) := by decide +kernel
theorem dX11_stay_32 : decode cX11_stay 32 = .ok (.iconst 1, 1) := by decide +kernel
theorem dX11_stay_33 : decode cX11_stay 33 = .ok (.goto 4, 3) := by decide +kernel
theorem dX11_stay_36 : decode cX11_stay 36 = .ok (.iconst 0, 1) := by decide +kernel
theorem dX11_stay_37 : decode cX11_stay 37 = .ok (.invokevirtual 177, 3) := by decide +kernel
theorem dX11_stay_40 : decode cX11_stay 40 = .ok (.ireturn, 1) := by decide +kernel
theorem dX11_game_0 : decode cX11_game 0 = .ok (.aload_n 0, 1) := by decide +kernel
theorem dX11_game_1 : decode cX11_game 1 = .ok (.getfield 58, 3) := by decide +kernel
theorem dX11_game_4 : decode cX11_game 4 = .ok (.iload_n 1, 1) := by decide +kernel
theorem dX11_game_5 : decode cX11_game 5 = .ok (.invokevirtual 259, 3) := by decide +kernel
theorem dX11_game_8 : decode cX11_game 8 = .ok (.ifCond .eq 14, 3) := by decide +kernel
theorem dX11_game_11 : decode cX11_game 11 = .ok (.aload_n 0, 1) := by decide +kernel
theorem dX11_game_12 : decode cX11_game 12 = .ok (.getfield 58, 3) := by decide +kernel
theorem dX11_game_15 : decode cX11_game 15 = .ok (.iload_n 2, 1) := by decide +kernel
theorem dX11_game_16 : decode cX11_game 16 = .ok (.invokevirtual 259, 3) := by decide +kernel
theorem dX11_game_19 : decode cX11_game 19 = .ok (.ifCond .ne 9, 3) := by decide +kernel
theorem dX11_game_22 : decode cX11_game 22 = .ok (.aload_n 0, 1) := by decide +kernel
theorem dX11_game_23 : decode cX11_game 23 = .ok (.iconst 2, 1) := by decide +kernel
theorem dX11_game_24 : decode cX11_game 24 = .ok (.invokevirtual 131, 3) := by decide +kernel
theorem dX11_game_27 : decode cX11_game 27 = .ok (.ireturn, 1) := by decide +kernel
theorem dX11_game_28 : decode cX11_game 28 = .ok (.iload_n 1, 1) := by decide +kernel
theorem dX11_game_29 : decode cX11_game 29 = .ok (.iload_n 2, 1) := by decide +kernel
theorem dX11_game_30 : decode cX11_game 30 = .ok (.if_icmp .eq 12, 3) := by decide +kernel
theorem dX11_game_33 : decode cX11_game 33 = .ok (.iload_n 3, 1) := by decide +kernel
theorem dX11_game_34 : decode cX11_game 34 = .ok (.ifCond .lt 8, 3) := by decide +kernel
theorem dX11_game_37 : decode cX11_game 37 = .ok (.iload_n 3, 1) := by decide +kernel
theorem dX11_game_38 : decode cX11_game 38 = .ok (.iconst 4, 1) := by decide +kernel
theorem dX11_game_39 : decode cX11_game 39 = .ok (.if_icmp .le 9, 3) := by decide +kernel
theorem dX11_game_42 : decode cX11_game 42 = .ok (.aload_n 0, 1) := by decide +kernel
theorem dX11_game_43 : decode cX11_game 43 = .ok (.iconst 5, 1) := by decide +kernel
theorem dX11_game_44 : decode cX11_game 44 = .ok (.invokevirtual 131, 3) := by decide +kernel
theorem dX11_game_47 : decode cX11_game 47 = .ok (.ireturn, 1) := by decide +kernel
theorem dX11_game_48 : decode cX11_game 48 = .ok (.aload_n 0, 1) := by decide +kernel
theorem dX11_game_49 : decode cX11_game 49 = .ok (.aload_n 0, 1) := by decide +kernel
theorem dX11_game_50 : decode cX11_game 50 = .ok (.getfield 104, 3) := by decide +kernel
theorem dX11_game_53 : decode cX11_game 53 = .ok (.aload_n 0, 1) := by decide +kernel
theorem dX11_game_54 : decode cX11_game 54 = .ok (.getfield 58, 3) := by decide +kernel
theorem dX11_game_57 : decode cX11_game 57 = .ok (.iload_n 1, 1) := by decide +kernel
theorem dX11_game_58 : decode cX11_game 58 = .ok (.iload_n 2, 1) := by decide +kernel
theorem dX11_game_59 : decode cX11_game 59 = .ok (.iload_n 3, 1) := by decide +kernel
theorem dX11_game_60 : decode cX11_game 60 = .ok (.invokevirtual 397, 3) := by decide +kernel
theorem dX11_game_63 : decode cX11_game 63 = .ok (.invokevirtual 177, 3) := by decide +kernel
theorem dX11_game_66 : decode cX11_game 66 = .ok (.ireturn, 1) := by decide +kernel
theorem dX11_moveOf_0 : decode cX11_moveOf 0 = .ok (.aload_n 0, 1) := by decide +kernel
theorem dX11_moveOf_1 : decode cX11_moveOf 1 = .ok (.getfield 58, 3) := by decide +kernel
theorem dX11_moveOf_4 : decode cX11_moveOf 4 = .ok (.iload_n 1, 1) := by decide +kernel
theorem dX11_moveOf_5 : decode cX11_moveOf 5 = .ok (.invokevirtual 259, 3) := by decide +kernel
theorem dX11_moveOf_8 : decode cX11_moveOf 8 = .ok (.ifCond .eq 14, 3) := by decide +kernel
theorem dX11_moveOf_11 : decode cX11_moveOf 11 = .ok (.aload_n 0, 1) := by decide +kernel
theorem dX11_moveOf_12 : decode cX11_moveOf 12 = .ok (.getfield 58, 3) := by decide +kernel
theorem dX11_moveOf_15 : decode cX11_moveOf 15 = .ok (.iload_n 2, 1) := by decide +kernel
theorem dX11_moveOf_16 : decode cX11_moveOf 16 = .ok (.invokevirtual 259, 3) := by decide +kernel
theorem dX11_moveOf_19 : decode cX11_moveOf 19 = .ok (.ifCond .ne 9, 3) := by decide +kernel
theorem dX11_moveOf_22 : decode cX11_moveOf 22 = .ok (.aload_n 0, 1) := by decide +kernel
theorem dX11_moveOf_23 : decode cX11_moveOf 23 = .ok (.iconst 2, 1) := by decide +kernel
theorem dX11_moveOf_24 : decode cX11_moveOf 24 = .ok (.invokevirtual 131, 3) := by decide +kernel
theorem dX11_moveOf_27 : decode cX11_moveOf 27 = .ok (.ireturn, 1) := by decide +kernel
theorem dX11_moveOf_28 : decode cX11_moveOf 28 = .ok (.iload_n 1, 1) := by decide +kernel
theorem dX11_moveOf_29 : decode cX11_moveOf 29 = .ok (.iload_n 2, 1) := by decide +kernel
theorem dX11_moveOf_30 : decode cX11_moveOf 30 = .ok (.if_icmp .eq 13, 3) := by decide +kernel
theorem dX11_moveOf_33 : decode cX11_moveOf 33 = .ok (.iload_n 3, 1) := by decide +kernel
theorem dX11_moveOf_34 : decode cX11_moveOf 34 = .ok (.iconst 1, 1) := by decide +kernel
theorem dX11_moveOf_35 : decode cX11_moveOf 35 = .ok (.if_icmp .lt 8, 3) := by decide +kernel
theorem dX11_moveOf_38 : decode cX11_moveOf 38 = .ok (.iload_n 3, 1) := by decide +kernel
theorem dX11_moveOf_39 : decode cX11_moveOf 39 = .ok (.iconst 4, 1) := by decide +kernel
theorem dX11_moveOf_40 : decode cX11_moveOf 40 = .ok (.if_icmp .le 9, 3) := by decide +kernel
theorem dX11_moveOf_43 : decode cX11_moveOf 43 = .ok (.aload_n 0, 1) := by decide +kernel
theorem dX11_moveOf_44 : decode cX11_moveOf 44 = .ok (.iconst 5, 1) := by decide +kernel
theorem dX11_moveOf_45 : decode cX11_moveOf 45 = .ok (.invokevirtual 131, 3) := by decide +kernel
theorem dX11_moveOf_48 : decode cX11_moveOf 48 = .ok (.ireturn, 1) := by decide +kernel
theorem dX11_moveOf_49 : decode cX11_moveOf 49 = .ok (.aload_n 0, 1) := by decide +kernel
theorem dX11_moveOf_50 : decode cX11_moveOf 50 = .ok (.aload_n 0, 1) := by decide +kernel
theorem dX11_moveOf_51 : decode cX11_moveOf 51 = .ok (.getfield 104, 3) := by decide +kernel
theorem dX11_moveOf_54 : decode cX11_moveOf 54 = .ok (.aload_n 0, 1) := by decide +kernel
theorem dX11_moveOf_55 : decode cX11_moveOf 55 = .ok (.getfield 58, 3) := by decide +kernel
theorem dX11_moveOf_58 : decode cX11_moveOf 58 = .ok (.iload_n 1, 1) := by decide +kernel
theorem dX11_moveOf_59 : decode cX11_moveOf 59 = .ok (.iload_n 2, 1) := by decide +kernel
theorem dX11_moveOf_60 : decode cX11_moveOf 60 = .ok (.iload_n 3, 1) := by decide +kernel
theorem dX11_moveOf_61 : decode cX11_moveOf 61 = .ok (.invokevirtual 401, 3) := by decide +kernel
theorem dX11_moveOf_64 : decode cX11_moveOf 64 = .ok (.invokevirtual 247, 3) := by decide +kernel
theorem dX11_moveOf_67 : decode cX11_moveOf 67 = .ok (.ireturn, 1) := by decide +kernel
theorem dX11_lasts_0 : decode cX11_lasts 0 = .ok (.iload_n 1, 1) := by decide +kernel
theorem dX11_lasts_1 : decode cX11_lasts 1 = .ok (.ifCond .lt 9, 3) := by decide +kernel
theorem dX11_lasts_4 : decode cX11_lasts 4 = .ok (.iload_n 1, 1) := by decide +kernel
theorem dX11_lasts_5 : decode cX11_lasts 5 = .ok (.bipush 12, 2) := by decide +kernel
theorem dX11_lasts_7 : decode cX11_lasts 7 = .ok (.if_icmp .le 9, 3) := by decide +kernel
theorem dX11_lasts_10 : decode cX11_lasts 10 = .ok (.aload_n 0, 1) := by decide +kernel
theorem dX11_lasts_11 : decode cX11_lasts 11 = .ok (.iconst 5, 1) := by decide +kernel
theorem dX11_lasts_12 : decode cX11_lasts 12 = .ok (.invokevirtual 112, 3) := by decide +kernel
theorem dX11_lasts_15 : decode cX11_lasts 15 = .ok (.ireturn, 1) := by decide +kernel
theorem dX11_lasts_16 : decode cX11_lasts 16 = .ok (.lconst 1, 1) := by decide +kernel
theorem dX11_lasts_17 : decode cX11_lasts 17 = .ok (.lstore_n 2, 1) := by decide +kernel
theorem dX11_lasts_18 : decode cX11_lasts 18 = .ok (.iconst 0, 1) := by decide +kernel
theorem dX11_lasts_19 : decode cX11_lasts 19 = .ok (.istore 4, 2) := by decide +kernel
theorem dX11_lasts_21 : decode cX11_lasts 21 = .ok (.iload 4, 2) := by decide +kernel
theorem dX11_lasts_23 : decode cX11_lasts 23 = .ok (.iload_n 1, 1) := by decide +kernel
theorem dX11_lasts_24 : decode cX11_lasts 24 = .ok (.if_icmp .ge 23, 3) := by decide +kernel
theorem dX11_lasts_27 : decode cX11_lasts 27 = .ok (.lload_n 2, 1) := by decide +kernel
theorem dX11_lasts_28 : decode cX11_lasts 28 = .ok (.bipush 16, 2) := by decide +kernel
theorem dX11_lasts_30 : decode cX11_lasts 30 = .ok (.aload_n 0, 1) := by decide +kernel
theorem dX11_lasts_31 : decode cX11_lasts 31 = .ok (.getfield 58, 3) := by decide +kernel
theorem dX11_lasts_34 : decode cX11_lasts 34 = .ok (.getfield 210, 3) := by decide +kernel
theorem dX11_lasts_37 : decode cX11_lasts 37 = .ok (.isub, 1) := by decide +kernel
theorem dX11_lasts_38 : decode cX11_lasts 38 = .ok (.i2l, 1) := by decide +kernel
theorem dX11_lasts_39 : decode cX11_lasts 39 = .ok (.lmul, 1) := by decide +kernel
theorem dX11_lasts_40 : decode cX11_lasts 40 = .ok (.lstore_n 2, 1) := by decide +kernel
theorem dX11_lasts_41 : decode cX11_lasts 41 = .ok (.iinc 4 1, 3) := by decide +kernel
theorem dX11_lasts_44 : decode cX11_lasts 44 = .ok (.goto (-23), 3) := by decide +kernel
theorem dX11_lasts_47 : decode cX11_lasts 47 = .ok (.aload_n 0, 1) := by decide +kernel
theorem dX11_lasts_48 : decode cX11_lasts 48 = .ok (.lload_n 2, 1) := by decide +kernel
theorem dX11_lasts_49 : decode cX11_lasts 49 = .ok (.iload_n 1, 1) := by decide +kernel
theorem dX11_lasts_50 : decode cX11_lasts 50 = .ok (.invokestatic 389, 3) := by decide +kernel
theorem dX11_lasts_53 : decode cX11_lasts 53 = .ok (.invokevirtual 393, 3) := by decide +kernel
theorem dX11_lasts_56 : decode cX11_lasts 56 = .ok (.aload_n 0, 1) := by decide +kernel
theorem dX11_lasts_57 : decode cX11_lasts 57 = .ok (.invokevirtual 119, 3) := by decide +kernel
theorem dX11_lasts_60 : decode cX11_lasts 60 = .ok (.ireturn, 1) := by decide +kernel
theorem dX11_share_0 : decode cX11_share 0 = .ok (.aload_n 0, 1) := by decide +kernel
theorem dX11_share_1 : decode cX11_share 1 = .ok (.getfield 58, 3) := by decide +kernel
theorem dX11_share_4 : decode cX11_share 4 = .ok (.iload_n 1, 1) := by decide +kernel
theorem dX11_share_5 : decode cX11_share 5 = .ok (.invokevirtual 259, 3) := by decide +kernel
theorem dX11_share_8 : decode cX11_share 8 = .ok (.ifCond .ne 9, 3) := by decide +kernel
theorem dX11_share_11 : decode cX11_share 11 = .ok (.aload_n 0, 1) := by decide +kernel
theorem dX11_share_12 : decode cX11_share 12 = .ok (.iconst 2, 1) := by decide +kernel
theorem dX11_share_13 : decode cX11_share 13 = .ok (.invokevirtual 112, 3) := by decide +kernel
theorem dX11_share_16 : decode cX11_share 16 = .ok (.ireturn, 1) := by decide +kernel
theorem dX11_share_17 : decode cX11_share 17 = .ok (.aload_n 0, 1) := by decide +kernel
theorem dX11_share_18 : decode cX11_share 18 = .ok (.getfield 58, 3) := by decide +kernel
theorem dX11_share_21 : decode cX11_share 21 = .ok (.invokevirtual 404, 3) := by decide +kernel
theorem dX11_share_24 : decode cX11_share 24 = .ok (.istore_n 2, 1) := by decide +kernel
theorem dX11_share_25 : decode cX11_share 25 = .ok (.iload_n 2, 1) := by decide +kernel
theorem dX11_share_26 : decode cX11_share 26 = .ok (.ifCond .ne 10, 3) := by decide +kernel
theorem dX11_share_29 : decode cX11_share 29 = .ok (.aload_n 0, 1) := by decide +kernel
theorem dX11_share_30 : decode cX11_share 30 = .ok (.bipush 8, 2) := by decide +kernel
theorem dX11_share_32 : decode cX11_share 32 = .ok (.invokevirtual 112, 3) := by decide +kernel
theorem dX11_share_35 : decode cX11_share 35 = .ok (.ireturn, 1) := by decide +kernel
theorem dX11_share_36 : decode cX11_share 36 = .ok (.aload_n 0, 1) := by decide +kernel
theorem dX11_share_37 : decode cX11_share 37 = .ok (.aload_n 0, 1) := by decide +kernel
theorem dX11_share_38 : decode cX11_share 38 = .ok (.getfield 58, 3) := by decide +kernel
theorem dX11_share_41 : decode cX11_share 41 = .ok (.iload_n 1, 1) := by decide +kernel
theorem dX11_share_42 : decode cX11_share 42 = .ok (.invokevirtual 274, 3) := by decide +kernel
theorem dX11_share_45 : decode cX11_share 45 = .ok (.i2l, 1) := by decide +kernel
theorem dX11_share_46 : decode cX11_share 46 = .ok (.iload_n 2, 1) := by decide +kernel
theorem dX11_share_47 : decode cX11_share 47 = .ok (.i2l, 1) := by decide +kernel
theorem dX11_share_48 : decode cX11_share 48 = .ok (.invokevirtual 393, 3) := by decide +kernel
theorem dX11_share_51 : decode cX11_share 51 = .ok (.aload_n 0, 1) := by decide +kernel
theorem dX11_share_52 : decode cX11_share 52 = .ok (.invokevirtual 119, 3) := by decide +kernel
theorem dX11_share_55 : decode cX11_share 55 = .ok (.ireturn, 1) := by decide +kernel
theorem dX11_live_0 : decode cX11_live 0 = .ok (.iload_n 1, 1) := by decide +kernel
theorem dX11_live_1 : decode cX11_live 1 = .ok (.ifCond .lt 10, 3) := by decide +kernel
theorem dX11_live_4 : decode cX11_live 4 = .ok (.iload_n 1, 1) := by decide +kernel
theorem dX11_live_5 : decode cX11_live 5 = .ok (.sipush 9999, 3) := by decide +kernel
theorem dX11_live_8 : decode cX11_live 8 = .ok (.if_icmp .le 9, 3) := by decide +kernel
theorem dX11_live_11 : decode cX11_live 11 = .ok (.aload_n 0, 1) := by decide +kernel
theorem dX11_live_12 : decode cX11_live 12 = .ok (.iconst 5, 1) := by decide +kernel
theorem dX11_live_13 : decode cX11_live 13 = .ok (.invokevirtual 131, 3) := by decide +kernel
theorem dX11_live_16 : decode cX11_live 16 = .ok (.ireturn, 1) := by decide +kernel
theorem dX11_live_17 : decode cX11_live 17 = .ok (.aload_n 0, 1) := by decide +kernel
theorem dX11_live_18 : decode cX11_live 18 = .ok (.getfield 58, 3) := by decide +kernel
theorem dX11_live_21 : decode cX11_live 21 = .ok (.getfield 180, 3) := by decide +kernel
theorem dX11_live_24 : decode cX11_live 24 = .ok (.getfield 408, 3) := by decide +kernel
theorem dX11_live_27 : decode cX11_live 27 = .ok (.ifCond .ne 10, 3) := by decide +kernel
theorem dX11_live_30 : decode cX11_live 30 = .ok (.aload_n 0, 1) := by decide +kernel
theorem dX11_live_31 : decode cX11_live 31 = .ok (.bipush 8, 2) := by decide +kernel
theorem dX11_live_33 : decode cX11_live 33 = .ok (.invokevirtual 131, 3) := by decide +kernel
theorem dX11_live_36 : decode cX11_live 36 = .ok (.ireturn, 1) := by decide +kernel
theorem dX11_live_37 : decode cX11_live 37 = .ok (.aload_n 0, 1) := by decide +kernel
theorem dX11_live_38 : decode cX11_live 38 = .ok (.getfield 75, 3) := by decide +kernel
theorem dX11_live_41 : decode cX11_live 41 = .ok (.aload_n 0, 1) := by decide +kernel
theorem dX11_live_42 : decode cX11_live 42 = .ok (.getfield 58, 3) := by decide +kernel
theorem dX11_live_45 : decode cX11_live 45 = .ok (.iload_n 1, 1) := by decide +kernel
theorem dX11_live_46 : decode cX11_live 46 = .ok (.invokevirtual 411, 3) := by decide +kernel
theorem dX11_live_49 : decode cX11_live 49 = .ok (.aload_n 0, 1) := by decide +kernel
theorem dX11_live_50 : decode cX11_live 50 = .ok (.getfield 75, 3) := by decide +kernel
theorem dX11_live_53 : decode cX11_live 53 = .ok (.aload_n 0, 1) := by decide +kernel
theorem dX11_live_54 : decode cX11_live 54 = .ok (.getfield 79, 3) := by decide +kernel
theorem dX11_live_57 : decode cX11_live 57 = .ok (.invokevirtual 414, 3) := by decide +kernel
theorem dX11_live_60 : decode cX11_live 60 = .ok (.aload_n 0, 1) := by decide +kernel
theorem dX11_live_61 : decode cX11_live 61 = .ok (.iconst 1, 1) := by decide +kernel
theorem dX11_live_62 : decode cX11_live 62 = .ok (.putfield 83, 3) := by decide +kernel
theorem dX11_live_65 : decode cX11_live 65 = .ok (.aload_n 0, 1) := by decide +kernel
theorem dX11_live_66 : decode cX11_live 66 = .ok (.aload_n 0, 1) := by decide +kernel
theorem dX11_live_67 : decode cX11_live 67 = .ok (.getfield 75, 3) := by decide +kernel
theorem dX11_live_70 : decode cX11_live 70 = .ok (.getfield 418, 3) := by decide +kernel
theorem dX11_live_73 : decode cX11_live 73 = .ok (.invokevirtual 177, 3) := by decide +kernel
theorem dX11_live_76 : decode cX11_live 76 = .ok (.ireturn, 1) := by decide +kernel
theorem dX11_lived_0 : decode cX11_lived 0 = .ok (.iload_n 1, 1) := by decide +kernel
theorem dX11_lived_1 : decode cX11_lived 1 = .ok (.ifCond .lt 8, 3) := by decide +kernel
theorem dX11_lived_4 : decode cX11_lived 4 = .ok (.iload_n 1, 1) := by decide +kernel
theorem dX11_lived_5 : decode cX11_lived 5 = .ok (.iconst 5, 1) := by decide +kernel
theorem dX11_lived_6 : decode cX11_lived 6 = .ok (.if_icmp .lt 9, 3) := by decide +kernel
theorem dX11_lived_9 : decode cX11_lived 9 = .ok (.aload_n 0, 1) := by decide +kernel
theorem dX11_lived_10 : decode cX11_lived 10 = .ok (.iconst 5, 1) := by decide +kernel
theorem dX11_lived_11 : decode cX11_lived 11 = .ok (.invokevirtual 131, 3) := by decide +kernel
theorem dX11_lived_14 : decode cX11_lived 14 = .ok (.ireturn, 1) := by decide +kernel
theorem dX11_lived_15 : decode cX11_lived 15 = .ok (.aload_n 0, 1) := by decide +kernel
theorem dX11_lived_16 : decode cX11_lived 16 = .ok (.getfield 83, 3) := by decide +kernel
theorem dX11_lived_19 : decode cX11_lived 19 = .ok (.ifCond .eq 16, 3) := by decide +kernel
theorem dX11_lived_22 : decode cX11_lived 22 = .ok (.aload_n 0, 1) := by decide +kernel
theorem dX11_lived_23 : decode cX11_lived 23 = .ok (.aload_n 0, 1) := by decide +kernel
theorem dX11_lived_24 : decode cX11_lived 24 = .ok (.getfield 79, 3) := by decide +kernel
theorem dX11_lived_27 : decode cX11_lived 27 = .ok (.iload_n 1, 1) := by decide +kernel
theorem dX11_lived_28 : decode cX11_lived 28 = .ok (.iaload, 1) := by decide +kernel
theorem dX11_lived_29 : decode cX11_lived 29 = .ok (.invokevirtual 177, 3) := by decide +kernel
theorem dX11_lived_32 : decode cX11_lived 32 = .ok (.goto 9, 3) := by decide +kernel
theorem dX11_lived_35 : decode cX11_lived 35 = .ok (.aload_n 0, 1) := by decide +kernel
theorem dX11_lived_36 : decode cX11_lived 36 = .ok (.bipush 8, 2) := by decide +kernel
theorem dX11_lived_38 : decode cX11_lived 38 = .ok (.invokevirtual 131, 3) := by decide +kernel
theorem dX11_lived_41 : decode cX11_lived 41 = .ok (.ireturn, 1) := by decide +kernel
theorem dX11_mean_0 : decode cX11_mean 0 = .ok (.iload_n 1, 1) := by decide +kernel
theorem dX11_mean_1 : decode cX11_mean 1 = .ok (.ifCond .lt 32, 3) := by decide +kernel
theorem dX11_mean_4 : decode cX11_mean 4 = .ok (.iload_n 1, 1) := by decide +kernel
theorem dX11_mean_5 : decode cX11_mean 5 = .ok (.sipush 9999, 3) := by decide +kernel
theorem dX11_mean_8 : decode cX11_mean 8 = .ok (.if_icmp .gt 25, 3) := by decide +kernel
theorem dX11_mean_11 : decode cX11_mean 11 = .ok (.iload_n 2, 1) := by decide +kernel
theorem dX11_mean_12 : decode cX11_mean 12 = .ok (.iconst 1, 1) := by decide +kernel
theorem dX11_mean_13 : decode cX11_mean 13 = .ok (.if_icmp .lt 20, 3) := by decide +kernel
theorem dX11_mean_16 : decode cX11_mean 16 = .ok (.iload_n 2, 1) := by decide +kernel
theorem dX11_mean_17 : decode cX11_mean 17 = .ok (.bipush 20, 2) := by decide +kernel
theorem dX11_mean_19 : decode cX11_mean 19 = .ok (.if_icmp .gt 14, 3) := by decide +kernel
theorem dX11_mean_22 : decode cX11_mean 22 = .ok (.iload_n 2, 1) := by decide +kernel
theorem dX11_mean_23 : decode cX11_mean 23 = .ok (.iconst 1, 1) := by decide +kernel
theorem dX11_mean_24 : decode cX11_mean 24 = .ok (.isub, 1) := by decide +kernel
theorem dX11_mean_25 : decode cX11_mean 25 = .ok (.sipush 9999, 3) := by decide +kernel
theorem dX11_mean_28 : decode cX11_mean 28 = .ok (.iload_n 1, 1) := by decide +kernel
theorem dX11_mean_29 : decode cX11_mean 29 = .ok (.isub, 1) := by decide +kernel
theorem dX11_mean_30 : decode cX11_mean 30 = .ok (.if_icmp .le 9, 3) := by decide +kernel
theorem dX11_mean_33 : decode cX11_mean 33 = .ok (.aload_n 0, 1) := by decide +kernel
theorem dX11_mean_34 : decode cX11_mean 34 = .ok (.iconst 5, 1) := by decide +kernel
theorem dX11_mean_35 : decode cX11_mean 35 = .ok (.invokevirtual 112, 3) := by decide +kernel
theorem dX11_mean_38 : decode cX11_mean 38 = .ok (.ireturn, 1) := by decide +kernel
theorem dX11_mean_39 : decode cX11_mean 39 = .ok (.aload_n 0, 1) := by decide +kernel
theorem dX11_mean_40 : decode cX11_mean 40 = .ok (.getfield 58, 3) := by decide +kernel
theorem dX11_mean_43 : decode cX11_mean 43 = .ok (.getfield 180, 3) := by decide +kernel
theorem dX11_mean_46 : decode cX11_mean 46 = .ok (.getfield 408, 3) := by decide +kernel
theorem dX11_mean_49 : decode cX11_mean 49 = .ok (.ifCond .ne 10, 3) := by decide +kernel
theorem dX11_mean_52 : decode cX11_mean 52 = .ok (.aload_n 0, 1) := by decide +kernel
theorem dX11_mean_53 : decode cX11_mean 53 = .ok (.bipush 8, 2) := by decide +kernel
theorem dX11_mean_55 : decode cX11_mean 55 = .ok (.invokevirtual 112, 3) := by decide +kernel
theorem dX11_mean_58 : decode cX11_mean 58 = .ok (.ireturn, 1) := by decide +kernel
theorem dX11_mean_59 : decode cX11_mean 59 = .ok (.lconst 0, 1) := by decide +kernel
theorem dX11_mean_60 : decode cX11_mean 60 = .ok (.lstore_n 3, 1) := by decide +kernel
theorem dX11_mean_61 : decode cX11_mean 61 = .ok (.iconst 0, 1) := by decide +kernel
theorem dX11_mean_62 : decode cX11_mean 62 = .ok (.istore 5, 2) := by decide +kernel
theorem dX11_mean_64 : decode cX11_mean 64 = .ok (.iload 5, 2) := by decide +kernel
theorem dX11_mean_66 : decode cX11_mean 66 = .ok (.iload_n 2, 1) := by decide +kernel
theorem dX11_mean_67 : decode cX11_mean 67 = .ok (.if_icmp .ge 46, 3) := by decide +kernel
theorem dX11_mean_70 : decode cX11_mean 70 = .ok (.aload_n 0, 1) := by decide +kernel
theorem dX11_mean_71 : decode cX11_mean 71 = .ok (.getfield 62, 3) := by decide +kernel
theorem dX11_mean_74 : decode cX11_mean 74 = .ok (.aload_n 0, 1) := by decide +kernel
theorem dX11_mean_75 : decode cX11_mean 75 = .ok (.getfield 58, 3) := by decide +kernel
theorem dX11_mean_78 : decode cX11_mean 78 = .ok (.invokevirtual 170, 3) := by decide +kernel
theorem dX11_mean_81 : decode cX11_mean 81 = .ok (.aload_n 0, 1) := by decide +kernel
theorem dX11_mean_82 : decode cX11_mean 82 = .ok (.getfield 75, 3) := by decide +kernel
theorem dX11_mean_85 : decode cX11_mean 85 = .ok (.aload_n 0, 1) := by decide +kernel
theorem dX11_mean_86 : decode cX11_mean 86 = .ok (.getfield 62, 3) := by decide +kernel
theorem dX11_mean_89 : decode cX11_mean 89 = .ok (.iload_n 1, 1) := by decide +kernel
theorem dX11_mean_90 : decode cX11_mean 90 = .ok (.iload 5, 2) := by decide +kernel
theorem dX11_mean_92 : decode cX11_mean 92 = .ok (.iadd, 1) := by decide +kernel
theorem dX11_mean_93 : decode cX11_mean 93 = .ok (.invokevirtual 411, 3) := by decide +kernel
theorem dX11_mean_96 : decode cX11_mean 96 = .ok (.lload_n 3, 1) := by decide +kernel
theorem dX11_mean_97 : decode cX11_mean 97 = .ok (.aload_n 0, 1) := by decide +kernel
theorem dX11_mean_98 : decode cX11_mean 98 = .ok (.getfield 62, 3) := by decide +kernel
theorem dX11_mean_101 : decode cX11_mean 101 = .ok (.invokevirtual 404, 3) := by decide +kernel
theorem dX11_mean_104 : decode cX11_mean 104 = .ok (.i2l, 1) := by decide +kernel
theorem dX11_mean_105 : decode cX11_mean 105 = .ok (.ladd, 1) := by decide +kernel
theorem dX11_mean_106 : decode cX11_mean 106 = .ok (.lstore_n 3, 1) := by decide +kernel
theorem dX11_mean_107 : decode cX11_mean 107 = .ok (.iinc 5 1, 3) := by decide +kernel
theorem dX11_mean_110 : decode cX11_mean 110 = .ok (.goto (-46), 3) := by decide +kernel
theorem dX11_mean_113 : decode cX11_mean 113 = .ok (.aload_n 0, 1) := by decide +kernel
theorem dX11_mean_114 : decode cX11_mean 114 = .ok (.lload_n 3, 1) := by decide +kernel
theorem dX11_mean_115 : decode cX11_mean 115 = .ok (.iload_n 2, 1) := by decide +kernel
theorem dX11_mean_116 : decode cX11_mean 116 = .ok (.i2l, 1) := by decide +kernel
theorem dX11_mean_117 : decode cX11_mean 117 = .ok (.invokevirtual 393, 3) := by decide +kernel
theorem dX11_mean_120 : decode cX11_mean 120 = .ok (.aload_n 0, 1) := by decide +kernel
theorem dX11_mean_121 : decode cX11_mean 121 = .ok (.invokevirtual 119, 3) := by decide +kernel
theorem dX11_mean_124 : decode cX11_mean 124 = .ok (.ireturn, 1) := by decide +kernel
theorem dX11_mark_0 : decode cX11_mark 0 = .ok (.aload_n 0, 1) := by decide +kernel
theorem dX11_mark_1 : decode cX11_mark 1 = .ok (.getfield 69, 3) := by decide +kernel
theorem dX11_mark_4 : decode cX11_mark 4 = .ok (.iconst 3, 1) := by decide +kernel
theorem dX11_mark_5 : decode cX11_mark 5 = .ok (.if_icmp .lt 10, 3) := by decide +kernel
theorem dX11_mark_8 : decode cX11_mark 8 = .ok (.aload_n 0, 1) := by decide +kernel
theorem dX11_mark_9 : decode cX11_mark 9 = .ok (.bipush 7, 2) := by decide +kernel
theorem dX11_mark_11 : decode cX11_mark 11 = .ok (.invokevirtual 131, 3) := by decide +kernel
theorem dX11_mark_14 : decode cX11_mark 14 = .ok (.ireturn, 1) := by decide +kernel
theorem dX11_mark_15 : decode cX11_mark 15 = .ok (.aload_n 0, 1) := by decide +kernel
theorem dX11_mark_16 : decode cX11_mark 16 = .ok (.getfield 65, 3) := by decide +kernel
theorem dX11_mark_19 : decode cX11_mark 19 = .ok (.aload_n 0, 1) := by decide +kernel
theorem dX11_mark_20 : decode cX11_mark 20 = .ok (.getfield 69, 3) := by decide +kernel
theorem dX11_mark_23 : decode cX11_mark 23 = .ok (.aaload, 1) := by decide +kernel
theorem dX11_mark_24 : decode cX11_mark 24 = .ok (.aload_n 0, 1) := by decide +kernel
theorem dX11_mark_25 : decode cX11_mark 25 = .ok (.getfield 58, 3) := by decide +kernel
theorem dX11_mark_28 : decode cX11_mark 28 = .ok (.invokevirtual 170, 3) := by decide +kernel
theorem dX11_mark_31 : decode cX11_mark 31 = .ok (.aload_n 0, 1) := by decide +kernel
theorem dX11_mark_32 : decode cX11_mark 32 = .ok (.dup, 1) := by decide +kernel
theorem dX11_mark_33 : decode cX11_mark 33 = .ok (.getfield 69, 3) := by decide +kernel
theorem dX11_mark_36 : decode cX11_mark 36 = .ok (.iconst 1, 1) := by decide +kernel
theorem dX11_mark_37 : decode cX11_mark 37 = .ok (.iadd, 1) := by decide +kernel
theorem dX11_mark_38 : decode cX11_mark 38 = .ok (.putfield 69, 3) := by decide +kernel
theorem dX11_mark_41 : decode cX11_mark 41 = .ok (.aload_n 0, 1) := by decide +kernel
theorem dX11_mark_42 : decode cX11_mark 42 = .ok (.aload_n 0, 1) := by decide +kernel
theorem dX11_mark_43 : decode cX11_mark 43 = .ok (.getfield 69, 3) := by decide +kernel
theorem dX11_mark_46 : decode cX11_mark 46 = .ok (.invokevirtual 177, 3) := by decide +kernel
theorem dX11_mark_49 : decode cX11_mark 49 = .ok (.ireturn, 1) := by decide +kernel
theorem dX11_back_0 : decode cX11_back 0 = .ok (.aload_n 0, 1) := by decide +kernel
theorem dX11_back_1 : decode cX11_back 1 = .ok (.getfield 69, 3) := by decide +kernel
theorem dX11_back_4 : decode cX11_back 4 = .ok (.ifCond .gt 10, 3) := by decide +kernel
theorem dX11_back_7 : decode cX11_back 7 = .ok (.aload_n 0, 1) := by decide +kernel
theorem dX11_back_8 : decode cX11_back 8 = .ok (.bipush 8, 2) := by decide +kernel
theorem dX11_back_10 : decode cX11_back 10 = .ok (.invokevirtual 131, 3) := by decide +kernel
theorem dX11_back_13 : decode cX11_back 13 = .ok (.ireturn, 1) := by decide +kernel
theorem dX11_back_14 : decode cX11_back 14 = .ok (.aload_n 0, 1) := by decide +kernel
theorem dX11_back_15 : decode cX11_back 15 = .ok (.dup, 1) := by decide +kernel
theorem dX11_back_16 : decode cX11_back 16 = .ok (.getfield 69, 3) := by decide +kernel
theorem dX11_back_19 : decode cX11_back 19 = .ok (.iconst 1, 1) := by decide +kernel
theorem dX11_back_20 : decode cX11_back 20 = .ok (.isub, 1) := by decide +kernel
theorem dX11_back_21 : decode cX11_back 21 = .ok (.putfield 69, 3) := by decide +kernel
theorem dX11_back_24 : decode cX11_back 24 = .ok (.aload_n 0, 1) := by decide +kernel
theorem dX11_back_25 : decode cX11_back 25 = .ok (.getfield 58, 3) := by decide +kernel
theorem dX11_back_28 : decode cX11_back 28 = .ok (.aload_n 0, 1) := by decide +kernel
theorem dX11_back_29 : decode cX11_back 29 = .ok (.getfield 65, 3) := by decide +kernel
theorem dX11_back_32 : decode cX11_back 32 = .ok (.aload_n 0, 1) := by decide +kernel
theorem dX11_back_33 : decode cX11_back 33 = .ok (.getfield 69, 3) := by decide +kernel
theorem dX11_back_36 : decode cX11_back 36 = .ok (.aaload, 1) := by decide +kernel
theorem dX11_back_37 : decode cX11_back 37 = .ok (.invokevirtual 170, 3) := by decide +kernel
theorem dX11_back_40 : decode cX11_back 40 = .ok (.aload_n 0, 1) := by decide +kernel
theorem dX11_back_41 : decode cX11_back 41 = .ok (.aload_n 0, 1) := by decide +kernel
theorem dX11_back_42 : decode cX11_back 42 = .ok (.getfield 69, 3) := by decide +kernel
theorem dX11_back_45 : decode cX11_back 45 = .ok (.invokevirtual 177, 3) := by decide +kernel
theorem dX11_back_48 : decode cX11_back 48 = .ok (.ireturn, 1) := by decide +kernel
theorem dX11_answer_0 : decode cX11_answer 0 = .ok (.aload_n 0, 1) := by decide +kernel
theorem dX11_answer_1 : decode cX11_answer 1 = .ok (.iconst 0, 1) := by decide +kernel
theorem dX11_answer_2 : decode cX11_answer 2 = .ok (.putfield 9, 3) := by decide +kernel
theorem dX11_answer_5 : decode cX11_answer 5 = .ok (.iload_n 1, 1) := by decide +kernel
theorem dX11_answer_6 : decode cX11_answer 6 = .ok (.ireturn, 1) := by decide +kernel
theorem dX11_answerIfThere_0 : decode cX11_answerIfThere 0 = .ok (.iload_n 1, 1) := by decide +kernel
theorem dX11_answerIfThere_1 : decode cX11_answerIfThere 1 = .ok (.iconst (-1), 1) := by decide +kernel
theorem dX11_answerIfThere_2 : decode cX11_answerIfThere 2 = .ok (.if_icmp .ne 12, 3) := by decide +kernel
theorem dX11_answerIfThere_5 : decode cX11_answerIfThere 5 = .ok (.aload_n 0, 1) := by decide +kernel
theorem dX11_answerIfThere_6 : decode cX11_answerIfThere 6 = .ok (.bipush 8, 2) := by decide +kernel
theorem dX11_answerIfThere_8 : decode cX11_answerIfThere 8 = .ok (.invokevirtual 131, 3) := by decide +kernel
theorem dX11_answerIfThere_11 : decode cX11_answerIfThere 11 = .ok (.goto 8, 3) := by decide +kernel
theorem dX11_answerIfThere_14 : decode cX11_answerIfThere 14 = .ok (.aload_n 0, 1) := by decide +kernel
theorem dX11_answerIfThere_15 : decode cX11_answerIfThere 15 = .ok (.iload_n 1, 1) := by decide +kernel
theorem dX11_answerIfThere_16 : decode cX11_answerIfThere 16 = .ok (.invokevirtual 177, 3) := by decide +kernel
theorem dX11_answerIfThere_19 : decode cX11_answerIfThere 19 = .ok (.ireturn, 1) := by decide +kernel
theorem dX11_none_0 : decode cX11_none 0 = .ok (.aload_n 0, 1) := by decide +kernel
theorem dX11_none_1 : decode cX11_none 1 = .ok (.iload_n 1, 1) := by decide +kernel
theorem dX11_none_2 : decode cX11_none 2 = .ok (.putfield 9, 3) := by decide +kernel
theorem dX11_none_5 : decode cX11_none 5 = .ok (.iconst (-1), 1) := by decide +kernel
theorem dX11_none_6 : decode cX11_none 6 = .ok (.ireturn, 1) := by decide +kernel
theorem dX11_agree_0 : decode cX11_agree 0 = .ok (.aload_n 0, 1) := by decide +kernel
theorem dX11_agree_1 : decode cX11_agree 1 = .ok (.iconst 0, 1) := by decide +kernel
theorem dX11_agree_2 : decode cX11_agree 2 = .ok (.putfield 9, 3) := by decide +kernel
theorem dX11_agree_5 : decode cX11_agree 5 = .ok (.iconst 1, 1) := by decide +kernel
theorem dX11_agree_6 : decode cX11_agree 6 = .ok (.ireturn, 1) := by decide +kernel
theorem dX11_refuse_0 : decode cX11_refuse 0 = .ok (.aload_n 0, 1) := by decide +kernel
theorem dX11_refuse_1 : decode cX11_refuse 1 = .ok (.iload_n 1, 1) := by decide +kernel
theorem dX11_refuse_2 : decode cX11_refuse 2 = .ok (.putfield 9, 3) := by decide +kernel
theorem dX11_refuse_5 : decode cX11_refuse 5 = .ok (.iconst 0, 1) := by decide +kernel
theorem dX11_refuse_6 : decode cX11_refuse 6 = .ok (.ireturn, 1) := by decide +kernel
theorem dX11_feedInt_0 : decode cX11_feedInt 0 = .ok (.bipush 24, 2) := by decide +kernel
theorem dX11_feedInt_2 : decode cX11_feedInt 2 = .ok (.istore_n 2, 1) := by decide +kernel
theorem dX11_feedInt_3 : decode cX11_feedInt 3 = .ok (.iload_n 2, 1) := by decide +kernel
theorem dX11_feedInt_4 : decode cX11_feedInt 4 = .ok (.ifCond .lt 42, 3) := by decide +kernel
theorem dX11_feedInt_7 : decode cX11_feedInt 7 = .ok (.aload_n 0, 1) := by decide +kernel
theorem dX11_feedInt_8 : decode cX11_feedInt 8 = .ok (.getfield 24, 3) := by decide +kernel
theorem dX11_feedInt_11 : decode cX11_feedInt 11 = .ok (.sipush 900, 3) := by decide +kernel
theorem dX11_feedInt_14 : decode cX11_feedInt 14 = .ok (.if_icmp .ge 26, 3) := by decide +kernel
theorem dX11_feedInt_17 : decode cX11_feedInt 17 = .ok (.aload_n 0, 1) := by decide +kernel
theorem dX11_feedInt_18 : decode cX11_feedInt 18 = .ok (.getfield 20, 3) := by decide +kernel
theorem dX11_feedInt_21 : decode cX11_feedInt 21 = .ok (.aload_n 0, 1) := by decide +kernel
theorem dX11_feedInt_22 : decode cX11_feedInt 22 = .ok (.getfield 24, 3) := by decide +kernel
theorem dX11_feedInt_25 : decode cX11_feedInt 25 = .ok (.iload_n 1, 1) := by decide +kernel
theorem dX11_feedInt_26 : decode cX11_feedInt 26 = .ok (.iload_n 2, 1) := by decide +kernel
theorem dX11_feedInt_27 : decode cX11_feedInt 27 = .ok (.ishr, 1) := by decide +kernel
theorem dX11_feedInt_28 : decode cX11_feedInt 28 = .ok (.i2b, 1) := by decide +kernel
theorem dX11_feedInt_29 : decode cX11_feedInt 29 = .ok (.bastore, 1) := by decide +kernel
theorem dX11_feedInt_30 : decode cX11_feedInt 30 = .ok (.aload_n 0, 1) := by decide +kernel
theorem dX11_feedInt_31 : decode cX11_feedInt 31 = .ok (.dup, 1) := by decide +kernel
theorem dX11_feedInt_32 : decode cX11_feedInt 32 = .ok (.getfield 24, 3) := by decide +kernel
theorem dX11_feedInt_35 : decode cX11_feedInt 35 = .ok (.iconst 1, 1) := by decide +kernel
theorem dX11_feedInt_36 : decode cX11_feedInt 36 = .ok (.iadd, 1) := by decide +kernel
theorem dX11_feedInt_37 : decode cX11_feedInt 37 = .ok (.putfield 24, 3) := by decide +kernel
theorem dX11_feedInt_40 : decode cX11_feedInt 40 = .ok (.iinc 2 (-8), 3) := by decide +kernel
theorem dX11_feedInt_43 : decode cX11_feedInt 43 = .ok (.goto (-40), 3) := by decide +kernel
theorem dX11_feedInt_46 : decode cX11_feedInt 46 = .ok (.return_, 1) := by decide +kernel
theorem dX11_whyNotOut_0 : decode cX11_whyNotOut 0 = .ok (.iload_n 2, 1) := by decide +kernel
theorem dX11_whyNotOut_1 : decode cX11_whyNotOut 1 = .ok (.invokestatic 108, 3) := by decide +kernel
theorem dX11_whyNotOut_4 : decode cX11_whyNotOut 4 = .ok (.ifCond .ne 5, 3) := by decide +kernel
theorem dX11_whyNotOut_7 : decode cX11_whyNotOut 7 = .ok (.iconst 1, 1) := by decide +kernel
theorem dX11_whyNotOut_8 : decode cX11_whyNotOut 8 = .ok (.ireturn, 1) := by decide +kernel
theorem dX11_whyNotOut_9 : decode cX11_whyNotOut 9 = .ok (.aload_n 0, 1) := by decide +kernel
theorem dX11_whyNotOut_10 : decode cX11_whyNotOut 10 = .ok (.getfield 58, 3) := by decide +kernel
theorem dX11_whyNotOut_13 : decode cX11_whyNotOut 13 = .ok (.iload_n 1, 1) := by decide +kernel
theorem dX11_whyNotOut_14 : decode cX11_whyNotOut 14 = .ok (.invokevirtual 259, 3) := by decide +kernel
theorem dX11_whyNotOut_17 : decode cX11_whyNotOut 17 = .ok (.ifCond .eq 15, 3) := by decide +kernel
theorem dX11_whyNotOut_20 : decode cX11_whyNotOut 20 = .ok (.aload_n 0, 1) := by decide +kernel
theorem dX11_whyNotOut_21 : decode cX11_whyNotOut 21 = .ok (.getfield 30, 3) := by decide +kernel
theorem dX11_whyNotOut_24 : decode cX11_whyNotOut 24 = .ok (.iload_n 2, 1) := by decide +kernel
theorem dX11_whyNotOut_25 : decode cX11_whyNotOut 25 = .ok (.iload_n 3, 1) := by decide +kernel
theorem dX11_whyNotOut_26 : decode cX11_whyNotOut 26 = .ok (.invokevirtual 372, 3) := by decide +kernel
theorem dX11_whyNotOut_29 : decode cX11_whyNotOut 29 = .ok (.goto 4, 3) := by decide +kernel
theorem dX11_whyNotOut_32 : decode cX11_whyNotOut 32 = .ok (.iconst 2, 1) := by decide +kernel
theorem dX11_whyNotOut_33 : decode cX11_whyNotOut 33 = .ok (.ireturn, 1) := by decide +kernel
theorem dX11_tellFraction_0 : decode cX11_tellFraction 0 = .ok (.lload_n 1, 1) := by decide +kernel
theorem dX11_tellFraction_1 : decode cX11_tellFraction 1 = .ok (.lload_n 3, 1) := by decide +kernel
theorem dX11_tellFraction_2 : decode cX11_tellFraction 2 = .ok (.invokestatic 419, 3) := by decide +kernel
theorem dX11_tellFraction_5 : decode cX11_tellFraction 5 = .ok (.lstore 5, 2) := by decide +kernel
theorem dX11_tellFraction_7 : decode cX11_tellFraction 7 = .ok (.lload 5, 2) := by decide +kernel
theorem dX11_tellFraction_9 : decode cX11_tellFraction 9 = .ok (.lconst 0, 1) := by decide +kernel
theorem dX11_tellFraction_10 : decode cX11_tellFraction 10 = .ok (.lcmp, 1) := by decide +kernel
theorem dX11_tellFraction_11 : decode cX11_tellFraction 11 = .ok (.ifCond .le 19, 3) := by decide +kernel
theorem dX11_tellFraction_14 : decode cX11_tellFraction 14 = .ok (.aload_n 0, 1) := by decide +kernel
theorem dX11_tellFraction_15 : decode cX11_tellFraction 15 = .ok (.lload_n 1, 1) := by decide +kernel
theorem dX11_tellFraction_16 : decode cX11_tellFraction 16 = .ok (.lload 5, 2) := by decide +kernel
theorem dX11_tellFraction_18 : decode cX11_tellFraction 18 = .ok (.ldiv, 1) := by decide +kernel
theorem dX11_tellFraction_19 : decode cX11_tellFraction 19 = .ok (.putfield 13, 3) := by decide +kernel
theorem dX11_tellFraction_22 : decode cX11_tellFraction 22 = .ok (.aload_n 0, 1) := by decide +kernel
theorem dX11_tellFraction_23 : decode cX11_tellFraction 23 = .ok (.lload_n 3, 1) := by decide +kernel
theorem dX11_tellFraction_24 : decode cX11_tellFraction 24 = .ok (.lload 5, 2) := by decide +kernel
theorem dX11_tellFraction_26 : decode cX11_tellFraction 26 = .ok (.ldiv, 1) := by decide +kernel
theorem dX11_tellFraction_27 : decode cX11_tellFraction 27 = .ok (.putfield 17, 3) := by decide +kernel
theorem dX11_tellFraction_30 : decode cX11_tellFraction 30 = .ok (.return_, 1) := by decide +kernel
theorem dX11_commonDivisor_0 : decode cX11_commonDivisor 0 = .ok (.lload_n 0, 1) := by decide +kernel
theorem dX11_commonDivisor_1 : decode cX11_commonDivisor 1 = .ok (.lstore 4, 2) := by decide +kernel
theorem dX11_commonDivisor_3 : decode cX11_commonDivisor 3 = .ok (.lload_n 2, 1) := by decide +kernel
theorem dX11_commonDivisor_4 : decode cX11_commonDivisor 4 = .ok (.lstore 6, 2) := by decide +kernel
theorem dX11_commonDivisor_6 : decode cX11_commonDivisor 6 = .ok (.iconst 0, 1) := by decide +kernel
theorem dX11_commonDivisor_7 : decode cX11_commonDivisor 7 = .ok (.istore 8, 2) := by decide +kernel
theorem dX11_commonDivisor_9 : decode cX11_commonDivisor 9 = .ok (.iload 8, 2) := by decide +kernel
theorem dX11_commonDivisor_11 : decode cX11_commonDivisor 11 = .ok (.sipush 200, 3) := by decide +kernel
theorem dX11_commonDivisor_14 : decode cX11_commonDivisor 14 = .ok (.if_icmp .ge 31, 3) := by decide +kernel
theorem dX11_commonDivisor_17 : decode cX11_commonDivisor 17 = .ok (.lload 6, 2) := by decide +kernel
theorem dX11_commonDivisor_19 : decode cX11_commonDivisor 19 = .ok (.lconst 0, 1) := by decide +kernel
theorem dX11_commonDivisor_20 : decode cX11_commonDivisor 20 = .ok (.lcmp, 1) := by decide +kernel
theorem dX11_commonDivisor_21 : decode cX11_commonDivisor 21 = .ok (.ifCond .eq 24, 3) := by decide +kernel
theorem dX11_commonDivisor_24 : decode cX11_commonDivisor 24 = .ok (.lload 4, 2) := by decide +kernel
theorem dX11_commonDivisor_26 : decode cX11_commonDivisor 26 = .ok (.lload 6, 2) := by decide +kernel
theorem dX11_commonDivisor_28 : decode cX11_commonDivisor 28 = .ok (.lrem, 1) := by decide +kernel
theorem dX11_commonDivisor_29 : decode cX11_commonDivisor 29 = .ok (.lstore 9, 2) := by decide +kernel
theorem dX11_commonDivisor_31 : decode cX11_commonDivisor 31 = .ok (.lload 6, 2) := by decide +kernel
theorem dX11_commonDivisor_33 : decode cX11_commonDivisor 33 = .ok (.lstore 4, 2) := by decide +kernel
theorem dX11_commonDivisor_35 : decode cX11_commonDivisor 35 = .ok (.lload 9, 2) := by decide +kernel
theorem dX11_commonDivisor_37 : decode cX11_commonDivisor 37 = .ok (.lstore 6, 2) := by decide +kernel
theorem dX11_commonDivisor_39 : decode cX11_commonDivisor 39 = .ok (.iinc 8 1, 3) := by decide +kernel
theorem dX11_commonDivisor_42 : decode cX11_commonDivisor 42 = .ok (.goto (-33), 3) := by decide +kernel
theorem dX11_commonDivisor_45 : decode cX11_commonDivisor 45 = .ok (.lload 4, 2) := by decide +kernel
theorem dX11_commonDivisor_47 : decode cX11_commonDivisor 47 = .ok (.lreturn, 1) := by decide +kernel
theorem dX11_isOffCase_0 : decode cX11_isOffCase 0 = .ok (.iload_n 0, 1) := by decide +kernel
theorem dX11_isOffCase_1 : decode cX11_isOffCase 1 = .ok (.ifCond .lt 23, 3) := by decide +kernel
theorem dX11_isOffCase_4 : decode cX11_isOffCase 4 = .ok (.iload_n 0, 1) := by decide +kernel
theorem dX11_isOffCase_5 : decode cX11_isOffCase 5 = .ok (.bipush 99, 2) := by decide +kernel
theorem dX11_isOffCase_7 : decode cX11_isOffCase 7 = .ok (.if_icmp .gt 17, 3) := by decide +kernel
theorem dX11_isOffCase_10 : decode cX11_isOffCase 10 = .ok (.iload_n 1, 1) := by decide +kernel
theorem dX11_isOffCase_11 : decode cX11_isOffCase 11 = .ok (.ifCond .lt 13, 3) := by decide +kernel
theorem dX11_isOffCase_14 : decode cX11_isOffCase 14 = .ok (.iload_n 1, 1) := by decide +kernel
theorem dX11_isOffCase_15 : decode cX11_isOffCase 15 = .ok (.bipush 8, 2) := by decide +kernel
theorem dX11_isOffCase_17 : decode cX11_isOffCase 17 = .ok (.if_icmp .gt 7, 3) := by decide +kernel
theorem dX11_isOffCase_20 : decode cX11_isOffCase 20 = .ok (.iconst 1, 1) := by decide +kernel
theorem dX11_isOffCase_21 : decode cX11_isOffCase 21 = .ok (.goto 4, 3) := by decide +kernel
theorem dX11_isOffCase_24 : decode cX11_isOffCase 24 = .ok (.iconst 0, 1) := by decide +kernel
theorem dX11_isOffCase_25 : decode cX11_isOffCase 25 = .ok (.ireturn, 1) := by decide +kernel
theorem dX11_powerOf16_0 : decode cX11_powerOf16 0 = .ok (.lconst 1, 1) := by decide +kernel
theorem dX11_powerOf16_1 : decode cX11_powerOf16 1 = .ok (.iconst 4, 1) := by decide +kernel
theorem dX11_powerOf16_2 : decode cX11_powerOf16 2 = .ok (.iload_n 0, 1) := by decide +kernel
theorem dX11_powerOf16_3 : decode cX11_powerOf16 3 = .ok (.imul, 1) := by decide +kernel
theorem dX11_powerOf16_4 : decode cX11_powerOf16 4 = .ok (.lshl, 1) := by decide +kernel
theorem dX11_powerOf16_5 : decode cX11_powerOf16 5 = .ok (.lreturn, 1) := by decide +kernel
theorem dX11_offCost_0 : decode cX11_offCost 0 = .ok (.iload_n 1, 1) := by decide +kernel
theorem dX11_offCost_1 : decode cX11_offCost 1 = .ok (.i2l, 1) := by decide +kernel
theorem dX11_offCost_2 : decode cX11_offCost 2 = .ok (.lstore_n 3, 1) := by decide +kernel
theorem dX11_offCost_3 : decode cX11_offCost 3 = .ok (.iconst 1, 1) := by decide +kernel
theorem dX11_offCost_4 : decode cX11_offCost 4 = .ok (.istore 5, 2) := by decide +kernel
theorem dX11_offCost_6 : decode cX11_offCost 6 = .ok (.iload 5, 2) := by decide +kernel
theorem dX11_offCost_8 : decode cX11_offCost 8 = .ok (.iload_n 2, 1) := by decide +kernel
theorem dX11_offCost_9 : decode cX11_offCost 9 = .ok (.if_icmp .gt 44, 3) := by decide +kernel
theorem dX11_offCost_12 : decode cX11_offCost 12 = .ok (.iload 5, 2) := by decide +kernel
theorem dX11_offCost_14 : decode cX11_offCost 14 = .ok (.invokestatic 389, 3) := by decide +kernel
theorem dX11_offCost_17 : decode cX11_offCost 17 = .ok (.bipush 16, 2) := by decide +kernel
theorem dX11_offCost_19 : decode cX11_offCost 19 = .ok (.aload_n 0, 1) := by decide +kernel
theorem dX11_offCost_20 : decode cX11_offCost 20 = .ok (.getfield 58, 3) := by decide +kernel
theorem dX11_offCost_23 : decode cX11_offCost 23 = .ok (.getfield 210, 3) := by decide +kernel
theorem dX11_offCost_26 : decode cX11_offCost 26 = .ok (.isub, 1) := by decide +kernel
theorem dX11_offCost_27 : decode cX11_offCost 27 = .ok (.i2l, 1) := by decide +kernel
theorem dX11_offCost_28 : decode cX11_offCost 28 = .ok (.lload_n 3, 1) := by decide +kernel
theorem dX11_offCost_29 : decode cX11_offCost 29 = .ok (.lmul, 1) := by decide +kernel
theorem dX11_offCost_30 : decode cX11_offCost 30 = .ok (.ladd, 1) := by decide +kernel
theorem dX11_offCost_31 : decode cX11_offCost 31 = .ok (.lstore 6, 2) := by decide +kernel
theorem dX11_offCost_33 : decode cX11_offCost 33 = .ok (.lload 6, 2) := by decide +kernel
theorem dX11_offCost_35 : decode cX11_offCost 35 = .ok (.iload_n 1, 1) := by decide +kernel
theorem dX11_offCost_36 : decode cX11_offCost 36 = .ok (.i2l, 1) := by decide +kernel
theorem dX11_offCost_37 : decode cX11_offCost 37 = .ok (.iload 5, 2) := by decide +kernel
theorem dX11_offCost_39 : decode cX11_offCost 39 = .ok (.invokestatic 389, 3) := by decide +kernel
theorem dX11_offCost_42 : decode cX11_offCost 42 = .ok (.lmul, 1) := by decide +kernel
theorem dX11_offCost_43 : decode cX11_offCost 43 = .ok (.invokestatic 423, 3) := by decide +kernel
theorem dX11_offCost_46 : decode cX11_offCost 46 = .ok (.lstore_n 3, 1) := by decide +kernel
theorem dX11_offCost_47 : decode cX11_offCost 47 = .ok (.iinc 5 1, 3) := by decide +kernel
theorem dX11_offCost_50 : decode cX11_offCost 50 = .ok (.goto (-44), 3) := by decide +kernel
theorem dX11_offCost_53 : decode cX11_offCost 53 = .ok (.lload_n 3, 1) := by decide +kernel
theorem dX11_offCost_54 : decode cX11_offCost 54 = .ok (.lreturn, 1) := by decide +kernel

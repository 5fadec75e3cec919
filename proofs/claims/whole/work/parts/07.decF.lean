theorem dX12_wood_30 : decode cX12_wood 30 = .ok (.putfield 253, 3) := by decide +kernel
theorem dX12_wood_33 : decode cX12_wood 33 = .ok (.aload_n 0, 1) := by decide +kernel
theorem dX12_wood_34 : decode cX12_wood 34 = .ok (.getfield 212, 3) := by decide +kernel
theorem dX12_wood_37 : decode cX12_wood 37 = .ok (.ifCond .ne 27, 3) := by decide +kernel
theorem dX12_wood_40 : decode cX12_wood 40 = .ok (.aload_n 0, 1) := by decide +kernel
theorem dX12_wood_41 : decode cX12_wood 41 = .ok (.getfield 124, 3) := by decide +kernel
theorem dX12_wood_44 : decode cX12_wood 44 = .ok (.ifCond .eq 20, 3) := by decide +kernel
theorem dX12_wood_47 : decode cX12_wood 47 = .ok (.aload_n 0, 1) := by decide +kernel
theorem dX12_wood_48 : decode cX12_wood 48 = .ok (.invokevirtual 304, 3) := by decide +kernel
theorem dX12_wood_51 : decode cX12_wood 51 = .ok (.aload_n 0, 1) := by decide +kernel
theorem dX12_wood_52 : decode cX12_wood 52 = .ok (.aload_n 0, 1) := by decide +kernel
theorem dX12_wood_53 : decode cX12_wood 53 = .ok (.bipush 59, 2) := by decide +kernel
theorem dX12_wood_55 : decode cX12_wood 55 = .ok (.invokevirtual 307, 3) := by decide +kernel
theorem dX12_wood_58 : decode cX12_wood 58 = .ok (.invokevirtual 228, 3) := by decide +kernel
theorem dX12_wood_61 : decode cX12_wood 61 = .ok (.goto (-28), 3) := by decide +kernel
theorem dX12_wood_64 : decode cX12_wood 64 = .ok (.aload_n 0, 1) := by decide +kernel
theorem dX12_wood_65 : decode cX12_wood 65 = .ok (.invokevirtual 310, 3) := by decide +kernel
theorem dX12_wood_68 : decode cX12_wood 68 = .ok (.ifCond .ne 5, 3) := by decide +kernel
theorem dX12_wood_71 : decode cX12_wood 71 = .ok (.iconst (-1), 1) := by decide +kernel
theorem dX12_wood_72 : decode cX12_wood 72 = .ok (.ireturn, 1) := by decide +kernel
theorem dX12_wood_73 : decode cX12_wood 73 = .ok (.aload_n 0, 1) := by decide +kernel
theorem dX12_wood_74 : decode cX12_wood 74 = .ok (.iconst 4, 1) := by decide +kernel
theorem dX12_wood_75 : decode cX12_wood 75 = .ok (.iconst 0, 1) := by decide +kernel
theorem dX12_wood_76 : decode cX12_wood 76 = .ok (.invokevirtual 313, 3) := by decide +kernel
theorem dX12_wood_79 : decode cX12_wood 79 = .ok (.aload_n 0, 1) := by decide +kernel
theorem dX12_wood_80 : decode cX12_wood 80 = .ok (.getfield 35, 3) := by decide +kernel
theorem dX12_wood_83 : decode cX12_wood 83 = .ok (.iconst 2, 1) := by decide +kernel
theorem dX12_wood_84 : decode cX12_wood 84 = .ok (.iaload, 1) := by decide +kernel
theorem dX12_wood_85 : decode cX12_wood 85 = .ok (.ireturn, 1) := by decide +kernel
theorem dX12_readTest_0 : decode cX12_readTest 0 = .ok (.aload_n 0, 1) := by decide +kernel
theorem dX12_readTest_1 : decode cX12_readTest 1 = .ok (.invokevirtual 203, 3) := by decide +kernel
theorem dX12_readTest_4 : decode cX12_readTest 4 = .ok (.istore_n 2, 1) := by decide +kernel
theorem dX12_readTest_5 : decode cX12_readTest 5 = .ok (.aload_n 0, 1) := by decide +kernel
theorem dX12_readTest_6 : decode cX12_readTest 6 = .ok (.iload_n 2, 1) := by decide +kernel
theorem dX12_readTest_7 : decode cX12_readTest 7 = .ok (.ifCond .lt 7, 3) := by decide +kernel
theorem dX12_readTest_10 : decode cX12_readTest 10 = .ok (.iconst 1, 1) := by decide +kernel
theorem dX12_readTest_11 : decode cX12_readTest 11 = .ok (.goto 4, 3) := by decide +kernel
theorem dX12_readTest_14 : decode cX12_readTest 14 = .ok (.iconst 0, 1) := by decide +kernel
theorem dX12_readTest_15 : decode cX12_readTest 15 = .ok (.invokevirtual 228, 3) := by decide +kernel
theorem dX12_readTest_18 : decode cX12_readTest 18 = .ok (.aload_n 0, 1) := by decide +kernel
theorem dX12_readTest_19 : decode cX12_readTest 19 = .ok (.getfield 35, 3) := by decide +kernel
theorem dX12_readTest_22 : decode cX12_readTest 22 = .ok (.iload_n 1, 1) := by decide +kernel
theorem dX12_readTest_23 : decode cX12_readTest 23 = .ok (.iconst 5, 1) := by decide +kernel
theorem dX12_readTest_24 : decode cX12_readTest 24 = .ok (.iadd, 1) := by decide +kernel
theorem dX12_readTest_25 : decode cX12_readTest 25 = .ok (.iload_n 2, 1) := by decide +kernel
theorem dX12_readTest_26 : decode cX12_readTest 26 = .ok (.iastore, 1) := by decide +kernel
theorem dX12_readTest_27 : decode cX12_readTest 27 = .ok (.aload_n 0, 1) := by decide +kernel
theorem dX12_readTest_28 : decode cX12_readTest 28 = .ok (.getfield 35, 3) := by decide +kernel
theorem dX12_readTest_31 : decode cX12_readTest 31 = .ok (.iload_n 1, 1) := by decide +kernel
theorem dX12_readTest_32 : decode cX12_readTest 32 = .ok (.iconst 1, 1) := by decide +kernel
theorem dX12_readTest_33 : decode cX12_readTest 33 = .ok (.iadd, 1) := by decide +kernel
theorem dX12_readTest_34 : decode cX12_readTest 34 = .ok (.aload_n 0, 1) := by decide +kernel
theorem dX12_readTest_35 : decode cX12_readTest 35 = .ok (.iconst 0, 1) := by decide +kernel
theorem dX12_readTest_36 : decode cX12_readTest 36 = .ok (.iload_n 2, 1) := by decide +kernel
theorem dX12_readTest_37 : decode cX12_readTest 37 = .ok (.iconst 1, 1) := by decide +kernel
theorem dX12_readTest_38 : decode cX12_readTest 38 = .ok (.if_icmp .ne 7, 3) := by decide +kernel
theorem dX12_readTest_41 : decode cX12_readTest 41 = .ok (.iconst 0, 1) := by decide +kernel
theorem dX12_readTest_42 : decode cX12_readTest 42 = .ok (.goto 4, 3) := by decide +kernel
theorem dX12_readTest_45 : decode cX12_readTest 45 = .ok (.iconst 1, 1) := by decide +kernel
theorem dX12_readTest_46 : decode cX12_readTest 46 = .ok (.invokevirtual 268, 3) := by decide +kernel
theorem dX12_readTest_49 : decode cX12_readTest 49 = .ok (.iastore, 1) := by decide +kernel
theorem dX12_readTest_50 : decode cX12_readTest 50 = .ok (.aload_n 0, 1) := by decide +kernel
theorem dX12_readTest_51 : decode cX12_readTest 51 = .ok (.getfield 212, 3) := by decide +kernel
theorem dX12_readTest_54 : decode cX12_readTest 54 = .ok (.ifCond .gt 8, 3) := by decide +kernel
theorem dX12_readTest_57 : decode cX12_readTest 57 = .ok (.iload_n 2, 1) := by decide +kernel
theorem dX12_readTest_58 : decode cX12_readTest 58 = .ok (.iconst 2, 1) := by decide +kernel
theorem dX12_readTest_59 : decode cX12_readTest 59 = .ok (.if_icmp .ge 4, 3) := by decide +kernel
theorem dX12_readTest_62 : decode cX12_readTest 62 = .ok (.return_, 1) := by decide +kernel
theorem dX12_readTest_63 : decode cX12_readTest 63 = .ok (.aload_n 0, 1) := by decide +kernel
theorem dX12_readTest_64 : decode cX12_readTest 64 = .ok (.getfield 35, 3) := by decide +kernel
theorem dX12_readTest_67 : decode cX12_readTest 67 = .ok (.iload_n 1, 1) := by decide +kernel
theorem dX12_readTest_68 : decode cX12_readTest 68 = .ok (.bipush 7, 2) := by decide +kernel
theorem dX12_readTest_70 : decode cX12_readTest 70 = .ok (.iadd, 1) := by decide +kernel
theorem dX12_readTest_71 : decode cX12_readTest 71 = .ok (.aload_n 0, 1) := by decide +kernel
theorem dX12_readTest_72 : decode cX12_readTest 72 = .ok (.getfield 124, 3) := by decide +kernel
theorem dX12_readTest_75 : decode cX12_readTest 75 = .ok (.iconst 3, 1) := by decide +kernel
theorem dX12_readTest_76 : decode cX12_readTest 76 = .ok (.if_icmp .ne 10, 3) := by decide +kernel
theorem dX12_readTest_79 : decode cX12_readTest 79 = .ok (.aload_n 0, 1) := by decide +kernel
theorem dX12_readTest_80 : decode cX12_readTest 80 = .ok (.getfield 143, 3) := by decide +kernel
theorem dX12_readTest_83 : decode cX12_readTest 83 = .ok (.goto 4, 3) := by decide +kernel
theorem dX12_readTest_86 : decode cX12_readTest 86 = .ok (.iconst 0, 1) := by decide +kernel
theorem dX12_readTest_87 : decode cX12_readTest 87 = .ok (.iastore, 1) := by decide +kernel
theorem dX12_readTest_88 : decode cX12_readTest 88 = .ok (.aload_n 0, 1) := by decide +kernel
theorem dX12_readTest_89 : decode cX12_readTest 89 = .ok (.aload_n 0, 1) := by decide +kernel
theorem dX12_readTest_90 : decode cX12_readTest 90 = .ok (.bipush 60, 2) := by decide +kernel
theorem dX12_readTest_92 : decode cX12_readTest 92 = .ok (.invokevirtual 307, 3) := by decide +kernel
theorem dX12_readTest_95 : decode cX12_readTest 95 = .ok (.ifCond .ne 21, 3) := by decide +kernel
theorem dX12_readTest_98 : decode cX12_readTest 98 = .ok (.aload_n 0, 1) := by decide +kernel
theorem dX12_readTest_99 : decode cX12_readTest 99 = .ok (.bipush 62, 2) := by decide +kernel
theorem dX12_readTest_101 : decode cX12_readTest 101 = .ok (.invokevirtual 307, 3) := by decide +kernel
theorem dX12_readTest_104 : decode cX12_readTest 104 = .ok (.ifCond .ne 12, 3) := by decide +kernel
theorem dX12_readTest_107 : decode cX12_readTest 107 = .ok (.aload_n 0, 1) := by decide +kernel
theorem dX12_readTest_108 : decode cX12_readTest 108 = .ok (.bipush 61, 2) := by decide +kernel
theorem dX12_readTest_110 : decode cX12_readTest 110 = .ok (.invokevirtual 307, 3) := by decide +kernel
theorem dX12_readTest_113 : decode cX12_readTest 113 = .ok (.ifCond .eq 7, 3) := by decide +kernel
theorem dX12_readTest_116 : decode cX12_readTest 116 = .ok (.iconst 1, 1) := by decide +kernel
theorem dX12_readTest_117 : decode cX12_readTest 117 = .ok (.goto 4, 3) := by decide +kernel
theorem dX12_readTest_120 : decode cX12_readTest 120 = .ok (.iconst 0, 1) := by decide +kernel
theorem dX12_readTest_121 : decode cX12_readTest 121 = .ok (.invokevirtual 228, 3) := by decide +kernel
theorem dX12_readTest_124 : decode cX12_readTest 124 = .ok (.aload_n 0, 1) := by decide +kernel
theorem dX12_readTest_125 : decode cX12_readTest 125 = .ok (.getfield 35, 3) := by decide +kernel
theorem dX12_readTest_128 : decode cX12_readTest 128 = .ok (.iload_n 1, 1) := by decide +kernel
theorem dX12_readTest_129 : decode cX12_readTest 129 = .ok (.bipush 6, 2) := by decide +kernel
theorem dX12_readTest_131 : decode cX12_readTest 131 = .ok (.iadd, 1) := by decide +kernel
theorem dX12_readTest_132 : decode cX12_readTest 132 = .ok (.aload_n 0, 1) := by decide +kernel
theorem dX12_readTest_133 : decode cX12_readTest 133 = .ok (.iconst 0, 1) := by decide +kernel
theorem dX12_readTest_134 : decode cX12_readTest 134 = .ok (.bipush 99, 2) := by decide +kernel
theorem dX12_readTest_136 : decode cX12_readTest 136 = .ok (.invokevirtual 232, 3) := by decide +kernel
theorem dX12_readTest_139 : decode cX12_readTest 139 = .ok (.iastore, 1) := by decide +kernel
theorem dX12_readTest_140 : decode cX12_readTest 140 = .ok (.return_, 1) := by decide +kernel
theorem dX12_readRest_0 : decode cX12_readRest 0 = .ok (.aload_n 0, 1) := by decide +kernel
theorem dX12_readRest_1 : decode cX12_readRest 1 = .ok (.getfield 35, 3) := by decide +kernel
theorem dX12_readRest_4 : decode cX12_readRest 4 = .ok (.iload_n 1, 1) := by decide +kernel
theorem dX12_readRest_5 : decode cX12_readRest 5 = .ok (.iaload, 1) := by decide +kernel
theorem dX12_readRest_6 : decode cX12_readRest 6 = .ok (.istore_n 2, 1) := by decide +kernel
theorem dX12_readRest_7 : decode cX12_readRest 7 = .ok (.iload_n 2, 1) := by decide +kernel
theorem dX12_readRest_8 : decode cX12_readRest 8 = .ok (.ifCond .ne 21, 3) := by decide +kernel
theorem dX12_readRest_11 : decode cX12_readRest 11 = .ok (.aload_n 0, 1) := by decide +kernel
theorem dX12_readRest_12 : decode cX12_readRest 12 = .ok (.getfield 35, 3) := by decide +kernel
theorem dX12_readRest_15 : decode cX12_readRest 15 = .ok (.iload_n 1, 1) := by decide +kernel
theorem dX12_readRest_16 : decode cX12_readRest 16 = .ok (.iconst 1, 1) := by decide +kernel
theorem dX12_readRest_17 : decode cX12_readRest 17 = .ok (.iadd, 1) := by decide +kernel
theorem dX12_readRest_18 : decode cX12_readRest 18 = .ok (.aload_n 0, 1) := by decide +kernel
theorem dX12_readRest_19 : decode cX12_readRest 19 = .ok (.iconst 1, 1) := by decide +kernel
theorem dX12_readRest_20 : decode cX12_readRest 20 = .ok (.bipush 40, 2) := by decide +kernel
theorem dX12_readRest_22 : decode cX12_readRest 22 = .ok (.invokevirtual 232, 3) := by decide +kernel
theorem dX12_readRest_25 : decode cX12_readRest 25 = .ok (.iastore, 1) := by decide +kernel
theorem dX12_readRest_26 : decode cX12_readRest 26 = .ok (.goto 133, 3) := by decide +kernel
theorem dX12_readRest_29 : decode cX12_readRest 29 = .ok (.iload_n 2, 1) := by decide +kernel
theorem dX12_readRest_30 : decode cX12_readRest 30 = .ok (.iconst 1, 1) := by decide +kernel
theorem dX12_readRest_31 : decode cX12_readRest 31 = .ok (.if_icmp .ne 21, 3) := by decide +kernel
theorem dX12_readRest_34 : decode cX12_readRest 34 = .ok (.aload_n 0, 1) := by decide +kernel
theorem dX12_readRest_35 : decode cX12_readRest 35 = .ok (.getfield 35, 3) := by decide +kernel
theorem dX12_readRest_38 : decode cX12_readRest 38 = .ok (.iload_n 1, 1) := by decide +kernel
theorem dX12_readRest_39 : decode cX12_readRest 39 = .ok (.iconst 1, 1) := by decide +kernel
theorem dX12_readRest_40 : decode cX12_readRest 40 = .ok (.iadd, 1) := by decide +kernel
theorem dX12_readRest_41 : decode cX12_readRest 41 = .ok (.aload_n 0, 1) := by decide +kernel
theorem dX12_readRest_42 : decode cX12_readRest 42 = .ok (.iconst 0, 1) := by decide +kernel
theorem dX12_readRest_43 : decode cX12_readRest 43 = .ok (.bipush 7, 2) := by decide +kernel
theorem dX12_readRest_45 : decode cX12_readRest 45 = .ok (.invokevirtual 232, 3) := by decide +kernel
theorem dX12_readRest_48 : decode cX12_readRest 48 = .ok (.iastore, 1) := by decide +kernel
theorem dX12_readRest_49 : decode cX12_readRest 49 = .ok (.goto 110, 3) := by decide +kernel
theorem dX12_readRest_52 : decode cX12_readRest 52 = .ok (.iload_n 2, 1) := by decide +kernel
theorem dX12_readRest_53 : decode cX12_readRest 53 = .ok (.bipush 6, 2) := by decide +kernel
theorem dX12_readRest_55 : decode cX12_readRest 55 = .ok (.if_icmp .ne 21, 3) := by decide +kernel
theorem dX12_readRest_58 : decode cX12_readRest 58 = .ok (.aload_n 0, 1) := by decide +kernel
theorem dX12_readRest_59 : decode cX12_readRest 59 = .ok (.getfield 35, 3) := by decide +kernel
theorem dX12_readRest_62 : decode cX12_readRest 62 = .ok (.iload_n 1, 1) := by decide +kernel
theorem dX12_readRest_63 : decode cX12_readRest 63 = .ok (.iconst 1, 1) := by decide +kernel
theorem dX12_readRest_64 : decode cX12_readRest 64 = .ok (.iadd, 1) := by decide +kernel
theorem dX12_readRest_65 : decode cX12_readRest 65 = .ok (.aload_n 0, 1) := by decide +kernel
theorem dX12_readRest_66 : decode cX12_readRest 66 = .ok (.iconst 1, 1) := by decide +kernel
theorem dX12_readRest_67 : decode cX12_readRest 67 = .ok (.bipush 99, 2) := by decide +kernel
theorem dX12_readRest_69 : decode cX12_readRest 69 = .ok (.invokevirtual 232, 3) := by decide +kernel
theorem dX12_readRest_72 : decode cX12_readRest 72 = .ok (.iastore, 1) := by decide +kernel
theorem dX12_readRest_73 : decode cX12_readRest 73 = .ok (.goto 86, 3) := by decide +kernel
theorem dX12_readRest_76 : decode cX12_readRest 76 = .ok (.iload_n 2, 1) := by decide +kernel
theorem dX12_readRest_77 : decode cX12_readRest 77 = .ok (.iconst 5, 1) := by decide +kernel
theorem dX12_readRest_78 : decode cX12_readRest 78 = .ok (.if_icmp .ne 11, 3) := by decide +kernel
theorem dX12_readRest_81 : decode cX12_readRest 81 = .ok (.aload_n 0, 1) := by decide +kernel
theorem dX12_readRest_82 : decode cX12_readRest 82 = .ok (.iload_n 1, 1) := by decide +kernel
theorem dX12_readRest_83 : decode cX12_readRest 83 = .ok (.invokevirtual 316, 3) := by decide +kernel
theorem dX12_readRest_86 : decode cX12_readRest 86 = .ok (.goto 73, 3) := by decide +kernel
theorem dX12_readRest_89 : decode cX12_readRest 89 = .ok (.iload_n 2, 1) := by decide +kernel
theorem dX12_readRest_90 : decode cX12_readRest 90 = .ok (.iconst 2, 1) := by decide +kernel
theorem dX12_readRest_91 : decode cX12_readRest 91 = .ok (.if_icmp .ne 35, 3) := by decide +kernel
theorem dX12_readRest_94 : decode cX12_readRest 94 = .ok (.aload_n 0, 1) := by decide +kernel
theorem dX12_readRest_95 : decode cX12_readRest 95 = .ok (.getfield 35, 3) := by decide +kernel
theorem dX12_readRest_98 : decode cX12_readRest 98 = .ok (.iload_n 1, 1) := by decide +kernel
theorem dX12_readRest_99 : decode cX12_readRest 99 = .ok (.iconst 1, 1) := by decide +kernel
theorem dX12_readRest_100 : decode cX12_readRest 100 = .ok (.iadd, 1) := by decide +kernel
theorem dX12_readRest_101 : decode cX12_readRest 101 = .ok (.aload_n 0, 1) := by decide +kernel
theorem dX12_readRest_102 : decode cX12_readRest 102 = .ok (.iconst 0, 1) := by decide +kernel
theorem dX12_readRest_103 : decode cX12_readRest 103 = .ok (.iconst 0, 1) := by decide +kernel
theorem dX12_readRest_104 : decode cX12_readRest 104 = .ok (.invokevirtual 268, 3) := by decide +kernel
theorem dX12_readRest_107 : decode cX12_readRest 107 = .ok (.iastore, 1) := by decide +kernel
theorem dX12_readRest_108 : decode cX12_readRest 108 = .ok (.aload_n 0, 1) := by decide +kernel
theorem dX12_readRest_109 : decode cX12_readRest 109 = .ok (.getfield 35, 3) := by decide +kernel
theorem dX12_readRest_112 : decode cX12_readRest 112 = .ok (.iload_n 1, 1) := by decide +kernel
theorem dX12_readRest_113 : decode cX12_readRest 113 = .ok (.iconst 2, 1) := by decide +kernel
theorem dX12_readRest_114 : decode cX12_readRest 114 = .ok (.iadd, 1) := by decide +kernel
theorem dX12_readRest_115 : decode cX12_readRest 115 = .ok (.aload_n 0, 1) := by decide +kernel
theorem dX12_readRest_116 : decode cX12_readRest 116 = .ok (.iconst 1, 1) := by decide +kernel
theorem dX12_readRest_117 : decode cX12_readRest 117 = .ok (.bipush 100, 2) := by decide +kernel
theorem dX12_readRest_119 : decode cX12_readRest 119 = .ok (.invokevirtual 232, 3) := by decide +kernel
theorem dX12_readRest_122 : decode cX12_readRest 122 = .ok (.iastore, 1) := by decide +kernel
theorem dX12_readRest_123 : decode cX12_readRest 123 = .ok (.goto 36, 3) := by decide +kernel
theorem dX12_readRest_126 : decode cX12_readRest 126 = .ok (.iload_n 2, 1) := by decide +kernel
theorem dX12_readRest_127 : decode cX12_readRest 127 = .ok (.iconst 3, 1) := by decide +kernel
theorem dX12_readRest_128 : decode cX12_readRest 128 = .ok (.if_icmp .ne 31, 3) := by decide +kernel
theorem dX12_readRest_131 : decode cX12_readRest 131 = .ok (.aload_n 0, 1) := by decide +kernel
theorem dX12_readRest_132 : decode cX12_readRest 132 = .ok (.getfield 35, 3) := by decide +kernel
theorem dX12_readRest_135 : decode cX12_readRest 135 = .ok (.iload_n 1, 1) := by decide +kernel
theorem dX12_readRest_136 : decode cX12_readRest 136 = .ok (.iconst 1, 1) := by decide +kernel
theorem dX12_readRest_137 : decode cX12_readRest 137 = .ok (.iadd, 1) := by decide +kernel
theorem dX12_readRest_138 : decode cX12_readRest 138 = .ok (.aload_n 0, 1) := by decide +kernel
theorem dX12_readRest_139 : decode cX12_readRest 139 = .ok (.iconst 0, 1) := by decide +kernel
theorem dX12_readRest_140 : decode cX12_readRest 140 = .ok (.iconst 1, 1) := by decide +kernel
theorem dX12_readRest_141 : decode cX12_readRest 141 = .ok (.invokevirtual 268, 3) := by decide +kernel
theorem dX12_readRest_144 : decode cX12_readRest 144 = .ok (.iastore, 1) := by decide +kernel
theorem dX12_readRest_145 : decode cX12_readRest 145 = .ok (.aload_n 0, 1) := by decide +kernel
theorem dX12_readRest_146 : decode cX12_readRest 146 = .ok (.getfield 35, 3) := by decide +kernel
theorem dX12_readRest_149 : decode cX12_readRest 149 = .ok (.iload_n 1, 1) := by decide +kernel
theorem dX12_readRest_150 : decode cX12_readRest 150 = .ok (.iconst 2, 1) := by decide +kernel
theorem dX12_readRest_151 : decode cX12_readRest 151 = .ok (.iadd, 1) := by decide +kernel
theorem dX12_readRest_152 : decode cX12_readRest 152 = .ok (.aload_n 0, 1) := by decide +kernel
theorem dX12_readRest_153 : decode cX12_readRest 153 = .ok (.iconst 0, 1) := by decide +kernel
theorem dX12_readRest_154 : decode cX12_readRest 154 = .ok (.iconst 0, 1) := by decide +kernel
theorem dX12_readRest_155 : decode cX12_readRest 155 = .ok (.invokevirtual 268, 3) := by decide +kernel
theorem dX12_readRest_158 : decode cX12_readRest 158 = .ok (.iastore, 1) := by decide +kernel
theorem dX12_readRest_159 : decode cX12_readRest 159 = .ok (.return_, 1) := by decide +kernel
theorem dX12_readStep_0 : decode cX12_readStep 0 = .ok (.aload_n 0, 1) := by decide +kernel
theorem dX12_readStep_1 : decode cX12_readStep 1 = .ok (.invokevirtual 199, 3) := by decide +kernel
theorem dX12_readStep_4 : decode cX12_readStep 4 = .ok (.istore_n 2, 1) := by decide +kernel
theorem dX12_readStep_5 : decode cX12_readStep 5 = .ok (.iload_n 2, 1) := by decide +kernel
theorem dX12_readStep_6 : decode cX12_readStep 6 = .ok (.iconst 5, 1) := by decide +kernel
theorem dX12_readStep_7 : decode cX12_readStep 7 = .ok (.if_icmp .eq 9, 3) := by decide +kernel
theorem dX12_readStep_10 : decode cX12_readStep 10 = .ok (.iload_n 2, 1) := by decide +kernel
theorem dX12_readStep_11 : decode cX12_readStep 11 = .ok (.bipush 6, 2) := by decide +kernel
theorem dX12_readStep_13 : decode cX12_readStep 13 = .ok (.if_icmp .ne 7, 3) := by decide +kernel
theorem dX12_readStep_16 : decode cX12_readStep 16 = .ok (.iconst 1, 1) := by decide +kernel
theorem dX12_readStep_17 : decode cX12_readStep 17 = .ok (.goto 4, 3) := by decide +kernel
theorem dX12_readStep_20 : decode cX12_readStep 20 = .ok (.iconst 0, 1) := by decide +kernel
theorem dX12_readStep_21 : decode cX12_readStep 21 = .ok (.istore_n 3, 1) := by decide +kernel
theorem dX12_readStep_22 : decode cX12_readStep 22 = .ok (.iload_n 2, 1) := by decide +kernel
theorem dX12_readStep_23 : decode cX12_readStep 23 = .ok (.ifCond .ge 7, 3) := by decide +kernel
theorem dX12_readStep_26 : decode cX12_readStep 26 = .ok (.aload_n 0, 1) := by decide +kernel
theorem dX12_readStep_27 : decode cX12_readStep 27 = .ok (.invokevirtual 225, 3) := by decide +kernel
theorem dX12_readStep_30 : decode cX12_readStep 30 = .ok (.aload_n 0, 1) := by decide +kernel
theorem dX12_readStep_31 : decode cX12_readStep 31 = .ok (.getfield 212, 3) := by decide +kernel
theorem dX12_readStep_34 : decode cX12_readStep 34 = .ok (.ifCond .ne 22, 3) := by decide +kernel
theorem dX12_readStep_37 : decode cX12_readStep 37 = .ok (.aload_n 0, 1) := by decide +kernel
theorem dX12_readStep_38 : decode cX12_readStep 38 = .ok (.getfield 319, 3) := by decide +kernel
theorem dX12_readStep_41 : decode cX12_readStep 41 = .ok (.bipush 30, 2) := by decide +kernel
theorem dX12_readStep_43 : decode cX12_readStep 43 = .ok (.if_icmp .ne 13, 3) := by decide +kernel
theorem dX12_readStep_46 : decode cX12_readStep 46 = .ok (.aload_n 0, 1) := by decide +kernel
theorem dX12_readStep_47 : decode cX12_readStep 47 = .ok (.bipush 6, 2) := by decide +kernel
theorem dX12_readStep_49 : decode cX12_readStep 49 = .ok (.aload_n 0, 1) := by decide +kernel
theorem dX12_readStep_50 : decode cX12_readStep 50 = .ok (.getfield 118, 3) := by decide +kernel
theorem dX12_readStep_53 : decode cX12_readStep 53 = .ok (.invokevirtual 218, 3) := by decide +kernel
theorem dX12_readStep_56 : decode cX12_readStep 56 = .ok (.aload_n 0, 1) := by decide +kernel
theorem dX12_readStep_57 : decode cX12_readStep 57 = .ok (.getfield 212, 3) := by decide +kernel
theorem dX12_readStep_60 : decode cX12_readStep 60 = .ok (.ifCond .ne 22, 3) := by decide +kernel
theorem dX12_readStep_63 : decode cX12_readStep 63 = .ok (.iload_n 3, 1) := by decide +kernel
theorem dX12_readStep_64 : decode cX12_readStep 64 = .ok (.ifCond .eq 18, 3) := by decide +kernel
theorem dX12_readStep_67 : decode cX12_readStep 67 = .ok (.iload_n 1, 1) := by decide +kernel
theorem dX12_readStep_68 : decode cX12_readStep 68 = .ok (.iconst 3, 1) := by decide +kernel
theorem dX12_readStep_69 : decode cX12_readStep 69 = .ok (.if_icmp .ne 13, 3) := by decide +kernel
theorem dX12_readStep_72 : decode cX12_readStep 72 = .ok (.aload_n 0, 1) := by decide +kernel
theorem dX12_readStep_73 : decode cX12_readStep 73 = .ok (.bipush 7, 2) := by decide +kernel
theorem dX12_readStep_75 : decode cX12_readStep 75 = .ok (.aload_n 0, 1) := by decide +kernel
theorem dX12_readStep_76 : decode cX12_readStep 76 = .ok (.getfield 118, 3) := by decide +kernel
theorem dX12_readStep_79 : decode cX12_readStep 79 = .ok (.invokevirtual 218, 3) := by decide +kernel
theorem dX12_readStep_82 : decode cX12_readStep 82 = .ok (.aload_n 0, 1) := by decide +kernel
theorem dX12_readStep_83 : decode cX12_readStep 83 = .ok (.getfield 212, 3) := by decide +kernel
theorem dX12_readStep_86 : decode cX12_readStep 86 = .ok (.ifCond .le 4, 3) := by decide +kernel
theorem dX12_readStep_89 : decode cX12_readStep 89 = .ok (.return_, 1) := by decide +kernel
theorem dX12_readStep_90 : decode cX12_readStep 90 = .ok (.sipush 1540, 3) := by decide +kernel
theorem dX12_readStep_93 : decode cX12_readStep 93 = .ok (.bipush 9, 2) := by decide +kernel
theorem dX12_readStep_95 : decode cX12_readStep 95 = .ok (.aload_n 0, 1) := by decide +kernel
theorem dX12_readStep_96 : decode cX12_readStep 96 = .ok (.getfield 319, 3) := by decide +kernel
theorem dX12_readStep_99 : decode cX12_readStep 99 = .ok (.imul, 1) := by decide +kernel
theorem dX12_readStep_100 : decode cX12_readStep 100 = .ok (.iadd, 1) := by decide +kernel
theorem dX12_readStep_101 : decode cX12_readStep 101 = .ok (.istore 4, 2) := by decide +kernel
theorem dX12_readStep_103 : decode cX12_readStep 103 = .ok (.aload_n 0, 1) := by decide +kernel
theorem dX12_readStep_104 : decode cX12_readStep 104 = .ok (.dup, 1) := by decide +kernel
theorem dX12_readStep_105 : decode cX12_readStep 105 = .ok (.getfield 319, 3) := by decide +kernel
theorem dX12_readStep_108 : decode cX12_readStep 108 = .ok (.iconst 1, 1) := by decide +kernel
theorem dX12_readStep_109 : decode cX12_readStep 109 = .ok (.iadd, 1) := by decide +kernel
theorem dX12_readStep_110 : decode cX12_readStep 110 = .ok (.putfield 319, 3) := by decide +kernel
theorem dX12_readStep_113 : decode cX12_readStep 113 = .ok (.aload_n 0, 1) := by decide +kernel
theorem dX12_readStep_114 : decode cX12_readStep 114 = .ok (.invokevirtual 222, 3) := by decide +kernel
theorem dX12_readStep_117 : decode cX12_readStep 117 = .ok (.aload_n 0, 1) := by decide +kernel
theorem dX12_readStep_118 : decode cX12_readStep 118 = .ok (.getfield 35, 3) := by decide +kernel
theorem dX12_readStep_121 : decode cX12_readStep 121 = .ok (.iload 4, 2) := by decide +kernel
theorem dX12_readStep_123 : decode cX12_readStep 123 = .ok (.iload_n 2, 1) := by decide +kernel
theorem dX12_readStep_124 : decode cX12_readStep 124 = .ok (.iastore, 1) := by decide +kernel
theorem dX12_readStep_125 : decode cX12_readStep 125 = .ok (.aload_n 0, 1) := by decide +kernel
theorem dX12_readStep_126 : decode cX12_readStep 126 = .ok (.iload 4, 2) := by decide +kernel
theorem dX12_readStep_128 : decode cX12_readStep 128 = .ok (.invokevirtual 322, 3) := by decide +kernel
theorem dX12_readStep_131 : decode cX12_readStep 131 = .ok (.aload_n 0, 1) := by decide +kernel
theorem dX12_readStep_132 : decode cX12_readStep 132 = .ok (.aload_n 0, 1) := by decide +kernel
theorem dX12_readStep_133 : decode cX12_readStep 133 = .ok (.bipush 59, 2) := by decide +kernel
theorem dX12_readStep_135 : decode cX12_readStep 135 = .ok (.invokevirtual 307, 3) := by decide +kernel
theorem dX12_readStep_138 : decode cX12_readStep 138 = .ok (.invokevirtual 228, 3) := by decide +kernel
theorem dX12_readStep_141 : decode cX12_readStep 141 = .ok (.iload_n 3, 1) := by decide +kernel
theorem dX12_readStep_142 : decode cX12_readStep 142 = .ok (.ifCond .eq 27, 3) := by decide +kernel
theorem dX12_readStep_145 : decode cX12_readStep 145 = .ok (.aload_n 0, 1) := by decide +kernel
theorem dX12_readStep_146 : decode cX12_readStep 146 = .ok (.getfield 212, 3) := by decide +kernel
theorem dX12_readStep_149 : decode cX12_readStep 149 = .ok (.ifCond .ne 20, 3) := by decide +kernel
theorem dX12_readStep_152 : decode cX12_readStep 152 = .ok (.aload_n 0, 1) := by decide +kernel
theorem dX12_readStep_153 : decode cX12_readStep 153 = .ok (.invokevirtual 206, 3) := by decide +kernel
theorem dX12_readStep_156 : decode cX12_readStep 156 = .ok (.ifCond .ne 13, 3) := by decide +kernel
theorem dX12_readStep_159 : decode cX12_readStep 159 = .ok (.aload_n 0, 1) := by decide +kernel
theorem dX12_readStep_160 : decode cX12_readStep 160 = .ok (.iload_n 1, 1) := by decide +kernel
theorem dX12_readStep_161 : decode cX12_readStep 161 = .ok (.iconst 1, 1) := by decide +kernel
theorem dX12_readStep_162 : decode cX12_readStep 162 = .ok (.iadd, 1) := by decide +kernel
theorem dX12_readStep_163 : decode cX12_readStep 163 = .ok (.invokevirtual 325, 3) := by decide +kernel
theorem dX12_readStep_166 : decode cX12_readStep 166 = .ok (.goto (-25), 3) := by decide +kernel
theorem dX12_readStep_169 : decode cX12_readStep 169 = .ok (.iload_n 3, 1) := by decide +kernel
theorem dX12_readStep_170 : decode cX12_readStep 170 = .ok (.ifCond .eq 21, 3) := by decide +kernel
theorem dX12_readStep_173 : decode cX12_readStep 173 = .ok (.aload_n 0, 1) := by decide +kernel
theorem dX12_readStep_174 : decode cX12_readStep 174 = .ok (.aload_n 0, 1) := by decide +kernel
theorem dX12_readStep_175 : decode cX12_readStep 175 = .ok (.invokevirtual 206, 3) := by decide +kernel
theorem dX12_readStep_178 : decode cX12_readStep 178 = .ok (.invokevirtual 228, 3) := by decide +kernel
theorem dX12_readStep_181 : decode cX12_readStep 181 = .ok (.aload_n 0, 1) := by decide +kernel
theorem dX12_readStep_182 : decode cX12_readStep 182 = .ok (.aload_n 0, 1) := by decide +kernel
theorem dX12_readStep_183 : decode cX12_readStep 183 = .ok (.bipush 59, 2) := by decide +kernel
theorem dX12_readStep_185 : decode cX12_readStep 185 = .ok (.invokevirtual 307, 3) := by decide +kernel
theorem dX12_readStep_188 : decode cX12_readStep 188 = .ok (.invokevirtual 228, 3) := by decide +kernel
theorem dX12_readStep_191 : decode cX12_readStep 191 = .ok (.aload_n 0, 1) := by decide +kernel
theorem dX12_readStep_192 : decode cX12_readStep 192 = .ok (.getfield 35, 3) := by decide +kernel
theorem dX12_readStep_195 : decode cX12_readStep 195 = .ok (.iload 4, 2) := by decide +kernel
theorem dX12_readStep_197 : decode cX12_readStep 197 = .ok (.bipush 8, 2) := by decide +kernel
theorem dX12_readStep_199 : decode cX12_readStep 199 = .ok (.iadd, 1) := by decide +kernel
theorem dX12_readStep_200 : decode cX12_readStep 200 = .ok (.aload_n 0, 1) := by decide +kernel
theorem dX12_readStep_201 : decode cX12_readStep 201 = .ok (.getfield 319, 3) := by decide +kernel
theorem dX12_readStep_204 : decode cX12_readStep 204 = .ok (.iastore, 1) := by decide +kernel
theorem dX12_readStep_205 : decode cX12_readStep 205 = .ok (.return_, 1) := by decide +kernel
theorem dX12_years_0 : decode cX12_years 0 = .ok (.aload_n 0, 1) := by decide +kernel
theorem dX12_years_1 : decode cX12_years 1 = .ok (.iconst 0, 1) := by decide +kernel
theorem dX12_years_2 : decode cX12_years 2 = .ok (.putfield 69, 3) := by decide +kernel
theorem dX12_years_5 : decode cX12_years 5 = .ok (.aload_n 0, 1) := by decide +kernel
theorem dX12_years_6 : decode cX12_years 6 = .ok (.iconst 0, 1) := by decide +kernel
theorem dX12_years_7 : decode cX12_years 7 = .ok (.putfield 72, 3) := by decide +kernel
theorem dX12_years_10 : decode cX12_years 10 = .ok (.aload_n 0, 1) := by decide +kernel
theorem dX12_years_11 : decode cX12_years 11 = .ok (.iload_n 1, 1) := by decide +kernel
theorem dX12_years_12 : decode cX12_years 12 = .ok (.sipush 300, 3) := by decide +kernel
theorem dX12_years_15 : decode cX12_years 15 = .ok (.invokevirtual 301, 3) := by decide +kernel
theorem dX12_years_18 : decode cX12_years 18 = .ok (.ifCond .ne 5, 3) := by decide +kernel
theorem dX12_years_21 : decode cX12_years 21 = .ok (.iconst (-1), 1) := by decide +kernel
theorem dX12_years_22 : decode cX12_years 22 = .ok (.ireturn, 1) := by decide +kernel
theorem dX12_years_23 : decode cX12_years 23 = .ok (.aload_n 0, 1) := by decide +kernel
theorem dX12_years_24 : decode cX12_years 24 = .ok (.iconst 0, 1) := by decide +kernel
theorem dX12_years_25 : decode cX12_years 25 = .ok (.putfield 319, 3) := by decide +kernel
theorem dX12_years_28 : decode cX12_years 28 = .ok (.aload_n 0, 1) := by decide +kernel
theorem dX12_years_29 : decode cX12_years 29 = .ok (.getfield 212, 3) := by decide +kernel
theorem dX12_years_32 : decode cX12_years 32 = .ok (.ifCond .ne 18, 3) := by decide +kernel
theorem dX12_years_35 : decode cX12_years 35 = .ok (.aload_n 0, 1) := by decide +kernel
theorem dX12_years_36 : decode cX12_years 36 = .ok (.getfield 124, 3) := by decide +kernel
theorem dX12_years_39 : decode cX12_years 39 = .ok (.ifCond .eq 11, 3) := by decide +kernel
theorem dX12_years_42 : decode cX12_years 42 = .ok (.aload_n 0, 1) := by decide +kernel
theorem dX12_years_43 : decode cX12_years 43 = .ok (.iconst 0, 1) := by decide +kernel
theorem dX12_years_44 : decode cX12_years 44 = .ok (.invokevirtual 325, 3) := by decide +kernel
theorem dX12_years_47 : decode cX12_years 47 = .ok (.goto (-19), 3) := by decide +kernel
theorem dX12_years_50 : decode cX12_years 50 = .ok (.aload_n 0, 1) := by decide +kernel
theorem dX12_years_51 : decode cX12_years 51 = .ok (.invokevirtual 310, 3) := by decide +kernel
theorem dX12_years_54 : decode cX12_years 54 = .ok (.ifCond .ne 5, 3) := by decide +kernel
theorem dX12_years_57 : decode cX12_years 57 = .ok (.iconst (-1), 1) := by decide +kernel
theorem dX12_years_58 : decode cX12_years 58 = .ok (.ireturn, 1) := by decide +kernel
theorem dX12_years_59 : decode cX12_years 59 = .ok (.aload_n 0, 1) := by decide +kernel
theorem dX12_years_60 : decode cX12_years 60 = .ok (.getfield 35, 3) := by decide +kernel
theorem dX12_years_63 : decode cX12_years 63 = .ok (.bipush 90, 2) := by decide +kernel
theorem dX12_years_65 : decode cX12_years 65 = .ok (.iconst 1, 1) := by decide +kernel
theorem dX12_years_66 : decode cX12_years 66 = .ok (.iastore, 1) := by decide +kernel
theorem dX12_years_67 : decode cX12_years 67 = .ok (.aload_n 0, 1) := by decide +kernel
theorem dX12_years_68 : decode cX12_years 68 = .ok (.getfield 35, 3) := by decide +kernel
theorem dX12_years_71 : decode cX12_years 71 = .ok (.bipush 91, 2) := by decide +kernel
theorem dX12_years_73 : decode cX12_years 73 = .ok (.aload_n 0, 1) := by decide +kernel
theorem dX12_years_74 : decode cX12_years 74 = .ok (.getfield 319, 3) := by decide +kernel
theorem dX12_years_77 : decode cX12_years 77 = .ok (.iastore, 1) := by decide +kernel
theorem dX12_years_78 : decode cX12_years 78 = .ok (.iconst 0, 1) := by decide +kernel
theorem dX12_years_79 : decode cX12_years 79 = .ok (.istore_n 2, 1) := by decide +kernel
theorem dX12_years_80 : decode cX12_years 80 = .ok (.iload_n 2, 1) := by decide +kernel
theorem dX12_years_81 : decode cX12_years 81 = .ok (.bipush 9, 2) := by decide +kernel
theorem dX12_years_83 : decode cX12_years 83 = .ok (.aload_n 0, 1) := by decide +kernel
theorem dX12_years_84 : decode cX12_years 84 = .ok (.getfield 319, 3) := by decide +kernel
theorem dX12_years_87 : decode cX12_years 87 = .ok (.imul, 1) := by decide +kernel
theorem dX12_years_88 : decode cX12_years 88 = .ok (.if_icmp .ge 28, 3) := by decide +kernel
theorem dX12_years_91 : decode cX12_years 91 = .ok (.aload_n 0, 1) := by decide +kernel
theorem dX12_years_92 : decode cX12_years 92 = .ok (.getfield 35, 3) := by decide +kernel
theorem dX12_years_95 : decode cX12_years 95 = .ok (.bipush 92, 2) := by decide +kernel
theorem dX12_years_97 : decode cX12_years 97 = .ok (.iload_n 2, 1) := by decide +kernel
theorem dX12_years_98 : decode cX12_years 98 = .ok (.iadd, 1) := by decide +kernel
theorem dX12_years_99 : decode cX12_years 99 = .ok (.aload_n 0, 1) := by decide +kernel
theorem dX12_years_100 : decode cX12_years 100 = .ok (.getfield 35, 3) := by decide +kernel
theorem dX12_years_103 : decode cX12_years 103 = .ok (.sipush 1540, 3) := by decide +kernel
theorem dX12_years_106 : decode cX12_years 106 = .ok (.iload_n 2, 1) := by decide +kernel
theorem dX12_years_107 : decode cX12_years 107 = .ok (.iadd, 1) := by decide +kernel
theorem dX12_years_108 : decode cX12_years 108 = .ok (.iaload, 1) := by decide +kernel
theorem dX12_years_109 : decode cX12_years 109 = .ok (.iastore, 1) := by decide +kernel
theorem dX12_years_110 : decode cX12_years 110 = .ok (.iinc 2 1, 3) := by decide +kernel
theorem dX12_years_113 : decode cX12_years 113 = .ok (.goto (-33), 3) := by decide +kernel
theorem dX12_years_116 : decode cX12_years 116 = .ok (.aload_n 0, 1) := by decide +kernel
theorem dX12_years_117 : decode cX12_years 117 = .ok (.getfield 319, 3) := by decide +kernel
theorem dX12_years_120 : decode cX12_years 120 = .ok (.ireturn, 1) := by decide +kernel
theorem dX12_isMatterAt_0 : decode cX12_isMatterAt 0 = .ok (.iload_n 1, 1) := by decide +kernel
theorem dX12_isMatterAt_1 : decode cX12_isMatterAt 1 = .ok (.i2l, 1) := by decide +kernel
theorem dX12_isMatterAt_2 : decode cX12_isMatterAt 2 = .ok (.lconst 0, 1) := by decide +kernel
theorem dX12_isMatterAt_3 : decode cX12_isMatterAt 3 = .ok (.aload_n 0, 1) := by decide +kernel
theorem dX12_isMatterAt_4 : decode cX12_isMatterAt 4 = .ok (.getfield 35, 3) := by decide +kernel
theorem dX12_isMatterAt_7 : decode cX12_isMatterAt 7 = .ok (.iconst 0, 1) := by decide +kernel
theorem dX12_isMatterAt_8 : decode cX12_isMatterAt 8 = .ok (.iaload, 1) := by decide +kernel
theorem dX12_isMatterAt_9 : decode cX12_isMatterAt 9 = .ok (.iconst 1, 1) := by decide +kernel
theorem dX12_isMatterAt_10 : decode cX12_isMatterAt 10 = .ok (.isub, 1) := by decide +kernel
theorem dX12_isMatterAt_11 : decode cX12_isMatterAt 11 = .ok (.i2l, 1) := by decide +kernel
theorem dX12_isMatterAt_12 : decode cX12_isMatterAt 12 = .ok (.invokestatic 104, 3) := by decide +kernel
theorem dX12_isMatterAt_15 : decode cX12_isMatterAt 15 = .ok (.ireturn, 1) := by decide +kernel
theorem dX12_isSitterAt_0 : decode cX12_isSitterAt 0 = .ok (.iload_n 1, 1) := by decide +kernel
theorem dX12_isSitterAt_1 : decode cX12_isSitterAt 1 = .ok (.i2l, 1) := by decide +kernel
theorem dX12_isSitterAt_2 : decode cX12_isSitterAt 2 = .ok (.lconst 0, 1) := by decide +kernel
theorem dX12_isSitterAt_3 : decode cX12_isSitterAt 3 = .ok (.aload_n 0, 1) := by decide +kernel
theorem dX12_isSitterAt_4 : decode cX12_isSitterAt 4 = .ok (.getfield 35, 3) := by decide +kernel
theorem dX12_isSitterAt_7 : decode cX12_isSitterAt 7 = .ok (.iconst 2, 1) := by decide +kernel
theorem dX12_isSitterAt_8 : decode cX12_isSitterAt 8 = .ok (.iaload, 1) := by decide +kernel
theorem dX12_isSitterAt_9 : decode cX12_isSitterAt 9 = .ok (.iconst 1, 1) := by decide +kernel
theorem dX12_isSitterAt_10 : decode cX12_isSitterAt 10 = .ok (.isub, 1) := by decide +kernel
theorem dX12_isSitterAt_11 : decode cX12_isSitterAt 11 = .ok (.i2l, 1) := by decide +kernel
theorem dX12_isSitterAt_12 : decode cX12_isSitterAt 12 = .ok (.invokestatic 104, 3) := by decide +kernel
theorem dX12_isSitterAt_15 : decode cX12_isSitterAt 15 = .ok (.ireturn, 1) := by decide +kernel
theorem dX12_isNewsAt_0 : decode cX12_isNewsAt 0 = .ok (.iload_n 1, 1) := by decide +kernel
theorem dX12_isNewsAt_1 : decode cX12_isNewsAt 1 = .ok (.i2l, 1) := by decide +kernel
theorem dX12_isNewsAt_2 : decode cX12_isNewsAt 2 = .ok (.lconst 0, 1) := by decide +kernel
theorem dX12_isNewsAt_3 : decode cX12_isNewsAt 3 = .ok (.aload_n 0, 1) := by decide +kernel
theorem dX12_isNewsAt_4 : decode cX12_isNewsAt 4 = .ok (.getfield 35, 3) := by decide +kernel
theorem dX12_isNewsAt_7 : decode cX12_isNewsAt 7 = .ok (.iconst 3, 1) := by decide +kernel
theorem dX12_isNewsAt_8 : decode cX12_isNewsAt 8 = .ok (.iaload, 1) := by decide +kernel
theorem dX12_isNewsAt_9 : decode cX12_isNewsAt 9 = .ok (.iconst 1, 1) := by decide +kernel
theorem dX12_isNewsAt_10 : decode cX12_isNewsAt 10 = .ok (.isub, 1) := by decide +kernel
theorem dX12_isNewsAt_11 : decode cX12_isNewsAt 11 = .ok (.i2l, 1) := by decide +kernel
theorem dX12_isNewsAt_12 : decode cX12_isNewsAt 12 = .ok (.invokestatic 104, 3) := by decide +kernel
theorem dX12_isNewsAt_15 : decode cX12_isNewsAt 15 = .ok (.ireturn, 1) := by decide +kernel
theorem dX12_isSettled_0 : decode cX12_isSettled 0 = .ok (.aload_n 0, 1) := by decide +kernel
theorem dX12_isSettled_1 : decode cX12_isSettled 1 = .ok (.getfield 35, 3) := by decide +kernel
theorem dX12_isSettled_4 : decode cX12_isSettled 4 = .ok (.bipush 6, 2) := by decide +kernel
theorem dX12_isSettled_6 : decode cX12_isSettled 6 = .ok (.iload_n 1, 1) := by decide +kernel
theorem dX12_isSettled_7 : decode cX12_isSettled 7 = .ok (.iadd, 1) := by decide +kernel
theorem dX12_isSettled_8 : decode cX12_isSettled 8 = .ok (.iaload, 1) := by decide +kernel
theorem dX12_isSettled_9 : decode cX12_isSettled 9 = .ok (.bipush 100, 2) := by decide +kernel
theorem dX12_isSettled_11 : decode cX12_isSettled 11 = .ok (.if_icmp .ne 7, 3) := by decide +kernel
theorem dX12_isSettled_14 : decode cX12_isSettled 14 = .ok (.iconst 1, 1) := by decide +kernel
theorem dX12_isSettled_15 : decode cX12_isSettled 15 = .ok (.goto 4, 3) := by decide +kernel
theorem dX12_isSettled_18 : decode cX12_isSettled 18 = .ok (.iconst 0, 1) := by decide +kernel
theorem dX12_isSettled_19 : decode cX12_isSettled 19 = .ok (.ireturn, 1) := by decide +kernel
theorem dX12_heldBy_0 : decode cX12_heldBy 0 = .ok (.iconst 0, 1) := by decide +kernel
theorem dX12_heldBy_1 : decode cX12_heldBy 1 = .ok (.istore_n 2, 1) := by decide +kernel
theorem dX12_heldBy_2 : decode cX12_heldBy 2 = .ok (.iconst 0, 1) := by decide +kernel
theorem dX12_heldBy_3 : decode cX12_heldBy 3 = .ok (.istore_n 3, 1) := by decide +kernel
theorem dX12_heldBy_4 : decode cX12_heldBy 4 = .ok (.iload_n 3, 1) := by decide +kernel
theorem dX12_heldBy_5 : decode cX12_heldBy 5 = .ok (.aload_n 0, 1) := by decide +kernel
theorem dX12_heldBy_6 : decode cX12_heldBy 6 = .ok (.getfield 35, 3) := by decide +kernel
theorem dX12_heldBy_9 : decode cX12_heldBy 9 = .ok (.iconst 1, 1) := by decide +kernel
theorem dX12_heldBy_10 : decode cX12_heldBy 10 = .ok (.iaload, 1) := by decide +kernel
theorem dX12_heldBy_11 : decode cX12_heldBy 11 = .ok (.if_icmp .ge 40, 3) := by decide +kernel
theorem dX12_heldBy_14 : decode cX12_heldBy 14 = .ok (.iload_n 2, 1) := by decide +kernel
theorem dX12_heldBy_15 : decode cX12_heldBy 15 = .ok (.aload_n 0, 1) := by decide +kernel
theorem dX12_heldBy_16 : decode cX12_heldBy 16 = .ok (.getfield 35, 3) := by decide +kernel
theorem dX12_heldBy_19 : decode cX12_heldBy 19 = .ok (.bipush 18, 2) := by decide +kernel
theorem dX12_heldBy_21 : decode cX12_heldBy 21 = .ok (.iload_n 3, 1) := by decide +kernel
theorem dX12_heldBy_22 : decode cX12_heldBy 22 = .ok (.iadd, 1) := by decide +kernel
theorem dX12_heldBy_23 : decode cX12_heldBy 23 = .ok (.iaload, 1) := by decide +kernel
theorem dX12_heldBy_24 : decode cX12_heldBy 24 = .ok (.iload_n 1, 1) := by decide +kernel
theorem dX12_heldBy_25 : decode cX12_heldBy 25 = .ok (.if_icmp .ne 17, 3) := by decide +kernel
theorem dX12_heldBy_28 : decode cX12_heldBy 28 = .ok (.iconst 1, 1) := by decide +kernel
theorem dX12_heldBy_29 : decode cX12_heldBy 29 = .ok (.aload_n 0, 1) := by decide +kernel
theorem dX12_heldBy_30 : decode cX12_heldBy 30 = .ok (.getfield 35, 3) := by decide +kernel
theorem dX12_heldBy_33 : decode cX12_heldBy 33 = .ok (.bipush 28, 2) := by decide +kernel
theorem dX12_heldBy_35 : decode cX12_heldBy 35 = .ok (.iload_n 3, 1) := by decide +kernel
theorem dX12_heldBy_36 : decode cX12_heldBy 36 = .ok (.iadd, 1) := by decide +kernel
theorem dX12_heldBy_37 : decode cX12_heldBy 37 = .ok (.iaload, 1) := by decide +kernel
theorem dX12_heldBy_38 : decode cX12_heldBy 38 = .ok (.ishl, 1) := by decide +kernel
theorem dX12_heldBy_39 : decode cX12_heldBy 39 = .ok (.goto 4, 3) := by decide +kernel
theorem dX12_heldBy_42 : decode cX12_heldBy 42 = .ok (.iconst 0, 1) := by decide +kernel
theorem dX12_heldBy_43 : decode cX12_heldBy 43 = .ok (.ior, 1) := by decide +kernel
theorem dX12_heldBy_44 : decode cX12_heldBy 44 = .ok (.istore_n 2, 1) := by decide +kernel
theorem dX12_heldBy_45 : decode cX12_heldBy 45 = .ok (.iinc 3 1, 3) := by decide +kernel
theorem dX12_heldBy_48 : decode cX12_heldBy 48 = .ok (.goto (-44), 3) := by decide +kernel
theorem dX12_heldBy_51 : decode cX12_heldBy 51 = .ok (.iload_n 2, 1) := by decide +kernel
theorem dX12_heldBy_52 : decode cX12_heldBy 52 = .ok (.ireturn, 1) := by decide +kernel
theorem dX12_settledOnes_0 : decode cX12_settledOnes 0 = .ok (.iconst 0, 1) := by decide +kernel
theorem dX12_settledOnes_1 : decode cX12_settledOnes 1 = .ok (.istore_n 1, 1) := by decide +kernel
theorem dX12_settledOnes_2 : decode cX12_settledOnes 2 = .ok (.iconst 0, 1) := by decide +kernel
theorem dX12_settledOnes_3 : decode cX12_settledOnes 3 = .ok (.istore_n 2, 1) := by decide +kernel
theorem dX12_settledOnes_4 : decode cX12_settledOnes 4 = .ok (.iload_n 2, 1) := by decide +kernel
theorem dX12_settledOnes_5 : decode cX12_settledOnes 5 = .ok (.aload_n 0, 1) := by decide +kernel
theorem dX12_settledOnes_6 : decode cX12_settledOnes 6 = .ok (.getfield 35, 3) := by decide +kernel
theorem dX12_settledOnes_9 : decode cX12_settledOnes 9 = .ok (.iconst 0, 1) := by decide +kernel
theorem dX12_settledOnes_10 : decode cX12_settledOnes 10 = .ok (.iaload, 1) := by decide +kernel
theorem dX12_settledOnes_11 : decode cX12_settledOnes 11 = .ok (.if_icmp .ge 27, 3) := by decide +kernel
theorem dX12_settledOnes_14 : decode cX12_settledOnes 14 = .ok (.iload_n 1, 1) := by decide +kernel
theorem dX12_settledOnes_15 : decode cX12_settledOnes 15 = .ok (.aload_n 0, 1) := by decide +kernel
theorem dX12_settledOnes_16 : decode cX12_settledOnes 16 = .ok (.iload_n 2, 1) := by decide +kernel
theorem dX12_settledOnes_17 : decode cX12_settledOnes 17 = .ok (.invokevirtual 328, 3) := by decide +kernel
theorem dX12_settledOnes_20 : decode cX12_settledOnes 20 = .ok (.ifCond .eq 9, 3) := by decide +kernel
theorem dX12_settledOnes_23 : decode cX12_settledOnes 23 = .ok (.iconst 1, 1) := by decide +kernel
theorem dX12_settledOnes_24 : decode cX12_settledOnes 24 = .ok (.iload_n 2, 1) := by decide +kernel
theorem dX12_settledOnes_25 : decode cX12_settledOnes 25 = .ok (.ishl, 1) := by decide +kernel
theorem dX12_settledOnes_26 : decode cX12_settledOnes 26 = .ok (.goto 4, 3) := by decide +kernel
theorem dX12_settledOnes_29 : decode cX12_settledOnes 29 = .ok (.iconst 0, 1) := by decide +kernel
theorem dX12_settledOnes_30 : decode cX12_settledOnes 30 = .ok (.ior, 1) := by decide +kernel
theorem dX12_settledOnes_31 : decode cX12_settledOnes 31 = .ok (.istore_n 1, 1) := by decide +kernel
theorem dX12_settledOnes_32 : decode cX12_settledOnes 32 = .ok (.iinc 2 1, 3) := by decide +kernel
theorem dX12_settledOnes_35 : decode cX12_settledOnes 35 = .ok (.goto (-31), 3) := by decide +kernel
theorem dX12_settledOnes_38 : decode cX12_settledOnes 38 = .ok (.iload_n 1, 1) := by decide +kernel
theorem dX12_settledOnes_39 : decode cX12_settledOnes 39 = .ok (.ireturn, 1) := by decide +kernel
theorem dX12_stuckOnes_0 : decode cX12_stuckOnes 0 = .ok (.iconst 0, 1) := by decide +kernel
theorem dX12_stuckOnes_1 : decode cX12_stuckOnes 1 = .ok (.istore_n 1, 1) := by decide +kernel
theorem dX12_stuckOnes_2 : decode cX12_stuckOnes 2 = .ok (.aload_n 0, 1) := by decide +kernel
theorem dX12_stuckOnes_3 : decode cX12_stuckOnes 3 = .ok (.invokevirtual 331, 3) := by decide +kernel
theorem dX12_stuckOnes_6 : decode cX12_stuckOnes 6 = .ok (.istore_n 2, 1) := by decide +kernel
theorem dX12_stuckOnes_7 : decode cX12_stuckOnes 7 = .ok (.iconst 0, 1) := by decide +kernel
theorem dX12_stuckOnes_8 : decode cX12_stuckOnes 8 = .ok (.istore_n 3, 1) := by decide +kernel
theorem dX12_stuckOnes_9 : decode cX12_stuckOnes 9 = .ok (.iload_n 3, 1) := by decide +kernel
theorem dX12_stuckOnes_10 : decode cX12_stuckOnes 10 = .ok (.aload_n 0, 1) := by decide +kernel
theorem dX12_stuckOnes_11 : decode cX12_stuckOnes 11 = .ok (.getfield 35, 3) := by decide +kernel
theorem dX12_stuckOnes_14 : decode cX12_stuckOnes 14 = .ok (.iconst 0, 1) := by decide +kernel
theorem dX12_stuckOnes_15 : decode cX12_stuckOnes 15 = .ok (.iaload, 1) := by decide +kernel
theorem dX12_stuckOnes_16 : decode cX12_stuckOnes 16 = .ok (.if_icmp .ge 39, 3) := by decide +kernel
theorem dX12_stuckOnes_19 : decode cX12_stuckOnes 19 = .ok (.iload_n 1, 1) := by decide +kernel
theorem dX12_stuckOnes_20 : decode cX12_stuckOnes 20 = .ok (.aload_n 0, 1) := by decide +kernel
theorem dX12_stuckOnes_21 : decode cX12_stuckOnes 21 = .ok (.iload_n 3, 1) := by decide +kernel
theorem dX12_stuckOnes_22 : decode cX12_stuckOnes 22 = .ok (.invokevirtual 328, 3) := by decide +kernel
theorem dX12_stuckOnes_25 : decode cX12_stuckOnes 25 = .ok (.ifCond .ne 21, 3) := by decide +kernel
theorem dX12_stuckOnes_28 : decode cX12_stuckOnes 28 = .ok (.aload_n 0, 1) := by decide +kernel
theorem dX12_stuckOnes_29 : decode cX12_stuckOnes 29 = .ok (.iload_n 3, 1) := by decide +kernel
theorem dX12_stuckOnes_30 : decode cX12_stuckOnes 30 = .ok (.invokevirtual 334, 3) := by decide +kernel
theorem dX12_stuckOnes_33 : decode cX12_stuckOnes 33 = .ok (.iload_n 2, 1) := by decide +kernel
theorem dX12_stuckOnes_34 : decode cX12_stuckOnes 34 = .ok (.iconst (-1), 1) := by decide +kernel
theorem dX12_stuckOnes_35 : decode cX12_stuckOnes 35 = .ok (.ixor, 1) := by decide +kernel
theorem dX12_stuckOnes_36 : decode cX12_stuckOnes 36 = .ok (.iand, 1) := by decide +kernel
theorem dX12_stuckOnes_37 : decode cX12_stuckOnes 37 = .ok (.ifCond .eq 9, 3) := by decide +kernel
theorem dX12_stuckOnes_40 : decode cX12_stuckOnes 40 = .ok (.iconst 1, 1) := by decide +kernel
theorem dX12_stuckOnes_41 : decode cX12_stuckOnes 41 = .ok (.iload_n 3, 1) := by decide +kernel
theorem dX12_stuckOnes_42 : decode cX12_stuckOnes 42 = .ok (.ishl, 1) := by decide +kernel
theorem dX12_stuckOnes_43 : decode cX12_stuckOnes 43 = .ok (.goto 4, 3) := by decide +kernel
theorem dX12_stuckOnes_46 : decode cX12_stuckOnes 46 = .ok (.iconst 0, 1) := by decide +kernel
theorem dX12_stuckOnes_47 : decode cX12_stuckOnes 47 = .ok (.ior, 1) := by decide +kernel
theorem dX12_stuckOnes_48 : decode cX12_stuckOnes 48 = .ok (.istore_n 1, 1) := by decide +kernel
theorem dX12_stuckOnes_49 : decode cX12_stuckOnes 49 = .ok (.iinc 3 1, 3) := by decide +kernel
theorem dX12_stuckOnes_52 : decode cX12_stuckOnes 52 = .ok (.goto (-43), 3) := by decide +kernel
theorem dX12_stuckOnes_55 : decode cX12_stuckOnes 55 = .ok (.iload_n 1, 1) := by decide +kernel
theorem dX12_stuckOnes_56 : decode cX12_stuckOnes 56 = .ok (.ireturn, 1) := by decide +kernel
theorem dX12_heightBy_0 : decode cX12_heightBy 0 = .ok (.iload_n 0, 1) := by decide +kernel
theorem dX12_heightBy_1 : decode cX12_heightBy 1 = .ok (.bipush 100, 2) := by decide +kernel
theorem dX12_heightBy_3 : decode cX12_heightBy 3 = .ok (.iload_n 1, 1) := by decide +kernel
theorem dX12_heightBy_4 : decode cX12_heightBy 4 = .ok (.isub, 1) := by decide +kernel
theorem dX12_heightBy_5 : decode cX12_heightBy 5 = .ok (.imul, 1) := by decide +kernel
theorem dX12_heightBy_6 : decode cX12_heightBy 6 = .ok (.bipush 100, 2) := by decide +kernel
theorem dX12_heightBy_8 : decode cX12_heightBy 8 = .ok (.idiv, 1) := by decide +kernel
theorem dX12_heightBy_9 : decode cX12_heightBy 9 = .ok (.ireturn, 1) := by decide +kernel
theorem dX12_heightOf_0 : decode cX12_heightOf 0 = .ok (.aload_n 0, 1) := by decide +kernel
theorem dX12_heightOf_1 : decode cX12_heightOf 1 = .ok (.getfield 35, 3) := by decide +kernel
theorem dX12_heightOf_4 : decode cX12_heightOf 4 = .ok (.bipush 45, 2) := by decide +kernel
theorem dX12_heightOf_6 : decode cX12_heightOf 6 = .ok (.iload_n 1, 1) := by decide +kernel
theorem dX12_heightOf_7 : decode cX12_heightOf 7 = .ok (.iadd, 1) := by decide +kernel
theorem dX12_heightOf_8 : decode cX12_heightOf 8 = .ok (.iaload, 1) := by decide +kernel
theorem dX12_heightOf_9 : decode cX12_heightOf 9 = .ok (.aload_n 0, 1) := by decide +kernel
theorem dX12_heightOf_10 : decode cX12_heightOf 10 = .ok (.getfield 35, 3) := by decide +kernel
theorem dX12_heightOf_13 : decode cX12_heightOf 13 = .ok (.bipush 6, 2) := by decide +kernel
theorem dX12_heightOf_15 : decode cX12_heightOf 15 = .ok (.aload_n 0, 1) := by decide +kernel
theorem dX12_heightOf_16 : decode cX12_heightOf 16 = .ok (.getfield 35, 3) := by decide +kernel
theorem dX12_heightOf_19 : decode cX12_heightOf 19 = .ok (.bipush 52, 2) := by decide +kernel
theorem dX12_heightOf_21 : decode cX12_heightOf 21 = .ok (.iload_n 1, 1) := by decide +kernel
theorem dX12_heightOf_22 : decode cX12_heightOf 22 = .ok (.iadd, 1) := by decide +kernel
theorem dX12_heightOf_23 : decode cX12_heightOf 23 = .ok (.iaload, 1) := by decide +kernel
theorem dX12_heightOf_24 : decode cX12_heightOf 24 = .ok (.iadd, 1) := by decide +kernel
theorem dX12_heightOf_25 : decode cX12_heightOf 25 = .ok (.iaload, 1) := by decide +kernel
theorem dX12_heightOf_26 : decode cX12_heightOf 26 = .ok (.invokestatic 337, 3) := by decide +kernel
theorem dX12_heightOf_29 : decode cX12_heightOf 29 = .ok (.ireturn, 1) := by decide +kernel
theorem dX12_downOnes_0 : decode cX12_downOnes 0 = .ok (.iconst 0, 1) := by decide +kernel
theorem dX12_downOnes_1 : decode cX12_downOnes 1 = .ok (.istore_n 1, 1) := by decide +kernel
theorem dX12_downOnes_2 : decode cX12_downOnes 2 = .ok (.iconst 0, 1) := by decide +kernel
theorem dX12_downOnes_3 : decode cX12_downOnes 3 = .ok (.istore_n 2, 1) := by decide +kernel
theorem dX12_downOnes_4 : decode cX12_downOnes 4 = .ok (.iload_n 2, 1) := by decide +kernel
theorem dX12_downOnes_5 : decode cX12_downOnes 5 = .ok (.aload_n 0, 1) := by decide +kernel
theorem dX12_downOnes_6 : decode cX12_downOnes 6 = .ok (.getfield 35, 3) := by decide +kernel
theorem dX12_downOnes_9 : decode cX12_downOnes 9 = .ok (.iconst 2, 1) := by decide +kernel
theorem dX12_downOnes_10 : decode cX12_downOnes 10 = .ok (.iaload, 1) := by decide +kernel
theorem dX12_downOnes_11 : decode cX12_downOnes 11 = .ok (.if_icmp .ge 27, 3) := by decide +kernel
theorem dX12_downOnes_14 : decode cX12_downOnes 14 = .ok (.iload_n 1, 1) := by decide +kernel
theorem dX12_downOnes_15 : decode cX12_downOnes 15 = .ok (.aload_n 0, 1) := by decide +kernel
theorem dX12_downOnes_16 : decode cX12_downOnes 16 = .ok (.iload_n 2, 1) := by decide +kernel
theorem dX12_downOnes_17 : decode cX12_downOnes 17 = .ok (.invokevirtual 340, 3) := by decide +kernel
theorem dX12_downOnes_20 : decode cX12_downOnes 20 = .ok (.ifCond .ne 9, 3) := by decide +kernel
theorem dX12_downOnes_23 : decode cX12_downOnes 23 = .ok (.iconst 1, 1) := by decide +kernel
theorem dX12_downOnes_24 : decode cX12_downOnes 24 = .ok (.iload_n 2, 1) := by decide +kernel
theorem dX12_downOnes_25 : decode cX12_downOnes 25 = .ok (.ishl, 1) := by decide +kernel
theorem dX12_downOnes_26 : decode cX12_downOnes 26 = .ok (.goto 4, 3) := by decide +kernel
theorem dX12_downOnes_29 : decode cX12_downOnes 29 = .ok (.iconst 0, 1) := by decide +kernel
theorem dX12_downOnes_30 : decode cX12_downOnes 30 = .ok (.ior, 1) := by decide +kernel
theorem dX12_downOnes_31 : decode cX12_downOnes 31 = .ok (.istore_n 1, 1) := by decide +kernel
theorem dX12_downOnes_32 : decode cX12_downOnes 32 = .ok (.iinc 2 1, 3) := by decide +kernel
theorem dX12_downOnes_35 : decode cX12_downOnes 35 = .ok (.goto (-31), 3) := by decide +kernel
theorem dX12_downOnes_38 : decode cX12_downOnes 38 = .ok (.iload_n 1, 1) := by decide +kernel
theorem dX12_downOnes_39 : decode cX12_downOnes 39 = .ok (.ireturn, 1) := by decide +kernel
theorem dX12_cameOnes_0 : decode cX12_cameOnes 0 = .ok (.iconst 0, 1) := by decide +kernel
theorem dX12_cameOnes_1 : decode cX12_cameOnes 1 = .ok (.istore_n 1, 1) := by decide +kernel
theorem dX12_cameOnes_2 : decode cX12_cameOnes 2 = .ok (.iconst 0, 1) := by decide +kernel
theorem dX12_cameOnes_3 : decode cX12_cameOnes 3 = .ok (.istore_n 2, 1) := by decide +kernel
theorem dX12_cameOnes_4 : decode cX12_cameOnes 4 = .ok (.iload_n 2, 1) := by decide +kernel
theorem dX12_cameOnes_5 : decode cX12_cameOnes 5 = .ok (.aload_n 0, 1) := by decide +kernel
theorem dX12_cameOnes_6 : decode cX12_cameOnes 6 = .ok (.getfield 35, 3) := by decide +kernel
theorem dX12_cameOnes_9 : decode cX12_cameOnes 9 = .ok (.iconst 3, 1) := by decide +kernel
theorem dX12_cameOnes_10 : decode cX12_cameOnes 10 = .ok (.iaload, 1) := by decide +kernel
theorem dX12_cameOnes_11 : decode cX12_cameOnes 11 = .ok (.if_icmp .ge 23, 3) := by decide +kernel
theorem dX12_cameOnes_14 : decode cX12_cameOnes 14 = .ok (.iload_n 1, 1) := by decide +kernel
theorem dX12_cameOnes_15 : decode cX12_cameOnes 15 = .ok (.aload_n 0, 1) := by decide +kernel
theorem dX12_cameOnes_16 : decode cX12_cameOnes 16 = .ok (.getfield 35, 3) := by decide +kernel
theorem dX12_cameOnes_19 : decode cX12_cameOnes 19 = .ok (.bipush 82, 2) := by decide +kernel
theorem dX12_cameOnes_21 : decode cX12_cameOnes 21 = .ok (.iload_n 2, 1) := by decide +kernel
theorem dX12_cameOnes_22 : decode cX12_cameOnes 22 = .ok (.iadd, 1) := by decide +kernel
theorem dX12_cameOnes_23 : decode cX12_cameOnes 23 = .ok (.iaload, 1) := by decide +kernel
theorem dX12_cameOnes_24 : decode cX12_cameOnes 24 = .ok (.iload_n 2, 1) := by decide +kernel
theorem dX12_cameOnes_25 : decode cX12_cameOnes 25 = .ok (.ishl, 1) := by decide +kernel
theorem dX12_cameOnes_26 : decode cX12_cameOnes 26 = .ok (.ior, 1) := by decide +kernel
theorem dX12_cameOnes_27 : decode cX12_cameOnes 27 = .ok (.istore_n 1, 1) := by decide +kernel
theorem dX12_cameOnes_28 : decode cX12_cameOnes 28 = .ok (.iinc 2 1, 3) := by decide +kernel
theorem dX12_cameOnes_31 : decode cX12_cameOnes 31 = .ok (.goto (-27), 3) := by decide +kernel
theorem dX12_cameOnes_34 : decode cX12_cameOnes 34 = .ok (.iload_n 1, 1) := by decide +kernel
theorem dX12_cameOnes_35 : decode cX12_cameOnes 35 = .ok (.ireturn, 1) := by decide +kernel
theorem dX12_many_0 : decode cX12_many 0 = .ok (.aload_n 0, 1) := by decide +kernel
theorem dX12_many_1 : decode cX12_many 1 = .ok (.iconst 0, 1) := by decide +kernel
theorem dX12_many_2 : decode cX12_many 2 = .ok (.putfield 69, 3) := by decide +kernel
theorem dX12_many_5 : decode cX12_many 5 = .ok (.aload_n 0, 1) := by decide +kernel
theorem dX12_many_6 : decode cX12_many 6 = .ok (.iconst 0, 1) := by decide +kernel
theorem dX12_many_7 : decode cX12_many 7 = .ok (.putfield 72, 3) := by decide +kernel
theorem dX12_many_10 : decode cX12_many 10 = .ok (.iload_n 1, 1) := by decide +kernel
theorem dX12_many_11 : decode cX12_many 11 = .ok (.i2l, 1) := by decide +kernel
theorem dX12_many_12 : decode cX12_many 12 = .ok (.lconst 0, 1) := by decide +kernel
theorem dX12_many_13 : decode cX12_many 13 = .ok (.ldc2_w 343, 3) := by decide +kernel
theorem dX12_many_16 : decode cX12_many 16 = .ok (.invokestatic 104, 3) := by decide +kernel
theorem dX12_many_19 : decode cX12_many 19 = .ok (.ifCond .ne 9, 3) := by decide +kernel
theorem dX12_many_22 : decode cX12_many 22 = .ok (.aload_n 0, 1) := by decide +kernel
theorem dX12_many_23 : decode cX12_many 23 = .ok (.iconst 5, 1) := by decide +kernel
theorem dX12_many_24 : decode cX12_many 24 = .ok (.invokevirtual 345, 3) := by decide +kernel
theorem dX12_many_27 : decode cX12_many 27 = .ok (.ireturn, 1) := by decide +kernel
theorem dX12_many_28 : decode cX12_many 28 = .ok (.iload_n 1, 1) := by decide +kernel
theorem dX12_many_29 : decode cX12_many 29 = .ok (.bipush 6, 2) := by decide +kernel
theorem dX12_many_31 : decode cX12_many 31 = .ok (.if_icmp .ge 10, 3) := by decide +kernel
theorem dX12_many_34 : decode cX12_many 34 = .ok (.aload_n 0, 1) := by decide +kernel
theorem dX12_many_35 : decode cX12_many 35 = .ok (.getfield 35, 3) := by decide +kernel
theorem dX12_many_38 : decode cX12_many 38 = .ok (.iload_n 1, 1) := by decide +kernel
theorem dX12_many_39 : decode cX12_many 39 = .ok (.iaload, 1) := by decide +kernel
theorem dX12_many_40 : decode cX12_many 40 = .ok (.ireturn, 1) := by decide +kernel
theorem dX12_many_41 : decode cX12_many 41 = .ok (.iload_n 1, 1) := by decide +kernel
theorem dX12_many_42 : decode cX12_many 42 = .ok (.bipush 6, 2) := by decide +kernel
theorem dX12_many_44 : decode cX12_many 44 = .ok (.if_icmp .ne 10, 3) := by decide +kernel
theorem dX12_many_47 : decode cX12_many 47 = .ok (.aload_n 0, 1) := by decide +kernel
theorem dX12_many_48 : decode cX12_many 48 = .ok (.invokevirtual 331, 3) := by decide +kernel
theorem dX12_many_51 : decode cX12_many 51 = .ok (.goto 33, 3) := by decide +kernel
theorem dX12_many_54 : decode cX12_many 54 = .ok (.iload_n 1, 1) := by decide +kernel
theorem dX12_many_55 : decode cX12_many 55 = .ok (.bipush 7, 2) := by decide +kernel
theorem dX12_many_57 : decode cX12_many 57 = .ok (.if_icmp .ne 10, 3) := by decide +kernel
theorem dX12_many_60 : decode cX12_many 60 = .ok (.aload_n 0, 1) := by decide +kernel
theorem dX12_many_61 : decode cX12_many 61 = .ok (.invokevirtual 348, 3) := by decide +kernel
theorem dX12_many_64 : decode cX12_many 64 = .ok (.goto 20, 3) := by decide +kernel
theorem dX12_many_67 : decode cX12_many 67 = .ok (.iload_n 1, 1) := by decide +kernel
theorem dX12_many_68 : decode cX12_many 68 = .ok (.bipush 8, 2) := by decide +kernel
theorem dX12_many_70 : decode cX12_many 70 = .ok (.if_icmp .ne 10, 3) := by decide +kernel
theorem dX12_many_73 : decode cX12_many 73 = .ok (.aload_n 0, 1) := by decide +kernel
theorem dX12_many_74 : decode cX12_many 74 = .ok (.invokevirtual 351, 3) := by decide +kernel
theorem dX12_many_77 : decode cX12_many 77 = .ok (.goto 7, 3) := by decide +kernel
theorem dX12_many_80 : decode cX12_many 80 = .ok (.aload_n 0, 1) := by decide +kernel
theorem dX12_many_81 : decode cX12_many 81 = .ok (.invokevirtual 354, 3) := by decide +kernel
theorem dX12_many_84 : decode cX12_many 84 = .ok (.ireturn, 1) := by decide +kernel
theorem dX12_satFor_0 : decode cX12_satFor 0 = .ok (.iconst 0, 1) := by decide +kernel
theorem dX12_satFor_1 : decode cX12_satFor 1 = .ok (.istore_n 2, 1) := by decide +kernel
theorem dX12_satFor_2 : decode cX12_satFor 2 = .ok (.iconst 0, 1) := by decide +kernel
theorem dX12_satFor_3 : decode cX12_satFor 3 = .ok (.istore_n 3, 1) := by decide +kernel
theorem dX12_satFor_4 : decode cX12_satFor 4 = .ok (.iload_n 3, 1) := by decide +kernel
theorem dX12_satFor_5 : decode cX12_satFor 5 = .ok (.aload_n 0, 1) := by decide +kernel
theorem dX12_satFor_6 : decode cX12_satFor 6 = .ok (.getfield 35, 3) := by decide +kernel
theorem dX12_satFor_9 : decode cX12_satFor 9 = .ok (.iconst 2, 1) := by decide +kernel
theorem dX12_satFor_10 : decode cX12_satFor 10 = .ok (.iaload, 1) := by decide +kernel
theorem dX12_satFor_11 : decode cX12_satFor 11 = .ok (.if_icmp .ge 32, 3) := by decide +kernel
theorem dX12_satFor_14 : decode cX12_satFor 14 = .ok (.iload_n 2, 1) := by decide +kernel
theorem dX12_satFor_15 : decode cX12_satFor 15 = .ok (.aload_n 0, 1) := by decide +kernel
theorem dX12_satFor_16 : decode cX12_satFor 16 = .ok (.getfield 35, 3) := by decide +kernel
theorem dX12_satFor_19 : decode cX12_satFor 19 = .ok (.bipush 52, 2) := by decide +kernel
theorem dX12_satFor_21 : decode cX12_satFor 21 = .ok (.iload_n 3, 1) := by decide +kernel
theorem dX12_satFor_22 : decode cX12_satFor 22 = .ok (.iadd, 1) := by decide +kernel
theorem dX12_satFor_23 : decode cX12_satFor 23 = .ok (.iaload, 1) := by decide +kernel
theorem dX12_satFor_24 : decode cX12_satFor 24 = .ok (.iload_n 1, 1) := by decide +kernel
theorem dX12_satFor_25 : decode cX12_satFor 25 = .ok (.if_icmp .ne 9, 3) := by decide +kernel
theorem dX12_satFor_28 : decode cX12_satFor 28 = .ok (.iconst 1, 1) := by decide +kernel
theorem dX12_satFor_29 : decode cX12_satFor 29 = .ok (.iload_n 3, 1) := by decide +kernel
theorem dX12_satFor_30 : decode cX12_satFor 30 = .ok (.ishl, 1) := by decide +kernel
theorem dX12_satFor_31 : decode cX12_satFor 31 = .ok (.goto 4, 3) := by decide +kernel
theorem dX12_satFor_34 : decode cX12_satFor 34 = .ok (.iconst 0, 1) := by decide +kernel
theorem dX12_satFor_35 : decode cX12_satFor 35 = .ok (.ior, 1) := by decide +kernel
theorem dX12_satFor_36 : decode cX12_satFor 36 = .ok (.istore_n 2, 1) := by decide +kernel
theorem dX12_satFor_37 : decode cX12_satFor 37 = .ok (.iinc 3 1, 3) := by decide +kernel
theorem dX12_satFor_40 : decode cX12_satFor 40 = .ok (.goto (-36), 3) := by decide +kernel
theorem dX12_satFor_43 : decode cX12_satFor 43 = .ok (.iload_n 2, 1) := by decide +kernel
theorem dX12_satFor_44 : decode cX12_satFor 44 = .ok (.ireturn, 1) := by decide +kernel
theorem dX12_loadOf_0 : decode cX12_loadOf 0 = .ok (.bipush 100, 2) := by decide +kernel
theorem dX12_loadOf_2 : decode cX12_loadOf 2 = .ok (.aload_n 0, 1) := by decide +kernel
theorem dX12_loadOf_3 : decode cX12_loadOf 3 = .ok (.getfield 35, 3) := by decide +kernel
theorem dX12_loadOf_6 : decode cX12_loadOf 6 = .ok (.bipush 6, 2) := by decide +kernel
theorem dX12_loadOf_8 : decode cX12_loadOf 8 = .ok (.iload_n 1, 1) := by decide +kernel
theorem dX12_loadOf_9 : decode cX12_loadOf 9 = .ok (.iadd, 1) := by decide +kernel
theorem dX12_loadOf_10 : decode cX12_loadOf 10 = .ok (.iaload, 1) := by decide +kernel
theorem dX12_loadOf_11 : decode cX12_loadOf 11 = .ok (.isub, 1) := by decide +kernel
theorem dX12_loadOf_12 : decode cX12_loadOf 12 = .ok (.istore_n 2, 1) := by decide +kernel
theorem dX12_loadOf_13 : decode cX12_loadOf 13 = .ok (.aload_n 0, 1) := by decide +kernel
theorem dX12_loadOf_14 : decode cX12_loadOf 14 = .ok (.getfield 35, 3) := by decide +kernel
theorem dX12_loadOf_17 : decode cX12_loadOf 17 = .ok (.bipush 12, 2) := by decide +kernel
theorem dX12_loadOf_19 : decode cX12_loadOf 19 = .ok (.iload_n 1, 1) := by decide +kernel
theorem dX12_loadOf_20 : decode cX12_loadOf 20 = .ok (.iadd, 1) := by decide +kernel
theorem dX12_loadOf_21 : decode cX12_loadOf 21 = .ok (.iaload, 1) := by decide +kernel
theorem dX12_loadOf_22 : decode cX12_loadOf 22 = .ok (.istore_n 3, 1) := by decide +kernel
theorem dX12_loadOf_23 : decode cX12_loadOf 23 = .ok (.iload_n 2, 1) := by decide +kernel
theorem dX12_loadOf_24 : decode cX12_loadOf 24 = .ok (.ifCond .ne 5, 3) := by decide +kernel
theorem dX12_loadOf_27 : decode cX12_loadOf 27 = .ok (.iconst 0, 1) := by decide +kernel
theorem dX12_loadOf_28 : decode cX12_loadOf 28 = .ok (.ireturn, 1) := by decide +kernel
theorem dX12_loadOf_29 : decode cX12_loadOf 29 = .ok (.iload_n 3, 1) := by decide +kernel
theorem dX12_loadOf_30 : decode cX12_loadOf 30 = .ok (.ifCond .ne 7, 3) := by decide +kernel
theorem dX12_loadOf_33 : decode cX12_loadOf 33 = .ok (.iconst (-1), 1) := by decide +kernel
theorem dX12_loadOf_34 : decode cX12_loadOf 34 = .ok (.goto 10, 3) := by decide +kernel
theorem dX12_loadOf_37 : decode cX12_loadOf 37 = .ok (.iload_n 2, 1) := by decide +kernel
theorem dX12_loadOf_38 : decode cX12_loadOf 38 = .ok (.iload_n 3, 1) := by decide +kernel
theorem dX12_loadOf_39 : decode cX12_loadOf 39 = .ok (.iadd, 1) := by decide +kernel
theorem dX12_loadOf_40 : decode cX12_loadOf 40 = .ok (.iconst 1, 1) := by decide +kernel
theorem dX12_loadOf_41 : decode cX12_loadOf 41 = .ok (.isub, 1) := by decide +kernel
theorem dX12_loadOf_42 : decode cX12_loadOf 42 = .ok (.iload_n 3, 1) := by decide +kernel
theorem dX12_loadOf_43 : decode cX12_loadOf 43 = .ok (.idiv, 1) := by decide +kernel
theorem dX12_loadOf_44 : decode cX12_loadOf 44 = .ok (.ireturn, 1) := by decide +kernel
theorem dX12_answer_0 : decode cX12_answer 0 = .ok (.iload_n 1, 1) := by decide +kernel
theorem dX12_answer_1 : decode cX12_answer 1 = .ok (.ifCond .ge 12, 3) := by decide +kernel
theorem dX12_answer_4 : decode cX12_answer 4 = .ok (.aload_n 0, 1) := by decide +kernel
theorem dX12_answer_5 : decode cX12_answer 5 = .ok (.bipush 8, 2) := by decide +kernel
theorem dX12_answer_7 : decode cX12_answer 7 = .ok (.invokevirtual 345, 3) := by decide +kernel
theorem dX12_answer_10 : decode cX12_answer 10 = .ok (.goto 4, 3) := by decide +kernel
theorem dX12_answer_13 : decode cX12_answer 13 = .ok (.iload_n 1, 1) := by decide +kernel
theorem dX12_answer_14 : decode cX12_answer 14 = .ok (.ireturn, 1) := by decide +kernel
theorem dX12_matter_0 : decode cX12_matter 0 = .ok (.aload_n 0, 1) := by decide +kernel
theorem dX12_matter_1 : decode cX12_matter 1 = .ok (.iconst 0, 1) := by decide +kernel
theorem dX12_matter_2 : decode cX12_matter 2 = .ok (.putfield 69, 3) := by decide +kernel
theorem dX12_matter_5 : decode cX12_matter 5 = .ok (.aload_n 0, 1) := by decide +kernel
theorem dX12_matter_6 : decode cX12_matter 6 = .ok (.iconst 0, 1) := by decide +kernel
theorem dX12_matter_7 : decode cX12_matter 7 = .ok (.putfield 72, 3) := by decide +kernel
theorem dX12_matter_10 : decode cX12_matter 10 = .ok (.aload_n 0, 1) := by decide +kernel
theorem dX12_matter_11 : decode cX12_matter 11 = .ok (.iload_n 1, 1) := by decide +kernel
theorem dX12_matter_12 : decode cX12_matter 12 = .ok (.invokevirtual 357, 3) := by decide +kernel
theorem dX12_matter_15 : decode cX12_matter 15 = .ok (.ifCond .ne 9, 3) := by decide +kernel
theorem dX12_matter_18 : decode cX12_matter 18 = .ok (.aload_n 0, 1) := by decide +kernel
theorem dX12_matter_19 : decode cX12_matter 19 = .ok (.iconst 2, 1) := by decide +kernel
theorem dX12_matter_20 : decode cX12_matter 20 = .ok (.invokevirtual 345, 3) := by decide +kernel
theorem dX12_matter_23 : decode cX12_matter 23 = .ok (.ireturn, 1) := by decide +kernel
theorem dX12_matter_24 : decode cX12_matter 24 = .ok (.iload_n 2, 1) := by decide +kernel
theorem dX12_matter_25 : decode cX12_matter 25 = .ok (.i2l, 1) := by decide +kernel
theorem dX12_matter_26 : decode cX12_matter 26 = .ok (.lconst 0, 1) := by decide +kernel
theorem dX12_matter_27 : decode cX12_matter 27 = .ok (.ldc2_w 360, 3) := by decide +kernel
theorem dX12_matter_30 : decode cX12_matter 30 = .ok (.invokestatic 104, 3) := by decide +kernel
theorem dX12_matter_33 : decode cX12_matter 33 = .ok (.ifCond .ne 9, 3) := by decide +kernel
theorem dX12_matter_36 : decode cX12_matter 36 = .ok (.aload_n 0, 1) := by decide +kernel
theorem dX12_matter_37 : decode cX12_matter 37 = .ok (.iconst 5, 1) := by decide +kernel
theorem dX12_matter_38 : decode cX12_matter 38 = .ok (.invokevirtual 345, 3) := by decide +kernel
theorem dX12_matter_41 : decode cX12_matter 41 = .ok (.ireturn, 1) := by decide +kernel
theorem dX12_matter_42 : decode cX12_matter 42 = .ok (.iload_n 2, 1) := by decide +kernel
theorem dX12_matter_43 : decode cX12_matter 43 = .ok (.iconst 2, 1) := by decide +kernel
theorem dX12_matter_44 : decode cX12_matter 44 = .ok (.if_icmp .ge 18, 3) := by decide +kernel
theorem dX12_matter_47 : decode cX12_matter 47 = .ok (.aload_n 0, 1) := by decide +kernel
theorem dX12_matter_48 : decode cX12_matter 48 = .ok (.getfield 35, 3) := by decide +kernel
theorem dX12_matter_51 : decode cX12_matter 51 = .ok (.bipush 6, 2) := by decide +kernel
theorem dX12_matter_53 : decode cX12_matter 53 = .ok (.bipush 6, 2) := by decide +kernel
theorem dX12_matter_55 : decode cX12_matter 55 = .ok (.iload_n 2, 1) := by decide +kernel
theorem dX12_matter_56 : decode cX12_matter 56 = .ok (.imul, 1) := by decide +kernel
theorem dX12_matter_57 : decode cX12_matter 57 = .ok (.iadd, 1) := by decide +kernel
theorem dX12_matter_58 : decode cX12_matter 58 = .ok (.iload_n 1, 1) := by decide +kernel
theorem dX12_matter_59 : decode cX12_matter 59 = .ok (.iadd, 1) := by decide +kernel
theorem dX12_matter_60 : decode cX12_matter 60 = .ok (.iaload, 1) := by decide +kernel
theorem dX12_matter_61 : decode cX12_matter 61 = .ok (.ireturn, 1) := by decide +kernel
theorem dX12_matter_62 : decode cX12_matter 62 = .ok (.iload_n 2, 1) := by decide +kernel
theorem dX12_matter_63 : decode cX12_matter 63 = .ok (.iconst 2, 1) := by decide +kernel
theorem dX12_matter_64 : decode cX12_matter 64 = .ok (.if_icmp .ne 11, 3) := by decide +kernel
theorem dX12_matter_67 : decode cX12_matter 67 = .ok (.aload_n 0, 1) := by decide +kernel
theorem dX12_matter_68 : decode cX12_matter 68 = .ok (.iload_n 1, 1) := by decide +kernel
theorem dX12_matter_69 : decode cX12_matter 69 = .ok (.invokevirtual 334, 3) := by decide +kernel
theorem dX12_matter_72 : decode cX12_matter 72 = .ok (.goto 25, 3) := by decide +kernel
theorem dX12_matter_75 : decode cX12_matter 75 = .ok (.iload_n 2, 1) := by decide +kernel
theorem dX12_matter_76 : decode cX12_matter 76 = .ok (.iconst 3, 1) := by decide +kernel
theorem dX12_matter_77 : decode cX12_matter 77 = .ok (.if_icmp .ne 11, 3) := by decide +kernel
theorem dX12_matter_80 : decode cX12_matter 80 = .ok (.aload_n 0, 1) := by decide +kernel
theorem dX12_matter_81 : decode cX12_matter 81 = .ok (.iload_n 1, 1) := by decide +kernel
theorem dX12_matter_82 : decode cX12_matter 82 = .ok (.invokevirtual 362, 3) := by decide +kernel
theorem dX12_matter_85 : decode cX12_matter 85 = .ok (.goto 12, 3) := by decide +kernel
theorem dX12_matter_88 : decode cX12_matter 88 = .ok (.aload_n 0, 1) := by decide +kernel
theorem dX12_matter_89 : decode cX12_matter 89 = .ok (.aload_n 0, 1) := by decide +kernel
theorem dX12_matter_90 : decode cX12_matter 90 = .ok (.iload_n 1, 1) := by decide +kernel
theorem dX12_matter_91 : decode cX12_matter 91 = .ok (.invokevirtual 365, 3) := by decide +kernel
theorem dX12_matter_94 : decode cX12_matter 94 = .ok (.invokevirtual 368, 3) := by decide +kernel
theorem dX12_matter_97 : decode cX12_matter 97 = .ok (.ireturn, 1) := by decide +kernel
theorem dX12_hold_0 : decode cX12_hold 0 = .ok (.aload_n 0, 1) := by decide +kernel
theorem dX12_hold_1 : decode cX12_hold 1 = .ok (.iconst 0, 1) := by decide +kernel
theorem dX12_hold_2 : decode cX12_hold 2 = .ok (.putfield 69, 3) := by decide +kernel
theorem dX12_hold_5 : decode cX12_hold 5 = .ok (.aload_n 0, 1) := by decide +kernel
theorem dX12_hold_6 : decode cX12_hold 6 = .ok (.iconst 0, 1) := by decide +kernel
theorem dX12_hold_7 : decode cX12_hold 7 = .ok (.putfield 72, 3) := by decide +kernel
theorem dX12_hold_10 : decode cX12_hold 10 = .ok (.iload_n 1, 1) := by decide +kernel
theorem dX12_hold_11 : decode cX12_hold 11 = .ok (.i2l, 1) := by decide +kernel
theorem dX12_hold_12 : decode cX12_hold 12 = .ok (.lconst 0, 1) := by decide +kernel
theorem dX12_hold_13 : decode cX12_hold 13 = .ok (.aload_n 0, 1) := by decide +kernel
theorem dX12_hold_14 : decode cX12_hold 14 = .ok (.getfield 35, 3) := by decide +kernel
theorem dX12_hold_17 : decode cX12_hold 17 = .ok (.iconst 1, 1) := by decide +kernel
theorem dX12_hold_18 : decode cX12_hold 18 = .ok (.iaload, 1) := by decide +kernel
theorem dX12_hold_19 : decode cX12_hold 19 = .ok (.iconst 1, 1) := by decide +kernel
theorem dX12_hold_20 : decode cX12_hold 20 = .ok (.isub, 1) := by decide +kernel
theorem dX12_hold_21 : decode cX12_hold 21 = .ok (.i2l, 1) := by decide +kernel
theorem dX12_hold_22 : decode cX12_hold 22 = .ok (.invokestatic 104, 3) := by decide +kernel
theorem dX12_hold_25 : decode cX12_hold 25 = .ok (.ifCond .ne 9, 3) := by decide +kernel
theorem dX12_hold_28 : decode cX12_hold 28 = .ok (.aload_n 0, 1) := by decide +kernel
theorem dX12_hold_29 : decode cX12_hold 29 = .ok (.iconst 2, 1) := by decide +kernel
theorem dX12_hold_30 : decode cX12_hold 30 = .ok (.invokevirtual 345, 3) := by decide +kernel
theorem dX12_hold_33 : decode cX12_hold 33 = .ok (.ireturn, 1) := by decide +kernel
theorem dX12_hold_34 : decode cX12_hold 34 = .ok (.iload_n 2, 1) := by decide +kernel
theorem dX12_hold_35 : decode cX12_hold 35 = .ok (.i2l, 1) := by decide +kernel
theorem dX12_hold_36 : decode cX12_hold 36 = .ok (.lconst 0, 1) := by decide +kernel
theorem dX12_hold_37 : decode cX12_hold 37 = .ok (.lconst 1, 1) := by decide +kernel
theorem dX12_hold_38 : decode cX12_hold 38 = .ok (.invokestatic 104, 3) := by decide +kernel
theorem dX12_hold_41 : decode cX12_hold 41 = .ok (.ifCond .eq 20, 3) := by decide +kernel
theorem dX12_hold_44 : decode cX12_hold 44 = .ok (.aload_n 0, 1) := by decide +kernel
theorem dX12_hold_45 : decode cX12_hold 45 = .ok (.getfield 35, 3) := by decide +kernel
theorem dX12_hold_48 : decode cX12_hold 48 = .ok (.bipush 18, 2) := by decide +kernel
theorem dX12_hold_50 : decode cX12_hold 50 = .ok (.bipush 10, 2) := by decide +kernel
theorem dX12_hold_52 : decode cX12_hold 52 = .ok (.iload_n 2, 1) := by decide +kernel
theorem dX12_hold_53 : decode cX12_hold 53 = .ok (.imul, 1) := by decide +kernel
theorem dX12_hold_54 : decode cX12_hold 54 = .ok (.iadd, 1) := by decide +kernel
theorem dX12_hold_55 : decode cX12_hold 55 = .ok (.iload_n 1, 1) := by decide +kernel
theorem dX12_hold_56 : decode cX12_hold 56 = .ok (.iadd, 1) := by decide +kernel
theorem dX12_hold_57 : decode cX12_hold 57 = .ok (.iaload, 1) := by decide +kernel
theorem dX12_hold_58 : decode cX12_hold 58 = .ok (.goto 8, 3) := by decide +kernel
theorem dX12_hold_61 : decode cX12_hold 61 = .ok (.aload_n 0, 1) := by decide +kernel
theorem dX12_hold_62 : decode cX12_hold 62 = .ok (.iconst 5, 1) := by decide +kernel
theorem dX12_hold_63 : decode cX12_hold 63 = .ok (.invokevirtual 345, 3) := by decide +kernel
theorem dX12_hold_66 : decode cX12_hold 66 = .ok (.ireturn, 1) := by decide +kernel
theorem dX12_sitter_0 : decode cX12_sitter 0 = .ok (.aload_n 0, 1) := by decide +kernel
theorem dX12_sitter_1 : decode cX12_sitter 1 = .ok (.iconst 0, 1) := by decide +kernel
theorem dX12_sitter_2 : decode cX12_sitter 2 = .ok (.putfield 69, 3) := by decide +kernel
theorem dX12_sitter_5 : decode cX12_sitter 5 = .ok (.aload_n 0, 1) := by decide +kernel
theorem dX12_sitter_6 : decode cX12_sitter 6 = .ok (.iconst 0, 1) := by decide +kernel
theorem dX12_sitter_7 : decode cX12_sitter 7 = .ok (.putfield 72, 3) := by decide +kernel
theorem dX12_sitter_10 : decode cX12_sitter 10 = .ok (.aload_n 0, 1) := by decide +kernel
theorem dX12_sitter_11 : decode cX12_sitter 11 = .ok (.iload_n 1, 1) := by decide +kernel
theorem dX12_sitter_12 : decode cX12_sitter 12 = .ok (.invokevirtual 371, 3) := by decide +kernel
theorem dX12_sitter_15 : decode cX12_sitter 15 = .ok (.ifCond .ne 9, 3) := by decide +kernel
theorem dX12_sitter_18 : decode cX12_sitter 18 = .ok (.aload_n 0, 1) := by decide +kernel
theorem dX12_sitter_19 : decode cX12_sitter 19 = .ok (.iconst 2, 1) := by decide +kernel
theorem dX12_sitter_20 : decode cX12_sitter 20 = .ok (.invokevirtual 345, 3) := by decide +kernel
theorem dX12_sitter_23 : decode cX12_sitter 23 = .ok (.ireturn, 1) := by decide +kernel
theorem dX12_sitter_24 : decode cX12_sitter 24 = .ok (.iload_n 2, 1) := by decide +kernel
theorem dX12_sitter_25 : decode cX12_sitter 25 = .ok (.i2l, 1) := by decide +kernel
theorem dX12_sitter_26 : decode cX12_sitter 26 = .ok (.lconst 0, 1) := by decide +kernel
theorem dX12_sitter_27 : decode cX12_sitter 27 = .ok (.ldc2_w 360, 3) := by decide +kernel
theorem dX12_sitter_30 : decode cX12_sitter 30 = .ok (.invokestatic 104, 3) := by decide +kernel
theorem dX12_sitter_33 : decode cX12_sitter 33 = .ok (.ifCond .ne 9, 3) := by decide +kernel
theorem dX12_sitter_36 : decode cX12_sitter 36 = .ok (.aload_n 0, 1) := by decide +kernel
theorem dX12_sitter_37 : decode cX12_sitter 37 = .ok (.iconst 5, 1) := by decide +kernel
theorem dX12_sitter_38 : decode cX12_sitter 38 = .ok (.invokevirtual 345, 3) := by decide +kernel
theorem dX12_sitter_41 : decode cX12_sitter 41 = .ok (.ireturn, 1) := by decide +kernel
theorem dX12_sitter_42 : decode cX12_sitter 42 = .ok (.iload_n 2, 1) := by decide +kernel
theorem dX12_sitter_43 : decode cX12_sitter 43 = .ok (.iconst 4, 1) := by decide +kernel
theorem dX12_sitter_44 : decode cX12_sitter 44 = .ok (.if_icmp .ne 11, 3) := by decide +kernel
theorem dX12_sitter_47 : decode cX12_sitter 47 = .ok (.aload_n 0, 1) := by decide +kernel
theorem dX12_sitter_48 : decode cX12_sitter 48 = .ok (.iload_n 1, 1) := by decide +kernel
theorem dX12_sitter_49 : decode cX12_sitter 49 = .ok (.invokevirtual 340, 3) := by decide +kernel
theorem dX12_sitter_52 : decode cX12_sitter 52 = .ok (.goto 17, 3) := by decide +kernel
theorem dX12_sitter_55 : decode cX12_sitter 55 = .ok (.aload_n 0, 1) := by decide +kernel
theorem dX12_sitter_56 : decode cX12_sitter 56 = .ok (.getfield 35, 3) := by decide +kernel
theorem dX12_sitter_59 : decode cX12_sitter 59 = .ok (.bipush 38, 2) := by decide +kernel
theorem dX12_sitter_61 : decode cX12_sitter 61 = .ok (.bipush 7, 2) := by decide +kernel
theorem dX12_sitter_63 : decode cX12_sitter 63 = .ok (.iload_n 2, 1) := by decide +kernel
theorem dX12_sitter_64 : decode cX12_sitter 64 = .ok (.imul, 1) := by decide +kernel
theorem dX12_sitter_65 : decode cX12_sitter 65 = .ok (.iadd, 1) := by decide +kernel
theorem dX12_sitter_66 : decode cX12_sitter 66 = .ok (.iload_n 1, 1) := by decide +kernel
theorem dX12_sitter_67 : decode cX12_sitter 67 = .ok (.iadd, 1) := by decide +kernel
theorem dX12_sitter_68 : decode cX12_sitter 68 = .ok (.iaload, 1) := by decide +kernel
theorem dX12_sitter_69 : decode cX12_sitter 69 = .ok (.ireturn, 1) := by decide +kernel
theorem dX12_news_0 : decode cX12_news 0 = .ok (.aload_n 0, 1) := by decide +kernel
theorem dX12_news_1 : decode cX12_news 1 = .ok (.iconst 0, 1) := by decide +kernel
theorem dX12_news_2 : decode cX12_news 2 = .ok (.putfield 69, 3) := by decide +kernel
theorem dX12_news_5 : decode cX12_news 5 = .ok (.aload_n 0, 1) := by decide +kernel
theorem dX12_news_6 : decode cX12_news 6 = .ok (.iconst 0, 1) := by decide +kernel
theorem dX12_news_7 : decode cX12_news 7 = .ok (.putfield 72, 3) := by decide +kernel
theorem dX12_news_10 : decode cX12_news 10 = .ok (.aload_n 0, 1) := by decide +kernel
theorem dX12_news_11 : decode cX12_news 11 = .ok (.iload_n 1, 1) := by decide +kernel
theorem dX12_news_12 : decode cX12_news 12 = .ok (.invokevirtual 374, 3) := by decide +kernel
theorem dX12_news_15 : decode cX12_news 15 = .ok (.ifCond .ne 9, 3) := by decide +kernel
theorem dX12_news_18 : decode cX12_news 18 = .ok (.aload_n 0, 1) := by decide +kernel
theorem dX12_news_19 : decode cX12_news 19 = .ok (.iconst 2, 1) := by decide +kernel
theorem dX12_news_20 : decode cX12_news 20 = .ok (.invokevirtual 345, 3) := by decide +kernel
theorem dX12_news_23 : decode cX12_news 23 = .ok (.ireturn, 1) := by decide +kernel
theorem dX12_news_24 : decode cX12_news 24 = .ok (.iload_n 2, 1) := by decide +kernel
theorem dX12_news_25 : decode cX12_news 25 = .ok (.i2l, 1) := by decide +kernel
theorem dX12_news_26 : decode cX12_news 26 = .ok (.lconst 0, 1) := by decide +kernel
theorem dX12_news_27 : decode cX12_news 27 = .ok (.ldc2_w 377, 3) := by decide +kernel
theorem dX12_news_30 : decode cX12_news 30 = .ok (.invokestatic 104, 3) := by decide +kernel
theorem dX12_news_33 : decode cX12_news 33 = .ok (.ifCond .eq 20, 3) := by decide +kernel
theorem dX12_news_36 : decode cX12_news 36 = .ok (.aload_n 0, 1) := by decide +kernel
theorem dX12_news_37 : decode cX12_news 37 = .ok (.getfield 35, 3) := by decide +kernel
theorem dX12_news_40 : decode cX12_news 40 = .ok (.bipush 66, 2) := by decide +kernel
theorem dX12_news_42 : decode cX12_news 42 = .ok (.bipush 8, 2) := by decide +kernel
theorem dX12_news_44 : decode cX12_news 44 = .ok (.iload_n 2, 1) := by decide +kernel
theorem dX12_news_45 : decode cX12_news 45 = .ok (.imul, 1) := by decide +kernel
theorem dX12_news_46 : decode cX12_news 46 = .ok (.iadd, 1) := by decide +kernel
theorem dX12_news_47 : decode cX12_news 47 = .ok (.iload_n 1, 1) := by decide +kernel
theorem dX12_news_48 : decode cX12_news 48 = .ok (.iadd, 1) := by decide +kernel
theorem dX12_news_49 : decode cX12_news 49 = .ok (.iaload, 1) := by decide +kernel
theorem dX12_news_50 : decode cX12_news 50 = .ok (.goto 8, 3) := by decide +kernel
theorem dX12_news_53 : decode cX12_news 53 = .ok (.aload_n 0, 1) := by decide +kernel
theorem dX12_news_54 : decode cX12_news 54 = .ok (.iconst 5, 1) := by decide +kernel
theorem dX12_news_55 : decode cX12_news 55 = .ok (.invokevirtual 345, 3) := by decide +kernel
theorem dX12_news_58 : decode cX12_news 58 = .ok (.ireturn, 1) := by decide +kernel
theorem dX12_copyHeights_0 : decode cX12_copyHeights 0 = .ok (.aload_n 0, 1) := by decide +kernel
theorem dX12_copyHeights_1 : decode cX12_copyHeights 1 = .ok (.iconst 0, 1) := by decide +kernel
theorem dX12_copyHeights_2 : decode cX12_copyHeights 2 = .ok (.putfield 69, 3) := by decide +kernel
theorem dX12_copyHeights_5 : decode cX12_copyHeights 5 = .ok (.aload_n 0, 1) := by decide +kernel
theorem dX12_copyHeights_6 : decode cX12_copyHeights 6 = .ok (.iconst 0, 1) := by decide +kernel
theorem dX12_copyHeights_7 : decode cX12_copyHeights 7 = .ok (.putfield 72, 3) := by decide +kernel
theorem dX12_copyHeights_10 : decode cX12_copyHeights 10 = .ok (.aload_n 0, 1) := by decide +kernel
theorem dX12_copyHeights_11 : decode cX12_copyHeights 11 = .ok (.iload_n 1, 1) := by decide +kernel
theorem dX12_copyHeights_12 : decode cX12_copyHeights 12 = .ok (.invokevirtual 379, 3) := by decide +kernel
theorem dX12_copyHeights_15 : decode cX12_copyHeights 15 = .ok (.ifCond .ne 9, 3) := by decide +kernel
theorem dX12_copyHeights_18 : decode cX12_copyHeights 18 = .ok (.aload_n 0, 1) := by decide +kernel
theorem dX12_copyHeights_19 : decode cX12_copyHeights 19 = .ok (.iconst 1, 1) := by decide +kernel
theorem dX12_copyHeights_20 : decode cX12_copyHeights 20 = .ok (.invokevirtual 345, 3) := by decide +kernel
theorem dX12_copyHeights_23 : decode cX12_copyHeights 23 = .ok (.ireturn, 1) := by decide +kernel
theorem dX12_copyHeights_24 : decode cX12_copyHeights 24 = .ok (.aload_n 0, 1) := by decide +kernel
theorem dX12_copyHeights_25 : decode cX12_copyHeights 25 = .ok (.getfield 17, 3) := by decide +kernel
theorem dX12_copyHeights_28 : decode cX12_copyHeights 28 = .ok (.iload_n 1, 1) := by decide +kernel
theorem dX12_copyHeights_29 : decode cX12_copyHeights 29 = .ok (.iaload, 1) := by decide +kernel
theorem dX12_copyHeights_30 : decode cX12_copyHeights 30 = .ok (.ifCond .ge 9, 3) := by decide +kernel
theorem dX12_copyHeights_33 : decode cX12_copyHeights 33 = .ok (.aload_n 0, 1) := by decide +kernel
theorem dX12_copyHeights_34 : decode cX12_copyHeights 34 = .ok (.iconst 3, 1) := by decide +kernel
theorem dX12_copyHeights_35 : decode cX12_copyHeights 35 = .ok (.invokevirtual 345, 3) := by decide +kernel
theorem dX12_copyHeights_38 : decode cX12_copyHeights 38 = .ok (.ireturn, 1) := by decide +kernel
theorem dX12_copyHeights_39 : decode cX12_copyHeights 39 = .ok (.aload_n 0, 1) := by decide +kernel
theorem dX12_copyHeights_40 : decode cX12_copyHeights 40 = .ok (.getfield 17, 3) := by decide +kernel
theorem dX12_copyHeights_43 : decode cX12_copyHeights 43 = .ok (.iload_n 1, 1) := by decide +kernel
theorem dX12_copyHeights_44 : decode cX12_copyHeights 44 = .ok (.iaload, 1) := by decide +kernel
theorem dX12_copyHeights_45 : decode cX12_copyHeights 45 = .ok (.aload_n 0, 1) := by decide +kernel
theorem dX12_copyHeights_46 : decode cX12_copyHeights 46 = .ok (.getfield 35, 3) := by decide +kernel
theorem dX12_copyHeights_49 : decode cX12_copyHeights 49 = .ok (.iconst 2, 1) := by decide +kernel
theorem dX12_copyHeights_50 : decode cX12_copyHeights 50 = .ok (.iaload, 1) := by decide +kernel
theorem dX12_copyHeights_51 : decode cX12_copyHeights 51 = .ok (.if_icmp .ge 9, 3) := by decide +kernel
theorem dX12_copyHeights_54 : decode cX12_copyHeights 54 = .ok (.aload_n 0, 1) := by decide +kernel
theorem dX12_copyHeights_55 : decode cX12_copyHeights 55 = .ok (.iconst 4, 1) := by decide +kernel
theorem dX12_copyHeights_56 : decode cX12_copyHeights 56 = .ok (.invokevirtual 345, 3) := by decide +kernel
theorem dX12_copyHeights_59 : decode cX12_copyHeights 59 = .ok (.ireturn, 1) := by decide +kernel
theorem dX12_copyHeights_60 : decode cX12_copyHeights 60 = .ok (.iconst 0, 1) := by decide +kernel
theorem dX12_copyHeights_61 : decode cX12_copyHeights 61 = .ok (.istore_n 2, 1) := by decide +kernel
theorem dX12_copyHeights_62 : decode cX12_copyHeights 62 = .ok (.iload_n 2, 1) := by decide +kernel
theorem dX12_copyHeights_63 : decode cX12_copyHeights 63 = .ok (.aload_n 0, 1) := by decide +kernel
theorem dX12_copyHeights_64 : decode cX12_copyHeights 64 = .ok (.getfield 35, 3) := by decide +kernel
theorem dX12_copyHeights_67 : decode cX12_copyHeights 67 = .ok (.iconst 2, 1) := by decide +kernel
theorem dX12_copyHeights_68 : decode cX12_copyHeights 68 = .ok (.iaload, 1) := by decide +kernel
theorem dX12_copyHeights_69 : decode cX12_copyHeights 69 = .ok (.if_icmp .ge 22, 3) := by decide +kernel
theorem dX12_copyHeights_72 : decode cX12_copyHeights 72 = .ok (.aload_n 0, 1) := by decide +kernel
theorem dX12_copyHeights_73 : decode cX12_copyHeights 73 = .ok (.iload_n 1, 1) := by decide +kernel
theorem dX12_copyHeights_74 : decode cX12_copyHeights 74 = .ok (.iload_n 2, 1) := by decide +kernel
theorem dX12_copyHeights_75 : decode cX12_copyHeights 75 = .ok (.aload_n 0, 1) := by decide +kernel
theorem dX12_copyHeights_76 : decode cX12_copyHeights 76 = .ok (.iload_n 2, 1) := by decide +kernel
theorem dX12_copyHeights_77 : decode cX12_copyHeights 77 = .ok (.invokevirtual 340, 3) := by decide +kernel
theorem dX12_copyHeights_80 : decode cX12_copyHeights 80 = .ok (.i2l, 1) := by decide +kernel
theorem dX12_copyHeights_81 : decode cX12_copyHeights 81 = .ok (.invokevirtual 382, 3) := by decide +kernel
theorem dX12_copyHeights_84 : decode cX12_copyHeights 84 = .ok (.pop, 1) := by decide +kernel
theorem dX12_copyHeights_85 : decode cX12_copyHeights 85 = .ok (.iinc 2 1, 3) := by decide +kernel
theorem dX12_copyHeights_88 : decode cX12_copyHeights 88 = .ok (.goto (-26), 3) := by decide +kernel
theorem dX12_copyHeights_91 : decode cX12_copyHeights 91 = .ok (.aload_n 0, 1) := by decide +kernel
theorem dX12_copyHeights_92 : decode cX12_copyHeights 92 = .ok (.getfield 35, 3) := by decide +kernel
theorem dX12_copyHeights_95 : decode cX12_copyHeights 95 = .ok (.iconst 2, 1) := by decide +kernel
theorem dX12_copyHeights_96 : decode cX12_copyHeights 96 = .ok (.iaload, 1) := by decide +kernel
theorem dX12_copyHeights_97 : decode cX12_copyHeights 97 = .ok (.ireturn, 1) := by decide +kernel
theorem dX12_clears_0 : decode cX12_clears 0 = .ok (.aload_n 0, 1) := by decide +kernel
theorem dX12_clears_1 : decode cX12_clears 1 = .ok (.getfield 35, 3) := by decide +kernel
theorem dX12_clears_4 : decode cX12_clears 4 = .ok (.bipush 6, 2) := by decide +kernel
theorem dX12_clears_6 : decode cX12_clears 6 = .ok (.iload_n 1, 1) := by decide +kernel
theorem dX12_clears_7 : decode cX12_clears 7 = .ok (.iadd, 1) := by decide +kernel
theorem dX12_clears_8 : decode cX12_clears 8 = .ok (.bipush 100, 2) := by decide +kernel
theorem dX12_clears_10 : decode cX12_clears 10 = .ok (.aload_n 0, 1) := by decide +kernel
theorem dX12_clears_11 : decode cX12_clears 11 = .ok (.getfield 35, 3) := by decide +kernel
theorem dX12_clears_14 : decode cX12_clears 14 = .ok (.bipush 6, 2) := by decide +kernel
theorem dX12_clears_16 : decode cX12_clears 16 = .ok (.iload_n 1, 1) := by decide +kernel
theorem dX12_clears_17 : decode cX12_clears 17 = .ok (.iadd, 1) := by decide +kernel
theorem dX12_clears_18 : decode cX12_clears 18 = .ok (.iaload, 1) := by decide +kernel
theorem dX12_clears_19 : decode cX12_clears 19 = .ok (.iload_n 2, 1) := by decide +kernel
theorem dX12_clears_20 : decode cX12_clears 20 = .ok (.iadd, 1) := by decide +kernel
theorem dX12_clears_21 : decode cX12_clears 21 = .ok (.invokestatic 386, 3) := by decide +kernel
theorem dX12_clears_24 : decode cX12_clears 24 = .ok (.iastore, 1) := by decide +kernel
theorem dX12_clears_25 : decode cX12_clears 25 = .ok (.return_, 1) := by decide +kernel
theorem dX12_passes_0 : decode cX12_passes 0 = .ok (.aload_n 0, 1) := by decide +kernel
theorem dX12_passes_1 : decode cX12_passes 1 = .ok (.invokevirtual 348, 3) := by decide +kernel
theorem dX12_passes_4 : decode cX12_passes 4 = .ok (.istore_n 1, 1) := by decide +kernel
theorem dX12_passes_5 : decode cX12_passes 5 = .ok (.iconst 0, 1) := by decide +kernel
theorem dX12_passes_6 : decode cX12_passes 6 = .ok (.istore_n 2, 1) := by decide +kernel
theorem dX12_passes_7 : decode cX12_passes 7 = .ok (.iload_n 2, 1) := by decide +kernel
theorem dX12_passes_8 : decode cX12_passes 8 = .ok (.aload_n 0, 1) := by decide +kernel
theorem dX12_passes_9 : decode cX12_passes 9 = .ok (.getfield 35, 3) := by decide +kernel
theorem dX12_passes_12 : decode cX12_passes 12 = .ok (.iconst 0, 1) := by decide +kernel
theorem dX12_passes_13 : decode cX12_passes 13 = .ok (.iaload, 1) := by decide +kernel
theorem dX12_passes_14 : decode cX12_passes 14 = .ok (.if_icmp .ge 31, 3) := by decide +kernel
theorem dX12_passes_17 : decode cX12_passes 17 = .ok (.iload_n 1, 1) := by decide +kernel
theorem dX12_passes_18 : decode cX12_passes 18 = .ok (.iload_n 2, 1) := by decide +kernel
theorem dX12_passes_19 : decode cX12_passes 19 = .ok (.invokestatic 108, 3) := by decide +kernel
theorem dX12_passes_22 : decode cX12_passes 22 = .ok (.ifCond .ne 17, 3) := by decide +kernel
theorem dX12_passes_25 : decode cX12_passes 25 = .ok (.aload_n 0, 1) := by decide +kernel
theorem dX12_passes_26 : decode cX12_passes 26 = .ok (.iload_n 2, 1) := by decide +kernel
theorem dX12_passes_27 : decode cX12_passes 27 = .ok (.aload_n 0, 1) := by decide +kernel
theorem dX12_passes_28 : decode cX12_passes 28 = .ok (.getfield 35, 3) := by decide +kernel
theorem dX12_passes_31 : decode cX12_passes 31 = .ok (.bipush 12, 2) := by decide +kernel
theorem dX12_passes_33 : decode cX12_passes 33 = .ok (.iload_n 2, 1) := by decide +kernel
theorem dX12_passes_34 : decode cX12_passes 34 = .ok (.iadd, 1) := by decide +kernel
theorem dX12_passes_35 : decode cX12_passes 35 = .ok (.iaload, 1) := by decide +kernel
theorem dX12_passes_36 : decode cX12_passes 36 = .ok (.invokevirtual 389, 3) := by decide +kernel
theorem dX12_passes_39 : decode cX12_passes 39 = .ok (.iinc 2 1, 3) := by decide +kernel
theorem dX12_passes_42 : decode cX12_passes 42 = .ok (.goto (-35), 3) := by decide +kernel
theorem dX12_passes_45 : decode cX12_passes 45 = .ok (.aload_n 0, 1) := by decide +kernel
theorem dX12_passes_46 : decode cX12_passes 46 = .ok (.getfield 35, 3) := by decide +kernel
theorem dX12_passes_49 : decode cX12_passes 49 = .ok (.iconst 5, 1) := by decide +kernel
theorem dX12_passes_50 : decode cX12_passes 50 = .ok (.dup2, 1) := by decide +kernel
theorem dX12_passes_51 : decode cX12_passes 51 = .ok (.iaload, 1) := by decide +kernel
theorem dX12_passes_52 : decode cX12_passes 52 = .ok (.iconst 1, 1) := by decide +kernel
theorem dX12_passes_53 : decode cX12_passes 53 = .ok (.iadd, 1) := by decide +kernel
theorem dX12_passes_54 : decode cX12_passes 54 = .ok (.iastore, 1) := by decide +kernel
theorem dX12_passes_55 : decode cX12_passes 55 = .ok (.return_, 1) := by decide +kernel
theorem dX12_day_0 : decode cX12_day 0 = .ok (.aload_n 0, 1) := by decide +kernel
theorem dX12_day_1 : decode cX12_day 1 = .ok (.iconst 0, 1) := by decide +kernel
theorem dX12_day_2 : decode cX12_day 2 = .ok (.putfield 69, 3) := by decide +kernel
theorem dX12_day_5 : decode cX12_day 5 = .ok (.aload_n 0, 1) := by decide +kernel
theorem dX12_day_6 : decode cX12_day 6 = .ok (.iconst 0, 1) := by decide +kernel
theorem dX12_day_7 : decode cX12_day 7 = .ok (.putfield 72, 3) := by decide +kernel
theorem dX12_day_10 : decode cX12_day 10 = .ok (.iload_n 1, 1) := by decide +kernel
theorem dX12_day_11 : decode cX12_day 11 = .ok (.i2l, 1) := by decide +kernel
theorem dX12_day_12 : decode cX12_day 12 = .ok (.lconst 1, 1) := by decide +kernel
theorem dX12_day_13 : decode cX12_day 13 = .ok (.ldc2_w 392, 3) := by decide +kernel
theorem dX12_day_16 : decode cX12_day 16 = .ok (.invokestatic 104, 3) := by decide +kernel
theorem dX12_day_19 : decode cX12_day 19 = .ok (.ifCond .ne 9, 3) := by decide +kernel
theorem dX12_day_22 : decode cX12_day 22 = .ok (.aload_n 0, 1) := by decide +kernel
theorem dX12_day_23 : decode cX12_day 23 = .ok (.iconst 5, 1) := by decide +kernel
theorem dX12_day_24 : decode cX12_day 24 = .ok (.invokevirtual 345, 3) := by decide +kernel
theorem dX12_day_27 : decode cX12_day 27 = .ok (.ireturn, 1) := by decide +kernel
theorem dX12_day_28 : decode cX12_day 28 = .ok (.aload_n 0, 1) := by decide +kernel
theorem dX12_day_29 : decode cX12_day 29 = .ok (.getfield 35, 3) := by decide +kernel
theorem dX12_day_32 : decode cX12_day 32 = .ok (.iconst 5, 1) := by decide +kernel
theorem dX12_day_33 : decode cX12_day 33 = .ok (.iaload, 1) := by decide +kernel
theorem dX12_day_34 : decode cX12_day 34 = .ok (.iload_n 1, 1) := by decide +kernel
theorem dX12_day_35 : decode cX12_day 35 = .ok (.iadd, 1) := by decide +kernel
theorem dX12_day_36 : decode cX12_day 36 = .ok (.sipush 9999, 3) := by decide +kernel
theorem dX12_day_39 : decode cX12_day 39 = .ok (.if_icmp .le 10, 3) := by decide +kernel
theorem dX12_day_42 : decode cX12_day 42 = .ok (.aload_n 0, 1) := by decide +kernel
theorem dX12_day_43 : decode cX12_day 43 = .ok (.bipush 7, 2) := by decide +kernel
theorem dX12_day_45 : decode cX12_day 45 = .ok (.invokevirtual 345, 3) := by decide +kernel
theorem dX12_day_48 : decode cX12_day 48 = .ok (.ireturn, 1) := by decide +kernel
theorem dX12_day_49 : decode cX12_day 49 = .ok (.iconst 0, 1) := by decide +kernel
theorem dX12_day_50 : decode cX12_day 50 = .ok (.istore_n 2, 1) := by decide +kernel
theorem dX12_day_51 : decode cX12_day 51 = .ok (.iload_n 2, 1) := by decide +kernel
theorem dX12_day_52 : decode cX12_day 52 = .ok (.iload_n 1, 1) := by decide +kernel
theorem dX12_day_53 : decode cX12_day 53 = .ok (.if_icmp .ge 13, 3) := by decide +kernel
theorem dX12_day_56 : decode cX12_day 56 = .ok (.aload_n 0, 1) := by decide +kernel
theorem dX12_day_57 : decode cX12_day 57 = .ok (.invokevirtual 394, 3) := by decide +kernel
theorem dX12_day_60 : decode cX12_day 60 = .ok (.iinc 2 1, 3) := by decide +kernel
theorem dX12_day_63 : decode cX12_day 63 = .ok (.goto (-12), 3) := by decide +kernel
theorem dX12_day_66 : decode cX12_day 66 = .ok (.aload_n 0, 1) := by decide +kernel
theorem dX12_day_67 : decode cX12_day 67 = .ok (.invokevirtual 351, 3) := by decide +kernel
theorem dX12_day_70 : decode cX12_day 70 = .ok (.ireturn, 1) := by decide +kernel
theorem dX12_canBring_0 : decode cX12_canBring 0 = .ok (.aload_n 0, 1) := by decide +kernel
theorem dX12_canBring_1 : decode cX12_canBring 1 = .ok (.iload_n 1, 1) := by decide +kernel
theorem dX12_canBring_2 : decode cX12_canBring 2 = .ok (.invokevirtual 374, 3) := by decide +kernel
theorem dX12_canBring_5 : decode cX12_canBring 5 = .ok (.ifCond .eq 35, 3) := by decide +kernel
theorem dX12_canBring_8 : decode cX12_canBring 8 = .ok (.aload_n 0, 1) := by decide +kernel
theorem dX12_canBring_9 : decode cX12_canBring 9 = .ok (.getfield 35, 3) := by decide +kernel
theorem dX12_canBring_12 : decode cX12_canBring 12 = .ok (.bipush 82, 2) := by decide +kernel
theorem dX12_canBring_14 : decode cX12_canBring 14 = .ok (.iload_n 1, 1) := by decide +kernel
theorem dX12_canBring_15 : decode cX12_canBring 15 = .ok (.iadd, 1) := by decide +kernel
theorem dX12_canBring_16 : decode cX12_canBring 16 = .ok (.iaload, 1) := by decide +kernel
theorem dX12_canBring_17 : decode cX12_canBring 17 = .ok (.ifCond .ne 23, 3) := by decide +kernel
theorem dX12_canBring_20 : decode cX12_canBring 20 = .ok (.aload_n 0, 1) := by decide +kernel
theorem dX12_canBring_21 : decode cX12_canBring 21 = .ok (.aload_n 0, 1) := by decide +kernel
theorem dX12_canBring_22 : decode cX12_canBring 22 = .ok (.getfield 35, 3) := by decide +kernel
theorem dX12_canBring_25 : decode cX12_canBring 25 = .ok (.bipush 66, 2) := by decide +kernel
theorem dX12_canBring_27 : decode cX12_canBring 27 = .ok (.iload_n 1, 1) := by decide +kernel
theorem dX12_canBring_28 : decode cX12_canBring 28 = .ok (.iadd, 1) := by decide +kernel
theorem dX12_canBring_29 : decode cX12_canBring 29 = .ok (.iaload, 1) := by decide +kernel
theorem dX12_canBring_30 : decode cX12_canBring 30 = .ok (.invokevirtual 328, 3) := by decide +kernel
theorem dX12_canBring_33 : decode cX12_canBring 33 = .ok (.ifCond .ne 7, 3) := by decide +kernel
theorem dX12_canBring_36 : decode cX12_canBring 36 = .ok (.iconst 1, 1) := by decide +kernel
theorem dX12_canBring_37 : decode cX12_canBring 37 = .ok (.goto 4, 3) := by decide +kernel
theorem dX12_canBring_40 : decode cX12_canBring 40 = .ok (.iconst 0, 1) := by decide +kernel
theorem dX12_canBring_41 : decode cX12_canBring 41 = .ok (.ireturn, 1) := by decide +kernel
theorem dX12_brings_0 : decode cX12_brings 0 = .ok (.aload_n 0, 1) := by decide +kernel
theorem dX12_brings_1 : decode cX12_brings 1 = .ok (.iload_n 1, 1) := by decide +kernel
theorem dX12_brings_2 : decode cX12_brings 2 = .ok (.invokevirtual 397, 3) := by decide +kernel
theorem dX12_brings_5 : decode cX12_brings 5 = .ok (.ifCond .ne 5, 3) := by decide +kernel
theorem dX12_brings_8 : decode cX12_brings 8 = .ok (.iconst 0, 1) := by decide +kernel
theorem dX12_brings_9 : decode cX12_brings 9 = .ok (.ireturn, 1) := by decide +kernel
theorem dX12_brings_10 : decode cX12_brings 10 = .ok (.aload_n 0, 1) := by decide +kernel
theorem dX12_brings_11 : decode cX12_brings 11 = .ok (.getfield 35, 3) := by decide +kernel
theorem dX12_brings_14 : decode cX12_brings 14 = .ok (.bipush 82, 2) := by decide +kernel
theorem dX12_brings_16 : decode cX12_brings 16 = .ok (.iload_n 1, 1) := by decide +kernel
theorem dX12_brings_17 : decode cX12_brings 17 = .ok (.iadd, 1) := by decide +kernel
theorem dX12_brings_18 : decode cX12_brings 18 = .ok (.iconst 1, 1) := by decide +kernel
theorem dX12_brings_19 : decode cX12_brings 19 = .ok (.iastore, 1) := by decide +kernel
theorem dX12_brings_20 : decode cX12_brings 20 = .ok (.aload_n 0, 1) := by decide +kernel
theorem dX12_brings_21 : decode cX12_brings 21 = .ok (.aload_n 0, 1) := by decide +kernel
theorem dX12_brings_22 : decode cX12_brings 22 = .ok (.getfield 35, 3) := by decide +kernel
theorem dX12_brings_25 : decode cX12_brings 25 = .ok (.bipush 66, 2) := by decide +kernel
theorem dX12_brings_27 : decode cX12_brings 27 = .ok (.iload_n 1, 1) := by decide +kernel
theorem dX12_brings_28 : decode cX12_brings 28 = .ok (.iadd, 1) := by decide +kernel
theorem dX12_brings_29 : decode cX12_brings 29 = .ok (.iaload, 1) := by decide +kernel
theorem dX12_brings_30 : decode cX12_brings 30 = .ok (.aload_n 0, 1) := by decide +kernel
theorem dX12_brings_31 : decode cX12_brings 31 = .ok (.getfield 35, 3) := by decide +kernel
theorem dX12_brings_34 : decode cX12_brings 34 = .ok (.bipush 74, 2) := by decide +kernel
theorem dX12_brings_36 : decode cX12_brings 36 = .ok (.iload_n 1, 1) := by decide +kernel
theorem dX12_brings_37 : decode cX12_brings 37 = .ok (.iadd, 1) := by decide +kernel
theorem dX12_brings_38 : decode cX12_brings 38 = .ok (.iaload, 1) := by decide +kernel
theorem dX12_brings_39 : decode cX12_brings 39 = .ok (.invokevirtual 389, 3) := by decide +kernel
theorem dX12_brings_42 : decode cX12_brings 42 = .ok (.iconst 1, 1) := by decide +kernel
theorem dX12_brings_43 : decode cX12_brings 43 = .ok (.ireturn, 1) := by decide +kernel
theorem dX12_bring_0 : decode cX12_bring 0 = .ok (.aload_n 0, 1) := by decide +kernel
theorem dX12_bring_1 : decode cX12_bring 1 = .ok (.iconst 0, 1) := by decide +kernel
theorem dX12_bring_2 : decode cX12_bring 2 = .ok (.putfield 69, 3) := by decide +kernel
theorem dX12_bring_5 : decode cX12_bring 5 = .ok (.aload_n 0, 1) := by decide +kernel
theorem dX12_bring_6 : decode cX12_bring 6 = .ok (.iconst 0, 1) := by decide +kernel
theorem dX12_bring_7 : decode cX12_bring 7 = .ok (.putfield 72, 3) := by decide +kernel
theorem dX12_bring_10 : decode cX12_bring 10 = .ok (.aload_n 0, 1) := by decide +kernel
theorem dX12_bring_11 : decode cX12_bring 11 = .ok (.iload_n 1, 1) := by decide +kernel
theorem dX12_bring_12 : decode cX12_bring 12 = .ok (.invokevirtual 374, 3) := by decide +kernel
theorem dX12_bring_15 : decode cX12_bring 15 = .ok (.ifCond .ne 9, 3) := by decide +kernel
theorem dX12_bring_18 : decode cX12_bring 18 = .ok (.aload_n 0, 1) := by decide +kernel
theorem dX12_bring_19 : decode cX12_bring 19 = .ok (.iconst 2, 1) := by decide +kernel
theorem dX12_bring_20 : decode cX12_bring 20 = .ok (.invokevirtual 345, 3) := by decide +kernel
theorem dX12_bring_23 : decode cX12_bring 23 = .ok (.ireturn, 1) := by decide +kernel
theorem dX12_bring_24 : decode cX12_bring 24 = .ok (.aload_n 0, 1) := by decide +kernel
theorem dX12_bring_25 : decode cX12_bring 25 = .ok (.iload_n 1, 1) := by decide +kernel
theorem dX12_bring_26 : decode cX12_bring 26 = .ok (.invokevirtual 400, 3) := by decide +kernel
theorem dX12_bring_29 : decode cX12_bring 29 = .ok (.ifCond .eq 23, 3) := by decide +kernel
theorem dX12_bring_32 : decode cX12_bring 32 = .ok (.aload_n 0, 1) := by decide +kernel
theorem dX12_bring_33 : decode cX12_bring 33 = .ok (.getfield 35, 3) := by decide +kernel
theorem dX12_bring_36 : decode cX12_bring 36 = .ok (.bipush 6, 2) := by decide +kernel
theorem dX12_bring_38 : decode cX12_bring 38 = .ok (.aload_n 0, 1) := by decide +kernel
theorem dX12_bring_39 : decode cX12_bring 39 = .ok (.getfield 35, 3) := by decide +kernel
theorem dX12_bring_42 : decode cX12_bring 42 = .ok (.bipush 66, 2) := by decide +kernel
theorem dX12_bring_44 : decode cX12_bring 44 = .ok (.iload_n 1, 1) := by decide +kernel
theorem dX12_bring_45 : decode cX12_bring 45 = .ok (.iadd, 1) := by decide +kernel
theorem dX12_bring_46 : decode cX12_bring 46 = .ok (.iaload, 1) := by decide +kernel
theorem dX12_bring_47 : decode cX12_bring 47 = .ok (.iadd, 1) := by decide +kernel
theorem dX12_bring_48 : decode cX12_bring 48 = .ok (.iaload, 1) := by decide +kernel
theorem dX12_bring_49 : decode cX12_bring 49 = .ok (.goto 9, 3) := by decide +kernel
theorem dX12_bring_52 : decode cX12_bring 52 = .ok (.aload_n 0, 1) := by decide +kernel
theorem dX12_bring_53 : decode cX12_bring 53 = .ok (.bipush 9, 2) := by decide +kernel
theorem dX12_bring_55 : decode cX12_bring 55 = .ok (.invokevirtual 345, 3) := by decide +kernel
theorem dX12_bring_58 : decode cX12_bring 58 = .ok (.ireturn, 1) := by decide +kernel
theorem dX12_clouds_0 : decode cX12_clouds 0 = .ok (.aload_n 0, 1) := by decide +kernel
theorem dX12_clouds_1 : decode cX12_clouds 1 = .ok (.getfield 35, 3) := by decide +kernel
theorem dX12_clouds_4 : decode cX12_clouds 4 = .ok (.bipush 6, 2) := by decide +kernel
theorem dX12_clouds_6 : decode cX12_clouds 6 = .ok (.iload_n 1, 1) := by decide +kernel
theorem dX12_clouds_7 : decode cX12_clouds 7 = .ok (.iadd, 1) := by decide +kernel
theorem dX12_clouds_8 : decode cX12_clouds 8 = .ok (.iaload, 1) := by decide +kernel
theorem dX12_clouds_9 : decode cX12_clouds 9 = .ok (.ifCond .ne 5, 3) := by decide +kernel
theorem dX12_clouds_12 : decode cX12_clouds 12 = .ok (.iconst 0, 1) := by decide +kernel
theorem dX12_clouds_13 : decode cX12_clouds 13 = .ok (.ireturn, 1) := by decide +kernel
theorem dX12_clouds_14 : decode cX12_clouds 14 = .ok (.aload_n 0, 1) := by decide +kernel
theorem dX12_clouds_15 : decode cX12_clouds 15 = .ok (.getfield 35, 3) := by decide +kernel
theorem dX12_clouds_18 : decode cX12_clouds 18 = .ok (.bipush 6, 2) := by decide +kernel
theorem dX12_clouds_20 : decode cX12_clouds 20 = .ok (.iload_n 1, 1) := by decide +kernel
theorem dX12_clouds_21 : decode cX12_clouds 21 = .ok (.iadd, 1) := by decide +kernel
theorem dX12_clouds_22 : decode cX12_clouds 22 = .ok (.iconst 0, 1) := by decide +kernel
theorem dX12_clouds_23 : decode cX12_clouds 23 = .ok (.aload_n 0, 1) := by decide +kernel
theorem dX12_clouds_24 : decode cX12_clouds 24 = .ok (.getfield 35, 3) := by decide +kernel
theorem dX12_clouds_27 : decode cX12_clouds 27 = .ok (.bipush 6, 2) := by decide +kernel
theorem dX12_clouds_29 : decode cX12_clouds 29 = .ok (.iload_n 1, 1) := by decide +kernel
theorem dX12_clouds_30 : decode cX12_clouds 30 = .ok (.iadd, 1) := by decide +kernel
theorem dX12_clouds_31 : decode cX12_clouds 31 = .ok (.iaload, 1) := by decide +kernel
theorem dX12_clouds_32 : decode cX12_clouds 32 = .ok (.iload_n 2, 1) := by decide +kernel
theorem dX12_clouds_33 : decode cX12_clouds 33 = .ok (.isub, 1) := by decide +kernel
theorem dX12_clouds_34 : decode cX12_clouds 34 = .ok (.invokestatic 247, 3) := by decide +kernel
theorem dX12_clouds_37 : decode cX12_clouds 37 = .ok (.iastore, 1) := by decide +kernel
theorem dX12_clouds_38 : decode cX12_clouds 38 = .ok (.iconst 1, 1) := by decide +kernel
theorem dX12_clouds_39 : decode cX12_clouds 39 = .ok (.ireturn, 1) := by decide +kernel
theorem dX12_crisis_0 : decode cX12_crisis 0 = .ok (.aload_n 0, 1) := by decide +kernel
theorem dX12_crisis_1 : decode cX12_crisis 1 = .ok (.iconst 0, 1) := by decide +kernel
theorem dX12_crisis_2 : decode cX12_crisis 2 = .ok (.putfield 69, 3) := by decide +kernel
theorem dX12_crisis_5 : decode cX12_crisis 5 = .ok (.aload_n 0, 1) := by decide +kernel
theorem dX12_crisis_6 : decode cX12_crisis 6 = .ok (.iconst 0, 1) := by decide +kernel
theorem dX12_crisis_7 : decode cX12_crisis 7 = .ok (.putfield 72, 3) := by decide +kernel
theorem dX12_crisis_10 : decode cX12_crisis 10 = .ok (.aload_n 0, 1) := by decide +kernel
theorem dX12_crisis_11 : decode cX12_crisis 11 = .ok (.iload_n 1, 1) := by decide +kernel
theorem dX12_crisis_12 : decode cX12_crisis 12 = .ok (.invokevirtual 357, 3) := by decide +kernel
theorem dX12_crisis_15 : decode cX12_crisis 15 = .ok (.ifCond .ne 9, 3) := by decide +kernel
theorem dX12_crisis_18 : decode cX12_crisis 18 = .ok (.aload_n 0, 1) := by decide +kernel
theorem dX12_crisis_19 : decode cX12_crisis 19 = .ok (.iconst 2, 1) := by decide +kernel
theorem dX12_crisis_20 : decode cX12_crisis 20 = .ok (.invokevirtual 345, 3) := by decide +kernel
theorem dX12_crisis_23 : decode cX12_crisis 23 = .ok (.ireturn, 1) := by decide +kernel
theorem dX12_crisis_24 : decode cX12_crisis 24 = .ok (.iload_n 2, 1) := by decide +kernel
theorem dX12_crisis_25 : decode cX12_crisis 25 = .ok (.i2l, 1) := by decide +kernel
theorem dX12_crisis_26 : decode cX12_crisis 26 = .ok (.lconst 1, 1) := by decide +kernel
theorem dX12_crisis_27 : decode cX12_crisis 27 = .ok (.ldc2_w 157, 3) := by decide +kernel
theorem dX12_crisis_30 : decode cX12_crisis 30 = .ok (.invokestatic 104, 3) := by decide +kernel
theorem dX12_crisis_33 : decode cX12_crisis 33 = .ok (.ifCond .ne 9, 3) := by decide +kernel
theorem dX12_crisis_36 : decode cX12_crisis 36 = .ok (.aload_n 0, 1) := by decide +kernel
theorem dX12_crisis_37 : decode cX12_crisis 37 = .ok (.iconst 5, 1) := by decide +kernel
theorem dX12_crisis_38 : decode cX12_crisis 38 = .ok (.invokevirtual 345, 3) := by decide +kernel
theorem dX12_crisis_41 : decode cX12_crisis 41 = .ok (.ireturn, 1) := by decide +kernel
theorem dX12_crisis_42 : decode cX12_crisis 42 = .ok (.aload_n 0, 1) := by decide +kernel
theorem dX12_crisis_43 : decode cX12_crisis 43 = .ok (.iload_n 1, 1) := by decide +kernel
theorem dX12_crisis_44 : decode cX12_crisis 44 = .ok (.iload_n 2, 1) := by decide +kernel
theorem dX12_crisis_45 : decode cX12_crisis 45 = .ok (.invokevirtual 403, 3) := by decide +kernel
theorem dX12_crisis_48 : decode cX12_crisis 48 = .ok (.ifCond .eq 15, 3) := by decide +kernel
theorem dX12_crisis_51 : decode cX12_crisis 51 = .ok (.aload_n 0, 1) := by decide +kernel
theorem dX12_crisis_52 : decode cX12_crisis 52 = .ok (.getfield 35, 3) := by decide +kernel
theorem dX12_crisis_55 : decode cX12_crisis 55 = .ok (.bipush 6, 2) := by decide +kernel
theorem dX12_crisis_57 : decode cX12_crisis 57 = .ok (.iload_n 1, 1) := by decide +kernel
theorem dX12_crisis_58 : decode cX12_crisis 58 = .ok (.iadd, 1) := by decide +kernel
theorem dX12_crisis_59 : decode cX12_crisis 59 = .ok (.iaload, 1) := by decide +kernel
theorem dX12_crisis_60 : decode cX12_crisis 60 = .ok (.goto 9, 3) := by decide +kernel
theorem dX12_crisis_63 : decode cX12_crisis 63 = .ok (.aload_n 0, 1) := by decide +kernel
theorem dX12_crisis_64 : decode cX12_crisis 64 = .ok (.bipush 9, 2) := by decide +kernel
theorem dX12_crisis_66 : decode cX12_crisis 66 = .ok (.invokevirtual 345, 3) := by decide +kernel
theorem dX12_crisis_69 : decode cX12_crisis 69 = .ok (.ireturn, 1) := by decide +kernel
theorem dX12_becomes_0 : decode cX12_becomes 0 = .ok (.aload_n 0, 1) := by decide +kernel
theorem dX12_becomes_1 : decode cX12_becomes 1 = .ok (.getfield 35, 3) := by decide +kernel
theorem dX12_becomes_4 : decode cX12_becomes 4 = .ok (.iload_n 1, 1) := by decide +kernel
theorem dX12_becomes_5 : decode cX12_becomes 5 = .ok (.iaload, 1) := by decide +kernel
theorem dX12_becomes_6 : decode cX12_becomes 6 = .ok (.iload_n 2, 1) := by decide +kernel
theorem dX12_becomes_7 : decode cX12_becomes 7 = .ok (.if_icmp .ne 5, 3) := by decide +kernel
theorem dX12_becomes_10 : decode cX12_becomes 10 = .ok (.iconst 0, 1) := by decide +kernel
theorem dX12_becomes_11 : decode cX12_becomes 11 = .ok (.ireturn, 1) := by decide +kernel
theorem dX12_becomes_12 : decode cX12_becomes 12 = .ok (.aload_n 0, 1) := by decide +kernel
theorem dX12_becomes_13 : decode cX12_becomes 13 = .ok (.getfield 35, 3) := by decide +kernel
theorem dX12_becomes_16 : decode cX12_becomes 16 = .ok (.iload_n 1, 1) := by decide +kernel
theorem dX12_becomes_17 : decode cX12_becomes 17 = .ok (.iload_n 2, 1) := by decide +kernel
theorem dX12_becomes_18 : decode cX12_becomes 18 = .ok (.iastore, 1) := by decide +kernel
theorem dX12_becomes_19 : decode cX12_becomes 19 = .ok (.iconst 1, 1) := by decide +kernel
theorem dX12_becomes_20 : decode cX12_becomes 20 = .ok (.ireturn, 1) := by decide +kernel
theorem dX12_turn_0 : decode cX12_turn 0 = .ok (.aload_n 0, 1) := by decide +kernel
theorem dX12_turn_1 : decode cX12_turn 1 = .ok (.iconst 0, 1) := by decide +kernel
theorem dX12_turn_2 : decode cX12_turn 2 = .ok (.putfield 69, 3) := by decide +kernel
theorem dX12_turn_5 : decode cX12_turn 5 = .ok (.aload_n 0, 1) := by decide +kernel
theorem dX12_turn_6 : decode cX12_turn 6 = .ok (.iconst 0, 1) := by decide +kernel
theorem dX12_turn_7 : decode cX12_turn 7 = .ok (.putfield 72, 3) := by decide +kernel
theorem dX12_turn_10 : decode cX12_turn 10 = .ok (.aload_n 0, 1) := by decide +kernel
theorem dX12_turn_11 : decode cX12_turn 11 = .ok (.iload_n 1, 1) := by decide +kernel
theorem dX12_turn_12 : decode cX12_turn 12 = .ok (.invokevirtual 371, 3) := by decide +kernel
theorem dX12_turn_15 : decode cX12_turn 15 = .ok (.ifCond .eq 11, 3) := by decide +kernel
theorem dX12_turn_18 : decode cX12_turn 18 = .ok (.aload_n 0, 1) := by decide +kernel
theorem dX12_turn_19 : decode cX12_turn 19 = .ok (.iload_n 2, 1) := by decide +kernel
theorem dX12_turn_20 : decode cX12_turn 20 = .ok (.invokevirtual 357, 3) := by decide +kernel
theorem dX12_turn_23 : decode cX12_turn 23 = .ok (.ifCond .ne 9, 3) := by decide +kernel
theorem dX12_turn_26 : decode cX12_turn 26 = .ok (.aload_n 0, 1) := by decide +kernel
theorem dX12_turn_27 : decode cX12_turn 27 = .ok (.iconst 2, 1) := by decide +kernel
theorem dX12_turn_28 : decode cX12_turn 28 = .ok (.invokevirtual 345, 3) := by decide +kernel
theorem dX12_turn_31 : decode cX12_turn 31 = .ok (.ireturn, 1) := by decide +kernel
theorem dX12_turn_32 : decode cX12_turn 32 = .ok (.aload_n 0, 1) := by decide +kernel
theorem dX12_turn_33 : decode cX12_turn 33 = .ok (.bipush 52, 2) := by decide +kernel
theorem dX12_turn_35 : decode cX12_turn 35 = .ok (.iload_n 1, 1) := by decide +kernel
theorem dX12_turn_36 : decode cX12_turn 36 = .ok (.iadd, 1) := by decide +kernel
theorem dX12_turn_37 : decode cX12_turn 37 = .ok (.iload_n 2, 1) := by decide +kernel
theorem dX12_turn_38 : decode cX12_turn 38 = .ok (.invokevirtual 406, 3) := by decide +kernel
theorem dX12_turn_41 : decode cX12_turn 41 = .ok (.ifCond .eq 11, 3) := by decide +kernel
theorem dX12_turn_44 : decode cX12_turn 44 = .ok (.aload_n 0, 1) := by decide +kernel
theorem dX12_turn_45 : decode cX12_turn 45 = .ok (.iload_n 1, 1) := by decide +kernel
theorem dX12_turn_46 : decode cX12_turn 46 = .ok (.invokevirtual 340, 3) := by decide +kernel
theorem dX12_turn_49 : decode cX12_turn 49 = .ok (.goto 9, 3) := by decide +kernel
theorem dX12_turn_52 : decode cX12_turn 52 = .ok (.aload_n 0, 1) := by decide +kernel
theorem dX12_turn_53 : decode cX12_turn 53 = .ok (.bipush 9, 2) := by decide +kernel
theorem dX12_turn_55 : decode cX12_turn 55 = .ok (.invokevirtual 345, 3) := by decide +kernel
theorem dX12_turn_58 : decode cX12_turn 58 = .ok (.ireturn, 1) := by decide +kernel
theorem dX12_sit_0 : decode cX12_sit 0 = .ok (.aload_n 0, 1) := by decide +kernel
theorem dX12_sit_1 : decode cX12_sit 1 = .ok (.iconst 0, 1) := by decide +kernel
theorem dX12_sit_2 : decode cX12_sit 2 = .ok (.putfield 69, 3) := by decide +kernel
theorem dX12_sit_5 : decode cX12_sit 5 = .ok (.aload_n 0, 1) := by decide +kernel
theorem dX12_sit_6 : decode cX12_sit 6 = .ok (.iconst 0, 1) := by decide +kernel
theorem dX12_sit_7 : decode cX12_sit 7 = .ok (.putfield 72, 3) := by decide +kernel
theorem dX12_sit_10 : decode cX12_sit 10 = .ok (.aload_n 0, 1) := by decide +kernel
theorem dX12_sit_11 : decode cX12_sit 11 = .ok (.iload_n 3, 1) := by decide +kernel
theorem dX12_sit_12 : decode cX12_sit 12 = .ok (.invokevirtual 357, 3) := by decide +kernel
theorem dX12_sit_15 : decode cX12_sit 15 = .ok (.ifCond .ne 9, 3) := by decide +kernel
theorem dX12_sit_18 : decode cX12_sit 18 = .ok (.aload_n 0, 1) := by decide +kernel
theorem dX12_sit_19 : decode cX12_sit 19 = .ok (.iconst 2, 1) := by decide +kernel
theorem dX12_sit_20 : decode cX12_sit 20 = .ok (.invokevirtual 345, 3) := by decide +kernel
theorem dX12_sit_23 : decode cX12_sit 23 = .ok (.ireturn, 1) := by decide +kernel
theorem dX12_sit_24 : decode cX12_sit 24 = .ok (.iload_n 1, 1) := by decide +kernel
theorem dX12_sit_25 : decode cX12_sit 25 = .ok (.i2l, 1) := by decide +kernel
theorem dX12_sit_26 : decode cX12_sit 26 = .ok (.lconst 0, 1) := by decide +kernel
theorem dX12_sit_27 : decode cX12_sit 27 = .ok (.ldc2_w 409, 3) := by decide +kernel
theorem dX12_sit_30 : decode cX12_sit 30 = .ok (.invokestatic 104, 3) := by decide +kernel
theorem dX12_sit_33 : decode cX12_sit 33 = .ok (.ifCond .eq 15, 3) := by decide +kernel
theorem dX12_sit_36 : decode cX12_sit 36 = .ok (.iload_n 2, 1) := by decide +kernel
theorem dX12_sit_37 : decode cX12_sit 37 = .ok (.i2l, 1) := by decide +kernel
theorem dX12_sit_38 : decode cX12_sit 38 = .ok (.lconst 1, 1) := by decide +kernel
theorem dX12_sit_39 : decode cX12_sit 39 = .ok (.ldc2_w 411, 3) := by decide +kernel
theorem dX12_sit_42 : decode cX12_sit 42 = .ok (.invokestatic 104, 3) := by decide +kernel
theorem dX12_sit_45 : decode cX12_sit 45 = .ok (.ifCond .ne 9, 3) := by decide +kernel
theorem dX12_sit_48 : decode cX12_sit 48 = .ok (.aload_n 0, 1) := by decide +kernel
theorem dX12_sit_49 : decode cX12_sit 49 = .ok (.iconst 5, 1) := by decide +kernel
theorem dX12_sit_50 : decode cX12_sit 50 = .ok (.invokevirtual 345, 3) := by decide +kernel
theorem dX12_sit_53 : decode cX12_sit 53 = .ok (.ireturn, 1) := by decide +kernel
theorem dX12_sit_54 : decode cX12_sit 54 = .ok (.aload_n 0, 1) := by decide +kernel
theorem dX12_sit_55 : decode cX12_sit 55 = .ok (.getfield 35, 3) := by decide +kernel
theorem dX12_sit_58 : decode cX12_sit 58 = .ok (.iconst 2, 1) := by decide +kernel
theorem dX12_sit_59 : decode cX12_sit 59 = .ok (.iaload, 1) := by decide +kernel
theorem dX12_sit_60 : decode cX12_sit 60 = .ok (.istore 4, 2) := by decide +kernel
theorem dX12_sit_62 : decode cX12_sit 62 = .ok (.iload 4, 2) := by decide +kernel
theorem dX12_sit_64 : decode cX12_sit 64 = .ok (.bipush 7, 2) := by decide +kernel
theorem dX12_sit_66 : decode cX12_sit 66 = .ok (.if_icmp .ne 10, 3) := by decide +kernel
theorem dX12_sit_69 : decode cX12_sit 69 = .ok (.aload_n 0, 1) := by decide +kernel
theorem dX12_sit_70 : decode cX12_sit 70 = .ok (.bipush 7, 2) := by decide +kernel
theorem dX12_sit_72 : decode cX12_sit 72 = .ok (.invokevirtual 345, 3) := by decide +kernel
theorem dX12_sit_75 : decode cX12_sit 75 = .ok (.ireturn, 1) := by decide +kernel
theorem dX12_sit_76 : decode cX12_sit 76 = .ok (.aload_n 0, 1) := by decide +kernel
theorem dX12_sit_77 : decode cX12_sit 77 = .ok (.getfield 41, 3) := by decide +kernel
theorem dX12_sit_80 : decode cX12_sit 80 = .ok (.bipush 6, 2) := by decide +kernel
theorem dX12_sit_82 : decode cX12_sit 82 = .ok (.iload 4, 2) := by decide +kernel
theorem dX12_sit_84 : decode cX12_sit 84 = .ok (.iadd, 1) := by decide +kernel
theorem dX12_sit_85 : decode cX12_sit 85 = .ok (.lconst 0, 1) := by decide +kernel
theorem dX12_sit_86 : decode cX12_sit 86 = .ok (.lastore, 1) := by decide +kernel
theorem dX12_sit_87 : decode cX12_sit 87 = .ok (.aload_n 0, 1) := by decide +kernel
theorem dX12_sit_88 : decode cX12_sit 88 = .ok (.iconst 0, 1) := by decide +kernel
theorem dX12_sit_89 : decode cX12_sit 89 = .ok (.iload_n 1, 1) := by decide +kernel
theorem dX12_sit_90 : decode cX12_sit 90 = .ok (.iload_n 2, 1) := by decide +kernel
theorem dX12_sit_91 : decode cX12_sit 91 = .ok (.iload_n 3, 1) := by decide +kernel
theorem dX12_sit_92 : decode cX12_sit 92 = .ok (.iconst 1, 1) := by decide +kernel
theorem dX12_sit_93 : decode cX12_sit 93 = .ok (.invokevirtual 279, 3) := by decide +kernel
theorem dX12_sit_96 : decode cX12_sit 96 = .ok (.iload 4, 2) := by decide +kernel
theorem dX12_sit_98 : decode cX12_sit 98 = .ok (.ireturn, 1) := by decide +kernel
theorem dX12_hear_0 : decode cX12_hear 0 = .ok (.aload_n 0, 1) := by decide +kernel
theorem dX12_hear_1 : decode cX12_hear 1 = .ok (.iconst 0, 1) := by decide +kernel
theorem dX12_hear_2 : decode cX12_hear 2 = .ok (.putfield 69, 3) := by decide +kernel
theorem dX12_hear_5 : decode cX12_hear 5 = .ok (.aload_n 0, 1) := by decide +kernel
theorem dX12_hear_6 : decode cX12_hear 6 = .ok (.iconst 0, 1) := by decide +kernel
theorem dX12_hear_7 : decode cX12_hear 7 = .ok (.putfield 72, 3) := by decide +kernel
theorem dX12_hear_10 : decode cX12_hear 10 = .ok (.aload_n 0, 1) := by decide +kernel
theorem dX12_hear_11 : decode cX12_hear 11 = .ok (.iload_n 1, 1) := by decide +kernel
theorem dX12_hear_12 : decode cX12_hear 12 = .ok (.invokevirtual 357, 3) := by decide +kernel
theorem dX12_hear_15 : decode cX12_hear 15 = .ok (.ifCond .ne 9, 3) := by decide +kernel
theorem dX12_hear_18 : decode cX12_hear 18 = .ok (.aload_n 0, 1) := by decide +kernel
theorem dX12_hear_19 : decode cX12_hear 19 = .ok (.iconst 2, 1) := by decide +kernel
theorem dX12_hear_20 : decode cX12_hear 20 = .ok (.invokevirtual 345, 3) := by decide +kernel
theorem dX12_hear_23 : decode cX12_hear 23 = .ok (.ireturn, 1) := by decide +kernel
theorem dX12_hear_24 : decode cX12_hear 24 = .ok (.iload_n 2, 1) := by decide +kernel
theorem dX12_hear_25 : decode cX12_hear 25 = .ok (.i2l, 1) := by decide +kernel
theorem dX12_hear_26 : decode cX12_hear 26 = .ok (.lconst 1, 1) := by decide +kernel
theorem dX12_hear_27 : decode cX12_hear 27 = .ok (.ldc2_w 157, 3) := by decide +kernel
theorem dX12_hear_30 : decode cX12_hear 30 = .ok (.invokestatic 104, 3) := by decide +kernel
theorem dX12_hear_33 : decode cX12_hear 33 = .ok (.ifCond .ne 9, 3) := by decide +kernel
theorem dX12_hear_36 : decode cX12_hear 36 = .ok (.aload_n 0, 1) := by decide +kernel
theorem dX12_hear_37 : decode cX12_hear 37 = .ok (.iconst 5, 1) := by decide +kernel
theorem dX12_hear_38 : decode cX12_hear 38 = .ok (.invokevirtual 345, 3) := by decide +kernel
theorem dX12_hear_41 : decode cX12_hear 41 = .ok (.ireturn, 1) := by decide +kernel
theorem dX12_hear_42 : decode cX12_hear 42 = .ok (.aload_n 0, 1) := by decide +kernel
theorem dX12_hear_43 : decode cX12_hear 43 = .ok (.getfield 35, 3) := by decide +kernel
theorem dX12_hear_46 : decode cX12_hear 46 = .ok (.iconst 3, 1) := by decide +kernel
theorem dX12_hear_47 : decode cX12_hear 47 = .ok (.iaload, 1) := by decide +kernel
theorem dX12_hear_48 : decode cX12_hear 48 = .ok (.bipush 8, 2) := by decide +kernel
theorem dX12_hear_50 : decode cX12_hear 50 = .ok (.if_icmp .ne 10, 3) := by decide +kernel
theorem dX12_hear_53 : decode cX12_hear 53 = .ok (.aload_n 0, 1) := by decide +kernel
theorem dX12_hear_54 : decode cX12_hear 54 = .ok (.bipush 7, 2) := by decide +kernel
theorem dX12_hear_56 : decode cX12_hear 56 = .ok (.invokevirtual 345, 3) := by decide +kernel
theorem dX12_hear_59 : decode cX12_hear 59 = .ok (.ireturn, 1) := by decide +kernel
theorem dX12_hear_60 : decode cX12_hear 60 = .ok (.aload_n 0, 1) := by decide +kernel
theorem dX12_hear_61 : decode cX12_hear 61 = .ok (.iconst 0, 1) := by decide +kernel
theorem dX12_hear_62 : decode cX12_hear 62 = .ok (.iload_n 1, 1) := by decide +kernel
theorem dX12_hear_63 : decode cX12_hear 63 = .ok (.iload_n 2, 1) := by decide +kernel
theorem dX12_hear_64 : decode cX12_hear 64 = .ok (.invokevirtual 283, 3) := by decide +kernel
theorem dX12_hear_67 : decode cX12_hear 67 = .ok (.aload_n 0, 1) := by decide +kernel
theorem dX12_hear_68 : decode cX12_hear 68 = .ok (.getfield 35, 3) := by decide +kernel
theorem dX12_hear_71 : decode cX12_hear 71 = .ok (.iconst 3, 1) := by decide +kernel
theorem dX12_hear_72 : decode cX12_hear 72 = .ok (.iaload, 1) := by decide +kernel
theorem dX12_hear_73 : decode cX12_hear 73 = .ok (.iconst 1, 1) := by decide +kernel
theorem dX12_hear_74 : decode cX12_hear 74 = .ok (.isub, 1) := by decide +kernel
theorem dX12_hear_75 : decode cX12_hear 75 = .ok (.ireturn, 1) := by decide +kernel
theorem dX12_bind_0 : decode cX12_bind 0 = .ok (.aload_n 0, 1) := by decide +kernel
theorem dX12_bind_1 : decode cX12_bind 1 = .ok (.iconst 0, 1) := by decide +kernel
theorem dX12_bind_2 : decode cX12_bind 2 = .ok (.putfield 69, 3) := by decide +kernel
theorem dX12_bind_5 : decode cX12_bind 5 = .ok (.aload_n 0, 1) := by decide +kernel
theorem dX12_bind_6 : decode cX12_bind 6 = .ok (.iconst 0, 1) := by decide +kernel
theorem dX12_bind_7 : decode cX12_bind 7 = .ok (.putfield 72, 3) := by decide +kernel
theorem dX12_bind_10 : decode cX12_bind 10 = .ok (.aload_n 0, 1) := by decide +kernel
theorem dX12_bind_11 : decode cX12_bind 11 = .ok (.iload_n 1, 1) := by decide +kernel
theorem dX12_bind_12 : decode cX12_bind 12 = .ok (.invokevirtual 357, 3) := by decide +kernel
theorem dX12_bind_15 : decode cX12_bind 15 = .ok (.ifCond .eq 11, 3) := by decide +kernel
theorem dX12_bind_18 : decode cX12_bind 18 = .ok (.aload_n 0, 1) := by decide +kernel
theorem dX12_bind_19 : decode cX12_bind 19 = .ok (.iload_n 2, 1) := by decide +kernel
theorem dX12_bind_20 : decode cX12_bind 20 = .ok (.invokevirtual 357, 3) := by decide +kernel
theorem dX12_bind_23 : decode cX12_bind 23 = .ok (.ifCond .ne 9, 3) := by decide +kernel
theorem dX12_bind_26 : decode cX12_bind 26 = .ok (.aload_n 0, 1) := by decide +kernel
theorem dX12_bind_27 : decode cX12_bind 27 = .ok (.iconst 2, 1) := by decide +kernel
theorem dX12_bind_28 : decode cX12_bind 28 = .ok (.invokevirtual 345, 3) := by decide +kernel
theorem dX12_bind_31 : decode cX12_bind 31 = .ok (.ireturn, 1) := by decide +kernel
theorem dX12_bind_32 : decode cX12_bind 32 = .ok (.iload_n 1, 1) := by decide +kernel
theorem dX12_bind_33 : decode cX12_bind 33 = .ok (.iload_n 2, 1) := by decide +kernel
theorem dX12_bind_34 : decode cX12_bind 34 = .ok (.if_icmp .ne 9, 3) := by decide +kernel
theorem dX12_bind_37 : decode cX12_bind 37 = .ok (.aload_n 0, 1) := by decide +kernel
theorem dX12_bind_38 : decode cX12_bind 38 = .ok (.iconst 5, 1) := by decide +kernel
theorem dX12_bind_39 : decode cX12_bind 39 = .ok (.invokevirtual 345, 3) := by decide +kernel
theorem dX12_bind_42 : decode cX12_bind 42 = .ok (.ireturn, 1) := by decide +kernel
theorem dX12_bind_43 : decode cX12_bind 43 = .ok (.aload_n 0, 1) := by decide +kernel
theorem dX12_bind_44 : decode cX12_bind 44 = .ok (.getfield 35, 3) := by decide +kernel
theorem dX12_bind_47 : decode cX12_bind 47 = .ok (.iconst 1, 1) := by decide +kernel
theorem dX12_bind_48 : decode cX12_bind 48 = .ok (.iaload, 1) := by decide +kernel
theorem dX12_bind_49 : decode cX12_bind 49 = .ok (.bipush 10, 2) := by decide +kernel
theorem dX12_bind_51 : decode cX12_bind 51 = .ok (.if_icmp .ne 10, 3) := by decide +kernel
theorem dX12_bind_54 : decode cX12_bind 54 = .ok (.aload_n 0, 1) := by decide +kernel
theorem dX12_bind_55 : decode cX12_bind 55 = .ok (.bipush 7, 2) := by decide +kernel
theorem dX12_bind_57 : decode cX12_bind 57 = .ok (.invokevirtual 345, 3) := by decide +kernel
theorem dX12_bind_60 : decode cX12_bind 60 = .ok (.ireturn, 1) := by decide +kernel
theorem dX12_bind_61 : decode cX12_bind 61 = .ok (.aload_n 0, 1) := by decide +kernel
theorem dX12_bind_62 : decode cX12_bind 62 = .ok (.iconst 0, 1) := by decide +kernel
theorem dX12_bind_63 : decode cX12_bind 63 = .ok (.iload_n 1, 1) := by decide +kernel
theorem dX12_bind_64 : decode cX12_bind 64 = .ok (.iload_n 2, 1) := by decide +kernel
theorem dX12_bind_65 : decode cX12_bind 65 = .ok (.invokevirtual 271, 3) := by decide +kernel
theorem dX12_bind_68 : decode cX12_bind 68 = .ok (.ifCond .eq 10, 3) := by decide +kernel
theorem dX12_bind_71 : decode cX12_bind 71 = .ok (.aload_n 0, 1) := by decide +kernel
theorem dX12_bind_72 : decode cX12_bind 72 = .ok (.bipush 9, 2) := by decide +kernel
theorem dX12_bind_74 : decode cX12_bind 74 = .ok (.invokevirtual 345, 3) := by decide +kernel
theorem dX12_bind_77 : decode cX12_bind 77 = .ok (.ireturn, 1) := by decide +kernel
theorem dX12_bind_78 : decode cX12_bind 78 = .ok (.aload_n 0, 1) := by decide +kernel
theorem dX12_bind_79 : decode cX12_bind 79 = .ok (.iconst 0, 1) := by decide +kernel
theorem dX12_bind_80 : decode cX12_bind 80 = .ok (.iload_n 1, 1) := by decide +kernel
theorem dX12_bind_81 : decode cX12_bind 81 = .ok (.iload_n 2, 1) := by decide +kernel
theorem dX12_bind_82 : decode cX12_bind 82 = .ok (.invokevirtual 275, 3) := by decide +kernel
theorem dX12_bind_85 : decode cX12_bind 85 = .ok (.aload_n 0, 1) := by decide +kernel
theorem dX12_bind_86 : decode cX12_bind 86 = .ok (.getfield 35, 3) := by decide +kernel
theorem dX12_bind_89 : decode cX12_bind 89 = .ok (.iconst 1, 1) := by decide +kernel
theorem dX12_bind_90 : decode cX12_bind 90 = .ok (.iaload, 1) := by decide +kernel
theorem dX12_bind_91 : decode cX12_bind 91 = .ok (.iconst 1, 1) := by decide +kernel
theorem dX12_bind_92 : decode cX12_bind 92 = .ok (.isub, 1) := by decide +kernel
theorem dX12_bind_93 : decode cX12_bind 93 = .ok (.ireturn, 1) := by decide +kernel
theorem dX12_loose_0 : decode cX12_loose 0 = .ok (.aload_n 0, 1) := by decide +kernel
theorem dX12_loose_1 : decode cX12_loose 1 = .ok (.iconst 0, 1) := by decide +kernel
theorem dX12_loose_2 : decode cX12_loose 2 = .ok (.putfield 69, 3) := by decide +kernel
theorem dX12_loose_5 : decode cX12_loose 5 = .ok (.aload_n 0, 1) := by decide +kernel
theorem dX12_loose_6 : decode cX12_loose 6 = .ok (.iconst 0, 1) := by decide +kernel
theorem dX12_loose_7 : decode cX12_loose 7 = .ok (.putfield 72, 3) := by decide +kernel
theorem dX12_loose_10 : decode cX12_loose 10 = .ok (.iload_n 1, 1) := by decide +kernel
theorem dX12_loose_11 : decode cX12_loose 11 = .ok (.i2l, 1) := by decide +kernel
theorem dX12_loose_12 : decode cX12_loose 12 = .ok (.lconst 0, 1) := by decide +kernel
theorem dX12_loose_13 : decode cX12_loose 13 = .ok (.aload_n 0, 1) := by decide +kernel
theorem dX12_loose_14 : decode cX12_loose 14 = .ok (.getfield 35, 3) := by decide +kernel
theorem dX12_loose_17 : decode cX12_loose 17 = .ok (.iconst 1, 1) := by decide +kernel
theorem dX12_loose_18 : decode cX12_loose 18 = .ok (.iaload, 1) := by decide +kernel
theorem dX12_loose_19 : decode cX12_loose 19 = .ok (.iconst 1, 1) := by decide +kernel
theorem dX12_loose_20 : decode cX12_loose 20 = .ok (.isub, 1) := by decide +kernel
theorem dX12_loose_21 : decode cX12_loose 21 = .ok (.i2l, 1) := by decide +kernel
theorem dX12_loose_22 : decode cX12_loose 22 = .ok (.invokestatic 104, 3) := by decide +kernel
theorem dX12_loose_25 : decode cX12_loose 25 = .ok (.ifCond .ne 9, 3) := by decide +kernel
theorem dX12_loose_28 : decode cX12_loose 28 = .ok (.aload_n 0, 1) := by decide +kernel
theorem dX12_loose_29 : decode cX12_loose 29 = .ok (.iconst 2, 1) := by decide +kernel
theorem dX12_loose_30 : decode cX12_loose 30 = .ok (.invokevirtual 345, 3) := by decide +kernel
theorem dX12_loose_33 : decode cX12_loose 33 = .ok (.ireturn, 1) := by decide +kernel
theorem dX12_loose_34 : decode cX12_loose 34 = .ok (.iload_n 1, 1) := by decide +kernel
theorem dX12_loose_35 : decode cX12_loose 35 = .ok (.istore_n 2, 1) := by decide +kernel
theorem dX12_loose_36 : decode cX12_loose 36 = .ok (.iload_n 2, 1) := by decide +kernel
theorem dX12_loose_37 : decode cX12_loose 37 = .ok (.iconst 1, 1) := by decide +kernel
theorem dX12_loose_38 : decode cX12_loose 38 = .ok (.iadd, 1) := by decide +kernel
theorem dX12_loose_39 : decode cX12_loose 39 = .ok (.aload_n 0, 1) := by decide +kernel
theorem dX12_loose_40 : decode cX12_loose 40 = .ok (.getfield 35, 3) := by decide +kernel
theorem dX12_loose_43 : decode cX12_loose 43 = .ok (.iconst 1, 1) := by decide +kernel
theorem dX12_loose_44 : decode cX12_loose 44 = .ok (.iaload, 1) := by decide +kernel
theorem dX12_loose_45 : decode cX12_loose 45 = .ok (.if_icmp .ge 49, 3) := by decide +kernel
theorem dX12_loose_48 : decode cX12_loose 48 = .ok (.aload_n 0, 1) := by decide +kernel
theorem dX12_loose_49 : decode cX12_loose 49 = .ok (.getfield 35, 3) := by decide +kernel
theorem dX12_loose_52 : decode cX12_loose 52 = .ok (.bipush 18, 2) := by decide +kernel
theorem dX12_loose_54 : decode cX12_loose 54 = .ok (.iload_n 2, 1) := by decide +kernel
theorem dX12_loose_55 : decode cX12_loose 55 = .ok (.iadd, 1) := by decide +kernel
theorem dX12_loose_56 : decode cX12_loose 56 = .ok (.aload_n 0, 1) := by decide +kernel
theorem dX12_loose_57 : decode cX12_loose 57 = .ok (.getfield 35, 3) := by decide +kernel
theorem dX12_loose_60 : decode cX12_loose 60 = .ok (.bipush 18, 2) := by decide +kernel
theorem dX12_loose_62 : decode cX12_loose 62 = .ok (.iload_n 2, 1) := by decide +kernel
theorem dX12_loose_63 : decode cX12_loose 63 = .ok (.iadd, 1) := by decide +kernel
theorem dX12_loose_64 : decode cX12_loose 64 = .ok (.iconst 1, 1) := by decide +kernel
theorem dX12_loose_65 : decode cX12_loose 65 = .ok (.iadd, 1) := by decide +kernel
theorem dX12_loose_66 : decode cX12_loose 66 = .ok (.iaload, 1) := by decide +kernel
theorem dX12_loose_67 : decode cX12_loose 67 = .ok (.iastore, 1) := by decide +kernel
theorem dX12_loose_68 : decode cX12_loose 68 = .ok (.aload_n 0, 1) := by decide +kernel
theorem dX12_loose_69 : decode cX12_loose 69 = .ok (.getfield 35, 3) := by decide +kernel
theorem dX12_loose_72 : decode cX12_loose 72 = .ok (.bipush 28, 2) := by decide +kernel
theorem dX12_loose_74 : decode cX12_loose 74 = .ok (.iload_n 2, 1) := by decide +kernel
theorem dX12_loose_75 : decode cX12_loose 75 = .ok (.iadd, 1) := by decide +kernel
theorem dX12_loose_76 : decode cX12_loose 76 = .ok (.aload_n 0, 1) := by decide +kernel
theorem dX12_loose_77 : decode cX12_loose 77 = .ok (.getfield 35, 3) := by decide +kernel
theorem dX12_loose_80 : decode cX12_loose 80 = .ok (.bipush 28, 2) := by decide +kernel
theorem dX12_loose_82 : decode cX12_loose 82 = .ok (.iload_n 2, 1) := by decide +kernel
theorem dX12_loose_83 : decode cX12_loose 83 = .ok (.iadd, 1) := by decide +kernel
theorem dX12_loose_84 : decode cX12_loose 84 = .ok (.iconst 1, 1) := by decide +kernel
theorem dX12_loose_85 : decode cX12_loose 85 = .ok (.iadd, 1) := by decide +kernel
theorem dX12_loose_86 : decode cX12_loose 86 = .ok (.iaload, 1) := by decide +kernel
theorem dX12_loose_87 : decode cX12_loose 87 = .ok (.iastore, 1) := by decide +kernel
theorem dX12_loose_88 : decode cX12_loose 88 = .ok (.iinc 2 1, 3) := by decide +kernel
theorem dX12_loose_91 : decode cX12_loose 91 = .ok (.goto (-55), 3) := by decide +kernel
theorem dX12_loose_94 : decode cX12_loose 94 = .ok (.aload_n 0, 1) := by decide +kernel
theorem dX12_loose_95 : decode cX12_loose 95 = .ok (.getfield 35, 3) := by decide +kernel
theorem dX12_loose_98 : decode cX12_loose 98 = .ok (.iconst 1, 1) := by decide +kernel
theorem dX12_loose_99 : decode cX12_loose 99 = .ok (.dup2, 1) := by decide +kernel
theorem dX12_loose_100 : decode cX12_loose 100 = .ok (.iaload, 1) := by decide +kernel
theorem dX12_loose_101 : decode cX12_loose 101 = .ok (.iconst 1, 1) := by decide +kernel
theorem dX12_loose_102 : decode cX12_loose 102 = .ok (.isub, 1) := by decide +kernel
theorem dX12_loose_103 : decode cX12_loose 103 = .ok (.iastore, 1) := by decide +kernel
theorem dX12_loose_104 : decode cX12_loose 104 = .ok (.aload_n 0, 1) := by decide +kernel
theorem dX12_loose_105 : decode cX12_loose 105 = .ok (.getfield 35, 3) := by decide +kernel
theorem dX12_loose_108 : decode cX12_loose 108 = .ok (.iconst 1, 1) := by decide +kernel
theorem dX12_loose_109 : decode cX12_loose 109 = .ok (.iaload, 1) := by decide +kernel
theorem dX12_loose_110 : decode cX12_loose 110 = .ok (.ireturn, 1) := by decide +kernel
theorem dX12_hurry_0 : decode cX12_hurry 0 = .ok (.aload_n 0, 1) := by decide +kernel
theorem dX12_hurry_1 : decode cX12_hurry 1 = .ok (.iconst 0, 1) := by decide +kernel
theorem dX12_hurry_2 : decode cX12_hurry 2 = .ok (.putfield 69, 3) := by decide +kernel
theorem dX12_hurry_5 : decode cX12_hurry 5 = .ok (.aload_n 0, 1) := by decide +kernel
theorem dX12_hurry_6 : decode cX12_hurry 6 = .ok (.iconst 0, 1) := by decide +kernel
theorem dX12_hurry_7 : decode cX12_hurry 7 = .ok (.putfield 72, 3) := by decide +kernel
theorem dX12_hurry_10 : decode cX12_hurry 10 = .ok (.aload_n 0, 1) := by decide +kernel
theorem dX12_hurry_11 : decode cX12_hurry 11 = .ok (.iload_n 1, 1) := by decide +kernel
theorem dX12_hurry_12 : decode cX12_hurry 12 = .ok (.invokevirtual 357, 3) := by decide +kernel
theorem dX12_hurry_15 : decode cX12_hurry 15 = .ok (.ifCond .ne 9, 3) := by decide +kernel
theorem dX12_hurry_18 : decode cX12_hurry 18 = .ok (.aload_n 0, 1) := by decide +kernel
theorem dX12_hurry_19 : decode cX12_hurry 19 = .ok (.iconst 2, 1) := by decide +kernel
theorem dX12_hurry_20 : decode cX12_hurry 20 = .ok (.invokevirtual 345, 3) := by decide +kernel
theorem dX12_hurry_23 : decode cX12_hurry 23 = .ok (.ireturn, 1) := by decide +kernel
theorem dX12_hurry_24 : decode cX12_hurry 24 = .ok (.iload_n 2, 1) := by decide +kernel
theorem dX12_hurry_25 : decode cX12_hurry 25 = .ok (.i2l, 1) := by decide +kernel
theorem dX12_hurry_26 : decode cX12_hurry 26 = .ok (.lconst 0, 1) := by decide +kernel
theorem dX12_hurry_27 : decode cX12_hurry 27 = .ok (.ldc2_w 413, 3) := by decide +kernel
theorem dX12_hurry_30 : decode cX12_hurry 30 = .ok (.invokestatic 104, 3) := by decide +kernel
theorem dX12_hurry_33 : decode cX12_hurry 33 = .ok (.ifCond .ne 9, 3) := by decide +kernel
theorem dX12_hurry_36 : decode cX12_hurry 36 = .ok (.aload_n 0, 1) := by decide +kernel
theorem dX12_hurry_37 : decode cX12_hurry 37 = .ok (.iconst 5, 1) := by decide +kernel
theorem dX12_hurry_38 : decode cX12_hurry 38 = .ok (.invokevirtual 345, 3) := by decide +kernel
theorem dX12_hurry_41 : decode cX12_hurry 41 = .ok (.ireturn, 1) := by decide +kernel
theorem dX12_hurry_42 : decode cX12_hurry 42 = .ok (.aload_n 0, 1) := by decide +kernel
theorem dX12_hurry_43 : decode cX12_hurry 43 = .ok (.getfield 35, 3) := by decide +kernel
theorem dX12_hurry_46 : decode cX12_hurry 46 = .ok (.bipush 12, 2) := by decide +kernel
theorem dX12_hurry_48 : decode cX12_hurry 48 = .ok (.iload_n 1, 1) := by decide +kernel
theorem dX12_hurry_49 : decode cX12_hurry 49 = .ok (.iadd, 1) := by decide +kernel
theorem dX12_hurry_50 : decode cX12_hurry 50 = .ok (.iaload, 1) := by decide +kernel
theorem dX12_hurry_51 : decode cX12_hurry 51 = .ok (.istore_n 3, 1) := by decide +kernel
theorem dX12_hurry_52 : decode cX12_hurry 52 = .ok (.aload_n 0, 1) := by decide +kernel
theorem dX12_hurry_53 : decode cX12_hurry 53 = .ok (.getfield 35, 3) := by decide +kernel
theorem dX12_hurry_56 : decode cX12_hurry 56 = .ok (.bipush 12, 2) := by decide +kernel
theorem dX12_hurry_58 : decode cX12_hurry 58 = .ok (.iload_n 1, 1) := by decide +kernel
theorem dX12_hurry_59 : decode cX12_hurry 59 = .ok (.iadd, 1) := by decide +kernel
theorem dX12_hurry_60 : decode cX12_hurry 60 = .ok (.iload_n 2, 1) := by decide +kernel
theorem dX12_hurry_61 : decode cX12_hurry 61 = .ok (.iastore, 1) := by decide +kernel
theorem dX12_hurry_62 : decode cX12_hurry 62 = .ok (.iload_n 3, 1) := by decide +kernel
theorem dX12_hurry_63 : decode cX12_hurry 63 = .ok (.ireturn, 1) := by decide +kernel
theorem dX12_rule_0 : decode cX12_rule 0 = .ok (.aload_n 0, 1) := by decide +kernel
theorem dX12_rule_1 : decode cX12_rule 1 = .ok (.iconst 0, 1) := by decide +kernel
theorem dX12_rule_2 : decode cX12_rule 2 = .ok (.putfield 69, 3) := by decide +kernel
theorem dX12_rule_5 : decode cX12_rule 5 = .ok (.aload_n 0, 1) := by decide +kernel
theorem dX12_rule_6 : decode cX12_rule 6 = .ok (.iconst 0, 1) := by decide +kernel
theorem dX12_rule_7 : decode cX12_rule 7 = .ok (.putfield 72, 3) := by decide +kernel
theorem dX12_rule_10 : decode cX12_rule 10 = .ok (.iload_n 1, 1) := by decide +kernel
theorem dX12_rule_11 : decode cX12_rule 11 = .ok (.i2l, 1) := by decide +kernel
theorem dX12_rule_12 : decode cX12_rule 12 = .ok (.lconst 0, 1) := by decide +kernel
theorem dX12_rule_13 : decode cX12_rule 13 = .ok (.ldc2_w 415, 3) := by decide +kernel
theorem dX12_rule_16 : decode cX12_rule 16 = .ok (.invokestatic 104, 3) := by decide +kernel
theorem dX12_rule_19 : decode cX12_rule 19 = .ok (.ifCond .ne 9, 3) := by decide +kernel
theorem dX12_rule_22 : decode cX12_rule 22 = .ok (.aload_n 0, 1) := by decide +kernel
theorem dX12_rule_23 : decode cX12_rule 23 = .ok (.iconst 5, 1) := by decide +kernel
theorem dX12_rule_24 : decode cX12_rule 24 = .ok (.invokevirtual 84, 3) := by decide +kernel
theorem dX12_rule_27 : decode cX12_rule 27 = .ok (.ireturn, 1) := by decide +kernel
theorem dX12_rule_28 : decode cX12_rule 28 = .ok (.aload_n 0, 1) := by decide +kernel
theorem dX12_rule_29 : decode cX12_rule 29 = .ok (.getfield 35, 3) := by decide +kernel
theorem dX12_rule_32 : decode cX12_rule 32 = .ok (.iconst 4, 1) := by decide +kernel
theorem dX12_rule_33 : decode cX12_rule 33 = .ok (.iload_n 1, 1) := by decide +kernel
theorem dX12_rule_34 : decode cX12_rule 34 = .ok (.iastore, 1) := by decide +kernel
theorem dX12_rule_35 : decode cX12_rule 35 = .ok (.iconst 1, 1) := by decide +kernel
theorem dX12_rule_36 : decode cX12_rule 36 = .ok (.ireturn, 1) := by decide +kernel
theorem dX12_keeps_0 : decode cX12_keeps 0 = .ok (.iconst 0, 1) := by decide +kernel
theorem dX12_keeps_1 : decode cX12_keeps 1 = .ok (.istore_n 1, 1) := by decide +kernel
theorem dX12_keeps_2 : decode cX12_keeps 2 = .ok (.iload_n 1, 1) := by decide +kernel
theorem dX12_keeps_3 : decode cX12_keeps 3 = .ok (.bipush 90, 2) := by decide +kernel
theorem dX12_keeps_5 : decode cX12_keeps 5 = .ok (.if_icmp .ge 21, 3) := by decide +kernel
theorem dX12_keeps_8 : decode cX12_keeps 8 = .ok (.aload_n 0, 1) := by decide +kernel
theorem dX12_keeps_9 : decode cX12_keeps 9 = .ok (.getfield 38, 3) := by decide +kernel
theorem dX12_keeps_12 : decode cX12_keeps 12 = .ok (.iload_n 1, 1) := by decide +kernel
theorem dX12_keeps_13 : decode cX12_keeps 13 = .ok (.aload_n 0, 1) := by decide +kernel
theorem dX12_keeps_14 : decode cX12_keeps 14 = .ok (.getfield 35, 3) := by decide +kernel
theorem dX12_keeps_17 : decode cX12_keeps 17 = .ok (.iload_n 1, 1) := by decide +kernel
theorem dX12_keeps_18 : decode cX12_keeps 18 = .ok (.iaload, 1) := by decide +kernel
theorem dX12_keeps_19 : decode cX12_keeps 19 = .ok (.iastore, 1) := by decide +kernel
theorem dX12_keeps_20 : decode cX12_keeps 20 = .ok (.iinc 1 1, 3) := by decide +kernel
theorem dX12_keeps_23 : decode cX12_keeps 23 = .ok (.goto (-21), 3) := by decide +kernel
theorem dX12_keeps_26 : decode cX12_keeps 26 = .ok (.return_, 1) := by decide +kernel
theorem dX12_restores_0 : decode cX12_restores 0 = .ok (.iconst 0, 1) := by decide +kernel
theorem dX12_restores_1 : decode cX12_restores 1 = .ok (.istore_n 1, 1) := by decide +kernel
theorem dX12_restores_2 : decode cX12_restores 2 = .ok (.iload_n 1, 1) := by decide +kernel
theorem dX12_restores_3 : decode cX12_restores 3 = .ok (.bipush 90, 2) := by decide +kernel
theorem dX12_restores_5 : decode cX12_restores 5 = .ok (.if_icmp .ge 21, 3) := by decide +kernel
theorem dX12_restores_8 : decode cX12_restores 8 = .ok (.aload_n 0, 1) := by decide +kernel
theorem dX12_restores_9 : decode cX12_restores 9 = .ok (.getfield 35, 3) := by decide +kernel
theorem dX12_restores_12 : decode cX12_restores 12 = .ok (.iload_n 1, 1) := by decide +kernel
theorem dX12_restores_13 : decode cX12_restores 13 = .ok (.aload_n 0, 1) := by decide +kernel
theorem dX12_restores_14 : decode cX12_restores 14 = .ok (.getfield 38, 3) := by decide +kernel
theorem dX12_restores_17 : decode cX12_restores 17 = .ok (.iload_n 1, 1) := by decide +kernel
theorem dX12_restores_18 : decode cX12_restores 18 = .ok (.iaload, 1) := by decide +kernel
theorem dX12_restores_19 : decode cX12_restores 19 = .ok (.iastore, 1) := by decide +kernel
theorem dX12_restores_20 : decode cX12_restores 20 = .ok (.iinc 1 1, 3) := by decide +kernel
theorem dX12_restores_23 : decode cX12_restores 23 = .ok (.goto (-21), 3) := by decide +kernel
theorem dX12_restores_26 : decode cX12_restores 26 = .ok (.return_, 1) := by decide +kernel
theorem dX12_clearBehind_0 : decode cX12_clearBehind 0 = .ok (.aload_n 0, 1) := by decide +kernel
theorem dX12_clearBehind_1 : decode cX12_clearBehind 1 = .ok (.invokevirtual 417, 3) := by decide +kernel
theorem dX12_clearBehind_4 : decode cX12_clearBehind 4 = .ok (.iconst 0, 1) := by decide +kernel
theorem dX12_clearBehind_5 : decode cX12_clearBehind 5 = .ok (.istore_n 3, 1) := by decide +kernel
theorem dX12_clearBehind_6 : decode cX12_clearBehind 6 = .ok (.iload_n 3, 1) := by decide +kernel
theorem dX12_clearBehind_7 : decode cX12_clearBehind 7 = .ok (.iload_n 2, 1) := by decide +kernel
theorem dX12_clearBehind_8 : decode cX12_clearBehind 8 = .ok (.if_icmp .ge 13, 3) := by decide +kernel
theorem dX12_clearBehind_11 : decode cX12_clearBehind 11 = .ok (.aload_n 0, 1) := by decide +kernel
theorem dX12_clearBehind_12 : decode cX12_clearBehind 12 = .ok (.invokevirtual 394, 3) := by decide +kernel
theorem dX12_clearBehind_15 : decode cX12_clearBehind 15 = .ok (.iinc 3 1, 3) := by decide +kernel
theorem dX12_clearBehind_18 : decode cX12_clearBehind 18 = .ok (.goto (-12), 3) := by decide +kernel
theorem dX12_clearBehind_21 : decode cX12_clearBehind 21 = .ok (.aload_n 0, 1) := by decide +kernel
theorem dX12_clearBehind_22 : decode cX12_clearBehind 22 = .ok (.getfield 35, 3) := by decide +kernel
theorem dX12_clearBehind_25 : decode cX12_clearBehind 25 = .ok (.bipush 6, 2) := by decide +kernel
theorem dX12_clearBehind_27 : decode cX12_clearBehind 27 = .ok (.iload_n 1, 1) := by decide +kernel
theorem dX12_clearBehind_28 : decode cX12_clearBehind 28 = .ok (.iadd, 1) := by decide +kernel
theorem dX12_clearBehind_29 : decode cX12_clearBehind 29 = .ok (.iaload, 1) := by decide +kernel
theorem dX12_clearBehind_30 : decode cX12_clearBehind 30 = .ok (.istore_n 3, 1) := by decide +kernel
theorem dX12_clearBehind_31 : decode cX12_clearBehind 31 = .ok (.aload_n 0, 1) := by decide +kernel
theorem dX12_clearBehind_32 : decode cX12_clearBehind 32 = .ok (.invokevirtual 420, 3) := by decide +kernel
theorem dX12_clearBehind_35 : decode cX12_clearBehind 35 = .ok (.iload_n 3, 1) := by decide +kernel
theorem dX12_clearBehind_36 : decode cX12_clearBehind 36 = .ok (.ireturn, 1) := by decide +kernel
theorem dX12_clearIn_0 : decode cX12_clearIn 0 = .ok (.aload_n 0, 1) := by decide +kernel
theorem dX12_clearIn_1 : decode cX12_clearIn 1 = .ok (.iconst 0, 1) := by decide +kernel
theorem dX12_clearIn_2 : decode cX12_clearIn 2 = .ok (.putfield 69, 3) := by decide +kernel
theorem dX12_clearIn_5 : decode cX12_clearIn 5 = .ok (.aload_n 0, 1) := by decide +kernel
theorem dX12_clearIn_6 : decode cX12_clearIn 6 = .ok (.iconst 0, 1) := by decide +kernel
theorem dX12_clearIn_7 : decode cX12_clearIn 7 = .ok (.putfield 72, 3) := by decide +kernel
theorem dX12_clearIn_10 : decode cX12_clearIn 10 = .ok (.aload_n 0, 1) := by decide +kernel
theorem dX12_clearIn_11 : decode cX12_clearIn 11 = .ok (.iload_n 1, 1) := by decide +kernel
theorem dX12_clearIn_12 : decode cX12_clearIn 12 = .ok (.invokevirtual 357, 3) := by decide +kernel
theorem dX12_clearIn_15 : decode cX12_clearIn 15 = .ok (.ifCond .ne 9, 3) := by decide +kernel
theorem dX12_clearIn_18 : decode cX12_clearIn 18 = .ok (.aload_n 0, 1) := by decide +kernel
theorem dX12_clearIn_19 : decode cX12_clearIn 19 = .ok (.iconst 2, 1) := by decide +kernel
theorem dX12_clearIn_20 : decode cX12_clearIn 20 = .ok (.invokevirtual 345, 3) := by decide +kernel
theorem dX12_clearIn_23 : decode cX12_clearIn 23 = .ok (.ireturn, 1) := by decide +kernel
theorem dX12_clearIn_24 : decode cX12_clearIn 24 = .ok (.iload_n 2, 1) := by decide +kernel
theorem dX12_clearIn_25 : decode cX12_clearIn 25 = .ok (.i2l, 1) := by decide +kernel
theorem dX12_clearIn_26 : decode cX12_clearIn 26 = .ok (.lconst 0, 1) := by decide +kernel
theorem dX12_clearIn_27 : decode cX12_clearIn 27 = .ok (.ldc2_w 423, 3) := by decide +kernel
theorem dX12_clearIn_30 : decode cX12_clearIn 30 = .ok (.invokestatic 104, 3) := by decide +kernel
theorem dX12_clearIn_33 : decode cX12_clearIn 33 = .ok (.ifCond .eq 12, 3) := by decide +kernel
theorem dX12_clearIn_36 : decode cX12_clearIn 36 = .ok (.aload_n 0, 1) := by decide +kernel
theorem dX12_clearIn_37 : decode cX12_clearIn 37 = .ok (.iload_n 1, 1) := by decide +kernel
theorem dX12_clearIn_38 : decode cX12_clearIn 38 = .ok (.iload_n 2, 1) := by decide +kernel
theorem dX12_clearIn_39 : decode cX12_clearIn 39 = .ok (.invokevirtual 425, 3) := by decide +kernel
theorem dX12_clearIn_42 : decode cX12_clearIn 42 = .ok (.goto 8, 3) := by decide +kernel
theorem dX12_clearIn_45 : decode cX12_clearIn 45 = .ok (.aload_n 0, 1) := by decide +kernel
theorem dX12_clearIn_46 : decode cX12_clearIn 46 = .ok (.iconst 5, 1) := by decide +kernel
theorem dX12_clearIn_47 : decode cX12_clearIn 47 = .ok (.invokevirtual 345, 3) := by decide +kernel
theorem dX12_clearIn_50 : decode cX12_clearIn 50 = .ok (.ireturn, 1) := by decide +kernel
theorem dX12_heightIn_0 : decode cX12_heightIn 0 = .ok (.aload_n 0, 1) := by decide +kernel
theorem dX12_heightIn_1 : decode cX12_heightIn 1 = .ok (.iconst 0, 1) := by decide +kernel
theorem dX12_heightIn_2 : decode cX12_heightIn 2 = .ok (.putfield 69, 3) := by decide +kernel
theorem dX12_heightIn_5 : decode cX12_heightIn 5 = .ok (.aload_n 0, 1) := by decide +kernel
theorem dX12_heightIn_6 : decode cX12_heightIn 6 = .ok (.iconst 0, 1) := by decide +kernel
theorem dX12_heightIn_7 : decode cX12_heightIn 7 = .ok (.putfield 72, 3) := by decide +kernel
theorem dX12_heightIn_10 : decode cX12_heightIn 10 = .ok (.aload_n 0, 1) := by decide +kernel
theorem dX12_heightIn_11 : decode cX12_heightIn 11 = .ok (.iload_n 1, 1) := by decide +kernel
theorem dX12_heightIn_12 : decode cX12_heightIn 12 = .ok (.invokevirtual 371, 3) := by decide +kernel
theorem dX12_heightIn_15 : decode cX12_heightIn 15 = .ok (.ifCond .ne 9, 3) := by decide +kernel
theorem dX12_heightIn_18 : decode cX12_heightIn 18 = .ok (.aload_n 0, 1) := by decide +kernel
theorem dX12_heightIn_19 : decode cX12_heightIn 19 = .ok (.iconst 2, 1) := by decide +kernel
theorem dX12_heightIn_20 : decode cX12_heightIn 20 = .ok (.invokevirtual 345, 3) := by decide +kernel
theorem dX12_heightIn_23 : decode cX12_heightIn 23 = .ok (.ireturn, 1) := by decide +kernel
theorem dX12_heightIn_24 : decode cX12_heightIn 24 = .ok (.iload_n 2, 1) := by decide +kernel
theorem dX12_heightIn_25 : decode cX12_heightIn 25 = .ok (.i2l, 1) := by decide +kernel
theorem dX12_heightIn_26 : decode cX12_heightIn 26 = .ok (.lconst 0, 1) := by decide +kernel
theorem dX12_heightIn_27 : decode cX12_heightIn 27 = .ok (.ldc2_w 423, 3) := by decide +kernel
theorem dX12_heightIn_30 : decode cX12_heightIn 30 = .ok (.invokestatic 104, 3) := by decide +kernel
theorem dX12_heightIn_33 : decode cX12_heightIn 33 = .ok (.ifCond .eq 32, 3) := by decide +kernel
theorem dX12_heightIn_36 : decode cX12_heightIn 36 = .ok (.aload_n 0, 1) := by decide +kernel
theorem dX12_heightIn_37 : decode cX12_heightIn 37 = .ok (.getfield 35, 3) := by decide +kernel
theorem dX12_heightIn_40 : decode cX12_heightIn 40 = .ok (.bipush 45, 2) := by decide +kernel
theorem dX12_heightIn_42 : decode cX12_heightIn 42 = .ok (.iload_n 1, 1) := by decide +kernel
theorem dX12_heightIn_43 : decode cX12_heightIn 43 = .ok (.iadd, 1) := by decide +kernel
theorem dX12_heightIn_44 : decode cX12_heightIn 44 = .ok (.iaload, 1) := by decide +kernel
theorem dX12_heightIn_45 : decode cX12_heightIn 45 = .ok (.aload_n 0, 1) := by decide +kernel
theorem dX12_heightIn_46 : decode cX12_heightIn 46 = .ok (.aload_n 0, 1) := by decide +kernel
theorem dX12_heightIn_47 : decode cX12_heightIn 47 = .ok (.getfield 35, 3) := by decide +kernel
theorem dX12_heightIn_50 : decode cX12_heightIn 50 = .ok (.bipush 52, 2) := by decide +kernel
theorem dX12_heightIn_52 : decode cX12_heightIn 52 = .ok (.iload_n 1, 1) := by decide +kernel
theorem dX12_heightIn_53 : decode cX12_heightIn 53 = .ok (.iadd, 1) := by decide +kernel
theorem dX12_heightIn_54 : decode cX12_heightIn 54 = .ok (.iaload, 1) := by decide +kernel
theorem dX12_heightIn_55 : decode cX12_heightIn 55 = .ok (.iload_n 2, 1) := by decide +kernel
theorem dX12_heightIn_56 : decode cX12_heightIn 56 = .ok (.invokevirtual 425, 3) := by decide +kernel
theorem dX12_heightIn_59 : decode cX12_heightIn 59 = .ok (.invokestatic 337, 3) := by decide +kernel
theorem dX12_heightIn_62 : decode cX12_heightIn 62 = .ok (.goto 8, 3) := by decide +kernel
theorem dX12_heightIn_65 : decode cX12_heightIn 65 = .ok (.aload_n 0, 1) := by decide +kernel
theorem dX12_heightIn_66 : decode cX12_heightIn 66 = .ok (.iconst 5, 1) := by decide +kernel
theorem dX12_heightIn_67 : decode cX12_heightIn 67 = .ok (.invokevirtual 345, 3) := by decide +kernel
theorem dX12_heightIn_70 : decode cX12_heightIn 70 = .ok (.ireturn, 1) := by decide +kernel
theorem dX12_downIn_0 : decode cX12_downIn 0 = .ok (.aload_n 0, 1) := by decide +kernel
theorem dX12_downIn_1 : decode cX12_downIn 1 = .ok (.iconst 0, 1) := by decide +kernel
theorem dX12_downIn_2 : decode cX12_downIn 2 = .ok (.putfield 69, 3) := by decide +kernel
theorem dX12_downIn_5 : decode cX12_downIn 5 = .ok (.aload_n 0, 1) := by decide +kernel
theorem dX12_downIn_6 : decode cX12_downIn 6 = .ok (.iconst 0, 1) := by decide +kernel
theorem dX12_downIn_7 : decode cX12_downIn 7 = .ok (.putfield 72, 3) := by decide +kernel
theorem dX12_downIn_10 : decode cX12_downIn 10 = .ok (.aload_n 0, 1) := by decide +kernel
theorem dX12_downIn_11 : decode cX12_downIn 11 = .ok (.iload_n 1, 1) := by decide +kernel
theorem dX12_downIn_12 : decode cX12_downIn 12 = .ok (.invokevirtual 371, 3) := by decide +kernel
theorem dX12_downIn_15 : decode cX12_downIn 15 = .ok (.ifCond .ne 9, 3) := by decide +kernel
theorem dX12_downIn_18 : decode cX12_downIn 18 = .ok (.aload_n 0, 1) := by decide +kernel
theorem dX12_downIn_19 : decode cX12_downIn 19 = .ok (.iconst 2, 1) := by decide +kernel
theorem dX12_downIn_20 : decode cX12_downIn 20 = .ok (.invokevirtual 345, 3) := by decide +kernel
theorem dX12_downIn_23 : decode cX12_downIn 23 = .ok (.ireturn, 1) := by decide +kernel
theorem dX12_downIn_24 : decode cX12_downIn 24 = .ok (.iconst (-1), 1) := by decide +kernel
theorem dX12_downIn_25 : decode cX12_downIn 25 = .ok (.istore_n 2, 1) := by decide +kernel
theorem dX12_downIn_26 : decode cX12_downIn 26 = .ok (.aload_n 0, 1) := by decide +kernel
theorem dX12_downIn_27 : decode cX12_downIn 27 = .ok (.invokevirtual 417, 3) := by decide +kernel
theorem dX12_downIn_30 : decode cX12_downIn 30 = .ok (.iconst 0, 1) := by decide +kernel
theorem dX12_downIn_31 : decode cX12_downIn 31 = .ok (.istore_n 3, 1) := by decide +kernel
theorem dX12_downIn_32 : decode cX12_downIn 32 = .ok (.iload_n 3, 1) := by decide +kernel
theorem dX12_downIn_33 : decode cX12_downIn 33 = .ok (.sipush 200, 3) := by decide +kernel
theorem dX12_downIn_36 : decode cX12_downIn 36 = .ok (.if_icmp .gt 27, 3) := by decide +kernel
theorem dX12_downIn_39 : decode cX12_downIn 39 = .ok (.iload_n 2, 1) := by decide +kernel
theorem dX12_downIn_40 : decode cX12_downIn 40 = .ok (.ifCond .ge 23, 3) := by decide +kernel
theorem dX12_downIn_43 : decode cX12_downIn 43 = .ok (.aload_n 0, 1) := by decide +kernel
theorem dX12_downIn_44 : decode cX12_downIn 44 = .ok (.iload_n 1, 1) := by decide +kernel
theorem dX12_downIn_45 : decode cX12_downIn 45 = .ok (.invokevirtual 340, 3) := by decide +kernel
theorem dX12_downIn_48 : decode cX12_downIn 48 = .ok (.ifCond .ne 5, 3) := by decide +kernel
theorem dX12_downIn_51 : decode cX12_downIn 51 = .ok (.iload_n 3, 1) := by decide +kernel
theorem dX12_downIn_52 : decode cX12_downIn 52 = .ok (.istore_n 2, 1) := by decide +kernel
theorem dX12_downIn_53 : decode cX12_downIn 53 = .ok (.aload_n 0, 1) := by decide +kernel
theorem dX12_downIn_54 : decode cX12_downIn 54 = .ok (.invokevirtual 394, 3) := by decide +kernel
theorem dX12_downIn_57 : decode cX12_downIn 57 = .ok (.iinc 3 1, 3) := by decide +kernel
theorem dX12_downIn_60 : decode cX12_downIn 60 = .ok (.goto (-28), 3) := by decide +kernel
theorem dX12_downIn_63 : decode cX12_downIn 63 = .ok (.aload_n 0, 1) := by decide +kernel
theorem dX12_downIn_64 : decode cX12_downIn 64 = .ok (.invokevirtual 420, 3) := by decide +kernel
theorem dX12_downIn_67 : decode cX12_downIn 67 = .ok (.aload_n 0, 1) := by decide +kernel
theorem dX12_downIn_68 : decode cX12_downIn 68 = .ok (.iload_n 2, 1) := by decide +kernel
theorem dX12_downIn_69 : decode cX12_downIn 69 = .ok (.invokevirtual 368, 3) := by decide +kernel
theorem dX12_downIn_72 : decode cX12_downIn 72 = .ok (.ireturn, 1) := by decide +kernel
theorem dX12_isEnough_0 : decode cX12_isEnough 0 = .ok (.iconst 0, 1) := by decide +kernel
theorem dX12_isEnough_1 : decode cX12_isEnough 1 = .ok (.istore_n 3, 1) := by decide +kernel
theorem dX12_isEnough_2 : decode cX12_isEnough 2 = .ok (.iload_n 3, 1) := by decide +kernel
theorem dX12_isEnough_3 : decode cX12_isEnough 3 = .ok (.aload_n 0, 1) := by decide +kernel
theorem dX12_isEnough_4 : decode cX12_isEnough 4 = .ok (.getfield 35, 3) := by decide +kernel
theorem dX12_isEnough_7 : decode cX12_isEnough 7 = .ok (.iconst 0, 1) := by decide +kernel
theorem dX12_isEnough_8 : decode cX12_isEnough 8 = .ok (.iaload, 1) := by decide +kernel
theorem dX12_isEnough_9 : decode cX12_isEnough 9 = .ok (.if_icmp .ge 24, 3) := by decide +kernel
theorem dX12_isEnough_12 : decode cX12_isEnough 12 = .ok (.aload_n 0, 1) := by decide +kernel
theorem dX12_isEnough_13 : decode cX12_isEnough 13 = .ok (.getfield 44, 3) := by decide +kernel
theorem dX12_isEnough_16 : decode cX12_isEnough 16 = .ok (.iload_n 3, 1) := by decide +kernel
theorem dX12_isEnough_17 : decode cX12_isEnough 17 = .ok (.aload_n 0, 1) := by decide +kernel
theorem dX12_isEnough_18 : decode cX12_isEnough 18 = .ok (.getfield 35, 3) := by decide +kernel
theorem dX12_isEnough_21 : decode cX12_isEnough 21 = .ok (.bipush 6, 2) := by decide +kernel
theorem dX12_isEnough_23 : decode cX12_isEnough 23 = .ok (.iload_n 3, 1) := by decide +kernel
theorem dX12_isEnough_24 : decode cX12_isEnough 24 = .ok (.iadd, 1) := by decide +kernel
theorem dX12_isEnough_25 : decode cX12_isEnough 25 = .ok (.iaload, 1) := by decide +kernel
theorem dX12_isEnough_26 : decode cX12_isEnough 26 = .ok (.iastore, 1) := by decide +kernel
theorem dX12_isEnough_27 : decode cX12_isEnough 27 = .ok (.iinc 3 1, 3) := by decide +kernel
theorem dX12_isEnough_30 : decode cX12_isEnough 30 = .ok (.goto (-28), 3) := by decide +kernel
theorem dX12_isEnough_33 : decode cX12_isEnough 33 = .ok (.iconst 0, 1) := by decide +kernel
theorem dX12_isEnough_34 : decode cX12_isEnough 34 = .ok (.istore_n 3, 1) := by decide +kernel
theorem dX12_isEnough_35 : decode cX12_isEnough 35 = .ok (.iload_n 3, 1) := by decide +kernel
theorem dX12_isEnough_36 : decode cX12_isEnough 36 = .ok (.aload_n 0, 1) := by decide +kernel
theorem dX12_isEnough_37 : decode cX12_isEnough 37 = .ok (.getfield 35, 3) := by decide +kernel
theorem dX12_isEnough_40 : decode cX12_isEnough 40 = .ok (.iconst 3, 1) := by decide +kernel
theorem dX12_isEnough_41 : decode cX12_isEnough 41 = .ok (.iaload, 1) := by decide +kernel
theorem dX12_isEnough_42 : decode cX12_isEnough 42 = .ok (.if_icmp .ge 73, 3) := by decide +kernel
theorem dX12_isEnough_45 : decode cX12_isEnough 45 = .ok (.iload_n 2, 1) := by decide +kernel
theorem dX12_isEnough_46 : decode cX12_isEnough 46 = .ok (.iload_n 3, 1) := by decide +kernel
theorem dX12_isEnough_47 : decode cX12_isEnough 47 = .ok (.invokestatic 108, 3) := by decide +kernel
theorem dX12_isEnough_50 : decode cX12_isEnough 50 = .ok (.ifCond .ne 6, 3) := by decide +kernel
theorem dX12_isEnough_53 : decode cX12_isEnough 53 = .ok (.goto 56, 3) := by decide +kernel
theorem dX12_isEnough_56 : decode cX12_isEnough 56 = .ok (.aload_n 0, 1) := by decide +kernel
theorem dX12_isEnough_57 : decode cX12_isEnough 57 = .ok (.iload_n 3, 1) := by decide +kernel
theorem dX12_isEnough_58 : decode cX12_isEnough 58 = .ok (.invokevirtual 397, 3) := by decide +kernel
theorem dX12_isEnough_61 : decode cX12_isEnough 61 = .ok (.ifCond .ne 5, 3) := by decide +kernel
theorem dX12_isEnough_64 : decode cX12_isEnough 64 = .ok (.iconst 0, 1) := by decide +kernel
theorem dX12_isEnough_65 : decode cX12_isEnough 65 = .ok (.ireturn, 1) := by decide +kernel
theorem dX12_isEnough_66 : decode cX12_isEnough 66 = .ok (.aload_n 0, 1) := by decide +kernel
theorem dX12_isEnough_67 : decode cX12_isEnough 67 = .ok (.getfield 44, 3) := by decide +kernel
theorem dX12_isEnough_70 : decode cX12_isEnough 70 = .ok (.aload_n 0, 1) := by decide +kernel
theorem dX12_isEnough_71 : decode cX12_isEnough 71 = .ok (.getfield 35, 3) := by decide +kernel
theorem dX12_isEnough_74 : decode cX12_isEnough 74 = .ok (.bipush 66, 2) := by decide +kernel
theorem dX12_isEnough_76 : decode cX12_isEnough 76 = .ok (.iload_n 3, 1) := by decide +kernel
theorem dX12_isEnough_77 : decode cX12_isEnough 77 = .ok (.iadd, 1) := by decide +kernel
theorem dX12_isEnough_78 : decode cX12_isEnough 78 = .ok (.iaload, 1) := by decide +kernel
theorem dX12_isEnough_79 : decode cX12_isEnough 79 = .ok (.bipush 100, 2) := by decide +kernel
theorem dX12_isEnough_81 : decode cX12_isEnough 81 = .ok (.aload_n 0, 1) := by decide +kernel
theorem dX12_isEnough_82 : decode cX12_isEnough 82 = .ok (.getfield 44, 3) := by decide +kernel
theorem dX12_isEnough_85 : decode cX12_isEnough 85 = .ok (.aload_n 0, 1) := by decide +kernel
theorem dX12_isEnough_86 : decode cX12_isEnough 86 = .ok (.getfield 35, 3) := by decide +kernel
theorem dX12_isEnough_89 : decode cX12_isEnough 89 = .ok (.bipush 66, 2) := by decide +kernel
theorem dX12_isEnough_91 : decode cX12_isEnough 91 = .ok (.iload_n 3, 1) := by decide +kernel
theorem dX12_isEnough_92 : decode cX12_isEnough 92 = .ok (.iadd, 1) := by decide +kernel
theorem dX12_isEnough_93 : decode cX12_isEnough 93 = .ok (.iaload, 1) := by decide +kernel
theorem dX12_isEnough_94 : decode cX12_isEnough 94 = .ok (.iaload, 1) := by decide +kernel
theorem dX12_isEnough_95 : decode cX12_isEnough 95 = .ok (.aload_n 0, 1) := by decide +kernel
theorem dX12_isEnough_96 : decode cX12_isEnough 96 = .ok (.getfield 35, 3) := by decide +kernel
theorem dX12_isEnough_99 : decode cX12_isEnough 99 = .ok (.bipush 74, 2) := by decide +kernel
theorem dX12_isEnough_101 : decode cX12_isEnough 101 = .ok (.iload_n 3, 1) := by decide +kernel
theorem dX12_isEnough_102 : decode cX12_isEnough 102 = .ok (.iadd, 1) := by decide +kernel
theorem dX12_isEnough_103 : decode cX12_isEnough 103 = .ok (.iaload, 1) := by decide +kernel
theorem dX12_isEnough_104 : decode cX12_isEnough 104 = .ok (.iadd, 1) := by decide +kernel
theorem dX12_isEnough_105 : decode cX12_isEnough 105 = .ok (.invokestatic 386, 3) := by decide +kernel
theorem dX12_isEnough_108 : decode cX12_isEnough 108 = .ok (.iastore, 1) := by decide +kernel
theorem dX12_isEnough_109 : decode cX12_isEnough 109 = .ok (.iinc 3 1, 3) := by decide +kernel
theorem dX12_isEnough_112 : decode cX12_isEnough 112 = .ok (.goto (-77), 3) := by decide +kernel
theorem dX12_isEnough_115 : decode cX12_isEnough 115 = .ok (.iconst 0, 1) := by decide +kernel
theorem dX12_isEnough_116 : decode cX12_isEnough 116 = .ok (.istore_n 3, 1) := by decide +kernel
theorem dX12_isEnough_117 : decode cX12_isEnough 117 = .ok (.iload_n 3, 1) := by decide +kernel
theorem dX12_isEnough_118 : decode cX12_isEnough 118 = .ok (.aload_n 0, 1) := by decide +kernel
theorem dX12_isEnough_119 : decode cX12_isEnough 119 = .ok (.getfield 35, 3) := by decide +kernel
theorem dX12_isEnough_122 : decode cX12_isEnough 122 = .ok (.iconst 2, 1) := by decide +kernel
theorem dX12_isEnough_123 : decode cX12_isEnough 123 = .ok (.iaload, 1) := by decide +kernel
theorem dX12_isEnough_124 : decode cX12_isEnough 124 = .ok (.if_icmp .ge 48, 3) := by decide +kernel
theorem dX12_isEnough_127 : decode cX12_isEnough 127 = .ok (.iload_n 1, 1) := by decide +kernel
theorem dX12_isEnough_128 : decode cX12_isEnough 128 = .ok (.iload_n 3, 1) := by decide +kernel
theorem dX12_isEnough_129 : decode cX12_isEnough 129 = .ok (.invokestatic 108, 3) := by decide +kernel
theorem dX12_isEnough_132 : decode cX12_isEnough 132 = .ok (.ifCond .eq 34, 3) := by decide +kernel
theorem dX12_isEnough_135 : decode cX12_isEnough 135 = .ok (.aload_n 0, 1) := by decide +kernel
theorem dX12_isEnough_136 : decode cX12_isEnough 136 = .ok (.getfield 35, 3) := by decide +kernel
theorem dX12_isEnough_139 : decode cX12_isEnough 139 = .ok (.bipush 45, 2) := by decide +kernel
theorem dX12_isEnough_141 : decode cX12_isEnough 141 = .ok (.iload_n 3, 1) := by decide +kernel
theorem dX12_isEnough_142 : decode cX12_isEnough 142 = .ok (.iadd, 1) := by decide +kernel
theorem dX12_isEnough_143 : decode cX12_isEnough 143 = .ok (.iaload, 1) := by decide +kernel
theorem dX12_isEnough_144 : decode cX12_isEnough 144 = .ok (.aload_n 0, 1) := by decide +kernel
theorem dX12_isEnough_145 : decode cX12_isEnough 145 = .ok (.getfield 44, 3) := by decide +kernel
theorem dX12_isEnough_148 : decode cX12_isEnough 148 = .ok (.aload_n 0, 1) := by decide +kernel
theorem dX12_isEnough_149 : decode cX12_isEnough 149 = .ok (.getfield 35, 3) := by decide +kernel
theorem dX12_isEnough_152 : decode cX12_isEnough 152 = .ok (.bipush 52, 2) := by decide +kernel
theorem dX12_isEnough_154 : decode cX12_isEnough 154 = .ok (.iload_n 3, 1) := by decide +kernel
theorem dX12_isEnough_155 : decode cX12_isEnough 155 = .ok (.iadd, 1) := by decide +kernel
theorem dX12_isEnough_156 : decode cX12_isEnough 156 = .ok (.iaload, 1) := by decide +kernel
theorem dX12_isEnough_157 : decode cX12_isEnough 157 = .ok (.iaload, 1) := by decide +kernel
theorem dX12_isEnough_158 : decode cX12_isEnough 158 = .ok (.invokestatic 337, 3) := by decide +kernel
theorem dX12_isEnough_161 : decode cX12_isEnough 161 = .ok (.ifCond .le 5, 3) := by decide +kernel
theorem dX12_isEnough_164 : decode cX12_isEnough 164 = .ok (.iconst 0, 1) := by decide +kernel
theorem dX12_isEnough_165 : decode cX12_isEnough 165 = .ok (.ireturn, 1) := by decide +kernel
theorem dX12_isEnough_166 : decode cX12_isEnough 166 = .ok (.iinc 3 1, 3) := by decide +kernel
theorem dX12_isEnough_169 : decode cX12_isEnough 169 = .ok (.goto (-52), 3) := by decide +kernel
theorem dX12_isEnough_172 : decode cX12_isEnough 172 = .ok (.iconst 1, 1) := by decide +kernel
theorem dX12_isEnough_173 : decode cX12_isEnough 173 = .ok (.ireturn, 1) := by decide +kernel
theorem dX12_leastOf_0 : decode cX12_leastOf 0 = .ok (.iconst (-1), 1) := by decide +kernel
theorem dX12_leastOf_1 : decode cX12_leastOf 1 = .ok (.istore_n 2, 1) := by decide +kernel
theorem dX12_leastOf_2 : decode cX12_leastOf 2 = .ok (.iconst 0, 1) := by decide +kernel
theorem dX12_leastOf_3 : decode cX12_leastOf 3 = .ok (.istore_n 3, 1) := by decide +kernel
theorem dX12_leastOf_4 : decode cX12_leastOf 4 = .ok (.iload_n 3, 1) := by decide +kernel
theorem dX12_leastOf_5 : decode cX12_leastOf 5 = .ok (.iconst 1, 1) := by decide +kernel
theorem dX12_leastOf_6 : decode cX12_leastOf 6 = .ok (.aload_n 0, 1) := by decide +kernel
theorem dX12_leastOf_7 : decode cX12_leastOf 7 = .ok (.getfield 35, 3) := by decide +kernel
theorem dX12_leastOf_10 : decode cX12_leastOf 10 = .ok (.iconst 3, 1) := by decide +kernel
theorem dX12_leastOf_11 : decode cX12_leastOf 11 = .ok (.iaload, 1) := by decide +kernel
theorem dX12_leastOf_12 : decode cX12_leastOf 12 = .ok (.ishl, 1) := by decide +kernel
theorem dX12_leastOf_13 : decode cX12_leastOf 13 = .ok (.if_icmp .ge 35, 3) := by decide +kernel
theorem dX12_leastOf_16 : decode cX12_leastOf 16 = .ok (.iload_n 2, 1) := by decide +kernel
theorem dX12_leastOf_17 : decode cX12_leastOf 17 = .ok (.ifCond .lt 14, 3) := by decide +kernel
theorem dX12_leastOf_20 : decode cX12_leastOf 20 = .ok (.iload_n 3, 1) := by decide +kernel
theorem dX12_leastOf_21 : decode cX12_leastOf 21 = .ok (.invokestatic 428, 3) := by decide +kernel
theorem dX12_leastOf_24 : decode cX12_leastOf 24 = .ok (.iload_n 2, 1) := by decide +kernel
theorem dX12_leastOf_25 : decode cX12_leastOf 25 = .ok (.invokestatic 428, 3) := by decide +kernel
theorem dX12_leastOf_28 : decode cX12_leastOf 28 = .ok (.if_icmp .ge 14, 3) := by decide +kernel
theorem dX12_leastOf_31 : decode cX12_leastOf 31 = .ok (.aload_n 0, 1) := by decide +kernel
theorem dX12_leastOf_32 : decode cX12_leastOf 32 = .ok (.iload_n 1, 1) := by decide +kernel
theorem dX12_leastOf_33 : decode cX12_leastOf 33 = .ok (.iload_n 3, 1) := by decide +kernel
theorem dX12_leastOf_34 : decode cX12_leastOf 34 = .ok (.invokevirtual 431, 3) := by decide +kernel
theorem dX12_leastOf_37 : decode cX12_leastOf 37 = .ok (.ifCond .eq 5, 3) := by decide +kernel
theorem dX12_leastOf_40 : decode cX12_leastOf 40 = .ok (.iload_n 3, 1) := by decide +kernel
theorem dX12_leastOf_41 : decode cX12_leastOf 41 = .ok (.istore_n 2, 1) := by decide +kernel
theorem dX12_leastOf_42 : decode cX12_leastOf 42 = .ok (.iinc 3 1, 3) := by decide +kernel
theorem dX12_leastOf_45 : decode cX12_leastOf 45 = .ok (.goto (-41), 3) := by decide +kernel
theorem dX12_leastOf_48 : decode cX12_leastOf 48 = .ok (.iload_n 2, 1) := by decide +kernel
theorem dX12_leastOf_49 : decode cX12_leastOf 49 = .ok (.ireturn, 1) := by decide +kernel
theorem dX12_areSitters_0 : decode cX12_areSitters 0 = .ok (.iload_n 1, 1) := by decide +kernel
theorem dX12_areSitters_1 : decode cX12_areSitters 1 = .ok (.i2l, 1) := by decide +kernel
theorem dX12_areSitters_2 : decode cX12_areSitters 2 = .ok (.lconst 0, 1) := by decide +kernel
theorem dX12_areSitters_3 : decode cX12_areSitters 3 = .ok (.iconst 1, 1) := by decide +kernel
theorem dX12_areSitters_4 : decode cX12_areSitters 4 = .ok (.aload_n 0, 1) := by decide +kernel
theorem dX12_areSitters_5 : decode cX12_areSitters 5 = .ok (.getfield 35, 3) := by decide +kernel
theorem dX12_areSitters_8 : decode cX12_areSitters 8 = .ok (.iconst 2, 1) := by decide +kernel
theorem dX12_areSitters_9 : decode cX12_areSitters 9 = .ok (.iaload, 1) := by decide +kernel
theorem dX12_areSitters_10 : decode cX12_areSitters 10 = .ok (.ishl, 1) := by decide +kernel
theorem dX12_areSitters_11 : decode cX12_areSitters 11 = .ok (.iconst 1, 1) := by decide +kernel
theorem dX12_areSitters_12 : decode cX12_areSitters 12 = .ok (.isub, 1) := by decide +kernel
theorem dX12_areSitters_13 : decode cX12_areSitters 13 = .ok (.i2l, 1) := by decide +kernel
theorem dX12_areSitters_14 : decode cX12_areSitters 14 = .ok (.invokestatic 104, 3) := by decide +kernel
theorem dX12_areSitters_17 : decode cX12_areSitters 17 = .ok (.ireturn, 1) := by decide +kernel
theorem dX12_least_0 : decode cX12_least 0 = .ok (.aload_n 0, 1) := by decide +kernel
theorem dX12_least_1 : decode cX12_least 1 = .ok (.iconst 0, 1) := by decide +kernel
theorem dX12_least_2 : decode cX12_least 2 = .ok (.putfield 69, 3) := by decide +kernel
theorem dX12_least_5 : decode cX12_least 5 = .ok (.aload_n 0, 1) := by decide +kernel
theorem dX12_least_6 : decode cX12_least 6 = .ok (.iconst 0, 1) := by decide +kernel
theorem dX12_least_7 : decode cX12_least 7 = .ok (.putfield 72, 3) := by decide +kernel
theorem dX12_least_10 : decode cX12_least 10 = .ok (.aload_n 0, 1) := by decide +kernel
theorem dX12_least_11 : decode cX12_least 11 = .ok (.iload_n 1, 1) := by decide +kernel
theorem dX12_least_12 : decode cX12_least 12 = .ok (.invokevirtual 434, 3) := by decide +kernel
theorem dX12_least_15 : decode cX12_least 15 = .ok (.ifCond .ne 9, 3) := by decide +kernel
theorem dX12_least_18 : decode cX12_least 18 = .ok (.aload_n 0, 1) := by decide +kernel
theorem dX12_least_19 : decode cX12_least 19 = .ok (.iconst 5, 1) := by decide +kernel
theorem dX12_least_20 : decode cX12_least 20 = .ok (.invokevirtual 345, 3) := by decide +kernel
theorem dX12_least_23 : decode cX12_least 23 = .ok (.ireturn, 1) := by decide +kernel
theorem dX12_least_24 : decode cX12_least 24 = .ok (.aload_n 0, 1) := by decide +kernel
theorem dX12_least_25 : decode cX12_least 25 = .ok (.iload_n 1, 1) := by decide +kernel
theorem dX12_least_26 : decode cX12_least 26 = .ok (.invokevirtual 437, 3) := by decide +kernel
theorem dX12_least_29 : decode cX12_least 29 = .ok (.istore_n 2, 1) := by decide +kernel
theorem dX12_least_30 : decode cX12_least 30 = .ok (.iload_n 2, 1) := by decide +kernel
theorem dX12_least_31 : decode cX12_least 31 = .ok (.ifCond .ge 12, 3) := by decide +kernel
theorem dX12_least_34 : decode cX12_least 34 = .ok (.aload_n 0, 1) := by decide +kernel
theorem dX12_least_35 : decode cX12_least 35 = .ok (.bipush 8, 2) := by decide +kernel
theorem dX12_least_37 : decode cX12_least 37 = .ok (.invokevirtual 345, 3) := by decide +kernel
theorem dX12_least_40 : decode cX12_least 40 = .ok (.goto 7, 3) := by decide +kernel
theorem dX12_least_43 : decode cX12_least 43 = .ok (.iload_n 2, 1) := by decide +kernel
theorem dX12_least_44 : decode cX12_least 44 = .ok (.invokestatic 428, 3) := by decide +kernel
theorem dX12_least_47 : decode cX12_least 47 = .ok (.ireturn, 1) := by decide +kernel
theorem dX12_leastSet_0 : decode cX12_leastSet 0 = .ok (.aload_n 0, 1) := by decide +kernel
theorem dX12_leastSet_1 : decode cX12_leastSet 1 = .ok (.iconst 0, 1) := by decide +kernel
theorem dX12_leastSet_2 : decode cX12_leastSet 2 = .ok (.putfield 69, 3) := by decide +kernel
theorem dX12_leastSet_5 : decode cX12_leastSet 5 = .ok (.aload_n 0, 1) := by decide +kernel
theorem dX12_leastSet_6 : decode cX12_leastSet 6 = .ok (.iconst 0, 1) := by decide +kernel
theorem dX12_leastSet_7 : decode cX12_leastSet 7 = .ok (.putfield 72, 3) := by decide +kernel
theorem dX12_leastSet_10 : decode cX12_leastSet 10 = .ok (.aload_n 0, 1) := by decide +kernel
theorem dX12_leastSet_11 : decode cX12_leastSet 11 = .ok (.iload_n 1, 1) := by decide +kernel
theorem dX12_leastSet_12 : decode cX12_leastSet 12 = .ok (.invokevirtual 434, 3) := by decide +kernel
theorem dX12_leastSet_15 : decode cX12_leastSet 15 = .ok (.ifCond .eq 15, 3) := by decide +kernel
theorem dX12_leastSet_18 : decode cX12_leastSet 18 = .ok (.aload_n 0, 1) := by decide +kernel
theorem dX12_leastSet_19 : decode cX12_leastSet 19 = .ok (.aload_n 0, 1) := by decide +kernel
theorem dX12_leastSet_20 : decode cX12_leastSet 20 = .ok (.iload_n 1, 1) := by decide +kernel
theorem dX12_leastSet_21 : decode cX12_leastSet 21 = .ok (.invokevirtual 437, 3) := by decide +kernel
theorem dX12_leastSet_24 : decode cX12_leastSet 24 = .ok (.invokevirtual 368, 3) := by decide +kernel
theorem dX12_leastSet_27 : decode cX12_leastSet 27 = .ok (.goto 8, 3) := by decide +kernel
theorem dX12_leastSet_30 : decode cX12_leastSet 30 = .ok (.aload_n 0, 1) := by decide +kernel
theorem dX12_leastSet_31 : decode cX12_leastSet 31 = .ok (.iconst 5, 1) := by decide +kernel
theorem dX12_leastSet_32 : decode cX12_leastSet 32 = .ok (.invokevirtual 345, 3) := by decide +kernel
theorem dX12_leastSet_35 : decode cX12_leastSet 35 = .ok (.ireturn, 1) := by decide +kernel
theorem dX12_ringBut_0 : decode cX12_ringBut 0 = .ok (.iconst (-1), 1) := by decide +kernel
theorem dX12_ringBut_1 : decode cX12_ringBut 1 = .ok (.istore_n 2, 1) := by decide +kernel
theorem dX12_ringBut_2 : decode cX12_ringBut 2 = .ok (.iconst 0, 1) := by decide +kernel
theorem dX12_ringBut_3 : decode cX12_ringBut 3 = .ok (.istore_n 3, 1) := by decide +kernel
theorem dX12_ringBut_4 : decode cX12_ringBut 4 = .ok (.iload_n 3, 1) := by decide +kernel
theorem dX12_ringBut_5 : decode cX12_ringBut 5 = .ok (.aload_n 0, 1) := by decide +kernel
theorem dX12_ringBut_6 : decode cX12_ringBut 6 = .ok (.getfield 35, 3) := by decide +kernel
theorem dX12_ringBut_9 : decode cX12_ringBut 9 = .ok (.iconst 0, 1) := by decide +kernel
theorem dX12_ringBut_10 : decode cX12_ringBut 10 = .ok (.iaload, 1) := by decide +kernel
theorem dX12_ringBut_11 : decode cX12_ringBut 11 = .ok (.if_icmp .ge 131, 3) := by decide +kernel
theorem dX12_ringBut_14 : decode cX12_ringBut 14 = .ok (.iconst 1, 1) := by decide +kernel
theorem dX12_ringBut_15 : decode cX12_ringBut 15 = .ok (.iload_n 3, 1) := by decide +kernel
theorem dX12_ringBut_16 : decode cX12_ringBut 16 = .ok (.ishl, 1) := by decide +kernel
theorem dX12_ringBut_17 : decode cX12_ringBut 17 = .ok (.istore 4, 2) := by decide +kernel
theorem dX12_ringBut_19 : decode cX12_ringBut 19 = .ok (.iconst 1, 1) := by decide +kernel
theorem dX12_ringBut_20 : decode cX12_ringBut 20 = .ok (.istore 5, 2) := by decide +kernel
theorem dX12_ringBut_22 : decode cX12_ringBut 22 = .ok (.iload 5, 2) := by decide +kernel
theorem dX12_ringBut_24 : decode cX12_ringBut 24 = .ok (.aload_n 0, 1) := by decide +kernel
theorem dX12_ringBut_25 : decode cX12_ringBut 25 = .ok (.getfield 35, 3) := by decide +kernel
theorem dX12_ringBut_28 : decode cX12_ringBut 28 = .ok (.iconst 0, 1) := by decide +kernel
theorem dX12_ringBut_29 : decode cX12_ringBut 29 = .ok (.iaload, 1) := by decide +kernel
theorem dX12_ringBut_30 : decode cX12_ringBut 30 = .ok (.if_icmp .gt 106, 3) := by decide +kernel
theorem dX12_ringBut_33 : decode cX12_ringBut 33 = .ok (.iconst 0, 1) := by decide +kernel
theorem dX12_ringBut_34 : decode cX12_ringBut 34 = .ok (.istore 6, 2) := by decide +kernel
theorem dX12_ringBut_36 : decode cX12_ringBut 36 = .ok (.iconst 0, 1) := by decide +kernel
theorem dX12_ringBut_37 : decode cX12_ringBut 37 = .ok (.istore 7, 2) := by decide +kernel
theorem dX12_ringBut_39 : decode cX12_ringBut 39 = .ok (.iload 7, 2) := by decide +kernel
theorem dX12_ringBut_41 : decode cX12_ringBut 41 = .ok (.aload_n 0, 1) := by decide +kernel
theorem dX12_ringBut_42 : decode cX12_ringBut 42 = .ok (.getfield 35, 3) := by decide +kernel
theorem dX12_ringBut_45 : decode cX12_ringBut 45 = .ok (.iconst 1, 1) := by decide +kernel
theorem dX12_ringBut_46 : decode cX12_ringBut 46 = .ok (.iaload, 1) := by decide +kernel
theorem dX12_ringBut_47 : decode cX12_ringBut 47 = .ok (.if_icmp .ge 57, 3) := by decide +kernel
theorem dX12_ringBut_50 : decode cX12_ringBut 50 = .ok (.iload 6, 2) := by decide +kernel
theorem dX12_ringBut_52 : decode cX12_ringBut 52 = .ok (.iload_n 1, 1) := by decide +kernel
theorem dX12_ringBut_53 : decode cX12_ringBut 53 = .ok (.iload 7, 2) := by decide +kernel
theorem dX12_ringBut_55 : decode cX12_ringBut 55 = .ok (.invokestatic 108, 3) := by decide +kernel
theorem dX12_ringBut_58 : decode cX12_ringBut 58 = .ok (.ifCond .ne 36, 3) := by decide +kernel
theorem dX12_ringBut_61 : decode cX12_ringBut 61 = .ok (.iload 4, 2) := by decide +kernel
theorem dX12_ringBut_63 : decode cX12_ringBut 63 = .ok (.aload_n 0, 1) := by decide +kernel
theorem dX12_ringBut_64 : decode cX12_ringBut 64 = .ok (.getfield 35, 3) := by decide +kernel
theorem dX12_ringBut_67 : decode cX12_ringBut 67 = .ok (.bipush 18, 2) := by decide +kernel
theorem dX12_ringBut_69 : decode cX12_ringBut 69 = .ok (.iload 7, 2) := by decide +kernel
theorem dX12_ringBut_71 : decode cX12_ringBut 71 = .ok (.iadd, 1) := by decide +kernel
theorem dX12_ringBut_72 : decode cX12_ringBut 72 = .ok (.iaload, 1) := by decide +kernel
theorem dX12_ringBut_73 : decode cX12_ringBut 73 = .ok (.invokestatic 108, 3) := by decide +kernel
theorem dX12_ringBut_76 : decode cX12_ringBut 76 = .ok (.ifCond .eq 18, 3) := by decide +kernel
theorem dX12_ringBut_79 : decode cX12_ringBut 79 = .ok (.iconst 1, 1) := by decide +kernel
theorem dX12_ringBut_80 : decode cX12_ringBut 80 = .ok (.aload_n 0, 1) := by decide +kernel
theorem dX12_ringBut_81 : decode cX12_ringBut 81 = .ok (.getfield 35, 3) := by decide +kernel
theorem dX12_ringBut_84 : decode cX12_ringBut 84 = .ok (.bipush 28, 2) := by decide +kernel
theorem dX12_ringBut_86 : decode cX12_ringBut 86 = .ok (.iload 7, 2) := by decide +kernel
theorem dX12_ringBut_88 : decode cX12_ringBut 88 = .ok (.iadd, 1) := by decide +kernel
theorem dX12_ringBut_89 : decode cX12_ringBut 89 = .ok (.iaload, 1) := by decide +kernel
theorem dX12_ringBut_90 : decode cX12_ringBut 90 = .ok (.ishl, 1) := by decide +kernel
theorem dX12_ringBut_91 : decode cX12_ringBut 91 = .ok (.goto 4, 3) := by decide +kernel
theorem dX12_ringBut_94 : decode cX12_ringBut 94 = .ok (.iconst 0, 1) := by decide +kernel
theorem dX12_ringBut_95 : decode cX12_ringBut 95 = .ok (.ior, 1) := by decide +kernel
theorem dX12_ringBut_96 : decode cX12_ringBut 96 = .ok (.istore 6, 2) := by decide +kernel
theorem dX12_ringBut_98 : decode cX12_ringBut 98 = .ok (.iinc 7 1, 3) := by decide +kernel
theorem dX12_ringBut_101 : decode cX12_ringBut 101 = .ok (.goto (-62), 3) := by decide +kernel
theorem dX12_ringBut_104 : decode cX12_ringBut 104 = .ok (.iload 6, 2) := by decide +kernel
theorem dX12_ringBut_106 : decode cX12_ringBut 106 = .ok (.iload_n 3, 1) := by decide +kernel
theorem dX12_ringBut_107 : decode cX12_ringBut 107 = .ok (.invokestatic 108, 3) := by decide +kernel
theorem dX12_ringBut_110 : decode cX12_ringBut 110 = .ok (.ifCond .eq 16, 3) := by decide +kernel
theorem dX12_ringBut_113 : decode cX12_ringBut 113 = .ok (.iload_n 2, 1) := by decide +kernel
theorem dX12_ringBut_114 : decode cX12_ringBut 114 = .ok (.ifCond .lt 9, 3) := by decide +kernel
theorem dX12_ringBut_117 : decode cX12_ringBut 117 = .ok (.iload 5, 2) := by decide +kernel
theorem dX12_ringBut_119 : decode cX12_ringBut 119 = .ok (.iload_n 2, 1) := by decide +kernel
theorem dX12_ringBut_120 : decode cX12_ringBut 120 = .ok (.if_icmp .ge 6, 3) := by decide +kernel
theorem dX12_ringBut_123 : decode cX12_ringBut 123 = .ok (.iload 5, 2) := by decide +kernel
theorem dX12_ringBut_125 : decode cX12_ringBut 125 = .ok (.istore_n 2, 1) := by decide +kernel
theorem dX12_ringBut_126 : decode cX12_ringBut 126 = .ok (.iload 6, 2) := by decide +kernel
theorem dX12_ringBut_128 : decode cX12_ringBut 128 = .ok (.istore 4, 2) := by decide +kernel
theorem dX12_ringBut_130 : decode cX12_ringBut 130 = .ok (.iinc 5 1, 3) := by decide +kernel
theorem dX12_ringBut_133 : decode cX12_ringBut 133 = .ok (.goto (-111), 3) := by decide +kernel
theorem dX12_ringBut_136 : decode cX12_ringBut 136 = .ok (.iinc 3 1, 3) := by decide +kernel
theorem dX12_ringBut_139 : decode cX12_ringBut 139 = .ok (.goto (-135), 3) := by decide +kernel
theorem dX12_ringBut_142 : decode cX12_ringBut 142 = .ok (.iload_n 2, 1) := by decide +kernel
theorem dX12_ringBut_143 : decode cX12_ringBut 143 = .ok (.ireturn, 1) := by decide +kernel
theorem dX12_ring_0 : decode cX12_ring 0 = .ok (.aload_n 0, 1) := by decide +kernel
theorem dX12_ring_1 : decode cX12_ring 1 = .ok (.iconst 0, 1) := by decide +kernel
theorem dX12_ring_2 : decode cX12_ring 2 = .ok (.putfield 69, 3) := by decide +kernel
theorem dX12_ring_5 : decode cX12_ring 5 = .ok (.aload_n 0, 1) := by decide +kernel
theorem dX12_ring_6 : decode cX12_ring 6 = .ok (.iconst 0, 1) := by decide +kernel
theorem dX12_ring_7 : decode cX12_ring 7 = .ok (.putfield 72, 3) := by decide +kernel
theorem dX12_ring_10 : decode cX12_ring 10 = .ok (.aload_n 0, 1) := by decide +kernel
theorem dX12_ring_11 : decode cX12_ring 11 = .ok (.aload_n 0, 1) := by decide +kernel
theorem dX12_ring_12 : decode cX12_ring 12 = .ok (.iconst 0, 1) := by decide +kernel
theorem dX12_ring_13 : decode cX12_ring 13 = .ok (.invokevirtual 440, 3) := by decide +kernel
theorem dX12_ring_16 : decode cX12_ring 16 = .ok (.invokevirtual 368, 3) := by decide +kernel
theorem dX12_ring_19 : decode cX12_ring 19 = .ok (.ireturn, 1) := by decide +kernel
theorem dX12_loosening_0 : decode cX12_loosening 0 = .ok (.iconst (-1), 1) := by decide +kernel
theorem dX12_loosening_1 : decode cX12_loosening 1 = .ok (.istore_n 1, 1) := by decide +kernel
theorem dX12_loosening_2 : decode cX12_loosening 2 = .ok (.iconst 0, 1) := by decide +kernel
theorem dX12_loosening_3 : decode cX12_loosening 3 = .ok (.istore_n 2, 1) := by decide +kernel
theorem dX12_loosening_4 : decode cX12_loosening 4 = .ok (.iload_n 2, 1) := by decide +kernel

theorem dX12_loosening_5 : decode cX12_loosening 5 = .ok (.iconst 1, 1) := by decide +kernel
theorem dX12_loosening_6 : decode cX12_loosening 6 = .ok (.aload_n 0, 1) := by decide +kernel
theorem dX12_loosening_7 : decode cX12_loosening 7 = .ok (.getfield 35, 3) := by decide +kernel
theorem dX12_loosening_10 : decode cX12_loosening 10 = .ok (.iconst 1, 1) := by decide +kernel
theorem dX12_loosening_11 : decode cX12_loosening 11 = .ok (.iaload, 1) := by decide +kernel
theorem dX12_loosening_12 : decode cX12_loosening 12 = .ok (.ishl, 1) := by decide +kernel
theorem dX12_loosening_13 : decode cX12_loosening 13 = .ok (.if_icmp .ge 34, 3) := by decide +kernel
theorem dX12_loosening_16 : decode cX12_loosening 16 = .ok (.iload_n 1, 1) := by decide +kernel
theorem dX12_loosening_17 : decode cX12_loosening 17 = .ok (.ifCond .lt 14, 3) := by decide +kernel
theorem dX12_loosening_20 : decode cX12_loosening 20 = .ok (.iload_n 2, 1) := by decide +kernel
theorem dX12_loosening_21 : decode cX12_loosening 21 = .ok (.invokestatic 428, 3) := by decide +kernel
theorem dX12_loosening_24 : decode cX12_loosening 24 = .ok (.iload_n 1, 1) := by decide +kernel
theorem dX12_loosening_25 : decode cX12_loosening 25 = .ok (.invokestatic 428, 3) := by decide +kernel
theorem dX12_loosening_28 : decode cX12_loosening 28 = .ok (.if_icmp .ge 13, 3) := by decide +kernel
theorem dX12_loosening_31 : decode cX12_loosening 31 = .ok (.aload_n 0, 1) := by decide +kernel
theorem dX12_loosening_32 : decode cX12_loosening 32 = .ok (.iload_n 2, 1) := by decide +kernel
theorem dX12_loosening_33 : decode cX12_loosening 33 = .ok (.invokevirtual 440, 3) := by decide +kernel
theorem dX12_loosening_36 : decode cX12_loosening 36 = .ok (.ifCond .ge 5, 3) := by decide +kernel
theorem dX12_loosening_39 : decode cX12_loosening 39 = .ok (.iload_n 2, 1) := by decide +kernel
theorem dX12_loosening_40 : decode cX12_loosening 40 = .ok (.istore_n 1, 1) := by decide +kernel
theorem dX12_loosening_41 : decode cX12_loosening 41 = .ok (.iinc 2 1, 3) := by decide +kernel
theorem dX12_loosening_44 : decode cX12_loosening 44 = .ok (.goto (-40), 3) := by decide +kernel
theorem dX12_loosening_47 : decode cX12_loosening 47 = .ok (.iload_n 1, 1) := by decide +kernel
theorem dX12_loosening_48 : decode cX12_loosening 48 = .ok (.ireturn, 1) := by decide +kernel
theorem dX12_loosen_0 : decode cX12_loosen 0 = .ok (.aload_n 0, 1) := by decide +kernel
theorem dX12_loosen_1 : decode cX12_loosen 1 = .ok (.iconst 0, 1) := by decide +kernel
theorem dX12_loosen_2 : decode cX12_loosen 2 = .ok (.putfield 69, 3) := by decide +kernel
theorem dX12_loosen_5 : decode cX12_loosen 5 = .ok (.aload_n 0, 1) := by decide +kernel
theorem dX12_loosen_6 : decode cX12_loosen 6 = .ok (.iconst 0, 1) := by decide +kernel
theorem dX12_loosen_7 : decode cX12_loosen 7 = .ok (.putfield 72, 3) := by decide +kernel
theorem dX12_loosen_10 : decode cX12_loosen 10 = .ok (.aload_n 0, 1) := by decide +kernel
theorem dX12_loosen_11 : decode cX12_loosen 11 = .ok (.invokevirtual 443, 3) := by decide +kernel
theorem dX12_loosen_14 : decode cX12_loosen 14 = .ok (.invokestatic 428, 3) := by decide +kernel
theorem dX12_loosen_17 : decode cX12_loosen 17 = .ok (.ireturn, 1) := by decide +kernel
theorem dX12_loosenSet_0 : decode cX12_loosenSet 0 = .ok (.aload_n 0, 1) := by decide +kernel
theorem dX12_loosenSet_1 : decode cX12_loosenSet 1 = .ok (.iconst 0, 1) := by decide +kernel
theorem dX12_loosenSet_2 : decode cX12_loosenSet 2 = .ok (.putfield 69, 3) := by decide +kernel
theorem dX12_loosenSet_5 : decode cX12_loosenSet 5 = .ok (.aload_n 0, 1) := by decide +kernel
theorem dX12_loosenSet_6 : decode cX12_loosenSet 6 = .ok (.iconst 0, 1) := by decide +kernel
theorem dX12_loosenSet_7 : decode cX12_loosenSet 7 = .ok (.putfield 72, 3) := by decide +kernel
theorem dX12_loosenSet_10 : decode cX12_loosenSet 10 = .ok (.aload_n 0, 1) := by decide +kernel
theorem dX12_loosenSet_11 : decode cX12_loosenSet 11 = .ok (.invokevirtual 443, 3) := by decide +kernel
theorem dX12_loosenSet_14 : decode cX12_loosenSet 14 = .ok (.ireturn, 1) := by decide +kernel
theorem dX12_weightsFor_0 : decode cX12_weightsFor 0 = .ok (.iconst 0, 1) := by decide +kernel
theorem dX12_weightsFor_1 : decode cX12_weightsFor 1 = .ok (.istore_n 2, 1) := by decide +kernel
theorem dX12_weightsFor_2 : decode cX12_weightsFor 2 = .ok (.iconst 0, 1) := by decide +kernel
theorem dX12_weightsFor_3 : decode cX12_weightsFor 3 = .ok (.istore_n 3, 1) := by decide +kernel
theorem dX12_weightsFor_4 : decode cX12_weightsFor 4 = .ok (.iload_n 3, 1) := by decide +kernel
theorem dX12_weightsFor_5 : decode cX12_weightsFor 5 = .ok (.aload_n 0, 1) := by decide +kernel
theorem dX12_weightsFor_6 : decode cX12_weightsFor 6 = .ok (.getfield 35, 3) := by decide +kernel
theorem dX12_weightsFor_9 : decode cX12_weightsFor 9 = .ok (.iconst 2, 1) := by decide +kernel
theorem dX12_weightsFor_10 : decode cX12_weightsFor 10 = .ok (.iaload, 1) := by decide +kernel
theorem dX12_weightsFor_11 : decode cX12_weightsFor 11 = .ok (.if_icmp .ge 38, 3) := by decide +kernel
theorem dX12_weightsFor_14 : decode cX12_weightsFor 14 = .ok (.iload_n 2, 1) := by decide +kernel
theorem dX12_weightsFor_15 : decode cX12_weightsFor 15 = .ok (.aload_n 0, 1) := by decide +kernel
theorem dX12_weightsFor_16 : decode cX12_weightsFor 16 = .ok (.getfield 35, 3) := by decide +kernel
theorem dX12_weightsFor_19 : decode cX12_weightsFor 19 = .ok (.bipush 52, 2) := by decide +kernel
theorem dX12_weightsFor_21 : decode cX12_weightsFor 21 = .ok (.iload_n 3, 1) := by decide +kernel
theorem dX12_weightsFor_22 : decode cX12_weightsFor 22 = .ok (.iadd, 1) := by decide +kernel
theorem dX12_weightsFor_23 : decode cX12_weightsFor 23 = .ok (.iaload, 1) := by decide +kernel
theorem dX12_weightsFor_24 : decode cX12_weightsFor 24 = .ok (.iload_n 1, 1) := by decide +kernel
theorem dX12_weightsFor_25 : decode cX12_weightsFor 25 = .ok (.if_icmp .ne 15, 3) := by decide +kernel
theorem dX12_weightsFor_28 : decode cX12_weightsFor 28 = .ok (.aload_n 0, 1) := by decide +kernel
theorem dX12_weightsFor_29 : decode cX12_weightsFor 29 = .ok (.getfield 35, 3) := by decide +kernel
theorem dX12_weightsFor_32 : decode cX12_weightsFor 32 = .ok (.bipush 59, 2) := by decide +kernel
theorem dX12_weightsFor_34 : decode cX12_weightsFor 34 = .ok (.iload_n 3, 1) := by decide +kernel
theorem dX12_weightsFor_35 : decode cX12_weightsFor 35 = .ok (.iadd, 1) := by decide +kernel
theorem dX12_weightsFor_36 : decode cX12_weightsFor 36 = .ok (.iaload, 1) := by decide +kernel
theorem dX12_weightsFor_37 : decode cX12_weightsFor 37 = .ok (.goto 4, 3) := by decide +kernel
theorem dX12_weightsFor_40 : decode cX12_weightsFor 40 = .ok (.iconst 0, 1) := by decide +kernel
theorem dX12_weightsFor_41 : decode cX12_weightsFor 41 = .ok (.iadd, 1) := by decide +kernel
theorem dX12_weightsFor_42 : decode cX12_weightsFor 42 = .ok (.istore_n 2, 1) := by decide +kernel
theorem dX12_weightsFor_43 : decode cX12_weightsFor 43 = .ok (.iinc 3 1, 3) := by decide +kernel
theorem dX12_weightsFor_46 : decode cX12_weightsFor 46 = .ok (.goto (-42), 3) := by decide +kernel
theorem dX12_weightsFor_49 : decode cX12_weightsFor 49 = .ok (.iload_n 2, 1) := by decide +kernel
theorem dX12_weightsFor_50 : decode cX12_weightsFor 50 = .ok (.ireturn, 1) := by decide +kernel
theorem dX12_decides_0 : decode cX12_decides 0 = .ok (.iload_n 1, 1) := by decide +kernel
theorem dX12_decides_1 : decode cX12_decides 1 = .ok (.aload_n 0, 1) := by decide +kernel
theorem dX12_decides_2 : decode cX12_decides 2 = .ok (.getfield 35, 3) := by decide +kernel
theorem dX12_decides_5 : decode cX12_decides 5 = .ok (.iconst 0, 1) := by decide +kernel
theorem dX12_decides_6 : decode cX12_decides 6 = .ok (.iaload, 1) := by decide +kernel
theorem dX12_decides_7 : decode cX12_decides 7 = .ok (.if_icmp .ne 56, 3) := by decide +kernel
theorem dX12_decides_10 : decode cX12_decides 10 = .ok (.aload_n 0, 1) := by decide +kernel
theorem dX12_decides_11 : decode cX12_decides 11 = .ok (.getfield 446, 3) := by decide +kernel
theorem dX12_decides_14 : decode cX12_decides 14 = .ok (.ifCond .lt 13, 3) := by decide +kernel
theorem dX12_decides_17 : decode cX12_decides 17 = .ok (.iload 4, 2) := by decide +kernel
theorem dX12_decides_19 : decode cX12_decides 19 = .ok (.aload_n 0, 1) := by decide +kernel
theorem dX12_decides_20 : decode cX12_decides 20 = .ok (.getfield 446, 3) := by decide +kernel
theorem dX12_decides_23 : decode cX12_decides 23 = .ok (.if_icmp .lt 4, 3) := by decide +kernel
theorem dX12_decides_26 : decode cX12_decides 26 = .ok (.return_, 1) := by decide +kernel
theorem dX12_decides_27 : decode cX12_decides 27 = .ok (.aload_n 0, 1) := by decide +kernel
theorem dX12_decides_28 : decode cX12_decides 28 = .ok (.iload 4, 2) := by decide +kernel
theorem dX12_decides_30 : decode cX12_decides 30 = .ok (.putfield 446, 3) := by decide +kernel
theorem dX12_decides_33 : decode cX12_decides 33 = .ok (.iconst 0, 1) := by decide +kernel
theorem dX12_decides_34 : decode cX12_decides 34 = .ok (.istore 5, 2) := by decide +kernel
theorem dX12_decides_36 : decode cX12_decides 36 = .ok (.iload 5, 2) := by decide +kernel
theorem dX12_decides_38 : decode cX12_decides 38 = .ok (.iload_n 1, 1) := by decide +kernel
theorem dX12_decides_39 : decode cX12_decides 39 = .ok (.if_icmp .ge 23, 3) := by decide +kernel
theorem dX12_decides_42 : decode cX12_decides 42 = .ok (.aload_n 0, 1) := by decide +kernel
theorem dX12_decides_43 : decode cX12_decides 43 = .ok (.getfield 47, 3) := by decide +kernel
theorem dX12_decides_46 : decode cX12_decides 46 = .ok (.iload 5, 2) := by decide +kernel
theorem dX12_decides_48 : decode cX12_decides 48 = .ok (.aload_n 0, 1) := by decide +kernel
theorem dX12_decides_49 : decode cX12_decides 49 = .ok (.getfield 50, 3) := by decide +kernel
theorem dX12_decides_52 : decode cX12_decides 52 = .ok (.iload 5, 2) := by decide +kernel
theorem dX12_decides_54 : decode cX12_decides 54 = .ok (.iaload, 1) := by decide +kernel
theorem dX12_decides_55 : decode cX12_decides 55 = .ok (.iastore, 1) := by decide +kernel
theorem dX12_decides_56 : decode cX12_decides 56 = .ok (.iinc 5 1, 3) := by decide +kernel
theorem dX12_decides_59 : decode cX12_decides 59 = .ok (.goto (-23), 3) := by decide +kernel
theorem dX12_decides_62 : decode cX12_decides 62 = .ok (.return_, 1) := by decide +kernel
theorem dX12_decides_63 : decode cX12_decides 63 = .ok (.iconst 0, 1) := by decide +kernel
theorem dX12_decides_64 : decode cX12_decides 64 = .ok (.istore 5, 2) := by decide +kernel
theorem dX12_decides_66 : decode cX12_decides 66 = .ok (.iload 5, 2) := by decide +kernel
theorem dX12_decides_68 : decode cX12_decides 68 = .ok (.aload_n 0, 1) := by decide +kernel
theorem dX12_decides_69 : decode cX12_decides 69 = .ok (.getfield 35, 3) := by decide +kernel
theorem dX12_decides_72 : decode cX12_decides 72 = .ok (.iconst 0, 1) := by decide +kernel
theorem dX12_decides_73 : decode cX12_decides 73 = .ok (.iaload, 1) := by decide +kernel
theorem dX12_decides_74 : decode cX12_decides 74 = .ok (.if_icmp .ge 79, 3) := by decide +kernel
theorem dX12_decides_77 : decode cX12_decides 77 = .ok (.iload_n 2, 1) := by decide +kernel
theorem dX12_decides_78 : decode cX12_decides 78 = .ok (.iload 5, 2) := by decide +kernel
theorem dX12_decides_80 : decode cX12_decides 80 = .ok (.invokestatic 108, 3) := by decide +kernel
theorem dX12_decides_83 : decode cX12_decides 83 = .ok (.ifCond .ne 64, 3) := by decide +kernel
theorem dX12_decides_86 : decode cX12_decides 86 = .ok (.aload_n 0, 1) := by decide +kernel
theorem dX12_decides_87 : decode cX12_decides 87 = .ok (.iload 5, 2) := by decide +kernel
theorem dX12_decides_89 : decode cX12_decides 89 = .ok (.invokevirtual 334, 3) := by decide +kernel
theorem dX12_decides_92 : decode cX12_decides 92 = .ok (.iload_n 2, 1) := by decide +kernel
theorem dX12_decides_93 : decode cX12_decides 93 = .ok (.iconst (-1), 1) := by decide +kernel
theorem dX12_decides_94 : decode cX12_decides 94 = .ok (.ixor, 1) := by decide +kernel
theorem dX12_decides_95 : decode cX12_decides 95 = .ok (.iand, 1) := by decide +kernel
theorem dX12_decides_96 : decode cX12_decides 96 = .ok (.ifCond .eq 6, 3) := by decide +kernel
theorem dX12_decides_99 : decode cX12_decides 99 = .ok (.goto 48, 3) := by decide +kernel
theorem dX12_decides_102 : decode cX12_decides 102 = .ok (.iload_n 3, 1) := by decide +kernel
theorem dX12_decides_103 : decode cX12_decides 103 = .ok (.aload_n 0, 1) := by decide +kernel
theorem dX12_decides_104 : decode cX12_decides 104 = .ok (.iload 5, 2) := by decide +kernel
theorem dX12_decides_106 : decode cX12_decides 106 = .ok (.invokevirtual 365, 3) := by decide +kernel
theorem dX12_decides_109 : decode cX12_decides 109 = .ok (.iadd, 1) := by decide +kernel
theorem dX12_decides_110 : decode cX12_decides 110 = .ok (.istore 6, 2) := by decide +kernel
theorem dX12_decides_112 : decode cX12_decides 112 = .ok (.aload_n 0, 1) := by decide +kernel
theorem dX12_decides_113 : decode cX12_decides 113 = .ok (.getfield 50, 3) := by decide +kernel
theorem dX12_decides_116 : decode cX12_decides 116 = .ok (.iload_n 1, 1) := by decide +kernel
theorem dX12_decides_117 : decode cX12_decides 117 = .ok (.iload 5, 2) := by decide +kernel
theorem dX12_decides_119 : decode cX12_decides 119 = .ok (.iastore, 1) := by decide +kernel
theorem dX12_decides_120 : decode cX12_decides 120 = .ok (.aload_n 0, 1) := by decide +kernel
theorem dX12_decides_121 : decode cX12_decides 121 = .ok (.iload_n 1, 1) := by decide +kernel
theorem dX12_decides_122 : decode cX12_decides 122 = .ok (.iconst 1, 1) := by decide +kernel
theorem dX12_decides_123 : decode cX12_decides 123 = .ok (.iadd, 1) := by decide +kernel
theorem dX12_decides_124 : decode cX12_decides 124 = .ok (.iload_n 2, 1) := by decide +kernel
theorem dX12_decides_125 : decode cX12_decides 125 = .ok (.iconst 1, 1) := by decide +kernel
theorem dX12_decides_126 : decode cX12_decides 126 = .ok (.iload 5, 2) := by decide +kernel
theorem dX12_decides_128 : decode cX12_decides 128 = .ok (.ishl, 1) := by decide +kernel
theorem dX12_decides_129 : decode cX12_decides 129 = .ok (.ior, 1) := by decide +kernel
theorem dX12_decides_130 : decode cX12_decides 130 = .ok (.iload 6, 2) := by decide +kernel
theorem dX12_decides_132 : decode cX12_decides 132 = .ok (.iload 4, 2) := by decide +kernel
theorem dX12_decides_134 : decode cX12_decides 134 = .ok (.iload 6, 2) := by decide +kernel
theorem dX12_decides_136 : decode cX12_decides 136 = .ok (.aload_n 0, 1) := by decide +kernel
theorem dX12_decides_137 : decode cX12_decides 137 = .ok (.iload 5, 2) := by decide +kernel
theorem dX12_decides_139 : decode cX12_decides 139 = .ok (.invokevirtual 449, 3) := by decide +kernel
theorem dX12_decides_142 : decode cX12_decides 142 = .ok (.imul, 1) := by decide +kernel
theorem dX12_decides_143 : decode cX12_decides 143 = .ok (.iadd, 1) := by decide +kernel
theorem dX12_decides_144 : decode cX12_decides 144 = .ok (.invokevirtual 452, 3) := by decide +kernel
theorem dX12_decides_147 : decode cX12_decides 147 = .ok (.iinc 5 1, 3) := by decide +kernel
theorem dX12_decides_150 : decode cX12_decides 150 = .ok (.goto (-84), 3) := by decide +kernel
theorem dX12_decides_153 : decode cX12_decides 153 = .ok (.return_, 1) := by decide +kernel
theorem dX12_isOrdered_0 : decode cX12_isOrdered 0 = .ok (.iconst 0, 1) := by decide +kernel
theorem dX12_isOrdered_1 : decode cX12_isOrdered 1 = .ok (.istore_n 1, 1) := by decide +kernel
theorem dX12_isOrdered_2 : decode cX12_isOrdered 2 = .ok (.iload_n 1, 1) := by decide +kernel
theorem dX12_isOrdered_3 : decode cX12_isOrdered 3 = .ok (.aload_n 0, 1) := by decide +kernel
theorem dX12_isOrdered_4 : decode cX12_isOrdered 4 = .ok (.getfield 35, 3) := by decide +kernel
theorem dX12_isOrdered_7 : decode cX12_isOrdered 7 = .ok (.iconst 0, 1) := by decide +kernel
theorem dX12_isOrdered_8 : decode cX12_isOrdered 8 = .ok (.iaload, 1) := by decide +kernel
theorem dX12_isOrdered_9 : decode cX12_isOrdered 9 = .ok (.if_icmp .ge 19, 3) := by decide +kernel
theorem dX12_isOrdered_12 : decode cX12_isOrdered 12 = .ok (.aload_n 0, 1) := by decide +kernel
theorem dX12_isOrdered_13 : decode cX12_isOrdered 13 = .ok (.iload_n 1, 1) := by decide +kernel
theorem dX12_isOrdered_14 : decode cX12_isOrdered 14 = .ok (.invokevirtual 365, 3) := by decide +kernel
theorem dX12_isOrdered_17 : decode cX12_isOrdered 17 = .ok (.ifCond .ge 5, 3) := by decide +kernel
theorem dX12_isOrdered_20 : decode cX12_isOrdered 20 = .ok (.iconst 0, 1) := by decide +kernel
theorem dX12_isOrdered_21 : decode cX12_isOrdered 21 = .ok (.ireturn, 1) := by decide +kernel
theorem dX12_isOrdered_22 : decode cX12_isOrdered 22 = .ok (.iinc 1 1, 3) := by decide +kernel
theorem dX12_isOrdered_25 : decode cX12_isOrdered 25 = .ok (.goto (-23), 3) := by decide +kernel
theorem dX12_isOrdered_28 : decode cX12_isOrdered 28 = .ok (.aload_n 0, 1) := by decide +kernel
theorem dX12_isOrdered_29 : decode cX12_isOrdered 29 = .ok (.iconst (-1), 1) := by decide +kernel
theorem dX12_isOrdered_30 : decode cX12_isOrdered 30 = .ok (.putfield 446, 3) := by decide +kernel
theorem dX12_isOrdered_33 : decode cX12_isOrdered 33 = .ok (.aload_n 0, 1) := by decide +kernel
theorem dX12_isOrdered_34 : decode cX12_isOrdered 34 = .ok (.iconst 0, 1) := by decide +kernel
theorem dX12_isOrdered_35 : decode cX12_isOrdered 35 = .ok (.iconst 0, 1) := by decide +kernel
theorem dX12_isOrdered_36 : decode cX12_isOrdered 36 = .ok (.iconst 0, 1) := by decide +kernel
theorem dX12_isOrdered_37 : decode cX12_isOrdered 37 = .ok (.iconst 0, 1) := by decide +kernel
theorem dX12_isOrdered_38 : decode cX12_isOrdered 38 = .ok (.invokevirtual 452, 3) := by decide +kernel
theorem dX12_isOrdered_41 : decode cX12_isOrdered 41 = .ok (.aload_n 0, 1) := by decide +kernel
theorem dX12_isOrdered_42 : decode cX12_isOrdered 42 = .ok (.getfield 446, 3) := by decide +kernel
theorem dX12_isOrdered_45 : decode cX12_isOrdered 45 = .ok (.ifCond .lt 7, 3) := by decide +kernel
theorem dX12_isOrdered_48 : decode cX12_isOrdered 48 = .ok (.iconst 1, 1) := by decide +kernel
theorem dX12_isOrdered_49 : decode cX12_isOrdered 49 = .ok (.goto 4, 3) := by decide +kernel
theorem dX12_isOrdered_52 : decode cX12_isOrdered 52 = .ok (.iconst 0, 1) := by decide +kernel
theorem dX12_isOrdered_53 : decode cX12_isOrdered 53 = .ok (.ireturn, 1) := by decide +kernel
theorem dX12_waiting_0 : decode cX12_waiting 0 = .ok (.aload_n 0, 1) := by decide +kernel
theorem dX12_waiting_1 : decode cX12_waiting 1 = .ok (.iconst 0, 1) := by decide +kernel
theorem dX12_waiting_2 : decode cX12_waiting 2 = .ok (.putfield 69, 3) := by decide +kernel
theorem dX12_waiting_5 : decode cX12_waiting 5 = .ok (.aload_n 0, 1) := by decide +kernel
theorem dX12_waiting_6 : decode cX12_waiting 6 = .ok (.iconst 0, 1) := by decide +kernel
theorem dX12_waiting_7 : decode cX12_waiting 7 = .ok (.putfield 72, 3) := by decide +kernel
theorem dX12_waiting_10 : decode cX12_waiting 10 = .ok (.aload_n 0, 1) := by decide +kernel
theorem dX12_waiting_11 : decode cX12_waiting 11 = .ok (.invokevirtual 456, 3) := by decide +kernel
theorem dX12_waiting_14 : decode cX12_waiting 14 = .ok (.ifCond .eq 10, 3) := by decide +kernel
theorem dX12_waiting_17 : decode cX12_waiting 17 = .ok (.aload_n 0, 1) := by decide +kernel
theorem dX12_waiting_18 : decode cX12_waiting 18 = .ok (.getfield 446, 3) := by decide +kernel
theorem dX12_waiting_21 : decode cX12_waiting 21 = .ok (.goto 9, 3) := by decide +kernel
theorem dX12_waiting_24 : decode cX12_waiting 24 = .ok (.aload_n 0, 1) := by decide +kernel
theorem dX12_waiting_25 : decode cX12_waiting 25 = .ok (.bipush 8, 2) := by decide +kernel
theorem dX12_waiting_27 : decode cX12_waiting 27 = .ok (.invokevirtual 345, 3) := by decide +kernel
theorem dX12_waiting_30 : decode cX12_waiting 30 = .ok (.ireturn, 1) := by decide +kernel
theorem dX12_orderAt_0 : decode cX12_orderAt 0 = .ok (.aload_n 0, 1) := by decide +kernel
theorem dX12_orderAt_1 : decode cX12_orderAt 1 = .ok (.iconst 0, 1) := by decide +kernel
theorem dX12_orderAt_2 : decode cX12_orderAt 2 = .ok (.putfield 69, 3) := by decide +kernel
theorem dX12_orderAt_5 : decode cX12_orderAt 5 = .ok (.aload_n 0, 1) := by decide +kernel
theorem dX12_orderAt_6 : decode cX12_orderAt 6 = .ok (.iconst 0, 1) := by decide +kernel
theorem dX12_orderAt_7 : decode cX12_orderAt 7 = .ok (.putfield 72, 3) := by decide +kernel
theorem dX12_orderAt_10 : decode cX12_orderAt 10 = .ok (.aload_n 0, 1) := by decide +kernel
theorem dX12_orderAt_11 : decode cX12_orderAt 11 = .ok (.invokevirtual 456, 3) := by decide +kernel
theorem dX12_orderAt_14 : decode cX12_orderAt 14 = .ok (.ifCond .eq 30, 3) := by decide +kernel
theorem dX12_orderAt_17 : decode cX12_orderAt 17 = .ok (.iload_n 1, 1) := by decide +kernel
theorem dX12_orderAt_18 : decode cX12_orderAt 18 = .ok (.i2l, 1) := by decide +kernel
theorem dX12_orderAt_19 : decode cX12_orderAt 19 = .ok (.lconst 0, 1) := by decide +kernel
theorem dX12_orderAt_20 : decode cX12_orderAt 20 = .ok (.aload_n 0, 1) := by decide +kernel
theorem dX12_orderAt_21 : decode cX12_orderAt 21 = .ok (.getfield 35, 3) := by decide +kernel
theorem dX12_orderAt_24 : decode cX12_orderAt 24 = .ok (.iconst 0, 1) := by decide +kernel
theorem dX12_orderAt_25 : decode cX12_orderAt 25 = .ok (.iaload, 1) := by decide +kernel
theorem dX12_orderAt_26 : decode cX12_orderAt 26 = .ok (.iconst 1, 1) := by decide +kernel
theorem dX12_orderAt_27 : decode cX12_orderAt 27 = .ok (.isub, 1) := by decide +kernel
theorem dX12_orderAt_28 : decode cX12_orderAt 28 = .ok (.i2l, 1) := by decide +kernel
theorem dX12_orderAt_29 : decode cX12_orderAt 29 = .ok (.invokestatic 104, 3) := by decide +kernel
theorem dX12_orderAt_32 : decode cX12_orderAt 32 = .ok (.ifCond .eq 12, 3) := by decide +kernel
theorem dX12_orderAt_35 : decode cX12_orderAt 35 = .ok (.aload_n 0, 1) := by decide +kernel
theorem dX12_orderAt_36 : decode cX12_orderAt 36 = .ok (.getfield 47, 3) := by decide +kernel
theorem dX12_orderAt_39 : decode cX12_orderAt 39 = .ok (.iload_n 1, 1) := by decide +kernel
theorem dX12_orderAt_40 : decode cX12_orderAt 40 = .ok (.iaload, 1) := by decide +kernel
theorem dX12_orderAt_41 : decode cX12_orderAt 41 = .ok (.goto 9, 3) := by decide +kernel
theorem dX12_orderAt_44 : decode cX12_orderAt 44 = .ok (.aload_n 0, 1) := by decide +kernel
theorem dX12_orderAt_45 : decode cX12_orderAt 45 = .ok (.bipush 8, 2) := by decide +kernel
theorem dX12_orderAt_47 : decode cX12_orderAt 47 = .ok (.invokevirtual 345, 3) := by decide +kernel
theorem dX12_orderAt_50 : decode cX12_orderAt 50 = .ok (.ireturn, 1) := by decide +kernel
theorem dX12_laysMiles_0 : decode cX12_laysMiles 0 = .ok (.aload_n 0, 1) := by decide +kernel
theorem dX12_laysMiles_1 : decode cX12_laysMiles 1 = .ok (.invokevirtual 351, 3) := by decide +kernel
theorem dX12_laysMiles_4 : decode cX12_laysMiles 4 = .ok (.istore_n 1, 1) := by decide +kernel
theorem dX12_laysMiles_5 : decode cX12_laysMiles 5 = .ok (.aload_n 0, 1) := by decide +kernel
theorem dX12_laysMiles_6 : decode cX12_laysMiles 6 = .ok (.iconst 0, 1) := by decide +kernel
theorem dX12_laysMiles_7 : decode cX12_laysMiles 7 = .ok (.putfield 459, 3) := by decide +kernel
theorem dX12_laysMiles_10 : decode cX12_laysMiles 10 = .ok (.iconst 0, 1) := by decide +kernel
theorem dX12_laysMiles_11 : decode cX12_laysMiles 11 = .ok (.istore_n 2, 1) := by decide +kernel
theorem dX12_laysMiles_12 : decode cX12_laysMiles 12 = .ok (.iload_n 2, 1) := by decide +kernel
theorem dX12_laysMiles_13 : decode cX12_laysMiles 13 = .ok (.bipush 59, 2) := by decide +kernel
theorem dX12_laysMiles_15 : decode cX12_laysMiles 15 = .ok (.if_icmp .gt 99, 3) := by decide +kernel
theorem dX12_laysMiles_18 : decode cX12_laysMiles 18 = .ok (.iconst 0, 1) := by decide +kernel
theorem dX12_laysMiles_19 : decode cX12_laysMiles 19 = .ok (.istore_n 3, 1) := by decide +kernel
theorem dX12_laysMiles_20 : decode cX12_laysMiles 20 = .ok (.iconst 0, 1) := by decide +kernel
theorem dX12_laysMiles_21 : decode cX12_laysMiles 21 = .ok (.istore 4, 2) := by decide +kernel
theorem dX12_laysMiles_23 : decode cX12_laysMiles 23 = .ok (.iload 4, 2) := by decide +kernel
theorem dX12_laysMiles_25 : decode cX12_laysMiles 25 = .ok (.aload_n 0, 1) := by decide +kernel
theorem dX12_laysMiles_26 : decode cX12_laysMiles 26 = .ok (.getfield 35, 3) := by decide +kernel
theorem dX12_laysMiles_29 : decode cX12_laysMiles 29 = .ok (.iconst 2, 1) := by decide +kernel
theorem dX12_laysMiles_30 : decode cX12_laysMiles 30 = .ok (.iaload, 1) := by decide +kernel
theorem dX12_laysMiles_31 : decode cX12_laysMiles 31 = .ok (.if_icmp .ge 40, 3) := by decide +kernel
theorem dX12_laysMiles_34 : decode cX12_laysMiles 34 = .ok (.iload_n 3, 1) := by decide +kernel
theorem dX12_laysMiles_35 : decode cX12_laysMiles 35 = .ok (.aload_n 0, 1) := by decide +kernel
theorem dX12_laysMiles_36 : decode cX12_laysMiles 36 = .ok (.getfield 35, 3) := by decide +kernel
theorem dX12_laysMiles_39 : decode cX12_laysMiles 39 = .ok (.bipush 38, 2) := by decide +kernel
theorem dX12_laysMiles_41 : decode cX12_laysMiles 41 = .ok (.iload 4, 2) := by decide +kernel
theorem dX12_laysMiles_43 : decode cX12_laysMiles 43 = .ok (.iadd, 1) := by decide +kernel
theorem dX12_laysMiles_44 : decode cX12_laysMiles 44 = .ok (.iaload, 1) := by decide +kernel
theorem dX12_laysMiles_45 : decode cX12_laysMiles 45 = .ok (.iload_n 2, 1) := by decide +kernel
theorem dX12_laysMiles_46 : decode cX12_laysMiles 46 = .ok (.if_icmp .ne 16, 3) := by decide +kernel
theorem dX12_laysMiles_49 : decode cX12_laysMiles 49 = .ok (.iload_n 1, 1) := by decide +kernel
theorem dX12_laysMiles_50 : decode cX12_laysMiles 50 = .ok (.iload 4, 2) := by decide +kernel
theorem dX12_laysMiles_52 : decode cX12_laysMiles 52 = .ok (.invokestatic 108, 3) := by decide +kernel
theorem dX12_laysMiles_55 : decode cX12_laysMiles 55 = .ok (.ifCond .ne 7, 3) := by decide +kernel
theorem dX12_laysMiles_58 : decode cX12_laysMiles 58 = .ok (.iconst 1, 1) := by decide +kernel
theorem dX12_laysMiles_59 : decode cX12_laysMiles 59 = .ok (.goto 4, 3) := by decide +kernel
theorem dX12_laysMiles_62 : decode cX12_laysMiles 62 = .ok (.iconst 0, 1) := by decide +kernel
theorem dX12_laysMiles_63 : decode cX12_laysMiles 63 = .ok (.iadd, 1) := by decide +kernel
theorem dX12_laysMiles_64 : decode cX12_laysMiles 64 = .ok (.istore_n 3, 1) := by decide +kernel
theorem dX12_laysMiles_65 : decode cX12_laysMiles 65 = .ok (.iinc 4 1, 3) := by decide +kernel
theorem dX12_laysMiles_68 : decode cX12_laysMiles 68 = .ok (.goto (-45), 3) := by decide +kernel
theorem dX12_laysMiles_71 : decode cX12_laysMiles 71 = .ok (.iload_n 3, 1) := by decide +kernel
theorem dX12_laysMiles_72 : decode cX12_laysMiles 72 = .ok (.ifCond .ne 6, 3) := by decide +kernel
theorem dX12_laysMiles_75 : decode cX12_laysMiles 75 = .ok (.goto 33, 3) := by decide +kernel
theorem dX12_laysMiles_78 : decode cX12_laysMiles 78 = .ok (.aload_n 0, 1) := by decide +kernel
theorem dX12_laysMiles_79 : decode cX12_laysMiles 79 = .ok (.getfield 53, 3) := by decide +kernel
theorem dX12_laysMiles_82 : decode cX12_laysMiles 82 = .ok (.aload_n 0, 1) := by decide +kernel
theorem dX12_laysMiles_83 : decode cX12_laysMiles 83 = .ok (.getfield 459, 3) := by decide +kernel
theorem dX12_laysMiles_86 : decode cX12_laysMiles 86 = .ok (.iload_n 2, 1) := by decide +kernel
theorem dX12_laysMiles_87 : decode cX12_laysMiles 87 = .ok (.iastore, 1) := by decide +kernel
theorem dX12_laysMiles_88 : decode cX12_laysMiles 88 = .ok (.aload_n 0, 1) := by decide +kernel
theorem dX12_laysMiles_89 : decode cX12_laysMiles 89 = .ok (.getfield 56, 3) := by decide +kernel
theorem dX12_laysMiles_92 : decode cX12_laysMiles 92 = .ok (.aload_n 0, 1) := by decide +kernel
theorem dX12_laysMiles_93 : decode cX12_laysMiles 93 = .ok (.getfield 459, 3) := by decide +kernel
theorem dX12_laysMiles_96 : decode cX12_laysMiles 96 = .ok (.iload_n 3, 1) := by decide +kernel
theorem dX12_laysMiles_97 : decode cX12_laysMiles 97 = .ok (.iastore, 1) := by decide +kernel
theorem dX12_laysMiles_98 : decode cX12_laysMiles 98 = .ok (.aload_n 0, 1) := by decide +kernel
theorem dX12_laysMiles_99 : decode cX12_laysMiles 99 = .ok (.dup, 1) := by decide +kernel
theorem dX12_laysMiles_100 : decode cX12_laysMiles 100 = .ok (.getfield 459, 3) := by decide +kernel
theorem dX12_laysMiles_103 : decode cX12_laysMiles 103 = .ok (.iconst 1, 1) := by decide +kernel
theorem dX12_laysMiles_104 : decode cX12_laysMiles 104 = .ok (.iadd, 1) := by decide +kernel
theorem dX12_laysMiles_105 : decode cX12_laysMiles 105 = .ok (.putfield 459, 3) := by decide +kernel
theorem dX12_laysMiles_108 : decode cX12_laysMiles 108 = .ok (.iinc 2 1, 3) := by decide +kernel
theorem dX12_laysMiles_111 : decode cX12_laysMiles 111 = .ok (.goto (-99), 3) := by decide +kernel
theorem dX12_laysMiles_114 : decode cX12_laysMiles 114 = .ok (.return_, 1) := by decide +kernel
theorem dX12_serves_0 : decode cX12_serves 0 = .ok (.iload 4, 2) := by decide +kernel
theorem dX12_serves_2 : decode cX12_serves 2 = .ok (.ifCond .ne 5, 3) := by decide +kernel
theorem dX12_serves_5 : decode cX12_serves 5 = .ok (.iconst 0, 1) := by decide +kernel
theorem dX12_serves_6 : decode cX12_serves 6 = .ok (.ireturn, 1) := by decide +kernel
theorem dX12_serves_7 : decode cX12_serves 7 = .ok (.iconst (-1), 1) := by decide +kernel
theorem dX12_serves_8 : decode cX12_serves 8 = .ok (.istore 5, 2) := by decide +kernel
theorem dX12_serves_10 : decode cX12_serves 10 = .ok (.iload_n 1, 1) := by decide +kernel
theorem dX12_serves_11 : decode cX12_serves 11 = .ok (.ifCond .lt 43, 3) := by decide +kernel
theorem dX12_serves_14 : decode cX12_serves 14 = .ok (.iload_n 3, 1) := by decide +kernel
theorem dX12_serves_15 : decode cX12_serves 15 = .ok (.aload_n 0, 1) := by decide +kernel
theorem dX12_serves_16 : decode cX12_serves 16 = .ok (.getfield 53, 3) := by decide +kernel
theorem dX12_serves_19 : decode cX12_serves 19 = .ok (.iload_n 1, 1) := by decide +kernel
theorem dX12_serves_20 : decode cX12_serves 20 = .ok (.iaload, 1) := by decide +kernel
theorem dX12_serves_21 : decode cX12_serves 21 = .ok (.isub, 1) := by decide +kernel
theorem dX12_serves_22 : decode cX12_serves 22 = .ok (.invokestatic 462, 3) := by decide +kernel
theorem dX12_serves_25 : decode cX12_serves 25 = .ok (.iload 4, 2) := by decide +kernel
theorem dX12_serves_27 : decode cX12_serves 27 = .ok (.imul, 1) := by decide +kernel
theorem dX12_serves_28 : decode cX12_serves 28 = .ok (.aload_n 0, 1) := by decide +kernel
theorem dX12_serves_29 : decode cX12_serves 29 = .ok (.iload_n 1, 1) := by decide +kernel
theorem dX12_serves_30 : decode cX12_serves 30 = .ok (.iconst 1, 1) := by decide +kernel
theorem dX12_serves_31 : decode cX12_serves 31 = .ok (.isub, 1) := by decide +kernel
theorem dX12_serves_32 : decode cX12_serves 32 = .ok (.iload_n 2, 1) := by decide +kernel
theorem dX12_serves_33 : decode cX12_serves 33 = .ok (.aload_n 0, 1) := by decide +kernel
theorem dX12_serves_34 : decode cX12_serves 34 = .ok (.getfield 53, 3) := by decide +kernel
theorem dX12_serves_37 : decode cX12_serves 37 = .ok (.iload_n 1, 1) := by decide +kernel
theorem dX12_serves_38 : decode cX12_serves 38 = .ok (.iaload, 1) := by decide +kernel
theorem dX12_serves_39 : decode cX12_serves 39 = .ok (.iload 4, 2) := by decide +kernel
theorem dX12_serves_41 : decode cX12_serves 41 = .ok (.aload_n 0, 1) := by decide +kernel
theorem dX12_serves_42 : decode cX12_serves 42 = .ok (.getfield 56, 3) := by decide +kernel
theorem dX12_serves_45 : decode cX12_serves 45 = .ok (.iload_n 1, 1) := by decide +kernel
theorem dX12_serves_46 : decode cX12_serves 46 = .ok (.iaload, 1) := by decide +kernel
theorem dX12_serves_47 : decode cX12_serves 47 = .ok (.isub, 1) := by decide +kernel
theorem dX12_serves_48 : decode cX12_serves 48 = .ok (.invokevirtual 464, 3) := by decide +kernel
theorem dX12_serves_51 : decode cX12_serves 51 = .ok (.iadd, 1) := by decide +kernel
theorem dX12_serves_52 : decode cX12_serves 52 = .ok (.istore 5, 2) := by decide +kernel
theorem dX12_serves_54 : decode cX12_serves 54 = .ok (.iload_n 2, 1) := by decide +kernel
theorem dX12_serves_55 : decode cX12_serves 55 = .ok (.aload_n 0, 1) := by decide +kernel
theorem dX12_serves_56 : decode cX12_serves 56 = .ok (.getfield 459, 3) := by decide +kernel
theorem dX12_serves_59 : decode cX12_serves 59 = .ok (.if_icmp .ne 6, 3) := by decide +kernel
theorem dX12_serves_62 : decode cX12_serves 62 = .ok (.iload 5, 2) := by decide +kernel
theorem dX12_serves_64 : decode cX12_serves 64 = .ok (.ireturn, 1) := by decide +kernel
theorem dX12_serves_65 : decode cX12_serves 65 = .ok (.iload_n 3, 1) := by decide +kernel
theorem dX12_serves_66 : decode cX12_serves 66 = .ok (.aload_n 0, 1) := by decide +kernel
theorem dX12_serves_67 : decode cX12_serves 67 = .ok (.getfield 53, 3) := by decide +kernel
theorem dX12_serves_70 : decode cX12_serves 70 = .ok (.iload_n 2, 1) := by decide +kernel
theorem dX12_serves_71 : decode cX12_serves 71 = .ok (.iaload, 1) := by decide +kernel
theorem dX12_serves_72 : decode cX12_serves 72 = .ok (.isub, 1) := by decide +kernel
theorem dX12_serves_73 : decode cX12_serves 73 = .ok (.invokestatic 462, 3) := by decide +kernel
theorem dX12_serves_76 : decode cX12_serves 76 = .ok (.iload 4, 2) := by decide +kernel
theorem dX12_serves_78 : decode cX12_serves 78 = .ok (.imul, 1) := by decide +kernel
theorem dX12_serves_79 : decode cX12_serves 79 = .ok (.aload_n 0, 1) := by decide +kernel
theorem dX12_serves_80 : decode cX12_serves 80 = .ok (.iload_n 1, 1) := by decide +kernel
theorem dX12_serves_81 : decode cX12_serves 81 = .ok (.iload_n 2, 1) := by decide +kernel
theorem dX12_serves_82 : decode cX12_serves 82 = .ok (.iconst 1, 1) := by decide +kernel
theorem dX12_serves_83 : decode cX12_serves 83 = .ok (.iadd, 1) := by decide +kernel
theorem dX12_serves_84 : decode cX12_serves 84 = .ok (.aload_n 0, 1) := by decide +kernel
theorem dX12_serves_85 : decode cX12_serves 85 = .ok (.getfield 53, 3) := by decide +kernel
theorem dX12_serves_88 : decode cX12_serves 88 = .ok (.iload_n 2, 1) := by decide +kernel
theorem dX12_serves_89 : decode cX12_serves 89 = .ok (.iaload, 1) := by decide +kernel
theorem dX12_serves_90 : decode cX12_serves 90 = .ok (.iload 4, 2) := by decide +kernel
theorem dX12_serves_92 : decode cX12_serves 92 = .ok (.aload_n 0, 1) := by decide +kernel
theorem dX12_serves_93 : decode cX12_serves 93 = .ok (.getfield 56, 3) := by decide +kernel
theorem dX12_serves_96 : decode cX12_serves 96 = .ok (.iload_n 2, 1) := by decide +kernel
theorem dX12_serves_97 : decode cX12_serves 97 = .ok (.iaload, 1) := by decide +kernel
theorem dX12_serves_98 : decode cX12_serves 98 = .ok (.isub, 1) := by decide +kernel
theorem dX12_serves_99 : decode cX12_serves 99 = .ok (.invokevirtual 464, 3) := by decide +kernel
theorem dX12_serves_102 : decode cX12_serves 102 = .ok (.iadd, 1) := by decide +kernel
theorem dX12_serves_103 : decode cX12_serves 103 = .ok (.istore 6, 2) := by decide +kernel
theorem dX12_serves_105 : decode cX12_serves 105 = .ok (.iload 5, 2) := by decide +kernel
theorem dX12_serves_107 : decode cX12_serves 107 = .ok (.ifCond .ge 8, 3) := by decide +kernel
theorem dX12_serves_110 : decode cX12_serves 110 = .ok (.iload 6, 2) := by decide +kernel
theorem dX12_serves_112 : decode cX12_serves 112 = .ok (.goto 10, 3) := by decide +kernel
theorem dX12_serves_115 : decode cX12_serves 115 = .ok (.iload 5, 2) := by decide +kernel
theorem dX12_serves_117 : decode cX12_serves 117 = .ok (.iload 6, 2) := by decide +kernel
theorem dX12_serves_119 : decode cX12_serves 119 = .ok (.invokestatic 386, 3) := by decide +kernel
theorem dX12_serves_122 : decode cX12_serves 122 = .ok (.ireturn, 1) := by decide +kernel
theorem dX12_round_0 : decode cX12_round 0 = .ok (.aload_n 0, 1) := by decide +kernel
theorem dX12_round_1 : decode cX12_round 1 = .ok (.iconst 0, 1) := by decide +kernel
theorem dX12_round_2 : decode cX12_round 2 = .ok (.putfield 69, 3) := by decide +kernel
theorem dX12_round_5 : decode cX12_round 5 = .ok (.aload_n 0, 1) := by decide +kernel
theorem dX12_round_6 : decode cX12_round 6 = .ok (.iconst 0, 1) := by decide +kernel
theorem dX12_round_7 : decode cX12_round 7 = .ok (.putfield 72, 3) := by decide +kernel
theorem dX12_round_10 : decode cX12_round 10 = .ok (.iload_n 1, 1) := by decide +kernel
theorem dX12_round_11 : decode cX12_round 11 = .ok (.i2l, 1) := by decide +kernel
theorem dX12_round_12 : decode cX12_round 12 = .ok (.lconst 0, 1) := by decide +kernel
theorem dX12_round_13 : decode cX12_round 13 = .ok (.ldc2_w 409, 3) := by decide +kernel
theorem dX12_round_16 : decode cX12_round 16 = .ok (.invokestatic 104, 3) := by decide +kernel
theorem dX12_round_19 : decode cX12_round 19 = .ok (.ifCond .ne 9, 3) := by decide +kernel
theorem dX12_round_22 : decode cX12_round 22 = .ok (.aload_n 0, 1) := by decide +kernel
theorem dX12_round_23 : decode cX12_round 23 = .ok (.iconst 5, 1) := by decide +kernel
theorem dX12_round_24 : decode cX12_round 24 = .ok (.invokevirtual 345, 3) := by decide +kernel
theorem dX12_round_27 : decode cX12_round 27 = .ok (.ireturn, 1) := by decide +kernel
theorem dX12_round_28 : decode cX12_round 28 = .ok (.aload_n 0, 1) := by decide +kernel
theorem dX12_round_29 : decode cX12_round 29 = .ok (.invokevirtual 468, 3) := by decide +kernel
theorem dX12_round_32 : decode cX12_round 32 = .ok (.iconst 0, 1) := by decide +kernel
theorem dX12_round_33 : decode cX12_round 33 = .ok (.istore_n 2, 1) := by decide +kernel
theorem dX12_round_34 : decode cX12_round 34 = .ok (.iconst (-1), 1) := by decide +kernel
theorem dX12_round_35 : decode cX12_round 35 = .ok (.istore_n 3, 1) := by decide +kernel
theorem dX12_round_36 : decode cX12_round 36 = .ok (.iconst 0, 1) := by decide +kernel
theorem dX12_round_37 : decode cX12_round 37 = .ok (.istore 4, 2) := by decide +kernel
theorem dX12_round_39 : decode cX12_round 39 = .ok (.iload 4, 2) := by decide +kernel
theorem dX12_round_41 : decode cX12_round 41 = .ok (.aload_n 0, 1) := by decide +kernel
theorem dX12_round_42 : decode cX12_round 42 = .ok (.getfield 459, 3) := by decide +kernel
theorem dX12_round_45 : decode cX12_round 45 = .ok (.if_icmp .ge 38, 3) := by decide +kernel
theorem dX12_round_48 : decode cX12_round 48 = .ok (.iload_n 2, 1) := by decide +kernel
theorem dX12_round_49 : decode cX12_round 49 = .ok (.aload_n 0, 1) := by decide +kernel
theorem dX12_round_50 : decode cX12_round 50 = .ok (.getfield 56, 3) := by decide +kernel
theorem dX12_round_53 : decode cX12_round 53 = .ok (.iload 4, 2) := by decide +kernel
theorem dX12_round_55 : decode cX12_round 55 = .ok (.iaload, 1) := by decide +kernel
theorem dX12_round_56 : decode cX12_round 56 = .ok (.iadd, 1) := by decide +kernel
theorem dX12_round_57 : decode cX12_round 57 = .ok (.istore_n 2, 1) := by decide +kernel
theorem dX12_round_58 : decode cX12_round 58 = .ok (.iload_n 3, 1) := by decide +kernel
theorem dX12_round_59 : decode cX12_round 59 = .ok (.aload_n 0, 1) := by decide +kernel
theorem dX12_round_60 : decode cX12_round 60 = .ok (.getfield 53, 3) := by decide +kernel
theorem dX12_round_63 : decode cX12_round 63 = .ok (.iload 4, 2) := by decide +kernel
theorem dX12_round_65 : decode cX12_round 65 = .ok (.iaload, 1) := by decide +kernel
theorem dX12_round_66 : decode cX12_round 66 = .ok (.iload_n 1, 1) := by decide +kernel
theorem dX12_round_67 : decode cX12_round 67 = .ok (.if_icmp .ge 7, 3) := by decide +kernel
theorem dX12_round_70 : decode cX12_round 70 = .ok (.iconst 1, 1) := by decide +kernel
theorem dX12_round_71 : decode cX12_round 71 = .ok (.goto 4, 3) := by decide +kernel
theorem dX12_round_74 : decode cX12_round 74 = .ok (.iconst 0, 1) := by decide +kernel
theorem dX12_round_75 : decode cX12_round 75 = .ok (.iadd, 1) := by decide +kernel
theorem dX12_round_76 : decode cX12_round 76 = .ok (.istore_n 3, 1) := by decide +kernel
theorem dX12_round_77 : decode cX12_round 77 = .ok (.iinc 4 1, 3) := by decide +kernel
theorem dX12_round_80 : decode cX12_round 80 = .ok (.goto (-41), 3) := by decide +kernel
theorem dX12_round_83 : decode cX12_round 83 = .ok (.aload_n 0, 1) := by decide +kernel
theorem dX12_round_84 : decode cX12_round 84 = .ok (.iload_n 3, 1) := by decide +kernel
theorem dX12_round_85 : decode cX12_round 85 = .ok (.iload_n 3, 1) := by decide +kernel
theorem dX12_round_86 : decode cX12_round 86 = .ok (.iconst 1, 1) := by decide +kernel
theorem dX12_round_87 : decode cX12_round 87 = .ok (.iadd, 1) := by decide +kernel
theorem dX12_round_88 : decode cX12_round 88 = .ok (.iload_n 1, 1) := by decide +kernel
theorem dX12_round_89 : decode cX12_round 89 = .ok (.iload_n 2, 1) := by decide +kernel
theorem dX12_round_90 : decode cX12_round 90 = .ok (.invokevirtual 464, 3) := by decide +kernel
theorem dX12_round_93 : decode cX12_round 93 = .ok (.ireturn, 1) := by decide +kernel
theorem dX12_laysClearer_0 : decode cX12_laysClearer 0 = .ok (.aload_n 0, 1) := by decide +kernel
theorem dX12_laysClearer_1 : decode cX12_laysClearer 1 = .ok (.invokevirtual 417, 3) := by decide +kernel
theorem dX12_laysClearer_4 : decode cX12_laysClearer 4 = .ok (.iconst 0, 1) := by decide +kernel
theorem dX12_laysClearer_5 : decode cX12_laysClearer 5 = .ok (.istore_n 1, 1) := by decide +kernel
theorem dX12_laysClearer_6 : decode cX12_laysClearer 6 = .ok (.iload_n 1, 1) := by decide +kernel
theorem dX12_laysClearer_7 : decode cX12_laysClearer 7 = .ok (.bipush 40, 2) := by decide +kernel
theorem dX12_laysClearer_9 : decode cX12_laysClearer 9 = .ok (.if_icmp .gt 51, 3) := by decide +kernel
theorem dX12_laysClearer_12 : decode cX12_laysClearer 12 = .ok (.iconst 0, 1) := by decide +kernel
theorem dX12_laysClearer_13 : decode cX12_laysClearer 13 = .ok (.istore_n 2, 1) := by decide +kernel
theorem dX12_laysClearer_14 : decode cX12_laysClearer 14 = .ok (.iload_n 2, 1) := by decide +kernel
theorem dX12_laysClearer_15 : decode cX12_laysClearer 15 = .ok (.aload_n 0, 1) := by decide +kernel
theorem dX12_laysClearer_16 : decode cX12_laysClearer 16 = .ok (.getfield 35, 3) := by decide +kernel
theorem dX12_laysClearer_19 : decode cX12_laysClearer 19 = .ok (.iconst 0, 1) := by decide +kernel
theorem dX12_laysClearer_20 : decode cX12_laysClearer 20 = .ok (.iaload, 1) := by decide +kernel
theorem dX12_laysClearer_21 : decode cX12_laysClearer 21 = .ok (.if_icmp .ge 29, 3) := by decide +kernel
theorem dX12_laysClearer_24 : decode cX12_laysClearer 24 = .ok (.aload_n 0, 1) := by decide +kernel
theorem dX12_laysClearer_25 : decode cX12_laysClearer 25 = .ok (.getfield 59, 3) := by decide +kernel
theorem dX12_laysClearer_28 : decode cX12_laysClearer 28 = .ok (.bipush 6, 2) := by decide +kernel
theorem dX12_laysClearer_30 : decode cX12_laysClearer 30 = .ok (.iload_n 1, 1) := by decide +kernel
theorem dX12_laysClearer_31 : decode cX12_laysClearer 31 = .ok (.imul, 1) := by decide +kernel
theorem dX12_laysClearer_32 : decode cX12_laysClearer 32 = .ok (.iload_n 2, 1) := by decide +kernel
theorem dX12_laysClearer_33 : decode cX12_laysClearer 33 = .ok (.iadd, 1) := by decide +kernel
theorem dX12_laysClearer_34 : decode cX12_laysClearer 34 = .ok (.aload_n 0, 1) := by decide +kernel
theorem dX12_laysClearer_35 : decode cX12_laysClearer 35 = .ok (.getfield 35, 3) := by decide +kernel
theorem dX12_laysClearer_38 : decode cX12_laysClearer 38 = .ok (.bipush 6, 2) := by decide +kernel
theorem dX12_laysClearer_40 : decode cX12_laysClearer 40 = .ok (.iload_n 2, 1) := by decide +kernel
theorem dX12_laysClearer_41 : decode cX12_laysClearer 41 = .ok (.iadd, 1) := by decide +kernel
theorem dX12_laysClearer_42 : decode cX12_laysClearer 42 = .ok (.iaload, 1) := by decide +kernel
theorem dX12_laysClearer_43 : decode cX12_laysClearer 43 = .ok (.iastore, 1) := by decide +kernel
theorem dX12_laysClearer_44 : decode cX12_laysClearer 44 = .ok (.iinc 2 1, 3) := by decide +kernel
theorem dX12_laysClearer_47 : decode cX12_laysClearer 47 = .ok (.goto (-33), 3) := by decide +kernel
theorem dX12_laysClearer_50 : decode cX12_laysClearer 50 = .ok (.aload_n 0, 1) := by decide +kernel
theorem dX12_laysClearer_51 : decode cX12_laysClearer 51 = .ok (.invokevirtual 394, 3) := by decide +kernel
theorem dX12_laysClearer_54 : decode cX12_laysClearer 54 = .ok (.iinc 1 1, 3) := by decide +kernel
theorem dX12_laysClearer_57 : decode cX12_laysClearer 57 = .ok (.goto (-51), 3) := by decide +kernel
theorem dX12_laysClearer_60 : decode cX12_laysClearer 60 = .ok (.aload_n 0, 1) := by decide +kernel
theorem dX12_laysClearer_61 : decode cX12_laysClearer 61 = .ok (.invokevirtual 420, 3) := by decide +kernel
theorem dX12_laysClearer_64 : decode cX12_laysClearer 64 = .ok (.return_, 1) := by decide +kernel
theorem dX12_whyNoTwos_0 : decode cX12_whyNoTwos 0 = .ok (.aload_n 0, 1) := by decide +kernel
theorem dX12_whyNoTwos_1 : decode cX12_whyNoTwos 1 = .ok (.getfield 17, 3) := by decide +kernel
theorem dX12_whyNoTwos_4 : decode cX12_whyNoTwos 4 = .ok (.iload_n 1, 1) := by decide +kernel
theorem dX12_whyNoTwos_5 : decode cX12_whyNoTwos 5 = .ok (.iaload, 1) := by decide +kernel
theorem dX12_whyNoTwos_6 : decode cX12_whyNoTwos 6 = .ok (.ifCond .ge 5, 3) := by decide +kernel
theorem dX12_whyNoTwos_9 : decode cX12_whyNoTwos 9 = .ok (.iconst 3, 1) := by decide +kernel
theorem dX12_whyNoTwos_10 : decode cX12_whyNoTwos 10 = .ok (.ireturn, 1) := by decide +kernel
theorem dX12_whyNoTwos_11 : decode cX12_whyNoTwos 11 = .ok (.aload_n 0, 1) := by decide +kernel
theorem dX12_whyNoTwos_12 : decode cX12_whyNoTwos 12 = .ok (.getfield 17, 3) := by decide +kernel
theorem dX12_whyNoTwos_15 : decode cX12_whyNoTwos 15 = .ok (.iload_n 1, 1) := by decide +kernel
theorem dX12_whyNoTwos_16 : decode cX12_whyNoTwos 16 = .ok (.iaload, 1) := by decide +kernel
theorem dX12_whyNoTwos_17 : decode cX12_whyNoTwos 17 = .ok (.i2l, 1) := by decide +kernel
theorem dX12_whyNoTwos_18 : decode cX12_whyNoTwos 18 = .ok (.ldc2_w 377, 3) := by decide +kernel
theorem dX12_whyNoTwos_21 : decode cX12_whyNoTwos 21 = .ok (.iload_n 2, 1) := by decide +kernel
theorem dX12_whyNoTwos_22 : decode cX12_whyNoTwos 22 = .ok (.i2l, 1) := by decide +kernel
theorem dX12_whyNoTwos_23 : decode cX12_whyNoTwos 23 = .ok (.lmul, 1) := by decide +kernel
theorem dX12_whyNoTwos_24 : decode cX12_whyNoTwos 24 = .ok (.lcmp, 1) := by decide +kernel
theorem dX12_whyNoTwos_25 : decode cX12_whyNoTwos 25 = .ok (.ifCond .ge 5, 3) := by decide +kernel
theorem dX12_whyNoTwos_28 : decode cX12_whyNoTwos 28 = .ok (.iconst 4, 1) := by decide +kernel
theorem dX12_whyNoTwos_29 : decode cX12_whyNoTwos 29 = .ok (.ireturn, 1) := by decide +kernel
theorem dX12_whyNoTwos_30 : decode cX12_whyNoTwos 30 = .ok (.iload_n 2, 1) := by decide +kernel
theorem dX12_whyNoTwos_31 : decode cX12_whyNoTwos 31 = .ok (.i2l, 1) := by decide +kernel
theorem dX12_whyNoTwos_32 : decode cX12_whyNoTwos 32 = .ok (.lconst 0, 1) := by decide +kernel
theorem dX12_whyNoTwos_33 : decode cX12_whyNoTwos 33 = .ok (.ldc2_w 413, 3) := by decide +kernel
theorem dX12_whyNoTwos_36 : decode cX12_whyNoTwos 36 = .ok (.invokestatic 104, 3) := by decide +kernel
theorem dX12_whyNoTwos_39 : decode cX12_whyNoTwos 39 = .ok (.ifCond .ne 5, 3) := by decide +kernel
theorem dX12_whyNoTwos_42 : decode cX12_whyNoTwos 42 = .ok (.iconst 5, 1) := by decide +kernel
theorem dX12_whyNoTwos_43 : decode cX12_whyNoTwos 43 = .ok (.ireturn, 1) := by decide +kernel
theorem dX12_whyNoTwos_44 : decode cX12_whyNoTwos 44 = .ok (.iconst 0, 1) := by decide +kernel
theorem dX12_whyNoTwos_45 : decode cX12_whyNoTwos 45 = .ok (.istore_n 3, 1) := by decide +kernel
theorem dX12_whyNoTwos_46 : decode cX12_whyNoTwos 46 = .ok (.iload_n 3, 1) := by decide +kernel
theorem dX12_whyNoTwos_47 : decode cX12_whyNoTwos 47 = .ok (.iload_n 2, 1) := by decide +kernel
theorem dX12_whyNoTwos_48 : decode cX12_whyNoTwos 48 = .ok (.if_icmp .ge 49, 3) := by decide +kernel
theorem dX12_whyNoTwos_51 : decode cX12_whyNoTwos 51 = .ok (.aload_n 0, 1) := by decide +kernel
theorem dX12_whyNoTwos_52 : decode cX12_whyNoTwos 52 = .ok (.iload_n 1, 1) := by decide +kernel
theorem dX12_whyNoTwos_53 : decode cX12_whyNoTwos 53 = .ok (.iconst 2, 1) := by decide +kernel
theorem dX12_whyNoTwos_54 : decode cX12_whyNoTwos 54 = .ok (.iload_n 3, 1) := by decide +kernel
theorem dX12_whyNoTwos_55 : decode cX12_whyNoTwos 55 = .ok (.imul, 1) := by decide +kernel
theorem dX12_whyNoTwos_56 : decode cX12_whyNoTwos 56 = .ok (.invokevirtual 471, 3) := by decide +kernel
theorem dX12_whyNoTwos_59 : decode cX12_whyNoTwos 59 = .ok (.lconst 0, 1) := by decide +kernel
theorem dX12_whyNoTwos_60 : decode cX12_whyNoTwos 60 = .ok (.ldc2_w 475, 3) := by decide +kernel
theorem dX12_whyNoTwos_63 : decode cX12_whyNoTwos 63 = .ok (.invokestatic 104, 3) := by decide +kernel
theorem dX12_whyNoTwos_66 : decode cX12_whyNoTwos 66 = .ok (.ifCond .eq 23, 3) := by decide +kernel
theorem dX12_whyNoTwos_69 : decode cX12_whyNoTwos 69 = .ok (.aload_n 0, 1) := by decide +kernel
theorem dX12_whyNoTwos_70 : decode cX12_whyNoTwos 70 = .ok (.iload_n 1, 1) := by decide +kernel
theorem dX12_whyNoTwos_71 : decode cX12_whyNoTwos 71 = .ok (.iconst 2, 1) := by decide +kernel
theorem dX12_whyNoTwos_72 : decode cX12_whyNoTwos 72 = .ok (.iload_n 3, 1) := by decide +kernel
theorem dX12_whyNoTwos_73 : decode cX12_whyNoTwos 73 = .ok (.imul, 1) := by decide +kernel
theorem dX12_whyNoTwos_74 : decode cX12_whyNoTwos 74 = .ok (.iconst 1, 1) := by decide +kernel
theorem dX12_whyNoTwos_75 : decode cX12_whyNoTwos 75 = .ok (.iadd, 1) := by decide +kernel
theorem dX12_whyNoTwos_76 : decode cX12_whyNoTwos 76 = .ok (.invokevirtual 471, 3) := by decide +kernel
theorem dX12_whyNoTwos_79 : decode cX12_whyNoTwos 79 = .ok (.lconst 0, 1) := by decide +kernel
theorem dX12_whyNoTwos_80 : decode cX12_whyNoTwos 80 = .ok (.ldc2_w 411, 3) := by decide +kernel
theorem dX12_whyNoTwos_83 : decode cX12_whyNoTwos 83 = .ok (.invokestatic 104, 3) := by decide +kernel
theorem dX12_whyNoTwos_86 : decode cX12_whyNoTwos 86 = .ok (.ifCond .ne 5, 3) := by decide +kernel
theorem dX12_whyNoTwos_89 : decode cX12_whyNoTwos 89 = .ok (.iconst 5, 1) := by decide +kernel
theorem dX12_whyNoTwos_90 : decode cX12_whyNoTwos 90 = .ok (.ireturn, 1) := by decide +kernel
theorem dX12_whyNoTwos_91 : decode cX12_whyNoTwos 91 = .ok (.iinc 3 1, 3) := by decide +kernel
theorem dX12_whyNoTwos_94 : decode cX12_whyNoTwos 94 = .ok (.goto (-48), 3) := by decide +kernel
theorem dX12_whyNoTwos_97 : decode cX12_whyNoTwos 97 = .ok (.iconst 0, 1) := by decide +kernel
theorem dX12_whyNoTwos_98 : decode cX12_whyNoTwos 98 = .ok (.ireturn, 1) := by decide +kernel
theorem dX12_whyNoOut_0 : decode cX12_whyNoOut 0 = .ok (.aload_n 0, 1) := by decide +kernel
theorem dX12_whyNoOut_1 : decode cX12_whyNoOut 1 = .ok (.iload_n 2, 1) := by decide +kernel
theorem dX12_whyNoOut_2 : decode cX12_whyNoOut 2 = .ok (.invokevirtual 379, 3) := by decide +kernel
theorem dX12_whyNoOut_5 : decode cX12_whyNoOut 5 = .ok (.ifCond .ne 7, 3) := by decide +kernel
theorem dX12_whyNoOut_8 : decode cX12_whyNoOut 8 = .ok (.iconst 1, 1) := by decide +kernel
theorem dX12_whyNoOut_9 : decode cX12_whyNoOut 9 = .ok (.goto 21, 3) := by decide +kernel
theorem dX12_whyNoOut_12 : decode cX12_whyNoOut 12 = .ok (.aload_n 0, 1) := by decide +kernel
theorem dX12_whyNoOut_13 : decode cX12_whyNoOut 13 = .ok (.iload_n 1, 1) := by decide +kernel
theorem dX12_whyNoOut_14 : decode cX12_whyNoOut 14 = .ok (.invokevirtual 371, 3) := by decide +kernel
theorem dX12_whyNoOut_17 : decode cX12_whyNoOut 17 = .ok (.ifCond .eq 12, 3) := by decide +kernel
theorem dX12_whyNoOut_20 : decode cX12_whyNoOut 20 = .ok (.aload_n 0, 1) := by decide +kernel
theorem dX12_whyNoOut_21 : decode cX12_whyNoOut 21 = .ok (.iload_n 2, 1) := by decide +kernel
theorem dX12_whyNoOut_22 : decode cX12_whyNoOut 22 = .ok (.iload_n 3, 1) := by decide +kernel
theorem dX12_whyNoOut_23 : decode cX12_whyNoOut 23 = .ok (.invokevirtual 477, 3) := by decide +kernel
theorem dX12_whyNoOut_26 : decode cX12_whyNoOut 26 = .ok (.goto 4, 3) := by decide +kernel
theorem dX12_whyNoOut_29 : decode cX12_whyNoOut 29 = .ok (.iconst 2, 1) := by decide +kernel
theorem dX12_whyNoOut_30 : decode cX12_whyNoOut 30 = .ok (.ireturn, 1) := by decide +kernel
theorem dX12_outOf_0 : decode cX12_outOf 0 = .ok (.iconst 0, 1) := by decide +kernel
theorem dX12_outOf_1 : decode cX12_outOf 1 = .ok (.istore 4, 2) := by decide +kernel
theorem dX12_outOf_3 : decode cX12_outOf 3 = .ok (.aload_n 0, 1) := by decide +kernel
theorem dX12_outOf_4 : decode cX12_outOf 4 = .ok (.invokevirtual 480, 3) := by decide +kernel
theorem dX12_outOf_7 : decode cX12_outOf 7 = .ok (.iconst 0, 1) := by decide +kernel
theorem dX12_outOf_8 : decode cX12_outOf 8 = .ok (.istore 5, 2) := by decide +kernel
theorem dX12_outOf_10 : decode cX12_outOf 10 = .ok (.iload 5, 2) := by decide +kernel
theorem dX12_outOf_12 : decode cX12_outOf 12 = .ok (.aload_n 0, 1) := by decide +kernel
theorem dX12_outOf_13 : decode cX12_outOf 13 = .ok (.getfield 35, 3) := by decide +kernel
theorem dX12_outOf_16 : decode cX12_outOf 16 = .ok (.iconst 0, 1) := by decide +kernel
theorem dX12_outOf_17 : decode cX12_outOf 17 = .ok (.iaload, 1) := by decide +kernel
theorem dX12_outOf_18 : decode cX12_outOf 18 = .ok (.if_icmp .ge 106, 3) := by decide +kernel
theorem dX12_outOf_21 : decode cX12_outOf 21 = .ok (.iconst 1, 1) := by decide +kernel
theorem dX12_outOf_22 : decode cX12_outOf 22 = .ok (.istore 6, 2) := by decide +kernel
theorem dX12_outOf_24 : decode cX12_outOf 24 = .ok (.iconst 0, 1) := by decide +kernel
theorem dX12_outOf_25 : decode cX12_outOf 25 = .ok (.istore 7, 2) := by decide +kernel
theorem dX12_outOf_27 : decode cX12_outOf 27 = .ok (.iload 7, 2) := by decide +kernel
theorem dX12_outOf_29 : decode cX12_outOf 29 = .ok (.iload_n 3, 1) := by decide +kernel
theorem dX12_outOf_30 : decode cX12_outOf 30 = .ok (.if_icmp .ge 70, 3) := by decide +kernel
theorem dX12_outOf_33 : decode cX12_outOf 33 = .ok (.iload 6, 2) := by decide +kernel
theorem dX12_outOf_35 : decode cX12_outOf 35 = .ok (.ifCond .eq 56, 3) := by decide +kernel
theorem dX12_outOf_38 : decode cX12_outOf 38 = .ok (.aload_n 0, 1) := by decide +kernel
theorem dX12_outOf_39 : decode cX12_outOf 39 = .ok (.getfield 35, 3) := by decide +kernel
theorem dX12_outOf_42 : decode cX12_outOf 42 = .ok (.bipush 45, 2) := by decide +kernel
theorem dX12_outOf_44 : decode cX12_outOf 44 = .ok (.iload_n 1, 1) := by decide +kernel
theorem dX12_outOf_45 : decode cX12_outOf 45 = .ok (.iadd, 1) := by decide +kernel
theorem dX12_outOf_46 : decode cX12_outOf 46 = .ok (.iaload, 1) := by decide +kernel
theorem dX12_outOf_47 : decode cX12_outOf 47 = .ok (.aload_n 0, 1) := by decide +kernel
theorem dX12_outOf_48 : decode cX12_outOf 48 = .ok (.getfield 59, 3) := by decide +kernel
theorem dX12_outOf_51 : decode cX12_outOf 51 = .ok (.bipush 6, 2) := by decide +kernel
theorem dX12_outOf_53 : decode cX12_outOf 53 = .ok (.aload_n 0, 1) := by decide +kernel
theorem dX12_outOf_54 : decode cX12_outOf 54 = .ok (.iload_n 2, 1) := by decide +kernel
theorem dX12_outOf_55 : decode cX12_outOf 55 = .ok (.iconst 2, 1) := by decide +kernel
theorem dX12_outOf_56 : decode cX12_outOf 56 = .ok (.iload 7, 2) := by decide +kernel
theorem dX12_outOf_58 : decode cX12_outOf 58 = .ok (.imul, 1) := by decide +kernel
theorem dX12_outOf_59 : decode cX12_outOf 59 = .ok (.invokevirtual 471, 3) := by decide +kernel
theorem dX12_outOf_62 : decode cX12_outOf 62 = .ok (.l2i, 1) := by decide +kernel
theorem dX12_outOf_63 : decode cX12_outOf 63 = .ok (.imul, 1) := by decide +kernel
theorem dX12_outOf_64 : decode cX12_outOf 64 = .ok (.iload 5, 2) := by decide +kernel
theorem dX12_outOf_66 : decode cX12_outOf 66 = .ok (.iadd, 1) := by decide +kernel
theorem dX12_outOf_67 : decode cX12_outOf 67 = .ok (.iaload, 1) := by decide +kernel
theorem dX12_outOf_68 : decode cX12_outOf 68 = .ok (.invokestatic 337, 3) := by decide +kernel
theorem dX12_outOf_71 : decode cX12_outOf 71 = .ok (.i2l, 1) := by decide +kernel
theorem dX12_outOf_72 : decode cX12_outOf 72 = .ok (.aload_n 0, 1) := by decide +kernel
theorem dX12_outOf_73 : decode cX12_outOf 73 = .ok (.iload_n 2, 1) := by decide +kernel
theorem dX12_outOf_74 : decode cX12_outOf 74 = .ok (.iconst 2, 1) := by decide +kernel
theorem dX12_outOf_75 : decode cX12_outOf 75 = .ok (.iload 7, 2) := by decide +kernel
theorem dX12_outOf_77 : decode cX12_outOf 77 = .ok (.imul, 1) := by decide +kernel
theorem dX12_outOf_78 : decode cX12_outOf 78 = .ok (.iconst 1, 1) := by decide +kernel
theorem dX12_outOf_79 : decode cX12_outOf 79 = .ok (.iadd, 1) := by decide +kernel
theorem dX12_outOf_80 : decode cX12_outOf 80 = .ok (.invokevirtual 471, 3) := by decide +kernel
theorem dX12_outOf_83 : decode cX12_outOf 83 = .ok (.lcmp, 1) := by decide +kernel
theorem dX12_outOf_84 : decode cX12_outOf 84 = .ok (.ifCond .ne 7, 3) := by decide +kernel
theorem dX12_outOf_87 : decode cX12_outOf 87 = .ok (.iconst 1, 1) := by decide +kernel
theorem dX12_outOf_88 : decode cX12_outOf 88 = .ok (.goto 4, 3) := by decide +kernel
theorem dX12_outOf_91 : decode cX12_outOf 91 = .ok (.iconst 0, 1) := by decide +kernel
theorem dX12_outOf_92 : decode cX12_outOf 92 = .ok (.istore 6, 2) := by decide +kernel
theorem dX12_outOf_94 : decode cX12_outOf 94 = .ok (.iinc 7 1, 3) := by decide +kernel
theorem dX12_outOf_97 : decode cX12_outOf 97 = .ok (.goto (-70), 3) := by decide +kernel
theorem dX12_outOf_100 : decode cX12_outOf 100 = .ok (.iload 4, 2) := by decide +kernel
theorem dX12_outOf_102 : decode cX12_outOf 102 = .ok (.iload 6, 2) := by decide +kernel
theorem dX12_outOf_104 : decode cX12_outOf 104 = .ok (.ifCond .eq 10, 3) := by decide +kernel
theorem dX12_outOf_107 : decode cX12_outOf 107 = .ok (.iconst 1, 1) := by decide +kernel
theorem dX12_outOf_108 : decode cX12_outOf 108 = .ok (.iload 5, 2) := by decide +kernel
theorem dX12_outOf_110 : decode cX12_outOf 110 = .ok (.ishl, 1) := by decide +kernel
theorem dX12_outOf_111 : decode cX12_outOf 111 = .ok (.goto 4, 3) := by decide +kernel
theorem dX12_outOf_114 : decode cX12_outOf 114 = .ok (.iconst 0, 1) := by decide +kernel
theorem dX12_outOf_115 : decode cX12_outOf 115 = .ok (.ior, 1) := by decide +kernel
theorem dX12_outOf_116 : decode cX12_outOf 116 = .ok (.istore 4, 2) := by decide +kernel
theorem dX12_outOf_118 : decode cX12_outOf 118 = .ok (.iinc 5 1, 3) := by decide +kernel
theorem dX12_outOf_121 : decode cX12_outOf 121 = .ok (.goto (-111), 3) := by decide +kernel
theorem dX12_outOf_124 : decode cX12_outOf 124 = .ok (.iload 4, 2) := by decide +kernel
theorem dX12_outOf_126 : decode cX12_outOf 126 = .ok (.ireturn, 1) := by decide +kernel
theorem dX12_out_0 : decode cX12_out 0 = .ok (.aload_n 0, 1) := by decide +kernel
theorem dX12_out_1 : decode cX12_out 1 = .ok (.iconst 0, 1) := by decide +kernel
theorem dX12_out_2 : decode cX12_out 2 = .ok (.putfield 69, 3) := by decide +kernel
theorem dX12_out_5 : decode cX12_out 5 = .ok (.aload_n 0, 1) := by decide +kernel
theorem dX12_out_6 : decode cX12_out 6 = .ok (.aload_n 0, 1) := by decide +kernel
theorem dX12_out_7 : decode cX12_out 7 = .ok (.iload_n 1, 1) := by decide +kernel
theorem dX12_out_8 : decode cX12_out 8 = .ok (.iload_n 2, 1) := by decide +kernel
theorem dX12_out_9 : decode cX12_out 9 = .ok (.iload_n 3, 1) := by decide +kernel
theorem dX12_out_10 : decode cX12_out 10 = .ok (.invokevirtual 483, 3) := by decide +kernel
theorem dX12_out_13 : decode cX12_out 13 = .ok (.putfield 72, 3) := by decide +kernel
theorem dX12_out_16 : decode cX12_out 16 = .ok (.aload_n 0, 1) := by decide +kernel
theorem dX12_out_17 : decode cX12_out 17 = .ok (.getfield 72, 3) := by decide +kernel
theorem dX12_out_20 : decode cX12_out 20 = .ok (.ifCond .le 7, 3) := by decide +kernel
theorem dX12_out_23 : decode cX12_out 23 = .ok (.iconst (-1), 1) := by decide +kernel
theorem dX12_out_24 : decode cX12_out 24 = .ok (.goto 10, 3) := by decide +kernel
theorem dX12_out_27 : decode cX12_out 27 = .ok (.aload_n 0, 1) := by decide +kernel
theorem dX12_out_28 : decode cX12_out 28 = .ok (.iload_n 1, 1) := by decide +kernel
theorem dX12_out_29 : decode cX12_out 29 = .ok (.iload_n 2, 1) := by decide +kernel
theorem dX12_out_30 : decode cX12_out 30 = .ok (.iload_n 3, 1) := by decide +kernel
theorem dX12_out_31 : decode cX12_out 31 = .ok (.invokevirtual 487, 3) := by decide +kernel
theorem dX12_out_34 : decode cX12_out 34 = .ok (.ireturn, 1) := by decide +kernel
theorem dX12_mostAlike_0 : decode cX12_mostAlike 0 = .ok (.iconst 0, 1) := by decide +kernel
theorem dX12_mostAlike_1 : decode cX12_mostAlike 1 = .ok (.istore 4, 2) := by decide +kernel
theorem dX12_mostAlike_3 : decode cX12_mostAlike 3 = .ok (.iconst 0, 1) := by decide +kernel
theorem dX12_mostAlike_4 : decode cX12_mostAlike 4 = .ok (.istore 5, 2) := by decide +kernel
theorem dX12_mostAlike_6 : decode cX12_mostAlike 6 = .ok (.iload 5, 2) := by decide +kernel
theorem dX12_mostAlike_8 : decode cX12_mostAlike 8 = .ok (.aload_n 0, 1) := by decide +kernel
theorem dX12_mostAlike_9 : decode cX12_mostAlike 9 = .ok (.getfield 35, 3) := by decide +kernel
theorem dX12_mostAlike_12 : decode cX12_mostAlike 12 = .ok (.iconst 0, 1) := by decide +kernel
theorem dX12_mostAlike_13 : decode cX12_mostAlike 13 = .ok (.iaload, 1) := by decide +kernel
theorem dX12_mostAlike_14 : decode cX12_mostAlike 14 = .ok (.if_icmp .ge 124, 3) := by decide +kernel
theorem dX12_mostAlike_17 : decode cX12_mostAlike 17 = .ok (.iconst 0, 1) := by decide +kernel
theorem dX12_mostAlike_18 : decode cX12_mostAlike 18 = .ok (.istore 6, 2) := by decide +kernel
theorem dX12_mostAlike_20 : decode cX12_mostAlike 20 = .ok (.aload_n 0, 1) := by decide +kernel
theorem dX12_mostAlike_21 : decode cX12_mostAlike 21 = .ok (.getfield 35, 3) := by decide +kernel
theorem dX12_mostAlike_24 : decode cX12_mostAlike 24 = .ok (.bipush 45, 2) := by decide +kernel
theorem dX12_mostAlike_26 : decode cX12_mostAlike 26 = .ok (.iload_n 1, 1) := by decide +kernel
theorem dX12_mostAlike_27 : decode cX12_mostAlike 27 = .ok (.iadd, 1) := by decide +kernel
theorem dX12_mostAlike_28 : decode cX12_mostAlike 28 = .ok (.iaload, 1) := by decide +kernel
theorem dX12_mostAlike_29 : decode cX12_mostAlike 29 = .ok (.aload_n 0, 1) := by decide +kernel
theorem dX12_mostAlike_30 : decode cX12_mostAlike 30 = .ok (.getfield 59, 3) := by decide +kernel
theorem dX12_mostAlike_33 : decode cX12_mostAlike 33 = .ok (.bipush 6, 2) := by decide +kernel
theorem dX12_mostAlike_35 : decode cX12_mostAlike 35 = .ok (.iload_n 3, 1) := by decide +kernel
theorem dX12_mostAlike_36 : decode cX12_mostAlike 36 = .ok (.imul, 1) := by decide +kernel
theorem dX12_mostAlike_37 : decode cX12_mostAlike 37 = .ok (.iload 5, 2) := by decide +kernel
theorem dX12_mostAlike_39 : decode cX12_mostAlike 39 = .ok (.iadd, 1) := by decide +kernel
theorem dX12_mostAlike_40 : decode cX12_mostAlike 40 = .ok (.iaload, 1) := by decide +kernel
theorem dX12_mostAlike_41 : decode cX12_mostAlike 41 = .ok (.invokestatic 337, 3) := by decide +kernel
theorem dX12_mostAlike_44 : decode cX12_mostAlike 44 = .ok (.istore 7, 2) := by decide +kernel
theorem dX12_mostAlike_46 : decode cX12_mostAlike 46 = .ok (.iconst 0, 1) := by decide +kernel
theorem dX12_mostAlike_47 : decode cX12_mostAlike 47 = .ok (.istore 8, 2) := by decide +kernel
theorem dX12_mostAlike_49 : decode cX12_mostAlike 49 = .ok (.iload 8, 2) := by decide +kernel
theorem dX12_mostAlike_51 : decode cX12_mostAlike 51 = .ok (.aload_n 0, 1) := by decide +kernel
theorem dX12_mostAlike_52 : decode cX12_mostAlike 52 = .ok (.getfield 35, 3) := by decide +kernel
theorem dX12_mostAlike_55 : decode cX12_mostAlike 55 = .ok (.iconst 0, 1) := by decide +kernel
theorem dX12_mostAlike_56 : decode cX12_mostAlike 56 = .ok (.iaload, 1) := by decide +kernel
theorem dX12_mostAlike_57 : decode cX12_mostAlike 57 = .ok (.if_icmp .ge 57, 3) := by decide +kernel
theorem dX12_mostAlike_60 : decode cX12_mostAlike 60 = .ok (.iload 6, 2) := by decide +kernel
theorem dX12_mostAlike_62 : decode cX12_mostAlike 62 = .ok (.iload_n 2, 1) := by decide +kernel
theorem dX12_mostAlike_63 : decode cX12_mostAlike 63 = .ok (.iload 8, 2) := by decide +kernel
theorem dX12_mostAlike_65 : decode cX12_mostAlike 65 = .ok (.invokestatic 108, 3) := by decide +kernel
theorem dX12_mostAlike_68 : decode cX12_mostAlike 68 = .ok (.ifCond .eq 36, 3) := by decide +kernel
theorem dX12_mostAlike_71 : decode cX12_mostAlike 71 = .ok (.aload_n 0, 1) := by decide +kernel
theorem dX12_mostAlike_72 : decode cX12_mostAlike 72 = .ok (.getfield 35, 3) := by decide +kernel
theorem dX12_mostAlike_75 : decode cX12_mostAlike 75 = .ok (.bipush 45, 2) := by decide +kernel
theorem dX12_mostAlike_77 : decode cX12_mostAlike 77 = .ok (.iload_n 1, 1) := by decide +kernel
theorem dX12_mostAlike_78 : decode cX12_mostAlike 78 = .ok (.iadd, 1) := by decide +kernel
theorem dX12_mostAlike_79 : decode cX12_mostAlike 79 = .ok (.iaload, 1) := by decide +kernel
theorem dX12_mostAlike_80 : decode cX12_mostAlike 80 = .ok (.aload_n 0, 1) := by decide +kernel
theorem dX12_mostAlike_81 : decode cX12_mostAlike 81 = .ok (.getfield 59, 3) := by decide +kernel
theorem dX12_mostAlike_84 : decode cX12_mostAlike 84 = .ok (.bipush 6, 2) := by decide +kernel
theorem dX12_mostAlike_86 : decode cX12_mostAlike 86 = .ok (.iload_n 3, 1) := by decide +kernel
theorem dX12_mostAlike_87 : decode cX12_mostAlike 87 = .ok (.imul, 1) := by decide +kernel
theorem dX12_mostAlike_88 : decode cX12_mostAlike 88 = .ok (.iload 8, 2) := by decide +kernel
theorem dX12_mostAlike_90 : decode cX12_mostAlike 90 = .ok (.iadd, 1) := by decide +kernel
theorem dX12_mostAlike_91 : decode cX12_mostAlike 91 = .ok (.iaload, 1) := by decide +kernel
theorem dX12_mostAlike_92 : decode cX12_mostAlike 92 = .ok (.invokestatic 337, 3) := by decide +kernel
theorem dX12_mostAlike_95 : decode cX12_mostAlike 95 = .ok (.iload 7, 2) := by decide +kernel
theorem dX12_mostAlike_97 : decode cX12_mostAlike 97 = .ok (.if_icmp .ne 7, 3) := by decide +kernel
theorem dX12_mostAlike_100 : decode cX12_mostAlike 100 = .ok (.iconst 1, 1) := by decide +kernel
theorem dX12_mostAlike_101 : decode cX12_mostAlike 101 = .ok (.goto 4, 3) := by decide +kernel
theorem dX12_mostAlike_104 : decode cX12_mostAlike 104 = .ok (.iconst 0, 1) := by decide +kernel
theorem dX12_mostAlike_105 : decode cX12_mostAlike 105 = .ok (.iadd, 1) := by decide +kernel
theorem dX12_mostAlike_106 : decode cX12_mostAlike 106 = .ok (.istore 6, 2) := by decide +kernel
theorem dX12_mostAlike_108 : decode cX12_mostAlike 108 = .ok (.iinc 8 1, 3) := by decide +kernel
theorem dX12_mostAlike_111 : decode cX12_mostAlike 111 = .ok (.goto (-62), 3) := by decide +kernel
theorem dX12_mostAlike_114 : decode cX12_mostAlike 114 = .ok (.iload_n 2, 1) := by decide +kernel
theorem dX12_mostAlike_115 : decode cX12_mostAlike 115 = .ok (.iload 5, 2) := by decide +kernel
theorem dX12_mostAlike_117 : decode cX12_mostAlike 117 = .ok (.invokestatic 108, 3) := by decide +kernel
theorem dX12_mostAlike_120 : decode cX12_mostAlike 120 = .ok (.ifCond .eq 12, 3) := by decide +kernel
theorem dX12_mostAlike_123 : decode cX12_mostAlike 123 = .ok (.iload 4, 2) := by decide +kernel
theorem dX12_mostAlike_125 : decode cX12_mostAlike 125 = .ok (.iload 6, 2) := by decide +kernel
theorem dX12_mostAlike_127 : decode cX12_mostAlike 127 = .ok (.invokestatic 247, 3) := by decide +kernel
theorem dX12_mostAlike_130 : decode cX12_mostAlike 130 = .ok (.istore 4, 2) := by decide +kernel
theorem dX12_mostAlike_132 : decode cX12_mostAlike 132 = .ok (.iinc 5 1, 3) := by decide +kernel
theorem dX12_mostAlike_135 : decode cX12_mostAlike 135 = .ok (.goto (-129), 3) := by decide +kernel
theorem dX12_mostAlike_138 : decode cX12_mostAlike 138 = .ok (.iload 4, 2) := by decide +kernel
theorem dX12_mostAlike_140 : decode cX12_mostAlike 140 = .ok (.ireturn, 1) := by decide +kernel
theorem dX12_ask_0 : decode cX12_ask 0 = .ok (.aload_n 0, 1) := by decide +kernel
theorem dX12_ask_1 : decode cX12_ask 1 = .ok (.iconst 0, 1) := by decide +kernel
theorem dX12_ask_2 : decode cX12_ask 2 = .ok (.putfield 69, 3) := by decide +kernel
theorem dX12_ask_5 : decode cX12_ask 5 = .ok (.aload_n 0, 1) := by decide +kernel
theorem dX12_ask_6 : decode cX12_ask 6 = .ok (.aload_n 0, 1) := by decide +kernel
theorem dX12_ask_7 : decode cX12_ask 7 = .ok (.iload_n 1, 1) := by decide +kernel
theorem dX12_ask_8 : decode cX12_ask 8 = .ok (.iload_n 2, 1) := by decide +kernel
theorem dX12_ask_9 : decode cX12_ask 9 = .ok (.iload_n 3, 1) := by decide +kernel
theorem dX12_ask_10 : decode cX12_ask 10 = .ok (.invokevirtual 483, 3) := by decide +kernel
theorem dX12_ask_13 : decode cX12_ask 13 = .ok (.putfield 72, 3) := by decide +kernel
theorem dX12_ask_16 : decode cX12_ask 16 = .ok (.aload_n 0, 1) := by decide +kernel
theorem dX12_ask_17 : decode cX12_ask 17 = .ok (.getfield 72, 3) := by decide +kernel
theorem dX12_ask_20 : decode cX12_ask 20 = .ok (.ifCond .le 5, 3) := by decide +kernel
theorem dX12_ask_23 : decode cX12_ask 23 = .ok (.iconst (-1), 1) := by decide +kernel
theorem dX12_ask_24 : decode cX12_ask 24 = .ok (.ireturn, 1) := by decide +kernel
theorem dX12_ask_25 : decode cX12_ask 25 = .ok (.aload_n 0, 1) := by decide +kernel
theorem dX12_ask_26 : decode cX12_ask 26 = .ok (.iload_n 1, 1) := by decide +kernel
theorem dX12_ask_27 : decode cX12_ask 27 = .ok (.iload_n 2, 1) := by decide +kernel
theorem dX12_ask_28 : decode cX12_ask 28 = .ok (.iload_n 3, 1) := by decide +kernel
theorem dX12_ask_29 : decode cX12_ask 29 = .ok (.invokevirtual 487, 3) := by decide +kernel
theorem dX12_ask_32 : decode cX12_ask 32 = .ok (.istore 4, 2) := by decide +kernel
theorem dX12_ask_34 : decode cX12_ask 34 = .ok (.iload 4, 2) := by decide +kernel
theorem dX12_ask_36 : decode cX12_ask 36 = .ok (.invokestatic 428, 3) := by decide +kernel
theorem dX12_ask_39 : decode cX12_ask 39 = .ok (.iconst 2, 1) := by decide +kernel
theorem dX12_ask_40 : decode cX12_ask 40 = .ok (.if_icmp .ge 10, 3) := by decide +kernel
theorem dX12_ask_43 : decode cX12_ask 43 = .ok (.aload_n 0, 1) := by decide +kernel
theorem dX12_ask_44 : decode cX12_ask 44 = .ok (.bipush 8, 2) := by decide +kernel
theorem dX12_ask_46 : decode cX12_ask 46 = .ok (.invokevirtual 345, 3) := by decide +kernel
theorem dX12_ask_49 : decode cX12_ask 49 = .ok (.ireturn, 1) := by decide +kernel
theorem dX12_ask_50 : decode cX12_ask 50 = .ok (.iconst 0, 1) := by decide +kernel
theorem dX12_ask_51 : decode cX12_ask 51 = .ok (.istore 5, 2) := by decide +kernel
theorem dX12_ask_53 : decode cX12_ask 53 = .ok (.iconst 1, 1) := by decide +kernel
theorem dX12_ask_54 : decode cX12_ask 54 = .ok (.istore 6, 2) := by decide +kernel
theorem dX12_ask_56 : decode cX12_ask 56 = .ok (.iload 6, 2) := by decide +kernel
theorem dX12_ask_58 : decode cX12_ask 58 = .ok (.bipush 40, 2) := by decide +kernel
theorem dX12_ask_60 : decode cX12_ask 60 = .ok (.if_icmp .gt 34, 3) := by decide +kernel
theorem dX12_ask_63 : decode cX12_ask 63 = .ok (.aload_n 0, 1) := by decide +kernel
theorem dX12_ask_64 : decode cX12_ask 64 = .ok (.iload_n 1, 1) := by decide +kernel
theorem dX12_ask_65 : decode cX12_ask 65 = .ok (.iload 4, 2) := by decide +kernel
theorem dX12_ask_67 : decode cX12_ask 67 = .ok (.iload 6, 2) := by decide +kernel
theorem dX12_ask_69 : decode cX12_ask 69 = .ok (.invokevirtual 490, 3) := by decide +kernel
theorem dX12_ask_72 : decode cX12_ask 72 = .ok (.aload_n 0, 1) := by decide +kernel
theorem dX12_ask_73 : decode cX12_ask 73 = .ok (.iload_n 1, 1) := by decide +kernel
theorem dX12_ask_74 : decode cX12_ask 74 = .ok (.iload 4, 2) := by decide +kernel
theorem dX12_ask_76 : decode cX12_ask 76 = .ok (.iload 5, 2) := by decide +kernel
theorem dX12_ask_78 : decode cX12_ask 78 = .ok (.invokevirtual 490, 3) := by decide +kernel
theorem dX12_ask_81 : decode cX12_ask 81 = .ok (.if_icmp .ge 7, 3) := by decide +kernel
theorem dX12_ask_84 : decode cX12_ask 84 = .ok (.iload 6, 2) := by decide +kernel
theorem dX12_ask_86 : decode cX12_ask 86 = .ok (.istore 5, 2) := by decide +kernel
theorem dX12_ask_88 : decode cX12_ask 88 = .ok (.iinc 6 1, 3) := by decide +kernel
theorem dX12_ask_91 : decode cX12_ask 91 = .ok (.goto (-35), 3) := by decide +kernel
theorem dX12_ask_94 : decode cX12_ask 94 = .ok (.iload 5, 2) := by decide +kernel
theorem dX12_ask_96 : decode cX12_ask 96 = .ok (.ireturn, 1) := by decide +kernel
theorem dX12_whyNoLaw_0 : decode cX12_whyNoLaw 0 = .ok (.aload_n 0, 1) := by decide +kernel
theorem dX12_whyNoLaw_1 : decode cX12_whyNoLaw 1 = .ok (.iload_n 1, 1) := by decide +kernel
theorem dX12_whyNoLaw_2 : decode cX12_whyNoLaw 2 = .ok (.invokevirtual 379, 3) := by decide +kernel
theorem dX12_whyNoLaw_5 : decode cX12_whyNoLaw 5 = .ok (.ifCond .eq 12, 3) := by decide +kernel
theorem dX12_whyNoLaw_8 : decode cX12_whyNoLaw 8 = .ok (.aload_n 0, 1) := by decide +kernel
theorem dX12_whyNoLaw_9 : decode cX12_whyNoLaw 9 = .ok (.iload_n 1, 1) := by decide +kernel
theorem dX12_whyNoLaw_10 : decode cX12_whyNoLaw 10 = .ok (.iload_n 2, 1) := by decide +kernel
theorem dX12_whyNoLaw_11 : decode cX12_whyNoLaw 11 = .ok (.invokevirtual 477, 3) := by decide +kernel
theorem dX12_whyNoLaw_14 : decode cX12_whyNoLaw 14 = .ok (.goto 4, 3) := by decide +kernel
theorem dX12_whyNoLaw_17 : decode cX12_whyNoLaw 17 = .ok (.iconst 1, 1) := by decide +kernel
theorem dX12_whyNoLaw_18 : decode cX12_whyNoLaw 18 = .ok (.ireturn, 1) := by decide +kernel
theorem dX12_isLaw_0 : decode cX12_isLaw 0 = .ok (.iconst 0, 1) := by decide +kernel
theorem dX12_isLaw_1 : decode cX12_isLaw 1 = .ok (.istore 5, 2) := by decide +kernel
theorem dX12_isLaw_3 : decode cX12_isLaw 3 = .ok (.iload 5, 2) := by decide +kernel
theorem dX12_isLaw_5 : decode cX12_isLaw 5 = .ok (.iload_n 2, 1) := by decide +kernel
theorem dX12_isLaw_6 : decode cX12_isLaw 6 = .ok (.if_icmp .ge 49, 3) := by decide +kernel
theorem dX12_isLaw_9 : decode cX12_isLaw 9 = .ok (.iload_n 3, 1) := by decide +kernel
theorem dX12_isLaw_10 : decode cX12_isLaw 10 = .ok (.bipush 100, 2) := by decide +kernel
theorem dX12_isLaw_12 : decode cX12_isLaw 12 = .ok (.iload 4, 2) := by decide +kernel
theorem dX12_isLaw_14 : decode cX12_isLaw 14 = .ok (.aload_n 0, 1) := by decide +kernel
theorem dX12_isLaw_15 : decode cX12_isLaw 15 = .ok (.iload_n 1, 1) := by decide +kernel
theorem dX12_isLaw_16 : decode cX12_isLaw 16 = .ok (.iconst 2, 1) := by decide +kernel
theorem dX12_isLaw_17 : decode cX12_isLaw 17 = .ok (.iload 5, 2) := by decide +kernel
theorem dX12_isLaw_19 : decode cX12_isLaw 19 = .ok (.imul, 1) := by decide +kernel
theorem dX12_isLaw_20 : decode cX12_isLaw 20 = .ok (.invokevirtual 471, 3) := by decide +kernel
theorem dX12_isLaw_23 : decode cX12_isLaw 23 = .ok (.l2i, 1) := by decide +kernel
theorem dX12_isLaw_24 : decode cX12_isLaw 24 = .ok (.imul, 1) := by decide +kernel
theorem dX12_isLaw_25 : decode cX12_isLaw 25 = .ok (.invokestatic 386, 3) := by decide +kernel
theorem dX12_isLaw_28 : decode cX12_isLaw 28 = .ok (.invokestatic 337, 3) := by decide +kernel
theorem dX12_isLaw_31 : decode cX12_isLaw 31 = .ok (.i2l, 1) := by decide +kernel
theorem dX12_isLaw_32 : decode cX12_isLaw 32 = .ok (.aload_n 0, 1) := by decide +kernel
theorem dX12_isLaw_33 : decode cX12_isLaw 33 = .ok (.iload_n 1, 1) := by decide +kernel
theorem dX12_isLaw_34 : decode cX12_isLaw 34 = .ok (.iconst 2, 1) := by decide +kernel
theorem dX12_isLaw_35 : decode cX12_isLaw 35 = .ok (.iload 5, 2) := by decide +kernel
theorem dX12_isLaw_37 : decode cX12_isLaw 37 = .ok (.imul, 1) := by decide +kernel
theorem dX12_isLaw_38 : decode cX12_isLaw 38 = .ok (.iconst 1, 1) := by decide +kernel
theorem dX12_isLaw_39 : decode cX12_isLaw 39 = .ok (.iadd, 1) := by decide +kernel
theorem dX12_isLaw_40 : decode cX12_isLaw 40 = .ok (.invokevirtual 471, 3) := by decide +kernel
theorem dX12_isLaw_43 : decode cX12_isLaw 43 = .ok (.lcmp, 1) := by decide +kernel
theorem dX12_isLaw_44 : decode cX12_isLaw 44 = .ok (.ifCond .eq 5, 3) := by decide +kernel
theorem dX12_isLaw_47 : decode cX12_isLaw 47 = .ok (.iconst 0, 1) := by decide +kernel
theorem dX12_isLaw_48 : decode cX12_isLaw 48 = .ok (.ireturn, 1) := by decide +kernel
theorem dX12_isLaw_49 : decode cX12_isLaw 49 = .ok (.iinc 5 1, 3) := by decide +kernel
theorem dX12_isLaw_52 : decode cX12_isLaw 52 = .ok (.goto (-49), 3) := by decide +kernel
theorem dX12_isLaw_55 : decode cX12_isLaw 55 = .ok (.iconst 1, 1) := by decide +kernel
theorem dX12_isLaw_56 : decode cX12_isLaw 56 = .ok (.ireturn, 1) := by decide +kernel
theorem dX12_laws_0 : decode cX12_laws 0 = .ok (.aload_n 0, 1) := by decide +kernel
theorem dX12_laws_1 : decode cX12_laws 1 = .ok (.iconst 0, 1) := by decide +kernel
theorem dX12_laws_2 : decode cX12_laws 2 = .ok (.putfield 69, 3) := by decide +kernel
theorem dX12_laws_5 : decode cX12_laws 5 = .ok (.aload_n 0, 1) := by decide +kernel
theorem dX12_laws_6 : decode cX12_laws 6 = .ok (.aload_n 0, 1) := by decide +kernel
theorem dX12_laws_7 : decode cX12_laws 7 = .ok (.iload_n 1, 1) := by decide +kernel
theorem dX12_laws_8 : decode cX12_laws 8 = .ok (.iload_n 2, 1) := by decide +kernel
theorem dX12_laws_9 : decode cX12_laws 9 = .ok (.invokevirtual 493, 3) := by decide +kernel
theorem dX12_laws_12 : decode cX12_laws 12 = .ok (.putfield 72, 3) := by decide +kernel
theorem dX12_laws_15 : decode cX12_laws 15 = .ok (.aload_n 0, 1) := by decide +kernel
theorem dX12_laws_16 : decode cX12_laws 16 = .ok (.getfield 72, 3) := by decide +kernel
theorem dX12_laws_19 : decode cX12_laws 19 = .ok (.ifCond .le 5, 3) := by decide +kernel
theorem dX12_laws_22 : decode cX12_laws 22 = .ok (.iconst (-1), 1) := by decide +kernel
theorem dX12_laws_23 : decode cX12_laws 23 = .ok (.ireturn, 1) := by decide +kernel
theorem dX12_laws_24 : decode cX12_laws 24 = .ok (.iconst 0, 1) := by decide +kernel
theorem dX12_laws_25 : decode cX12_laws 25 = .ok (.istore_n 3, 1) := by decide +kernel
theorem dX12_laws_26 : decode cX12_laws 26 = .ok (.iconst 1, 1) := by decide +kernel
theorem dX12_laws_27 : decode cX12_laws 27 = .ok (.istore 4, 2) := by decide +kernel
theorem dX12_laws_29 : decode cX12_laws 29 = .ok (.iload 4, 2) := by decide +kernel
theorem dX12_laws_31 : decode cX12_laws 31 = .ok (.bipush 99, 2) := by decide +kernel
theorem dX12_laws_33 : decode cX12_laws 33 = .ok (.if_icmp .gt 46, 3) := by decide +kernel
theorem dX12_laws_36 : decode cX12_laws 36 = .ok (.iconst 0, 1) := by decide +kernel
theorem dX12_laws_37 : decode cX12_laws 37 = .ok (.istore 5, 2) := by decide +kernel
theorem dX12_laws_39 : decode cX12_laws 39 = .ok (.iload 5, 2) := by decide +kernel
theorem dX12_laws_41 : decode cX12_laws 41 = .ok (.bipush 20, 2) := by decide +kernel
theorem dX12_laws_43 : decode cX12_laws 43 = .ok (.if_icmp .gt 30, 3) := by decide +kernel
theorem dX12_laws_46 : decode cX12_laws 46 = .ok (.iload_n 3, 1) := by decide +kernel
theorem dX12_laws_47 : decode cX12_laws 47 = .ok (.aload_n 0, 1) := by decide +kernel
theorem dX12_laws_48 : decode cX12_laws 48 = .ok (.iload_n 1, 1) := by decide +kernel
theorem dX12_laws_49 : decode cX12_laws 49 = .ok (.iload_n 2, 1) := by decide +kernel
theorem dX12_laws_50 : decode cX12_laws 50 = .ok (.iload 4, 2) := by decide +kernel
theorem dX12_laws_52 : decode cX12_laws 52 = .ok (.iload 5, 2) := by decide +kernel
theorem dX12_laws_54 : decode cX12_laws 54 = .ok (.invokevirtual 496, 3) := by decide +kernel
theorem dX12_laws_57 : decode cX12_laws 57 = .ok (.ifCond .eq 7, 3) := by decide +kernel
theorem dX12_laws_60 : decode cX12_laws 60 = .ok (.iconst 1, 1) := by decide +kernel
theorem dX12_laws_61 : decode cX12_laws 61 = .ok (.goto 4, 3) := by decide +kernel
theorem dX12_laws_64 : decode cX12_laws 64 = .ok (.iconst 0, 1) := by decide +kernel
theorem dX12_laws_65 : decode cX12_laws 65 = .ok (.iadd, 1) := by decide +kernel
theorem dX12_laws_66 : decode cX12_laws 66 = .ok (.istore_n 3, 1) := by decide +kernel
theorem dX12_laws_67 : decode cX12_laws 67 = .ok (.iinc 5 1, 3) := by decide +kernel
theorem dX12_laws_70 : decode cX12_laws 70 = .ok (.goto (-31), 3) := by decide +kernel
theorem dX12_laws_73 : decode cX12_laws 73 = .ok (.iinc 4 1, 3) := by decide +kernel
theorem dX12_laws_76 : decode cX12_laws 76 = .ok (.goto (-47), 3) := by decide +kernel
theorem dX12_laws_79 : decode cX12_laws 79 = .ok (.iload_n 3, 1) := by decide +kernel
theorem dX12_laws_80 : decode cX12_laws 80 = .ok (.ireturn, 1) := by decide +kernel
theorem dX12_lawOf_0 : decode cX12_lawOf 0 = .ok (.aload_n 0, 1) := by decide +kernel
theorem dX12_lawOf_1 : decode cX12_lawOf 1 = .ok (.iconst 0, 1) := by decide +kernel
theorem dX12_lawOf_2 : decode cX12_lawOf 2 = .ok (.putfield 69, 3) := by decide +kernel
theorem dX12_lawOf_5 : decode cX12_lawOf 5 = .ok (.aload_n 0, 1) := by decide +kernel
theorem dX12_lawOf_6 : decode cX12_lawOf 6 = .ok (.aload_n 0, 1) := by decide +kernel
theorem dX12_lawOf_7 : decode cX12_lawOf 7 = .ok (.iload_n 1, 1) := by decide +kernel
theorem dX12_lawOf_8 : decode cX12_lawOf 8 = .ok (.iload_n 2, 1) := by decide +kernel
theorem dX12_lawOf_9 : decode cX12_lawOf 9 = .ok (.invokevirtual 493, 3) := by decide +kernel
theorem dX12_lawOf_12 : decode cX12_lawOf 12 = .ok (.putfield 72, 3) := by decide +kernel
theorem dX12_lawOf_15 : decode cX12_lawOf 15 = .ok (.aload_n 0, 1) := by decide +kernel
theorem dX12_lawOf_16 : decode cX12_lawOf 16 = .ok (.getfield 72, 3) := by decide +kernel
theorem dX12_lawOf_19 : decode cX12_lawOf 19 = .ok (.ifCond .ne 18, 3) := by decide +kernel
theorem dX12_lawOf_22 : decode cX12_lawOf 22 = .ok (.iload_n 3, 1) := by decide +kernel
theorem dX12_lawOf_23 : decode cX12_lawOf 23 = .ok (.i2l, 1) := by decide +kernel
theorem dX12_lawOf_24 : decode cX12_lawOf 24 = .ok (.lconst 0, 1) := by decide +kernel
theorem dX12_lawOf_25 : decode cX12_lawOf 25 = .ok (.lconst 1, 1) := by decide +kernel
theorem dX12_lawOf_26 : decode cX12_lawOf 26 = .ok (.invokestatic 104, 3) := by decide +kernel
theorem dX12_lawOf_29 : decode cX12_lawOf 29 = .ok (.ifCond .ne 8, 3) := by decide +kernel
theorem dX12_lawOf_32 : decode cX12_lawOf 32 = .ok (.aload_n 0, 1) := by decide +kernel
theorem dX12_lawOf_33 : decode cX12_lawOf 33 = .ok (.iconst 5, 1) := by decide +kernel
theorem dX12_lawOf_34 : decode cX12_lawOf 34 = .ok (.putfield 72, 3) := by decide +kernel
theorem dX12_lawOf_37 : decode cX12_lawOf 37 = .ok (.aload_n 0, 1) := by decide +kernel
theorem dX12_lawOf_38 : decode cX12_lawOf 38 = .ok (.getfield 72, 3) := by decide +kernel
theorem dX12_lawOf_41 : decode cX12_lawOf 41 = .ok (.ifCond .le 5, 3) := by decide +kernel
theorem dX12_lawOf_44 : decode cX12_lawOf 44 = .ok (.iconst (-1), 1) := by decide +kernel
theorem dX12_lawOf_45 : decode cX12_lawOf 45 = .ok (.ireturn, 1) := by decide +kernel
theorem dX12_lawOf_46 : decode cX12_lawOf 46 = .ok (.iconst 1, 1) := by decide +kernel
theorem dX12_lawOf_47 : decode cX12_lawOf 47 = .ok (.istore 4, 2) := by decide +kernel
theorem dX12_lawOf_49 : decode cX12_lawOf 49 = .ok (.iload 4, 2) := by decide +kernel
theorem dX12_lawOf_51 : decode cX12_lawOf 51 = .ok (.bipush 99, 2) := by decide +kernel
theorem dX12_lawOf_53 : decode cX12_lawOf 53 = .ok (.if_icmp .gt 50, 3) := by decide +kernel
theorem dX12_lawOf_56 : decode cX12_lawOf 56 = .ok (.iconst 0, 1) := by decide +kernel
theorem dX12_lawOf_57 : decode cX12_lawOf 57 = .ok (.istore 5, 2) := by decide +kernel
theorem dX12_lawOf_59 : decode cX12_lawOf 59 = .ok (.iload 5, 2) := by decide +kernel
theorem dX12_lawOf_61 : decode cX12_lawOf 61 = .ok (.bipush 20, 2) := by decide +kernel
theorem dX12_lawOf_63 : decode cX12_lawOf 63 = .ok (.if_icmp .gt 34, 3) := by decide +kernel
theorem dX12_lawOf_66 : decode cX12_lawOf 66 = .ok (.aload_n 0, 1) := by decide +kernel
theorem dX12_lawOf_67 : decode cX12_lawOf 67 = .ok (.iload_n 1, 1) := by decide +kernel
theorem dX12_lawOf_68 : decode cX12_lawOf 68 = .ok (.iload_n 2, 1) := by decide +kernel
theorem dX12_lawOf_69 : decode cX12_lawOf 69 = .ok (.iload 4, 2) := by decide +kernel
theorem dX12_lawOf_71 : decode cX12_lawOf 71 = .ok (.iload 5, 2) := by decide +kernel
theorem dX12_lawOf_73 : decode cX12_lawOf 73 = .ok (.invokevirtual 496, 3) := by decide +kernel
theorem dX12_lawOf_76 : decode cX12_lawOf 76 = .ok (.ifCond .eq 15, 3) := by decide +kernel
theorem dX12_lawOf_79 : decode cX12_lawOf 79 = .ok (.iload_n 3, 1) := by decide +kernel
theorem dX12_lawOf_80 : decode cX12_lawOf 80 = .ok (.ifCond .ne 8, 3) := by decide +kernel
theorem dX12_lawOf_83 : decode cX12_lawOf 83 = .ok (.iload 4, 2) := by decide +kernel
theorem dX12_lawOf_85 : decode cX12_lawOf 85 = .ok (.goto 5, 3) := by decide +kernel
theorem dX12_lawOf_88 : decode cX12_lawOf 88 = .ok (.iload 5, 2) := by decide +kernel
theorem dX12_lawOf_90 : decode cX12_lawOf 90 = .ok (.ireturn, 1) := by decide +kernel
theorem dX12_lawOf_91 : decode cX12_lawOf 91 = .ok (.iinc 5 1, 3) := by decide +kernel
theorem dX12_lawOf_94 : decode cX12_lawOf 94 = .ok (.goto (-35), 3) := by decide +kernel
theorem dX12_lawOf_97 : decode cX12_lawOf 97 = .ok (.iinc 4 1, 3) := by decide +kernel
theorem dX12_lawOf_100 : decode cX12_lawOf 100 = .ok (.goto (-51), 3) := by decide +kernel
theorem dX12_lawOf_103 : decode cX12_lawOf 103 = .ok (.aload_n 0, 1) := by decide +kernel
theorem dX12_lawOf_104 : decode cX12_lawOf 104 = .ok (.bipush 8, 2) := by decide +kernel
theorem dX12_lawOf_106 : decode cX12_lawOf 106 = .ok (.invokevirtual 345, 3) := by decide +kernel
theorem dX12_lawOf_109 : decode cX12_lawOf 109 = .ok (.ireturn, 1) := by decide +kernel
theorem dX12_laysCost_0 : decode cX12_laysCost 0 = .ok (.aload_n 0, 1) := by decide +kernel
theorem dX12_laysCost_1 : decode cX12_laysCost 1 = .ok (.iload_n 1, 1) := by decide +kernel
theorem dX12_laysCost_2 : decode cX12_laysCost 2 = .ok (.i2l, 1) := by decide +kernel
theorem dX12_laysCost_3 : decode cX12_laysCost 3 = .ok (.putfield 500, 3) := by decide +kernel
theorem dX12_laysCost_6 : decode cX12_laysCost 6 = .ok (.aload_n 0, 1) := by decide +kernel
theorem dX12_laysCost_7 : decode cX12_laysCost 7 = .ok (.lconst 1, 1) := by decide +kernel
theorem dX12_laysCost_8 : decode cX12_laysCost 8 = .ok (.putfield 503, 3) := by decide +kernel
theorem dX12_laysCost_11 : decode cX12_laysCost 11 = .ok (.iconst 0, 1) := by decide +kernel
theorem dX12_laysCost_12 : decode cX12_laysCost 12 = .ok (.istore_n 3, 1) := by decide +kernel
theorem dX12_laysCost_13 : decode cX12_laysCost 13 = .ok (.iload_n 3, 1) := by decide +kernel
theorem dX12_laysCost_14 : decode cX12_laysCost 14 = .ok (.iload_n 2, 1) := by decide +kernel
theorem dX12_laysCost_15 : decode cX12_laysCost 15 = .ok (.if_icmp .ge 63, 3) := by decide +kernel
theorem dX12_laysCost_18 : decode cX12_laysCost 18 = .ok (.ldc2_w 415, 3) := by decide +kernel
theorem dX12_laysCost_21 : decode cX12_laysCost 21 = .ok (.aload_n 0, 1) := by decide +kernel
theorem dX12_laysCost_22 : decode cX12_laysCost 22 = .ok (.getfield 503, 3) := by decide +kernel
theorem dX12_laysCost_25 : decode cX12_laysCost 25 = .ok (.lmul, 1) := by decide +kernel
theorem dX12_laysCost_26 : decode cX12_laysCost 26 = .ok (.bipush 16, 2) := by decide +kernel
theorem dX12_laysCost_28 : decode cX12_laysCost 28 = .ok (.aload_n 0, 1) := by decide +kernel
theorem dX12_laysCost_29 : decode cX12_laysCost 29 = .ok (.getfield 35, 3) := by decide +kernel
theorem dX12_laysCost_32 : decode cX12_laysCost 32 = .ok (.iconst 4, 1) := by decide +kernel
theorem dX12_laysCost_33 : decode cX12_laysCost 33 = .ok (.iaload, 1) := by decide +kernel
theorem dX12_laysCost_34 : decode cX12_laysCost 34 = .ok (.isub, 1) := by decide +kernel
theorem dX12_laysCost_35 : decode cX12_laysCost 35 = .ok (.i2l, 1) := by decide +kernel
theorem dX12_laysCost_36 : decode cX12_laysCost 36 = .ok (.aload_n 0, 1) := by decide +kernel
theorem dX12_laysCost_37 : decode cX12_laysCost 37 = .ok (.getfield 500, 3) := by decide +kernel
theorem dX12_laysCost_40 : decode cX12_laysCost 40 = .ok (.lmul, 1) := by decide +kernel
theorem dX12_laysCost_41 : decode cX12_laysCost 41 = .ok (.ladd, 1) := by decide +kernel
theorem dX12_laysCost_42 : decode cX12_laysCost 42 = .ok (.lstore 4, 2) := by decide +kernel
theorem dX12_laysCost_44 : decode cX12_laysCost 44 = .ok (.aload_n 0, 1) := by decide +kernel
theorem dX12_laysCost_45 : decode cX12_laysCost 45 = .ok (.dup, 1) := by decide +kernel
theorem dX12_laysCost_46 : decode cX12_laysCost 46 = .ok (.getfield 503, 3) := by decide +kernel
theorem dX12_laysCost_49 : decode cX12_laysCost 49 = .ok (.ldc2_w 415, 3) := by decide +kernel
theorem dX12_laysCost_52 : decode cX12_laysCost 52 = .ok (.lmul, 1) := by decide +kernel
theorem dX12_laysCost_53 : decode cX12_laysCost 53 = .ok (.putfield 503, 3) := by decide +kernel
theorem dX12_laysCost_56 : decode cX12_laysCost 56 = .ok (.aload_n 0, 1) := by decide +kernel
theorem dX12_laysCost_57 : decode cX12_laysCost 57 = .ok (.iload_n 1, 1) := by decide +kernel
theorem dX12_laysCost_58 : decode cX12_laysCost 58 = .ok (.i2l, 1) := by decide +kernel
theorem dX12_laysCost_59 : decode cX12_laysCost 59 = .ok (.aload_n 0, 1) := by decide +kernel
theorem dX12_laysCost_60 : decode cX12_laysCost 60 = .ok (.getfield 503, 3) := by decide +kernel
theorem dX12_laysCost_63 : decode cX12_laysCost 63 = .ok (.lmul, 1) := by decide +kernel
theorem dX12_laysCost_64 : decode cX12_laysCost 64 = .ok (.lload 4, 2) := by decide +kernel
theorem dX12_laysCost_66 : decode cX12_laysCost 66 = .ok (.invokestatic 506, 3) := by decide +kernel
theorem dX12_laysCost_69 : decode cX12_laysCost 69 = .ok (.putfield 500, 3) := by decide +kernel
theorem dX12_laysCost_72 : decode cX12_laysCost 72 = .ok (.iinc 3 1, 3) := by decide +kernel
theorem dX12_laysCost_75 : decode cX12_laysCost 75 = .ok (.goto (-62), 3) := by decide +kernel
theorem dX12_laysCost_78 : decode cX12_laysCost 78 = .ok (.return_, 1) := by decide +kernel
theorem dX12_off_0 : decode cX12_off 0 = .ok (.aload_n 0, 1) := by decide +kernel
theorem dX12_off_1 : decode cX12_off 1 = .ok (.iconst 0, 1) := by decide +kernel
theorem dX12_off_2 : decode cX12_off 2 = .ok (.putfield 69, 3) := by decide +kernel
theorem dX12_off_5 : decode cX12_off 5 = .ok (.aload_n 0, 1) := by decide +kernel
theorem dX12_off_6 : decode cX12_off 6 = .ok (.iconst 0, 1) := by decide +kernel
theorem dX12_off_7 : decode cX12_off 7 = .ok (.putfield 72, 3) := by decide +kernel
theorem dX12_off_10 : decode cX12_off 10 = .ok (.iload_n 1, 1) := by decide +kernel
theorem dX12_off_11 : decode cX12_off 11 = .ok (.i2l, 1) := by decide +kernel
theorem dX12_off_12 : decode cX12_off 12 = .ok (.lconst 0, 1) := by decide +kernel
theorem dX12_off_13 : decode cX12_off 13 = .ok (.ldc2_w 411, 3) := by decide +kernel
theorem dX12_off_16 : decode cX12_off 16 = .ok (.invokestatic 104, 3) := by decide +kernel
theorem dX12_off_19 : decode cX12_off 19 = .ok (.ifCond .eq 15, 3) := by decide +kernel
theorem dX12_off_22 : decode cX12_off 22 = .ok (.iload_n 2, 1) := by decide +kernel
theorem dX12_off_23 : decode cX12_off 23 = .ok (.i2l, 1) := by decide +kernel
theorem dX12_off_24 : decode cX12_off 24 = .ok (.lconst 0, 1) := by decide +kernel
theorem dX12_off_25 : decode cX12_off 25 = .ok (.ldc2_w 509, 3) := by decide +kernel
theorem dX12_off_28 : decode cX12_off 28 = .ok (.invokestatic 104, 3) := by decide +kernel
theorem dX12_off_31 : decode cX12_off 31 = .ok (.ifCond .ne 9, 3) := by decide +kernel
theorem dX12_off_34 : decode cX12_off 34 = .ok (.aload_n 0, 1) := by decide +kernel
theorem dX12_off_35 : decode cX12_off 35 = .ok (.iconst 5, 1) := by decide +kernel
theorem dX12_off_36 : decode cX12_off 36 = .ok (.invokevirtual 84, 3) := by decide +kernel
theorem dX12_off_39 : decode cX12_off 39 = .ok (.ireturn, 1) := by decide +kernel
theorem dX12_off_40 : decode cX12_off 40 = .ok (.aload_n 0, 1) := by decide +kernel
theorem dX12_off_41 : decode cX12_off 41 = .ok (.iload_n 1, 1) := by decide +kernel
theorem dX12_off_42 : decode cX12_off 42 = .ok (.iload_n 2, 1) := by decide +kernel
theorem dX12_off_43 : decode cX12_off 43 = .ok (.invokevirtual 511, 3) := by decide +kernel
theorem dX12_off_46 : decode cX12_off 46 = .ok (.aload_n 0, 1) := by decide +kernel
theorem dX12_off_47 : decode cX12_off 47 = .ok (.aload_n 0, 1) := by decide +kernel
theorem dX12_off_48 : decode cX12_off 48 = .ok (.getfield 500, 3) := by decide +kernel
theorem dX12_off_51 : decode cX12_off 51 = .ok (.aload_n 0, 1) := by decide +kernel
theorem dX12_off_52 : decode cX12_off 52 = .ok (.getfield 503, 3) := by decide +kernel
theorem dX12_off_55 : decode cX12_off 55 = .ok (.invokevirtual 514, 3) := by decide +kernel
theorem dX12_off_58 : decode cX12_off 58 = .ok (.ireturn, 1) := by decide +kernel
theorem dX12_stay_0 : decode cX12_stay 0 = .ok (.aload_n 0, 1) := by decide +kernel
theorem dX12_stay_1 : decode cX12_stay 1 = .ok (.iconst 0, 1) := by decide +kernel
theorem dX12_stay_2 : decode cX12_stay 2 = .ok (.putfield 69, 3) := by decide +kernel
theorem dX12_stay_5 : decode cX12_stay 5 = .ok (.aload_n 0, 1) := by decide +kernel
theorem dX12_stay_6 : decode cX12_stay 6 = .ok (.iconst 0, 1) := by decide +kernel
theorem dX12_stay_7 : decode cX12_stay 7 = .ok (.putfield 72, 3) := by decide +kernel
theorem dX12_stay_10 : decode cX12_stay 10 = .ok (.iload_n 1, 1) := by decide +kernel
theorem dX12_stay_11 : decode cX12_stay 11 = .ok (.i2l, 1) := by decide +kernel
theorem dX12_stay_12 : decode cX12_stay 12 = .ok (.lconst 0, 1) := by decide +kernel
theorem dX12_stay_13 : decode cX12_stay 13 = .ok (.ldc2_w 411, 3) := by decide +kernel
theorem dX12_stay_16 : decode cX12_stay 16 = .ok (.invokestatic 104, 3) := by decide +kernel
theorem dX12_stay_19 : decode cX12_stay 19 = .ok (.ifCond .eq 15, 3) := by decide +kernel
theorem dX12_stay_22 : decode cX12_stay 22 = .ok (.iload_n 2, 1) := by decide +kernel
theorem dX12_stay_23 : decode cX12_stay 23 = .ok (.i2l, 1) := by decide +kernel
theorem dX12_stay_24 : decode cX12_stay 24 = .ok (.lconst 0, 1) := by decide +kernel
theorem dX12_stay_25 : decode cX12_stay 25 = .ok (.ldc2_w 509, 3) := by decide +kernel
theorem dX12_stay_28 : decode cX12_stay 28 = .ok (.invokestatic 104, 3) := by decide +kernel
theorem dX12_stay_31 : decode cX12_stay 31 = .ok (.ifCond .ne 9, 3) := by decide +kernel
theorem dX12_stay_34 : decode cX12_stay 34 = .ok (.aload_n 0, 1) := by decide +kernel
theorem dX12_stay_35 : decode cX12_stay 35 = .ok (.iconst 5, 1) := by decide +kernel
theorem dX12_stay_36 : decode cX12_stay 36 = .ok (.invokevirtual 345, 3) := by decide +kernel
theorem dX12_stay_39 : decode cX12_stay 39 = .ok (.ireturn, 1) := by decide +kernel
theorem dX12_stay_40 : decode cX12_stay 40 = .ok (.aload_n 0, 1) := by decide +kernel
theorem dX12_stay_41 : decode cX12_stay 41 = .ok (.iload_n 1, 1) := by decide +kernel
theorem dX12_stay_42 : decode cX12_stay 42 = .ok (.iload_n 2, 1) := by decide +kernel
theorem dX12_stay_43 : decode cX12_stay 43 = .ok (.invokevirtual 511, 3) := by decide +kernel
theorem dX12_stay_46 : decode cX12_stay 46 = .ok (.aload_n 0, 1) := by decide +kernel
theorem dX12_stay_47 : decode cX12_stay 47 = .ok (.getfield 500, 3) := by decide +kernel
theorem dX12_stay_50 : decode cX12_stay 50 = .ok (.iload_n 1, 1) := by decide +kernel
theorem dX12_stay_51 : decode cX12_stay 51 = .ok (.i2l, 1) := by decide +kernel
theorem dX12_stay_52 : decode cX12_stay 52 = .ok (.aload_n 0, 1) := by decide +kernel
theorem dX12_stay_53 : decode cX12_stay 53 = .ok (.getfield 503, 3) := by decide +kernel
theorem dX12_stay_56 : decode cX12_stay 56 = .ok (.lmul, 1) := by decide +kernel
theorem dX12_stay_57 : decode cX12_stay 57 = .ok (.lcmp, 1) := by decide +kernel
theorem dX12_stay_58 : decode cX12_stay 58 = .ok (.ifCond .ge 7, 3) := by decide +kernel
theorem dX12_stay_61 : decode cX12_stay 61 = .ok (.iconst 1, 1) := by decide +kernel
theorem dX12_stay_62 : decode cX12_stay 62 = .ok (.goto 4, 3) := by decide +kernel
theorem dX12_stay_65 : decode cX12_stay 65 = .ok (.iconst 0, 1) := by decide +kernel
theorem dX12_stay_66 : decode cX12_stay 66 = .ok (.ireturn, 1) := by decide +kernel
theorem dX12_plays_0 : decode cX12_plays 0 = .ok (.iload_n 3, 1) := by decide +kernel
theorem dX12_plays_1 : decode cX12_plays 1 = .ok (.iload 4, 2) := by decide +kernel
theorem dX12_plays_3 : decode cX12_plays 3 = .ok (.if_icmp .ne 15, 3) := by decide +kernel
theorem dX12_plays_6 : decode cX12_plays 6 = .ok (.aload_n 0, 1) := by decide +kernel
theorem dX12_plays_7 : decode cX12_plays 7 = .ok (.iload_n 2, 1) := by decide +kernel
theorem dX12_plays_8 : decode cX12_plays 8 = .ok (.invokevirtual 340, 3) := by decide +kernel
theorem dX12_plays_11 : decode cX12_plays 11 = .ok (.aload_n 0, 1) := by decide +kernel
theorem dX12_plays_12 : decode cX12_plays 12 = .ok (.iload_n 1, 1) := by decide +kernel
theorem dX12_plays_13 : decode cX12_plays 13 = .ok (.invokevirtual 340, 3) := by decide +kernel
theorem dX12_plays_16 : decode cX12_plays 16 = .ok (.isub, 1) := by decide +kernel
theorem dX12_plays_17 : decode cX12_plays 17 = .ok (.ireturn, 1) := by decide +kernel
theorem dX12_plays_18 : decode cX12_plays 18 = .ok (.iload_n 3, 1) := by decide +kernel
theorem dX12_plays_19 : decode cX12_plays 19 = .ok (.iconst 2, 1) := by decide +kernel
theorem dX12_plays_20 : decode cX12_plays 20 = .ok (.irem, 1) := by decide +kernel
theorem dX12_plays_21 : decode cX12_plays 21 = .ok (.ifCond .ne 7, 3) := by decide +kernel
theorem dX12_plays_24 : decode cX12_plays 24 = .ok (.iconst 1, 1) := by decide +kernel
theorem dX12_plays_25 : decode cX12_plays 25 = .ok (.goto 4, 3) := by decide +kernel
theorem dX12_plays_28 : decode cX12_plays 28 = .ok (.iconst 0, 1) := by decide +kernel
theorem dX12_plays_29 : decode cX12_plays 29 = .ok (.istore 5, 2) := by decide +kernel
theorem dX12_plays_31 : decode cX12_plays 31 = .ok (.iconst 0, 1) := by decide +kernel
theorem dX12_plays_32 : decode cX12_plays 32 = .ok (.istore 6, 2) := by decide +kernel
theorem dX12_plays_34 : decode cX12_plays 34 = .ok (.iconst (-1), 1) := by decide +kernel
theorem dX12_plays_35 : decode cX12_plays 35 = .ok (.istore 7, 2) := by decide +kernel
theorem dX12_plays_37 : decode cX12_plays 37 = .ok (.iconst 0, 1) := by decide +kernel
theorem dX12_plays_38 : decode cX12_plays 38 = .ok (.istore 8, 2) := by decide +kernel
theorem dX12_plays_40 : decode cX12_plays 40 = .ok (.iload 8, 2) := by decide +kernel
theorem dX12_plays_42 : decode cX12_plays 42 = .ok (.aload_n 0, 1) := by decide +kernel
theorem dX12_plays_43 : decode cX12_plays 43 = .ok (.getfield 35, 3) := by decide +kernel
theorem dX12_plays_46 : decode cX12_plays 46 = .ok (.iconst 3, 1) := by decide +kernel
theorem dX12_plays_47 : decode cX12_plays 47 = .ok (.iaload, 1) := by decide +kernel
theorem dX12_plays_48 : decode cX12_plays 48 = .ok (.if_icmp .gt 156, 3) := by decide +kernel
theorem dX12_plays_51 : decode cX12_plays 51 = .ok (.iload 8, 2) := by decide +kernel
theorem dX12_plays_53 : decode cX12_plays 53 = .ok (.aload_n 0, 1) := by decide +kernel
theorem dX12_plays_54 : decode cX12_plays 54 = .ok (.getfield 35, 3) := by decide +kernel
theorem dX12_plays_57 : decode cX12_plays 57 = .ok (.iconst 3, 1) := by decide +kernel
theorem dX12_plays_58 : decode cX12_plays 58 = .ok (.iaload, 1) := by decide +kernel
theorem dX12_plays_59 : decode cX12_plays 59 = .ok (.if_icmp .ne 7, 3) := by decide +kernel
theorem dX12_plays_62 : decode cX12_plays 62 = .ok (.iconst 1, 1) := by decide +kernel
theorem dX12_plays_63 : decode cX12_plays 63 = .ok (.goto 4, 3) := by decide +kernel
theorem dX12_plays_66 : decode cX12_plays 66 = .ok (.iconst 0, 1) := by decide +kernel
theorem dX12_plays_67 : decode cX12_plays 67 = .ok (.istore 9, 2) := by decide +kernel
theorem dX12_plays_69 : decode cX12_plays 69 = .ok (.iload 9, 2) := by decide +kernel
theorem dX12_plays_71 : decode cX12_plays 71 = .ok (.ifCond .eq 7, 3) := by decide +kernel
theorem dX12_plays_74 : decode cX12_plays 74 = .ok (.iconst 0, 1) := by decide +kernel
theorem dX12_plays_75 : decode cX12_plays 75 = .ok (.goto 13, 3) := by decide +kernel
theorem dX12_plays_78 : decode cX12_plays 78 = .ok (.aload_n 0, 1) := by decide +kernel
theorem dX12_plays_79 : decode cX12_plays 79 = .ok (.getfield 35, 3) := by decide +kernel
theorem dX12_plays_82 : decode cX12_plays 82 = .ok (.bipush 66, 2) := by decide +kernel
theorem dX12_plays_84 : decode cX12_plays 84 = .ok (.iload 8, 2) := by decide +kernel
theorem dX12_plays_86 : decode cX12_plays 86 = .ok (.iadd, 1) := by decide +kernel
theorem dX12_plays_87 : decode cX12_plays 87 = .ok (.iaload, 1) := by decide +kernel
theorem dX12_plays_88 : decode cX12_plays 88 = .ok (.istore 10, 2) := by decide +kernel
theorem dX12_plays_90 : decode cX12_plays 90 = .ok (.aload_n 0, 1) := by decide +kernel
theorem dX12_plays_91 : decode cX12_plays 91 = .ok (.getfield 35, 3) := by decide +kernel
theorem dX12_plays_94 : decode cX12_plays 94 = .ok (.bipush 6, 2) := by decide +kernel
theorem dX12_plays_96 : decode cX12_plays 96 = .ok (.iload 10, 2) := by decide +kernel
theorem dX12_plays_98 : decode cX12_plays 98 = .ok (.iadd, 1) := by decide +kernel
theorem dX12_plays_99 : decode cX12_plays 99 = .ok (.iaload, 1) := by decide +kernel
theorem dX12_plays_100 : decode cX12_plays 100 = .ok (.istore 11, 2) := by decide +kernel
theorem dX12_plays_102 : decode cX12_plays 102 = .ok (.iload 9, 2) := by decide +kernel
theorem dX12_plays_104 : decode cX12_plays 104 = .ok (.ifCond .ne 15, 3) := by decide +kernel
theorem dX12_plays_107 : decode cX12_plays 107 = .ok (.aload_n 0, 1) := by decide +kernel
theorem dX12_plays_108 : decode cX12_plays 108 = .ok (.iload 8, 2) := by decide +kernel
theorem dX12_plays_110 : decode cX12_plays 110 = .ok (.invokevirtual 400, 3) := by decide +kernel
theorem dX12_plays_113 : decode cX12_plays 113 = .ok (.ifCond .ne 6, 3) := by decide +kernel
theorem dX12_plays_116 : decode cX12_plays 116 = .ok (.goto 82, 3) := by decide +kernel
theorem dX12_plays_119 : decode cX12_plays 119 = .ok (.aload_n 0, 1) := by decide +kernel
theorem dX12_plays_120 : decode cX12_plays 120 = .ok (.iload_n 1, 1) := by decide +kernel
theorem dX12_plays_121 : decode cX12_plays 121 = .ok (.iload_n 2, 1) := by decide +kernel
theorem dX12_plays_122 : decode cX12_plays 122 = .ok (.iload_n 3, 1) := by decide +kernel
theorem dX12_plays_123 : decode cX12_plays 123 = .ok (.iconst 1, 1) := by decide +kernel
theorem dX12_plays_124 : decode cX12_plays 124 = .ok (.iadd, 1) := by decide +kernel
theorem dX12_plays_125 : decode cX12_plays 125 = .ok (.iload 4, 2) := by decide +kernel
theorem dX12_plays_127 : decode cX12_plays 127 = .ok (.invokevirtual 518, 3) := by decide +kernel
theorem dX12_plays_130 : decode cX12_plays 130 = .ok (.istore 12, 2) := by decide +kernel
theorem dX12_plays_132 : decode cX12_plays 132 = .ok (.iload 9, 2) := by decide +kernel
theorem dX12_plays_134 : decode cX12_plays 134 = .ok (.ifCond .ne 14, 3) := by decide +kernel
theorem dX12_plays_137 : decode cX12_plays 137 = .ok (.aload_n 0, 1) := by decide +kernel
theorem dX12_plays_138 : decode cX12_plays 138 = .ok (.getfield 35, 3) := by decide +kernel
theorem dX12_plays_141 : decode cX12_plays 141 = .ok (.bipush 82, 2) := by decide +kernel
theorem dX12_plays_143 : decode cX12_plays 143 = .ok (.iload 8, 2) := by decide +kernel
theorem dX12_plays_145 : decode cX12_plays 145 = .ok (.iadd, 1) := by decide +kernel
theorem dX12_plays_146 : decode cX12_plays 146 = .ok (.iconst 0, 1) := by decide +kernel
theorem dX12_plays_147 : decode cX12_plays 147 = .ok (.iastore, 1) := by decide +kernel
theorem dX12_plays_148 : decode cX12_plays 148 = .ok (.aload_n 0, 1) := by decide +kernel
theorem dX12_plays_149 : decode cX12_plays 149 = .ok (.getfield 35, 3) := by decide +kernel
theorem dX12_plays_152 : decode cX12_plays 152 = .ok (.bipush 6, 2) := by decide +kernel
theorem dX12_plays_154 : decode cX12_plays 154 = .ok (.iload 10, 2) := by decide +kernel
theorem dX12_plays_156 : decode cX12_plays 156 = .ok (.iadd, 1) := by decide +kernel
theorem dX12_plays_157 : decode cX12_plays 157 = .ok (.iload 11, 2) := by decide +kernel
theorem dX12_plays_159 : decode cX12_plays 159 = .ok (.iastore, 1) := by decide +kernel
theorem dX12_plays_160 : decode cX12_plays 160 = .ok (.iload 7, 2) := by decide +kernel
theorem dX12_plays_162 : decode cX12_plays 162 = .ok (.ifCond .lt 28, 3) := by decide +kernel
theorem dX12_plays_165 : decode cX12_plays 165 = .ok (.iload 5, 2) := by decide +kernel
theorem dX12_plays_167 : decode cX12_plays 167 = .ok (.ifCond .eq 13, 3) := by decide +kernel
theorem dX12_plays_170 : decode cX12_plays 170 = .ok (.iload 12, 2) := by decide +kernel
theorem dX12_plays_172 : decode cX12_plays 172 = .ok (.iload 6, 2) := by decide +kernel
theorem dX12_plays_174 : decode cX12_plays 174 = .ok (.if_icmp .gt 16, 3) := by decide +kernel
theorem dX12_plays_177 : decode cX12_plays 177 = .ok (.goto 21, 3) := by decide +kernel
theorem dX12_plays_180 : decode cX12_plays 180 = .ok (.iload 12, 2) := by decide +kernel
theorem dX12_plays_182 : decode cX12_plays 182 = .ok (.iload 6, 2) := by decide +kernel
theorem dX12_plays_184 : decode cX12_plays 184 = .ok (.if_icmp .lt 6, 3) := by decide +kernel
theorem dX12_plays_187 : decode cX12_plays 187 = .ok (.goto 11, 3) := by decide +kernel
theorem dX12_plays_190 : decode cX12_plays 190 = .ok (.iload 12, 2) := by decide +kernel
theorem dX12_plays_192 : decode cX12_plays 192 = .ok (.istore 6, 2) := by decide +kernel
theorem dX12_plays_194 : decode cX12_plays 194 = .ok (.iload 8, 2) := by decide +kernel
theorem dX12_plays_196 : decode cX12_plays 196 = .ok (.istore 7, 2) := by decide +kernel
theorem dX12_plays_198 : decode cX12_plays 198 = .ok (.iinc 8 1, 3) := by decide +kernel
theorem dX12_plays_201 : decode cX12_plays 201 = .ok (.goto (-161), 3) := by decide +kernel
theorem dX12_plays_204 : decode cX12_plays 204 = .ok (.iload_n 3, 1) := by decide +kernel
theorem dX12_plays_205 : decode cX12_plays 205 = .ok (.ifCond .ne 9, 3) := by decide +kernel
theorem dX12_plays_208 : decode cX12_plays 208 = .ok (.aload_n 0, 1) := by decide +kernel
theorem dX12_plays_209 : decode cX12_plays 209 = .ok (.iload 7, 2) := by decide +kernel
theorem dX12_plays_211 : decode cX12_plays 211 = .ok (.putfield 521, 3) := by decide +kernel
theorem dX12_plays_214 : decode cX12_plays 214 = .ok (.iload 6, 2) := by decide +kernel
theorem dX12_plays_216 : decode cX12_plays 216 = .ok (.ireturn, 1) := by decide +kernel
theorem dX12_whyNoGame_0 : decode cX12_whyNoGame 0 = .ok (.aload_n 0, 1) := by decide +kernel
theorem dX12_whyNoGame_1 : decode cX12_whyNoGame 1 = .ok (.iload_n 1, 1) := by decide +kernel
theorem dX12_whyNoGame_2 : decode cX12_whyNoGame 2 = .ok (.invokevirtual 371, 3) := by decide +kernel
theorem dX12_whyNoGame_5 : decode cX12_whyNoGame 5 = .ok (.ifCond .eq 11, 3) := by decide +kernel
theorem dX12_whyNoGame_8 : decode cX12_whyNoGame 8 = .ok (.aload_n 0, 1) := by decide +kernel
theorem dX12_whyNoGame_9 : decode cX12_whyNoGame 9 = .ok (.iload_n 2, 1) := by decide +kernel
theorem dX12_whyNoGame_10 : decode cX12_whyNoGame 10 = .ok (.invokevirtual 371, 3) := by decide +kernel
theorem dX12_whyNoGame_13 : decode cX12_whyNoGame 13 = .ok (.ifCond .ne 5, 3) := by decide +kernel
theorem dX12_whyNoGame_16 : decode cX12_whyNoGame 16 = .ok (.iconst 2, 1) := by decide +kernel
theorem dX12_whyNoGame_17 : decode cX12_whyNoGame 17 = .ok (.ireturn, 1) := by decide +kernel
theorem dX12_whyNoGame_18 : decode cX12_whyNoGame 18 = .ok (.iload_n 1, 1) := by decide +kernel
theorem dX12_whyNoGame_19 : decode cX12_whyNoGame 19 = .ok (.iload_n 2, 1) := by decide +kernel
theorem dX12_whyNoGame_20 : decode cX12_whyNoGame 20 = .ok (.if_icmp .eq 21, 3) := by decide +kernel
theorem dX12_whyNoGame_23 : decode cX12_whyNoGame 23 = .ok (.iload_n 3, 1) := by decide +kernel
theorem dX12_whyNoGame_24 : decode cX12_whyNoGame 24 = .ok (.i2l, 1) := by decide +kernel
theorem dX12_whyNoGame_25 : decode cX12_whyNoGame 25 = .ok (.iload 4, 2) := by decide +kernel
theorem dX12_whyNoGame_27 : decode cX12_whyNoGame 27 = .ok (.i2l, 1) := by decide +kernel
theorem dX12_whyNoGame_28 : decode cX12_whyNoGame 28 = .ok (.ldc2_w 360, 3) := by decide +kernel
theorem dX12_whyNoGame_31 : decode cX12_whyNoGame 31 = .ok (.invokestatic 104, 3) := by decide +kernel
theorem dX12_whyNoGame_34 : decode cX12_whyNoGame 34 = .ok (.ifCond .eq 7, 3) := by decide +kernel
theorem dX12_whyNoGame_37 : decode cX12_whyNoGame 37 = .ok (.iconst 0, 1) := by decide +kernel
theorem dX12_whyNoGame_38 : decode cX12_whyNoGame 38 = .ok (.goto 4, 3) := by decide +kernel
theorem dX12_whyNoGame_41 : decode cX12_whyNoGame 41 = .ok (.iconst 5, 1) := by decide +kernel
theorem dX12_whyNoGame_42 : decode cX12_whyNoGame 42 = .ok (.ireturn, 1) := by decide +kernel
theorem dX12_game_0 : decode cX12_game 0 = .ok (.aload_n 0, 1) := by decide +kernel
theorem dX12_game_1 : decode cX12_game 1 = .ok (.iconst 0, 1) := by decide +kernel
theorem dX12_game_2 : decode cX12_game 2 = .ok (.putfield 69, 3) := by decide +kernel
theorem dX12_game_5 : decode cX12_game 5 = .ok (.aload_n 0, 1) := by decide +kernel
theorem dX12_game_6 : decode cX12_game 6 = .ok (.aload_n 0, 1) := by decide +kernel
theorem dX12_game_7 : decode cX12_game 7 = .ok (.iload_n 1, 1) := by decide +kernel
theorem dX12_game_8 : decode cX12_game 8 = .ok (.iload_n 2, 1) := by decide +kernel
theorem dX12_game_9 : decode cX12_game 9 = .ok (.iload_n 3, 1) := by decide +kernel
theorem dX12_game_10 : decode cX12_game 10 = .ok (.iconst 0, 1) := by decide +kernel
theorem dX12_game_11 : decode cX12_game 11 = .ok (.invokevirtual 524, 3) := by decide +kernel
theorem dX12_game_14 : decode cX12_game 14 = .ok (.putfield 72, 3) := by decide +kernel
theorem dX12_game_17 : decode cX12_game 17 = .ok (.aload_n 0, 1) := by decide +kernel
theorem dX12_game_18 : decode cX12_game 18 = .ok (.getfield 72, 3) := by decide +kernel
theorem dX12_game_21 : decode cX12_game 21 = .ok (.ifCond .le 7, 3) := by decide +kernel
theorem dX12_game_24 : decode cX12_game 24 = .ok (.iconst (-1), 1) := by decide +kernel
theorem dX12_game_25 : decode cX12_game 25 = .ok (.goto 11, 3) := by decide +kernel
theorem dX12_game_28 : decode cX12_game 28 = .ok (.aload_n 0, 1) := by decide +kernel
theorem dX12_game_29 : decode cX12_game 29 = .ok (.iload_n 1, 1) := by decide +kernel
theorem dX12_game_30 : decode cX12_game 30 = .ok (.iload_n 2, 1) := by decide +kernel
theorem dX12_game_31 : decode cX12_game 31 = .ok (.iconst 0, 1) := by decide +kernel
theorem dX12_game_32 : decode cX12_game 32 = .ok (.iload_n 3, 1) := by decide +kernel
theorem dX12_game_33 : decode cX12_game 33 = .ok (.invokevirtual 518, 3) := by decide +kernel
theorem dX12_game_36 : decode cX12_game 36 = .ok (.ireturn, 1) := by decide +kernel
theorem dX12_moveOf_0 : decode cX12_moveOf 0 = .ok (.aload_n 0, 1) := by decide +kernel
theorem dX12_moveOf_1 : decode cX12_moveOf 1 = .ok (.iconst 0, 1) := by decide +kernel
theorem dX12_moveOf_2 : decode cX12_moveOf 2 = .ok (.putfield 69, 3) := by decide +kernel
theorem dX12_moveOf_5 : decode cX12_moveOf 5 = .ok (.aload_n 0, 1) := by decide +kernel
theorem dX12_moveOf_6 : decode cX12_moveOf 6 = .ok (.aload_n 0, 1) := by decide +kernel
theorem dX12_moveOf_7 : decode cX12_moveOf 7 = .ok (.iload_n 1, 1) := by decide +kernel
theorem dX12_moveOf_8 : decode cX12_moveOf 8 = .ok (.iload_n 2, 1) := by decide +kernel
theorem dX12_moveOf_9 : decode cX12_moveOf 9 = .ok (.iload_n 3, 1) := by decide +kernel
theorem dX12_moveOf_10 : decode cX12_moveOf 10 = .ok (.iconst 1, 1) := by decide +kernel
theorem dX12_moveOf_11 : decode cX12_moveOf 11 = .ok (.invokevirtual 524, 3) := by decide +kernel
theorem dX12_moveOf_14 : decode cX12_moveOf 14 = .ok (.putfield 72, 3) := by decide +kernel
theorem dX12_moveOf_17 : decode cX12_moveOf 17 = .ok (.aload_n 0, 1) := by decide +kernel
theorem dX12_moveOf_18 : decode cX12_moveOf 18 = .ok (.getfield 72, 3) := by decide +kernel
theorem dX12_moveOf_21 : decode cX12_moveOf 21 = .ok (.ifCond .le 5, 3) := by decide +kernel
theorem dX12_moveOf_24 : decode cX12_moveOf 24 = .ok (.iconst (-1), 1) := by decide +kernel
theorem dX12_moveOf_25 : decode cX12_moveOf 25 = .ok (.ireturn, 1) := by decide +kernel
theorem dX12_moveOf_26 : decode cX12_moveOf 26 = .ok (.aload_n 0, 1) := by decide +kernel
theorem dX12_moveOf_27 : decode cX12_moveOf 27 = .ok (.iload_n 1, 1) := by decide +kernel
theorem dX12_moveOf_28 : decode cX12_moveOf 28 = .ok (.iload_n 2, 1) := by decide +kernel
theorem dX12_moveOf_29 : decode cX12_moveOf 29 = .ok (.iconst 0, 1) := by decide +kernel
theorem dX12_moveOf_30 : decode cX12_moveOf 30 = .ok (.iload_n 3, 1) := by decide +kernel
theorem dX12_moveOf_31 : decode cX12_moveOf 31 = .ok (.invokevirtual 518, 3) := by decide +kernel
theorem dX12_moveOf_34 : decode cX12_moveOf 34 = .ok (.pop, 1) := by decide +kernel
theorem dX12_moveOf_35 : decode cX12_moveOf 35 = .ok (.aload_n 0, 1) := by decide +kernel
theorem dX12_moveOf_36 : decode cX12_moveOf 36 = .ok (.getfield 521, 3) := by decide +kernel
theorem dX12_moveOf_39 : decode cX12_moveOf 39 = .ok (.aload_n 0, 1) := by decide +kernel
theorem dX12_moveOf_40 : decode cX12_moveOf 40 = .ok (.getfield 35, 3) := by decide +kernel
theorem dX12_moveOf_43 : decode cX12_moveOf 43 = .ok (.iconst 3, 1) := by decide +kernel
theorem dX12_moveOf_44 : decode cX12_moveOf 44 = .ok (.iaload, 1) := by decide +kernel
theorem dX12_moveOf_45 : decode cX12_moveOf 45 = .ok (.if_icmp .ne 12, 3) := by decide +kernel
theorem dX12_moveOf_48 : decode cX12_moveOf 48 = .ok (.aload_n 0, 1) := by decide +kernel
theorem dX12_moveOf_49 : decode cX12_moveOf 49 = .ok (.bipush 8, 2) := by decide +kernel
theorem dX12_moveOf_51 : decode cX12_moveOf 51 = .ok (.invokevirtual 345, 3) := by decide +kernel
theorem dX12_moveOf_54 : decode cX12_moveOf 54 = .ok (.goto 7, 3) := by decide +kernel
theorem dX12_moveOf_57 : decode cX12_moveOf 57 = .ok (.aload_n 0, 1) := by decide +kernel
theorem dX12_moveOf_58 : decode cX12_moveOf 58 = .ok (.getfield 521, 3) := by decide +kernel
theorem dX12_moveOf_61 : decode cX12_moveOf 61 = .ok (.ireturn, 1) := by decide +kernel
theorem dX12_lasts_0 : decode cX12_lasts 0 = .ok (.aload_n 0, 1) := by decide +kernel
theorem dX12_lasts_1 : decode cX12_lasts 1 = .ok (.iconst 0, 1) := by decide +kernel
theorem dX12_lasts_2 : decode cX12_lasts 2 = .ok (.putfield 69, 3) := by decide +kernel
theorem dX12_lasts_5 : decode cX12_lasts 5 = .ok (.aload_n 0, 1) := by decide +kernel
theorem dX12_lasts_6 : decode cX12_lasts 6 = .ok (.iconst 0, 1) := by decide +kernel
theorem dX12_lasts_7 : decode cX12_lasts 7 = .ok (.putfield 72, 3) := by decide +kernel
theorem dX12_lasts_10 : decode cX12_lasts 10 = .ok (.iload_n 1, 1) := by decide +kernel
theorem dX12_lasts_11 : decode cX12_lasts 11 = .ok (.i2l, 1) := by decide +kernel
theorem dX12_lasts_12 : decode cX12_lasts 12 = .ok (.lconst 0, 1) := by decide +kernel
theorem dX12_lasts_13 : decode cX12_lasts 13 = .ok (.ldc2_w 527, 3) := by decide +kernel
theorem dX12_lasts_16 : decode cX12_lasts 16 = .ok (.invokestatic 104, 3) := by decide +kernel
theorem dX12_lasts_19 : decode cX12_lasts 19 = .ok (.ifCond .ne 9, 3) := by decide +kernel
theorem dX12_lasts_22 : decode cX12_lasts 22 = .ok (.aload_n 0, 1) := by decide +kernel
theorem dX12_lasts_23 : decode cX12_lasts 23 = .ok (.iconst 5, 1) := by decide +kernel
theorem dX12_lasts_24 : decode cX12_lasts 24 = .ok (.invokevirtual 84, 3) := by decide +kernel
theorem dX12_lasts_27 : decode cX12_lasts 27 = .ok (.ireturn, 1) := by decide +kernel
theorem dX12_lasts_28 : decode cX12_lasts 28 = .ok (.lconst 1, 1) := by decide +kernel
theorem dX12_lasts_29 : decode cX12_lasts 29 = .ok (.lstore_n 2, 1) := by decide +kernel
theorem dX12_lasts_30 : decode cX12_lasts 30 = .ok (.lconst 1, 1) := by decide +kernel
theorem dX12_lasts_31 : decode cX12_lasts 31 = .ok (.lstore 4, 2) := by decide +kernel
theorem dX12_lasts_33 : decode cX12_lasts 33 = .ok (.iconst 0, 1) := by decide +kernel
theorem dX12_lasts_34 : decode cX12_lasts 34 = .ok (.istore 6, 2) := by decide +kernel
theorem dX12_lasts_36 : decode cX12_lasts 36 = .ok (.iload 6, 2) := by decide +kernel
theorem dX12_lasts_38 : decode cX12_lasts 38 = .ok (.iload_n 1, 1) := by decide +kernel
theorem dX12_lasts_39 : decode cX12_lasts 39 = .ok (.if_icmp .ge 30, 3) := by decide +kernel
theorem dX12_lasts_42 : decode cX12_lasts 42 = .ok (.lload_n 2, 1) := by decide +kernel
theorem dX12_lasts_43 : decode cX12_lasts 43 = .ok (.bipush 16, 2) := by decide +kernel
theorem dX12_lasts_45 : decode cX12_lasts 45 = .ok (.aload_n 0, 1) := by decide +kernel
theorem dX12_lasts_46 : decode cX12_lasts 46 = .ok (.getfield 35, 3) := by decide +kernel
theorem dX12_lasts_49 : decode cX12_lasts 49 = .ok (.iconst 4, 1) := by decide +kernel
theorem dX12_lasts_50 : decode cX12_lasts 50 = .ok (.iaload, 1) := by decide +kernel
theorem dX12_lasts_51 : decode cX12_lasts 51 = .ok (.isub, 1) := by decide +kernel
theorem dX12_lasts_52 : decode cX12_lasts 52 = .ok (.i2l, 1) := by decide +kernel
theorem dX12_lasts_53 : decode cX12_lasts 53 = .ok (.lmul, 1) := by decide +kernel
theorem dX12_lasts_54 : decode cX12_lasts 54 = .ok (.lstore_n 2, 1) := by decide +kernel
theorem dX12_lasts_55 : decode cX12_lasts 55 = .ok (.lload 4, 2) := by decide +kernel
theorem dX12_lasts_57 : decode cX12_lasts 57 = .ok (.ldc2_w 415, 3) := by decide +kernel
theorem dX12_lasts_60 : decode cX12_lasts 60 = .ok (.lmul, 1) := by decide +kernel
theorem dX12_lasts_61 : decode cX12_lasts 61 = .ok (.lstore 4, 2) := by decide +kernel
theorem dX12_lasts_63 : decode cX12_lasts 63 = .ok (.iinc 6 1, 3) := by decide +kernel
theorem dX12_lasts_66 : decode cX12_lasts 66 = .ok (.goto (-30), 3) := by decide +kernel
theorem dX12_lasts_69 : decode cX12_lasts 69 = .ok (.aload_n 0, 1) := by decide +kernel
theorem dX12_lasts_70 : decode cX12_lasts 70 = .ok (.lload_n 2, 1) := by decide +kernel
theorem dX12_lasts_71 : decode cX12_lasts 71 = .ok (.lload 4, 2) := by decide +kernel
theorem dX12_lasts_73 : decode cX12_lasts 73 = .ok (.invokevirtual 514, 3) := by decide +kernel
theorem dX12_lasts_76 : decode cX12_lasts 76 = .ok (.ireturn, 1) := by decide +kernel
theorem dX12_heights_0 : decode cX12_heights 0 = .ok (.iconst 0, 1) := by decide +kernel
theorem dX12_heights_1 : decode cX12_heights 1 = .ok (.istore_n 1, 1) := by decide +kernel
theorem dX12_heights_2 : decode cX12_heights 2 = .ok (.iconst 0, 1) := by decide +kernel
theorem dX12_heights_3 : decode cX12_heights 3 = .ok (.istore_n 2, 1) := by decide +kernel
theorem dX12_heights_4 : decode cX12_heights 4 = .ok (.iload_n 2, 1) := by decide +kernel
theorem dX12_heights_5 : decode cX12_heights 5 = .ok (.aload_n 0, 1) := by decide +kernel
theorem dX12_heights_6 : decode cX12_heights 6 = .ok (.getfield 35, 3) := by decide +kernel
theorem dX12_heights_9 : decode cX12_heights 9 = .ok (.iconst 2, 1) := by decide +kernel
theorem dX12_heights_10 : decode cX12_heights 10 = .ok (.iaload, 1) := by decide +kernel
theorem dX12_heights_11 : decode cX12_heights 11 = .ok (.if_icmp .ge 17, 3) := by decide +kernel
theorem dX12_heights_14 : decode cX12_heights 14 = .ok (.iload_n 1, 1) := by decide +kernel
theorem dX12_heights_15 : decode cX12_heights 15 = .ok (.aload_n 0, 1) := by decide +kernel
theorem dX12_heights_16 : decode cX12_heights 16 = .ok (.iload_n 2, 1) := by decide +kernel
theorem dX12_heights_17 : decode cX12_heights 17 = .ok (.invokevirtual 340, 3) := by decide +kernel
theorem dX12_heights_20 : decode cX12_heights 20 = .ok (.iadd, 1) := by decide +kernel
theorem dX12_heights_21 : decode cX12_heights 21 = .ok (.istore_n 1, 1) := by decide +kernel
theorem dX12_heights_22 : decode cX12_heights 22 = .ok (.iinc 2 1, 3) := by decide +kernel
theorem dX12_heights_25 : decode cX12_heights 25 = .ok (.goto (-21), 3) := by decide +kernel
theorem dX12_heights_28 : decode cX12_heights 28 = .ok (.iload_n 1, 1) := by decide +kernel
theorem dX12_heights_29 : decode cX12_heights 29 = .ok (.ireturn, 1) := by decide +kernel
theorem dX12_share_0 : decode cX12_share 0 = .ok (.aload_n 0, 1) := by decide +kernel
theorem dX12_share_1 : decode cX12_share 1 = .ok (.iconst 0, 1) := by decide +kernel
theorem dX12_share_2 : decode cX12_share 2 = .ok (.putfield 69, 3) := by decide +kernel
theorem dX12_share_5 : decode cX12_share 5 = .ok (.aload_n 0, 1) := by decide +kernel
theorem dX12_share_6 : decode cX12_share 6 = .ok (.iconst 0, 1) := by decide +kernel
theorem dX12_share_7 : decode cX12_share 7 = .ok (.putfield 72, 3) := by decide +kernel
theorem dX12_share_10 : decode cX12_share 10 = .ok (.aload_n 0, 1) := by decide +kernel
theorem dX12_share_11 : decode cX12_share 11 = .ok (.iload_n 1, 1) := by decide +kernel
theorem dX12_share_12 : decode cX12_share 12 = .ok (.invokevirtual 371, 3) := by decide +kernel
theorem dX12_share_15 : decode cX12_share 15 = .ok (.ifCond .ne 9, 3) := by decide +kernel
theorem dX12_share_18 : decode cX12_share 18 = .ok (.aload_n 0, 1) := by decide +kernel
theorem dX12_share_19 : decode cX12_share 19 = .ok (.iconst 2, 1) := by decide +kernel
theorem dX12_share_20 : decode cX12_share 20 = .ok (.invokevirtual 84, 3) := by decide +kernel
theorem dX12_share_23 : decode cX12_share 23 = .ok (.ireturn, 1) := by decide +kernel
theorem dX12_share_24 : decode cX12_share 24 = .ok (.aload_n 0, 1) := by decide +kernel
theorem dX12_share_25 : decode cX12_share 25 = .ok (.invokevirtual 529, 3) := by decide +kernel
theorem dX12_share_28 : decode cX12_share 28 = .ok (.istore_n 2, 1) := by decide +kernel
theorem dX12_share_29 : decode cX12_share 29 = .ok (.iload_n 2, 1) := by decide +kernel
theorem dX12_share_30 : decode cX12_share 30 = .ok (.ifCond .ne 12, 3) := by decide +kernel
theorem dX12_share_33 : decode cX12_share 33 = .ok (.aload_n 0, 1) := by decide +kernel
theorem dX12_share_34 : decode cX12_share 34 = .ok (.bipush 8, 2) := by decide +kernel
theorem dX12_share_36 : decode cX12_share 36 = .ok (.invokevirtual 84, 3) := by decide +kernel
theorem dX12_share_39 : decode cX12_share 39 = .ok (.goto 15, 3) := by decide +kernel
theorem dX12_share_42 : decode cX12_share 42 = .ok (.aload_n 0, 1) := by decide +kernel
theorem dX12_share_43 : decode cX12_share 43 = .ok (.aload_n 0, 1) := by decide +kernel
theorem dX12_share_44 : decode cX12_share 44 = .ok (.iload_n 1, 1) := by decide +kernel
theorem dX12_share_45 : decode cX12_share 45 = .ok (.invokevirtual 340, 3) := by decide +kernel
theorem dX12_share_48 : decode cX12_share 48 = .ok (.i2l, 1) := by decide +kernel
theorem dX12_share_49 : decode cX12_share 49 = .ok (.iload_n 2, 1) := by decide +kernel
theorem dX12_share_50 : decode cX12_share 50 = .ok (.i2l, 1) := by decide +kernel
theorem dX12_share_51 : decode cX12_share 51 = .ok (.invokevirtual 514, 3) := by decide +kernel
theorem dX12_share_54 : decode cX12_share 54 = .ok (.ireturn, 1) := by decide +kernel
theorem dX12_draw_0 : decode cX12_draw 0 = .ok (.aload_n 0, 1) := by decide +kernel
theorem dX12_draw_1 : decode cX12_draw 1 = .ok (.aload_n 0, 1) := by decide +kernel
theorem dX12_draw_2 : decode cX12_draw 2 = .ok (.getfield 532, 3) := by decide +kernel
theorem dX12_draw_5 : decode cX12_draw 5 = .ok (.sipush 2971, 3) := by decide +kernel
theorem dX12_draw_8 : decode cX12_draw 8 = .ok (.imul, 1) := by decide +kernel
theorem dX12_draw_9 : decode cX12_draw 9 = .ok (.sipush 10973, 3) := by decide +kernel
theorem dX12_draw_12 : decode cX12_draw 12 = .ok (.iadd, 1) := by decide +kernel
theorem dX12_draw_13 : decode cX12_draw 13 = .ok (.ldc_w 535, 3) := by decide +kernel
theorem dX12_draw_16 : decode cX12_draw 16 = .ok (.irem, 1) := by decide +kernel
theorem dX12_draw_17 : decode cX12_draw 17 = .ok (.putfield 532, 3) := by decide +kernel
theorem dX12_draw_20 : decode cX12_draw 20 = .ok (.aload_n 0, 1) := by decide +kernel
theorem dX12_draw_21 : decode cX12_draw 21 = .ok (.getfield 532, 3) := by decide +kernel
theorem dX12_draw_24 : decode cX12_draw 24 = .ok (.bipush 8, 2) := by decide +kernel
theorem dX12_draw_26 : decode cX12_draw 26 = .ok (.idiv, 1) := by decide +kernel
theorem dX12_draw_27 : decode cX12_draw 27 = .ok (.iload_n 1, 1) := by decide +kernel
theorem dX12_draw_28 : decode cX12_draw 28 = .ok (.irem, 1) := by decide +kernel
theorem dX12_draw_29 : decode cX12_draw 29 = .ok (.ireturn, 1) := by decide +kernel
theorem dX12_anyDays_0 : decode cX12_anyDays 0 = .ok (.aload_n 0, 1) := by decide +kernel
theorem dX12_anyDays_1 : decode cX12_anyDays 1 = .ok (.getfield 35, 3) := by decide +kernel
theorem dX12_anyDays_4 : decode cX12_anyDays 4 = .ok (.iconst 5, 1) := by decide +kernel
theorem dX12_anyDays_5 : decode cX12_anyDays 5 = .ok (.iaload, 1) := by decide +kernel
theorem dX12_anyDays_6 : decode cX12_anyDays 6 = .ok (.iload_n 1, 1) := by decide +kernel
theorem dX12_anyDays_7 : decode cX12_anyDays 7 = .ok (.iadd, 1) := by decide +kernel
theorem dX12_anyDays_8 : decode cX12_anyDays 8 = .ok (.sipush 9999, 3) := by decide +kernel
theorem dX12_anyDays_11 : decode cX12_anyDays 11 = .ok (.if_icmp .le 5, 3) := by decide +kernel
theorem dX12_anyDays_14 : decode cX12_anyDays 14 = .ok (.iconst 0, 1) := by decide +kernel
theorem dX12_anyDays_15 : decode cX12_anyDays 15 = .ok (.ireturn, 1) := by decide +kernel
theorem dX12_anyDays_16 : decode cX12_anyDays 16 = .ok (.iconst 0, 1) := by decide +kernel
theorem dX12_anyDays_17 : decode cX12_anyDays 17 = .ok (.istore_n 2, 1) := by decide +kernel
theorem dX12_anyDays_18 : decode cX12_anyDays 18 = .ok (.iload_n 2, 1) := by decide +kernel
theorem dX12_anyDays_19 : decode cX12_anyDays 19 = .ok (.iload_n 1, 1) := by decide +kernel
theorem dX12_anyDays_20 : decode cX12_anyDays 20 = .ok (.if_icmp .ge 13, 3) := by decide +kernel
theorem dX12_anyDays_23 : decode cX12_anyDays 23 = .ok (.aload_n 0, 1) := by decide +kernel
theorem dX12_anyDays_24 : decode cX12_anyDays 24 = .ok (.invokevirtual 394, 3) := by decide +kernel
theorem dX12_anyDays_27 : decode cX12_anyDays 27 = .ok (.iinc 2 1, 3) := by decide +kernel
theorem dX12_anyDays_30 : decode cX12_anyDays 30 = .ok (.goto (-12), 3) := by decide +kernel
theorem dX12_anyDays_33 : decode cX12_anyDays 33 = .ok (.iconst 1, 1) := by decide +kernel
theorem dX12_anyDays_34 : decode cX12_anyDays 34 = .ok (.ireturn, 1) := by decide +kernel
theorem dX12_isBrought_0 : decode cX12_isBrought 0 = .ok (.aload_n 0, 1) := by decide +kernel
theorem dX12_isBrought_1 : decode cX12_isBrought 1 = .ok (.iload_n 1, 1) := by decide +kernel
theorem dX12_isBrought_2 : decode cX12_isBrought 2 = .ok (.invokevirtual 400, 3) := by decide +kernel
theorem dX12_isBrought_5 : decode cX12_isBrought 5 = .ok (.istore_n 2, 1) := by decide +kernel
theorem dX12_isBrought_6 : decode cX12_isBrought 6 = .ok (.aload_n 0, 1) := by decide +kernel
theorem dX12_isBrought_7 : decode cX12_isBrought 7 = .ok (.dup, 1) := by decide +kernel
theorem dX12_isBrought_8 : decode cX12_isBrought 8 = .ok (.getfield 536, 3) := by decide +kernel
theorem dX12_isBrought_11 : decode cX12_isBrought 11 = .ok (.iload_n 2, 1) := by decide +kernel
theorem dX12_isBrought_12 : decode cX12_isBrought 12 = .ok (.ifCond .eq 7, 3) := by decide +kernel
theorem dX12_isBrought_15 : decode cX12_isBrought 15 = .ok (.iconst 1, 1) := by decide +kernel
theorem dX12_isBrought_16 : decode cX12_isBrought 16 = .ok (.goto 4, 3) := by decide +kernel
theorem dX12_isBrought_19 : decode cX12_isBrought 19 = .ok (.iconst 0, 1) := by decide +kernel
theorem dX12_isBrought_20 : decode cX12_isBrought 20 = .ok (.iadd, 1) := by decide +kernel
theorem dX12_isBrought_21 : decode cX12_isBrought 21 = .ok (.putfield 536, 3) := by decide +kernel
theorem dX12_isBrought_24 : decode cX12_isBrought 24 = .ok (.iload_n 2, 1) := by decide +kernel
theorem dX12_isBrought_25 : decode cX12_isBrought 25 = .ok (.ireturn, 1) := by decide +kernel
theorem dX12_isClouded_0 : decode cX12_isClouded 0 = .ok (.aload_n 0, 1) := by decide +kernel
theorem dX12_isClouded_1 : decode cX12_isClouded 1 = .ok (.iload_n 1, 1) := by decide +kernel
theorem dX12_isClouded_2 : decode cX12_isClouded 2 = .ok (.iload_n 2, 1) := by decide +kernel
theorem dX12_isClouded_3 : decode cX12_isClouded 3 = .ok (.invokevirtual 403, 3) := by decide +kernel
theorem dX12_isClouded_6 : decode cX12_isClouded 6 = .ok (.istore_n 3, 1) := by decide +kernel
theorem dX12_isClouded_7 : decode cX12_isClouded 7 = .ok (.aload_n 0, 1) := by decide +kernel
theorem dX12_isClouded_8 : decode cX12_isClouded 8 = .ok (.dup, 1) := by decide +kernel
theorem dX12_isClouded_9 : decode cX12_isClouded 9 = .ok (.getfield 539, 3) := by decide +kernel
theorem dX12_isClouded_12 : decode cX12_isClouded 12 = .ok (.iload_n 3, 1) := by decide +kernel
theorem dX12_isClouded_13 : decode cX12_isClouded 13 = .ok (.ifCond .eq 7, 3) := by decide +kernel
theorem dX12_isClouded_16 : decode cX12_isClouded 16 = .ok (.iconst 1, 1) := by decide +kernel
theorem dX12_isClouded_17 : decode cX12_isClouded 17 = .ok (.goto 4, 3) := by decide +kernel
theorem dX12_isClouded_20 : decode cX12_isClouded 20 = .ok (.iconst 0, 1) := by decide +kernel
theorem dX12_isClouded_21 : decode cX12_isClouded 21 = .ok (.iadd, 1) := by decide +kernel
theorem dX12_isClouded_22 : decode cX12_isClouded 22 = .ok (.putfield 539, 3) := by decide +kernel
theorem dX12_isClouded_25 : decode cX12_isClouded 25 = .ok (.iload_n 3, 1) := by decide +kernel
theorem dX12_isClouded_26 : decode cX12_isClouded 26 = .ok (.ireturn, 1) := by decide +kernel
theorem dX12_isAny_0 : decode cX12_isAny 0 = .ok (.aload_n 0, 1) := by decide +kernel
theorem dX12_isAny_1 : decode cX12_isAny 1 = .ok (.getfield 35, 3) := by decide +kernel
theorem dX12_isAny_4 : decode cX12_isAny 4 = .ok (.iconst 0, 1) := by decide +kernel
theorem dX12_isAny_5 : decode cX12_isAny 5 = .ok (.iaload, 1) := by decide +kernel
theorem dX12_isAny_6 : decode cX12_isAny 6 = .ok (.ifCond .ne 5, 3) := by decide +kernel
theorem dX12_isAny_9 : decode cX12_isAny 9 = .ok (.iconst 0, 1) := by decide +kernel
theorem dX12_isAny_10 : decode cX12_isAny 10 = .ok (.ireturn, 1) := by decide +kernel
theorem dX12_isAny_11 : decode cX12_isAny 11 = .ok (.aload_n 0, 1) := by decide +kernel
theorem dX12_isAny_12 : decode cX12_isAny 12 = .ok (.aload_n 0, 1) := by decide +kernel
theorem dX12_isAny_13 : decode cX12_isAny 13 = .ok (.getfield 35, 3) := by decide +kernel
theorem dX12_isAny_16 : decode cX12_isAny 16 = .ok (.iconst 0, 1) := by decide +kernel
theorem dX12_isAny_17 : decode cX12_isAny 17 = .ok (.iaload, 1) := by decide +kernel
theorem dX12_isAny_18 : decode cX12_isAny 18 = .ok (.invokevirtual 542, 3) := by decide +kernel
theorem dX12_isAny_21 : decode cX12_isAny 21 = .ok (.istore_n 1, 1) := by decide +kernel
theorem dX12_isAny_22 : decode cX12_isAny 22 = .ok (.aload_n 0, 1) := by decide +kernel
theorem dX12_isAny_23 : decode cX12_isAny 23 = .ok (.bipush 16, 2) := by decide +kernel
theorem dX12_isAny_25 : decode cX12_isAny 25 = .ok (.invokevirtual 542, 3) := by decide +kernel
theorem dX12_isAny_28 : decode cX12_isAny 28 = .ok (.aload_n 0, 1) := by decide +kernel
theorem dX12_isAny_29 : decode cX12_isAny 29 = .ok (.getfield 35, 3) := by decide +kernel
theorem dX12_isAny_32 : decode cX12_isAny 32 = .ok (.iconst 4, 1) := by decide +kernel
theorem dX12_isAny_33 : decode cX12_isAny 33 = .ok (.iaload, 1) := by decide +kernel
theorem dX12_isAny_34 : decode cX12_isAny 34 = .ok (.if_icmp .ge 19, 3) := by decide +kernel
theorem dX12_isAny_37 : decode cX12_isAny 37 = .ok (.aload_n 0, 1) := by decide +kernel
theorem dX12_isAny_38 : decode cX12_isAny 38 = .ok (.iload_n 1, 1) := by decide +kernel
theorem dX12_isAny_39 : decode cX12_isAny 39 = .ok (.aload_n 0, 1) := by decide +kernel
theorem dX12_isAny_40 : decode cX12_isAny 40 = .ok (.bipush 50, 2) := by decide +kernel
theorem dX12_isAny_42 : decode cX12_isAny 42 = .ok (.invokevirtual 542, 3) := by decide +kernel
theorem dX12_isAny_45 : decode cX12_isAny 45 = .ok (.iconst 1, 1) := by decide +kernel
theorem dX12_isAny_46 : decode cX12_isAny 46 = .ok (.iadd, 1) := by decide +kernel
theorem dX12_isAny_47 : decode cX12_isAny 47 = .ok (.invokevirtual 545, 3) := by decide +kernel
theorem dX12_isAny_50 : decode cX12_isAny 50 = .ok (.goto 8, 3) := by decide +kernel
theorem dX12_isAny_53 : decode cX12_isAny 53 = .ok (.aload_n 0, 1) := by decide +kernel
theorem dX12_isAny_54 : decode cX12_isAny 54 = .ok (.iconst 1, 1) := by decide +kernel
theorem dX12_isAny_55 : decode cX12_isAny 55 = .ok (.invokevirtual 548, 3) := by decide +kernel
theorem dX12_isAny_58 : decode cX12_isAny 58 = .ok (.ireturn, 1) := by decide +kernel
theorem dX12_does_0 : decode cX12_does 0 = .ok (.aload_n 0, 1) := by decide +kernel
theorem dX12_does_1 : decode cX12_does 1 = .ok (.getfield 35, 3) := by decide +kernel
theorem dX12_does_4 : decode cX12_does 4 = .ok (.iload_n 1, 1) := by decide +kernel
theorem dX12_does_5 : decode cX12_does 5 = .ok (.iaload, 1) := by decide +kernel
theorem dX12_does_6 : decode cX12_does 6 = .ok (.istore_n 2, 1) := by decide +kernel
theorem dX12_does_7 : decode cX12_does 7 = .ok (.aload_n 0, 1) := by decide +kernel
theorem dX12_does_8 : decode cX12_does 8 = .ok (.getfield 35, 3) := by decide +kernel
theorem dX12_does_11 : decode cX12_does 11 = .ok (.iload_n 1, 1) := by decide +kernel
theorem dX12_does_12 : decode cX12_does 12 = .ok (.iconst 1, 1) := by decide +kernel
theorem dX12_does_13 : decode cX12_does 13 = .ok (.iadd, 1) := by decide +kernel
theorem dX12_does_14 : decode cX12_does 14 = .ok (.iaload, 1) := by decide +kernel
theorem dX12_does_15 : decode cX12_does 15 = .ok (.istore_n 3, 1) := by decide +kernel
theorem dX12_does_16 : decode cX12_does 16 = .ok (.iload_n 2, 1) := by decide +kernel
theorem dX12_does_17 : decode cX12_does 17 = .ok (.ifCond .ne 9, 3) := by decide +kernel
theorem dX12_does_20 : decode cX12_does 20 = .ok (.aload_n 0, 1) := by decide +kernel
theorem dX12_does_21 : decode cX12_does 21 = .ok (.iload_n 3, 1) := by decide +kernel
theorem dX12_does_22 : decode cX12_does 22 = .ok (.invokevirtual 548, 3) := by decide +kernel
theorem dX12_does_25 : decode cX12_does 25 = .ok (.ireturn, 1) := by decide +kernel
theorem dX12_does_26 : decode cX12_does 26 = .ok (.iload_n 2, 1) := by decide +kernel
theorem dX12_does_27 : decode cX12_does 27 = .ok (.iconst 1, 1) := by decide +kernel
theorem dX12_does_28 : decode cX12_does 28 = .ok (.if_icmp .ne 9, 3) := by decide +kernel
theorem dX12_does_31 : decode cX12_does 31 = .ok (.aload_n 0, 1) := by decide +kernel
theorem dX12_does_32 : decode cX12_does 32 = .ok (.iload_n 3, 1) := by decide +kernel
theorem dX12_does_33 : decode cX12_does 33 = .ok (.invokevirtual 551, 3) := by decide +kernel
theorem dX12_does_36 : decode cX12_does 36 = .ok (.ireturn, 1) := by decide +kernel
theorem dX12_does_37 : decode cX12_does 37 = .ok (.iload_n 2, 1) := by decide +kernel
theorem dX12_does_38 : decode cX12_does 38 = .ok (.iconst 2, 1) := by decide +kernel
theorem dX12_does_39 : decode cX12_does 39 = .ok (.if_icmp .ne 17, 3) := by decide +kernel
theorem dX12_does_42 : decode cX12_does 42 = .ok (.aload_n 0, 1) := by decide +kernel
theorem dX12_does_43 : decode cX12_does 43 = .ok (.iload_n 3, 1) := by decide +kernel
theorem dX12_does_44 : decode cX12_does 44 = .ok (.aload_n 0, 1) := by decide +kernel
theorem dX12_does_45 : decode cX12_does 45 = .ok (.getfield 35, 3) := by decide +kernel
theorem dX12_does_48 : decode cX12_does 48 = .ok (.iload_n 1, 1) := by decide +kernel
theorem dX12_does_49 : decode cX12_does 49 = .ok (.iconst 2, 1) := by decide +kernel
theorem dX12_does_50 : decode cX12_does 50 = .ok (.iadd, 1) := by decide +kernel
theorem dX12_does_51 : decode cX12_does 51 = .ok (.iaload, 1) := by decide +kernel
theorem dX12_does_52 : decode cX12_does 52 = .ok (.invokevirtual 545, 3) := by decide +kernel
theorem dX12_does_55 : decode cX12_does 55 = .ok (.ireturn, 1) := by decide +kernel
theorem dX12_does_56 : decode cX12_does 56 = .ok (.iload_n 2, 1) := by decide +kernel
theorem dX12_does_57 : decode cX12_does 57 = .ok (.iconst 3, 1) := by decide +kernel
theorem dX12_does_58 : decode cX12_does 58 = .ok (.if_icmp .ne 22, 3) := by decide +kernel
theorem dX12_does_61 : decode cX12_does 61 = .ok (.aload_n 0, 1) := by decide +kernel
theorem dX12_does_62 : decode cX12_does 62 = .ok (.bipush 52, 2) := by decide +kernel
theorem dX12_does_64 : decode cX12_does 64 = .ok (.iload_n 3, 1) := by decide +kernel
theorem dX12_does_65 : decode cX12_does 65 = .ok (.iadd, 1) := by decide +kernel
theorem dX12_does_66 : decode cX12_does 66 = .ok (.aload_n 0, 1) := by decide +kernel
theorem dX12_does_67 : decode cX12_does 67 = .ok (.getfield 35, 3) := by decide +kernel
theorem dX12_does_70 : decode cX12_does 70 = .ok (.iload_n 1, 1) := by decide +kernel
theorem dX12_does_71 : decode cX12_does 71 = .ok (.iconst 2, 1) := by decide +kernel
theorem dX12_does_72 : decode cX12_does 72 = .ok (.iadd, 1) := by decide +kernel
theorem dX12_does_73 : decode cX12_does 73 = .ok (.iaload, 1) := by decide +kernel
theorem dX12_does_74 : decode cX12_does 74 = .ok (.invokevirtual 406, 3) := by decide +kernel
theorem dX12_does_77 : decode cX12_does 77 = .ok (.goto 7, 3) := by decide +kernel
theorem dX12_does_80 : decode cX12_does 80 = .ok (.aload_n 0, 1) := by decide +kernel
theorem dX12_does_81 : decode cX12_does 81 = .ok (.invokevirtual 554, 3) := by decide +kernel
theorem dX12_does_84 : decode cX12_does 84 = .ok (.ireturn, 1) := by decide +kernel
theorem dX12_holds_0 : decode cX12_holds 0 = .ok (.aload_n 0, 1) := by decide +kernel
theorem dX12_holds_1 : decode cX12_holds 1 = .ok (.getfield 35, 3) := by decide +kernel
theorem dX12_holds_4 : decode cX12_holds 4 = .ok (.iload_n 1, 1) := by decide +kernel
theorem dX12_holds_5 : decode cX12_holds 5 = .ok (.iconst 5, 1) := by decide +kernel
theorem dX12_holds_6 : decode cX12_holds 6 = .ok (.iadd, 1) := by decide +kernel
theorem dX12_holds_7 : decode cX12_holds 7 = .ok (.iaload, 1) := by decide +kernel
theorem dX12_holds_8 : decode cX12_holds 8 = .ok (.istore_n 2, 1) := by decide +kernel
theorem dX12_holds_9 : decode cX12_holds 9 = .ok (.aload_n 0, 1) := by decide +kernel
theorem dX12_holds_10 : decode cX12_holds 10 = .ok (.getfield 35, 3) := by decide +kernel
theorem dX12_holds_13 : decode cX12_holds 13 = .ok (.iload_n 1, 1) := by decide +kernel
theorem dX12_holds_14 : decode cX12_holds 14 = .ok (.iconst 1, 1) := by decide +kernel
theorem dX12_holds_15 : decode cX12_holds 15 = .ok (.iadd, 1) := by decide +kernel
theorem dX12_holds_16 : decode cX12_holds 16 = .ok (.iaload, 1) := by decide +kernel
theorem dX12_holds_17 : decode cX12_holds 17 = .ok (.istore_n 3, 1) := by decide +kernel
theorem dX12_holds_18 : decode cX12_holds 18 = .ok (.iload_n 2, 1) := by decide +kernel
theorem dX12_holds_19 : decode cX12_holds 19 = .ok (.iconst 1, 1) := by decide +kernel
theorem dX12_holds_20 : decode cX12_holds 20 = .ok (.if_icmp .ne 9, 3) := by decide +kernel
theorem dX12_holds_23 : decode cX12_holds 23 = .ok (.aload_n 0, 1) := by decide +kernel
theorem dX12_holds_24 : decode cX12_holds 24 = .ok (.iload_n 3, 1) := by decide +kernel
theorem dX12_holds_25 : decode cX12_holds 25 = .ok (.invokevirtual 328, 3) := by decide +kernel
theorem dX12_holds_28 : decode cX12_holds 28 = .ok (.ireturn, 1) := by decide +kernel
theorem dX12_holds_29 : decode cX12_holds 29 = .ok (.aload_n 0, 1) := by decide +kernel
theorem dX12_holds_30 : decode cX12_holds 30 = .ok (.iload_n 3, 1) := by decide +kernel
theorem dX12_holds_31 : decode cX12_holds 31 = .ok (.invokevirtual 340, 3) := by decide +kernel
theorem dX12_holds_34 : decode cX12_holds 34 = .ok (.istore 4, 2) := by decide +kernel
theorem dX12_holds_36 : decode cX12_holds 36 = .ok (.iload_n 2, 1) := by decide +kernel
theorem dX12_holds_37 : decode cX12_holds 37 = .ok (.ifCond .ne 14, 3) := by decide +kernel
theorem dX12_holds_40 : decode cX12_holds 40 = .ok (.iload 4, 2) := by decide +kernel
theorem dX12_holds_42 : decode cX12_holds 42 = .ok (.ifCond .ne 7, 3) := by decide +kernel
theorem dX12_holds_45 : decode cX12_holds 45 = .ok (.iconst 1, 1) := by decide +kernel
theorem dX12_holds_46 : decode cX12_holds 46 = .ok (.goto 4, 3) := by decide +kernel
theorem dX12_holds_49 : decode cX12_holds 49 = .ok (.iconst 0, 1) := by decide +kernel
theorem dX12_holds_50 : decode cX12_holds 50 = .ok (.ireturn, 1) := by decide +kernel
theorem dX12_holds_51 : decode cX12_holds 51 = .ok (.aload_n 0, 1) := by decide +kernel
theorem dX12_holds_52 : decode cX12_holds 52 = .ok (.getfield 35, 3) := by decide +kernel
theorem dX12_holds_55 : decode cX12_holds 55 = .ok (.iload_n 1, 1) := by decide +kernel
theorem dX12_holds_56 : decode cX12_holds 56 = .ok (.bipush 7, 2) := by decide +kernel
theorem dX12_holds_58 : decode cX12_holds 58 = .ok (.iadd, 1) := by decide +kernel
theorem dX12_holds_59 : decode cX12_holds 59 = .ok (.iaload, 1) := by decide +kernel
theorem dX12_holds_60 : decode cX12_holds 60 = .ok (.bipush 60, 2) := by decide +kernel
theorem dX12_holds_62 : decode cX12_holds 62 = .ok (.if_icmp .ne 25, 3) := by decide +kernel
theorem dX12_holds_65 : decode cX12_holds 65 = .ok (.iload 4, 2) := by decide +kernel
theorem dX12_holds_67 : decode cX12_holds 67 = .ok (.aload_n 0, 1) := by decide +kernel
theorem dX12_holds_68 : decode cX12_holds 68 = .ok (.getfield 35, 3) := by decide +kernel
theorem dX12_holds_71 : decode cX12_holds 71 = .ok (.iload_n 1, 1) := by decide +kernel
theorem dX12_holds_72 : decode cX12_holds 72 = .ok (.bipush 6, 2) := by decide +kernel
theorem dX12_holds_74 : decode cX12_holds 74 = .ok (.iadd, 1) := by decide +kernel
theorem dX12_holds_75 : decode cX12_holds 75 = .ok (.iaload, 1) := by decide +kernel
theorem dX12_holds_76 : decode cX12_holds 76 = .ok (.if_icmp .ge 7, 3) := by decide +kernel
theorem dX12_holds_79 : decode cX12_holds 79 = .ok (.iconst 1, 1) := by decide +kernel
theorem dX12_holds_80 : decode cX12_holds 80 = .ok (.goto 62, 3) := by decide +kernel
theorem dX12_holds_83 : decode cX12_holds 83 = .ok (.iconst 0, 1) := by decide +kernel
theorem dX12_holds_84 : decode cX12_holds 84 = .ok (.goto 58, 3) := by decide +kernel
theorem dX12_holds_87 : decode cX12_holds 87 = .ok (.aload_n 0, 1) := by decide +kernel
theorem dX12_holds_88 : decode cX12_holds 88 = .ok (.getfield 35, 3) := by decide +kernel
theorem dX12_holds_91 : decode cX12_holds 91 = .ok (.iload_n 1, 1) := by decide +kernel
theorem dX12_holds_92 : decode cX12_holds 92 = .ok (.bipush 7, 2) := by decide +kernel
theorem dX12_holds_94 : decode cX12_holds 94 = .ok (.iadd, 1) := by decide +kernel
theorem dX12_holds_95 : decode cX12_holds 95 = .ok (.iaload, 1) := by decide +kernel
theorem dX12_holds_96 : decode cX12_holds 96 = .ok (.bipush 62, 2) := by decide +kernel
theorem dX12_holds_98 : decode cX12_holds 98 = .ok (.if_icmp .ne 25, 3) := by decide +kernel
theorem dX12_holds_101 : decode cX12_holds 101 = .ok (.iload 4, 2) := by decide +kernel
theorem dX12_holds_103 : decode cX12_holds 103 = .ok (.aload_n 0, 1) := by decide +kernel
theorem dX12_holds_104 : decode cX12_holds 104 = .ok (.getfield 35, 3) := by decide +kernel
theorem dX12_holds_107 : decode cX12_holds 107 = .ok (.iload_n 1, 1) := by decide +kernel
theorem dX12_holds_108 : decode cX12_holds 108 = .ok (.bipush 6, 2) := by decide +kernel
theorem dX12_holds_110 : decode cX12_holds 110 = .ok (.iadd, 1) := by decide +kernel
theorem dX12_holds_111 : decode cX12_holds 111 = .ok (.iaload, 1) := by decide +kernel
theorem dX12_holds_112 : decode cX12_holds 112 = .ok (.if_icmp .le 7, 3) := by decide +kernel
theorem dX12_holds_115 : decode cX12_holds 115 = .ok (.iconst 1, 1) := by decide +kernel
theorem dX12_holds_116 : decode cX12_holds 116 = .ok (.goto 26, 3) := by decide +kernel
theorem dX12_holds_119 : decode cX12_holds 119 = .ok (.iconst 0, 1) := by decide +kernel
theorem dX12_holds_120 : decode cX12_holds 120 = .ok (.goto 22, 3) := by decide +kernel
theorem dX12_holds_123 : decode cX12_holds 123 = .ok (.iload 4, 2) := by decide +kernel
theorem dX12_holds_125 : decode cX12_holds 125 = .ok (.aload_n 0, 1) := by decide +kernel
theorem dX12_holds_126 : decode cX12_holds 126 = .ok (.getfield 35, 3) := by decide +kernel
theorem dX12_holds_129 : decode cX12_holds 129 = .ok (.iload_n 1, 1) := by decide +kernel
theorem dX12_holds_130 : decode cX12_holds 130 = .ok (.bipush 6, 2) := by decide +kernel
theorem dX12_holds_132 : decode cX12_holds 132 = .ok (.iadd, 1) := by decide +kernel
theorem dX12_holds_133 : decode cX12_holds 133 = .ok (.iaload, 1) := by decide +kernel
theorem dX12_holds_134 : decode cX12_holds 134 = .ok (.if_icmp .ne 7, 3) := by decide +kernel
theorem dX12_holds_137 : decode cX12_holds 137 = .ok (.iconst 1, 1) := by decide +kernel
theorem dX12_holds_138 : decode cX12_holds 138 = .ok (.goto 4, 3) := by decide +kernel
theorem dX12_holds_141 : decode cX12_holds 141 = .ok (.iconst 0, 1) := by decide +kernel
theorem dX12_holds_142 : decode cX12_holds 142 = .ok (.ireturn, 1) := by decide +kernel
theorem dX12_doOne_0 : decode cX12_doOne 0 = .ok (.aload_n 0, 1) := by decide +kernel
theorem dX12_doOne_1 : decode cX12_doOne 1 = .ok (.getfield 557, 3) := by decide +kernel
theorem dX12_doOne_4 : decode cX12_doOne 4 = .ok (.sipush 300, 3) := by decide +kernel
theorem dX12_doOne_7 : decode cX12_doOne 7 = .ok (.if_icmp .ne 14, 3) := by decide +kernel
theorem dX12_doOne_10 : decode cX12_doOne 10 = .ok (.aload_n 0, 1) := by decide +kernel
theorem dX12_doOne_11 : decode cX12_doOne 11 = .ok (.iconst 1, 1) := by decide +kernel
theorem dX12_doOne_12 : decode cX12_doOne 12 = .ok (.putfield 560, 3) := by decide +kernel
theorem dX12_doOne_15 : decode cX12_doOne 15 = .ok (.aload_n 0, 1) := by decide +kernel
theorem dX12_doOne_16 : decode cX12_doOne 16 = .ok (.iconst 1, 1) := by decide +kernel
theorem dX12_doOne_17 : decode cX12_doOne 17 = .ok (.putfield 563, 3) := by decide +kernel
theorem dX12_doOne_20 : decode cX12_doOne 20 = .ok (.return_, 1) := by decide +kernel
theorem dX12_doOne_21 : decode cX12_doOne 21 = .ok (.aload_n 0, 1) := by decide +kernel
theorem dX12_doOne_22 : decode cX12_doOne 22 = .ok (.dup, 1) := by decide +kernel
theorem dX12_doOne_23 : decode cX12_doOne 23 = .ok (.getfield 557, 3) := by decide +kernel
theorem dX12_doOne_26 : decode cX12_doOne 26 = .ok (.iconst 1, 1) := by decide +kernel
theorem dX12_doOne_27 : decode cX12_doOne 27 = .ok (.iadd, 1) := by decide +kernel
theorem dX12_doOne_28 : decode cX12_doOne 28 = .ok (.putfield 557, 3) := by decide +kernel
theorem dX12_doOne_31 : decode cX12_doOne 31 = .ok (.bipush 92, 2) := by decide +kernel
theorem dX12_doOne_33 : decode cX12_doOne 33 = .ok (.bipush 9, 2) := by decide +kernel
theorem dX12_doOne_35 : decode cX12_doOne 35 = .ok (.iload_n 1, 1) := by decide +kernel
theorem dX12_doOne_36 : decode cX12_doOne 36 = .ok (.imul, 1) := by decide +kernel
theorem dX12_doOne_37 : decode cX12_doOne 37 = .ok (.iadd, 1) := by decide +kernel
theorem dX12_doOne_38 : decode cX12_doOne 38 = .ok (.istore_n 2, 1) := by decide +kernel
theorem dX12_doOne_39 : decode cX12_doOne 39 = .ok (.aload_n 0, 1) := by decide +kernel
theorem dX12_doOne_40 : decode cX12_doOne 40 = .ok (.getfield 35, 3) := by decide +kernel
theorem dX12_doOne_43 : decode cX12_doOne 43 = .ok (.iload_n 2, 1) := by decide +kernel
theorem dX12_doOne_44 : decode cX12_doOne 44 = .ok (.iaload, 1) := by decide +kernel
theorem dX12_doOne_45 : decode cX12_doOne 45 = .ok (.istore_n 3, 1) := by decide +kernel
theorem dX12_doOne_46 : decode cX12_doOne 46 = .ok (.iload_n 3, 1) := by decide +kernel
theorem dX12_doOne_47 : decode cX12_doOne 47 = .ok (.iconst 5, 1) := by decide +kernel
theorem dX12_doOne_48 : decode cX12_doOne 48 = .ok (.if_icmp .ge 28, 3) := by decide +kernel
theorem dX12_doOne_51 : decode cX12_doOne 51 = .ok (.aload_n 0, 1) := by decide +kernel
theorem dX12_doOne_52 : decode cX12_doOne 52 = .ok (.dup, 1) := by decide +kernel
theorem dX12_doOne_53 : decode cX12_doOne 53 = .ok (.getfield 566, 3) := by decide +kernel
theorem dX12_doOne_56 : decode cX12_doOne 56 = .ok (.aload_n 0, 1) := by decide +kernel
theorem dX12_doOne_57 : decode cX12_doOne 57 = .ok (.iload_n 2, 1) := by decide +kernel
theorem dX12_doOne_58 : decode cX12_doOne 58 = .ok (.invokevirtual 569, 3) := by decide +kernel
theorem dX12_doOne_61 : decode cX12_doOne 61 = .ok (.ifCond .eq 7, 3) := by decide +kernel
theorem dX12_doOne_64 : decode cX12_doOne 64 = .ok (.iconst 0, 1) := by decide +kernel
theorem dX12_doOne_65 : decode cX12_doOne 65 = .ok (.goto 4, 3) := by decide +kernel
theorem dX12_doOne_68 : decode cX12_doOne 68 = .ok (.iconst 1, 1) := by decide +kernel
theorem dX12_doOne_69 : decode cX12_doOne 69 = .ok (.iadd, 1) := by decide +kernel
theorem dX12_doOne_70 : decode cX12_doOne 70 = .ok (.putfield 566, 3) := by decide +kernel
theorem dX12_doOne_73 : decode cX12_doOne 73 = .ok (.goto 100, 3) := by decide +kernel
theorem dX12_doOne_76 : decode cX12_doOne 76 = .ok (.iload_n 3, 1) := by decide +kernel
theorem dX12_doOne_77 : decode cX12_doOne 77 = .ok (.iconst 5, 1) := by decide +kernel
theorem dX12_doOne_78 : decode cX12_doOne 78 = .ok (.if_icmp .ne 30, 3) := by decide +kernel
theorem dX12_doOne_81 : decode cX12_doOne 81 = .ok (.aload_n 0, 1) := by decide +kernel
theorem dX12_doOne_82 : decode cX12_doOne 82 = .ok (.iload_n 2, 1) := by decide +kernel
theorem dX12_doOne_83 : decode cX12_doOne 83 = .ok (.invokevirtual 572, 3) := by decide +kernel
theorem dX12_doOne_86 : decode cX12_doOne 86 = .ok (.ifCond .eq 22, 3) := by decide +kernel
theorem dX12_doOne_89 : decode cX12_doOne 89 = .ok (.aload_n 0, 1) := by decide +kernel
theorem dX12_doOne_90 : decode cX12_doOne 90 = .ok (.iload_n 1, 1) := by decide +kernel
theorem dX12_doOne_91 : decode cX12_doOne 91 = .ok (.iconst 1, 1) := by decide +kernel
theorem dX12_doOne_92 : decode cX12_doOne 92 = .ok (.iadd, 1) := by decide +kernel
theorem dX12_doOne_93 : decode cX12_doOne 93 = .ok (.aload_n 0, 1) := by decide +kernel
theorem dX12_doOne_94 : decode cX12_doOne 94 = .ok (.getfield 35, 3) := by decide +kernel
theorem dX12_doOne_97 : decode cX12_doOne 97 = .ok (.iload_n 2, 1) := by decide +kernel
theorem dX12_doOne_98 : decode cX12_doOne 98 = .ok (.bipush 8, 2) := by decide +kernel
theorem dX12_doOne_100 : decode cX12_doOne 100 = .ok (.iadd, 1) := by decide +kernel
theorem dX12_doOne_101 : decode cX12_doOne 101 = .ok (.iaload, 1) := by decide +kernel
theorem dX12_doOne_102 : decode cX12_doOne 102 = .ok (.invokevirtual 575, 3) := by decide +kernel
theorem dX12_doOne_105 : decode cX12_doOne 105 = .ok (.goto 68, 3) := by decide +kernel
theorem dX12_doOne_108 : decode cX12_doOne 108 = .ok (.iload_n 3, 1) := by decide +kernel
theorem dX12_doOne_109 : decode cX12_doOne 109 = .ok (.bipush 6, 2) := by decide +kernel
theorem dX12_doOne_111 : decode cX12_doOne 111 = .ok (.if_icmp .ne 51, 3) := by decide +kernel
theorem dX12_doOne_114 : decode cX12_doOne 114 = .ok (.iconst 0, 1) := by decide +kernel
theorem dX12_doOne_115 : decode cX12_doOne 115 = .ok (.istore 4, 2) := by decide +kernel
theorem dX12_doOne_117 : decode cX12_doOne 117 = .ok (.iload 4, 2) := by decide +kernel
theorem dX12_doOne_119 : decode cX12_doOne 119 = .ok (.aload_n 0, 1) := by decide +kernel
theorem dX12_doOne_120 : decode cX12_doOne 120 = .ok (.getfield 35, 3) := by decide +kernel
theorem dX12_doOne_123 : decode cX12_doOne 123 = .ok (.iload_n 2, 1) := by decide +kernel
theorem dX12_doOne_124 : decode cX12_doOne 124 = .ok (.iconst 1, 1) := by decide +kernel
theorem dX12_doOne_125 : decode cX12_doOne 125 = .ok (.iadd, 1) := by decide +kernel
theorem dX12_doOne_126 : decode cX12_doOne 126 = .ok (.iaload, 1) := by decide +kernel
theorem dX12_doOne_127 : decode cX12_doOne 127 = .ok (.if_icmp .ge 32, 3) := by decide +kernel
theorem dX12_doOne_130 : decode cX12_doOne 130 = .ok (.aload_n 0, 1) := by decide +kernel
theorem dX12_doOne_131 : decode cX12_doOne 131 = .ok (.getfield 560, 3) := by decide +kernel
theorem dX12_doOne_134 : decode cX12_doOne 134 = .ok (.ifCond .ne 25, 3) := by decide +kernel
theorem dX12_doOne_137 : decode cX12_doOne 137 = .ok (.aload_n 0, 1) := by decide +kernel
theorem dX12_doOne_138 : decode cX12_doOne 138 = .ok (.iload_n 1, 1) := by decide +kernel
theorem dX12_doOne_139 : decode cX12_doOne 139 = .ok (.iconst 1, 1) := by decide +kernel
theorem dX12_doOne_140 : decode cX12_doOne 140 = .ok (.iadd, 1) := by decide +kernel
theorem dX12_doOne_141 : decode cX12_doOne 141 = .ok (.aload_n 0, 1) := by decide +kernel
theorem dX12_doOne_142 : decode cX12_doOne 142 = .ok (.getfield 35, 3) := by decide +kernel
theorem dX12_doOne_145 : decode cX12_doOne 145 = .ok (.iload_n 2, 1) := by decide +kernel
theorem dX12_doOne_146 : decode cX12_doOne 146 = .ok (.bipush 8, 2) := by decide +kernel
theorem dX12_doOne_148 : decode cX12_doOne 148 = .ok (.iadd, 1) := by decide +kernel
theorem dX12_doOne_149 : decode cX12_doOne 149 = .ok (.iaload, 1) := by decide +kernel
theorem dX12_doOne_150 : decode cX12_doOne 150 = .ok (.invokevirtual 575, 3) := by decide +kernel
theorem dX12_doOne_153 : decode cX12_doOne 153 = .ok (.iinc 4 1, 3) := by decide +kernel
theorem dX12_doOne_156 : decode cX12_doOne 156 = .ok (.goto (-39), 3) := by decide +kernel
theorem dX12_doOne_159 : decode cX12_doOne 159 = .ok (.goto 14, 3) := by decide +kernel
theorem dX12_doOne_162 : decode cX12_doOne 162 = .ok (.iload_n 3, 1) := by decide +kernel
theorem dX12_doOne_163 : decode cX12_doOne 163 = .ok (.bipush 6, 2) := by decide +kernel
theorem dX12_doOne_165 : decode cX12_doOne 165 = .ok (.if_icmp .le 8, 3) := by decide +kernel
theorem dX12_doOne_168 : decode cX12_doOne 168 = .ok (.aload_n 0, 1) := by decide +kernel
theorem dX12_doOne_169 : decode cX12_doOne 169 = .ok (.iconst 1, 1) := by decide +kernel
theorem dX12_doOne_170 : decode cX12_doOne 170 = .ok (.putfield 560, 3) := by decide +kernel
theorem dX12_doOne_173 : decode cX12_doOne 173 = .ok (.return_, 1) := by decide +kernel
theorem dX12_doAll_0 : decode cX12_doAll 0 = .ok (.iload_n 1, 1) := by decide +kernel
theorem dX12_doAll_1 : decode cX12_doAll 1 = .ok (.istore_n 3, 1) := by decide +kernel
theorem dX12_doAll_2 : decode cX12_doAll 2 = .ok (.iload_n 3, 1) := by decide +kernel
theorem dX12_doAll_3 : decode cX12_doAll 3 = .ok (.iload_n 2, 1) := by decide +kernel
theorem dX12_doAll_4 : decode cX12_doAll 4 = .ok (.if_icmp .ge 34, 3) := by decide +kernel
theorem dX12_doAll_7 : decode cX12_doAll 7 = .ok (.aload_n 0, 1) := by decide +kernel
theorem dX12_doAll_8 : decode cX12_doAll 8 = .ok (.getfield 560, 3) := by decide +kernel
theorem dX12_doAll_11 : decode cX12_doAll 11 = .ok (.ifCond .ne 27, 3) := by decide +kernel
theorem dX12_doAll_14 : decode cX12_doAll 14 = .ok (.aload_n 0, 1) := by decide +kernel
theorem dX12_doAll_15 : decode cX12_doAll 15 = .ok (.iload_n 3, 1) := by decide +kernel
theorem dX12_doAll_16 : decode cX12_doAll 16 = .ok (.invokevirtual 578, 3) := by decide +kernel
theorem dX12_doAll_19 : decode cX12_doAll 19 = .ok (.aload_n 0, 1) := by decide +kernel
theorem dX12_doAll_20 : decode cX12_doAll 20 = .ok (.getfield 35, 3) := by decide +kernel
theorem dX12_doAll_23 : decode cX12_doAll 23 = .ok (.bipush 92, 2) := by decide +kernel
theorem dX12_doAll_25 : decode cX12_doAll 25 = .ok (.bipush 9, 2) := by decide +kernel
theorem dX12_doAll_27 : decode cX12_doAll 27 = .ok (.iload_n 3, 1) := by decide +kernel
theorem dX12_doAll_28 : decode cX12_doAll 28 = .ok (.imul, 1) := by decide +kernel
theorem dX12_doAll_29 : decode cX12_doAll 29 = .ok (.iadd, 1) := by decide +kernel
theorem dX12_doAll_30 : decode cX12_doAll 30 = .ok (.bipush 8, 2) := by decide +kernel
theorem dX12_doAll_32 : decode cX12_doAll 32 = .ok (.iadd, 1) := by decide +kernel
theorem dX12_doAll_33 : decode cX12_doAll 33 = .ok (.iaload, 1) := by decide +kernel
theorem dX12_doAll_34 : decode cX12_doAll 34 = .ok (.istore_n 3, 1) := by decide +kernel
theorem dX12_doAll_35 : decode cX12_doAll 35 = .ok (.goto (-33), 3) := by decide +kernel
theorem dX12_doAll_38 : decode cX12_doAll 38 = .ok (.return_, 1) := by decide +kernel
theorem dX12_runsYears_0 : decode cX12_runsYears 0 = .ok (.aload_n 0, 1) := by decide +kernel
theorem dX12_runsYears_1 : decode cX12_runsYears 1 = .ok (.iload_n 1, 1) := by decide +kernel
theorem dX12_runsYears_2 : decode cX12_runsYears 2 = .ok (.putfield 532, 3) := by decide +kernel
theorem dX12_runsYears_5 : decode cX12_runsYears 5 = .ok (.aload_n 0, 1) := by decide +kernel
theorem dX12_runsYears_6 : decode cX12_runsYears 6 = .ok (.iconst 0, 1) := by decide +kernel
theorem dX12_runsYears_7 : decode cX12_runsYears 7 = .ok (.putfield 557, 3) := by decide +kernel
theorem dX12_runsYears_10 : decode cX12_runsYears 10 = .ok (.aload_n 0, 1) := by decide +kernel
theorem dX12_runsYears_11 : decode cX12_runsYears 11 = .ok (.iconst 0, 1) := by decide +kernel
theorem dX12_runsYears_12 : decode cX12_runsYears 12 = .ok (.putfield 566, 3) := by decide +kernel
theorem dX12_runsYears_15 : decode cX12_runsYears 15 = .ok (.aload_n 0, 1) := by decide +kernel
theorem dX12_runsYears_16 : decode cX12_runsYears 16 = .ok (.aload_n 0, 1) := by decide +kernel
theorem dX12_runsYears_17 : decode cX12_runsYears 17 = .ok (.getfield 35, 3) := by decide +kernel
theorem dX12_runsYears_20 : decode cX12_runsYears 20 = .ok (.iconst 5, 1) := by decide +kernel
theorem dX12_runsYears_21 : decode cX12_runsYears 21 = .ok (.iaload, 1) := by decide +kernel
theorem dX12_runsYears_22 : decode cX12_runsYears 22 = .ok (.putfield 581, 3) := by decide +kernel
theorem dX12_runsYears_25 : decode cX12_runsYears 25 = .ok (.aload_n 0, 1) := by decide +kernel
theorem dX12_runsYears_26 : decode cX12_runsYears 26 = .ok (.iconst 0, 1) := by decide +kernel
theorem dX12_runsYears_27 : decode cX12_runsYears 27 = .ok (.putfield 536, 3) := by decide +kernel
theorem dX12_runsYears_30 : decode cX12_runsYears 30 = .ok (.aload_n 0, 1) := by decide +kernel
theorem dX12_runsYears_31 : decode cX12_runsYears 31 = .ok (.iconst 0, 1) := by decide +kernel
theorem dX12_runsYears_32 : decode cX12_runsYears 32 = .ok (.putfield 539, 3) := by decide +kernel
theorem dX12_runsYears_35 : decode cX12_runsYears 35 = .ok (.aload_n 0, 1) := by decide +kernel
theorem dX12_runsYears_36 : decode cX12_runsYears 36 = .ok (.iconst 0, 1) := by decide +kernel
theorem dX12_runsYears_37 : decode cX12_runsYears 37 = .ok (.putfield 563, 3) := by decide +kernel
theorem dX12_runsYears_40 : decode cX12_runsYears 40 = .ok (.aload_n 0, 1) := by decide +kernel
theorem dX12_runsYears_41 : decode cX12_runsYears 41 = .ok (.iconst 0, 1) := by decide +kernel
theorem dX12_runsYears_42 : decode cX12_runsYears 42 = .ok (.putfield 560, 3) := by decide +kernel
theorem dX12_runsYears_45 : decode cX12_runsYears 45 = .ok (.aload_n 0, 1) := by decide +kernel
theorem dX12_runsYears_46 : decode cX12_runsYears 46 = .ok (.iconst 0, 1) := by decide +kernel
theorem dX12_runsYears_47 : decode cX12_runsYears 47 = .ok (.aload_n 0, 1) := by decide +kernel
theorem dX12_runsYears_48 : decode cX12_runsYears 48 = .ok (.getfield 35, 3) := by decide +kernel
theorem dX12_runsYears_51 : decode cX12_runsYears 51 = .ok (.bipush 91, 2) := by decide +kernel
theorem dX12_runsYears_53 : decode cX12_runsYears 53 = .ok (.iaload, 1) := by decide +kernel
theorem dX12_runsYears_54 : decode cX12_runsYears 54 = .ok (.invokevirtual 575, 3) := by decide +kernel
theorem dX12_runsYears_57 : decode cX12_runsYears 57 = .ok (.return_, 1) := by decide +kernel
theorem dX12_live_0 : decode cX12_live 0 = .ok (.aload_n 0, 1) := by decide +kernel
theorem dX12_live_1 : decode cX12_live 1 = .ok (.iconst 0, 1) := by decide +kernel
theorem dX12_live_2 : decode cX12_live 2 = .ok (.putfield 69, 3) := by decide +kernel
theorem dX12_live_5 : decode cX12_live 5 = .ok (.aload_n 0, 1) := by decide +kernel
theorem dX12_live_6 : decode cX12_live 6 = .ok (.iconst 0, 1) := by decide +kernel
theorem dX12_live_7 : decode cX12_live 7 = .ok (.putfield 72, 3) := by decide +kernel
theorem dX12_live_10 : decode cX12_live 10 = .ok (.iload_n 1, 1) := by decide +kernel
theorem dX12_live_11 : decode cX12_live 11 = .ok (.i2l, 1) := by decide +kernel
theorem dX12_live_12 : decode cX12_live 12 = .ok (.lconst 0, 1) := by decide +kernel
theorem dX12_live_13 : decode cX12_live 13 = .ok (.ldc2_w 584, 3) := by decide +kernel
theorem dX12_live_16 : decode cX12_live 16 = .ok (.invokestatic 104, 3) := by decide +kernel
theorem dX12_live_19 : decode cX12_live 19 = .ok (.ifCond .ne 9, 3) := by decide +kernel
theorem dX12_live_22 : decode cX12_live 22 = .ok (.aload_n 0, 1) := by decide +kernel
theorem dX12_live_23 : decode cX12_live 23 = .ok (.iconst 5, 1) := by decide +kernel
theorem dX12_live_24 : decode cX12_live 24 = .ok (.invokevirtual 345, 3) := by decide +kernel
theorem dX12_live_27 : decode cX12_live 27 = .ok (.ireturn, 1) := by decide +kernel
theorem dX12_live_28 : decode cX12_live 28 = .ok (.aload_n 0, 1) := by decide +kernel
theorem dX12_live_29 : decode cX12_live 29 = .ok (.getfield 35, 3) := by decide +kernel
theorem dX12_live_32 : decode cX12_live 32 = .ok (.bipush 90, 2) := by decide +kernel
theorem dX12_live_34 : decode cX12_live 34 = .ok (.iaload, 1) := by decide +kernel
theorem dX12_live_35 : decode cX12_live 35 = .ok (.ifCond .ne 10, 3) := by decide +kernel
theorem dX12_live_38 : decode cX12_live 38 = .ok (.aload_n 0, 1) := by decide +kernel
theorem dX12_live_39 : decode cX12_live 39 = .ok (.bipush 8, 2) := by decide +kernel
theorem dX12_live_41 : decode cX12_live 41 = .ok (.invokevirtual 345, 3) := by decide +kernel
theorem dX12_live_44 : decode cX12_live 44 = .ok (.ireturn, 1) := by decide +kernel
theorem dX12_live_45 : decode cX12_live 45 = .ok (.aload_n 0, 1) := by decide +kernel
theorem dX12_live_46 : decode cX12_live 46 = .ok (.iload_n 1, 1) := by decide +kernel
theorem dX12_live_47 : decode cX12_live 47 = .ok (.invokevirtual 586, 3) := by decide +kernel
theorem dX12_live_50 : decode cX12_live 50 = .ok (.aload_n 0, 1) := by decide +kernel
theorem dX12_live_51 : decode cX12_live 51 = .ok (.getfield 62, 3) := by decide +kernel
theorem dX12_live_54 : decode cX12_live 54 = .ok (.iconst 0, 1) := by decide +kernel
theorem dX12_live_55 : decode cX12_live 55 = .ok (.aload_n 0, 1) := by decide +kernel
theorem dX12_live_56 : decode cX12_live 56 = .ok (.getfield 566, 3) := by decide +kernel
theorem dX12_live_59 : decode cX12_live 59 = .ok (.iastore, 1) := by decide +kernel
theorem dX12_live_60 : decode cX12_live 60 = .ok (.aload_n 0, 1) := by decide +kernel
theorem dX12_live_61 : decode cX12_live 61 = .ok (.getfield 62, 3) := by decide +kernel
theorem dX12_live_64 : decode cX12_live 64 = .ok (.iconst 1, 1) := by decide +kernel
theorem dX12_live_65 : decode cX12_live 65 = .ok (.aload_n 0, 1) := by decide +kernel
theorem dX12_live_66 : decode cX12_live 66 = .ok (.getfield 35, 3) := by decide +kernel
theorem dX12_live_69 : decode cX12_live 69 = .ok (.iconst 5, 1) := by decide +kernel
theorem dX12_live_70 : decode cX12_live 70 = .ok (.iaload, 1) := by decide +kernel
theorem dX12_live_71 : decode cX12_live 71 = .ok (.aload_n 0, 1) := by decide +kernel
theorem dX12_live_72 : decode cX12_live 72 = .ok (.getfield 581, 3) := by decide +kernel
theorem dX12_live_75 : decode cX12_live 75 = .ok (.isub, 1) := by decide +kernel
theorem dX12_live_76 : decode cX12_live 76 = .ok (.iastore, 1) := by decide +kernel
theorem dX12_live_77 : decode cX12_live 77 = .ok (.aload_n 0, 1) := by decide +kernel
theorem dX12_live_78 : decode cX12_live 78 = .ok (.getfield 62, 3) := by decide +kernel
theorem dX12_live_81 : decode cX12_live 81 = .ok (.iconst 2, 1) := by decide +kernel
theorem dX12_live_82 : decode cX12_live 82 = .ok (.aload_n 0, 1) := by decide +kernel
theorem dX12_live_83 : decode cX12_live 83 = .ok (.getfield 536, 3) := by decide +kernel
theorem dX12_live_86 : decode cX12_live 86 = .ok (.iastore, 1) := by decide +kernel
theorem dX12_live_87 : decode cX12_live 87 = .ok (.aload_n 0, 1) := by decide +kernel
theorem dX12_live_88 : decode cX12_live 88 = .ok (.getfield 62, 3) := by decide +kernel
theorem dX12_live_91 : decode cX12_live 91 = .ok (.iconst 3, 1) := by decide +kernel
theorem dX12_live_92 : decode cX12_live 92 = .ok (.aload_n 0, 1) := by decide +kernel
theorem dX12_live_93 : decode cX12_live 93 = .ok (.getfield 539, 3) := by decide +kernel
theorem dX12_live_96 : decode cX12_live 96 = .ok (.iastore, 1) := by decide +kernel
theorem dX12_live_97 : decode cX12_live 97 = .ok (.aload_n 0, 1) := by decide +kernel
theorem dX12_live_98 : decode cX12_live 98 = .ok (.getfield 62, 3) := by decide +kernel
theorem dX12_live_101 : decode cX12_live 101 = .ok (.iconst 4, 1) := by decide +kernel
theorem dX12_live_102 : decode cX12_live 102 = .ok (.aload_n 0, 1) := by decide +kernel
theorem dX12_live_103 : decode cX12_live 103 = .ok (.getfield 563, 3) := by decide +kernel
theorem dX12_live_106 : decode cX12_live 106 = .ok (.iastore, 1) := by decide +kernel
theorem dX12_live_107 : decode cX12_live 107 = .ok (.aload_n 0, 1) := by decide +kernel
theorem dX12_live_108 : decode cX12_live 108 = .ok (.iconst 1, 1) := by decide +kernel
theorem dX12_live_109 : decode cX12_live 109 = .ok (.putfield 589, 3) := by decide +kernel
theorem dX12_live_112 : decode cX12_live 112 = .ok (.aload_n 0, 1) := by decide +kernel
theorem dX12_live_113 : decode cX12_live 113 = .ok (.getfield 557, 3) := by decide +kernel
theorem dX12_live_116 : decode cX12_live 116 = .ok (.ireturn, 1) := by decide +kernel
theorem dX12_lived_0 : decode cX12_lived 0 = .ok (.aload_n 0, 1) := by decide +kernel
theorem dX12_lived_1 : decode cX12_lived 1 = .ok (.iconst 0, 1) := by decide +kernel
theorem dX12_lived_2 : decode cX12_lived 2 = .ok (.putfield 69, 3) := by decide +kernel
theorem dX12_lived_5 : decode cX12_lived 5 = .ok (.aload_n 0, 1) := by decide +kernel
theorem dX12_lived_6 : decode cX12_lived 6 = .ok (.iconst 0, 1) := by decide +kernel
theorem dX12_lived_7 : decode cX12_lived 7 = .ok (.putfield 72, 3) := by decide +kernel
theorem dX12_lived_10 : decode cX12_lived 10 = .ok (.iload_n 1, 1) := by decide +kernel
theorem dX12_lived_11 : decode cX12_lived 11 = .ok (.i2l, 1) := by decide +kernel
theorem dX12_lived_12 : decode cX12_lived 12 = .ok (.lconst 0, 1) := by decide +kernel
theorem dX12_lived_13 : decode cX12_lived 13 = .ok (.ldc2_w 360, 3) := by decide +kernel
theorem dX12_lived_16 : decode cX12_lived 16 = .ok (.invokestatic 104, 3) := by decide +kernel
theorem dX12_lived_19 : decode cX12_lived 19 = .ok (.ifCond .ne 9, 3) := by decide +kernel
theorem dX12_lived_22 : decode cX12_lived 22 = .ok (.aload_n 0, 1) := by decide +kernel
theorem dX12_lived_23 : decode cX12_lived 23 = .ok (.iconst 5, 1) := by decide +kernel
theorem dX12_lived_24 : decode cX12_lived 24 = .ok (.invokevirtual 345, 3) := by decide +kernel
theorem dX12_lived_27 : decode cX12_lived 27 = .ok (.ireturn, 1) := by decide +kernel
theorem dX12_lived_28 : decode cX12_lived 28 = .ok (.aload_n 0, 1) := by decide +kernel
theorem dX12_lived_29 : decode cX12_lived 29 = .ok (.getfield 589, 3) := by decide +kernel
theorem dX12_lived_32 : decode cX12_lived 32 = .ok (.ifCond .eq 12, 3) := by decide +kernel
theorem dX12_lived_35 : decode cX12_lived 35 = .ok (.aload_n 0, 1) := by decide +kernel
theorem dX12_lived_36 : decode cX12_lived 36 = .ok (.getfield 62, 3) := by decide +kernel
theorem dX12_lived_39 : decode cX12_lived 39 = .ok (.iload_n 1, 1) := by decide +kernel
theorem dX12_lived_40 : decode cX12_lived 40 = .ok (.iaload, 1) := by decide +kernel
theorem dX12_lived_41 : decode cX12_lived 41 = .ok (.goto 9, 3) := by decide +kernel
theorem dX12_lived_44 : decode cX12_lived 44 = .ok (.aload_n 0, 1) := by decide +kernel
theorem dX12_lived_45 : decode cX12_lived 45 = .ok (.bipush 8, 2) := by decide +kernel
theorem dX12_lived_47 : decode cX12_lived 47 = .ok (.invokevirtual 345, 3) := by decide +kernel
theorem dX12_lived_50 : decode cX12_lived 50 = .ok (.ireturn, 1) := by decide +kernel
theorem dX12_mean_0 : decode cX12_mean 0 = .ok (.aload_n 0, 1) := by decide +kernel
theorem dX12_mean_1 : decode cX12_mean 1 = .ok (.iconst 0, 1) := by decide +kernel
theorem dX12_mean_2 : decode cX12_mean 2 = .ok (.putfield 69, 3) := by decide +kernel
theorem dX12_mean_5 : decode cX12_mean 5 = .ok (.aload_n 0, 1) := by decide +kernel
theorem dX12_mean_6 : decode cX12_mean 6 = .ok (.iconst 0, 1) := by decide +kernel
theorem dX12_mean_7 : decode cX12_mean 7 = .ok (.putfield 72, 3) := by decide +kernel
theorem dX12_mean_10 : decode cX12_mean 10 = .ok (.iload_n 2, 1) := by decide +kernel
theorem dX12_mean_11 : decode cX12_mean 11 = .ok (.i2l, 1) := by decide +kernel
theorem dX12_mean_12 : decode cX12_mean 12 = .ok (.lconst 1, 1) := by decide +kernel
theorem dX12_mean_13 : decode cX12_mean 13 = .ok (.ldc2_w 413, 3) := by decide +kernel
theorem dX12_mean_16 : decode cX12_mean 16 = .ok (.invokestatic 104, 3) := by decide +kernel
theorem dX12_mean_19 : decode cX12_mean 19 = .ok (.ifCond .eq 18, 3) := by decide +kernel
theorem dX12_mean_22 : decode cX12_mean 22 = .ok (.iload_n 1, 1) := by decide +kernel
theorem dX12_mean_23 : decode cX12_mean 23 = .ok (.i2l, 1) := by decide +kernel
theorem dX12_mean_24 : decode cX12_mean 24 = .ok (.lconst 0, 1) := by decide +kernel
theorem dX12_mean_25 : decode cX12_mean 25 = .ok (.sipush 10000, 3) := by decide +kernel
theorem dX12_mean_28 : decode cX12_mean 28 = .ok (.iload_n 2, 1) := by decide +kernel
theorem dX12_mean_29 : decode cX12_mean 29 = .ok (.isub, 1) := by decide +kernel
theorem dX12_mean_30 : decode cX12_mean 30 = .ok (.i2l, 1) := by decide +kernel
theorem dX12_mean_31 : decode cX12_mean 31 = .ok (.invokestatic 104, 3) := by decide +kernel
theorem dX12_mean_34 : decode cX12_mean 34 = .ok (.ifCond .ne 9, 3) := by decide +kernel
theorem dX12_mean_37 : decode cX12_mean 37 = .ok (.aload_n 0, 1) := by decide +kernel
theorem dX12_mean_38 : decode cX12_mean 38 = .ok (.iconst 5, 1) := by decide +kernel
theorem dX12_mean_39 : decode cX12_mean 39 = .ok (.invokevirtual 84, 3) := by decide +kernel
theorem dX12_mean_42 : decode cX12_mean 42 = .ok (.ireturn, 1) := by decide +kernel
theorem dX12_mean_43 : decode cX12_mean 43 = .ok (.aload_n 0, 1) := by decide +kernel
theorem dX12_mean_44 : decode cX12_mean 44 = .ok (.getfield 35, 3) := by decide +kernel
theorem dX12_mean_47 : decode cX12_mean 47 = .ok (.bipush 90, 2) := by decide +kernel
theorem dX12_mean_49 : decode cX12_mean 49 = .ok (.iaload, 1) := by decide +kernel
theorem dX12_mean_50 : decode cX12_mean 50 = .ok (.ifCond .ne 10, 3) := by decide +kernel
theorem dX12_mean_53 : decode cX12_mean 53 = .ok (.aload_n 0, 1) := by decide +kernel
theorem dX12_mean_54 : decode cX12_mean 54 = .ok (.bipush 8, 2) := by decide +kernel
theorem dX12_mean_56 : decode cX12_mean 56 = .ok (.invokevirtual 84, 3) := by decide +kernel
theorem dX12_mean_59 : decode cX12_mean 59 = .ok (.ireturn, 1) := by decide +kernel
theorem dX12_mean_60 : decode cX12_mean 60 = .ok (.aload_n 0, 1) := by decide +kernel
theorem dX12_mean_61 : decode cX12_mean 61 = .ok (.invokevirtual 417, 3) := by decide +kernel
theorem dX12_mean_64 : decode cX12_mean 64 = .ok (.lconst 0, 1) := by decide +kernel
theorem dX12_mean_65 : decode cX12_mean 65 = .ok (.lstore_n 3, 1) := by decide +kernel
theorem dX12_mean_66 : decode cX12_mean 66 = .ok (.iconst 0, 1) := by decide +kernel
theorem dX12_mean_67 : decode cX12_mean 67 = .ok (.istore 5, 2) := by decide +kernel
theorem dX12_mean_69 : decode cX12_mean 69 = .ok (.iload 5, 2) := by decide +kernel
theorem dX12_mean_71 : decode cX12_mean 71 = .ok (.iload_n 2, 1) := by decide +kernel
theorem dX12_mean_72 : decode cX12_mean 72 = .ok (.if_icmp .ge 29, 3) := by decide +kernel
theorem dX12_mean_75 : decode cX12_mean 75 = .ok (.aload_n 0, 1) := by decide +kernel
theorem dX12_mean_76 : decode cX12_mean 76 = .ok (.iload_n 1, 1) := by decide +kernel
theorem dX12_mean_77 : decode cX12_mean 77 = .ok (.iload 5, 2) := by decide +kernel
theorem dX12_mean_79 : decode cX12_mean 79 = .ok (.iadd, 1) := by decide +kernel
theorem dX12_mean_80 : decode cX12_mean 80 = .ok (.invokevirtual 586, 3) := by decide +kernel
theorem dX12_mean_83 : decode cX12_mean 83 = .ok (.lload_n 3, 1) := by decide +kernel
theorem dX12_mean_84 : decode cX12_mean 84 = .ok (.aload_n 0, 1) := by decide +kernel
theorem dX12_mean_85 : decode cX12_mean 85 = .ok (.invokevirtual 529, 3) := by decide +kernel
theorem dX12_mean_88 : decode cX12_mean 88 = .ok (.i2l, 1) := by decide +kernel
theorem dX12_mean_89 : decode cX12_mean 89 = .ok (.ladd, 1) := by decide +kernel
theorem dX12_mean_90 : decode cX12_mean 90 = .ok (.lstore_n 3, 1) := by decide +kernel
theorem dX12_mean_91 : decode cX12_mean 91 = .ok (.aload_n 0, 1) := by decide +kernel
theorem dX12_mean_92 : decode cX12_mean 92 = .ok (.invokevirtual 420, 3) := by decide +kernel
theorem dX12_mean_95 : decode cX12_mean 95 = .ok (.iinc 5 1, 3) := by decide +kernel
theorem dX12_mean_98 : decode cX12_mean 98 = .ok (.goto (-29), 3) := by decide +kernel
theorem dX12_mean_101 : decode cX12_mean 101 = .ok (.aload_n 0, 1) := by decide +kernel
theorem dX12_mean_102 : decode cX12_mean 102 = .ok (.lload_n 3, 1) := by decide +kernel
theorem dX12_mean_103 : decode cX12_mean 103 = .ok (.iload_n 2, 1) := by decide +kernel
theorem dX12_mean_104 : decode cX12_mean 104 = .ok (.i2l, 1) := by decide +kernel
theorem dX12_mean_105 : decode cX12_mean 105 = .ok (.invokevirtual 514, 3) := by decide +kernel
theorem dX12_mean_108 : decode cX12_mean 108 = .ok (.ireturn, 1) := by decide +kernel
theorem dX12_copy_0 : decode cX12_copy 0 = .ok (.iconst 0, 1) := by decide +kernel
theorem dX12_copy_1 : decode cX12_copy 1 = .ok (.istore_n 3, 1) := by decide +kernel
theorem dX12_copy_2 : decode cX12_copy 2 = .ok (.iload_n 3, 1) := by decide +kernel
theorem dX12_copy_3 : decode cX12_copy 3 = .ok (.sipush 362, 3) := by decide +kernel
theorem dX12_copy_6 : decode cX12_copy 6 = .ok (.if_icmp .ge 33, 3) := by decide +kernel
theorem dX12_copy_9 : decode cX12_copy 9 = .ok (.aload_n 0, 1) := by decide +kernel
theorem dX12_copy_10 : decode cX12_copy 10 = .ok (.getfield 35, 3) := by decide +kernel
theorem dX12_copy_13 : decode cX12_copy 13 = .ok (.sipush 362, 3) := by decide +kernel
theorem dX12_copy_16 : decode cX12_copy 16 = .ok (.iload_n 2, 1) := by decide +kernel
theorem dX12_copy_17 : decode cX12_copy 17 = .ok (.imul, 1) := by decide +kernel
theorem dX12_copy_18 : decode cX12_copy 18 = .ok (.iload_n 3, 1) := by decide +kernel
theorem dX12_copy_19 : decode cX12_copy 19 = .ok (.iadd, 1) := by decide +kernel
theorem dX12_copy_20 : decode cX12_copy 20 = .ok (.aload_n 0, 1) := by decide +kernel
theorem dX12_copy_21 : decode cX12_copy 21 = .ok (.getfield 35, 3) := by decide +kernel
theorem dX12_copy_24 : decode cX12_copy 24 = .ok (.sipush 362, 3) := by decide +kernel
theorem dX12_copy_27 : decode cX12_copy 27 = .ok (.iload_n 1, 1) := by decide +kernel
theorem dX12_copy_28 : decode cX12_copy 28 = .ok (.imul, 1) := by decide +kernel
theorem dX12_copy_29 : decode cX12_copy 29 = .ok (.iload_n 3, 1) := by decide +kernel
theorem dX12_copy_30 : decode cX12_copy 30 = .ok (.iadd, 1) := by decide +kernel
theorem dX12_copy_31 : decode cX12_copy 31 = .ok (.iaload, 1) := by decide +kernel
theorem dX12_copy_32 : decode cX12_copy 32 = .ok (.iastore, 1) := by decide +kernel
theorem dX12_copy_33 : decode cX12_copy 33 = .ok (.iinc 3 1, 3) := by decide +kernel
theorem dX12_copy_36 : decode cX12_copy 36 = .ok (.goto (-34), 3) := by decide +kernel
theorem dX12_copy_39 : decode cX12_copy 39 = .ok (.iconst 0, 1) := by decide +kernel
theorem dX12_copy_40 : decode cX12_copy 40 = .ok (.istore_n 3, 1) := by decide +kernel
theorem dX12_copy_41 : decode cX12_copy 41 = .ok (.iload_n 3, 1) := by decide +kernel
theorem dX12_copy_42 : decode cX12_copy 42 = .ok (.bipush 13, 2) := by decide +kernel
theorem dX12_copy_44 : decode cX12_copy 44 = .ok (.if_icmp .ge 31, 3) := by decide +kernel
theorem dX12_copy_47 : decode cX12_copy 47 = .ok (.aload_n 0, 1) := by decide +kernel
theorem dX12_copy_48 : decode cX12_copy 48 = .ok (.getfield 41, 3) := by decide +kernel
theorem dX12_copy_51 : decode cX12_copy 51 = .ok (.bipush 13, 2) := by decide +kernel
theorem dX12_copy_53 : decode cX12_copy 53 = .ok (.iload_n 2, 1) := by decide +kernel
theorem dX12_copy_54 : decode cX12_copy 54 = .ok (.imul, 1) := by decide +kernel
theorem dX12_copy_55 : decode cX12_copy 55 = .ok (.iload_n 3, 1) := by decide +kernel
theorem dX12_copy_56 : decode cX12_copy 56 = .ok (.iadd, 1) := by decide +kernel
theorem dX12_copy_57 : decode cX12_copy 57 = .ok (.aload_n 0, 1) := by decide +kernel
theorem dX12_copy_58 : decode cX12_copy 58 = .ok (.getfield 41, 3) := by decide +kernel
theorem dX12_copy_61 : decode cX12_copy 61 = .ok (.bipush 13, 2) := by decide +kernel
theorem dX12_copy_63 : decode cX12_copy 63 = .ok (.iload_n 1, 1) := by decide +kernel
theorem dX12_copy_64 : decode cX12_copy 64 = .ok (.imul, 1) := by decide +kernel
theorem dX12_copy_65 : decode cX12_copy 65 = .ok (.iload_n 3, 1) := by decide +kernel
theorem dX12_copy_66 : decode cX12_copy 66 = .ok (.iadd, 1) := by decide +kernel
theorem dX12_copy_67 : decode cX12_copy 67 = .ok (.laload, 1) := by decide +kernel
theorem dX12_copy_68 : decode cX12_copy 68 = .ok (.lastore, 1) := by decide +kernel
theorem dX12_copy_69 : decode cX12_copy 69 = .ok (.iinc 3 1, 3) := by decide +kernel
theorem dX12_copy_72 : decode cX12_copy 72 = .ok (.goto (-31), 3) := by decide +kernel
theorem dX12_copy_75 : decode cX12_copy 75 = .ok (.return_, 1) := by decide +kernel
theorem dX12_mark_0 : decode cX12_mark 0 = .ok (.aload_n 0, 1) := by decide +kernel
theorem dX12_mark_1 : decode cX12_mark 1 = .ok (.iconst 0, 1) := by decide +kernel
theorem dX12_mark_2 : decode cX12_mark 2 = .ok (.putfield 69, 3) := by decide +kernel
theorem dX12_mark_5 : decode cX12_mark 5 = .ok (.aload_n 0, 1) := by decide +kernel
theorem dX12_mark_6 : decode cX12_mark 6 = .ok (.iconst 0, 1) := by decide +kernel
theorem dX12_mark_7 : decode cX12_mark 7 = .ok (.putfield 72, 3) := by decide +kernel
theorem dX12_mark_10 : decode cX12_mark 10 = .ok (.aload_n 0, 1) := by decide +kernel
theorem dX12_mark_11 : decode cX12_mark 11 = .ok (.getfield 592, 3) := by decide +kernel
theorem dX12_mark_14 : decode cX12_mark 14 = .ok (.iconst 3, 1) := by decide +kernel
theorem dX12_mark_15 : decode cX12_mark 15 = .ok (.if_icmp .ne 10, 3) := by decide +kernel
theorem dX12_mark_18 : decode cX12_mark 18 = .ok (.aload_n 0, 1) := by decide +kernel
theorem dX12_mark_19 : decode cX12_mark 19 = .ok (.bipush 7, 2) := by decide +kernel
theorem dX12_mark_21 : decode cX12_mark 21 = .ok (.invokevirtual 345, 3) := by decide +kernel
theorem dX12_mark_24 : decode cX12_mark 24 = .ok (.ireturn, 1) := by decide +kernel
theorem dX12_mark_25 : decode cX12_mark 25 = .ok (.aload_n 0, 1) := by decide +kernel
theorem dX12_mark_26 : decode cX12_mark 26 = .ok (.dup, 1) := by decide +kernel
theorem dX12_mark_27 : decode cX12_mark 27 = .ok (.getfield 592, 3) := by decide +kernel
theorem dX12_mark_30 : decode cX12_mark 30 = .ok (.iconst 1, 1) := by decide +kernel
theorem dX12_mark_31 : decode cX12_mark 31 = .ok (.iadd, 1) := by decide +kernel
theorem dX12_mark_32 : decode cX12_mark 32 = .ok (.putfield 592, 3) := by decide +kernel
theorem dX12_mark_35 : decode cX12_mark 35 = .ok (.aload_n 0, 1) := by decide +kernel
theorem dX12_mark_36 : decode cX12_mark 36 = .ok (.iconst 0, 1) := by decide +kernel
theorem dX12_mark_37 : decode cX12_mark 37 = .ok (.aload_n 0, 1) := by decide +kernel
theorem dX12_mark_38 : decode cX12_mark 38 = .ok (.getfield 592, 3) := by decide +kernel
theorem dX12_mark_41 : decode cX12_mark 41 = .ok (.invokevirtual 313, 3) := by decide +kernel
theorem dX12_mark_44 : decode cX12_mark 44 = .ok (.aload_n 0, 1) := by decide +kernel
theorem dX12_mark_45 : decode cX12_mark 45 = .ok (.getfield 592, 3) := by decide +kernel
theorem dX12_mark_48 : decode cX12_mark 48 = .ok (.ireturn, 1) := by decide +kernel
theorem dX12_back_0 : decode cX12_back 0 = .ok (.aload_n 0, 1) := by decide +kernel
theorem dX12_back_1 : decode cX12_back 1 = .ok (.iconst 0, 1) := by decide +kernel
theorem dX12_back_2 : decode cX12_back 2 = .ok (.putfield 69, 3) := by decide +kernel
theorem dX12_back_5 : decode cX12_back 5 = .ok (.aload_n 0, 1) := by decide +kernel
theorem dX12_back_6 : decode cX12_back 6 = .ok (.iconst 0, 1) := by decide +kernel
theorem dX12_back_7 : decode cX12_back 7 = .ok (.putfield 72, 3) := by decide +kernel
theorem dX12_back_10 : decode cX12_back 10 = .ok (.aload_n 0, 1) := by decide +kernel
theorem dX12_back_11 : decode cX12_back 11 = .ok (.getfield 592, 3) := by decide +kernel
theorem dX12_back_14 : decode cX12_back 14 = .ok (.ifCond .ne 10, 3) := by decide +kernel
theorem dX12_back_17 : decode cX12_back 17 = .ok (.aload_n 0, 1) := by decide +kernel
theorem dX12_back_18 : decode cX12_back 18 = .ok (.bipush 8, 2) := by decide +kernel
theorem dX12_back_20 : decode cX12_back 20 = .ok (.invokevirtual 345, 3) := by decide +kernel
theorem dX12_back_23 : decode cX12_back 23 = .ok (.ireturn, 1) := by decide +kernel
theorem dX12_back_24 : decode cX12_back 24 = .ok (.aload_n 0, 1) := by decide +kernel
theorem dX12_back_25 : decode cX12_back 25 = .ok (.aload_n 0, 1) := by decide +kernel
theorem dX12_back_26 : decode cX12_back 26 = .ok (.getfield 592, 3) := by decide +kernel
theorem dX12_back_29 : decode cX12_back 29 = .ok (.iconst 0, 1) := by decide +kernel
theorem dX12_back_30 : decode cX12_back 30 = .ok (.invokevirtual 313, 3) := by decide +kernel
theorem dX12_back_33 : decode cX12_back 33 = .ok (.aload_n 0, 1) := by decide +kernel
theorem dX12_back_34 : decode cX12_back 34 = .ok (.dup, 1) := by decide +kernel
theorem dX12_back_35 : decode cX12_back 35 = .ok (.getfield 592, 3) := by decide +kernel
theorem dX12_back_38 : decode cX12_back 38 = .ok (.iconst 1, 1) := by decide +kernel
theorem dX12_back_39 : decode cX12_back 39 = .ok (.isub, 1) := by decide +kernel
theorem dX12_back_40 : decode cX12_back 40 = .ok (.putfield 592, 3) := by decide +kernel
theorem dX12_back_43 : decode cX12_back 43 = .ok (.aload_n 0, 1) := by decide +kernel
theorem dX12_back_44 : decode cX12_back 44 = .ok (.getfield 592, 3) := by decide +kernel
theorem dX12_back_47 : decode cX12_back 47 = .ok (.ireturn, 1) := by decide +kernel

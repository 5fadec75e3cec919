theorem dX0_init_0 : decode cX0_init 0 = .ok (.aload_n 0, 1) := by decide +kernel
theorem dX0_init_1 : decode cX0_init 1 = .ok (.invokespecial 3, 3) := by decide +kernel
theorem dX0_init_4 : decode cX0_init 4 = .ok (.aload_n 0, 1) := by decide +kernel
theorem dX0_init_5 : decode cX0_init 5 = .ok (.bipush 6, 2) := by decide +kernel
theorem dX0_init_7 : decode cX0_init 7 = .ok (.newarray .int, 2) := by decide +kernel
theorem dX0_init_9 : decode cX0_init 9 = .ok (.putfield 9, 3) := by decide +kernel
theorem dX0_init_12 : decode cX0_init 12 = .ok (.return_, 1) := by decide +kernel
theorem dX0_look_0 : decode cX0_look 0 = .ok (.aload_n 1, 1) := by decide +kernel
theorem dX0_look_1 : decode cX0_look 1 = .ok (.getfield 15, 3) := by decide +kernel
theorem dX0_look_4 : decode cX0_look 4 = .ok (.iconst 0, 1) := by decide +kernel
theorem dX0_look_5 : decode cX0_look 5 = .ok (.aload_n 0, 1) := by decide +kernel
theorem dX0_look_6 : decode cX0_look 6 = .ok (.getfield 9, 3) := by decide +kernel
theorem dX0_look_9 : decode cX0_look 9 = .ok (.iconst 0, 1) := by decide +kernel
theorem dX0_look_10 : decode cX0_look 10 = .ok (.bipush 6, 2) := by decide +kernel
theorem dX0_look_12 : decode cX0_look 12 = .ok (.invokestatic 20, 3) := by decide +kernel
theorem dX0_look_15 : decode cX0_look 15 = .ok (.iconst 1, 1) := by decide +kernel
theorem dX0_look_16 : decode cX0_look 16 = .ok (.istore_n 3, 1) := by decide +kernel
theorem dX0_look_17 : decode cX0_look 17 = .ok (.iconst 0, 1) := by decide +kernel
theorem dX0_look_18 : decode cX0_look 18 = .ok (.istore 4, 2) := by decide +kernel
theorem dX0_look_20 : decode cX0_look 20 = .ok (.iload 4, 2) := by decide +kernel
theorem dX0_look_22 : decode cX0_look 22 = .ok (.iload_n 2, 1) := by decide +kernel
theorem dX0_look_23 : decode cX0_look 23 = .ok (.if_icmp .ge 22, 3) := by decide +kernel
theorem dX0_look_26 : decode cX0_look 26 = .ok (.iload_n 3, 1) := by decide +kernel
theorem dX0_look_27 : decode cX0_look 27 = .ok (.ifCond .eq 18, 3) := by decide +kernel
theorem dX0_look_30 : decode cX0_look 30 = .ok (.aload_n 1, 1) := by decide +kernel
theorem dX0_look_31 : decode cX0_look 31 = .ok (.aload_n 0, 1) := by decide +kernel
theorem dX0_look_32 : decode cX0_look 32 = .ok (.getfield 9, 3) := by decide +kernel
theorem dX0_look_35 : decode cX0_look 35 = .ok (.invokevirtual 26, 3) := by decide +kernel
theorem dX0_look_38 : decode cX0_look 38 = .ok (.istore_n 3, 1) := by decide +kernel
theorem dX0_look_39 : decode cX0_look 39 = .ok (.iinc 4 1, 3) := by decide +kernel
theorem dX0_look_42 : decode cX0_look 42 = .ok (.goto (-22), 3) := by decide +kernel
theorem dX0_look_45 : decode cX0_look 45 = .ok (.return_, 1) := by decide +kernel
theorem dX0_daysTillDown_0 : decode cX0_daysTillDown 0 = .ok (.aload_n 1, 1) := by decide +kernel
theorem dX0_daysTillDown_1 : decode cX0_daysTillDown 1 = .ok (.getfield 30, 3) := by decide +kernel
theorem dX0_daysTillDown_4 : decode cX0_daysTillDown 4 = .ok (.iload_n 2, 1) := by decide +kernel
theorem dX0_daysTillDown_5 : decode cX0_daysTillDown 5 = .ok (.iaload, 1) := by decide +kernel
theorem dX0_daysTillDown_6 : decode cX0_daysTillDown 6 = .ok (.istore_n 3, 1) := by decide +kernel
theorem dX0_daysTillDown_7 : decode cX0_daysTillDown 7 = .ok (.aload_n 0, 1) := by decide +kernel
theorem dX0_daysTillDown_8 : decode cX0_daysTillDown 8 = .ok (.aload_n 1, 1) := by decide +kernel
theorem dX0_daysTillDown_9 : decode cX0_daysTillDown 9 = .ok (.iconst 0, 1) := by decide +kernel
theorem dX0_daysTillDown_10 : decode cX0_daysTillDown 10 = .ok (.invokevirtual 33, 3) := by decide +kernel
theorem dX0_daysTillDown_13 : decode cX0_daysTillDown 13 = .ok (.iconst 0, 1) := by decide +kernel
theorem dX0_daysTillDown_14 : decode cX0_daysTillDown 14 = .ok (.istore 4, 2) := by decide +kernel
theorem dX0_daysTillDown_16 : decode cX0_daysTillDown 16 = .ok (.iload 4, 2) := by decide +kernel
theorem dX0_daysTillDown_18 : decode cX0_daysTillDown 18 = .ok (.sipush 200, 3) := by decide +kernel
theorem dX0_daysTillDown_21 : decode cX0_daysTillDown 21 = .ok (.if_icmp .gt 35, 3) := by decide +kernel
theorem dX0_daysTillDown_24 : decode cX0_daysTillDown 24 = .ok (.aload_n 1, 1) := by decide +kernel
theorem dX0_daysTillDown_25 : decode cX0_daysTillDown 25 = .ok (.iload_n 2, 1) := by decide +kernel
theorem dX0_daysTillDown_26 : decode cX0_daysTillDown 26 = .ok (.aload_n 0, 1) := by decide +kernel
theorem dX0_daysTillDown_27 : decode cX0_daysTillDown 27 = .ok (.getfield 9, 3) := by decide +kernel
theorem dX0_daysTillDown_30 : decode cX0_daysTillDown 30 = .ok (.iload_n 3, 1) := by decide +kernel
theorem dX0_daysTillDown_31 : decode cX0_daysTillDown 31 = .ok (.iaload, 1) := by decide +kernel
theorem dX0_daysTillDown_32 : decode cX0_daysTillDown 32 = .ok (.invokevirtual 37, 3) := by decide +kernel
theorem dX0_daysTillDown_35 : decode cX0_daysTillDown 35 = .ok (.ifCond .ne 6, 3) := by decide +kernel
theorem dX0_daysTillDown_38 : decode cX0_daysTillDown 38 = .ok (.iload 4, 2) := by decide +kernel
theorem dX0_daysTillDown_40 : decode cX0_daysTillDown 40 = .ok (.ireturn, 1) := by decide +kernel
theorem dX0_daysTillDown_41 : decode cX0_daysTillDown 41 = .ok (.aload_n 1, 1) := by decide +kernel
theorem dX0_daysTillDown_42 : decode cX0_daysTillDown 42 = .ok (.aload_n 0, 1) := by decide +kernel
theorem dX0_daysTillDown_43 : decode cX0_daysTillDown 43 = .ok (.getfield 9, 3) := by decide +kernel
theorem dX0_daysTillDown_46 : decode cX0_daysTillDown 46 = .ok (.invokevirtual 26, 3) := by decide +kernel
theorem dX0_daysTillDown_49 : decode cX0_daysTillDown 49 = .ok (.pop, 1) := by decide +kernel
theorem dX0_daysTillDown_50 : decode cX0_daysTillDown 50 = .ok (.iinc 4 1, 3) := by decide +kernel
theorem dX0_daysTillDown_53 : decode cX0_daysTillDown 53 = .ok (.goto (-37), 3) := by decide +kernel
theorem dX0_daysTillDown_56 : decode cX0_daysTillDown 56 = .ok (.iconst (-1), 1) := by decide +kernel
theorem dX0_daysTillDown_57 : decode cX0_daysTillDown 57 = .ok (.ireturn, 1) := by decide +kernel
theorem dX0_fitting_0 : decode cX0_fitting 0 = .ok (.iconst 1, 1) := by decide +kernel
theorem dX0_fitting_1 : decode cX0_fitting 1 = .ok (.aload_n 1, 1) := by decide +kernel
theorem dX0_fitting_2 : decode cX0_fitting 2 = .ok (.getfield 41, 3) := by decide +kernel
theorem dX0_fitting_5 : decode cX0_fitting 5 = .ok (.ishl, 1) := by decide +kernel
theorem dX0_fitting_6 : decode cX0_fitting 6 = .ok (.iconst 1, 1) := by decide +kernel
theorem dX0_fitting_7 : decode cX0_fitting 7 = .ok (.isub, 1) := by decide +kernel
theorem dX0_fitting_8 : decode cX0_fitting 8 = .ok (.istore 5, 2) := by decide +kernel
theorem dX0_fitting_10 : decode cX0_fitting 10 = .ok (.iconst 0, 1) := by decide +kernel
theorem dX0_fitting_11 : decode cX0_fitting 11 = .ok (.istore 6, 2) := by decide +kernel
theorem dX0_fitting_13 : decode cX0_fitting 13 = .ok (.iload 6, 2) := by decide +kernel
theorem dX0_fitting_15 : decode cX0_fitting 15 = .ok (.iload 4, 2) := by decide +kernel
theorem dX0_fitting_17 : decode cX0_fitting 17 = .ok (.if_icmp .ge 75, 3) := by decide +kernel
theorem dX0_fitting_20 : decode cX0_fitting 20 = .ok (.aload_n 0, 1) := by decide +kernel
theorem dX0_fitting_21 : decode cX0_fitting 21 = .ok (.aload_n 1, 1) := by decide +kernel
theorem dX0_fitting_22 : decode cX0_fitting 22 = .ok (.aload_n 3, 1) := by decide +kernel
theorem dX0_fitting_23 : decode cX0_fitting 23 = .ok (.iconst 2, 1) := by decide +kernel
theorem dX0_fitting_24 : decode cX0_fitting 24 = .ok (.iload 6, 2) := by decide +kernel
theorem dX0_fitting_26 : decode cX0_fitting 26 = .ok (.imul, 1) := by decide +kernel
theorem dX0_fitting_27 : decode cX0_fitting 27 = .ok (.laload, 1) := by decide +kernel
theorem dX0_fitting_28 : decode cX0_fitting 28 = .ok (.l2i, 1) := by decide +kernel
theorem dX0_fitting_29 : decode cX0_fitting 29 = .ok (.invokevirtual 33, 3) := by decide +kernel
theorem dX0_fitting_32 : decode cX0_fitting 32 = .ok (.iconst 0, 1) := by decide +kernel
theorem dX0_fitting_33 : decode cX0_fitting 33 = .ok (.istore 7, 2) := by decide +kernel
theorem dX0_fitting_35 : decode cX0_fitting 35 = .ok (.iload 7, 2) := by decide +kernel
theorem dX0_fitting_37 : decode cX0_fitting 37 = .ok (.aload_n 1, 1) := by decide +kernel
theorem dX0_fitting_38 : decode cX0_fitting 38 = .ok (.getfield 41, 3) := by decide +kernel
theorem dX0_fitting_41 : decode cX0_fitting 41 = .ok (.if_icmp .ge 45, 3) := by decide +kernel
theorem dX0_fitting_44 : decode cX0_fitting 44 = .ok (.aload_n 1, 1) := by decide +kernel
theorem dX0_fitting_45 : decode cX0_fitting 45 = .ok (.iload_n 2, 1) := by decide +kernel
theorem dX0_fitting_46 : decode cX0_fitting 46 = .ok (.aload_n 0, 1) := by decide +kernel
theorem dX0_fitting_47 : decode cX0_fitting 47 = .ok (.getfield 9, 3) := by decide +kernel
theorem dX0_fitting_50 : decode cX0_fitting 50 = .ok (.iload 7, 2) := by decide +kernel
theorem dX0_fitting_52 : decode cX0_fitting 52 = .ok (.iaload, 1) := by decide +kernel
theorem dX0_fitting_53 : decode cX0_fitting 53 = .ok (.invokevirtual 37, 3) := by decide +kernel
theorem dX0_fitting_56 : decode cX0_fitting 56 = .ok (.i2l, 1) := by decide +kernel
theorem dX0_fitting_57 : decode cX0_fitting 57 = .ok (.aload_n 3, 1) := by decide +kernel
theorem dX0_fitting_58 : decode cX0_fitting 58 = .ok (.iconst 2, 1) := by decide +kernel
theorem dX0_fitting_59 : decode cX0_fitting 59 = .ok (.iload 6, 2) := by decide +kernel
theorem dX0_fitting_61 : decode cX0_fitting 61 = .ok (.imul, 1) := by decide +kernel
theorem dX0_fitting_62 : decode cX0_fitting 62 = .ok (.iconst 1, 1) := by decide +kernel
theorem dX0_fitting_63 : decode cX0_fitting 63 = .ok (.iadd, 1) := by decide +kernel
theorem dX0_fitting_64 : decode cX0_fitting 64 = .ok (.laload, 1) := by decide +kernel
theorem dX0_fitting_65 : decode cX0_fitting 65 = .ok (.lcmp, 1) := by decide +kernel
theorem dX0_fitting_66 : decode cX0_fitting 66 = .ok (.ifCond .eq 14, 3) := by decide +kernel
theorem dX0_fitting_69 : decode cX0_fitting 69 = .ok (.iload 5, 2) := by decide +kernel
theorem dX0_fitting_71 : decode cX0_fitting 71 = .ok (.iconst 1, 1) := by decide +kernel
theorem dX0_fitting_72 : decode cX0_fitting 72 = .ok (.iload 7, 2) := by decide +kernel
theorem dX0_fitting_74 : decode cX0_fitting 74 = .ok (.ishl, 1) := by decide +kernel
theorem dX0_fitting_75 : decode cX0_fitting 75 = .ok (.iconst (-1), 1) := by decide +kernel
theorem dX0_fitting_76 : decode cX0_fitting 76 = .ok (.ixor, 1) := by decide +kernel
theorem dX0_fitting_77 : decode cX0_fitting 77 = .ok (.iand, 1) := by decide +kernel
theorem dX0_fitting_78 : decode cX0_fitting 78 = .ok (.istore 5, 2) := by decide +kernel
theorem dX0_fitting_80 : decode cX0_fitting 80 = .ok (.iinc 7 1, 3) := by decide +kernel
theorem dX0_fitting_83 : decode cX0_fitting 83 = .ok (.goto (-48), 3) := by decide +kernel
theorem dX0_fitting_86 : decode cX0_fitting 86 = .ok (.iinc 6 1, 3) := by decide +kernel
theorem dX0_fitting_89 : decode cX0_fitting 89 = .ok (.goto (-76), 3) := by decide +kernel
theorem dX0_fitting_92 : decode cX0_fitting 92 = .ok (.iload 5, 2) := by decide +kernel
theorem dX0_fitting_94 : decode cX0_fitting 94 = .ok (.ireturn, 1) := by decide +kernel
theorem dX0_partingDays_0 : decode cX0_partingDays 0 = .ok (.iconst 0, 1) := by decide +kernel
theorem dX0_partingDays_1 : decode cX0_partingDays 1 = .ok (.istore 4, 2) := by decide +kernel
theorem dX0_partingDays_3 : decode cX0_partingDays 3 = .ok (.bipush 7, 2) := by decide +kernel
theorem dX0_partingDays_5 : decode cX0_partingDays 5 = .ok (.istore 5, 2) := by decide +kernel
theorem dX0_partingDays_7 : decode cX0_partingDays 7 = .ok (.aload_n 0, 1) := by decide +kernel
theorem dX0_partingDays_8 : decode cX0_partingDays 8 = .ok (.aload_n 1, 1) := by decide +kernel
theorem dX0_partingDays_9 : decode cX0_partingDays 9 = .ok (.iconst 0, 1) := by decide +kernel
theorem dX0_partingDays_10 : decode cX0_partingDays 10 = .ok (.invokevirtual 33, 3) := by decide +kernel
theorem dX0_partingDays_13 : decode cX0_partingDays 13 = .ok (.iconst 0, 1) := by decide +kernel
theorem dX0_partingDays_14 : decode cX0_partingDays 14 = .ok (.istore 6, 2) := by decide +kernel
theorem dX0_partingDays_16 : decode cX0_partingDays 16 = .ok (.iload 6, 2) := by decide +kernel
theorem dX0_partingDays_18 : decode cX0_partingDays 18 = .ok (.bipush 40, 2) := by decide +kernel
theorem dX0_partingDays_20 : decode cX0_partingDays 20 = .ok (.if_icmp .gt 42, 3) := by decide +kernel
theorem dX0_partingDays_23 : decode cX0_partingDays 23 = .ok (.aload_n 0, 1) := by decide +kernel
theorem dX0_partingDays_24 : decode cX0_partingDays 24 = .ok (.aload_n 1, 1) := by decide +kernel
theorem dX0_partingDays_25 : decode cX0_partingDays 25 = .ok (.iload_n 2, 1) := by decide +kernel
theorem dX0_partingDays_26 : decode cX0_partingDays 26 = .ok (.iload_n 3, 1) := by decide +kernel
theorem dX0_partingDays_27 : decode cX0_partingDays 27 = .ok (.invokevirtual 45, 3) := by decide +kernel
theorem dX0_partingDays_30 : decode cX0_partingDays 30 = .ok (.istore 7, 2) := by decide +kernel
theorem dX0_partingDays_32 : decode cX0_partingDays 32 = .ok (.iload 7, 2) := by decide +kernel
theorem dX0_partingDays_34 : decode cX0_partingDays 34 = .ok (.iload 5, 2) := by decide +kernel
theorem dX0_partingDays_36 : decode cX0_partingDays 36 = .ok (.if_icmp .ge 11, 3) := by decide +kernel
theorem dX0_partingDays_39 : decode cX0_partingDays 39 = .ok (.iload 7, 2) := by decide +kernel
theorem dX0_partingDays_41 : decode cX0_partingDays 41 = .ok (.istore 5, 2) := by decide +kernel
theorem dX0_partingDays_43 : decode cX0_partingDays 43 = .ok (.iload 6, 2) := by decide +kernel
theorem dX0_partingDays_45 : decode cX0_partingDays 45 = .ok (.istore 4, 2) := by decide +kernel
theorem dX0_partingDays_47 : decode cX0_partingDays 47 = .ok (.aload_n 1, 1) := by decide +kernel
theorem dX0_partingDays_48 : decode cX0_partingDays 48 = .ok (.aload_n 0, 1) := by decide +kernel
theorem dX0_partingDays_49 : decode cX0_partingDays 49 = .ok (.getfield 9, 3) := by decide +kernel
theorem dX0_partingDays_52 : decode cX0_partingDays 52 = .ok (.invokevirtual 26, 3) := by decide +kernel
theorem dX0_partingDays_55 : decode cX0_partingDays 55 = .ok (.pop, 1) := by decide +kernel
theorem dX0_partingDays_56 : decode cX0_partingDays 56 = .ok (.iinc 6 1, 3) := by decide +kernel
theorem dX0_partingDays_59 : decode cX0_partingDays 59 = .ok (.goto (-43), 3) := by decide +kernel
theorem dX0_partingDays_62 : decode cX0_partingDays 62 = .ok (.iload 4, 2) := by decide +kernel
theorem dX0_partingDays_64 : decode cX0_partingDays 64 = .ok (.ireturn, 1) := by decide +kernel
theorem dX0_largestCrowd_0 : decode cX0_largestCrowd 0 = .ok (.iconst 0, 1) := by decide +kernel
theorem dX0_largestCrowd_1 : decode cX0_largestCrowd 1 = .ok (.istore 4, 2) := by decide +kernel
theorem dX0_largestCrowd_3 : decode cX0_largestCrowd 3 = .ok (.iconst 0, 1) := by decide +kernel
theorem dX0_largestCrowd_4 : decode cX0_largestCrowd 4 = .ok (.istore 5, 2) := by decide +kernel
theorem dX0_largestCrowd_6 : decode cX0_largestCrowd 6 = .ok (.iload 5, 2) := by decide +kernel
theorem dX0_largestCrowd_8 : decode cX0_largestCrowd 8 = .ok (.aload_n 1, 1) := by decide +kernel
theorem dX0_largestCrowd_9 : decode cX0_largestCrowd 9 = .ok (.getfield 41, 3) := by decide +kernel
theorem dX0_largestCrowd_12 : decode cX0_largestCrowd 12 = .ok (.if_icmp .ge 101, 3) := by decide +kernel
theorem dX0_largestCrowd_15 : decode cX0_largestCrowd 15 = .ok (.iconst 0, 1) := by decide +kernel
theorem dX0_largestCrowd_16 : decode cX0_largestCrowd 16 = .ok (.istore 6, 2) := by decide +kernel
theorem dX0_largestCrowd_18 : decode cX0_largestCrowd 18 = .ok (.iconst 0, 1) := by decide +kernel
theorem dX0_largestCrowd_19 : decode cX0_largestCrowd 19 = .ok (.istore 7, 2) := by decide +kernel
theorem dX0_largestCrowd_21 : decode cX0_largestCrowd 21 = .ok (.iload 7, 2) := by decide +kernel
theorem dX0_largestCrowd_23 : decode cX0_largestCrowd 23 = .ok (.aload_n 1, 1) := by decide +kernel
theorem dX0_largestCrowd_24 : decode cX0_largestCrowd 24 = .ok (.getfield 41, 3) := by decide +kernel
theorem dX0_largestCrowd_27 : decode cX0_largestCrowd 27 = .ok (.if_icmp .ge 71, 3) := by decide +kernel
theorem dX0_largestCrowd_30 : decode cX0_largestCrowd 30 = .ok (.aload_n 1, 1) := by decide +kernel
theorem dX0_largestCrowd_31 : decode cX0_largestCrowd 31 = .ok (.iload_n 2, 1) := by decide +kernel
theorem dX0_largestCrowd_32 : decode cX0_largestCrowd 32 = .ok (.aload_n 0, 1) := by decide +kernel
theorem dX0_largestCrowd_33 : decode cX0_largestCrowd 33 = .ok (.getfield 9, 3) := by decide +kernel
theorem dX0_largestCrowd_36 : decode cX0_largestCrowd 36 = .ok (.iload 5, 2) := by decide +kernel
theorem dX0_largestCrowd_38 : decode cX0_largestCrowd 38 = .ok (.iaload, 1) := by decide +kernel
theorem dX0_largestCrowd_39 : decode cX0_largestCrowd 39 = .ok (.invokevirtual 37, 3) := by decide +kernel
theorem dX0_largestCrowd_42 : decode cX0_largestCrowd 42 = .ok (.aload_n 1, 1) := by decide +kernel
theorem dX0_largestCrowd_43 : decode cX0_largestCrowd 43 = .ok (.iload_n 2, 1) := by decide +kernel
theorem dX0_largestCrowd_44 : decode cX0_largestCrowd 44 = .ok (.aload_n 0, 1) := by decide +kernel
theorem dX0_largestCrowd_45 : decode cX0_largestCrowd 45 = .ok (.getfield 9, 3) := by decide +kernel
theorem dX0_largestCrowd_48 : decode cX0_largestCrowd 48 = .ok (.iload 7, 2) := by decide +kernel
theorem dX0_largestCrowd_50 : decode cX0_largestCrowd 50 = .ok (.iaload, 1) := by decide +kernel
theorem dX0_largestCrowd_51 : decode cX0_largestCrowd 51 = .ok (.invokevirtual 37, 3) := by decide +kernel
theorem dX0_largestCrowd_54 : decode cX0_largestCrowd 54 = .ok (.if_icmp .ne 7, 3) := by decide +kernel
theorem dX0_largestCrowd_57 : decode cX0_largestCrowd 57 = .ok (.iconst 1, 1) := by decide +kernel
theorem dX0_largestCrowd_58 : decode cX0_largestCrowd 58 = .ok (.goto 4, 3) := by decide +kernel
theorem dX0_largestCrowd_61 : decode cX0_largestCrowd 61 = .ok (.iconst 0, 1) := by decide +kernel
theorem dX0_largestCrowd_62 : decode cX0_largestCrowd 62 = .ok (.istore 8, 2) := by decide +kernel
theorem dX0_largestCrowd_64 : decode cX0_largestCrowd 64 = .ok (.iload 8, 2) := by decide +kernel
theorem dX0_largestCrowd_66 : decode cX0_largestCrowd 66 = .ok (.ifCond .eq 26, 3) := by decide +kernel
theorem dX0_largestCrowd_69 : decode cX0_largestCrowd 69 = .ok (.iload_n 3, 1) := by decide +kernel
theorem dX0_largestCrowd_70 : decode cX0_largestCrowd 70 = .ok (.iload 5, 2) := by decide +kernel
theorem dX0_largestCrowd_72 : decode cX0_largestCrowd 72 = .ok (.ishr, 1) := by decide +kernel
theorem dX0_largestCrowd_73 : decode cX0_largestCrowd 73 = .ok (.iconst 1, 1) := by decide +kernel
theorem dX0_largestCrowd_74 : decode cX0_largestCrowd 74 = .ok (.iand, 1) := by decide +kernel
theorem dX0_largestCrowd_75 : decode cX0_largestCrowd 75 = .ok (.iconst 1, 1) := by decide +kernel
theorem dX0_largestCrowd_76 : decode cX0_largestCrowd 76 = .ok (.if_icmp .ne 16, 3) := by decide +kernel
theorem dX0_largestCrowd_79 : decode cX0_largestCrowd 79 = .ok (.iload_n 3, 1) := by decide +kernel
theorem dX0_largestCrowd_80 : decode cX0_largestCrowd 80 = .ok (.iload 7, 2) := by decide +kernel
theorem dX0_largestCrowd_82 : decode cX0_largestCrowd 82 = .ok (.ishr, 1) := by decide +kernel
theorem dX0_largestCrowd_83 : decode cX0_largestCrowd 83 = .ok (.iconst 1, 1) := by decide +kernel
theorem dX0_largestCrowd_84 : decode cX0_largestCrowd 84 = .ok (.iand, 1) := by decide +kernel
theorem dX0_largestCrowd_85 : decode cX0_largestCrowd 85 = .ok (.iconst 1, 1) := by decide +kernel
theorem dX0_largestCrowd_86 : decode cX0_largestCrowd 86 = .ok (.if_icmp .ne 6, 3) := by decide +kernel
theorem dX0_largestCrowd_89 : decode cX0_largestCrowd 89 = .ok (.iinc 6 1, 3) := by decide +kernel
theorem dX0_largestCrowd_92 : decode cX0_largestCrowd 92 = .ok (.iinc 7 1, 3) := by decide +kernel
theorem dX0_largestCrowd_95 : decode cX0_largestCrowd 95 = .ok (.goto (-74), 3) := by decide +kernel
theorem dX0_largestCrowd_98 : decode cX0_largestCrowd 98 = .ok (.iload 4, 2) := by decide +kernel
theorem dX0_largestCrowd_100 : decode cX0_largestCrowd 100 = .ok (.iload 6, 2) := by decide +kernel
theorem dX0_largestCrowd_102 : decode cX0_largestCrowd 102 = .ok (.invokestatic 49, 3) := by decide +kernel
theorem dX0_largestCrowd_105 : decode cX0_largestCrowd 105 = .ok (.istore 4, 2) := by decide +kernel
theorem dX0_largestCrowd_107 : decode cX0_largestCrowd 107 = .ok (.iinc 5 1, 3) := by decide +kernel
theorem dX0_largestCrowd_110 : decode cX0_largestCrowd 110 = .ok (.goto (-104), 3) := by decide +kernel
theorem dX0_largestCrowd_113 : decode cX0_largestCrowd 113 = .ok (.iload 4, 2) := by decide +kernel
theorem dX0_largestCrowd_115 : decode cX0_largestCrowd 115 = .ok (.ireturn, 1) := by decide +kernel
theorem dX0_lawCount_0 : decode cX0_lawCount 0 = .ok (.iconst 0, 1) := by decide +kernel
theorem dX0_lawCount_1 : decode cX0_lawCount 1 = .ok (.istore_n 2, 1) := by decide +kernel
theorem dX0_lawCount_2 : decode cX0_lawCount 2 = .ok (.iconst 1, 1) := by decide +kernel
theorem dX0_lawCount_3 : decode cX0_lawCount 3 = .ok (.istore_n 3, 1) := by decide +kernel
theorem dX0_lawCount_4 : decode cX0_lawCount 4 = .ok (.iload_n 3, 1) := by decide +kernel
theorem dX0_lawCount_5 : decode cX0_lawCount 5 = .ok (.bipush 99, 2) := by decide +kernel
theorem dX0_lawCount_7 : decode cX0_lawCount 7 = .ok (.if_icmp .gt 39, 3) := by decide +kernel
theorem dX0_lawCount_10 : decode cX0_lawCount 10 = .ok (.iconst 0, 1) := by decide +kernel
theorem dX0_lawCount_11 : decode cX0_lawCount 11 = .ok (.istore 4, 2) := by decide +kernel
theorem dX0_lawCount_13 : decode cX0_lawCount 13 = .ok (.iload 4, 2) := by decide +kernel
theorem dX0_lawCount_15 : decode cX0_lawCount 15 = .ok (.bipush 20, 2) := by decide +kernel
theorem dX0_lawCount_17 : decode cX0_lawCount 17 = .ok (.if_icmp .gt 23, 3) := by decide +kernel
theorem dX0_lawCount_20 : decode cX0_lawCount 20 = .ok (.iload_n 3, 1) := by decide +kernel
theorem dX0_lawCount_21 : decode cX0_lawCount 21 = .ok (.iload 4, 2) := by decide +kernel
theorem dX0_lawCount_23 : decode cX0_lawCount 23 = .ok (.aload_n 0, 1) := by decide +kernel
theorem dX0_lawCount_24 : decode cX0_lawCount 24 = .ok (.iload_n 1, 1) := by decide +kernel
theorem dX0_lawCount_25 : decode cX0_lawCount 25 = .ok (.invokestatic 54, 3) := by decide +kernel
theorem dX0_lawCount_28 : decode cX0_lawCount 28 = .ok (.ifCond .eq 6, 3) := by decide +kernel
theorem dX0_lawCount_31 : decode cX0_lawCount 31 = .ok (.iinc 2 1, 3) := by decide +kernel
theorem dX0_lawCount_34 : decode cX0_lawCount 34 = .ok (.iinc 4 1, 3) := by decide +kernel
theorem dX0_lawCount_37 : decode cX0_lawCount 37 = .ok (.goto (-24), 3) := by decide +kernel
theorem dX0_lawCount_40 : decode cX0_lawCount 40 = .ok (.iinc 3 1, 3) := by decide +kernel
theorem dX0_lawCount_43 : decode cX0_lawCount 43 = .ok (.goto (-39), 3) := by decide +kernel
theorem dX0_lawCount_46 : decode cX0_lawCount 46 = .ok (.iload_n 2, 1) := by decide +kernel
theorem dX0_lawCount_47 : decode cX0_lawCount 47 = .ok (.ireturn, 1) := by decide +kernel
theorem dX0_firstLaw_0 : decode cX0_firstLaw 0 = .ok (.iconst 1, 1) := by decide +kernel
theorem dX0_firstLaw_1 : decode cX0_firstLaw 1 = .ok (.istore_n 2, 1) := by decide +kernel
theorem dX0_firstLaw_2 : decode cX0_firstLaw 2 = .ok (.iload_n 2, 1) := by decide +kernel
theorem dX0_firstLaw_3 : decode cX0_firstLaw 3 = .ok (.bipush 99, 2) := by decide +kernel
theorem dX0_firstLaw_5 : decode cX0_firstLaw 5 = .ok (.if_icmp .gt 40, 3) := by decide +kernel
theorem dX0_firstLaw_8 : decode cX0_firstLaw 8 = .ok (.iconst 0, 1) := by decide +kernel
theorem dX0_firstLaw_9 : decode cX0_firstLaw 9 = .ok (.istore_n 3, 1) := by decide +kernel
theorem dX0_firstLaw_10 : decode cX0_firstLaw 10 = .ok (.iload_n 3, 1) := by decide +kernel
theorem dX0_firstLaw_11 : decode cX0_firstLaw 11 = .ok (.bipush 20, 2) := by decide +kernel
theorem dX0_firstLaw_13 : decode cX0_firstLaw 13 = .ok (.if_icmp .gt 26, 3) := by decide +kernel
theorem dX0_firstLaw_16 : decode cX0_firstLaw 16 = .ok (.iload_n 2, 1) := by decide +kernel
theorem dX0_firstLaw_17 : decode cX0_firstLaw 17 = .ok (.iload_n 3, 1) := by decide +kernel
theorem dX0_firstLaw_18 : decode cX0_firstLaw 18 = .ok (.aload_n 0, 1) := by decide +kernel
theorem dX0_firstLaw_19 : decode cX0_firstLaw 19 = .ok (.iload_n 1, 1) := by decide +kernel
theorem dX0_firstLaw_20 : decode cX0_firstLaw 20 = .ok (.invokestatic 54, 3) := by decide +kernel
theorem dX0_firstLaw_23 : decode cX0_firstLaw 23 = .ok (.ifCond .eq 10, 3) := by decide +kernel
theorem dX0_firstLaw_26 : decode cX0_firstLaw 26 = .ok (.iload_n 2, 1) := by decide +kernel
theorem dX0_firstLaw_27 : decode cX0_firstLaw 27 = .ok (.bipush 21, 2) := by decide +kernel
theorem dX0_firstLaw_29 : decode cX0_firstLaw 29 = .ok (.imul, 1) := by decide +kernel
theorem dX0_firstLaw_30 : decode cX0_firstLaw 30 = .ok (.iload_n 3, 1) := by decide +kernel
theorem dX0_firstLaw_31 : decode cX0_firstLaw 31 = .ok (.iadd, 1) := by decide +kernel
theorem dX0_firstLaw_32 : decode cX0_firstLaw 32 = .ok (.ireturn, 1) := by decide +kernel
theorem dX0_firstLaw_33 : decode cX0_firstLaw 33 = .ok (.iinc 3 1, 3) := by decide +kernel
theorem dX0_firstLaw_36 : decode cX0_firstLaw 36 = .ok (.goto (-26), 3) := by decide +kernel
theorem dX0_firstLaw_39 : decode cX0_firstLaw 39 = .ok (.iinc 2 1, 3) := by decide +kernel
theorem dX0_firstLaw_42 : decode cX0_firstLaw 42 = .ok (.goto (-40), 3) := by decide +kernel
theorem dX0_firstLaw_45 : decode cX0_firstLaw 45 = .ok (.iconst (-1), 1) := by decide +kernel
theorem dX0_firstLaw_46 : decode cX0_firstLaw 46 = .ok (.ireturn, 1) := by decide +kernel
theorem dX0_isLaw_0 : decode cX0_isLaw 0 = .ok (.iconst 0, 1) := by decide +kernel
theorem dX0_isLaw_1 : decode cX0_isLaw 1 = .ok (.istore 4, 2) := by decide +kernel
theorem dX0_isLaw_3 : decode cX0_isLaw 3 = .ok (.iload 4, 2) := by decide +kernel
theorem dX0_isLaw_5 : decode cX0_isLaw 5 = .ok (.iload_n 3, 1) := by decide +kernel
theorem dX0_isLaw_6 : decode cX0_isLaw 6 = .ok (.if_icmp .ge 50, 3) := by decide +kernel
theorem dX0_isLaw_9 : decode cX0_isLaw 9 = .ok (.bipush 100, 2) := by decide +kernel
theorem dX0_isLaw_11 : decode cX0_isLaw 11 = .ok (.iload_n 1, 1) := by decide +kernel
theorem dX0_isLaw_12 : decode cX0_isLaw 12 = .ok (.aload_n 2, 1) := by decide +kernel
theorem dX0_isLaw_13 : decode cX0_isLaw 13 = .ok (.iconst 2, 1) := by decide +kernel
theorem dX0_isLaw_14 : decode cX0_isLaw 14 = .ok (.iload 4, 2) := by decide +kernel
theorem dX0_isLaw_16 : decode cX0_isLaw 16 = .ok (.imul, 1) := by decide +kernel
theorem dX0_isLaw_17 : decode cX0_isLaw 17 = .ok (.laload, 1) := by decide +kernel
theorem dX0_isLaw_18 : decode cX0_isLaw 18 = .ok (.l2i, 1) := by decide +kernel
theorem dX0_isLaw_19 : decode cX0_isLaw 19 = .ok (.imul, 1) := by decide +kernel
theorem dX0_isLaw_20 : decode cX0_isLaw 20 = .ok (.invokestatic 58, 3) := by decide +kernel
theorem dX0_isLaw_23 : decode cX0_isLaw 23 = .ok (.istore 5, 2) := by decide +kernel
theorem dX0_isLaw_25 : decode cX0_isLaw 25 = .ok (.iload_n 0, 1) := by decide +kernel
theorem dX0_isLaw_26 : decode cX0_isLaw 26 = .ok (.bipush 100, 2) := by decide +kernel
theorem dX0_isLaw_28 : decode cX0_isLaw 28 = .ok (.iload 5, 2) := by decide +kernel
theorem dX0_isLaw_30 : decode cX0_isLaw 30 = .ok (.isub, 1) := by decide +kernel
theorem dX0_isLaw_31 : decode cX0_isLaw 31 = .ok (.imul, 1) := by decide +kernel
theorem dX0_isLaw_32 : decode cX0_isLaw 32 = .ok (.bipush 100, 2) := by decide +kernel
theorem dX0_isLaw_34 : decode cX0_isLaw 34 = .ok (.idiv, 1) := by decide +kernel
theorem dX0_isLaw_35 : decode cX0_isLaw 35 = .ok (.i2l, 1) := by decide +kernel
theorem dX0_isLaw_36 : decode cX0_isLaw 36 = .ok (.aload_n 2, 1) := by decide +kernel
theorem dX0_isLaw_37 : decode cX0_isLaw 37 = .ok (.iconst 2, 1) := by decide +kernel
theorem dX0_isLaw_38 : decode cX0_isLaw 38 = .ok (.iload 4, 2) := by decide +kernel
theorem dX0_isLaw_40 : decode cX0_isLaw 40 = .ok (.imul, 1) := by decide +kernel
theorem dX0_isLaw_41 : decode cX0_isLaw 41 = .ok (.iconst 1, 1) := by decide +kernel
theorem dX0_isLaw_42 : decode cX0_isLaw 42 = .ok (.iadd, 1) := by decide +kernel
theorem dX0_isLaw_43 : decode cX0_isLaw 43 = .ok (.laload, 1) := by decide +kernel
theorem dX0_isLaw_44 : decode cX0_isLaw 44 = .ok (.lcmp, 1) := by decide +kernel
theorem dX0_isLaw_45 : decode cX0_isLaw 45 = .ok (.ifCond .eq 5, 3) := by decide +kernel
theorem dX0_isLaw_48 : decode cX0_isLaw 48 = .ok (.iconst 0, 1) := by decide +kernel
theorem dX0_isLaw_49 : decode cX0_isLaw 49 = .ok (.ireturn, 1) := by decide +kernel
theorem dX0_isLaw_50 : decode cX0_isLaw 50 = .ok (.iinc 4 1, 3) := by decide +kernel
theorem dX0_isLaw_53 : decode cX0_isLaw 53 = .ok (.goto (-50), 3) := by decide +kernel
theorem dX0_isLaw_56 : decode cX0_isLaw 56 = .ok (.iconst 1, 1) := by decide +kernel
theorem dX0_isLaw_57 : decode cX0_isLaw 57 = .ok (.ireturn, 1) := by decide +kernel
theorem dX1_init_0 : decode cX1_init 0 = .ok (.aload_n 0, 1) := by decide +kernel
theorem dX1_init_1 : decode cX1_init 1 = .ok (.invokespecial 3, 3) := by decide +kernel
theorem dX1_init_4 : decode cX1_init 4 = .ok (.aload_n 0, 1) := by decide +kernel
theorem dX1_init_5 : decode cX1_init 5 = .ok (.bipush 6, 2) := by decide +kernel
theorem dX1_init_7 : decode cX1_init 7 = .ok (.newarray .int, 2) := by decide +kernel
theorem dX1_init_9 : decode cX1_init 9 = .ok (.putfield 9, 3) := by decide +kernel
theorem dX1_init_12 : decode cX1_init 12 = .ok (.return_, 1) := by decide +kernel
theorem dX1_begin_0 : decode cX1_begin 0 = .ok (.aload_n 0, 1) := by decide +kernel
theorem dX1_begin_1 : decode cX1_begin 1 = .ok (.iload_n 2, 1) := by decide +kernel
theorem dX1_begin_2 : decode cX1_begin 2 = .ok (.putfield 15, 3) := by decide +kernel
theorem dX1_begin_5 : decode cX1_begin 5 = .ok (.aload_n 0, 1) := by decide +kernel
theorem dX1_begin_6 : decode cX1_begin 6 = .ok (.iload_n 3, 1) := by decide +kernel
theorem dX1_begin_7 : decode cX1_begin 7 = .ok (.putfield 19, 3) := by decide +kernel
theorem dX1_begin_10 : decode cX1_begin 10 = .ok (.aload_n 1, 1) := by decide +kernel
theorem dX1_begin_11 : decode cX1_begin 11 = .ok (.getfield 22, 3) := by decide +kernel
theorem dX1_begin_14 : decode cX1_begin 14 = .ok (.iconst 0, 1) := by decide +kernel
theorem dX1_begin_15 : decode cX1_begin 15 = .ok (.aload_n 0, 1) := by decide +kernel
theorem dX1_begin_16 : decode cX1_begin 16 = .ok (.getfield 9, 3) := by decide +kernel
theorem dX1_begin_19 : decode cX1_begin 19 = .ok (.iconst 0, 1) := by decide +kernel
theorem dX1_begin_20 : decode cX1_begin 20 = .ok (.bipush 6, 2) := by decide +kernel
theorem dX1_begin_22 : decode cX1_begin 22 = .ok (.invokestatic 27, 3) := by decide +kernel
theorem dX1_begin_25 : decode cX1_begin 25 = .ok (.return_, 1) := by decide +kernel
theorem dX1_valueOf_0 : decode cX1_valueOf 0 = .ok (.aload_n 0, 1) := by decide +kernel
theorem dX1_valueOf_1 : decode cX1_valueOf 1 = .ok (.aload_n 1, 1) := by decide +kernel
theorem dX1_valueOf_2 : decode cX1_valueOf 2 = .ok (.iload_n 2, 1) := by decide +kernel
theorem dX1_valueOf_3 : decode cX1_valueOf 3 = .ok (.iload_n 3, 1) := by decide +kernel
theorem dX1_valueOf_4 : decode cX1_valueOf 4 = .ok (.invokevirtual 33, 3) := by decide +kernel
theorem dX1_valueOf_7 : decode cX1_valueOf 7 = .ok (.aload_n 0, 1) := by decide +kernel
theorem dX1_valueOf_8 : decode cX1_valueOf 8 = .ok (.aload_n 1, 1) := by decide +kernel
theorem dX1_valueOf_9 : decode cX1_valueOf 9 = .ok (.iload 4, 2) := by decide +kernel
theorem dX1_valueOf_11 : decode cX1_valueOf 11 = .ok (.iconst 1, 1) := by decide +kernel
theorem dX1_valueOf_12 : decode cX1_valueOf 12 = .ok (.aload_n 1, 1) := by decide +kernel
theorem dX1_valueOf_13 : decode cX1_valueOf 13 = .ok (.getfield 37, 3) := by decide +kernel
theorem dX1_valueOf_16 : decode cX1_valueOf 16 = .ok (.invokevirtual 40, 3) := by decide +kernel
theorem dX1_valueOf_19 : decode cX1_valueOf 19 = .ok (.ireturn, 1) := by decide +kernel
theorem dX1_firstNews_0 : decode cX1_firstNews 0 = .ok (.aload_n 0, 1) := by decide +kernel
theorem dX1_firstNews_1 : decode cX1_firstNews 1 = .ok (.aload_n 1, 1) := by decide +kernel
theorem dX1_firstNews_2 : decode cX1_firstNews 2 = .ok (.iload_n 2, 1) := by decide +kernel
theorem dX1_firstNews_3 : decode cX1_firstNews 3 = .ok (.iload_n 3, 1) := by decide +kernel
theorem dX1_firstNews_4 : decode cX1_firstNews 4 = .ok (.invokevirtual 33, 3) := by decide +kernel
theorem dX1_firstNews_7 : decode cX1_firstNews 7 = .ok (.iconst (-1), 1) := by decide +kernel
theorem dX1_firstNews_8 : decode cX1_firstNews 8 = .ok (.istore 5, 2) := by decide +kernel
theorem dX1_firstNews_10 : decode cX1_firstNews 10 = .ok (.aload_n 0, 1) := by decide +kernel
theorem dX1_firstNews_11 : decode cX1_firstNews 11 = .ok (.aload_n 1, 1) := by decide +kernel
theorem dX1_firstNews_12 : decode cX1_firstNews 12 = .ok (.iload 4, 2) := by decide +kernel
theorem dX1_firstNews_14 : decode cX1_firstNews 14 = .ok (.iconst 1, 1) := by decide +kernel
theorem dX1_firstNews_15 : decode cX1_firstNews 15 = .ok (.isub, 1) := by decide +kernel
theorem dX1_firstNews_16 : decode cX1_firstNews 16 = .ok (.iconst 0, 1) := by decide +kernel
theorem dX1_firstNews_17 : decode cX1_firstNews 17 = .ok (.aload_n 1, 1) := by decide +kernel
theorem dX1_firstNews_18 : decode cX1_firstNews 18 = .ok (.getfield 37, 3) := by decide +kernel
theorem dX1_firstNews_21 : decode cX1_firstNews 21 = .ok (.invokevirtual 40, 3) := by decide +kernel
theorem dX1_firstNews_24 : decode cX1_firstNews 24 = .ok (.istore 6, 2) := by decide +kernel
theorem dX1_firstNews_26 : decode cX1_firstNews 26 = .ok (.aload_n 1, 1) := by decide +kernel
theorem dX1_firstNews_27 : decode cX1_firstNews 27 = .ok (.getfield 44, 3) := by decide +kernel
theorem dX1_firstNews_30 : decode cX1_firstNews 30 = .ok (.iconst 1, 1) := by decide +kernel
theorem dX1_firstNews_31 : decode cX1_firstNews 31 = .ok (.isub, 1) := by decide +kernel
theorem dX1_firstNews_32 : decode cX1_firstNews 32 = .ok (.istore 7, 2) := by decide +kernel
theorem dX1_firstNews_34 : decode cX1_firstNews 34 = .ok (.iload 7, 2) := by decide +kernel
theorem dX1_firstNews_36 : decode cX1_firstNews 36 = .ok (.ifCond .lt 54, 3) := by decide +kernel
theorem dX1_firstNews_39 : decode cX1_firstNews 39 = .ok (.aload_n 0, 1) := by decide +kernel
theorem dX1_firstNews_40 : decode cX1_firstNews 40 = .ok (.aload_n 1, 1) := by decide +kernel
theorem dX1_firstNews_41 : decode cX1_firstNews 41 = .ok (.aload_n 1, 1) := by decide +kernel
theorem dX1_firstNews_42 : decode cX1_firstNews 42 = .ok (.getfield 37, 3) := by decide +kernel
theorem dX1_firstNews_45 : decode cX1_firstNews 45 = .ok (.iload 7, 2) := by decide +kernel
theorem dX1_firstNews_47 : decode cX1_firstNews 47 = .ok (.invokevirtual 47, 3) := by decide +kernel
theorem dX1_firstNews_50 : decode cX1_firstNews 50 = .ok (.ifCond .eq 34, 3) := by decide +kernel
theorem dX1_firstNews_53 : decode cX1_firstNews 53 = .ok (.aload_n 0, 1) := by decide +kernel
theorem dX1_firstNews_54 : decode cX1_firstNews 54 = .ok (.aload_n 1, 1) := by decide +kernel
theorem dX1_firstNews_55 : decode cX1_firstNews 55 = .ok (.iload 7, 2) := by decide +kernel
theorem dX1_firstNews_57 : decode cX1_firstNews 57 = .ok (.iload 4, 2) := by decide +kernel
theorem dX1_firstNews_59 : decode cX1_firstNews 59 = .ok (.iconst 1, 1) := by decide +kernel
theorem dX1_firstNews_60 : decode cX1_firstNews 60 = .ok (.aload_n 1, 1) := by decide +kernel
theorem dX1_firstNews_61 : decode cX1_firstNews 61 = .ok (.getfield 37, 3) := by decide +kernel
theorem dX1_firstNews_64 : decode cX1_firstNews 64 = .ok (.invokevirtual 51, 3) := by decide +kernel
theorem dX1_firstNews_67 : decode cX1_firstNews 67 = .ok (.istore 8, 2) := by decide +kernel
theorem dX1_firstNews_69 : decode cX1_firstNews 69 = .ok (.iload 8, 2) := by decide +kernel
theorem dX1_firstNews_71 : decode cX1_firstNews 71 = .ok (.iload 6, 2) := by decide +kernel
theorem dX1_firstNews_73 : decode cX1_firstNews 73 = .ok (.if_icmp .lt 11, 3) := by decide +kernel
theorem dX1_firstNews_76 : decode cX1_firstNews 76 = .ok (.iload 8, 2) := by decide +kernel
theorem dX1_firstNews_78 : decode cX1_firstNews 78 = .ok (.istore 6, 2) := by decide +kernel
theorem dX1_firstNews_80 : decode cX1_firstNews 80 = .ok (.iload 7, 2) := by decide +kernel
theorem dX1_firstNews_82 : decode cX1_firstNews 82 = .ok (.istore 5, 2) := by decide +kernel
theorem dX1_firstNews_84 : decode cX1_firstNews 84 = .ok (.iinc 7 (-1), 3) := by decide +kernel
theorem dX1_firstNews_87 : decode cX1_firstNews 87 = .ok (.goto (-53), 3) := by decide +kernel
theorem dX1_firstNews_90 : decode cX1_firstNews 90 = .ok (.iload 5, 2) := by decide +kernel
theorem dX1_firstNews_92 : decode cX1_firstNews 92 = .ok (.ireturn, 1) := by decide +kernel
theorem dX1_canCome_0 : decode cX1_canCome 0 = .ok (.iload_n 2, 1) := by decide +kernel
theorem dX1_canCome_1 : decode cX1_canCome 1 = .ok (.iload_n 3, 1) := by decide +kernel
theorem dX1_canCome_2 : decode cX1_canCome 2 = .ok (.ishr, 1) := by decide +kernel
theorem dX1_canCome_3 : decode cX1_canCome 3 = .ok (.iconst 1, 1) := by decide +kernel
theorem dX1_canCome_4 : decode cX1_canCome 4 = .ok (.iand, 1) := by decide +kernel
theorem dX1_canCome_5 : decode cX1_canCome 5 = .ok (.ifCond .ne 23, 3) := by decide +kernel
theorem dX1_canCome_8 : decode cX1_canCome 8 = .ok (.aload_n 0, 1) := by decide +kernel
theorem dX1_canCome_9 : decode cX1_canCome 9 = .ok (.getfield 9, 3) := by decide +kernel
theorem dX1_canCome_12 : decode cX1_canCome 12 = .ok (.aload_n 1, 1) := by decide +kernel
theorem dX1_canCome_13 : decode cX1_canCome 13 = .ok (.getfield 55, 3) := by decide +kernel
theorem dX1_canCome_16 : decode cX1_canCome 16 = .ok (.iload_n 3, 1) := by decide +kernel
theorem dX1_canCome_17 : decode cX1_canCome 17 = .ok (.iaload, 1) := by decide +kernel
theorem dX1_canCome_18 : decode cX1_canCome 18 = .ok (.iaload, 1) := by decide +kernel
theorem dX1_canCome_19 : decode cX1_canCome 19 = .ok (.bipush 100, 2) := by decide +kernel
theorem dX1_canCome_21 : decode cX1_canCome 21 = .ok (.if_icmp .ge 7, 3) := by decide +kernel
theorem dX1_canCome_24 : decode cX1_canCome 24 = .ok (.iconst 1, 1) := by decide +kernel
theorem dX1_canCome_25 : decode cX1_canCome 25 = .ok (.goto 4, 3) := by decide +kernel
theorem dX1_canCome_28 : decode cX1_canCome 28 = .ok (.iconst 0, 1) := by decide +kernel
theorem dX1_canCome_29 : decode cX1_canCome 29 = .ok (.ireturn, 1) := by decide +kernel
theorem dX1_behind_0 : decode cX1_behind 0 = .ok (.aload_n 1, 1) := by decide +kernel
theorem dX1_behind_1 : decode cX1_behind 1 = .ok (.getfield 55, 3) := by decide +kernel
theorem dX1_behind_4 : decode cX1_behind 4 = .ok (.iload_n 2, 1) := by decide +kernel
theorem dX1_behind_5 : decode cX1_behind 5 = .ok (.iaload, 1) := by decide +kernel
theorem dX1_behind_6 : decode cX1_behind 6 = .ok (.istore 6, 2) := by decide +kernel
theorem dX1_behind_8 : decode cX1_behind 8 = .ok (.aload_n 0, 1) := by decide +kernel
theorem dX1_behind_9 : decode cX1_behind 9 = .ok (.getfield 9, 3) := by decide +kernel
theorem dX1_behind_12 : decode cX1_behind 12 = .ok (.iload 6, 2) := by decide +kernel
theorem dX1_behind_14 : decode cX1_behind 14 = .ok (.iaload, 1) := by decide +kernel
theorem dX1_behind_15 : decode cX1_behind 15 = .ok (.istore 7, 2) := by decide +kernel
theorem dX1_behind_17 : decode cX1_behind 17 = .ok (.aload_n 0, 1) := by decide +kernel
theorem dX1_behind_18 : decode cX1_behind 18 = .ok (.getfield 9, 3) := by decide +kernel
theorem dX1_behind_21 : decode cX1_behind 21 = .ok (.iload 6, 2) := by decide +kernel
theorem dX1_behind_23 : decode cX1_behind 23 = .ok (.bipush 100, 2) := by decide +kernel
theorem dX1_behind_25 : decode cX1_behind 25 = .ok (.iload 7, 2) := by decide +kernel
theorem dX1_behind_27 : decode cX1_behind 27 = .ok (.aload_n 1, 1) := by decide +kernel
theorem dX1_behind_28 : decode cX1_behind 28 = .ok (.getfield 58, 3) := by decide +kernel
theorem dX1_behind_31 : decode cX1_behind 31 = .ok (.iload_n 2, 1) := by decide +kernel
theorem dX1_behind_32 : decode cX1_behind 32 = .ok (.iaload, 1) := by decide +kernel
theorem dX1_behind_33 : decode cX1_behind 33 = .ok (.iadd, 1) := by decide +kernel
theorem dX1_behind_34 : decode cX1_behind 34 = .ok (.invokestatic 61, 3) := by decide +kernel
theorem dX1_behind_37 : decode cX1_behind 37 = .ok (.iastore, 1) := by decide +kernel
theorem dX1_behind_38 : decode cX1_behind 38 = .ok (.aload_n 0, 1) := by decide +kernel
theorem dX1_behind_39 : decode cX1_behind 39 = .ok (.aload_n 1, 1) := by decide +kernel
theorem dX1_behind_40 : decode cX1_behind 40 = .ok (.iload_n 3, 1) := by decide +kernel
theorem dX1_behind_41 : decode cX1_behind 41 = .ok (.iconst 1, 1) := by decide +kernel
theorem dX1_behind_42 : decode cX1_behind 42 = .ok (.isub, 1) := by decide +kernel
theorem dX1_behind_43 : decode cX1_behind 43 = .ok (.iload 4, 2) := by decide +kernel
theorem dX1_behind_45 : decode cX1_behind 45 = .ok (.ifCond .ne 7, 3) := by decide +kernel
theorem dX1_behind_48 : decode cX1_behind 48 = .ok (.iconst 1, 1) := by decide +kernel
theorem dX1_behind_49 : decode cX1_behind 49 = .ok (.goto 4, 3) := by decide +kernel
theorem dX1_behind_52 : decode cX1_behind 52 = .ok (.iconst 0, 1) := by decide +kernel
theorem dX1_behind_53 : decode cX1_behind 53 = .ok (.iload 5, 2) := by decide +kernel
theorem dX1_behind_55 : decode cX1_behind 55 = .ok (.iconst 1, 1) := by decide +kernel
theorem dX1_behind_56 : decode cX1_behind 56 = .ok (.iload_n 2, 1) := by decide +kernel
theorem dX1_behind_57 : decode cX1_behind 57 = .ok (.ishl, 1) := by decide +kernel
theorem dX1_behind_58 : decode cX1_behind 58 = .ok (.ior, 1) := by decide +kernel
theorem dX1_behind_59 : decode cX1_behind 59 = .ok (.invokevirtual 40, 3) := by decide +kernel
theorem dX1_behind_62 : decode cX1_behind 62 = .ok (.istore 8, 2) := by decide +kernel
theorem dX1_behind_64 : decode cX1_behind 64 = .ok (.aload_n 0, 1) := by decide +kernel
theorem dX1_behind_65 : decode cX1_behind 65 = .ok (.getfield 9, 3) := by decide +kernel
theorem dX1_behind_68 : decode cX1_behind 68 = .ok (.iload 6, 2) := by decide +kernel
theorem dX1_behind_70 : decode cX1_behind 70 = .ok (.iload 7, 2) := by decide +kernel
theorem dX1_behind_72 : decode cX1_behind 72 = .ok (.iastore, 1) := by decide +kernel
theorem dX1_behind_73 : decode cX1_behind 73 = .ok (.iload 8, 2) := by decide +kernel
theorem dX1_behind_75 : decode cX1_behind 75 = .ok (.ireturn, 1) := by decide +kernel
theorem dX1_best_0 : decode cX1_best 0 = .ok (.iload_n 2, 1) := by decide +kernel
theorem dX1_best_1 : decode cX1_best 1 = .ok (.ifCond .gt 23, 3) := by decide +kernel
theorem dX1_best_4 : decode cX1_best 4 = .ok (.aload_n 0, 1) := by decide +kernel
theorem dX1_best_5 : decode cX1_best 5 = .ok (.aload_n 1, 1) := by decide +kernel
theorem dX1_best_6 : decode cX1_best 6 = .ok (.aload_n 0, 1) := by decide +kernel
theorem dX1_best_7 : decode cX1_best 7 = .ok (.getfield 19, 3) := by decide +kernel
theorem dX1_best_10 : decode cX1_best 10 = .ok (.invokevirtual 67, 3) := by decide +kernel
theorem dX1_best_13 : decode cX1_best 13 = .ok (.aload_n 0, 1) := by decide +kernel
theorem dX1_best_14 : decode cX1_best 14 = .ok (.aload_n 1, 1) := by decide +kernel
theorem dX1_best_15 : decode cX1_best 15 = .ok (.aload_n 0, 1) := by decide +kernel
theorem dX1_best_16 : decode cX1_best 16 = .ok (.getfield 15, 3) := by decide +kernel
theorem dX1_best_19 : decode cX1_best 19 = .ok (.invokevirtual 67, 3) := by decide +kernel
theorem dX1_best_22 : decode cX1_best 22 = .ok (.isub, 1) := by decide +kernel
theorem dX1_best_23 : decode cX1_best 23 = .ok (.ireturn, 1) := by decide +kernel
theorem dX1_best_24 : decode cX1_best 24 = .ok (.aload_n 0, 1) := by decide +kernel
theorem dX1_best_25 : decode cX1_best 25 = .ok (.aload_n 1, 1) := by decide +kernel
theorem dX1_best_26 : decode cX1_best 26 = .ok (.iload_n 2, 1) := by decide +kernel
theorem dX1_best_27 : decode cX1_best 27 = .ok (.iconst 1, 1) := by decide +kernel
theorem dX1_best_28 : decode cX1_best 28 = .ok (.isub, 1) := by decide +kernel
theorem dX1_best_29 : decode cX1_best 29 = .ok (.iload_n 3, 1) := by decide +kernel
theorem dX1_best_30 : decode cX1_best 30 = .ok (.ifCond .ne 7, 3) := by decide +kernel
theorem dX1_best_33 : decode cX1_best 33 = .ok (.iconst 1, 1) := by decide +kernel
theorem dX1_best_34 : decode cX1_best 34 = .ok (.goto 4, 3) := by decide +kernel
theorem dX1_best_37 : decode cX1_best 37 = .ok (.iconst 0, 1) := by decide +kernel
theorem dX1_best_38 : decode cX1_best 38 = .ok (.iload 4, 2) := by decide +kernel
theorem dX1_best_40 : decode cX1_best 40 = .ok (.invokevirtual 40, 3) := by decide +kernel
theorem dX1_best_43 : decode cX1_best 43 = .ok (.istore 5, 2) := by decide +kernel
theorem dX1_best_45 : decode cX1_best 45 = .ok (.iconst 0, 1) := by decide +kernel
theorem dX1_best_46 : decode cX1_best 46 = .ok (.istore 6, 2) := by decide +kernel
theorem dX1_best_48 : decode cX1_best 48 = .ok (.iload 6, 2) := by decide +kernel
theorem dX1_best_50 : decode cX1_best 50 = .ok (.aload_n 1, 1) := by decide +kernel
theorem dX1_best_51 : decode cX1_best 51 = .ok (.getfield 44, 3) := by decide +kernel
theorem dX1_best_54 : decode cX1_best 54 = .ok (.if_icmp .ge 57, 3) := by decide +kernel
theorem dX1_best_57 : decode cX1_best 57 = .ok (.aload_n 0, 1) := by decide +kernel
theorem dX1_best_58 : decode cX1_best 58 = .ok (.aload_n 1, 1) := by decide +kernel
theorem dX1_best_59 : decode cX1_best 59 = .ok (.iload 4, 2) := by decide +kernel
theorem dX1_best_61 : decode cX1_best 61 = .ok (.iload 6, 2) := by decide +kernel
theorem dX1_best_63 : decode cX1_best 63 = .ok (.invokevirtual 47, 3) := by decide +kernel
theorem dX1_best_66 : decode cX1_best 66 = .ok (.ifCond .eq 39, 3) := by decide +kernel
theorem dX1_best_69 : decode cX1_best 69 = .ok (.aload_n 0, 1) := by decide +kernel
theorem dX1_best_70 : decode cX1_best 70 = .ok (.aload_n 1, 1) := by decide +kernel
theorem dX1_best_71 : decode cX1_best 71 = .ok (.iload 6, 2) := by decide +kernel
theorem dX1_best_73 : decode cX1_best 73 = .ok (.iload_n 2, 1) := by decide +kernel
theorem dX1_best_74 : decode cX1_best 74 = .ok (.iload_n 3, 1) := by decide +kernel
theorem dX1_best_75 : decode cX1_best 75 = .ok (.iload 4, 2) := by decide +kernel
theorem dX1_best_77 : decode cX1_best 77 = .ok (.invokevirtual 51, 3) := by decide +kernel
theorem dX1_best_80 : decode cX1_best 80 = .ok (.istore 7, 2) := by decide +kernel
theorem dX1_best_82 : decode cX1_best 82 = .ok (.iload_n 3, 1) := by decide +kernel
theorem dX1_best_83 : decode cX1_best 83 = .ok (.ifCond .eq 13, 3) := by decide +kernel
theorem dX1_best_86 : decode cX1_best 86 = .ok (.iload 5, 2) := by decide +kernel
theorem dX1_best_88 : decode cX1_best 88 = .ok (.iload 7, 2) := by decide +kernel
theorem dX1_best_90 : decode cX1_best 90 = .ok (.invokestatic 71, 3) := by decide +kernel
theorem dX1_best_93 : decode cX1_best 93 = .ok (.goto 10, 3) := by decide +kernel
theorem dX1_best_96 : decode cX1_best 96 = .ok (.iload 5, 2) := by decide +kernel
theorem dX1_best_98 : decode cX1_best 98 = .ok (.iload 7, 2) := by decide +kernel
theorem dX1_best_100 : decode cX1_best 100 = .ok (.invokestatic 61, 3) := by decide +kernel
theorem dX1_best_103 : decode cX1_best 103 = .ok (.istore 5, 2) := by decide +kernel
theorem dX1_best_105 : decode cX1_best 105 = .ok (.iinc 6 1, 3) := by decide +kernel
theorem dX1_best_108 : decode cX1_best 108 = .ok (.goto (-60), 3) := by decide +kernel
theorem dX1_best_111 : decode cX1_best 111 = .ok (.iload 5, 2) := by decide +kernel
theorem dX1_best_113 : decode cX1_best 113 = .ok (.ireturn, 1) := by decide +kernel
theorem dX1_heightOf_0 : decode cX1_heightOf 0 = .ok (.aload_n 1, 1) := by decide +kernel
theorem dX1_heightOf_1 : decode cX1_heightOf 1 = .ok (.iload_n 2, 1) := by decide +kernel
theorem dX1_heightOf_2 : decode cX1_heightOf 2 = .ok (.aload_n 0, 1) := by decide +kernel
theorem dX1_heightOf_3 : decode cX1_heightOf 3 = .ok (.getfield 9, 3) := by decide +kernel
theorem dX1_heightOf_6 : decode cX1_heightOf 6 = .ok (.aload_n 1, 1) := by decide +kernel
theorem dX1_heightOf_7 : decode cX1_heightOf 7 = .ok (.getfield 74, 3) := by decide +kernel
theorem dX1_heightOf_10 : decode cX1_heightOf 10 = .ok (.iload_n 2, 1) := by decide +kernel
theorem dX1_heightOf_11 : decode cX1_heightOf 11 = .ok (.iaload, 1) := by decide +kernel
theorem dX1_heightOf_12 : decode cX1_heightOf 12 = .ok (.iaload, 1) := by decide +kernel
theorem dX1_heightOf_13 : decode cX1_heightOf 13 = .ok (.invokevirtual 77, 3) := by decide +kernel
theorem dX1_heightOf_16 : decode cX1_heightOf 16 = .ok (.ireturn, 1) := by decide +kernel
theorem dX2_init_0 : decode cX2_init 0 = .ok (.aload_n 0, 1) := by decide +kernel
theorem dX2_init_1 : decode cX2_init 1 = .ok (.invokespecial 3, 3) := by decide +kernel
theorem dX2_init_4 : decode cX2_init 4 = .ok (.aload_n 0, 1) := by decide +kernel
theorem dX2_init_5 : decode cX2_init 5 = .ok (.bipush 60, 2) := by decide +kernel
theorem dX2_init_7 : decode cX2_init 7 = .ok (.newarray .int, 2) := by decide +kernel
theorem dX2_init_9 : decode cX2_init 9 = .ok (.putfield 11, 3) := by decide +kernel
theorem dX2_init_12 : decode cX2_init 12 = .ok (.return_, 1) := by decide +kernel
theorem dX2_runThrough_0 : decode cX2_runThrough 0 = .ok (.aload_n 1, 1) := by decide +kernel
theorem dX2_runThrough_1 : decode cX2_runThrough 1 = .ok (.getfield 17, 3) := by decide +kernel
theorem dX2_runThrough_4 : decode cX2_runThrough 4 = .ok (.astore_n 3, 1) := by decide +kernel
theorem dX2_runThrough_5 : decode cX2_runThrough 5 = .ok (.aload_n 0, 1) := by decide +kernel
theorem dX2_runThrough_6 : decode cX2_runThrough 6 = .ok (.iload_n 2, 1) := by decide +kernel
theorem dX2_runThrough_7 : decode cX2_runThrough 7 = .ok (.putfield 23, 3) := by decide +kernel
theorem dX2_runThrough_10 : decode cX2_runThrough 10 = .ok (.aload_n 0, 1) := by decide +kernel
theorem dX2_runThrough_11 : decode cX2_runThrough 11 = .ok (.iconst 0, 1) := by decide +kernel
theorem dX2_runThrough_12 : decode cX2_runThrough 12 = .ok (.putfield 27, 3) := by decide +kernel
theorem dX2_runThrough_15 : decode cX2_runThrough 15 = .ok (.aload_n 0, 1) := by decide +kernel
theorem dX2_runThrough_16 : decode cX2_runThrough 16 = .ok (.iconst 0, 1) := by decide +kernel
theorem dX2_runThrough_17 : decode cX2_runThrough 17 = .ok (.putfield 30, 3) := by decide +kernel
theorem dX2_runThrough_20 : decode cX2_runThrough 20 = .ok (.aload_n 0, 1) := by decide +kernel
theorem dX2_runThrough_21 : decode cX2_runThrough 21 = .ok (.iconst 0, 1) := by decide +kernel
theorem dX2_runThrough_22 : decode cX2_runThrough 22 = .ok (.putfield 33, 3) := by decide +kernel
theorem dX2_runThrough_25 : decode cX2_runThrough 25 = .ok (.aload_n 0, 1) := by decide +kernel
theorem dX2_runThrough_26 : decode cX2_runThrough 26 = .ok (.iconst 0, 1) := by decide +kernel
theorem dX2_runThrough_27 : decode cX2_runThrough 27 = .ok (.putfield 36, 3) := by decide +kernel
theorem dX2_runThrough_30 : decode cX2_runThrough 30 = .ok (.aload_n 0, 1) := by decide +kernel
theorem dX2_runThrough_31 : decode cX2_runThrough 31 = .ok (.iconst 0, 1) := by decide +kernel
theorem dX2_runThrough_32 : decode cX2_runThrough 32 = .ok (.putfield 39, 3) := by decide +kernel
theorem dX2_runThrough_35 : decode cX2_runThrough 35 = .ok (.aload_n 0, 1) := by decide +kernel
theorem dX2_runThrough_36 : decode cX2_runThrough 36 = .ok (.iconst 0, 1) := by decide +kernel
theorem dX2_runThrough_37 : decode cX2_runThrough 37 = .ok (.putfield 42, 3) := by decide +kernel
theorem dX2_runThrough_40 : decode cX2_runThrough 40 = .ok (.aload_n 0, 1) := by decide +kernel
theorem dX2_runThrough_41 : decode cX2_runThrough 41 = .ok (.iconst 0, 1) := by decide +kernel
theorem dX2_runThrough_42 : decode cX2_runThrough 42 = .ok (.putfield 45, 3) := by decide +kernel
theorem dX2_runThrough_45 : decode cX2_runThrough 45 = .ok (.iconst 0, 1) := by decide +kernel
theorem dX2_runThrough_46 : decode cX2_runThrough 46 = .ok (.istore 4, 2) := by decide +kernel
theorem dX2_runThrough_48 : decode cX2_runThrough 48 = .ok (.iload 4, 2) := by decide +kernel
theorem dX2_runThrough_50 : decode cX2_runThrough 50 = .ok (.ldc 49, 2) := by decide +kernel
theorem dX2_runThrough_52 : decode cX2_runThrough 52 = .ok (.if_icmp .ge 90, 3) := by decide +kernel
theorem dX2_runThrough_55 : decode cX2_runThrough 55 = .ok (.aload_n 0, 1) := by decide +kernel
theorem dX2_runThrough_56 : decode cX2_runThrough 56 = .ok (.getfield 45, 3) := by decide +kernel
theorem dX2_runThrough_59 : decode cX2_runThrough 59 = .ok (.ifCond .ne 83, 3) := by decide +kernel
theorem dX2_runThrough_62 : decode cX2_runThrough 62 = .ok (.aload_n 0, 1) := by decide +kernel
theorem dX2_runThrough_63 : decode cX2_runThrough 63 = .ok (.getfield 27, 3) := by decide +kernel
theorem dX2_runThrough_66 : decode cX2_runThrough 66 = .ok (.ifCond .lt 76, 3) := by decide +kernel
theorem dX2_runThrough_69 : decode cX2_runThrough 69 = .ok (.aload_n 0, 1) := by decide +kernel
theorem dX2_runThrough_70 : decode cX2_runThrough 70 = .ok (.getfield 27, 3) := by decide +kernel
theorem dX2_runThrough_73 : decode cX2_runThrough 73 = .ok (.aload_n 3, 1) := by decide +kernel
theorem dX2_runThrough_74 : decode cX2_runThrough 74 = .ok (.getfield 50, 3) := by decide +kernel
theorem dX2_runThrough_77 : decode cX2_runThrough 77 = .ok (.if_icmp .ge 65, 3) := by decide +kernel
theorem dX2_runThrough_80 : decode cX2_runThrough 80 = .ok (.aload_n 3, 1) := by decide +kernel
theorem dX2_runThrough_81 : decode cX2_runThrough 81 = .ok (.getfield 53, 3) := by decide +kernel
theorem dX2_runThrough_84 : decode cX2_runThrough 84 = .ok (.aload_n 0, 1) := by decide +kernel
theorem dX2_runThrough_85 : decode cX2_runThrough 85 = .ok (.getfield 27, 3) := by decide +kernel
theorem dX2_runThrough_88 : decode cX2_runThrough 88 = .ok (.iaload, 1) := by decide +kernel
theorem dX2_runThrough_89 : decode cX2_runThrough 89 = .ok (.bipush 23, 2) := by decide +kernel
theorem dX2_runThrough_91 : decode cX2_runThrough 91 = .ok (.if_icmp .ne 11, 3) := by decide +kernel
theorem dX2_runThrough_94 : decode cX2_runThrough 94 = .ok (.aload_n 0, 1) := by decide +kernel
theorem dX2_runThrough_95 : decode cX2_runThrough 95 = .ok (.aload_n 3, 1) := by decide +kernel
theorem dX2_runThrough_96 : decode cX2_runThrough 96 = .ok (.invokevirtual 58, 3) := by decide +kernel
theorem dX2_runThrough_99 : decode cX2_runThrough 99 = .ok (.goto 37, 3) := by decide +kernel
theorem dX2_runThrough_102 : decode cX2_runThrough 102 = .ok (.aload_n 0, 1) := by decide +kernel
theorem dX2_runThrough_103 : decode cX2_runThrough 103 = .ok (.getfield 30, 3) := by decide +kernel
theorem dX2_runThrough_106 : decode cX2_runThrough 106 = .ok (.sipush 300, 3) := by decide +kernel
theorem dX2_runThrough_109 : decode cX2_runThrough 109 = .ok (.if_icmp .lt 11, 3) := by decide +kernel
theorem dX2_runThrough_112 : decode cX2_runThrough 112 = .ok (.aload_n 0, 1) := by decide +kernel
theorem dX2_runThrough_113 : decode cX2_runThrough 113 = .ok (.iconst 1, 1) := by decide +kernel
theorem dX2_runThrough_114 : decode cX2_runThrough 114 = .ok (.putfield 45, 3) := by decide +kernel
theorem dX2_runThrough_117 : decode cX2_runThrough 117 = .ok (.goto 19, 3) := by decide +kernel
theorem dX2_runThrough_120 : decode cX2_runThrough 120 = .ok (.aload_n 0, 1) := by decide +kernel
theorem dX2_runThrough_121 : decode cX2_runThrough 121 = .ok (.dup, 1) := by decide +kernel
theorem dX2_runThrough_122 : decode cX2_runThrough 122 = .ok (.getfield 30, 3) := by decide +kernel
theorem dX2_runThrough_125 : decode cX2_runThrough 125 = .ok (.iconst 1, 1) := by decide +kernel
theorem dX2_runThrough_126 : decode cX2_runThrough 126 = .ok (.iadd, 1) := by decide +kernel
theorem dX2_runThrough_127 : decode cX2_runThrough 127 = .ok (.putfield 30, 3) := by decide +kernel
theorem dX2_runThrough_130 : decode cX2_runThrough 130 = .ok (.aload_n 0, 1) := by decide +kernel
theorem dX2_runThrough_131 : decode cX2_runThrough 131 = .ok (.aload_n 1, 1) := by decide +kernel
theorem dX2_runThrough_132 : decode cX2_runThrough 132 = .ok (.aload_n 3, 1) := by decide +kernel
theorem dX2_runThrough_133 : decode cX2_runThrough 133 = .ok (.invokevirtual 62, 3) := by decide +kernel
theorem dX2_runThrough_136 : decode cX2_runThrough 136 = .ok (.iinc 4 1, 3) := by decide +kernel
theorem dX2_runThrough_139 : decode cX2_runThrough 139 = .ok (.goto (-91), 3) := by decide +kernel
theorem dX2_runThrough_142 : decode cX2_runThrough 142 = .ok (.return_, 1) := by decide +kernel
theorem dX2_copyCounts_0 : decode cX2_copyCounts 0 = .ok (.aload_n 1, 1) := by decide +kernel
theorem dX2_copyCounts_1 : decode cX2_copyCounts 1 = .ok (.arraylength, 1) := by decide +kernel
theorem dX2_copyCounts_2 : decode cX2_copyCounts 2 = .ok (.iconst 5, 1) := by decide +kernel
theorem dX2_copyCounts_3 : decode cX2_copyCounts 3 = .ok (.if_icmp .lt 46, 3) := by decide +kernel
theorem dX2_copyCounts_6 : decode cX2_copyCounts 6 = .ok (.aload_n 1, 1) := by decide +kernel
theorem dX2_copyCounts_7 : decode cX2_copyCounts 7 = .ok (.iconst 0, 1) := by decide +kernel
theorem dX2_copyCounts_8 : decode cX2_copyCounts 8 = .ok (.aload_n 0, 1) := by decide +kernel
theorem dX2_copyCounts_9 : decode cX2_copyCounts 9 = .ok (.getfield 33, 3) := by decide +kernel
theorem dX2_copyCounts_12 : decode cX2_copyCounts 12 = .ok (.iastore, 1) := by decide +kernel
theorem dX2_copyCounts_13 : decode cX2_copyCounts 13 = .ok (.aload_n 1, 1) := by decide +kernel
theorem dX2_copyCounts_14 : decode cX2_copyCounts 14 = .ok (.iconst 1, 1) := by decide +kernel
theorem dX2_copyCounts_15 : decode cX2_copyCounts 15 = .ok (.aload_n 0, 1) := by decide +kernel
theorem dX2_copyCounts_16 : decode cX2_copyCounts 16 = .ok (.getfield 36, 3) := by decide +kernel
theorem dX2_copyCounts_19 : decode cX2_copyCounts 19 = .ok (.iastore, 1) := by decide +kernel
theorem dX2_copyCounts_20 : decode cX2_copyCounts 20 = .ok (.aload_n 1, 1) := by decide +kernel
theorem dX2_copyCounts_21 : decode cX2_copyCounts 21 = .ok (.iconst 2, 1) := by decide +kernel
theorem dX2_copyCounts_22 : decode cX2_copyCounts 22 = .ok (.aload_n 0, 1) := by decide +kernel
theorem dX2_copyCounts_23 : decode cX2_copyCounts 23 = .ok (.getfield 39, 3) := by decide +kernel
theorem dX2_copyCounts_26 : decode cX2_copyCounts 26 = .ok (.iastore, 1) := by decide +kernel
theorem dX2_copyCounts_27 : decode cX2_copyCounts 27 = .ok (.aload_n 1, 1) := by decide +kernel
theorem dX2_copyCounts_28 : decode cX2_copyCounts 28 = .ok (.iconst 3, 1) := by decide +kernel
theorem dX2_copyCounts_29 : decode cX2_copyCounts 29 = .ok (.aload_n 0, 1) := by decide +kernel
theorem dX2_copyCounts_30 : decode cX2_copyCounts 30 = .ok (.getfield 42, 3) := by decide +kernel
theorem dX2_copyCounts_33 : decode cX2_copyCounts 33 = .ok (.iastore, 1) := by decide +kernel
theorem dX2_copyCounts_34 : decode cX2_copyCounts 34 = .ok (.aload_n 1, 1) := by decide +kernel
theorem dX2_copyCounts_35 : decode cX2_copyCounts 35 = .ok (.iconst 4, 1) := by decide +kernel
theorem dX2_copyCounts_36 : decode cX2_copyCounts 36 = .ok (.aload_n 0, 1) := by decide +kernel
theorem dX2_copyCounts_37 : decode cX2_copyCounts 37 = .ok (.getfield 45, 3) := by decide +kernel
theorem dX2_copyCounts_40 : decode cX2_copyCounts 40 = .ok (.ifCond .eq 7, 3) := by decide +kernel
theorem dX2_copyCounts_43 : decode cX2_copyCounts 43 = .ok (.iconst 1, 1) := by decide +kernel
theorem dX2_copyCounts_44 : decode cX2_copyCounts 44 = .ok (.goto 4, 3) := by decide +kernel
theorem dX2_copyCounts_47 : decode cX2_copyCounts 47 = .ok (.iconst 0, 1) := by decide +kernel
theorem dX2_copyCounts_48 : decode cX2_copyCounts 48 = .ok (.iastore, 1) := by decide +kernel
theorem dX2_copyCounts_49 : decode cX2_copyCounts 49 = .ok (.return_, 1) := by decide +kernel
theorem dX2_passEnd_0 : decode cX2_passEnd 0 = .ok (.aload_n 1, 1) := by decide +kernel
theorem dX2_passEnd_1 : decode cX2_passEnd 1 = .ok (.getfield 66, 3) := by decide +kernel
theorem dX2_passEnd_4 : decode cX2_passEnd 4 = .ok (.aload_n 0, 1) := by decide +kernel
theorem dX2_passEnd_5 : decode cX2_passEnd 5 = .ok (.getfield 27, 3) := by decide +kernel
theorem dX2_passEnd_8 : decode cX2_passEnd 8 = .ok (.iaload, 1) := by decide +kernel
theorem dX2_passEnd_9 : decode cX2_passEnd 9 = .ok (.istore_n 2, 1) := by decide +kernel
theorem dX2_passEnd_10 : decode cX2_passEnd 10 = .ok (.aload_n 0, 1) := by decide +kernel
theorem dX2_passEnd_11 : decode cX2_passEnd 11 = .ok (.dup, 1) := by decide +kernel
theorem dX2_passEnd_12 : decode cX2_passEnd 12 = .ok (.getfield 27, 3) := by decide +kernel
theorem dX2_passEnd_15 : decode cX2_passEnd 15 = .ok (.iconst 1, 1) := by decide +kernel
theorem dX2_passEnd_16 : decode cX2_passEnd 16 = .ok (.iadd, 1) := by decide +kernel
theorem dX2_passEnd_17 : decode cX2_passEnd 17 = .ok (.putfield 27, 3) := by decide +kernel
theorem dX2_passEnd_20 : decode cX2_passEnd 20 = .ok (.iload_n 2, 1) := by decide +kernel
theorem dX2_passEnd_21 : decode cX2_passEnd 21 = .ok (.ifCond .lt 40, 3) := by decide +kernel
theorem dX2_passEnd_24 : decode cX2_passEnd 24 = .ok (.aload_n 1, 1) := by decide +kernel
theorem dX2_passEnd_25 : decode cX2_passEnd 25 = .ok (.getfield 53, 3) := by decide +kernel
theorem dX2_passEnd_28 : decode cX2_passEnd 28 = .ok (.iload_n 2, 1) := by decide +kernel
theorem dX2_passEnd_29 : decode cX2_passEnd 29 = .ok (.iaload, 1) := by decide +kernel
theorem dX2_passEnd_30 : decode cX2_passEnd 30 = .ok (.bipush 22, 2) := by decide +kernel
theorem dX2_passEnd_32 : decode cX2_passEnd 32 = .ok (.if_icmp .ne 29, 3) := by decide +kernel
theorem dX2_passEnd_35 : decode cX2_passEnd 35 = .ok (.aload_n 0, 1) := by decide +kernel
theorem dX2_passEnd_36 : decode cX2_passEnd 36 = .ok (.getfield 11, 3) := by decide +kernel
theorem dX2_passEnd_39 : decode cX2_passEnd 39 = .ok (.iload_n 2, 1) := by decide +kernel
theorem dX2_passEnd_40 : decode cX2_passEnd 40 = .ok (.dup2, 1) := by decide +kernel
theorem dX2_passEnd_41 : decode cX2_passEnd 41 = .ok (.iaload, 1) := by decide +kernel
theorem dX2_passEnd_42 : decode cX2_passEnd 42 = .ok (.iconst 1, 1) := by decide +kernel
theorem dX2_passEnd_43 : decode cX2_passEnd 43 = .ok (.isub, 1) := by decide +kernel
theorem dX2_passEnd_44 : decode cX2_passEnd 44 = .ok (.iastore, 1) := by decide +kernel
theorem dX2_passEnd_45 : decode cX2_passEnd 45 = .ok (.aload_n 0, 1) := by decide +kernel
theorem dX2_passEnd_46 : decode cX2_passEnd 46 = .ok (.getfield 11, 3) := by decide +kernel
theorem dX2_passEnd_49 : decode cX2_passEnd 49 = .ok (.iload_n 2, 1) := by decide +kernel
theorem dX2_passEnd_50 : decode cX2_passEnd 50 = .ok (.iaload, 1) := by decide +kernel
theorem dX2_passEnd_51 : decode cX2_passEnd 51 = .ok (.ifCond .le 10, 3) := by decide +kernel
theorem dX2_passEnd_54 : decode cX2_passEnd 54 = .ok (.aload_n 0, 1) := by decide +kernel
theorem dX2_passEnd_55 : decode cX2_passEnd 55 = .ok (.iload_n 2, 1) := by decide +kernel
theorem dX2_passEnd_56 : decode cX2_passEnd 56 = .ok (.iconst 1, 1) := by decide +kernel
theorem dX2_passEnd_57 : decode cX2_passEnd 57 = .ok (.iadd, 1) := by decide +kernel
theorem dX2_passEnd_58 : decode cX2_passEnd 58 = .ok (.putfield 27, 3) := by decide +kernel
theorem dX2_passEnd_61 : decode cX2_passEnd 61 = .ok (.return_, 1) := by decide +kernel
theorem dX2_doStep_0 : decode cX2_doStep 0 = .ok (.aload_n 0, 1) := by decide +kernel
theorem dX2_doStep_1 : decode cX2_doStep 1 = .ok (.getfield 27, 3) := by decide +kernel
theorem dX2_doStep_4 : decode cX2_doStep 4 = .ok (.istore_n 3, 1) := by decide +kernel
theorem dX2_doStep_5 : decode cX2_doStep 5 = .ok (.aload_n 2, 1) := by decide +kernel
theorem dX2_doStep_6 : decode cX2_doStep 6 = .ok (.getfield 69, 3) := by decide +kernel
theorem dX2_doStep_9 : decode cX2_doStep 9 = .ok (.iload_n 3, 1) := by decide +kernel
theorem dX2_doStep_10 : decode cX2_doStep 10 = .ok (.iaload, 1) := by decide +kernel
theorem dX2_doStep_11 : decode cX2_doStep 11 = .ok (.istore 4, 2) := by decide +kernel
theorem dX2_doStep_13 : decode cX2_doStep 13 = .ok (.aload_n 2, 1) := by decide +kernel
theorem dX2_doStep_14 : decode cX2_doStep 14 = .ok (.getfield 72, 3) := by decide +kernel
theorem dX2_doStep_17 : decode cX2_doStep 17 = .ok (.iload_n 3, 1) := by decide +kernel
theorem dX2_doStep_18 : decode cX2_doStep 18 = .ok (.iaload, 1) := by decide +kernel
theorem dX2_doStep_19 : decode cX2_doStep 19 = .ok (.istore 5, 2) := by decide +kernel
theorem dX2_doStep_21 : decode cX2_doStep 21 = .ok (.aload_n 0, 1) := by decide +kernel
theorem dX2_doStep_22 : decode cX2_doStep 22 = .ok (.iload_n 3, 1) := by decide +kernel
theorem dX2_doStep_23 : decode cX2_doStep 23 = .ok (.iconst 1, 1) := by decide +kernel
theorem dX2_doStep_24 : decode cX2_doStep 24 = .ok (.iadd, 1) := by decide +kernel
theorem dX2_doStep_25 : decode cX2_doStep 25 = .ok (.putfield 27, 3) := by decide +kernel
theorem dX2_doStep_28 : decode cX2_doStep 28 = .ok (.aload_n 2, 1) := by decide +kernel
theorem dX2_doStep_29 : decode cX2_doStep 29 = .ok (.getfield 53, 3) := by decide +kernel
theorem dX2_doStep_32 : decode cX2_doStep 32 = .ok (.iload_n 3, 1) := by decide +kernel
theorem dX2_doStep_33 : decode cX2_doStep 33 = .ok (.iaload, 1) := by decide +kernel
theorem dX2_doStep_34 : decode cX2_doStep 34 = .ok (.tableswitch 147 13 22 #[54, 64, 74, 86, 98, 106, 147, 147, 147, 136], 54) := by decide +kernel
theorem dX2_doStep_88 : decode cX2_doStep 88 = .ok (.aload_n 0, 1) := by decide +kernel
theorem dX2_doStep_89 : decode cX2_doStep 89 = .ok (.aload_n 1, 1) := by decide +kernel
theorem dX2_doStep_90 : decode cX2_doStep 90 = .ok (.iload 5, 2) := by decide +kernel
theorem dX2_doStep_92 : decode cX2_doStep 92 = .ok (.invokevirtual 75, 3) := by decide +kernel
theorem dX2_doStep_95 : decode cX2_doStep 95 = .ok (.goto 94, 3) := by decide +kernel
theorem dX2_doStep_98 : decode cX2_doStep 98 = .ok (.aload_n 0, 1) := by decide +kernel
theorem dX2_doStep_99 : decode cX2_doStep 99 = .ok (.aload_n 1, 1) := by decide +kernel
theorem dX2_doStep_100 : decode cX2_doStep 100 = .ok (.iload 5, 2) := by decide +kernel
theorem dX2_doStep_102 : decode cX2_doStep 102 = .ok (.invokevirtual 79, 3) := by decide +kernel
theorem dX2_doStep_105 : decode cX2_doStep 105 = .ok (.goto 84, 3) := by decide +kernel
theorem dX2_doStep_108 : decode cX2_doStep 108 = .ok (.aload_n 0, 1) := by decide +kernel
theorem dX2_doStep_109 : decode cX2_doStep 109 = .ok (.aload_n 1, 1) := by decide +kernel
theorem dX2_doStep_110 : decode cX2_doStep 110 = .ok (.iload 4, 2) := by decide +kernel
theorem dX2_doStep_112 : decode cX2_doStep 112 = .ok (.iload 5, 2) := by decide +kernel
theorem dX2_doStep_114 : decode cX2_doStep 114 = .ok (.invokevirtual 82, 3) := by decide +kernel
theorem dX2_doStep_117 : decode cX2_doStep 117 = .ok (.goto 72, 3) := by decide +kernel
theorem dX2_doStep_120 : decode cX2_doStep 120 = .ok (.aload_n 0, 1) := by decide +kernel
theorem dX2_doStep_121 : decode cX2_doStep 121 = .ok (.aload_n 1, 1) := by decide +kernel
theorem dX2_doStep_122 : decode cX2_doStep 122 = .ok (.iload 4, 2) := by decide +kernel
theorem dX2_doStep_124 : decode cX2_doStep 124 = .ok (.iload 5, 2) := by decide +kernel
theorem dX2_doStep_126 : decode cX2_doStep 126 = .ok (.invokevirtual 86, 3) := by decide +kernel
theorem dX2_doStep_129 : decode cX2_doStep 129 = .ok (.goto 60, 3) := by decide +kernel
theorem dX2_doStep_132 : decode cX2_doStep 132 = .ok (.aload_n 0, 1) := by decide +kernel
theorem dX2_doStep_133 : decode cX2_doStep 133 = .ok (.aload_n 1, 1) := by decide +kernel
theorem dX2_doStep_134 : decode cX2_doStep 134 = .ok (.invokevirtual 89, 3) := by decide +kernel
theorem dX2_doStep_137 : decode cX2_doStep 137 = .ok (.goto 52, 3) := by decide +kernel
theorem dX2_doStep_140 : decode cX2_doStep 140 = .ok (.aload_n 0, 1) := by decide +kernel
theorem dX2_doStep_141 : decode cX2_doStep 141 = .ok (.aload_n 1, 1) := by decide +kernel
theorem dX2_doStep_142 : decode cX2_doStep 142 = .ok (.aload_n 2, 1) := by decide +kernel
theorem dX2_doStep_143 : decode cX2_doStep 143 = .ok (.iload_n 3, 1) := by decide +kernel
theorem dX2_doStep_144 : decode cX2_doStep 144 = .ok (.invokestatic 93, 3) := by decide +kernel
theorem dX2_doStep_147 : decode cX2_doStep 147 = .ok (.ifCond .eq 9, 3) := by decide +kernel
theorem dX2_doStep_150 : decode cX2_doStep 150 = .ok (.iload_n 3, 1) := by decide +kernel
theorem dX2_doStep_151 : decode cX2_doStep 151 = .ok (.iconst 1, 1) := by decide +kernel
theorem dX2_doStep_152 : decode cX2_doStep 152 = .ok (.iadd, 1) := by decide +kernel
theorem dX2_doStep_153 : decode cX2_doStep 153 = .ok (.goto 11, 3) := by decide +kernel
theorem dX2_doStep_156 : decode cX2_doStep 156 = .ok (.aload_n 2, 1) := by decide +kernel
theorem dX2_doStep_157 : decode cX2_doStep 157 = .ok (.getfield 66, 3) := by decide +kernel
theorem dX2_doStep_160 : decode cX2_doStep 160 = .ok (.iload_n 3, 1) := by decide +kernel
theorem dX2_doStep_161 : decode cX2_doStep 161 = .ok (.iaload, 1) := by decide +kernel
theorem dX2_doStep_162 : decode cX2_doStep 162 = .ok (.iconst 1, 1) := by decide +kernel
theorem dX2_doStep_163 : decode cX2_doStep 163 = .ok (.iadd, 1) := by decide +kernel
theorem dX2_doStep_164 : decode cX2_doStep 164 = .ok (.putfield 27, 3) := by decide +kernel
theorem dX2_doStep_167 : decode cX2_doStep 167 = .ok (.goto 22, 3) := by decide +kernel
theorem dX2_doStep_170 : decode cX2_doStep 170 = .ok (.aload_n 0, 1) := by decide +kernel
theorem dX2_doStep_171 : decode cX2_doStep 171 = .ok (.getfield 11, 3) := by decide +kernel
theorem dX2_doStep_174 : decode cX2_doStep 174 = .ok (.iload_n 3, 1) := by decide +kernel
theorem dX2_doStep_175 : decode cX2_doStep 175 = .ok (.iload 5, 2) := by decide +kernel
theorem dX2_doStep_177 : decode cX2_doStep 177 = .ok (.iastore, 1) := by decide +kernel
theorem dX2_doStep_178 : decode cX2_doStep 178 = .ok (.goto 11, 3) := by decide +kernel
theorem dX2_doStep_181 : decode cX2_doStep 181 = .ok (.aload_n 0, 1) := by decide +kernel
theorem dX2_doStep_182 : decode cX2_doStep 182 = .ok (.aload_n 2, 1) := by decide +kernel
theorem dX2_doStep_183 : decode cX2_doStep 183 = .ok (.getfield 50, 3) := by decide +kernel
theorem dX2_doStep_186 : decode cX2_doStep 186 = .ok (.putfield 27, 3) := by decide +kernel
theorem dX2_doStep_189 : decode cX2_doStep 189 = .ok (.return_, 1) := by decide +kernel
theorem dX2_doDays_0 : decode cX2_doDays 0 = .ok (.aload_n 1, 1) := by decide +kernel
theorem dX2_doDays_1 : decode cX2_doDays 1 = .ok (.iload_n 2, 1) := by decide +kernel
theorem dX2_doDays_2 : decode cX2_doDays 2 = .ok (.invokevirtual 97, 3) := by decide +kernel
theorem dX2_doDays_5 : decode cX2_doDays 5 = .ok (.ifCond .eq 21, 3) := by decide +kernel
theorem dX2_doDays_8 : decode cX2_doDays 8 = .ok (.aload_n 1, 1) := by decide +kernel
theorem dX2_doDays_9 : decode cX2_doDays 9 = .ok (.iload_n 2, 1) := by decide +kernel
theorem dX2_doDays_10 : decode cX2_doDays 10 = .ok (.invokevirtual 101, 3) := by decide +kernel
theorem dX2_doDays_13 : decode cX2_doDays 13 = .ok (.aload_n 0, 1) := by decide +kernel
theorem dX2_doDays_14 : decode cX2_doDays 14 = .ok (.dup, 1) := by decide +kernel
theorem dX2_doDays_15 : decode cX2_doDays 15 = .ok (.getfield 36, 3) := by decide +kernel
theorem dX2_doDays_18 : decode cX2_doDays 18 = .ok (.iload_n 2, 1) := by decide +kernel
theorem dX2_doDays_19 : decode cX2_doDays 19 = .ok (.iadd, 1) := by decide +kernel
theorem dX2_doDays_20 : decode cX2_doDays 20 = .ok (.putfield 36, 3) := by decide +kernel
theorem dX2_doDays_23 : decode cX2_doDays 23 = .ok (.goto 13, 3) := by decide +kernel
theorem dX2_doDays_26 : decode cX2_doDays 26 = .ok (.aload_n 0, 1) := by decide +kernel
theorem dX2_doDays_27 : decode cX2_doDays 27 = .ok (.dup, 1) := by decide +kernel
theorem dX2_doDays_28 : decode cX2_doDays 28 = .ok (.getfield 33, 3) := by decide +kernel
theorem dX2_doDays_31 : decode cX2_doDays 31 = .ok (.iconst 1, 1) := by decide +kernel
theorem dX2_doDays_32 : decode cX2_doDays 32 = .ok (.iadd, 1) := by decide +kernel
theorem dX2_doDays_33 : decode cX2_doDays 33 = .ok (.putfield 33, 3) := by decide +kernel
theorem dX2_doDays_36 : decode cX2_doDays 36 = .ok (.return_, 1) := by decide +kernel
theorem dX2_doBring_0 : decode cX2_doBring 0 = .ok (.aload_n 1, 1) := by decide +kernel
theorem dX2_doBring_1 : decode cX2_doBring 1 = .ok (.iload_n 2, 1) := by decide +kernel
theorem dX2_doBring_2 : decode cX2_doBring 2 = .ok (.invokevirtual 105, 3) := by decide +kernel
theorem dX2_doBring_5 : decode cX2_doBring 5 = .ok (.ifCond .eq 21, 3) := by decide +kernel
theorem dX2_doBring_8 : decode cX2_doBring 8 = .ok (.aload_n 1, 1) := by decide +kernel
theorem dX2_doBring_9 : decode cX2_doBring 9 = .ok (.iload_n 2, 1) := by decide +kernel
theorem dX2_doBring_10 : decode cX2_doBring 10 = .ok (.invokevirtual 108, 3) := by decide +kernel
theorem dX2_doBring_13 : decode cX2_doBring 13 = .ok (.aload_n 0, 1) := by decide +kernel
theorem dX2_doBring_14 : decode cX2_doBring 14 = .ok (.dup, 1) := by decide +kernel
theorem dX2_doBring_15 : decode cX2_doBring 15 = .ok (.getfield 39, 3) := by decide +kernel
theorem dX2_doBring_18 : decode cX2_doBring 18 = .ok (.iconst 1, 1) := by decide +kernel
theorem dX2_doBring_19 : decode cX2_doBring 19 = .ok (.iadd, 1) := by decide +kernel
theorem dX2_doBring_20 : decode cX2_doBring 20 = .ok (.putfield 39, 3) := by decide +kernel
theorem dX2_doBring_23 : decode cX2_doBring 23 = .ok (.goto 13, 3) := by decide +kernel
theorem dX2_doBring_26 : decode cX2_doBring 26 = .ok (.aload_n 0, 1) := by decide +kernel
theorem dX2_doBring_27 : decode cX2_doBring 27 = .ok (.dup, 1) := by decide +kernel
theorem dX2_doBring_28 : decode cX2_doBring 28 = .ok (.getfield 33, 3) := by decide +kernel
theorem dX2_doBring_31 : decode cX2_doBring 31 = .ok (.iconst 1, 1) := by decide +kernel
theorem dX2_doBring_32 : decode cX2_doBring 32 = .ok (.iadd, 1) := by decide +kernel
theorem dX2_doBring_33 : decode cX2_doBring 33 = .ok (.putfield 33, 3) := by decide +kernel
theorem dX2_doBring_36 : decode cX2_doBring 36 = .ok (.return_, 1) := by decide +kernel
theorem dX2_doCrisis_0 : decode cX2_doCrisis 0 = .ok (.aload_n 1, 1) := by decide +kernel
theorem dX2_doCrisis_1 : decode cX2_doCrisis 1 = .ok (.iload_n 2, 1) := by decide +kernel
theorem dX2_doCrisis_2 : decode cX2_doCrisis 2 = .ok (.invokevirtual 111, 3) := by decide +kernel
theorem dX2_doCrisis_5 : decode cX2_doCrisis 5 = .ok (.ifCond .eq 31, 3) := by decide +kernel
theorem dX2_doCrisis_8 : decode cX2_doCrisis 8 = .ok (.aload_n 1, 1) := by decide +kernel
theorem dX2_doCrisis_9 : decode cX2_doCrisis 9 = .ok (.getfield 114, 3) := by decide +kernel
theorem dX2_doCrisis_12 : decode cX2_doCrisis 12 = .ok (.iload_n 2, 1) := by decide +kernel
theorem dX2_doCrisis_13 : decode cX2_doCrisis 13 = .ok (.iaload, 1) := by decide +kernel
theorem dX2_doCrisis_14 : decode cX2_doCrisis 14 = .ok (.ifCond .le 22, 3) := by decide +kernel
theorem dX2_doCrisis_17 : decode cX2_doCrisis 17 = .ok (.aload_n 1, 1) := by decide +kernel
theorem dX2_doCrisis_18 : decode cX2_doCrisis 18 = .ok (.iload_n 2, 1) := by decide +kernel
theorem dX2_doCrisis_19 : decode cX2_doCrisis 19 = .ok (.iload_n 3, 1) := by decide +kernel
theorem dX2_doCrisis_20 : decode cX2_doCrisis 20 = .ok (.invokevirtual 117, 3) := by decide +kernel
theorem dX2_doCrisis_23 : decode cX2_doCrisis 23 = .ok (.aload_n 0, 1) := by decide +kernel
theorem dX2_doCrisis_24 : decode cX2_doCrisis 24 = .ok (.dup, 1) := by decide +kernel
theorem dX2_doCrisis_25 : decode cX2_doCrisis 25 = .ok (.getfield 42, 3) := by decide +kernel
theorem dX2_doCrisis_28 : decode cX2_doCrisis 28 = .ok (.iconst 1, 1) := by decide +kernel
theorem dX2_doCrisis_29 : decode cX2_doCrisis 29 = .ok (.iadd, 1) := by decide +kernel
theorem dX2_doCrisis_30 : decode cX2_doCrisis 30 = .ok (.putfield 42, 3) := by decide +kernel
theorem dX2_doCrisis_33 : decode cX2_doCrisis 33 = .ok (.goto 13, 3) := by decide +kernel
theorem dX2_doCrisis_36 : decode cX2_doCrisis 36 = .ok (.aload_n 0, 1) := by decide +kernel
theorem dX2_doCrisis_37 : decode cX2_doCrisis 37 = .ok (.dup, 1) := by decide +kernel
theorem dX2_doCrisis_38 : decode cX2_doCrisis 38 = .ok (.getfield 33, 3) := by decide +kernel
theorem dX2_doCrisis_41 : decode cX2_doCrisis 41 = .ok (.iconst 1, 1) := by decide +kernel
theorem dX2_doCrisis_42 : decode cX2_doCrisis 42 = .ok (.iadd, 1) := by decide +kernel
theorem dX2_doCrisis_43 : decode cX2_doCrisis 43 = .ok (.putfield 33, 3) := by decide +kernel
theorem dX2_doCrisis_46 : decode cX2_doCrisis 46 = .ok (.return_, 1) := by decide +kernel
theorem dX2_doTurn_0 : decode cX2_doTurn 0 = .ok (.aload_n 1, 1) := by decide +kernel
theorem dX2_doTurn_1 : decode cX2_doTurn 1 = .ok (.iload_n 2, 1) := by decide +kernel
theorem dX2_doTurn_2 : decode cX2_doTurn 2 = .ok (.invokevirtual 121, 3) := by decide +kernel
theorem dX2_doTurn_5 : decode cX2_doTurn 5 = .ok (.ifCond .eq 31, 3) := by decide +kernel
theorem dX2_doTurn_8 : decode cX2_doTurn 8 = .ok (.aload_n 1, 1) := by decide +kernel
theorem dX2_doTurn_9 : decode cX2_doTurn 9 = .ok (.iload_n 3, 1) := by decide +kernel
theorem dX2_doTurn_10 : decode cX2_doTurn 10 = .ok (.invokevirtual 111, 3) := by decide +kernel
theorem dX2_doTurn_13 : decode cX2_doTurn 13 = .ok (.ifCond .eq 23, 3) := by decide +kernel
theorem dX2_doTurn_16 : decode cX2_doTurn 16 = .ok (.aload_n 1, 1) := by decide +kernel
theorem dX2_doTurn_17 : decode cX2_doTurn 17 = .ok (.getfield 124, 3) := by decide +kernel
theorem dX2_doTurn_20 : decode cX2_doTurn 20 = .ok (.iload_n 2, 1) := by decide +kernel
theorem dX2_doTurn_21 : decode cX2_doTurn 21 = .ok (.iaload, 1) := by decide +kernel
theorem dX2_doTurn_22 : decode cX2_doTurn 22 = .ok (.iload_n 3, 1) := by decide +kernel
theorem dX2_doTurn_23 : decode cX2_doTurn 23 = .ok (.if_icmp .eq 13, 3) := by decide +kernel
theorem dX2_doTurn_26 : decode cX2_doTurn 26 = .ok (.aload_n 1, 1) := by decide +kernel
theorem dX2_doTurn_27 : decode cX2_doTurn 27 = .ok (.getfield 124, 3) := by decide +kernel
theorem dX2_doTurn_30 : decode cX2_doTurn 30 = .ok (.iload_n 2, 1) := by decide +kernel
theorem dX2_doTurn_31 : decode cX2_doTurn 31 = .ok (.iload_n 3, 1) := by decide +kernel
theorem dX2_doTurn_32 : decode cX2_doTurn 32 = .ok (.iastore, 1) := by decide +kernel
theorem dX2_doTurn_33 : decode cX2_doTurn 33 = .ok (.goto 13, 3) := by decide +kernel
theorem dX2_doTurn_36 : decode cX2_doTurn 36 = .ok (.aload_n 0, 1) := by decide +kernel
theorem dX2_doTurn_37 : decode cX2_doTurn 37 = .ok (.dup, 1) := by decide +kernel
theorem dX2_doTurn_38 : decode cX2_doTurn 38 = .ok (.getfield 33, 3) := by decide +kernel
theorem dX2_doTurn_41 : decode cX2_doTurn 41 = .ok (.iconst 1, 1) := by decide +kernel
theorem dX2_doTurn_42 : decode cX2_doTurn 42 = .ok (.iadd, 1) := by decide +kernel
theorem dX2_doTurn_43 : decode cX2_doTurn 43 = .ok (.putfield 33, 3) := by decide +kernel
theorem dX2_doTurn_46 : decode cX2_doTurn 46 = .ok (.return_, 1) := by decide +kernel
theorem dX2_doAny_0 : decode cX2_doAny 0 = .ok (.aload_n 1, 1) := by decide +kernel
theorem dX2_doAny_1 : decode cX2_doAny 1 = .ok (.getfield 127, 3) := by decide +kernel
theorem dX2_doAny_4 : decode cX2_doAny 4 = .ok (.ifCond .ne 14, 3) := by decide +kernel
theorem dX2_doAny_7 : decode cX2_doAny 7 = .ok (.aload_n 0, 1) := by decide +kernel
theorem dX2_doAny_8 : decode cX2_doAny 8 = .ok (.dup, 1) := by decide +kernel
theorem dX2_doAny_9 : decode cX2_doAny 9 = .ok (.getfield 33, 3) := by decide +kernel
theorem dX2_doAny_12 : decode cX2_doAny 12 = .ok (.iconst 1, 1) := by decide +kernel
theorem dX2_doAny_13 : decode cX2_doAny 13 = .ok (.iadd, 1) := by decide +kernel
theorem dX2_doAny_14 : decode cX2_doAny 14 = .ok (.putfield 33, 3) := by decide +kernel
theorem dX2_doAny_17 : decode cX2_doAny 17 = .ok (.return_, 1) := by decide +kernel
theorem dX2_doAny_18 : decode cX2_doAny 18 = .ok (.aload_n 0, 1) := by decide +kernel
theorem dX2_doAny_19 : decode cX2_doAny 19 = .ok (.aload_n 1, 1) := by decide +kernel
theorem dX2_doAny_20 : decode cX2_doAny 20 = .ok (.getfield 127, 3) := by decide +kernel
theorem dX2_doAny_23 : decode cX2_doAny 23 = .ok (.invokevirtual 130, 3) := by decide +kernel
theorem dX2_doAny_26 : decode cX2_doAny 26 = .ok (.istore_n 2, 1) := by decide +kernel
theorem dX2_doAny_27 : decode cX2_doAny 27 = .ok (.aload_n 0, 1) := by decide +kernel
theorem dX2_doAny_28 : decode cX2_doAny 28 = .ok (.bipush 16, 2) := by decide +kernel
theorem dX2_doAny_30 : decode cX2_doAny 30 = .ok (.invokevirtual 130, 3) := by decide +kernel
theorem dX2_doAny_33 : decode cX2_doAny 33 = .ok (.aload_n 1, 1) := by decide +kernel
theorem dX2_doAny_34 : decode cX2_doAny 34 = .ok (.getfield 134, 3) := by decide +kernel
theorem dX2_doAny_37 : decode cX2_doAny 37 = .ok (.if_icmp .ge 20, 3) := by decide +kernel
theorem dX2_doAny_40 : decode cX2_doAny 40 = .ok (.aload_n 0, 1) := by decide +kernel
theorem dX2_doAny_41 : decode cX2_doAny 41 = .ok (.aload_n 1, 1) := by decide +kernel
theorem dX2_doAny_42 : decode cX2_doAny 42 = .ok (.iload_n 2, 1) := by decide +kernel
theorem dX2_doAny_43 : decode cX2_doAny 43 = .ok (.aload_n 0, 1) := by decide +kernel
theorem dX2_doAny_44 : decode cX2_doAny 44 = .ok (.bipush 50, 2) := by decide +kernel
theorem dX2_doAny_46 : decode cX2_doAny 46 = .ok (.invokevirtual 130, 3) := by decide +kernel
theorem dX2_doAny_49 : decode cX2_doAny 49 = .ok (.iconst 1, 1) := by decide +kernel
theorem dX2_doAny_50 : decode cX2_doAny 50 = .ok (.iadd, 1) := by decide +kernel
theorem dX2_doAny_51 : decode cX2_doAny 51 = .ok (.invokevirtual 82, 3) := by decide +kernel
theorem dX2_doAny_54 : decode cX2_doAny 54 = .ok (.goto 9, 3) := by decide +kernel
theorem dX2_doAny_57 : decode cX2_doAny 57 = .ok (.aload_n 0, 1) := by decide +kernel
theorem dX2_doAny_58 : decode cX2_doAny 58 = .ok (.aload_n 1, 1) := by decide +kernel
theorem dX2_doAny_59 : decode cX2_doAny 59 = .ok (.iconst 1, 1) := by decide +kernel
theorem dX2_doAny_60 : decode cX2_doAny 60 = .ok (.invokevirtual 75, 3) := by decide +kernel
theorem dX2_doAny_63 : decode cX2_doAny 63 = .ok (.return_, 1) := by decide +kernel
theorem dX2_draw_0 : decode cX2_draw 0 = .ok (.aload_n 0, 1) := by decide +kernel
theorem dX2_draw_1 : decode cX2_draw 1 = .ok (.aload_n 0, 1) := by decide +kernel
theorem dX2_draw_2 : decode cX2_draw 2 = .ok (.getfield 23, 3) := by decide +kernel
theorem dX2_draw_5 : decode cX2_draw 5 = .ok (.sipush 2971, 3) := by decide +kernel
theorem dX2_draw_8 : decode cX2_draw 8 = .ok (.imul, 1) := by decide +kernel
theorem dX2_draw_9 : decode cX2_draw 9 = .ok (.sipush 10973, 3) := by decide +kernel
theorem dX2_draw_12 : decode cX2_draw 12 = .ok (.iadd, 1) := by decide +kernel
theorem dX2_draw_13 : decode cX2_draw 13 = .ok (.ldc 137, 2) := by decide +kernel
theorem dX2_draw_15 : decode cX2_draw 15 = .ok (.irem, 1) := by decide +kernel
theorem dX2_draw_16 : decode cX2_draw 16 = .ok (.putfield 23, 3) := by decide +kernel
theorem dX2_draw_19 : decode cX2_draw 19 = .ok (.iload_n 1, 1) := by decide +kernel
theorem dX2_draw_20 : decode cX2_draw 20 = .ok (.ifCond .le 15, 3) := by decide +kernel
theorem dX2_draw_23 : decode cX2_draw 23 = .ok (.aload_n 0, 1) := by decide +kernel
theorem dX2_draw_24 : decode cX2_draw 24 = .ok (.getfield 23, 3) := by decide +kernel
theorem dX2_draw_27 : decode cX2_draw 27 = .ok (.bipush 8, 2) := by decide +kernel
theorem dX2_draw_29 : decode cX2_draw 29 = .ok (.idiv, 1) := by decide +kernel
theorem dX2_draw_30 : decode cX2_draw 30 = .ok (.iload_n 1, 1) := by decide +kernel
theorem dX2_draw_31 : decode cX2_draw 31 = .ok (.irem, 1) := by decide +kernel
theorem dX2_draw_32 : decode cX2_draw 32 = .ok (.goto 4, 3) := by decide +kernel
theorem dX2_draw_35 : decode cX2_draw 35 = .ok (.iconst 0, 1) := by decide +kernel
theorem dX2_draw_36 : decode cX2_draw 36 = .ok (.ireturn, 1) := by decide +kernel
theorem dX2_isSo_0 : decode cX2_isSo 0 = .ok (.aload_n 1, 1) := by decide +kernel
theorem dX2_isSo_1 : decode cX2_isSo 1 = .ok (.getfield 69, 3) := by decide +kernel
theorem dX2_isSo_4 : decode cX2_isSo 4 = .ok (.iload_n 2, 1) := by decide +kernel
theorem dX2_isSo_5 : decode cX2_isSo 5 = .ok (.iaload, 1) := by decide +kernel
theorem dX2_isSo_6 : decode cX2_isSo 6 = .ok (.istore_n 3, 1) := by decide +kernel
theorem dX2_isSo_7 : decode cX2_isSo 7 = .ok (.aload_n 1, 1) := by decide +kernel
theorem dX2_isSo_8 : decode cX2_isSo 8 = .ok (.getfield 138, 3) := by decide +kernel
theorem dX2_isSo_11 : decode cX2_isSo 11 = .ok (.iload_n 2, 1) := by decide +kernel
theorem dX2_isSo_12 : decode cX2_isSo 12 = .ok (.iaload, 1) := by decide +kernel
theorem dX2_isSo_13 : decode cX2_isSo 13 = .ok (.bipush 20, 2) := by decide +kernel
theorem dX2_isSo_15 : decode cX2_isSo 15 = .ok (.if_icmp .ne 28, 3) := by decide +kernel
theorem dX2_isSo_18 : decode cX2_isSo 18 = .ok (.aload_n 0, 1) := by decide +kernel
theorem dX2_isSo_19 : decode cX2_isSo 19 = .ok (.iload_n 3, 1) := by decide +kernel
theorem dX2_isSo_20 : decode cX2_isSo 20 = .ok (.invokevirtual 111, 3) := by decide +kernel
theorem dX2_isSo_23 : decode cX2_isSo 23 = .ok (.ifCond .eq 18, 3) := by decide +kernel
theorem dX2_isSo_26 : decode cX2_isSo 26 = .ok (.aload_n 0, 1) := by decide +kernel
theorem dX2_isSo_27 : decode cX2_isSo 27 = .ok (.getfield 114, 3) := by decide +kernel
theorem dX2_isSo_30 : decode cX2_isSo 30 = .ok (.iload_n 3, 1) := by decide +kernel
theorem dX2_isSo_31 : decode cX2_isSo 31 = .ok (.iaload, 1) := by decide +kernel
theorem dX2_isSo_32 : decode cX2_isSo 32 = .ok (.bipush 100, 2) := by decide +kernel
theorem dX2_isSo_34 : decode cX2_isSo 34 = .ok (.if_icmp .lt 7, 3) := by decide +kernel
theorem dX2_isSo_37 : decode cX2_isSo 37 = .ok (.iconst 1, 1) := by decide +kernel
theorem dX2_isSo_38 : decode cX2_isSo 38 = .ok (.goto 4, 3) := by decide +kernel
theorem dX2_isSo_41 : decode cX2_isSo 41 = .ok (.iconst 0, 1) := by decide +kernel
theorem dX2_isSo_42 : decode cX2_isSo 42 = .ok (.ireturn, 1) := by decide +kernel
theorem dX2_isSo_43 : decode cX2_isSo 43 = .ok (.aload_n 0, 1) := by decide +kernel
theorem dX2_isSo_44 : decode cX2_isSo 44 = .ok (.iload_n 3, 1) := by decide +kernel
theorem dX2_isSo_45 : decode cX2_isSo 45 = .ok (.invokevirtual 121, 3) := by decide +kernel
theorem dX2_isSo_48 : decode cX2_isSo 48 = .ok (.ifCond .eq 11, 3) := by decide +kernel
theorem dX2_isSo_51 : decode cX2_isSo 51 = .ok (.aload_n 0, 1) := by decide +kernel
theorem dX2_isSo_52 : decode cX2_isSo 52 = .ok (.iload_n 3, 1) := by decide +kernel
theorem dX2_isSo_53 : decode cX2_isSo 53 = .ok (.invokevirtual 141, 3) := by decide +kernel
theorem dX2_isSo_56 : decode cX2_isSo 56 = .ok (.goto 4, 3) := by decide +kernel
theorem dX2_isSo_59 : decode cX2_isSo 59 = .ok (.iconst 0, 1) := by decide +kernel
theorem dX2_isSo_60 : decode cX2_isSo 60 = .ok (.istore 4, 2) := by decide +kernel
theorem dX2_isSo_62 : decode cX2_isSo 62 = .ok (.aload_n 1, 1) := by decide +kernel
theorem dX2_isSo_63 : decode cX2_isSo 63 = .ok (.getfield 144, 3) := by decide +kernel
theorem dX2_isSo_66 : decode cX2_isSo 66 = .ok (.iload_n 2, 1) := by decide +kernel
theorem dX2_isSo_67 : decode cX2_isSo 67 = .ok (.iaload, 1) := by decide +kernel
theorem dX2_isSo_68 : decode cX2_isSo 68 = .ok (.tableswitch 79 60 62 #[28, 62, 45], 28) := by decide +kernel
theorem dX2_isSo_96 : decode cX2_isSo 96 = .ok (.iload 4, 2) := by decide +kernel
theorem dX2_isSo_98 : decode cX2_isSo 98 = .ok (.aload_n 1, 1) := by decide +kernel
theorem dX2_isSo_99 : decode cX2_isSo 99 = .ok (.getfield 72, 3) := by decide +kernel
theorem dX2_isSo_102 : decode cX2_isSo 102 = .ok (.iload_n 2, 1) := by decide +kernel
theorem dX2_isSo_103 : decode cX2_isSo 103 = .ok (.iaload, 1) := by decide +kernel
theorem dX2_isSo_104 : decode cX2_isSo 104 = .ok (.if_icmp .ge 7, 3) := by decide +kernel
theorem dX2_isSo_107 : decode cX2_isSo 107 = .ok (.iconst 1, 1) := by decide +kernel
theorem dX2_isSo_108 : decode cX2_isSo 108 = .ok (.goto 4, 3) := by decide +kernel
theorem dX2_isSo_111 : decode cX2_isSo 111 = .ok (.iconst 0, 1) := by decide +kernel
theorem dX2_isSo_112 : decode cX2_isSo 112 = .ok (.ireturn, 1) := by decide +kernel
theorem dX2_isSo_113 : decode cX2_isSo 113 = .ok (.iload 4, 2) := by decide +kernel
theorem dX2_isSo_115 : decode cX2_isSo 115 = .ok (.aload_n 1, 1) := by decide +kernel
theorem dX2_isSo_116 : decode cX2_isSo 116 = .ok (.getfield 72, 3) := by decide +kernel
theorem dX2_isSo_119 : decode cX2_isSo 119 = .ok (.iload_n 2, 1) := by decide +kernel
theorem dX2_isSo_120 : decode cX2_isSo 120 = .ok (.iaload, 1) := by decide +kernel
theorem dX2_isSo_121 : decode cX2_isSo 121 = .ok (.if_icmp .le 7, 3) := by decide +kernel
theorem dX2_isSo_124 : decode cX2_isSo 124 = .ok (.iconst 1, 1) := by decide +kernel
theorem dX2_isSo_125 : decode cX2_isSo 125 = .ok (.goto 4, 3) := by decide +kernel
theorem dX2_isSo_128 : decode cX2_isSo 128 = .ok (.iconst 0, 1) := by decide +kernel
theorem dX2_isSo_129 : decode cX2_isSo 129 = .ok (.ireturn, 1) := by decide +kernel
theorem dX2_isSo_130 : decode cX2_isSo 130 = .ok (.iload 4, 2) := by decide +kernel
theorem dX2_isSo_132 : decode cX2_isSo 132 = .ok (.aload_n 1, 1) := by decide +kernel
theorem dX2_isSo_133 : decode cX2_isSo 133 = .ok (.getfield 72, 3) := by decide +kernel
theorem dX2_isSo_136 : decode cX2_isSo 136 = .ok (.iload_n 2, 1) := by decide +kernel
theorem dX2_isSo_137 : decode cX2_isSo 137 = .ok (.iaload, 1) := by decide +kernel
theorem dX2_isSo_138 : decode cX2_isSo 138 = .ok (.if_icmp .ne 7, 3) := by decide +kernel
theorem dX2_isSo_141 : decode cX2_isSo 141 = .ok (.iconst 1, 1) := by decide +kernel
theorem dX2_isSo_142 : decode cX2_isSo 142 = .ok (.goto 4, 3) := by decide +kernel
theorem dX2_isSo_145 : decode cX2_isSo 145 = .ok (.iconst 0, 1) := by decide +kernel
theorem dX2_isSo_146 : decode cX2_isSo 146 = .ok (.ireturn, 1) := by decide +kernel
theorem dX2_isSo_147 : decode cX2_isSo 147 = .ok (.iload 4, 2) := by decide +kernel
theorem dX2_isSo_149 : decode cX2_isSo 149 = .ok (.ifCond .ne 7, 3) := by decide +kernel
theorem dX2_isSo_152 : decode cX2_isSo 152 = .ok (.iconst 1, 1) := by decide +kernel
theorem dX2_isSo_153 : decode cX2_isSo 153 = .ok (.goto 4, 3) := by decide +kernel
theorem dX2_isSo_156 : decode cX2_isSo 156 = .ok (.iconst 0, 1) := by decide +kernel
theorem dX2_isSo_157 : decode cX2_isSo 157 = .ok (.ireturn, 1) := by decide +kernel
theorem dX3_init_0 : decode cX3_init 0 = .ok (.aload_n 0, 1) := by decide +kernel
theorem dX3_init_1 : decode cX3_init 1 = .ok (.invokespecial 3, 3) := by decide +kernel
theorem dX3_init_4 : decode cX3_init 4 = .ok (.aload_n 0, 1) := by decide +kernel
theorem dX3_init_5 : decode cX3_init 5 = .ok (.bipush 6, 2) := by decide +kernel
theorem dX3_init_7 : decode cX3_init 7 = .ok (.newarray .int, 2) := by decide +kernel
theorem dX3_init_9 : decode cX3_init 9 = .ok (.putfield 9, 3) := by decide +kernel
theorem dX3_init_12 : decode cX3_init 12 = .ok (.aload_n 0, 1) := by decide +kernel
theorem dX3_init_13 : decode cX3_init 13 = .ok (.bipush 6, 2) := by decide +kernel
theorem dX3_init_15 : decode cX3_init 15 = .ok (.newarray .int, 2) := by decide +kernel
theorem dX3_init_17 : decode cX3_init 17 = .ok (.putfield 15, 3) := by decide +kernel
theorem dX3_init_20 : decode cX3_init 20 = .ok (.aload_n 0, 1) := by decide +kernel
theorem dX3_init_21 : decode cX3_init 21 = .ok (.bipush 6, 2) := by decide +kernel
theorem dX3_init_23 : decode cX3_init 23 = .ok (.newarray .int, 2) := by decide +kernel
theorem dX3_init_25 : decode cX3_init 25 = .ok (.putfield 18, 3) := by decide +kernel
theorem dX3_init_28 : decode cX3_init 28 = .ok (.aload_n 0, 1) := by decide +kernel
theorem dX3_init_29 : decode cX3_init 29 = .ok (.bipush 6, 2) := by decide +kernel
theorem dX3_init_31 : decode cX3_init 31 = .ok (.newarray .int, 2) := by decide +kernel
theorem dX3_init_33 : decode cX3_init 33 = .ok (.putfield 21, 3) := by decide +kernel
theorem dX3_init_36 : decode cX3_init 36 = .ok (.aload_n 0, 1) := by decide +kernel
theorem dX3_init_37 : decode cX3_init 37 = .ok (.bipush 64, 2) := by decide +kernel
theorem dX3_init_39 : decode cX3_init 39 = .ok (.newarray .int, 2) := by decide +kernel
theorem dX3_init_41 : decode cX3_init 41 = .ok (.putfield 24, 3) := by decide +kernel
theorem dX3_init_44 : decode cX3_init 44 = .ok (.aload_n 0, 1) := by decide +kernel
theorem dX3_init_45 : decode cX3_init 45 = .ok (.sipush 896, 3) := by decide +kernel
theorem dX3_init_48 : decode cX3_init 48 = .ok (.newarray .int, 2) := by decide +kernel
theorem dX3_init_50 : decode cX3_init 50 = .ok (.putfield 27, 3) := by decide +kernel
theorem dX3_init_53 : decode cX3_init 53 = .ok (.return_, 1) := by decide +kernel
theorem dX3_isIn_0 : decode cX3_isIn 0 = .ok (.iload_n 0, 1) := by decide +kernel
theorem dX3_isIn_1 : decode cX3_isIn 1 = .ok (.iload_n 1, 1) := by decide +kernel
theorem dX3_isIn_2 : decode cX3_isIn 2 = .ok (.ishr, 1) := by decide +kernel
theorem dX3_isIn_3 : decode cX3_isIn 3 = .ok (.iconst 1, 1) := by decide +kernel
theorem dX3_isIn_4 : decode cX3_isIn 4 = .ok (.iand, 1) := by decide +kernel
theorem dX3_isIn_5 : decode cX3_isIn 5 = .ok (.iconst 1, 1) := by decide +kernel
theorem dX3_isIn_6 : decode cX3_isIn 6 = .ok (.if_icmp .ne 7, 3) := by decide +kernel
theorem dX3_isIn_9 : decode cX3_isIn 9 = .ok (.iconst 1, 1) := by decide +kernel
theorem dX3_isIn_10 : decode cX3_isIn 10 = .ok (.goto 4, 3) := by decide +kernel
theorem dX3_isIn_13 : decode cX3_isIn 13 = .ok (.iconst 0, 1) := by decide +kernel
theorem dX3_isIn_14 : decode cX3_isIn 14 = .ok (.ireturn, 1) := by decide +kernel
theorem dX3_fewestNews_0 : decode cX3_fewestNews 0 = .ok (.iconst (-1), 1) := by decide +kernel
theorem dX3_fewestNews_1 : decode cX3_fewestNews 1 = .ok (.istore_n 3, 1) := by decide +kernel
theorem dX3_fewestNews_2 : decode cX3_fewestNews 2 = .ok (.iconst 0, 1) := by decide +kernel
theorem dX3_fewestNews_3 : decode cX3_fewestNews 3 = .ok (.istore 4, 2) := by decide +kernel
theorem dX3_fewestNews_5 : decode cX3_fewestNews 5 = .ok (.iload 4, 2) := by decide +kernel
theorem dX3_fewestNews_7 : decode cX3_fewestNews 7 = .ok (.iconst 1, 1) := by decide +kernel
theorem dX3_fewestNews_8 : decode cX3_fewestNews 8 = .ok (.aload_n 1, 1) := by decide +kernel
theorem dX3_fewestNews_9 : decode cX3_fewestNews 9 = .ok (.getfield 30, 3) := by decide +kernel
theorem dX3_fewestNews_12 : decode cX3_fewestNews 12 = .ok (.ishl, 1) := by decide +kernel
theorem dX3_fewestNews_13 : decode cX3_fewestNews 13 = .ok (.if_icmp .ge 64, 3) := by decide +kernel
theorem dX3_fewestNews_16 : decode cX3_fewestNews 16 = .ok (.iload_n 3, 1) := by decide +kernel
theorem dX3_fewestNews_17 : decode cX3_fewestNews 17 = .ok (.iconst (-1), 1) := by decide +kernel
theorem dX3_fewestNews_18 : decode cX3_fewestNews 18 = .ok (.if_icmp .eq 15, 3) := by decide +kernel
theorem dX3_fewestNews_21 : decode cX3_fewestNews 21 = .ok (.iload 4, 2) := by decide +kernel
theorem dX3_fewestNews_23 : decode cX3_fewestNews 23 = .ok (.invokestatic 36, 3) := by decide +kernel
theorem dX3_fewestNews_26 : decode cX3_fewestNews 26 = .ok (.iload_n 3, 1) := by decide +kernel
theorem dX3_fewestNews_27 : decode cX3_fewestNews 27 = .ok (.invokestatic 36, 3) := by decide +kernel
theorem dX3_fewestNews_30 : decode cX3_fewestNews 30 = .ok (.if_icmp .ge 7, 3) := by decide +kernel
theorem dX3_fewestNews_33 : decode cX3_fewestNews 33 = .ok (.iconst 1, 1) := by decide +kernel
theorem dX3_fewestNews_34 : decode cX3_fewestNews 34 = .ok (.goto 4, 3) := by decide +kernel
theorem dX3_fewestNews_37 : decode cX3_fewestNews 37 = .ok (.iconst 0, 1) := by decide +kernel
theorem dX3_fewestNews_38 : decode cX3_fewestNews 38 = .ok (.istore 5, 2) := by decide +kernel
theorem dX3_fewestNews_40 : decode cX3_fewestNews 40 = .ok (.iload 5, 2) := by decide +kernel
theorem dX3_fewestNews_42 : decode cX3_fewestNews 42 = .ok (.ifCond .eq 29, 3) := by decide +kernel
theorem dX3_fewestNews_45 : decode cX3_fewestNews 45 = .ok (.aload_n 1, 1) := by decide +kernel
theorem dX3_fewestNews_46 : decode cX3_fewestNews 46 = .ok (.iload 4, 2) := by decide +kernel
theorem dX3_fewestNews_48 : decode cX3_fewestNews 48 = .ok (.invokestatic 42, 3) := by decide +kernel
theorem dX3_fewestNews_51 : decode cX3_fewestNews 51 = .ok (.ifCond .eq 20, 3) := by decide +kernel
theorem dX3_fewestNews_54 : decode cX3_fewestNews 54 = .ok (.iload_n 2, 1) := by decide +kernel
theorem dX3_fewestNews_55 : decode cX3_fewestNews 55 = .ok (.aload_n 0, 1) := by decide +kernel
theorem dX3_fewestNews_56 : decode cX3_fewestNews 56 = .ok (.aload_n 1, 1) := by decide +kernel
theorem dX3_fewestNews_57 : decode cX3_fewestNews 57 = .ok (.iload 4, 2) := by decide +kernel
theorem dX3_fewestNews_59 : decode cX3_fewestNews 59 = .ok (.invokevirtual 46, 3) := by decide +kernel
theorem dX3_fewestNews_62 : decode cX3_fewestNews 62 = .ok (.iconst (-1), 1) := by decide +kernel
theorem dX3_fewestNews_63 : decode cX3_fewestNews 63 = .ok (.ixor, 1) := by decide +kernel
theorem dX3_fewestNews_64 : decode cX3_fewestNews 64 = .ok (.iand, 1) := by decide +kernel
theorem dX3_fewestNews_65 : decode cX3_fewestNews 65 = .ok (.ifCond .ne 6, 3) := by decide +kernel
theorem dX3_fewestNews_68 : decode cX3_fewestNews 68 = .ok (.iload 4, 2) := by decide +kernel
theorem dX3_fewestNews_70 : decode cX3_fewestNews 70 = .ok (.istore_n 3, 1) := by decide +kernel
theorem dX3_fewestNews_71 : decode cX3_fewestNews 71 = .ok (.iinc 4 1, 3) := by decide +kernel
theorem dX3_fewestNews_74 : decode cX3_fewestNews 74 = .ok (.goto (-69), 3) := by decide +kernel
theorem dX3_fewestNews_77 : decode cX3_fewestNews 77 = .ok (.iload_n 3, 1) := by decide +kernel
theorem dX3_fewestNews_78 : decode cX3_fewestNews 78 = .ok (.ireturn, 1) := by decide +kernel
theorem dX3_canAllCome_0 : decode cX3_canAllCome 0 = .ok (.iconst 0, 1) := by decide +kernel
theorem dX3_canAllCome_1 : decode cX3_canAllCome 1 = .ok (.istore_n 2, 1) := by decide +kernel
theorem dX3_canAllCome_2 : decode cX3_canAllCome 2 = .ok (.iload_n 2, 1) := by decide +kernel
theorem dX3_canAllCome_3 : decode cX3_canAllCome 3 = .ok (.aload_n 0, 1) := by decide +kernel
theorem dX3_canAllCome_4 : decode cX3_canAllCome 4 = .ok (.getfield 30, 3) := by decide +kernel
theorem dX3_canAllCome_7 : decode cX3_canAllCome 7 = .ok (.if_icmp .ge 27, 3) := by decide +kernel
theorem dX3_canAllCome_10 : decode cX3_canAllCome 10 = .ok (.iload_n 1, 1) := by decide +kernel
theorem dX3_canAllCome_11 : decode cX3_canAllCome 11 = .ok (.iload_n 2, 1) := by decide +kernel
theorem dX3_canAllCome_12 : decode cX3_canAllCome 12 = .ok (.invokestatic 50, 3) := by decide +kernel
theorem dX3_canAllCome_15 : decode cX3_canAllCome 15 = .ok (.ifCond .eq 13, 3) := by decide +kernel
theorem dX3_canAllCome_18 : decode cX3_canAllCome 18 = .ok (.aload_n 0, 1) := by decide +kernel
theorem dX3_canAllCome_19 : decode cX3_canAllCome 19 = .ok (.iload_n 2, 1) := by decide +kernel
theorem dX3_canAllCome_20 : decode cX3_canAllCome 20 = .ok (.invokevirtual 54, 3) := by decide +kernel
theorem dX3_canAllCome_23 : decode cX3_canAllCome 23 = .ok (.ifCond .ne 5, 3) := by decide +kernel
theorem dX3_canAllCome_26 : decode cX3_canAllCome 26 = .ok (.iconst 0, 1) := by decide +kernel
theorem dX3_canAllCome_27 : decode cX3_canAllCome 27 = .ok (.ireturn, 1) := by decide +kernel
theorem dX3_canAllCome_28 : decode cX3_canAllCome 28 = .ok (.iinc 2 1, 3) := by decide +kernel
theorem dX3_canAllCome_31 : decode cX3_canAllCome 31 = .ok (.goto (-29), 3) := by decide +kernel
theorem dX3_canAllCome_34 : decode cX3_canAllCome 34 = .ok (.iconst 1, 1) := by decide +kernel
theorem dX3_canAllCome_35 : decode cX3_canAllCome 35 = .ok (.ireturn, 1) := by decide +kernel
theorem dX3_downBy_0 : decode cX3_downBy 0 = .ok (.aload_n 1, 1) := by decide +kernel
theorem dX3_downBy_1 : decode cX3_downBy 1 = .ok (.getfield 58, 3) := by decide +kernel
theorem dX3_downBy_4 : decode cX3_downBy 4 = .ok (.iconst 0, 1) := by decide +kernel
theorem dX3_downBy_5 : decode cX3_downBy 5 = .ok (.aload_n 0, 1) := by decide +kernel
theorem dX3_downBy_6 : decode cX3_downBy 6 = .ok (.getfield 9, 3) := by decide +kernel
theorem dX3_downBy_9 : decode cX3_downBy 9 = .ok (.iconst 0, 1) := by decide +kernel
theorem dX3_downBy_10 : decode cX3_downBy 10 = .ok (.bipush 6, 2) := by decide +kernel
theorem dX3_downBy_12 : decode cX3_downBy 12 = .ok (.invokestatic 61, 3) := by decide +kernel
theorem dX3_downBy_15 : decode cX3_downBy 15 = .ok (.iconst 0, 1) := by decide +kernel
theorem dX3_downBy_16 : decode cX3_downBy 16 = .ok (.istore_n 3, 1) := by decide +kernel
theorem dX3_downBy_17 : decode cX3_downBy 17 = .ok (.iload_n 3, 1) := by decide +kernel
theorem dX3_downBy_18 : decode cX3_downBy 18 = .ok (.aload_n 1, 1) := by decide +kernel
theorem dX3_downBy_19 : decode cX3_downBy 19 = .ok (.getfield 30, 3) := by decide +kernel
theorem dX3_downBy_22 : decode cX3_downBy 22 = .ok (.if_icmp .ge 51, 3) := by decide +kernel
theorem dX3_downBy_25 : decode cX3_downBy 25 = .ok (.iload_n 2, 1) := by decide +kernel
theorem dX3_downBy_26 : decode cX3_downBy 26 = .ok (.iload_n 3, 1) := by decide +kernel
theorem dX3_downBy_27 : decode cX3_downBy 27 = .ok (.invokestatic 50, 3) := by decide +kernel
theorem dX3_downBy_30 : decode cX3_downBy 30 = .ok (.ifCond .eq 37, 3) := by decide +kernel
theorem dX3_downBy_33 : decode cX3_downBy 33 = .ok (.aload_n 1, 1) := by decide +kernel
theorem dX3_downBy_34 : decode cX3_downBy 34 = .ok (.getfield 67, 3) := by decide +kernel
theorem dX3_downBy_37 : decode cX3_downBy 37 = .ok (.iload_n 3, 1) := by decide +kernel
theorem dX3_downBy_38 : decode cX3_downBy 38 = .ok (.iaload, 1) := by decide +kernel
theorem dX3_downBy_39 : decode cX3_downBy 39 = .ok (.istore 4, 2) := by decide +kernel
theorem dX3_downBy_41 : decode cX3_downBy 41 = .ok (.aload_n 0, 1) := by decide +kernel
theorem dX3_downBy_42 : decode cX3_downBy 42 = .ok (.getfield 9, 3) := by decide +kernel
theorem dX3_downBy_45 : decode cX3_downBy 45 = .ok (.iload 4, 2) := by decide +kernel
theorem dX3_downBy_47 : decode cX3_downBy 47 = .ok (.bipush 100, 2) := by decide +kernel
theorem dX3_downBy_49 : decode cX3_downBy 49 = .ok (.aload_n 0, 1) := by decide +kernel
theorem dX3_downBy_50 : decode cX3_downBy 50 = .ok (.getfield 9, 3) := by decide +kernel
theorem dX3_downBy_53 : decode cX3_downBy 53 = .ok (.iload 4, 2) := by decide +kernel
theorem dX3_downBy_55 : decode cX3_downBy 55 = .ok (.iaload, 1) := by decide +kernel
theorem dX3_downBy_56 : decode cX3_downBy 56 = .ok (.aload_n 1, 1) := by decide +kernel
theorem dX3_downBy_57 : decode cX3_downBy 57 = .ok (.getfield 70, 3) := by decide +kernel
theorem dX3_downBy_60 : decode cX3_downBy 60 = .ok (.iload_n 3, 1) := by decide +kernel
theorem dX3_downBy_61 : decode cX3_downBy 61 = .ok (.iaload, 1) := by decide +kernel
theorem dX3_downBy_62 : decode cX3_downBy 62 = .ok (.iadd, 1) := by decide +kernel
theorem dX3_downBy_63 : decode cX3_downBy 63 = .ok (.invokestatic 73, 3) := by decide +kernel
theorem dX3_downBy_66 : decode cX3_downBy 66 = .ok (.iastore, 1) := by decide +kernel
theorem dX3_downBy_67 : decode cX3_downBy 67 = .ok (.iinc 3 1, 3) := by decide +kernel
theorem dX3_downBy_70 : decode cX3_downBy 70 = .ok (.goto (-53), 3) := by decide +kernel
theorem dX3_downBy_73 : decode cX3_downBy 73 = .ok (.aload_n 1, 1) := by decide +kernel
theorem dX3_downBy_74 : decode cX3_downBy 74 = .ok (.aload_n 0, 1) := by decide +kernel
theorem dX3_downBy_75 : decode cX3_downBy 75 = .ok (.getfield 9, 3) := by decide +kernel
theorem dX3_downBy_78 : decode cX3_downBy 78 = .ok (.invokevirtual 79, 3) := by decide +kernel
theorem dX3_downBy_81 : decode cX3_downBy 81 = .ok (.ireturn, 1) := by decide +kernel
theorem dX3_findHolders_0 : decode cX3_findHolders 0 = .ok (.aload_n 0, 1) := by decide +kernel
theorem dX3_findHolders_1 : decode cX3_findHolders 1 = .ok (.getfield 15, 3) := by decide +kernel
theorem dX3_findHolders_4 : decode cX3_findHolders 4 = .ok (.iconst 0, 1) := by decide +kernel
theorem dX3_findHolders_5 : decode cX3_findHolders 5 = .ok (.invokestatic 83, 3) := by decide +kernel
theorem dX3_findHolders_8 : decode cX3_findHolders 8 = .ok (.iconst 0, 1) := by decide +kernel
theorem dX3_findHolders_9 : decode cX3_findHolders 9 = .ok (.istore_n 3, 1) := by decide +kernel
theorem dX3_findHolders_10 : decode cX3_findHolders 10 = .ok (.iload_n 3, 1) := by decide +kernel
theorem dX3_findHolders_11 : decode cX3_findHolders 11 = .ok (.aload_n 1, 1) := by decide +kernel
theorem dX3_findHolders_12 : decode cX3_findHolders 12 = .ok (.getfield 89, 3) := by decide +kernel
theorem dX3_findHolders_15 : decode cX3_findHolders 15 = .ok (.if_icmp .ge 39, 3) := by decide +kernel
theorem dX3_findHolders_18 : decode cX3_findHolders 18 = .ok (.iload_n 2, 1) := by decide +kernel
theorem dX3_findHolders_19 : decode cX3_findHolders 19 = .ok (.iload_n 3, 1) := by decide +kernel
theorem dX3_findHolders_20 : decode cX3_findHolders 20 = .ok (.invokestatic 50, 3) := by decide +kernel
theorem dX3_findHolders_23 : decode cX3_findHolders 23 = .ok (.ifCond .ne 25, 3) := by decide +kernel
theorem dX3_findHolders_26 : decode cX3_findHolders 26 = .ok (.aload_n 0, 1) := by decide +kernel
theorem dX3_findHolders_27 : decode cX3_findHolders 27 = .ok (.getfield 15, 3) := by decide +kernel
theorem dX3_findHolders_30 : decode cX3_findHolders 30 = .ok (.aload_n 1, 1) := by decide +kernel
theorem dX3_findHolders_31 : decode cX3_findHolders 31 = .ok (.getfield 92, 3) := by decide +kernel
theorem dX3_findHolders_34 : decode cX3_findHolders 34 = .ok (.iload_n 3, 1) := by decide +kernel
theorem dX3_findHolders_35 : decode cX3_findHolders 35 = .ok (.iaload, 1) := by decide +kernel
theorem dX3_findHolders_36 : decode cX3_findHolders 36 = .ok (.dup2, 1) := by decide +kernel
theorem dX3_findHolders_37 : decode cX3_findHolders 37 = .ok (.iaload, 1) := by decide +kernel
theorem dX3_findHolders_38 : decode cX3_findHolders 38 = .ok (.iconst 1, 1) := by decide +kernel
theorem dX3_findHolders_39 : decode cX3_findHolders 39 = .ok (.aload_n 1, 1) := by decide +kernel
theorem dX3_findHolders_40 : decode cX3_findHolders 40 = .ok (.getfield 95, 3) := by decide +kernel
theorem dX3_findHolders_43 : decode cX3_findHolders 43 = .ok (.iload_n 3, 1) := by decide +kernel
theorem dX3_findHolders_44 : decode cX3_findHolders 44 = .ok (.iaload, 1) := by decide +kernel
theorem dX3_findHolders_45 : decode cX3_findHolders 45 = .ok (.ishl, 1) := by decide +kernel
theorem dX3_findHolders_46 : decode cX3_findHolders 46 = .ok (.ior, 1) := by decide +kernel
theorem dX3_findHolders_47 : decode cX3_findHolders 47 = .ok (.iastore, 1) := by decide +kernel
theorem dX3_findHolders_48 : decode cX3_findHolders 48 = .ok (.iinc 3 1, 3) := by decide +kernel
theorem dX3_findHolders_51 : decode cX3_findHolders 51 = .ok (.goto (-41), 3) := by decide +kernel
theorem dX3_findHolders_54 : decode cX3_findHolders 54 = .ok (.return_, 1) := by decide +kernel
theorem dX3_holdersOfAll_0 : decode cX3_holdersOfAll 0 = .ok (.iconst 0, 1) := by decide +kernel
theorem dX3_holdersOfAll_1 : decode cX3_holdersOfAll 1 = .ok (.istore_n 3, 1) := by decide +kernel
theorem dX3_holdersOfAll_2 : decode cX3_holdersOfAll 2 = .ok (.iconst 0, 1) := by decide +kernel
theorem dX3_holdersOfAll_3 : decode cX3_holdersOfAll 3 = .ok (.istore 4, 2) := by decide +kernel
theorem dX3_holdersOfAll_5 : decode cX3_holdersOfAll 5 = .ok (.iload 4, 2) := by decide +kernel
theorem dX3_holdersOfAll_7 : decode cX3_holdersOfAll 7 = .ok (.aload_n 1, 1) := by decide +kernel
theorem dX3_holdersOfAll_8 : decode cX3_holdersOfAll 8 = .ok (.getfield 98, 3) := by decide +kernel
theorem dX3_holdersOfAll_11 : decode cX3_holdersOfAll 11 = .ok (.if_icmp .ge 28, 3) := by decide +kernel
theorem dX3_holdersOfAll_14 : decode cX3_holdersOfAll 14 = .ok (.iload_n 2, 1) := by decide +kernel
theorem dX3_holdersOfAll_15 : decode cX3_holdersOfAll 15 = .ok (.iload 4, 2) := by decide +kernel
theorem dX3_holdersOfAll_17 : decode cX3_holdersOfAll 17 = .ok (.invokestatic 50, 3) := by decide +kernel
theorem dX3_holdersOfAll_20 : decode cX3_holdersOfAll 20 = .ok (.ifCond .eq 13, 3) := by decide +kernel
theorem dX3_holdersOfAll_23 : decode cX3_holdersOfAll 23 = .ok (.iload_n 3, 1) := by decide +kernel
theorem dX3_holdersOfAll_24 : decode cX3_holdersOfAll 24 = .ok (.aload_n 0, 1) := by decide +kernel
theorem dX3_holdersOfAll_25 : decode cX3_holdersOfAll 25 = .ok (.getfield 15, 3) := by decide +kernel
theorem dX3_holdersOfAll_28 : decode cX3_holdersOfAll 28 = .ok (.iload 4, 2) := by decide +kernel
theorem dX3_holdersOfAll_30 : decode cX3_holdersOfAll 30 = .ok (.iaload, 1) := by decide +kernel
theorem dX3_holdersOfAll_31 : decode cX3_holdersOfAll 31 = .ok (.ior, 1) := by decide +kernel
theorem dX3_holdersOfAll_32 : decode cX3_holdersOfAll 32 = .ok (.istore_n 3, 1) := by decide +kernel
theorem dX3_holdersOfAll_33 : decode cX3_holdersOfAll 33 = .ok (.iinc 4 1, 3) := by decide +kernel
theorem dX3_holdersOfAll_36 : decode cX3_holdersOfAll 36 = .ok (.goto (-31), 3) := by decide +kernel
theorem dX3_holdersOfAll_39 : decode cX3_holdersOfAll 39 = .ok (.iload_n 3, 1) := by decide +kernel
theorem dX3_holdersOfAll_40 : decode cX3_holdersOfAll 40 = .ok (.ireturn, 1) := by decide +kernel
theorem dX3_shortestRing_0 : decode cX3_shortestRing 0 = .ok (.iconst (-1), 1) := by decide +kernel
theorem dX3_shortestRing_1 : decode cX3_shortestRing 1 = .ok (.istore_n 2, 1) := by decide +kernel
theorem dX3_shortestRing_2 : decode cX3_shortestRing 2 = .ok (.aload_n 0, 1) := by decide +kernel
theorem dX3_shortestRing_3 : decode cX3_shortestRing 3 = .ok (.aload_n 1, 1) := by decide +kernel
theorem dX3_shortestRing_4 : decode cX3_shortestRing 4 = .ok (.iconst 0, 1) := by decide +kernel
theorem dX3_shortestRing_5 : decode cX3_shortestRing 5 = .ok (.invokevirtual 101, 3) := by decide +kernel
theorem dX3_shortestRing_8 : decode cX3_shortestRing 8 = .ok (.iconst 0, 1) := by decide +kernel
theorem dX3_shortestRing_9 : decode cX3_shortestRing 9 = .ok (.istore_n 3, 1) := by decide +kernel
theorem dX3_shortestRing_10 : decode cX3_shortestRing 10 = .ok (.iload_n 3, 1) := by decide +kernel
theorem dX3_shortestRing_11 : decode cX3_shortestRing 11 = .ok (.aload_n 1, 1) := by decide +kernel
theorem dX3_shortestRing_12 : decode cX3_shortestRing 12 = .ok (.getfield 98, 3) := by decide +kernel
theorem dX3_shortestRing_15 : decode cX3_shortestRing 15 = .ok (.if_icmp .ge 37, 3) := by decide +kernel
theorem dX3_shortestRing_18 : decode cX3_shortestRing 18 = .ok (.aload_n 0, 1) := by decide +kernel
theorem dX3_shortestRing_19 : decode cX3_shortestRing 19 = .ok (.aload_n 1, 1) := by decide +kernel
theorem dX3_shortestRing_20 : decode cX3_shortestRing 20 = .ok (.iload_n 3, 1) := by decide +kernel
theorem dX3_shortestRing_21 : decode cX3_shortestRing 21 = .ok (.invokevirtual 105, 3) := by decide +kernel
theorem dX3_shortestRing_24 : decode cX3_shortestRing 24 = .ok (.istore 4, 2) := by decide +kernel
theorem dX3_shortestRing_26 : decode cX3_shortestRing 26 = .ok (.iload 4, 2) := by decide +kernel
theorem dX3_shortestRing_28 : decode cX3_shortestRing 28 = .ok (.iconst (-1), 1) := by decide +kernel
theorem dX3_shortestRing_29 : decode cX3_shortestRing 29 = .ok (.if_icmp .eq 17, 3) := by decide +kernel
theorem dX3_shortestRing_32 : decode cX3_shortestRing 32 = .ok (.iload_n 2, 1) := by decide +kernel
theorem dX3_shortestRing_33 : decode cX3_shortestRing 33 = .ok (.iconst (-1), 1) := by decide +kernel
theorem dX3_shortestRing_34 : decode cX3_shortestRing 34 = .ok (.if_icmp .eq 9, 3) := by decide +kernel
theorem dX3_shortestRing_37 : decode cX3_shortestRing 37 = .ok (.iload 4, 2) := by decide +kernel
theorem dX3_shortestRing_39 : decode cX3_shortestRing 39 = .ok (.iload_n 2, 1) := by decide +kernel
theorem dX3_shortestRing_40 : decode cX3_shortestRing 40 = .ok (.if_icmp .ge 6, 3) := by decide +kernel
theorem dX3_shortestRing_43 : decode cX3_shortestRing 43 = .ok (.iload 4, 2) := by decide +kernel
theorem dX3_shortestRing_45 : decode cX3_shortestRing 45 = .ok (.istore_n 2, 1) := by decide +kernel
theorem dX3_shortestRing_46 : decode cX3_shortestRing 46 = .ok (.iinc 3 1, 3) := by decide +kernel
theorem dX3_shortestRing_49 : decode cX3_shortestRing 49 = .ok (.goto (-39), 3) := by decide +kernel
theorem dX3_shortestRing_52 : decode cX3_shortestRing 52 = .ok (.iload_n 2, 1) := by decide +kernel
theorem dX3_shortestRing_53 : decode cX3_shortestRing 53 = .ok (.ireturn, 1) := by decide +kernel
theorem dX3_ringFrom_0 : decode cX3_ringFrom 0 = .ok (.iconst 1, 1) := by decide +kernel
theorem dX3_ringFrom_1 : decode cX3_ringFrom 1 = .ok (.iload_n 2, 1) := by decide +kernel
theorem dX3_ringFrom_2 : decode cX3_ringFrom 2 = .ok (.ishl, 1) := by decide +kernel
theorem dX3_ringFrom_3 : decode cX3_ringFrom 3 = .ok (.istore_n 3, 1) := by decide +kernel
theorem dX3_ringFrom_4 : decode cX3_ringFrom 4 = .ok (.iconst 1, 1) := by decide +kernel
theorem dX3_ringFrom_5 : decode cX3_ringFrom 5 = .ok (.istore 4, 2) := by decide +kernel
theorem dX3_ringFrom_7 : decode cX3_ringFrom 7 = .ok (.iload 4, 2) := by decide +kernel
theorem dX3_ringFrom_9 : decode cX3_ringFrom 9 = .ok (.aload_n 1, 1) := by decide +kernel
theorem dX3_ringFrom_10 : decode cX3_ringFrom 10 = .ok (.getfield 98, 3) := by decide +kernel
theorem dX3_ringFrom_13 : decode cX3_ringFrom 13 = .ok (.if_icmp .gt 27, 3) := by decide +kernel
theorem dX3_ringFrom_16 : decode cX3_ringFrom 16 = .ok (.aload_n 0, 1) := by decide +kernel
theorem dX3_ringFrom_17 : decode cX3_ringFrom 17 = .ok (.aload_n 1, 1) := by decide +kernel
theorem dX3_ringFrom_18 : decode cX3_ringFrom 18 = .ok (.iload_n 3, 1) := by decide +kernel
theorem dX3_ringFrom_19 : decode cX3_ringFrom 19 = .ok (.invokevirtual 108, 3) := by decide +kernel
theorem dX3_ringFrom_22 : decode cX3_ringFrom 22 = .ok (.istore_n 3, 1) := by decide +kernel
theorem dX3_ringFrom_23 : decode cX3_ringFrom 23 = .ok (.iload_n 3, 1) := by decide +kernel
theorem dX3_ringFrom_24 : decode cX3_ringFrom 24 = .ok (.iload_n 2, 1) := by decide +kernel
theorem dX3_ringFrom_25 : decode cX3_ringFrom 25 = .ok (.invokestatic 50, 3) := by decide +kernel
theorem dX3_ringFrom_28 : decode cX3_ringFrom 28 = .ok (.ifCond .eq 6, 3) := by decide +kernel
theorem dX3_ringFrom_31 : decode cX3_ringFrom 31 = .ok (.iload 4, 2) := by decide +kernel
theorem dX3_ringFrom_33 : decode cX3_ringFrom 33 = .ok (.ireturn, 1) := by decide +kernel
theorem dX3_ringFrom_34 : decode cX3_ringFrom 34 = .ok (.iinc 4 1, 3) := by decide +kernel
theorem dX3_ringFrom_37 : decode cX3_ringFrom 37 = .ok (.goto (-30), 3) := by decide +kernel
theorem dX3_ringFrom_40 : decode cX3_ringFrom 40 = .ok (.iconst (-1), 1) := by decide +kernel
theorem dX3_ringFrom_41 : decode cX3_ringFrom 41 = .ok (.ireturn, 1) := by decide +kernel
theorem dX3_fewestHolds_0 : decode cX3_fewestHolds 0 = .ok (.iconst 1, 1) := by decide +kernel
theorem dX3_fewestHolds_1 : decode cX3_fewestHolds 1 = .ok (.aload_n 1, 1) := by decide +kernel
theorem dX3_fewestHolds_2 : decode cX3_fewestHolds 2 = .ok (.getfield 89, 3) := by decide +kernel
theorem dX3_fewestHolds_5 : decode cX3_fewestHolds 5 = .ok (.ishl, 1) := by decide +kernel
theorem dX3_fewestHolds_6 : decode cX3_fewestHolds 6 = .ok (.iconst 1, 1) := by decide +kernel
theorem dX3_fewestHolds_7 : decode cX3_fewestHolds 7 = .ok (.isub, 1) := by decide +kernel
theorem dX3_fewestHolds_8 : decode cX3_fewestHolds 8 = .ok (.istore_n 2, 1) := by decide +kernel
theorem dX3_fewestHolds_9 : decode cX3_fewestHolds 9 = .ok (.iconst 0, 1) := by decide +kernel
theorem dX3_fewestHolds_10 : decode cX3_fewestHolds 10 = .ok (.istore_n 3, 1) := by decide +kernel
theorem dX3_fewestHolds_11 : decode cX3_fewestHolds 11 = .ok (.iload_n 3, 1) := by decide +kernel
theorem dX3_fewestHolds_12 : decode cX3_fewestHolds 12 = .ok (.iconst 1, 1) := by decide +kernel
theorem dX3_fewestHolds_13 : decode cX3_fewestHolds 13 = .ok (.aload_n 1, 1) := by decide +kernel
theorem dX3_fewestHolds_14 : decode cX3_fewestHolds 14 = .ok (.getfield 89, 3) := by decide +kernel
theorem dX3_fewestHolds_17 : decode cX3_fewestHolds 17 = .ok (.ishl, 1) := by decide +kernel
theorem dX3_fewestHolds_18 : decode cX3_fewestHolds 18 = .ok (.if_icmp .ge 31, 3) := by decide +kernel
theorem dX3_fewestHolds_21 : decode cX3_fewestHolds 21 = .ok (.iload_n 3, 1) := by decide +kernel
theorem dX3_fewestHolds_22 : decode cX3_fewestHolds 22 = .ok (.invokestatic 36, 3) := by decide +kernel
theorem dX3_fewestHolds_25 : decode cX3_fewestHolds 25 = .ok (.iload_n 2, 1) := by decide +kernel
theorem dX3_fewestHolds_26 : decode cX3_fewestHolds 26 = .ok (.invokestatic 36, 3) := by decide +kernel
theorem dX3_fewestHolds_29 : decode cX3_fewestHolds 29 = .ok (.if_icmp .ge 14, 3) := by decide +kernel
theorem dX3_fewestHolds_32 : decode cX3_fewestHolds 32 = .ok (.aload_n 0, 1) := by decide +kernel
theorem dX3_fewestHolds_33 : decode cX3_fewestHolds 33 = .ok (.aload_n 1, 1) := by decide +kernel
theorem dX3_fewestHolds_34 : decode cX3_fewestHolds 34 = .ok (.iload_n 3, 1) := by decide +kernel
theorem dX3_fewestHolds_35 : decode cX3_fewestHolds 35 = .ok (.invokevirtual 111, 3) := by decide +kernel
theorem dX3_fewestHolds_38 : decode cX3_fewestHolds 38 = .ok (.ifCond .eq 5, 3) := by decide +kernel
theorem dX3_fewestHolds_41 : decode cX3_fewestHolds 41 = .ok (.iload_n 3, 1) := by decide +kernel
theorem dX3_fewestHolds_42 : decode cX3_fewestHolds 42 = .ok (.istore_n 2, 1) := by decide +kernel
theorem dX3_fewestHolds_43 : decode cX3_fewestHolds 43 = .ok (.iinc 3 1, 3) := by decide +kernel
theorem dX3_fewestHolds_46 : decode cX3_fewestHolds 46 = .ok (.goto (-35), 3) := by decide +kernel
theorem dX3_fewestHolds_49 : decode cX3_fewestHolds 49 = .ok (.iload_n 2, 1) := by decide +kernel
theorem dX3_fewestHolds_50 : decode cX3_fewestHolds 50 = .ok (.ireturn, 1) := by decide +kernel
theorem dX3_isFreeWithout_0 : decode cX3_isFreeWithout 0 = .ok (.aload_n 0, 1) := by decide +kernel
theorem dX3_isFreeWithout_1 : decode cX3_isFreeWithout 1 = .ok (.aload_n 1, 1) := by decide +kernel
theorem dX3_isFreeWithout_2 : decode cX3_isFreeWithout 2 = .ok (.iload_n 2, 1) := by decide +kernel
theorem dX3_isFreeWithout_3 : decode cX3_isFreeWithout 3 = .ok (.invokevirtual 101, 3) := by decide +kernel
theorem dX3_isFreeWithout_6 : decode cX3_isFreeWithout 6 = .ok (.iconst 1, 1) := by decide +kernel
theorem dX3_isFreeWithout_7 : decode cX3_isFreeWithout 7 = .ok (.aload_n 1, 1) := by decide +kernel
theorem dX3_isFreeWithout_8 : decode cX3_isFreeWithout 8 = .ok (.getfield 98, 3) := by decide +kernel
theorem dX3_isFreeWithout_11 : decode cX3_isFreeWithout 11 = .ok (.ishl, 1) := by decide +kernel
theorem dX3_isFreeWithout_12 : decode cX3_isFreeWithout 12 = .ok (.iconst 1, 1) := by decide +kernel
theorem dX3_isFreeWithout_13 : decode cX3_isFreeWithout 13 = .ok (.isub, 1) := by decide +kernel
theorem dX3_isFreeWithout_14 : decode cX3_isFreeWithout 14 = .ok (.istore_n 3, 1) := by decide +kernel
theorem dX3_isFreeWithout_15 : decode cX3_isFreeWithout 15 = .ok (.iconst 0, 1) := by decide +kernel
theorem dX3_isFreeWithout_16 : decode cX3_isFreeWithout 16 = .ok (.istore 4, 2) := by decide +kernel
theorem dX3_isFreeWithout_18 : decode cX3_isFreeWithout 18 = .ok (.iload 4, 2) := by decide +kernel
theorem dX3_isFreeWithout_20 : decode cX3_isFreeWithout 20 = .ok (.aload_n 1, 1) := by decide +kernel
theorem dX3_isFreeWithout_21 : decode cX3_isFreeWithout 21 = .ok (.getfield 98, 3) := by decide +kernel
theorem dX3_isFreeWithout_24 : decode cX3_isFreeWithout 24 = .ok (.if_icmp .ge 63, 3) := by decide +kernel
theorem dX3_isFreeWithout_27 : decode cX3_isFreeWithout 27 = .ok (.iconst 0, 1) := by decide +kernel
theorem dX3_isFreeWithout_28 : decode cX3_isFreeWithout 28 = .ok (.istore 5, 2) := by decide +kernel
theorem dX3_isFreeWithout_30 : decode cX3_isFreeWithout 30 = .ok (.iconst 0, 1) := by decide +kernel
theorem dX3_isFreeWithout_31 : decode cX3_isFreeWithout 31 = .ok (.istore 6, 2) := by decide +kernel
theorem dX3_isFreeWithout_33 : decode cX3_isFreeWithout 33 = .ok (.iload 6, 2) := by decide +kernel
theorem dX3_isFreeWithout_35 : decode cX3_isFreeWithout 35 = .ok (.aload_n 1, 1) := by decide +kernel
theorem dX3_isFreeWithout_36 : decode cX3_isFreeWithout 36 = .ok (.getfield 98, 3) := by decide +kernel
theorem dX3_isFreeWithout_39 : decode cX3_isFreeWithout 39 = .ok (.if_icmp .ge 39, 3) := by decide +kernel
theorem dX3_isFreeWithout_42 : decode cX3_isFreeWithout 42 = .ok (.iload_n 3, 1) := by decide +kernel
theorem dX3_isFreeWithout_43 : decode cX3_isFreeWithout 43 = .ok (.iload 6, 2) := by decide +kernel
theorem dX3_isFreeWithout_45 : decode cX3_isFreeWithout 45 = .ok (.invokestatic 50, 3) := by decide +kernel
theorem dX3_isFreeWithout_48 : decode cX3_isFreeWithout 48 = .ok (.ifCond .eq 24, 3) := by decide +kernel
theorem dX3_isFreeWithout_51 : decode cX3_isFreeWithout 51 = .ok (.aload_n 0, 1) := by decide +kernel
theorem dX3_isFreeWithout_52 : decode cX3_isFreeWithout 52 = .ok (.getfield 15, 3) := by decide +kernel
theorem dX3_isFreeWithout_55 : decode cX3_isFreeWithout 55 = .ok (.iload 6, 2) := by decide +kernel
theorem dX3_isFreeWithout_57 : decode cX3_isFreeWithout 57 = .ok (.iaload, 1) := by decide +kernel
theorem dX3_isFreeWithout_58 : decode cX3_isFreeWithout 58 = .ok (.iload_n 3, 1) := by decide +kernel
theorem dX3_isFreeWithout_59 : decode cX3_isFreeWithout 59 = .ok (.iand, 1) := by decide +kernel
theorem dX3_isFreeWithout_60 : decode cX3_isFreeWithout 60 = .ok (.ifCond .eq 12, 3) := by decide +kernel
theorem dX3_isFreeWithout_63 : decode cX3_isFreeWithout 63 = .ok (.iload 5, 2) := by decide +kernel
theorem dX3_isFreeWithout_65 : decode cX3_isFreeWithout 65 = .ok (.iconst 1, 1) := by decide +kernel
theorem dX3_isFreeWithout_66 : decode cX3_isFreeWithout 66 = .ok (.iload 6, 2) := by decide +kernel
theorem dX3_isFreeWithout_68 : decode cX3_isFreeWithout 68 = .ok (.ishl, 1) := by decide +kernel
theorem dX3_isFreeWithout_69 : decode cX3_isFreeWithout 69 = .ok (.ior, 1) := by decide +kernel
theorem dX3_isFreeWithout_70 : decode cX3_isFreeWithout 70 = .ok (.istore 5, 2) := by decide +kernel
theorem dX3_isFreeWithout_72 : decode cX3_isFreeWithout 72 = .ok (.iinc 6 1, 3) := by decide +kernel
theorem dX3_isFreeWithout_75 : decode cX3_isFreeWithout 75 = .ok (.goto (-42), 3) := by decide +kernel
theorem dX3_isFreeWithout_78 : decode cX3_isFreeWithout 78 = .ok (.iload 5, 2) := by decide +kernel
theorem dX3_isFreeWithout_80 : decode cX3_isFreeWithout 80 = .ok (.istore_n 3, 1) := by decide +kernel
theorem dX3_isFreeWithout_81 : decode cX3_isFreeWithout 81 = .ok (.iinc 4 1, 3) := by decide +kernel
theorem dX3_isFreeWithout_84 : decode cX3_isFreeWithout 84 = .ok (.goto (-66), 3) := by decide +kernel
theorem dX3_isFreeWithout_87 : decode cX3_isFreeWithout 87 = .ok (.iload_n 3, 1) := by decide +kernel
theorem dX3_isFreeWithout_88 : decode cX3_isFreeWithout 88 = .ok (.ifCond .ne 7, 3) := by decide +kernel
theorem dX3_isFreeWithout_91 : decode cX3_isFreeWithout 91 = .ok (.iconst 1, 1) := by decide +kernel
theorem dX3_isFreeWithout_92 : decode cX3_isFreeWithout 92 = .ok (.goto 4, 3) := by decide +kernel
theorem dX3_isFreeWithout_95 : decode cX3_isFreeWithout 95 = .ok (.iconst 0, 1) := by decide +kernel
theorem dX3_isFreeWithout_96 : decode cX3_isFreeWithout 96 = .ok (.ireturn, 1) := by decide +kernel
theorem dX3_leastWaiting_0 : decode cX3_leastWaiting 0 = .ok (.aload_n 0, 1) := by decide +kernel
theorem dX3_leastWaiting_1 : decode cX3_leastWaiting 1 = .ok (.aload_n 1, 1) := by decide +kernel
theorem dX3_leastWaiting_2 : decode cX3_leastWaiting 2 = .ok (.iconst 0, 1) := by decide +kernel
theorem dX3_leastWaiting_3 : decode cX3_leastWaiting 3 = .ok (.invokevirtual 101, 3) := by decide +kernel
theorem dX3_leastWaiting_6 : decode cX3_leastWaiting 6 = .ok (.iconst 0, 1) := by decide +kernel
theorem dX3_leastWaiting_7 : decode cX3_leastWaiting 7 = .ok (.istore_n 2, 1) := by decide +kernel
theorem dX3_leastWaiting_8 : decode cX3_leastWaiting 8 = .ok (.iload_n 2, 1) := by decide +kernel
theorem dX3_leastWaiting_9 : decode cX3_leastWaiting 9 = .ok (.aload_n 1, 1) := by decide +kernel
theorem dX3_leastWaiting_10 : decode cX3_leastWaiting 10 = .ok (.getfield 98, 3) := by decide +kernel
theorem dX3_leastWaiting_13 : decode cX3_leastWaiting 13 = .ok (.if_icmp .ge 43, 3) := by decide +kernel
theorem dX3_leastWaiting_16 : decode cX3_leastWaiting 16 = .ok (.aload_n 0, 1) := by decide +kernel
theorem dX3_leastWaiting_17 : decode cX3_leastWaiting 17 = .ok (.getfield 18, 3) := by decide +kernel
theorem dX3_leastWaiting_20 : decode cX3_leastWaiting 20 = .ok (.iload_n 2, 1) := by decide +kernel
theorem dX3_leastWaiting_21 : decode cX3_leastWaiting 21 = .ok (.aload_n 1, 1) := by decide +kernel
theorem dX3_leastWaiting_22 : decode cX3_leastWaiting 22 = .ok (.iload_n 2, 1) := by decide +kernel
theorem dX3_leastWaiting_23 : decode cX3_leastWaiting 23 = .ok (.invokevirtual 114, 3) := by decide +kernel
theorem dX3_leastWaiting_26 : decode cX3_leastWaiting 26 = .ok (.iastore, 1) := by decide +kernel
theorem dX3_leastWaiting_27 : decode cX3_leastWaiting 27 = .ok (.aload_n 0, 1) := by decide +kernel
theorem dX3_leastWaiting_28 : decode cX3_leastWaiting 28 = .ok (.getfield 21, 3) := by decide +kernel
theorem dX3_leastWaiting_31 : decode cX3_leastWaiting 31 = .ok (.iload_n 2, 1) := by decide +kernel
theorem dX3_leastWaiting_32 : decode cX3_leastWaiting 32 = .ok (.aload_n 1, 1) := by decide +kernel
theorem dX3_leastWaiting_33 : decode cX3_leastWaiting 33 = .ok (.iload_n 2, 1) := by decide +kernel
theorem dX3_leastWaiting_34 : decode cX3_leastWaiting 34 = .ok (.invokestatic 117, 3) := by decide +kernel
theorem dX3_leastWaiting_37 : decode cX3_leastWaiting 37 = .ok (.iastore, 1) := by decide +kernel
theorem dX3_leastWaiting_38 : decode cX3_leastWaiting 38 = .ok (.aload_n 0, 1) := by decide +kernel
theorem dX3_leastWaiting_39 : decode cX3_leastWaiting 39 = .ok (.getfield 18, 3) := by decide +kernel
theorem dX3_leastWaiting_42 : decode cX3_leastWaiting 42 = .ok (.iload_n 2, 1) := by decide +kernel
theorem dX3_leastWaiting_43 : decode cX3_leastWaiting 43 = .ok (.iaload, 1) := by decide +kernel
theorem dX3_leastWaiting_44 : decode cX3_leastWaiting 44 = .ok (.iconst (-1), 1) := by decide +kernel
theorem dX3_leastWaiting_45 : decode cX3_leastWaiting 45 = .ok (.if_icmp .ne 5, 3) := by decide +kernel
theorem dX3_leastWaiting_48 : decode cX3_leastWaiting 48 = .ok (.iconst (-1), 1) := by decide +kernel
theorem dX3_leastWaiting_49 : decode cX3_leastWaiting 49 = .ok (.ireturn, 1) := by decide +kernel
theorem dX3_leastWaiting_50 : decode cX3_leastWaiting 50 = .ok (.iinc 2 1, 3) := by decide +kernel
theorem dX3_leastWaiting_53 : decode cX3_leastWaiting 53 = .ok (.goto (-45), 3) := by decide +kernel
theorem dX3_leastWaiting_56 : decode cX3_leastWaiting 56 = .ok (.iconst 1, 1) := by decide +kernel
theorem dX3_leastWaiting_57 : decode cX3_leastWaiting 57 = .ok (.aload_n 1, 1) := by decide +kernel
theorem dX3_leastWaiting_58 : decode cX3_leastWaiting 58 = .ok (.getfield 98, 3) := by decide +kernel
theorem dX3_leastWaiting_61 : decode cX3_leastWaiting 61 = .ok (.ishl, 1) := by decide +kernel
theorem dX3_leastWaiting_62 : decode cX3_leastWaiting 62 = .ok (.iconst 1, 1) := by decide +kernel
theorem dX3_leastWaiting_63 : decode cX3_leastWaiting 63 = .ok (.isub, 1) := by decide +kernel
theorem dX3_leastWaiting_64 : decode cX3_leastWaiting 64 = .ok (.istore_n 2, 1) := by decide +kernel
theorem dX3_leastWaiting_65 : decode cX3_leastWaiting 65 = .ok (.aload_n 0, 1) := by decide +kernel
theorem dX3_leastWaiting_66 : decode cX3_leastWaiting 66 = .ok (.getfield 24, 3) := by decide +kernel
theorem dX3_leastWaiting_69 : decode cX3_leastWaiting 69 = .ok (.iload_n 2, 1) := by decide +kernel
theorem dX3_leastWaiting_70 : decode cX3_leastWaiting 70 = .ok (.iconst 0, 1) := by decide +kernel
theorem dX3_leastWaiting_71 : decode cX3_leastWaiting 71 = .ok (.iastore, 1) := by decide +kernel
theorem dX3_leastWaiting_72 : decode cX3_leastWaiting 72 = .ok (.iload_n 2, 1) := by decide +kernel
theorem dX3_leastWaiting_73 : decode cX3_leastWaiting 73 = .ok (.iconst 1, 1) := by decide +kernel
theorem dX3_leastWaiting_74 : decode cX3_leastWaiting 74 = .ok (.isub, 1) := by decide +kernel
theorem dX3_leastWaiting_75 : decode cX3_leastWaiting 75 = .ok (.istore_n 3, 1) := by decide +kernel
theorem dX3_leastWaiting_76 : decode cX3_leastWaiting 76 = .ok (.iload_n 3, 1) := by decide +kernel
theorem dX3_leastWaiting_77 : decode cX3_leastWaiting 77 = .ok (.ifCond .lt 58, 3) := by decide +kernel
theorem dX3_leastWaiting_80 : decode cX3_leastWaiting 80 = .ok (.aload_n 0, 1) := by decide +kernel
theorem dX3_leastWaiting_81 : decode cX3_leastWaiting 81 = .ok (.getfield 24, 3) := by decide +kernel
theorem dX3_leastWaiting_84 : decode cX3_leastWaiting 84 = .ok (.iload_n 3, 1) := by decide +kernel
theorem dX3_leastWaiting_85 : decode cX3_leastWaiting 85 = .ok (.ldc 120, 2) := by decide +kernel
theorem dX3_leastWaiting_87 : decode cX3_leastWaiting 87 = .ok (.iastore, 1) := by decide +kernel
theorem dX3_leastWaiting_88 : decode cX3_leastWaiting 88 = .ok (.iconst 0, 1) := by decide +kernel
theorem dX3_leastWaiting_89 : decode cX3_leastWaiting 89 = .ok (.istore 4, 2) := by decide +kernel
theorem dX3_leastWaiting_91 : decode cX3_leastWaiting 91 = .ok (.iload 4, 2) := by decide +kernel
theorem dX3_leastWaiting_93 : decode cX3_leastWaiting 93 = .ok (.aload_n 1, 1) := by decide +kernel
theorem dX3_leastWaiting_94 : decode cX3_leastWaiting 94 = .ok (.getfield 98, 3) := by decide +kernel
theorem dX3_leastWaiting_97 : decode cX3_leastWaiting 97 = .ok (.if_icmp .ge 32, 3) := by decide +kernel
theorem dX3_leastWaiting_100 : decode cX3_leastWaiting 100 = .ok (.aload_n 0, 1) := by decide +kernel
theorem dX3_leastWaiting_101 : decode cX3_leastWaiting 101 = .ok (.getfield 24, 3) := by decide +kernel
theorem dX3_leastWaiting_104 : decode cX3_leastWaiting 104 = .ok (.iload_n 3, 1) := by decide +kernel
theorem dX3_leastWaiting_105 : decode cX3_leastWaiting 105 = .ok (.aload_n 0, 1) := by decide +kernel
theorem dX3_leastWaiting_106 : decode cX3_leastWaiting 106 = .ok (.getfield 24, 3) := by decide +kernel
theorem dX3_leastWaiting_109 : decode cX3_leastWaiting 109 = .ok (.iload_n 3, 1) := by decide +kernel
theorem dX3_leastWaiting_110 : decode cX3_leastWaiting 110 = .ok (.iaload, 1) := by decide +kernel
theorem dX3_leastWaiting_111 : decode cX3_leastWaiting 111 = .ok (.aload_n 0, 1) := by decide +kernel
theorem dX3_leastWaiting_112 : decode cX3_leastWaiting 112 = .ok (.aload_n 1, 1) := by decide +kernel
theorem dX3_leastWaiting_113 : decode cX3_leastWaiting 113 = .ok (.iload_n 3, 1) := by decide +kernel
theorem dX3_leastWaiting_114 : decode cX3_leastWaiting 114 = .ok (.iload 4, 2) := by decide +kernel
theorem dX3_leastWaiting_116 : decode cX3_leastWaiting 116 = .ok (.invokevirtual 121, 3) := by decide +kernel
theorem dX3_leastWaiting_119 : decode cX3_leastWaiting 119 = .ok (.invokestatic 73, 3) := by decide +kernel
theorem dX3_leastWaiting_122 : decode cX3_leastWaiting 122 = .ok (.iastore, 1) := by decide +kernel
theorem dX3_leastWaiting_123 : decode cX3_leastWaiting 123 = .ok (.iinc 4 1, 3) := by decide +kernel
theorem dX3_leastWaiting_126 : decode cX3_leastWaiting 126 = .ok (.goto (-35), 3) := by decide +kernel
theorem dX3_leastWaiting_129 : decode cX3_leastWaiting 129 = .ok (.iinc 3 (-1), 3) := by decide +kernel
theorem dX3_leastWaiting_132 : decode cX3_leastWaiting 132 = .ok (.goto (-56), 3) := by decide +kernel
theorem dX3_leastWaiting_135 : decode cX3_leastWaiting 135 = .ok (.aload_n 0, 1) := by decide +kernel
theorem dX3_leastWaiting_136 : decode cX3_leastWaiting 136 = .ok (.getfield 24, 3) := by decide +kernel
theorem dX3_leastWaiting_139 : decode cX3_leastWaiting 139 = .ok (.iconst 0, 1) := by decide +kernel
theorem dX3_leastWaiting_140 : decode cX3_leastWaiting 140 = .ok (.iaload, 1) := by decide +kernel
theorem dX3_leastWaiting_141 : decode cX3_leastWaiting 141 = .ok (.ldc 120, 2) := by decide +kernel
theorem dX3_leastWaiting_143 : decode cX3_leastWaiting 143 = .ok (.if_icmp .ge 12, 3) := by decide +kernel
theorem dX3_leastWaiting_146 : decode cX3_leastWaiting 146 = .ok (.aload_n 0, 1) := by decide +kernel
theorem dX3_leastWaiting_147 : decode cX3_leastWaiting 147 = .ok (.getfield 24, 3) := by decide +kernel
theorem dX3_leastWaiting_150 : decode cX3_leastWaiting 150 = .ok (.iconst 0, 1) := by decide +kernel
theorem dX3_leastWaiting_151 : decode cX3_leastWaiting 151 = .ok (.iaload, 1) := by decide +kernel
theorem dX3_leastWaiting_152 : decode cX3_leastWaiting 152 = .ok (.goto 4, 3) := by decide +kernel
theorem dX3_leastWaiting_155 : decode cX3_leastWaiting 155 = .ok (.iconst (-1), 1) := by decide +kernel
theorem dX3_leastWaiting_156 : decode cX3_leastWaiting 156 = .ok (.ireturn, 1) := by decide +kernel
theorem dX3_weightFor_0 : decode cX3_weightFor 0 = .ok (.iconst 0, 1) := by decide +kernel
theorem dX3_weightFor_1 : decode cX3_weightFor 1 = .ok (.istore_n 2, 1) := by decide +kernel
theorem dX3_weightFor_2 : decode cX3_weightFor 2 = .ok (.iconst 0, 1) := by decide +kernel
theorem dX3_weightFor_3 : decode cX3_weightFor 3 = .ok (.istore_n 3, 1) := by decide +kernel
theorem dX3_weightFor_4 : decode cX3_weightFor 4 = .ok (.iload_n 3, 1) := by decide +kernel
theorem dX3_weightFor_5 : decode cX3_weightFor 5 = .ok (.aload_n 0, 1) := by decide +kernel
theorem dX3_weightFor_6 : decode cX3_weightFor 6 = .ok (.getfield 125, 3) := by decide +kernel
theorem dX3_weightFor_9 : decode cX3_weightFor 9 = .ok (.if_icmp .ge 28, 3) := by decide +kernel
theorem dX3_weightFor_12 : decode cX3_weightFor 12 = .ok (.aload_n 0, 1) := by decide +kernel
theorem dX3_weightFor_13 : decode cX3_weightFor 13 = .ok (.getfield 128, 3) := by decide +kernel
theorem dX3_weightFor_16 : decode cX3_weightFor 16 = .ok (.iload_n 3, 1) := by decide +kernel
theorem dX3_weightFor_17 : decode cX3_weightFor 17 = .ok (.iaload, 1) := by decide +kernel
theorem dX3_weightFor_18 : decode cX3_weightFor 18 = .ok (.iload_n 1, 1) := by decide +kernel
theorem dX3_weightFor_19 : decode cX3_weightFor 19 = .ok (.if_icmp .ne 12, 3) := by decide +kernel
theorem dX3_weightFor_22 : decode cX3_weightFor 22 = .ok (.iload_n 2, 1) := by decide +kernel
theorem dX3_weightFor_23 : decode cX3_weightFor 23 = .ok (.aload_n 0, 1) := by decide +kernel
theorem dX3_weightFor_24 : decode cX3_weightFor 24 = .ok (.getfield 131, 3) := by decide +kernel
theorem dX3_weightFor_27 : decode cX3_weightFor 27 = .ok (.iload_n 3, 1) := by decide +kernel
theorem dX3_weightFor_28 : decode cX3_weightFor 28 = .ok (.iaload, 1) := by decide +kernel
theorem dX3_weightFor_29 : decode cX3_weightFor 29 = .ok (.iadd, 1) := by decide +kernel
theorem dX3_weightFor_30 : decode cX3_weightFor 30 = .ok (.istore_n 2, 1) := by decide +kernel
theorem dX3_weightFor_31 : decode cX3_weightFor 31 = .ok (.iinc 3 1, 3) := by decide +kernel
theorem dX3_weightFor_34 : decode cX3_weightFor 34 = .ok (.goto (-30), 3) := by decide +kernel
theorem dX3_weightFor_37 : decode cX3_weightFor 37 = .ok (.iload_n 2, 1) := by decide +kernel
theorem dX3_weightFor_38 : decode cX3_weightFor 38 = .ok (.ireturn, 1) := by decide +kernel
theorem dX3_waitsWith_0 : decode cX3_waitsWith 0 = .ok (.iload_n 2, 1) := by decide +kernel
theorem dX3_waitsWith_1 : decode cX3_waitsWith 1 = .ok (.iload_n 3, 1) := by decide +kernel
theorem dX3_waitsWith_2 : decode cX3_waitsWith 2 = .ok (.invokestatic 50, 3) := by decide +kernel
theorem dX3_waitsWith_5 : decode cX3_waitsWith 5 = .ok (.ifCond .ne 16, 3) := by decide +kernel
theorem dX3_waitsWith_8 : decode cX3_waitsWith 8 = .ok (.aload_n 0, 1) := by decide +kernel
theorem dX3_waitsWith_9 : decode cX3_waitsWith 9 = .ok (.getfield 15, 3) := by decide +kernel
theorem dX3_waitsWith_12 : decode cX3_waitsWith 12 = .ok (.iload_n 3, 1) := by decide +kernel
theorem dX3_waitsWith_13 : decode cX3_waitsWith 13 = .ok (.iaload, 1) := by decide +kernel
theorem dX3_waitsWith_14 : decode cX3_waitsWith 14 = .ok (.iload_n 2, 1) := by decide +kernel
theorem dX3_waitsWith_15 : decode cX3_waitsWith 15 = .ok (.iconst (-1), 1) := by decide +kernel
theorem dX3_waitsWith_16 : decode cX3_waitsWith 16 = .ok (.ixor, 1) := by decide +kernel
theorem dX3_waitsWith_17 : decode cX3_waitsWith 17 = .ok (.iand, 1) := by decide +kernel
theorem dX3_waitsWith_18 : decode cX3_waitsWith 18 = .ok (.ifCond .eq 6, 3) := by decide +kernel
theorem dX3_waitsWith_21 : decode cX3_waitsWith 21 = .ok (.ldc 120, 2) := by decide +kernel
theorem dX3_waitsWith_23 : decode cX3_waitsWith 23 = .ok (.ireturn, 1) := by decide +kernel
theorem dX3_waitsWith_24 : decode cX3_waitsWith 24 = .ok (.aload_n 0, 1) := by decide +kernel
theorem dX3_waitsWith_25 : decode cX3_waitsWith 25 = .ok (.getfield 18, 3) := by decide +kernel
theorem dX3_waitsWith_28 : decode cX3_waitsWith 28 = .ok (.iload_n 3, 1) := by decide +kernel
theorem dX3_waitsWith_29 : decode cX3_waitsWith 29 = .ok (.iaload, 1) := by decide +kernel
theorem dX3_waitsWith_30 : decode cX3_waitsWith 30 = .ok (.istore 4, 2) := by decide +kernel
theorem dX3_waitsWith_32 : decode cX3_waitsWith 32 = .ok (.iconst 0, 1) := by decide +kernel
theorem dX3_waitsWith_33 : decode cX3_waitsWith 33 = .ok (.istore 5, 2) := by decide +kernel
theorem dX3_waitsWith_35 : decode cX3_waitsWith 35 = .ok (.iload 5, 2) := by decide +kernel
theorem dX3_waitsWith_37 : decode cX3_waitsWith 37 = .ok (.aload_n 1, 1) := by decide +kernel
theorem dX3_waitsWith_38 : decode cX3_waitsWith 38 = .ok (.getfield 98, 3) := by decide +kernel
theorem dX3_waitsWith_41 : decode cX3_waitsWith 41 = .ok (.if_icmp .ge 30, 3) := by decide +kernel
theorem dX3_waitsWith_44 : decode cX3_waitsWith 44 = .ok (.iload_n 2, 1) := by decide +kernel
theorem dX3_waitsWith_45 : decode cX3_waitsWith 45 = .ok (.iload 5, 2) := by decide +kernel
theorem dX3_waitsWith_47 : decode cX3_waitsWith 47 = .ok (.invokestatic 50, 3) := by decide +kernel
theorem dX3_waitsWith_50 : decode cX3_waitsWith 50 = .ok (.ifCond .eq 15, 3) := by decide +kernel
theorem dX3_waitsWith_53 : decode cX3_waitsWith 53 = .ok (.iload 4, 2) := by decide +kernel
theorem dX3_waitsWith_55 : decode cX3_waitsWith 55 = .ok (.aload_n 0, 1) := by decide +kernel
theorem dX3_waitsWith_56 : decode cX3_waitsWith 56 = .ok (.getfield 18, 3) := by decide +kernel
theorem dX3_waitsWith_59 : decode cX3_waitsWith 59 = .ok (.iload 5, 2) := by decide +kernel
theorem dX3_waitsWith_61 : decode cX3_waitsWith 61 = .ok (.iaload, 1) := by decide +kernel
theorem dX3_waitsWith_62 : decode cX3_waitsWith 62 = .ok (.iadd, 1) := by decide +kernel
theorem dX3_waitsWith_63 : decode cX3_waitsWith 63 = .ok (.istore 4, 2) := by decide +kernel
theorem dX3_waitsWith_65 : decode cX3_waitsWith 65 = .ok (.iinc 5 1, 3) := by decide +kernel
theorem dX3_waitsWith_68 : decode cX3_waitsWith 68 = .ok (.goto (-33), 3) := by decide +kernel
theorem dX3_waitsWith_71 : decode cX3_waitsWith 71 = .ok (.ldc 120, 2) := by decide +kernel
theorem dX3_waitsWith_73 : decode cX3_waitsWith 73 = .ok (.iload 4, 2) := by decide +kernel
theorem dX3_waitsWith_75 : decode cX3_waitsWith 75 = .ok (.aload_n 0, 1) := by decide +kernel
theorem dX3_waitsWith_76 : decode cX3_waitsWith 76 = .ok (.getfield 21, 3) := by decide +kernel
theorem dX3_waitsWith_79 : decode cX3_waitsWith 79 = .ok (.iload_n 3, 1) := by decide +kernel
theorem dX3_waitsWith_80 : decode cX3_waitsWith 80 = .ok (.iaload, 1) := by decide +kernel
theorem dX3_waitsWith_81 : decode cX3_waitsWith 81 = .ok (.imul, 1) := by decide +kernel
theorem dX3_waitsWith_82 : decode cX3_waitsWith 82 = .ok (.aload_n 0, 1) := by decide +kernel
theorem dX3_waitsWith_83 : decode cX3_waitsWith 83 = .ok (.getfield 24, 3) := by decide +kernel
theorem dX3_waitsWith_86 : decode cX3_waitsWith 86 = .ok (.iload_n 2, 1) := by decide +kernel
theorem dX3_waitsWith_87 : decode cX3_waitsWith 87 = .ok (.iconst 1, 1) := by decide +kernel
theorem dX3_waitsWith_88 : decode cX3_waitsWith 88 = .ok (.iload_n 3, 1) := by decide +kernel
theorem dX3_waitsWith_89 : decode cX3_waitsWith 89 = .ok (.ishl, 1) := by decide +kernel
theorem dX3_waitsWith_90 : decode cX3_waitsWith 90 = .ok (.ior, 1) := by decide +kernel
theorem dX3_waitsWith_91 : decode cX3_waitsWith 91 = .ok (.iaload, 1) := by decide +kernel
theorem dX3_waitsWith_92 : decode cX3_waitsWith 92 = .ok (.iadd, 1) := by decide +kernel
theorem dX3_waitsWith_93 : decode cX3_waitsWith 93 = .ok (.invokestatic 73, 3) := by decide +kernel
theorem dX3_waitsWith_96 : decode cX3_waitsWith 96 = .ok (.ireturn, 1) := by decide +kernel
theorem dX3_decidedAt_0 : decode cX3_decidedAt 0 = .ok (.iconst 0, 1) := by decide +kernel
theorem dX3_decidedAt_1 : decode cX3_decidedAt 1 = .ok (.istore_n 3, 1) := by decide +kernel
theorem dX3_decidedAt_2 : decode cX3_decidedAt 2 = .ok (.iconst (-1), 1) := by decide +kernel
theorem dX3_decidedAt_3 : decode cX3_decidedAt 3 = .ok (.istore 4, 2) := by decide +kernel
theorem dX3_decidedAt_5 : decode cX3_decidedAt 5 = .ok (.iconst 0, 1) := by decide +kernel
theorem dX3_decidedAt_6 : decode cX3_decidedAt 6 = .ok (.istore 5, 2) := by decide +kernel
theorem dX3_decidedAt_8 : decode cX3_decidedAt 8 = .ok (.iload 5, 2) := by decide +kernel
theorem dX3_decidedAt_10 : decode cX3_decidedAt 10 = .ok (.iload_n 2, 1) := by decide +kernel
theorem dX3_decidedAt_11 : decode cX3_decidedAt 11 = .ok (.if_icmp .gt 32, 3) := by decide +kernel
theorem dX3_decidedAt_14 : decode cX3_decidedAt 14 = .ok (.aload_n 0, 1) := by decide +kernel
theorem dX3_decidedAt_15 : decode cX3_decidedAt 15 = .ok (.aload_n 1, 1) := by decide +kernel
theorem dX3_decidedAt_16 : decode cX3_decidedAt 16 = .ok (.iload_n 3, 1) := by decide +kernel
theorem dX3_decidedAt_17 : decode cX3_decidedAt 17 = .ok (.invokevirtual 134, 3) := by decide +kernel
theorem dX3_decidedAt_20 : decode cX3_decidedAt 20 = .ok (.istore 4, 2) := by decide +kernel
theorem dX3_decidedAt_22 : decode cX3_decidedAt 22 = .ok (.iload 4, 2) := by decide +kernel
theorem dX3_decidedAt_24 : decode cX3_decidedAt 24 = .ok (.iconst (-1), 1) := by decide +kernel
theorem dX3_decidedAt_25 : decode cX3_decidedAt 25 = .ok (.if_icmp .ne 5, 3) := by decide +kernel
theorem dX3_decidedAt_28 : decode cX3_decidedAt 28 = .ok (.iconst (-1), 1) := by decide +kernel
theorem dX3_decidedAt_29 : decode cX3_decidedAt 29 = .ok (.ireturn, 1) := by decide +kernel
theorem dX3_decidedAt_30 : decode cX3_decidedAt 30 = .ok (.iload_n 3, 1) := by decide +kernel
theorem dX3_decidedAt_31 : decode cX3_decidedAt 31 = .ok (.iconst 1, 1) := by decide +kernel
theorem dX3_decidedAt_32 : decode cX3_decidedAt 32 = .ok (.iload 4, 2) := by decide +kernel
theorem dX3_decidedAt_34 : decode cX3_decidedAt 34 = .ok (.ishl, 1) := by decide +kernel
theorem dX3_decidedAt_35 : decode cX3_decidedAt 35 = .ok (.ior, 1) := by decide +kernel
theorem dX3_decidedAt_36 : decode cX3_decidedAt 36 = .ok (.istore_n 3, 1) := by decide +kernel
theorem dX3_decidedAt_37 : decode cX3_decidedAt 37 = .ok (.iinc 5 1, 3) := by decide +kernel
theorem dX3_decidedAt_40 : decode cX3_decidedAt 40 = .ok (.goto (-32), 3) := by decide +kernel
theorem dX3_decidedAt_43 : decode cX3_decidedAt 43 = .ok (.iload 4, 2) := by decide +kernel
theorem dX3_decidedAt_45 : decode cX3_decidedAt 45 = .ok (.ireturn, 1) := by decide +kernel
theorem dX3_nextDecided_0 : decode cX3_nextDecided 0 = .ok (.iconst 0, 1) := by decide +kernel
theorem dX3_nextDecided_1 : decode cX3_nextDecided 1 = .ok (.istore_n 3, 1) := by decide +kernel
theorem dX3_nextDecided_2 : decode cX3_nextDecided 2 = .ok (.iload_n 3, 1) := by decide +kernel
theorem dX3_nextDecided_3 : decode cX3_nextDecided 3 = .ok (.aload_n 1, 1) := by decide +kernel
theorem dX3_nextDecided_4 : decode cX3_nextDecided 4 = .ok (.getfield 98, 3) := by decide +kernel
theorem dX3_nextDecided_7 : decode cX3_nextDecided 7 = .ok (.if_icmp .ge 35, 3) := by decide +kernel
theorem dX3_nextDecided_10 : decode cX3_nextDecided 10 = .ok (.iload_n 2, 1) := by decide +kernel
theorem dX3_nextDecided_11 : decode cX3_nextDecided 11 = .ok (.iload_n 3, 1) := by decide +kernel
theorem dX3_nextDecided_12 : decode cX3_nextDecided 12 = .ok (.invokestatic 50, 3) := by decide +kernel
theorem dX3_nextDecided_15 : decode cX3_nextDecided 15 = .ok (.ifCond .ne 21, 3) := by decide +kernel
theorem dX3_nextDecided_18 : decode cX3_nextDecided 18 = .ok (.aload_n 0, 1) := by decide +kernel
theorem dX3_nextDecided_19 : decode cX3_nextDecided 19 = .ok (.aload_n 1, 1) := by decide +kernel
theorem dX3_nextDecided_20 : decode cX3_nextDecided 20 = .ok (.iload_n 2, 1) := by decide +kernel
theorem dX3_nextDecided_21 : decode cX3_nextDecided 21 = .ok (.iload_n 3, 1) := by decide +kernel
theorem dX3_nextDecided_22 : decode cX3_nextDecided 22 = .ok (.invokevirtual 121, 3) := by decide +kernel
theorem dX3_nextDecided_25 : decode cX3_nextDecided 25 = .ok (.aload_n 0, 1) := by decide +kernel
theorem dX3_nextDecided_26 : decode cX3_nextDecided 26 = .ok (.getfield 24, 3) := by decide +kernel
theorem dX3_nextDecided_29 : decode cX3_nextDecided 29 = .ok (.iload_n 2, 1) := by decide +kernel
theorem dX3_nextDecided_30 : decode cX3_nextDecided 30 = .ok (.iaload, 1) := by decide +kernel
theorem dX3_nextDecided_31 : decode cX3_nextDecided 31 = .ok (.if_icmp .ne 5, 3) := by decide +kernel
theorem dX3_nextDecided_34 : decode cX3_nextDecided 34 = .ok (.iload_n 3, 1) := by decide +kernel
theorem dX3_nextDecided_35 : decode cX3_nextDecided 35 = .ok (.ireturn, 1) := by decide +kernel
theorem dX3_nextDecided_36 : decode cX3_nextDecided 36 = .ok (.iinc 3 1, 3) := by decide +kernel
theorem dX3_nextDecided_39 : decode cX3_nextDecided 39 = .ok (.goto (-37), 3) := by decide +kernel
theorem dX3_nextDecided_42 : decode cX3_nextDecided 42 = .ok (.iconst (-1), 1) := by decide +kernel
theorem dX3_nextDecided_43 : decode cX3_nextDecided 43 = .ok (.ireturn, 1) := by decide +kernel
theorem dX3_shortestRound_0 : decode cX3_shortestRound 0 = .ok (.iconst 1, 1) := by decide +kernel
theorem dX3_shortestRound_1 : decode cX3_shortestRound 1 = .ok (.aload_n 1, 1) := by decide +kernel
theorem dX3_shortestRound_2 : decode cX3_shortestRound 2 = .ok (.getfield 125, 3) := by decide +kernel
theorem dX3_shortestRound_5 : decode cX3_shortestRound 5 = .ok (.ishl, 1) := by decide +kernel
theorem dX3_shortestRound_6 : decode cX3_shortestRound 6 = .ok (.iconst 1, 1) := by decide +kernel
theorem dX3_shortestRound_7 : decode cX3_shortestRound 7 = .ok (.isub, 1) := by decide +kernel
theorem dX3_shortestRound_8 : decode cX3_shortestRound 8 = .ok (.aload_n 1, 1) := by decide +kernel
theorem dX3_shortestRound_9 : decode cX3_shortestRound 9 = .ok (.aload_n 1, 1) := by decide +kernel
theorem dX3_shortestRound_10 : decode cX3_shortestRound 10 = .ok (.getfield 58, 3) := by decide +kernel
theorem dX3_shortestRound_13 : decode cX3_shortestRound 13 = .ok (.invokevirtual 79, 3) := by decide +kernel
theorem dX3_shortestRound_16 : decode cX3_shortestRound 16 = .ok (.iconst (-1), 1) := by decide +kernel
theorem dX3_shortestRound_17 : decode cX3_shortestRound 17 = .ok (.ixor, 1) := by decide +kernel
theorem dX3_shortestRound_18 : decode cX3_shortestRound 18 = .ok (.iand, 1) := by decide +kernel
theorem dX3_shortestRound_19 : decode cX3_shortestRound 19 = .ok (.istore_n 3, 1) := by decide +kernel
theorem dX3_shortestRound_20 : decode cX3_shortestRound 20 = .ok (.iload_n 3, 1) := by decide +kernel
theorem dX3_shortestRound_21 : decode cX3_shortestRound 21 = .ok (.ifCond .ne 7, 3) := by decide +kernel
theorem dX3_shortestRound_24 : decode cX3_shortestRound 24 = .ok (.iconst 0, 1) := by decide +kernel
theorem dX3_shortestRound_25 : decode cX3_shortestRound 25 = .ok (.goto 5, 3) := by decide +kernel
theorem dX3_shortestRound_28 : decode cX3_shortestRound 28 = .ok (.ldc 120, 2) := by decide +kernel
theorem dX3_shortestRound_30 : decode cX3_shortestRound 30 = .ok (.istore 4, 2) := by decide +kernel
theorem dX3_shortestRound_32 : decode cX3_shortestRound 32 = .ok (.aload_n 0, 1) := by decide +kernel
theorem dX3_shortestRound_33 : decode cX3_shortestRound 33 = .ok (.getfield 27, 3) := by decide +kernel
theorem dX3_shortestRound_36 : decode cX3_shortestRound 36 = .ok (.ldc 120, 2) := by decide +kernel
theorem dX3_shortestRound_38 : decode cX3_shortestRound 38 = .ok (.invokestatic 83, 3) := by decide +kernel
theorem dX3_shortestRound_41 : decode cX3_shortestRound 41 = .ok (.iconst 0, 1) := by decide +kernel
theorem dX3_shortestRound_42 : decode cX3_shortestRound 42 = .ok (.istore 5, 2) := by decide +kernel
theorem dX3_shortestRound_44 : decode cX3_shortestRound 44 = .ok (.iload 5, 2) := by decide +kernel
theorem dX3_shortestRound_46 : decode cX3_shortestRound 46 = .ok (.aload_n 1, 1) := by decide +kernel
theorem dX3_shortestRound_47 : decode cX3_shortestRound 47 = .ok (.getfield 125, 3) := by decide +kernel
theorem dX3_shortestRound_50 : decode cX3_shortestRound 50 = .ok (.if_icmp .ge 49, 3) := by decide +kernel
theorem dX3_shortestRound_53 : decode cX3_shortestRound 53 = .ok (.iload_n 3, 1) := by decide +kernel
theorem dX3_shortestRound_54 : decode cX3_shortestRound 54 = .ok (.iload 5, 2) := by decide +kernel
theorem dX3_shortestRound_56 : decode cX3_shortestRound 56 = .ok (.invokestatic 50, 3) := by decide +kernel
theorem dX3_shortestRound_59 : decode cX3_shortestRound 59 = .ok (.ifCond .eq 34, 3) := by decide +kernel
theorem dX3_shortestRound_62 : decode cX3_shortestRound 62 = .ok (.aload_n 0, 1) := by decide +kernel
theorem dX3_shortestRound_63 : decode cX3_shortestRound 63 = .ok (.getfield 27, 3) := by decide +kernel
theorem dX3_shortestRound_66 : decode cX3_shortestRound 66 = .ok (.iconst 1, 1) := by decide +kernel
theorem dX3_shortestRound_67 : decode cX3_shortestRound 67 = .ok (.iload 5, 2) := by decide +kernel
theorem dX3_shortestRound_69 : decode cX3_shortestRound 69 = .ok (.ishl, 1) := by decide +kernel
theorem dX3_shortestRound_70 : decode cX3_shortestRound 70 = .ok (.iload 5, 2) := by decide +kernel
theorem dX3_shortestRound_72 : decode cX3_shortestRound 72 = .ok (.invokestatic 137, 3) := by decide +kernel
theorem dX3_shortestRound_75 : decode cX3_shortestRound 75 = .ok (.iload_n 2, 1) := by decide +kernel
theorem dX3_shortestRound_76 : decode cX3_shortestRound 76 = .ok (.aload_n 1, 1) := by decide +kernel
theorem dX3_shortestRound_77 : decode cX3_shortestRound 77 = .ok (.getfield 140, 3) := by decide +kernel
theorem dX3_shortestRound_80 : decode cX3_shortestRound 80 = .ok (.iload 5, 2) := by decide +kernel
theorem dX3_shortestRound_82 : decode cX3_shortestRound 82 = .ok (.iaload, 1) := by decide +kernel
theorem dX3_shortestRound_83 : decode cX3_shortestRound 83 = .ok (.isub, 1) := by decide +kernel
theorem dX3_shortestRound_84 : decode cX3_shortestRound 84 = .ok (.invokestatic 143, 3) := by decide +kernel
theorem dX3_shortestRound_87 : decode cX3_shortestRound 87 = .ok (.iload_n 3, 1) := by decide +kernel
theorem dX3_shortestRound_88 : decode cX3_shortestRound 88 = .ok (.invokestatic 36, 3) := by decide +kernel
theorem dX3_shortestRound_91 : decode cX3_shortestRound 91 = .ok (.imul, 1) := by decide +kernel
theorem dX3_shortestRound_92 : decode cX3_shortestRound 92 = .ok (.iastore, 1) := by decide +kernel
theorem dX3_shortestRound_93 : decode cX3_shortestRound 93 = .ok (.iinc 5 1, 3) := by decide +kernel
theorem dX3_shortestRound_96 : decode cX3_shortestRound 96 = .ok (.goto (-52), 3) := by decide +kernel
theorem dX3_shortestRound_99 : decode cX3_shortestRound 99 = .ok (.iconst 1, 1) := by decide +kernel
theorem dX3_shortestRound_100 : decode cX3_shortestRound 100 = .ok (.istore 5, 2) := by decide +kernel
theorem dX3_shortestRound_102 : decode cX3_shortestRound 102 = .ok (.iload 5, 2) := by decide +kernel
theorem dX3_shortestRound_104 : decode cX3_shortestRound 104 = .ok (.iload_n 3, 1) := by decide +kernel
theorem dX3_shortestRound_105 : decode cX3_shortestRound 105 = .ok (.if_icmp .gt 37, 3) := by decide +kernel
theorem dX3_shortestRound_108 : decode cX3_shortestRound 108 = .ok (.iconst 0, 1) := by decide +kernel
theorem dX3_shortestRound_109 : decode cX3_shortestRound 109 = .ok (.istore 6, 2) := by decide +kernel
theorem dX3_shortestRound_111 : decode cX3_shortestRound 111 = .ok (.iload 6, 2) := by decide +kernel
theorem dX3_shortestRound_113 : decode cX3_shortestRound 113 = .ok (.aload_n 1, 1) := by decide +kernel
theorem dX3_shortestRound_114 : decode cX3_shortestRound 114 = .ok (.getfield 125, 3) := by decide +kernel
theorem dX3_shortestRound_117 : decode cX3_shortestRound 117 = .ok (.if_icmp .ge 19, 3) := by decide +kernel
theorem dX3_shortestRound_120 : decode cX3_shortestRound 120 = .ok (.aload_n 0, 1) := by decide +kernel
theorem dX3_shortestRound_121 : decode cX3_shortestRound 121 = .ok (.aload_n 1, 1) := by decide +kernel
theorem dX3_shortestRound_122 : decode cX3_shortestRound 122 = .ok (.iload_n 3, 1) := by decide +kernel
theorem dX3_shortestRound_123 : decode cX3_shortestRound 123 = .ok (.iload 5, 2) := by decide +kernel
theorem dX3_shortestRound_125 : decode cX3_shortestRound 125 = .ok (.iload 6, 2) := by decide +kernel
theorem dX3_shortestRound_127 : decode cX3_shortestRound 127 = .ok (.invokevirtual 146, 3) := by decide +kernel
theorem dX3_shortestRound_130 : decode cX3_shortestRound 130 = .ok (.iinc 6 1, 3) := by decide +kernel
theorem dX3_shortestRound_133 : decode cX3_shortestRound 133 = .ok (.goto (-22), 3) := by decide +kernel
theorem dX3_shortestRound_136 : decode cX3_shortestRound 136 = .ok (.iinc 5 1, 3) := by decide +kernel
theorem dX3_shortestRound_139 : decode cX3_shortestRound 139 = .ok (.goto (-37), 3) := by decide +kernel
theorem dX3_shortestRound_142 : decode cX3_shortestRound 142 = .ok (.iconst 0, 1) := by decide +kernel
theorem dX3_shortestRound_143 : decode cX3_shortestRound 143 = .ok (.istore 5, 2) := by decide +kernel
theorem dX3_shortestRound_145 : decode cX3_shortestRound 145 = .ok (.iload 5, 2) := by decide +kernel
theorem dX3_shortestRound_147 : decode cX3_shortestRound 147 = .ok (.aload_n 1, 1) := by decide +kernel
theorem dX3_shortestRound_148 : decode cX3_shortestRound 148 = .ok (.getfield 125, 3) := by decide +kernel
theorem dX3_shortestRound_151 : decode cX3_shortestRound 151 = .ok (.if_icmp .ge 27, 3) := by decide +kernel
theorem dX3_shortestRound_154 : decode cX3_shortestRound 154 = .ok (.iload 4, 2) := by decide +kernel
theorem dX3_shortestRound_156 : decode cX3_shortestRound 156 = .ok (.aload_n 0, 1) := by decide +kernel
theorem dX3_shortestRound_157 : decode cX3_shortestRound 157 = .ok (.getfield 27, 3) := by decide +kernel
theorem dX3_shortestRound_160 : decode cX3_shortestRound 160 = .ok (.iload_n 3, 1) := by decide +kernel
theorem dX3_shortestRound_161 : decode cX3_shortestRound 161 = .ok (.iload 5, 2) := by decide +kernel
theorem dX3_shortestRound_163 : decode cX3_shortestRound 163 = .ok (.invokestatic 137, 3) := by decide +kernel
theorem dX3_shortestRound_166 : decode cX3_shortestRound 166 = .ok (.iaload, 1) := by decide +kernel
theorem dX3_shortestRound_167 : decode cX3_shortestRound 167 = .ok (.invokestatic 73, 3) := by decide +kernel
theorem dX3_shortestRound_170 : decode cX3_shortestRound 170 = .ok (.istore 4, 2) := by decide +kernel
theorem dX3_shortestRound_172 : decode cX3_shortestRound 172 = .ok (.iinc 5 1, 3) := by decide +kernel
theorem dX3_shortestRound_175 : decode cX3_shortestRound 175 = .ok (.goto (-30), 3) := by decide +kernel
theorem dX3_shortestRound_178 : decode cX3_shortestRound 178 = .ok (.iload 4, 2) := by decide +kernel
theorem dX3_shortestRound_180 : decode cX3_shortestRound 180 = .ok (.ireturn, 1) := by decide +kernel
theorem dX3_wayTo_0 : decode cX3_wayTo 0 = .ok (.iload_n 0, 1) := by decide +kernel
theorem dX3_wayTo_1 : decode cX3_wayTo 1 = .ok (.bipush 7, 2) := by decide +kernel
theorem dX3_wayTo_3 : decode cX3_wayTo 3 = .ok (.imul, 1) := by decide +kernel
theorem dX3_wayTo_4 : decode cX3_wayTo 4 = .ok (.iload_n 1, 1) := by decide +kernel
theorem dX3_wayTo_5 : decode cX3_wayTo 5 = .ok (.iadd, 1) := by decide +kernel
theorem dX3_wayTo_6 : decode cX3_wayTo 6 = .ok (.ireturn, 1) := by decide +kernel
theorem dX3_goOn_0 : decode cX3_goOn 0 = .ok (.aload_n 0, 1) := by decide +kernel
theorem dX3_goOn_1 : decode cX3_goOn 1 = .ok (.getfield 27, 3) := by decide +kernel
theorem dX3_goOn_4 : decode cX3_goOn 4 = .ok (.iload_n 3, 1) := by decide +kernel
theorem dX3_goOn_5 : decode cX3_goOn 5 = .ok (.iload 4, 2) := by decide +kernel
theorem dX3_goOn_7 : decode cX3_goOn 7 = .ok (.invokestatic 137, 3) := by decide +kernel
theorem dX3_goOn_10 : decode cX3_goOn 10 = .ok (.iaload, 1) := by decide +kernel
theorem dX3_goOn_11 : decode cX3_goOn 11 = .ok (.istore 5, 2) := by decide +kernel
theorem dX3_goOn_13 : decode cX3_goOn 13 = .ok (.iload 5, 2) := by decide +kernel
theorem dX3_goOn_15 : decode cX3_goOn 15 = .ok (.ldc 120, 2) := by decide +kernel
theorem dX3_goOn_17 : decode cX3_goOn 17 = .ok (.if_icmp .lt 4, 3) := by decide +kernel
theorem dX3_goOn_20 : decode cX3_goOn 20 = .ok (.return_, 1) := by decide +kernel
theorem dX3_goOn_21 : decode cX3_goOn 21 = .ok (.iload_n 2, 1) := by decide +kernel
theorem dX3_goOn_22 : decode cX3_goOn 22 = .ok (.iload_n 3, 1) := by decide +kernel
theorem dX3_goOn_23 : decode cX3_goOn 23 = .ok (.iconst (-1), 1) := by decide +kernel
theorem dX3_goOn_24 : decode cX3_goOn 24 = .ok (.ixor, 1) := by decide +kernel
theorem dX3_goOn_25 : decode cX3_goOn 25 = .ok (.iand, 1) := by decide +kernel
theorem dX3_goOn_26 : decode cX3_goOn 26 = .ok (.invokestatic 36, 3) := by decide +kernel
theorem dX3_goOn_29 : decode cX3_goOn 29 = .ok (.istore 6, 2) := by decide +kernel
theorem dX3_goOn_31 : decode cX3_goOn 31 = .ok (.iconst 0, 1) := by decide +kernel
theorem dX3_goOn_32 : decode cX3_goOn 32 = .ok (.istore 7, 2) := by decide +kernel
theorem dX3_goOn_34 : decode cX3_goOn 34 = .ok (.iload 7, 2) := by decide +kernel
theorem dX3_goOn_36 : decode cX3_goOn 36 = .ok (.aload_n 1, 1) := by decide +kernel
theorem dX3_goOn_37 : decode cX3_goOn 37 = .ok (.getfield 125, 3) := by decide +kernel
theorem dX3_goOn_40 : decode cX3_goOn 40 = .ok (.if_icmp .ge 80, 3) := by decide +kernel
theorem dX3_goOn_43 : decode cX3_goOn 43 = .ok (.iload_n 2, 1) := by decide +kernel
theorem dX3_goOn_44 : decode cX3_goOn 44 = .ok (.iload_n 3, 1) := by decide +kernel
theorem dX3_goOn_45 : decode cX3_goOn 45 = .ok (.iconst (-1), 1) := by decide +kernel
theorem dX3_goOn_46 : decode cX3_goOn 46 = .ok (.ixor, 1) := by decide +kernel
theorem dX3_goOn_47 : decode cX3_goOn 47 = .ok (.iand, 1) := by decide +kernel
theorem dX3_goOn_48 : decode cX3_goOn 48 = .ok (.iload 7, 2) := by decide +kernel
theorem dX3_goOn_50 : decode cX3_goOn 50 = .ok (.invokestatic 50, 3) := by decide +kernel
theorem dX3_goOn_53 : decode cX3_goOn 53 = .ok (.ifCond .eq 61, 3) := by decide +kernel
theorem dX3_goOn_56 : decode cX3_goOn 56 = .ok (.iload_n 3, 1) := by decide +kernel
theorem dX3_goOn_57 : decode cX3_goOn 57 = .ok (.iconst 1, 1) := by decide +kernel
theorem dX3_goOn_58 : decode cX3_goOn 58 = .ok (.iload 7, 2) := by decide +kernel
theorem dX3_goOn_60 : decode cX3_goOn 60 = .ok (.ishl, 1) := by decide +kernel
theorem dX3_goOn_61 : decode cX3_goOn 61 = .ok (.ior, 1) := by decide +kernel
theorem dX3_goOn_62 : decode cX3_goOn 62 = .ok (.iload 7, 2) := by decide +kernel
theorem dX3_goOn_64 : decode cX3_goOn 64 = .ok (.invokestatic 137, 3) := by decide +kernel
theorem dX3_goOn_67 : decode cX3_goOn 67 = .ok (.istore 8, 2) := by decide +kernel
theorem dX3_goOn_69 : decode cX3_goOn 69 = .ok (.aload_n 1, 1) := by decide +kernel
theorem dX3_goOn_70 : decode cX3_goOn 70 = .ok (.getfield 140, 3) := by decide +kernel
theorem dX3_goOn_73 : decode cX3_goOn 73 = .ok (.iload 4, 2) := by decide +kernel
theorem dX3_goOn_75 : decode cX3_goOn 75 = .ok (.iaload, 1) := by decide +kernel
theorem dX3_goOn_76 : decode cX3_goOn 76 = .ok (.aload_n 1, 1) := by decide +kernel
theorem dX3_goOn_77 : decode cX3_goOn 77 = .ok (.getfield 140, 3) := by decide +kernel
theorem dX3_goOn_80 : decode cX3_goOn 80 = .ok (.iload 7, 2) := by decide +kernel
theorem dX3_goOn_82 : decode cX3_goOn 82 = .ok (.iaload, 1) := by decide +kernel
theorem dX3_goOn_83 : decode cX3_goOn 83 = .ok (.isub, 1) := by decide +kernel
theorem dX3_goOn_84 : decode cX3_goOn 84 = .ok (.invokestatic 143, 3) := by decide +kernel
theorem dX3_goOn_87 : decode cX3_goOn 87 = .ok (.iload 6, 2) := by decide +kernel
theorem dX3_goOn_89 : decode cX3_goOn 89 = .ok (.imul, 1) := by decide +kernel
theorem dX3_goOn_90 : decode cX3_goOn 90 = .ok (.istore 9, 2) := by decide +kernel
theorem dX3_goOn_92 : decode cX3_goOn 92 = .ok (.aload_n 0, 1) := by decide +kernel
theorem dX3_goOn_93 : decode cX3_goOn 93 = .ok (.getfield 27, 3) := by decide +kernel
theorem dX3_goOn_96 : decode cX3_goOn 96 = .ok (.iload 8, 2) := by decide +kernel
theorem dX3_goOn_98 : decode cX3_goOn 98 = .ok (.aload_n 0, 1) := by decide +kernel
theorem dX3_goOn_99 : decode cX3_goOn 99 = .ok (.getfield 27, 3) := by decide +kernel
theorem dX3_goOn_102 : decode cX3_goOn 102 = .ok (.iload 8, 2) := by decide +kernel
theorem dX3_goOn_104 : decode cX3_goOn 104 = .ok (.iaload, 1) := by decide +kernel
theorem dX3_goOn_105 : decode cX3_goOn 105 = .ok (.iload 5, 2) := by decide +kernel
theorem dX3_goOn_107 : decode cX3_goOn 107 = .ok (.iload 9, 2) := by decide +kernel
theorem dX3_goOn_109 : decode cX3_goOn 109 = .ok (.iadd, 1) := by decide +kernel
theorem dX3_goOn_110 : decode cX3_goOn 110 = .ok (.invokestatic 73, 3) := by decide +kernel
theorem dX3_goOn_113 : decode cX3_goOn 113 = .ok (.iastore, 1) := by decide +kernel
theorem dX3_goOn_114 : decode cX3_goOn 114 = .ok (.iinc 7 1, 3) := by decide +kernel
theorem dX3_goOn_117 : decode cX3_goOn 117 = .ok (.goto (-83), 3) := by decide +kernel
theorem dX3_goOn_120 : decode cX3_goOn 120 = .ok (.return_, 1) := by decide +kernel

theorem dX5_init_0 : decode cX5_init 0 = .ok (.aload_n 0, 1) := by decide +kernel
theorem dX5_init_1 : decode cX5_init 1 = .ok (.invokespecial 3, 3) := by decide +kernel
theorem dX5_init_4 : decode cX5_init 4 = .ok (.aload_n 0, 1) := by decide +kernel
theorem dX5_init_5 : decode cX5_init 5 = .ok (.iconst 4, 1) := by decide +kernel
theorem dX5_init_6 : decode cX5_init 6 = .ok (.bipush 60, 2) := by decide +kernel
theorem dX5_init_8 : decode cX5_init 8 = .ok (.multianewarray 9 2, 4) := by decide +kernel
theorem dX5_init_12 : decode cX5_init 12 = .ok (.putfield 11, 3) := by decide +kernel
theorem dX5_init_15 : decode cX5_init 15 = .ok (.aload_n 0, 1) := by decide +kernel
theorem dX5_init_16 : decode cX5_init 16 = .ok (.iconst 4, 1) := by decide +kernel
theorem dX5_init_17 : decode cX5_init 17 = .ok (.newarray .int, 2) := by decide +kernel
theorem dX5_init_19 : decode cX5_init 19 = .ok (.putfield 16, 3) := by decide +kernel
theorem dX5_init_22 : decode cX5_init 22 = .ok (.aload_n 0, 1) := by decide +kernel
theorem dX5_init_23 : decode cX5_init 23 = .ok (.iconst 4, 1) := by decide +kernel
theorem dX5_init_24 : decode cX5_init 24 = .ok (.newarray .int, 2) := by decide +kernel
theorem dX5_init_26 : decode cX5_init 26 = .ok (.putfield 20, 3) := by decide +kernel
theorem dX5_init_29 : decode cX5_init 29 = .ok (.aload_n 0, 1) := by decide +kernel
theorem dX5_init_30 : decode cX5_init 30 = .ok (.getfield 20, 3) := by decide +kernel
theorem dX5_init_33 : decode cX5_init 33 = .ok (.iconst (-1), 1) := by decide +kernel
theorem dX5_init_34 : decode cX5_init 34 = .ok (.invokestatic 23, 3) := by decide +kernel
theorem dX5_init_37 : decode cX5_init 37 = .ok (.return_, 1) := by decide +kernel
theorem dX5_isTray_0 : decode cX5_isTray 0 = .ok (.iload_n 0, 1) := by decide +kernel
theorem dX5_isTray_1 : decode cX5_isTray 1 = .ok (.ifCond .lt 12, 3) := by decide +kernel
theorem dX5_isTray_4 : decode cX5_isTray 4 = .ok (.iload_n 0, 1) := by decide +kernel
theorem dX5_isTray_5 : decode cX5_isTray 5 = .ok (.iconst 4, 1) := by decide +kernel
theorem dX5_isTray_6 : decode cX5_isTray 6 = .ok (.if_icmp .ge 7, 3) := by decide +kernel
theorem dX5_isTray_9 : decode cX5_isTray 9 = .ok (.iconst 1, 1) := by decide +kernel
theorem dX5_isTray_10 : decode cX5_isTray 10 = .ok (.goto 4, 3) := by decide +kernel
theorem dX5_isTray_13 : decode cX5_isTray 13 = .ok (.iconst 0, 1) := by decide +kernel
theorem dX5_isTray_14 : decode cX5_isTray 14 = .ok (.ireturn, 1) := by decide +kernel
theorem dX5_isMissing_0 : decode cX5_isMissing 0 = .ok (.aload_n 0, 1) := by decide +kernel
theorem dX5_isMissing_1 : decode cX5_isMissing 1 = .ok (.getfield 20, 3) := by decide +kernel
theorem dX5_isMissing_4 : decode cX5_isMissing 4 = .ok (.iload_n 1, 1) := by decide +kernel
theorem dX5_isMissing_5 : decode cX5_isMissing 5 = .ok (.iaload, 1) := by decide +kernel
theorem dX5_isMissing_6 : decode cX5_isMissing 6 = .ok (.iconst (-1), 1) := by decide +kernel
theorem dX5_isMissing_7 : decode cX5_isMissing 7 = .ok (.if_icmp .ne 7, 3) := by decide +kernel
theorem dX5_isMissing_10 : decode cX5_isMissing 10 = .ok (.iconst 1, 1) := by decide +kernel
theorem dX5_isMissing_11 : decode cX5_isMissing 11 = .ok (.goto 4, 3) := by decide +kernel
theorem dX5_isMissing_14 : decode cX5_isMissing 14 = .ok (.iconst 0, 1) := by decide +kernel
theorem dX5_isMissing_15 : decode cX5_isMissing 15 = .ok (.ireturn, 1) := by decide +kernel
theorem dX5_has_0 : decode cX5_has 0 = .ok (.iload_n 2, 1) := by decide +kernel
theorem dX5_has_1 : decode cX5_has 1 = .ok (.ifCond .lt 29, 3) := by decide +kernel
theorem dX5_has_4 : decode cX5_has 4 = .ok (.iload_n 3, 1) := by decide +kernel
theorem dX5_has_5 : decode cX5_has 5 = .ok (.aload_n 0, 1) := by decide +kernel
theorem dX5_has_6 : decode cX5_has 6 = .ok (.getfield 20, 3) := by decide +kernel
theorem dX5_has_9 : decode cX5_has 9 = .ok (.iload_n 1, 1) := by decide +kernel
theorem dX5_has_10 : decode cX5_has 10 = .ok (.iaload, 1) := by decide +kernel
theorem dX5_has_11 : decode cX5_has 11 = .ok (.if_icmp .gt 19, 3) := by decide +kernel
theorem dX5_has_14 : decode cX5_has 14 = .ok (.iload_n 2, 1) := by decide +kernel
theorem dX5_has_15 : decode cX5_has 15 = .ok (.aload_n 0, 1) := by decide +kernel
theorem dX5_has_16 : decode cX5_has 16 = .ok (.getfield 20, 3) := by decide +kernel
theorem dX5_has_19 : decode cX5_has 19 = .ok (.iload_n 1, 1) := by decide +kernel
theorem dX5_has_20 : decode cX5_has 20 = .ok (.iaload, 1) := by decide +kernel
theorem dX5_has_21 : decode cX5_has 21 = .ok (.iload_n 3, 1) := by decide +kernel
theorem dX5_has_22 : decode cX5_has 22 = .ok (.isub, 1) := by decide +kernel
theorem dX5_has_23 : decode cX5_has 23 = .ok (.if_icmp .gt 7, 3) := by decide +kernel
theorem dX5_has_26 : decode cX5_has 26 = .ok (.iconst 1, 1) := by decide +kernel
theorem dX5_has_27 : decode cX5_has 27 = .ok (.goto 4, 3) := by decide +kernel
theorem dX5_has_30 : decode cX5_has 30 = .ok (.iconst 0, 1) := by decide +kernel
theorem dX5_has_31 : decode cX5_has 31 = .ok (.ireturn, 1) := by decide +kernel
theorem dX5_lay_0 : decode cX5_lay 0 = .ok (.aload_n 0, 1) := by decide +kernel
theorem dX5_lay_1 : decode cX5_lay 1 = .ok (.getfield 11, 3) := by decide +kernel
theorem dX5_lay_4 : decode cX5_lay 4 = .ok (.iload_n 1, 1) := by decide +kernel
theorem dX5_lay_5 : decode cX5_lay 5 = .ok (.aaload, 1) := by decide +kernel
theorem dX5_lay_6 : decode cX5_lay 6 = .ok (.lconst 0, 1) := by decide +kernel
theorem dX5_lay_7 : decode cX5_lay 7 = .ok (.invokestatic 29, 3) := by decide +kernel
theorem dX5_lay_10 : decode cX5_lay 10 = .ok (.aload_n 0, 1) := by decide +kernel
theorem dX5_lay_11 : decode cX5_lay 11 = .ok (.getfield 16, 3) := by decide +kernel
theorem dX5_lay_14 : decode cX5_lay 14 = .ok (.iload_n 1, 1) := by decide +kernel
theorem dX5_lay_15 : decode cX5_lay 15 = .ok (.iload_n 2, 1) := by decide +kernel
theorem dX5_lay_16 : decode cX5_lay 16 = .ok (.iastore, 1) := by decide +kernel
theorem dX5_lay_17 : decode cX5_lay 17 = .ok (.aload_n 0, 1) := by decide +kernel
theorem dX5_lay_18 : decode cX5_lay 18 = .ok (.getfield 20, 3) := by decide +kernel
theorem dX5_lay_21 : decode cX5_lay 21 = .ok (.iload_n 1, 1) := by decide +kernel
theorem dX5_lay_22 : decode cX5_lay 22 = .ok (.iload_n 3, 1) := by decide +kernel
theorem dX5_lay_23 : decode cX5_lay 23 = .ok (.iastore, 1) := by decide +kernel
theorem dX5_lay_24 : decode cX5_lay 24 = .ok (.return_, 1) := by decide +kernel
theorem dX5_whyNot_0 : decode cX5_whyNot 0 = .ok (.iload_n 1, 1) := by decide +kernel
theorem dX5_whyNot_1 : decode cX5_whyNot 1 = .ok (.invokestatic 32, 3) := by decide +kernel
theorem dX5_whyNot_4 : decode cX5_whyNot 4 = .ok (.ifCond .ne 5, 3) := by decide +kernel
theorem dX5_whyNot_7 : decode cX5_whyNot 7 = .ok (.iconst 1, 1) := by decide +kernel
theorem dX5_whyNot_8 : decode cX5_whyNot 8 = .ok (.ireturn, 1) := by decide +kernel
theorem dX5_whyNot_9 : decode cX5_whyNot 9 = .ok (.aload_n 0, 1) := by decide +kernel
theorem dX5_whyNot_10 : decode cX5_whyNot 10 = .ok (.iload_n 1, 1) := by decide +kernel
theorem dX5_whyNot_11 : decode cX5_whyNot 11 = .ok (.invokevirtual 36, 3) := by decide +kernel
theorem dX5_whyNot_14 : decode cX5_whyNot 14 = .ok (.ifCond .eq 5, 3) := by decide +kernel
theorem dX5_whyNot_17 : decode cX5_whyNot 17 = .ok (.iconst 3, 1) := by decide +kernel
theorem dX5_whyNot_18 : decode cX5_whyNot 18 = .ok (.ireturn, 1) := by decide +kernel
theorem dX5_whyNot_19 : decode cX5_whyNot 19 = .ok (.aload_n 0, 1) := by decide +kernel
theorem dX5_whyNot_20 : decode cX5_whyNot 20 = .ok (.iload_n 1, 1) := by decide +kernel
theorem dX5_whyNot_21 : decode cX5_whyNot 21 = .ok (.iload_n 2, 1) := by decide +kernel
theorem dX5_whyNot_22 : decode cX5_whyNot 22 = .ok (.iload_n 3, 1) := by decide +kernel
theorem dX5_whyNot_23 : decode cX5_whyNot 23 = .ok (.invokevirtual 39, 3) := by decide +kernel
theorem dX5_whyNot_26 : decode cX5_whyNot 26 = .ok (.ifCond .eq 7, 3) := by decide +kernel
theorem dX5_whyNot_29 : decode cX5_whyNot 29 = .ok (.iconst 0, 1) := by decide +kernel
theorem dX5_whyNot_30 : decode cX5_whyNot 30 = .ok (.goto 4, 3) := by decide +kernel
theorem dX5_whyNot_33 : decode cX5_whyNot 33 = .ok (.iconst 4, 1) := by decide +kernel
theorem dX5_whyNot_34 : decode cX5_whyNot 34 = .ok (.ireturn, 1) := by decide +kernel
theorem dX5_put_0 : decode cX5_put 0 = .ok (.aload_n 0, 1) := by decide +kernel
theorem dX5_put_1 : decode cX5_put 1 = .ok (.getfield 16, 3) := by decide +kernel
theorem dX5_put_4 : decode cX5_put 4 = .ok (.iload_n 1, 1) := by decide +kernel
theorem dX5_put_5 : decode cX5_put 5 = .ok (.iaload, 1) := by decide +kernel
theorem dX5_put_6 : decode cX5_put 6 = .ok (.tableswitch 70 0 2 #[26, 41, 56], 26) := by decide +kernel
theorem dX5_put_32 : decode cX5_put 32 = .ok (.aload_n 0, 1) := by decide +kernel
theorem dX5_put_33 : decode cX5_put 33 = .ok (.getfield 11, 3) := by decide +kernel
theorem dX5_put_36 : decode cX5_put 36 = .ok (.iload_n 1, 1) := by decide +kernel
theorem dX5_put_37 : decode cX5_put 37 = .ok (.aaload, 1) := by decide +kernel
theorem dX5_put_38 : decode cX5_put 38 = .ok (.iload_n 2, 1) := by decide +kernel
theorem dX5_put_39 : decode cX5_put 39 = .ok (.lload_n 3, 1) := by decide +kernel
theorem dX5_put_40 : decode cX5_put 40 = .ok (.l2i, 1) := by decide +kernel
theorem dX5_put_41 : decode cX5_put 41 = .ok (.i2b, 1) := by decide +kernel
theorem dX5_put_42 : decode cX5_put 42 = .ok (.i2l, 1) := by decide +kernel
theorem dX5_put_43 : decode cX5_put 43 = .ok (.lastore, 1) := by decide +kernel
theorem dX5_put_44 : decode cX5_put 44 = .ok (.goto 41, 3) := by decide +kernel
theorem dX5_put_47 : decode cX5_put 47 = .ok (.aload_n 0, 1) := by decide +kernel
theorem dX5_put_48 : decode cX5_put 48 = .ok (.getfield 11, 3) := by decide +kernel
theorem dX5_put_51 : decode cX5_put 51 = .ok (.iload_n 1, 1) := by decide +kernel
theorem dX5_put_52 : decode cX5_put 52 = .ok (.aaload, 1) := by decide +kernel
theorem dX5_put_53 : decode cX5_put 53 = .ok (.iload_n 2, 1) := by decide +kernel
theorem dX5_put_54 : decode cX5_put 54 = .ok (.lload_n 3, 1) := by decide +kernel
theorem dX5_put_55 : decode cX5_put 55 = .ok (.l2i, 1) := by decide +kernel
theorem dX5_put_56 : decode cX5_put 56 = .ok (.i2s, 1) := by decide +kernel
theorem dX5_put_57 : decode cX5_put 57 = .ok (.i2l, 1) := by decide +kernel
theorem dX5_put_58 : decode cX5_put 58 = .ok (.lastore, 1) := by decide +kernel
theorem dX5_put_59 : decode cX5_put 59 = .ok (.goto 26, 3) := by decide +kernel
theorem dX5_put_62 : decode cX5_put 62 = .ok (.aload_n 0, 1) := by decide +kernel
theorem dX5_put_63 : decode cX5_put 63 = .ok (.getfield 11, 3) := by decide +kernel
theorem dX5_put_66 : decode cX5_put 66 = .ok (.iload_n 1, 1) := by decide +kernel
theorem dX5_put_67 : decode cX5_put 67 = .ok (.aaload, 1) := by decide +kernel
theorem dX5_put_68 : decode cX5_put 68 = .ok (.iload_n 2, 1) := by decide +kernel
theorem dX5_put_69 : decode cX5_put 69 = .ok (.lload_n 3, 1) := by decide +kernel
theorem dX5_put_70 : decode cX5_put 70 = .ok (.l2i, 1) := by decide +kernel
theorem dX5_put_71 : decode cX5_put 71 = .ok (.i2l, 1) := by decide +kernel
theorem dX5_put_72 : decode cX5_put 72 = .ok (.lastore, 1) := by decide +kernel
theorem dX5_put_73 : decode cX5_put 73 = .ok (.goto 12, 3) := by decide +kernel
theorem dX5_put_76 : decode cX5_put 76 = .ok (.aload_n 0, 1) := by decide +kernel
theorem dX5_put_77 : decode cX5_put 77 = .ok (.getfield 11, 3) := by decide +kernel
theorem dX5_put_80 : decode cX5_put 80 = .ok (.iload_n 1, 1) := by decide +kernel
theorem dX5_put_81 : decode cX5_put 81 = .ok (.aaload, 1) := by decide +kernel
theorem dX5_put_82 : decode cX5_put 82 = .ok (.iload_n 2, 1) := by decide +kernel
theorem dX5_put_83 : decode cX5_put 83 = .ok (.lload_n 3, 1) := by decide +kernel
theorem dX5_put_84 : decode cX5_put 84 = .ok (.lastore, 1) := by decide +kernel
theorem dX5_put_85 : decode cX5_put 85 = .ok (.return_, 1) := by decide +kernel
theorem dX5_whyNoTwos_0 : decode cX5_whyNoTwos 0 = .ok (.aload_n 0, 1) := by decide +kernel
theorem dX5_whyNoTwos_1 : decode cX5_whyNoTwos 1 = .ok (.iload_n 1, 1) := by decide +kernel
theorem dX5_whyNoTwos_2 : decode cX5_whyNoTwos 2 = .ok (.invokevirtual 36, 3) := by decide +kernel
theorem dX5_whyNoTwos_5 : decode cX5_whyNoTwos 5 = .ok (.ifCond .eq 5, 3) := by decide +kernel
theorem dX5_whyNoTwos_8 : decode cX5_whyNoTwos 8 = .ok (.iconst 3, 1) := by decide +kernel
theorem dX5_whyNoTwos_9 : decode cX5_whyNoTwos 9 = .ok (.ireturn, 1) := by decide +kernel
theorem dX5_whyNoTwos_10 : decode cX5_whyNoTwos 10 = .ok (.iload_n 2, 1) := by decide +kernel
theorem dX5_whyNoTwos_11 : decode cX5_whyNoTwos 11 = .ok (.aload_n 0, 1) := by decide +kernel
theorem dX5_whyNoTwos_12 : decode cX5_whyNoTwos 12 = .ok (.getfield 20, 3) := by decide +kernel
theorem dX5_whyNoTwos_15 : decode cX5_whyNoTwos 15 = .ok (.iload_n 1, 1) := by decide +kernel
theorem dX5_whyNoTwos_16 : decode cX5_whyNoTwos 16 = .ok (.iaload, 1) := by decide +kernel
theorem dX5_whyNoTwos_17 : decode cX5_whyNoTwos 17 = .ok (.iconst 2, 1) := by decide +kernel
theorem dX5_whyNoTwos_18 : decode cX5_whyNoTwos 18 = .ok (.idiv, 1) := by decide +kernel
theorem dX5_whyNoTwos_19 : decode cX5_whyNoTwos 19 = .ok (.if_icmp .le 5, 3) := by decide +kernel
theorem dX5_whyNoTwos_22 : decode cX5_whyNoTwos 22 = .ok (.iconst 4, 1) := by decide +kernel
theorem dX5_whyNoTwos_23 : decode cX5_whyNoTwos 23 = .ok (.ireturn, 1) := by decide +kernel
theorem dX5_whyNoTwos_24 : decode cX5_whyNoTwos 24 = .ok (.iload_n 2, 1) := by decide +kernel
theorem dX5_whyNoTwos_25 : decode cX5_whyNoTwos 25 = .ok (.ifCond .lt 9, 3) := by decide +kernel
theorem dX5_whyNoTwos_28 : decode cX5_whyNoTwos 28 = .ok (.iload_n 2, 1) := by decide +kernel
theorem dX5_whyNoTwos_29 : decode cX5_whyNoTwos 29 = .ok (.bipush 20, 2) := by decide +kernel
theorem dX5_whyNoTwos_31 : decode cX5_whyNoTwos 31 = .ok (.if_icmp .le 5, 3) := by decide +kernel
theorem dX5_whyNoTwos_34 : decode cX5_whyNoTwos 34 = .ok (.iconst 5, 1) := by decide +kernel
theorem dX5_whyNoTwos_35 : decode cX5_whyNoTwos 35 = .ok (.ireturn, 1) := by decide +kernel
theorem dX5_whyNoTwos_36 : decode cX5_whyNoTwos 36 = .ok (.iconst 0, 1) := by decide +kernel
theorem dX5_whyNoTwos_37 : decode cX5_whyNoTwos 37 = .ok (.istore_n 3, 1) := by decide +kernel
theorem dX5_whyNoTwos_38 : decode cX5_whyNoTwos 38 = .ok (.iload_n 3, 1) := by decide +kernel
theorem dX5_whyNoTwos_39 : decode cX5_whyNoTwos 39 = .ok (.iload_n 2, 1) := by decide +kernel
theorem dX5_whyNoTwos_40 : decode cX5_whyNoTwos 40 = .ok (.if_icmp .ge 69, 3) := by decide +kernel
theorem dX5_whyNoTwos_43 : decode cX5_whyNoTwos 43 = .ok (.aload_n 0, 1) := by decide +kernel
theorem dX5_whyNoTwos_44 : decode cX5_whyNoTwos 44 = .ok (.getfield 11, 3) := by decide +kernel
theorem dX5_whyNoTwos_47 : decode cX5_whyNoTwos 47 = .ok (.iload_n 1, 1) := by decide +kernel
theorem dX5_whyNoTwos_48 : decode cX5_whyNoTwos 48 = .ok (.aaload, 1) := by decide +kernel
theorem dX5_whyNoTwos_49 : decode cX5_whyNoTwos 49 = .ok (.iconst 2, 1) := by decide +kernel
theorem dX5_whyNoTwos_50 : decode cX5_whyNoTwos 50 = .ok (.iload_n 3, 1) := by decide +kernel
theorem dX5_whyNoTwos_51 : decode cX5_whyNoTwos 51 = .ok (.imul, 1) := by decide +kernel
theorem dX5_whyNoTwos_52 : decode cX5_whyNoTwos 52 = .ok (.laload, 1) := by decide +kernel
theorem dX5_whyNoTwos_53 : decode cX5_whyNoTwos 53 = .ok (.lstore 4, 2) := by decide +kernel
theorem dX5_whyNoTwos_55 : decode cX5_whyNoTwos 55 = .ok (.aload_n 0, 1) := by decide +kernel
theorem dX5_whyNoTwos_56 : decode cX5_whyNoTwos 56 = .ok (.getfield 11, 3) := by decide +kernel
theorem dX5_whyNoTwos_59 : decode cX5_whyNoTwos 59 = .ok (.iload_n 1, 1) := by decide +kernel
theorem dX5_whyNoTwos_60 : decode cX5_whyNoTwos 60 = .ok (.aaload, 1) := by decide +kernel
theorem dX5_whyNoTwos_61 : decode cX5_whyNoTwos 61 = .ok (.iconst 2, 1) := by decide +kernel
theorem dX5_whyNoTwos_62 : decode cX5_whyNoTwos 62 = .ok (.iload_n 3, 1) := by decide +kernel
theorem dX5_whyNoTwos_63 : decode cX5_whyNoTwos 63 = .ok (.imul, 1) := by decide +kernel
theorem dX5_whyNoTwos_64 : decode cX5_whyNoTwos 64 = .ok (.iconst 1, 1) := by decide +kernel
theorem dX5_whyNoTwos_65 : decode cX5_whyNoTwos 65 = .ok (.iadd, 1) := by decide +kernel
theorem dX5_whyNoTwos_66 : decode cX5_whyNoTwos 66 = .ok (.laload, 1) := by decide +kernel
theorem dX5_whyNoTwos_67 : decode cX5_whyNoTwos 67 = .ok (.lstore 6, 2) := by decide +kernel
theorem dX5_whyNoTwos_69 : decode cX5_whyNoTwos 69 = .ok (.lload 4, 2) := by decide +kernel
theorem dX5_whyNoTwos_71 : decode cX5_whyNoTwos 71 = .ok (.lconst 0, 1) := by decide +kernel
theorem dX5_whyNoTwos_72 : decode cX5_whyNoTwos 72 = .ok (.lcmp, 1) := by decide +kernel
theorem dX5_whyNoTwos_73 : decode cX5_whyNoTwos 73 = .ok (.ifCond .lt 28, 3) := by decide +kernel
theorem dX5_whyNoTwos_76 : decode cX5_whyNoTwos 76 = .ok (.lload 4, 2) := by decide +kernel
theorem dX5_whyNoTwos_78 : decode cX5_whyNoTwos 78 = .ok (.ldc2_w 43, 3) := by decide +kernel
theorem dX5_whyNoTwos_81 : decode cX5_whyNoTwos 81 = .ok (.lcmp, 1) := by decide +kernel
theorem dX5_whyNoTwos_82 : decode cX5_whyNoTwos 82 = .ok (.ifCond .gt 19, 3) := by decide +kernel
theorem dX5_whyNoTwos_85 : decode cX5_whyNoTwos 85 = .ok (.lload 6, 2) := by decide +kernel
theorem dX5_whyNoTwos_87 : decode cX5_whyNoTwos 87 = .ok (.lconst 0, 1) := by decide +kernel
theorem dX5_whyNoTwos_88 : decode cX5_whyNoTwos 88 = .ok (.lcmp, 1) := by decide +kernel
theorem dX5_whyNoTwos_89 : decode cX5_whyNoTwos 89 = .ok (.ifCond .lt 12, 3) := by decide +kernel
theorem dX5_whyNoTwos_92 : decode cX5_whyNoTwos 92 = .ok (.lload 6, 2) := by decide +kernel
theorem dX5_whyNoTwos_94 : decode cX5_whyNoTwos 94 = .ok (.ldc2_w 45, 3) := by decide +kernel
theorem dX5_whyNoTwos_97 : decode cX5_whyNoTwos 97 = .ok (.lcmp, 1) := by decide +kernel
theorem dX5_whyNoTwos_98 : decode cX5_whyNoTwos 98 = .ok (.ifCond .le 5, 3) := by decide +kernel
theorem dX5_whyNoTwos_101 : decode cX5_whyNoTwos 101 = .ok (.iconst 5, 1) := by decide +kernel
theorem dX5_whyNoTwos_102 : decode cX5_whyNoTwos 102 = .ok (.ireturn, 1) := by decide +kernel
theorem dX5_whyNoTwos_103 : decode cX5_whyNoTwos 103 = .ok (.iinc 3 1, 3) := by decide +kernel
theorem dX5_whyNoTwos_106 : decode cX5_whyNoTwos 106 = .ok (.goto (-68), 3) := by decide +kernel
theorem dX5_whyNoTwos_109 : decode cX5_whyNoTwos 109 = .ok (.iconst 0, 1) := by decide +kernel
theorem dX5_whyNoTwos_110 : decode cX5_whyNoTwos 110 = .ok (.ireturn, 1) := by decide +kernel
theorem dX6_init_0 : decode cX6_init 0 = .ok (.aload_n 0, 1) := by decide +kernel
theorem dX6_init_1 : decode cX6_init 1 = .ok (.invokespecial 3, 3) := by decide +kernel
theorem dX6_init_4 : decode cX6_init 4 = .ok (.aload_n 0, 1) := by decide +kernel
theorem dX6_init_5 : decode cX6_init 5 = .ok (.iconst 4, 1) := by decide +kernel
theorem dX6_init_6 : decode cX6_init 6 = .ok (.putfield 9, 3) := by decide +kernel
theorem dX6_init_9 : decode cX6_init 9 = .ok (.aload_n 0, 1) := by decide +kernel
theorem dX6_init_10 : decode cX6_init 10 = .ok (.bipush 6, 2) := by decide +kernel
theorem dX6_init_12 : decode cX6_init 12 = .ok (.newarray .long, 2) := by decide +kernel
theorem dX6_init_14 : decode cX6_init 14 = .ok (.putfield 15, 3) := by decide +kernel
theorem dX6_init_17 : decode cX6_init 17 = .ok (.aload_n 0, 1) := by decide +kernel
theorem dX6_init_18 : decode cX6_init 18 = .ok (.bipush 6, 2) := by decide +kernel
theorem dX6_init_20 : decode cX6_init 20 = .ok (.newarray .int, 2) := by decide +kernel
theorem dX6_init_22 : decode cX6_init 22 = .ok (.putfield 19, 3) := by decide +kernel
theorem dX6_init_25 : decode cX6_init 25 = .ok (.aload_n 0, 1) := by decide +kernel
theorem dX6_init_26 : decode cX6_init 26 = .ok (.bipush 6, 2) := by decide +kernel
theorem dX6_init_28 : decode cX6_init 28 = .ok (.newarray .int, 2) := by decide +kernel
theorem dX6_init_30 : decode cX6_init 30 = .ok (.putfield 23, 3) := by decide +kernel
theorem dX6_init_33 : decode cX6_init 33 = .ok (.aload_n 0, 1) := by decide +kernel
theorem dX6_init_34 : decode cX6_init 34 = .ok (.bipush 10, 2) := by decide +kernel
theorem dX6_init_36 : decode cX6_init 36 = .ok (.newarray .int, 2) := by decide +kernel
theorem dX6_init_38 : decode cX6_init 38 = .ok (.putfield 26, 3) := by decide +kernel
theorem dX6_init_41 : decode cX6_init 41 = .ok (.aload_n 0, 1) := by decide +kernel
theorem dX6_init_42 : decode cX6_init 42 = .ok (.bipush 10, 2) := by decide +kernel
theorem dX6_init_44 : decode cX6_init 44 = .ok (.newarray .int, 2) := by decide +kernel
theorem dX6_init_46 : decode cX6_init 46 = .ok (.putfield 29, 3) := by decide +kernel
theorem dX6_init_49 : decode cX6_init 49 = .ok (.aload_n 0, 1) := by decide +kernel
theorem dX6_init_50 : decode cX6_init 50 = .ok (.bipush 7, 2) := by decide +kernel
theorem dX6_init_52 : decode cX6_init 52 = .ok (.newarray .long, 2) := by decide +kernel
theorem dX6_init_54 : decode cX6_init 54 = .ok (.putfield 32, 3) := by decide +kernel
theorem dX6_init_57 : decode cX6_init 57 = .ok (.aload_n 0, 1) := by decide +kernel
theorem dX6_init_58 : decode cX6_init 58 = .ok (.bipush 7, 2) := by decide +kernel
theorem dX6_init_60 : decode cX6_init 60 = .ok (.newarray .int, 2) := by decide +kernel
theorem dX6_init_62 : decode cX6_init 62 = .ok (.putfield 35, 3) := by decide +kernel
theorem dX6_init_65 : decode cX6_init 65 = .ok (.aload_n 0, 1) := by decide +kernel
theorem dX6_init_66 : decode cX6_init 66 = .ok (.bipush 7, 2) := by decide +kernel
theorem dX6_init_68 : decode cX6_init 68 = .ok (.newarray .int, 2) := by decide +kernel
theorem dX6_init_70 : decode cX6_init 70 = .ok (.putfield 38, 3) := by decide +kernel
theorem dX6_init_73 : decode cX6_init 73 = .ok (.aload_n 0, 1) := by decide +kernel
theorem dX6_init_74 : decode cX6_init 74 = .ok (.bipush 7, 2) := by decide +kernel
theorem dX6_init_76 : decode cX6_init 76 = .ok (.newarray .int, 2) := by decide +kernel
theorem dX6_init_78 : decode cX6_init 78 = .ok (.putfield 41, 3) := by decide +kernel
theorem dX6_init_81 : decode cX6_init 81 = .ok (.aload_n 0, 1) := by decide +kernel
theorem dX6_init_82 : decode cX6_init 82 = .ok (.bipush 7, 2) := by decide +kernel
theorem dX6_init_84 : decode cX6_init 84 = .ok (.newarray .int, 2) := by decide +kernel
theorem dX6_init_86 : decode cX6_init 86 = .ok (.putfield 44, 3) := by decide +kernel
theorem dX6_init_89 : decode cX6_init 89 = .ok (.aload_n 0, 1) := by decide +kernel
theorem dX6_init_90 : decode cX6_init 90 = .ok (.bipush 8, 2) := by decide +kernel
theorem dX6_init_92 : decode cX6_init 92 = .ok (.newarray .int, 2) := by decide +kernel
theorem dX6_init_94 : decode cX6_init 94 = .ok (.putfield 47, 3) := by decide +kernel
theorem dX6_init_97 : decode cX6_init 97 = .ok (.aload_n 0, 1) := by decide +kernel
theorem dX6_init_98 : decode cX6_init 98 = .ok (.bipush 8, 2) := by decide +kernel
theorem dX6_init_100 : decode cX6_init 100 = .ok (.newarray .int, 2) := by decide +kernel
theorem dX6_init_102 : decode cX6_init 102 = .ok (.putfield 50, 3) := by decide +kernel
theorem dX6_init_105 : decode cX6_init 105 = .ok (.aload_n 0, 1) := by decide +kernel
theorem dX6_init_106 : decode cX6_init 106 = .ok (.new 53, 3) := by decide +kernel
theorem dX6_init_109 : decode cX6_init 109 = .ok (.dup, 1) := by decide +kernel
theorem dX6_init_110 : decode cX6_init 110 = .ok (.invokespecial 55, 3) := by decide +kernel
theorem dX6_init_113 : decode cX6_init 113 = .ok (.putfield 56, 3) := by decide +kernel
theorem dX6_init_116 : decode cX6_init 116 = .ok (.return_, 1) := by decide +kernel
theorem dX6_makeEmpty_0 : decode cX6_makeEmpty 0 = .ok (.aload_n 0, 1) := by decide +kernel
theorem dX6_makeEmpty_1 : decode cX6_makeEmpty 1 = .ok (.iconst 4, 1) := by decide +kernel
theorem dX6_makeEmpty_2 : decode cX6_makeEmpty 2 = .ok (.putfield 9, 3) := by decide +kernel
theorem dX6_makeEmpty_5 : decode cX6_makeEmpty 5 = .ok (.aload_n 0, 1) := by decide +kernel
theorem dX6_makeEmpty_6 : decode cX6_makeEmpty 6 = .ok (.iconst 0, 1) := by decide +kernel
theorem dX6_makeEmpty_7 : decode cX6_makeEmpty 7 = .ok (.putfield 60, 3) := by decide +kernel
theorem dX6_makeEmpty_10 : decode cX6_makeEmpty 10 = .ok (.aload_n 0, 1) := by decide +kernel
theorem dX6_makeEmpty_11 : decode cX6_makeEmpty 11 = .ok (.iconst 0, 1) := by decide +kernel
theorem dX6_makeEmpty_12 : decode cX6_makeEmpty 12 = .ok (.putfield 63, 3) := by decide +kernel
theorem dX6_makeEmpty_15 : decode cX6_makeEmpty 15 = .ok (.aload_n 0, 1) := by decide +kernel
theorem dX6_makeEmpty_16 : decode cX6_makeEmpty 16 = .ok (.iconst 0, 1) := by decide +kernel
theorem dX6_makeEmpty_17 : decode cX6_makeEmpty 17 = .ok (.putfield 66, 3) := by decide +kernel
theorem dX6_makeEmpty_20 : decode cX6_makeEmpty 20 = .ok (.aload_n 0, 1) := by decide +kernel
theorem dX6_makeEmpty_21 : decode cX6_makeEmpty 21 = .ok (.iconst 0, 1) := by decide +kernel
theorem dX6_makeEmpty_22 : decode cX6_makeEmpty 22 = .ok (.putfield 69, 3) := by decide +kernel
theorem dX6_makeEmpty_25 : decode cX6_makeEmpty 25 = .ok (.aload_n 0, 1) := by decide +kernel
theorem dX6_makeEmpty_26 : decode cX6_makeEmpty 26 = .ok (.iconst 0, 1) := by decide +kernel
theorem dX6_makeEmpty_27 : decode cX6_makeEmpty 27 = .ok (.putfield 72, 3) := by decide +kernel
theorem dX6_makeEmpty_30 : decode cX6_makeEmpty 30 = .ok (.aload_n 0, 1) := by decide +kernel
theorem dX6_makeEmpty_31 : decode cX6_makeEmpty 31 = .ok (.iconst 0, 1) := by decide +kernel
theorem dX6_makeEmpty_32 : decode cX6_makeEmpty 32 = .ok (.putfield 75, 3) := by decide +kernel
theorem dX6_makeEmpty_35 : decode cX6_makeEmpty 35 = .ok (.aload_n 0, 1) := by decide +kernel
theorem dX6_makeEmpty_36 : decode cX6_makeEmpty 36 = .ok (.getfield 56, 3) := by decide +kernel
theorem dX6_makeEmpty_39 : decode cX6_makeEmpty 39 = .ok (.invokevirtual 78, 3) := by decide +kernel
theorem dX6_makeEmpty_42 : decode cX6_makeEmpty 42 = .ok (.return_, 1) := by decide +kernel
theorem dX6_takeFrom_0 : decode cX6_takeFrom 0 = .ok (.aload_n 0, 1) := by decide +kernel
theorem dX6_takeFrom_1 : decode cX6_takeFrom 1 = .ok (.aload_n 1, 1) := by decide +kernel
theorem dX6_takeFrom_2 : decode cX6_takeFrom 2 = .ok (.getfield 9, 3) := by decide +kernel
theorem dX6_takeFrom_5 : decode cX6_takeFrom 5 = .ok (.putfield 9, 3) := by decide +kernel
theorem dX6_takeFrom_8 : decode cX6_takeFrom 8 = .ok (.aload_n 0, 1) := by decide +kernel
theorem dX6_takeFrom_9 : decode cX6_takeFrom 9 = .ok (.aload_n 1, 1) := by decide +kernel
theorem dX6_takeFrom_10 : decode cX6_takeFrom 10 = .ok (.getfield 60, 3) := by decide +kernel
theorem dX6_takeFrom_13 : decode cX6_takeFrom 13 = .ok (.putfield 60, 3) := by decide +kernel
theorem dX6_takeFrom_16 : decode cX6_takeFrom 16 = .ok (.aload_n 0, 1) := by decide +kernel
theorem dX6_takeFrom_17 : decode cX6_takeFrom 17 = .ok (.aload_n 1, 1) := by decide +kernel
theorem dX6_takeFrom_18 : decode cX6_takeFrom 18 = .ok (.getfield 63, 3) := by decide +kernel
theorem dX6_takeFrom_21 : decode cX6_takeFrom 21 = .ok (.putfield 63, 3) := by decide +kernel
theorem dX6_takeFrom_24 : decode cX6_takeFrom 24 = .ok (.aload_n 0, 1) := by decide +kernel
theorem dX6_takeFrom_25 : decode cX6_takeFrom 25 = .ok (.aload_n 1, 1) := by decide +kernel
theorem dX6_takeFrom_26 : decode cX6_takeFrom 26 = .ok (.getfield 66, 3) := by decide +kernel
theorem dX6_takeFrom_29 : decode cX6_takeFrom 29 = .ok (.putfield 66, 3) := by decide +kernel
theorem dX6_takeFrom_32 : decode cX6_takeFrom 32 = .ok (.aload_n 0, 1) := by decide +kernel
theorem dX6_takeFrom_33 : decode cX6_takeFrom 33 = .ok (.aload_n 1, 1) := by decide +kernel
theorem dX6_takeFrom_34 : decode cX6_takeFrom 34 = .ok (.getfield 69, 3) := by decide +kernel
theorem dX6_takeFrom_37 : decode cX6_takeFrom 37 = .ok (.putfield 69, 3) := by decide +kernel
theorem dX6_takeFrom_40 : decode cX6_takeFrom 40 = .ok (.aload_n 0, 1) := by decide +kernel
theorem dX6_takeFrom_41 : decode cX6_takeFrom 41 = .ok (.aload_n 1, 1) := by decide +kernel
theorem dX6_takeFrom_42 : decode cX6_takeFrom 42 = .ok (.getfield 72, 3) := by decide +kernel
theorem dX6_takeFrom_45 : decode cX6_takeFrom 45 = .ok (.putfield 72, 3) := by decide +kernel
theorem dX6_takeFrom_48 : decode cX6_takeFrom 48 = .ok (.aload_n 0, 1) := by decide +kernel
theorem dX6_takeFrom_49 : decode cX6_takeFrom 49 = .ok (.aload_n 1, 1) := by decide +kernel
theorem dX6_takeFrom_50 : decode cX6_takeFrom 50 = .ok (.getfield 75, 3) := by decide +kernel
theorem dX6_takeFrom_53 : decode cX6_takeFrom 53 = .ok (.putfield 75, 3) := by decide +kernel
theorem dX6_takeFrom_56 : decode cX6_takeFrom 56 = .ok (.aload_n 1, 1) := by decide +kernel
theorem dX6_takeFrom_57 : decode cX6_takeFrom 57 = .ok (.getfield 15, 3) := by decide +kernel
theorem dX6_takeFrom_60 : decode cX6_takeFrom 60 = .ok (.iconst 0, 1) := by decide +kernel
theorem dX6_takeFrom_61 : decode cX6_takeFrom 61 = .ok (.aload_n 0, 1) := by decide +kernel
theorem dX6_takeFrom_62 : decode cX6_takeFrom 62 = .ok (.getfield 15, 3) := by decide +kernel
theorem dX6_takeFrom_65 : decode cX6_takeFrom 65 = .ok (.iconst 0, 1) := by decide +kernel
theorem dX6_takeFrom_66 : decode cX6_takeFrom 66 = .ok (.bipush 6, 2) := by decide +kernel
theorem dX6_takeFrom_68 : decode cX6_takeFrom 68 = .ok (.invokestatic 81, 3) := by decide +kernel
theorem dX6_takeFrom_71 : decode cX6_takeFrom 71 = .ok (.aload_n 1, 1) := by decide +kernel
theorem dX6_takeFrom_72 : decode cX6_takeFrom 72 = .ok (.getfield 19, 3) := by decide +kernel
theorem dX6_takeFrom_75 : decode cX6_takeFrom 75 = .ok (.iconst 0, 1) := by decide +kernel
theorem dX6_takeFrom_76 : decode cX6_takeFrom 76 = .ok (.aload_n 0, 1) := by decide +kernel
theorem dX6_takeFrom_77 : decode cX6_takeFrom 77 = .ok (.getfield 19, 3) := by decide +kernel
theorem dX6_takeFrom_80 : decode cX6_takeFrom 80 = .ok (.iconst 0, 1) := by decide +kernel
theorem dX6_takeFrom_81 : decode cX6_takeFrom 81 = .ok (.bipush 6, 2) := by decide +kernel
theorem dX6_takeFrom_83 : decode cX6_takeFrom 83 = .ok (.invokestatic 81, 3) := by decide +kernel
theorem dX6_takeFrom_86 : decode cX6_takeFrom 86 = .ok (.aload_n 1, 1) := by decide +kernel
theorem dX6_takeFrom_87 : decode cX6_takeFrom 87 = .ok (.getfield 23, 3) := by decide +kernel
theorem dX6_takeFrom_90 : decode cX6_takeFrom 90 = .ok (.iconst 0, 1) := by decide +kernel
theorem dX6_takeFrom_91 : decode cX6_takeFrom 91 = .ok (.aload_n 0, 1) := by decide +kernel
theorem dX6_takeFrom_92 : decode cX6_takeFrom 92 = .ok (.getfield 23, 3) := by decide +kernel
theorem dX6_takeFrom_95 : decode cX6_takeFrom 95 = .ok (.iconst 0, 1) := by decide +kernel
theorem dX6_takeFrom_96 : decode cX6_takeFrom 96 = .ok (.bipush 6, 2) := by decide +kernel
theorem dX6_takeFrom_98 : decode cX6_takeFrom 98 = .ok (.invokestatic 81, 3) := by decide +kernel
theorem dX6_takeFrom_101 : decode cX6_takeFrom 101 = .ok (.aload_n 1, 1) := by decide +kernel
theorem dX6_takeFrom_102 : decode cX6_takeFrom 102 = .ok (.getfield 26, 3) := by decide +kernel
theorem dX6_takeFrom_105 : decode cX6_takeFrom 105 = .ok (.iconst 0, 1) := by decide +kernel
theorem dX6_takeFrom_106 : decode cX6_takeFrom 106 = .ok (.aload_n 0, 1) := by decide +kernel
theorem dX6_takeFrom_107 : decode cX6_takeFrom 107 = .ok (.getfield 26, 3) := by decide +kernel
theorem dX6_takeFrom_110 : decode cX6_takeFrom 110 = .ok (.iconst 0, 1) := by decide +kernel
theorem dX6_takeFrom_111 : decode cX6_takeFrom 111 = .ok (.bipush 10, 2) := by decide +kernel
theorem dX6_takeFrom_113 : decode cX6_takeFrom 113 = .ok (.invokestatic 81, 3) := by decide +kernel
theorem dX6_takeFrom_116 : decode cX6_takeFrom 116 = .ok (.aload_n 1, 1) := by decide +kernel
theorem dX6_takeFrom_117 : decode cX6_takeFrom 117 = .ok (.getfield 29, 3) := by decide +kernel
theorem dX6_takeFrom_120 : decode cX6_takeFrom 120 = .ok (.iconst 0, 1) := by decide +kernel
theorem dX6_takeFrom_121 : decode cX6_takeFrom 121 = .ok (.aload_n 0, 1) := by decide +kernel
theorem dX6_takeFrom_122 : decode cX6_takeFrom 122 = .ok (.getfield 29, 3) := by decide +kernel
theorem dX6_takeFrom_125 : decode cX6_takeFrom 125 = .ok (.iconst 0, 1) := by decide +kernel
theorem dX6_takeFrom_126 : decode cX6_takeFrom 126 = .ok (.bipush 10, 2) := by decide +kernel
theorem dX6_takeFrom_128 : decode cX6_takeFrom 128 = .ok (.invokestatic 81, 3) := by decide +kernel
theorem dX6_takeFrom_131 : decode cX6_takeFrom 131 = .ok (.aload_n 1, 1) := by decide +kernel
theorem dX6_takeFrom_132 : decode cX6_takeFrom 132 = .ok (.getfield 32, 3) := by decide +kernel
theorem dX6_takeFrom_135 : decode cX6_takeFrom 135 = .ok (.iconst 0, 1) := by decide +kernel
theorem dX6_takeFrom_136 : decode cX6_takeFrom 136 = .ok (.aload_n 0, 1) := by decide +kernel
theorem dX6_takeFrom_137 : decode cX6_takeFrom 137 = .ok (.getfield 32, 3) := by decide +kernel
theorem dX6_takeFrom_140 : decode cX6_takeFrom 140 = .ok (.iconst 0, 1) := by decide +kernel
theorem dX6_takeFrom_141 : decode cX6_takeFrom 141 = .ok (.bipush 7, 2) := by decide +kernel
theorem dX6_takeFrom_143 : decode cX6_takeFrom 143 = .ok (.invokestatic 81, 3) := by decide +kernel
theorem dX6_takeFrom_146 : decode cX6_takeFrom 146 = .ok (.aload_n 1, 1) := by decide +kernel
theorem dX6_takeFrom_147 : decode cX6_takeFrom 147 = .ok (.getfield 35, 3) := by decide +kernel
theorem dX6_takeFrom_150 : decode cX6_takeFrom 150 = .ok (.iconst 0, 1) := by decide +kernel
theorem dX6_takeFrom_151 : decode cX6_takeFrom 151 = .ok (.aload_n 0, 1) := by decide +kernel
theorem dX6_takeFrom_152 : decode cX6_takeFrom 152 = .ok (.getfield 35, 3) := by decide +kernel
theorem dX6_takeFrom_155 : decode cX6_takeFrom 155 = .ok (.iconst 0, 1) := by decide +kernel
theorem dX6_takeFrom_156 : decode cX6_takeFrom 156 = .ok (.bipush 7, 2) := by decide +kernel
theorem dX6_takeFrom_158 : decode cX6_takeFrom 158 = .ok (.invokestatic 81, 3) := by decide +kernel
theorem dX6_takeFrom_161 : decode cX6_takeFrom 161 = .ok (.aload_n 1, 1) := by decide +kernel
theorem dX6_takeFrom_162 : decode cX6_takeFrom 162 = .ok (.getfield 38, 3) := by decide +kernel
theorem dX6_takeFrom_165 : decode cX6_takeFrom 165 = .ok (.iconst 0, 1) := by decide +kernel
theorem dX6_takeFrom_166 : decode cX6_takeFrom 166 = .ok (.aload_n 0, 1) := by decide +kernel
theorem dX6_takeFrom_167 : decode cX6_takeFrom 167 = .ok (.getfield 38, 3) := by decide +kernel
theorem dX6_takeFrom_170 : decode cX6_takeFrom 170 = .ok (.iconst 0, 1) := by decide +kernel
theorem dX6_takeFrom_171 : decode cX6_takeFrom 171 = .ok (.bipush 7, 2) := by decide +kernel
theorem dX6_takeFrom_173 : decode cX6_takeFrom 173 = .ok (.invokestatic 81, 3) := by decide +kernel
theorem dX6_takeFrom_176 : decode cX6_takeFrom 176 = .ok (.aload_n 1, 1) := by decide +kernel
theorem dX6_takeFrom_177 : decode cX6_takeFrom 177 = .ok (.getfield 41, 3) := by decide +kernel
theorem dX6_takeFrom_180 : decode cX6_takeFrom 180 = .ok (.iconst 0, 1) := by decide +kernel
theorem dX6_takeFrom_181 : decode cX6_takeFrom 181 = .ok (.aload_n 0, 1) := by decide +kernel
theorem dX6_takeFrom_182 : decode cX6_takeFrom 182 = .ok (.getfield 41, 3) := by decide +kernel
theorem dX6_takeFrom_185 : decode cX6_takeFrom 185 = .ok (.iconst 0, 1) := by decide +kernel
theorem dX6_takeFrom_186 : decode cX6_takeFrom 186 = .ok (.bipush 7, 2) := by decide +kernel
theorem dX6_takeFrom_188 : decode cX6_takeFrom 188 = .ok (.invokestatic 81, 3) := by decide +kernel
theorem dX6_takeFrom_191 : decode cX6_takeFrom 191 = .ok (.aload_n 1, 1) := by decide +kernel
theorem dX6_takeFrom_192 : decode cX6_takeFrom 192 = .ok (.getfield 44, 3) := by decide +kernel
theorem dX6_takeFrom_195 : decode cX6_takeFrom 195 = .ok (.iconst 0, 1) := by decide +kernel
theorem dX6_takeFrom_196 : decode cX6_takeFrom 196 = .ok (.aload_n 0, 1) := by decide +kernel
theorem dX6_takeFrom_197 : decode cX6_takeFrom 197 = .ok (.getfield 44, 3) := by decide +kernel
theorem dX6_takeFrom_200 : decode cX6_takeFrom 200 = .ok (.iconst 0, 1) := by decide +kernel
theorem dX6_takeFrom_201 : decode cX6_takeFrom 201 = .ok (.bipush 7, 2) := by decide +kernel
theorem dX6_takeFrom_203 : decode cX6_takeFrom 203 = .ok (.invokestatic 81, 3) := by decide +kernel
theorem dX6_takeFrom_206 : decode cX6_takeFrom 206 = .ok (.aload_n 1, 1) := by decide +kernel
theorem dX6_takeFrom_207 : decode cX6_takeFrom 207 = .ok (.getfield 47, 3) := by decide +kernel
theorem dX6_takeFrom_210 : decode cX6_takeFrom 210 = .ok (.iconst 0, 1) := by decide +kernel
theorem dX6_takeFrom_211 : decode cX6_takeFrom 211 = .ok (.aload_n 0, 1) := by decide +kernel
theorem dX6_takeFrom_212 : decode cX6_takeFrom 212 = .ok (.getfield 47, 3) := by decide +kernel
theorem dX6_takeFrom_215 : decode cX6_takeFrom 215 = .ok (.iconst 0, 1) := by decide +kernel
theorem dX6_takeFrom_216 : decode cX6_takeFrom 216 = .ok (.bipush 8, 2) := by decide +kernel
theorem dX6_takeFrom_218 : decode cX6_takeFrom 218 = .ok (.invokestatic 81, 3) := by decide +kernel
theorem dX6_takeFrom_221 : decode cX6_takeFrom 221 = .ok (.aload_n 1, 1) := by decide +kernel
theorem dX6_takeFrom_222 : decode cX6_takeFrom 222 = .ok (.getfield 50, 3) := by decide +kernel
theorem dX6_takeFrom_225 : decode cX6_takeFrom 225 = .ok (.iconst 0, 1) := by decide +kernel
theorem dX6_takeFrom_226 : decode cX6_takeFrom 226 = .ok (.aload_n 0, 1) := by decide +kernel
theorem dX6_takeFrom_227 : decode cX6_takeFrom 227 = .ok (.getfield 50, 3) := by decide +kernel
theorem dX6_takeFrom_230 : decode cX6_takeFrom 230 = .ok (.iconst 0, 1) := by decide +kernel
theorem dX6_takeFrom_231 : decode cX6_takeFrom 231 = .ok (.bipush 8, 2) := by decide +kernel
theorem dX6_takeFrom_233 : decode cX6_takeFrom 233 = .ok (.invokestatic 81, 3) := by decide +kernel
theorem dX6_takeFrom_236 : decode cX6_takeFrom 236 = .ok (.aload_n 0, 1) := by decide +kernel
theorem dX6_takeFrom_237 : decode cX6_takeFrom 237 = .ok (.getfield 56, 3) := by decide +kernel
theorem dX6_takeFrom_240 : decode cX6_takeFrom 240 = .ok (.aload_n 1, 1) := by decide +kernel
theorem dX6_takeFrom_241 : decode cX6_takeFrom 241 = .ok (.getfield 56, 3) := by decide +kernel
theorem dX6_takeFrom_244 : decode cX6_takeFrom 244 = .ok (.invokevirtual 87, 3) := by decide +kernel
theorem dX6_takeFrom_247 : decode cX6_takeFrom 247 = .ok (.return_, 1) := by decide +kernel
theorem dX6_hasMatter_0 : decode cX6_hasMatter 0 = .ok (.iload_n 1, 1) := by decide +kernel
theorem dX6_hasMatter_1 : decode cX6_hasMatter 1 = .ok (.ifCond .lt 15, 3) := by decide +kernel
theorem dX6_hasMatter_4 : decode cX6_hasMatter 4 = .ok (.iload_n 1, 1) := by decide +kernel
theorem dX6_hasMatter_5 : decode cX6_hasMatter 5 = .ok (.aload_n 0, 1) := by decide +kernel
theorem dX6_hasMatter_6 : decode cX6_hasMatter 6 = .ok (.getfield 63, 3) := by decide +kernel
theorem dX6_hasMatter_9 : decode cX6_hasMatter 9 = .ok (.if_icmp .ge 7, 3) := by decide +kernel
theorem dX6_hasMatter_12 : decode cX6_hasMatter 12 = .ok (.iconst 1, 1) := by decide +kernel
theorem dX6_hasMatter_13 : decode cX6_hasMatter 13 = .ok (.goto 4, 3) := by decide +kernel
theorem dX6_hasMatter_16 : decode cX6_hasMatter 16 = .ok (.iconst 0, 1) := by decide +kernel
theorem dX6_hasMatter_17 : decode cX6_hasMatter 17 = .ok (.ireturn, 1) := by decide +kernel
theorem dX6_hasHold_0 : decode cX6_hasHold 0 = .ok (.iload_n 1, 1) := by decide +kernel
theorem dX6_hasHold_1 : decode cX6_hasHold 1 = .ok (.ifCond .lt 15, 3) := by decide +kernel
theorem dX6_hasHold_4 : decode cX6_hasHold 4 = .ok (.iload_n 1, 1) := by decide +kernel
theorem dX6_hasHold_5 : decode cX6_hasHold 5 = .ok (.aload_n 0, 1) := by decide +kernel
theorem dX6_hasHold_6 : decode cX6_hasHold 6 = .ok (.getfield 66, 3) := by decide +kernel
theorem dX6_hasHold_9 : decode cX6_hasHold 9 = .ok (.if_icmp .ge 7, 3) := by decide +kernel
theorem dX6_hasHold_12 : decode cX6_hasHold 12 = .ok (.iconst 1, 1) := by decide +kernel
theorem dX6_hasHold_13 : decode cX6_hasHold 13 = .ok (.goto 4, 3) := by decide +kernel
theorem dX6_hasHold_16 : decode cX6_hasHold 16 = .ok (.iconst 0, 1) := by decide +kernel
theorem dX6_hasHold_17 : decode cX6_hasHold 17 = .ok (.ireturn, 1) := by decide +kernel
theorem dX6_hasSitter_0 : decode cX6_hasSitter 0 = .ok (.iload_n 1, 1) := by decide +kernel
theorem dX6_hasSitter_1 : decode cX6_hasSitter 1 = .ok (.ifCond .lt 15, 3) := by decide +kernel
theorem dX6_hasSitter_4 : decode cX6_hasSitter 4 = .ok (.iload_n 1, 1) := by decide +kernel
theorem dX6_hasSitter_5 : decode cX6_hasSitter 5 = .ok (.aload_n 0, 1) := by decide +kernel
theorem dX6_hasSitter_6 : decode cX6_hasSitter 6 = .ok (.getfield 69, 3) := by decide +kernel
theorem dX6_hasSitter_9 : decode cX6_hasSitter 9 = .ok (.if_icmp .ge 7, 3) := by decide +kernel
theorem dX6_hasSitter_12 : decode cX6_hasSitter 12 = .ok (.iconst 1, 1) := by decide +kernel
theorem dX6_hasSitter_13 : decode cX6_hasSitter 13 = .ok (.goto 4, 3) := by decide +kernel
theorem dX6_hasSitter_16 : decode cX6_hasSitter 16 = .ok (.iconst 0, 1) := by decide +kernel
theorem dX6_hasSitter_17 : decode cX6_hasSitter 17 = .ok (.ireturn, 1) := by decide +kernel
theorem dX6_hasNews_0 : decode cX6_hasNews 0 = .ok (.iload_n 1, 1) := by decide +kernel
theorem dX6_hasNews_1 : decode cX6_hasNews 1 = .ok (.ifCond .lt 15, 3) := by decide +kernel
theorem dX6_hasNews_4 : decode cX6_hasNews 4 = .ok (.iload_n 1, 1) := by decide +kernel
theorem dX6_hasNews_5 : decode cX6_hasNews 5 = .ok (.aload_n 0, 1) := by decide +kernel
theorem dX6_hasNews_6 : decode cX6_hasNews 6 = .ok (.getfield 72, 3) := by decide +kernel
theorem dX6_hasNews_9 : decode cX6_hasNews 9 = .ok (.if_icmp .ge 7, 3) := by decide +kernel
theorem dX6_hasNews_12 : decode cX6_hasNews 12 = .ok (.iconst 1, 1) := by decide +kernel
theorem dX6_hasNews_13 : decode cX6_hasNews 13 = .ok (.goto 4, 3) := by decide +kernel
theorem dX6_hasNews_16 : decode cX6_hasNews 16 = .ok (.iconst 0, 1) := by decide +kernel
theorem dX6_hasNews_17 : decode cX6_hasNews 17 = .ok (.ireturn, 1) := by decide +kernel
theorem dX6_isSitterSet_0 : decode cX6_isSitterSet 0 = .ok (.iload_n 1, 1) := by decide +kernel
theorem dX6_isSitterSet_1 : decode cX6_isSitterSet 1 = .ok (.ifCond .lt 17, 3) := by decide +kernel
theorem dX6_isSitterSet_4 : decode cX6_isSitterSet 4 = .ok (.iload_n 1, 1) := by decide +kernel
theorem dX6_isSitterSet_5 : decode cX6_isSitterSet 5 = .ok (.iconst 1, 1) := by decide +kernel
theorem dX6_isSitterSet_6 : decode cX6_isSitterSet 6 = .ok (.aload_n 0, 1) := by decide +kernel
theorem dX6_isSitterSet_7 : decode cX6_isSitterSet 7 = .ok (.getfield 69, 3) := by decide +kernel
theorem dX6_isSitterSet_10 : decode cX6_isSitterSet 10 = .ok (.ishl, 1) := by decide +kernel
theorem dX6_isSitterSet_11 : decode cX6_isSitterSet 11 = .ok (.if_icmp .ge 7, 3) := by decide +kernel
theorem dX6_isSitterSet_14 : decode cX6_isSitterSet 14 = .ok (.iconst 1, 1) := by decide +kernel
theorem dX6_isSitterSet_15 : decode cX6_isSitterSet 15 = .ok (.goto 4, 3) := by decide +kernel
theorem dX6_isSitterSet_18 : decode cX6_isSitterSet 18 = .ok (.iconst 0, 1) := by decide +kernel
theorem dX6_isSitterSet_19 : decode cX6_isSitterSet 19 = .ok (.ireturn, 1) := by decide +kernel
theorem dX6_matterNamed_0 : decode cX6_matterNamed 0 = .ok (.iconst 0, 1) := by decide +kernel
theorem dX6_matterNamed_1 : decode cX6_matterNamed 1 = .ok (.istore_n 3, 1) := by decide +kernel
theorem dX6_matterNamed_2 : decode cX6_matterNamed 2 = .ok (.iload_n 3, 1) := by decide +kernel
theorem dX6_matterNamed_3 : decode cX6_matterNamed 3 = .ok (.aload_n 0, 1) := by decide +kernel
theorem dX6_matterNamed_4 : decode cX6_matterNamed 4 = .ok (.getfield 63, 3) := by decide +kernel
theorem dX6_matterNamed_7 : decode cX6_matterNamed 7 = .ok (.if_icmp .ge 22, 3) := by decide +kernel
theorem dX6_matterNamed_10 : decode cX6_matterNamed 10 = .ok (.aload_n 0, 1) := by decide +kernel
theorem dX6_matterNamed_11 : decode cX6_matterNamed 11 = .ok (.getfield 15, 3) := by decide +kernel
theorem dX6_matterNamed_14 : decode cX6_matterNamed 14 = .ok (.iload_n 3, 1) := by decide +kernel
theorem dX6_matterNamed_15 : decode cX6_matterNamed 15 = .ok (.laload, 1) := by decide +kernel
theorem dX6_matterNamed_16 : decode cX6_matterNamed 16 = .ok (.lload_n 1, 1) := by decide +kernel
theorem dX6_matterNamed_17 : decode cX6_matterNamed 17 = .ok (.lcmp, 1) := by decide +kernel
theorem dX6_matterNamed_18 : decode cX6_matterNamed 18 = .ok (.ifCond .ne 5, 3) := by decide +kernel
theorem dX6_matterNamed_21 : decode cX6_matterNamed 21 = .ok (.iload_n 3, 1) := by decide +kernel
theorem dX6_matterNamed_22 : decode cX6_matterNamed 22 = .ok (.ireturn, 1) := by decide +kernel
theorem dX6_matterNamed_23 : decode cX6_matterNamed 23 = .ok (.iinc 3 1, 3) := by decide +kernel
theorem dX6_matterNamed_26 : decode cX6_matterNamed 26 = .ok (.goto (-24), 3) := by decide +kernel
theorem dX6_matterNamed_29 : decode cX6_matterNamed 29 = .ok (.iconst (-1), 1) := by decide +kernel
theorem dX6_matterNamed_30 : decode cX6_matterNamed 30 = .ok (.ireturn, 1) := by decide +kernel
theorem dX6_sitterNamed_0 : decode cX6_sitterNamed 0 = .ok (.iconst 0, 1) := by decide +kernel
theorem dX6_sitterNamed_1 : decode cX6_sitterNamed 1 = .ok (.istore_n 3, 1) := by decide +kernel
theorem dX6_sitterNamed_2 : decode cX6_sitterNamed 2 = .ok (.iload_n 3, 1) := by decide +kernel
theorem dX6_sitterNamed_3 : decode cX6_sitterNamed 3 = .ok (.aload_n 0, 1) := by decide +kernel
theorem dX6_sitterNamed_4 : decode cX6_sitterNamed 4 = .ok (.getfield 69, 3) := by decide +kernel
theorem dX6_sitterNamed_7 : decode cX6_sitterNamed 7 = .ok (.if_icmp .ge 22, 3) := by decide +kernel
theorem dX6_sitterNamed_10 : decode cX6_sitterNamed 10 = .ok (.aload_n 0, 1) := by decide +kernel
theorem dX6_sitterNamed_11 : decode cX6_sitterNamed 11 = .ok (.getfield 32, 3) := by decide +kernel
theorem dX6_sitterNamed_14 : decode cX6_sitterNamed 14 = .ok (.iload_n 3, 1) := by decide +kernel
theorem dX6_sitterNamed_15 : decode cX6_sitterNamed 15 = .ok (.laload, 1) := by decide +kernel
theorem dX6_sitterNamed_16 : decode cX6_sitterNamed 16 = .ok (.lload_n 1, 1) := by decide +kernel
theorem dX6_sitterNamed_17 : decode cX6_sitterNamed 17 = .ok (.lcmp, 1) := by decide +kernel
theorem dX6_sitterNamed_18 : decode cX6_sitterNamed 18 = .ok (.ifCond .ne 5, 3) := by decide +kernel
theorem dX6_sitterNamed_21 : decode cX6_sitterNamed 21 = .ok (.iload_n 3, 1) := by decide +kernel
theorem dX6_sitterNamed_22 : decode cX6_sitterNamed 22 = .ok (.ireturn, 1) := by decide +kernel
theorem dX6_sitterNamed_23 : decode cX6_sitterNamed 23 = .ok (.iinc 3 1, 3) := by decide +kernel
theorem dX6_sitterNamed_26 : decode cX6_sitterNamed 26 = .ok (.goto (-24), 3) := by decide +kernel
theorem dX6_sitterNamed_29 : decode cX6_sitterNamed 29 = .ok (.iconst (-1), 1) := by decide +kernel
theorem dX6_sitterNamed_30 : decode cX6_sitterNamed 30 = .ok (.ireturn, 1) := by decide +kernel
theorem dX6_addMatter_0 : decode cX6_addMatter 0 = .ok (.aload_n 0, 1) := by decide +kernel
theorem dX6_addMatter_1 : decode cX6_addMatter 1 = .ok (.getfield 63, 3) := by decide +kernel
theorem dX6_addMatter_4 : decode cX6_addMatter 4 = .ok (.bipush 6, 2) := by decide +kernel
theorem dX6_addMatter_6 : decode cX6_addMatter 6 = .ok (.if_icmp .ge 44, 3) := by decide +kernel
theorem dX6_addMatter_9 : decode cX6_addMatter 9 = .ok (.aload_n 0, 1) := by decide +kernel
theorem dX6_addMatter_10 : decode cX6_addMatter 10 = .ok (.getfield 15, 3) := by decide +kernel
theorem dX6_addMatter_13 : decode cX6_addMatter 13 = .ok (.aload_n 0, 1) := by decide +kernel
theorem dX6_addMatter_14 : decode cX6_addMatter 14 = .ok (.getfield 63, 3) := by decide +kernel
theorem dX6_addMatter_17 : decode cX6_addMatter 17 = .ok (.lload_n 1, 1) := by decide +kernel
theorem dX6_addMatter_18 : decode cX6_addMatter 18 = .ok (.lastore, 1) := by decide +kernel
theorem dX6_addMatter_19 : decode cX6_addMatter 19 = .ok (.aload_n 0, 1) := by decide +kernel
theorem dX6_addMatter_20 : decode cX6_addMatter 20 = .ok (.getfield 19, 3) := by decide +kernel
theorem dX6_addMatter_23 : decode cX6_addMatter 23 = .ok (.aload_n 0, 1) := by decide +kernel
theorem dX6_addMatter_24 : decode cX6_addMatter 24 = .ok (.getfield 63, 3) := by decide +kernel
theorem dX6_addMatter_27 : decode cX6_addMatter 27 = .ok (.iload_n 3, 1) := by decide +kernel
theorem dX6_addMatter_28 : decode cX6_addMatter 28 = .ok (.iastore, 1) := by decide +kernel
theorem dX6_addMatter_29 : decode cX6_addMatter 29 = .ok (.aload_n 0, 1) := by decide +kernel
theorem dX6_addMatter_30 : decode cX6_addMatter 30 = .ok (.getfield 23, 3) := by decide +kernel
theorem dX6_addMatter_33 : decode cX6_addMatter 33 = .ok (.aload_n 0, 1) := by decide +kernel
theorem dX6_addMatter_34 : decode cX6_addMatter 34 = .ok (.getfield 63, 3) := by decide +kernel
theorem dX6_addMatter_37 : decode cX6_addMatter 37 = .ok (.iload 4, 2) := by decide +kernel
theorem dX6_addMatter_39 : decode cX6_addMatter 39 = .ok (.iastore, 1) := by decide +kernel
theorem dX6_addMatter_40 : decode cX6_addMatter 40 = .ok (.aload_n 0, 1) := by decide +kernel
theorem dX6_addMatter_41 : decode cX6_addMatter 41 = .ok (.dup, 1) := by decide +kernel
theorem dX6_addMatter_42 : decode cX6_addMatter 42 = .ok (.getfield 63, 3) := by decide +kernel
theorem dX6_addMatter_45 : decode cX6_addMatter 45 = .ok (.iconst 1, 1) := by decide +kernel
theorem dX6_addMatter_46 : decode cX6_addMatter 46 = .ok (.iadd, 1) := by decide +kernel
theorem dX6_addMatter_47 : decode cX6_addMatter 47 = .ok (.putfield 63, 3) := by decide +kernel
theorem dX6_addMatter_50 : decode cX6_addMatter 50 = .ok (.return_, 1) := by decide +kernel
theorem dX6_addHold_0 : decode cX6_addHold 0 = .ok (.aload_n 0, 1) := by decide +kernel
theorem dX6_addHold_1 : decode cX6_addHold 1 = .ok (.getfield 66, 3) := by decide +kernel
theorem dX6_addHold_4 : decode cX6_addHold 4 = .ok (.bipush 10, 2) := by decide +kernel
theorem dX6_addHold_6 : decode cX6_addHold 6 = .ok (.if_icmp .ge 33, 3) := by decide +kernel
theorem dX6_addHold_9 : decode cX6_addHold 9 = .ok (.aload_n 0, 1) := by decide +kernel
theorem dX6_addHold_10 : decode cX6_addHold 10 = .ok (.getfield 26, 3) := by decide +kernel
theorem dX6_addHold_13 : decode cX6_addHold 13 = .ok (.aload_n 0, 1) := by decide +kernel
theorem dX6_addHold_14 : decode cX6_addHold 14 = .ok (.getfield 66, 3) := by decide +kernel
theorem dX6_addHold_17 : decode cX6_addHold 17 = .ok (.iload_n 1, 1) := by decide +kernel
theorem dX6_addHold_18 : decode cX6_addHold 18 = .ok (.iastore, 1) := by decide +kernel
theorem dX6_addHold_19 : decode cX6_addHold 19 = .ok (.aload_n 0, 1) := by decide +kernel
theorem dX6_addHold_20 : decode cX6_addHold 20 = .ok (.getfield 29, 3) := by decide +kernel
theorem dX6_addHold_23 : decode cX6_addHold 23 = .ok (.aload_n 0, 1) := by decide +kernel
theorem dX6_addHold_24 : decode cX6_addHold 24 = .ok (.getfield 66, 3) := by decide +kernel
theorem dX6_addHold_27 : decode cX6_addHold 27 = .ok (.iload_n 2, 1) := by decide +kernel
theorem dX6_addHold_28 : decode cX6_addHold 28 = .ok (.iastore, 1) := by decide +kernel
theorem dX6_addHold_29 : decode cX6_addHold 29 = .ok (.aload_n 0, 1) := by decide +kernel
theorem dX6_addHold_30 : decode cX6_addHold 30 = .ok (.dup, 1) := by decide +kernel
theorem dX6_addHold_31 : decode cX6_addHold 31 = .ok (.getfield 66, 3) := by decide +kernel
theorem dX6_addHold_34 : decode cX6_addHold 34 = .ok (.iconst 1, 1) := by decide +kernel
theorem dX6_addHold_35 : decode cX6_addHold 35 = .ok (.iadd, 1) := by decide +kernel
theorem dX6_addHold_36 : decode cX6_addHold 36 = .ok (.putfield 66, 3) := by decide +kernel
theorem dX6_addHold_39 : decode cX6_addHold 39 = .ok (.return_, 1) := by decide +kernel
theorem dX6_dropHold_0 : decode cX6_dropHold 0 = .ok (.iload_n 1, 1) := by decide +kernel
theorem dX6_dropHold_1 : decode cX6_dropHold 1 = .ok (.istore_n 2, 1) := by decide +kernel
theorem dX6_dropHold_2 : decode cX6_dropHold 2 = .ok (.iload_n 2, 1) := by decide +kernel
theorem dX6_dropHold_3 : decode cX6_dropHold 3 = .ok (.aload_n 0, 1) := by decide +kernel
theorem dX6_dropHold_4 : decode cX6_dropHold 4 = .ok (.getfield 66, 3) := by decide +kernel
theorem dX6_dropHold_7 : decode cX6_dropHold 7 = .ok (.iconst 1, 1) := by decide +kernel
theorem dX6_dropHold_8 : decode cX6_dropHold 8 = .ok (.isub, 1) := by decide +kernel
theorem dX6_dropHold_9 : decode cX6_dropHold 9 = .ok (.if_icmp .ge 37, 3) := by decide +kernel
theorem dX6_dropHold_12 : decode cX6_dropHold 12 = .ok (.aload_n 0, 1) := by decide +kernel
theorem dX6_dropHold_13 : decode cX6_dropHold 13 = .ok (.getfield 26, 3) := by decide +kernel
theorem dX6_dropHold_16 : decode cX6_dropHold 16 = .ok (.iload_n 2, 1) := by decide +kernel
theorem dX6_dropHold_17 : decode cX6_dropHold 17 = .ok (.aload_n 0, 1) := by decide +kernel
theorem dX6_dropHold_18 : decode cX6_dropHold 18 = .ok (.getfield 26, 3) := by decide +kernel
theorem dX6_dropHold_21 : decode cX6_dropHold 21 = .ok (.iload_n 2, 1) := by decide +kernel
theorem dX6_dropHold_22 : decode cX6_dropHold 22 = .ok (.iconst 1, 1) := by decide +kernel
theorem dX6_dropHold_23 : decode cX6_dropHold 23 = .ok (.iadd, 1) := by decide +kernel
theorem dX6_dropHold_24 : decode cX6_dropHold 24 = .ok (.iaload, 1) := by decide +kernel
theorem dX6_dropHold_25 : decode cX6_dropHold 25 = .ok (.iastore, 1) := by decide +kernel
theorem dX6_dropHold_26 : decode cX6_dropHold 26 = .ok (.aload_n 0, 1) := by decide +kernel
theorem dX6_dropHold_27 : decode cX6_dropHold 27 = .ok (.getfield 29, 3) := by decide +kernel
theorem dX6_dropHold_30 : decode cX6_dropHold 30 = .ok (.iload_n 2, 1) := by decide +kernel
theorem dX6_dropHold_31 : decode cX6_dropHold 31 = .ok (.aload_n 0, 1) := by decide +kernel
theorem dX6_dropHold_32 : decode cX6_dropHold 32 = .ok (.getfield 29, 3) := by decide +kernel
theorem dX6_dropHold_35 : decode cX6_dropHold 35 = .ok (.iload_n 2, 1) := by decide +kernel
theorem dX6_dropHold_36 : decode cX6_dropHold 36 = .ok (.iconst 1, 1) := by decide +kernel
theorem dX6_dropHold_37 : decode cX6_dropHold 37 = .ok (.iadd, 1) := by decide +kernel
theorem dX6_dropHold_38 : decode cX6_dropHold 38 = .ok (.iaload, 1) := by decide +kernel
theorem dX6_dropHold_39 : decode cX6_dropHold 39 = .ok (.iastore, 1) := by decide +kernel
theorem dX6_dropHold_40 : decode cX6_dropHold 40 = .ok (.iinc 2 1, 3) := by decide +kernel
theorem dX6_dropHold_43 : decode cX6_dropHold 43 = .ok (.goto (-41), 3) := by decide +kernel
theorem dX6_dropHold_46 : decode cX6_dropHold 46 = .ok (.aload_n 0, 1) := by decide +kernel
theorem dX6_dropHold_47 : decode cX6_dropHold 47 = .ok (.dup, 1) := by decide +kernel
theorem dX6_dropHold_48 : decode cX6_dropHold 48 = .ok (.getfield 66, 3) := by decide +kernel
theorem dX6_dropHold_51 : decode cX6_dropHold 51 = .ok (.iconst 1, 1) := by decide +kernel
theorem dX6_dropHold_52 : decode cX6_dropHold 52 = .ok (.isub, 1) := by decide +kernel
theorem dX6_dropHold_53 : decode cX6_dropHold 53 = .ok (.putfield 66, 3) := by decide +kernel
theorem dX6_dropHold_56 : decode cX6_dropHold 56 = .ok (.return_, 1) := by decide +kernel
theorem dX6_addSitter_0 : decode cX6_addSitter 0 = .ok (.aload_n 0, 1) := by decide +kernel
theorem dX6_addSitter_1 : decode cX6_addSitter 1 = .ok (.getfield 69, 3) := by decide +kernel
theorem dX6_addSitter_4 : decode cX6_addSitter 4 = .ok (.bipush 7, 2) := by decide +kernel
theorem dX6_addSitter_6 : decode cX6_addSitter 6 = .ok (.if_icmp .ge 66, 3) := by decide +kernel
theorem dX6_addSitter_9 : decode cX6_addSitter 9 = .ok (.aload_n 0, 1) := by decide +kernel
theorem dX6_addSitter_10 : decode cX6_addSitter 10 = .ok (.getfield 32, 3) := by decide +kernel
theorem dX6_addSitter_13 : decode cX6_addSitter 13 = .ok (.aload_n 0, 1) := by decide +kernel
theorem dX6_addSitter_14 : decode cX6_addSitter 14 = .ok (.getfield 69, 3) := by decide +kernel
theorem dX6_addSitter_17 : decode cX6_addSitter 17 = .ok (.lload_n 1, 1) := by decide +kernel
theorem dX6_addSitter_18 : decode cX6_addSitter 18 = .ok (.lastore, 1) := by decide +kernel
theorem dX6_addSitter_19 : decode cX6_addSitter 19 = .ok (.aload_n 0, 1) := by decide +kernel
theorem dX6_addSitter_20 : decode cX6_addSitter 20 = .ok (.getfield 35, 3) := by decide +kernel
theorem dX6_addSitter_23 : decode cX6_addSitter 23 = .ok (.aload_n 0, 1) := by decide +kernel
theorem dX6_addSitter_24 : decode cX6_addSitter 24 = .ok (.getfield 69, 3) := by decide +kernel
theorem dX6_addSitter_27 : decode cX6_addSitter 27 = .ok (.iload_n 3, 1) := by decide +kernel
theorem dX6_addSitter_28 : decode cX6_addSitter 28 = .ok (.iastore, 1) := by decide +kernel
theorem dX6_addSitter_29 : decode cX6_addSitter 29 = .ok (.aload_n 0, 1) := by decide +kernel
theorem dX6_addSitter_30 : decode cX6_addSitter 30 = .ok (.getfield 38, 3) := by decide +kernel
theorem dX6_addSitter_33 : decode cX6_addSitter 33 = .ok (.aload_n 0, 1) := by decide +kernel
theorem dX6_addSitter_34 : decode cX6_addSitter 34 = .ok (.getfield 69, 3) := by decide +kernel
theorem dX6_addSitter_37 : decode cX6_addSitter 37 = .ok (.iload 4, 2) := by decide +kernel
theorem dX6_addSitter_39 : decode cX6_addSitter 39 = .ok (.iastore, 1) := by decide +kernel
theorem dX6_addSitter_40 : decode cX6_addSitter 40 = .ok (.aload_n 0, 1) := by decide +kernel
theorem dX6_addSitter_41 : decode cX6_addSitter 41 = .ok (.getfield 41, 3) := by decide +kernel
theorem dX6_addSitter_44 : decode cX6_addSitter 44 = .ok (.aload_n 0, 1) := by decide +kernel
theorem dX6_addSitter_45 : decode cX6_addSitter 45 = .ok (.getfield 69, 3) := by decide +kernel
theorem dX6_addSitter_48 : decode cX6_addSitter 48 = .ok (.iload 5, 2) := by decide +kernel
theorem dX6_addSitter_50 : decode cX6_addSitter 50 = .ok (.iastore, 1) := by decide +kernel
theorem dX6_addSitter_51 : decode cX6_addSitter 51 = .ok (.aload_n 0, 1) := by decide +kernel
theorem dX6_addSitter_52 : decode cX6_addSitter 52 = .ok (.getfield 44, 3) := by decide +kernel
theorem dX6_addSitter_55 : decode cX6_addSitter 55 = .ok (.aload_n 0, 1) := by decide +kernel
theorem dX6_addSitter_56 : decode cX6_addSitter 56 = .ok (.getfield 69, 3) := by decide +kernel
theorem dX6_addSitter_59 : decode cX6_addSitter 59 = .ok (.iload 6, 2) := by decide +kernel
theorem dX6_addSitter_61 : decode cX6_addSitter 61 = .ok (.iastore, 1) := by decide +kernel
theorem dX6_addSitter_62 : decode cX6_addSitter 62 = .ok (.aload_n 0, 1) := by decide +kernel
theorem dX6_addSitter_63 : decode cX6_addSitter 63 = .ok (.dup, 1) := by decide +kernel
theorem dX6_addSitter_64 : decode cX6_addSitter 64 = .ok (.getfield 69, 3) := by decide +kernel
theorem dX6_addSitter_67 : decode cX6_addSitter 67 = .ok (.iconst 1, 1) := by decide +kernel
theorem dX6_addSitter_68 : decode cX6_addSitter 68 = .ok (.iadd, 1) := by decide +kernel
theorem dX6_addSitter_69 : decode cX6_addSitter 69 = .ok (.putfield 69, 3) := by decide +kernel
theorem dX6_addSitter_72 : decode cX6_addSitter 72 = .ok (.return_, 1) := by decide +kernel
theorem dX6_addNews_0 : decode cX6_addNews 0 = .ok (.aload_n 0, 1) := by decide +kernel
theorem dX6_addNews_1 : decode cX6_addNews 1 = .ok (.getfield 72, 3) := by decide +kernel
theorem dX6_addNews_4 : decode cX6_addNews 4 = .ok (.bipush 8, 2) := by decide +kernel
theorem dX6_addNews_6 : decode cX6_addNews 6 = .ok (.if_icmp .ge 33, 3) := by decide +kernel
theorem dX6_addNews_9 : decode cX6_addNews 9 = .ok (.aload_n 0, 1) := by decide +kernel
theorem dX6_addNews_10 : decode cX6_addNews 10 = .ok (.getfield 47, 3) := by decide +kernel
theorem dX6_addNews_13 : decode cX6_addNews 13 = .ok (.aload_n 0, 1) := by decide +kernel
theorem dX6_addNews_14 : decode cX6_addNews 14 = .ok (.getfield 72, 3) := by decide +kernel
theorem dX6_addNews_17 : decode cX6_addNews 17 = .ok (.iload_n 1, 1) := by decide +kernel
theorem dX6_addNews_18 : decode cX6_addNews 18 = .ok (.iastore, 1) := by decide +kernel
theorem dX6_addNews_19 : decode cX6_addNews 19 = .ok (.aload_n 0, 1) := by decide +kernel
theorem dX6_addNews_20 : decode cX6_addNews 20 = .ok (.getfield 50, 3) := by decide +kernel
theorem dX6_addNews_23 : decode cX6_addNews 23 = .ok (.aload_n 0, 1) := by decide +kernel
theorem dX6_addNews_24 : decode cX6_addNews 24 = .ok (.getfield 72, 3) := by decide +kernel
theorem dX6_addNews_27 : decode cX6_addNews 27 = .ok (.iload_n 2, 1) := by decide +kernel
theorem dX6_addNews_28 : decode cX6_addNews 28 = .ok (.iastore, 1) := by decide +kernel
theorem dX6_addNews_29 : decode cX6_addNews 29 = .ok (.aload_n 0, 1) := by decide +kernel
theorem dX6_addNews_30 : decode cX6_addNews 30 = .ok (.dup, 1) := by decide +kernel
theorem dX6_addNews_31 : decode cX6_addNews 31 = .ok (.getfield 72, 3) := by decide +kernel
theorem dX6_addNews_34 : decode cX6_addNews 34 = .ok (.iconst 1, 1) := by decide +kernel
theorem dX6_addNews_35 : decode cX6_addNews 35 = .ok (.iadd, 1) := by decide +kernel
theorem dX6_addNews_36 : decode cX6_addNews 36 = .ok (.putfield 72, 3) := by decide +kernel
theorem dX6_addNews_39 : decode cX6_addNews 39 = .ok (.return_, 1) := by decide +kernel
theorem dX6_isHeldBy_0 : decode cX6_isHeldBy 0 = .ok (.iconst 0, 1) := by decide +kernel
theorem dX6_isHeldBy_1 : decode cX6_isHeldBy 1 = .ok (.istore_n 3, 1) := by decide +kernel
theorem dX6_isHeldBy_2 : decode cX6_isHeldBy 2 = .ok (.iload_n 3, 1) := by decide +kernel
theorem dX6_isHeldBy_3 : decode cX6_isHeldBy 3 = .ok (.aload_n 0, 1) := by decide +kernel
theorem dX6_isHeldBy_4 : decode cX6_isHeldBy 4 = .ok (.getfield 66, 3) := by decide +kernel
theorem dX6_isHeldBy_7 : decode cX6_isHeldBy 7 = .ok (.if_icmp .ge 31, 3) := by decide +kernel
theorem dX6_isHeldBy_10 : decode cX6_isHeldBy 10 = .ok (.aload_n 0, 1) := by decide +kernel
theorem dX6_isHeldBy_11 : decode cX6_isHeldBy 11 = .ok (.getfield 26, 3) := by decide +kernel
theorem dX6_isHeldBy_14 : decode cX6_isHeldBy 14 = .ok (.iload_n 3, 1) := by decide +kernel
theorem dX6_isHeldBy_15 : decode cX6_isHeldBy 15 = .ok (.iaload, 1) := by decide +kernel
theorem dX6_isHeldBy_16 : decode cX6_isHeldBy 16 = .ok (.iload_n 1, 1) := by decide +kernel
theorem dX6_isHeldBy_17 : decode cX6_isHeldBy 17 = .ok (.if_icmp .ne 15, 3) := by decide +kernel
theorem dX6_isHeldBy_20 : decode cX6_isHeldBy 20 = .ok (.aload_n 0, 1) := by decide +kernel
theorem dX6_isHeldBy_21 : decode cX6_isHeldBy 21 = .ok (.getfield 29, 3) := by decide +kernel
theorem dX6_isHeldBy_24 : decode cX6_isHeldBy 24 = .ok (.iload_n 3, 1) := by decide +kernel
theorem dX6_isHeldBy_25 : decode cX6_isHeldBy 25 = .ok (.iaload, 1) := by decide +kernel
theorem dX6_isHeldBy_26 : decode cX6_isHeldBy 26 = .ok (.iload_n 2, 1) := by decide +kernel
theorem dX6_isHeldBy_27 : decode cX6_isHeldBy 27 = .ok (.if_icmp .ne 5, 3) := by decide +kernel
theorem dX6_isHeldBy_30 : decode cX6_isHeldBy 30 = .ok (.iconst 1, 1) := by decide +kernel
theorem dX6_isHeldBy_31 : decode cX6_isHeldBy 31 = .ok (.ireturn, 1) := by decide +kernel
theorem dX6_isHeldBy_32 : decode cX6_isHeldBy 32 = .ok (.iinc 3 1, 3) := by decide +kernel
theorem dX6_isHeldBy_35 : decode cX6_isHeldBy 35 = .ok (.goto (-33), 3) := by decide +kernel
theorem dX6_isHeldBy_38 : decode cX6_isHeldBy 38 = .ok (.iconst 0, 1) := by decide +kernel
theorem dX6_isHeldBy_39 : decode cX6_isHeldBy 39 = .ok (.ireturn, 1) := by decide +kernel
theorem dX6_holdersOf_0 : decode cX6_holdersOf 0 = .ok (.iconst 0, 1) := by decide +kernel
theorem dX6_holdersOf_1 : decode cX6_holdersOf 1 = .ok (.istore_n 2, 1) := by decide +kernel
theorem dX6_holdersOf_2 : decode cX6_holdersOf 2 = .ok (.iconst 0, 1) := by decide +kernel
theorem dX6_holdersOf_3 : decode cX6_holdersOf 3 = .ok (.istore_n 3, 1) := by decide +kernel
theorem dX6_holdersOf_4 : decode cX6_holdersOf 4 = .ok (.iload_n 3, 1) := by decide +kernel
theorem dX6_holdersOf_5 : decode cX6_holdersOf 5 = .ok (.aload_n 0, 1) := by decide +kernel
theorem dX6_holdersOf_6 : decode cX6_holdersOf 6 = .ok (.getfield 66, 3) := by decide +kernel
theorem dX6_holdersOf_9 : decode cX6_holdersOf 9 = .ok (.if_icmp .ge 30, 3) := by decide +kernel
theorem dX6_holdersOf_12 : decode cX6_holdersOf 12 = .ok (.aload_n 0, 1) := by decide +kernel
theorem dX6_holdersOf_13 : decode cX6_holdersOf 13 = .ok (.getfield 26, 3) := by decide +kernel
theorem dX6_holdersOf_16 : decode cX6_holdersOf 16 = .ok (.iload_n 3, 1) := by decide +kernel
theorem dX6_holdersOf_17 : decode cX6_holdersOf 17 = .ok (.iaload, 1) := by decide +kernel
theorem dX6_holdersOf_18 : decode cX6_holdersOf 18 = .ok (.iload_n 1, 1) := by decide +kernel
theorem dX6_holdersOf_19 : decode cX6_holdersOf 19 = .ok (.if_icmp .ne 14, 3) := by decide +kernel
theorem dX6_holdersOf_22 : decode cX6_holdersOf 22 = .ok (.iload_n 2, 1) := by decide +kernel
theorem dX6_holdersOf_23 : decode cX6_holdersOf 23 = .ok (.iconst 1, 1) := by decide +kernel
theorem dX6_holdersOf_24 : decode cX6_holdersOf 24 = .ok (.aload_n 0, 1) := by decide +kernel
theorem dX6_holdersOf_25 : decode cX6_holdersOf 25 = .ok (.getfield 29, 3) := by decide +kernel
theorem dX6_holdersOf_28 : decode cX6_holdersOf 28 = .ok (.iload_n 3, 1) := by decide +kernel
theorem dX6_holdersOf_29 : decode cX6_holdersOf 29 = .ok (.iaload, 1) := by decide +kernel
theorem dX6_holdersOf_30 : decode cX6_holdersOf 30 = .ok (.ishl, 1) := by decide +kernel
theorem dX6_holdersOf_31 : decode cX6_holdersOf 31 = .ok (.ior, 1) := by decide +kernel
theorem dX6_holdersOf_32 : decode cX6_holdersOf 32 = .ok (.istore_n 2, 1) := by decide +kernel
theorem dX6_holdersOf_33 : decode cX6_holdersOf 33 = .ok (.iinc 3 1, 3) := by decide +kernel
theorem dX6_holdersOf_36 : decode cX6_holdersOf 36 = .ok (.goto (-32), 3) := by decide +kernel
theorem dX6_holdersOf_39 : decode cX6_holdersOf 39 = .ok (.iload_n 2, 1) := by decide +kernel
theorem dX6_holdersOf_40 : decode cX6_holdersOf 40 = .ok (.ireturn, 1) := by decide +kernel
theorem dX6_sittersFor_0 : decode cX6_sittersFor 0 = .ok (.iconst 0, 1) := by decide +kernel
theorem dX6_sittersFor_1 : decode cX6_sittersFor 1 = .ok (.istore_n 2, 1) := by decide +kernel
theorem dX6_sittersFor_2 : decode cX6_sittersFor 2 = .ok (.iconst 0, 1) := by decide +kernel
theorem dX6_sittersFor_3 : decode cX6_sittersFor 3 = .ok (.istore_n 3, 1) := by decide +kernel
theorem dX6_sittersFor_4 : decode cX6_sittersFor 4 = .ok (.iload_n 3, 1) := by decide +kernel
theorem dX6_sittersFor_5 : decode cX6_sittersFor 5 = .ok (.aload_n 0, 1) := by decide +kernel
theorem dX6_sittersFor_6 : decode cX6_sittersFor 6 = .ok (.getfield 69, 3) := by decide +kernel
theorem dX6_sittersFor_9 : decode cX6_sittersFor 9 = .ok (.if_icmp .ge 25, 3) := by decide +kernel
theorem dX6_sittersFor_12 : decode cX6_sittersFor 12 = .ok (.aload_n 0, 1) := by decide +kernel
theorem dX6_sittersFor_13 : decode cX6_sittersFor 13 = .ok (.getfield 41, 3) := by decide +kernel
theorem dX6_sittersFor_16 : decode cX6_sittersFor 16 = .ok (.iload_n 3, 1) := by decide +kernel
theorem dX6_sittersFor_17 : decode cX6_sittersFor 17 = .ok (.iaload, 1) := by decide +kernel
theorem dX6_sittersFor_18 : decode cX6_sittersFor 18 = .ok (.iload_n 1, 1) := by decide +kernel
theorem dX6_sittersFor_19 : decode cX6_sittersFor 19 = .ok (.if_icmp .ne 9, 3) := by decide +kernel
theorem dX6_sittersFor_22 : decode cX6_sittersFor 22 = .ok (.iload_n 2, 1) := by decide +kernel
theorem dX6_sittersFor_23 : decode cX6_sittersFor 23 = .ok (.iconst 1, 1) := by decide +kernel
theorem dX6_sittersFor_24 : decode cX6_sittersFor 24 = .ok (.iload_n 3, 1) := by decide +kernel
theorem dX6_sittersFor_25 : decode cX6_sittersFor 25 = .ok (.ishl, 1) := by decide +kernel
theorem dX6_sittersFor_26 : decode cX6_sittersFor 26 = .ok (.ior, 1) := by decide +kernel
theorem dX6_sittersFor_27 : decode cX6_sittersFor 27 = .ok (.istore_n 2, 1) := by decide +kernel
theorem dX6_sittersFor_28 : decode cX6_sittersFor 28 = .ok (.iinc 3 1, 3) := by decide +kernel
theorem dX6_sittersFor_31 : decode cX6_sittersFor 31 = .ok (.goto (-27), 3) := by decide +kernel
theorem dX6_sittersFor_34 : decode cX6_sittersFor 34 = .ok (.iload_n 2, 1) := by decide +kernel
theorem dX6_sittersFor_35 : decode cX6_sittersFor 35 = .ok (.ireturn, 1) := by decide +kernel
theorem dX6_loadOf_0 : decode cX6_loadOf 0 = .ok (.bipush 100, 2) := by decide +kernel
theorem dX6_loadOf_2 : decode cX6_loadOf 2 = .ok (.aload_n 0, 1) := by decide +kernel
theorem dX6_loadOf_3 : decode cX6_loadOf 3 = .ok (.getfield 23, 3) := by decide +kernel
theorem dX6_loadOf_6 : decode cX6_loadOf 6 = .ok (.iload_n 1, 1) := by decide +kernel
theorem dX6_loadOf_7 : decode cX6_loadOf 7 = .ok (.iaload, 1) := by decide +kernel
theorem dX6_loadOf_8 : decode cX6_loadOf 8 = .ok (.isub, 1) := by decide +kernel
theorem dX6_loadOf_9 : decode cX6_loadOf 9 = .ok (.istore_n 2, 1) := by decide +kernel
theorem dX6_loadOf_10 : decode cX6_loadOf 10 = .ok (.iload_n 2, 1) := by decide +kernel
theorem dX6_loadOf_11 : decode cX6_loadOf 11 = .ok (.ifCond .ne 5, 3) := by decide +kernel
theorem dX6_loadOf_14 : decode cX6_loadOf 14 = .ok (.iconst 0, 1) := by decide +kernel
theorem dX6_loadOf_15 : decode cX6_loadOf 15 = .ok (.ireturn, 1) := by decide +kernel
theorem dX6_loadOf_16 : decode cX6_loadOf 16 = .ok (.aload_n 0, 1) := by decide +kernel
theorem dX6_loadOf_17 : decode cX6_loadOf 17 = .ok (.getfield 19, 3) := by decide +kernel
theorem dX6_loadOf_20 : decode cX6_loadOf 20 = .ok (.iload_n 1, 1) := by decide +kernel
theorem dX6_loadOf_21 : decode cX6_loadOf 21 = .ok (.iaload, 1) := by decide +kernel
theorem dX6_loadOf_22 : decode cX6_loadOf 22 = .ok (.istore_n 3, 1) := by decide +kernel
theorem dX6_loadOf_23 : decode cX6_loadOf 23 = .ok (.iload_n 3, 1) := by decide +kernel
theorem dX6_loadOf_24 : decode cX6_loadOf 24 = .ok (.ifCond .le 13, 3) := by decide +kernel
theorem dX6_loadOf_27 : decode cX6_loadOf 27 = .ok (.iload_n 2, 1) := by decide +kernel
theorem dX6_loadOf_28 : decode cX6_loadOf 28 = .ok (.iload_n 3, 1) := by decide +kernel
theorem dX6_loadOf_29 : decode cX6_loadOf 29 = .ok (.iadd, 1) := by decide +kernel
theorem dX6_loadOf_30 : decode cX6_loadOf 30 = .ok (.iconst 1, 1) := by decide +kernel
theorem dX6_loadOf_31 : decode cX6_loadOf 31 = .ok (.isub, 1) := by decide +kernel
theorem dX6_loadOf_32 : decode cX6_loadOf 32 = .ok (.iload_n 3, 1) := by decide +kernel
theorem dX6_loadOf_33 : decode cX6_loadOf 33 = .ok (.idiv, 1) := by decide +kernel
theorem dX6_loadOf_34 : decode cX6_loadOf 34 = .ok (.goto 4, 3) := by decide +kernel
theorem dX6_loadOf_37 : decode cX6_loadOf 37 = .ok (.iconst (-1), 1) := by decide +kernel
theorem dX6_loadOf_38 : decode cX6_loadOf 38 = .ok (.ireturn, 1) := by decide +kernel
theorem dX6_settledSet_0 : decode cX6_settledSet 0 = .ok (.iconst 0, 1) := by decide +kernel
theorem dX6_settledSet_1 : decode cX6_settledSet 1 = .ok (.istore_n 2, 1) := by decide +kernel
theorem dX6_settledSet_2 : decode cX6_settledSet 2 = .ok (.iconst 0, 1) := by decide +kernel
theorem dX6_settledSet_3 : decode cX6_settledSet 3 = .ok (.istore_n 3, 1) := by decide +kernel
theorem dX6_settledSet_4 : decode cX6_settledSet 4 = .ok (.iload_n 3, 1) := by decide +kernel
theorem dX6_settledSet_5 : decode cX6_settledSet 5 = .ok (.aload_n 0, 1) := by decide +kernel
theorem dX6_settledSet_6 : decode cX6_settledSet 6 = .ok (.getfield 63, 3) := by decide +kernel
theorem dX6_settledSet_9 : decode cX6_settledSet 9 = .ok (.if_icmp .ge 23, 3) := by decide +kernel
theorem dX6_settledSet_12 : decode cX6_settledSet 12 = .ok (.aload_n 1, 1) := by decide +kernel
theorem dX6_settledSet_13 : decode cX6_settledSet 13 = .ok (.iload_n 3, 1) := by decide +kernel
theorem dX6_settledSet_14 : decode cX6_settledSet 14 = .ok (.iaload, 1) := by decide +kernel
theorem dX6_settledSet_15 : decode cX6_settledSet 15 = .ok (.bipush 100, 2) := by decide +kernel
theorem dX6_settledSet_17 : decode cX6_settledSet 17 = .ok (.if_icmp .lt 9, 3) := by decide +kernel
theorem dX6_settledSet_20 : decode cX6_settledSet 20 = .ok (.iload_n 2, 1) := by decide +kernel
theorem dX6_settledSet_21 : decode cX6_settledSet 21 = .ok (.iconst 1, 1) := by decide +kernel
theorem dX6_settledSet_22 : decode cX6_settledSet 22 = .ok (.iload_n 3, 1) := by decide +kernel
theorem dX6_settledSet_23 : decode cX6_settledSet 23 = .ok (.ishl, 1) := by decide +kernel
theorem dX6_settledSet_24 : decode cX6_settledSet 24 = .ok (.ior, 1) := by decide +kernel
theorem dX6_settledSet_25 : decode cX6_settledSet 25 = .ok (.istore_n 2, 1) := by decide +kernel
theorem dX6_settledSet_26 : decode cX6_settledSet 26 = .ok (.iinc 3 1, 3) := by decide +kernel
theorem dX6_settledSet_29 : decode cX6_settledSet 29 = .ok (.goto (-25), 3) := by decide +kernel
theorem dX6_settledSet_32 : decode cX6_settledSet 32 = .ok (.iload_n 2, 1) := by decide +kernel
theorem dX6_settledSet_33 : decode cX6_settledSet 33 = .ok (.ireturn, 1) := by decide +kernel
theorem dX6_stuckSet_0 : decode cX6_stuckSet 0 = .ok (.iconst 0, 1) := by decide +kernel
theorem dX6_stuckSet_1 : decode cX6_stuckSet 1 = .ok (.istore_n 2, 1) := by decide +kernel
theorem dX6_stuckSet_2 : decode cX6_stuckSet 2 = .ok (.iconst 0, 1) := by decide +kernel
theorem dX6_stuckSet_3 : decode cX6_stuckSet 3 = .ok (.istore_n 3, 1) := by decide +kernel
theorem dX6_stuckSet_4 : decode cX6_stuckSet 4 = .ok (.iconst 0, 1) := by decide +kernel
theorem dX6_stuckSet_5 : decode cX6_stuckSet 5 = .ok (.istore 4, 2) := by decide +kernel
theorem dX6_stuckSet_7 : decode cX6_stuckSet 7 = .ok (.iload 4, 2) := by decide +kernel
theorem dX6_stuckSet_9 : decode cX6_stuckSet 9 = .ok (.aload_n 0, 1) := by decide +kernel
theorem dX6_stuckSet_10 : decode cX6_stuckSet 10 = .ok (.getfield 63, 3) := by decide +kernel
theorem dX6_stuckSet_13 : decode cX6_stuckSet 13 = .ok (.if_icmp .ge 25, 3) := by decide +kernel
theorem dX6_stuckSet_16 : decode cX6_stuckSet 16 = .ok (.aload_n 1, 1) := by decide +kernel
theorem dX6_stuckSet_17 : decode cX6_stuckSet 17 = .ok (.iload 4, 2) := by decide +kernel
theorem dX6_stuckSet_19 : decode cX6_stuckSet 19 = .ok (.iaload, 1) := by decide +kernel
theorem dX6_stuckSet_20 : decode cX6_stuckSet 20 = .ok (.bipush 100, 2) := by decide +kernel
theorem dX6_stuckSet_22 : decode cX6_stuckSet 22 = .ok (.if_icmp .lt 10, 3) := by decide +kernel
theorem dX6_stuckSet_25 : decode cX6_stuckSet 25 = .ok (.iload_n 2, 1) := by decide +kernel
theorem dX6_stuckSet_26 : decode cX6_stuckSet 26 = .ok (.iconst 1, 1) := by decide +kernel
theorem dX6_stuckSet_27 : decode cX6_stuckSet 27 = .ok (.iload 4, 2) := by decide +kernel
theorem dX6_stuckSet_29 : decode cX6_stuckSet 29 = .ok (.ishl, 1) := by decide +kernel
theorem dX6_stuckSet_30 : decode cX6_stuckSet 30 = .ok (.ior, 1) := by decide +kernel
theorem dX6_stuckSet_31 : decode cX6_stuckSet 31 = .ok (.istore_n 2, 1) := by decide +kernel
theorem dX6_stuckSet_32 : decode cX6_stuckSet 32 = .ok (.iinc 4 1, 3) := by decide +kernel
theorem dX6_stuckSet_35 : decode cX6_stuckSet 35 = .ok (.goto (-28), 3) := by decide +kernel
theorem dX6_stuckSet_38 : decode cX6_stuckSet 38 = .ok (.iconst 0, 1) := by decide +kernel
theorem dX6_stuckSet_39 : decode cX6_stuckSet 39 = .ok (.istore 4, 2) := by decide +kernel
theorem dX6_stuckSet_41 : decode cX6_stuckSet 41 = .ok (.iload 4, 2) := by decide +kernel
theorem dX6_stuckSet_43 : decode cX6_stuckSet 43 = .ok (.aload_n 0, 1) := by decide +kernel
theorem dX6_stuckSet_44 : decode cX6_stuckSet 44 = .ok (.getfield 66, 3) := by decide +kernel
theorem dX6_stuckSet_47 : decode cX6_stuckSet 47 = .ok (.if_icmp .ge 35, 3) := by decide +kernel
theorem dX6_stuckSet_50 : decode cX6_stuckSet 50 = .ok (.aload_n 1, 1) := by decide +kernel
theorem dX6_stuckSet_51 : decode cX6_stuckSet 51 = .ok (.aload_n 0, 1) := by decide +kernel
theorem dX6_stuckSet_52 : decode cX6_stuckSet 52 = .ok (.getfield 29, 3) := by decide +kernel
theorem dX6_stuckSet_55 : decode cX6_stuckSet 55 = .ok (.iload 4, 2) := by decide +kernel
theorem dX6_stuckSet_57 : decode cX6_stuckSet 57 = .ok (.iaload, 1) := by decide +kernel
theorem dX6_stuckSet_58 : decode cX6_stuckSet 58 = .ok (.iaload, 1) := by decide +kernel
theorem dX6_stuckSet_59 : decode cX6_stuckSet 59 = .ok (.bipush 100, 2) := by decide +kernel
theorem dX6_stuckSet_61 : decode cX6_stuckSet 61 = .ok (.if_icmp .ge 15, 3) := by decide +kernel
theorem dX6_stuckSet_64 : decode cX6_stuckSet 64 = .ok (.iload_n 3, 1) := by decide +kernel
theorem dX6_stuckSet_65 : decode cX6_stuckSet 65 = .ok (.iconst 1, 1) := by decide +kernel
theorem dX6_stuckSet_66 : decode cX6_stuckSet 66 = .ok (.aload_n 0, 1) := by decide +kernel
theorem dX6_stuckSet_67 : decode cX6_stuckSet 67 = .ok (.getfield 26, 3) := by decide +kernel
theorem dX6_stuckSet_70 : decode cX6_stuckSet 70 = .ok (.iload 4, 2) := by decide +kernel
theorem dX6_stuckSet_72 : decode cX6_stuckSet 72 = .ok (.iaload, 1) := by decide +kernel
theorem dX6_stuckSet_73 : decode cX6_stuckSet 73 = .ok (.ishl, 1) := by decide +kernel
theorem dX6_stuckSet_74 : decode cX6_stuckSet 74 = .ok (.ior, 1) := by decide +kernel
theorem dX6_stuckSet_75 : decode cX6_stuckSet 75 = .ok (.istore_n 3, 1) := by decide +kernel
theorem dX6_stuckSet_76 : decode cX6_stuckSet 76 = .ok (.iinc 4 1, 3) := by decide +kernel
theorem dX6_stuckSet_79 : decode cX6_stuckSet 79 = .ok (.goto (-38), 3) := by decide +kernel
theorem dX6_stuckSet_82 : decode cX6_stuckSet 82 = .ok (.iload_n 3, 1) := by decide +kernel
theorem dX6_stuckSet_83 : decode cX6_stuckSet 83 = .ok (.iload_n 2, 1) := by decide +kernel
theorem dX6_stuckSet_84 : decode cX6_stuckSet 84 = .ok (.iconst (-1), 1) := by decide +kernel
theorem dX6_stuckSet_85 : decode cX6_stuckSet 85 = .ok (.ixor, 1) := by decide +kernel
theorem dX6_stuckSet_86 : decode cX6_stuckSet 86 = .ok (.iand, 1) := by decide +kernel
theorem dX6_stuckSet_87 : decode cX6_stuckSet 87 = .ok (.ireturn, 1) := by decide +kernel
theorem dX6_downSet_0 : decode cX6_downSet 0 = .ok (.iconst 0, 1) := by decide +kernel
theorem dX6_downSet_1 : decode cX6_downSet 1 = .ok (.istore_n 2, 1) := by decide +kernel
theorem dX6_downSet_2 : decode cX6_downSet 2 = .ok (.iconst 0, 1) := by decide +kernel
theorem dX6_downSet_3 : decode cX6_downSet 3 = .ok (.istore_n 3, 1) := by decide +kernel
theorem dX6_downSet_4 : decode cX6_downSet 4 = .ok (.iload_n 3, 1) := by decide +kernel
theorem dX6_downSet_5 : decode cX6_downSet 5 = .ok (.aload_n 0, 1) := by decide +kernel
theorem dX6_downSet_6 : decode cX6_downSet 6 = .ok (.getfield 69, 3) := by decide +kernel
theorem dX6_downSet_9 : decode cX6_downSet 9 = .ok (.if_icmp .ge 31, 3) := by decide +kernel
theorem dX6_downSet_12 : decode cX6_downSet 12 = .ok (.aload_n 0, 1) := by decide +kernel
theorem dX6_downSet_13 : decode cX6_downSet 13 = .ok (.iload_n 3, 1) := by decide +kernel
theorem dX6_downSet_14 : decode cX6_downSet 14 = .ok (.aload_n 1, 1) := by decide +kernel
theorem dX6_downSet_15 : decode cX6_downSet 15 = .ok (.aload_n 0, 1) := by decide +kernel
theorem dX6_downSet_16 : decode cX6_downSet 16 = .ok (.getfield 41, 3) := by decide +kernel
theorem dX6_downSet_19 : decode cX6_downSet 19 = .ok (.iload_n 3, 1) := by decide +kernel
theorem dX6_downSet_20 : decode cX6_downSet 20 = .ok (.iaload, 1) := by decide +kernel
theorem dX6_downSet_21 : decode cX6_downSet 21 = .ok (.iaload, 1) := by decide +kernel
theorem dX6_downSet_22 : decode cX6_downSet 22 = .ok (.invokevirtual 91, 3) := by decide +kernel
theorem dX6_downSet_25 : decode cX6_downSet 25 = .ok (.ifCond .ne 9, 3) := by decide +kernel
theorem dX6_downSet_28 : decode cX6_downSet 28 = .ok (.iload_n 2, 1) := by decide +kernel
theorem dX6_downSet_29 : decode cX6_downSet 29 = .ok (.iconst 1, 1) := by decide +kernel
theorem dX6_downSet_30 : decode cX6_downSet 30 = .ok (.iload_n 3, 1) := by decide +kernel
theorem dX6_downSet_31 : decode cX6_downSet 31 = .ok (.ishl, 1) := by decide +kernel
theorem dX6_downSet_32 : decode cX6_downSet 32 = .ok (.ior, 1) := by decide +kernel
theorem dX6_downSet_33 : decode cX6_downSet 33 = .ok (.istore_n 2, 1) := by decide +kernel
theorem dX6_downSet_34 : decode cX6_downSet 34 = .ok (.iinc 3 1, 3) := by decide +kernel
theorem dX6_downSet_37 : decode cX6_downSet 37 = .ok (.goto (-33), 3) := by decide +kernel
theorem dX6_downSet_40 : decode cX6_downSet 40 = .ok (.iload_n 2, 1) := by decide +kernel
theorem dX6_downSet_41 : decode cX6_downSet 41 = .ok (.ireturn, 1) := by decide +kernel
theorem dX6_heightBy_0 : decode cX6_heightBy 0 = .ok (.aload_n 0, 1) := by decide +kernel
theorem dX6_heightBy_1 : decode cX6_heightBy 1 = .ok (.getfield 38, 3) := by decide +kernel
theorem dX6_heightBy_4 : decode cX6_heightBy 4 = .ok (.iload_n 1, 1) := by decide +kernel
theorem dX6_heightBy_5 : decode cX6_heightBy 5 = .ok (.iaload, 1) := by decide +kernel
theorem dX6_heightBy_6 : decode cX6_heightBy 6 = .ok (.bipush 100, 2) := by decide +kernel
theorem dX6_heightBy_8 : decode cX6_heightBy 8 = .ok (.iload_n 2, 1) := by decide +kernel
theorem dX6_heightBy_9 : decode cX6_heightBy 9 = .ok (.isub, 1) := by decide +kernel
theorem dX6_heightBy_10 : decode cX6_heightBy 10 = .ok (.imul, 1) := by decide +kernel
theorem dX6_heightBy_11 : decode cX6_heightBy 11 = .ok (.bipush 100, 2) := by decide +kernel
theorem dX6_heightBy_13 : decode cX6_heightBy 13 = .ok (.idiv, 1) := by decide +kernel
theorem dX6_heightBy_14 : decode cX6_heightBy 14 = .ok (.ireturn, 1) := by decide +kernel
theorem dX6_heightNow_0 : decode cX6_heightNow 0 = .ok (.aload_n 0, 1) := by decide +kernel
theorem dX6_heightNow_1 : decode cX6_heightNow 1 = .ok (.iload_n 1, 1) := by decide +kernel
theorem dX6_heightNow_2 : decode cX6_heightNow 2 = .ok (.aload_n 0, 1) := by decide +kernel
theorem dX6_heightNow_3 : decode cX6_heightNow 3 = .ok (.getfield 23, 3) := by decide +kernel
theorem dX6_heightNow_6 : decode cX6_heightNow 6 = .ok (.aload_n 0, 1) := by decide +kernel
theorem dX6_heightNow_7 : decode cX6_heightNow 7 = .ok (.getfield 41, 3) := by decide +kernel
theorem dX6_heightNow_10 : decode cX6_heightNow 10 = .ok (.iload_n 1, 1) := by decide +kernel
theorem dX6_heightNow_11 : decode cX6_heightNow 11 = .ok (.iaload, 1) := by decide +kernel
theorem dX6_heightNow_12 : decode cX6_heightNow 12 = .ok (.iaload, 1) := by decide +kernel
theorem dX6_heightNow_13 : decode cX6_heightNow 13 = .ok (.invokevirtual 91, 3) := by decide +kernel
theorem dX6_heightNow_16 : decode cX6_heightNow 16 = .ok (.ireturn, 1) := by decide +kernel
theorem dX6_heightsTogether_0 : decode cX6_heightsTogether 0 = .ok (.iconst 0, 1) := by decide +kernel
theorem dX6_heightsTogether_1 : decode cX6_heightsTogether 1 = .ok (.istore_n 1, 1) := by decide +kernel
theorem dX6_heightsTogether_2 : decode cX6_heightsTogether 2 = .ok (.iconst 0, 1) := by decide +kernel
theorem dX6_heightsTogether_3 : decode cX6_heightsTogether 3 = .ok (.istore_n 2, 1) := by decide +kernel
theorem dX6_heightsTogether_4 : decode cX6_heightsTogether 4 = .ok (.iload_n 2, 1) := by decide +kernel
theorem dX6_heightsTogether_5 : decode cX6_heightsTogether 5 = .ok (.aload_n 0, 1) := by decide +kernel
theorem dX6_heightsTogether_6 : decode cX6_heightsTogether 6 = .ok (.getfield 69, 3) := by decide +kernel
theorem dX6_heightsTogether_9 : decode cX6_heightsTogether 9 = .ok (.if_icmp .ge 17, 3) := by decide +kernel
theorem dX6_heightsTogether_12 : decode cX6_heightsTogether 12 = .ok (.iload_n 1, 1) := by decide +kernel
theorem dX6_heightsTogether_13 : decode cX6_heightsTogether 13 = .ok (.aload_n 0, 1) := by decide +kernel
theorem dX6_heightsTogether_14 : decode cX6_heightsTogether 14 = .ok (.iload_n 2, 1) := by decide +kernel
theorem dX6_heightsTogether_15 : decode cX6_heightsTogether 15 = .ok (.invokevirtual 95, 3) := by decide +kernel
theorem dX6_heightsTogether_18 : decode cX6_heightsTogether 18 = .ok (.iadd, 1) := by decide +kernel
theorem dX6_heightsTogether_19 : decode cX6_heightsTogether 19 = .ok (.istore_n 1, 1) := by decide +kernel
theorem dX6_heightsTogether_20 : decode cX6_heightsTogether 20 = .ok (.iinc 2 1, 3) := by decide +kernel
theorem dX6_heightsTogether_23 : decode cX6_heightsTogether 23 = .ok (.goto (-19), 3) := by decide +kernel
theorem dX6_heightsTogether_26 : decode cX6_heightsTogether 26 = .ok (.iload_n 1, 1) := by decide +kernel
theorem dX6_heightsTogether_27 : decode cX6_heightsTogether 27 = .ok (.ireturn, 1) := by decide +kernel
theorem dX6_hasDays_0 : decode cX6_hasDays 0 = .ok (.iload_n 1, 1) := by decide +kernel
theorem dX6_hasDays_1 : decode cX6_hasDays 1 = .ok (.sipush 9999, 3) := by decide +kernel
theorem dX6_hasDays_4 : decode cX6_hasDays 4 = .ok (.aload_n 0, 1) := by decide +kernel
theorem dX6_hasDays_5 : decode cX6_hasDays 5 = .ok (.getfield 60, 3) := by decide +kernel
theorem dX6_hasDays_8 : decode cX6_hasDays 8 = .ok (.isub, 1) := by decide +kernel
theorem dX6_hasDays_9 : decode cX6_hasDays 9 = .ok (.if_icmp .gt 7, 3) := by decide +kernel
theorem dX6_hasDays_12 : decode cX6_hasDays 12 = .ok (.iconst 1, 1) := by decide +kernel
theorem dX6_hasDays_13 : decode cX6_hasDays 13 = .ok (.goto 4, 3) := by decide +kernel
theorem dX6_hasDays_16 : decode cX6_hasDays 16 = .ok (.iconst 0, 1) := by decide +kernel
theorem dX6_hasDays_17 : decode cX6_hasDays 17 = .ok (.ireturn, 1) := by decide +kernel
theorem dX6_goDays_0 : decode cX6_goDays 0 = .ok (.iconst 1, 1) := by decide +kernel
theorem dX6_goDays_1 : decode cX6_goDays 1 = .ok (.istore_n 2, 1) := by decide +kernel
theorem dX6_goDays_2 : decode cX6_goDays 2 = .ok (.iconst 0, 1) := by decide +kernel
theorem dX6_goDays_3 : decode cX6_goDays 3 = .ok (.istore_n 3, 1) := by decide +kernel
theorem dX6_goDays_4 : decode cX6_goDays 4 = .ok (.iload_n 3, 1) := by decide +kernel
theorem dX6_goDays_5 : decode cX6_goDays 5 = .ok (.iload_n 1, 1) := by decide +kernel
theorem dX6_goDays_6 : decode cX6_goDays 6 = .ok (.if_icmp .ge 22, 3) := by decide +kernel
theorem dX6_goDays_9 : decode cX6_goDays 9 = .ok (.iload_n 2, 1) := by decide +kernel
theorem dX6_goDays_10 : decode cX6_goDays 10 = .ok (.ifCond .eq 18, 3) := by decide +kernel
theorem dX6_goDays_13 : decode cX6_goDays 13 = .ok (.aload_n 0, 1) := by decide +kernel
theorem dX6_goDays_14 : decode cX6_goDays 14 = .ok (.aload_n 0, 1) := by decide +kernel
theorem dX6_goDays_15 : decode cX6_goDays 15 = .ok (.getfield 23, 3) := by decide +kernel
theorem dX6_goDays_18 : decode cX6_goDays 18 = .ok (.invokevirtual 99, 3) := by decide +kernel
theorem dX6_goDays_21 : decode cX6_goDays 21 = .ok (.istore_n 2, 1) := by decide +kernel
theorem dX6_goDays_22 : decode cX6_goDays 22 = .ok (.iinc 3 1, 3) := by decide +kernel
theorem dX6_goDays_25 : decode cX6_goDays 25 = .ok (.goto (-21), 3) := by decide +kernel
theorem dX6_goDays_28 : decode cX6_goDays 28 = .ok (.aload_n 0, 1) := by decide +kernel
theorem dX6_goDays_29 : decode cX6_goDays 29 = .ok (.dup, 1) := by decide +kernel
theorem dX6_goDays_30 : decode cX6_goDays 30 = .ok (.getfield 60, 3) := by decide +kernel
theorem dX6_goDays_33 : decode cX6_goDays 33 = .ok (.iload_n 1, 1) := by decide +kernel
theorem dX6_goDays_34 : decode cX6_goDays 34 = .ok (.iadd, 1) := by decide +kernel
theorem dX6_goDays_35 : decode cX6_goDays 35 = .ok (.putfield 60, 3) := by decide +kernel
theorem dX6_goDays_38 : decode cX6_goDays 38 = .ok (.return_, 1) := by decide +kernel
theorem dX6_passDay_0 : decode cX6_passDay 0 = .ok (.aload_n 0, 1) := by decide +kernel
theorem dX6_passDay_1 : decode cX6_passDay 1 = .ok (.aload_n 1, 1) := by decide +kernel
theorem dX6_passDay_2 : decode cX6_passDay 2 = .ok (.invokevirtual 103, 3) := by decide +kernel
theorem dX6_passDay_5 : decode cX6_passDay 5 = .ok (.istore_n 2, 1) := by decide +kernel
theorem dX6_passDay_6 : decode cX6_passDay 6 = .ok (.iconst 0, 1) := by decide +kernel
theorem dX6_passDay_7 : decode cX6_passDay 7 = .ok (.istore_n 3, 1) := by decide +kernel
theorem dX6_passDay_8 : decode cX6_passDay 8 = .ok (.iconst 0, 1) := by decide +kernel
theorem dX6_passDay_9 : decode cX6_passDay 9 = .ok (.istore 4, 2) := by decide +kernel
theorem dX6_passDay_11 : decode cX6_passDay 11 = .ok (.iload 4, 2) := by decide +kernel
theorem dX6_passDay_13 : decode cX6_passDay 13 = .ok (.aload_n 0, 1) := by decide +kernel
theorem dX6_passDay_14 : decode cX6_passDay 14 = .ok (.getfield 63, 3) := by decide +kernel
theorem dX6_passDay_17 : decode cX6_passDay 17 = .ok (.if_icmp .ge 60, 3) := by decide +kernel
theorem dX6_passDay_20 : decode cX6_passDay 20 = .ok (.aload_n 0, 1) := by decide +kernel
theorem dX6_passDay_21 : decode cX6_passDay 21 = .ok (.getfield 19, 3) := by decide +kernel
theorem dX6_passDay_24 : decode cX6_passDay 24 = .ok (.iload 4, 2) := by decide +kernel
theorem dX6_passDay_26 : decode cX6_passDay 26 = .ok (.iaload, 1) := by decide +kernel
theorem dX6_passDay_27 : decode cX6_passDay 27 = .ok (.ifCond .le 44, 3) := by decide +kernel
theorem dX6_passDay_30 : decode cX6_passDay 30 = .ok (.aload_n 1, 1) := by decide +kernel
theorem dX6_passDay_31 : decode cX6_passDay 31 = .ok (.iload 4, 2) := by decide +kernel
theorem dX6_passDay_33 : decode cX6_passDay 33 = .ok (.iaload, 1) := by decide +kernel
theorem dX6_passDay_34 : decode cX6_passDay 34 = .ok (.bipush 100, 2) := by decide +kernel
theorem dX6_passDay_36 : decode cX6_passDay 36 = .ok (.if_icmp .ge 35, 3) := by decide +kernel
theorem dX6_passDay_39 : decode cX6_passDay 39 = .ok (.iload_n 2, 1) := by decide +kernel
theorem dX6_passDay_40 : decode cX6_passDay 40 = .ok (.iload 4, 2) := by decide +kernel
theorem dX6_passDay_42 : decode cX6_passDay 42 = .ok (.ishr, 1) := by decide +kernel
theorem dX6_passDay_43 : decode cX6_passDay 43 = .ok (.iconst 1, 1) := by decide +kernel
theorem dX6_passDay_44 : decode cX6_passDay 44 = .ok (.iand, 1) := by decide +kernel
theorem dX6_passDay_45 : decode cX6_passDay 45 = .ok (.ifCond .ne 26, 3) := by decide +kernel
theorem dX6_passDay_48 : decode cX6_passDay 48 = .ok (.aload_n 1, 1) := by decide +kernel
theorem dX6_passDay_49 : decode cX6_passDay 49 = .ok (.iload 4, 2) := by decide +kernel
theorem dX6_passDay_51 : decode cX6_passDay 51 = .ok (.bipush 100, 2) := by decide +kernel
theorem dX6_passDay_53 : decode cX6_passDay 53 = .ok (.aload_n 1, 1) := by decide +kernel
theorem dX6_passDay_54 : decode cX6_passDay 54 = .ok (.iload 4, 2) := by decide +kernel
theorem dX6_passDay_56 : decode cX6_passDay 56 = .ok (.iaload, 1) := by decide +kernel
theorem dX6_passDay_57 : decode cX6_passDay 57 = .ok (.aload_n 0, 1) := by decide +kernel
theorem dX6_passDay_58 : decode cX6_passDay 58 = .ok (.getfield 19, 3) := by decide +kernel
theorem dX6_passDay_61 : decode cX6_passDay 61 = .ok (.iload 4, 2) := by decide +kernel
theorem dX6_passDay_63 : decode cX6_passDay 63 = .ok (.iaload, 1) := by decide +kernel
theorem dX6_passDay_64 : decode cX6_passDay 64 = .ok (.iadd, 1) := by decide +kernel
theorem dX6_passDay_65 : decode cX6_passDay 65 = .ok (.invokestatic 107, 3) := by decide +kernel
theorem dX6_passDay_68 : decode cX6_passDay 68 = .ok (.iastore, 1) := by decide +kernel
theorem dX6_passDay_69 : decode cX6_passDay 69 = .ok (.iconst 1, 1) := by decide +kernel
theorem dX6_passDay_70 : decode cX6_passDay 70 = .ok (.istore_n 3, 1) := by decide +kernel
theorem dX6_passDay_71 : decode cX6_passDay 71 = .ok (.iinc 4 1, 3) := by decide +kernel
theorem dX6_passDay_74 : decode cX6_passDay 74 = .ok (.goto (-63), 3) := by decide +kernel
theorem dX6_passDay_77 : decode cX6_passDay 77 = .ok (.iload_n 3, 1) := by decide +kernel
theorem dX6_passDay_78 : decode cX6_passDay 78 = .ok (.ireturn, 1) := by decide +kernel
theorem dX6_canCome_0 : decode cX6_canCome 0 = .ok (.aload_n 0, 1) := by decide +kernel
theorem dX6_canCome_1 : decode cX6_canCome 1 = .ok (.iload_n 1, 1) := by decide +kernel
theorem dX6_canCome_2 : decode cX6_canCome 2 = .ok (.invokevirtual 112, 3) := by decide +kernel
theorem dX6_canCome_5 : decode cX6_canCome 5 = .ok (.ifCond .eq 34, 3) := by decide +kernel
theorem dX6_canCome_8 : decode cX6_canCome 8 = .ok (.aload_n 0, 1) := by decide +kernel
theorem dX6_canCome_9 : decode cX6_canCome 9 = .ok (.getfield 75, 3) := by decide +kernel
theorem dX6_canCome_12 : decode cX6_canCome 12 = .ok (.iload_n 1, 1) := by decide +kernel
theorem dX6_canCome_13 : decode cX6_canCome 13 = .ok (.ishr, 1) := by decide +kernel
theorem dX6_canCome_14 : decode cX6_canCome 14 = .ok (.iconst 1, 1) := by decide +kernel
theorem dX6_canCome_15 : decode cX6_canCome 15 = .ok (.iand, 1) := by decide +kernel
theorem dX6_canCome_16 : decode cX6_canCome 16 = .ok (.ifCond .ne 23, 3) := by decide +kernel
theorem dX6_canCome_19 : decode cX6_canCome 19 = .ok (.aload_n 0, 1) := by decide +kernel
theorem dX6_canCome_20 : decode cX6_canCome 20 = .ok (.getfield 23, 3) := by decide +kernel
theorem dX6_canCome_23 : decode cX6_canCome 23 = .ok (.aload_n 0, 1) := by decide +kernel
theorem dX6_canCome_24 : decode cX6_canCome 24 = .ok (.getfield 47, 3) := by decide +kernel
theorem dX6_canCome_27 : decode cX6_canCome 27 = .ok (.iload_n 1, 1) := by decide +kernel
theorem dX6_canCome_28 : decode cX6_canCome 28 = .ok (.iaload, 1) := by decide +kernel
theorem dX6_canCome_29 : decode cX6_canCome 29 = .ok (.iaload, 1) := by decide +kernel
theorem dX6_canCome_30 : decode cX6_canCome 30 = .ok (.bipush 100, 2) := by decide +kernel
theorem dX6_canCome_32 : decode cX6_canCome 32 = .ok (.if_icmp .ge 7, 3) := by decide +kernel
theorem dX6_canCome_35 : decode cX6_canCome 35 = .ok (.iconst 1, 1) := by decide +kernel
theorem dX6_canCome_36 : decode cX6_canCome 36 = .ok (.goto 4, 3) := by decide +kernel
theorem dX6_canCome_39 : decode cX6_canCome 39 = .ok (.iconst 0, 1) := by decide +kernel
theorem dX6_canCome_40 : decode cX6_canCome 40 = .ok (.ireturn, 1) := by decide +kernel
theorem dX6_come_0 : decode cX6_come 0 = .ok (.aload_n 0, 1) := by decide +kernel
theorem dX6_come_1 : decode cX6_come 1 = .ok (.getfield 47, 3) := by decide +kernel
theorem dX6_come_4 : decode cX6_come 4 = .ok (.iload_n 1, 1) := by decide +kernel
theorem dX6_come_5 : decode cX6_come 5 = .ok (.iaload, 1) := by decide +kernel
theorem dX6_come_6 : decode cX6_come 6 = .ok (.istore_n 2, 1) := by decide +kernel
theorem dX6_come_7 : decode cX6_come 7 = .ok (.aload_n 0, 1) := by decide +kernel
theorem dX6_come_8 : decode cX6_come 8 = .ok (.getfield 23, 3) := by decide +kernel
theorem dX6_come_11 : decode cX6_come 11 = .ok (.iload_n 2, 1) := by decide +kernel
theorem dX6_come_12 : decode cX6_come 12 = .ok (.bipush 100, 2) := by decide +kernel
theorem dX6_come_14 : decode cX6_come 14 = .ok (.aload_n 0, 1) := by decide +kernel
theorem dX6_come_15 : decode cX6_come 15 = .ok (.getfield 23, 3) := by decide +kernel
theorem dX6_come_18 : decode cX6_come 18 = .ok (.iload_n 2, 1) := by decide +kernel
theorem dX6_come_19 : decode cX6_come 19 = .ok (.iaload, 1) := by decide +kernel
theorem dX6_come_20 : decode cX6_come 20 = .ok (.aload_n 0, 1) := by decide +kernel
theorem dX6_come_21 : decode cX6_come 21 = .ok (.getfield 50, 3) := by decide +kernel
theorem dX6_come_24 : decode cX6_come 24 = .ok (.iload_n 1, 1) := by decide +kernel
theorem dX6_come_25 : decode cX6_come 25 = .ok (.iaload, 1) := by decide +kernel
theorem dX6_come_26 : decode cX6_come 26 = .ok (.iadd, 1) := by decide +kernel
theorem dX6_come_27 : decode cX6_come 27 = .ok (.invokestatic 107, 3) := by decide +kernel
theorem dX6_come_30 : decode cX6_come 30 = .ok (.iastore, 1) := by decide +kernel
theorem dX6_come_31 : decode cX6_come 31 = .ok (.aload_n 0, 1) := by decide +kernel
theorem dX6_come_32 : decode cX6_come 32 = .ok (.dup, 1) := by decide +kernel
theorem dX6_come_33 : decode cX6_come 33 = .ok (.getfield 75, 3) := by decide +kernel
theorem dX6_come_36 : decode cX6_come 36 = .ok (.iconst 1, 1) := by decide +kernel
theorem dX6_come_37 : decode cX6_come 37 = .ok (.iload_n 1, 1) := by decide +kernel
theorem dX6_come_38 : decode cX6_come 38 = .ok (.ishl, 1) := by decide +kernel
theorem dX6_come_39 : decode cX6_come 39 = .ok (.ior, 1) := by decide +kernel
theorem dX6_come_40 : decode cX6_come 40 = .ok (.putfield 75, 3) := by decide +kernel
theorem dX6_come_43 : decode cX6_come 43 = .ok (.return_, 1) := by decide +kernel
theorem dX6_worsen_0 : decode cX6_worsen 0 = .ok (.aload_n 0, 1) := by decide +kernel
theorem dX6_worsen_1 : decode cX6_worsen 1 = .ok (.getfield 23, 3) := by decide +kernel
theorem dX6_worsen_4 : decode cX6_worsen 4 = .ok (.iload_n 1, 1) := by decide +kernel
theorem dX6_worsen_5 : decode cX6_worsen 5 = .ok (.iconst 0, 1) := by decide +kernel
theorem dX6_worsen_6 : decode cX6_worsen 6 = .ok (.aload_n 0, 1) := by decide +kernel
theorem dX6_worsen_7 : decode cX6_worsen 7 = .ok (.getfield 23, 3) := by decide +kernel
theorem dX6_worsen_10 : decode cX6_worsen 10 = .ok (.iload_n 1, 1) := by decide +kernel
theorem dX6_worsen_11 : decode cX6_worsen 11 = .ok (.iaload, 1) := by decide +kernel
theorem dX6_worsen_12 : decode cX6_worsen 12 = .ok (.iload_n 2, 1) := by decide +kernel
theorem dX6_worsen_13 : decode cX6_worsen 13 = .ok (.isub, 1) := by decide +kernel
theorem dX6_worsen_14 : decode cX6_worsen 14 = .ok (.invokestatic 116, 3) := by decide +kernel
theorem dX6_worsen_17 : decode cX6_worsen 17 = .ok (.iastore, 1) := by decide +kernel
theorem dX6_worsen_18 : decode cX6_worsen 18 = .ok (.return_, 1) := by decide +kernel
theorem dX8_codeWith_0 : decode cX8_codeWith 0 = .ok (.lload_n 0, 1) := by decide +kernel
theorem dX8_codeWith_1 : decode cX8_codeWith 1 = .ok (.ldc2_w 7, 3) := by decide +kernel
theorem dX8_codeWith_4 : decode cX8_codeWith 4 = .ok (.lmul, 1) := by decide +kernel
theorem dX8_codeWith_5 : decode cX8_codeWith 5 = .ok (.iload_n 2, 1) := by decide +kernel
theorem dX8_codeWith_6 : decode cX8_codeWith 6 = .ok (.bipush 97, 2) := by decide +kernel
theorem dX8_codeWith_8 : decode cX8_codeWith 8 = .ok (.isub, 1) := by decide +kernel
theorem dX8_codeWith_9 : decode cX8_codeWith 9 = .ok (.iconst 1, 1) := by decide +kernel
theorem dX8_codeWith_10 : decode cX8_codeWith 10 = .ok (.iadd, 1) := by decide +kernel
theorem dX8_codeWith_11 : decode cX8_codeWith 11 = .ok (.i2l, 1) := by decide +kernel
theorem dX8_codeWith_12 : decode cX8_codeWith 12 = .ok (.ladd, 1) := by decide +kernel
theorem dX8_codeWith_13 : decode cX8_codeWith 13 = .ok (.lreturn, 1) := by decide +kernel
theorem dX8_keywordOf_0 : decode cX8_keywordOf 0 = .ok (.iconst 0, 1) := by decide +kernel
theorem dX8_keywordOf_1 : decode cX8_keywordOf 1 = .ok (.istore_n 2, 1) := by decide +kernel
theorem dX8_keywordOf_2 : decode cX8_keywordOf 2 = .ok (.lconst 0, 1) := by decide +kernel
theorem dX8_keywordOf_3 : decode cX8_keywordOf 3 = .ok (.lstore_n 3, 1) := by decide +kernel
theorem dX8_keywordOf_4 : decode cX8_keywordOf 4 = .ok (.iconst 0, 1) := by decide +kernel
theorem dX8_keywordOf_5 : decode cX8_keywordOf 5 = .ok (.istore 5, 2) := by decide +kernel
theorem dX8_keywordOf_7 : decode cX8_keywordOf 7 = .ok (.iload 5, 2) := by decide +kernel
theorem dX8_keywordOf_9 : decode cX8_keywordOf 9 = .ok (.ldc 11, 2) := by decide +kernel
theorem dX8_keywordOf_11 : decode cX8_keywordOf 11 = .ok (.invokevirtual 13, 3) := by decide +kernel
theorem dX8_keywordOf_14 : decode cX8_keywordOf 14 = .ok (.if_icmp .ge 48, 3) := by decide +kernel
theorem dX8_keywordOf_17 : decode cX8_keywordOf 17 = .ok (.ldc 11, 2) := by decide +kernel
theorem dX8_keywordOf_19 : decode cX8_keywordOf 19 = .ok (.iload 5, 2) := by decide +kernel
theorem dX8_keywordOf_21 : decode cX8_keywordOf 21 = .ok (.invokevirtual 19, 3) := by decide +kernel
theorem dX8_keywordOf_24 : decode cX8_keywordOf 24 = .ok (.istore 6, 2) := by decide +kernel
theorem dX8_keywordOf_26 : decode cX8_keywordOf 26 = .ok (.iload 6, 2) := by decide +kernel
theorem dX8_keywordOf_28 : decode cX8_keywordOf 28 = .ok (.bipush 32, 2) := by decide +kernel
theorem dX8_keywordOf_30 : decode cX8_keywordOf 30 = .ok (.if_icmp .eq 13, 3) := by decide +kernel
theorem dX8_keywordOf_33 : decode cX8_keywordOf 33 = .ok (.lload_n 3, 1) := by decide +kernel
theorem dX8_keywordOf_34 : decode cX8_keywordOf 34 = .ok (.iload 6, 2) := by decide +kernel
theorem dX8_keywordOf_36 : decode cX8_keywordOf 36 = .ok (.invokestatic 23, 3) := by decide +kernel
theorem dX8_keywordOf_39 : decode cX8_keywordOf 39 = .ok (.lstore_n 3, 1) := by decide +kernel
theorem dX8_keywordOf_40 : decode cX8_keywordOf 40 = .ok (.goto 16, 3) := by decide +kernel
theorem dX8_keywordOf_43 : decode cX8_keywordOf 43 = .ok (.lload_n 3, 1) := by decide +kernel
theorem dX8_keywordOf_44 : decode cX8_keywordOf 44 = .ok (.lload_n 0, 1) := by decide +kernel
theorem dX8_keywordOf_45 : decode cX8_keywordOf 45 = .ok (.lcmp, 1) := by decide +kernel
theorem dX8_keywordOf_46 : decode cX8_keywordOf 46 = .ok (.ifCond .ne 5, 3) := by decide +kernel
theorem dX8_keywordOf_49 : decode cX8_keywordOf 49 = .ok (.iload_n 2, 1) := by decide +kernel
theorem dX8_keywordOf_50 : decode cX8_keywordOf 50 = .ok (.ireturn, 1) := by decide +kernel
theorem dX8_keywordOf_51 : decode cX8_keywordOf 51 = .ok (.iinc 2 1, 3) := by decide +kernel
theorem dX8_keywordOf_54 : decode cX8_keywordOf 54 = .ok (.lconst 0, 1) := by decide +kernel
theorem dX8_keywordOf_55 : decode cX8_keywordOf 55 = .ok (.lstore_n 3, 1) := by decide +kernel
theorem dX8_keywordOf_56 : decode cX8_keywordOf 56 = .ok (.iinc 5 1, 3) := by decide +kernel
theorem dX8_keywordOf_59 : decode cX8_keywordOf 59 = .ok (.goto (-52), 3) := by decide +kernel
theorem dX8_keywordOf_62 : decode cX8_keywordOf 62 = .ok (.iconst (-1), 1) := by decide +kernel
theorem dX8_keywordOf_63 : decode cX8_keywordOf 63 = .ok (.ireturn, 1) := by decide +kernel
theorem dX9_init_0 : decode cX9_init 0 = .ok (.aload_n 0, 1) := by decide +kernel
theorem dX9_init_1 : decode cX9_init 1 = .ok (.invokespecial 5, 3) := by decide +kernel
theorem dX9_init_4 : decode cX9_init 4 = .ok (.aload_n 0, 1) := by decide +kernel
theorem dX9_init_5 : decode cX9_init 5 = .ok (.bipush 60, 2) := by decide +kernel
theorem dX9_init_7 : decode cX9_init 7 = .ok (.newarray .int, 2) := by decide +kernel
theorem dX9_init_9 : decode cX9_init 9 = .ok (.putfield 11, 3) := by decide +kernel
theorem dX9_init_12 : decode cX9_init 12 = .ok (.aload_n 0, 1) := by decide +kernel
theorem dX9_init_13 : decode cX9_init 13 = .ok (.bipush 60, 2) := by decide +kernel
theorem dX9_init_15 : decode cX9_init 15 = .ok (.newarray .int, 2) := by decide +kernel
theorem dX9_init_17 : decode cX9_init 17 = .ok (.putfield 15, 3) := by decide +kernel
theorem dX9_init_20 : decode cX9_init 20 = .ok (.aload_n 0, 1) := by decide +kernel
theorem dX9_init_21 : decode cX9_init 21 = .ok (.bipush 60, 2) := by decide +kernel
theorem dX9_init_23 : decode cX9_init 23 = .ok (.newarray .int, 2) := by decide +kernel
theorem dX9_init_25 : decode cX9_init 25 = .ok (.putfield 18, 3) := by decide +kernel
theorem dX9_init_28 : decode cX9_init 28 = .ok (.aload_n 0, 1) := by decide +kernel
theorem dX9_init_29 : decode cX9_init 29 = .ok (.bipush 60, 2) := by decide +kernel
theorem dX9_init_31 : decode cX9_init 31 = .ok (.newarray .int, 2) := by decide +kernel
theorem dX9_init_33 : decode cX9_init 33 = .ok (.putfield 21, 3) := by decide +kernel
theorem dX9_init_36 : decode cX9_init 36 = .ok (.aload_n 0, 1) := by decide +kernel
theorem dX9_init_37 : decode cX9_init 37 = .ok (.bipush 60, 2) := by decide +kernel
theorem dX9_init_39 : decode cX9_init 39 = .ok (.newarray .int, 2) := by decide +kernel
theorem dX9_init_41 : decode cX9_init 41 = .ok (.putfield 24, 3) := by decide +kernel
theorem dX9_init_44 : decode cX9_init 44 = .ok (.aload_n 0, 1) := by decide +kernel
theorem dX9_init_45 : decode cX9_init 45 = .ok (.bipush 60, 2) := by decide +kernel
theorem dX9_init_47 : decode cX9_init 47 = .ok (.newarray .int, 2) := by decide +kernel
theorem dX9_init_49 : decode cX9_init 49 = .ok (.putfield 27, 3) := by decide +kernel
theorem dX9_init_52 : decode cX9_init 52 = .ok (.return_, 1) := by decide +kernel
theorem dX9_makeEmpty_0 : decode cX9_makeEmpty 0 = .ok (.aload_n 0, 1) := by decide +kernel
theorem dX9_makeEmpty_1 : decode cX9_makeEmpty 1 = .ok (.iconst 0, 1) := by decide +kernel
theorem dX9_makeEmpty_2 : decode cX9_makeEmpty 2 = .ok (.putfield 30, 3) := by decide +kernel
theorem dX9_makeEmpty_5 : decode cX9_makeEmpty 5 = .ok (.aload_n 0, 1) := by decide +kernel
theorem dX9_makeEmpty_6 : decode cX9_makeEmpty 6 = .ok (.iconst 0, 1) := by decide +kernel
theorem dX9_makeEmpty_7 : decode cX9_makeEmpty 7 = .ok (.putfield 34, 3) := by decide +kernel
theorem dX9_makeEmpty_10 : decode cX9_makeEmpty 10 = .ok (.aload_n 0, 1) := by decide +kernel
theorem dX9_makeEmpty_11 : decode cX9_makeEmpty 11 = .ok (.iconst 0, 1) := by decide +kernel
theorem dX9_makeEmpty_12 : decode cX9_makeEmpty 12 = .ok (.putfield 38, 3) := by decide +kernel
theorem dX9_makeEmpty_15 : decode cX9_makeEmpty 15 = .ok (.return_, 1) := by decide +kernel
theorem dX9_takeFrom_0 : decode cX9_takeFrom 0 = .ok (.aload_n 0, 1) := by decide +kernel
theorem dX9_takeFrom_1 : decode cX9_takeFrom 1 = .ok (.aload_n 1, 1) := by decide +kernel
theorem dX9_takeFrom_2 : decode cX9_takeFrom 2 = .ok (.getfield 30, 3) := by decide +kernel
theorem dX9_takeFrom_5 : decode cX9_takeFrom 5 = .ok (.putfield 30, 3) := by decide +kernel
theorem dX9_takeFrom_8 : decode cX9_takeFrom 8 = .ok (.aload_n 0, 1) := by decide +kernel
theorem dX9_takeFrom_9 : decode cX9_takeFrom 9 = .ok (.aload_n 1, 1) := by decide +kernel
theorem dX9_takeFrom_10 : decode cX9_takeFrom 10 = .ok (.getfield 34, 3) := by decide +kernel
theorem dX9_takeFrom_13 : decode cX9_takeFrom 13 = .ok (.putfield 34, 3) := by decide +kernel
theorem dX9_takeFrom_16 : decode cX9_takeFrom 16 = .ok (.aload_n 0, 1) := by decide +kernel
theorem dX9_takeFrom_17 : decode cX9_takeFrom 17 = .ok (.aload_n 1, 1) := by decide +kernel
theorem dX9_takeFrom_18 : decode cX9_takeFrom 18 = .ok (.getfield 38, 3) := by decide +kernel
theorem dX9_takeFrom_21 : decode cX9_takeFrom 21 = .ok (.putfield 38, 3) := by decide +kernel
theorem dX9_takeFrom_24 : decode cX9_takeFrom 24 = .ok (.aload_n 1, 1) := by decide +kernel
theorem dX9_takeFrom_25 : decode cX9_takeFrom 25 = .ok (.getfield 11, 3) := by decide +kernel
theorem dX9_takeFrom_28 : decode cX9_takeFrom 28 = .ok (.iconst 0, 1) := by decide +kernel
theorem dX9_takeFrom_29 : decode cX9_takeFrom 29 = .ok (.aload_n 0, 1) := by decide +kernel
theorem dX9_takeFrom_30 : decode cX9_takeFrom 30 = .ok (.getfield 11, 3) := by decide +kernel
theorem dX9_takeFrom_33 : decode cX9_takeFrom 33 = .ok (.iconst 0, 1) := by decide +kernel
theorem dX9_takeFrom_34 : decode cX9_takeFrom 34 = .ok (.bipush 60, 2) := by decide +kernel
theorem dX9_takeFrom_36 : decode cX9_takeFrom 36 = .ok (.invokestatic 41, 3) := by decide +kernel
theorem dX9_takeFrom_39 : decode cX9_takeFrom 39 = .ok (.aload_n 1, 1) := by decide +kernel
theorem dX9_takeFrom_40 : decode cX9_takeFrom 40 = .ok (.getfield 15, 3) := by decide +kernel
theorem dX9_takeFrom_43 : decode cX9_takeFrom 43 = .ok (.iconst 0, 1) := by decide +kernel
theorem dX9_takeFrom_44 : decode cX9_takeFrom 44 = .ok (.aload_n 0, 1) := by decide +kernel
theorem dX9_takeFrom_45 : decode cX9_takeFrom 45 = .ok (.getfield 15, 3) := by decide +kernel
theorem dX9_takeFrom_48 : decode cX9_takeFrom 48 = .ok (.iconst 0, 1) := by decide +kernel
theorem dX9_takeFrom_49 : decode cX9_takeFrom 49 = .ok (.bipush 60, 2) := by decide +kernel
theorem dX9_takeFrom_51 : decode cX9_takeFrom 51 = .ok (.invokestatic 41, 3) := by decide +kernel
theorem dX9_takeFrom_54 : decode cX9_takeFrom 54 = .ok (.aload_n 1, 1) := by decide +kernel
theorem dX9_takeFrom_55 : decode cX9_takeFrom 55 = .ok (.getfield 18, 3) := by decide +kernel
theorem dX9_takeFrom_58 : decode cX9_takeFrom 58 = .ok (.iconst 0, 1) := by decide +kernel
theorem dX9_takeFrom_59 : decode cX9_takeFrom 59 = .ok (.aload_n 0, 1) := by decide +kernel
theorem dX9_takeFrom_60 : decode cX9_takeFrom 60 = .ok (.getfield 18, 3) := by decide +kernel
theorem dX9_takeFrom_63 : decode cX9_takeFrom 63 = .ok (.iconst 0, 1) := by decide +kernel
theorem dX9_takeFrom_64 : decode cX9_takeFrom 64 = .ok (.bipush 60, 2) := by decide +kernel
theorem dX9_takeFrom_66 : decode cX9_takeFrom 66 = .ok (.invokestatic 41, 3) := by decide +kernel
theorem dX9_takeFrom_69 : decode cX9_takeFrom 69 = .ok (.aload_n 1, 1) := by decide +kernel
theorem dX9_takeFrom_70 : decode cX9_takeFrom 70 = .ok (.getfield 21, 3) := by decide +kernel
theorem dX9_takeFrom_73 : decode cX9_takeFrom 73 = .ok (.iconst 0, 1) := by decide +kernel
theorem dX9_takeFrom_74 : decode cX9_takeFrom 74 = .ok (.aload_n 0, 1) := by decide +kernel
theorem dX9_takeFrom_75 : decode cX9_takeFrom 75 = .ok (.getfield 21, 3) := by decide +kernel
theorem dX9_takeFrom_78 : decode cX9_takeFrom 78 = .ok (.iconst 0, 1) := by decide +kernel
theorem dX9_takeFrom_79 : decode cX9_takeFrom 79 = .ok (.bipush 60, 2) := by decide +kernel
theorem dX9_takeFrom_81 : decode cX9_takeFrom 81 = .ok (.invokestatic 41, 3) := by decide +kernel
theorem dX9_takeFrom_84 : decode cX9_takeFrom 84 = .ok (.aload_n 1, 1) := by decide +kernel
theorem dX9_takeFrom_85 : decode cX9_takeFrom 85 = .ok (.getfield 24, 3) := by decide +kernel
theorem dX9_takeFrom_88 : decode cX9_takeFrom 88 = .ok (.iconst 0, 1) := by decide +kernel
theorem dX9_takeFrom_89 : decode cX9_takeFrom 89 = .ok (.aload_n 0, 1) := by decide +kernel
theorem dX9_takeFrom_90 : decode cX9_takeFrom 90 = .ok (.getfield 24, 3) := by decide +kernel
theorem dX9_takeFrom_93 : decode cX9_takeFrom 93 = .ok (.iconst 0, 1) := by decide +kernel
theorem dX9_takeFrom_94 : decode cX9_takeFrom 94 = .ok (.bipush 60, 2) := by decide +kernel
theorem dX9_takeFrom_96 : decode cX9_takeFrom 96 = .ok (.invokestatic 41, 3) := by decide +kernel
theorem dX9_takeFrom_99 : decode cX9_takeFrom 99 = .ok (.aload_n 1, 1) := by decide +kernel
theorem dX9_takeFrom_100 : decode cX9_takeFrom 100 = .ok (.getfield 27, 3) := by decide +kernel
theorem dX9_takeFrom_103 : decode cX9_takeFrom 103 = .ok (.iconst 0, 1) := by decide +kernel
theorem dX9_takeFrom_104 : decode cX9_takeFrom 104 = .ok (.aload_n 0, 1) := by decide +kernel
theorem dX9_takeFrom_105 : decode cX9_takeFrom 105 = .ok (.getfield 27, 3) := by decide +kernel
theorem dX9_takeFrom_108 : decode cX9_takeFrom 108 = .ok (.iconst 0, 1) := by decide +kernel
theorem dX9_takeFrom_109 : decode cX9_takeFrom 109 = .ok (.bipush 60, 2) := by decide +kernel
theorem dX9_takeFrom_111 : decode cX9_takeFrom 111 = .ok (.invokestatic 41, 3) := by decide +kernel
theorem dX9_takeFrom_114 : decode cX9_takeFrom 114 = .ok (.return_, 1) := by decide +kernel
theorem dX9_add_0 : decode cX9_add 0 = .ok (.aload_n 0, 1) := by decide +kernel
theorem dX9_add_1 : decode cX9_add 1 = .ok (.getfield 38, 3) := by decide +kernel
theorem dX9_add_4 : decode cX9_add 4 = .ok (.bipush 60, 2) := by decide +kernel
theorem dX9_add_6 : decode cX9_add 6 = .ok (.if_icmp .ge 76, 3) := by decide +kernel
theorem dX9_add_9 : decode cX9_add 9 = .ok (.aload_n 0, 1) := by decide +kernel
theorem dX9_add_10 : decode cX9_add 10 = .ok (.getfield 11, 3) := by decide +kernel
theorem dX9_add_13 : decode cX9_add 13 = .ok (.aload_n 0, 1) := by decide +kernel
theorem dX9_add_14 : decode cX9_add 14 = .ok (.getfield 38, 3) := by decide +kernel
theorem dX9_add_17 : decode cX9_add 17 = .ok (.iload_n 1, 1) := by decide +kernel
theorem dX9_add_18 : decode cX9_add 18 = .ok (.iastore, 1) := by decide +kernel
theorem dX9_add_19 : decode cX9_add 19 = .ok (.aload_n 0, 1) := by decide +kernel
theorem dX9_add_20 : decode cX9_add 20 = .ok (.getfield 15, 3) := by decide +kernel
theorem dX9_add_23 : decode cX9_add 23 = .ok (.aload_n 0, 1) := by decide +kernel
theorem dX9_add_24 : decode cX9_add 24 = .ok (.getfield 38, 3) := by decide +kernel
theorem dX9_add_27 : decode cX9_add 27 = .ok (.iconst (-1), 1) := by decide +kernel
theorem dX9_add_28 : decode cX9_add 28 = .ok (.iastore, 1) := by decide +kernel
theorem dX9_add_29 : decode cX9_add 29 = .ok (.aload_n 0, 1) := by decide +kernel
theorem dX9_add_30 : decode cX9_add 30 = .ok (.getfield 18, 3) := by decide +kernel
theorem dX9_add_33 : decode cX9_add 33 = .ok (.aload_n 0, 1) := by decide +kernel
theorem dX9_add_34 : decode cX9_add 34 = .ok (.getfield 38, 3) := by decide +kernel
theorem dX9_add_37 : decode cX9_add 37 = .ok (.iload_n 2, 1) := by decide +kernel
theorem dX9_add_38 : decode cX9_add 38 = .ok (.iastore, 1) := by decide +kernel
theorem dX9_add_39 : decode cX9_add 39 = .ok (.aload_n 0, 1) := by decide +kernel
theorem dX9_add_40 : decode cX9_add 40 = .ok (.getfield 21, 3) := by decide +kernel
theorem dX9_add_43 : decode cX9_add 43 = .ok (.aload_n 0, 1) := by decide +kernel
theorem dX9_add_44 : decode cX9_add 44 = .ok (.getfield 38, 3) := by decide +kernel
theorem dX9_add_47 : decode cX9_add 47 = .ok (.iconst (-1), 1) := by decide +kernel
theorem dX9_add_48 : decode cX9_add 48 = .ok (.iastore, 1) := by decide +kernel
theorem dX9_add_49 : decode cX9_add 49 = .ok (.aload_n 0, 1) := by decide +kernel
theorem dX9_add_50 : decode cX9_add 50 = .ok (.getfield 24, 3) := by decide +kernel
theorem dX9_add_53 : decode cX9_add 53 = .ok (.aload_n 0, 1) := by decide +kernel
theorem dX9_add_54 : decode cX9_add 54 = .ok (.getfield 38, 3) := by decide +kernel
theorem dX9_add_57 : decode cX9_add 57 = .ok (.iload_n 3, 1) := by decide +kernel
theorem dX9_add_58 : decode cX9_add 58 = .ok (.iastore, 1) := by decide +kernel
theorem dX9_add_59 : decode cX9_add 59 = .ok (.aload_n 0, 1) := by decide +kernel
theorem dX9_add_60 : decode cX9_add 60 = .ok (.getfield 27, 3) := by decide +kernel
theorem dX9_add_63 : decode cX9_add 63 = .ok (.aload_n 0, 1) := by decide +kernel
theorem dX9_add_64 : decode cX9_add 64 = .ok (.getfield 38, 3) := by decide +kernel
theorem dX9_add_67 : decode cX9_add 67 = .ok (.aload_n 0, 1) := by decide +kernel
theorem dX9_add_68 : decode cX9_add 68 = .ok (.getfield 38, 3) := by decide +kernel
theorem dX9_add_71 : decode cX9_add 71 = .ok (.iastore, 1) := by decide +kernel
theorem dX9_add_72 : decode cX9_add 72 = .ok (.aload_n 0, 1) := by decide +kernel
theorem dX9_add_73 : decode cX9_add 73 = .ok (.dup, 1) := by decide +kernel
theorem dX9_add_74 : decode cX9_add 74 = .ok (.getfield 38, 3) := by decide +kernel
theorem dX9_add_77 : decode cX9_add 77 = .ok (.iconst 1, 1) := by decide +kernel
theorem dX9_add_78 : decode cX9_add 78 = .ok (.iadd, 1) := by decide +kernel
theorem dX9_add_79 : decode cX9_add 79 = .ok (.putfield 38, 3) := by decide +kernel
theorem dX9_add_82 : decode cX9_add 82 = .ok (.return_, 1) := by decide +kernel
theorem dX9_addStep_0 : decode cX9_addStep 0 = .ok (.aload_n 0, 1) := by decide +kernel
theorem dX9_addStep_1 : decode cX9_addStep 1 = .ok (.iload_n 1, 1) := by decide +kernel
theorem dX9_addStep_2 : decode cX9_addStep 2 = .ok (.iload_n 2, 1) := by decide +kernel
theorem dX9_addStep_3 : decode cX9_addStep 3 = .ok (.iload_n 3, 1) := by decide +kernel
theorem dX9_addStep_4 : decode cX9_addStep 4 = .ok (.invokevirtual 49, 3) := by decide +kernel
theorem dX9_addStep_7 : decode cX9_addStep 7 = .ok (.aload_n 0, 1) := by decide +kernel
theorem dX9_addStep_8 : decode cX9_addStep 8 = .ok (.dup, 1) := by decide +kernel
theorem dX9_addStep_9 : decode cX9_addStep 9 = .ok (.getfield 34, 3) := by decide +kernel
theorem dX9_addStep_12 : decode cX9_addStep 12 = .ok (.iconst 1, 1) := by decide +kernel
theorem dX9_addStep_13 : decode cX9_addStep 13 = .ok (.iadd, 1) := by decide +kernel
theorem dX9_addStep_14 : decode cX9_addStep 14 = .ok (.putfield 34, 3) := by decide +kernel
theorem dX9_addStep_17 : decode cX9_addStep 17 = .ok (.return_, 1) := by decide +kernel
theorem dX9_addWhen_0 : decode cX9_addWhen 0 = .ok (.aload_n 0, 1) := by decide +kernel
theorem dX9_addWhen_1 : decode cX9_addWhen 1 = .ok (.getfield 38, 3) := by decide +kernel
theorem dX9_addWhen_4 : decode cX9_addWhen 4 = .ok (.istore 5, 2) := by decide +kernel
theorem dX9_addWhen_6 : decode cX9_addWhen 6 = .ok (.aload_n 0, 1) := by decide +kernel
theorem dX9_addWhen_7 : decode cX9_addWhen 7 = .ok (.bipush 18, 2) := by decide +kernel
theorem dX9_addWhen_9 : decode cX9_addWhen 9 = .ok (.iload_n 2, 1) := by decide +kernel
theorem dX9_addWhen_10 : decode cX9_addWhen 10 = .ok (.iload 4, 2) := by decide +kernel
theorem dX9_addWhen_12 : decode cX9_addWhen 12 = .ok (.invokevirtual 53, 3) := by decide +kernel
theorem dX9_addWhen_15 : decode cX9_addWhen 15 = .ok (.iload 5, 2) := by decide +kernel
theorem dX9_addWhen_17 : decode cX9_addWhen 17 = .ok (.bipush 60, 2) := by decide +kernel
theorem dX9_addWhen_19 : decode cX9_addWhen 19 = .ok (.if_icmp .ge 19, 3) := by decide +kernel
theorem dX9_addWhen_22 : decode cX9_addWhen 22 = .ok (.aload_n 0, 1) := by decide +kernel
theorem dX9_addWhen_23 : decode cX9_addWhen 23 = .ok (.getfield 15, 3) := by decide +kernel
theorem dX9_addWhen_26 : decode cX9_addWhen 26 = .ok (.iload 5, 2) := by decide +kernel
theorem dX9_addWhen_28 : decode cX9_addWhen 28 = .ok (.iload_n 1, 1) := by decide +kernel
theorem dX9_addWhen_29 : decode cX9_addWhen 29 = .ok (.iastore, 1) := by decide +kernel
theorem dX9_addWhen_30 : decode cX9_addWhen 30 = .ok (.aload_n 0, 1) := by decide +kernel
theorem dX9_addWhen_31 : decode cX9_addWhen 31 = .ok (.getfield 21, 3) := by decide +kernel
theorem dX9_addWhen_34 : decode cX9_addWhen 34 = .ok (.iload 5, 2) := by decide +kernel
theorem dX9_addWhen_36 : decode cX9_addWhen 36 = .ok (.iload_n 3, 1) := by decide +kernel
theorem dX9_addWhen_37 : decode cX9_addWhen 37 = .ok (.iastore, 1) := by decide +kernel
theorem dX9_addWhen_38 : decode cX9_addWhen 38 = .ok (.return_, 1) := by decide +kernel
theorem dX9_addEnd_0 : decode cX9_addEnd 0 = .ok (.aload_n 0, 1) := by decide +kernel
theorem dX9_addEnd_1 : decode cX9_addEnd 1 = .ok (.getfield 38, 3) := by decide +kernel
theorem dX9_addEnd_4 : decode cX9_addEnd 4 = .ok (.bipush 60, 2) := by decide +kernel
theorem dX9_addEnd_6 : decode cX9_addEnd 6 = .ok (.if_icmp .ge 47, 3) := by decide +kernel
theorem dX9_addEnd_9 : decode cX9_addEnd 9 = .ok (.iload_n 1, 1) := by decide +kernel
theorem dX9_addEnd_10 : decode cX9_addEnd 10 = .ok (.ifCond .lt 43, 3) := by decide +kernel
theorem dX9_addEnd_13 : decode cX9_addEnd 13 = .ok (.iload_n 1, 1) := by decide +kernel
theorem dX9_addEnd_14 : decode cX9_addEnd 14 = .ok (.aload_n 0, 1) := by decide +kernel
theorem dX9_addEnd_15 : decode cX9_addEnd 15 = .ok (.getfield 38, 3) := by decide +kernel
theorem dX9_addEnd_18 : decode cX9_addEnd 18 = .ok (.if_icmp .ge 35, 3) := by decide +kernel
theorem dX9_addEnd_21 : decode cX9_addEnd 21 = .ok (.aload_n 0, 1) := by decide +kernel
theorem dX9_addEnd_22 : decode cX9_addEnd 22 = .ok (.bipush 23, 2) := by decide +kernel
theorem dX9_addEnd_24 : decode cX9_addEnd 24 = .ok (.iconst (-1), 1) := by decide +kernel
theorem dX9_addEnd_25 : decode cX9_addEnd 25 = .ok (.iconst 0, 1) := by decide +kernel
theorem dX9_addEnd_26 : decode cX9_addEnd 26 = .ok (.invokevirtual 49, 3) := by decide +kernel
theorem dX9_addEnd_29 : decode cX9_addEnd 29 = .ok (.aload_n 0, 1) := by decide +kernel
theorem dX9_addEnd_30 : decode cX9_addEnd 30 = .ok (.getfield 27, 3) := by decide +kernel
theorem dX9_addEnd_33 : decode cX9_addEnd 33 = .ok (.aload_n 0, 1) := by decide +kernel
theorem dX9_addEnd_34 : decode cX9_addEnd 34 = .ok (.getfield 38, 3) := by decide +kernel
theorem dX9_addEnd_37 : decode cX9_addEnd 37 = .ok (.iconst 1, 1) := by decide +kernel
theorem dX9_addEnd_38 : decode cX9_addEnd 38 = .ok (.isub, 1) := by decide +kernel
theorem dX9_addEnd_39 : decode cX9_addEnd 39 = .ok (.iload_n 1, 1) := by decide +kernel
theorem dX9_addEnd_40 : decode cX9_addEnd 40 = .ok (.iastore, 1) := by decide +kernel
theorem dX9_addEnd_41 : decode cX9_addEnd 41 = .ok (.aload_n 0, 1) := by decide +kernel
theorem dX9_addEnd_42 : decode cX9_addEnd 42 = .ok (.getfield 27, 3) := by decide +kernel
theorem dX9_addEnd_45 : decode cX9_addEnd 45 = .ok (.iload_n 1, 1) := by decide +kernel
theorem dX9_addEnd_46 : decode cX9_addEnd 46 = .ok (.aload_n 0, 1) := by decide +kernel
theorem dX9_addEnd_47 : decode cX9_addEnd 47 = .ok (.getfield 38, 3) := by decide +kernel
theorem dX9_addEnd_50 : decode cX9_addEnd 50 = .ok (.iconst 1, 1) := by decide +kernel
theorem dX9_addEnd_51 : decode cX9_addEnd 51 = .ok (.isub, 1) := by decide +kernel
theorem dX9_addEnd_52 : decode cX9_addEnd 52 = .ok (.iastore, 1) := by decide +kernel
theorem dX9_addEnd_53 : decode cX9_addEnd 53 = .ok (.return_, 1) := by decide +kernel
theorem dJ6_bitCount_0f7a4_0 : decode cJ6_bitCount_0f7a4 0 = .ok (.iload_n 0, 1) := by decide +kernel
theorem dJ6_bitCount_0f7a4_1 : decode cJ6_bitCount_0f7a4 1 = .ok (.iload_n 0, 1) := by decide +kernel
theorem dJ6_bitCount_0f7a4_2 : decode cJ6_bitCount_0f7a4 2 = .ok (.iconst 1, 1) := by decide +kernel
theorem dJ6_bitCount_0f7a4_3 : decode cJ6_bitCount_0f7a4 3 = .ok (.iushr, 1) := by decide +kernel
theorem dJ6_bitCount_0f7a4_4 : decode cJ6_bitCount_0f7a4 4 = .ok (.ldc_w 265, 3) := by decide +kernel
theorem dJ6_bitCount_0f7a4_7 : decode cJ6_bitCount_0f7a4 7 = .ok (.iand, 1) := by decide +kernel
theorem dJ6_bitCount_0f7a4_8 : decode cJ6_bitCount_0f7a4 8 = .ok (.isub, 1) := by decide +kernel
theorem dJ6_bitCount_0f7a4_9 : decode cJ6_bitCount_0f7a4 9 = .ok (.istore_n 0, 1) := by decide +kernel
theorem dJ6_bitCount_0f7a4_10 : decode cJ6_bitCount_0f7a4 10 = .ok (.iload_n 0, 1) := by decide +kernel
theorem dJ6_bitCount_0f7a4_11 : decode cJ6_bitCount_0f7a4 11 = .ok (.ldc_w 266, 3) := by decide +kernel
theorem dJ6_bitCount_0f7a4_14 : decode cJ6_bitCount_0f7a4 14 = .ok (.iand, 1) := by decide +kernel
theorem dJ6_bitCount_0f7a4_15 : decode cJ6_bitCount_0f7a4 15 = .ok (.iload_n 0, 1) := by decide +kernel
theorem dJ6_bitCount_0f7a4_16 : decode cJ6_bitCount_0f7a4 16 = .ok (.iconst 2, 1) := by decide +kernel
theorem dJ6_bitCount_0f7a4_17 : decode cJ6_bitCount_0f7a4 17 = .ok (.iushr, 1) := by decide +kernel
theorem dJ6_bitCount_0f7a4_18 : decode cJ6_bitCount_0f7a4 18 = .ok (.ldc_w 266, 3) := by decide +kernel
theorem dJ6_bitCount_0f7a4_21 : decode cJ6_bitCount_0f7a4 21 = .ok (.iand, 1) := by decide +kernel
theorem dJ6_bitCount_0f7a4_22 : decode cJ6_bitCount_0f7a4 22 = .ok (.iadd, 1) := by decide +kernel
theorem dJ6_bitCount_0f7a4_23 : decode cJ6_bitCount_0f7a4 23 = .ok (.istore_n 0, 1) := by decide +kernel
theorem dJ6_bitCount_0f7a4_24 : decode cJ6_bitCount_0f7a4 24 = .ok (.iload_n 0, 1) := by decide +kernel
theorem dJ6_bitCount_0f7a4_25 : decode cJ6_bitCount_0f7a4 25 = .ok (.iload_n 0, 1) := by decide +kernel
theorem dJ6_bitCount_0f7a4_26 : decode cJ6_bitCount_0f7a4 26 = .ok (.iconst 4, 1) := by decide +kernel
theorem dJ6_bitCount_0f7a4_27 : decode cJ6_bitCount_0f7a4 27 = .ok (.iushr, 1) := by decide +kernel
theorem dJ6_bitCount_0f7a4_28 : decode cJ6_bitCount_0f7a4 28 = .ok (.iadd, 1) := by decide +kernel
theorem dJ6_bitCount_0f7a4_29 : decode cJ6_bitCount_0f7a4 29 = .ok (.ldc_w 267, 3) := by decide +kernel
theorem dJ6_bitCount_0f7a4_32 : decode cJ6_bitCount_0f7a4 32 = .ok (.iand, 1) := by decide +kernel
theorem dJ6_bitCount_0f7a4_33 : decode cJ6_bitCount_0f7a4 33 = .ok (.istore_n 0, 1) := by decide +kernel
theorem dJ6_bitCount_0f7a4_34 : decode cJ6_bitCount_0f7a4 34 = .ok (.iload_n 0, 1) := by decide +kernel
theorem dJ6_bitCount_0f7a4_35 : decode cJ6_bitCount_0f7a4 35 = .ok (.iload_n 0, 1) := by decide +kernel
theorem dJ6_bitCount_0f7a4_36 : decode cJ6_bitCount_0f7a4 36 = .ok (.bipush 8, 2) := by decide +kernel
theorem dJ6_bitCount_0f7a4_38 : decode cJ6_bitCount_0f7a4 38 = .ok (.iushr, 1) := by decide +kernel
theorem dJ6_bitCount_0f7a4_39 : decode cJ6_bitCount_0f7a4 39 = .ok (.iadd, 1) := by decide +kernel
theorem dJ6_bitCount_0f7a4_40 : decode cJ6_bitCount_0f7a4 40 = .ok (.istore_n 0, 1) := by decide +kernel
theorem dJ6_bitCount_0f7a4_41 : decode cJ6_bitCount_0f7a4 41 = .ok (.iload_n 0, 1) := by decide +kernel
theorem dJ6_bitCount_0f7a4_42 : decode cJ6_bitCount_0f7a4 42 = .ok (.iload_n 0, 1) := by decide +kernel
theorem dJ6_bitCount_0f7a4_43 : decode cJ6_bitCount_0f7a4 43 = .ok (.bipush 16, 2) := by decide +kernel
theorem dJ6_bitCount_0f7a4_45 : decode cJ6_bitCount_0f7a4 45 = .ok (.iushr, 1) := by decide +kernel
theorem dJ6_bitCount_0f7a4_46 : decode cJ6_bitCount_0f7a4 46 = .ok (.iadd, 1) := by decide +kernel
theorem dJ6_bitCount_0f7a4_47 : decode cJ6_bitCount_0f7a4 47 = .ok (.istore_n 0, 1) := by decide +kernel
theorem dJ6_bitCount_0f7a4_48 : decode cJ6_bitCount_0f7a4 48 = .ok (.iload_n 0, 1) := by decide +kernel
theorem dJ6_bitCount_0f7a4_49 : decode cJ6_bitCount_0f7a4 49 = .ok (.bipush 63, 2) := by decide +kernel
theorem dJ6_bitCount_0f7a4_51 : decode cJ6_bitCount_0f7a4 51 = .ok (.iand, 1) := by decide +kernel
theorem dJ6_bitCount_0f7a4_52 : decode cJ6_bitCount_0f7a4 52 = .ok (.ireturn, 1) := by decide +kernel
theorem dJ7_fill_d0a16_0 : decode cJ7_fill_d0a16 0 = .ok (.iconst 0, 1) := by decide +kernel
theorem dJ7_fill_d0a16_1 : decode cJ7_fill_d0a16 1 = .ok (.istore_n 3, 1) := by decide +kernel
theorem dJ7_fill_d0a16_2 : decode cJ7_fill_d0a16 2 = .ok (.aload_n 0, 1) := by decide +kernel
theorem dJ7_fill_d0a16_3 : decode cJ7_fill_d0a16 3 = .ok (.arraylength, 1) := by decide +kernel
theorem dJ7_fill_d0a16_4 : decode cJ7_fill_d0a16 4 = .ok (.istore 4, 2) := by decide +kernel
theorem dJ7_fill_d0a16_6 : decode cJ7_fill_d0a16 6 = .ok (.iload_n 3, 1) := by decide +kernel
theorem dJ7_fill_d0a16_7 : decode cJ7_fill_d0a16 7 = .ok (.iload 4, 2) := by decide +kernel
theorem dJ7_fill_d0a16_9 : decode cJ7_fill_d0a16 9 = .ok (.if_icmp .ge 13, 3) := by decide +kernel
theorem dJ7_fill_d0a16_12 : decode cJ7_fill_d0a16 12 = .ok (.aload_n 0, 1) := by decide +kernel
theorem dJ7_fill_d0a16_13 : decode cJ7_fill_d0a16 13 = .ok (.iload_n 3, 1) := by decide +kernel
theorem dJ7_fill_d0a16_14 : decode cJ7_fill_d0a16 14 = .ok (.lload_n 1, 1) := by decide +kernel
theorem dJ7_fill_d0a16_15 : decode cJ7_fill_d0a16 15 = .ok (.lastore, 1) := by decide +kernel
theorem dJ7_fill_d0a16_16 : decode cJ7_fill_d0a16 16 = .ok (.iinc 3 1, 3) := by decide +kernel
theorem dJ7_fill_d0a16_19 : decode cJ7_fill_d0a16 19 = .ok (.goto (-13), 3) := by decide +kernel
theorem dJ7_fill_d0a16_22 : decode cJ7_fill_d0a16 22 = .ok (.return_, 1) := by decide +kernel
theorem dJ7_fill_53178_0 : decode cJ7_fill_53178 0 = .ok (.iconst 0, 1) := by decide +kernel
theorem dJ7_fill_53178_1 : decode cJ7_fill_53178 1 = .ok (.istore_n 2, 1) := by decide +kernel
theorem dJ7_fill_53178_2 : decode cJ7_fill_53178 2 = .ok (.aload_n 0, 1) := by decide +kernel
theorem dJ7_fill_53178_3 : decode cJ7_fill_53178 3 = .ok (.arraylength, 1) := by decide +kernel
theorem dJ7_fill_53178_4 : decode cJ7_fill_53178 4 = .ok (.istore_n 3, 1) := by decide +kernel
theorem dJ7_fill_53178_5 : decode cJ7_fill_53178 5 = .ok (.iload_n 2, 1) := by decide +kernel
theorem dJ7_fill_53178_6 : decode cJ7_fill_53178 6 = .ok (.iload_n 3, 1) := by decide +kernel
theorem dJ7_fill_53178_7 : decode cJ7_fill_53178 7 = .ok (.if_icmp .ge 13, 3) := by decide +kernel
theorem dJ7_fill_53178_10 : decode cJ7_fill_53178 10 = .ok (.aload_n 0, 1) := by decide +kernel
theorem dJ7_fill_53178_11 : decode cJ7_fill_53178 11 = .ok (.iload_n 2, 1) := by decide +kernel
theorem dJ7_fill_53178_12 : decode cJ7_fill_53178 12 = .ok (.iload_n 1, 1) := by decide +kernel
theorem dJ7_fill_53178_13 : decode cJ7_fill_53178 13 = .ok (.iastore, 1) := by decide +kernel
theorem dJ7_fill_53178_14 : decode cJ7_fill_53178 14 = .ok (.iinc 2 1, 3) := by decide +kernel
theorem dJ7_fill_53178_17 : decode cJ7_fill_53178 17 = .ok (.goto (-12), 3) := by decide +kernel
theorem dJ7_fill_53178_20 : decode cJ7_fill_53178 20 = .ok (.return_, 1) := by decide +kernel

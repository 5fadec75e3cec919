theorem mibX11 : mthB miX11_init 0 := ⟨tb_1 (List.mem_of_getElem? (i := 1) rfl) rfl, tb_1 (List.mem_of_getElem? (i := 26) rfl) rfl, by decide +kernel⟩
theorem miiX11 : Cond.instanceMethod miX11_init.1 ∈ TB := tb_1 (List.mem_of_getElem? (i := 25) rfl) rfl
theorem micX11 : Cond.initialized RX11 ∈ TB := tb_1 (List.mem_of_getElem? (i := 1) rfl) rfl
theorem mibX5 : mthB miX5_init 0 := ⟨tb_1 (List.mem_of_getElem? (i := 2) rfl) rfl, tb_1 (List.mem_of_getElem? (i := 34) rfl) rfl, by decide +kernel⟩
theorem miiX5 : Cond.instanceMethod miX5_init.1 ∈ TB := tb_1 (List.mem_of_getElem? (i := 33) rfl) rfl
theorem micX5 : Cond.initialized RX5 ∈ TB := tb_1 (List.mem_of_getElem? (i := 2) rfl) rfl
theorem mibX4 : mthB miX4_init 0 := ⟨tb_1 (List.mem_of_getElem? (i := 4) rfl) rfl, tb_1 (List.mem_of_getElem? (i := 60) rfl) rfl, by decide +kernel⟩
theorem miiX4 : Cond.instanceMethod miX4_init.1 ∈ TB := tb_1 (List.mem_of_getElem? (i := 59) rfl) rfl
theorem micX4 : Cond.initialized RX4 ∈ TB := tb_1 (List.mem_of_getElem? (i := 4) rfl) rfl
theorem mibX7 : mthB miX7_init 0 := ⟨tb_1 (List.mem_of_getElem? (i := 5) rfl) rfl, tb_1 (List.mem_of_getElem? (i := 90) rfl) rfl, by decide +kernel⟩
theorem miiX7 : Cond.instanceMethod miX7_init.1 ∈ TB := tb_1 (List.mem_of_getElem? (i := 89) rfl) rfl
theorem micX7 : Cond.initialized RX7 ∈ TB := tb_1 (List.mem_of_getElem? (i := 5) rfl) rfl
theorem mibX10 : mthB miX10_init 0 := ⟨tb_1 (List.mem_of_getElem? (i := 6) rfl) rfl, tb_1 (List.mem_of_getElem? (i := 100) rfl) rfl, by decide +kernel⟩
theorem miiX10 : Cond.instanceMethod miX10_init.1 ∈ TB := tb_1 (List.mem_of_getElem? (i := 99) rfl) rfl
theorem micX10 : Cond.initialized RX10 ∈ TB := tb_1 (List.mem_of_getElem? (i := 6) rfl) rfl
theorem mibX6 : mthB miX6_init 0 := ⟨tb_1 (List.mem_of_getElem? (i := 7) rfl) rfl, tb_1 (List.mem_of_getElem? (i := 113) rfl) rfl, by decide +kernel⟩
theorem miiX6 : Cond.instanceMethod miX6_init.1 ∈ TB := tb_1 (List.mem_of_getElem? (i := 112) rfl) rfl
theorem micX6 : Cond.initialized RX6 ∈ TB := tb_1 (List.mem_of_getElem? (i := 7) rfl) rfl
theorem mibX9 : mthB miX9_init 0 := ⟨tb_1 (List.mem_of_getElem? (i := 8) rfl) rfl, tb_1 (List.mem_of_getElem? (i := 119) rfl) rfl, by decide +kernel⟩
theorem miiX9 : Cond.instanceMethod miX9_init.1 ∈ TB := tb_1 (List.mem_of_getElem? (i := 118) rfl) rfl
theorem micX9 : Cond.initialized RX9 ∈ TB := tb_1 (List.mem_of_getElem? (i := 8) rfl) rfl
theorem mibX2 : mthB miX2_init 0 := ⟨tb_1 (List.mem_of_getElem? (i := 9) rfl) rfl, tb_2 (List.mem_of_getElem? (i := 36) rfl) rfl, by decide +kernel⟩
theorem miiX2 : Cond.instanceMethod miX2_init.1 ∈ TB := tb_2 (List.mem_of_getElem? (i := 35) rfl) rfl
theorem micX2 : Cond.initialized RX2 ∈ TB := tb_1 (List.mem_of_getElem? (i := 9) rfl) rfl
theorem mibX0 : mthB miX0_init 0 := ⟨tb_1 (List.mem_of_getElem? (i := 10) rfl) rfl, tb_2 (List.mem_of_getElem? (i := 71) rfl) rfl, by decide +kernel⟩
theorem miiX0 : Cond.instanceMethod miX0_init.1 ∈ TB := tb_2 (List.mem_of_getElem? (i := 70) rfl) rfl
theorem micX0 : Cond.initialized RX0 ∈ TB := tb_1 (List.mem_of_getElem? (i := 10) rfl) rfl
theorem mibX3 : mthB miX3_init 0 := ⟨tb_1 (List.mem_of_getElem? (i := 11) rfl) rfl, tb_2 (List.mem_of_getElem? (i := 82) rfl) rfl, by decide +kernel⟩
theorem miiX3 : Cond.instanceMethod miX3_init.1 ∈ TB := tb_2 (List.mem_of_getElem? (i := 81) rfl) rfl
theorem micX3 : Cond.initialized RX3 ∈ TB := tb_1 (List.mem_of_getElem? (i := 11) rfl) rfl
theorem mibX1 : mthB miX1_init 0 := ⟨tb_1 (List.mem_of_getElem? (i := 12) rfl) rfl, tb_2 (List.mem_of_getElem? (i := 107) rfl) rfl, by decide +kernel⟩
theorem miiX1 : Cond.instanceMethod miX1_init.1 ∈ TB := tb_2 (List.mem_of_getElem? (i := 106) rfl) rfl
theorem micX1 : Cond.initialized RX1 ∈ TB := tb_1 (List.mem_of_getElem? (i := 12) rfl) rfl
theorem mibX12 : mthB miX12_init 0 := ⟨tb_1 (List.mem_of_getElem? (i := 13) rfl) rfl, tb_6 (List.mem_of_getElem? (i := 93) rfl) rfl, by decide +kernel⟩
theorem miiX12 : Cond.instanceMethod miX12_init.1 ∈ TB := tb_6 (List.mem_of_getElem? (i := 92) rfl) rfl
theorem micX12 : Cond.initialized RX12 ∈ TB := tb_1 (List.mem_of_getElem? (i := 13) rfl) rfl
set_option maxRecDepth 100000 in
set_option maxHeartbeats 1600000 in
theorem i_X6_17 (d : Nat) : BMt miX6_init (d + 1) 17 6 [.int 0, .int 0, .int 0, .int 0, .int 0, .int 0, .int 0, .null, .null, .null, .null, .null, .null, .null, .null, .null, .null, .null, .null, .null] [(17, .inl (6, [.int (nI 4), .int 0, .int 0, .int 0, .int 0, .int 0, .int 0, .ref 18, .ref 19, .ref 20, .ref 21, .ref 22, .ref 23, .ref 24, .ref 25, .ref 26, .ref 27, .ref 28, .ref 29, .ref 30])), (18, .inr (2, fun _ => zrB 2 6)), (19, .inr (0, fun _ => zrB 0 6)), (20, .inr (0, fun _ => zrB 0 6)), (21, .inr (0, fun _ => zrB 0 10)), (22, .inr (0, fun _ => zrB 0 10)), (23, .inr (2, fun _ => zrB 2 7)), (24, .inr (0, fun _ => zrB 0 7)), (25, .inr (0, fun _ => zrB 0 7)), (26, .inr (0, fun _ => zrB 0 7)), (27, .inr (0, fun _ => zrB 0 7)), (28, .inr (0, fun _ => zrB 0 8)), (29, .inr (0, fun _ => zrB 0 8)), (30, .inl (8, [.int 0, .int 0, .int 0, .ref 31, .ref 32, .ref 33, .ref 34, .ref 35, .ref 36])), (31, .inr (0, fun _ => zrB 0 60)), (32, .inr (0, fun _ => zrB 0 60)), (33, .inr (0, fun _ => zrB 0 60)), (34, .inr (0, fun _ => zrB 0 60)), (35, .inr (0, fun _ => zrB 0 60)), (36, .inr (0, fun _ => zrB 0 60))] 19 458 := by
  refine BMt.of (by decide) (by decide) (fun _ => rfl) ?_
  refine b_aload_n rfl dX6_init_0 ?_
  refine b_obj dX6_init_1 lobX6 ?_
  refine b_aload_n rfl dX6_init_4 ?_
  refine b_iconst (nI 4) (by decide) dX6_init_5 ?_
  refine b_put dX6_init_6 fX6_9 clsF_6 rfl (fun _ => rfl) (fun _ => rfl) (q0 := 0) rfl (by decide) ?_
  refine b_aload_n rfl dX6_init_9 ?_
  refine b_bipush (nI 6) (by decide) dX6_init_10 ?_
  refine b_newa (k := 18) (t := 2) (N := 6) (nc := 18) (ns := 452) dX6_init_12 rfl war_long (fun _ => rfl) hra_long (zr_long 6) (by decide) (by decide) (by decide) (fun _ _ => rfl) (fun _ _ => rfl) (fun _ _ => rfl) ?_
  refine b_putF dX6_init_14 fX6_15 clsF_6 rfl rfl rfl (fun _ => rfl) (fun _ => rfl) (q0 := 0) rfl (by decide) ?_
  refine b_aload_n rfl dX6_init_17 ?_
  refine b_bipush (nI 6) (by decide) dX6_init_18 ?_
  refine b_newa (k := 19) (t := 0) (N := 6) (nc := 17) (ns := 446) dX6_init_20 rfl war_int (fun _ => rfl) hra_int (zr_int 6) (by decide) (by decide) (by decide) (fun _ _ => rfl) (fun _ _ => rfl) (fun _ _ => rfl) ?_
  refine b_putF dX6_init_22 fX6_19 clsF_6 rfl rfl rfl (fun _ => rfl) (fun _ => rfl) (q0 := 0) rfl (by decide) ?_
  refine b_aload_n rfl dX6_init_25 ?_
  refine b_bipush (nI 6) (by decide) dX6_init_26 ?_
  refine b_newa (k := 20) (t := 0) (N := 6) (nc := 16) (ns := 440) dX6_init_28 rfl war_int (fun _ => rfl) hra_int (zr_int 6) (by decide) (by decide) (by decide) (fun _ _ => rfl) (fun _ _ => rfl) (fun _ _ => rfl) ?_
  refine b_putF dX6_init_30 fX6_23 clsF_6 rfl rfl rfl (fun _ => rfl) (fun _ => rfl) (q0 := 0) rfl (by decide) ?_
  refine b_aload_n rfl dX6_init_33 ?_
  refine b_bipush (nI 10) (by decide) dX6_init_34 ?_
  refine b_newa (k := 21) (t := 0) (N := 10) (nc := 15) (ns := 430) dX6_init_36 rfl war_int (fun _ => rfl) hra_int (zr_int 10) (by decide) (by decide) (by decide) (fun _ _ => rfl) (fun _ _ => rfl) (fun _ _ => rfl) ?_
  refine b_putF dX6_init_38 fX6_26 clsF_6 rfl rfl rfl (fun _ => rfl) (fun _ => rfl) (q0 := 0) rfl (by decide) ?_
  refine b_aload_n rfl dX6_init_41 ?_
  refine b_bipush (nI 10) (by decide) dX6_init_42 ?_
  refine b_newa (k := 22) (t := 0) (N := 10) (nc := 14) (ns := 420) dX6_init_44 rfl war_int (fun _ => rfl) hra_int (zr_int 10) (by decide) (by decide) (by decide) (fun _ _ => rfl) (fun _ _ => rfl) (fun _ _ => rfl) ?_
  refine b_putF dX6_init_46 fX6_29 clsF_6 rfl rfl rfl (fun _ => rfl) (fun _ => rfl) (q0 := 0) rfl (by decide) ?_
  refine b_aload_n rfl dX6_init_49 ?_
  refine b_bipush (nI 7) (by decide) dX6_init_50 ?_
  refine b_newa (k := 23) (t := 2) (N := 7) (nc := 13) (ns := 413) dX6_init_52 rfl war_long (fun _ => rfl) hra_long (zr_long 7) (by decide) (by decide) (by decide) (fun _ _ => rfl) (fun _ _ => rfl) (fun _ _ => rfl) ?_
  refine b_putF dX6_init_54 fX6_32 clsF_6 rfl rfl rfl (fun _ => rfl) (fun _ => rfl) (q0 := 0) rfl (by decide) ?_
  refine b_aload_n rfl dX6_init_57 ?_
  refine b_bipush (nI 7) (by decide) dX6_init_58 ?_
  refine b_newa (k := 24) (t := 0) (N := 7) (nc := 12) (ns := 406) dX6_init_60 rfl war_int (fun _ => rfl) hra_int (zr_int 7) (by decide) (by decide) (by decide) (fun _ _ => rfl) (fun _ _ => rfl) (fun _ _ => rfl) ?_
  refine b_putF dX6_init_62 fX6_35 clsF_6 rfl rfl rfl (fun _ => rfl) (fun _ => rfl) (q0 := 0) rfl (by decide) ?_
  refine b_aload_n rfl dX6_init_65 ?_
  refine b_bipush (nI 7) (by decide) dX6_init_66 ?_
  refine b_newa (k := 25) (t := 0) (N := 7) (nc := 11) (ns := 399) dX6_init_68 rfl war_int (fun _ => rfl) hra_int (zr_int 7) (by decide) (by decide) (by decide) (fun _ _ => rfl) (fun _ _ => rfl) (fun _ _ => rfl) ?_
  refine b_putF dX6_init_70 fX6_38 clsF_6 rfl rfl rfl (fun _ => rfl) (fun _ => rfl) (q0 := 0) rfl (by decide) ?_
  refine b_aload_n rfl dX6_init_73 ?_
  refine b_bipush (nI 7) (by decide) dX6_init_74 ?_
  refine b_newa (k := 26) (t := 0) (N := 7) (nc := 10) (ns := 392) dX6_init_76 rfl war_int (fun _ => rfl) hra_int (zr_int 7) (by decide) (by decide) (by decide) (fun _ _ => rfl) (fun _ _ => rfl) (fun _ _ => rfl) ?_
  refine b_putF dX6_init_78 fX6_41 clsF_6 rfl rfl rfl (fun _ => rfl) (fun _ => rfl) (q0 := 0) rfl (by decide) ?_
  refine b_aload_n rfl dX6_init_81 ?_
  refine b_bipush (nI 7) (by decide) dX6_init_82 ?_
  refine b_newa (k := 27) (t := 0) (N := 7) (nc := 9) (ns := 385) dX6_init_84 rfl war_int (fun _ => rfl) hra_int (zr_int 7) (by decide) (by decide) (by decide) (fun _ _ => rfl) (fun _ _ => rfl) (fun _ _ => rfl) ?_
  refine b_putF dX6_init_86 fX6_44 clsF_6 rfl rfl rfl (fun _ => rfl) (fun _ => rfl) (q0 := 0) rfl (by decide) ?_
  refine b_aload_n rfl dX6_init_89 ?_
  refine b_bipush (nI 8) (by decide) dX6_init_90 ?_
  refine b_newa (k := 28) (t := 0) (N := 8) (nc := 8) (ns := 377) dX6_init_92 rfl war_int (fun _ => rfl) hra_int (zr_int 8) (by decide) (by decide) (by decide) (fun _ _ => rfl) (fun _ _ => rfl) (fun _ _ => rfl) ?_
  refine b_putF dX6_init_94 fX6_47 clsF_6 rfl rfl rfl (fun _ => rfl) (fun _ => rfl) (q0 := 0) rfl (by decide) ?_
  refine b_aload_n rfl dX6_init_97 ?_
  refine b_bipush (nI 8) (by decide) dX6_init_98 ?_
  refine b_newa (k := 29) (t := 0) (N := 8) (nc := 7) (ns := 369) dX6_init_100 rfl war_int (fun _ => rfl) hra_int (zr_int 8) (by decide) (by decide) (by decide) (fun _ _ => rfl) (fun _ _ => rfl) (fun _ _ => rfl) ?_
  refine b_putF dX6_init_102 fX6_50 clsF_6 rfl rfl rfl (fun _ => rfl) (fun _ => rfl) (q0 := 0) rfl (by decide) ?_
  refine b_aload_n rfl dX6_init_105 ?_
  refine b_new (k := 30) (nc := 0) (ns := 0) (d' := d) (nm := [30, 31, 32, 33, 34, 35, 36]) dX6_init_106 dX6_init_109 dX6_init_110 wclX6_53 winX9 micX9 clsF_8 (fun j hj => by rcases (show j = 0 ∨ j = 1 ∨ j = 2 ∨ j = 3 ∨ j = 4 ∨ j = 5 ∨ j = 6 ∨ j = 7 ∨ j = 8 by omega) with rfl | rfl | rfl | rfl | rfl | rfl | rfl | rfl | rfl <;> rfl) lX6_55 mibX9 miiX9 rfl rfl (i_X9_30 d) (by omega) (by decide) (by decide) (by decide) (by decide) (fun _ _ _ _ => rfl) (fun _ _ => rfl) (fun _ _ => rfl) (fun _ _ _ _ => rfl) ?_
  refine b_putF dX6_init_113 fX6_56 clsF_6 rfl rfl rfl (fun _ => rfl) (fun _ => rfl) (q0 := 0) rfl (by decide) ?_
  exact b_ret dX6_init_116 rfl

set_option maxRecDepth 100000 in
set_option maxHeartbeats 1600000 in
theorem i_X6_37 (d : Nat) : BMt miX6_init (d + 1) 37 6 [.int 0, .int 0, .int 0, .int 0, .int 0, .int 0, .int 0, .null, .null, .null, .null, .null, .null, .null, .null, .null, .null, .null, .null, .null] [(37, .inl (6, [.int (nI 4), .int 0, .int 0, .int 0, .int 0, .int 0, .int 0, .ref 38, .ref 39, .ref 40, .ref 41, .ref 42, .ref 43, .ref 44, .ref 45, .ref 46, .ref 47, .ref 48, .ref 49, .ref 50])), (38, .inr (2, fun _ => zrB 2 6)), (39, .inr (0, fun _ => zrB 0 6)), (40, .inr (0, fun _ => zrB 0 6)), (41, .inr (0, fun _ => zrB 0 10)), (42, .inr (0, fun _ => zrB 0 10)), (43, .inr (2, fun _ => zrB 2 7)), (44, .inr (0, fun _ => zrB 0 7)), (45, .inr (0, fun _ => zrB 0 7)), (46, .inr (0, fun _ => zrB 0 7)), (47, .inr (0, fun _ => zrB 0 7)), (48, .inr (0, fun _ => zrB 0 8)), (49, .inr (0, fun _ => zrB 0 8)), (50, .inl (8, [.int 0, .int 0, .int 0, .ref 51, .ref 52, .ref 53, .ref 54, .ref 55, .ref 56])), (51, .inr (0, fun _ => zrB 0 60)), (52, .inr (0, fun _ => zrB 0 60)), (53, .inr (0, fun _ => zrB 0 60)), (54, .inr (0, fun _ => zrB 0 60)), (55, .inr (0, fun _ => zrB 0 60)), (56, .inr (0, fun _ => zrB 0 60))] 19 458 := by
  refine BMt.of (by decide) (by decide) (fun _ => rfl) ?_
  refine b_aload_n rfl dX6_init_0 ?_
  refine b_obj dX6_init_1 lobX6 ?_
  refine b_aload_n rfl dX6_init_4 ?_
  refine b_iconst (nI 4) (by decide) dX6_init_5 ?_
  refine b_put dX6_init_6 fX6_9 clsF_6 rfl (fun _ => rfl) (fun _ => rfl) (q0 := 0) rfl (by decide) ?_
  refine b_aload_n rfl dX6_init_9 ?_
  refine b_bipush (nI 6) (by decide) dX6_init_10 ?_
  refine b_newa (k := 38) (t := 2) (N := 6) (nc := 18) (ns := 452) dX6_init_12 rfl war_long (fun _ => rfl) hra_long (zr_long 6) (by decide) (by decide) (by decide) (fun _ _ => rfl) (fun _ _ => rfl) (fun _ _ => rfl) ?_
  refine b_putF dX6_init_14 fX6_15 clsF_6 rfl rfl rfl (fun _ => rfl) (fun _ => rfl) (q0 := 0) rfl (by decide) ?_
  refine b_aload_n rfl dX6_init_17 ?_
  refine b_bipush (nI 6) (by decide) dX6_init_18 ?_
  refine b_newa (k := 39) (t := 0) (N := 6) (nc := 17) (ns := 446) dX6_init_20 rfl war_int (fun _ => rfl) hra_int (zr_int 6) (by decide) (by decide) (by decide) (fun _ _ => rfl) (fun _ _ => rfl) (fun _ _ => rfl) ?_
  refine b_putF dX6_init_22 fX6_19 clsF_6 rfl rfl rfl (fun _ => rfl) (fun _ => rfl) (q0 := 0) rfl (by decide) ?_
  refine b_aload_n rfl dX6_init_25 ?_
  refine b_bipush (nI 6) (by decide) dX6_init_26 ?_
  refine b_newa (k := 40) (t := 0) (N := 6) (nc := 16) (ns := 440) dX6_init_28 rfl war_int (fun _ => rfl) hra_int (zr_int 6) (by decide) (by decide) (by decide) (fun _ _ => rfl) (fun _ _ => rfl) (fun _ _ => rfl) ?_
  refine b_putF dX6_init_30 fX6_23 clsF_6 rfl rfl rfl (fun _ => rfl) (fun _ => rfl) (q0 := 0) rfl (by decide) ?_
  refine b_aload_n rfl dX6_init_33 ?_
  refine b_bipush (nI 10) (by decide) dX6_init_34 ?_
  refine b_newa (k := 41) (t := 0) (N := 10) (nc := 15) (ns := 430) dX6_init_36 rfl war_int (fun _ => rfl) hra_int (zr_int 10) (by decide) (by decide) (by decide) (fun _ _ => rfl) (fun _ _ => rfl) (fun _ _ => rfl) ?_
  refine b_putF dX6_init_38 fX6_26 clsF_6 rfl rfl rfl (fun _ => rfl) (fun _ => rfl) (q0 := 0) rfl (by decide) ?_
  refine b_aload_n rfl dX6_init_41 ?_
  refine b_bipush (nI 10) (by decide) dX6_init_42 ?_
  refine b_newa (k := 42) (t := 0) (N := 10) (nc := 14) (ns := 420) dX6_init_44 rfl war_int (fun _ => rfl) hra_int (zr_int 10) (by decide) (by decide) (by decide) (fun _ _ => rfl) (fun _ _ => rfl) (fun _ _ => rfl) ?_
  refine b_putF dX6_init_46 fX6_29 clsF_6 rfl rfl rfl (fun _ => rfl) (fun _ => rfl) (q0 := 0) rfl (by decide) ?_
  refine b_aload_n rfl dX6_init_49 ?_
  refine b_bipush (nI 7) (by decide) dX6_init_50 ?_
  refine b_newa (k := 43) (t := 2) (N := 7) (nc := 13) (ns := 413) dX6_init_52 rfl war_long (fun _ => rfl) hra_long (zr_long 7) (by decide) (by decide) (by decide) (fun _ _ => rfl) (fun _ _ => rfl) (fun _ _ => rfl) ?_
  refine b_putF dX6_init_54 fX6_32 clsF_6 rfl rfl rfl (fun _ => rfl) (fun _ => rfl) (q0 := 0) rfl (by decide) ?_
  refine b_aload_n rfl dX6_init_57 ?_
  refine b_bipush (nI 7) (by decide) dX6_init_58 ?_
  refine b_newa (k := 44) (t := 0) (N := 7) (nc := 12) (ns := 406) dX6_init_60 rfl war_int (fun _ => rfl) hra_int (zr_int 7) (by decide) (by decide) (by decide) (fun _ _ => rfl) (fun _ _ => rfl) (fun _ _ => rfl) ?_
  refine b_putF dX6_init_62 fX6_35 clsF_6 rfl rfl rfl (fun _ => rfl) (fun _ => rfl) (q0 := 0) rfl (by decide) ?_
  refine b_aload_n rfl dX6_init_65 ?_
  refine b_bipush (nI 7) (by decide) dX6_init_66 ?_
  refine b_newa (k := 45) (t := 0) (N := 7) (nc := 11) (ns := 399) dX6_init_68 rfl war_int (fun _ => rfl) hra_int (zr_int 7) (by decide) (by decide) (by decide) (fun _ _ => rfl) (fun _ _ => rfl) (fun _ _ => rfl) ?_
  refine b_putF dX6_init_70 fX6_38 clsF_6 rfl rfl rfl (fun _ => rfl) (fun _ => rfl) (q0 := 0) rfl (by decide) ?_
  refine b_aload_n rfl dX6_init_73 ?_
  refine b_bipush (nI 7) (by decide) dX6_init_74 ?_
  refine b_newa (k := 46) (t := 0) (N := 7) (nc := 10) (ns := 392) dX6_init_76 rfl war_int (fun _ => rfl) hra_int (zr_int 7) (by decide) (by decide) (by decide) (fun _ _ => rfl) (fun _ _ => rfl) (fun _ _ => rfl) ?_
  refine b_putF dX6_init_78 fX6_41 clsF_6 rfl rfl rfl (fun _ => rfl) (fun _ => rfl) (q0 := 0) rfl (by decide) ?_
  refine b_aload_n rfl dX6_init_81 ?_
  refine b_bipush (nI 7) (by decide) dX6_init_82 ?_
  refine b_newa (k := 47) (t := 0) (N := 7) (nc := 9) (ns := 385) dX6_init_84 rfl war_int (fun _ => rfl) hra_int (zr_int 7) (by decide) (by decide) (by decide) (fun _ _ => rfl) (fun _ _ => rfl) (fun _ _ => rfl) ?_
  refine b_putF dX6_init_86 fX6_44 clsF_6 rfl rfl rfl (fun _ => rfl) (fun _ => rfl) (q0 := 0) rfl (by decide) ?_
  refine b_aload_n rfl dX6_init_89 ?_
  refine b_bipush (nI 8) (by decide) dX6_init_90 ?_
  refine b_newa (k := 48) (t := 0) (N := 8) (nc := 8) (ns := 377) dX6_init_92 rfl war_int (fun _ => rfl) hra_int (zr_int 8) (by decide) (by decide) (by decide) (fun _ _ => rfl) (fun _ _ => rfl) (fun _ _ => rfl) ?_
  refine b_putF dX6_init_94 fX6_47 clsF_6 rfl rfl rfl (fun _ => rfl) (fun _ => rfl) (q0 := 0) rfl (by decide) ?_
  refine b_aload_n rfl dX6_init_97 ?_
  refine b_bipush (nI 8) (by decide) dX6_init_98 ?_
  refine b_newa (k := 49) (t := 0) (N := 8) (nc := 7) (ns := 369) dX6_init_100 rfl war_int (fun _ => rfl) hra_int (zr_int 8) (by decide) (by decide) (by decide) (fun _ _ => rfl) (fun _ _ => rfl) (fun _ _ => rfl) ?_
  refine b_putF dX6_init_102 fX6_50 clsF_6 rfl rfl rfl (fun _ => rfl) (fun _ => rfl) (q0 := 0) rfl (by decide) ?_
  refine b_aload_n rfl dX6_init_105 ?_
  refine b_new (k := 50) (nc := 0) (ns := 0) (d' := d) (nm := [50, 51, 52, 53, 54, 55, 56]) dX6_init_106 dX6_init_109 dX6_init_110 wclX6_53 winX9 micX9 clsF_8 (fun j hj => by rcases (show j = 0 ∨ j = 1 ∨ j = 2 ∨ j = 3 ∨ j = 4 ∨ j = 5 ∨ j = 6 ∨ j = 7 ∨ j = 8 by omega) with rfl | rfl | rfl | rfl | rfl | rfl | rfl | rfl | rfl <;> rfl) lX6_55 mibX9 miiX9 rfl rfl (i_X9_50 d) (by omega) (by decide) (by decide) (by decide) (by decide) (fun _ _ _ _ => rfl) (fun _ _ => rfl) (fun _ _ => rfl) (fun _ _ _ _ => rfl) ?_
  refine b_putF dX6_init_113 fX6_56 clsF_6 rfl rfl rfl (fun _ => rfl) (fun _ => rfl) (q0 := 0) rfl (by decide) ?_
  exact b_ret dX6_init_116 rfl

set_option maxRecDepth 100000 in
set_option maxHeartbeats 1600000 in
theorem i_X6_58 (d : Nat) : BMt miX6_init (d + 1) 58 6 [.int 0, .int 0, .int 0, .int 0, .int 0, .int 0, .int 0, .null, .null, .null, .null, .null, .null, .null, .null, .null, .null, .null, .null, .null] [(58, .inl (6, [.int (nI 4), .int 0, .int 0, .int 0, .int 0, .int 0, .int 0, .ref 59, .ref 60, .ref 61, .ref 62, .ref 63, .ref 64, .ref 65, .ref 66, .ref 67, .ref 68, .ref 69, .ref 70, .ref 71])), (59, .inr (2, fun _ => zrB 2 6)), (60, .inr (0, fun _ => zrB 0 6)), (61, .inr (0, fun _ => zrB 0 6)), (62, .inr (0, fun _ => zrB 0 10)), (63, .inr (0, fun _ => zrB 0 10)), (64, .inr (2, fun _ => zrB 2 7)), (65, .inr (0, fun _ => zrB 0 7)), (66, .inr (0, fun _ => zrB 0 7)), (67, .inr (0, fun _ => zrB 0 7)), (68, .inr (0, fun _ => zrB 0 7)), (69, .inr (0, fun _ => zrB 0 8)), (70, .inr (0, fun _ => zrB 0 8)), (71, .inl (8, [.int 0, .int 0, .int 0, .ref 72, .ref 73, .ref 74, .ref 75, .ref 76, .ref 77])), (72, .inr (0, fun _ => zrB 0 60)), (73, .inr (0, fun _ => zrB 0 60)), (74, .inr (0, fun _ => zrB 0 60)), (75, .inr (0, fun _ => zrB 0 60)), (76, .inr (0, fun _ => zrB 0 60)), (77, .inr (0, fun _ => zrB 0 60))] 19 458 := by
  refine BMt.of (by decide) (by decide) (fun _ => rfl) ?_
  refine b_aload_n rfl dX6_init_0 ?_
  refine b_obj dX6_init_1 lobX6 ?_
  refine b_aload_n rfl dX6_init_4 ?_
  refine b_iconst (nI 4) (by decide) dX6_init_5 ?_
  refine b_put dX6_init_6 fX6_9 clsF_6 rfl (fun _ => rfl) (fun _ => rfl) (q0 := 0) rfl (by decide) ?_
  refine b_aload_n rfl dX6_init_9 ?_
  refine b_bipush (nI 6) (by decide) dX6_init_10 ?_
  refine b_newa (k := 59) (t := 2) (N := 6) (nc := 18) (ns := 452) dX6_init_12 rfl war_long (fun _ => rfl) hra_long (zr_long 6) (by decide) (by decide) (by decide) (fun _ _ => rfl) (fun _ _ => rfl) (fun _ _ => rfl) ?_
  refine b_putF dX6_init_14 fX6_15 clsF_6 rfl rfl rfl (fun _ => rfl) (fun _ => rfl) (q0 := 0) rfl (by decide) ?_
  refine b_aload_n rfl dX6_init_17 ?_
  refine b_bipush (nI 6) (by decide) dX6_init_18 ?_
  refine b_newa (k := 60) (t := 0) (N := 6) (nc := 17) (ns := 446) dX6_init_20 rfl war_int (fun _ => rfl) hra_int (zr_int 6) (by decide) (by decide) (by decide) (fun _ _ => rfl) (fun _ _ => rfl) (fun _ _ => rfl) ?_
  refine b_putF dX6_init_22 fX6_19 clsF_6 rfl rfl rfl (fun _ => rfl) (fun _ => rfl) (q0 := 0) rfl (by decide) ?_
  refine b_aload_n rfl dX6_init_25 ?_
  refine b_bipush (nI 6) (by decide) dX6_init_26 ?_
  refine b_newa (k := 61) (t := 0) (N := 6) (nc := 16) (ns := 440) dX6_init_28 rfl war_int (fun _ => rfl) hra_int (zr_int 6) (by decide) (by decide) (by decide) (fun _ _ => rfl) (fun _ _ => rfl) (fun _ _ => rfl) ?_
  refine b_putF dX6_init_30 fX6_23 clsF_6 rfl rfl rfl (fun _ => rfl) (fun _ => rfl) (q0 := 0) rfl (by decide) ?_
  refine b_aload_n rfl dX6_init_33 ?_
  refine b_bipush (nI 10) (by decide) dX6_init_34 ?_
  refine b_newa (k := 62) (t := 0) (N := 10) (nc := 15) (ns := 430) dX6_init_36 rfl war_int (fun _ => rfl) hra_int (zr_int 10) (by decide) (by decide) (by decide) (fun _ _ => rfl) (fun _ _ => rfl) (fun _ _ => rfl) ?_
  refine b_putF dX6_init_38 fX6_26 clsF_6 rfl rfl rfl (fun _ => rfl) (fun _ => rfl) (q0 := 0) rfl (by decide) ?_
  refine b_aload_n rfl dX6_init_41 ?_
  refine b_bipush (nI 10) (by decide) dX6_init_42 ?_
  refine b_newa (k := 63) (t := 0) (N := 10) (nc := 14) (ns := 420) dX6_init_44 rfl war_int (fun _ => rfl) hra_int (zr_int 10) (by decide) (by decide) (by decide) (fun _ _ => rfl) (fun _ _ => rfl) (fun _ _ => rfl) ?_
  refine b_putF dX6_init_46 fX6_29 clsF_6 rfl rfl rfl (fun _ => rfl) (fun _ => rfl) (q0 := 0) rfl (by decide) ?_
  refine b_aload_n rfl dX6_init_49 ?_
  refine b_bipush (nI 7) (by decide) dX6_init_50 ?_
  refine b_newa (k := 64) (t := 2) (N := 7) (nc := 13) (ns := 413) dX6_init_52 rfl war_long (fun _ => rfl) hra_long (zr_long 7) (by decide) (by decide) (by decide) (fun _ _ => rfl) (fun _ _ => rfl) (fun _ _ => rfl) ?_
  refine b_putF dX6_init_54 fX6_32 clsF_6 rfl rfl rfl (fun _ => rfl) (fun _ => rfl) (q0 := 0) rfl (by decide) ?_
  refine b_aload_n rfl dX6_init_57 ?_
  refine b_bipush (nI 7) (by decide) dX6_init_58 ?_
  refine b_newa (k := 65) (t := 0) (N := 7) (nc := 12) (ns := 406) dX6_init_60 rfl war_int (fun _ => rfl) hra_int (zr_int 7) (by decide) (by decide) (by decide) (fun _ _ => rfl) (fun _ _ => rfl) (fun _ _ => rfl) ?_
  refine b_putF dX6_init_62 fX6_35 clsF_6 rfl rfl rfl (fun _ => rfl) (fun _ => rfl) (q0 := 0) rfl (by decide) ?_
  refine b_aload_n rfl dX6_init_65 ?_
  refine b_bipush (nI 7) (by decide) dX6_init_66 ?_
  refine b_newa (k := 66) (t := 0) (N := 7) (nc := 11) (ns := 399) dX6_init_68 rfl war_int (fun _ => rfl) hra_int (zr_int 7) (by decide) (by decide) (by decide) (fun _ _ => rfl) (fun _ _ => rfl) (fun _ _ => rfl) ?_
  refine b_putF dX6_init_70 fX6_38 clsF_6 rfl rfl rfl (fun _ => rfl) (fun _ => rfl) (q0 := 0) rfl (by decide) ?_
  refine b_aload_n rfl dX6_init_73 ?_
  refine b_bipush (nI 7) (by decide) dX6_init_74 ?_
  refine b_newa (k := 67) (t := 0) (N := 7) (nc := 10) (ns := 392) dX6_init_76 rfl war_int (fun _ => rfl) hra_int (zr_int 7) (by decide) (by decide) (by decide) (fun _ _ => rfl) (fun _ _ => rfl) (fun _ _ => rfl) ?_
  refine b_putF dX6_init_78 fX6_41 clsF_6 rfl rfl rfl (fun _ => rfl) (fun _ => rfl) (q0 := 0) rfl (by decide) ?_
  refine b_aload_n rfl dX6_init_81 ?_
  refine b_bipush (nI 7) (by decide) dX6_init_82 ?_
  refine b_newa (k := 68) (t := 0) (N := 7) (nc := 9) (ns := 385) dX6_init_84 rfl war_int (fun _ => rfl) hra_int (zr_int 7) (by decide) (by decide) (by decide) (fun _ _ => rfl) (fun _ _ => rfl) (fun _ _ => rfl) ?_
  refine b_putF dX6_init_86 fX6_44 clsF_6 rfl rfl rfl (fun _ => rfl) (fun _ => rfl) (q0 := 0) rfl (by decide) ?_
  refine b_aload_n rfl dX6_init_89 ?_
  refine b_bipush (nI 8) (by decide) dX6_init_90 ?_
  refine b_newa (k := 69) (t := 0) (N := 8) (nc := 8) (ns := 377) dX6_init_92 rfl war_int (fun _ => rfl) hra_int (zr_int 8) (by decide) (by decide) (by decide) (fun _ _ => rfl) (fun _ _ => rfl) (fun _ _ => rfl) ?_
  refine b_putF dX6_init_94 fX6_47 clsF_6 rfl rfl rfl (fun _ => rfl) (fun _ => rfl) (q0 := 0) rfl (by decide) ?_
  refine b_aload_n rfl dX6_init_97 ?_
  refine b_bipush (nI 8) (by decide) dX6_init_98 ?_
  refine b_newa (k := 70) (t := 0) (N := 8) (nc := 7) (ns := 369) dX6_init_100 rfl war_int (fun _ => rfl) hra_int (zr_int 8) (by decide) (by decide) (by decide) (fun _ _ => rfl) (fun _ _ => rfl) (fun _ _ => rfl) ?_
  refine b_putF dX6_init_102 fX6_50 clsF_6 rfl rfl rfl (fun _ => rfl) (fun _ => rfl) (q0 := 0) rfl (by decide) ?_
  refine b_aload_n rfl dX6_init_105 ?_
  refine b_new (k := 71) (nc := 0) (ns := 0) (d' := d) (nm := [71, 72, 73, 74, 75, 76, 77]) dX6_init_106 dX6_init_109 dX6_init_110 wclX6_53 winX9 micX9 clsF_8 (fun j hj => by rcases (show j = 0 ∨ j = 1 ∨ j = 2 ∨ j = 3 ∨ j = 4 ∨ j = 5 ∨ j = 6 ∨ j = 7 ∨ j = 8 by omega) with rfl | rfl | rfl | rfl | rfl | rfl | rfl | rfl | rfl <;> rfl) lX6_55 mibX9 miiX9 rfl rfl (i_X9_71 d) (by omega) (by decide) (by decide) (by decide) (by decide) (fun _ _ _ _ => rfl) (fun _ _ => rfl) (fun _ _ => rfl) (fun _ _ _ _ => rfl) ?_
  refine b_putF dX6_init_113 fX6_56 clsF_6 rfl rfl rfl (fun _ => rfl) (fun _ => rfl) (q0 := 0) rfl (by decide) ?_
  exact b_ret dX6_init_116 rfl

set_option maxRecDepth 100000 in
set_option maxHeartbeats 1600000 in
theorem i_X6_78 (d : Nat) : BMt miX6_init (d + 1) 78 6 [.int 0, .int 0, .int 0, .int 0, .int 0, .int 0, .int 0, .null, .null, .null, .null, .null, .null, .null, .null, .null, .null, .null, .null, .null] [(78, .inl (6, [.int (nI 4), .int 0, .int 0, .int 0, .int 0, .int 0, .int 0, .ref 79, .ref 80, .ref 81, .ref 82, .ref 83, .ref 84, .ref 85, .ref 86, .ref 87, .ref 88, .ref 89, .ref 90, .ref 91])), (79, .inr (2, fun _ => zrB 2 6)), (80, .inr (0, fun _ => zrB 0 6)), (81, .inr (0, fun _ => zrB 0 6)), (82, .inr (0, fun _ => zrB 0 10)), (83, .inr (0, fun _ => zrB 0 10)), (84, .inr (2, fun _ => zrB 2 7)), (85, .inr (0, fun _ => zrB 0 7)), (86, .inr (0, fun _ => zrB 0 7)), (87, .inr (0, fun _ => zrB 0 7)), (88, .inr (0, fun _ => zrB 0 7)), (89, .inr (0, fun _ => zrB 0 8)), (90, .inr (0, fun _ => zrB 0 8)), (91, .inl (8, [.int 0, .int 0, .int 0, .ref 92, .ref 93, .ref 94, .ref 95, .ref 96, .ref 97])), (92, .inr (0, fun _ => zrB 0 60)), (93, .inr (0, fun _ => zrB 0 60)), (94, .inr (0, fun _ => zrB 0 60)), (95, .inr (0, fun _ => zrB 0 60)), (96, .inr (0, fun _ => zrB 0 60)), (97, .inr (0, fun _ => zrB 0 60))] 19 458 := by
  refine BMt.of (by decide) (by decide) (fun _ => rfl) ?_
  refine b_aload_n rfl dX6_init_0 ?_
  refine b_obj dX6_init_1 lobX6 ?_
  refine b_aload_n rfl dX6_init_4 ?_
  refine b_iconst (nI 4) (by decide) dX6_init_5 ?_
  refine b_put dX6_init_6 fX6_9 clsF_6 rfl (fun _ => rfl) (fun _ => rfl) (q0 := 0) rfl (by decide) ?_
  refine b_aload_n rfl dX6_init_9 ?_
  refine b_bipush (nI 6) (by decide) dX6_init_10 ?_
  refine b_newa (k := 79) (t := 2) (N := 6) (nc := 18) (ns := 452) dX6_init_12 rfl war_long (fun _ => rfl) hra_long (zr_long 6) (by decide) (by decide) (by decide) (fun _ _ => rfl) (fun _ _ => rfl) (fun _ _ => rfl) ?_
  refine b_putF dX6_init_14 fX6_15 clsF_6 rfl rfl rfl (fun _ => rfl) (fun _ => rfl) (q0 := 0) rfl (by decide) ?_
  refine b_aload_n rfl dX6_init_17 ?_
  refine b_bipush (nI 6) (by decide) dX6_init_18 ?_
  refine b_newa (k := 80) (t := 0) (N := 6) (nc := 17) (ns := 446) dX6_init_20 rfl war_int (fun _ => rfl) hra_int (zr_int 6) (by decide) (by decide) (by decide) (fun _ _ => rfl) (fun _ _ => rfl) (fun _ _ => rfl) ?_
  refine b_putF dX6_init_22 fX6_19 clsF_6 rfl rfl rfl (fun _ => rfl) (fun _ => rfl) (q0 := 0) rfl (by decide) ?_
  refine b_aload_n rfl dX6_init_25 ?_
  refine b_bipush (nI 6) (by decide) dX6_init_26 ?_
  refine b_newa (k := 81) (t := 0) (N := 6) (nc := 16) (ns := 440) dX6_init_28 rfl war_int (fun _ => rfl) hra_int (zr_int 6) (by decide) (by decide) (by decide) (fun _ _ => rfl) (fun _ _ => rfl) (fun _ _ => rfl) ?_
  refine b_putF dX6_init_30 fX6_23 clsF_6 rfl rfl rfl (fun _ => rfl) (fun _ => rfl) (q0 := 0) rfl (by decide) ?_
  refine b_aload_n rfl dX6_init_33 ?_
  refine b_bipush (nI 10) (by decide) dX6_init_34 ?_
  refine b_newa (k := 82) (t := 0) (N := 10) (nc := 15) (ns := 430) dX6_init_36 rfl war_int (fun _ => rfl) hra_int (zr_int 10) (by decide) (by decide) (by decide) (fun _ _ => rfl) (fun _ _ => rfl) (fun _ _ => rfl) ?_
  refine b_putF dX6_init_38 fX6_26 clsF_6 rfl rfl rfl (fun _ => rfl) (fun _ => rfl) (q0 := 0) rfl (by decide) ?_
  refine b_aload_n rfl dX6_init_41 ?_
  refine b_bipush (nI 10) (by decide) dX6_init_42 ?_
  refine b_newa (k := 83) (t := 0) (N := 10) (nc := 14) (ns := 420) dX6_init_44 rfl war_int (fun _ => rfl) hra_int (zr_int 10) (by decide) (by decide) (by decide) (fun _ _ => rfl) (fun _ _ => rfl) (fun _ _ => rfl) ?_
  refine b_putF dX6_init_46 fX6_29 clsF_6 rfl rfl rfl (fun _ => rfl) (fun _ => rfl) (q0 := 0) rfl (by decide) ?_
  refine b_aload_n rfl dX6_init_49 ?_
  refine b_bipush (nI 7) (by decide) dX6_init_50 ?_
  refine b_newa (k := 84) (t := 2) (N := 7) (nc := 13) (ns := 413) dX6_init_52 rfl war_long (fun _ => rfl) hra_long (zr_long 7) (by decide) (by decide) (by decide) (fun _ _ => rfl) (fun _ _ => rfl) (fun _ _ => rfl) ?_
  refine b_putF dX6_init_54 fX6_32 clsF_6 rfl rfl rfl (fun _ => rfl) (fun _ => rfl) (q0 := 0) rfl (by decide) ?_
  refine b_aload_n rfl dX6_init_57 ?_
  refine b_bipush (nI 7) (by decide) dX6_init_58 ?_
  refine b_newa (k := 85) (t := 0) (N := 7) (nc := 12) (ns := 406) dX6_init_60 rfl war_int (fun _ => rfl) hra_int (zr_int 7) (by decide) (by decide) (by decide) (fun _ _ => rfl) (fun _ _ => rfl) (fun _ _ => rfl) ?_
  refine b_putF dX6_init_62 fX6_35 clsF_6 rfl rfl rfl (fun _ => rfl) (fun _ => rfl) (q0 := 0) rfl (by decide) ?_
  refine b_aload_n rfl dX6_init_65 ?_
  refine b_bipush (nI 7) (by decide) dX6_init_66 ?_
  refine b_newa (k := 86) (t := 0) (N := 7) (nc := 11) (ns := 399) dX6_init_68 rfl war_int (fun _ => rfl) hra_int (zr_int 7) (by decide) (by decide) (by decide) (fun _ _ => rfl) (fun _ _ => rfl) (fun _ _ => rfl) ?_
  refine b_putF dX6_init_70 fX6_38 clsF_6 rfl rfl rfl (fun _ => rfl) (fun _ => rfl) (q0 := 0) rfl (by decide) ?_
  refine b_aload_n rfl dX6_init_73 ?_
  refine b_bipush (nI 7) (by decide) dX6_init_74 ?_
  refine b_newa (k := 87) (t := 0) (N := 7) (nc := 10) (ns := 392) dX6_init_76 rfl war_int (fun _ => rfl) hra_int (zr_int 7) (by decide) (by decide) (by decide) (fun _ _ => rfl) (fun _ _ => rfl) (fun _ _ => rfl) ?_
  refine b_putF dX6_init_78 fX6_41 clsF_6 rfl rfl rfl (fun _ => rfl) (fun _ => rfl) (q0 := 0) rfl (by decide) ?_
  refine b_aload_n rfl dX6_init_81 ?_
  refine b_bipush (nI 7) (by decide) dX6_init_82 ?_
  refine b_newa (k := 88) (t := 0) (N := 7) (nc := 9) (ns := 385) dX6_init_84 rfl war_int (fun _ => rfl) hra_int (zr_int 7) (by decide) (by decide) (by decide) (fun _ _ => rfl) (fun _ _ => rfl) (fun _ _ => rfl) ?_
  refine b_putF dX6_init_86 fX6_44 clsF_6 rfl rfl rfl (fun _ => rfl) (fun _ => rfl) (q0 := 0) rfl (by decide) ?_
  refine b_aload_n rfl dX6_init_89 ?_
  refine b_bipush (nI 8) (by decide) dX6_init_90 ?_
  refine b_newa (k := 89) (t := 0) (N := 8) (nc := 8) (ns := 377) dX6_init_92 rfl war_int (fun _ => rfl) hra_int (zr_int 8) (by decide) (by decide) (by decide) (fun _ _ => rfl) (fun _ _ => rfl) (fun _ _ => rfl) ?_
  refine b_putF dX6_init_94 fX6_47 clsF_6 rfl rfl rfl (fun _ => rfl) (fun _ => rfl) (q0 := 0) rfl (by decide) ?_
  refine b_aload_n rfl dX6_init_97 ?_
  refine b_bipush (nI 8) (by decide) dX6_init_98 ?_
  refine b_newa (k := 90) (t := 0) (N := 8) (nc := 7) (ns := 369) dX6_init_100 rfl war_int (fun _ => rfl) hra_int (zr_int 8) (by decide) (by decide) (by decide) (fun _ _ => rfl) (fun _ _ => rfl) (fun _ _ => rfl) ?_
  refine b_putF dX6_init_102 fX6_50 clsF_6 rfl rfl rfl (fun _ => rfl) (fun _ => rfl) (q0 := 0) rfl (by decide) ?_
  refine b_aload_n rfl dX6_init_105 ?_
  refine b_new (k := 91) (nc := 0) (ns := 0) (d' := d) (nm := [91, 92, 93, 94, 95, 96, 97]) dX6_init_106 dX6_init_109 dX6_init_110 wclX6_53 winX9 micX9 clsF_8 (fun j hj => by rcases (show j = 0 ∨ j = 1 ∨ j = 2 ∨ j = 3 ∨ j = 4 ∨ j = 5 ∨ j = 6 ∨ j = 7 ∨ j = 8 by omega) with rfl | rfl | rfl | rfl | rfl | rfl | rfl | rfl | rfl <;> rfl) lX6_55 mibX9 miiX9 rfl rfl (i_X9_91 d) (by omega) (by decide) (by decide) (by decide) (by decide) (fun _ _ _ _ => rfl) (fun _ _ => rfl) (fun _ _ => rfl) (fun _ _ _ _ => rfl) ?_
  refine b_putF dX6_init_113 fX6_56 clsF_6 rfl rfl rfl (fun _ => rfl) (fun _ => rfl) (q0 := 0) rfl (by decide) ?_
  exact b_ret dX6_init_116 rfl

set_option maxRecDepth 100000 in
set_option maxHeartbeats 1600000 in
theorem i_X6_98 (d : Nat) : BMt miX6_init (d + 1) 98 6 [.int 0, .int 0, .int 0, .int 0, .int 0, .int 0, .int 0, .null, .null, .null, .null, .null, .null, .null, .null, .null, .null, .null, .null, .null] [(98, .inl (6, [.int (nI 4), .int 0, .int 0, .int 0, .int 0, .int 0, .int 0, .ref 99, .ref 100, .ref 101, .ref 102, .ref 103, .ref 104, .ref 105, .ref 106, .ref 107, .ref 108, .ref 109, .ref 110, .ref 111])), (99, .inr (2, fun _ => zrB 2 6)), (100, .inr (0, fun _ => zrB 0 6)), (101, .inr (0, fun _ => zrB 0 6)), (102, .inr (0, fun _ => zrB 0 10)), (103, .inr (0, fun _ => zrB 0 10)), (104, .inr (2, fun _ => zrB 2 7)), (105, .inr (0, fun _ => zrB 0 7)), (106, .inr (0, fun _ => zrB 0 7)), (107, .inr (0, fun _ => zrB 0 7)), (108, .inr (0, fun _ => zrB 0 7)), (109, .inr (0, fun _ => zrB 0 8)), (110, .inr (0, fun _ => zrB 0 8)), (111, .inl (8, [.int 0, .int 0, .int 0, .ref 112, .ref 113, .ref 114, .ref 115, .ref 116, .ref 117])), (112, .inr (0, fun _ => zrB 0 60)), (113, .inr (0, fun _ => zrB 0 60)), (114, .inr (0, fun _ => zrB 0 60)), (115, .inr (0, fun _ => zrB 0 60)), (116, .inr (0, fun _ => zrB 0 60)), (117, .inr (0, fun _ => zrB 0 60))] 19 458 := by
  refine BMt.of (by decide) (by decide) (fun _ => rfl) ?_
  refine b_aload_n rfl dX6_init_0 ?_
  refine b_obj dX6_init_1 lobX6 ?_
  refine b_aload_n rfl dX6_init_4 ?_
  refine b_iconst (nI 4) (by decide) dX6_init_5 ?_
  refine b_put dX6_init_6 fX6_9 clsF_6 rfl (fun _ => rfl) (fun _ => rfl) (q0 := 0) rfl (by decide) ?_
  refine b_aload_n rfl dX6_init_9 ?_
  refine b_bipush (nI 6) (by decide) dX6_init_10 ?_
  refine b_newa (k := 99) (t := 2) (N := 6) (nc := 18) (ns := 452) dX6_init_12 rfl war_long (fun _ => rfl) hra_long (zr_long 6) (by decide) (by decide) (by decide) (fun _ _ => rfl) (fun _ _ => rfl) (fun _ _ => rfl) ?_
  refine b_putF dX6_init_14 fX6_15 clsF_6 rfl rfl rfl (fun _ => rfl) (fun _ => rfl) (q0 := 0) rfl (by decide) ?_
  refine b_aload_n rfl dX6_init_17 ?_
  refine b_bipush (nI 6) (by decide) dX6_init_18 ?_
  refine b_newa (k := 100) (t := 0) (N := 6) (nc := 17) (ns := 446) dX6_init_20 rfl war_int (fun _ => rfl) hra_int (zr_int 6) (by decide) (by decide) (by decide) (fun _ _ => rfl) (fun _ _ => rfl) (fun _ _ => rfl) ?_
  refine b_putF dX6_init_22 fX6_19 clsF_6 rfl rfl rfl (fun _ => rfl) (fun _ => rfl) (q0 := 0) rfl (by decide) ?_
  refine b_aload_n rfl dX6_init_25 ?_
  refine b_bipush (nI 6) (by decide) dX6_init_26 ?_
  refine b_newa (k := 101) (t := 0) (N := 6) (nc := 16) (ns := 440) dX6_init_28 rfl war_int (fun _ => rfl) hra_int (zr_int 6) (by decide) (by decide) (by decide) (fun _ _ => rfl) (fun _ _ => rfl) (fun _ _ => rfl) ?_
  refine b_putF dX6_init_30 fX6_23 clsF_6 rfl rfl rfl (fun _ => rfl) (fun _ => rfl) (q0 := 0) rfl (by decide) ?_
  refine b_aload_n rfl dX6_init_33 ?_
  refine b_bipush (nI 10) (by decide) dX6_init_34 ?_
  refine b_newa (k := 102) (t := 0) (N := 10) (nc := 15) (ns := 430) dX6_init_36 rfl war_int (fun _ => rfl) hra_int (zr_int 10) (by decide) (by decide) (by decide) (fun _ _ => rfl) (fun _ _ => rfl) (fun _ _ => rfl) ?_
  refine b_putF dX6_init_38 fX6_26 clsF_6 rfl rfl rfl (fun _ => rfl) (fun _ => rfl) (q0 := 0) rfl (by decide) ?_
  refine b_aload_n rfl dX6_init_41 ?_
  refine b_bipush (nI 10) (by decide) dX6_init_42 ?_
  refine b_newa (k := 103) (t := 0) (N := 10) (nc := 14) (ns := 420) dX6_init_44 rfl war_int (fun _ => rfl) hra_int (zr_int 10) (by decide) (by decide) (by decide) (fun _ _ => rfl) (fun _ _ => rfl) (fun _ _ => rfl) ?_
  refine b_putF dX6_init_46 fX6_29 clsF_6 rfl rfl rfl (fun _ => rfl) (fun _ => rfl) (q0 := 0) rfl (by decide) ?_
  refine b_aload_n rfl dX6_init_49 ?_
  refine b_bipush (nI 7) (by decide) dX6_init_50 ?_
  refine b_newa (k := 104) (t := 2) (N := 7) (nc := 13) (ns := 413) dX6_init_52 rfl war_long (fun _ => rfl) hra_long (zr_long 7) (by decide) (by decide) (by decide) (fun _ _ => rfl) (fun _ _ => rfl) (fun _ _ => rfl) ?_
  refine b_putF dX6_init_54 fX6_32 clsF_6 rfl rfl rfl (fun _ => rfl) (fun _ => rfl) (q0 := 0) rfl (by decide) ?_
  refine b_aload_n rfl dX6_init_57 ?_
  refine b_bipush (nI 7) (by decide) dX6_init_58 ?_
  refine b_newa (k := 105) (t := 0) (N := 7) (nc := 12) (ns := 406) dX6_init_60 rfl war_int (fun _ => rfl) hra_int (zr_int 7) (by decide) (by decide) (by decide) (fun _ _ => rfl) (fun _ _ => rfl) (fun _ _ => rfl) ?_
  refine b_putF dX6_init_62 fX6_35 clsF_6 rfl rfl rfl (fun _ => rfl) (fun _ => rfl) (q0 := 0) rfl (by decide) ?_
  refine b_aload_n rfl dX6_init_65 ?_
  refine b_bipush (nI 7) (by decide) dX6_init_66 ?_
  refine b_newa (k := 106) (t := 0) (N := 7) (nc := 11) (ns := 399) dX6_init_68 rfl war_int (fun _ => rfl) hra_int (zr_int 7) (by decide) (by decide) (by decide) (fun _ _ => rfl) (fun _ _ => rfl) (fun _ _ => rfl) ?_
  refine b_putF dX6_init_70 fX6_38 clsF_6 rfl rfl rfl (fun _ => rfl) (fun _ => rfl) (q0 := 0) rfl (by decide) ?_
  refine b_aload_n rfl dX6_init_73 ?_
  refine b_bipush (nI 7) (by decide) dX6_init_74 ?_
  refine b_newa (k := 107) (t := 0) (N := 7) (nc := 10) (ns := 392) dX6_init_76 rfl war_int (fun _ => rfl) hra_int (zr_int 7) (by decide) (by decide) (by decide) (fun _ _ => rfl) (fun _ _ => rfl) (fun _ _ => rfl) ?_
  refine b_putF dX6_init_78 fX6_41 clsF_6 rfl rfl rfl (fun _ => rfl) (fun _ => rfl) (q0 := 0) rfl (by decide) ?_
  refine b_aload_n rfl dX6_init_81 ?_
  refine b_bipush (nI 7) (by decide) dX6_init_82 ?_
  refine b_newa (k := 108) (t := 0) (N := 7) (nc := 9) (ns := 385) dX6_init_84 rfl war_int (fun _ => rfl) hra_int (zr_int 7) (by decide) (by decide) (by decide) (fun _ _ => rfl) (fun _ _ => rfl) (fun _ _ => rfl) ?_
  refine b_putF dX6_init_86 fX6_44 clsF_6 rfl rfl rfl (fun _ => rfl) (fun _ => rfl) (q0 := 0) rfl (by decide) ?_
  refine b_aload_n rfl dX6_init_89 ?_
  refine b_bipush (nI 8) (by decide) dX6_init_90 ?_
  refine b_newa (k := 109) (t := 0) (N := 8) (nc := 8) (ns := 377) dX6_init_92 rfl war_int (fun _ => rfl) hra_int (zr_int 8) (by decide) (by decide) (by decide) (fun _ _ => rfl) (fun _ _ => rfl) (fun _ _ => rfl) ?_
  refine b_putF dX6_init_94 fX6_47 clsF_6 rfl rfl rfl (fun _ => rfl) (fun _ => rfl) (q0 := 0) rfl (by decide) ?_
  refine b_aload_n rfl dX6_init_97 ?_
  refine b_bipush (nI 8) (by decide) dX6_init_98 ?_
  refine b_newa (k := 110) (t := 0) (N := 8) (nc := 7) (ns := 369) dX6_init_100 rfl war_int (fun _ => rfl) hra_int (zr_int 8) (by decide) (by decide) (by decide) (fun _ _ => rfl) (fun _ _ => rfl) (fun _ _ => rfl) ?_
  refine b_putF dX6_init_102 fX6_50 clsF_6 rfl rfl rfl (fun _ => rfl) (fun _ => rfl) (q0 := 0) rfl (by decide) ?_
  refine b_aload_n rfl dX6_init_105 ?_
  refine b_new (k := 111) (nc := 0) (ns := 0) (d' := d) (nm := [111, 112, 113, 114, 115, 116, 117]) dX6_init_106 dX6_init_109 dX6_init_110 wclX6_53 winX9 micX9 clsF_8 (fun j hj => by rcases (show j = 0 ∨ j = 1 ∨ j = 2 ∨ j = 3 ∨ j = 4 ∨ j = 5 ∨ j = 6 ∨ j = 7 ∨ j = 8 by omega) with rfl | rfl | rfl | rfl | rfl | rfl | rfl | rfl | rfl <;> rfl) lX6_55 mibX9 miiX9 rfl rfl (i_X9_111 d) (by omega) (by decide) (by decide) (by decide) (by decide) (fun _ _ _ _ => rfl) (fun _ _ => rfl) (fun _ _ => rfl) (fun _ _ _ _ => rfl) ?_
  refine b_putF dX6_init_113 fX6_56 clsF_6 rfl rfl rfl (fun _ => rfl) (fun _ => rfl) (q0 := 0) rfl (by decide) ?_
  exact b_ret dX6_init_116 rfl

set_option maxRecDepth 100000 in
set_option maxHeartbeats 800000 in
theorem i_X0 (d : Nat) : BMt miX0_init d 121 0 [.null] [(121, .inl (0, [.ref 122])), (122, .inr (0, fun _ => zrB 0 6))] 1 6 := by
  refine BMt.of (by decide) (by decide) (fun _ => rfl) ?_
  refine b_aload_n rfl dX0_init_0 ?_
  refine b_obj dX0_init_1 lobX0 ?_
  refine b_aload_n rfl dX0_init_4 ?_
  refine b_bipush (nI 6) (by decide) dX0_init_5 ?_
  refine b_newa (k := 122) (t := 0) (N := 6) (nc := 0) (ns := 0) dX0_init_7 rfl war_int (fun _ => rfl) hra_int (zr_int 6) (by decide) (by decide) (by decide) (fun _ _ => rfl) (fun _ _ => rfl) (fun _ _ => rfl) ?_
  refine b_putF dX0_init_9 fX0_9 clsF_0 rfl rfl rfl (fun _ => rfl) (fun _ => rfl) (q0 := 0) rfl (by decide) ?_
  exact b_ret dX0_init_12 rfl

set_option maxRecDepth 100000 in
set_option maxHeartbeats 800000 in
theorem i_X1 (d : Nat) : BMt miX1_init d 130 1 [.null, .int 0, .int 0] [(130, .inl (1, [.ref 131, .int 0, .int 0])), (131, .inr (0, fun _ => zrB 0 6))] 1 6 := by
  refine BMt.of (by decide) (by decide) (fun _ => rfl) ?_
  refine b_aload_n rfl dX1_init_0 ?_
  refine b_obj dX1_init_1 lobX1 ?_
  refine b_aload_n rfl dX1_init_4 ?_
  refine b_bipush (nI 6) (by decide) dX1_init_5 ?_
  refine b_newa (k := 131) (t := 0) (N := 6) (nc := 0) (ns := 0) dX1_init_7 rfl war_int (fun _ => rfl) hra_int (zr_int 6) (by decide) (by decide) (by decide) (fun _ _ => rfl) (fun _ _ => rfl) (fun _ _ => rfl) ?_
  refine b_putF dX1_init_9 fX1_9 clsF_1 rfl rfl rfl (fun _ => rfl) (fun _ => rfl) (q0 := 0) rfl (by decide) ?_
  exact b_ret dX1_init_12 rfl

set_option maxRecDepth 100000 in
set_option maxHeartbeats 800000 in
theorem i_X2 (d : Nat) : BMt miX2_init d 118 2 [.int 0, .int 0, .null, .int 0, .int 0, .int 0, .int 0, .int 0, .int 0] [(118, .inl (2, [.int 0, .int 0, .ref 119, .int 0, .int 0, .int 0, .int 0, .int 0, .int 0])), (119, .inr (0, fun _ => zrB 0 60))] 1 60 := by
  refine BMt.of (by decide) (by decide) (fun _ => rfl) ?_
  refine b_aload_n rfl dX2_init_0 ?_
  refine b_obj dX2_init_1 lobX2 ?_
  refine b_aload_n rfl dX2_init_4 ?_
  refine b_bipush (nI 60) (by decide) dX2_init_5 ?_
  refine b_newa (k := 119) (t := 0) (N := 60) (nc := 0) (ns := 0) dX2_init_7 rfl war_int (fun _ => rfl) hra_int (zr_int 60) (by decide) (by decide) (by decide) (fun _ _ => rfl) (fun _ _ => rfl) (fun _ _ => rfl) ?_
  refine b_putF dX2_init_9 fX2_11 clsF_2 rfl rfl rfl (fun _ => rfl) (fun _ => rfl) (q0 := 0) rfl (by decide) ?_
  exact b_ret dX2_init_12 rfl

set_option maxRecDepth 100000 in
set_option maxHeartbeats 800000 in
theorem i_X3 (d : Nat) : BMt miX3_init d 123 3 [.null, .null, .null, .null, .null, .null] [(123, .inl (3, [.ref 124, .ref 125, .ref 126, .ref 127, .ref 128, .ref 129])), (124, .inr (0, fun _ => zrB 0 6)), (125, .inr (0, fun _ => zrB 0 6)), (126, .inr (0, fun _ => zrB 0 6)), (127, .inr (0, fun _ => zrB 0 6)), (128, .inr (0, fun _ => zrB 0 64)), (129, .inr (0, fun _ => zrB 0 896))] 6 984 := by
  refine BMt.of (by decide) (by decide) (fun _ => rfl) ?_
  refine b_aload_n rfl dX3_init_0 ?_
  refine b_obj dX3_init_1 lobX3 ?_
  refine b_aload_n rfl dX3_init_4 ?_
  refine b_bipush (nI 6) (by decide) dX3_init_5 ?_
  refine b_newa (k := 124) (t := 0) (N := 6) (nc := 5) (ns := 978) dX3_init_7 rfl war_int (fun _ => rfl) hra_int (zr_int 6) (by decide) (by decide) (by decide) (fun _ _ => rfl) (fun _ _ => rfl) (fun _ _ => rfl) ?_
  refine b_putF dX3_init_9 fX3_9 clsF_3 rfl rfl rfl (fun _ => rfl) (fun _ => rfl) (q0 := 0) rfl (by decide) ?_
  refine b_aload_n rfl dX3_init_12 ?_
  refine b_bipush (nI 6) (by decide) dX3_init_13 ?_
  refine b_newa (k := 125) (t := 0) (N := 6) (nc := 4) (ns := 972) dX3_init_15 rfl war_int (fun _ => rfl) hra_int (zr_int 6) (by decide) (by decide) (by decide) (fun _ _ => rfl) (fun _ _ => rfl) (fun _ _ => rfl) ?_
  refine b_putF dX3_init_17 fX3_15 clsF_3 rfl rfl rfl (fun _ => rfl) (fun _ => rfl) (q0 := 0) rfl (by decide) ?_
  refine b_aload_n rfl dX3_init_20 ?_
  refine b_bipush (nI 6) (by decide) dX3_init_21 ?_
  refine b_newa (k := 126) (t := 0) (N := 6) (nc := 3) (ns := 966) dX3_init_23 rfl war_int (fun _ => rfl) hra_int (zr_int 6) (by decide) (by decide) (by decide) (fun _ _ => rfl) (fun _ _ => rfl) (fun _ _ => rfl) ?_
  refine b_putF dX3_init_25 fX3_18 clsF_3 rfl rfl rfl (fun _ => rfl) (fun _ => rfl) (q0 := 0) rfl (by decide) ?_
  refine b_aload_n rfl dX3_init_28 ?_
  refine b_bipush (nI 6) (by decide) dX3_init_29 ?_
  refine b_newa (k := 127) (t := 0) (N := 6) (nc := 2) (ns := 960) dX3_init_31 rfl war_int (fun _ => rfl) hra_int (zr_int 6) (by decide) (by decide) (by decide) (fun _ _ => rfl) (fun _ _ => rfl) (fun _ _ => rfl) ?_
  refine b_putF dX3_init_33 fX3_21 clsF_3 rfl rfl rfl (fun _ => rfl) (fun _ => rfl) (q0 := 0) rfl (by decide) ?_
  refine b_aload_n rfl dX3_init_36 ?_
  refine b_bipush (nI 64) (by decide) dX3_init_37 ?_
  refine b_newa (k := 128) (t := 0) (N := 64) (nc := 1) (ns := 896) dX3_init_39 rfl war_int (fun _ => rfl) hra_int (zr_int 64) (by decide) (by decide) (by decide) (fun _ _ => rfl) (fun _ _ => rfl) (fun _ _ => rfl) ?_
  refine b_putF dX3_init_41 fX3_24 clsF_3 rfl rfl rfl (fun _ => rfl) (fun _ => rfl) (q0 := 0) rfl (by decide) ?_
  refine b_aload_n rfl dX3_init_44 ?_
  refine b_sipush (nI 896) (by decide) dX3_init_45 ?_
  refine b_newa (k := 129) (t := 0) (N := 896) (nc := 0) (ns := 0) dX3_init_48 rfl war_int (fun _ => rfl) hra_int (zr_int 896) (by decide) (by decide) (by decide) (fun _ _ => rfl) (fun _ _ => rfl) (fun _ _ => rfl) ?_
  refine b_putF dX3_init_50 fX3_27 clsF_3 rfl rfl rfl (fun _ => rfl) (fun _ => rfl) (q0 := 0) rfl (by decide) ?_
  exact b_ret dX3_init_53 rfl

set_option maxRecDepth 100000 in
set_option maxHeartbeats 800000 in
theorem i_X4 (d : Nat) : BMt miX4_init d 10 4 [.null, .null, .null, .int 0, .int 0, .int 0, .int 0] [(10, .inl (4, [.ref 11, .ref 12, .ref 13, .int 0, .int 0, .int (-1), .int (-1)])), (11, .inr (0, fun _ => zrB 0 901)), (12, .inr (0, fun _ => zrB 0 901)), (13, .inr (2, fun _ => zrB 2 901))] 3 2703 := by
  refine BMt.of (by decide) (by decide) (fun _ => rfl) ?_
  refine b_aload_n rfl dX4_init_0 ?_
  refine b_obj dX4_init_1 lobX4 ?_
  refine b_aload_n rfl dX4_init_4 ?_
  refine b_sipush (nI 901) (by decide) dX4_init_5 ?_
  refine b_newa (k := 11) (t := 0) (N := 901) (nc := 2) (ns := 1802) dX4_init_8 rfl war_int (fun _ => rfl) hra_int (zr_int 901) (by decide) (by decide) (by decide) (fun _ _ => rfl) (fun _ _ => rfl) (fun _ _ => rfl) ?_
  refine b_putF dX4_init_10 fX4_11 clsF_4 rfl rfl rfl (fun _ => rfl) (fun _ => rfl) (q0 := 0) rfl (by decide) ?_
  refine b_aload_n rfl dX4_init_13 ?_
  refine b_sipush (nI 901) (by decide) dX4_init_14 ?_
  refine b_newa (k := 12) (t := 0) (N := 901) (nc := 1) (ns := 901) dX4_init_17 rfl war_int (fun _ => rfl) hra_int (zr_int 901) (by decide) (by decide) (by decide) (fun _ _ => rfl) (fun _ _ => rfl) (fun _ _ => rfl) ?_
  refine b_putF dX4_init_19 fX4_15 clsF_4 rfl rfl rfl (fun _ => rfl) (fun _ => rfl) (q0 := 0) rfl (by decide) ?_
  refine b_aload_n rfl dX4_init_22 ?_
  refine b_sipush (nI 901) (by decide) dX4_init_23 ?_
  refine b_newa (k := 13) (t := 2) (N := 901) (nc := 0) (ns := 0) dX4_init_26 rfl war_long (fun _ => rfl) hra_long (zr_long 901) (by decide) (by decide) (by decide) (fun _ _ => rfl) (fun _ _ => rfl) (fun _ _ => rfl) ?_
  refine b_putF dX4_init_28 fX4_18 clsF_4 rfl rfl rfl (fun _ => rfl) (fun _ => rfl) (q0 := 0) rfl (by decide) ?_
  refine b_aload_n rfl dX4_init_31 ?_
  refine b_iconst (-1) (by decide) dX4_init_32 ?_
  refine b_put dX4_init_33 fX4_22 clsF_4 rfl (fun _ => rfl) (fun _ => rfl) (q0 := 0) rfl (by decide) ?_
  refine b_aload_n rfl dX4_init_36 ?_
  refine b_iconst (-1) (by decide) dX4_init_37 ?_
  refine b_put dX4_init_38 fX4_26 clsF_4 rfl (fun _ => rfl) (fun _ => rfl) (q0 := 0) rfl (by decide) ?_
  exact b_ret dX4_init_41 rfl

set_option maxRecDepth 100000 in
set_option maxHeartbeats 800000 in
theorem i_X7 (d : Nat) : BMt miX7_init d 14 7 [.int 0] [(14, .inl (7, [.int 0]))] 0 0 := by
  refine BMt.of (by decide) (by decide) (fun _ => rfl) ?_
  refine b_aload_n rfl dX7_init_0 ?_
  refine b_obj dX7_init_1 lobX7 ?_
  exact b_ret dX7_init_4 rfl

set_option maxRecDepth 100000 in
set_option maxHeartbeats 800000 in
theorem i_X10 (d : Nat) : BMt miX10_init d 15 9 [.null, .int 0] [(15, .inl (9, [.ref 16, .int 0])), (16, .inr (0, fun _ => zrB 0 3))] 1 3 := by
  refine BMt.of (by decide) (by decide) (fun _ => rfl) ?_
  refine b_aload_n rfl dX10_init_0 ?_
  refine b_obj dX10_init_1 lobX10 ?_
  refine b_aload_n rfl dX10_init_4 ?_
  refine b_iconst (nI 3) (by decide) dX10_init_5 ?_
  refine b_newa (k := 16) (t := 0) (N := 3) (nc := 0) (ns := 0) dX10_init_6 rfl war_int (fun _ => rfl) hra_int (zr_int 3) (by decide) (by decide) (by decide) (fun _ _ => rfl) (fun _ _ => rfl) (fun _ _ => rfl) ?_
  refine b_putF dX10_init_8 fX10_11 clsF_9 rfl rfl rfl (fun _ => rfl) (fun _ => rfl) (q0 := 0) rfl (by decide) ?_
  exact b_ret dX10_init_11 rfl

set_option maxRecDepth 100000 in
set_option maxHeartbeats 800000 in
theorem i_X9_30 (d : Nat) : BMt miX9_init d 30 8 [.int 0, .int 0, .int 0, .null, .null, .null, .null, .null, .null] [(30, .inl (8, [.int 0, .int 0, .int 0, .ref 31, .ref 32, .ref 33, .ref 34, .ref 35, .ref 36])), (31, .inr (0, fun _ => zrB 0 60)), (32, .inr (0, fun _ => zrB 0 60)), (33, .inr (0, fun _ => zrB 0 60)), (34, .inr (0, fun _ => zrB 0 60)), (35, .inr (0, fun _ => zrB 0 60)), (36, .inr (0, fun _ => zrB 0 60))] 6 360 := by
  refine BMt.of (by decide) (by decide) (fun _ => rfl) ?_
  refine b_aload_n rfl dX9_init_0 ?_
  refine b_obj dX9_init_1 lobX9 ?_
  refine b_aload_n rfl dX9_init_4 ?_
  refine b_bipush (nI 60) (by decide) dX9_init_5 ?_
  refine b_newa (k := 31) (t := 0) (N := 60) (nc := 5) (ns := 300) dX9_init_7 rfl war_int (fun _ => rfl) hra_int (zr_int 60) (by decide) (by decide) (by decide) (fun _ _ => rfl) (fun _ _ => rfl) (fun _ _ => rfl) ?_
  refine b_putF dX9_init_9 fX9_11 clsF_8 rfl rfl rfl (fun _ => rfl) (fun _ => rfl) (q0 := 0) rfl (by decide) ?_
  refine b_aload_n rfl dX9_init_12 ?_
  refine b_bipush (nI 60) (by decide) dX9_init_13 ?_
  refine b_newa (k := 32) (t := 0) (N := 60) (nc := 4) (ns := 240) dX9_init_15 rfl war_int (fun _ => rfl) hra_int (zr_int 60) (by decide) (by decide) (by decide) (fun _ _ => rfl) (fun _ _ => rfl) (fun _ _ => rfl) ?_
  refine b_putF dX9_init_17 fX9_15 clsF_8 rfl rfl rfl (fun _ => rfl) (fun _ => rfl) (q0 := 0) rfl (by decide) ?_
  refine b_aload_n rfl dX9_init_20 ?_
  refine b_bipush (nI 60) (by decide) dX9_init_21 ?_
  refine b_newa (k := 33) (t := 0) (N := 60) (nc := 3) (ns := 180) dX9_init_23 rfl war_int (fun _ => rfl) hra_int (zr_int 60) (by decide) (by decide) (by decide) (fun _ _ => rfl) (fun _ _ => rfl) (fun _ _ => rfl) ?_
  refine b_putF dX9_init_25 fX9_18 clsF_8 rfl rfl rfl (fun _ => rfl) (fun _ => rfl) (q0 := 0) rfl (by decide) ?_
  refine b_aload_n rfl dX9_init_28 ?_
  refine b_bipush (nI 60) (by decide) dX9_init_29 ?_
  refine b_newa (k := 34) (t := 0) (N := 60) (nc := 2) (ns := 120) dX9_init_31 rfl war_int (fun _ => rfl) hra_int (zr_int 60) (by decide) (by decide) (by decide) (fun _ _ => rfl) (fun _ _ => rfl) (fun _ _ => rfl) ?_
  refine b_putF dX9_init_33 fX9_21 clsF_8 rfl rfl rfl (fun _ => rfl) (fun _ => rfl) (q0 := 0) rfl (by decide) ?_
  refine b_aload_n rfl dX9_init_36 ?_
  refine b_bipush (nI 60) (by decide) dX9_init_37 ?_
  refine b_newa (k := 35) (t := 0) (N := 60) (nc := 1) (ns := 60) dX9_init_39 rfl war_int (fun _ => rfl) hra_int (zr_int 60) (by decide) (by decide) (by decide) (fun _ _ => rfl) (fun _ _ => rfl) (fun _ _ => rfl) ?_
  refine b_putF dX9_init_41 fX9_24 clsF_8 rfl rfl rfl (fun _ => rfl) (fun _ => rfl) (q0 := 0) rfl (by decide) ?_
  refine b_aload_n rfl dX9_init_44 ?_
  refine b_bipush (nI 60) (by decide) dX9_init_45 ?_
  refine b_newa (k := 36) (t := 0) (N := 60) (nc := 0) (ns := 0) dX9_init_47 rfl war_int (fun _ => rfl) hra_int (zr_int 60) (by decide) (by decide) (by decide) (fun _ _ => rfl) (fun _ _ => rfl) (fun _ _ => rfl) ?_
  refine b_putF dX9_init_49 fX9_27 clsF_8 rfl rfl rfl (fun _ => rfl) (fun _ => rfl) (q0 := 0) rfl (by decide) ?_
  exact b_ret dX9_init_52 rfl

set_option maxRecDepth 100000 in
set_option maxHeartbeats 800000 in
theorem i_X9_50 (d : Nat) : BMt miX9_init d 50 8 [.int 0, .int 0, .int 0, .null, .null, .null, .null, .null, .null] [(50, .inl (8, [.int 0, .int 0, .int 0, .ref 51, .ref 52, .ref 53, .ref 54, .ref 55, .ref 56])), (51, .inr (0, fun _ => zrB 0 60)), (52, .inr (0, fun _ => zrB 0 60)), (53, .inr (0, fun _ => zrB 0 60)), (54, .inr (0, fun _ => zrB 0 60)), (55, .inr (0, fun _ => zrB 0 60)), (56, .inr (0, fun _ => zrB 0 60))] 6 360 := by
  refine BMt.of (by decide) (by decide) (fun _ => rfl) ?_
  refine b_aload_n rfl dX9_init_0 ?_
  refine b_obj dX9_init_1 lobX9 ?_
  refine b_aload_n rfl dX9_init_4 ?_
  refine b_bipush (nI 60) (by decide) dX9_init_5 ?_
  refine b_newa (k := 51) (t := 0) (N := 60) (nc := 5) (ns := 300) dX9_init_7 rfl war_int (fun _ => rfl) hra_int (zr_int 60) (by decide) (by decide) (by decide) (fun _ _ => rfl) (fun _ _ => rfl) (fun _ _ => rfl) ?_
  refine b_putF dX9_init_9 fX9_11 clsF_8 rfl rfl rfl (fun _ => rfl) (fun _ => rfl) (q0 := 0) rfl (by decide) ?_
  refine b_aload_n rfl dX9_init_12 ?_
  refine b_bipush (nI 60) (by decide) dX9_init_13 ?_
  refine b_newa (k := 52) (t := 0) (N := 60) (nc := 4) (ns := 240) dX9_init_15 rfl war_int (fun _ => rfl) hra_int (zr_int 60) (by decide) (by decide) (by decide) (fun _ _ => rfl) (fun _ _ => rfl) (fun _ _ => rfl) ?_
  refine b_putF dX9_init_17 fX9_15 clsF_8 rfl rfl rfl (fun _ => rfl) (fun _ => rfl) (q0 := 0) rfl (by decide) ?_
  refine b_aload_n rfl dX9_init_20 ?_
  refine b_bipush (nI 60) (by decide) dX9_init_21 ?_
  refine b_newa (k := 53) (t := 0) (N := 60) (nc := 3) (ns := 180) dX9_init_23 rfl war_int (fun _ => rfl) hra_int (zr_int 60) (by decide) (by decide) (by decide) (fun _ _ => rfl) (fun _ _ => rfl) (fun _ _ => rfl) ?_
  refine b_putF dX9_init_25 fX9_18 clsF_8 rfl rfl rfl (fun _ => rfl) (fun _ => rfl) (q0 := 0) rfl (by decide) ?_
  refine b_aload_n rfl dX9_init_28 ?_
  refine b_bipush (nI 60) (by decide) dX9_init_29 ?_
  refine b_newa (k := 54) (t := 0) (N := 60) (nc := 2) (ns := 120) dX9_init_31 rfl war_int (fun _ => rfl) hra_int (zr_int 60) (by decide) (by decide) (by decide) (fun _ _ => rfl) (fun _ _ => rfl) (fun _ _ => rfl) ?_
  refine b_putF dX9_init_33 fX9_21 clsF_8 rfl rfl rfl (fun _ => rfl) (fun _ => rfl) (q0 := 0) rfl (by decide) ?_
  refine b_aload_n rfl dX9_init_36 ?_
  refine b_bipush (nI 60) (by decide) dX9_init_37 ?_
  refine b_newa (k := 55) (t := 0) (N := 60) (nc := 1) (ns := 60) dX9_init_39 rfl war_int (fun _ => rfl) hra_int (zr_int 60) (by decide) (by decide) (by decide) (fun _ _ => rfl) (fun _ _ => rfl) (fun _ _ => rfl) ?_
  refine b_putF dX9_init_41 fX9_24 clsF_8 rfl rfl rfl (fun _ => rfl) (fun _ => rfl) (q0 := 0) rfl (by decide) ?_
  refine b_aload_n rfl dX9_init_44 ?_
  refine b_bipush (nI 60) (by decide) dX9_init_45 ?_
  refine b_newa (k := 56) (t := 0) (N := 60) (nc := 0) (ns := 0) dX9_init_47 rfl war_int (fun _ => rfl) hra_int (zr_int 60) (by decide) (by decide) (by decide) (fun _ _ => rfl) (fun _ _ => rfl) (fun _ _ => rfl) ?_
  refine b_putF dX9_init_49 fX9_27 clsF_8 rfl rfl rfl (fun _ => rfl) (fun _ => rfl) (q0 := 0) rfl (by decide) ?_
  exact b_ret dX9_init_52 rfl

set_option maxRecDepth 100000 in
set_option maxHeartbeats 800000 in
theorem i_X9_71 (d : Nat) : BMt miX9_init d 71 8 [.int 0, .int 0, .int 0, .null, .null, .null, .null, .null, .null] [(71, .inl (8, [.int 0, .int 0, .int 0, .ref 72, .ref 73, .ref 74, .ref 75, .ref 76, .ref 77])), (72, .inr (0, fun _ => zrB 0 60)), (73, .inr (0, fun _ => zrB 0 60)), (74, .inr (0, fun _ => zrB 0 60)), (75, .inr (0, fun _ => zrB 0 60)), (76, .inr (0, fun _ => zrB 0 60)), (77, .inr (0, fun _ => zrB 0 60))] 6 360 := by
  refine BMt.of (by decide) (by decide) (fun _ => rfl) ?_
  refine b_aload_n rfl dX9_init_0 ?_
  refine b_obj dX9_init_1 lobX9 ?_
  refine b_aload_n rfl dX9_init_4 ?_
  refine b_bipush (nI 60) (by decide) dX9_init_5 ?_
  refine b_newa (k := 72) (t := 0) (N := 60) (nc := 5) (ns := 300) dX9_init_7 rfl war_int (fun _ => rfl) hra_int (zr_int 60) (by decide) (by decide) (by decide) (fun _ _ => rfl) (fun _ _ => rfl) (fun _ _ => rfl) ?_
  refine b_putF dX9_init_9 fX9_11 clsF_8 rfl rfl rfl (fun _ => rfl) (fun _ => rfl) (q0 := 0) rfl (by decide) ?_
  refine b_aload_n rfl dX9_init_12 ?_
  refine b_bipush (nI 60) (by decide) dX9_init_13 ?_
  refine b_newa (k := 73) (t := 0) (N := 60) (nc := 4) (ns := 240) dX9_init_15 rfl war_int (fun _ => rfl) hra_int (zr_int 60) (by decide) (by decide) (by decide) (fun _ _ => rfl) (fun _ _ => rfl) (fun _ _ => rfl) ?_
  refine b_putF dX9_init_17 fX9_15 clsF_8 rfl rfl rfl (fun _ => rfl) (fun _ => rfl) (q0 := 0) rfl (by decide) ?_
  refine b_aload_n rfl dX9_init_20 ?_
  refine b_bipush (nI 60) (by decide) dX9_init_21 ?_
  refine b_newa (k := 74) (t := 0) (N := 60) (nc := 3) (ns := 180) dX9_init_23 rfl war_int (fun _ => rfl) hra_int (zr_int 60) (by decide) (by decide) (by decide) (fun _ _ => rfl) (fun _ _ => rfl) (fun _ _ => rfl) ?_
  refine b_putF dX9_init_25 fX9_18 clsF_8 rfl rfl rfl (fun _ => rfl) (fun _ => rfl) (q0 := 0) rfl (by decide) ?_
  refine b_aload_n rfl dX9_init_28 ?_
  refine b_bipush (nI 60) (by decide) dX9_init_29 ?_
  refine b_newa (k := 75) (t := 0) (N := 60) (nc := 2) (ns := 120) dX9_init_31 rfl war_int (fun _ => rfl) hra_int (zr_int 60) (by decide) (by decide) (by decide) (fun _ _ => rfl) (fun _ _ => rfl) (fun _ _ => rfl) ?_
  refine b_putF dX9_init_33 fX9_21 clsF_8 rfl rfl rfl (fun _ => rfl) (fun _ => rfl) (q0 := 0) rfl (by decide) ?_
  refine b_aload_n rfl dX9_init_36 ?_
  refine b_bipush (nI 60) (by decide) dX9_init_37 ?_
  refine b_newa (k := 76) (t := 0) (N := 60) (nc := 1) (ns := 60) dX9_init_39 rfl war_int (fun _ => rfl) hra_int (zr_int 60) (by decide) (by decide) (by decide) (fun _ _ => rfl) (fun _ _ => rfl) (fun _ _ => rfl) ?_
  refine b_putF dX9_init_41 fX9_24 clsF_8 rfl rfl rfl (fun _ => rfl) (fun _ => rfl) (q0 := 0) rfl (by decide) ?_
  refine b_aload_n rfl dX9_init_44 ?_
  refine b_bipush (nI 60) (by decide) dX9_init_45 ?_
  refine b_newa (k := 77) (t := 0) (N := 60) (nc := 0) (ns := 0) dX9_init_47 rfl war_int (fun _ => rfl) hra_int (zr_int 60) (by decide) (by decide) (by decide) (fun _ _ => rfl) (fun _ _ => rfl) (fun _ _ => rfl) ?_
  refine b_putF dX9_init_49 fX9_27 clsF_8 rfl rfl rfl (fun _ => rfl) (fun _ => rfl) (q0 := 0) rfl (by decide) ?_
  exact b_ret dX9_init_52 rfl

set_option maxRecDepth 100000 in
set_option maxHeartbeats 800000 in
theorem i_X9_91 (d : Nat) : BMt miX9_init d 91 8 [.int 0, .int 0, .int 0, .null, .null, .null, .null, .null, .null] [(91, .inl (8, [.int 0, .int 0, .int 0, .ref 92, .ref 93, .ref 94, .ref 95, .ref 96, .ref 97])), (92, .inr (0, fun _ => zrB 0 60)), (93, .inr (0, fun _ => zrB 0 60)), (94, .inr (0, fun _ => zrB 0 60)), (95, .inr (0, fun _ => zrB 0 60)), (96, .inr (0, fun _ => zrB 0 60)), (97, .inr (0, fun _ => zrB 0 60))] 6 360 := by
  refine BMt.of (by decide) (by decide) (fun _ => rfl) ?_
  refine b_aload_n rfl dX9_init_0 ?_
  refine b_obj dX9_init_1 lobX9 ?_
  refine b_aload_n rfl dX9_init_4 ?_
  refine b_bipush (nI 60) (by decide) dX9_init_5 ?_
  refine b_newa (k := 92) (t := 0) (N := 60) (nc := 5) (ns := 300) dX9_init_7 rfl war_int (fun _ => rfl) hra_int (zr_int 60) (by decide) (by decide) (by decide) (fun _ _ => rfl) (fun _ _ => rfl) (fun _ _ => rfl) ?_
  refine b_putF dX9_init_9 fX9_11 clsF_8 rfl rfl rfl (fun _ => rfl) (fun _ => rfl) (q0 := 0) rfl (by decide) ?_
  refine b_aload_n rfl dX9_init_12 ?_
  refine b_bipush (nI 60) (by decide) dX9_init_13 ?_
  refine b_newa (k := 93) (t := 0) (N := 60) (nc := 4) (ns := 240) dX9_init_15 rfl war_int (fun _ => rfl) hra_int (zr_int 60) (by decide) (by decide) (by decide) (fun _ _ => rfl) (fun _ _ => rfl) (fun _ _ => rfl) ?_
  refine b_putF dX9_init_17 fX9_15 clsF_8 rfl rfl rfl (fun _ => rfl) (fun _ => rfl) (q0 := 0) rfl (by decide) ?_
  refine b_aload_n rfl dX9_init_20 ?_
  refine b_bipush (nI 60) (by decide) dX9_init_21 ?_
  refine b_newa (k := 94) (t := 0) (N := 60) (nc := 3) (ns := 180) dX9_init_23 rfl war_int (fun _ => rfl) hra_int (zr_int 60) (by decide) (by decide) (by decide) (fun _ _ => rfl) (fun _ _ => rfl) (fun _ _ => rfl) ?_
  refine b_putF dX9_init_25 fX9_18 clsF_8 rfl rfl rfl (fun _ => rfl) (fun _ => rfl) (q0 := 0) rfl (by decide) ?_
  refine b_aload_n rfl dX9_init_28 ?_
  refine b_bipush (nI 60) (by decide) dX9_init_29 ?_
  refine b_newa (k := 95) (t := 0) (N := 60) (nc := 2) (ns := 120) dX9_init_31 rfl war_int (fun _ => rfl) hra_int (zr_int 60) (by decide) (by decide) (by decide) (fun _ _ => rfl) (fun _ _ => rfl) (fun _ _ => rfl) ?_
  refine b_putF dX9_init_33 fX9_21 clsF_8 rfl rfl rfl (fun _ => rfl) (fun _ => rfl) (q0 := 0) rfl (by decide) ?_
  refine b_aload_n rfl dX9_init_36 ?_
  refine b_bipush (nI 60) (by decide) dX9_init_37 ?_
  refine b_newa (k := 96) (t := 0) (N := 60) (nc := 1) (ns := 60) dX9_init_39 rfl war_int (fun _ => rfl) hra_int (zr_int 60) (by decide) (by decide) (by decide) (fun _ _ => rfl) (fun _ _ => rfl) (fun _ _ => rfl) ?_
  refine b_putF dX9_init_41 fX9_24 clsF_8 rfl rfl rfl (fun _ => rfl) (fun _ => rfl) (q0 := 0) rfl (by decide) ?_
  refine b_aload_n rfl dX9_init_44 ?_
  refine b_bipush (nI 60) (by decide) dX9_init_45 ?_
  refine b_newa (k := 97) (t := 0) (N := 60) (nc := 0) (ns := 0) dX9_init_47 rfl war_int (fun _ => rfl) hra_int (zr_int 60) (by decide) (by decide) (by decide) (fun _ _ => rfl) (fun _ _ => rfl) (fun _ _ => rfl) ?_
  refine b_putF dX9_init_49 fX9_27 clsF_8 rfl rfl rfl (fun _ => rfl) (fun _ => rfl) (q0 := 0) rfl (by decide) ?_
  exact b_ret dX9_init_52 rfl

set_option maxRecDepth 100000 in
set_option maxHeartbeats 800000 in
theorem i_X9_111 (d : Nat) : BMt miX9_init d 111 8 [.int 0, .int 0, .int 0, .null, .null, .null, .null, .null, .null] [(111, .inl (8, [.int 0, .int 0, .int 0, .ref 112, .ref 113, .ref 114, .ref 115, .ref 116, .ref 117])), (112, .inr (0, fun _ => zrB 0 60)), (113, .inr (0, fun _ => zrB 0 60)), (114, .inr (0, fun _ => zrB 0 60)), (115, .inr (0, fun _ => zrB 0 60)), (116, .inr (0, fun _ => zrB 0 60)), (117, .inr (0, fun _ => zrB 0 60))] 6 360 := by
  refine BMt.of (by decide) (by decide) (fun _ => rfl) ?_
  refine b_aload_n rfl dX9_init_0 ?_
  refine b_obj dX9_init_1 lobX9 ?_
  refine b_aload_n rfl dX9_init_4 ?_
  refine b_bipush (nI 60) (by decide) dX9_init_5 ?_
  refine b_newa (k := 112) (t := 0) (N := 60) (nc := 5) (ns := 300) dX9_init_7 rfl war_int (fun _ => rfl) hra_int (zr_int 60) (by decide) (by decide) (by decide) (fun _ _ => rfl) (fun _ _ => rfl) (fun _ _ => rfl) ?_
  refine b_putF dX9_init_9 fX9_11 clsF_8 rfl rfl rfl (fun _ => rfl) (fun _ => rfl) (q0 := 0) rfl (by decide) ?_
  refine b_aload_n rfl dX9_init_12 ?_
  refine b_bipush (nI 60) (by decide) dX9_init_13 ?_
  refine b_newa (k := 113) (t := 0) (N := 60) (nc := 4) (ns := 240) dX9_init_15 rfl war_int (fun _ => rfl) hra_int (zr_int 60) (by decide) (by decide) (by decide) (fun _ _ => rfl) (fun _ _ => rfl) (fun _ _ => rfl) ?_
  refine b_putF dX9_init_17 fX9_15 clsF_8 rfl rfl rfl (fun _ => rfl) (fun _ => rfl) (q0 := 0) rfl (by decide) ?_
  refine b_aload_n rfl dX9_init_20 ?_
  refine b_bipush (nI 60) (by decide) dX9_init_21 ?_
  refine b_newa (k := 114) (t := 0) (N := 60) (nc := 3) (ns := 180) dX9_init_23 rfl war_int (fun _ => rfl) hra_int (zr_int 60) (by decide) (by decide) (by decide) (fun _ _ => rfl) (fun _ _ => rfl) (fun _ _ => rfl) ?_
  refine b_putF dX9_init_25 fX9_18 clsF_8 rfl rfl rfl (fun _ => rfl) (fun _ => rfl) (q0 := 0) rfl (by decide) ?_
  refine b_aload_n rfl dX9_init_28 ?_
  refine b_bipush (nI 60) (by decide) dX9_init_29 ?_
  refine b_newa (k := 115) (t := 0) (N := 60) (nc := 2) (ns := 120) dX9_init_31 rfl war_int (fun _ => rfl) hra_int (zr_int 60) (by decide) (by decide) (by decide) (fun _ _ => rfl) (fun _ _ => rfl) (fun _ _ => rfl) ?_
  refine b_putF dX9_init_33 fX9_21 clsF_8 rfl rfl rfl (fun _ => rfl) (fun _ => rfl) (q0 := 0) rfl (by decide) ?_
  refine b_aload_n rfl dX9_init_36 ?_
  refine b_bipush (nI 60) (by decide) dX9_init_37 ?_
  refine b_newa (k := 116) (t := 0) (N := 60) (nc := 1) (ns := 60) dX9_init_39 rfl war_int (fun _ => rfl) hra_int (zr_int 60) (by decide) (by decide) (by decide) (fun _ _ => rfl) (fun _ _ => rfl) (fun _ _ => rfl) ?_
  refine b_putF dX9_init_41 fX9_24 clsF_8 rfl rfl rfl (fun _ => rfl) (fun _ => rfl) (q0 := 0) rfl (by decide) ?_
  refine b_aload_n rfl dX9_init_44 ?_
  refine b_bipush (nI 60) (by decide) dX9_init_45 ?_
  refine b_newa (k := 117) (t := 0) (N := 60) (nc := 0) (ns := 0) dX9_init_47 rfl war_int (fun _ => rfl) hra_int (zr_int 60) (by decide) (by decide) (by decide) (fun _ _ => rfl) (fun _ _ => rfl) (fun _ _ => rfl) ?_
  refine b_putF dX9_init_49 fX9_27 clsF_8 rfl rfl rfl (fun _ => rfl) (fun _ => rfl) (q0 := 0) rfl (by decide) ?_
  exact b_ret dX9_init_52 rfl

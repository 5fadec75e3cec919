theorem kfJ0_38 : Cond.fieldLink RJ0 38 "java/lang/String" "COMPACT_STRINGS" "Z" ∈ TB := tb_3 (List.mem_of_getElem? (i := 54) rfl) rfl
theorem kfJ0_15 : Cond.fieldLink RJ0 15 "java/lang/String" "coder" "B" ∈ TB := tb_9 (List.mem_of_getElem? (i := 226) rfl) rfl
theorem kfJ0_9 : Cond.fieldLink RJ0 9 "java/lang/String" "value" "[B" ∈ TB := tb_9 (List.mem_of_getElem? (i := 225) rfl) rfl
theorem kfJ0_1053 : Cond.fieldLink RJ0 1053 "jdk/internal/util/Preconditions" "SIOOBE_FORMATTER" "Ljava/util/function/BiFunction;" ∈ TB := tb_3 (List.mem_of_getElem? (i := 70) rfl) rfl
theorem dJ0_length_8abf5_0 : decode cJ0_length_8abf5 0 = .ok (.aload_n 0, 1) := by decide +kernel
theorem dJ0_length_8abf5_1 : decode cJ0_length_8abf5 1 = .ok (.getfield 9, 3) := by decide +kernel
theorem dJ0_length_8abf5_4 : decode cJ0_length_8abf5 4 = .ok (.arraylength, 1) := by decide +kernel
theorem dJ0_length_8abf5_5 : decode cJ0_length_8abf5 5 = .ok (.aload_n 0, 1) := by decide +kernel
theorem dJ0_length_8abf5_6 : decode cJ0_length_8abf5 6 = .ok (.invokevirtual 335, 3) := by decide +kernel
theorem dJ0_length_8abf5_9 : decode cJ0_length_8abf5 9 = .ok (.ishr, 1) := by decide +kernel
theorem dJ0_length_8abf5_10 : decode cJ0_length_8abf5 10 = .ok (.ireturn, 1) := by decide +kernel
theorem dJ0_coder_7d493_0 : decode cJ0_coder_7d493 0 = .ok (.getstatic 38, 3) := by decide +kernel
theorem dJ0_coder_7d493_3 : decode cJ0_coder_7d493 3 = .ok (.ifCond .eq 10, 3) := by decide +kernel
theorem dJ0_coder_7d493_6 : decode cJ0_coder_7d493 6 = .ok (.aload_n 0, 1) := by decide +kernel
theorem dJ0_coder_7d493_7 : decode cJ0_coder_7d493 7 = .ok (.getfield 15, 3) := by decide +kernel
theorem dJ0_coder_7d493_10 : decode cJ0_coder_7d493 10 = .ok (.goto 4, 3) := by decide +kernel
theorem dJ0_coder_7d493_13 : decode cJ0_coder_7d493 13 = .ok (.iconst 1, 1) := by decide +kernel
theorem dJ0_coder_7d493_14 : decode cJ0_coder_7d493 14 = .ok (.ireturn, 1) := by decide +kernel
theorem dJ0_charAt_5068e_0 : decode cJ0_charAt_5068e 0 = .ok (.aload_n 0, 1) := by decide +kernel
theorem dJ0_charAt_5068e_1 : decode cJ0_charAt_5068e 1 = .ok (.invokevirtual 492, 3) := by decide +kernel
theorem dJ0_charAt_5068e_4 : decode cJ0_charAt_5068e 4 = .ok (.ifCond .eq 12, 3) := by decide +kernel
theorem dJ0_charAt_5068e_7 : decode cJ0_charAt_5068e 7 = .ok (.aload_n 0, 1) := by decide +kernel
theorem dJ0_charAt_5068e_8 : decode cJ0_charAt_5068e 8 = .ok (.getfield 9, 3) := by decide +kernel
theorem dJ0_charAt_5068e_11 : decode cJ0_charAt_5068e 11 = .ok (.iload_n 1, 1) := by decide +kernel
theorem dJ0_charAt_5068e_12 : decode cJ0_charAt_5068e 12 = .ok (.invokestatic 495, 3) := by decide +kernel
theorem dJ0_charAt_5068e_15 : decode cJ0_charAt_5068e 15 = .ok (.ireturn, 1) := by decide +kernel
theorem dJ0_charAt_5068e_16 : decode cJ0_charAt_5068e 16 = .ok (.aload_n 0, 1) := by decide +kernel
theorem dJ0_charAt_5068e_17 : decode cJ0_charAt_5068e 17 = .ok (.getfield 9, 3) := by decide +kernel
theorem dJ0_charAt_5068e_20 : decode cJ0_charAt_5068e 20 = .ok (.iload_n 1, 1) := by decide +kernel
theorem dJ0_charAt_5068e_21 : decode cJ0_charAt_5068e 21 = .ok (.invokestatic 498, 3) := by decide +kernel
theorem dJ0_charAt_5068e_24 : decode cJ0_charAt_5068e 24 = .ok (.ireturn, 1) := by decide +kernel
theorem dJ0_isLatin1_aae02_0 : decode cJ0_isLatin1_aae02 0 = .ok (.getstatic 38, 3) := by decide +kernel
theorem dJ0_isLatin1_aae02_3 : decode cJ0_isLatin1_aae02 3 = .ok (.ifCond .eq 14, 3) := by decide +kernel
theorem dJ0_isLatin1_aae02_6 : decode cJ0_isLatin1_aae02 6 = .ok (.aload_n 0, 1) := by decide +kernel
theorem dJ0_isLatin1_aae02_7 : decode cJ0_isLatin1_aae02 7 = .ok (.getfield 15, 3) := by decide +kernel
theorem dJ0_isLatin1_aae02_10 : decode cJ0_isLatin1_aae02 10 = .ok (.ifCond .ne 7, 3) := by decide +kernel
theorem dJ0_isLatin1_aae02_13 : decode cJ0_isLatin1_aae02 13 = .ok (.iconst 1, 1) := by decide +kernel
theorem dJ0_isLatin1_aae02_14 : decode cJ0_isLatin1_aae02 14 = .ok (.goto 4, 3) := by decide +kernel
theorem dJ0_isLatin1_aae02_17 : decode cJ0_isLatin1_aae02 17 = .ok (.iconst 0, 1) := by decide +kernel
theorem dJ0_isLatin1_aae02_18 : decode cJ0_isLatin1_aae02 18 = .ok (.ireturn, 1) := by decide +kernel
theorem dJ1_charAt_3b067_0 : decode cJ1_charAt_3b067 0 = .ok (.iload_n 1, 1) := by decide +kernel
theorem dJ1_charAt_3b067_1 : decode cJ1_charAt_3b067 1 = .ok (.aload_n 0, 1) := by decide +kernel
theorem dJ1_charAt_3b067_2 : decode cJ1_charAt_3b067 2 = .ok (.arraylength, 1) := by decide +kernel
theorem dJ1_charAt_3b067_3 : decode cJ1_charAt_3b067 3 = .ok (.invokestatic 9, 3) := by decide +kernel
theorem dJ1_charAt_3b067_6 : decode cJ1_charAt_3b067 6 = .ok (.aload_n 0, 1) := by decide +kernel
theorem dJ1_charAt_3b067_7 : decode cJ1_charAt_3b067 7 = .ok (.iload_n 1, 1) := by decide +kernel
theorem dJ1_charAt_3b067_8 : decode cJ1_charAt_3b067 8 = .ok (.baload, 1) := by decide +kernel
theorem dJ1_charAt_3b067_9 : decode cJ1_charAt_3b067 9 = .ok (.sipush 255, 3) := by decide +kernel
theorem dJ1_charAt_3b067_12 : decode cJ1_charAt_3b067 12 = .ok (.iand, 1) := by decide +kernel
theorem dJ1_charAt_3b067_13 : decode cJ1_charAt_3b067 13 = .ok (.i2c, 1) := by decide +kernel
theorem dJ1_charAt_3b067_14 : decode cJ1_charAt_3b067 14 = .ok (.ireturn, 1) := by decide +kernel
theorem dJ0_checkIndex_df160_0 : decode cJ0_checkIndex_df160 0 = .ok (.iload_n 0, 1) := by decide +kernel
theorem dJ0_checkIndex_df160_1 : decode cJ0_checkIndex_df160 1 = .ok (.iload_n 1, 1) := by decide +kernel
theorem dJ0_checkIndex_df160_2 : decode cJ0_checkIndex_df160 2 = .ok (.getstatic 1053, 3) := by decide +kernel
theorem dJ0_checkIndex_df160_5 : decode cJ0_checkIndex_df160 5 = .ok (.invokestatic 1059, 3) := by decide +kernel
theorem dJ0_checkIndex_df160_8 : decode cJ0_checkIndex_df160 8 = .ok (.pop, 1) := by decide +kernel
theorem dJ0_checkIndex_df160_9 : decode cJ0_checkIndex_df160 9 = .ok (.return_, 1) := by decide +kernel
theorem dJ3_checkIndex_8e157_0 : decode cJ3_checkIndex_8e157 0 = .ok (.iload_n 0, 1) := by decide +kernel
theorem dJ3_checkIndex_8e157_1 : decode cJ3_checkIndex_8e157 1 = .ok (.ifCond .lt 8, 3) := by decide +kernel
theorem dJ3_checkIndex_8e157_4 : decode cJ3_checkIndex_8e157 4 = .ok (.iload_n 0, 1) := by decide +kernel
theorem dJ3_checkIndex_8e157_5 : decode cJ3_checkIndex_8e157 5 = .ok (.iload_n 1, 1) := by decide +kernel
theorem dJ3_checkIndex_8e157_6 : decode cJ3_checkIndex_8e157 6 = .ok (.if_icmp .lt 10, 3) := by decide +kernel
theorem dJ3_checkIndex_8e157_9 : decode cJ3_checkIndex_8e157 9 = .ok (.aload_n 2, 1) := by decide +kernel
theorem dJ3_checkIndex_8e157_10 : decode cJ3_checkIndex_8e157 10 = .ok (.iload_n 0, 1) := by decide +kernel
theorem dJ3_checkIndex_8e157_11 : decode cJ3_checkIndex_8e157 11 = .ok (.iload_n 1, 1) := by decide +kernel
theorem dJ3_checkIndex_8e157_12 : decode cJ3_checkIndex_8e157 12 = .ok (.invokestatic 95, 3) := by decide +kernel
theorem dJ3_checkIndex_8e157_15 : decode cJ3_checkIndex_8e157 15 = .ok (.athrow, 1) := by decide +kernel
theorem dJ3_checkIndex_8e157_16 : decode cJ3_checkIndex_8e157 16 = .ok (.iload_n 0, 1) := by decide +kernel
theorem dJ3_checkIndex_8e157_17 : decode cJ3_checkIndex_8e157 17 = .ok (.ireturn, 1) := by decide +kernel
theorem a_ldcS {mi : MI} {d : Nat} {X : CX} {pc : Nat} {L : List (Nat × Option Value)} {st : List Value} {M : Mm} (hc : mi.1.cls = RX8) (hd : decode mi.2.1 pc = .ok (.ldc 11, 2)) (kk : AW mi d X (pc + 2) L (.ref nC :: st) M) : AW mi d X pc L st M := by
  intro G p l e R s m args below meth c A cells slots Qf B hX H locs ls hP hD hS hl
  have h0 := B.2.2.2.2.1
  rw [hc] at h0
  exact va_ldcS B.1 B.2.1 h0 B.2.2.2.2.2.2.2.2.2.2.2.2.2.2.1 hd (kk G p l e R s m args below meth c A cells slots Qf B hX H locs ls hP hD hS hl)
theorem a_gsZ {mi : MI} {d : Nat} {X : CX} {pc : Nat} {L : List (Nat × Option Value)} {st : List Value} {M : Mm} {idx : Nat} (hw : Cond.fieldLink mi.1.cls idx "java/lang/String" "COMPACT_STRINGS" "Z" ∈ TB) (hd : decode mi.2.1 pc = .ok (.getstatic idx, 3)) (kk : AW mi d X (pc + 3) L (.int (nI 1) :: st) M) : AW mi d X pc L st M := by
  intro G p l e R s m args below meth c A cells slots Qf B hX H locs ls hP hD hS hl
  exact va_gets B.1 B.2.1 B.2.2.2.2.2.2.2.2.2.2.2.2.2.2.2.1 hS B.2.2.2.2.1 (B.2.2.2.2.2.1 _ hw) (fun x h => h) hd (kk G p l e R s m args below meth c A cells slots Qf B hX H locs ls hP hD hS hl)
theorem a_gsF {mi : MI} {d : Nat} {X : CX} {pc : Nat} {L : List (Nat × Option Value)} {st : List Value} {M : Mm} {idx : Nat} (hw : Cond.fieldLink mi.1.cls idx "jdk/internal/util/Preconditions" "SIOOBE_FORMATTER" "Ljava/util/function/BiFunction;" ∈ TB) (hd : decode mi.2.1 pc = .ok (.getstatic idx, 3)) (k1 : AW mi d X (pc + 3) L (.null :: st) M) (k2 : AW mi d X (pc + 3) L (.ref (nC + 2) :: st) M) : AW mi d X pc L st M := by
  intro G p l e R s m args below meth c A cells slots Qf B hX H locs ls hP hD hS hl
  rcases B.2.2.2.2.2.2.2.2.2.2.2.2.2.2.2.2 with h | h
  · exact va_gets B.1 B.2.1 h hS B.2.2.2.2.1 (B.2.2.2.2.2.1 _ hw) (fun x h => h) hd (k1 G p l e R s m args below meth c A cells slots Qf B hX H locs ls hP hD hS hl)
  · exact va_gets B.1 B.2.1 h hS B.2.2.2.2.1 (B.2.2.2.2.2.1 _ hw) (fun x h => h) hd (k2 G p l e R s m args below meth c A cells slots Qf B hX H locs ls hP hD hS hl)
theorem a_sfc {mi : MI} {d : Nat} {X : CX} {pc : Nat} {L : List (Nat × Option Value)} {st : List Value} {M : Mm} {idx : Nat} (hw : Cond.fieldLink mi.1.cls idx "java/lang/String" "coder" "B" ∈ TB) (hd : decode mi.2.1 pc = .ok (.getfield idx, 3)) (kk : AW mi d X (pc + 3) L (.int (nI 0) :: st) M) : AW mi d X pc L (.ref nC :: st) M := by
  intro G p l e R s m args below meth c A cells slots Qf B hX H locs ls hP hD hS hl
  exact vk_getf B.1 B.2.1 (B.2.2.2.2.2.2.2.2.2.2.2.2.2.1.1 0 (by decide)).2.1 hS B.2.2.2.2.1 (B.2.2.2.2.2.1 _ hw) (fun x h => h) hd (kk G p l e R s m args below meth c A cells slots Qf B hX H locs ls hP hD hS hl)
theorem a_sfv {mi : MI} {d : Nat} {X : CX} {pc : Nat} {L : List (Nat × Option Value)} {st : List Value} {M : Mm} {idx : Nat} (hw : Cond.fieldLink mi.1.cls idx "java/lang/String" "value" "[B" ∈ TB) (hd : decode mi.2.1 pc = .ok (.getfield idx, 3)) (kk : AW mi d X (pc + 3) L (.ref (nC + 1) :: st) M) : AW mi d X pc L (.ref nC :: st) M := by
  intro G p l e R s m args below meth c A cells slots Qf B hX H locs ls hP hD hS hl
  exact vk_getf B.1 B.2.1 (B.2.2.2.2.2.2.2.2.2.2.2.2.2.1.1 0 (by decide)).2.2.1 hS B.2.2.2.2.1 (B.2.2.2.2.2.1 _ hw) (fun x h => h) hd (kk G p l e R s m args below meth c A cells slots Qf B hX H locs ls hP hD hS hl)
theorem a_stl {mi : MI} {d : Nat} {X : CX} {pc : Nat} {L : List (Nat × Option Value)} {st : List Value} {M : Mm} (hd : decode mi.2.1 pc = .ok (.arraylength, 1)) (kk : AW mi d X (pc + 1) L (.int (nI 132) :: st) M) : AW mi d X pc L (.ref (nC + 1) :: st) M := by
  intro G p l e R s m args below meth c A cells slots Qf B hX H locs ls hP hD hS hl
  exact va_tlen B.1 B.2.1 (B.2.2.2.2.2.2.2.2.2.2.2.2.2.1.1 0 (by decide)).2.2.2 hS (v := nI 132) rfl hd (kk G p l e R s m args below meth c A cells slots Qf B hX H locs ls hP hD hS hl)
theorem a_stb {mi : MI} {d : Nat} {X : CX} {pc : Nat} {L : List (Nat × Option Value)} {st : List Value} {M : Mm} {i : Nat} (hi : i < 132) (hd : decode mi.2.1 pc = .ok (.baload, 1)) (kk : AW mi d X (pc + 1) L (.int (strB.getD i 0) :: st) M) : AW mi d X pc L (.int (nI i) :: .ref (nC + 1) :: st) M := by
  intro G p l e R s m args below meth c A cells slots Qf B hX H locs ls hP hD hS hl
  exact va_tb B.1 B.2.1 (B.2.2.2.2.2.2.2.2.2.2.2.2.2.1.1 0 (by decide)).2.2.2 hS (i := nI i) (vp_in_nI hi (by decide)) (v := .int (strB.getD i 0)) (by rw [nI_clamp (by omega)]; rfl) hd (kk G p l e R s m args below meth c A cells slots Qf B hX H locs ls hP hD hS hl)
theorem a_i2c {mi : MI} {d : Nat} {X : CX} {pc : Nat} {L : List (Nat × Option Value)} {st : List Value} {M : Mm} {x v : Int32} (hv : (x.toUInt32 % 65536).toInt32 = v) (hd : decode mi.2.1 pc = .ok (.i2c, 1)) (kk : AW mi d X (pc + 1) L (.int v :: st) M) : AW mi d X pc L (.int x :: st) M := by
  intro G p l e R s m args below meth c A cells slots Qf B hX H locs ls hP hD hS hl
  exact lv_i2c B.1 B.2.1 hd hv (kk G p l e R s m args below meth c A cells slots Qf B hX H locs ls hP hD hS hl)
theorem a_tret {mi : MI} {d : Nat} {Q : Option Value → Mm → Prop} {pc : Nat} {L : List (Nat × Option Value)} {M : Mm} {x : Int32} {ty : FieldType} (hd : decode mi.2.1 pc = .ok (.ireturn, 1)) (hr : mi.2.2.2 = some ty) (hn : narrow ty (.int x) = .int x) (hq : Q (some (.int x)) M) : AW mi d (mxA Q) pc L [.int x] M := by
  intro G p l e R s m args below meth c A cells slots Qf B hX H locs ls hP hD hS hl
  obtain ⟨rfl, rfl, rfl⟩ := hX
  exact W.zret (v := x) B.1 B.2.1 (B.2.2.2.1.trans hr) hn (fun t ht hW => ⟨⟨some (.int x), M, rfl, hq, by rw [ht]; exact hP, va_K.moved hW.alike B.2.2.2.2.2.2.2.1⟩, hS.F ht⟩) hS.2.2 hd B.2.2.2.2.2.2.1
theorem a_callT {mi mi' : MI} {d : Nat} {X : CX} {pc d' n idx : Nat} {L : List (Nat × Option Value)} {st S0 : List Value} {M : Mm} {As : List Value} {Q' : Option Value → Mm → Prop}
    (hd : decode mi.2.1 pc = .ok (.invokevirtual idx, 3)) (hlk : Cond.methodLink mi.1.cls idx mi'.1 ∈ TB) (hm : mthV mi' n) (hcl : mi'.1.cls = "java/lang/String") (hn : As.length = n) (hdd : d' < d) (hnl : mi'.2.2.1 ≤ 30)
    (hst : S0 = As.reverse ++ .ref nC :: st) (hcat : (st.map fun v => v.category).sum ≤ 8)
    (hA : AMt mi' d' (.ref nC :: As) M Q') (kk : ∀ r M', Q' r M' → AW mi d X (pc + 3) L (r.toList ++ st) M') : AW mi d X pc L S0 M := by
  intro G p l e R s m args below meth c A cells slots Qf B hX H locs ls hP hD hS hl
  obtain ⟨⟨hini, hcode, hdesc⟩, hinst, hsel⟩ := hm
  have hts := B.2.2.2.2.2.1
  have hfr := B.2.2.2.2.2.2.2.2.2.1
  have hlo := B.2.2.2.2.2.2.2.2.2.2.1
  have cw : CallW R s args mi.1.cls mi'.1.cls idx mi'.1 mi'.2.1 mi'.2.2.1 mi'.2.2.2 (Cond.code mi'.1 mi'.2.1 mi'.2.2.1 mi'.2.2.2 :: TB) (rmD d') 0 0 n :=
    ⟨callB_of n hts (fun w hw => by rcases List.mem_cons.mp hw with rfl | h; exact tb_good _ hcode; exact tb_good _ h) rfl rfl rfl (hts _ hini) (hts _ hlk) hdesc (by simp only [rmD]; omega), hts _ hinst, hts _ hsel⟩
  have hr := va_runV (l := l) (e := e) (below := below) (meth := meth) (locs := locs) (As := As.map (vmA G.2.2)) (rest := st.map (vmA G.2.2)) (cells := cells) (slots := slots) ⟨B.1, B.2.1, B.2.2.1, B.2.2.2.2.1, hts⟩ (hA l G H.size) cw (b := G.2.2 nC) (H := H) (g := F0 m pc ls (S0.map (vmA G.2.2)))
    ⟨a_blind, by rw [hcl]; exact vk_recv (i := 0) B.2.2.2.2.2.2.2.2.2.2.2.2.2.1 (by decide) hS, a_pre (As := (Value.ref nC :: As).map (vmA G.2.2)) B hP hD hS⟩ rfl (by rw [List.length_map]; exact hn) hl.1 (by rw [hst, List.map_append, List.map_reverse]; rfl) (lv_room (by rw [map_cat]; exact hcat)) hd ⟨B.2.2.2.2.2.2.2.2.2.2.2.1, B.2.2.2.2.2.2.2.2.2.2.2.2.1⟩
  exact a_run (Bs := .ref nC :: As) (Q' := Q') B hX hP hD hS hl hr kk
theorem n_callT {mi mi' : MI} {d d' : Nat} {X : CX} {pc n idx : Nat} {L : List (Nat × Option Value)} {st S0 : List Value} {M : Mm} {As : List Value}
    (hd : decode mi.2.1 pc = .ok (.invokevirtual idx, 3)) (hlk : Cond.methodLink mi.1.cls idx mi'.1 ∈ TB) (hm : mthV mi' n) (hcl : mi'.1.cls = "java/lang/String")
    (hA : AMt mi' d' (.ref nC :: As) M (qV mi d X (pc + 3) L st)) (hst : S0 = As.reverse ++ .ref nC :: st) (hn : As.length = n) (hdd : d' < d) (hnl : mi'.2.2.1 ≤ 30) (hcat : (st.map fun v => v.category).sum ≤ 8) : AW mi d X pc L S0 M :=
  a_callT hd hlk hm hcl hn hdd hnl hst hcat hA (fun r M' h => by cases r <;> exact h)
theorem c_strCoder {M : Mm} {Q : Option Value → Mm → Prop} (hQ : Q (some (.int (nI 0))) M) (d : Nat) : AMt miJ0_coder_7d493 (d) [.ref nC] M Q := by
  refine AMt.of (by decide) (Nat.le_of_ble_eq_true rfl) ?_
  show AW miJ0_coder_7d493 (d) (mxA Q) 0 [(0, some (.ref nC))] [] M
  refine a_gsZ kfJ0_38 dJ0_coder_7d493_0 ?_
  refine n_if_eq 13 (by decide) dJ0_coder_7d493_3 (by decide) (fun h => absurd h (by decide)) (fun _ => ?_)
  refine a_aload_n rfl dJ0_coder_7d493_6 ?_
  refine a_sfc kfJ0_15 dJ0_coder_7d493_7 ?_
  refine a_goto 14 dJ0_coder_7d493_10 (by decide) ?_
  exact a_tret dJ0_coder_7d493_14 rfl rfl hQ
theorem c_strLatin {M : Mm} {Q : Option Value → Mm → Prop} (hQ : Q (some (.int (nI 1))) M) (d : Nat) : AMt miJ0_isLatin1_aae02 (d) [.ref nC] M Q := by
  refine AMt.of (by decide) (Nat.le_of_ble_eq_true rfl) ?_
  show AW miJ0_isLatin1_aae02 (d) (mxA Q) 0 [(0, some (.ref nC))] [] M
  refine a_gsZ kfJ0_38 dJ0_isLatin1_aae02_0 ?_
  refine n_if_eq 17 (by decide) dJ0_isLatin1_aae02_3 (by decide) (fun h => absurd h (by decide)) (fun _ => ?_)
  refine a_aload_n rfl dJ0_isLatin1_aae02_6 ?_
  refine a_sfc kfJ0_15 dJ0_isLatin1_aae02_7 ?_
  refine n_if_ne 17 (by decide) dJ0_isLatin1_aae02_10 (by decide) (fun h => absurd rfl h) (fun _ => ?_)
  refine n_iconst 1 rfl dJ0_isLatin1_aae02_13 ?_
  refine a_goto 18 dJ0_isLatin1_aae02_14 (by decide) ?_
  exact a_zret dJ0_isLatin1_aae02_18 rfl (Or.inr rfl) hQ
theorem c_strLen {M : Mm} {Q : Option Value → Mm → Prop} (hQ : Q (some (.int (nI 132))) M) (d : Nat) : AMt miJ0_length_8abf5 (d + 1) [.ref nC] M Q := by
  refine AMt.of (by decide) (Nat.le_of_ble_eq_true rfl) ?_
  show AW miJ0_length_8abf5 (d + 1) (mxA Q) 0 [(0, some (.ref nC))] [] M
  refine a_aload_n rfl dJ0_length_8abf5_0 ?_
  refine a_sfv kfJ0_9 dJ0_length_8abf5_1 ?_
  refine a_stl dJ0_length_8abf5_4 ?_
  refine a_aload_n rfl dJ0_length_8abf5_5 ?_
  refine n_callT (mi' := miJ0_coder_7d493) dJ0_length_8abf5_6 lJ0_335 mJ0_coder_7d493 rfl (c_strCoder ?_ d) rfl rfl (by omega) (by decide) (Nat.le_of_ble_eq_true rfl)
  show AW _ _ _ _ _ _ _
  refine a_ishr dJ0_length_8abf5_9 ?_
  refine a_eqi (y := nI 132) (by decide) ?_
  exact a_iret dJ0_length_8abf5_10 rfl hQ
theorem c_ciN {M : Mm} {Q : Option Value → Mm → Prop} {i n : Nat} (hi : i < n) (hn : n < 2 ^ 31) (hQ : Q (some (.int (nI i))) M) (d : Nat) : AMt miJ3_checkIndex_8e157 (d) [.int (nI i), .int (nI n), .null] M Q := by
  refine AMt.of (by decide) (Nat.le_of_ble_eq_true rfl) ?_
  show AW miJ3_checkIndex_8e157 (d) (mxA Q) 0 [(0, some (.int (nI i))), (1, some (.int (nI n))), (2, some (.null))] [] M
  refine a_iload_n rfl dJ3_checkIndex_8e157_0 ?_
  refine n_if_lt (tgt := 9) (by omega) dJ3_checkIndex_8e157_1 (by decide) ?_
  refine a_iload_n rfl dJ3_checkIndex_8e157_4 ?_
  refine a_iload_n rfl dJ3_checkIndex_8e157_5 ?_
  refine n_icmp_lt 16 (by omega) (by omega) dJ3_checkIndex_8e157_6 (by decide) (fun _ => ?_) (fun h => absurd hi h)
  refine a_iload_n rfl dJ3_checkIndex_8e157_16 ?_
  exact a_iret dJ3_checkIndex_8e157_17 rfl hQ
theorem c_ciR {M : Mm} {Q : Option Value → Mm → Prop} {i n : Nat} (hi : i < n) (hn : n < 2 ^ 31) (hQ : Q (some (.int (nI i))) M) (d : Nat) : AMt miJ3_checkIndex_8e157 (d) [.int (nI i), .int (nI n), .ref (nC + 2)] M Q := by
  refine AMt.of (by decide) (Nat.le_of_ble_eq_true rfl) ?_
  show AW miJ3_checkIndex_8e157 (d) (mxA Q) 0 [(0, some (.int (nI i))), (1, some (.int (nI n))), (2, some (.ref (nC + 2)))] [] M
  refine a_iload_n rfl dJ3_checkIndex_8e157_0 ?_
  refine n_if_lt (tgt := 9) (by omega) dJ3_checkIndex_8e157_1 (by decide) ?_
  refine a_iload_n rfl dJ3_checkIndex_8e157_4 ?_
  refine a_iload_n rfl dJ3_checkIndex_8e157_5 ?_
  refine n_icmp_lt 16 (by omega) (by omega) dJ3_checkIndex_8e157_6 (by decide) (fun _ => ?_) (fun h => absurd hi h)
  refine a_iload_n rfl dJ3_checkIndex_8e157_16 ?_
  exact a_iret dJ3_checkIndex_8e157_17 rfl hQ
theorem c_strCheck {M : Mm} {Q : Option Value → Mm → Prop} {i n : Nat} (hi : i < n) (hn : n < 2 ^ 31) (hQ : Q none M) (d : Nat) : AMt miJ0_checkIndex_df160 (d + 1) [.int (nI i), .int (nI n)] M Q := by
  refine AMt.of (by decide) (Nat.le_of_ble_eq_true rfl) ?_
  show AW miJ0_checkIndex_df160 (d + 1) (mxA Q) 0 [(0, some (.int (nI i))), (1, some (.int (nI n)))] [] M
  refine a_iload_n rfl dJ0_checkIndex_df160_0 ?_
  refine a_iload_n rfl dJ0_checkIndex_df160_1 ?_
  refine a_gsF kfJ0_1053 dJ0_checkIndex_df160_2 ?_ ?_
  · refine n_callS (mi' := miJ3_checkIndex_8e157) dJ0_checkIndex_df160_5 lJ0_1059 mJ3_checkIndex_8e157 (c_ciN hi hn ?_ d) rfl rfl (by omega) (by decide) (Nat.le_of_ble_eq_true rfl)
    show AW _ _ _ _ _ _ _
    refine a_pop rfl dJ0_checkIndex_df160_8 ?_
    exact a_vret dJ0_checkIndex_df160_9 rfl hQ
  · refine n_callS (mi' := miJ3_checkIndex_8e157) dJ0_checkIndex_df160_5 lJ0_1059 mJ3_checkIndex_8e157 (c_ciR hi hn ?_ d) rfl rfl (by omega) (by decide) (Nat.le_of_ble_eq_true rfl)
    show AW _ _ _ _ _ _ _
    refine a_pop rfl dJ0_checkIndex_df160_8 ?_
    exact a_vret dJ0_checkIndex_df160_9 rfl hQ
theorem str_ch : ∀ i, i < 132 → (strB.getD i 0 &&& nI 255).toUInt32 % 65536 = (strB.getD i 0).toUInt32 ∧ narrow .char (.int (strB.getD i 0)) = .int (strB.getD i 0) := by decide +kernel
theorem str_c2 {i : Nat} (hi : i < 132) : ((strB.getD i 0 &&& nI 255).toUInt32 % 65536).toInt32 = strB.getD i 0 := by
  rw [(str_ch i hi).1]; rfl
theorem c_latCh {M : Mm} {Q : Option Value → Mm → Prop} {i : Nat} (hi : i < 132) (hQ : Q (some (.int (strB.getD i 0))) M) (d : Nat) : AMt miJ1_charAt_3b067 (d + 2) [.ref (nC + 1), .int (nI i)] M Q := by
  refine AMt.of (by decide) (Nat.le_of_ble_eq_true rfl) ?_
  show AW miJ1_charAt_3b067 (d + 2) (mxA Q) 0 [(0, some (.ref (nC + 1))), (1, some (.int (nI i)))] [] M
  refine a_iload_n rfl dJ1_charAt_3b067_0 ?_
  refine a_aload_n rfl dJ1_charAt_3b067_1 ?_
  refine a_stl dJ1_charAt_3b067_2 ?_
  refine n_callS (mi' := miJ0_checkIndex_df160) dJ1_charAt_3b067_3 lJ1_9 mJ0_checkIndex_df160 (c_strCheck hi (by decide) ?_ d) rfl rfl (by omega) (by decide) (Nat.le_of_ble_eq_true rfl)
  show AW _ _ _ _ _ _ _
  refine a_aload_n rfl dJ1_charAt_3b067_6 ?_
  refine a_iload_n rfl dJ1_charAt_3b067_7 ?_
  refine a_stb hi dJ1_charAt_3b067_8 ?_
  refine n_sipush 255 rfl dJ1_charAt_3b067_9 ?_
  refine a_iand dJ1_charAt_3b067_12 ?_
  refine a_i2c (str_c2 hi) dJ1_charAt_3b067_13 ?_
  exact a_tret dJ1_charAt_3b067_14 rfl (str_ch i hi).2 hQ
theorem c_strCh {M : Mm} {Q : Option Value → Mm → Prop} {i : Nat} (hi : i < 132) (hQ : Q (some (.int (strB.getD i 0))) M) (d : Nat) : AMt miJ0_charAt_5068e (d + 3) [.ref nC, .int (nI i)] M Q := by
  refine AMt.of (by decide) (Nat.le_of_ble_eq_true rfl) ?_
  show AW miJ0_charAt_5068e (d + 3) (mxA Q) 0 [(0, some (.ref nC)), (1, some (.int (nI i)))] [] M
  refine a_aload_n rfl dJ0_charAt_5068e_0 ?_
  refine n_callT (mi' := miJ0_isLatin1_aae02) dJ0_charAt_5068e_1 lJ0_492 mJ0_isLatin1_aae02 rfl (c_strLatin ?_ d) rfl rfl (by omega) (by decide) (Nat.le_of_ble_eq_true rfl)
  show AW _ _ _ _ _ _ _
  refine n_if_eq 16 (by decide) dJ0_charAt_5068e_4 (by decide) (fun h => absurd h (by decide)) (fun _ => ?_)
  refine a_aload_n rfl dJ0_charAt_5068e_7 ?_
  refine a_sfv kfJ0_9 dJ0_charAt_5068e_8 ?_
  refine a_iload_n rfl dJ0_charAt_5068e_11 ?_
  refine n_callS (mi' := miJ1_charAt_3b067) dJ0_charAt_5068e_12 lJ0_495 mJ1_charAt_3b067 (c_latCh hi ?_ d) rfl rfl (by omega) (by decide) (Nat.le_of_ble_eq_true rfl)
  show AW _ _ _ _ _ _ _
  exact a_tret dJ0_charAt_5068e_15 rfl (str_ch i hi).2 hQ

theorem wclL_7 : Cond.classLink RL 7 RX11 ∈ TB := tb_1 (List.mem_of_getElem? (i := 22) rfl) rfl
theorem winX11 : Cond.instantiable RX11 19 ∈ TB := tb_1 (List.mem_of_getElem? (i := 23) rfl) rfl
theorem lobX11 : Cond.methodLink RX11 1 Lib.objectInit ∈ TB := tb_1 (List.mem_of_getElem? (i := 27) rfl) rfl
theorem wob_i : Cond.instanceMethod Lib.objectInit ∈ TB := tb_1 (List.mem_of_getElem? (i := 28) rfl) rfl
theorem wob_c : Cond.code Lib.objectInit ⟨#[0xb1]⟩ 1 none ∈ TB := tb_1 (List.mem_of_getElem? (i := 29) rfl) rfl
theorem wclX11_27 : Cond.classLink RX11 27 RX5 ∈ TB := tb_1 (List.mem_of_getElem? (i := 30) rfl) rfl
theorem winX5 : Cond.instantiable RX5 3 ∈ TB := tb_1 (List.mem_of_getElem? (i := 31) rfl) rfl
theorem lobX5 : Cond.methodLink RX5 3 Lib.objectInit ∈ TB := tb_1 (List.mem_of_getElem? (i := 35) rfl) rfl
theorem war_byte : Cond.arrayClass .byte ∈ TB := tb_1 (List.mem_of_getElem? (i := 53) rfl) rfl
theorem war_long : Cond.arrayClass .long ∈ TB := tb_1 (List.mem_of_getElem? (i := 54) rfl) rfl
theorem war_int : Cond.arrayClass .int ∈ TB := tb_1 (List.mem_of_getElem? (i := 55) rfl) rfl
theorem wclX11_34 : Cond.classLink RX11 34 RX4 ∈ TB := tb_1 (List.mem_of_getElem? (i := 56) rfl) rfl
theorem winX4 : Cond.instantiable RX4 7 ∈ TB := tb_1 (List.mem_of_getElem? (i := 57) rfl) rfl
theorem lobX4 : Cond.methodLink RX4 3 Lib.objectInit ∈ TB := tb_1 (List.mem_of_getElem? (i := 61) rfl) rfl
theorem wclX11_41 : Cond.classLink RX11 41 RX7 ∈ TB := tb_1 (List.mem_of_getElem? (i := 86) rfl) rfl
theorem winX7 : Cond.instantiable RX7 1 ∈ TB := tb_1 (List.mem_of_getElem? (i := 87) rfl) rfl
theorem lobX7 : Cond.methodLink RX7 3 Lib.objectInit ∈ TB := tb_1 (List.mem_of_getElem? (i := 91) rfl) rfl
theorem wclX11_48 : Cond.classLink RX11 48 RX10 ∈ TB := tb_1 (List.mem_of_getElem? (i := 96) rfl) rfl
theorem winX10 : Cond.instantiable RX10 2 ∈ TB := tb_1 (List.mem_of_getElem? (i := 97) rfl) rfl
theorem lobX10 : Cond.methodLink RX10 3 Lib.objectInit ∈ TB := tb_1 (List.mem_of_getElem? (i := 101) rfl) rfl
theorem wclX11_55 : Cond.classLink RX11 55 RX6 ∈ TB := tb_1 (List.mem_of_getElem? (i := 109) rfl) rfl
theorem winX6 : Cond.instantiable RX6 20 ∈ TB := tb_1 (List.mem_of_getElem? (i := 110) rfl) rfl
theorem lobX6 : Cond.methodLink RX6 3 Lib.objectInit ∈ TB := tb_1 (List.mem_of_getElem? (i := 114) rfl) rfl
theorem wclX6_53 : Cond.classLink RX6 53 RX9 ∈ TB := tb_1 (List.mem_of_getElem? (i := 115) rfl) rfl
theorem winX9 : Cond.instantiable RX9 9 ∈ TB := tb_1 (List.mem_of_getElem? (i := 116) rfl) rfl
theorem lobX9 : Cond.methodLink RX9 5 Lib.objectInit ∈ TB := tb_1 (List.mem_of_getElem? (i := 120) rfl) rfl
theorem wclX11_72 : Cond.classLink RX11 72 RX2 ∈ TB := tb_2 (List.mem_of_getElem? (i := 32) rfl) rfl
theorem winX2 : Cond.instantiable RX2 9 ∈ TB := tb_2 (List.mem_of_getElem? (i := 33) rfl) rfl
theorem lobX2 : Cond.methodLink RX2 3 Lib.objectInit ∈ TB := tb_2 (List.mem_of_getElem? (i := 37) rfl) rfl
theorem wclX11_87 : Cond.classLink RX11 87 RX0 ∈ TB := tb_2 (List.mem_of_getElem? (i := 67) rfl) rfl
theorem winX0 : Cond.instantiable RX0 1 ∈ TB := tb_2 (List.mem_of_getElem? (i := 68) rfl) rfl
theorem lobX0 : Cond.methodLink RX0 3 Lib.objectInit ∈ TB := tb_2 (List.mem_of_getElem? (i := 72) rfl) rfl
theorem wclX11_94 : Cond.classLink RX11 94 RX3 ∈ TB := tb_2 (List.mem_of_getElem? (i := 78) rfl) rfl
theorem winX3 : Cond.instantiable RX3 6 ∈ TB := tb_2 (List.mem_of_getElem? (i := 79) rfl) rfl
theorem lobX3 : Cond.methodLink RX3 3 Lib.objectInit ∈ TB := tb_2 (List.mem_of_getElem? (i := 83) rfl) rfl
theorem wclX11_101 : Cond.classLink RX11 101 RX1 ∈ TB := tb_2 (List.mem_of_getElem? (i := 103) rfl) rfl
theorem winX1 : Cond.instantiable RX1 3 ∈ TB := tb_2 (List.mem_of_getElem? (i := 104) rfl) rfl
theorem lobX1 : Cond.methodLink RX1 3 Lib.objectInit ∈ TB := tb_2 (List.mem_of_getElem? (i := 108) rfl) rfl
theorem wclL_10 : Cond.classLink RL 10 RX12 ∈ TB := tb_6 (List.mem_of_getElem? (i := 89) rfl) rfl
theorem winX12 : Cond.instantiable RX12 47 ∈ TB := tb_6 (List.mem_of_getElem? (i := 90) rfl) rfl
theorem lobX12 : Cond.methodLink RX12 1 Lib.objectInit ∈ TB := tb_6 (List.mem_of_getElem? (i := 94) rfl) rfl
theorem lnkF_at {own : String} {idx ci j : Nat} {C : String} {T : u_T} {N : Nat} {ty0 : Nat → FieldType} (h : lnkF own idx ci j) (hc : clsF ci C T N ty0) : j < N ∧ Cond.fieldLink own idx C (T j).2.1 (T j).2.2.1 ∈ TB ∧ (T j).1 = C := by
  obtain ⟨C', T', N', ty', h1, h2, h3, h4⟩ := h
  have e := Option.some.inj (h1.1.symm.trans hc.1)
  cases e
  exact ⟨h2, h3, h4⟩
theorem bwl_set (G : GG) (ws : List (Nat × BE)) (q0 : Nat) (x : Nat × BE) : bwl G (ws.set q0 x) = (bwl G ws).set q0 (G.2.2 x.1, cncB G x.2) := by
  unfold bwl
  rw [List.map_set]
theorem bwl_at (G : GG) {ws : List (Nat × BE)} {q0 : Nat} {x : Nat × BE} (h : ws[q0]? = some x) : (bwl G ws)[q0]? = some (G.2.2 x.1, cncB G x.2) := by
  unfold bwl
  rw [List.getElem?_map, h]; rfl
theorem b_putF {mi : MI} {d : Nat} {X : BX} {ks : List Nat} {pc nc ns idx ci j q0 k : Nat} {L : List (Nat × Option Value)} {st : List Value} {ws : List (Nat × BE)} {C : String} {T : u_T} {N : Nat} {ty0 : Nat → FieldType} {fs : List Value} {v : Value} (hd : decode mi.2.1 pc = .ok (.putfield idx, 3)) (hf : lnkF mi.1.cls idx ci j) (hc : clsF ci C T N ty0) (hfin : (T j).2.2.2 = true) (hin : mi.1.name = "<init>") (hown : C = mi.1.cls) (hnar : ∀ ad, narrow (ty0 j) (vmA ad v) = vmA ad v) (hfit : ∀ ad, fits (ty0 j) (vmA ad v) = true) (he : ws[q0]? = some (k, .inl (ci, fs))) (hl : j < fs.length) (kk : BW mi d X ks (pc + 3) L st (ws.set q0 (k, .inl (ci, fs.set j v))) nc ns) : BW mi d X ks pc L (v :: .ref k :: st) ws nc ns := by
  intro G p l e R s m args below meth c A cells slots Qf B hX h1 h2 H locs ls hP hD hS hls
  obtain ⟨g1, g2, g3⟩ := lnkF_at hf hc
  have hw := bwl_at G he
  have hset : (bwl G ws).set q0 (G.2.2 k, .inr (ci, (fs.map (vmA G.2.2)).set j (vmA G.2.2 v))) = bwl G (ws.set q0 (k, .inl (ci, fs.set j v))) := by
    rw [bwl_set]
    show _ = (bwl G ws).set q0 (G.2.2 k, .inr (ci, (fs.set j v).map (vmA G.2.2)))
    rw [List.map_set]
  refine va_putF B.1 B.2.1 B.2.2.2.2.2.1 hc.2.1 ty0 hc.2.2.1 hc.2.2.2 B.2.2.2.2.1 B.2.2.2.2.2.2.2.1 hP hD hS q0 hw hc.1 j g1 (B.2.2.2.2.2.1 _ g2) (fun x h => by rw [g3] at h; exact h) hfin (B.2.2.2.2.2.2.2.2.2.2.2.2 hin) (g3.trans hown) (hc.2.2.1 j g1) (hnar G.2.2) (hfit G.2.2) (by rw [List.length_map]; exact hl) hd (fun H1 locs1 hP1 hD1 hS1 => ?_)
  rw [hset] at hP1 hD1
  exact kk G p l e R s m args below meth c A cells slots Qf B hX h1 h2 H1 locs1 ls hP1 hD1 hS1 hls
theorem b_put {mi : MI} {d : Nat} {X : BX} {ks : List Nat} {pc nc ns idx ci j q0 k : Nat} {L : List (Nat × Option Value)} {st : List Value} {ws : List (Nat × BE)} {C : String} {T : u_T} {N : Nat} {ty0 : Nat → FieldType} {fs : List Value} {v : Value} (hd : decode mi.2.1 pc = .ok (.putfield idx, 3)) (hf : lnkF mi.1.cls idx ci j) (hc : clsF ci C T N ty0) (hfin : (T j).2.2.2 = false) (hnar : ∀ ad, narrow (ty0 j) (vmA ad v) = vmA ad v) (hfit : ∀ ad, fits (ty0 j) (vmA ad v) = true) (he : ws[q0]? = some (k, .inl (ci, fs))) (hl : j < fs.length) (kk : BW mi d X ks (pc + 3) L st (ws.set q0 (k, .inl (ci, fs.set j v))) nc ns) : BW mi d X ks pc L (v :: .ref k :: st) ws nc ns := by
  intro G p l e R s m args below meth c A cells slots Qf B hX h1 h2 H locs ls hP hD hS hls
  obtain ⟨g1, g2, g3⟩ := lnkF_at hf hc
  have hw := bwl_at G he
  have hset : (bwl G ws).set q0 (G.2.2 k, .inr (ci, (fs.map (vmA G.2.2)).set j (vmA G.2.2 v))) = bwl G (ws.set q0 (k, .inl (ci, fs.set j v))) := by
    rw [bwl_set]
    show _ = (bwl G ws).set q0 (G.2.2 k, .inr (ci, (fs.set j v).map (vmA G.2.2)))
    rw [List.map_set]
  refine va_put (ty := ty0 j) (v := vmA G.2.2 v) B.1 B.2.1 B.2.2.2.2.2.1 hc.2.1 ty0 hc.2.2.1 hc.2.2.2 B.2.2.2.2.1 B.2.2.2.2.2.2.2.1 hP hD hS q0 hw hc.1 j g1 (B.2.2.2.2.2.1 _ g2) (fun x h => by rw [g3] at h; exact h) hfin (hc.2.2.1 j g1) (hnar G.2.2) (hfit G.2.2) (by rw [List.length_map]; exact hl) hd (fun H1 locs1 hP1 hD1 hS1 => ?_)
  rw [hset] at hP1 hD1
  exact kk G p l e R s m args below meth c A cells slots Qf B hX h1 h2 H1 locs1 ls hP1 hD1 hS1 hls
theorem b_obj {mi : MI} {d : Nat} {X : BX} {ks : List Nat} {pc nc ns idx k : Nat} {L : List (Nat × Option Value)} {ws : List (Nat × BE)} (hd : decode mi.2.1 pc = .ok (.invokespecial idx, 3)) (hlk : Cond.methodLink mi.1.cls idx Lib.objectInit ∈ TB) (kk : BW mi d X ks (pc + 3) L [] ws nc ns) : BW mi d X ks pc L [.ref k] ws nc ns := by
  intro G p l e R s m args below meth c A cells slots Qf B hX h1 h2 H locs ls hP hD hS hls
  have hts := B.2.2.2.2.2.1
  have hfr := B.2.2.2.2.2.2.2.2.2.1
  have hlo := B.2.2.2.2.2.2.2.2.2.2.1
  refine W.objInit B.1 B.2.1 B.2.2.2.2.1 (hts _ hlk) (hts _ wob_i) (hts _ wob_c) rfl (by rw [B.2.2.1]; exact hls.1) rfl hd (by omega) (by show 2 * 0 + 0 + 12 ≤ R.locals; omega) ?_
  exact W.eq (g2 := F0 m (pc + 3) ls []) rfl (kk G p l e R s m args below meth c A cells slots Qf B hX h1 h2 H locs ls hP hD hS hls)

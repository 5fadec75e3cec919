theorem b_iload_n {mi : MI} {d : Nat} {X : BX} {ks : List Nat} {pc nc ns : Nat} {L : List (Nat × Option Value)} {st : List Value} {ws : List (Nat × BE)} {k : Fin 4} {x : Int32} (hv : lkA L (k : Nat) = some (.int x)) (hd : decode mi.2.1 pc = .ok (.iload_n k, 1)) (kk : BW mi d X ks (pc + 1) (L) (.int x :: st) ws nc ns) : BW mi d X ks pc (L) (st) ws nc ns := by
  intro G p l e R s m args below meth c A cells slots Qf B hX h1 h2 H locs ls hP hD hS hl
  exact lv_iload_n B.1 B.2.1 hd rfl (hl.2.2 _ _ hv) (kk G p l e R s m args below meth c A cells slots Qf B hX h1 h2 H locs ls hP hD hS hl)
theorem b_istore_n {mi : MI} {d : Nat} {X : BX} {ks : List Nat} {pc nc ns : Nat} {L : List (Nat × Option Value)} {st : List Value} {ws : List (Nat × BE)} {k : Fin 4} {x : Int32} (hn : (k : Nat) < mi.2.2.1) (hk : nlA L (k : Nat) = true) (hd : decode mi.2.1 pc = .ok (.istore_n k, 1)) (kk : BW mi d X ks (pc + 1) (((k : Nat), some (.int x)) :: L) st ws nc ns) : BW mi d X ks pc L (.int x :: st) ws nc ns := by
  intro G p l e R s m args below meth c A cells slots Qf B hX h1 h2 H locs ls hP hD hS hl
  exact lv_istore_n B.1 B.2.1 hd rfl hl.list hn rfl (fun ls2 hl2 => kk G p l e R s m args below meth c A cells slots Qf B hX h1 h2 H locs ls2 hP hD hS (hasL.st1 (v := (Value.int x)) hl hk hl2))
theorem b_astore_n {mi : MI} {d : Nat} {X : BX} {ks : List Nat} {pc nc ns : Nat} {L : List (Nat × Option Value)} {st : List Value} {ws : List (Nat × BE)} {k : Fin 4} {x : Nat} (hn : (k : Nat) < mi.2.2.1) (hk : nlA L (k : Nat) = true) (hd : decode mi.2.1 pc = .ok (.astore_n k, 1)) (kk : BW mi d X ks (pc + 1) (((k : Nat), some (.ref x)) :: L) st ws nc ns) : BW mi d X ks pc L (.ref x :: st) ws nc ns := by
  intro G p l e R s m args below meth c A cells slots Qf B hX h1 h2 H locs ls hP hD hS hl
  exact lv_astore_n B.1 B.2.1 hd rfl hl.list hn rfl (fun ls2 hl2 => kk G p l e R s m args below meth c A cells slots Qf B hX h1 h2 H locs ls2 hP hD hS (hasL.st1 (v := (Value.ref x)) hl hk hl2))
theorem b_iinc {mi : MI} {d : Nat} {X : BX} {ks : List Nat} {pc nc ns : Nat} {L : List (Nat × Option Value)} {st : List Value} {ws : List (Nat × BE)} {k a b : Nat} {n : Int} (hv : lkA L k = some (.int (nI a))) (hc : nI a + Int32.ofInt n = nI b) (hn : k < mi.2.2.1) (hk : nlA L k = true) (hd : decode mi.2.1 pc = .ok (.iinc k n, 3)) (kk : BW mi d X ks (pc + 3) ((k, some (.int (nI b))) :: L) st ws nc ns) : BW mi d X ks pc L st ws nc ns := by
  intro G p l e R s m args below meth c A cells slots Qf B hX h1 h2 H locs ls hP hD hS hl
  have hl1 : lv_has ls mi.2.2.1 ((k, .int (nI a)) :: lisL G.2.2 mi.2.2.1 L) := ⟨hl.1, hl.2.1, fun q hq => by
    rcases List.mem_cons.mp hq with rfl | hq
    · exact hl.2.2 k (.int (nI a)) hv
    · exact hl.list.2.2 q hq⟩
  refine lv_iinc B.1 B.2.1 hd hl1 (k := 0) rfl hc hn rfl (fun ls2 hl2 => kk G p l e R s m args below meth c A cells slots Qf B hX h1 h2 H locs ls2 hP hD hS (hasL.st1 (v := .int (nI b)) hl hk ?_))
  simpa [vmA] using hl2
theorem b_goto {mi : MI} {d : Nat} {X : BX} {ks : List Nat} {pc nc ns : Nat} {L : List (Nat × Option Value)} {st : List Value} {ws : List (Nat × BE)} {off : Int} (tgt : Nat) (hd : decode mi.2.1 pc = .ok (.goto off, 3)) (ht : (pc : Int) + off = (tgt : Int)) (kk : BW mi d X ks (tgt) (L) (st) ws nc ns) : BW mi d X ks pc (L) (st) ws nc ns := by
  intro G p l e R s m args below meth c A cells slots Qf B hX h1 h2 H locs ls hP hD hS hl
  exact lv_goto B.1 B.2.1 hd ht (kk G p l e R s m args below meth c A cells slots Qf B hX h1 h2 H locs ls hP hD hS hl)
theorem b_icmp_ge {mi : MI} {d : Nat} {X : BX} {ks : List Nat} {pc nc ns : Nat} {L : List (Nat × Option Value)} {st : List Value} {ws : List (Nat × BE)} {x y : Int32} {off : Int} (tgt : Nat) (hd : decode mi.2.1 pc = .ok (.if_icmp .ge off, 3)) (ht : (pc : Int) + off = (tgt : Int)) (k1 : y ≤ x → BW mi d X ks tgt L st ws nc ns) (k2 : ¬ y ≤ x → BW mi d X ks (pc + 3) L st ws nc ns) : BW mi d X ks pc L (.int y :: .int x :: st) ws nc ns := by
  intro G p l e R s m args below meth c A cells slots Qf B hX h1 h2 H locs ls hP hD hS hl
  exact lv_icmp_ge B.1 B.2.1 hd ht (fun h => k1 h G p l e R s m args below meth c A cells slots Qf B hX h1 h2 H locs ls hP hD hS hl) (fun h => k2 h G p l e R s m args below meth c A cells slots Qf B hX h1 h2 H locs ls hP hD hS hl)
theorem b_lconst {mi : MI} {d : Nat} {X : BX} {ks : List Nat} {pc nc ns : Nat} {L : List (Nat × Option Value)} {st : List Value} {ws : List (Nat × BE)} {n : Fin 2} (v : Int64) (hv : Int64.ofNat (n : Nat) = v) (hd : decode mi.2.1 pc = .ok (.lconst n, 1)) (kk : BW mi d X ks (pc + 1) (L) (.long v :: st) ws nc ns) : BW mi d X ks pc (L) (st) ws nc ns := by
  intro G p l e R s m args below meth c A cells slots Qf B hX h1 h2 H locs ls hP hD hS hl
  exact lv_lconst B.1 B.2.1 hd hv (kk G p l e R s m args below meth c A cells slots Qf B hX h1 h2 H locs ls hP hD hS hl)
theorem b_imul {mi : MI} {d : Nat} {X : BX} {ks : List Nat} {pc nc ns : Nat} {L : List (Nat × Option Value)} {st : List Value} {ws : List (Nat × BE)} {x y z : Int32} (hz : x * y = z) (hd : decode mi.2.1 pc = .ok (.imul, 1)) (kk : BW mi d X ks (pc + 1) (L) (.int z :: st) ws nc ns) : BW mi d X ks pc (L) (.int y :: .int x :: st) ws nc ns := by
  intro G p l e R s m args below meth c A cells slots Qf B hX h1 h2 H locs ls hP hD hS hl
  subst hz
  exact lv_imul B.1 B.2.1 hd (kk G p l e R s m args below meth c A cells slots Qf B hX h1 h2 H locs ls hP hD hS hl)
theorem b_iadd {mi : MI} {d : Nat} {X : BX} {ks : List Nat} {pc nc ns : Nat} {L : List (Nat × Option Value)} {st : List Value} {ws : List (Nat × BE)} {x y z : Int32} (hz : x + y = z) (hd : decode mi.2.1 pc = .ok (.iadd, 1)) (kk : BW mi d X ks (pc + 1) (L) (.int z :: st) ws nc ns) : BW mi d X ks pc (L) (.int y :: .int x :: st) ws nc ns := by
  intro G p l e R s m args below meth c A cells slots Qf B hX h1 h2 H locs ls hP hD hS hl
  subst hz
  exact lv_iadd B.1 B.2.1 hd (kk G p l e R s m args below meth c A cells slots Qf B hX h1 h2 H locs ls hP hD hS hl)
theorem b_get {mi : MI} {d : Nat} {X : BX} {ks : List Nat} {pc nc ns : Nat} {L : List (Nat × Option Value)} {st : List Value} {ws : List (Nat × BE)} {idx ci j q0 k N : Nat} {C : String} {T : u_T} {ty0 : Nat → FieldType} {fs : List Value} {v : Value} (hd : decode mi.2.1 pc = .ok (.getfield idx, 3)) (hf : lnkF mi.1.cls idx ci j) (hc : clsF ci C T N ty0) (he : ws[q0]? = some (k, .inl (ci, fs))) (hv : fs[j]? = some v) (kk : BW mi d X ks (pc + 3) (L) (v :: st) ws nc ns) : BW mi d X ks pc (L) (.ref k :: st) ws nc ns := by
  intro G p l e R s m args below meth c A cells slots Qf B hX h1 h2 H locs ls hP hD hS hl
  obtain ⟨g1, g2, g3⟩ := lnkF_at hf hc
  have hw := bwl_at G he
  exact va_get (v := vmA G.2.2 v) B.1 B.2.1 B.2.2.2.2.2.1 hc.2.1 B.2.2.2.2.1 B.2.2.2.2.2.2.2.1 hP q0 hw hc.1 j g1 (B.2.2.2.2.2.1 _ g2) (fun x h => by rw [g3] at h; exact h) (by rw [List.getElem?_map, hv]; rfl) hd (kk G p l e R s m args below meth c A cells slots Qf B hX h1 h2 H locs ls hP hD hS hl)
theorem b_alen {mi : MI} {d : Nat} {X : BX} {ks : List Nat} {pc nc ns : Nat} {L : List (Nat × Option Value)} {st : List Value} {ws : List (Nat × BE)} {q0 t k n : Nat} {ty : FieldType} {F : (Nat → Nat) → vp_A} (hd : decode mi.2.1 pc = .ok (.arraylength, 1)) (he : ws[q0]? = some (k, .inr (t, F))) (hn : ∀ ad, (F ad).1 = n) (htt : ∀ G : GG, (tysA G)[t]? = some (G.2.1 t, ty)) (kk : BW mi d X ks (pc + 1) (L) (.int (nI n) :: st) ws nc ns) : BW mi d X ks pc (L) (.ref k :: st) ws nc ns := by
  intro G p l e R s m args below meth c A cells slots Qf B hX h1 h2 H locs ls hP hD hS hl
  have hw := bwl_at G he
  exact va_alen B.1 B.2.1 B.2.2.2.2.2.2.2.1 hP q0 t hw (htt G) (by show Int32.ofNat (F G.2.2).1 = nI n; rw [hn]; rfl) hd (kk G p l e R s m args below meth c A cells slots Qf B hX h1 h2 H locs ls hP hD hS hl)
theorem b_iast {mi : MI} {d : Nat} {X : BX} {ks : List Nat} {pc nc ns : Nat} {L : List (Nat × Option Value)} {st : List Value} {ws : List (Nat × BE)} {q0 k n i : Nat} {f f2 : Nat → Int32} {x : Int32} (hd : decode mi.2.1 pc = .ok (.iastore, 1)) (he : ws[q0]? = some (k, .inr (0, fun _ => (n, .inl f)))) (hi : i < n) (hn : n ≤ 2000) (hu : upd f i x = f2) (kk : BW mi d X ks (pc + 1) L st (ws.set q0 (k, .inr (0, fun _ => (n, .inl f2)))) nc ns) : BW mi d X ks pc L (.int x :: .int (nI i) :: .ref k :: st) ws nc ns := by
  intro G p l e R s m args below meth c A cells slots Qf B hX h1 h2 H locs ls hP hD hS hl
  have hw := bwl_at G he
  have hset : (bwl G ws).set q0 (G.2.2 k, .inl (G.2.1 0, (n, .inl f2))) = bwl G (ws.set q0 (k, .inr (0, fun _ => (n, .inl f2)))) := by
    rw [bwl_set]; rfl
  have hNN : (nI i).toNatClampNeg = i := by unfold Int32.toNatClampNeg; rw [nI_toInt (by omega)]; exact Int.toNat_natCast i
  refine va_iast B.1 B.2.1 B.2.2.2.2.2.2.2.1 hP hD hS q0 0 hw rfl (vp_in_nI hi (by omega)) hd (fun H1 locs1 hP1 hD1 hS1 => ?_)
  rw [hNN, hu, hset] at hP1 hD1
  exact kk G p l e R s m args below meth c A cells slots Qf B hX h1 h2 H1 locs1 ls hP1 hD1 hS1 hl
theorem b_astq {mi : MI} {d : Nat} {X : BX} {ks : List Nat} {pc nc ns : Nat} {L : List (Nat × Option Value)} {st : List Value} {ws : List (Nat × BE)} {q0 qk k n i v : Nat} {vs : List Value} {f : (Nat → Nat) → Nat → Option Nat} (hd : decode mi.2.1 pc = .ok (.aastore, 1)) (he : ws[q0]? = some (k, .inr (4, fun ad => (n, .inr (.inr (.inr (.inr (f ad)))))))) (hv : ws[qk]? = some (v, .inl (6, vs))) (hi : i < n) (hn : n ≤ 2000) (kk : BW mi d X ks (pc + 1) L st (ws.set q0 (k, .inr (4, fun ad => (n, .inr (.inr (.inr (.inr (va_up (f ad) i (some (ad v))))))))))  nc ns) : BW mi d X ks pc L (.ref v :: .int (nI i) :: .ref k :: st) ws nc ns := by
  intro G p l e R s m args below meth c A cells slots Qf B hX h1 h2 H locs ls hP hD hS hl
  have hw := bwl_at G he
  have hw2 := bwl_at G hv
  have hset : (bwl G ws).set q0 (G.2.2 k, .inl (G.2.1 4, (n, .inr (.inr (.inr (.inr (va_up (f G.2.2) i (some (G.2.2 v))))))))) = bwl G (ws.set q0 (k, .inr (4, fun ad => (n, .inr (.inr (.inr (.inr (va_up (f ad) i (some (ad v)))))))))) := by
    rw [bwl_set]; rfl
  have hNN : (nI i).toNatClampNeg = i := by unfold Int32.toNatClampNeg; rw [nI_toInt (by omega)]; exact Int.toNat_natCast i
  refine va_astq (r := (RX6, TX6, 20)) B.1 B.2.1 B.2.2.2.2.2.2.2.1 hP hD hS q0 4 qk 6 hw rfl hw2 clsF_6.1 (vp_in_nI hi (by omega)) hd (fun H1 locs1 hP1 hD1 hS1 => ?_)
  rw [hNN, hset] at hP1 hD1
  exact kk G p l e R s m args below meth c A cells slots Qf B hX h1 h2 H1 locs1 ls hP1 hD1 hS1 hl
theorem b_newq {mi : MI} {d : Nat} {X : BX} {ks : List Nat} {pc nc ns : Nat} {L : List (Nat × Option Value)} {st : List Value} {ws : List (Nat × BE)} {k N idx : Nat} (hd : decode mi.2.1 pc = .ok (.anewarray idx, 3)) (hcl : Cond.classLink mi.1.cls idx "MossSeats$Wood" ∈ TB) (hN : N ≤ 2000) (hk : k ∉ ks)
    (hL : ∀ ad q, mLB (fun i => if i = k then q else ad i) L = mLB ad L) (hst : ∀ (ad : Nat → Nat) q, st.map (vmA (fun i => if i = k then q else ad i)) = st.map (vmA ad)) (hws : ∀ G q, bwl (setG G k q) ws = bwl G ws)
    (kk : BW mi d X ks (pc + 3) L (.ref k :: st) (ws ++ [(k, .inr (4, fun _ => (N, .inr (.inr (.inr (.inr (fun _ => none)))))))]) nc ns) : BW mi d X ks pc L (.int (nI N) :: st) ws (nc + 1) (ns + N) := by
  intro G p l e R s m args below meth c A cells slots Qf B hX h1 h2 H locs ls hP hD hS hl
  have hn : ¬ nI N < 0 := fun q => by rw [Int32.lt_iff_toInt_lt, nI_toInt (by omega)] at q; have : (0 : Int32).toInt = 0 := rfl; omega
  have hNN : (nI N).toNatClampNeg = N := by unfold Int32.toNatClampNeg; rw [nI_toInt (by omega)]; exact Int.toNat_natCast N
  refine va_newq B.1 B.2.1 B.2.2.2.2.1 (B.2.2.2.2.2.1 _ hcl) B.2.2.2.2.2.2.2.2.2.2.2.1.1 B.2.2.2.2.2.2.2.1 hP hD hS B.2.2.2.2.2.2.2.2.1 hn hNN (by omega) (by omega) (by omega) hd (fun q cA H1 hK1 hP1 hD1 hS1 => ?_)
  have hc : cA = G.2.1 4 := by
    obtain ⟨_, _, _, _, _, z1⟩ := (hK1.2 (tysA G).length (cA, .object "MossSeats$Wood") (by rw [List.getElem?_append_right (Nat.le_refl _), Nat.sub_self]; rfl)).2
    obtain ⟨_, _, _, _, _, z2⟩ := (B.2.2.2.2.2.2.2.1.2 4 (G.2.1 4, .object "MossSeats$Wood") rfl).2
    rw [z2] at z1
    exact (Option.some.inj z1).symm
  subst hc
  have hb : bwl (setG G k q) (ws ++ [(k, .inr (4, fun _ => (N, .inr (.inr (.inr (.inr (fun _ => none)))))))]) = bwl G ws ++ [(q, .inl (G.2.1 4, (N, .inr (.inr (.inr (.inr (fun _ => none)))))))] := by
    unfold bwl at hws ⊢
    rw [List.map_append, hws G q]
    show _ ++ [((if k = k then q else G.2.2 k), _)] = _
    rw [if_pos rfl]; rfl
  have e0 : ks.map (setG G k q).2.2 = ks.map G.2.2 := List.map_congr_left (fun i hi => (show (if i = k then q else G.2.2 i) = G.2.2 i from if_neg (fun z : i = k => hk (z ▸ hi))))
  have r := kk (setG G k q) p l e R s m args below meth c A (cells + 1) (slots + N) Qf B (by rw [e0, show cells + 1 + nc = cells + (nc + 1) by omega, show slots + N + ns = slots + (ns + N) by omega]; exact hX) (by omega) (by omega) H1 locs ls (by rw [hb]; exact hP1) (by rw [hb]; exact hD1) hS1 (hasL_m hl (hL G.2.2 q))
  have es : (Value.ref k :: st).map (vmA (setG G k q).2.2) = .ref q :: st.map (vmA G.2.2) := by
    show Value.ref (if k = k then q else G.2.2 k) :: st.map (vmA (fun i => if i = k then q else G.2.2 i)) = _
    rw [if_pos rfl, hst]
  rw [es] at r
  exact r
/-- what a void method over cells that stand leaves -/
def qcC (G : GG) (W1 : List (Nat × BE)) (A : Nat → Prop) : Array Value → State → Outcome → State → Prop := va_Qv (fun _ : Unit => True) (fun _ t => va_P G.1 vwCl (bwl G W1) t.heap ∧ va_K G.1 vwCl (tysA G) t ∧ va_D A (bwl G W1)) A
def CMt (mi : MI) (d : Nat) (As : List Value) (W0 W1 : List (Nat × BE)) : Prop := ∀ (l : Launch) (G : GG) (sz : Nat), Met l mi.1 (Cond.code mi.1 mi.2.1 mi.2.2.1 mi.2.2.2 :: TB) (rmD d)
    (va_Pc (As.map (vmA G.2.2)) (fun U => U.heap.size = sz ∧ va_P G.1 vwCl (bwl G W0) U.heap ∧ va_K G.1 vwCl (tysA G) U ∧ va_D (fun _ => True) (bwl G W0) ∧ XF U))
    (qcC G W1 (va_A (bwl G W0) sz)) 0 0 (va_A (bwl G W0) sz)
def xC (ks : List Nat) (G0 : GG) (W1 : List (Nat × BE)) : BX := fun D ids hs _ _ _ _ s _ args below _ A cells slots Qf => D = G0.1 ∧ ids = G0.2.1 ∧ hs = ks.map G0.2.2 ∧ cells = 0 ∧ slots = 0 ∧ Qf = MQ below (qcC G0 W1 A) args s 0 0 A
theorem CMt.of {mi : MI} {d : Nat} {ks : List Nat} {As : List Value} {W0 W1 : List (Nat × BE)} (hy : plainName mi.1.cls = true) (hn : lenA As ≤ mi.2.2.1) (k : ∀ G0, BW mi d (xC ks G0 W1) ks 0 (argL 0 As) [] W0 0 0) : CMt mi d As W0 W1 := by
  intro l G sz
  refine Met.ofW (cc := mi.2.1) (maxL := mi.2.2.1) (ret := mi.2.2.2) hy rfl ?_
  intro p e s m args below meth c s₁ B hml hv
  obtain ⟨rfl, hsz, hP, hK, hD0, hXF⟩ := hv
  subst hsz
  have hts := atoms_spec (ws := Cond.code mi.1 mi.2.1 mi.2.2.1 mi.2.2.2 :: TB) B.pre
  have hD := hD0.self (sz := s.heap.size)
  have hl := lv_entry (As.map (vmA G.2.2)) (n := mi.2.2.1) (by rw [lenA_sl]; exact hn)
  rw [lg_entry_eq]
  exact k G G p l e _ s m _ below meth c (va_A (bwl G W0) s.heap.size) 0 0 _ ⟨B.exec, B.bytes, hml, B.returns, findClass_of_methodNamed B.named, fun w hw => hts w (List.mem_cons_of_mem _ hw), B.notSynchronized, hK, fun q h => Or.inr h, Nat.le_refl _, Nat.le_refl _, hXF, fun h => (name_of_methodNamed B.named B.method).1.trans h⟩ ⟨rfl, rfl, rfl, rfl, rfl, rfl⟩ (Nat.zero_le _) (Nat.zero_le _) s.heap [] _ hP hD va_S.rf ⟨hl.1, hl.2.1, fun i v h => hl.2.2 _ (argL_ok G.2.2 As 0 i v h)⟩
theorem c_retC {mi : MI} {d pc : Nat} {ks : List Nat} {G0 : GG} {L : List (Nat × Option Value)} {W1 : List (Nat × BE)} (hd : decode mi.2.1 pc = .ok (.return_, 1)) (hr : mi.2.2.2 = none) (hW : ∀ (D : va_G) (ids : Nat → ClassId) (ad ad0 : Nat → Nat), ks.map ad = ks.map ad0 → bwl (D, ids, ad) W1 = bwl (D, ids, ad0) W1) : BW mi d (xC ks G0 W1) ks pc L [] W1 0 0 := by
  intro G p l e R s m args below meth c A cells slots Qf B hX h1 h2 H locs ls hP hD hS hl
  obtain ⟨D, ids, ad⟩ := G
  obtain ⟨D0, ids0, ad0⟩ := G0
  obtain ⟨e1, e2, e3, e4, e5, rfl⟩ := hX
  dsimp only at e1 e2 e3
  subst e1 e2
  have e4 : cells = 0 := by omega
  have e5 : slots = 0 := by omega
  subst e4 e5
  have hw := hW D ids ad ad0 e3
  rw [hw] at hP hD
  exact W.vret B.1 B.2.1 (B.2.2.2.1.trans hr) (fun t ht hWa => ⟨⟨(), rfl, trivial, by rw [ht]; exact hP, va_K.moved hWa.alike B.2.2.2.2.2.2.2.1, hD⟩, hS.F ht⟩) hS.2.2 hd B.2.2.2.2.2.2.1
theorem bwl_app (G : GG) (wr W0 : List (Nat × BE)) : bwl G (wr ++ W0) = bwl G wr ++ bwl G W0 := List.map_append
theorem sfx_at {α : Type} (a b : List α) : ((List.range b.length).map (fun i => a.length + i)).map (fun i => (a ++ b)[i]?) = b.map some := by
  apply List.ext_getElem?
  intro i
  rw [List.map_map, List.getElem?_map, List.getElem?_map]
  by_cases h : i < b.length
  · rw [List.getElem?_range h]
    show some ((a ++ b)[a.length + i]?) = _
    rw [List.getElem?_append_right (by omega), show a.length + i - a.length = i by omega, List.getElem?_eq_getElem h]; rfl
  · rw [List.getElem?_eq_none (by rw [List.length_range]; omega), List.getElem?_eq_none (by omega)]; rfl
theorem pfx_at {α : Type} (a b : List α) : (List.range a.length).map (fun i => (a ++ b)[i]?) = a.map some := by
  apply List.ext_getElem?
  intro i
  rw [List.getElem?_map, List.getElem?_map]
  by_cases h : i < a.length
  · rw [List.getElem?_range h]
    show some ((a ++ b)[i]?) = _
    rw [List.getElem?_append_left h, List.getElem?_eq_getElem h]; rfl
  · rw [List.getElem?_eq_none (by rw [List.length_range]; omega), List.getElem?_eq_none (by omega)]; rfl
theorem nd_sfx (a n : Nat) : va_nd ((List.range n).map (fun i => a + i)) = true := by
  have key : ∀ l : List Nat, l.Nodup → va_nd l = true := by
    intro l
    induction l with
    | nil => intro _; rfl
    | cons a r ih => intro h; rw [List.nodup_cons] at h; show (decide (a ∉ r) && va_nd r) = true; rw [decide_eq_true h.1, ih h.2]; rfl
  refine key _ ?_
  rw [← List.range'_eq_map_range]
  exact List.nodup_range'
theorem b_run {mi : MI} {d pc nc ns : Nat} {X : BX} {ks : List Nat} {L : List (Nat × Option Value)} {st : List Value} {wr W0 W1 : List (Nat × BE)} {st0 : List Value} {a : Array Value} (G : GG) {p : Program} {l : Launch} {e : Env} {R : Room} {s : State} {m : MethodId} {args : Array Value} {below : List Frame} {meth : Method} {c : Code} {A : Nat → Prop} {cells slots : Nat} {Qf : State → Prop}
    (B : basB mi d G p R s m args meth c A) (hX : X G.1 G.2.1 (ks.map G.2.2) p l e R s m args below meth A (cells + nc) (slots + ns) Qf) (h1 : cells + nc ≤ R.cells) (h2 : slots + ns ≤ R.slots) {H : Heap} {locs : List Loc} {ls : Array Slot} (hP : va_P G.1 vwCl (bwl G wr ++ bwl G W0) H) (hD : va_D A (bwl G wr ++ bwl G W0)) (hS : va_S A s.heap H locs) (hl : hasL G.2.2 ls mi.2.2.1 L)
    (hr : va_Run p l e R s m args below meth c H locs cells slots 0 0 (F0 m pc ls st0) (st.map (vmA G.2.2)) (qcC G W1 (va_A (bwl G W0) H.size) a) (va_A (bwl G W0) H.size))
    (kk : BW mi d X ks (pc + 3) L st (wr ++ W1) nc ns) : W p l e R s m args below meth c H locs cells slots Qf (F0 m pc ls st0) := by
  have hF := va_free (wc := bwl G W0) hD hS B.2.2.2.2.2.2.2.2.1 _ (sfx_at (bwl G wr) (bwl G W0))
  refine va_callv hr hS (fun q _ h => hF q h) hF (fun u t H2 locs2 ht hvm hw hBt hz1 hk1 hS2 => ?_)
  obtain ⟨hP2, hK2, hD2⟩ := hBt
  rw [ht] at hP2
  obtain ⟨hP3, hD3⟩ := va_join (wr := bwl G wr) (w1 := bwl G W1) hP hD _ _ (sfx_at (bwl G wr) (bwl G W0)) (pfx_at _ _) (nd_range _) (by
    intro i hi hj
    obtain ⟨z, -, rfl⟩ := List.mem_map.mp hj
    have := List.mem_range.mp hi
    omega) hk1 hF hP2 hD2
  rw [← bwl_app] at hP3 hD3
  exact kk G p l e R s m args below meth c A cells slots Qf B hX h1 h2 H2 locs2 ls hP3 hD3 hS2 hl
theorem b_preC {mi : MI} {d : Nat} {wr W0 : List (Nat × BE)} {G : GG} {p : Program} {R : Room} {s : State} {m : MethodId} {args : Array Value} {meth : Method} {c : Code} {A : Nat → Prop} {H : Heap} {As : List Value}
    (B : basB mi d G p R s m args meth c A) (hP : va_P G.1 vwCl (bwl G wr ++ bwl G W0) H) (hD : va_D A (bwl G wr ++ bwl G W0)) : ∀ U : State, U.heap = H → s.WarmedH U.vm → va_Pc As (fun U => U.heap.size = H.size ∧ va_P G.1 vwCl (bwl G W0) U.heap ∧ va_K G.1 vwCl (tysA G) U ∧ va_D (fun _ => True) (bwl G W0) ∧ XF U) As.toArray U := by
  intro U hU hW
  have hPc : va_P G.1 vwCl (bwl G W0) H := fun k q hk => hP ((bwl G wr).length + k) q (by rw [List.getElem?_append_right (by omega), show (bwl G wr).length + k - (bwl G wr).length = k by omega]; exact hk)
  have hDc : va_D A (bwl G W0) := hD.sub _ (nd_sfx (bwl G wr).length (bwl G W0).length) (sfx_at (bwl G wr) (bwl G W0))
  exact ⟨rfl, by rw [hU], by rw [hU]; exact hPc, va_K.moved hW.alike B.2.2.2.2.2.2.2.1, hDc.weaken (fun _ _ _ _ => trivial), XF.warm hW B.2.2.2.2.2.2.2.2.2.2.2.1⟩
theorem b_blind {G : GG} {W0 : List (Nat × BE)} {sz : Nat} {As : List Value} : FrameBlind (va_Pc As (fun U => U.heap.size = sz ∧ va_P G.1 vwCl (bwl G W0) U.heap ∧ va_K G.1 vwCl (tysA G) U ∧ va_D (fun _ => True) (bwl G W0) ∧ XF U)) :=
  fun a U g mk ⟨q0, q1, q2, q3, q4, q5⟩ => ⟨q0, q1, q2, va_K.moved (u := U) (U := U.calling g mk a) (Vm.Alike.refl U.vm) q3, q4, XF.calling q5⟩
theorem b_callS {mi mi' : MI} {d d' pc nc ns idx n : Nat} {X : BX} {ks : List Nat} {L : List (Nat × Option Value)} {st S0 As : List Value} (wr : List (Nat × BE)) {W0 W1 : List (Nat × BE)} (hd : decode mi.2.1 pc = .ok (.invokestatic idx, 3)) (hlk : Cond.methodLink mi.1.cls idx mi'.1 ∈ TB) (hm : mthS mi' n) (hA : CMt mi' d' As W0 W1) (hst : S0 = As.reverse ++ st) (hn : As.length = n) (hdd : d' < d) (hnl : mi'.2.2.1 ≤ 30) (hcat : (st.map fun v => v.category).sum ≤ 8) (hret : mi'.2.2.2 = none)
    (kk : BW mi d X ks (pc + 3) L st (wr ++ W1) nc ns) : BW mi d X ks pc L S0 (wr ++ W0) nc ns := by
  intro G p l e R s m args below meth c A cells slots Qf B hX h1 h2 H locs ls hP hD hS hl
  obtain ⟨⟨hini, hcode, hdesc⟩, hstat⟩ := hm
  have hts := B.2.2.2.2.2.1
  have hfr := B.2.2.2.2.2.2.2.2.2.1
  have hlo := B.2.2.2.2.2.2.2.2.2.2.1
  rw [bwl_app] at hP hD
  have cw : CallB R s args mi.1.cls idx mi'.1 mi'.2.1 mi'.2.2.1 mi'.2.2.2 (Cond.code mi'.1 mi'.2.1 mi'.2.2.1 mi'.2.2.2 :: TB) (rmD d') 0 0 n ∧ (Cond.static mi'.1).before args s = true :=
    ⟨callB_of n hts (fun w hw => by rcases List.mem_cons.mp hw with rfl | h; exact tb_good _ hcode; exact tb_good _ h) rfl rfl rfl (hts _ hini) (hts _ hlk) hdesc (by simp only [rmD]; omega), hts _ hstat⟩
  have hr := va_runS (l := l) (e := e) (below := below) (meth := meth) (locs := locs) (As := As.map (vmA G.2.2)) (rest := st.map (vmA G.2.2)) (cells := cells) (slots := slots) ⟨B.1, B.2.1, B.2.2.1, B.2.2.2.2.1, hts⟩ (hA l G H.size) cw (H := H) (g := F0 m pc ls (S0.map (vmA G.2.2)))
    ⟨b_blind, b_preC (As := As.map (vmA G.2.2)) B hP hD⟩ rfl (by rw [List.length_map]; exact hn) hl.1 (by rw [hst, List.map_append, List.map_reverse]) (lv_room (by rw [map_cat]; exact hcat)) hd ⟨by omega, by omega⟩
  exact b_run G B hX h1 h2 hP hD hS hl hr kk
theorem b_callV {mi mi' : MI} {d d' pc nc ns idx n k q0 ci : Nat} {X : BX} {ks : List Nat} {L : List (Nat × Option Value)} {st S0 As fs : List Value} {cq : vw_C} (wr : List (Nat × BE)) {W0 W1 : List (Nat × BE)} (hd : decode mi.2.1 pc = .ok (.invokevirtual idx, 3)) (hlk : Cond.methodLink mi.1.cls idx mi'.1 ∈ TB) (hm : mthV mi' n) (he : (wr ++ W0)[q0]? = some (k, .inl (ci, fs))) (hcq : vwCl[ci]? = some cq) (hcl : cq.1 = mi'.1.cls) (hA : CMt mi' d' (.ref k :: As) W0 W1) (hst : S0 = As.reverse ++ .ref k :: st) (hn : As.length = n) (hdd : d' < d) (hnl : mi'.2.2.1 ≤ 30) (hcat : (st.map fun v => v.category).sum ≤ 8) (hret : mi'.2.2.2 = none)
    (kk : BW mi d X ks (pc + 3) L st (wr ++ W1) nc ns) : BW mi d X ks pc L S0 (wr ++ W0) nc ns := by
  intro G p l e R s m args below meth c A cells slots Qf B hX h1 h2 H locs ls hP hD hS hl
  obtain ⟨⟨hini, hcode, hdesc⟩, hinst, hsel⟩ := hm
  have hts := B.2.2.2.2.2.1
  have hfr := B.2.2.2.2.2.2.2.2.2.1
  have hlo := B.2.2.2.2.2.2.2.2.2.2.1
  have hw := bwl_at G he
  rw [bwl_app] at hP hD hw
  have cw : CallW R s args mi.1.cls mi'.1.cls idx mi'.1 mi'.2.1 mi'.2.2.1 mi'.2.2.2 (Cond.code mi'.1 mi'.2.1 mi'.2.2.1 mi'.2.2.2 :: TB) (rmD d') 0 0 n :=
    ⟨callB_of n hts (fun w hw => by rcases List.mem_cons.mp hw with rfl | h; exact tb_good _ hcode; exact tb_good _ h) rfl rfl rfl (hts _ hini) (hts _ hlk) hdesc (by simp only [rmD]; omega), hts _ hinst, hts _ hsel⟩
  have hr := va_runV (l := l) (e := e) (below := below) (meth := meth) (locs := locs) (As := As.map (vmA G.2.2)) (rest := st.map (vmA G.2.2)) (cells := cells) (slots := slots) ⟨B.1, B.2.1, B.2.2.1, B.2.2.2.2.1, hts⟩ (hA l G H.size) cw (b := G.2.2 k) (H := H) (g := F0 m pc ls (S0.map (vmA G.2.2)))
    ⟨b_blind, by rw [← hcl]; exact va_recv B.2.2.2.2.2.2.2.1 hP hcq hw, b_preC (As := (Value.ref k :: As).map (vmA G.2.2)) B hP hD⟩ rfl (by rw [List.length_map]; exact hn) hl.1 (by rw [hst, List.map_append, List.map_reverse]; rfl) (lv_room (by rw [map_cat]; exact hcat)) hd ⟨by omega, by omega⟩
  exact b_run G B hX h1 h2 hP hD hS hl hr kk
theorem b_ws {mi : MI} {d pc nc ns : Nat} {X : BX} {ks : List Nat} {L : List (Nat × Option Value)} {st : List Value} {ws ws2 : List (Nat × BE)} (h : ws2 = ws) (kk : BW mi d X ks pc L st ws2 nc ns) : BW mi d X ks pc L st ws nc ns := h ▸ kk
theorem b_lo {mi : MI} {d pc nc ns : Nat} {X : BX} {ks : List Nat} {L L2 : List (Nat × Option Value)} {st : List Value} {ws : List (Nat × BE)} (h : subL L L2) (kk : BW mi d X ks pc L2 st ws nc ns) : BW mi d X ks pc L st ws nc ns := by
  intro G p l e R s m args below meth c A cells slots Qf B hX h1 h2 H locs ls hP hD hS hl
  exact kk G p l e R s m args below meth c A cells slots Qf B hX h1 h2 H locs ls hP hD hS ⟨hl.1, hl.2.1, fun i v hv => hl.2.2 i v (subL_use h i v hv)⟩

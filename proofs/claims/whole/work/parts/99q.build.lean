/-- a world in the making: an object with its fields, an array -/
abbrev BE : Type := (Nat × List Value) ⊕ (Nat × ((Nat → Nat) → vp_A))
def cncB (G : GG) (e : BE) : va_E := match e with
  | .inl x => .inr (x.1, x.2.map (vmA G.2.2))
  | .inr a => .inl (G.2.1 a.1, a.2 G.2.2)
def bwl (G : GG) (ws : List (Nat × BE)) : va_W := ws.map (fun q => (G.2.2 q.1, cncB G q.2))
/-- k at the address q -/
def setG (G : GG) (k q : Nat) : GG := (G.1, G.2.1, fun i => if i = k then q else G.2.2 i)
def mLB (ad : Nat → Nat) (L : List (Nat × Option Value)) : List (Nat × Option Value) := L.map (fun x => (x.1, x.2.map (vmA ad)))
theorem lkA_m (ad : Nat → Nat) : ∀ (L : List (Nat × Option Value)) (i : Nat), lkA (mLB ad L) i = (lkA L i).map (vmA ad)
  | [], _ => rfl
  | x :: r, i => by
    show lkA ((x.1, x.2.map (vmA ad)) :: mLB ad r) i = _
    rw [lkA_cons, lkA_cons]
    by_cases e : x.1 = i
    · rw [if_pos e, if_pos e]
    · rw [if_neg e, if_neg e]; exact lkA_m ad r i
theorem hasL_m {ad ad' : Nat → Nat} {ls : Array Slot} {n : Nat} {L : List (Nat × Option Value)} (h : hasL ad ls n L) (e : mLB ad' L = mLB ad L) : hasL ad' ls n L := ⟨h.1, h.2.1, fun i v hv => by
  have h1 := lkA_m ad' L i
  rw [e, lkA_m ad L i, hv] at h1
  cases hq : lkA L i with
  | none => rw [hq] at hv; cases hv
  | some w =>
    rw [hq] at hv
    cases hv
    have h2 := h.2.2 i v hq
    have h3 : vmA ad v = vmA ad' v := by
      have := h1
      simp only [Option.map_some, Option.some.injEq] at this
      exact this
    rw [← h3]; exact h2⟩
/-- what stands of classes beside the tables' words -/
def XF (U : State) : Prop := va_AO "MossSeats$Wood" U ∧ va_Nw (.methodLinkNest RX11 43 yX7_init RX11) U ∧ (Cond.arrayOver (.array .long)).before #[] U = true
theorem XF.warm {s U : State} (hW : s.WarmedH U.vm) (h : XF s) : XF U := ⟨va_AO.moved hW.alike h.1, va_Nw.warmM hW h.2.1, over_moved hW.alike h.2.2⟩
theorem XF.calling {U : State} {g : JFrame} {mk : MethodId} {a : Array Value} (h : XF U) : XF (U.calling g mk a) := ⟨va_AO.moved (u := U) (U := U.calling g mk a) (Vm.Alike.refl U.vm) h.1, va_Nw.same (u := U) (U := U.calling g mk a) rfl rfl h.2.1, over_moved (u := U) (E := U.calling g mk a) (Vm.Alike.refl U.vm) h.2.2⟩
abbrev BX : Type := va_G → (Nat → ClassId) → List Nat → Program → Launch → Env → Room → State → MethodId → Array Value → List Frame → Method → (Nat → Prop) → Nat → Nat → (State → Prop) → Prop
def basB (mi : MI) (d : Nat) (G : GG) (p : Program) (R : Room) (s : State) (m : MethodId) (args : Array Value) (meth : Method) (c : Code) (A : Nat → Prop) : Prop :=
  p.tables.exec = Jvm.exec ∧ c.code = mi.2.1 ∧ c.maxLocals = mi.2.2.1 ∧ meth.sig.returnType = mi.2.2.2 ∧ s.vm.findClass mi.1.cls = some m.cls ∧ (∀ w ∈ TB, w.before args s = true) ∧ meth.locks = false ∧ va_K G.1 vwCl (tysA G) s ∧ (∀ q, s.heap.size ≤ q → A q) ∧ d + 2 ≤ R.frames ∧ 60 * (d + 2) ≤ R.locals ∧ XF s ∧ (mi.1.name = "<init>" → meth.name = "<init>")
/-- from here the construction goes on well: nc cells, ns slots are still to come -/
def BW (mi : MI) (d : Nat) (X : BX) (ks : List Nat) (pc : Nat) (L : List (Nat × Option Value)) (st : List Value) (ws : List (Nat × BE)) (nc ns : Nat) : Prop :=
  ∀ (G : GG) (p : Program) (l : Launch) (e : Env) (R : Room) (s : State) (m : MethodId) (args : Array Value) (below : List Frame) (meth : Method) (c : Code) (A : Nat → Prop) (cells slots : Nat) (Qf : State → Prop),
    basB mi d G p R s m args meth c A → X G.1 G.2.1 (ks.map G.2.2) p l e R s m args below meth A (cells + nc) (slots + ns) Qf → cells + nc ≤ R.cells → slots + ns ≤ R.slots →
    ∀ (H : Heap) (locs : List Loc) (ls : Array Slot), va_P G.1 vwCl (bwl G ws) H → va_D A (bwl G ws) → va_S A s.heap H locs → hasL G.2.2 ls mi.2.2.1 L →
      W p l e R s m args below meth c H locs cells slots Qf (F0 m pc ls (st.map (vmA G.2.2)))
theorem b_aload_n {mi : MI} {d : Nat} {X : BX} {ks : List Nat} {pc nc ns : Nat} {L : List (Nat × Option Value)} {st : List Value} {ws : List (Nat × BE)} {k : Fin 4} {x : Nat} (hv : lkA L (k : Nat) = some (.ref x)) (hd : decode mi.2.1 pc = .ok (.aload_n k, 1)) (kk : BW mi d X ks (pc + 1) L (.ref x :: st) ws nc ns) : BW mi d X ks pc L st ws nc ns := by
  intro G p l e R s m args below meth c A cells slots Qf B hX h1 h2 H locs ls hP hD hS hl
  exact lv_aload_n B.1 B.2.1 hd rfl (hl.2.2 _ _ hv) (kk G p l e R s m args below meth c A cells slots Qf B hX h1 h2 H locs ls hP hD hS hl)
theorem b_iconst {mi : MI} {d : Nat} {X : BX} {ks : List Nat} {pc nc ns : Nat} {L : List (Nat × Option Value)} {st : List Value} {ws : List (Nat × BE)} {n : Int} (v : Int32) (hv : Int32.ofInt n = v) (hd : decode mi.2.1 pc = .ok (.iconst n, 1)) (kk : BW mi d X ks (pc + 1) L (.int v :: st) ws nc ns) : BW mi d X ks pc L st ws nc ns := by
  intro G p l e R s m args below meth c A cells slots Qf B hX h1 h2 H locs ls hP hD hS hl
  exact lv_iconst B.1 B.2.1 hd hv (kk G p l e R s m args below meth c A cells slots Qf B hX h1 h2 H locs ls hP hD hS hl)
theorem b_bipush {mi : MI} {d : Nat} {X : BX} {ks : List Nat} {pc nc ns : Nat} {L : List (Nat × Option Value)} {st : List Value} {ws : List (Nat × BE)} {n : Int} (v : Int32) (hv : (Int8.ofInt n).toInt32 = v) (hd : decode mi.2.1 pc = .ok (.bipush n, 2)) (kk : BW mi d X ks (pc + 2) L (.int v :: st) ws nc ns) : BW mi d X ks pc L st ws nc ns := by
  intro G p l e R s m args below meth c A cells slots Qf B hX h1 h2 H locs ls hP hD hS hl
  exact lv_bipush B.1 B.2.1 hd hv (kk G p l e R s m args below meth c A cells slots Qf B hX h1 h2 H locs ls hP hD hS hl)
theorem b_sipush {mi : MI} {d : Nat} {X : BX} {ks : List Nat} {pc nc ns : Nat} {L : List (Nat × Option Value)} {st : List Value} {ws : List (Nat × BE)} {n : Int} (v : Int32) (hv : (Int16.ofInt n).toInt32 = v) (hd : decode mi.2.1 pc = .ok (.sipush n, 3)) (kk : BW mi d X ks (pc + 3) L (.int v :: st) ws nc ns) : BW mi d X ks pc L st ws nc ns := by
  intro G p l e R s m args below meth c A cells slots Qf B hX h1 h2 H locs ls hP hD hS hl
  exact lv_sipush B.1 B.2.1 hd hv (kk G p l e R s m args below meth c A cells slots Qf B hX h1 h2 H locs ls hP hD hS hl)
/-- zeros: ints or bytes, longs -/
def zrB (t n : Nat) : vp_A := (n, if t = 2 then .inr (.inl (fun _ => 0)) else .inl (fun _ => 0))
theorem b_newa {mi : MI} {d : Nat} {X : BX} {ks : List Nat} {pc nc ns k N t : Nat} {L : List (Nat × Option Value)} {st : List Value} {ws : List (Nat × BE)} {atype : ArrayType} {ty : FieldType} (hd : decode mi.2.1 pc = .ok (.newarray atype, 2)) (hty : newarray.typeOf atype = ty) (harr : Cond.arrayClass ty ∈ TB) (htt : ∀ G : GG, (tysA G)[t]? = some (G.2.1 t, ty)) (hra : ∀ (U : State) (cA : ClassId), va_RA U cA ty → U.vm.findClass ("[" ++ ty.toString) = some cA) (ha : ∀ cA : ClassId, vp_cell cA (zrB t N) = arrV cA N (fun _ => defaultValue ty)) (hN : N ≤ 2000) (hcb : componentBytes ty ≤ 8) (hk : k ∉ ks)
    (hL : ∀ ad q, mLB (fun i => if i = k then q else ad i) L = mLB ad L) (hst : ∀ (ad : Nat → Nat) q, st.map (vmA (fun i => if i = k then q else ad i)) = st.map (vmA ad)) (hws : ∀ G q, bwl (setG G k q) ws = bwl G ws)
    (kk : BW mi d X ks (pc + 2) L (.ref k :: st) (ws ++ [(k, .inr (t, fun _ => zrB t N))]) nc ns) : BW mi d X ks pc L (.int (nI N) :: st) ws (nc + 1) (ns + N) := by
  intro G p l e R s m args below meth c A cells slots Qf B hX h1 h2 H locs ls hP hD hS hl
  have hn : ¬ nI N < 0 := fun q => by rw [Int32.lt_iff_toInt_lt, nI_toInt (by omega)] at q; have : (0 : Int32).toInt = 0 := rfl; omega
  have hNN : (nI N).toNatClampNeg = N := by unfold Int32.toNatClampNeg; rw [nI_toInt (by omega)]; exact Int.toNat_natCast N
  refine va_newa (a0 := zrB t N) B.1 B.2.1 (hty ▸ B.2.2.2.2.2.1 _ harr) hty B.2.2.2.2.2.2.2.1 hP hD hS B.2.2.2.2.2.2.2.2.1 ha hn hNN (by have := Nat.mul_le_mul hN hcb; omega) (by omega) (by omega) hd (fun q cA H1 hK1 hP1 hD1 hS1 => ?_)
  have hc : cA = G.2.1 t := by
    have z1 := hra _ _ (hK1.2 (tysA G).length (cA, ty) (by rw [List.getElem?_append_right (Nat.le_refl _), Nat.sub_self]; rfl)).2
    have z2 := hra _ _ (B.2.2.2.2.2.2.2.1.2 t (G.2.1 t, ty) (htt G)).2
    rw [z2] at z1
    exact (Option.some.inj z1).symm
  subst hc
  have hb : bwl (setG G k q) (ws ++ [(k, .inr (t, fun _ => zrB t N))]) = bwl G ws ++ [(q, .inl (G.2.1 t, zrB t N))] := by
    unfold bwl at hws ⊢
    rw [List.map_append, hws G q]
    show _ ++ [((if k = k then q else G.2.2 k), _)] = _
    rw [if_pos rfl]; rfl
  have e0 : ks.map (setG G k q).2.2 = ks.map G.2.2 := List.map_congr_left (fun i hi => (show (if i = k then q else G.2.2 i) = G.2.2 i from if_neg (fun z : i = k => hk (z ▸ hi))))
  have r := kk (setG G k q) p l e R s m args below meth c A (cells + 1) (slots + N) Qf B (by rw [e0, show cells + 1 + nc = cells + (nc + 1) by omega, show slots + N + ns = slots + (ns + N) by omega]; exact hX) (by omega) (by omega) H1 locs ls (by rw [hb]; exact hP1) (by rw [hb]; exact hD1) hS1 (hasL_m hl (hL G.2.2 q))
  have es : (Value.ref k :: st).map (vmA (setG G k q).2.2) = .ref q :: st.map (vmA G.2.2) := by
    show Value.ref (if k = k then q else G.2.2 k) :: st.map (vmA (fun i => if i = k then q else G.2.2 i)) = _
    rw [if_pos rfl, hst]
  rw [es] at r
  exact r

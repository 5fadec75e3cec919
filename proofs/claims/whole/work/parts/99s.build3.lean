def rmB (d mc ms : Nat) : Room := { frames := d + 2, cells := mc, slots := ms, locals := 60 * (d + 2) }
/-- what a constructor leaves: addresses ad, the world W1 -/
def qcB (k0 : Nat) (W1 : List (Nat × BE)) (D : va_G) (ids : Nat → ClassId) (h0 : Nat) (A : Nat → Prop) : Array Value → State → Outcome → State → Prop := va_Qv (fun ad : Nat → Nat => ad k0 = h0) (fun ad t => va_P D vwCl (bwl (D, ids, ad) W1) t.heap ∧ va_K D vwCl (tysA (D, ids, fun _ => 0)) t ∧ va_D A (bwl (D, ids, ad) W1)) A
def BMt (mi : MI) (d k0 ci : Nat) (fs0 : List Value) (W1 : List (Nat × BE)) (mc ms : Nat) : Prop := ∀ (l : Launch) (D : va_G) (ids : Nat → ClassId) (h0 sz : Nat), Met l mi.1 (Cond.code mi.1 mi.2.1 mi.2.2.1 mi.2.2.2 :: TB) (rmB d mc ms)
    (va_Pc [.ref h0] (fun U => U.heap.size = sz ∧ va_P D vwCl [(h0, .inr (ci, fs0))] U.heap ∧ va_K D vwCl (tysA (D, ids, fun _ => 0)) U ∧ va_D (fun _ => True) [(h0, .inr (ci, fs0))] ∧ XF U))
    (qcB k0 W1 D ids h0 (va_A [(h0, .inr (ci, fs0))] sz)) mc ms (va_A [(h0, .inr (ci, fs0))] sz)
def xB (k0 : Nat) (W1 : List (Nat × BE)) (mc ms : Nat) : BX := fun D ids hs _ _ _ _ s _ args below _ A cells slots Qf => cells = mc ∧ slots = ms ∧ Qf = MQ below (qcB k0 W1 D ids (hs.headD 0) A) args s mc ms A
theorem BMt.of {mi : MI} {d k0 ci : Nat} {fs0 : List Value} {W1 : List (Nat × BE)} {mc ms : Nat} (hy : plainName mi.1.cls = true) (hn : 1 ≤ mi.2.2.1) (hfs : ∀ ad, fs0.map (vmA ad) = fs0) (k : BW mi d (xB k0 W1 mc ms) [k0] 0 [(0, some (.ref k0))] [] [(k0, .inl (ci, fs0))] mc ms) : BMt mi d k0 ci fs0 W1 mc ms := by
  intro l D ids h0 sz
  refine Met.ofW (cc := mi.2.1) (maxL := mi.2.2.1) (ret := mi.2.2.2) hy rfl ?_
  intro p e s m args below meth c s₁ B hml hv
  obtain ⟨rfl, hsz, hP, hK, hD0, hXF⟩ := hv
  subst hsz
  have hts := atoms_spec (ws := Cond.code mi.1 mi.2.1 mi.2.2.1 mi.2.2.2 :: TB) B.pre
  have hD := hD0.self (sz := s.heap.size)
  have hl := lv_entry ([.ref h0]) (n := mi.2.2.1) hn
  rw [lg_entry_eq]
  have hA : [Value.ref h0] = ([Value.ref k0]).map (vmA (fun i => if i = k0 then h0 else 0)) := by
    show [Value.ref h0] = [Value.ref (if k0 = k0 then h0 else 0)]
    rw [if_pos rfl]
  have hw : bwl (D, ids, fun i => if i = k0 then h0 else 0) [(k0, .inl (ci, fs0))] = [(h0, .inr (ci, fs0))] := by
    show [((if k0 = k0 then h0 else 0), (Sum.inr (ci, fs0.map (vmA (fun i => if i = k0 then h0 else 0))) : va_E))] = _
    rw [if_pos rfl, hfs]
  have hk0 : (fun i => if i = k0 then h0 else 0) k0 = h0 := if_pos rfl
  exact k (D, ids, fun i => if i = k0 then h0 else 0) p l e _ s m _ below meth c (va_A [(h0, .inr (ci, fs0))] s.heap.size) 0 0 _ ⟨B.exec, B.bytes, hml, B.returns, findClass_of_methodNamed B.named, fun w hw => hts w (List.mem_cons_of_mem _ hw), B.notSynchronized, hK, fun q h => Or.inr h, Nat.le_refl _, Nat.le_refl _, hXF, fun h => (name_of_methodNamed B.named B.method).1.trans h⟩ ⟨Nat.zero_add _, Nat.zero_add _, by show _ = MQ below (qcB k0 W1 D ids (if k0 = k0 then h0 else 0) _) _ s mc ms _; rw [if_pos rfl]⟩ (Nat.le_of_eq (Nat.zero_add mc)) (Nat.le_of_eq (Nat.zero_add ms)) s.heap [] _ (by rw [hw]; exact hP) (by rw [hw]; exact hD) va_S.rf ⟨hl.1, hl.2.1, fun i v h => by
    have z := argL_ok (fun i => if i = k0 then h0 else 0) [.ref k0] 0 i v h
    rw [← hA] at z
    exact hl.2.2 _ z⟩
theorem b_ret {mi : MI} {d k0 pc mc ms : Nat} {L : List (Nat × Option Value)} {W1 : List (Nat × BE)} (hd : decode mi.2.1 pc = .ok (.return_, 1)) (hr : mi.2.2.2 = none) : BW mi d (xB k0 W1 mc ms) [k0] pc L [] W1 0 0 := by
  intro G p l e R s m args below meth c A cells slots Qf B hX h1 h2 H locs ls hP hD hS hl
  obtain ⟨rfl, rfl, rfl⟩ := hX
  exact W.vret B.1 B.2.1 (B.2.2.2.1.trans hr) (fun t ht hW => ⟨⟨G.2.2, rfl, rfl, by rw [ht]; exact hP, va_K.moved hW.alike B.2.2.2.2.2.2.2.1, hD⟩, hS.F ht⟩) hS.2.2 hd B.2.2.2.2.2.2.1
theorem hra_int : ∀ (U : State) (cA : ClassId), va_RA U cA .int → U.vm.findClass ("[" ++ (FieldType.int).toString) = some cA := fun _ _ h => h
theorem hra_byte : ∀ (U : State) (cA : ClassId), va_RA U cA .byte → U.vm.findClass ("[" ++ (FieldType.byte).toString) = some cA := fun _ _ h => h
theorem hra_long : ∀ (U : State) (cA : ClassId), va_RA U cA .long → U.vm.findClass ("[" ++ (FieldType.long).toString) = some cA := fun _ _ h => h
theorem zr_int (N : Nat) : ∀ cA : ClassId, vp_cell cA (zrB 0 N) = arrV cA N (fun _ => defaultValue .int) := fun _ => rfl
theorem zr_byte (N : Nat) : ∀ cA : ClassId, vp_cell cA (zrB 1 N) = arrV cA N (fun _ => defaultValue .byte) := fun _ => rfl
theorem zr_long (N : Nat) : ∀ cA : ClassId, vp_cell cA (zrB 2 N) = arrV cA N (fun _ => defaultValue .long) := fun _ => rfl

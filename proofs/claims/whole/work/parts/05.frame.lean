/-! ===== the abstract machine: a fixed set of cells, a memory of numbers ===== -/
abbrev Mm : Type := (Nat → Nat → Int32) × (Nat → Nat → Int64)
def siM (M : Mm) (k j : Nat) (x : Int32) : Mm := (fun a b => if a = k ∧ b = j then x else M.1 a b, M.2)
def slM (M : Mm) (k j : Nat) (x : Int64) : Mm := (M.1, fun a b => if a = k ∧ b = j then x else M.2 a b)
def srM (M : Mm) (k : Nat) (f : Nat → Int32) : Mm := (fun a b => if a = k then f b else M.1 a b, M.2)
def sqM (M : Mm) (k : Nat) (f : Nat → Int64) : Mm := (M.1, fun a b => if a = k then f b else M.2 a b)
def vmA (ad : Nat → Nat) (v : Value) : Value := match v with
  | .ref k => .ref (ad k)
  | v => v
theorem vmA_cat (ad : Nat → Nat) (v : Value) : (vmA ad v).category = v.category := by cases v <;> rfl
def fvA (ad : Nat → Nat) (M : Mm) (k : Nat) : Nat → List (Nat × Nat) → List Value
  | _, [] => []
  | j, (t, q) :: r => (if t = 0 then .int (M.1 k j) else if t = 1 then .long (M.2 k j) else .ref (ad q)) :: fvA ad M k (j + 1) r
def celA (G : GG) (M : Mm) (k : Nat) (c : LC) : va_E := match c with
  | .inl o => .inr (o.1, fvA G.2.2 M k 0 o.2)
  | .inr a => .inl (G.2.1 a.1, (a.2.1, if a.1 = 2 then .inr (.inl (M.2 k)) else if a.1 < 2 then .inl (M.1 k) else .inr (.inr (.inr (.inr (fun j => if j < a.2.1 then some (G.2.2 (a.2.2 j)) else none))))))
def wrl (G : GG) (M : Mm) : va_W := (List.range nC).map (fun k => (G.2.2 k, celA G M k (layC k)))
theorem wrl_at (G : GG) (M : Mm) {k : Nat} (h : k < nC) : (wrl G M)[k]? = some (G.2.2 k, celA G M k (layC k)) := by
  unfold wrl
  rw [List.getElem?_map, List.getElem?_range h]
  rfl
theorem wrl_len (G : GG) (M : Mm) : (wrl G M).length = nC := by simp [wrl]
theorem fvA_len (ad : Nat → Nat) (M : Mm) (k : Nat) : ∀ (fs : List (Nat × Nat)) (j : Nat), (fvA ad M k j fs).length = fs.length
  | [], _ => rfl
  | (_, _) :: r, j => by simp [fvA, fvA_len ad M k r (j + 1)]
theorem fvA_at (ad : Nat → Nat) (M : Mm) (k : Nat) : ∀ (fs : List (Nat × Nat)) (j0 j t q : Nat), fs[j]? = some (t, q) → (fvA ad M k j0 fs)[j]? = some (if t = 0 then .int (M.1 k (j0 + j)) else if t = 1 then .long (M.2 k (j0 + j)) else .ref (ad q))
  | [], _, j, t, q, h => by simp at h
  | (t0, q0) :: r, j0, 0, t, q, h => by
    simp only [List.getElem?_cons_zero, Option.some.injEq, Prod.mk.injEq] at h
    obtain ⟨rfl, rfl⟩ := h
    simp [fvA]
  | (t0, q0) :: r, j0, j + 1, t, q, h => by
    simp only [List.getElem?_cons_succ] at h
    have := fvA_at ad M k r (j0 + 1) j t q h
    simp only [fvA, List.getElem?_cons_succ, this, Nat.add_assoc, Nat.add_comm 1 j]
theorem fvA_i (ad : Nat → Nat) (M : Mm) (k0 k j : Nat) (x : Int32) : ∀ (fs : List (Nat × Nat)) (j0 : Nat), (k = k0 → j < j0) → fvA ad (siM M k0 j x) k j0 fs = fvA ad M k j0 fs
  | [], _, _ => rfl
  | (t, q) :: r, j0, h => by
    have h1 : ¬ (k = k0 ∧ j0 = j) := fun ⟨a, b⟩ => by have := h a; omega
    have ih := fvA_i ad M k0 k j x r (j0 + 1) (fun a => Nat.lt_succ_of_lt (h a))
    simp only [fvA, ih]
    simp only [siM, if_neg h1]
theorem fvA_l (ad : Nat → Nat) (M : Mm) (k0 k j : Nat) (x : Int64) : ∀ (fs : List (Nat × Nat)) (j0 : Nat), (k = k0 → j < j0) → fvA ad (slM M k0 j x) k j0 fs = fvA ad M k j0 fs
  | [], _, _ => rfl
  | (t, q) :: r, j0, h => by
    have h1 : ¬ (k = k0 ∧ j0 = j) := fun ⟨a, b⟩ => by have := h a; omega
    have ih := fvA_l ad M k0 k j x r (j0 + 1) (fun a => Nat.lt_succ_of_lt (h a))
    simp only [fvA, ih]
    simp only [slM, if_neg h1]
theorem fvA_si (ad : Nat → Nat) (M : Mm) (k : Nat) (x : Int32) : ∀ (fs : List (Nat × Nat)) (j0 j q : Nat), fs[j]? = some (0, q) → (fvA ad M k j0 fs).set j (.int x) = fvA ad (siM M k (j0 + j) x) k j0 fs
  | [], _, j, q, h => by simp at h
  | (t0, q0) :: r, j0, 0, q, h => by
    simp only [List.getElem?_cons_zero, Option.some.injEq, Prod.mk.injEq] at h
    obtain ⟨rfl, rfl⟩ := h
    simp only [fvA, List.set_cons_zero, Nat.add_zero, fvA_i ad M k k j0 x r (j0 + 1) (fun _ => Nat.lt_succ_self _)]
    simp [siM]
  | (t0, q0) :: r, j0, j + 1, q, h => by
    simp only [List.getElem?_cons_succ] at h
    have := fvA_si ad M k x r (j0 + 1) j q h
    have h1 : ¬ (j0 = j0 + (j + 1)) := by omega
    simp only [fvA, List.set_cons_succ, this, siM, true_and, if_neg h1, show j0 + 1 + j = j0 + (j + 1) by omega]
theorem fvA_sl (ad : Nat → Nat) (M : Mm) (k : Nat) (x : Int64) : ∀ (fs : List (Nat × Nat)) (j0 j q : Nat), fs[j]? = some (1, q) → (fvA ad M k j0 fs).set j (.long x) = fvA ad (slM M k (j0 + j) x) k j0 fs
  | [], _, j, q, h => by simp at h
  | (t0, q0) :: r, j0, 0, q, h => by
    simp only [List.getElem?_cons_zero, Option.some.injEq, Prod.mk.injEq] at h
    obtain ⟨rfl, rfl⟩ := h
    simp only [fvA, List.set_cons_zero, Nat.add_zero, fvA_l ad M k k j0 x r (j0 + 1) (fun _ => Nat.lt_succ_self _)]
    simp [slM]
  | (t0, q0) :: r, j0, j + 1, q, h => by
    simp only [List.getElem?_cons_succ] at h
    have := fvA_sl ad M k x r (j0 + 1) j q h
    have h1 : ¬ (j0 = j0 + (j + 1)) := by omega
    simp only [fvA, List.set_cons_succ, this, slM, true_and, if_neg h1, show j0 + 1 + j = j0 + (j + 1) by omega]
theorem celA_i {G : GG} {M : Mm} {k0 k j : Nat} {x : Int32} (h : k ≠ k0) (c : LC) : celA G (siM M k0 j x) k c = celA G M k c := by
  cases c with
  | inl o => simp only [celA, fvA_i G.2.2 M k0 k j x o.2 0 (fun a => absurd a h)]
  | inr a =>
    have e : (siM M k0 j x).1 k = M.1 k := by funext b; simp [siM, h]
    simp only [celA, e]
    rfl
theorem celA_l {G : GG} {M : Mm} {k0 k j : Nat} {x : Int64} (h : k ≠ k0) (c : LC) : celA G (slM M k0 j x) k c = celA G M k c := by
  cases c with
  | inl o => simp only [celA, fvA_l G.2.2 M k0 k j x o.2 0 (fun a => absurd a h)]
  | inr a =>
    have e : (slM M k0 j x).2 k = M.2 k := by funext b; simp [slM, h]
    simp only [celA, e]
    rfl
theorem celA_r {G : GG} {M : Mm} {k0 k : Nat} {f : Nat → Int32} (h : k ≠ k0) (c : LC) : celA G (srM M k0 f) k c = celA G M k c := by
  have e : (srM M k0 f).1 k = M.1 k := by funext b; simp [srM, h]
  cases c with
  | inl o =>
    have : ∀ (fs : List (Nat × Nat)) (j0 : Nat), fvA G.2.2 (srM M k0 f) k j0 fs = fvA G.2.2 M k j0 fs := by
      intro fs
      induction fs with
      | nil => intro j0; rfl
      | cons q r ih => intro j0; simp only [fvA, ih, e]; rfl
    simp only [celA, this]
  | inr a => simp only [celA, e]; rfl
theorem celA_q {G : GG} {M : Mm} {k0 k : Nat} {f : Nat → Int64} (h : k ≠ k0) (c : LC) : celA G (sqM M k0 f) k c = celA G M k c := by
  have e : (sqM M k0 f).2 k = M.2 k := by funext b; simp [sqM, h]
  cases c with
  | inl o =>
    have : ∀ (fs : List (Nat × Nat)) (j0 : Nat), fvA G.2.2 (sqM M k0 f) k j0 fs = fvA G.2.2 M k j0 fs := by
      intro fs
      induction fs with
      | nil => intro j0; rfl
      | cons q r ih => intro j0; simp only [fvA, ih, e]; rfl
    simp only [celA, this]
  | inr a => simp only [celA, e]; rfl
/-- a world whose cell k alone is another -/
theorem wrl_set (G : GG) (M M' : Mm) {k : Nat} (hk : k < nC) {E : va_E} (hE : celA G M' k (layC k) = E) (ho : ∀ j, j ≠ k → celA G M' j (layC j) = celA G M j (layC j)) : (wrl G M).set k (G.2.2 k, E) = wrl G M' := by
  apply List.ext_getElem?
  intro i
  by_cases hi : i = k
  · subst hi
    rw [List.getElem?_set_self (by rw [wrl_len]; exact hk), wrl_at G M' hk, hE]
  · rw [List.getElem?_set_ne (Ne.symm hi)]
    by_cases hn : i < nC
    · rw [wrl_at G M hn, wrl_at G M' hn, ho i hi]
    · rw [List.getElem?_eq_none (by rw [wrl_len]; omega), List.getElem?_eq_none (by rw [wrl_len]; omega)]
theorem wrl_D {A : Nat → Prop} {G : GG} {M M' : Mm} (h : va_D A (wrl G M)) : va_D A (wrl G M') := by
  have key : ∀ (k : Nat) (q : Nat × va_E), (wrl G M')[k]? = some q → ∃ q0, (wrl G M)[k]? = some q0 ∧ q0.1 = q.1 := by
    intro k q hq
    have hk : k < nC := by have := (List.getElem?_eq_some_iff.mp hq).1; rwa [wrl_len] at this
    rw [wrl_at G M' hk] at hq
    cases hq
    exact ⟨_, wrl_at G M hk, rfl⟩
  refine ⟨fun i j p q hi hj e => ?_, fun k q hk => ?_⟩
  · obtain ⟨p0, h1, h2⟩ := key i p hi
    obtain ⟨q0, h3, h4⟩ := key j q hj
    exact h.1 i j p0 q0 h1 h3 (h2.trans (e.trans h4.symm))
  · obtain ⟨q0, h1, h2⟩ := key k q hk
    rw [← h2]
    exact h.2 k q0 h1
theorem wrl_A {G : GG} {M M' : Mm} {sz q : Nat} (h : va_A (wrl G M) sz q) : va_A (wrl G M') sz q := by
  rcases h with ⟨k, e, h⟩ | h
  · have hk : k < nC := by have := (List.getElem?_eq_some_iff.mp h).1; rwa [wrl_len] at this
    rw [wrl_at G M hk] at h
    cases h
    exact Or.inl ⟨k, _, wrl_at G M' hk⟩
  · exact Or.inr h
/-! ===== locals ===== -/
def lkA : List (Nat × Option Value) → Nat → Option Value
  | [], _ => none
  | (i, v) :: r, j => match Nat.beq i j with
    | true => v
    | false => lkA r j
def nlA (L : List (Nat × Option Value)) (i : Nat) : Bool := match i with
  | 0 => true
  | j + 1 => match lkA L j with
    | some (.long _) => false
    | some (.double _) => false
    | _ => true
def hasL (ad : Nat → Nat) (ls : Array Slot) (n : Nat) (L : List (Nat × Option Value)) : Prop := ls.size = n ∧ lv_wf ls ∧ ∀ (i : Nat) (v : Value), lkA L i = some v → ls[i]? = some (.val (vmA ad v))
def lisL (ad : Nat → Nat) (n : Nat) (L : List (Nat × Option Value)) : List (Nat × Value) := (List.range n).filterMap (fun i => (lkA L i).map (fun v => (i, vmA ad v)))
theorem lisL_in {ad : Nat → Nat} {n : Nat} {L : List (Nat × Option Value)} {i : Nat} {v : Value} (hi : i < n) (h : lkA L i = some v) : (i, vmA ad v) ∈ lisL ad n L :=
  List.mem_filterMap.mpr ⟨i, List.mem_range.mpr hi, by rw [h]; rfl⟩
theorem hasL.list {ad : Nat → Nat} {ls : Array Slot} {n : Nat} {L : List (Nat × Option Value)} (h : hasL ad ls n L) : lv_has ls n (lisL ad n L) := by
  refine ⟨h.1, h.2.1, fun q hq => ?_⟩
  obtain ⟨i, -, hv⟩ := List.mem_filterMap.mp hq
  cases e : lkA L i with
  | none => rw [e] at hv; cases hv
  | some v => rw [e] at hv; cases hv; exact h.2.2 i v e
theorem lkA_cons (L : List (Nat × Option Value)) (i j : Nat) (v : Option Value) : lkA ((i, v) :: L) j = if i = j then v else lkA L j := by
  by_cases h : i = j
  · subst h
    simp only [lkA, Nat.beq_refl, if_true]
  · have : Nat.beq i j = false := by
      cases e : Nat.beq i j with
      | false => rfl
      | true => exact absurd (Nat.eq_of_beq_eq_true e) h
    simp only [lkA, this, if_neg h]
theorem nlA_cat {L : List (Nat × Option Value)} {i j : Nat} {v : Value} (h : nlA L i = true) (hj : j + 1 = i) (hv : lkA L j = some v) : v.category ≠ 2 := by
  subst hj
  simp only [nlA, hv] at h
  cases v <;> simp_all [Value.category]
theorem hasL.st1 {ad : Nat → Nat} {ls : Array Slot} {n : Nat} {L : List (Nat × Option Value)} {i : Nat} {v : Value} {ls0 : Array Slot} (h0 : hasL ad ls0 n L) (hn : nlA L i = true) (h : lv_has ls n ((i, vmA ad v) :: (lisL ad n L).filter (fun q => !(q.1 == i) && !(q.1 + 1 == i && q.2.category == 2)))) : hasL ad ls n ((i, some v) :: L) := by
  refine ⟨h.1, h.2.1, fun j x hx => ?_⟩
  rw [lkA_cons] at hx
  by_cases hij : i = j
  · subst hij
    rw [if_pos rfl] at hx
    cases hx
    exact h.2.2 (i, vmA ad v) List.mem_cons_self
  · rw [if_neg hij] at hx
    have hj : j < n := by
      have := h0.2.2 j x hx
      have := (Array.getElem?_eq_some_iff.mp this).1
      rw [h0.1] at this; exact this
    refine h.2.2 (j, vmA ad x) (List.mem_cons_of_mem _ (List.mem_filter.mpr ⟨lisL_in hj hx, ?_⟩))
    have h1 : (j == i) = false := by simpa using fun q : j = i => hij q.symm
    by_cases h2 : j + 1 = i
    · have := nlA_cat hn h2 hx
      simp [h1, vmA_cat, this]
    · simp [h1, h2]
theorem hasL.st2 {ad : Nat → Nat} {ls : Array Slot} {n : Nat} {L : List (Nat × Option Value)} {i : Nat} {v : Value} {ls0 : Array Slot} (h0 : hasL ad ls0 n L) (hn : nlA L i = true) (h : lv_has ls n ((i, vmA ad v) :: (lisL ad n L).filter (fun q => !(q.1 == i) && (!(q.1 == i + 1) && !(q.1 + 1 == i && q.2.category == 2))))) : hasL ad ls n ((i, some v) :: (i + 1, none) :: L) := by
  refine ⟨h.1, h.2.1, fun j x hx => ?_⟩
  rw [lkA_cons] at hx
  by_cases hij : i = j
  · subst hij
    rw [if_pos rfl] at hx
    cases hx
    exact h.2.2 (i, vmA ad v) List.mem_cons_self
  · rw [if_neg hij, lkA_cons] at hx
    by_cases hij2 : i + 1 = j
    · rw [if_pos hij2] at hx; cases hx
    rw [if_neg hij2] at hx
    have hj : j < n := by
      have := h0.2.2 j x hx
      have := (Array.getElem?_eq_some_iff.mp this).1
      rw [h0.1] at this; exact this
    refine h.2.2 (j, vmA ad x) (List.mem_cons_of_mem _ (List.mem_filter.mpr ⟨lisL_in hj hx, ?_⟩))
    have h1 : (j == i) = false := by simpa using fun q : j = i => hij q.symm
    have h3 : (j == i + 1) = false := by simpa using fun q : j = i + 1 => hij2 q.symm
    by_cases h2 : j + 1 = i
    · have := nlA_cat hn h2 hx
      simp [h1, h3, vmA_cat, this]
    · simp [h1, h2, h3]
def subL (L : List (Nat × Option Value)) : List (Nat × Option Value) → Prop
  | [] => True
  | (_, none) :: r => subL L r
  | (i, some v) :: r => lkA L i = some v ∧ subL L r
theorem subL_use {L : List (Nat × Option Value)} : ∀ {L' : List (Nat × Option Value)}, subL L L' → ∀ (i : Nat) (v : Value), lkA L' i = some v → lkA L i = some v
  | [], _, i, v, h => by simp [lkA] at h
  | (j, none) :: r, hs, i, v, h => by
    rw [lkA_cons] at h
    by_cases e : j = i
    · rw [if_pos e] at h; cases h
    · rw [if_neg e] at h; exact subL_use (L' := r) hs i v h
  | (j, some x) :: r, hs, i, v, h => by
    rw [lkA_cons] at h
    by_cases e : j = i
    · rw [if_pos e] at h; cases h; subst e; exact hs.1
    · rw [if_neg e] at h; exact subL_use (L' := r) hs.2 i v h
def argL : Nat → List Value → List (Nat × Option Value)
  | _, [] => []
  | i, v :: r => (i, some v) :: argL (if v.category = 2 then i + 2 else i + 1) r

/-! ===== a method's body, a method ===== -/
def rmD (d : Nat) : Room := { frames := d + 2, cells := 0, slots := 0, locals := 60 * (d + 2) }
def tysA (G : GG) : List (ClassId × FieldType) := [(G.2.1 0, .int), (G.2.1 1, .byte), (G.2.1 2, .long), (G.2.1 3, .array .long), (G.2.1 4, .object "MossSeats$Wood")]
abbrev CX : Type := GG → Program → Launch → Env → Room → State → MethodId → Array Value → List Frame → Method → (Nat → Prop) → Nat → Nat → (State → Prop) → Prop
def basA (mi : MI) (d : Nat) (G : GG) (p : Program) (R : Room) (s : State) (m : MethodId) (args : Array Value) (meth : Method) (c : Code) (A : Nat → Prop) (cells slots : Nat) : Prop :=
  p.tables.exec = Jvm.exec ∧ c.code = mi.2.1 ∧ c.maxLocals = mi.2.2.1 ∧ meth.sig.returnType = mi.2.2.2 ∧ s.vm.findClass mi.1.cls = some m.cls ∧ (∀ w ∈ TB, w.before args s = true) ∧ meth.locks = false ∧ va_K G.1 vwCl (tysA G) s ∧ (∀ q, s.heap.size ≤ q → A q) ∧ d + 2 ≤ R.frames ∧ 60 * (d + 2) ≤ R.locals ∧ cells ≤ R.cells ∧ slots ≤ R.slots ∧ strA G A s s.heap
def AW (mi : MI) (d : Nat) (X : CX) (pc : Nat) (L : List (Nat × Option Value)) (st : List Value) (M : Mm) : Prop :=
  ∀ (G : GG) (p : Program) (l : Launch) (e : Env) (R : Room) (s : State) (m : MethodId) (args : Array Value) (below : List Frame) (meth : Method) (c : Code) (A : Nat → Prop) (cells slots : Nat) (Qf : State → Prop),
    basA mi d G p R s m args meth c A cells slots → X G p l e R s m args below meth A cells slots Qf →
    ∀ (H : Heap) (locs : List Loc) (ls : Array Slot), va_P G.1 vwCl (wrl G M) H → va_D A (wrl G M) → va_S A s.heap H locs → hasL G.2.2 ls mi.2.2.1 L →
      W p l e R s m args below meth c H locs cells slots Qf (F0 m pc ls (st.map (vmA G.2.2)))

def qcA (G : GG) (Q : Option Value → Mm → Prop) (A : Nat → Prop) : Array Value → State → Outcome → State → Prop := fun _ st oc t =>
  (∃ (r : Option Value) (M : Mm), oc = .returned (r.map (vmA G.2.2)) ∧ Q r M ∧ va_P G.1 vwCl (wrl G M) t.heap ∧ va_K G.1 vwCl (tysA G) t) ∧ va_F A st t
def mxA (Q : Option Value → Mm → Prop) : CX := fun G _ _ _ _ s _ args below _ A cells slots Qf => cells = 0 ∧ slots = 0 ∧ Qf = MQ below (qcA G Q A) args s 0 0 A
def AMt (mi : MI) (d : Nat) (As : List Value) (M : Mm) (Q : Option Value → Mm → Prop) : Prop :=
  ∀ (l : Launch) (G : GG) (sz : Nat), Met l mi.1 (Cond.code mi.1 mi.2.1 mi.2.2.1 mi.2.2.2 :: TB) (rmD d)
    (va_Pc (As.map (vmA G.2.2)) (fun U => U.heap.size = sz ∧ va_P G.1 vwCl (wrl G M) U.heap ∧ va_K G.1 vwCl (tysA G) U ∧ va_D (fun _ => True) (wrl G M) ∧ strA G (va_A (wrl G M) sz) U U.heap))
    (qcA G Q (va_A (wrl G M) sz)) 0 0 (va_A (wrl G M) sz)
def lenA (As : List Value) : Nat := (As.map fun v => v.category).sum
theorem argL_ok (ad : Nat → Nat) : ∀ (As : List Value) (i j : Nat) (v : Value), lkA (argL i As) j = some v → (j, vmA ad v) ∈ lv_args i (As.map (vmA ad))
  | [], i, j, v, h => by simp [argL, lkA] at h
  | x :: r, i, j, v, h => by
    rw [argL, lkA_cons] at h
    rw [List.map_cons, lv_args]
    by_cases e : i = j
    · rw [if_pos e] at h; cases h; subst e; exact List.mem_cons_self
    · rw [if_neg e] at h
      rw [vmA_cat]
      exact List.mem_cons_of_mem _ (argL_ok ad r _ j v h)
theorem lenA_sl (ad : Nat → Nat) : ∀ (As : List Value), (lg_sl (As.map (vmA ad))).length = lenA As
  | [] => rfl
  | x :: r => by
    have ih := lenA_sl ad r
    simp only [lg_sl, List.map_cons, List.flatMap_cons, List.length_append, lenA, List.sum_cons, vmA_cat] at ih ⊢
    rw [ih]
    rcases lv_cat x with h | h <;> simp [h]
theorem AMt.of {mi : MI} {d : Nat} {As : List Value} {M : Mm} {Q : Option Value → Mm → Prop} (hy : plainName mi.1.cls = true) (hn : lenA As ≤ mi.2.2.1) (k : AW mi d (mxA Q) 0 (argL 0 As) [] M) : AMt mi d As M Q := by
  intro l G sz
  refine Met.ofW (cc := mi.2.1) (maxL := mi.2.2.1) (ret := mi.2.2.2) hy rfl ?_
  intro p e s m args below meth c s₁ B hml hv
  obtain ⟨rfl, hsz, hP, hK, hD0, hS0⟩ := hv
  subst hsz
  have hts := atoms_spec (ws := Cond.code mi.1 mi.2.1 mi.2.2.1 mi.2.2.2 :: TB) B.pre
  have hD := hD0.self (sz := s.heap.size)
  have hl := lv_entry (As.map (vmA G.2.2)) (n := mi.2.2.1) (by rw [lenA_sl]; exact hn)
  rw [lg_entry_eq]
  exact k G p l e _ s m _ below meth c (va_A (wrl G M) s.heap.size) 0 0 _ ⟨B.exec, B.bytes, hml, B.returns, findClass_of_methodNamed B.named, fun w hw => hts w (List.mem_cons_of_mem _ hw), B.notSynchronized, hK, fun q h => Or.inr h, Nat.le_refl _, Nat.le_refl _, Nat.le_refl _, Nat.le_refl _, hS0⟩ ⟨rfl, rfl, rfl⟩ s.heap [] _ hP hD va_S.rf ⟨hl.1, hl.2.1, fun i v h => hl.2.2 _ (argL_ok G.2.2 As 0 i v h)⟩
theorem wrl_free {A : Nat → Prop} {G : GG} {M : Mm} {H0 H : Heap} {locs : List Loc} (hD : va_D A (wrl G M)) (hS : va_S A H0 H locs) (hA : ∀ q, H0.size ≤ q → A q) : ∀ q, va_A (wrl G M) H.size q → A q := by
  intro q h
  rcases h with ⟨k, e, h⟩ | h
  · exact hD.2 k (q, e) h
  · exact hA q (Nat.le_trans hS.1 h)
theorem map_toList (ad : Nat → Nat) (r : Option Value) (st : List Value) : (r.toList ++ st).map (vmA ad) = (r.map (vmA ad)).toList ++ st.map (vmA ad) := by cases r <;> rfl
theorem map_cat (ad : Nat → Nat) : ∀ (st : List Value), ((st.map (vmA ad)).map fun v => v.category) = (st.map fun v => v.category)
  | [] => rfl
  | x :: r => by simp only [List.map_cons, vmA_cat, map_cat ad r]

theorem a_iadd {mi : MI} {d : Nat} {X : CX} {pc : Nat} {L : List (Nat × Option Value)} {st : List Value} {M : Mm} {x y : Int32} (hd : decode mi.2.1 pc = .ok (.iadd, 1)) (kk : AW mi d X (pc + 1) L (.int (x + y) :: st) M) : AW mi d X pc L (.int y :: .int x :: st) M := by
  intro G p l e R s m args below meth c A cells slots Qf B hX H locs ls hP hD hS hl
  exact lv_iadd B.1 B.2.1 hd (kk G p l e R s m args below meth c A cells slots Qf B hX H locs ls hP hD hS hl)
theorem a_isub {mi : MI} {d : Nat} {X : CX} {pc : Nat} {L : List (Nat × Option Value)} {st : List Value} {M : Mm} {x y : Int32} (hd : decode mi.2.1 pc = .ok (.isub, 1)) (kk : AW mi d X (pc + 1) L (.int (x - y) :: st) M) : AW mi d X pc L (.int y :: .int x :: st) M := by
  intro G p l e R s m args below meth c A cells slots Qf B hX H locs ls hP hD hS hl
  exact lv_isub B.1 B.2.1 hd (kk G p l e R s m args below meth c A cells slots Qf B hX H locs ls hP hD hS hl)
theorem a_imul {mi : MI} {d : Nat} {X : CX} {pc : Nat} {L : List (Nat × Option Value)} {st : List Value} {M : Mm} {x y : Int32} (hd : decode mi.2.1 pc = .ok (.imul, 1)) (kk : AW mi d X (pc + 1) L (.int (x * y) :: st) M) : AW mi d X pc L (.int y :: .int x :: st) M := by
  intro G p l e R s m args below meth c A cells slots Qf B hX H locs ls hP hD hS hl
  exact lv_imul B.1 B.2.1 hd (kk G p l e R s m args below meth c A cells slots Qf B hX H locs ls hP hD hS hl)
theorem a_iand {mi : MI} {d : Nat} {X : CX} {pc : Nat} {L : List (Nat × Option Value)} {st : List Value} {M : Mm} {x y : Int32} (hd : decode mi.2.1 pc = .ok (.iand, 1)) (kk : AW mi d X (pc + 1) L (.int (x &&& y) :: st) M) : AW mi d X pc L (.int y :: .int x :: st) M := by
  intro G p l e R s m args below meth c A cells slots Qf B hX H locs ls hP hD hS hl
  exact lv_iand B.1 B.2.1 hd (kk G p l e R s m args below meth c A cells slots Qf B hX H locs ls hP hD hS hl)
theorem a_ior {mi : MI} {d : Nat} {X : CX} {pc : Nat} {L : List (Nat × Option Value)} {st : List Value} {M : Mm} {x y : Int32} (hd : decode mi.2.1 pc = .ok (.ior, 1)) (kk : AW mi d X (pc + 1) L (.int (x ||| y) :: st) M) : AW mi d X pc L (.int y :: .int x :: st) M := by
  intro G p l e R s m args below meth c A cells slots Qf B hX H locs ls hP hD hS hl
  exact lv_ior B.1 B.2.1 hd (kk G p l e R s m args below meth c A cells slots Qf B hX H locs ls hP hD hS hl)
theorem a_ixor {mi : MI} {d : Nat} {X : CX} {pc : Nat} {L : List (Nat × Option Value)} {st : List Value} {M : Mm} {x y : Int32} (hd : decode mi.2.1 pc = .ok (.ixor, 1)) (kk : AW mi d X (pc + 1) L (.int (x ^^^ y) :: st) M) : AW mi d X pc L (.int y :: .int x :: st) M := by
  intro G p l e R s m args below meth c A cells slots Qf B hX H locs ls hP hD hS hl
  exact lv_ixor B.1 B.2.1 hd (kk G p l e R s m args below meth c A cells slots Qf B hX H locs ls hP hD hS hl)
theorem a_ishl {mi : MI} {d : Nat} {X : CX} {pc : Nat} {L : List (Nat × Option Value)} {st : List Value} {M : Mm} {x y : Int32} (hd : decode mi.2.1 pc = .ok (.ishl, 1)) (kk : AW mi d X (pc + 1) L (.int (x <<< (y &&& 31)) :: st) M) : AW mi d X pc L (.int y :: .int x :: st) M := by
  intro G p l e R s m args below meth c A cells slots Qf B hX H locs ls hP hD hS hl
  exact lv_ishl B.1 B.2.1 hd (kk G p l e R s m args below meth c A cells slots Qf B hX H locs ls hP hD hS hl)
theorem a_ishr {mi : MI} {d : Nat} {X : CX} {pc : Nat} {L : List (Nat × Option Value)} {st : List Value} {M : Mm} {x y : Int32} (hd : decode mi.2.1 pc = .ok (.ishr, 1)) (kk : AW mi d X (pc + 1) L (.int (x >>> (y &&& 31)) :: st) M) : AW mi d X pc L (.int y :: .int x :: st) M := by
  intro G p l e R s m args below meth c A cells slots Qf B hX H locs ls hP hD hS hl
  exact lv_ishr B.1 B.2.1 hd (kk G p l e R s m args below meth c A cells slots Qf B hX H locs ls hP hD hS hl)
theorem a_iushr {mi : MI} {d : Nat} {X : CX} {pc : Nat} {L : List (Nat × Option Value)} {st : List Value} {M : Mm} {x y : Int32} (hd : decode mi.2.1 pc = .ok (.iushr, 1)) (kk : AW mi d X (pc + 1) L (.int ((x.toUInt32 >>> (y.toUInt32 &&& Int32.toUInt32 31)).toInt32) :: st) M) : AW mi d X pc L (.int y :: .int x :: st) M := by
  intro G p l e R s m args below meth c A cells slots Qf B hX H locs ls hP hD hS hl
  exact lv_iushr B.1 B.2.1 hd rfl (kk G p l e R s m args below meth c A cells slots Qf B hX H locs ls hP hD hS hl)
theorem a_ladd {mi : MI} {d : Nat} {X : CX} {pc : Nat} {L : List (Nat × Option Value)} {st : List Value} {M : Mm} {x y : Int64} (hd : decode mi.2.1 pc = .ok (.ladd, 1)) (kk : AW mi d X (pc + 1) L (.long (x + y) :: st) M) : AW mi d X pc L (.long y :: .long x :: st) M := by
  intro G p l e R s m args below meth c A cells slots Qf B hX H locs ls hP hD hS hl
  exact lv_ladd B.1 B.2.1 hd (kk G p l e R s m args below meth c A cells slots Qf B hX H locs ls hP hD hS hl)
theorem a_lsub {mi : MI} {d : Nat} {X : CX} {pc : Nat} {L : List (Nat × Option Value)} {st : List Value} {M : Mm} {x y : Int64} (hd : decode mi.2.1 pc = .ok (.lsub, 1)) (kk : AW mi d X (pc + 1) L (.long (x - y) :: st) M) : AW mi d X pc L (.long y :: .long x :: st) M := by
  intro G p l e R s m args below meth c A cells slots Qf B hX H locs ls hP hD hS hl
  exact lv_lsub B.1 B.2.1 hd (kk G p l e R s m args below meth c A cells slots Qf B hX H locs ls hP hD hS hl)
theorem a_lmul {mi : MI} {d : Nat} {X : CX} {pc : Nat} {L : List (Nat × Option Value)} {st : List Value} {M : Mm} {x y : Int64} (hd : decode mi.2.1 pc = .ok (.lmul, 1)) (kk : AW mi d X (pc + 1) L (.long (x * y) :: st) M) : AW mi d X pc L (.long y :: .long x :: st) M := by
  intro G p l e R s m args below meth c A cells slots Qf B hX H locs ls hP hD hS hl
  exact lv_lmul B.1 B.2.1 hd (kk G p l e R s m args below meth c A cells slots Qf B hX H locs ls hP hD hS hl)
theorem a_land {mi : MI} {d : Nat} {X : CX} {pc : Nat} {L : List (Nat × Option Value)} {st : List Value} {M : Mm} {x y : Int64} (hd : decode mi.2.1 pc = .ok (.land, 1)) (kk : AW mi d X (pc + 1) L (.long (x &&& y) :: st) M) : AW mi d X pc L (.long y :: .long x :: st) M := by
  intro G p l e R s m args below meth c A cells slots Qf B hX H locs ls hP hD hS hl
  exact lv_land B.1 B.2.1 hd (kk G p l e R s m args below meth c A cells slots Qf B hX H locs ls hP hD hS hl)
theorem a_lor {mi : MI} {d : Nat} {X : CX} {pc : Nat} {L : List (Nat × Option Value)} {st : List Value} {M : Mm} {x y : Int64} (hd : decode mi.2.1 pc = .ok (.lor, 1)) (kk : AW mi d X (pc + 1) L (.long (x ||| y) :: st) M) : AW mi d X pc L (.long y :: .long x :: st) M := by
  intro G p l e R s m args below meth c A cells slots Qf B hX H locs ls hP hD hS hl
  exact lv_lor B.1 B.2.1 hd (kk G p l e R s m args below meth c A cells slots Qf B hX H locs ls hP hD hS hl)
theorem a_idiv {mi : MI} {d : Nat} {X : CX} {pc : Nat} {L : List (Nat × Option Value)} {st : List Value} {M : Mm} {x y : Int32} (hy : ¬ y = 0) (hd : decode mi.2.1 pc = .ok (.idiv, 1)) (kk : AW mi d X (pc + 1) L (.int (x / y) :: st) M) : AW mi d X pc L (.int y :: .int x :: st) M := by
  intro G p l e R s m args below meth c A cells slots Qf B hX H locs ls hP hD hS hl
  exact lv_idiv B.1 B.2.1 hd hy (kk G p l e R s m args below meth c A cells slots Qf B hX H locs ls hP hD hS hl)
theorem a_irem {mi : MI} {d : Nat} {X : CX} {pc : Nat} {L : List (Nat × Option Value)} {st : List Value} {M : Mm} {x y : Int32} (hy : ¬ y = 0) (hd : decode mi.2.1 pc = .ok (.irem, 1)) (kk : AW mi d X (pc + 1) L (.int (x - x / y * y) :: st) M) : AW mi d X pc L (.int y :: .int x :: st) M := by
  intro G p l e R s m args below meth c A cells slots Qf B hX H locs ls hP hD hS hl
  exact lv_irem B.1 B.2.1 hd hy (kk G p l e R s m args below meth c A cells slots Qf B hX H locs ls hP hD hS hl)
theorem a_ldiv {mi : MI} {d : Nat} {X : CX} {pc : Nat} {L : List (Nat × Option Value)} {st : List Value} {M : Mm} {x y : Int64} (hy : ¬ y = 0) (hd : decode mi.2.1 pc = .ok (.ldiv, 1)) (kk : AW mi d X (pc + 1) L (.long (x / y) :: st) M) : AW mi d X pc L (.long y :: .long x :: st) M := by
  intro G p l e R s m args below meth c A cells slots Qf B hX H locs ls hP hD hS hl
  exact lv_ldiv B.1 B.2.1 hd hy (kk G p l e R s m args below meth c A cells slots Qf B hX H locs ls hP hD hS hl)
theorem a_lrem {mi : MI} {d : Nat} {X : CX} {pc : Nat} {L : List (Nat × Option Value)} {st : List Value} {M : Mm} {x y : Int64} (hy : ¬ y = 0) (hd : decode mi.2.1 pc = .ok (.lrem, 1)) (kk : AW mi d X (pc + 1) L (.long (x - x / y * y) :: st) M) : AW mi d X pc L (.long y :: .long x :: st) M := by
  intro G p l e R s m args below meth c A cells slots Qf B hX H locs ls hP hD hS hl
  exact lv_lrem B.1 B.2.1 hd hy (kk G p l e R s m args below meth c A cells slots Qf B hX H locs ls hP hD hS hl)
theorem a_ineg {mi : MI} {d : Nat} {X : CX} {pc : Nat} {L : List (Nat × Option Value)} {st : List Value} {M : Mm} {x : Int32} (hd : decode mi.2.1 pc = .ok (.ineg, 1)) (kk : AW mi d X (pc + 1) L (.int (-x) :: st) M) : AW mi d X pc L (.int x :: st) M := by
  intro G p l e R s m args below meth c A cells slots Qf B hX H locs ls hP hD hS hl
  exact lv_ineg B.1 B.2.1 hd (kk G p l e R s m args below meth c A cells slots Qf B hX H locs ls hP hD hS hl)
theorem a_lneg {mi : MI} {d : Nat} {X : CX} {pc : Nat} {L : List (Nat × Option Value)} {st : List Value} {M : Mm} {x : Int64} (hd : decode mi.2.1 pc = .ok (.lneg, 1)) (kk : AW mi d X (pc + 1) L (.long (-x) :: st) M) : AW mi d X pc L (.long x :: st) M := by
  intro G p l e R s m args below meth c A cells slots Qf B hX H locs ls hP hD hS hl
  exact lv_lneg B.1 B.2.1 hd (kk G p l e R s m args below meth c A cells slots Qf B hX H locs ls hP hD hS hl)
theorem a_i2l {mi : MI} {d : Nat} {X : CX} {pc : Nat} {L : List (Nat × Option Value)} {st : List Value} {M : Mm} {x : Int32} (hd : decode mi.2.1 pc = .ok (.i2l, 1)) (kk : AW mi d X (pc + 1) L (.long x.toInt64 :: st) M) : AW mi d X pc L (.int x :: st) M := by
  intro G p l e R s m args below meth c A cells slots Qf B hX H locs ls hP hD hS hl
  exact lv_i2l B.1 B.2.1 hd rfl (kk G p l e R s m args below meth c A cells slots Qf B hX H locs ls hP hD hS hl)
theorem a_l2i {mi : MI} {d : Nat} {X : CX} {pc : Nat} {L : List (Nat × Option Value)} {st : List Value} {M : Mm} {x : Int64} (hd : decode mi.2.1 pc = .ok (.l2i, 1)) (kk : AW mi d X (pc + 1) L (.int x.toInt32 :: st) M) : AW mi d X pc L (.long x :: st) M := by
  intro G p l e R s m args below meth c A cells slots Qf B hX H locs ls hP hD hS hl
  exact lv_l2i B.1 B.2.1 hd rfl (kk G p l e R s m args below meth c A cells slots Qf B hX H locs ls hP hD hS hl)
theorem a_i2b {mi : MI} {d : Nat} {X : CX} {pc : Nat} {L : List (Nat × Option Value)} {st : List Value} {M : Mm} {x : Int32} (hd : decode mi.2.1 pc = .ok (.i2b, 1)) (kk : AW mi d X (pc + 1) L (.int x.toInt8.toInt32 :: st) M) : AW mi d X pc L (.int x :: st) M := by
  intro G p l e R s m args below meth c A cells slots Qf B hX H locs ls hP hD hS hl
  exact lv_i2b B.1 B.2.1 hd rfl (kk G p l e R s m args below meth c A cells slots Qf B hX H locs ls hP hD hS hl)
theorem a_i2s {mi : MI} {d : Nat} {X : CX} {pc : Nat} {L : List (Nat × Option Value)} {st : List Value} {M : Mm} {x : Int32} (hd : decode mi.2.1 pc = .ok (.i2s, 1)) (kk : AW mi d X (pc + 1) L (.int x.toInt16.toInt32 :: st) M) : AW mi d X pc L (.int x :: st) M := by
  intro G p l e R s m args below meth c A cells slots Qf B hX H locs ls hP hD hS hl
  exact lv_i2s B.1 B.2.1 hd rfl (kk G p l e R s m args below meth c A cells slots Qf B hX H locs ls hP hD hS hl)
theorem a_lshl {mi : MI} {d : Nat} {X : CX} {pc : Nat} {L : List (Nat × Option Value)} {st : List Value} {M : Mm} {x : Int64} {y : Int32} (hd : decode mi.2.1 pc = .ok (.lshl, 1)) (kk : AW mi d X (pc + 1) L (.long (x <<< (y.toInt64 &&& 63)) :: st) M) : AW mi d X pc L (.int y :: .long x :: st) M := by
  intro G p l e R s m args below meth c A cells slots Qf B hX H locs ls hP hD hS hl
  exact lv_lshl B.1 B.2.1 hd rfl (kk G p l e R s m args below meth c A cells slots Qf B hX H locs ls hP hD hS hl)
theorem a_lcmp {mi : MI} {d : Nat} {X : CX} {pc : Nat} {L : List (Nat × Option Value)} {st : List Value} {M : Mm} {x y : Int64} (hd : decode mi.2.1 pc = .ok (.lcmp, 1)) (kk : AW mi d X (pc + 1) L (.int (lg_cmp x y) :: st) M) : AW mi d X pc L (.long y :: .long x :: st) M := by
  intro G p l e R s m args below meth c A cells slots Qf B hX H locs ls hP hD hS hl
  exact W.lcmp B.1 B.2.1 hd (kk G p l e R s m args below meth c A cells slots Qf B hX H locs ls hP hD hS hl)
theorem a_iconst {mi : MI} {d : Nat} {X : CX} {pc : Nat} {L : List (Nat × Option Value)} {st : List Value} {M : Mm} {n : Int} (v : Int32) (hv : Int32.ofInt n = v) (hd : decode mi.2.1 pc = .ok (.iconst n, 1)) (kk : AW mi d X (pc + 1) L (.int v :: st) M) : AW mi d X pc L (st) M := by
  intro G p l e R s m args below meth c A cells slots Qf B hX H locs ls hP hD hS hl
  exact lv_iconst B.1 B.2.1 hd hv (kk G p l e R s m args below meth c A cells slots Qf B hX H locs ls hP hD hS hl)
theorem a_bipush {mi : MI} {d : Nat} {X : CX} {pc : Nat} {L : List (Nat × Option Value)} {st : List Value} {M : Mm} {n : Int} (v : Int32) (hv : (Int8.ofInt n).toInt32 = v) (hd : decode mi.2.1 pc = .ok (.bipush n, 2)) (kk : AW mi d X (pc + 2) L (.int v :: st) M) : AW mi d X pc L (st) M := by
  intro G p l e R s m args below meth c A cells slots Qf B hX H locs ls hP hD hS hl
  exact lv_bipush B.1 B.2.1 hd hv (kk G p l e R s m args below meth c A cells slots Qf B hX H locs ls hP hD hS hl)
theorem a_sipush {mi : MI} {d : Nat} {X : CX} {pc : Nat} {L : List (Nat × Option Value)} {st : List Value} {M : Mm} {n : Int} (v : Int32) (hv : (Int16.ofInt n).toInt32 = v) (hd : decode mi.2.1 pc = .ok (.sipush n, 3)) (kk : AW mi d X (pc + 3) L (.int v :: st) M) : AW mi d X pc L (st) M := by
  intro G p l e R s m args below meth c A cells slots Qf B hX H locs ls hP hD hS hl
  exact lv_sipush B.1 B.2.1 hd hv (kk G p l e R s m args below meth c A cells slots Qf B hX H locs ls hP hD hS hl)
theorem a_lconst {mi : MI} {d : Nat} {X : CX} {pc : Nat} {L : List (Nat × Option Value)} {st : List Value} {M : Mm} {n : Fin 2} (v : Int64) (hv : Int64.ofNat (n : Nat) = v) (hd : decode mi.2.1 pc = .ok (.lconst n, 1)) (kk : AW mi d X (pc + 1) L (.long v :: st) M) : AW mi d X pc L (st) M := by
  intro G p l e R s m args below meth c A cells slots Qf B hX H locs ls hP hD hS hl
  exact lv_lconst B.1 B.2.1 hd hv (kk G p l e R s m args below meth c A cells slots Qf B hX H locs ls hP hD hS hl)
theorem a_ldc {mi : MI} {d : Nat} {X : CX} {pc : Nat} {L : List (Nat × Option Value)} {st : List Value} {M : Mm} {i : Nat} {v : Int32} (hw : Cond.constant mi.1.cls i v ∈ TB) (hd : decode mi.2.1 pc = .ok (.ldc i, 2)) (kk : AW mi d X (pc + 2) L (.int v :: st) M) : AW mi d X pc L (st) M := by
  intro G p l e R s m args below meth c A cells slots Qf B hX H locs ls hP hD hS hl
  exact lv_ldc B.1 B.2.1 B.2.2.2.2.1 (B.2.2.2.2.2.1 _ hw) hd (kk G p l e R s m args below meth c A cells slots Qf B hX H locs ls hP hD hS hl)
theorem a_ldcw {mi : MI} {d : Nat} {X : CX} {pc : Nat} {L : List (Nat × Option Value)} {st : List Value} {M : Mm} {i : Nat} {v : Int32} (hw : Cond.constant mi.1.cls i v ∈ TB) (hd : decode mi.2.1 pc = .ok (.ldc_w i, 3)) (kk : AW mi d X (pc + 3) L (.int v :: st) M) : AW mi d X pc L (st) M := by
  intro G p l e R s m args below meth c A cells slots Qf B hX H locs ls hP hD hS hl
  exact lv_ldcw B.1 B.2.1 B.2.2.2.2.1 (B.2.2.2.2.2.1 _ hw) hd (kk G p l e R s m args below meth c A cells slots Qf B hX H locs ls hP hD hS hl)
theorem a_ldc2 {mi : MI} {d : Nat} {X : CX} {pc : Nat} {L : List (Nat × Option Value)} {st : List Value} {M : Mm} {i : Nat} {v : Int64} (hw : Cond.constantLong mi.1.cls i v ∈ TB) (hd : decode mi.2.1 pc = .ok (.ldc2_w i, 3)) (kk : AW mi d X (pc + 3) L (.long v :: st) M) : AW mi d X pc L (st) M := by
  intro G p l e R s m args below meth c A cells slots Qf B hX H locs ls hP hD hS hl
  exact lv_ldc2 B.1 B.2.1 B.2.2.2.2.1 (B.2.2.2.2.2.1 _ hw) hd (kk G p l e R s m args below meth c A cells slots Qf B hX H locs ls hP hD hS hl)
theorem a_dup {mi : MI} {d : Nat} {X : CX} {pc : Nat} {L : List (Nat × Option Value)} {st : List Value} {M : Mm} {v : Value} (hv : v.category = 1) (hd : decode mi.2.1 pc = .ok (.dup, 1)) (kk : AW mi d X (pc + 1) L (v :: v :: st) M) : AW mi d X pc L (v :: st) M := by
  intro G p l e R s m args below meth c A cells slots Qf B hX H locs ls hP hD hS hl
  exact lv_dup B.1 B.2.1 hd (by rw [vmA_cat]; exact hv) (kk G p l e R s m args below meth c A cells slots Qf B hX H locs ls hP hD hS hl)
theorem a_pop {mi : MI} {d : Nat} {X : CX} {pc : Nat} {L : List (Nat × Option Value)} {st : List Value} {M : Mm} {v : Value} (hv : v.category = 1) (hd : decode mi.2.1 pc = .ok (.pop, 1)) (kk : AW mi d X (pc + 1) L (st) M) : AW mi d X pc L (v :: st) M := by
  intro G p l e R s m args below meth c A cells slots Qf B hX H locs ls hP hD hS hl
  exact lv_pop B.1 B.2.1 hd (by rw [vmA_cat]; exact hv) (kk G p l e R s m args below meth c A cells slots Qf B hX H locs ls hP hD hS hl)
theorem a_dup2i {mi : MI} {d : Nat} {X : CX} {pc : Nat} {L : List (Nat × Option Value)} {st : List Value} {M : Mm} {u v : Value} (hu : u.category = 1) (hv : v.category = 1) (hd : decode mi.2.1 pc = .ok (.dup2, 1)) (kk : AW mi d X (pc + 1) L (u :: v :: u :: v :: st) M) : AW mi d X pc L (u :: v :: st) M := by
  intro G p l e R s m args below meth c A cells slots Qf B hX H locs ls hP hD hS hl
  exact lv_dup2_11 B.1 B.2.1 hd (by rw [vmA_cat]; exact hu) (by rw [vmA_cat]; exact hv) (kk G p l e R s m args below meth c A cells slots Qf B hX H locs ls hP hD hS hl)
theorem a_dup2l {mi : MI} {d : Nat} {X : CX} {pc : Nat} {L : List (Nat × Option Value)} {st : List Value} {M : Mm} {v : Value} (hv : v.category = 2) (hd : decode mi.2.1 pc = .ok (.dup2, 1)) (kk : AW mi d X (pc + 1) L (v :: v :: st) M) : AW mi d X pc L (v :: st) M := by
  intro G p l e R s m args below meth c A cells slots Qf B hX H locs ls hP hD hS hl
  exact lv_dup2_2 B.1 B.2.1 hd (by rw [vmA_cat]; exact hv) (kk G p l e R s m args below meth c A cells slots Qf B hX H locs ls hP hD hS hl)
theorem a_iload_n {mi : MI} {d : Nat} {X : CX} {pc : Nat} {L : List (Nat × Option Value)} {st : List Value} {M : Mm} {k : Fin 4} {x : Int32} (hv : lkA L (k : Nat) = some (.int x)) (hd : decode mi.2.1 pc = .ok (.iload_n k, 1)) (kk : AW mi d X (pc + 1) L (.int x :: st) M) : AW mi d X pc L (st) M := by
  intro G p l e R s m args below meth c A cells slots Qf B hX H locs ls hP hD hS hl
  exact lv_iload_n B.1 B.2.1 hd rfl (hl.2.2 _ _ hv) (kk G p l e R s m args below meth c A cells slots Qf B hX H locs ls hP hD hS hl)
theorem a_iload {mi : MI} {d : Nat} {X : CX} {pc : Nat} {L : List (Nat × Option Value)} {st : List Value} {M : Mm} {k : Nat} {x : Int32} (hv : lkA L k = some (.int x)) (hd : decode mi.2.1 pc = .ok (.iload k, 2)) (kk : AW mi d X (pc + 2) L (.int x :: st) M) : AW mi d X pc L (st) M := by
  intro G p l e R s m args below meth c A cells slots Qf B hX H locs ls hP hD hS hl
  exact lv_iload B.1 B.2.1 hd (hl.2.2 _ _ hv) (kk G p l e R s m args below meth c A cells slots Qf B hX H locs ls hP hD hS hl)
theorem a_istore_n {mi : MI} {d : Nat} {X : CX} {pc : Nat} {L : List (Nat × Option Value)} {st : List Value} {M : Mm} {k : Fin 4} {x : Int32} (hn : (k : Nat) < mi.2.2.1) (hk : nlA L (k : Nat) = true) (hd : decode mi.2.1 pc = .ok (.istore_n k, 1)) (kk : AW mi d X (pc + 1) (((k : Nat), some (.int x)) :: L) (st) M) : AW mi d X pc L (.int x :: st) M := by
  intro G p l e R s m args below meth c A cells slots Qf B hX H locs ls hP hD hS hl
  exact lv_istore_n B.1 B.2.1 hd rfl hl.list hn rfl (fun ls' hl' => kk G p l e R s m args below meth c A cells slots Qf B hX H locs ls' hP hD hS (hasL.st1 (v := (Value.int x)) hl hk hl'))
theorem a_istore {mi : MI} {d : Nat} {X : CX} {pc : Nat} {L : List (Nat × Option Value)} {st : List Value} {M : Mm} {k : Nat} {x : Int32} (hn : k < mi.2.2.1) (hk : nlA L k = true) (hd : decode mi.2.1 pc = .ok (.istore k, 2)) (kk : AW mi d X (pc + 2) ((k, some (.int x)) :: L) (st) M) : AW mi d X pc L (.int x :: st) M := by
  intro G p l e R s m args below meth c A cells slots Qf B hX H locs ls hP hD hS hl
  exact lv_istore B.1 B.2.1 hd hl.list hn rfl (fun ls' hl' => kk G p l e R s m args below meth c A cells slots Qf B hX H locs ls' hP hD hS (hasL.st1 (v := (Value.int x)) hl hk hl'))
theorem a_lload_n {mi : MI} {d : Nat} {X : CX} {pc : Nat} {L : List (Nat × Option Value)} {st : List Value} {M : Mm} {k : Fin 4} {x : Int64} (hv : lkA L (k : Nat) = some (.long x)) (hd : decode mi.2.1 pc = .ok (.lload_n k, 1)) (kk : AW mi d X (pc + 1) L (.long x :: st) M) : AW mi d X pc L (st) M := by
  intro G p l e R s m args below meth c A cells slots Qf B hX H locs ls hP hD hS hl
  exact lv_lload_n B.1 B.2.1 hd rfl (hl.2.2 _ _ hv) (kk G p l e R s m args below meth c A cells slots Qf B hX H locs ls hP hD hS hl)
theorem a_lload {mi : MI} {d : Nat} {X : CX} {pc : Nat} {L : List (Nat × Option Value)} {st : List Value} {M : Mm} {k : Nat} {x : Int64} (hv : lkA L k = some (.long x)) (hd : decode mi.2.1 pc = .ok (.lload k, 2)) (kk : AW mi d X (pc + 2) L (.long x :: st) M) : AW mi d X pc L (st) M := by
  intro G p l e R s m args below meth c A cells slots Qf B hX H locs ls hP hD hS hl
  exact lv_lload B.1 B.2.1 hd (hl.2.2 _ _ hv) (kk G p l e R s m args below meth c A cells slots Qf B hX H locs ls hP hD hS hl)
theorem a_lstore_n {mi : MI} {d : Nat} {X : CX} {pc : Nat} {L : List (Nat × Option Value)} {st : List Value} {M : Mm} {k : Fin 4} {x : Int64} (hn : (k : Nat) + 1 < mi.2.2.1) (hk : nlA L (k : Nat) = true) (hd : decode mi.2.1 pc = .ok (.lstore_n k, 1)) (kk : AW mi d X (pc + 1) (((k : Nat), some (.long x)) :: ((k : Nat) + 1, none) :: L) (st) M) : AW mi d X pc L (.long x :: st) M := by
  intro G p l e R s m args below meth c A cells slots Qf B hX H locs ls hP hD hS hl
  exact lv_lstore_n B.1 B.2.1 hd rfl hl.list hn rfl (fun ls' hl' => kk G p l e R s m args below meth c A cells slots Qf B hX H locs ls' hP hD hS (hasL.st2 (v := (Value.long x)) hl hk hl'))
theorem a_lstore {mi : MI} {d : Nat} {X : CX} {pc : Nat} {L : List (Nat × Option Value)} {st : List Value} {M : Mm} {k : Nat} {x : Int64} (hn : k + 1 < mi.2.2.1) (hk : nlA L k = true) (hd : decode mi.2.1 pc = .ok (.lstore k, 2)) (kk : AW mi d X (pc + 2) ((k, some (.long x)) :: (k + 1, none) :: L) (st) M) : AW mi d X pc L (.long x :: st) M := by
  intro G p l e R s m args below meth c A cells slots Qf B hX H locs ls hP hD hS hl
  exact lv_lstore B.1 B.2.1 hd hl.list hn rfl (fun ls' hl' => kk G p l e R s m args below meth c A cells slots Qf B hX H locs ls' hP hD hS (hasL.st2 (v := (Value.long x)) hl hk hl'))
theorem a_aload_n {mi : MI} {d : Nat} {X : CX} {pc : Nat} {L : List (Nat × Option Value)} {st : List Value} {M : Mm} {k : Fin 4} {x : Nat} (hv : lkA L (k : Nat) = some (.ref x)) (hd : decode mi.2.1 pc = .ok (.aload_n k, 1)) (kk : AW mi d X (pc + 1) L (.ref x :: st) M) : AW mi d X pc L (st) M := by
  intro G p l e R s m args below meth c A cells slots Qf B hX H locs ls hP hD hS hl
  exact lv_aload_n B.1 B.2.1 hd rfl (hl.2.2 _ _ hv) (kk G p l e R s m args below meth c A cells slots Qf B hX H locs ls hP hD hS hl)
theorem a_aload {mi : MI} {d : Nat} {X : CX} {pc : Nat} {L : List (Nat × Option Value)} {st : List Value} {M : Mm} {k : Nat} {x : Nat} (hv : lkA L k = some (.ref x)) (hd : decode mi.2.1 pc = .ok (.aload k, 2)) (kk : AW mi d X (pc + 2) L (.ref x :: st) M) : AW mi d X pc L (st) M := by
  intro G p l e R s m args below meth c A cells slots Qf B hX H locs ls hP hD hS hl
  exact lv_aload B.1 B.2.1 hd (hl.2.2 _ _ hv) (kk G p l e R s m args below meth c A cells slots Qf B hX H locs ls hP hD hS hl)
theorem a_astore_n {mi : MI} {d : Nat} {X : CX} {pc : Nat} {L : List (Nat × Option Value)} {st : List Value} {M : Mm} {k : Fin 4} {x : Nat} (hn : (k : Nat) < mi.2.2.1) (hk : nlA L (k : Nat) = true) (hd : decode mi.2.1 pc = .ok (.astore_n k, 1)) (kk : AW mi d X (pc + 1) (((k : Nat), some (.ref x)) :: L) (st) M) : AW mi d X pc L (.ref x :: st) M := by
  intro G p l e R s m args below meth c A cells slots Qf B hX H locs ls hP hD hS hl
  exact lv_astore_n B.1 B.2.1 hd rfl hl.list hn rfl (fun ls' hl' => kk G p l e R s m args below meth c A cells slots Qf B hX H locs ls' hP hD hS (hasL.st1 (v := (Value.ref x)) hl hk hl'))
theorem a_astore {mi : MI} {d : Nat} {X : CX} {pc : Nat} {L : List (Nat × Option Value)} {st : List Value} {M : Mm} {k : Nat} {x : Nat} (hn : k < mi.2.2.1) (hk : nlA L k = true) (hd : decode mi.2.1 pc = .ok (.astore k, 2)) (kk : AW mi d X (pc + 2) ((k, some (.ref x)) :: L) (st) M) : AW mi d X pc L (.ref x :: st) M := by
  intro G p l e R s m args below meth c A cells slots Qf B hX H locs ls hP hD hS hl
  exact lv_astore B.1 B.2.1 hd hl.list hn rfl (fun ls' hl' => kk G p l e R s m args below meth c A cells slots Qf B hX H locs ls' hP hD hS (hasL.st1 (v := (Value.ref x)) hl hk hl'))
theorem a_iinc {mi : MI} {d : Nat} {X : CX} {pc : Nat} {L : List (Nat × Option Value)} {st : List Value} {M : Mm} {k : Nat} {n : Int} {x : Int32} (hv : lkA L k = some (.int x)) (hn : k < mi.2.2.1) (hk : nlA L k = true) (hd : decode mi.2.1 pc = .ok (.iinc k n, 3)) (kk : AW mi d X (pc + 3) ((k, some (.int (x + Int32.ofInt n))) :: L) (st) M) : AW mi d X pc L (st) M := by
  intro G p l e R s m args below meth c A cells slots Qf B hX H locs ls hP hD hS hl
  have hl1 : lv_has ls mi.2.2.1 ((k, .int x) :: lisL G.2.2 mi.2.2.1 L) := ⟨hl.1, hl.2.1, fun q hq => by
    rcases List.mem_cons.mp hq with rfl | hq
    · exact hl.2.2 k (.int x) hv
    · exact hl.list.2.2 q hq⟩
  refine lv_iinc B.1 B.2.1 hd hl1 (k := 0) rfl rfl hn rfl (fun ls' hl' => kk G p l e R s m args below meth c A cells slots Qf B hX H locs ls' hP hD hS (hasL.st1 (v := .int (x + Int32.ofInt n)) hl hk ?_))
  simpa [vmA] using hl'
theorem a_kill {mi : MI} {d : Nat} {X : CX} {pc : Nat} {L : List (Nat × Option Value)} {st : List Value} {M : Mm} (i : Nat) (kk : AW mi d X pc ((i, none) :: L) st M) : AW mi d X pc L st M := by
  intro G p l e R s m args below meth c A cells slots Qf B hX H locs ls hP hD hS hl
  refine kk G p l e R s m args below meth c A cells slots Qf B hX H locs ls hP hD hS ⟨hl.1, hl.2.1, fun j v h => ?_⟩
  rw [lkA_cons] at h
  by_cases e : i = j
  · rw [if_pos e] at h; cases h
  · rw [if_neg e] at h; exact hl.2.2 j v h
theorem a_sub {mi : MI} {d : Nat} {X : CX} {pc : Nat} {L : List (Nat × Option Value)} {st : List Value} {M : Mm} {L' : List (Nat × Option Value)} (hs : subL L L') (kk : AW mi d X pc L' st M) : AW mi d X pc L st M := by
  intro G p l e R s m args below meth c A cells slots Qf B hX H locs ls hP hD hS hl
  exact kk G p l e R s m args below meth c A cells slots Qf B hX H locs ls hP hD hS ⟨hl.1, hl.2.1, fun j v h => hl.2.2 j v (subL_use hs j v h)⟩
theorem a_if_ne {mi : MI} {d : Nat} {X : CX} {pc : Nat} {L : List (Nat × Option Value)} {st : List Value} {M : Mm} {x : Int32} {off : Int} (tgt : Nat) (hd : decode mi.2.1 pc = .ok (.ifCond .ne off, 3)) (ht : (pc : Int) + off = (tgt : Int)) (k1 : ¬ x = 0 → AW mi d X tgt L st M) (k2 : x = 0 → AW mi d X (pc + 3) L st M) : AW mi d X pc L (.int x :: st) M := by
  intro G p l e R s m args below meth c A cells slots Qf B hX H locs ls hP hD hS hl
  exact lv_if_ne B.1 B.2.1 hd ht (fun h => k1 h G p l e R s m args below meth c A cells slots Qf B hX H locs ls hP hD hS hl) (fun h => k2 h G p l e R s m args below meth c A cells slots Qf B hX H locs ls hP hD hS hl)
theorem a_icmp_ne {mi : MI} {d : Nat} {X : CX} {pc : Nat} {L : List (Nat × Option Value)} {st : List Value} {M : Mm} {x y : Int32} {off : Int} (tgt : Nat) (hd : decode mi.2.1 pc = .ok (.if_icmp .ne off, 3)) (ht : (pc : Int) + off = (tgt : Int)) (k1 : ¬ x = y → AW mi d X tgt L st M) (k2 : x = y → AW mi d X (pc + 3) L st M) : AW mi d X pc L (.int y :: .int x :: st) M := by
  intro G p l e R s m args below meth c A cells slots Qf B hX H locs ls hP hD hS hl
  exact lv_icmp_ne B.1 B.2.1 hd ht (fun h => k1 h G p l e R s m args below meth c A cells slots Qf B hX H locs ls hP hD hS hl) (fun h => k2 h G p l e R s m args below meth c A cells slots Qf B hX H locs ls hP hD hS hl)
theorem a_if_eq {mi : MI} {d : Nat} {X : CX} {pc : Nat} {L : List (Nat × Option Value)} {st : List Value} {M : Mm} {x : Int32} {off : Int} (tgt : Nat) (hd : decode mi.2.1 pc = .ok (.ifCond .eq off, 3)) (ht : (pc : Int) + off = (tgt : Int)) (k1 : x = 0 → AW mi d X tgt L st M) (k2 : ¬ x = 0 → AW mi d X (pc + 3) L st M) : AW mi d X pc L (.int x :: st) M := by
  intro G p l e R s m args below meth c A cells slots Qf B hX H locs ls hP hD hS hl
  exact lv_if_eq B.1 B.2.1 hd ht (fun h => k1 h G p l e R s m args below meth c A cells slots Qf B hX H locs ls hP hD hS hl) (fun h => k2 h G p l e R s m args below meth c A cells slots Qf B hX H locs ls hP hD hS hl)
theorem a_icmp_eq {mi : MI} {d : Nat} {X : CX} {pc : Nat} {L : List (Nat × Option Value)} {st : List Value} {M : Mm} {x y : Int32} {off : Int} (tgt : Nat) (hd : decode mi.2.1 pc = .ok (.if_icmp .eq off, 3)) (ht : (pc : Int) + off = (tgt : Int)) (k1 : x = y → AW mi d X tgt L st M) (k2 : ¬ x = y → AW mi d X (pc + 3) L st M) : AW mi d X pc L (.int y :: .int x :: st) M := by
  intro G p l e R s m args below meth c A cells slots Qf B hX H locs ls hP hD hS hl
  exact lv_icmp_eq B.1 B.2.1 hd ht (fun h => k1 h G p l e R s m args below meth c A cells slots Qf B hX H locs ls hP hD hS hl) (fun h => k2 h G p l e R s m args below meth c A cells slots Qf B hX H locs ls hP hD hS hl)
theorem a_if_lt {mi : MI} {d : Nat} {X : CX} {pc : Nat} {L : List (Nat × Option Value)} {st : List Value} {M : Mm} {x : Int32} {off : Int} (tgt : Nat) (hd : decode mi.2.1 pc = .ok (.ifCond .lt off, 3)) (ht : (pc : Int) + off = (tgt : Int)) (k1 : x < 0 → AW mi d X tgt L st M) (k2 : ¬ x < 0 → AW mi d X (pc + 3) L st M) : AW mi d X pc L (.int x :: st) M := by
  intro G p l e R s m args below meth c A cells slots Qf B hX H locs ls hP hD hS hl
  exact lv_if_lt B.1 B.2.1 hd ht (fun h => k1 h G p l e R s m args below meth c A cells slots Qf B hX H locs ls hP hD hS hl) (fun h => k2 h G p l e R s m args below meth c A cells slots Qf B hX H locs ls hP hD hS hl)
theorem a_icmp_lt {mi : MI} {d : Nat} {X : CX} {pc : Nat} {L : List (Nat × Option Value)} {st : List Value} {M : Mm} {x y : Int32} {off : Int} (tgt : Nat) (hd : decode mi.2.1 pc = .ok (.if_icmp .lt off, 3)) (ht : (pc : Int) + off = (tgt : Int)) (k1 : x < y → AW mi d X tgt L st M) (k2 : ¬ x < y → AW mi d X (pc + 3) L st M) : AW mi d X pc L (.int y :: .int x :: st) M := by
  intro G p l e R s m args below meth c A cells slots Qf B hX H locs ls hP hD hS hl
  exact lv_icmp_lt B.1 B.2.1 hd ht (fun h => k1 h G p l e R s m args below meth c A cells slots Qf B hX H locs ls hP hD hS hl) (fun h => k2 h G p l e R s m args below meth c A cells slots Qf B hX H locs ls hP hD hS hl)
theorem a_if_ge {mi : MI} {d : Nat} {X : CX} {pc : Nat} {L : List (Nat × Option Value)} {st : List Value} {M : Mm} {x : Int32} {off : Int} (tgt : Nat) (hd : decode mi.2.1 pc = .ok (.ifCond .ge off, 3)) (ht : (pc : Int) + off = (tgt : Int)) (k1 : 0 ≤ x → AW mi d X tgt L st M) (k2 : ¬ 0 ≤ x → AW mi d X (pc + 3) L st M) : AW mi d X pc L (.int x :: st) M := by
  intro G p l e R s m args below meth c A cells slots Qf B hX H locs ls hP hD hS hl
  exact lv_if_ge B.1 B.2.1 hd ht (fun h => k1 h G p l e R s m args below meth c A cells slots Qf B hX H locs ls hP hD hS hl) (fun h => k2 h G p l e R s m args below meth c A cells slots Qf B hX H locs ls hP hD hS hl)
theorem a_icmp_ge {mi : MI} {d : Nat} {X : CX} {pc : Nat} {L : List (Nat × Option Value)} {st : List Value} {M : Mm} {x y : Int32} {off : Int} (tgt : Nat) (hd : decode mi.2.1 pc = .ok (.if_icmp .ge off, 3)) (ht : (pc : Int) + off = (tgt : Int)) (k1 : y ≤ x → AW mi d X tgt L st M) (k2 : ¬ y ≤ x → AW mi d X (pc + 3) L st M) : AW mi d X pc L (.int y :: .int x :: st) M := by
  intro G p l e R s m args below meth c A cells slots Qf B hX H locs ls hP hD hS hl
  exact lv_icmp_ge B.1 B.2.1 hd ht (fun h => k1 h G p l e R s m args below meth c A cells slots Qf B hX H locs ls hP hD hS hl) (fun h => k2 h G p l e R s m args below meth c A cells slots Qf B hX H locs ls hP hD hS hl)
theorem a_if_gt {mi : MI} {d : Nat} {X : CX} {pc : Nat} {L : List (Nat × Option Value)} {st : List Value} {M : Mm} {x : Int32} {off : Int} (tgt : Nat) (hd : decode mi.2.1 pc = .ok (.ifCond .gt off, 3)) (ht : (pc : Int) + off = (tgt : Int)) (k1 : 0 < x → AW mi d X tgt L st M) (k2 : ¬ 0 < x → AW mi d X (pc + 3) L st M) : AW mi d X pc L (.int x :: st) M := by
  intro G p l e R s m args below meth c A cells slots Qf B hX H locs ls hP hD hS hl
  exact lv_if_gt B.1 B.2.1 hd ht (fun h => k1 h G p l e R s m args below meth c A cells slots Qf B hX H locs ls hP hD hS hl) (fun h => k2 h G p l e R s m args below meth c A cells slots Qf B hX H locs ls hP hD hS hl)
theorem a_icmp_gt {mi : MI} {d : Nat} {X : CX} {pc : Nat} {L : List (Nat × Option Value)} {st : List Value} {M : Mm} {x y : Int32} {off : Int} (tgt : Nat) (hd : decode mi.2.1 pc = .ok (.if_icmp .gt off, 3)) (ht : (pc : Int) + off = (tgt : Int)) (k1 : y < x → AW mi d X tgt L st M) (k2 : ¬ y < x → AW mi d X (pc + 3) L st M) : AW mi d X pc L (.int y :: .int x :: st) M := by
  intro G p l e R s m args below meth c A cells slots Qf B hX H locs ls hP hD hS hl
  exact lv_icmp_gt B.1 B.2.1 hd ht (fun h => k1 h G p l e R s m args below meth c A cells slots Qf B hX H locs ls hP hD hS hl) (fun h => k2 h G p l e R s m args below meth c A cells slots Qf B hX H locs ls hP hD hS hl)
theorem a_if_le {mi : MI} {d : Nat} {X : CX} {pc : Nat} {L : List (Nat × Option Value)} {st : List Value} {M : Mm} {x : Int32} {off : Int} (tgt : Nat) (hd : decode mi.2.1 pc = .ok (.ifCond .le off, 3)) (ht : (pc : Int) + off = (tgt : Int)) (k1 : x ≤ 0 → AW mi d X tgt L st M) (k2 : ¬ x ≤ 0 → AW mi d X (pc + 3) L st M) : AW mi d X pc L (.int x :: st) M := by
  intro G p l e R s m args below meth c A cells slots Qf B hX H locs ls hP hD hS hl
  exact lv_if_le B.1 B.2.1 hd ht (fun h => k1 h G p l e R s m args below meth c A cells slots Qf B hX H locs ls hP hD hS hl) (fun h => k2 h G p l e R s m args below meth c A cells slots Qf B hX H locs ls hP hD hS hl)
theorem a_icmp_le {mi : MI} {d : Nat} {X : CX} {pc : Nat} {L : List (Nat × Option Value)} {st : List Value} {M : Mm} {x y : Int32} {off : Int} (tgt : Nat) (hd : decode mi.2.1 pc = .ok (.if_icmp .le off, 3)) (ht : (pc : Int) + off = (tgt : Int)) (k1 : x ≤ y → AW mi d X tgt L st M) (k2 : ¬ x ≤ y → AW mi d X (pc + 3) L st M) : AW mi d X pc L (.int y :: .int x :: st) M := by
  intro G p l e R s m args below meth c A cells slots Qf B hX H locs ls hP hD hS hl
  exact lv_icmp_le B.1 B.2.1 hd ht (fun h => k1 h G p l e R s m args below meth c A cells slots Qf B hX H locs ls hP hD hS hl) (fun h => k2 h G p l e R s m args below meth c A cells slots Qf B hX H locs ls hP hD hS hl)
theorem a_goto {mi : MI} {d : Nat} {X : CX} {pc : Nat} {L : List (Nat × Option Value)} {st : List Value} {M : Mm} {off : Int} (tgt : Nat) (hd : decode mi.2.1 pc = .ok (.goto off, 3)) (ht : (pc : Int) + off = (tgt : Int)) (kk : AW mi d X tgt L st M) : AW mi d X pc L st M := by
  intro G p l e R s m args below meth c A cells slots Qf B hX H locs ls hP hD hS hl
  exact lv_goto B.1 B.2.1 hd ht (kk G p l e R s m args below meth c A cells slots Qf B hX H locs ls hP hD hS hl)
theorem a_tabIn {mi : MI} {d : Nat} {X : CX} {pc : Nat} {L : List (Nat × Option Value)} {st : List Value} {M : Mm} {dflt lo hi : Int} {offs : Array Int} {len : Nat} {x : Int32} {off : Int} (tgt : Nat) (hd : decode mi.2.1 pc = .ok (.tableswitch dflt lo hi offs, len)) (h1 : ¬ x.toInt < lo) (h2 : ¬ hi < x.toInt) (ho : offs[(x.toInt - lo).toNat]? = some off) (ht : (pc : Int) + off = (tgt : Int)) (kk : AW mi d X tgt L st M) : AW mi d X pc L (.int x :: st) M := by
  intro G p l e R s m args below meth c A cells slots Qf B hX H locs ls hP hD hS hl
  exact lv_tableIn B.1 B.2.1 hd h1 h2 ho ht (kk G p l e R s m args below meth c A cells slots Qf B hX H locs ls hP hD hS hl)
theorem a_tabOut {mi : MI} {d : Nat} {X : CX} {pc : Nat} {L : List (Nat × Option Value)} {st : List Value} {M : Mm} {dflt lo hi : Int} {offs : Array Int} {len : Nat} {x : Int32} (tgt : Nat) (hd : decode mi.2.1 pc = .ok (.tableswitch dflt lo hi offs, len)) (h : x.toInt < lo ∨ hi < x.toInt) (ht : (pc : Int) + dflt = (tgt : Int)) (kk : AW mi d X tgt L st M) : AW mi d X pc L (.int x :: st) M := by
  intro G p l e R s m args below meth c A cells slots Qf B hX H locs ls hP hD hS hl
  exact lv_tableOut B.1 B.2.1 hd h ht (kk G p l e R s m args below meth c A cells slots Qf B hX H locs ls hP hD hS hl)
theorem a_top {mi : MI} {d : Nat} {X : CX} {pc : Nat} {L : List (Nat × Option Value)} {st : List Value} {M : Mm} {x : Int32} (kk : ∀ y : Int32, y = x → AW mi d X pc L (.int y :: st) M) : AW mi d X pc L (.int x :: st) M := kk x rfl
theorem a_topl {mi : MI} {d : Nat} {X : CX} {pc : Nat} {L : List (Nat × Option Value)} {st : List Value} {M : Mm} {x : Int64} (kk : ∀ y : Int64, y = x → AW mi d X pc L (.long y :: st) M) : AW mi d X pc L (.long x :: st) M := kk x rfl
theorem a_eqi {mi : MI} {d : Nat} {X : CX} {pc : Nat} {L : List (Nat × Option Value)} {st : List Value} {M : Mm} {x y : Int32} (h : x = y) (kk : AW mi d X pc L (.int y :: st) M) : AW mi d X pc L (.int x :: st) M := h ▸ kk
theorem a_eql {mi : MI} {d : Nat} {X : CX} {pc : Nat} {L : List (Nat × Option Value)} {st : List Value} {M : Mm} {x y : Int64} (h : x = y) (kk : AW mi d X pc L (.long y :: st) M) : AW mi d X pc L (.long x :: st) M := h ▸ kk
theorem a_eqM {mi : MI} {d : Nat} {X : CX} {pc : Nat} {L : List (Nat × Option Value)} {st : List Value} {M : Mm} {M' : Mm} (h : M = M') (kk : AW mi d X pc L st M') : AW mi d X pc L st M := h ▸ kk
theorem a_geti {mi : MI} {d : Nat} {X : CX} {pc : Nat} {L : List (Nat × Option Value)} {st : List Value} {M : Mm} {k ci j idx q : Nat} {fs : List (Nat × Nat)} (hd : decode mi.2.1 pc = .ok (.getfield idx, 3)) (hf : lnkF mi.1.cls idx ci j) (hk : k < nC) (hc : layC k = .inl (ci, fs)) (hj : fs[j]? = some (0, q)) (kk : AW mi d X (pc + 3) L (.int (M.1 k j) :: st) M) : AW mi d X pc L (.ref k :: st) M := by
  intro G p l e R s m args below meth c A cells slots Qf B hX H locs ls hP hD hS hl
  obtain ⟨C, T, N, ty0, ⟨h1, h2, h3, h4⟩, h5, h6, h7⟩ := hf
  have hw := wrl_at G M hk
  rw [hc] at hw
  have hv := fvA_at G.2.2 M k fs 0 j 0 q hj
  rw [Nat.zero_add] at hv
  exact va_get B.1 B.2.1 B.2.2.2.2.2.1 h2 B.2.2.2.2.1 B.2.2.2.2.2.2.2.1 hP k hw h1 j h5 (B.2.2.2.2.2.1 _ h6) (fun x h => by rw [h7] at h; exact h) hv hd (kk G p l e R s m args below meth c A cells slots Qf B hX H locs ls hP hD hS hl)
theorem a_getl {mi : MI} {d : Nat} {X : CX} {pc : Nat} {L : List (Nat × Option Value)} {st : List Value} {M : Mm} {k ci j idx q : Nat} {fs : List (Nat × Nat)} (hd : decode mi.2.1 pc = .ok (.getfield idx, 3)) (hf : lnkF mi.1.cls idx ci j) (hk : k < nC) (hc : layC k = .inl (ci, fs)) (hj : fs[j]? = some (1, q)) (kk : AW mi d X (pc + 3) L (.long (M.2 k j) :: st) M) : AW mi d X pc L (.ref k :: st) M := by
  intro G p l e R s m args below meth c A cells slots Qf B hX H locs ls hP hD hS hl
  obtain ⟨C, T, N, ty0, ⟨h1, h2, h3, h4⟩, h5, h6, h7⟩ := hf
  have hw := wrl_at G M hk
  rw [hc] at hw
  have hv := fvA_at G.2.2 M k fs 0 j 1 q hj
  rw [Nat.zero_add] at hv
  exact va_get B.1 B.2.1 B.2.2.2.2.2.1 h2 B.2.2.2.2.1 B.2.2.2.2.2.2.2.1 hP k hw h1 j h5 (B.2.2.2.2.2.1 _ h6) (fun x h => by rw [h7] at h; exact h) hv hd (kk G p l e R s m args below meth c A cells slots Qf B hX H locs ls hP hD hS hl)
theorem a_geta {mi : MI} {d : Nat} {X : CX} {pc : Nat} {L : List (Nat × Option Value)} {st : List Value} {M : Mm} {k ci j idx q : Nat} {fs : List (Nat × Nat)} (hd : decode mi.2.1 pc = .ok (.getfield idx, 3)) (hf : lnkF mi.1.cls idx ci j) (hk : k < nC) (hc : layC k = .inl (ci, fs)) (hj : fs[j]? = some (2, q)) (kk : AW mi d X (pc + 3) L (.ref q :: st) M) : AW mi d X pc L (.ref k :: st) M := by
  intro G p l e R s m args below meth c A cells slots Qf B hX H locs ls hP hD hS hl
  obtain ⟨C, T, N, ty0, ⟨h1, h2, h3, h4⟩, h5, h6, h7⟩ := hf
  have hw := wrl_at G M hk
  rw [hc] at hw
  have hv := fvA_at G.2.2 M k fs 0 j 2 q hj
  rw [Nat.zero_add] at hv
  exact va_get B.1 B.2.1 B.2.2.2.2.2.1 h2 B.2.2.2.2.1 B.2.2.2.2.2.2.2.1 hP k hw h1 j h5 (B.2.2.2.2.2.1 _ h6) (fun x h => by rw [h7] at h; exact h) hv hd (kk G p l e R s m args below meth c A cells slots Qf B hX H locs ls hP hD hS hl)
theorem a_puti {mi : MI} {d : Nat} {X : CX} {pc : Nat} {L : List (Nat × Option Value)} {st : List Value} {M : Mm} {k ci j idx q : Nat} {fs : List (Nat × Nat)} {x : Int32} (hd : decode mi.2.1 pc = .ok (.putfield idx, 3)) (hf : lnkP mi.1.cls idx ci j .int) (hk : k < nC) (hc : layC k = .inl (ci, fs)) (hj : fs[j]? = some (0, q)) (kk : AW mi d X (pc + 3) L st (siM M k j x)) : AW mi d X pc L (.int x :: .ref k :: st) M := by
  intro G p l e R s m args below meth c A cells slots Qf B hX H locs ls hP hD hS hl
  obtain ⟨C, T, N, ty0, ⟨h1, h2, h3, h4⟩, h5, h6, h7, h8, h9⟩ := hf
  have hw := wrl_at G M hk
  rw [hc] at hw
  have hlen : j < fs.length := (List.getElem?_eq_some_iff.mp hj).1
  have hset : (wrl G M).set k (G.2.2 k, .inr (ci, (fvA G.2.2 M k 0 fs).set j (.int x))) = wrl G (siM M k j x) := by
    refine wrl_set G M (siM M k j x) hk ?_ (fun i hi => celA_i hi _)
    rw [hc]
    have := fvA_si G.2.2 M k x fs 0 j q hj
    rw [Nat.zero_add] at this
    simp only [celA, this]
  refine va_put (ty := .int) (v := .int x) B.1 B.2.1 B.2.2.2.2.2.1 h2 ty0 h3 h4 B.2.2.2.2.1 B.2.2.2.2.2.2.2.1 hP hD hS k hw h1 j h5 (B.2.2.2.2.2.1 _ h6) (fun x h => by rw [h7] at h; exact h) h8 (by rw [← h9]; exact h3 j h5) rfl rfl (by rw [fvA_len]; exact hlen) hd (fun H1 locs1 hP1 hD1 hS1 => ?_)
  rw [hset] at hP1 hD1
  exact kk G p l e R s m args below meth c A cells slots Qf B hX H1 locs1 ls hP1 hD1 hS1 hl
theorem a_putl {mi : MI} {d : Nat} {X : CX} {pc : Nat} {L : List (Nat × Option Value)} {st : List Value} {M : Mm} {k ci j idx q : Nat} {fs : List (Nat × Nat)} {x : Int64} (hd : decode mi.2.1 pc = .ok (.putfield idx, 3)) (hf : lnkP mi.1.cls idx ci j .long) (hk : k < nC) (hc : layC k = .inl (ci, fs)) (hj : fs[j]? = some (1, q)) (kk : AW mi d X (pc + 3) L st (slM M k j x)) : AW mi d X pc L (.long x :: .ref k :: st) M := by
  intro G p l e R s m args below meth c A cells slots Qf B hX H locs ls hP hD hS hl
  obtain ⟨C, T, N, ty0, ⟨h1, h2, h3, h4⟩, h5, h6, h7, h8, h9⟩ := hf
  have hw := wrl_at G M hk
  rw [hc] at hw
  have hlen : j < fs.length := (List.getElem?_eq_some_iff.mp hj).1
  have hset : (wrl G M).set k (G.2.2 k, .inr (ci, (fvA G.2.2 M k 0 fs).set j (.long x))) = wrl G (slM M k j x) := by
    refine wrl_set G M (slM M k j x) hk ?_ (fun i hi => celA_l hi _)
    rw [hc]
    have := fvA_sl G.2.2 M k x fs 0 j q hj
    rw [Nat.zero_add] at this
    simp only [celA, this]
  refine va_put (ty := .long) (v := .long x) B.1 B.2.1 B.2.2.2.2.2.1 h2 ty0 h3 h4 B.2.2.2.2.1 B.2.2.2.2.2.2.2.1 hP hD hS k hw h1 j h5 (B.2.2.2.2.2.1 _ h6) (fun x h => by rw [h7] at h; exact h) h8 (by rw [← h9]; exact h3 j h5) rfl rfl (by rw [fvA_len]; exact hlen) hd (fun H1 locs1 hP1 hD1 hS1 => ?_)
  rw [hset] at hP1 hD1
  exact kk G p l e R s m args below meth c A cells slots Qf B hX H1 locs1 ls hP1 hD1 hS1 hl
theorem a_putz {mi : MI} {d : Nat} {X : CX} {pc : Nat} {L : List (Nat × Option Value)} {st : List Value} {M : Mm} {k ci j idx q : Nat} {fs : List (Nat × Nat)} {x : Int32} (hd : decode mi.2.1 pc = .ok (.putfield idx, 3)) (hf : lnkP mi.1.cls idx ci j .boolean) (hk : k < nC) (hc : layC k = .inl (ci, fs)) (hj : fs[j]? = some (0, q)) (hx : x = 0 ∨ x = 1) (kk : AW mi d X (pc + 3) L st (siM M k j x)) : AW mi d X pc L (.int x :: .ref k :: st) M := by
  intro G p l e R s m args below meth c A cells slots Qf B hX H locs ls hP hD hS hl
  obtain ⟨C, T, N, ty0, ⟨h1, h2, h3, h4⟩, h5, h6, h7, h8, h9⟩ := hf
  have hw := wrl_at G M hk
  rw [hc] at hw
  have hlen : j < fs.length := (List.getElem?_eq_some_iff.mp hj).1
  have hset : (wrl G M).set k (G.2.2 k, .inr (ci, (fvA G.2.2 M k 0 fs).set j (.int x))) = wrl G (siM M k j x) := by
    refine wrl_set G M (siM M k j x) hk ?_ (fun i hi => celA_i hi _)
    rw [hc]
    have := fvA_si G.2.2 M k x fs 0 j q hj
    rw [Nat.zero_add] at this
    simp only [celA, this]
  refine va_put (ty := .boolean) (v := .int x) B.1 B.2.1 B.2.2.2.2.2.1 h2 ty0 h3 h4 B.2.2.2.2.1 B.2.2.2.2.2.2.2.1 hP hD hS k hw h1 j h5 (B.2.2.2.2.2.1 _ h6) (fun x h => by rw [h7] at h; exact h) h8 (by rw [← h9]; exact h3 j h5) (by rcases hx with rfl | rfl <;> rfl) (by rcases hx with rfl | rfl <;> rfl) (by rw [fvA_len]; exact hlen) hd (fun H1 locs1 hP1 hD1 hS1 => ?_)
  rw [hset] at hP1 hD1
  exact kk G p l e R s m args below meth c A cells slots Qf B hX H1 locs1 ls hP1 hD1 hS1 hl
theorem a_iald {mi : MI} {d : Nat} {X : CX} {pc : Nat} {L : List (Nat × Option Value)} {st : List Value} {M : Mm} {k n : Nat} {f : Nat → Nat} {i : Int32} (hd : decode mi.2.1 pc = .ok (.iaload, 1)) (hk : k < nC) (hc : layC k = .inr (0, n, f)) (hi : vp_in i n) (kk : AW mi d X (pc + 1) L (.int (M.1 k i.toNatClampNeg) :: st) M) : AW mi d X pc L (.int i :: .ref k :: st) M := by
  intro G p l e R s m args below meth c A cells slots Qf B hX H locs ls hP hD hS hl
  have hw := wrl_at G M hk
  rw [hc] at hw
  exact va_iald B.1 B.2.1 B.2.2.2.2.2.2.2.1 hP k 0 hw rfl hi hd (kk G p l e R s m args below meth c A cells slots Qf B hX H locs ls hP hD hS hl)
theorem a_bald {mi : MI} {d : Nat} {X : CX} {pc : Nat} {L : List (Nat × Option Value)} {st : List Value} {M : Mm} {k n : Nat} {f : Nat → Nat} {i : Int32} (hd : decode mi.2.1 pc = .ok (.baload, 1)) (hk : k < nC) (hc : layC k = .inr (1, n, f)) (hi : vp_in i n) (kk : AW mi d X (pc + 1) L (.int (M.1 k i.toNatClampNeg) :: st) M) : AW mi d X pc L (.int i :: .ref k :: st) M := by
  intro G p l e R s m args below meth c A cells slots Qf B hX H locs ls hP hD hS hl
  have hw := wrl_at G M hk
  rw [hc] at hw
  exact va_bald B.1 B.2.1 B.2.2.2.2.2.2.2.1 hP k 1 hw rfl hi hd (kk G p l e R s m args below meth c A cells slots Qf B hX H locs ls hP hD hS hl)
theorem a_lald {mi : MI} {d : Nat} {X : CX} {pc : Nat} {L : List (Nat × Option Value)} {st : List Value} {M : Mm} {k n : Nat} {f : Nat → Nat} {i : Int32} (hd : decode mi.2.1 pc = .ok (.laload, 1)) (hk : k < nC) (hc : layC k = .inr (2, n, f)) (hi : vp_in i n) (kk : AW mi d X (pc + 1) L (.long (M.2 k i.toNatClampNeg) :: st) M) : AW mi d X pc L (.int i :: .ref k :: st) M := by
  intro G p l e R s m args below meth c A cells slots Qf B hX H locs ls hP hD hS hl
  have hw := wrl_at G M hk
  rw [hc] at hw
  exact va_lald B.1 B.2.1 B.2.2.2.2.2.2.2.1 hP k 2 hw rfl hi hd (kk G p l e R s m args below meth c A cells slots Qf B hX H locs ls hP hD hS hl)
theorem a_iast {mi : MI} {d : Nat} {X : CX} {pc : Nat} {L : List (Nat × Option Value)} {st : List Value} {M : Mm} {k n : Nat} {f : Nat → Nat} {i : Int32} {x : Int32} (hd : decode mi.2.1 pc = .ok (.iastore, 1)) (hk : k < nC) (hc : layC k = .inr (0, n, f)) (hi : vp_in i n) (kk : AW mi d X (pc + 1) L st (siM M k i.toNatClampNeg x)) : AW mi d X pc L (.int x :: .int i :: .ref k :: st) M := by
  intro G p l e R s m args below meth c A cells slots Qf B hX H locs ls hP hD hS hl
  have hw := wrl_at G M hk
  rw [hc] at hw
  refine va_iast B.1 B.2.1 B.2.2.2.2.2.2.2.1 hP hD hS k 0 hw rfl hi hd (fun H1 locs1 hP1 hD1 hS1 => ?_)
  rw [wrl_set G M (siM M k i.toNatClampNeg x) hk (by rw [hc]; simp only [celA]; have e : (siM M k i.toNatClampNeg x).1 k = upd (M.1 k) i.toNatClampNeg x := by { funext b; simp [siM, upd] }; rw [e]; rfl) (fun j hj => celA_i hj _)] at hP1 hD1
  exact kk G p l e R s m args below meth c A cells slots Qf B hX H1 locs1 ls hP1 hD1 hS1 hl
theorem a_bast {mi : MI} {d : Nat} {X : CX} {pc : Nat} {L : List (Nat × Option Value)} {st : List Value} {M : Mm} {k n : Nat} {f : Nat → Nat} {i : Int32} {x : Int32} (hd : decode mi.2.1 pc = .ok (.bastore, 1)) (hk : k < nC) (hc : layC k = .inr (1, n, f)) (hi : vp_in i n) (kk : AW mi d X (pc + 1) L st (siM M k i.toNatClampNeg (vp_nar .byte x))) : AW mi d X pc L (.int x :: .int i :: .ref k :: st) M := by
  intro G p l e R s m args below meth c A cells slots Qf B hX H locs ls hP hD hS hl
  have hw := wrl_at G M hk
  rw [hc] at hw
  refine va_bast B.1 B.2.1 B.2.2.2.2.2.2.2.1 hP hD hS k 1 hw rfl hi hd (fun H1 locs1 hP1 hD1 hS1 => ?_)
  rw [wrl_set G M (siM M k i.toNatClampNeg (vp_nar .byte x)) hk (by rw [hc]; simp only [celA]; have e : (siM M k i.toNatClampNeg (vp_nar .byte x)).1 k = upd (M.1 k) i.toNatClampNeg (vp_nar .byte x) := by { funext b; simp [siM, upd] }; rw [e]; rfl) (fun j hj => celA_i hj _)] at hP1 hD1
  exact kk G p l e R s m args below meth c A cells slots Qf B hX H1 locs1 ls hP1 hD1 hS1 hl
theorem a_last {mi : MI} {d : Nat} {X : CX} {pc : Nat} {L : List (Nat × Option Value)} {st : List Value} {M : Mm} {k n : Nat} {f : Nat → Nat} {i : Int32} {x : Int64} (hd : decode mi.2.1 pc = .ok (.lastore, 1)) (hk : k < nC) (hc : layC k = .inr (2, n, f)) (hi : vp_in i n) (kk : AW mi d X (pc + 1) L st (slM M k i.toNatClampNeg x)) : AW mi d X pc L (.long x :: .int i :: .ref k :: st) M := by
  intro G p l e R s m args below meth c A cells slots Qf B hX H locs ls hP hD hS hl
  have hw := wrl_at G M hk
  rw [hc] at hw
  refine va_last B.1 B.2.1 B.2.2.2.2.2.2.2.1 hP hD hS k 2 hw rfl hi hd (fun H1 locs1 hP1 hD1 hS1 => ?_)
  rw [wrl_set G M (slM M k i.toNatClampNeg x) hk (by rw [hc]; simp only [celA]; have e : (slM M k i.toNatClampNeg x).2 k = vp_updL (M.2 k) i.toNatClampNeg x := by { funext b; simp [slM, vp_updL] }; rw [e]; rfl) (fun j hj => celA_l hj _)] at hP1 hD1
  exact kk G p l e R s m args below meth c A cells slots Qf B hX H1 locs1 ls hP1 hD1 hS1 hl
theorem a_alen {mi : MI} {d : Nat} {X : CX} {pc : Nat} {L : List (Nat × Option Value)} {st : List Value} {M : Mm} {k n t : Nat} {f : Nat → Nat} (hd : decode mi.2.1 pc = .ok (.arraylength, 1)) (hk : k < nC) (hc : layC k = .inr (t, n, f)) (ht : t < 5) (kk : AW mi d X (pc + 1) L (.int (nI n) :: st) M) : AW mi d X pc L (.ref k :: st) M := by
  intro G p l e R s m args below meth c A cells slots Qf B hX H locs ls hP hD hS hl
  have hw := wrl_at G M hk
  rw [hc] at hw
  have htt : ∃ ty, (tysA G)[t]? = some (G.2.1 t, ty) := by
    rcases (show t = 0 ∨ t = 1 ∨ t = 2 ∨ t = 3 ∨ t = 4 by omega) with rfl | rfl | rfl | rfl | rfl <;> exact ⟨_, rfl⟩
  obtain ⟨ty, htt⟩ := htt
  exact va_alen B.1 B.2.1 B.2.2.2.2.2.2.2.1 hP k t hw htt rfl hd (kk G p l e R s m args below meth c A cells slots Qf B hX H locs ls hP hD hS hl)
theorem a_aald {mi : MI} {d : Nat} {X : CX} {pc : Nat} {L : List (Nat × Option Value)} {st : List Value} {M : Mm} {k n t : Nat} {f : Nat → Nat} {i : Int32} (hd : decode mi.2.1 pc = .ok (.aaload, 1)) (hk : k < nC) (hc : layC k = .inr (t, n, f)) (ht : t = 3 ∨ t = 4) (hi : vp_in i n) (kk : AW mi d X (pc + 1) L (.ref (f i.toNatClampNeg) :: st) M) : AW mi d X pc L (.int i :: .ref k :: st) M := by
  intro G p l e R s m args below meth c A cells slots Qf B hX H locs ls hP hD hS hl
  have hw := wrl_at G M hk
  rw [hc] at hw
  have hlt : i.toNatClampNeg < n := Nat.not_le.mp fun q => hi (Or.inr q)
  have hK := B.2.2.2.2.2.2.2.1
  have key : ∃ ty, (tysA G)[t]? = some (G.2.1 t, ty) ∧ ty.isReference = true := by
    rcases ht with rfl | rfl
    · exact ⟨_, rfl, rfl⟩
    · exact ⟨_, rfl, rfl⟩
  obtain ⟨ty, htt, hre⟩ := key
  have hat : celA G M k (.inr (t, n, f)) = .inl (G.2.1 t, (n, .inr (.inr (.inr (.inr (fun j => if j < n then some (G.2.2 (f j)) else none)))))) := by
    rcases ht with rfl | rfl <;> rfl
  rw [hat] at hw
  refine W.aald (v := .ref (G.2.2 (f i.toNatClampNeg))) (ty := ty) B.1 B.2.1 (hP k _ hw) ((hK.2 t _ htt).1 n (fun j => va_rf (if j < n then some (G.2.2 (f j)) else none))) hre (fun q => by cases q) (by show ¬ (i < 0 ∨ (arrV _ _ _).slots.size ≤ _); rw [arrV_size]; exact hi) (by show (arrV _ _ _).slots[_]? = _; rw [arrV_read _ _ hlt]; simp only [if_pos hlt]; rfl) rfl rfl hd (kk G p l e R s m args below meth c A cells slots Qf B hX H locs ls hP hD hS hl)
theorem a_run {mi : MI} {d : Nat} {X : CX} {pc : Nat} {L : List (Nat × Option Value)} {st st0 : List Value} {M : Mm} {Bs : List Value} {Q' : Option Value → Mm → Prop} {G : GG} {p : Program} {l : Launch} {e : Env} {R : Room} {s : State} {m : MethodId} {args : Array Value} {below : List Frame} {meth : Method} {c : Code} {A : Nat → Prop} {cells slots : Nat} {Qf : State → Prop} {H : Heap} {locs : List Loc} {ls : Array Slot}
    (B : basA mi d G p R s m args meth c A cells slots) (hX : X G p l e R s m args below meth A cells slots Qf) (hP : va_P G.1 vwCl (wrl G M) H) (hD : va_D A (wrl G M)) (hS : va_S A s.heap H locs) (hl : hasL G.2.2 ls mi.2.2.1 L)
    (hr : va_Run p l e R s m args below meth c H locs cells slots 0 0 (F0 m pc ls st0) (st.map (vmA G.2.2)) (qcA G Q' (va_A (wrl G M) H.size) (Bs.map (vmA G.2.2)).toArray) (va_A (wrl G M) H.size))
    (kk : ∀ r M', Q' r M' → AW mi d X (pc + 3) L (r.toList ++ st) M') : W p l e R s m args below meth c H locs cells slots Qf (F0 m pc ls st0) := by
  have hF := wrl_free hD hS B.2.2.2.2.2.2.2.2.1
  intro T hT Xs
  obtain ⟨v, st₀, t, T', Lc, h0, X', hL, e1, e2, ⟨⟨r, M', hv, hq, hP1, hK1⟩, hz, hk⟩, stp⟩ := hr T hT Xs
  cases hv
  rw [h0] at hz hk
  obtain ⟨t2, a1, b1⟩ := kk r M' hq G p l e R s m args below meth c A cells slots Qf B hX T'.heap (locs ++ Lc) ls (by rw [e1]; exact hP1) (wrl_D hD)
    ⟨Nat.le_trans hS.1 (by rw [e1]; exact hz), fun q h1 h2 => by
      rw [e1, hk q (Nat.lt_of_lt_of_le h1 hS.1) (fun z => h2 (hF q z))]; exact hS.2.1 q h1 h2, fun q hq => by
      rcases List.mem_append.mp hq with h | h
      · exact hS.2.2 q h
      · exact hF _ (hL q h)⟩ hl T' rfl X'
  rw [map_toList] at a1
  exact ⟨t2, stp t2 a1, b1⟩
theorem a_pre {mi : MI} {d : Nat} {M : Mm} {G : GG} {p : Program} {R : Room} {s : State} {m : MethodId} {args : Array Value} {meth : Method} {c : Code} {A : Nat → Prop} {cells slots : Nat} {H : Heap} {locs : List Loc} {As : List Value}
    (B : basA mi d G p R s m args meth c A cells slots) (hP : va_P G.1 vwCl (wrl G M) H) (hD : va_D A (wrl G M)) (hS : va_S A s.heap H locs) : ∀ U : State, U.heap = H → s.WarmedH U.vm → va_Pc As (fun U => U.heap.size = H.size ∧ va_P G.1 vwCl (wrl G M) U.heap ∧ va_K G.1 vwCl (tysA G) U ∧ va_D (fun _ => True) (wrl G M) ∧ strA G (va_A (wrl G M) H.size) U U.heap) As.toArray U := by
  intro U hU hW
  refine ⟨rfl, by rw [hU], by rw [hU]; exact hP, va_K.moved hW.alike B.2.2.2.2.2.2.2.1, hD.weaken (fun _ _ _ _ => trivial), ?_⟩
  rw [hU]
  exact strA.go B.2.2.2.2.2.2.2.2.2.2.2.2.2 hW (fun a h1 h2 => hS.2.1 a h1 h2) (wrl_free hD hS B.2.2.2.2.2.2.2.2.1)
theorem a_blind {G : GG} {M : Mm} {sz : Nat} {A : Nat → Prop} {As : List Value} : FrameBlind (va_Pc As (fun U => U.heap.size = sz ∧ va_P G.1 vwCl (wrl G M) U.heap ∧ va_K G.1 vwCl (tysA G) U ∧ va_D (fun _ => True) (wrl G M) ∧ strA G A U U.heap)) :=
  fun a U g mk ⟨q0, q1, q2, q3, q4, q5⟩ => ⟨q0, q1, q2, va_K.moved (u := U) (U := U.calling g mk a) (Vm.Alike.refl U.vm) q3, q4, strA.calling q5⟩
theorem a_callV {mi mi' : MI} {d : Nat} {X : CX} {pc d' k ci n idx : Nat} {L : List (Nat × Option Value)} {st S0 : List Value} {M : Mm} {As : List Value} {Q' : Option Value → Mm → Prop} {fs : List (Nat × Nat)} {cq : vw_C}
    (hd : decode mi.2.1 pc = .ok (.invokevirtual idx, 3)) (hlk : Cond.methodLink mi.1.cls idx mi'.1 ∈ TB) (hm : mthV mi' n) (hk : k < nC) (hc : layC k = .inl (ci, fs)) (hcq : vwCl[ci]? = some cq) (hcl : cq.1 = mi'.1.cls) (hn : As.length = n) (hdd : d' < d) (hnl : mi'.2.2.1 ≤ 30)
    (hst : S0 = As.reverse ++ .ref k :: st) (hcat : (st.map fun v => v.category).sum ≤ 8)
    (hA : AMt mi' d' (.ref k :: As) M Q') (kk : ∀ r M', Q' r M' → AW mi d X (pc + 3) L (r.toList ++ st) M') : AW mi d X pc L S0 M := by
  intro G p l e R s m args below meth c A cells slots Qf B hX H locs ls hP hD hS hl
  obtain ⟨⟨hini, hcode, hdesc⟩, hinst, hsel⟩ := hm
  have hw := wrl_at G M hk
  rw [hc] at hw
  have hts := B.2.2.2.2.2.1
  have hfr := B.2.2.2.2.2.2.2.2.2.1
  have hlo := B.2.2.2.2.2.2.2.2.2.2.1
  have cw : CallW R s args mi.1.cls mi'.1.cls idx mi'.1 mi'.2.1 mi'.2.2.1 mi'.2.2.2 (Cond.code mi'.1 mi'.2.1 mi'.2.2.1 mi'.2.2.2 :: TB) (rmD d') 0 0 n :=
    ⟨callB_of n hts (fun w hw => by rcases List.mem_cons.mp hw with rfl | h; exact tb_good _ hcode; exact tb_good _ h) rfl rfl rfl (hts _ hini) (hts _ hlk) hdesc (by simp only [rmD]; omega), hts _ hinst, hts _ hsel⟩
  have hr := va_runV (l := l) (e := e) (below := below) (meth := meth) (locs := locs) (As := As.map (vmA G.2.2)) (rest := st.map (vmA G.2.2)) (cells := cells) (slots := slots) ⟨B.1, B.2.1, B.2.2.1, B.2.2.2.2.1, hts⟩ (hA l G H.size) cw (b := G.2.2 k) (H := H) (g := F0 m pc ls (S0.map (vmA G.2.2)))
    ⟨a_blind, by rw [← hcl]; exact va_recv B.2.2.2.2.2.2.2.1 hP hcq hw, a_pre (As := (Value.ref k :: As).map (vmA G.2.2)) B hP hD hS⟩ rfl (by rw [List.length_map]; exact hn) hl.1 (by rw [hst, List.map_append, List.map_reverse]; rfl) (lv_room (by rw [map_cat]; exact hcat)) hd ⟨B.2.2.2.2.2.2.2.2.2.2.2.1, B.2.2.2.2.2.2.2.2.2.2.2.2.1⟩
  exact a_run (Bs := .ref k :: As) (Q' := Q') B hX hP hD hS hl hr kk
theorem a_callS {mi mi' : MI} {d : Nat} {X : CX} {pc d' n idx : Nat} {L : List (Nat × Option Value)} {st S0 : List Value} {M : Mm} {As : List Value} {Q' : Option Value → Mm → Prop}
    (hd : decode mi.2.1 pc = .ok (.invokestatic idx, 3)) (hlk : Cond.methodLink mi.1.cls idx mi'.1 ∈ TB) (hm : mthS mi' n) (hn : As.length = n) (hdd : d' < d) (hnl : mi'.2.2.1 ≤ 30)
    (hst : S0 = As.reverse ++ st) (hcat : (st.map fun v => v.category).sum ≤ 8)
    (hA : AMt mi' d' As M Q') (kk : ∀ r M', Q' r M' → AW mi d X (pc + 3) L (r.toList ++ st) M') : AW mi d X pc L S0 M := by
  intro G p l e R s m args below meth c A cells slots Qf B hX H locs ls hP hD hS hl
  obtain ⟨⟨hini, hcode, hdesc⟩, hstat⟩ := hm
  have hts := B.2.2.2.2.2.1
  have hfr := B.2.2.2.2.2.2.2.2.2.1
  have hlo := B.2.2.2.2.2.2.2.2.2.2.1
  have cw : CallB R s args mi.1.cls idx mi'.1 mi'.2.1 mi'.2.2.1 mi'.2.2.2 (Cond.code mi'.1 mi'.2.1 mi'.2.2.1 mi'.2.2.2 :: TB) (rmD d') 0 0 n ∧ (Cond.static mi'.1).before args s = true :=
    ⟨callB_of n hts (fun w hw => by rcases List.mem_cons.mp hw with rfl | h; exact tb_good _ hcode; exact tb_good _ h) rfl rfl rfl (hts _ hini) (hts _ hlk) hdesc (by simp only [rmD]; omega), hts _ hstat⟩
  have hr := va_runS (l := l) (e := e) (below := below) (meth := meth) (locs := locs) (As := As.map (vmA G.2.2)) (rest := st.map (vmA G.2.2)) (cells := cells) (slots := slots) ⟨B.1, B.2.1, B.2.2.1, B.2.2.2.2.1, hts⟩ (hA l G H.size) cw (H := H) (g := F0 m pc ls (S0.map (vmA G.2.2)))
    ⟨a_blind, a_pre (As := As.map (vmA G.2.2)) B hP hD hS⟩ rfl (by rw [List.length_map]; exact hn) hl.1 (by rw [hst, List.map_append, List.map_reverse]) (lv_room (by rw [map_cat]; exact hcat)) hd ⟨B.2.2.2.2.2.2.2.2.2.2.2.1, B.2.2.2.2.2.2.2.2.2.2.2.2.1⟩
  exact a_run (Bs := As) (Q' := Q') B hX hP hD hS hl hr kk
theorem a_min {mi : MI} {d : Nat} {X : CX} {pc : Nat} {L : List (Nat × Option Value)} {st : List Value} {M : Mm} {x y : Int32} {idx : Nat} (hd : decode mi.2.1 pc = .ok (.invokestatic idx, 3)) (h1 : Cond.methodLink mi.1.cls idx Lib.Math.min.name ∈ TB) (hcat : (st.map fun v => v.category).sum ≤ 8) (kk : AW mi d X (pc + 3) L (.int (if y < x then y else x) :: st) M) : AW mi d X pc L (.int y :: .int x :: st) M := by
  intro G p l e R s m args below meth c A cells slots Qf B hX H locs ls hP hD hS hl
  have hts := B.2.2.2.2.2.1
  have hfr := B.2.2.2.2.2.2.2.2.2.1
  have hlo := B.2.2.2.2.2.2.2.2.2.2.1
  exact va_mmin B.1 B.2.1 (B.2.2.1.trans hl.1.symm) B.2.2.2.2.1 (hts _ h1) (hts _ (jw_min).1) (hts _ (jw_min).2.1) (hts _ (jw_min).2.2) (by omega) (by rw [map_cat]; omega) B.2.2.2.2.2.2.2.2.2.2.2.1 B.2.2.2.2.2.2.2.2.2.2.2.2.1 hd (kk G p l e R s m args below meth c A cells slots Qf B hX H locs ls hP hD hS hl)
theorem a_max {mi : MI} {d : Nat} {X : CX} {pc : Nat} {L : List (Nat × Option Value)} {st : List Value} {M : Mm} {x y : Int32} {idx : Nat} (hd : decode mi.2.1 pc = .ok (.invokestatic idx, 3)) (h1 : Cond.methodLink mi.1.cls idx Lib.Math.max.name ∈ TB) (hcat : (st.map fun v => v.category).sum ≤ 8) (kk : AW mi d X (pc + 3) L (.int (if x < y then y else x) :: st) M) : AW mi d X pc L (.int y :: .int x :: st) M := by
  intro G p l e R s m args below meth c A cells slots Qf B hX H locs ls hP hD hS hl
  have hts := B.2.2.2.2.2.1
  have hfr := B.2.2.2.2.2.2.2.2.2.1
  have hlo := B.2.2.2.2.2.2.2.2.2.2.1
  exact va_mmax B.1 B.2.1 (B.2.2.1.trans hl.1.symm) B.2.2.2.2.1 (hts _ h1) (hts _ (jw_max).1) (hts _ (jw_max).2.1) (hts _ (jw_max).2.2) (by omega) (by rw [map_cat]; omega) B.2.2.2.2.2.2.2.2.2.2.2.1 B.2.2.2.2.2.2.2.2.2.2.2.2.1 hd (kk G p l e R s m args below meth c A cells slots Qf B hX H locs ls hP hD hS hl)
theorem a_abs {mi : MI} {d : Nat} {X : CX} {pc : Nat} {L : List (Nat × Option Value)} {st : List Value} {M : Mm} {x : Int32} {idx : Nat} (hd : decode mi.2.1 pc = .ok (.invokestatic idx, 3)) (h1 : Cond.methodLink mi.1.cls idx Lib.Math.abs.name ∈ TB) (hcat : (st.map fun v => v.category).sum ≤ 8) (kk : AW mi d X (pc + 3) L (.int (if 0 ≤ x then x else 0 - x) :: st) M) : AW mi d X pc L (.int x :: st) M := by
  intro G p l e R s m args below meth c A cells slots Qf B hX H locs ls hP hD hS hl
  have hts := B.2.2.2.2.2.1
  have hfr := B.2.2.2.2.2.2.2.2.2.1
  have hlo := B.2.2.2.2.2.2.2.2.2.2.1
  exact va_mabs B.1 B.2.1 (B.2.2.1.trans hl.1.symm) B.2.2.2.2.1 (hts _ h1) (hts _ (jw_abs).1) (hts _ (jw_abs).2.1) (hts _ (jw_abs).2.2) (by omega) (by rw [map_cat]; omega) B.2.2.2.2.2.2.2.2.2.2.2.1 B.2.2.2.2.2.2.2.2.2.2.2.2.1 hd (kk G p l e R s m args below meth c A cells slots Qf B hX H locs ls hP hD hS hl)
theorem a_minl {mi : MI} {d : Nat} {X : CX} {pc : Nat} {L : List (Nat × Option Value)} {st : List Value} {M : Mm} {x y : Int64} {idx : Nat} (hd : decode mi.2.1 pc = .ok (.invokestatic idx, 3)) (h1 : Cond.methodLink mi.1.cls idx Lib.MathLoose.min_long.x ∈ TB) (hcat : (st.map fun v => v.category).sum ≤ 8) (kk : AW mi d X (pc + 3) L (.long (if y < x then y else x) :: st) M) : AW mi d X pc L (.long y :: .long x :: st) M := by
  intro G p l e R s m args below meth c A cells slots Qf B hX H locs ls hP hD hS hl
  have hts := B.2.2.2.2.2.1
  have hfr := B.2.2.2.2.2.2.2.2.2.1
  have hlo := B.2.2.2.2.2.2.2.2.2.2.1
  exact va_mmin_long B.1 B.2.1 (B.2.2.1.trans hl.1.symm) B.2.2.2.2.1 (hts _ h1) (hts _ (jw_minl).1) (hts _ (jw_minl).2.1) (hts _ (jw_minl).2.2) (by omega) (by rw [map_cat]; omega) B.2.2.2.2.2.2.2.2.2.2.2.1 B.2.2.2.2.2.2.2.2.2.2.2.2.1 hd (kk G p l e R s m args below meth c A cells slots Qf B hX H locs ls hP hD hS hl)
theorem a_absl {mi : MI} {d : Nat} {X : CX} {pc : Nat} {L : List (Nat × Option Value)} {st : List Value} {M : Mm} {x : Int64} {idx : Nat} (hd : decode mi.2.1 pc = .ok (.invokestatic idx, 3)) (h1 : Cond.methodLink mi.1.cls idx Lib.MathLoose.abs_long.x ∈ TB) (hcat : (st.map fun v => v.category).sum ≤ 8) (kk : AW mi d X (pc + 3) L (.long (if 0 < x then x else -x) :: st) M) : AW mi d X pc L (.long x :: st) M := by
  intro G p l e R s m args below meth c A cells slots Qf B hX H locs ls hP hD hS hl
  have hts := B.2.2.2.2.2.1
  have hfr := B.2.2.2.2.2.2.2.2.2.1
  have hlo := B.2.2.2.2.2.2.2.2.2.2.1
  exact va_mabs_long B.1 B.2.1 (B.2.2.1.trans hl.1.symm) B.2.2.2.2.1 (hts _ h1) (hts _ (jw_absl).1) (hts _ (jw_absl).2.1) (hts _ (jw_absl).2.2) (by omega) (by rw [map_cat]; omega) B.2.2.2.2.2.2.2.2.2.2.2.1 B.2.2.2.2.2.2.2.2.2.2.2.2.1 hd (kk G p l e R s m args below meth c A cells slots Qf B hX H locs ls hP hD hS hl)
theorem a_iret {mi : MI} {d : Nat} {Q : Option Value → Mm → Prop} {pc : Nat} {L : List (Nat × Option Value)} {M : Mm} {x : Int32} (hd : decode mi.2.1 pc = .ok (.ireturn, 1)) (hr : mi.2.2.2 = some .int) (hq : Q (some (.int x)) M) : AW mi d (mxA Q) pc L [.int x] M := by
  intro G p l e R s m args below meth c A cells slots Qf B hX H locs ls hP hD hS hl
  obtain ⟨rfl, rfl, rfl⟩ := hX
  exact W.iret (v := x) B.1 B.2.1 (B.2.2.2.1.trans hr) (fun t ht hW => ⟨⟨some (.int x), M, rfl, hq, by rw [ht]; exact hP, va_K.moved hW.alike B.2.2.2.2.2.2.2.1⟩, hS.F ht⟩) hS.2.2 hd B.2.2.2.2.2.2.1
theorem a_lret {mi : MI} {d : Nat} {Q : Option Value → Mm → Prop} {pc : Nat} {L : List (Nat × Option Value)} {M : Mm} {x : Int64} (hd : decode mi.2.1 pc = .ok (.lreturn, 1)) (hr : mi.2.2.2 = some .long) (hq : Q (some (.long x)) M) : AW mi d (mxA Q) pc L [.long x] M := by
  intro G p l e R s m args below meth c A cells slots Qf B hX H locs ls hP hD hS hl
  obtain ⟨rfl, rfl, rfl⟩ := hX
  exact W.lret (v := x) B.1 B.2.1 (B.2.2.2.1.trans hr) (fun t ht hW => ⟨⟨some (.long x), M, rfl, hq, by rw [ht]; exact hP, va_K.moved hW.alike B.2.2.2.2.2.2.2.1⟩, hS.F ht⟩) hS.2.2 hd B.2.2.2.2.2.2.1
theorem a_zret {mi : MI} {d : Nat} {Q : Option Value → Mm → Prop} {pc : Nat} {L : List (Nat × Option Value)} {M : Mm} {x : Int32} (hd : decode mi.2.1 pc = .ok (.ireturn, 1)) (hr : mi.2.2.2 = some .boolean) (hx : x = 0 ∨ x = 1) (hq : Q (some (.int x)) M) : AW mi d (mxA Q) pc L [.int x] M := by
  intro G p l e R s m args below meth c A cells slots Qf B hX H locs ls hP hD hS hl
  obtain ⟨rfl, rfl, rfl⟩ := hX
  exact W.zret (v := x) B.1 B.2.1 (B.2.2.2.1.trans hr) (by rcases hx with rfl | rfl <;> rfl) (fun t ht hW => ⟨⟨some (.int x), M, rfl, hq, by rw [ht]; exact hP, va_K.moved hW.alike B.2.2.2.2.2.2.2.1⟩, hS.F ht⟩) hS.2.2 hd B.2.2.2.2.2.2.1
theorem a_vret {mi : MI} {d : Nat} {Q : Option Value → Mm → Prop} {pc : Nat} {L : List (Nat × Option Value)} {M : Mm} (hd : decode mi.2.1 pc = .ok (.return_, 1)) (hr : mi.2.2.2 = none) (hq : Q none M) : AW mi d (mxA Q) pc L [] M := by
  intro G p l e R s m args below meth c A cells slots Qf B hX H locs ls hP hD hS hl
  obtain ⟨rfl, rfl, rfl⟩ := hX
  exact W.vret B.1 B.2.1 (B.2.2.2.1.trans hr) (fun t ht hW => ⟨⟨none, M, rfl, hq, by rw [ht]; exact hP, va_K.moved hW.alike B.2.2.2.2.2.2.2.1⟩, hS.F ht⟩) hS.2.2 hd B.2.2.2.2.2.2.1

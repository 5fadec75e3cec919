/-- a world whose words speak of the cells a .. b - 1 alone -/
def mdW (a b : Nat) (ws : List (Nat × BE)) : Prop := ∀ (D : va_G) (ids : Nat → ClassId) (ad ad0 : Nat → Nat), (∀ i, a ≤ i → i < b → ad i = ad0 i) → bwl (D, ids, ad) ws = bwl (D, ids, ad0) ws
theorem mdW_nil {a b : Nat} : mdW a b [] := fun _ _ _ _ _ => rfl
def refV (a b : Nat) : Value → Bool
  | .ref k => Nat.ble a k && Nat.ble (k + 1) b
  | _ => true
def refIn (a b : Nat) : List Value → Bool
  | [] => true
  | x :: r => refV a b x && refIn a b r
theorem refIn_map {a b : Nat} {ad ad0 : Nat → Nat} (h : ∀ i, a ≤ i → i < b → ad i = ad0 i) : ∀ fs : List Value, refIn a b fs = true → fs.map (vmA ad) = fs.map (vmA ad0)
  | [], _ => rfl
  | x :: r, hr => by
    have h1 : refV a b x = true ∧ refIn a b r = true := by
      have h2 : (refV a b x && refIn a b r) = true := hr
      rwa [Bool.and_eq_true] at h2
    rw [List.map_cons, List.map_cons, refIn_map h r h1.2]
    have h3 : vmA ad x = vmA ad0 x := by
      cases x with
      | ref k =>
        have h4 : (Nat.ble a k && Nat.ble (k + 1) b) = true := h1.1
        rw [Bool.and_eq_true] at h4
        show Value.ref (ad k) = Value.ref (ad0 k)
        rw [h k (Nat.le_of_ble_eq_true h4.1) (Nat.le_of_ble_eq_true h4.2)]
      | _ => rfl
    rw [h3]
theorem bwl_cons (G : GG) (x : Nat × BE) (ws : List (Nat × BE)) : bwl G (x :: ws) = (G.2.2 x.1, cncB G x.2) :: bwl G ws := rfl
theorem mdW_obj {a b k ci : Nat} {fs : List Value} {ws : List (Nat × BE)} (h1 : Nat.ble a k = true) (h2 : Nat.ble (k + 1) b = true) (h3 : refIn a b fs = true) (h : mdW a b ws) : mdW a b ((k, .inl (ci, fs)) :: ws) := by
  intro D ids ad ad0 e
  rw [bwl_cons, bwl_cons, h D ids ad ad0 e]
  show (ad k, (Sum.inr (ci, fs.map (vmA ad)) : va_E)) :: _ = (ad0 k, (Sum.inr (ci, fs.map (vmA ad0)) : va_E)) :: _
  rw [refIn_map e fs h3, e k (Nat.le_of_ble_eq_true h1) (Nat.le_of_ble_eq_true h2)]
theorem mdW_arF {a b k t : Nat} {F : (Nat → Nat) → vp_A} {ws : List (Nat × BE)} (h1 : Nat.ble a k = true) (h2 : Nat.ble (k + 1) b = true) (h3 : ∀ ad ad0 : Nat → Nat, (∀ i, a ≤ i → i < b → ad i = ad0 i) → F ad = F ad0) (h : mdW a b ws) : mdW a b ((k, .inr (t, F)) :: ws) := by
  intro D ids ad ad0 e
  rw [bwl_cons, bwl_cons, h D ids ad ad0 e]
  show (ad k, (Sum.inl (ids t, F ad) : va_E)) :: _ = (ad0 k, (Sum.inl (ids t, F ad0) : va_E)) :: _
  rw [h3 ad ad0 e, e k (Nat.le_of_ble_eq_true h1) (Nat.le_of_ble_eq_true h2)]
theorem mdW_arr {a b k t : Nat} {x : vp_A} {ws : List (Nat × BE)} (h1 : Nat.ble a k = true) (h2 : Nat.ble (k + 1) b = true) (h : mdW a b ws) : mdW a b ((k, .inr (t, fun _ => x)) :: ws) := mdW_arF h1 h2 (fun _ _ _ => rfl) h
theorem mdW_app {a b : Nat} {w1 w2 : List (Nat × BE)} (h1 : mdW a b w1) (h2 : mdW a b w2) : mdW a b (w1 ++ w2) := fun D ids ad ad0 e => by rw [bwl_app, bwl_app, h1 D ids ad ad0 e, h2 D ids ad ad0 e]
theorem mdW_mono {a b a2 b2 : Nat} {ws : List (Nat × BE)} (h : mdW a b ws) (h1 : Nat.ble a2 a = true) (h2 : Nat.ble b b2 = true) : mdW a2 b2 ws := fun D ids ad ad0 e => h D ids ad ad0 (fun i h3 h4 => e i (Nat.le_trans (Nat.le_of_ble_eq_true h1) h3) (Nat.lt_of_lt_of_le h4 (Nat.le_of_ble_eq_true h2)))
def loV (b : Nat) : Option Value → Bool
  | some (.ref k) => Nat.ble (k + 1) b
  | _ => true
def loL (b : Nat) : List (Nat × Option Value) → Bool
  | [] => true
  | x :: r => loV b x.2 && loL b r
theorem loL_m {b : Nat} {ad ad0 : Nat → Nat} (h : ∀ i, i < b → ad i = ad0 i) : ∀ L : List (Nat × Option Value), loL b L = true → mLB ad L = mLB ad0 L
  | [], _ => rfl
  | (j, x) :: r, hr => by
    have h2 : (loV b x && loL b r) = true := hr
    rw [Bool.and_eq_true] at h2
    show (j, x.map (vmA ad)) :: mLB ad r = (j, x.map (vmA ad0)) :: mLB ad0 r
    rw [loL_m h r h2.2]
    have h3 : x.map (vmA ad) = x.map (vmA ad0) := by
      cases x with
      | none => rfl
      | some v =>
        cases v with
        | ref k =>
          show some (Value.ref (ad k)) = some (Value.ref (ad0 k))
          rw [h k (Nat.le_of_ble_eq_true h2.1)]
        | _ => rfl
    rw [h3]
theorem upB_in {a n : Nat} {ad ad0 : Nat → Nat} {i : Nat} (h1 : a ≤ i) (h2 : i < a + n) : upB (List.range' a n) ad ad0 i = ad i := if_pos (List.mem_range'_1.mpr ⟨h1, h2⟩)
theorem upB_lo {a n : Nat} {ad ad0 : Nat → Nat} {i : Nat} (h1 : i < a) : upB (List.range' a n) ad ad0 i = ad0 i := if_neg (fun h => absurd (List.mem_range'_1.mp h).1 (by omega))
theorem b_putH {mi : MI} {d : Nat} {X : BX} {ks : List Nat} {pc nc ns idx ci j k : Nat} {L : List (Nat × Option Value)} {st : List Value} {wr : List (Nat × BE)} {C : String} {T : u_T} {N : Nat} {ty0 : Nat → FieldType} {fs : List Value} (fs2 : List Value) {v : Value} (hd : decode mi.2.1 pc = .ok (.putfield idx, 3)) (hf : lnkF mi.1.cls idx ci j) (hc : clsF ci C T N ty0) (hfin : (T j).2.2.2 = false) (hnar : ∀ ad, narrow (ty0 j) (vmA ad v) = vmA ad v) (hfit : ∀ ad, fits (ty0 j) (vmA ad v) = true) (hl : j < fs.length) (hs : fs.set j v = fs2) (kk : BW mi d X ks (pc + 3) L st ((k, .inl (ci, fs2)) :: wr) nc ns) : BW mi d X ks pc L (v :: .ref k :: st) ((k, .inl (ci, fs)) :: wr) nc ns :=
  b_put (q0 := 0) hd hf hc hfin hnar hfit rfl hl (by rw [hs]; exact kk)
theorem b_putFH {mi : MI} {d : Nat} {X : BX} {ks : List Nat} {pc nc ns idx ci j k : Nat} {L : List (Nat × Option Value)} {st : List Value} {wr : List (Nat × BE)} {C : String} {T : u_T} {N : Nat} {ty0 : Nat → FieldType} {fs : List Value} (fs2 : List Value) {v : Value} (hd : decode mi.2.1 pc = .ok (.putfield idx, 3)) (hf : lnkF mi.1.cls idx ci j) (hc : clsF ci C T N ty0) (hfin : (T j).2.2.2 = true) (hin : mi.1.name = "<init>") (hown : C = mi.1.cls) (hnar : ∀ ad, narrow (ty0 j) (vmA ad v) = vmA ad v) (hfit : ∀ ad, fits (ty0 j) (vmA ad v) = true) (hl : j < fs.length) (hs : fs.set j v = fs2) (kk : BW mi d X ks (pc + 3) L st ((k, .inl (ci, fs2)) :: wr) nc ns) : BW mi d X ks pc L (v :: .ref k :: st) ((k, .inl (ci, fs)) :: wr) nc ns :=
  b_putF (q0 := 0) hd hf hc hfin hin hown hnar hfit rfl hl (by rw [hs]; exact kk)
theorem b_newaH {mi : MI} {d : Nat} {X : BX} {ks : List Nat} {pc nc ns N t : Nat} (k : Nat) {L : List (Nat × Option Value)} {st : List Value} {hx : Nat × BE} {wr : List (Nat × BE)} {atype : ArrayType} {ty : FieldType} (hd : decode mi.2.1 pc = .ok (.newarray atype, 2)) (hty : newarray.typeOf atype = ty) (harr : Cond.arrayClass ty ∈ TB) (htt : ∀ G : GG, (tysA G)[t]? = some (G.2.1 t, ty)) (hra : ∀ (U : State) (cA : ClassId), va_RA U cA ty → U.vm.findClass ("[" ++ ty.toString) = some cA) (ha : ∀ cA : ClassId, vp_cell cA (zrB t N) = arrV cA N (fun _ => defaultValue ty)) (hN : Nat.ble N 2000 = true) (hcb : componentBytes ty ≤ 8) (hk : ∀ i, i ∈ ks → i < k) (hlo : mdW 0 k (hx :: wr)) (hL : loL k L = true) (hst : refIn 0 k st = true)
    (kk : BW mi d X ks (pc + 2) L (.ref k :: st) (hx :: (wr ++ [(k, .inr (t, fun _ => zrB t N))])) nc ns) : BW mi d X ks pc L (.int (nI N) :: st) (hx :: wr) (nc + 1) (ns + N) :=
  b_newa (k := k) (t := t) hd hty harr htt hra ha (Nat.le_of_ble_eq_true hN) hcb (fun h => absurd (hk k h) (Nat.lt_irrefl k))
    (fun ad q => loL_m (fun i hi => if_neg (by omega)) L hL) (fun ad q => refIn_map (fun i _ hi => if_neg (by omega)) st hst) (fun G q => hlo G.1 G.2.1 _ _ (fun i _ hi => if_neg (by omega))) kk
theorem b_newqH {mi : MI} {d : Nat} {X : BX} {ks : List Nat} {pc nc ns N idx : Nat} (k : Nat) {L : List (Nat × Option Value)} {st : List Value} {hx : Nat × BE} {wr : List (Nat × BE)} (hd : decode mi.2.1 pc = .ok (.anewarray idx, 3)) (hcl : Cond.classLink mi.1.cls idx "MossSeats$Wood" ∈ TB) (hN : Nat.ble N 2000 = true) (hk : ∀ i, i ∈ ks → i < k) (hlo : mdW 0 k (hx :: wr)) (hL : loL k L = true) (hst : refIn 0 k st = true)
    (kk : BW mi d X ks (pc + 3) L (.ref k :: st) (hx :: (wr ++ [(k, .inr (4, fun _ => (N, .inr (.inr (.inr (.inr (fun _ => none)))))))])) nc ns) : BW mi d X ks pc L (.int (nI N) :: st) (hx :: wr) (nc + 1) (ns + N) :=
  b_newq (k := k) hd hcl (Nat.le_of_ble_eq_true hN) (fun h => absurd (hk k h) (Nat.lt_irrefl k))
    (fun ad q => loL_m (fun i hi => if_neg (by omega)) L hL) (fun ad q => refIn_map (fun i _ hi => if_neg (by omega)) st hst) (fun G q => hlo G.1 G.2.1 _ _ (fun i _ hi => if_neg (by omega))) kk
theorem b_newH {mi mi' : MI} {d d' : Nat} {X : BX} {ks : List Nat} {pc nc ns mc' ms' idx idx2 k ci N : Nat} (a n : Nat) {L : List (Nat × Option Value)} {st : List Value} {hx : Nat × BE} {wr W1 : List (Nat × BE)} {C : String} {T : u_T} {ty0 : Nat → FieldType} {fs0 : List Value}
    (hd : decode mi.2.1 pc = .ok (.new idx, 3)) (hd2 : decode mi.2.1 (pc + 3) = .ok (.dup, 1)) (hd3 : decode mi.2.1 (pc + 4) = .ok (.invokespecial idx2, 3)) (hcl : Cond.classLink mi.1.cls idx C ∈ TB) (hinst : Cond.instantiable C N ∈ TB) (hini : Cond.initialized C ∈ TB) (hc : clsF ci C T N ty0) (hfs : ∀ j, j < N → defaultValue (ty0 j) = vp_V fs0 j)
    (hlk : Cond.methodLink mi.1.cls idx2 mi'.1 ∈ TB) (hm : mthB mi' 0) (hi : Cond.instanceMethod mi'.1 ∈ TB) (hnam : mi'.1.name = "<init>") (hret : mi'.2.2.2 = none) (hB : BMt mi' d' k ci fs0 W1 mc' ms') (hdd : d' < d) (hnl : mi'.2.2.1 ≤ 30) (hcat : (st.map fun v => v.category).sum ≤ 7)
    (hks : ∀ i, i ∈ ks → i < a) (hka : a ≤ k ∧ k < a + n) (hmd : mdW a (a + n) W1) (hlo : mdW 0 a (hx :: wr)) (hL : loL a L = true) (hst : refIn 0 a st = true)
    (kk : BW mi d X ks (pc + 7) L (.ref k :: st) (hx :: (wr ++ W1)) nc ns) : BW mi d X ks pc L st (hx :: wr) (nc + (1 + mc')) (ns + (N + ms')) :=
  b_new (nm := List.range' a n) hd hd2 hd3 hcl hinst hini hc hfs hlk hm hi hnam hret hB hdd hnl hcat (fun i h1 h2 => absurd (hks i h1) (by have := (List.mem_range'_1.mp h2).1; omega)) (List.mem_range'_1.mpr hka) (fun D ids ad ad0 => hmd D ids _ _ (fun i h1 h2 => upB_in h1 h2)) (fun ad ad0 => loL_m (fun i h => upB_lo h) L hL) (fun ad ad0 => refIn_map (fun i _ h => upB_lo h) st hst) (fun D ids ad ad0 => hlo D ids _ _ (fun i _ h => upB_lo h)) kk
theorem b_newNH {host : String} {mi mi' : MI} {d d' : Nat} {X : BX} {ks : List Nat} {pc nc ns mc' ms' idx idx2 k ci N : Nat} (a n : Nat) {L : List (Nat × Option Value)} {st : List Value} {hx : Nat × BE} {wr W1 : List (Nat × BE)} {C : String} {T : u_T} {ty0 : Nat → FieldType} {fs0 : List Value}
    (hd : decode mi.2.1 pc = .ok (.new idx, 3)) (hd2 : decode mi.2.1 (pc + 3) = .ok (.dup, 1)) (hd3 : decode mi.2.1 (pc + 4) = .ok (.invokespecial idx2, 3)) (hcl : Cond.classLink mi.1.cls idx C ∈ TB) (hinst : Cond.instantiable C N ∈ TB) (hini : Cond.initialized C ∈ TB) (hc : clsF ci C T N ty0) (hfs : ∀ j, j < N → defaultValue (ty0 j) = vp_V fs0 j)
    (hlk : ∀ s, XF s → va_Nw (.methodLinkNest mi.1.cls idx2 mi'.1 host) s) (hm : mthB mi' 0) (hi : Cond.instanceMethod mi'.1 ∈ TB) (hnam : mi'.1.name = "<init>") (hret : mi'.2.2.2 = none) (hB : BMt mi' d' k ci fs0 W1 mc' ms') (hdd : d' < d) (hnl : mi'.2.2.1 ≤ 30) (hcat : (st.map fun v => v.category).sum ≤ 7)
    (hks : ∀ i, i ∈ ks → i < a) (hka : a ≤ k ∧ k < a + n) (hmd : mdW a (a + n) W1) (hlo : mdW 0 a (hx :: wr)) (hL : loL a L = true) (hst : refIn 0 a st = true)
    (kk : BW mi d X ks (pc + 7) L (.ref k :: st) (hx :: (wr ++ W1)) nc ns) : BW mi d X ks pc L st (hx :: wr) (nc + (1 + mc')) (ns + (N + ms')) :=
  b_newN (nm := List.range' a n) hd hd2 hd3 hcl hinst hini hc hfs hlk hm hi hnam hret hB hdd hnl hcat (fun i h1 h2 => absurd (hks i h1) (by have := (List.mem_range'_1.mp h2).1; omega)) (List.mem_range'_1.mpr hka) (fun D ids ad ad0 => hmd D ids _ _ (fun i h1 h2 => upB_in h1 h2)) (fun ad ad0 => loL_m (fun i h => upB_lo h) L hL) (fun ad ad0 => refIn_map (fun i _ h => upB_lo h) st hst) (fun D ids ad ad0 => hlo D ids _ _ (fun i _ h => upB_lo h)) kk
theorem mid_at {α : Type} (h : α) (a b : List α) (x : α) : (h :: ((a ++ [x]) ++ b))[a.length + 1]? = some x := by
  rw [List.getElem?_cons_succ, List.getElem?_append_left (by simp), List.getElem?_append_right (Nat.le_refl _), Nat.sub_self]; rfl
theorem mid_set {α : Type} (h : α) (x y : α) (b : List α) : ∀ a : List α, (h :: ((a ++ [x]) ++ b)).set (a.length + 1) y = h :: ((a ++ [y]) ++ b)
  | [] => rfl
  | c :: r => by
    have ih := mid_set h x y b r
    have e := (List.cons.inj (show h :: (((r ++ [x]) ++ b).set r.length y) = h :: ((r ++ [y]) ++ b) from ih)).2
    show h :: c :: (((r ++ [x]) ++ b).set r.length y) = h :: c :: ((r ++ [y]) ++ b)
    rw [e]
theorem b_astqH {mi : MI} {d : Nat} {X : BX} {ks : List Nat} {pc nc ns k n i v : Nat} {L : List (Nat × Option Value)} {st : List Value} {hx : Nat × BE} {wa wb : List (Nat × BE)} {vs : List Value} {f : (Nat → Nat) → Nat → Option Nat} (hd : decode mi.2.1 pc = .ok (.aastore, 1)) (hv : (v, (Sum.inl (6, vs) : BE)) ∈ hx :: ((wa ++ [(k, .inr (4, fun ad => (n, .inr (.inr (.inr (.inr (f ad)))))))]) ++ wb)) (hi : i < n) (hn : n ≤ 2000)
    (kk : BW mi d X ks (pc + 1) L st (hx :: ((wa ++ [(k, .inr (4, fun ad => (n, .inr (.inr (.inr (.inr (va_up (f ad) i (some (ad v)))))))))]) ++ wb)) nc ns) : BW mi d X ks pc L (.ref v :: .int (nI i) :: .ref k :: st) (hx :: ((wa ++ [(k, .inr (4, fun ad => (n, .inr (.inr (.inr (.inr (f ad)))))))]) ++ wb)) nc ns := by
  obtain ⟨qk, hqk⟩ := List.mem_iff_getElem?.mp hv
  refine b_astq (q0 := wa.length + 1) (qk := qk) (f := f) hd (mid_at hx wa wb _) hqk hi hn ?_
  rw [mid_set]
  exact kk
theorem ksW {a n : Nat} {ad ad0 : Nat → Nat} (h : (List.range' a n).map ad = (List.range' a n).map ad0) : ∀ i, a ≤ i → i < a + n → ad i = ad0 i := fun i h1 h2 => List.map_inj_left.mp h i (List.mem_range'_1.mpr ⟨h1, h2⟩)
theorem lX11_43 : ∀ s, XF s → va_Nw (.methodLinkNest RX11 43 yX7_init RX11) s := fun _ h => h.2.1
theorem up4 {k : Nat} (h : k = 9 ∨ k = 134) : upd (upd (upd (upd (fun _ => 0) 0 (-1)) 1 (-1)) 2 (-1)) 3 (-1) = m0i k := by
  funext j
  unfold upd m0i
  rcases h with rfl | rfl
  all_goals
    by_cases h4 : j < 4
    · rcases (show j = 0 ∨ j = 1 ∨ j = 2 ∨ j = 3 by omega) with rfl | rfl | rfl | rfl <;> rfl
    · rw [if_neg (by omega), if_neg (by omega), if_neg (by omega), if_neg (by omega), if_neg (by omega), if_neg (by omega)]; rfl
theorem up137 : upd (fun _ => 0) 4 (nI 4) = m0i 137 := by
  funext j
  unfold upd m0i
  by_cases h4 : j = 4
  · rw [if_pos h4, if_neg (by omega), if_pos (by omega)]
  · rw [if_neg h4, if_neg (by omega), if_neg (by omega)]; rfl
theorem up00 (i : Nat) : upd (fun _ => 0) i (nI 0) = fun _ => 0 := by
  funext j
  unfold upd
  by_cases h : j = i
  · rw [if_pos h]; rfl
  · rw [if_neg h]
set_option maxHeartbeats 800000 in
theorem i_fill : CMt miJ7_fill_53178 0 [.ref 9, .int (-1)] [(9, .inr (0, fun _ => zrB 0 4))] [(9, .inr (0, fun _ => (4, .inl (m0i 9))))] := by
  refine CMt.of (ks := List.range' 9 1) (by decide) (by decide) (fun G0 => ?_)
  refine b_ws (ws2 := [(9, .inr (0, fun _ => (4, .inl (fun _ => 0))))]) rfl ?_
  refine b_iconst (nI 0) (by decide) dJ7_fill_53178_0 ?_
  refine b_istore_n (by decide) rfl dJ7_fill_53178_1 ?_
  refine b_aload_n rfl dJ7_fill_53178_2 ?_
  refine b_alen (q0 := 0) (t := 0) (n := 4) dJ7_fill_53178_3 rfl (fun _ => rfl) (fun _ => rfl) ?_
  refine b_istore_n (by decide) rfl dJ7_fill_53178_4 ?_
  refine b_lo (L2 := [(0, some (.ref 9)), (1, some (.int (-1))), (2, some (.int (nI 0))), (3, some (.int (nI 4)))]) ⟨rfl, rfl, rfl, rfl, trivial⟩ ?_
  refine b_iload_n rfl dJ7_fill_53178_5 ?_
  refine b_iload_n rfl dJ7_fill_53178_6 ?_
  refine b_icmp_ge 20 dJ7_fill_53178_7 (by decide) (fun h => absurd h (by decide)) (fun _ => ?_)
  refine b_aload_n rfl dJ7_fill_53178_10 ?_
  refine b_iload_n rfl dJ7_fill_53178_11 ?_
  refine b_iload_n rfl dJ7_fill_53178_12 ?_
  refine b_iast (q0 := 0) (n := 4) (f := (fun _ => 0)) dJ7_fill_53178_13 rfl (by decide) (by decide) rfl ?_
  refine b_iinc (a := 0) (b := 1) rfl (by decide) (by decide) rfl dJ7_fill_53178_14 ?_
  refine b_goto 5 dJ7_fill_53178_17 (by decide) ?_
  refine b_lo (L2 := [(0, some (.ref 9)), (1, some (.int (-1))), (2, some (.int (nI 1))), (3, some (.int (nI 4)))]) ⟨rfl, rfl, rfl, rfl, trivial⟩ ?_
  refine b_iload_n rfl dJ7_fill_53178_5 ?_
  refine b_iload_n rfl dJ7_fill_53178_6 ?_
  refine b_icmp_ge 20 dJ7_fill_53178_7 (by decide) (fun h => absurd h (by decide)) (fun _ => ?_)
  refine b_aload_n rfl dJ7_fill_53178_10 ?_
  refine b_iload_n rfl dJ7_fill_53178_11 ?_
  refine b_iload_n rfl dJ7_fill_53178_12 ?_
  refine b_iast (q0 := 0) (n := 4) (f := (upd (fun _ => 0) 0 (-1))) dJ7_fill_53178_13 rfl (by decide) (by decide) rfl ?_
  refine b_iinc (a := 1) (b := 2) rfl (by decide) (by decide) rfl dJ7_fill_53178_14 ?_
  refine b_goto 5 dJ7_fill_53178_17 (by decide) ?_
  refine b_lo (L2 := [(0, some (.ref 9)), (1, some (.int (-1))), (2, some (.int (nI 2))), (3, some (.int (nI 4)))]) ⟨rfl, rfl, rfl, rfl, trivial⟩ ?_
  refine b_iload_n rfl dJ7_fill_53178_5 ?_
  refine b_iload_n rfl dJ7_fill_53178_6 ?_
  refine b_icmp_ge 20 dJ7_fill_53178_7 (by decide) (fun h => absurd h (by decide)) (fun _ => ?_)
  refine b_aload_n rfl dJ7_fill_53178_10 ?_
  refine b_iload_n rfl dJ7_fill_53178_11 ?_
  refine b_iload_n rfl dJ7_fill_53178_12 ?_
  refine b_iast (q0 := 0) (n := 4) (f := (upd (upd (fun _ => 0) 0 (-1)) 1 (-1))) dJ7_fill_53178_13 rfl (by decide) (by decide) rfl ?_
  refine b_iinc (a := 2) (b := 3) rfl (by decide) (by decide) rfl dJ7_fill_53178_14 ?_
  refine b_goto 5 dJ7_fill_53178_17 (by decide) ?_
  refine b_lo (L2 := [(0, some (.ref 9)), (1, some (.int (-1))), (2, some (.int (nI 3))), (3, some (.int (nI 4)))]) ⟨rfl, rfl, rfl, rfl, trivial⟩ ?_
  refine b_iload_n rfl dJ7_fill_53178_5 ?_
  refine b_iload_n rfl dJ7_fill_53178_6 ?_
  refine b_icmp_ge 20 dJ7_fill_53178_7 (by decide) (fun h => absurd h (by decide)) (fun _ => ?_)
  refine b_aload_n rfl dJ7_fill_53178_10 ?_
  refine b_iload_n rfl dJ7_fill_53178_11 ?_
  refine b_iload_n rfl dJ7_fill_53178_12 ?_
  refine b_iast (q0 := 0) (n := 4) (f := (upd (upd (upd (fun _ => 0) 0 (-1)) 1 (-1)) 2 (-1))) dJ7_fill_53178_13 rfl (by decide) (by decide) (up4 (Or.inl rfl)) ?_
  refine b_iinc (a := 3) (b := 4) rfl (by decide) (by decide) rfl dJ7_fill_53178_14 ?_
  refine b_goto 5 dJ7_fill_53178_17 (by decide) ?_
  refine b_lo (L2 := [(0, some (.ref 9)), (1, some (.int (-1))), (2, some (.int (nI 4))), (3, some (.int (nI 4)))]) ⟨rfl, rfl, rfl, rfl, trivial⟩ ?_
  refine b_iload_n rfl dJ7_fill_53178_5 ?_
  refine b_iload_n rfl dJ7_fill_53178_6 ?_
  refine b_icmp_ge 20 dJ7_fill_53178_7 (by decide) (fun _ => ?_) (fun h => absurd (by decide) h)
  refine c_retC dJ7_fill_53178_20 rfl (fun Dg ids ad ad0 h => ?_)
  exact mdW_arr (a := 9) (b := 9 + 1) rfl rfl mdW_nil Dg ids ad ad0 (ksW h)
def w_X0 : List (Nat × BE) := [(121, .inl (0, [.ref 122])), (122, .inr (0, fun _ => zrB 0 6))]
theorem md_X0 : mdW 121 (121 + 2) w_X0 := (mdW_obj rfl rfl rfl (mdW_arr rfl rfl mdW_nil))
def w_X1 : List (Nat × BE) := [(130, .inl (1, [.ref 131, .int 0, .int 0])), (131, .inr (0, fun _ => zrB 0 6))]
theorem md_X1 : mdW 130 (130 + 2) w_X1 := (mdW_obj rfl rfl rfl (mdW_arr rfl rfl mdW_nil))
def w_X2 : List (Nat × BE) := [(118, .inl (2, [.int 0, .int 0, .ref 119, .int 0, .int 0, .int 0, .int 0, .int 0, .int 0])), (119, .inr (0, fun _ => zrB 0 60))]
theorem md_X2 : mdW 118 (118 + 2) w_X2 := (mdW_obj rfl rfl rfl (mdW_arr rfl rfl mdW_nil))
def w_X3 : List (Nat × BE) := [(123, .inl (3, [.ref 124, .ref 125, .ref 126, .ref 127, .ref 128, .ref 129])), (124, .inr (0, fun _ => zrB 0 6)), (125, .inr (0, fun _ => zrB 0 6)), (126, .inr (0, fun _ => zrB 0 6)), (127, .inr (0, fun _ => zrB 0 6)), (128, .inr (0, fun _ => zrB 0 64)), (129, .inr (0, fun _ => zrB 0 896))]
theorem md_X3 : mdW 123 (123 + 7) w_X3 := (mdW_obj rfl rfl rfl (mdW_arr rfl rfl (mdW_arr rfl rfl (mdW_arr rfl rfl (mdW_arr rfl rfl (mdW_arr rfl rfl (mdW_arr rfl rfl mdW_nil)))))))
def w_X4 : List (Nat × BE) := [(10, .inl (4, [.ref 11, .ref 12, .ref 13, .int 0, .int 0, .int (-1), .int (-1)])), (11, .inr (0, fun _ => zrB 0 901)), (12, .inr (0, fun _ => zrB 0 901)), (13, .inr (2, fun _ => zrB 2 901))]
theorem md_X4 : mdW 10 (10 + 4) w_X4 := (mdW_obj rfl rfl rfl (mdW_arr rfl rfl (mdW_arr rfl rfl (mdW_arr rfl rfl mdW_nil))))
def w_X7 : List (Nat × BE) := [(14, .inl (7, [.int 0]))]
theorem md_X7 : mdW 14 (14 + 1) w_X7 := (mdW_obj rfl rfl rfl mdW_nil)
def w_X10 : List (Nat × BE) := [(15, .inl (9, [.ref 16, .int 0])), (16, .inr (0, fun _ => zrB 0 3))]
theorem md_X10 : mdW 15 (15 + 2) w_X10 := (mdW_obj rfl rfl rfl (mdW_arr rfl rfl mdW_nil))
def w_X6_17 : List (Nat × BE) := [(17, .inl (6, [.int (nI 4), .int 0, .int 0, .int 0, .int 0, .int 0, .int 0, .ref 18, .ref 19, .ref 20, .ref 21, .ref 22, .ref 23, .ref 24, .ref 25, .ref 26, .ref 27, .ref 28, .ref 29, .ref 30])), (18, .inr (2, fun _ => zrB 2 6)), (19, .inr (0, fun _ => zrB 0 6)), (20, .inr (0, fun _ => zrB 0 6)), (21, .inr (0, fun _ => zrB 0 10)), (22, .inr (0, fun _ => zrB 0 10)), (23, .inr (2, fun _ => zrB 2 7)), (24, .inr (0, fun _ => zrB 0 7)), (25, .inr (0, fun _ => zrB 0 7)), (26, .inr (0, fun _ => zrB 0 7)), (27, .inr (0, fun _ => zrB 0 7)), (28, .inr (0, fun _ => zrB 0 8)), (29, .inr (0, fun _ => zrB 0 8)), (30, .inl (8, [.int 0, .int 0, .int 0, .ref 31, .ref 32, .ref 33, .ref 34, .ref 35, .ref 36])), (31, .inr (0, fun _ => zrB 0 60)), (32, .inr (0, fun _ => zrB 0 60)), (33, .inr (0, fun _ => zrB 0 60)), (34, .inr (0, fun _ => zrB 0 60)), (35, .inr (0, fun _ => zrB 0 60)), (36, .inr (0, fun _ => zrB 0 60))]
theorem md_X6_17 : mdW 17 (17 + 20) w_X6_17 := (mdW_obj rfl rfl rfl (mdW_arr rfl rfl (mdW_arr rfl rfl (mdW_arr rfl rfl (mdW_arr rfl rfl (mdW_arr rfl rfl (mdW_arr rfl rfl (mdW_arr rfl rfl (mdW_arr rfl rfl (mdW_arr rfl rfl (mdW_arr rfl rfl (mdW_arr rfl rfl (mdW_arr rfl rfl (mdW_obj rfl rfl rfl (mdW_arr rfl rfl (mdW_arr rfl rfl (mdW_arr rfl rfl (mdW_arr rfl rfl (mdW_arr rfl rfl (mdW_arr rfl rfl mdW_nil))))))))))))))))))))
def w_X6_37 : List (Nat × BE) := [(37, .inl (6, [.int (nI 4), .int 0, .int 0, .int 0, .int 0, .int 0, .int 0, .ref 38, .ref 39, .ref 40, .ref 41, .ref 42, .ref 43, .ref 44, .ref 45, .ref 46, .ref 47, .ref 48, .ref 49, .ref 50])), (38, .inr (2, fun _ => zrB 2 6)), (39, .inr (0, fun _ => zrB 0 6)), (40, .inr (0, fun _ => zrB 0 6)), (41, .inr (0, fun _ => zrB 0 10)), (42, .inr (0, fun _ => zrB 0 10)), (43, .inr (2, fun _ => zrB 2 7)), (44, .inr (0, fun _ => zrB 0 7)), (45, .inr (0, fun _ => zrB 0 7)), (46, .inr (0, fun _ => zrB 0 7)), (47, .inr (0, fun _ => zrB 0 7)), (48, .inr (0, fun _ => zrB 0 8)), (49, .inr (0, fun _ => zrB 0 8)), (50, .inl (8, [.int 0, .int 0, .int 0, .ref 51, .ref 52, .ref 53, .ref 54, .ref 55, .ref 56])), (51, .inr (0, fun _ => zrB 0 60)), (52, .inr (0, fun _ => zrB 0 60)), (53, .inr (0, fun _ => zrB 0 60)), (54, .inr (0, fun _ => zrB 0 60)), (55, .inr (0, fun _ => zrB 0 60)), (56, .inr (0, fun _ => zrB 0 60))]
theorem md_X6_37 : mdW 37 (37 + 20) w_X6_37 := (mdW_obj rfl rfl rfl (mdW_arr rfl rfl (mdW_arr rfl rfl (mdW_arr rfl rfl (mdW_arr rfl rfl (mdW_arr rfl rfl (mdW_arr rfl rfl (mdW_arr rfl rfl (mdW_arr rfl rfl (mdW_arr rfl rfl (mdW_arr rfl rfl (mdW_arr rfl rfl (mdW_arr rfl rfl (mdW_obj rfl rfl rfl (mdW_arr rfl rfl (mdW_arr rfl rfl (mdW_arr rfl rfl (mdW_arr rfl rfl (mdW_arr rfl rfl (mdW_arr rfl rfl mdW_nil))))))))))))))))))))
def w_X6_58 : List (Nat × BE) := [(58, .inl (6, [.int (nI 4), .int 0, .int 0, .int 0, .int 0, .int 0, .int 0, .ref 59, .ref 60, .ref 61, .ref 62, .ref 63, .ref 64, .ref 65, .ref 66, .ref 67, .ref 68, .ref 69, .ref 70, .ref 71])), (59, .inr (2, fun _ => zrB 2 6)), (60, .inr (0, fun _ => zrB 0 6)), (61, .inr (0, fun _ => zrB 0 6)), (62, .inr (0, fun _ => zrB 0 10)), (63, .inr (0, fun _ => zrB 0 10)), (64, .inr (2, fun _ => zrB 2 7)), (65, .inr (0, fun _ => zrB 0 7)), (66, .inr (0, fun _ => zrB 0 7)), (67, .inr (0, fun _ => zrB 0 7)), (68, .inr (0, fun _ => zrB 0 7)), (69, .inr (0, fun _ => zrB 0 8)), (70, .inr (0, fun _ => zrB 0 8)), (71, .inl (8, [.int 0, .int 0, .int 0, .ref 72, .ref 73, .ref 74, .ref 75, .ref 76, .ref 77])), (72, .inr (0, fun _ => zrB 0 60)), (73, .inr (0, fun _ => zrB 0 60)), (74, .inr (0, fun _ => zrB 0 60)), (75, .inr (0, fun _ => zrB 0 60)), (76, .inr (0, fun _ => zrB 0 60)), (77, .inr (0, fun _ => zrB 0 60))]
theorem md_X6_58 : mdW 58 (58 + 20) w_X6_58 := (mdW_obj rfl rfl rfl (mdW_arr rfl rfl (mdW_arr rfl rfl (mdW_arr rfl rfl (mdW_arr rfl rfl (mdW_arr rfl rfl (mdW_arr rfl rfl (mdW_arr rfl rfl (mdW_arr rfl rfl (mdW_arr rfl rfl (mdW_arr rfl rfl (mdW_arr rfl rfl (mdW_arr rfl rfl (mdW_obj rfl rfl rfl (mdW_arr rfl rfl (mdW_arr rfl rfl (mdW_arr rfl rfl (mdW_arr rfl rfl (mdW_arr rfl rfl (mdW_arr rfl rfl mdW_nil))))))))))))))))))))
def w_X6_78 : List (Nat × BE) := [(78, .inl (6, [.int (nI 4), .int 0, .int 0, .int 0, .int 0, .int 0, .int 0, .ref 79, .ref 80, .ref 81, .ref 82, .ref 83, .ref 84, .ref 85, .ref 86, .ref 87, .ref 88, .ref 89, .ref 90, .ref 91])), (79, .inr (2, fun _ => zrB 2 6)), (80, .inr (0, fun _ => zrB 0 6)), (81, .inr (0, fun _ => zrB 0 6)), (82, .inr (0, fun _ => zrB 0 10)), (83, .inr (0, fun _ => zrB 0 10)), (84, .inr (2, fun _ => zrB 2 7)), (85, .inr (0, fun _ => zrB 0 7)), (86, .inr (0, fun _ => zrB 0 7)), (87, .inr (0, fun _ => zrB 0 7)), (88, .inr (0, fun _ => zrB 0 7)), (89, .inr (0, fun _ => zrB 0 8)), (90, .inr (0, fun _ => zrB 0 8)), (91, .inl (8, [.int 0, .int 0, .int 0, .ref 92, .ref 93, .ref 94, .ref 95, .ref 96, .ref 97])), (92, .inr (0, fun _ => zrB 0 60)), (93, .inr (0, fun _ => zrB 0 60)), (94, .inr (0, fun _ => zrB 0 60)), (95, .inr (0, fun _ => zrB 0 60)), (96, .inr (0, fun _ => zrB 0 60)), (97, .inr (0, fun _ => zrB 0 60))]
theorem md_X6_78 : mdW 78 (78 + 20) w_X6_78 := (mdW_obj rfl rfl rfl (mdW_arr rfl rfl (mdW_arr rfl rfl (mdW_arr rfl rfl (mdW_arr rfl rfl (mdW_arr rfl rfl (mdW_arr rfl rfl (mdW_arr rfl rfl (mdW_arr rfl rfl (mdW_arr rfl rfl (mdW_arr rfl rfl (mdW_arr rfl rfl (mdW_arr rfl rfl (mdW_obj rfl rfl rfl (mdW_arr rfl rfl (mdW_arr rfl rfl (mdW_arr rfl rfl (mdW_arr rfl rfl (mdW_arr rfl rfl (mdW_arr rfl rfl mdW_nil))))))))))))))))))))
def w_X6_98 : List (Nat × BE) := [(98, .inl (6, [.int (nI 4), .int 0, .int 0, .int 0, .int 0, .int 0, .int 0, .ref 99, .ref 100, .ref 101, .ref 102, .ref 103, .ref 104, .ref 105, .ref 106, .ref 107, .ref 108, .ref 109, .ref 110, .ref 111])), (99, .inr (2, fun _ => zrB 2 6)), (100, .inr (0, fun _ => zrB 0 6)), (101, .inr (0, fun _ => zrB 0 6)), (102, .inr (0, fun _ => zrB 0 10)), (103, .inr (0, fun _ => zrB 0 10)), (104, .inr (2, fun _ => zrB 2 7)), (105, .inr (0, fun _ => zrB 0 7)), (106, .inr (0, fun _ => zrB 0 7)), (107, .inr (0, fun _ => zrB 0 7)), (108, .inr (0, fun _ => zrB 0 7)), (109, .inr (0, fun _ => zrB 0 8)), (110, .inr (0, fun _ => zrB 0 8)), (111, .inl (8, [.int 0, .int 0, .int 0, .ref 112, .ref 113, .ref 114, .ref 115, .ref 116, .ref 117])), (112, .inr (0, fun _ => zrB 0 60)), (113, .inr (0, fun _ => zrB 0 60)), (114, .inr (0, fun _ => zrB 0 60)), (115, .inr (0, fun _ => zrB 0 60)), (116, .inr (0, fun _ => zrB 0 60)), (117, .inr (0, fun _ => zrB 0 60))]
theorem md_X6_98 : mdW 98 (98 + 20) w_X6_98 := (mdW_obj rfl rfl rfl (mdW_arr rfl rfl (mdW_arr rfl rfl (mdW_arr rfl rfl (mdW_arr rfl rfl (mdW_arr rfl rfl (mdW_arr rfl rfl (mdW_arr rfl rfl (mdW_arr rfl rfl (mdW_arr rfl rfl (mdW_arr rfl rfl (mdW_arr rfl rfl (mdW_arr rfl rfl (mdW_obj rfl rfl rfl (mdW_arr rfl rfl (mdW_arr rfl rfl (mdW_arr rfl rfl (mdW_arr rfl rfl (mdW_arr rfl rfl (mdW_arr rfl rfl mdW_nil))))))))))))))))))))
def w_X5 : List (Nat × BE) := [(2, .inl (5, [.ref 3, .ref 8, .ref 9])), (3, .inr (3, fun ad => (4, .inr (.inr (.inr (.inr (fun i => if i < 4 then some (ad (4 + i)) else none))))))), (4, .inr (2, fun _ => zrB 2 60)), (5, .inr (2, fun _ => zrB 2 60)), (6, .inr (2, fun _ => zrB 2 60)), (7, .inr (2, fun _ => zrB 2 60)), (8, .inr (0, fun _ => zrB 0 4)), (9, .inr (0, fun _ => (4, .inl (m0i 9))))]
theorem md_X5 : mdW 2 (2 + 8) w_X5 := mdW_obj rfl rfl rfl (mdW_arF rfl rfl (fun ad ad0 e => by
  have h : (fun i => if i < 4 then some (ad (4 + i)) else none) = (fun i => if i < 4 then some (ad0 (4 + i)) else none) := by
    funext i
    by_cases hi : i < 4
    · rw [if_pos hi, if_pos hi, e (4 + i) (by omega) (by omega)]
    · rw [if_neg hi, if_neg hi]
  rw [h]) (mdW_arr rfl rfl (mdW_arr rfl rfl (mdW_arr rfl rfl (mdW_arr rfl rfl (mdW_arr rfl rfl (mdW_arr rfl rfl mdW_nil)))))))
def h_X12 : Nat × BE := (132, .inl (11, [.int 0, .int 0, .long 0, .long 1, .ref 133, .ref 134, .ref 135, .ref 136, .int 0, .int 0, .int (-1), .int (-1), .int 0, .int 0, .int 0, .int 0, .int 0, .int 0, .int 0, .long 0, .ref 137, .ref 138, .ref 139, .int 0, .int 0, .int 0, .ref 140, .int 0, .ref 141, .ref 142, .ref 143, .ref 144, .int 0, .ref 145, .long 0, .long 0, .int 0, .ref 146, .int 0, .int 0, .int 0, .int 0, .int 0, .int 0, .int 0, .int 0, .int 0]))
def a_X12 (f g : Nat → Int32) : List (Nat × BE) := [(133, .inr (0, fun _ => zrB 0 4)), (134, .inr (0, fun _ => (4, .inl (f)))), (135, .inr (2, fun _ => zrB 2 240)), (136, .inr (1, fun _ => zrB 1 900)), (137, .inr (0, fun _ => (1810, .inl (g)))), (138, .inr (0, fun _ => zrB 0 90)), (139, .inr (2, fun _ => zrB 2 65)), (140, .inr (0, fun _ => zrB 0 6)), (141, .inr (0, fun _ => zrB 0 6)), (142, .inr (0, fun _ => zrB 0 6)), (143, .inr (0, fun _ => zrB 0 7)), (144, .inr (0, fun _ => zrB 0 7)), (145, .inr (0, fun _ => zrB 0 246)), (146, .inr (0, fun _ => zrB 0 5))]
def w_X12 : List (Nat × BE) := h_X12 :: a_X12 (m0i 134) (m0i 137)
theorem md_X12 (f g : Nat → Int32) : mdW 132 (132 + 15) (h_X12 :: a_X12 f g) := mdW_obj rfl rfl rfl (mdW_arr rfl rfl (mdW_arr rfl rfl (mdW_arr rfl rfl (mdW_arr rfl rfl (mdW_arr rfl rfl (mdW_arr rfl rfl (mdW_arr rfl rfl (mdW_arr rfl rfl (mdW_arr rfl rfl (mdW_arr rfl rfl (mdW_arr rfl rfl (mdW_arr rfl rfl (mdW_arr rfl rfl (mdW_arr rfl rfl mdW_nil))))))))))))))
set_option maxHeartbeats 800000 in
theorem i_empL (G0 : GG) (hend : BW miX12_empties 0 (xC (List.range' 132 15) G0 (h_X12 :: a_X12 (m0i 134) (m0i 137))) (List.range' 132 15) 28 [(0, some (.ref 132)), (1, some (.int (nI 0)))] [] (h_X12 :: a_X12 (m0i 134) (fun _ => 0)) 0 0) : ∀ n i : Nat, i + n = 362 → BW miX12_empties 0 (xC (List.range' 132 15) G0 (h_X12 :: a_X12 (m0i 134) (m0i 137))) (List.range' 132 15) 2 [(0, some (.ref 132)), (1, some (.int (nI 0))), (2, some (.int (nI i)))] [] (h_X12 :: a_X12 (m0i 134) (fun _ => 0)) 0 0 := by
  intro n
  induction n with
  | zero =>
    intro i hi
    refine b_iload_n rfl dX12_empties_2 ?_
    refine b_sipush (nI 362) (by decide) dX12_empties_3 ?_
    have e : i = 362 := by omega
    subst e
    refine b_icmp_ge 28 dX12_empties_6 (by decide) (fun _ => ?_) (fun h => absurd (by decide) h)
    exact b_lo (L2 := [(0, some (.ref 132)), (1, some (.int (nI 0)))]) ⟨rfl, rfl, trivial⟩ hend
  | succ n ih =>
    intro i hi
    refine b_iload_n rfl dX12_empties_2 ?_
    refine b_sipush (nI 362) (by decide) dX12_empties_3 ?_
    refine b_icmp_ge 28 dX12_empties_6 (by decide) (fun h => absurd h (fun q => by rw [Int32.le_iff_toInt_le, nI_toInt (by omega), nI_toInt (by omega)] at q; omega)) (fun _ => ?_)
    refine b_aload_n rfl dX12_empties_9 ?_
    refine b_get (q0 := 0) dX12_empties_10 fX12_35 clsF_11 rfl rfl ?_
    refine b_sipush (nI 362) (by decide) dX12_empties_13 ?_
    refine b_iload_n rfl dX12_empties_16 ?_
    refine b_imul (z := nI 0) (by decide) dX12_empties_17 ?_
    refine b_iload_n rfl dX12_empties_18 ?_
    refine b_iadd (z := nI i) (by rw [nI_add, Nat.zero_add]) dX12_empties_19 ?_
    refine b_iconst (nI 0) (by decide) dX12_empties_20 ?_
    refine b_iast (q0 := 5) (n := 1810) (i := i) (f := fun _ => 0) dX12_empties_21 rfl (by omega) (by omega) (up00 i) ?_
    refine b_ws (ws2 := (h_X12 :: a_X12 (m0i 134) (fun _ => 0))) rfl ?_
    refine b_iinc (a := i) (b := i + 1) (n := 1) rfl (by rw [show Int32.ofInt 1 = nI 1 from rfl, nI_add]) (by decide) rfl dX12_empties_22 ?_
    refine b_goto 2 dX12_empties_25 (by decide) ?_
    exact b_lo (L2 := [(0, some (.ref 132)), (1, some (.int (nI 0))), (2, some (.int (nI (i + 1))))]) ⟨rfl, rfl, rfl, trivial⟩ (ih (i + 1) (by omega))
set_option maxHeartbeats 800000 in
theorem i_emp : CMt miX12_empties 0 [.ref 132, .int (nI 0)] (h_X12 :: a_X12 (m0i 134) (fun _ => 0)) (h_X12 :: a_X12 (m0i 134) (m0i 137)) := by
  refine CMt.of (ks := List.range' 132 15) (by decide) (by decide) (fun G0 => ?_)
  refine b_iconst (nI 0) (by decide) dX12_empties_0 ?_
  refine b_istore_n (by decide) rfl dX12_empties_1 ?_
  refine b_lo (L2 := [(0, some (.ref 132)), (1, some (.int (nI 0))), (2, some (.int (nI 0)))]) ⟨rfl, rfl, rfl, trivial⟩ ?_
  refine i_empL G0 ?_ 362 0 rfl
  refine b_aload_n rfl dX12_empties_28 ?_
  refine b_get (q0 := 0) dX12_empties_29 fX12_35 clsF_11 rfl rfl ?_
  refine b_sipush (nI 362) (by decide) dX12_empties_32 ?_
  refine b_iload_n rfl dX12_empties_35 ?_
  refine b_imul (z := nI 0) (by decide) dX12_empties_36 ?_
  refine b_iconst (nI 4) (by decide) dX12_empties_37 ?_
  refine b_iadd (z := nI 4) (by decide) dX12_empties_38 ?_
  refine b_iconst (nI 4) (by decide) dX12_empties_39 ?_
  refine b_iast (q0 := 5) (n := 1810) (i := 4) (f := fun _ => 0) dX12_empties_40 rfl (by decide) (by decide) up137 ?_
  refine b_ws (ws2 := (h_X12 :: a_X12 (m0i 134) (m0i 137))) rfl ?_
  exact c_retC dX12_empties_41 rfl (fun Dg ids ad ad0 h => md_X12 _ _ Dg ids ad ad0 (ksW h))
set_option maxRecDepth 100000 in
set_option maxHeartbeats 3200000 in
theorem i_X12 : BMt miX12_init 1 132 11 [.int 0, .int 0, .long 0, .long 0, .null, .null, .null, .null, .int 0, .int 0, .int 0, .int 0, .int 0, .int 0, .int 0, .int 0, .int 0, .int 0, .int 0, .long 0, .null, .null, .null, .int 0, .int 0, .int 0, .null, .int 0, .null, .null, .null, .null, .int 0, .null, .long 0, .long 0, .int 0, .null, .int 0, .int 0, .int 0, .int 0, .int 0, .int 0, .int 0, .int 0, .int 0] w_X12 14 3396 := by
  refine BMt.of (by decide) (by decide) (fun _ => rfl) ?_
  refine b_aload_n rfl dX12_init_0 ?_
  refine b_obj dX12_init_1 lobX12 ?_
  refine b_aload_n rfl dX12_init_4 ?_
  refine b_lconst 1 (by decide) dX12_init_5 ?_
  refine b_putH [.int 0, .int 0, .long 0, .long 1, .null, .null, .null, .null, .int 0, .int 0, .int 0, .int 0, .int 0, .int 0, .int 0, .int 0, .int 0, .int 0, .int 0, .long 0, .null, .null, .null, .int 0, .int 0, .int 0, .null, .int 0, .null, .null, .null, .null, .int 0, .null, .long 0, .long 0, .int 0, .null, .int 0, .int 0, .int 0, .int 0, .int 0, .int 0, .int 0, .int 0, .int 0] dX12_init_6 fX12_7 clsF_11 rfl (fun _ => rfl) (fun _ => rfl) (by decide) rfl ?_
  refine b_aload_n rfl dX12_init_9 ?_
  refine b_iconst (nI 4) (by decide) dX12_init_10 ?_
  refine b_newaH 133 (t := 0) (N := 4) (nc := 13) (ns := 3392) dX12_init_11 rfl war_int (fun _ => rfl) hra_int (zr_int 4) rfl (by decide) (by decide) (mdW_obj rfl rfl rfl mdW_nil) rfl rfl ?_
  refine b_putFH [.int 0, .int 0, .long 0, .long 1, .ref 133, .null, .null, .null, .int 0, .int 0, .int 0, .int 0, .int 0, .int 0, .int 0, .int 0, .int 0, .int 0, .int 0, .long 0, .null, .null, .null, .int 0, .int 0, .int 0, .null, .int 0, .null, .null, .null, .null, .int 0, .null, .long 0, .long 0, .int 0, .null, .int 0, .int 0, .int 0, .int 0, .int 0, .int 0, .int 0, .int 0, .int 0] dX12_init_13 fX12_13 clsF_11 rfl rfl rfl (fun _ => rfl) (fun _ => rfl) (by decide) rfl ?_
  refine b_aload_n rfl dX12_init_16 ?_
  refine b_iconst (nI 4) (by decide) dX12_init_17 ?_
  refine b_newaH 134 (t := 0) (N := 4) (nc := 12) (ns := 3388) dX12_init_18 rfl war_int (fun _ => rfl) hra_int (zr_int 4) rfl (by decide) (by decide) (mdW_obj rfl rfl rfl (mdW_app mdW_nil (mdW_arr rfl rfl mdW_nil))) rfl rfl ?_
  refine b_putFH [.int 0, .int 0, .long 0, .long 1, .ref 133, .ref 134, .null, .null, .int 0, .int 0, .int 0, .int 0, .int 0, .int 0, .int 0, .int 0, .int 0, .int 0, .int 0, .long 0, .null, .null, .null, .int 0, .int 0, .int 0, .null, .int 0, .null, .null, .null, .null, .int 0, .null, .long 0, .long 0, .int 0, .null, .int 0, .int 0, .int 0, .int 0, .int 0, .int 0, .int 0, .int 0, .int 0] dX12_init_20 fX12_17 clsF_11 rfl rfl rfl (fun _ => rfl) (fun _ => rfl) (by decide) rfl ?_
  refine b_aload_n rfl dX12_init_23 ?_
  refine b_sipush (nI 240) (by decide) dX12_init_24 ?_
  refine b_newaH 135 (t := 2) (N := 240) (nc := 11) (ns := 3148) dX12_init_27 rfl war_long (fun _ => rfl) hra_long (zr_long 240) rfl (by decide) (by decide) (mdW_obj rfl rfl rfl (mdW_app (mdW_app mdW_nil (mdW_arr rfl rfl mdW_nil)) (mdW_arr rfl rfl mdW_nil))) rfl rfl ?_
  refine b_putFH [.int 0, .int 0, .long 0, .long 1, .ref 133, .ref 134, .ref 135, .null, .int 0, .int 0, .int 0, .int 0, .int 0, .int 0, .int 0, .int 0, .int 0, .int 0, .int 0, .long 0, .null, .null, .null, .int 0, .int 0, .int 0, .null, .int 0, .null, .null, .null, .null, .int 0, .null, .long 0, .long 0, .int 0, .null, .int 0, .int 0, .int 0, .int 0, .int 0, .int 0, .int 0, .int 0, .int 0] dX12_init_29 fX12_20 clsF_11 rfl rfl rfl (fun _ => rfl) (fun _ => rfl) (by decide) rfl ?_
  refine b_aload_n rfl dX12_init_32 ?_
  refine b_sipush (nI 900) (by decide) dX12_init_33 ?_
  refine b_newaH 136 (t := 1) (N := 900) (nc := 10) (ns := 2248) dX12_init_36 rfl war_byte (fun _ => rfl) hra_byte (zr_byte 900) rfl (by decide) (by decide) (mdW_obj rfl rfl rfl (mdW_app (mdW_app (mdW_app mdW_nil (mdW_arr rfl rfl mdW_nil)) (mdW_arr rfl rfl mdW_nil)) (mdW_arr rfl rfl mdW_nil))) rfl rfl ?_
  refine b_putFH [.int 0, .int 0, .long 0, .long 1, .ref 133, .ref 134, .ref 135, .ref 136, .int 0, .int 0, .int 0, .int 0, .int 0, .int 0, .int 0, .int 0, .int 0, .int 0, .int 0, .long 0, .null, .null, .null, .int 0, .int 0, .int 0, .null, .int 0, .null, .null, .null, .null, .int 0, .null, .long 0, .long 0, .int 0, .null, .int 0, .int 0, .int 0, .int 0, .int 0, .int 0, .int 0, .int 0, .int 0] dX12_init_38 fX12_24 clsF_11 rfl rfl rfl (fun _ => rfl) (fun _ => rfl) (by decide) rfl ?_
  refine b_aload_n rfl dX12_init_41 ?_
  refine b_iconst (-1) (by decide) dX12_init_42 ?_
  refine b_putH [.int 0, .int 0, .long 0, .long 1, .ref 133, .ref 134, .ref 135, .ref 136, .int 0, .int 0, .int (-1), .int 0, .int 0, .int 0, .int 0, .int 0, .int 0, .int 0, .int 0, .long 0, .null, .null, .null, .int 0, .int 0, .int 0, .null, .int 0, .null, .null, .null, .null, .int 0, .null, .long 0, .long 0, .int 0, .null, .int 0, .int 0, .int 0, .int 0, .int 0, .int 0, .int 0, .int 0, .int 0] dX12_init_43 fX12_28 clsF_11 rfl (fun _ => rfl) (fun _ => rfl) (by decide) rfl ?_
  refine b_aload_n rfl dX12_init_46 ?_
  refine b_iconst (-1) (by decide) dX12_init_47 ?_
  refine b_putH [.int 0, .int 0, .long 0, .long 1, .ref 133, .ref 134, .ref 135, .ref 136, .int 0, .int 0, .int (-1), .int (-1), .int 0, .int 0, .int 0, .int 0, .int 0, .int 0, .int 0, .long 0, .null, .null, .null, .int 0, .int 0, .int 0, .null, .int 0, .null, .null, .null, .null, .int 0, .null, .long 0, .long 0, .int 0, .null, .int 0, .int 0, .int 0, .int 0, .int 0, .int 0, .int 0, .int 0, .int 0] dX12_init_48 fX12_32 clsF_11 rfl (fun _ => rfl) (fun _ => rfl) (by decide) rfl ?_
  refine b_aload_n rfl dX12_init_51 ?_
  refine b_sipush (nI 1810) (by decide) dX12_init_52 ?_
  refine b_newaH 137 (t := 0) (N := 1810) (nc := 9) (ns := 438) dX12_init_55 rfl war_int (fun _ => rfl) hra_int (zr_int 1810) rfl (by decide) (by decide) (mdW_obj rfl rfl rfl (mdW_app (mdW_app (mdW_app (mdW_app mdW_nil (mdW_arr rfl rfl mdW_nil)) (mdW_arr rfl rfl mdW_nil)) (mdW_arr rfl rfl mdW_nil)) (mdW_arr rfl rfl mdW_nil))) rfl rfl ?_
  refine b_putFH [.int 0, .int 0, .long 0, .long 1, .ref 133, .ref 134, .ref 135, .ref 136, .int 0, .int 0, .int (-1), .int (-1), .int 0, .int 0, .int 0, .int 0, .int 0, .int 0, .int 0, .long 0, .ref 137, .null, .null, .int 0, .int 0, .int 0, .null, .int 0, .null, .null, .null, .null, .int 0, .null, .long 0, .long 0, .int 0, .null, .int 0, .int 0, .int 0, .int 0, .int 0, .int 0, .int 0, .int 0, .int 0] dX12_init_57 fX12_35 clsF_11 rfl rfl rfl (fun _ => rfl) (fun _ => rfl) (by decide) rfl ?_
  refine b_aload_n rfl dX12_init_60 ?_
  refine b_bipush (nI 90) (by decide) dX12_init_61 ?_
  refine b_newaH 138 (t := 0) (N := 90) (nc := 8) (ns := 348) dX12_init_63 rfl war_int (fun _ => rfl) hra_int (zr_int 90) rfl (by decide) (by decide) (mdW_obj rfl rfl rfl (mdW_app (mdW_app (mdW_app (mdW_app (mdW_app mdW_nil (mdW_arr rfl rfl mdW_nil)) (mdW_arr rfl rfl mdW_nil)) (mdW_arr rfl rfl mdW_nil)) (mdW_arr rfl rfl mdW_nil)) (mdW_arr rfl rfl mdW_nil))) rfl rfl ?_
  refine b_putFH [.int 0, .int 0, .long 0, .long 1, .ref 133, .ref 134, .ref 135, .ref 136, .int 0, .int 0, .int (-1), .int (-1), .int 0, .int 0, .int 0, .int 0, .int 0, .int 0, .int 0, .long 0, .ref 137, .ref 138, .null, .int 0, .int 0, .int 0, .null, .int 0, .null, .null, .null, .null, .int 0, .null, .long 0, .long 0, .int 0, .null, .int 0, .int 0, .int 0, .int 0, .int 0, .int 0, .int 0, .int 0, .int 0] dX12_init_65 fX12_38 clsF_11 rfl rfl rfl (fun _ => rfl) (fun _ => rfl) (by decide) rfl ?_
  refine b_aload_n rfl dX12_init_68 ?_
  refine b_bipush (nI 65) (by decide) dX12_init_69 ?_
  refine b_newaH 139 (t := 2) (N := 65) (nc := 7) (ns := 283) dX12_init_71 rfl war_long (fun _ => rfl) hra_long (zr_long 65) rfl (by decide) (by decide) (mdW_obj rfl rfl rfl (mdW_app (mdW_app (mdW_app (mdW_app (mdW_app (mdW_app mdW_nil (mdW_arr rfl rfl mdW_nil)) (mdW_arr rfl rfl mdW_nil)) (mdW_arr rfl rfl mdW_nil)) (mdW_arr rfl rfl mdW_nil)) (mdW_arr rfl rfl mdW_nil)) (mdW_arr rfl rfl mdW_nil))) rfl rfl ?_
  refine b_putFH [.int 0, .int 0, .long 0, .long 1, .ref 133, .ref 134, .ref 135, .ref 136, .int 0, .int 0, .int (-1), .int (-1), .int 0, .int 0, .int 0, .int 0, .int 0, .int 0, .int 0, .long 0, .ref 137, .ref 138, .ref 139, .int 0, .int 0, .int 0, .null, .int 0, .null, .null, .null, .null, .int 0, .null, .long 0, .long 0, .int 0, .null, .int 0, .int 0, .int 0, .int 0, .int 0, .int 0, .int 0, .int 0, .int 0] dX12_init_73 fX12_41 clsF_11 rfl rfl rfl (fun _ => rfl) (fun _ => rfl) (by decide) rfl ?_
  refine b_aload_n rfl dX12_init_76 ?_
  refine b_bipush (nI 6) (by decide) dX12_init_77 ?_
  refine b_newaH 140 (t := 0) (N := 6) (nc := 6) (ns := 277) dX12_init_79 rfl war_int (fun _ => rfl) hra_int (zr_int 6) rfl (by decide) (by decide) (mdW_obj rfl rfl rfl (mdW_app (mdW_app (mdW_app (mdW_app (mdW_app (mdW_app (mdW_app mdW_nil (mdW_arr rfl rfl mdW_nil)) (mdW_arr rfl rfl mdW_nil)) (mdW_arr rfl rfl mdW_nil)) (mdW_arr rfl rfl mdW_nil)) (mdW_arr rfl rfl mdW_nil)) (mdW_arr rfl rfl mdW_nil)) (mdW_arr rfl rfl mdW_nil))) rfl rfl ?_
  refine b_putFH [.int 0, .int 0, .long 0, .long 1, .ref 133, .ref 134, .ref 135, .ref 136, .int 0, .int 0, .int (-1), .int (-1), .int 0, .int 0, .int 0, .int 0, .int 0, .int 0, .int 0, .long 0, .ref 137, .ref 138, .ref 139, .int 0, .int 0, .int 0, .ref 140, .int 0, .null, .null, .null, .null, .int 0, .null, .long 0, .long 0, .int 0, .null, .int 0, .int 0, .int 0, .int 0, .int 0, .int 0, .int 0, .int 0, .int 0] dX12_init_81 fX12_44 clsF_11 rfl rfl rfl (fun _ => rfl) (fun _ => rfl) (by decide) rfl ?_
  refine b_aload_n rfl dX12_init_84 ?_
  refine b_bipush (nI 6) (by decide) dX12_init_85 ?_
  refine b_newaH 141 (t := 0) (N := 6) (nc := 5) (ns := 271) dX12_init_87 rfl war_int (fun _ => rfl) hra_int (zr_int 6) rfl (by decide) (by decide) (mdW_obj rfl rfl rfl (mdW_app (mdW_app (mdW_app (mdW_app (mdW_app (mdW_app (mdW_app (mdW_app mdW_nil (mdW_arr rfl rfl mdW_nil)) (mdW_arr rfl rfl mdW_nil)) (mdW_arr rfl rfl mdW_nil)) (mdW_arr rfl rfl mdW_nil)) (mdW_arr rfl rfl mdW_nil)) (mdW_arr rfl rfl mdW_nil)) (mdW_arr rfl rfl mdW_nil)) (mdW_arr rfl rfl mdW_nil))) rfl rfl ?_
  refine b_putFH [.int 0, .int 0, .long 0, .long 1, .ref 133, .ref 134, .ref 135, .ref 136, .int 0, .int 0, .int (-1), .int (-1), .int 0, .int 0, .int 0, .int 0, .int 0, .int 0, .int 0, .long 0, .ref 137, .ref 138, .ref 139, .int 0, .int 0, .int 0, .ref 140, .int 0, .ref 141, .null, .null, .null, .int 0, .null, .long 0, .long 0, .int 0, .null, .int 0, .int 0, .int 0, .int 0, .int 0, .int 0, .int 0, .int 0, .int 0] dX12_init_89 fX12_47 clsF_11 rfl rfl rfl (fun _ => rfl) (fun _ => rfl) (by decide) rfl ?_
  refine b_aload_n rfl dX12_init_92 ?_
  refine b_bipush (nI 6) (by decide) dX12_init_93 ?_
  refine b_newaH 142 (t := 0) (N := 6) (nc := 4) (ns := 265) dX12_init_95 rfl war_int (fun _ => rfl) hra_int (zr_int 6) rfl (by decide) (by decide) (mdW_obj rfl rfl rfl (mdW_app (mdW_app (mdW_app (mdW_app (mdW_app (mdW_app (mdW_app (mdW_app (mdW_app mdW_nil (mdW_arr rfl rfl mdW_nil)) (mdW_arr rfl rfl mdW_nil)) (mdW_arr rfl rfl mdW_nil)) (mdW_arr rfl rfl mdW_nil)) (mdW_arr rfl rfl mdW_nil)) (mdW_arr rfl rfl mdW_nil)) (mdW_arr rfl rfl mdW_nil)) (mdW_arr rfl rfl mdW_nil)) (mdW_arr rfl rfl mdW_nil))) rfl rfl ?_
  refine b_putFH [.int 0, .int 0, .long 0, .long 1, .ref 133, .ref 134, .ref 135, .ref 136, .int 0, .int 0, .int (-1), .int (-1), .int 0, .int 0, .int 0, .int 0, .int 0, .int 0, .int 0, .long 0, .ref 137, .ref 138, .ref 139, .int 0, .int 0, .int 0, .ref 140, .int 0, .ref 141, .ref 142, .null, .null, .int 0, .null, .long 0, .long 0, .int 0, .null, .int 0, .int 0, .int 0, .int 0, .int 0, .int 0, .int 0, .int 0, .int 0] dX12_init_97 fX12_50 clsF_11 rfl rfl rfl (fun _ => rfl) (fun _ => rfl) (by decide) rfl ?_
  refine b_aload_n rfl dX12_init_100 ?_
  refine b_bipush (nI 7) (by decide) dX12_init_101 ?_
  refine b_newaH 143 (t := 0) (N := 7) (nc := 3) (ns := 258) dX12_init_103 rfl war_int (fun _ => rfl) hra_int (zr_int 7) rfl (by decide) (by decide) (mdW_obj rfl rfl rfl (mdW_app (mdW_app (mdW_app (mdW_app (mdW_app (mdW_app (mdW_app (mdW_app (mdW_app (mdW_app mdW_nil (mdW_arr rfl rfl mdW_nil)) (mdW_arr rfl rfl mdW_nil)) (mdW_arr rfl rfl mdW_nil)) (mdW_arr rfl rfl mdW_nil)) (mdW_arr rfl rfl mdW_nil)) (mdW_arr rfl rfl mdW_nil)) (mdW_arr rfl rfl mdW_nil)) (mdW_arr rfl rfl mdW_nil)) (mdW_arr rfl rfl mdW_nil)) (mdW_arr rfl rfl mdW_nil))) rfl rfl ?_
  refine b_putFH [.int 0, .int 0, .long 0, .long 1, .ref 133, .ref 134, .ref 135, .ref 136, .int 0, .int 0, .int (-1), .int (-1), .int 0, .int 0, .int 0, .int 0, .int 0, .int 0, .int 0, .long 0, .ref 137, .ref 138, .ref 139, .int 0, .int 0, .int 0, .ref 140, .int 0, .ref 141, .ref 142, .ref 143, .null, .int 0, .null, .long 0, .long 0, .int 0, .null, .int 0, .int 0, .int 0, .int 0, .int 0, .int 0, .int 0, .int 0, .int 0] dX12_init_105 fX12_53 clsF_11 rfl rfl rfl (fun _ => rfl) (fun _ => rfl) (by decide) rfl ?_
  refine b_aload_n rfl dX12_init_108 ?_
  refine b_bipush (nI 7) (by decide) dX12_init_109 ?_
  refine b_newaH 144 (t := 0) (N := 7) (nc := 2) (ns := 251) dX12_init_111 rfl war_int (fun _ => rfl) hra_int (zr_int 7) rfl (by decide) (by decide) (mdW_obj rfl rfl rfl (mdW_app (mdW_app (mdW_app (mdW_app (mdW_app (mdW_app (mdW_app (mdW_app (mdW_app (mdW_app (mdW_app mdW_nil (mdW_arr rfl rfl mdW_nil)) (mdW_arr rfl rfl mdW_nil)) (mdW_arr rfl rfl mdW_nil)) (mdW_arr rfl rfl mdW_nil)) (mdW_arr rfl rfl mdW_nil)) (mdW_arr rfl rfl mdW_nil)) (mdW_arr rfl rfl mdW_nil)) (mdW_arr rfl rfl mdW_nil)) (mdW_arr rfl rfl mdW_nil)) (mdW_arr rfl rfl mdW_nil)) (mdW_arr rfl rfl mdW_nil))) rfl rfl ?_
  refine b_putFH [.int 0, .int 0, .long 0, .long 1, .ref 133, .ref 134, .ref 135, .ref 136, .int 0, .int 0, .int (-1), .int (-1), .int 0, .int 0, .int 0, .int 0, .int 0, .int 0, .int 0, .long 0, .ref 137, .ref 138, .ref 139, .int 0, .int 0, .int 0, .ref 140, .int 0, .ref 141, .ref 142, .ref 143, .ref 144, .int 0, .null, .long 0, .long 0, .int 0, .null, .int 0, .int 0, .int 0, .int 0, .int 0, .int 0, .int 0, .int 0, .int 0] dX12_init_113 fX12_56 clsF_11 rfl rfl rfl (fun _ => rfl) (fun _ => rfl) (by decide) rfl ?_
  refine b_aload_n rfl dX12_init_116 ?_
  refine b_sipush (nI 246) (by decide) dX12_init_117 ?_
  refine b_newaH 145 (t := 0) (N := 246) (nc := 1) (ns := 5) dX12_init_120 rfl war_int (fun _ => rfl) hra_int (zr_int 246) rfl (by decide) (by decide) (mdW_obj rfl rfl rfl (mdW_app (mdW_app (mdW_app (mdW_app (mdW_app (mdW_app (mdW_app (mdW_app (mdW_app (mdW_app (mdW_app (mdW_app mdW_nil (mdW_arr rfl rfl mdW_nil)) (mdW_arr rfl rfl mdW_nil)) (mdW_arr rfl rfl mdW_nil)) (mdW_arr rfl rfl mdW_nil)) (mdW_arr rfl rfl mdW_nil)) (mdW_arr rfl rfl mdW_nil)) (mdW_arr rfl rfl mdW_nil)) (mdW_arr rfl rfl mdW_nil)) (mdW_arr rfl rfl mdW_nil)) (mdW_arr rfl rfl mdW_nil)) (mdW_arr rfl rfl mdW_nil)) (mdW_arr rfl rfl mdW_nil))) rfl rfl ?_
  refine b_putFH [.int 0, .int 0, .long 0, .long 1, .ref 133, .ref 134, .ref 135, .ref 136, .int 0, .int 0, .int (-1), .int (-1), .int 0, .int 0, .int 0, .int 0, .int 0, .int 0, .int 0, .long 0, .ref 137, .ref 138, .ref 139, .int 0, .int 0, .int 0, .ref 140, .int 0, .ref 141, .ref 142, .ref 143, .ref 144, .int 0, .ref 145, .long 0, .long 0, .int 0, .null, .int 0, .int 0, .int 0, .int 0, .int 0, .int 0, .int 0, .int 0, .int 0] dX12_init_122 fX12_59 clsF_11 rfl rfl rfl (fun _ => rfl) (fun _ => rfl) (by decide) rfl ?_
  refine b_aload_n rfl dX12_init_125 ?_
  refine b_iconst (nI 5) (by decide) dX12_init_126 ?_
  refine b_newaH 146 (t := 0) (N := 5) (nc := 0) (ns := 0) dX12_init_127 rfl war_int (fun _ => rfl) hra_int (zr_int 5) rfl (by decide) (by decide) (mdW_obj rfl rfl rfl (mdW_app (mdW_app (mdW_app (mdW_app (mdW_app (mdW_app (mdW_app (mdW_app (mdW_app (mdW_app (mdW_app (mdW_app (mdW_app mdW_nil (mdW_arr rfl rfl mdW_nil)) (mdW_arr rfl rfl mdW_nil)) (mdW_arr rfl rfl mdW_nil)) (mdW_arr rfl rfl mdW_nil)) (mdW_arr rfl rfl mdW_nil)) (mdW_arr rfl rfl mdW_nil)) (mdW_arr rfl rfl mdW_nil)) (mdW_arr rfl rfl mdW_nil)) (mdW_arr rfl rfl mdW_nil)) (mdW_arr rfl rfl mdW_nil)) (mdW_arr rfl rfl mdW_nil)) (mdW_arr rfl rfl mdW_nil)) (mdW_arr rfl rfl mdW_nil))) rfl rfl ?_
  refine b_putFH [.int 0, .int 0, .long 0, .long 1, .ref 133, .ref 134, .ref 135, .ref 136, .int 0, .int 0, .int (-1), .int (-1), .int 0, .int 0, .int 0, .int 0, .int 0, .int 0, .int 0, .long 0, .ref 137, .ref 138, .ref 139, .int 0, .int 0, .int 0, .ref 140, .int 0, .ref 141, .ref 142, .ref 143, .ref 144, .int 0, .ref 145, .long 0, .long 0, .int 0, .ref 146, .int 0, .int 0, .int 0, .int 0, .int 0, .int 0, .int 0, .int 0, .int 0] dX12_init_129 fX12_62 clsF_11 rfl rfl rfl (fun _ => rfl) (fun _ => rfl) (by decide) rfl ?_
  refine b_iconst (nI 0) (by decide) dX12_init_132 ?_
  refine b_istore_n (by decide) rfl dX12_init_133 ?_
  refine b_ws (ws2 := h_X12 :: a_X12 (fun _ => 0) (fun _ => 0)) rfl ?_
  refine b_lo (L2 := [(0, some (.ref 132)), (1, some (.int (nI 0)))]) ⟨rfl, rfl, trivial⟩ ?_
  refine b_iload_n rfl dX12_init_134 ?_
  refine b_iconst (nI 4) (by decide) dX12_init_135 ?_
  refine b_icmp_ge 152 dX12_init_136 (by decide) (fun h => absurd h (by decide)) (fun _ => ?_)
  refine b_aload_n rfl dX12_init_139 ?_
  refine b_get (q0 := 0) dX12_init_140 fX12_17 clsF_11 rfl rfl ?_
  refine b_iload_n rfl dX12_init_143 ?_
  refine b_iconst (-1) (by decide) dX12_init_144 ?_
  refine b_iast (q0 := 2) (n := 4) (i := 0) (f := (fun _ => 0)) dX12_init_145 rfl (by decide) (by decide) rfl ?_
  refine b_ws (ws2 := h_X12 :: a_X12 (upd (fun _ => 0) 0 (-1)) (fun _ => 0)) rfl ?_
  refine b_iinc (a := 0) (b := 1) rfl (by decide) (by decide) rfl dX12_init_146 ?_
  refine b_goto 134 dX12_init_149 (by decide) ?_
  refine b_lo (L2 := [(0, some (.ref 132)), (1, some (.int (nI 1)))]) ⟨rfl, rfl, trivial⟩ ?_
  refine b_iload_n rfl dX12_init_134 ?_
  refine b_iconst (nI 4) (by decide) dX12_init_135 ?_
  refine b_icmp_ge 152 dX12_init_136 (by decide) (fun h => absurd h (by decide)) (fun _ => ?_)
  refine b_aload_n rfl dX12_init_139 ?_
  refine b_get (q0 := 0) dX12_init_140 fX12_17 clsF_11 rfl rfl ?_
  refine b_iload_n rfl dX12_init_143 ?_
  refine b_iconst (-1) (by decide) dX12_init_144 ?_
  refine b_iast (q0 := 2) (n := 4) (i := 1) (f := (upd (fun _ => 0) 0 (-1))) dX12_init_145 rfl (by decide) (by decide) rfl ?_
  refine b_ws (ws2 := h_X12 :: a_X12 (upd (upd (fun _ => 0) 0 (-1)) 1 (-1)) (fun _ => 0)) rfl ?_
  refine b_iinc (a := 1) (b := 2) rfl (by decide) (by decide) rfl dX12_init_146 ?_
  refine b_goto 134 dX12_init_149 (by decide) ?_
  refine b_lo (L2 := [(0, some (.ref 132)), (1, some (.int (nI 2)))]) ⟨rfl, rfl, trivial⟩ ?_
  refine b_iload_n rfl dX12_init_134 ?_
  refine b_iconst (nI 4) (by decide) dX12_init_135 ?_
  refine b_icmp_ge 152 dX12_init_136 (by decide) (fun h => absurd h (by decide)) (fun _ => ?_)
  refine b_aload_n rfl dX12_init_139 ?_
  refine b_get (q0 := 0) dX12_init_140 fX12_17 clsF_11 rfl rfl ?_
  refine b_iload_n rfl dX12_init_143 ?_
  refine b_iconst (-1) (by decide) dX12_init_144 ?_
  refine b_iast (q0 := 2) (n := 4) (i := 2) (f := (upd (upd (fun _ => 0) 0 (-1)) 1 (-1))) dX12_init_145 rfl (by decide) (by decide) rfl ?_
  refine b_ws (ws2 := h_X12 :: a_X12 (upd (upd (upd (fun _ => 0) 0 (-1)) 1 (-1)) 2 (-1)) (fun _ => 0)) rfl ?_
  refine b_iinc (a := 2) (b := 3) rfl (by decide) (by decide) rfl dX12_init_146 ?_
  refine b_goto 134 dX12_init_149 (by decide) ?_
  refine b_lo (L2 := [(0, some (.ref 132)), (1, some (.int (nI 3)))]) ⟨rfl, rfl, trivial⟩ ?_
  refine b_iload_n rfl dX12_init_134 ?_
  refine b_iconst (nI 4) (by decide) dX12_init_135 ?_
  refine b_icmp_ge 152 dX12_init_136 (by decide) (fun h => absurd h (by decide)) (fun _ => ?_)
  refine b_aload_n rfl dX12_init_139 ?_
  refine b_get (q0 := 0) dX12_init_140 fX12_17 clsF_11 rfl rfl ?_
  refine b_iload_n rfl dX12_init_143 ?_
  refine b_iconst (-1) (by decide) dX12_init_144 ?_
  refine b_iast (q0 := 2) (n := 4) (i := 3) (f := (upd (upd (upd (fun _ => 0) 0 (-1)) 1 (-1)) 2 (-1))) dX12_init_145 rfl (by decide) (by decide) (up4 (Or.inr rfl)) ?_
  refine b_ws (ws2 := h_X12 :: a_X12 (m0i 134) (fun _ => 0)) rfl ?_
  refine b_iinc (a := 3) (b := 4) rfl (by decide) (by decide) rfl dX12_init_146 ?_
  refine b_goto 134 dX12_init_149 (by decide) ?_
  refine b_lo (L2 := [(0, some (.ref 132)), (1, some (.int (nI 4)))]) ⟨rfl, rfl, trivial⟩ ?_
  refine b_iload_n rfl dX12_init_134 ?_
  refine b_iconst (nI 4) (by decide) dX12_init_135 ?_
  refine b_icmp_ge 152 dX12_init_136 (by decide) (fun _ => ?_) (fun h => absurd (by decide) h)
  refine b_aload_n rfl dX12_init_152 ?_
  refine b_iconst (nI 0) (by decide) dX12_init_153 ?_
  refine b_callV (mi' := miX12_empties) (d' := 0) (q0 := 0) (ci := 11) (st := []) [] (W0 := (h_X12 :: a_X12 (m0i 134) (fun _ => 0))) (W1 := (h_X12 :: a_X12 (m0i 134) (m0i 137))) dX12_init_154 lX12_65 mX12_empties rfl rfl rfl i_emp rfl rfl (by decide) (by decide) (by decide) rfl ?_
  exact b_ret dX12_init_157 rfl
def h_X11 : Nat × BE := (0, .inl (10, [.int (nI 0), .long 0, .long 1, .ref 1, .int (nI 0), .ref 2, .ref 10, .ref 14, .ref 15, .ref 17, .ref 37, .ref 57, .int (nI 0), .ref 118, .ref 120, .int (nI 0), .ref 121, .ref 123, .ref 130]))
def r_X11 : List (Nat × BE) := (((((((((((((([] ++ [(1, .inr (1, fun _ => zrB 1 900))]) ++ w_X5) ++ w_X4) ++ w_X7) ++ w_X10) ++ w_X6_17) ++ w_X6_37) ++ [(57, .inr (4, fun ad => (3, .inr (.inr (.inr (.inr (va_up (va_up (va_up (fun _ => none) 0 (some (ad 58))) 1 (some (ad 78))) 2 (some (ad 98)))))))))]) ++ ((w_X6_58 ++ w_X6_78) ++ w_X6_98)) ++ w_X2) ++ [(120, .inr (0, fun _ => zrB 0 5))]) ++ w_X0) ++ w_X3) ++ w_X1)
def w_X11 : List (Nat × BE) := h_X11 :: r_X11
theorem md_X11 : mdW 0 132 w_X11 := (mdW_obj rfl rfl rfl (mdW_app (mdW_app (mdW_app (mdW_app (mdW_app (mdW_app (mdW_app (mdW_app (mdW_app (mdW_app (mdW_app (mdW_app (mdW_app (mdW_app mdW_nil (mdW_arr rfl rfl mdW_nil)) (mdW_mono md_X5 rfl rfl)) (mdW_mono md_X4 rfl rfl)) (mdW_mono md_X7 rfl rfl)) (mdW_mono md_X10 rfl rfl)) (mdW_mono md_X6_17 rfl rfl)) (mdW_mono md_X6_37 rfl rfl)) (mdW_arF rfl rfl (fun ad ad0 e => by rw [e 58 (by decide) (by decide), e 78 (by decide) (by decide), e 98 (by decide) (by decide)]) mdW_nil)) (mdW_app (mdW_app (mdW_mono md_X6_58 rfl rfl) (mdW_mono md_X6_78 rfl rfl)) (mdW_mono md_X6_98 rfl rfl))) (mdW_mono md_X2 rfl rfl)) (mdW_arr rfl rfl mdW_nil)) (mdW_mono md_X0 rfl rfl)) (mdW_mono md_X3 rfl rfl)) (mdW_mono md_X1 rfl rfl)))
set_option maxRecDepth 100000 in
set_option maxHeartbeats 6400000 in
theorem i_X11 (h5 : BMt miX5_init 1 2 5 [.null, .null, .null] w_X5 7 252) : BMt miX11_init 2 0 10 [.int 0, .long 0, .long 0, .null, .int 0, .null, .null, .null, .null, .null, .null, .null, .int 0, .null, .null, .int 0, .null, .null, .null] w_X11 131 7344 := by
  refine BMt.of (by decide) (by decide) (fun _ => rfl) ?_
  refine b_aload_n rfl dX11_init_0 ?_
  refine b_obj dX11_init_1 lobX11 ?_
  refine b_aload_n rfl dX11_init_4 ?_
  refine b_iconst (nI 0) (by decide) dX11_init_5 ?_
  refine b_putH [.int (nI 0), .long 0, .long 0, .null, .int 0, .null, .null, .null, .null, .null, .null, .null, .int 0, .null, .null, .int 0, .null, .null, .null] dX11_init_6 fX11_9 clsF_10 rfl (fun _ => rfl) (fun _ => rfl) (by decide) rfl ?_
  refine b_aload_n rfl dX11_init_9 ?_
  refine b_lconst 0 (by decide) dX11_init_10 ?_
  refine b_putH [.int (nI 0), .long 0, .long 0, .null, .int 0, .null, .null, .null, .null, .null, .null, .null, .int 0, .null, .null, .int 0, .null, .null, .null] dX11_init_11 fX11_13 clsF_10 rfl (fun _ => rfl) (fun _ => rfl) (by decide) rfl ?_
  refine b_aload_n rfl dX11_init_14 ?_
  refine b_lconst 1 (by decide) dX11_init_15 ?_
  refine b_putH [.int (nI 0), .long 0, .long 1, .null, .int 0, .null, .null, .null, .null, .null, .null, .null, .int 0, .null, .null, .int 0, .null, .null, .null] dX11_init_16 fX11_17 clsF_10 rfl (fun _ => rfl) (fun _ => rfl) (by decide) rfl ?_
  refine b_aload_n rfl dX11_init_19 ?_
  refine b_sipush (nI 900) (by decide) dX11_init_20 ?_
  refine b_newaH 1 (t := 1) (N := 900) (nc := 130) (ns := 6444) dX11_init_23 rfl war_byte (fun _ => rfl) hra_byte (zr_byte 900) rfl (by decide) (by decide) (mdW_obj rfl rfl rfl mdW_nil) rfl rfl ?_
  refine b_putFH [.int (nI 0), .long 0, .long 1, .ref 1, .int 0, .null, .null, .null, .null, .null, .null, .null, .int 0, .null, .null, .int 0, .null, .null, .null] dX11_init_25 fX11_20 clsF_10 rfl rfl rfl (fun _ => rfl) (fun _ => rfl) (by decide) rfl ?_
  refine b_aload_n rfl dX11_init_28 ?_
  refine b_iconst (nI 0) (by decide) dX11_init_29 ?_
  refine b_putH [.int (nI 0), .long 0, .long 1, .ref 1, .int (nI 0), .null, .null, .null, .null, .null, .null, .null, .int 0, .null, .null, .int 0, .null, .null, .null] dX11_init_30 fX11_24 clsF_10 rfl (fun _ => rfl) (fun _ => rfl) (by decide) rfl ?_
  refine b_aload_n rfl dX11_init_33 ?_
  refine b_newH 2 8 (mi' := miX5_init) (W1 := w_X5) (N := 3) (nc := 122) (ns := 6189) (mc' := 7) (ms' := 252) (fs0 := [.null, .null, .null]) (d' := 1) dX11_init_34 dX11_init_37 dX11_init_38 wclX11_27 winX5 micX5 clsF_5 (fun j hj => by rcases (show j = 0 ∨ j = 1 ∨ j = 2 by omega) with rfl | rfl | rfl <;> rfl) lX11_29 mibX5 miiX5 rfl rfl h5 (by decide) (by decide) (by decide) (by decide) (by decide) md_X5 (mdW_obj rfl rfl rfl (mdW_app mdW_nil (mdW_arr rfl rfl mdW_nil))) rfl rfl ?_
  refine b_putFH [.int (nI 0), .long 0, .long 1, .ref 1, .int (nI 0), .ref 2, .null, .null, .null, .null, .null, .null, .int 0, .null, .null, .int 0, .null, .null, .null] dX11_init_41 fX11_30 clsF_10 rfl rfl rfl (fun _ => rfl) (fun _ => rfl) (by decide) rfl ?_
  refine b_aload_n rfl dX11_init_44 ?_
  refine b_newH 10 4 (mi' := miX4_init) (W1 := w_X4) (N := 7) (nc := 118) (ns := 3479) (mc' := 3) (ms' := 2703) (fs0 := [.null, .null, .null, .int 0, .int 0, .int 0, .int 0]) (d' := 1) dX11_init_45 dX11_init_48 dX11_init_49 wclX11_34 winX4 micX4 clsF_4 (fun j hj => by rcases (show j = 0 ∨ j = 1 ∨ j = 2 ∨ j = 3 ∨ j = 4 ∨ j = 5 ∨ j = 6 by omega) with rfl | rfl | rfl | rfl | rfl | rfl | rfl <;> rfl) lX11_36 mibX4 miiX4 rfl rfl (i_X4 1) (by decide) (by decide) (by decide) (by decide) (by decide) md_X4 (mdW_obj rfl rfl rfl (mdW_app (mdW_app mdW_nil (mdW_arr rfl rfl mdW_nil)) (mdW_mono md_X5 rfl rfl))) rfl rfl ?_
  refine b_putFH [.int (nI 0), .long 0, .long 1, .ref 1, .int (nI 0), .ref 2, .ref 10, .null, .null, .null, .null, .null, .int 0, .null, .null, .int 0, .null, .null, .null] dX11_init_52 fX11_37 clsF_10 rfl rfl rfl (fun _ => rfl) (fun _ => rfl) (by decide) rfl ?_
  refine b_aload_n rfl dX11_init_55 ?_
  refine b_newNH 14 1 (mi' := miX7_init) (W1 := w_X7) (N := 1) (nc := 117) (ns := 3478) (mc' := 0) (ms' := 0) (fs0 := [.int 0]) (d' := 1) dX11_init_56 dX11_init_59 dX11_init_60 wclX11_41 winX7 micX7 clsF_7 (fun j hj => by rcases (show j = 0 by omega) with rfl <;> rfl) lX11_43 mibX7 miiX7 rfl rfl (i_X7 1) (by decide) (by decide) (by decide) (by decide) (by decide) md_X7 (mdW_obj rfl rfl rfl (mdW_app (mdW_app (mdW_app mdW_nil (mdW_arr rfl rfl mdW_nil)) (mdW_mono md_X5 rfl rfl)) (mdW_mono md_X4 rfl rfl))) rfl rfl ?_
  refine b_putFH [.int (nI 0), .long 0, .long 1, .ref 1, .int (nI 0), .ref 2, .ref 10, .ref 14, .null, .null, .null, .null, .int 0, .null, .null, .int 0, .null, .null, .null] dX11_init_63 fX11_44 clsF_10 rfl rfl rfl (fun _ => rfl) (fun _ => rfl) (by decide) rfl ?_
  refine b_aload_n rfl dX11_init_66 ?_
  refine b_newH 15 2 (mi' := miX10_init) (W1 := w_X10) (N := 2) (nc := 115) (ns := 3473) (mc' := 1) (ms' := 3) (fs0 := [.null, .int 0]) (d' := 1) dX11_init_67 dX11_init_70 dX11_init_71 wclX11_48 winX10 micX10 clsF_9 (fun j hj => by rcases (show j = 0 ∨ j = 1 by omega) with rfl | rfl <;> rfl) lX11_50 mibX10 miiX10 rfl rfl (i_X10 1) (by decide) (by decide) (by decide) (by decide) (by decide) md_X10 (mdW_obj rfl rfl rfl (mdW_app (mdW_app (mdW_app (mdW_app mdW_nil (mdW_arr rfl rfl mdW_nil)) (mdW_mono md_X5 rfl rfl)) (mdW_mono md_X4 rfl rfl)) (mdW_mono md_X7 rfl rfl))) rfl rfl ?_
  refine b_putFH [.int (nI 0), .long 0, .long 1, .ref 1, .int (nI 0), .ref 2, .ref 10, .ref 14, .ref 15, .null, .null, .null, .int 0, .null, .null, .int 0, .null, .null, .null] dX11_init_74 fX11_51 clsF_10 rfl rfl rfl (fun _ => rfl) (fun _ => rfl) (by decide) rfl ?_
  refine b_aload_n rfl dX11_init_77 ?_
  refine b_newH 17 20 (mi' := miX6_init) (W1 := w_X6_17) (N := 20) (nc := 95) (ns := 2995) (mc' := 19) (ms' := 458) (fs0 := [.int 0, .int 0, .int 0, .int 0, .int 0, .int 0, .int 0, .null, .null, .null, .null, .null, .null, .null, .null, .null, .null, .null, .null, .null]) (d' := 1) dX11_init_78 dX11_init_81 dX11_init_82 wclX11_55 winX6 micX6 clsF_6 (fun j hj => by rcases (show j = 0 ∨ j = 1 ∨ j = 2 ∨ j = 3 ∨ j = 4 ∨ j = 5 ∨ j = 6 ∨ j = 7 ∨ j = 8 ∨ j = 9 ∨ j = 10 ∨ j = 11 ∨ j = 12 ∨ j = 13 ∨ j = 14 ∨ j = 15 ∨ j = 16 ∨ j = 17 ∨ j = 18 ∨ j = 19 by omega) with rfl | rfl | rfl | rfl | rfl | rfl | rfl | rfl | rfl | rfl | rfl | rfl | rfl | rfl | rfl | rfl | rfl | rfl | rfl | rfl <;> rfl) lX11_57 mibX6 miiX6 rfl rfl (i_X6_17 0) (by decide) (by decide) (by decide) (by decide) (by decide) md_X6_17 (mdW_obj rfl rfl rfl (mdW_app (mdW_app (mdW_app (mdW_app (mdW_app mdW_nil (mdW_arr rfl rfl mdW_nil)) (mdW_mono md_X5 rfl rfl)) (mdW_mono md_X4 rfl rfl)) (mdW_mono md_X7 rfl rfl)) (mdW_mono md_X10 rfl rfl))) rfl rfl ?_
  refine b_putFH [.int (nI 0), .long 0, .long 1, .ref 1, .int (nI 0), .ref 2, .ref 10, .ref 14, .ref 15, .ref 17, .null, .null, .int 0, .null, .null, .int 0, .null, .null, .null] dX11_init_85 fX11_58 clsF_10 rfl rfl rfl (fun _ => rfl) (fun _ => rfl) (by decide) rfl ?_
  refine b_aload_n rfl dX11_init_88 ?_
  refine b_newH 37 20 (mi' := miX6_init) (W1 := w_X6_37) (N := 20) (nc := 75) (ns := 2517) (mc' := 19) (ms' := 458) (fs0 := [.int 0, .int 0, .int 0, .int 0, .int 0, .int 0, .int 0, .null, .null, .null, .null, .null, .null, .null, .null, .null, .null, .null, .null, .null]) (d' := 1) dX11_init_89 dX11_init_92 dX11_init_93 wclX11_55 winX6 micX6 clsF_6 (fun j hj => by rcases (show j = 0 ∨ j = 1 ∨ j = 2 ∨ j = 3 ∨ j = 4 ∨ j = 5 ∨ j = 6 ∨ j = 7 ∨ j = 8 ∨ j = 9 ∨ j = 10 ∨ j = 11 ∨ j = 12 ∨ j = 13 ∨ j = 14 ∨ j = 15 ∨ j = 16 ∨ j = 17 ∨ j = 18 ∨ j = 19 by omega) with rfl | rfl | rfl | rfl | rfl | rfl | rfl | rfl | rfl | rfl | rfl | rfl | rfl | rfl | rfl | rfl | rfl | rfl | rfl | rfl <;> rfl) lX11_57 mibX6 miiX6 rfl rfl (i_X6_37 0) (by decide) (by decide) (by decide) (by decide) (by decide) md_X6_37 (mdW_obj rfl rfl rfl (mdW_app (mdW_app (mdW_app (mdW_app (mdW_app (mdW_app mdW_nil (mdW_arr rfl rfl mdW_nil)) (mdW_mono md_X5 rfl rfl)) (mdW_mono md_X4 rfl rfl)) (mdW_mono md_X7 rfl rfl)) (mdW_mono md_X10 rfl rfl)) (mdW_mono md_X6_17 rfl rfl))) rfl rfl ?_
  refine b_putFH [.int (nI 0), .long 0, .long 1, .ref 1, .int (nI 0), .ref 2, .ref 10, .ref 14, .ref 15, .ref 17, .ref 37, .null, .int 0, .null, .null, .int 0, .null, .null, .null] dX11_init_96 fX11_62 clsF_10 rfl rfl rfl (fun _ => rfl) (fun _ => rfl) (by decide) rfl ?_
  refine b_aload_n rfl dX11_init_99 ?_
  refine b_iconst (nI 3) (by decide) dX11_init_100 ?_
  refine b_newqH 57 (N := 3) (nc := 74) (ns := 2514) dX11_init_101 wclX11_55 rfl (by decide) (mdW_obj rfl rfl rfl (mdW_app (mdW_app (mdW_app (mdW_app (mdW_app (mdW_app (mdW_app mdW_nil (mdW_arr rfl rfl mdW_nil)) (mdW_mono md_X5 rfl rfl)) (mdW_mono md_X4 rfl rfl)) (mdW_mono md_X7 rfl rfl)) (mdW_mono md_X10 rfl rfl)) (mdW_mono md_X6_17 rfl rfl)) (mdW_mono md_X6_37 rfl rfl))) rfl rfl ?_
  refine b_putFH [.int (nI 0), .long 0, .long 1, .ref 1, .int (nI 0), .ref 2, .ref 10, .ref 14, .ref 15, .ref 17, .ref 37, .ref 57, .int 0, .null, .null, .int 0, .null, .null, .null] dX11_init_104 fX11_65 clsF_10 rfl rfl rfl (fun _ => rfl) (fun _ => rfl) (by decide) rfl ?_
  refine b_iconst (nI 0) (by decide) dX11_init_107 ?_
  refine b_istore_n (by decide) rfl dX11_init_108 ?_
  refine b_lo (L2 := [(0, some (.ref 0)), (1, some (.int (nI 0)))]) ⟨rfl, rfl, trivial⟩ ?_
  refine b_iload_n rfl dX11_init_109 ?_
  refine b_iconst (nI 3) (by decide) dX11_init_110 ?_
  refine b_icmp_ge 133 dX11_init_111 (by decide) (fun h => absurd h (by decide)) (fun _ => ?_)
  refine b_aload_n rfl dX11_init_114 ?_
  refine b_get (q0 := 0) dX11_init_115 fX11_65 clsF_10 rfl rfl ?_
  refine b_iload_n rfl dX11_init_118 ?_
  refine b_newH 58 20 (mi' := miX6_init) (W1 := w_X6_58) (N := 20) (nc := 54) (ns := 2036) (mc' := 19) (ms' := 458) (fs0 := [.int 0, .int 0, .int 0, .int 0, .int 0, .int 0, .int 0, .null, .null, .null, .null, .null, .null, .null, .null, .null, .null, .null, .null, .null]) (d' := 1) dX11_init_119 dX11_init_122 dX11_init_123 wclX11_55 winX6 micX6 clsF_6 (fun j hj => by rcases (show j = 0 ∨ j = 1 ∨ j = 2 ∨ j = 3 ∨ j = 4 ∨ j = 5 ∨ j = 6 ∨ j = 7 ∨ j = 8 ∨ j = 9 ∨ j = 10 ∨ j = 11 ∨ j = 12 ∨ j = 13 ∨ j = 14 ∨ j = 15 ∨ j = 16 ∨ j = 17 ∨ j = 18 ∨ j = 19 by omega) with rfl | rfl | rfl | rfl | rfl | rfl | rfl | rfl | rfl | rfl | rfl | rfl | rfl | rfl | rfl | rfl | rfl | rfl | rfl | rfl <;> rfl) lX11_57 mibX6 miiX6 rfl rfl (i_X6_58 0) (by decide) (by decide) (by decide) (by decide) (by decide) md_X6_58 (mdW_obj rfl rfl rfl (mdW_app (mdW_app (mdW_app (mdW_app (mdW_app (mdW_app (mdW_app (mdW_app mdW_nil (mdW_arr rfl rfl mdW_nil)) (mdW_mono md_X5 rfl rfl)) (mdW_mono md_X4 rfl rfl)) (mdW_mono md_X7 rfl rfl)) (mdW_mono md_X10 rfl rfl)) (mdW_mono md_X6_17 rfl rfl)) (mdW_mono md_X6_37 rfl rfl)) (mdW_arr rfl rfl mdW_nil))) rfl rfl ?_
  refine b_astqH (i := 0) (n := 3) (v := 58) (f := fun ad => (fun _ => none)) dX11_init_126 (List.mem_cons_of_mem _ (List.mem_append_right _ List.mem_cons_self)) (by decide) (by decide) ?_
  refine b_iinc (a := 0) (b := 1) rfl (by decide) (by decide) rfl dX11_init_127 ?_
  refine b_goto 109 dX11_init_130 (by decide) ?_
  refine b_lo (L2 := [(0, some (.ref 0)), (1, some (.int (nI 1)))]) ⟨rfl, rfl, trivial⟩ ?_
  refine b_iload_n rfl dX11_init_109 ?_
  refine b_iconst (nI 3) (by decide) dX11_init_110 ?_
  refine b_icmp_ge 133 dX11_init_111 (by decide) (fun h => absurd h (by decide)) (fun _ => ?_)
  refine b_aload_n rfl dX11_init_114 ?_
  refine b_get (q0 := 0) dX11_init_115 fX11_65 clsF_10 rfl rfl ?_
  refine b_iload_n rfl dX11_init_118 ?_
  refine b_newH 78 20 (mi' := miX6_init) (W1 := w_X6_78) (N := 20) (nc := 34) (ns := 1558) (mc' := 19) (ms' := 458) (fs0 := [.int 0, .int 0, .int 0, .int 0, .int 0, .int 0, .int 0, .null, .null, .null, .null, .null, .null, .null, .null, .null, .null, .null, .null, .null]) (d' := 1) dX11_init_119 dX11_init_122 dX11_init_123 wclX11_55 winX6 micX6 clsF_6 (fun j hj => by rcases (show j = 0 ∨ j = 1 ∨ j = 2 ∨ j = 3 ∨ j = 4 ∨ j = 5 ∨ j = 6 ∨ j = 7 ∨ j = 8 ∨ j = 9 ∨ j = 10 ∨ j = 11 ∨ j = 12 ∨ j = 13 ∨ j = 14 ∨ j = 15 ∨ j = 16 ∨ j = 17 ∨ j = 18 ∨ j = 19 by omega) with rfl | rfl | rfl | rfl | rfl | rfl | rfl | rfl | rfl | rfl | rfl | rfl | rfl | rfl | rfl | rfl | rfl | rfl | rfl | rfl <;> rfl) lX11_57 mibX6 miiX6 rfl rfl (i_X6_78 0) (by decide) (by decide) (by decide) (by decide) (by decide) md_X6_78 (mdW_obj rfl rfl rfl (mdW_app (mdW_app (mdW_app (mdW_app (mdW_app (mdW_app (mdW_app (mdW_app (mdW_app mdW_nil (mdW_arr rfl rfl mdW_nil)) (mdW_mono md_X5 rfl rfl)) (mdW_mono md_X4 rfl rfl)) (mdW_mono md_X7 rfl rfl)) (mdW_mono md_X10 rfl rfl)) (mdW_mono md_X6_17 rfl rfl)) (mdW_mono md_X6_37 rfl rfl)) (mdW_arF rfl rfl (fun ad ad0 e => by rw [e 58 (by decide) (by decide)]) mdW_nil)) (mdW_mono md_X6_58 rfl rfl))) rfl rfl ?_
  refine b_ws (congrArg (List.cons _) (List.append_assoc _ _ _).symm) ?_
  refine b_astqH (i := 1) (n := 3) (v := 78) (f := fun ad => (va_up (fun _ => none) 0 (some (ad 58)))) dX11_init_126 (List.mem_cons_of_mem _ (List.mem_append_right _ (List.mem_append_right _ List.mem_cons_self))) (by decide) (by decide) ?_
  refine b_iinc (a := 1) (b := 2) rfl (by decide) (by decide) rfl dX11_init_127 ?_
  refine b_goto 109 dX11_init_130 (by decide) ?_
  refine b_lo (L2 := [(0, some (.ref 0)), (1, some (.int (nI 2)))]) ⟨rfl, rfl, trivial⟩ ?_
  refine b_iload_n rfl dX11_init_109 ?_
  refine b_iconst (nI 3) (by decide) dX11_init_110 ?_
  refine b_icmp_ge 133 dX11_init_111 (by decide) (fun h => absurd h (by decide)) (fun _ => ?_)
  refine b_aload_n rfl dX11_init_114 ?_
  refine b_get (q0 := 0) dX11_init_115 fX11_65 clsF_10 rfl rfl ?_
  refine b_iload_n rfl dX11_init_118 ?_
  refine b_newH 98 20 (mi' := miX6_init) (W1 := w_X6_98) (N := 20) (nc := 14) (ns := 1080) (mc' := 19) (ms' := 458) (fs0 := [.int 0, .int 0, .int 0, .int 0, .int 0, .int 0, .int 0, .null, .null, .null, .null, .null, .null, .null, .null, .null, .null, .null, .null, .null]) (d' := 1) dX11_init_119 dX11_init_122 dX11_init_123 wclX11_55 winX6 micX6 clsF_6 (fun j hj => by rcases (show j = 0 ∨ j = 1 ∨ j = 2 ∨ j = 3 ∨ j = 4 ∨ j = 5 ∨ j = 6 ∨ j = 7 ∨ j = 8 ∨ j = 9 ∨ j = 10 ∨ j = 11 ∨ j = 12 ∨ j = 13 ∨ j = 14 ∨ j = 15 ∨ j = 16 ∨ j = 17 ∨ j = 18 ∨ j = 19 by omega) with rfl | rfl | rfl | rfl | rfl | rfl | rfl | rfl | rfl | rfl | rfl | rfl | rfl | rfl | rfl | rfl | rfl | rfl | rfl | rfl <;> rfl) lX11_57 mibX6 miiX6 rfl rfl (i_X6_98 0) (by decide) (by decide) (by decide) (by decide) (by decide) md_X6_98 (mdW_obj rfl rfl rfl (mdW_app (mdW_app (mdW_app (mdW_app (mdW_app (mdW_app (mdW_app (mdW_app (mdW_app mdW_nil (mdW_arr rfl rfl mdW_nil)) (mdW_mono md_X5 rfl rfl)) (mdW_mono md_X4 rfl rfl)) (mdW_mono md_X7 rfl rfl)) (mdW_mono md_X10 rfl rfl)) (mdW_mono md_X6_17 rfl rfl)) (mdW_mono md_X6_37 rfl rfl)) (mdW_arF rfl rfl (fun ad ad0 e => by rw [e 58 (by decide) (by decide), e 78 (by decide) (by decide)]) mdW_nil)) (mdW_app (mdW_mono md_X6_58 rfl rfl) (mdW_mono md_X6_78 rfl rfl)))) rfl rfl ?_
  refine b_ws (congrArg (List.cons _) (List.append_assoc _ _ _).symm) ?_
  refine b_astqH (i := 2) (n := 3) (v := 98) (f := fun ad => (va_up (va_up (fun _ => none) 0 (some (ad 58))) 1 (some (ad 78)))) dX11_init_126 (List.mem_cons_of_mem _ (List.mem_append_right _ (List.mem_append_right _ List.mem_cons_self))) (by decide) (by decide) ?_
  refine b_iinc (a := 2) (b := 3) rfl (by decide) (by decide) rfl dX11_init_127 ?_
  refine b_goto 109 dX11_init_130 (by decide) ?_
  refine b_lo (L2 := [(0, some (.ref 0)), (1, some (.int (nI 3)))]) ⟨rfl, rfl, trivial⟩ ?_
  refine b_iload_n rfl dX11_init_109 ?_
  refine b_iconst (nI 3) (by decide) dX11_init_110 ?_
  refine b_icmp_ge 133 dX11_init_111 (by decide) (fun _ => ?_) (fun h => absurd (by decide) h)
  refine b_aload_n rfl dX11_init_133 ?_
  refine b_iconst (nI 0) (by decide) dX11_init_134 ?_
  refine b_putH [.int (nI 0), .long 0, .long 1, .ref 1, .int (nI 0), .ref 2, .ref 10, .ref 14, .ref 15, .ref 17, .ref 37, .ref 57, .int (nI 0), .null, .null, .int 0, .null, .null, .null] dX11_init_135 fX11_69 clsF_10 rfl (fun _ => rfl) (fun _ => rfl) (by decide) rfl ?_
  refine b_aload_n rfl dX11_init_138 ?_
  refine b_newH 118 2 (mi' := miX2_init) (W1 := w_X2) (N := 9) (nc := 12) (ns := 1011) (mc' := 1) (ms' := 60) (fs0 := [.int 0, .int 0, .null, .int 0, .int 0, .int 0, .int 0, .int 0, .int 0]) (d' := 1) dX11_init_139 dX11_init_142 dX11_init_143 wclX11_72 winX2 micX2 clsF_2 (fun j hj => by rcases (show j = 0 ∨ j = 1 ∨ j = 2 ∨ j = 3 ∨ j = 4 ∨ j = 5 ∨ j = 6 ∨ j = 7 ∨ j = 8 by omega) with rfl | rfl | rfl | rfl | rfl | rfl | rfl | rfl | rfl <;> rfl) lX11_74 mibX2 miiX2 rfl rfl (i_X2 1) (by decide) (by decide) (by decide) (by decide) (by decide) md_X2 (mdW_obj rfl rfl rfl (mdW_app (mdW_app (mdW_app (mdW_app (mdW_app (mdW_app (mdW_app (mdW_app (mdW_app mdW_nil (mdW_arr rfl rfl mdW_nil)) (mdW_mono md_X5 rfl rfl)) (mdW_mono md_X4 rfl rfl)) (mdW_mono md_X7 rfl rfl)) (mdW_mono md_X10 rfl rfl)) (mdW_mono md_X6_17 rfl rfl)) (mdW_mono md_X6_37 rfl rfl)) (mdW_arF rfl rfl (fun ad ad0 e => by rw [e 58 (by decide) (by decide), e 78 (by decide) (by decide), e 98 (by decide) (by decide)]) mdW_nil)) (mdW_app (mdW_app (mdW_mono md_X6_58 rfl rfl) (mdW_mono md_X6_78 rfl rfl)) (mdW_mono md_X6_98 rfl rfl)))) rfl rfl ?_
  refine b_putFH [.int (nI 0), .long 0, .long 1, .ref 1, .int (nI 0), .ref 2, .ref 10, .ref 14, .ref 15, .ref 17, .ref 37, .ref 57, .int (nI 0), .ref 118, .null, .int 0, .null, .null, .null] dX11_init_146 fX11_75 clsF_10 rfl rfl rfl (fun _ => rfl) (fun _ => rfl) (by decide) rfl ?_
  refine b_aload_n rfl dX11_init_149 ?_
  refine b_iconst (nI 5) (by decide) dX11_init_150 ?_
  refine b_newaH 120 (t := 0) (N := 5) (nc := 11) (ns := 1006) dX11_init_151 rfl war_int (fun _ => rfl) hra_int (zr_int 5) rfl (by decide) (by decide) (mdW_obj rfl rfl rfl (mdW_app (mdW_app (mdW_app (mdW_app (mdW_app (mdW_app (mdW_app (mdW_app (mdW_app (mdW_app mdW_nil (mdW_arr rfl rfl mdW_nil)) (mdW_mono md_X5 rfl rfl)) (mdW_mono md_X4 rfl rfl)) (mdW_mono md_X7 rfl rfl)) (mdW_mono md_X10 rfl rfl)) (mdW_mono md_X6_17 rfl rfl)) (mdW_mono md_X6_37 rfl rfl)) (mdW_arF rfl rfl (fun ad ad0 e => by rw [e 58 (by decide) (by decide), e 78 (by decide) (by decide), e 98 (by decide) (by decide)]) mdW_nil)) (mdW_app (mdW_app (mdW_mono md_X6_58 rfl rfl) (mdW_mono md_X6_78 rfl rfl)) (mdW_mono md_X6_98 rfl rfl))) (mdW_mono md_X2 rfl rfl))) rfl rfl ?_
  refine b_putFH [.int (nI 0), .long 0, .long 1, .ref 1, .int (nI 0), .ref 2, .ref 10, .ref 14, .ref 15, .ref 17, .ref 37, .ref 57, .int (nI 0), .ref 118, .ref 120, .int 0, .null, .null, .null] dX11_init_153 fX11_79 clsF_10 rfl rfl rfl (fun _ => rfl) (fun _ => rfl) (by decide) rfl ?_
  refine b_aload_n rfl dX11_init_156 ?_
  refine b_iconst (nI 0) (by decide) dX11_init_157 ?_
  refine b_putH [.int (nI 0), .long 0, .long 1, .ref 1, .int (nI 0), .ref 2, .ref 10, .ref 14, .ref 15, .ref 17, .ref 37, .ref 57, .int (nI 0), .ref 118, .ref 120, .int (nI 0), .null, .null, .null] dX11_init_158 fX11_83 clsF_10 rfl (fun _ => rfl) (fun _ => rfl) (by decide) rfl ?_
  refine b_aload_n rfl dX11_init_161 ?_
  refine b_newH 121 2 (mi' := miX0_init) (W1 := w_X0) (N := 1) (nc := 9) (ns := 999) (mc' := 1) (ms' := 6) (fs0 := [.null]) (d' := 1) dX11_init_162 dX11_init_165 dX11_init_166 wclX11_87 winX0 micX0 clsF_0 (fun j hj => by rcases (show j = 0 by omega) with rfl <;> rfl) lX11_89 mibX0 miiX0 rfl rfl (i_X0 1) (by decide) (by decide) (by decide) (by decide) (by decide) md_X0 (mdW_obj rfl rfl rfl (mdW_app (mdW_app (mdW_app (mdW_app (mdW_app (mdW_app (mdW_app (mdW_app (mdW_app (mdW_app (mdW_app mdW_nil (mdW_arr rfl rfl mdW_nil)) (mdW_mono md_X5 rfl rfl)) (mdW_mono md_X4 rfl rfl)) (mdW_mono md_X7 rfl rfl)) (mdW_mono md_X10 rfl rfl)) (mdW_mono md_X6_17 rfl rfl)) (mdW_mono md_X6_37 rfl rfl)) (mdW_arF rfl rfl (fun ad ad0 e => by rw [e 58 (by decide) (by decide), e 78 (by decide) (by decide), e 98 (by decide) (by decide)]) mdW_nil)) (mdW_app (mdW_app (mdW_mono md_X6_58 rfl rfl) (mdW_mono md_X6_78 rfl rfl)) (mdW_mono md_X6_98 rfl rfl))) (mdW_mono md_X2 rfl rfl)) (mdW_arr rfl rfl mdW_nil))) rfl rfl ?_
  refine b_putFH [.int (nI 0), .long 0, .long 1, .ref 1, .int (nI 0), .ref 2, .ref 10, .ref 14, .ref 15, .ref 17, .ref 37, .ref 57, .int (nI 0), .ref 118, .ref 120, .int (nI 0), .ref 121, .null, .null] dX11_init_169 fX11_90 clsF_10 rfl rfl rfl (fun _ => rfl) (fun _ => rfl) (by decide) rfl ?_
  refine b_aload_n rfl dX11_init_172 ?_
  refine b_newH 123 7 (mi' := miX3_init) (W1 := w_X3) (N := 6) (nc := 2) (ns := 9) (mc' := 6) (ms' := 984) (fs0 := [.null, .null, .null, .null, .null, .null]) (d' := 1) dX11_init_173 dX11_init_176 dX11_init_177 wclX11_94 winX3 micX3 clsF_3 (fun j hj => by rcases (show j = 0 ∨ j = 1 ∨ j = 2 ∨ j = 3 ∨ j = 4 ∨ j = 5 by omega) with rfl | rfl | rfl | rfl | rfl | rfl <;> rfl) lX11_96 mibX3 miiX3 rfl rfl (i_X3 1) (by decide) (by decide) (by decide) (by decide) (by decide) md_X3 (mdW_obj rfl rfl rfl (mdW_app (mdW_app (mdW_app (mdW_app (mdW_app (mdW_app (mdW_app (mdW_app (mdW_app (mdW_app (mdW_app (mdW_app mdW_nil (mdW_arr rfl rfl mdW_nil)) (mdW_mono md_X5 rfl rfl)) (mdW_mono md_X4 rfl rfl)) (mdW_mono md_X7 rfl rfl)) (mdW_mono md_X10 rfl rfl)) (mdW_mono md_X6_17 rfl rfl)) (mdW_mono md_X6_37 rfl rfl)) (mdW_arF rfl rfl (fun ad ad0 e => by rw [e 58 (by decide) (by decide), e 78 (by decide) (by decide), e 98 (by decide) (by decide)]) mdW_nil)) (mdW_app (mdW_app (mdW_mono md_X6_58 rfl rfl) (mdW_mono md_X6_78 rfl rfl)) (mdW_mono md_X6_98 rfl rfl))) (mdW_mono md_X2 rfl rfl)) (mdW_arr rfl rfl mdW_nil)) (mdW_mono md_X0 rfl rfl))) rfl rfl ?_
  refine b_putFH [.int (nI 0), .long 0, .long 1, .ref 1, .int (nI 0), .ref 2, .ref 10, .ref 14, .ref 15, .ref 17, .ref 37, .ref 57, .int (nI 0), .ref 118, .ref 120, .int (nI 0), .ref 121, .ref 123, .null] dX11_init_180 fX11_97 clsF_10 rfl rfl rfl (fun _ => rfl) (fun _ => rfl) (by decide) rfl ?_
  refine b_aload_n rfl dX11_init_183 ?_
  refine b_newH 130 2 (mi' := miX1_init) (W1 := w_X1) (N := 3) (nc := 0) (ns := 0) (mc' := 1) (ms' := 6) (fs0 := [.null, .int 0, .int 0]) (d' := 1) dX11_init_184 dX11_init_187 dX11_init_188 wclX11_101 winX1 micX1 clsF_1 (fun j hj => by rcases (show j = 0 ∨ j = 1 ∨ j = 2 by omega) with rfl | rfl | rfl <;> rfl) lX11_103 mibX1 miiX1 rfl rfl (i_X1 1) (by decide) (by decide) (by decide) (by decide) (by decide) md_X1 (mdW_obj rfl rfl rfl (mdW_app (mdW_app (mdW_app (mdW_app (mdW_app (mdW_app (mdW_app (mdW_app (mdW_app (mdW_app (mdW_app (mdW_app (mdW_app mdW_nil (mdW_arr rfl rfl mdW_nil)) (mdW_mono md_X5 rfl rfl)) (mdW_mono md_X4 rfl rfl)) (mdW_mono md_X7 rfl rfl)) (mdW_mono md_X10 rfl rfl)) (mdW_mono md_X6_17 rfl rfl)) (mdW_mono md_X6_37 rfl rfl)) (mdW_arF rfl rfl (fun ad ad0 e => by rw [e 58 (by decide) (by decide), e 78 (by decide) (by decide), e 98 (by decide) (by decide)]) mdW_nil)) (mdW_app (mdW_app (mdW_mono md_X6_58 rfl rfl) (mdW_mono md_X6_78 rfl rfl)) (mdW_mono md_X6_98 rfl rfl))) (mdW_mono md_X2 rfl rfl)) (mdW_arr rfl rfl mdW_nil)) (mdW_mono md_X0 rfl rfl)) (mdW_mono md_X3 rfl rfl))) rfl rfl ?_
  refine b_putFH [.int (nI 0), .long 0, .long 1, .ref 1, .int (nI 0), .ref 2, .ref 10, .ref 14, .ref 15, .ref 17, .ref 37, .ref 57, .int (nI 0), .ref 118, .ref 120, .int (nI 0), .ref 121, .ref 123, .ref 130] dX11_init_191 fX11_104 clsF_10 rfl rfl rfl (fun _ => rfl) (fun _ => rfl) (by decide) rfl ?_
  exact b_ret dX11_init_194 rfl

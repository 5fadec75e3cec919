def isK (tk : Nat → TK) (c : CC) (k : Nat) : Bool := decide (kd tk c = 1 ∧ cd tk c = k)
theorem isK_i {tk : Nat → TK} {c : CC} {k : Nat} : isK tk c k = true ↔ kd tk c = 1 ∧ cd tk c = k := by unfold isK; simp
def opN (tk : Nat → TK) (k lo hi : Nat) (c : CC) : CC := if isK tk c k = true then numC tk lo hi (spC tk c) else c
def opV (tk : Nat → TK) (k v : Nat) (c : CC) : Nat := if isK tk c k = true then cd tk (spC tk c) else v
abbrev PR : Type := CC × ST × NM
def odA (tk : Nat → TK) (t : Nat) (c : CC) : CC := bgC tk (decide (t = 1)) 5 c
def ptO (tk : Nat → TK) (t : Nat) (S : ST) (N : NM) (c : CC) : PR := (numC tk 0 16 (odA tk t c), upS2 S 0 0 (cd tk (odA tk t c)), N)
def maA (tk : Nat → TK) (S : ST) (c : CC) : CC := bgC tk (decide (6 ≤ S 0 2)) 6 c
def maB (tk : Nat → TK) (S : ST) (N : NM) (c : CC) : CC := newC tk S N (maA tk S c)
def maC (tk : Nat → TK) (S : ST) (N : NM) (c : CC) : CC := kwdC tk 2 (maB tk S N c)
def maD (tk : Nat → TK) (S : ST) (N : NM) (c : CC) : CC := numC tk 0 20 (maC tk S N c)
def ptM (tk : Nat → TK) (S : ST) (N : NM) (c : CC) : PR := (opN tk 3 0 100 (maD tk S N c), addMN S (cd tk (maC tk S N c)) (opV tk 3 0 (maD tk S N c)), upN N 0 (S 0 2) (lN (cd tk (maA tk S c))))
def hoA (tk : Nat → TK) (S : ST) (c : CC) : CC := bgC tk (decide (10 ≤ S 0 3)) 6 c
def hoB (tk : Nat → TK) (S : ST) (N : NM) (c : CC) : CC := spC tk (refC tk (nmM tk S N (hoA tk S c)) (hoA tk S c))
def hoC (tk : Nat → TK) (S : ST) (N : NM) (c : CC) : CC := kwdC tk 5 (hoB tk S N c)
def hoD (tk : Nat → TK) (S : ST) (N : NM) (c : CC) : CC := refC tk (nmM tk S N (hoC tk S N c)) (hoC tk S N c)
def hoX (tk : Nat → TK) (S : ST) (N : NM) (c : CC) : Nat := (nmM tk S N (hoA tk S c)).getD 0
def hoY (tk : Nat → TK) (S : ST) (N : NM) (c : CC) : Nat := (nmM tk S N (hoC tk S N c)).getD 0
def hoE (tk : Nat → TK) (S : ST) (N : NM) (c : CC) : CC := spC tk (if hoX tk S N c = hoY tk S N c ∨ boundN S (hoX tk S N c) (hoY tk S N c) = true then flC tk 5 (hoD tk S N c) else hoD tk S N c)
def ptH (tk : Nat → TK) (S : ST) (N : NM) (c : CC) : PR := (hoE tk S N c, addHN S (hoX tk S N c) (hoY tk S N c), N)
def siA (tk : Nat → TK) (S : ST) (c : CC) : CC := bgC tk (decide (7 ≤ S 0 4)) 6 c
def siB (tk : Nat → TK) (S : ST) (N : NM) (c : CC) : CC := newC tk S N (siA tk S c)
def siC (tk : Nat → TK) (S : ST) (N : NM) (c : CC) : CC := kwdC tk 7 (siB tk S N c)
def siD (tk : Nat → TK) (S : ST) (N : NM) (c : CC) : CC := numC tk 0 59 (siC tk S N c)
def siE (tk : Nat → TK) (S : ST) (N : NM) (c : CC) : CC := kwdC tk 8 (siD tk S N c)
def siF (tk : Nat → TK) (S : ST) (N : NM) (c : CC) : CC := numC tk 1 99 (siE tk S N c)
def siG (tk : Nat → TK) (S : ST) (N : NM) (c : CC) : CC := kwdC tk 9 (siF tk S N c)
def siH (tk : Nat → TK) (S : ST) (N : NM) (c : CC) : CC := spC tk (refC tk (nmM tk S N (siG tk S N c)) (siG tk S N c))
def ptS (tk : Nat → TK) (S : ST) (N : NM) (c : CC) : PR := (opN tk 10 1 9 (siH tk S N c), addSN S (cd tk (siC tk S N c)) (cd tk (siE tk S N c)) ((nmM tk S N (siG tk S N c)).getD 0) (opV tk 10 1 (siH tk S N c)), upN N 1 (S 0 4) (lN (cd tk (siA tk S c))))
def neA (tk : Nat → TK) (S : ST) (c : CC) : CC := bgC tk (decide (8 ≤ S 0 5)) 6 c
def neB (tk : Nat → TK) (S : ST) (N : NM) (c : CC) : CC := spC tk (refC tk (nmM tk S N (neA tk S c)) (neA tk S c))
def neC (tk : Nat → TK) (S : ST) (N : NM) (c : CC) : CC := kwdC tk 12 (neB tk S N c)
def ptN (tk : Nat → TK) (S : ST) (N : NM) (c : CC) : PR := (numC tk 1 100 (neC tk S N c), addNN S ((nmM tk S N (neA tk S c)).getD 0) (cd tk (neC tk S N c)), N)
def ptA (tk : Nat → TK) (t : Nat) (S : ST) (N : NM) (c : CC) : PR := if isK tk c 0 = true then ptO tk t S N c else if isK tk c 1 = true then ptM tk S N c else if isK tk c 4 = true then ptH tk S N c else if isK tk c 6 = true then ptS tk S N c else if isK tk c 11 = true then ptN tk S N c else (flC tk 2 c, S, N)
abbrev PW : Type := CC × ST × NM × Nat
def ptW (tk : Nat → TK) (x : PW) : PW := (endC tk (ptA tk x.2.2.2 x.2.1 x.2.2.1 x.1).1, (ptA tk x.2.2.2 x.2.1 x.2.2.1 x.1).2.1, (ptA tk x.2.2.2 x.2.1 x.2.2.1 x.1).2.2, if isK tk x.1 0 = true then 1 else x.2.2.2)
def lpW (tk : Nat → TK) : Nat → PW → PW
  | 0, x => x
  | f + 1, x => if x.1.2.1 = 0 ∧ kd tk x.1 ≠ 0 then lpW tk f (ptW tk x) else x
/-! what no fault at the end says -/
theorem sp_0 {tk : Nat → TK} {c : CC} (h : (spC tk c).2.1 = 0) : c.2.1 = 0 := by rw [sp_f] at h; exact h
theorem bg_0 {tk : Nat → TK} {b : Bool} {w : Nat} {c : CC} (hw : 0 < w) (h : (bgC tk b w c).2.1 = 0) : c.2.1 = 0 ∧ b = false ∧ bgC tk b w c = spC tk c := by
  unfold bgC at h ⊢
  cases b with
  | true => exact absurd (sp_0 h) (fl_z hw)
  | false => exact ⟨sp_0 h, rfl, rfl⟩
theorem kwd_0 {tk : Nat → TK} {k : Nat} {c : CC} (h : (kwdC tk k c).2.1 = 0) : c.2.1 = 0 ∧ kd tk c = 1 ∧ cd tk c = k ∧ kwdC tk k c = spC tk c := by
  unfold kwdC at h ⊢
  by_cases e : kd tk c = 1 ∧ cd tk c = k
  · rw [if_pos e] at h ⊢
    exact ⟨sp_0 h, e.1, e.2, rfl⟩
  · rw [if_neg e] at h
    exact absurd (sp_0 h) (fl_z (by decide))
theorem end_0 {tk : Nat → TK} {c : CC} (h : (endC tk c).2.1 = 0) : c.2.1 = 0 ∧ kd tk c = 5 ∧ cd tk c = 59 ∧ endC tk c = spC tk c := by
  unfold endC at h ⊢
  by_cases e : kd tk c = 5 ∧ cd tk c = 59
  · rw [if_pos e] at h ⊢
    exact ⟨sp_0 h, e.1, e.2, rfl⟩
  · rw [if_neg e] at h
    exact absurd (sp_0 h) (fl_z (by decide))
theorem new_0 {tk : Nat → TK} {S : ST} {N : NM} {c : CC} (h : (newC tk S N c).2.1 = 0) : c.2.1 = 0 ∧ kd tk c = 2 ∧ nmM tk S N c = none ∧ nmS tk S N c = none ∧ newC tk S N c = spC tk c := by
  unfold newC at h ⊢
  by_cases e : kd tk c = 2
  · rw [if_pos e] at h ⊢
    by_cases e2 : nmM tk S N c = none ∧ nmS tk S N c = none
    · rw [if_pos e2] at h ⊢
      exact ⟨sp_0 h, e, e2.1, e2.2, rfl⟩
    · rw [if_neg e2] at h
      exact absurd (sp_0 h) (fl_z (by decide))
  · rw [if_neg e] at h
    exact absurd (sp_0 h) (fl_z (by decide))
theorem ref_0 {tk : Nat → TK} {o : Option Nat} {c : CC} (h : (refC tk o c).2.1 = 0) : c.2.1 = 0 ∧ kd tk c = 2 ∧ o ≠ none ∧ refC tk o c = c := by
  unfold refC at h ⊢
  by_cases e : kd tk c = 2
  · rw [if_pos e] at h ⊢
    by_cases e2 : o = none
    · rw [if_pos e2] at h
      exact absurd h (fl_z (by decide))
    · rw [if_neg e2] at h ⊢
      exact ⟨h, e, e2, rfl⟩
  · rw [if_neg e] at h
    exact absurd h (fl_z (by decide))
theorem opn_0 {tk : Nat → TK} {k lo hi : Nat} {c : CC} (h : (opN tk k lo hi c).2.1 = 0) : c.2.1 = 0 ∧ (isK tk c k = true → lo ≤ opV tk k lo c ∧ opV tk k lo c ≤ hi) := by
  unfold opN at h
  unfold opV
  by_cases e : isK tk c k = true
  · rw [if_pos e] at h
    have h1 := num_0 h
    exact ⟨sp_0 h1.1, fun _ => by rw [if_pos e]; exact ⟨h1.2.2.1, h1.2.2.2.1⟩⟩
  · rw [if_neg e] at h
    exact ⟨h, fun q => absurd q e⟩
theorem opv_le {tk : Nat → TK} {k lo hi v : Nat} {c : CC} (h : (opN tk k lo hi c).2.1 = 0) (hv : lo ≤ v ∧ v ≤ hi) : lo ≤ opV tk k v c ∧ opV tk k v c ≤ hi := by
  unfold opN at h
  unfold opV
  by_cases e : isK tk c k = true
  · rw [if_pos e] at h ⊢
    have h1 := num_0 h
    exact ⟨h1.2.2.1, h1.2.2.2.1⟩
  · rw [if_neg e]; exact hv
theorem nmM_lt {tk : Nat → TK} {S : ST} {N : NM} {c : CC} (h : nmM tk S N c ≠ none) : (nmM tk S N c).getD 0 < S 0 2 := by
  cases e : nmM tk S N c with
  | none => exact absurd e h
  | some j => exact (nmI_lt e).1
theorem nmM_some {tk : Nat → TK} {S : ST} {N : NM} {c : CC} {j : Nat} (h : nmM tk S N c = some j) : (nmM tk S N c).getD 0 = j := by rw [h]; rfl
/-! a wood with one thing more -/
theorem WF_addM {S : ST} (h : WF S) {p c : Nat} (hm : S 0 2 < 6) (hp : p ≤ 20) (hc : c ≤ 100) : WF (addMN S p c) := by
  obtain ⟨h0, h1, h2, h3, h4, h5, a1, a2, a3, a4, a5, a6, a7, a8, a9, a10, a11, a12⟩ := h
  have e2 : addMN S p c 0 2 = S 0 2 + 1 := if_pos ⟨rfl, rfl⟩
  have e : ∀ k, k ≠ 2 → addMN S p c 0 k = S 0 k := fun k hk => (if_neg (by omega)).trans ((if_neg (by omega)).trans (if_neg (by omega)))
  have eo : ∀ a k, 3 ≤ a → addMN S p c a k = S a k := fun a k ha => (if_neg (by omega)).trans ((if_neg (by omega)).trans (if_neg (by omega)))
  unfold WF
  rw [e2, e 0 (by omega), e 1 (by omega), e 3 (by omega), e 4 (by omega), e 5 (by omega)]
  refine ⟨h0, h1, by omega, h3, h4, h5, fun j hj => ?_, fun j hj => ?_, fun j hj => ?_, fun j hj => ?_, fun j hj => ?_, fun j hj => ?_, fun j hj => ?_, fun j hj => ?_, fun j hj => ?_, fun j hj => ?_, fun j hj => ?_, fun j hj => ?_⟩
  · by_cases q : j = S 0 2
    · rw [show addMN S p c 1 j = p from (if_neg (by omega)).trans (if_pos ⟨rfl, q⟩)]; exact hp
    · rw [show addMN S p c 1 j = S 1 j from (if_neg (by omega)).trans ((if_neg (by omega)).trans (if_neg (by omega)))]; exact a1 j (by omega)
  · by_cases q : j = S 0 2
    · rw [show addMN S p c 2 j = c from (if_neg (by omega)).trans ((if_neg (by omega)).trans (if_pos ⟨rfl, q⟩))]; exact hc
    · rw [show addMN S p c 2 j = S 2 j from (if_neg (by omega)).trans ((if_neg (by omega)).trans (if_neg (by omega)))]; exact a2 j (by omega)
  · rw [eo _ _ (by omega)]; exact Nat.lt_succ_of_lt (a3 j hj)
  · rw [eo _ _ (by omega)]; exact Nat.lt_succ_of_lt (a4 j hj)
  · rw [eo _ _ (by omega)]; exact a5 j hj
  · rw [eo _ _ (by omega)]; exact a6 j hj
  · rw [eo _ _ (by omega)]; exact Nat.lt_succ_of_lt (a7 j hj)
  · rw [eo _ _ (by omega)]; exact a8 j hj
  · rw [eo _ _ (by omega)]; exact Nat.lt_succ_of_lt (a9 j hj)
  · rw [eo _ _ (by omega)]; exact a10 j hj
  · rw [eo _ _ (by omega)]; exact a11 j hj
  · rw [eo _ _ (by omega), eo _ _ (by omega)]; exact a12 j hj
theorem WF_addH {S : ST} (h : WF S) {x y : Nat} (hm : S 0 3 < 10) (hx : x < S 0 2) (hy : y < S 0 2) (hxy : x ≠ y) : WF (addHN S x y) := by
  obtain ⟨h0, h1, h2, h3, h4, h5, a1, a2, a3, a4, a5, a6, a7, a8, a9, a10, a11, a12⟩ := h
  have e2 : addHN S x y 0 3 = S 0 3 + 1 := if_pos ⟨rfl, rfl⟩
  have e : ∀ k, k ≠ 3 → addHN S x y 0 k = S 0 k := fun k hk => (if_neg (by omega)).trans ((if_neg (by omega)).trans (if_neg (by omega)))
  have eo : ∀ a k, (a = 1 ∨ a = 2 ∨ 5 ≤ a) → addHN S x y a k = S a k := fun a k ha => (if_neg (by omega)).trans ((if_neg (by omega)).trans (if_neg (by omega)))
  have v3 : ∀ j, addHN S x y 3 j = if j = S 0 3 then x else S 3 j := fun j => by
    by_cases q : j = S 0 3
    · rw [if_pos q]; exact (if_neg (by omega)).trans (if_pos ⟨rfl, q⟩)
    · rw [if_neg q]; exact (if_neg (by omega)).trans ((if_neg (by omega)).trans (if_neg (by omega)))
  have v4 : ∀ j, addHN S x y 4 j = if j = S 0 3 then y else S 4 j := fun j => by
    by_cases q : j = S 0 3
    · rw [if_pos q]; exact (if_neg (by omega)).trans ((if_neg (by omega)).trans (if_pos ⟨rfl, q⟩))
    · rw [if_neg q]; exact (if_neg (by omega)).trans ((if_neg (by omega)).trans (if_neg (by omega)))
  unfold WF
  rw [e2, e 0 (by omega), e 1 (by omega), e 2 (by omega), e 4 (by omega), e 5 (by omega)]
  refine ⟨h0, h1, h2, by omega, h4, h5, fun j hj => ?_, fun j hj => ?_, fun j hj => ?_, fun j hj => ?_, fun j hj => ?_, fun j hj => ?_, fun j hj => ?_, fun j hj => ?_, fun j hj => ?_, fun j hj => ?_, fun j hj => ?_, fun j hj => ?_⟩
  · rw [eo _ _ (by omega)]; exact a1 j hj
  · rw [eo _ _ (by omega)]; exact a2 j hj
  · rw [v3]
    split
    · exact hx
    · exact a3 j (by omega)
  · rw [v4]
    split
    · exact hy
    · exact a4 j (by omega)
  · rw [eo _ _ (by omega)]; exact a5 j hj
  · rw [eo _ _ (by omega)]; exact a6 j hj
  · rw [eo _ _ (by omega)]; exact a7 j hj
  · rw [eo _ _ (by omega)]; exact a8 j hj
  · rw [eo _ _ (by omega)]; exact a9 j hj
  · rw [eo _ _ (by omega)]; exact a10 j hj
  · rw [eo _ _ (by omega)]; exact a11 j hj
  · rw [v3, v4]
    by_cases q : j = S 0 3
    · rw [if_pos q, if_pos q]; exact hxy
    · rw [if_neg q, if_neg q]; exact a12 j (by omega)
theorem WF_addS {S : ST} (h : WF S) {a b k t : Nat} (hm : S 0 4 < 7) (ha : a ≤ 59) (hb : 1 ≤ b ∧ b ≤ 99) (hk : k < S 0 2) (ht : 1 ≤ t ∧ t ≤ 9) : WF (addSN S a b k t) := by
  obtain ⟨h0, h1, h2, h3, h4, h5, a1, a2, a3, a4, a5, a6, a7, a8, a9, a10, a11, a12⟩ := h
  have e2 : addSN S a b k t 0 4 = S 0 4 + 1 := if_pos ⟨rfl, rfl⟩
  have e : ∀ q, q ≠ 4 → addSN S a b k t 0 q = S 0 q := fun q hq => (if_neg (by omega)).trans ((if_neg (by omega)).trans ((if_neg (by omega)).trans ((if_neg (by omega)).trans (if_neg (by omega)))))
  have eo : ∀ q j, (q = 1 ∨ q = 2 ∨ q = 3 ∨ q = 4 ∨ 9 ≤ q) → addSN S a b k t q j = S q j := fun q j hq => (if_neg (by omega)).trans ((if_neg (by omega)).trans ((if_neg (by omega)).trans ((if_neg (by omega)).trans (if_neg (by omega)))))
  have ej : ∀ q j, j ≠ S 0 4 → q ≠ 0 → addSN S a b k t q j = S q j := fun q j hj hq => (if_neg (by omega)).trans ((if_neg (by omega)).trans ((if_neg (by omega)).trans ((if_neg (by omega)).trans (if_neg (by omega)))))
  have v5 : addSN S a b k t 5 (S 0 4) = a := (if_neg (by omega)).trans (if_pos ⟨rfl, rfl⟩)
  have v6 : addSN S a b k t 6 (S 0 4) = b := (if_neg (by omega)).trans ((if_neg (by omega)).trans (if_pos ⟨rfl, rfl⟩))
  have v7 : addSN S a b k t 7 (S 0 4) = k := (if_neg (by omega)).trans ((if_neg (by omega)).trans ((if_neg (by omega)).trans (if_pos ⟨rfl, rfl⟩)))
  have v8 : addSN S a b k t 8 (S 0 4) = t := (if_neg (by omega)).trans ((if_neg (by omega)).trans ((if_neg (by omega)).trans ((if_neg (by omega)).trans (if_pos ⟨rfl, rfl⟩))))
  unfold WF
  rw [e2, e 0 (by omega), e 1 (by omega), e 2 (by omega), e 3 (by omega), e 5 (by omega)]
  refine ⟨h0, h1, h2, h3, by omega, h5, fun j hj => ?_, fun j hj => ?_, fun j hj => ?_, fun j hj => ?_, fun j hj => ?_, fun j hj => ?_, fun j hj => ?_, fun j hj => ?_, fun j hj => ?_, fun j hj => ?_, fun j hj => ?_, fun j hj => ?_⟩
  · rw [eo _ _ (by omega)]; exact a1 j hj
  · rw [eo _ _ (by omega)]; exact a2 j hj
  · rw [eo _ _ (by omega)]; exact a3 j hj
  · rw [eo _ _ (by omega)]; exact a4 j hj
  · by_cases q : j = S 0 4
    · rw [q, v5]; exact ha
    · rw [ej _ _ q (by omega)]; exact a5 j (by omega)
  · by_cases q : j = S 0 4
    · rw [q, v6]; exact hb
    · rw [ej _ _ q (by omega)]; exact a6 j (by omega)
  · by_cases q : j = S 0 4
    · rw [q, v7]; exact hk
    · rw [ej _ _ q (by omega)]; exact a7 j (by omega)
  · by_cases q : j = S 0 4
    · rw [q, v8]; exact ht
    · rw [ej _ _ q (by omega)]; exact a8 j (by omega)
  · rw [eo _ _ (by omega)]; exact a9 j hj
  · rw [eo _ _ (by omega)]; exact a10 j hj
  · rw [eo _ _ (by omega)]; exact a11 j hj
  · rw [eo _ _ (by omega), eo _ _ (by omega)]; exact a12 j hj
theorem WF_addN {S : ST} (h : WF S) {x z : Nat} (hm : S 0 5 < 8) (hx : x < S 0 2) (hz : 1 ≤ z ∧ z ≤ 100) : WF (addNN S x z) := by
  obtain ⟨h0, h1, h2, h3, h4, h5, a1, a2, a3, a4, a5, a6, a7, a8, a9, a10, a11, a12⟩ := h
  have e2 : addNN S x z 0 5 = S 0 5 + 1 := if_pos ⟨rfl, rfl⟩
  have e : ∀ q, q ≠ 5 → addNN S x z 0 q = S 0 q := fun q hq => (if_neg (by omega)).trans ((if_neg (by omega)).trans ((if_neg (by omega)).trans (if_neg (by omega))))
  have eo : ∀ q j, 1 ≤ q → q ≤ 8 → addNN S x z q j = S q j := fun q j _ _ => (if_neg (by omega)).trans ((if_neg (by omega)).trans ((if_neg (by omega)).trans (if_neg (by omega))))
  have ej : ∀ q j, j ≠ S 0 5 → q ≠ 0 → addNN S x z q j = S q j := fun q j hj hq => (if_neg (by omega)).trans ((if_neg (by omega)).trans ((if_neg (by omega)).trans (if_neg (by omega))))
  have v9 : addNN S x z 9 (S 0 5) = x := (if_neg (by omega)).trans (if_pos ⟨rfl, rfl⟩)
  have v10 : addNN S x z 10 (S 0 5) = z := (if_neg (by omega)).trans ((if_neg (by omega)).trans (if_pos ⟨rfl, rfl⟩))
  have v11 : addNN S x z 11 (S 0 5) = 0 := (if_neg (by omega)).trans ((if_neg (by omega)).trans ((if_neg (by omega)).trans (if_pos ⟨rfl, rfl⟩)))
  unfold WF
  rw [e2, e 0 (by omega), e 1 (by omega), e 2 (by omega), e 3 (by omega), e 4 (by omega)]
  refine ⟨h0, h1, h2, h3, h4, by omega, fun j hj => ?_, fun j hj => ?_, fun j hj => ?_, fun j hj => ?_, fun j hj => ?_, fun j hj => ?_, fun j hj => ?_, fun j hj => ?_, fun j hj => ?_, fun j hj => ?_, fun j hj => ?_, fun j hj => ?_⟩
  · rw [eo _ _ (by omega) (by omega)]; exact a1 j hj
  · rw [eo _ _ (by omega) (by omega)]; exact a2 j hj
  · rw [eo _ _ (by omega) (by omega)]; exact a3 j hj
  · rw [eo _ _ (by omega) (by omega)]; exact a4 j hj
  · rw [eo _ _ (by omega) (by omega)]; exact a5 j hj
  · rw [eo _ _ (by omega) (by omega)]; exact a6 j hj
  · rw [eo _ _ (by omega) (by omega)]; exact a7 j hj
  · rw [eo _ _ (by omega) (by omega)]; exact a8 j hj
  · by_cases q : j = S 0 5
    · rw [q, v9]; exact hx
    · rw [ej _ _ q (by omega)]; exact a9 j (by omega)
  · by_cases q : j = S 0 5
    · rw [q, v10]; exact hz
    · rw [ej _ _ q (by omega)]; exact a10 j (by omega)
  · by_cases q : j = S 0 5
    · rw [q, v11]; exact Nat.zero_le _
    · rw [ej _ _ q (by omega)]; exact a11 j (by omega)
  · rw [eo _ _ (by omega) (by omega), eo _ _ (by omega) (by omega)]; exact a12 j hj
theorem WF_odd {S : ST} (h : WF S) {x : Nat} (hx : x ≤ 16) : WF (upS2 S 0 0 x) := by
  obtain ⟨h0, h⟩ := h
  exact ⟨hx, h⟩
theorem WF_pac {S : ST} (h : WF S) {k x : Nat} (hx : x ≤ 20) : WF (upS2 S 1 k x) := by
  obtain ⟨h0, h1, h2, h3, h4, h5, a1, h⟩ := h
  refine ⟨h0, h1, h2, h3, h4, h5, fun j hj => ?_, h⟩
  show (if 1 = 1 ∧ j = k then x else S 1 j) ≤ 20
  split
  · exact hx
  · exact a1 j hj
theorem WF_drop {S : ST} (h : WF S) {k : Nat} (hk : k < S 0 3) : WF (dropN S k) := by
  obtain ⟨h0, h1, h2, h3, h4, h5, a1, a2, a3, a4, a5, a6, a7, a8, a9, a10, a11, a12⟩ := h
  have e2 : dropN S k 0 3 = S 0 3 - 1 := if_pos ⟨rfl, rfl⟩
  have e : ∀ q, q ≠ 3 → dropN S k 0 q = S 0 q := fun q hq => (if_neg (by omega)).trans (if_neg (by omega))
  have eo : ∀ q j, (q = 1 ∨ q = 2 ∨ 5 ≤ q) → dropN S k q j = S q j := fun q j hq => (if_neg (by omega)).trans (if_neg (by omega))
  have v3 : ∀ j, dropN S k 3 j = S 3 (if k ≤ j then j + 1 else j) := fun j => by
    by_cases q : k ≤ j
    · rw [if_pos q]; exact (if_neg (by omega)).trans (if_pos ⟨Or.inl rfl, q⟩)
    · rw [if_neg q]; exact (if_neg (by omega)).trans (if_neg (by omega))
  have v4 : ∀ j, dropN S k 4 j = S 4 (if k ≤ j then j + 1 else j) := fun j => by
    by_cases q : k ≤ j
    · rw [if_pos q]; exact (if_neg (by omega)).trans (if_pos ⟨Or.inr rfl, q⟩)
    · rw [if_neg q]; exact (if_neg (by omega)).trans (if_neg (by omega))
  have hl : ∀ j, j < S 0 3 - 1 → (if k ≤ j then j + 1 else j) < S 0 3 := fun j hj => by split <;> omega
  unfold WF
  rw [e2, e 0 (by omega), e 1 (by omega), e 2 (by omega), e 4 (by omega), e 5 (by omega)]
  refine ⟨h0, h1, h2, by omega, h4, h5, fun j hj => ?_, fun j hj => ?_, fun j hj => ?_, fun j hj => ?_, fun j hj => ?_, fun j hj => ?_, fun j hj => ?_, fun j hj => ?_, fun j hj => ?_, fun j hj => ?_, fun j hj => ?_, fun j hj => ?_⟩
  · rw [eo _ _ (by omega)]; exact a1 j hj
  · rw [eo _ _ (by omega)]; exact a2 j hj
  · rw [v3]; exact a3 _ (hl j hj)
  · rw [v4]; exact a4 _ (hl j hj)
  · rw [eo _ _ (by omega)]; exact a5 j hj
  · rw [eo _ _ (by omega)]; exact a6 j hj
  · rw [eo _ _ (by omega)]; exact a7 j hj
  · rw [eo _ _ (by omega)]; exact a8 j hj
  · rw [eo _ _ (by omega)]; exact a9 j hj
  · rw [eo _ _ (by omega)]; exact a10 j hj
  · rw [eo _ _ (by omega)]; exact a11 j hj
  · rw [v3, v4]; exact a12 _ (hl j hj)


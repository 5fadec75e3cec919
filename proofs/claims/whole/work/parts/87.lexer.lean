def chL : List Nat := [111, 100, 100, 115, 32, 109, 97, 116, 116, 101, 114, 32, 112, 97, 99, 101, 32, 99, 108, 101, 97, 114, 32, 104, 111, 108, 100, 32, 98, 121, 32, 115, 105, 116, 116, 101, 114, 32, 109, 105, 108, 101, 32, 116, 97, 108, 108, 32, 102, 111, 114, 32, 119, 101, 105, 103, 104, 116, 32, 110, 101, 119, 115, 32, 115, 105, 122, 101, 32, 100, 97, 121, 32, 98, 114, 105, 110, 103, 32, 99, 114, 105, 115, 105, 115, 32, 116, 117, 114, 110, 32, 97, 110, 121, 32, 119, 104, 101, 110, 32, 100, 111, 119, 110, 32, 115, 101, 116, 116, 108, 101, 100, 32, 104, 105, 103, 104, 32, 108, 111, 111, 112, 32, 101, 110, 100, 32, 115, 116, 111, 112, 32]
def KWL : List Nat := [495763, 437932210, 525413, 3544114, 277892, 89, 647647410, 435589, 656780, 6642, 777297172, 464627, 632645, 4153, 2696647, 119852339, 677454, 1497, 762030, 147182, 20590506148, 271592, 409072, 5572, 643568]
def chN (i : Nat) : Nat := chL.getD i 0
def kwC (k : Nat) : Nat := KWL.getD k 0
theorem ch_str : ∀ i, i < 132 → strB.getD i 0 = nI (chN i) ∧ (chN i = 32 ∨ 97 ≤ chN i ∧ chN i ≤ 122) := by decide +kernel
/-- blanks ahead of i; the code of the word that is under way at i -/
def wcI : Nat → Nat
  | 0 => 0
  | i + 1 => if chN i = 32 then wcI i + 1 else wcI i
def wdI : Nat → Nat
  | 0 => 0
  | i + 1 => if chN i = 32 then 0 else wdI i * 32 + (chN i - 96)
theorem wc_kw : ∀ i, i < 132 → wcI i < 25 ∧ (chN i = 32 → kwC (wcI i) = wdI i) := by decide +kernel
theorem wc_end : wcI 132 = 25 := by decide +kernel
theorem kw_inj : ∀ a, a < 25 → ∀ b, b < 25 → kwC a = kwC b → a = b := by decide +kernel
theorem kw_lt : ∀ a, a < 25 → 0 < kwC a ∧ kwC a < 34359738368 := by decide +kernel
/-- the number of the keyword with this code -/
def kwF (c : Nat) : Option Nat := (List.range 25).find? (fun k => kwC k == c)
theorem kwF_s {c k : Nat} (h : kwF c = some k) : k < 25 ∧ kwC k = c := by
  unfold kwF at h
  have h1 := List.find?_some h
  have h2 := List.mem_of_find?_eq_some h
  exact ⟨List.mem_range.mp h2, by simpa using h1⟩
theorem kwF_n {c : Nat} (h : kwF c = none) : ∀ k, k < 25 → kwC k ≠ c := by
  intro k hk e
  unfold kwF at h
  have := List.find?_eq_none.mp h k (List.mem_range.mpr hk)
  simp [e] at this
theorem kwF_of {k : Nat} (hk : k < 25) : kwF (kwC k) = some k := by
  cases h : kwF (kwC k) with
  | none => exact absurd rfl (kwF_n h k hk)
  | some j => rw [kw_inj j (kwF_s h).1 k hk (kwF_s h).2]
/-- a byte as the class loads it -/
def byI (v : Nat) : Int32 := if v < 128 then nI v else nI v - nI 256
def isByt (x : Int32) : Prop := -128 ≤ x.toInt ∧ x.toInt ≤ 127
def byN (x : Int32) : Nat := (x.toInt % 256).toNat
theorem byI_t : ∀ v, v < 256 → (byI v).toInt = if v < 128 then (v : Int) else (v : Int) - 256 := by decide +kernel
theorem byI_a : ∀ v, v < 256 → byI v &&& nI 255 = nI v := by decide +kernel
theorem byN_lt (x : Int32) : byN x < 256 := by unfold byN; omega
theorem byN_e {x : Int32} (h : isByt x) : x = byI (byN x) := by
  rw [i32_eq_toInt, byI_t _ (byN_lt x)]
  unfold isByt at h
  unfold byN
  split <;> omega
theorem byN_a {x : Int32} (h : isByt x) : x &&& nI 255 = nI (byN x) := by
  have e := byI_a (byN x) (byN_lt x)
  rw [← byN_e h] at e
  exact e
def letB (v : Nat) : Bool := decide (97 ≤ v ∧ v ≤ 122)
def digB (v : Nat) : Bool := decide (48 ≤ v ∧ v ≤ 57)
def sgnB (v : Nat) : Bool := decide (59 ≤ v ∧ v ≤ 62)
def blkB (v : Nat) : Bool := decide (v = 10 ∨ v = 32)
theorem letB_i {v : Nat} : letB v = true ↔ 97 ≤ v ∧ v ≤ 122 := by unfold letB; simp
theorem digB_i {v : Nat} : digB v = true ↔ 48 ≤ v ∧ v ≤ 57 := by unfold digB; simp
theorem sgnB_i {v : Nat} : sgnB v = true ↔ 59 ≤ v ∧ v ≤ 62 := by unfold sgnB; simp
theorem blkB_i {v : Nat} : blkB v = true ↔ v = 10 ∨ v = 32 := by unfold blkB; simp
/-- the end of a run -/
def ruE (P : Nat → Bool) (D : Nat → Nat) (n : Nat) : Nat → Nat → Nat
  | 0, p => p
  | f + 1, p => if p < n ∧ P (D p) = true then ruE P D n f (p + 1) else p
def ruN (P : Nat → Bool) (D : Nat → Nat) (n p : Nat) : Nat := ruE P D n (n - p) p
theorem ruN_s {P : Nat → Bool} {D : Nat → Nat} {n p : Nat} (h : p < n) (hP : P (D p) = true) : ruN P D n p = ruN P D n (p + 1) := by
  unfold ruN
  rw [show n - p = (n - (p + 1)) + 1 by omega, ruE, if_pos ⟨h, hP⟩]
theorem ruN_e {P : Nat → Bool} {D : Nat → Nat} {n p : Nat} (h : ¬ (p < n ∧ P (D p) = true)) : ruN P D n p = p := by
  unfold ruN
  cases n - p with
  | zero => rfl
  | succ f => rw [ruE, if_neg h]
theorem ruN_in {P : Nat → Bool} {D : Nat → Nat} {n : Nat} : ∀ (f p : Nat), n - p ≤ f → p ≤ n → p ≤ ruN P D n p ∧ ruN P D n p ≤ n ∧ (∀ q, p ≤ q → q < ruN P D n p → P (D q) = true) ∧ ¬ (ruN P D n p < n ∧ P (D (ruN P D n p)) = true) := by
  intro f
  induction f with
  | zero =>
    intro p hf hp
    have e : ruN P D n p = p := ruN_e (fun q => by omega)
    rw [e]
    exact ⟨Nat.le_refl _, hp, fun q a b => by omega, fun q => by omega⟩
  | succ f ih =>
    intro p hf hp
    by_cases c : p < n ∧ P (D p) = true
    · obtain ⟨a1, a2, a3, a4⟩ := ih (p + 1) (by omega) (by omega)
      rw [ruN_s c.1 c.2]
      refine ⟨by omega, a2, fun q h1 h2 => ?_, a4⟩
      by_cases e : q = p
      · rw [e]; exact c.2
      · exact a3 q (by omega) h2
    · rw [ruN_e c]
      exact ⟨Nat.le_refl _, hp, fun q a b => by omega, c⟩
theorem ruN_b {P : Nat → Bool} {D : Nat → Nat} {n p : Nat} (hp : p ≤ n) : p ≤ ruN P D n p ∧ ruN P D n p ≤ n ∧ (∀ q, p ≤ q → q < ruN P D n p → P (D q) = true) ∧ ¬ (ruN P D n p < n ∧ P (D (ruN P D n p)) = true) := ruN_in _ p (Nat.le_refl _) hp
theorem ruN_gt {P : Nat → Bool} {D : Nat → Nat} {n p : Nat} (h : p < n) (hP : P (D p) = true) : p < ruN P D n p := by
  have := (ruN_b (P := P) (D := D) (show p + 1 ≤ n by omega)).1
  rw [ruN_s h hP]; omega
/-- a run's end is where it ends -/
theorem ruN_at {P : Nat → Bool} {D : Nat → Nat} {n p q : Nat} (hp : p ≤ q) (hq : q ≤ n) (hin : ∀ k, p ≤ k → k < q → P (D k) = true) (ho : ¬ (q < n ∧ P (D q) = true)) : ruN P D n p = q := by
  obtain ⟨a1, a2, a3, a4⟩ := ruN_b (P := P) (D := D) (show p ≤ n by omega)
  rcases Nat.lt_trichotomy (ruN P D n p) q with c | c | c
  · exact absurd ⟨by omega, hin _ a1 c⟩ a4
  · exact c
  · exact absurd ⟨by omega, a3 q hp c⟩ ho
def cdN (D : Nat → Nat) (p : Nat) : Nat → Nat
  | 0 => 0
  | k + 1 => cdN D p k * 32 + (D (p + k) - 96)
def nvN (D : Nat → Nat) (p : Nat) : Nat → Nat
  | 0 => 0
  | k + 1 => nvN D p k * 10 + (D (p + k) - 48)
theorem cdN_lt {D : Nat → Nat} {p : Nat} : ∀ {k : Nat}, (∀ q, p ≤ q → q < p + k → letB (D q) = true) → cdN D p k < 32 ^ k
  | 0, _ => Nat.one_pos
  | k + 1, h => by
    have ih := cdN_lt (k := k) (fun q a b => h q a (by omega))
    have := letB_i.mp (h (p + k) (by omega) (by omega))
    rw [cdN, Nat.pow_succ]; omega
theorem nvN_lt {D : Nat → Nat} {p : Nat} : ∀ {k : Nat}, (∀ q, p ≤ q → q < p + k → digB (D q) = true) → nvN D p k < 10 ^ k
  | 0, _ => Nat.one_pos
  | k + 1, h => by
    have ih := nvN_lt (k := k) (fun q a b => h q a (by omega))
    have := digB_i.mp (h (p + k) (by omega) (by omega))
    rw [nvN, Nat.pow_succ]; omega
/-- a token: 0 the end, 1 a keyword (its number), 2 a name (its code), 3 a long word, 4 a number, 5 a sign, 6 none; its place; its code -/
abbrev TK : Type := Nat × Nat × Nat
def wdT (D : Nat → Nat) (q r : Nat) : TK := if 8 < r - q then (3, q, 0) else match kwF (cdN D q (r - q)) with
  | some k => (1, q, k)
  | none => (2, q, cdN D q (r - q))
def nmT (D : Nat → Nat) (q r : Nat) : TK := if 4 < r - q then (6, q, 0) else (4, q, nvN D q (r - q))
/-- the token that begins at q, and what stands behind it -/
def lxQ (D : Nat → Nat) (n q : Nat) : TK × Nat := if n ≤ q then ((0, q, 0), q) else if letB (D q) = true then (wdT D q (ruN letB D n q), ruN letB D n q) else if digB (D q) = true then (nmT D q (ruN digB D n q), ruN digB D n q) else if sgnB (D q) = true then ((5, q, D q), q + 1) else ((6, q, 0), q + 1)
def lxK (D : Nat → Nat) (n p : Nat) : TK × Nat := lxQ D n (ruN blkB D n p)
def poN (D : Nat → Nat) (n : Nat) : Nat → Nat
  | 0 => 0
  | i + 1 => (lxK D n (poN D n i)).2
def tkN (D : Nat → Nat) (n i : Nat) : TK := (lxK D n (poN D n i)).1
theorem lx_blk {D : Nat → Nat} {n p : Nat} (h : p < n) (hb : blkB (D p) = true) : lxK D n p = lxK D n (p + 1) := by unfold lxK; rw [ruN_s h hb]
theorem lx_at {D : Nat → Nat} {n p : Nat} (hb : ¬ (p < n ∧ blkB (D p) = true)) : lxK D n p = lxQ D n p := by unfold lxK; rw [ruN_e hb]
theorem wdT_k {D : Nat → Nat} {q r : Nat} : (wdT D q r).1 = 1 ∨ (wdT D q r).1 = 2 ∨ (wdT D q r).1 = 3 := by
  unfold wdT
  split
  · exact Or.inr (Or.inr rfl)
  · split
    · exact Or.inl rfl
    · exact Or.inr (Or.inl rfl)
theorem nmT_k {D : Nat → Nat} {q r : Nat} : (nmT D q r).1 = 4 ∨ (nmT D q r).1 = 6 := by
  unfold nmT
  split
  · exact Or.inr rfl
  · exact Or.inl rfl
theorem lxQ_b {D : Nat → Nat} {n q : Nat} (hq : q ≤ n) : (lxQ D n q).2 ≤ n ∧ ((lxQ D n q).1.1 = 0 → lxQ D n q = ((0, n, 0), n)) ∧ ((lxQ D n q).1.1 ≠ 0 → q < (lxQ D n q).2) := by
  unfold lxQ
  by_cases c : n ≤ q
  · have e : q = n := by omega
    rw [if_pos c, e]
    exact ⟨Nat.le_refl _, fun _ => rfl, fun h => absurd rfl h⟩
  · rw [if_neg c]
    by_cases c1 : letB (D q) = true
    · rw [if_pos c1]
      have h1 := ruN_gt (show q < n by omega) c1
      have h2 := (ruN_b (P := letB) (D := D) hq).2.1
      exact ⟨h2, fun h => by rcases wdT_k (D := D) (q := q) (r := ruN letB D n q) with e | e | e <;> (rw [e] at h; cases h), fun _ => h1⟩
    · rw [if_neg c1]
      by_cases c2 : digB (D q) = true
      · rw [if_pos c2]
        have h1 := ruN_gt (show q < n by omega) c2
        have h2 := (ruN_b (P := digB) (D := D) hq).2.1
        exact ⟨h2, fun h => by rcases nmT_k (D := D) (q := q) (r := ruN digB D n q) with e | e <;> (rw [e] at h; cases h), fun _ => h1⟩
      · rw [if_neg c2]
        by_cases c3 : sgnB (D q) = true
        · rw [if_pos c3]
          exact ⟨by show q + 1 ≤ n; omega, fun h => absurd (show (5 : Nat) = 0 from h) (by decide), fun _ => Nat.lt_succ_self _⟩
        · rw [if_neg c3]
          exact ⟨by show q + 1 ≤ n; omega, fun h => absurd (show (6 : Nat) = 0 from h) (by decide), fun _ => Nat.lt_succ_self _⟩
theorem lxK_b {D : Nat → Nat} {n p : Nat} (hp : p ≤ n) : (lxK D n p).2 ≤ n ∧ ((lxK D n p).1.1 = 0 → lxK D n p = ((0, n, 0), n)) ∧ ((lxK D n p).1.1 ≠ 0 → p < (lxK D n p).2) := by
  obtain ⟨a1, a2, -⟩ := ruN_b (P := blkB) (D := D) hp
  obtain ⟨b1, b2, b3⟩ := lxQ_b (D := D) a2
  exact ⟨b1, b2, fun h => Nat.lt_of_le_of_lt a1 (b3 h)⟩
theorem po_le {D : Nat → Nat} {n : Nat} : ∀ i, poN D n i ≤ n
  | 0 => Nat.zero_le _
  | i + 1 => (lxK_b (po_le i)).1
theorem po_gt {D : Nat → Nat} {n i : Nat} (h : (tkN D n i).1 ≠ 0) : poN D n i < poN D n (i + 1) := (lxK_b (po_le i)).2.2 h
theorem po_i {D : Nat → Nat} {n : Nat} : ∀ i, (∀ j, j < i → (tkN D n j).1 ≠ 0) → i ≤ poN D n i
  | 0, _ => Nat.zero_le _
  | i + 1, h => Nat.lt_of_le_of_lt (po_i i (fun j hj => h j (by omega))) (po_gt (h i (Nat.lt_succ_self i)))
theorem tk_end {D : Nat → Nat} {n i : Nat} (h : (tkN D n i).1 = 0) : lxK D n (poN D n i) = ((0, n, 0), n) ∧ poN D n (i + 1) = n := by
  have := (lxK_b (D := D) (po_le (D := D) (n := n) i)).2.1 h
  exact ⟨this, by rw [poN, this]⟩
theorem tk_end2 {D : Nat → Nat} {n i : Nat} (h : (tkN D n i).1 = 0) : (tkN D n (i + 1)).1 = 0 := by
  unfold tkN
  rw [(tk_end h).2]
  unfold lxK
  rw [ruN_e (by omega)]
  unfold lxQ
  rw [if_pos (Nat.le_refl _)]


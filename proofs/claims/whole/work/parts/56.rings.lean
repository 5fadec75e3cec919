/-- those by which a matter of the set is HELD, without a set of HOLDS -/
def nxM (S : ST) (but set : Nat) : Nat := orN (fun i => !but.testBit i && set.testBit (S 3 i)) (S 4) (S 0 3)
def hoN (S : ST) (but k : Nat) : Nat := orN (fun i => !but.testBit i && S 3 i == k) (S 4) (S 0 3)
def rcN (S : ST) (but k : Nat) : Nat → Nat
  | 0 => 2 ^ k
  | n + 1 => nxM S but (rcN S but k n)
/-- how long the shortest RING through k is, less 1, as far as n -/
def rfN (S : ST) (but k n : Nat) : Option Nat := fiN (fun n => (rcN S but k (n + 1)).testBit k) n
def minO (a b : Option Nat) : Option Nat := match b with
  | none => a
  | some l => match a with
    | none => some l
    | some c => if l < c then some l else some c
def upO (a : Option Nat) : Option Nat := a.map (· + 1)
/-- the shortest RING through one of the first k matters -/
def rgO (S : ST) (but : Nat) : Nat → Option Nat
  | 0 => none
  | k + 1 => minO (rgO S but k) (upO (rfN S but k (S 0 2)))
def rgN (S : ST) (but : Nat) : Option Nat := rgO S but (S 0 2)
/-- what is left behind i rounds of taking away all that nothing left holds -/
def lfN (S : ST) (but : Nat) : Nat → Nat
  | 0 => 2 ^ S 0 2 - 1
  | i + 1 => bsN (fun k => (lfN S but i).testBit k && decide (hoN S but k &&& lfN S but i ≠ 0)) (S 0 2)
def frB (S : ST) (but : Nat) : Bool := (rgN S but).isNone
/-- LOOSEN -/
def loN (S : ST) : Nat := match lsN (frB S) (2 ^ S 0 3) with
  | some b => b
  | none => 2 ^ S 0 3 - 1
/-- a is HELD by b -/
def EE (S : ST) (but a b : Nat) : Prop := ∃ i, i < S 0 3 ∧ but.testBit i = false ∧ S 3 i = a ∧ S 4 i = b
theorem nx_bit {S : ST} {but set j : Nat} : (nxM S but set).testBit j = true ↔ ∃ a, set.testBit a = true ∧ EE S but a j := by
  unfold nxM
  rw [orN_bit, List.any_eq_true]
  constructor
  · intro ⟨i, hi, h⟩
    simp only [Bool.and_eq_true, Bool.not_eq_true', beq_iff_eq] at h
    exact ⟨S 3 i, h.1.2, i, List.mem_range.mp hi, h.1.1, rfl, h.2⟩
  · intro ⟨a, ha, i, hi, hb, h3, h4⟩
    refine ⟨i, List.mem_range.mpr hi, ?_⟩
    simp only [Bool.and_eq_true, Bool.not_eq_true', beq_iff_eq]
    exact ⟨⟨hb, by rw [h3]; exact ha⟩, h4⟩
theorem ho_bit {S : ST} {but k j : Nat} : (hoN S but k).testBit j = true ↔ EE S but k j := by
  unfold hoN
  rw [orN_bit, List.any_eq_true]
  constructor
  · intro ⟨i, hi, h⟩
    simp only [Bool.and_eq_true, Bool.not_eq_true', beq_iff_eq] at h
    exact ⟨i, List.mem_range.mp hi, h.1.1, h.1.2, h.2⟩
  · intro ⟨i, hi, hb, h3, h4⟩
    refine ⟨i, List.mem_range.mpr hi, ?_⟩
    simp only [Bool.and_eq_true, Bool.not_eq_true', beq_iff_eq]
    exact ⟨⟨hb, h3⟩, h4⟩
theorem EE_lt {S : ST} (hF : WF S) {but a b : Nat} (h : EE S but a b) : a < S 0 2 ∧ b < S 0 2 := by
  obtain ⟨i, hi, _, h3, h4⟩ := h
  exact ⟨h3 ▸ WF_held hF i hi, h4 ▸ WF_by hF i hi⟩
theorem nx_lt {S : ST} (hF : WF S) (but set : Nat) : nxM S but set < 2 ^ S 0 2 := orN_lt (fun j hj => WF_by hF j hj)
theorem ho_lt {S : ST} (hF : WF S) (but k : Nat) : hoN S but k < 2 ^ S 0 2 := orN_lt (fun j hj => WF_by hF j hj)
theorem rc_lt {S : ST} (hF : WF S) {but k : Nat} (hk : k < S 0 2) : ∀ n, rcN S but k n < 2 ^ S 0 2
  | 0 => Nat.pow_lt_pow_right (by decide) hk
  | n + 1 => nx_lt hF _ _
/-- all that the matters of a set are HELD by, made up matter by matter -/
def unN (f : Nat → Nat) (set : Nat) : Nat → Nat
  | 0 => 0
  | n + 1 => if set.testBit n = true then unN f set n ||| f n else unN f set n
theorem un_bit {f : Nat → Nat} {set j : Nat} : ∀ {n : Nat}, (unN f set n).testBit j = true ↔ ∃ a, a < n ∧ set.testBit a = true ∧ (f a).testBit j = true
  | 0 => by simp [unN]
  | n + 1 => by
    unfold unN
    by_cases h : set.testBit n = true
    · rw [if_pos h, Nat.testBit_or, Bool.or_eq_true, un_bit (n := n)]
      constructor
      · intro q
        rcases q with ⟨a, h1, h2, h3⟩ | q
        · exact ⟨a, by omega, h2, h3⟩
        · exact ⟨n, by omega, h, q⟩
      · intro ⟨a, h1, h2, h3⟩
        rcases (show a < n ∨ a = n by omega) with q | q
        · exact Or.inl ⟨a, q, h2, h3⟩
        · subst q; exact Or.inr h3
    · rw [if_neg h, un_bit (n := n)]
      constructor
      · intro ⟨a, h1, h2, h3⟩; exact ⟨a, by omega, h2, h3⟩
      · intro ⟨a, h1, h2, h3⟩
        rcases (show a < n ∨ a = n by omega) with q | q
        · exact ⟨a, q, h2, h3⟩
        · subst q; exact absurd h2 h
theorem un_nx {S : ST} (hF : WF S) (but set : Nat) : unN (hoN S but) set (S 0 2) = nxM S but set := by
  apply Nat.eq_of_testBit_eq
  intro j
  rw [Bool.eq_iff_iff, un_bit, nx_bit]
  constructor
  · intro ⟨a, h1, h2, h3⟩; exact ⟨a, h2, ho_bit.mp h3⟩
  · intro ⟨a, h2, h3⟩; exact ⟨a, (EE_lt hF h3).1, h2, ho_bit.mpr h3⟩
theorem un_lt {f : Nat → Nat} {set k : Nat} : ∀ {n : Nat}, (∀ j, j < n → f j < 2 ^ k) → unN f set n < 2 ^ k
  | 0, _ => Nat.two_pow_pos k
  | n + 1, h => by
    unfold unN
    have ih := un_lt (set := set) (n := n) (fun j hj => h j (by omega))
    split
    · exact Nat.or_lt_two_pow ih (h n (by omega))
    · exact ih
/-- of more than m numbers below m two are the same -/
theorem php : ∀ (m : Nat) (f : Nat → Nat), (∀ j, j ≤ m → f j < m) → ∃ a b, a < b ∧ b ≤ m ∧ f a = f b
  | 0, f, h => absurd (h 0 (Nat.le_refl 0)) (Nat.not_lt_zero _)
  | m + 1, f, h => by
    by_cases hv : ∃ a, a < m + 1 ∧ f a = f (m + 1)
    · obtain ⟨a, ha, e⟩ := hv
      exact ⟨a, m + 1, ha, Nat.le_refl _, e⟩
    · have hne : ∀ a, a < m + 1 → f a ≠ f (m + 1) := fun a ha e => hv ⟨a, ha, e⟩
      have hvm := h (m + 1) (Nat.le_refl _)
      obtain ⟨a, b, hab, hb, e⟩ := php m (fun j => if f j = m then f (m + 1) else f j) (fun j hj => by
        have h1 := h j (by omega)
        have h2 := hne j (by omega)
        show (if f j = m then f (m + 1) else f j) < m
        split
        · omega
        · omega)
      refine ⟨a, b, hab, by omega, ?_⟩
      have e : (if f a = m then f (m + 1) else f a) = (if f b = m then f (m + 1) else f b) := e
      have ha := hne a (by omega)
      have hb2 := hne b (by omega)
      by_cases c1 : f a = m
      · by_cases c2 : f b = m
        · omega
        · rw [if_pos c1, if_neg c2] at e; exact absurd e.symm hb2
      · by_cases c2 : f b = m
        · rw [if_neg c1, if_pos c2] at e; exact absurd e ha
        · rw [if_neg c1, if_neg c2] at e; exact e
/-- a walk of n steps -/
def WK (S : ST) (but : Nat) (f : Nat → Nat) (n : Nat) : Prop := ∀ j, j < n → EE S but (f j) (f (j + 1))
theorem rc_walk {S : ST} {but k : Nat} : ∀ {n j : Nat}, (rcN S but k n).testBit j = true ↔ ∃ f, f 0 = k ∧ f n = j ∧ WK S but f n
  | 0, j => by
    show (2 ^ k).testBit j = true ↔ _
    rw [Nat.testBit_two_pow]
    constructor
    · intro h
      exact ⟨fun _ => k, rfl, by simpa using h, fun j hj => absurd hj (by omega)⟩
    · intro ⟨f, h0, h1, _⟩
      simp only [decide_eq_true_eq]; omega
  | n + 1, j => by
    show (nxM S but (rcN S but k n)).testBit j = true ↔ _
    rw [nx_bit]
    constructor
    · intro ⟨a, ha, he⟩
      obtain ⟨f, h0, h1, h2⟩ := rc_walk.mp ha
      refine ⟨fun i => if i ≤ n then f i else j, by simp [h0], by show (if n + 1 ≤ n then f (n + 1) else j) = j; rw [if_neg (by omega)], fun i hi => ?_⟩
      by_cases c : i = n
      · subst c
        show EE S but (if i ≤ i then f i else j) (if i + 1 ≤ i then f (i + 1) else j)
        rw [if_pos (Nat.le_refl _), if_neg (by omega), h1]; exact he
      · show EE S but (if i ≤ n then f i else j) (if i + 1 ≤ n then f (i + 1) else j)
        rw [if_pos (by omega), if_pos (by omega)]; exact h2 i (by omega)
    · intro ⟨f, h0, h1, h2⟩
      exact ⟨f n, rc_walk.mpr ⟨f, h0, rfl, fun i hi => h2 i (by omega)⟩, h1 ▸ h2 n (by omega)⟩
theorem and_ne {a b : Nat} : a &&& b ≠ 0 ↔ ∃ j, a.testBit j = true ∧ b.testBit j = true := by
  constructor
  · intro h
    obtain ⟨j, hj⟩ := Nat.exists_testBit_of_ne_zero h
    rw [Nat.testBit_and, Bool.and_eq_true] at hj
    exact ⟨j, hj⟩
  · intro ⟨j, h1, h2⟩ h
    have := congrArg (fun z => Nat.testBit z j) h
    simp [h1, h2] at this
theorem lf_walk {S : ST} (hF : WF S) {but : Nat} : ∀ {n k : Nat}, (lfN S but n).testBit k = true ↔ k < S 0 2 ∧ ∃ f, f 0 = k ∧ WK S but f n
  | 0, k => by
    show (2 ^ S 0 2 - 1).testBit k = true ↔ _
    rw [Nat.testBit_two_pow_sub_one]
    simp only [decide_eq_true_eq]
    exact ⟨fun h => ⟨h, fun _ => k, rfl, fun j hj => absurd hj (by omega)⟩, fun h => h.1⟩
  | n + 1, k => by
    show (bsN _ (S 0 2)).testBit k = true ↔ _
    rw [bsN_bit, Bool.and_eq_true, Bool.and_eq_true, decide_eq_true_eq, decide_eq_true_eq, and_ne]
    constructor
    · intro ⟨hk, _, j, h1, h2⟩
      obtain ⟨_, f, f0, fw⟩ := (lf_walk hF).mp h2
      refine ⟨hk, fun i => if i = 0 then k else f (i - 1), rfl, fun i hi => ?_⟩
      show EE S but (if i = 0 then k else f (i - 1)) (if i + 1 = 0 then k else f (i + 1 - 1))
      rw [if_neg (show ¬ i + 1 = 0 by omega), Nat.add_sub_cancel]
      by_cases c : i = 0
      · subst c; rw [if_pos rfl, f0]; exact ho_bit.mp h1
      · rw [if_neg c]
        have := fw (i - 1) (by omega)
        rw [show i - 1 + 1 = i by omega] at this; exact this
    · intro ⟨hk, f, f0, fw⟩
      have e0 := fw 0 (by omega)
      refine ⟨hk, (lf_walk hF).mpr ⟨hk, f, f0, fun i hi => fw i (by omega)⟩, f 1, ho_bit.mpr (f0 ▸ e0), (lf_walk hF).mpr ⟨(EE_lt hF e0).2, fun i => f (i + 1), rfl, fun i hi => fw (i + 1) (by omega)⟩⟩
theorem minO_none {a b : Option Nat} : minO a b = none ↔ a = none ∧ b = none := by
  unfold minO
  cases b with
  | none => simp
  | some l =>
    cases a with
    | none => simp
    | some c => simp; split <;> simp
theorem rgO_none {S : ST} {but : Nat} : ∀ {k : Nat}, rgO S but k = none ↔ ∀ j, j < k → rfN S but j (S 0 2) = none
  | 0 => ⟨fun _ j hj => absurd hj (by omega), fun _ => rfl⟩
  | k + 1 => by
    show minO _ _ = none ↔ _
    rw [minO_none, rgO_none (k := k)]
    constructor
    · intro ⟨a, b⟩ j hj
      rcases (show j < k ∨ j = k by omega) with h | h
      · exact a j h
      · subst h
        unfold upO at b
        cases e : rfN S but j (S 0 2) with
        | none => rfl
        | some v => rw [e] at b; cases b
    · intro h
      exact ⟨fun j hj => h j (by omega), by unfold upO; rw [h k (by omega)]; rfl⟩
/-- no RING: nothing is left -/
theorem ring_free {S : ST} (hF : WF S) (but : Nat) : frB S but = true ↔ lfN S but (S 0 2) = 0 := by
  unfold frB rgN
  rw [Option.isNone_iff_eq_none, rgO_none]
  constructor
  · intro h
    rcases Nat.eq_zero_or_pos (lfN S but (S 0 2)) with e | e
    · exact e
    · exfalso
      obtain ⟨k, hk⟩ := Nat.exists_testBit_of_ne_zero (show lfN S but (S 0 2) ≠ 0 by omega)
      obtain ⟨hk2, f, f0, fw⟩ := (lf_walk hF).mp hk
      obtain ⟨a, b, hab, hb, e⟩ := php (S 0 2) f (fun j hj => by
        by_cases c : j = 0
        · subst c; rw [f0]; exact hk2
        · have := (EE_lt hF (fw (j - 1) (by omega))).2
          rw [show j - 1 + 1 = j by omega] at this; exact this)
      have hfa : f a < S 0 2 := (EE_lt hF (fw a (by omega))).1
      have h1 := fiN_none (h (f a) hfa) (b - a - 1) (by omega)
      rw [show (rcN S but (f a) (b - a - 1 + 1)).testBit (f a) = true from rc_walk.mpr ⟨fun i => f (a + i), rfl, by show f (a + (b - a - 1 + 1)) = f a; rw [show a + (b - a - 1 + 1) = b by omega]; exact e.symm, fun i hi => fw (a + i) (by omega)⟩] at h1
      exact absurd h1 (by decide)
  · intro h k hk
    apply fiN_no
    intro n hn
    cases e : (rcN S but k (n + 1)).testBit k with
    | false => rfl
    | true =>
      exfalso
      obtain ⟨f, f0, f1, fw⟩ := rc_walk.mp e
      have : (lfN S but (S 0 2)).testBit k = true := (lf_walk hF).mpr ⟨hk, fun i => f (i % (n + 1)), by simp [f0], fun i hi => by
        show EE S but (f (i % (n + 1))) (f ((i + 1) % (n + 1)))
        have hm := Nat.mod_lt i (show 0 < n + 1 by omega)
        by_cases c : i % (n + 1) = n
        · rw [show (i + 1) % (n + 1) = 0 by rw [Nat.add_mod, c]; by_cases hn0 : n = 0; · subst hn0; rfl
                                            · rw [Nat.mod_eq_of_lt (show 1 < n + 1 by omega)]; simp, c, f0, ← f1]
          exact fw n (by omega)
        · rw [show (i + 1) % (n + 1) = i % (n + 1) + 1 by rw [Nat.add_mod]; by_cases hn0 : n = 0; · omega
                                                          · rw [Nat.mod_eq_of_lt (show 1 < n + 1 by omega), Nat.mod_eq_of_lt (by omega)]]
          exact fw _ (by omega)⟩
      rw [h] at this
      simp at this
theorem sz_all : ∀ h, h ≤ 10 → ∀ i, i < 2 ^ h → i ≠ 2 ^ h - 1 → szN i < szN (2 ^ h - 1) := by decide +kernel
theorem fr_all {S : ST} (hF : WF S) : frB S (2 ^ S 0 3 - 1) = true := by
  rw [ring_free hF]
  apply Nat.eq_of_testBit_eq
  intro k
  rw [Nat.zero_testBit]
  cases e : (lfN S (2 ^ S 0 3 - 1) (S 0 2)).testBit k with
  | false => rfl
  | true =>
    exfalso
    obtain ⟨hk, f, f0, fw⟩ := (lf_walk hF).mp e
    obtain ⟨i, hi, hb, _⟩ := fw 0 (by omega)
    rw [Nat.testBit_two_pow_sub_one] at hb
    simp at hb; omega
theorem ls_some {ok : Nat → Bool} {m : Nat} (h : ok m = true) : ∀ {n : Nat}, m < n → ∃ b, lsN ok n = some b
  | 0, hn => absurd hn (by omega)
  | n + 1, hn => by
    cases e : lsN ok n with
    | none =>
      by_cases c : m = n
      · subst c; exact ⟨_, ls_n1 e h⟩
      · obtain ⟨b, hb⟩ := ls_some h (n := n) (by omega)
        rw [hb] at e; cases e
    | some b =>
      simp only [lsN, e]
      split
      · exact ⟨_, rfl⟩
      · exact ⟨_, rfl⟩
theorem lo_some {S : ST} (hF : WF S) : lsN (frB S) (2 ^ S 0 3) = some (loN S) := by
  obtain ⟨b, hb⟩ := ls_some (fr_all hF) (n := 2 ^ S 0 3) (by have := Nat.two_pow_pos (S 0 3); omega)
  unfold loN
  rw [hb]
/-- the class's best while it looks through the sets -/
def lcN (S : ST) (n : Nat) : Nat := match lsN (frB S) n with
  | some b => b
  | none => 2 ^ S 0 3 - 1
theorem lc_t {S : ST} (hF : WF S) {n : Nat} (hn : n < 2 ^ S 0 3) (h : szN n < szN (lcN S n)) (h2 : frB S n = true) : lcN S (n + 1) = n := by
  unfold lcN at *
  cases e : lsN (frB S) n with
  | none => rw [ls_n1 e h2]
  | some b => rw [e] at h; rw [ls_s1 e h h2]
theorem lc_f {S : ST} (hF : WF S) {n : Nat} (hn : n < 2 ^ S 0 3) (h : ¬ (szN n < szN (lcN S n) ∧ frB S n = true)) : lcN S (n + 1) = lcN S n := by
  have hh := WF_h hF
  unfold lcN at *
  cases e : lsN (frB S) n with
  | none =>
    rw [e] at h
    cases e2 : frB S n with
    | false => rw [ls_n0 e e2]
    | true =>
      rw [ls_n1 e e2]
      by_cases c : n = 2 ^ S 0 3 - 1
      · exact c
      · exact absurd ⟨sz_all _ hh n hn c, e2⟩ h
  | some b =>
    rw [e] at h
    by_cases c : szN n < szN b
    · cases e2 : frB S n with
      | false => rw [ls_sf e e2]
      | true => exact absurd ⟨c, e2⟩ h
    · rw [ls_s0 e c]
theorem lc_lt {S : ST} {n : Nat} (hn : n ≤ 2 ^ S 0 3) : lcN S n < 2 ^ S 0 3 := by
  have := Nat.two_pow_pos (S 0 3)
  unfold lcN
  cases e : lsN (frB S) n with
  | none => show 2 ^ S 0 3 - 1 < _; omega
  | some b => have := ls_lt e; show b < _; omega
def sp_ring (T : TT) : AN := match rgN (tS T) 0 with
  | some v => (nI v, st' T 0)
  | none => (-1, st' T 8)
def sp_loosen (T : TT) : AN := (nI (szN (loN (tS T))), st' T 0)
def sp_loosenSet (T : TT) : AN := (nI (loN (tS T)), st' T 0)

abbrev gI (v : Nat) : Int32 := nI v - nI 99
theorem gI_t {v : Nat} (h : v ≤ 198) : (gI v).toInt = (v : Int) - 99 := pk_sub_toInt (by omega) (by decide)
theorem gI_e {x a b : Nat} (ha : a ≤ 99) (hb : b ≤ 99) (h : x + b = 99 + a) : nI a - nI b = gI x := by
  apply Int32.toInt_inj.mp
  rw [pk_sub_toInt (by omega) (by omega), gI_t (by omega)]; omega
theorem gI_max {a b : Nat} (ha : a ≤ 198) (hb : b ≤ 198) : (if gI a < gI b then gI b else gI a) = gI (max a b) := by
  have h1 := gI_t ha
  have h2 := gI_t hb
  by_cases c : a < b
  · rw [if_pos (Int32.lt_iff_toInt_lt.mpr (by omega)), Nat.max_eq_right (by omega)]
  · rw [if_neg (fun q => c (by have := Int32.lt_iff_toInt_lt.mp q; omega)), Nat.max_eq_left (by omega)]
theorem gI_min {a b : Nat} (ha : a ≤ 198) (hb : b ≤ 198) : (if gI b < gI a then gI b else gI a) = gI (min a b) := by
  have h1 := gI_t ha
  have h2 := gI_t hb
  by_cases c : b < a
  · rw [if_pos (Int32.lt_iff_toInt_lt.mpr (by omega)), Nat.min_eq_right (by omega)]
  · rw [if_neg (fun q => c (by have := Int32.lt_iff_toInt_lt.mp q; omega)), Nat.min_eq_left (by omega)]
def hgP (S : ST) (p : Nat) : Nat := hgt (S 6 p) (S 2 (S 7 p))
def canB (S : ST) (n : Nat) : Bool := decide (S 11 n = 0) && decide (S 2 (S 9 n) < 100)
def bet (u v w : Nat) : Bool := if u = 1 then decide (w < v) else decide (v < w)
def mmU (u a b : Nat) : Nat := if u = 1 then max a b else min a b
/-- the best of the first k and the first where it stands -/
def gA (u : Nat) (ok : Nat → Bool) (V : Nat → Nat) : Nat → Option (Nat × Nat)
  | 0 => none
  | k + 1 => if ok k = true then (match gA u ok V k with
    | none => some (V k, k)
    | some r => if bet u (V k) r.1 = true then some (V k, k) else some r) else gA u ok V k
def gBst : Option (Nat × Nat) → Nat
  | none => 0
  | some r => r.1
def gAt : Option (Nat × Nat) → Nat
  | none => 0
  | some r => r.2
def gOk (S : ST) (n : Nat) : Bool := decide (n = S 0 5) || canB S n
/-- what the game comes to with f turns left, 99 added -/
def gV (p q : Nat) : Nat → Nat → ST → Nat
  | 0, _, S => 99 + hgP S q - hgP S p
  | f + 1, u, S => gBst (gA u (gOk S) (fun n => if n = S 0 5 then gV p q f (1 - u) S else gV p q f (1 - u) (comeN S n)) (S 0 5 + 1))
def gX (p q f u : Nat) (S : ST) (n : Nat) : Nat := if n = S 0 5 then gV p q f (1 - u) S else gV p q f (1 - u) (comeN S n)
def gR (p q f u : Nat) (S : ST) : Option (Nat × Nat) := gA u (gOk S) (gX p q f u S) (S 0 5 + 1)
theorem gV_s (p q f u : Nat) (S : ST) : gV p q (f + 1) u S = gBst (gR p q f u S) := rfl
theorem WF_comeN {S : ST} (h : WF S) {i : Nat} : WF (comeN S i) := by
  obtain ⟨h0, h1, h2, h3, h4, h5, a1, a2, a3, a4, a5, a6, a7, a8, a9, a10, a11, a12⟩ := h
  refine ⟨h0, h1, h2, h3, h4, h5, a1, fun j hj => ?_, a3, a4, a5, a6, a7, a8, a9, a10, fun j hj => ?_, a12⟩
  · show (if _ then _ else _) ≤ 100
    split
    · exact Nat.min_le_left _ _
    · rw [if_neg (by omega)]; exact a2 j hj
  · show (if _ then _ else _) ≤ 1
    rw [if_neg (by omega)]
    split
    · exact Nat.le_refl _
    · exact a11 j hj
theorem gA_0 {u : Nat} {ok : Nat → Bool} {V : Nat → Nat} {k : Nat} (h : ok k = false) : gA u ok V (k + 1) = gA u ok V k := by
  rw [gA, if_neg (by rw [h]; exact Bool.false_ne_true)]
theorem gA_n {u : Nat} {ok : Nat → Bool} {V : Nat → Nat} {k : Nat} (h : ok k = true) (e : gA u ok V k = none) : gA u ok V (k + 1) = some (V k, k) := by
  rw [gA, if_pos h, e]
theorem gA_t {u : Nat} {ok : Nat → Bool} {V : Nat → Nat} {k : Nat} {r : Nat × Nat} (h : ok k = true) (e : gA u ok V k = some r) (b : bet u (V k) r.1 = true) : gA u ok V (k + 1) = some (V k, k) := by
  rw [gA, if_pos h, e]; exact if_pos b
theorem gA_f {u : Nat} {ok : Nat → Bool} {V : Nat → Nat} {k : Nat} {r : Nat × Nat} (h : ok k = true) (e : gA u ok V k = some r) (b : ¬ bet u (V k) r.1 = true) : gA u ok V (k + 1) = some r := by
  rw [gA, if_pos h, e]; exact if_neg b
theorem gA_in {u : Nat} {ok : Nat → Bool} {V : Nat → Nat} {r : Nat × Nat} : ∀ {k : Nat}, gA u ok V k = some r → r.2 < k ∧ ok r.2 = true ∧ r.1 = V r.2
  | 0, h => by cases h
  | k + 1, h => by
    have old : gA u ok V k = some r → r.2 < k + 1 ∧ ok r.2 = true ∧ r.1 = V r.2 := fun q => ⟨Nat.lt_succ_of_lt (gA_in q).1, (gA_in q).2⟩
    cases c : ok k with
    | false => rw [gA_0 c] at h; exact old h
    | true =>
      cases e : gA u ok V k with
      | none => rw [gA_n c e] at h; cases h; exact ⟨Nat.lt_succ_self _, c, rfl⟩
      | some w =>
        by_cases b : bet u (V k) w.1 = true
        · rw [gA_t c e b] at h; cases h; exact ⟨Nat.lt_succ_self _, c, rfl⟩
        · rw [gA_f c e b] at h; cases h; exact old e
theorem gA_ex {u : Nat} {ok : Nat → Bool} {V : Nat → Nat} {k : Nat} (h : ok k = true) : ∃ r, gA u ok V (k + 1) = some r := by
  cases e : gA u ok V k with
  | none => exact ⟨_, gA_n h e⟩
  | some w =>
    by_cases b : bet u (V k) w.1 = true
    · exact ⟨_, gA_t h e b⟩
    · exact ⟨_, gA_f h e b⟩
theorem gV_le {p q : Nat} : ∀ {f u : Nat} {S : ST}, WF S → p < S 0 4 → q < S 0 4 → gV p q f u S ≤ 198
  | 0, u, S, h, hp, hq => by
    have h1 := hgt_le (S 6 q) (S 2 (S 7 q))
    have h2 := (WF_tall h q hq).2
    show 99 + hgP S q - hgP S p ≤ 198
    unfold hgP; omega
  | f + 1, u, S, h, hp, hq => by
    obtain ⟨r, hr⟩ := gA_ex (u := u) (ok := gOk S) (V := gX p q f u S) (k := S 0 5) (by unfold gOk; simp)
    rw [gV_s]
    show gBst (gA u (gOk S) (gX p q f u S) (S 0 5 + 1)) ≤ 198
    rw [hr]
    show r.1 ≤ 198
    rw [(gA_in hr).2.2]
    unfold gX
    split
    · exact gV_le h hp hq
    · exact gV_le (WF_comeN h) hp hq
theorem gX_le {p q f u : Nat} {S : ST} (h : WF S) (hp : p < S 0 4) (hq : q < S 0 4) (n : Nat) : gX p q f u S n ≤ 198 := by
  unfold gX
  split
  · exact gV_le h hp hq
  · exact gV_le (WF_comeN h) hp hq
/-- none first, then the news, the best of it so far -/
def cfN (u z : Nat) (V : Nat → Nat) (ok : Nat → Bool) : Nat → Nat
  | 0 => z
  | k + 1 => if ok k = true then mmU u (cfN u z V ok k) (V k) else cfN u z V ok k
theorem bet_t {u a b : Nat} (h : bet u a b = true) : mmU u b a = a := by
  unfold bet at h; unfold mmU
  by_cases c : u = 1
  · rw [if_pos c] at h ⊢; have := of_decide_eq_true h; omega
  · rw [if_neg c] at h ⊢; have := of_decide_eq_true h; omega
theorem bet_f {u a b : Nat} (h : ¬ bet u a b = true) : mmU u b a = b := by
  unfold bet at h; unfold mmU
  by_cases c : u = 1
  · rw [if_pos c] at h ⊢
    have : ¬ b < a := fun q => h (decide_eq_true q)
    omega
  · rw [if_neg c] at h ⊢
    have : ¬ a < b := fun q => h (decide_eq_true q)
    omega
theorem mmU_c (u a b : Nat) : mmU u a b = mmU u b a := by unfold mmU; split <;> omega
theorem mmU_a (u a b c : Nat) : mmU u (mmU u a b) c = mmU u a (mmU u b c) := by unfold mmU; split <;> omega
theorem cf_gA {u z : Nat} {V : Nat → Nat} {ok : Nat → Bool} : ∀ k, (gA u ok V k = none ∧ cfN u z V ok k = z) ∨ ∃ r, gA u ok V k = some r ∧ cfN u z V ok k = mmU u z r.1
  | 0 => Or.inl ⟨rfl, rfl⟩
  | k + 1 => by
    cases c : ok k with
    | false =>
      have e : cfN u z V ok (k + 1) = cfN u z V ok k := by rw [cfN, if_neg (by rw [c]; exact Bool.false_ne_true)]
      rw [gA_0 c, e]; exact cf_gA k
    | true =>
      have e : cfN u z V ok (k + 1) = mmU u (cfN u z V ok k) (V k) := by rw [cfN, if_pos c]
      rcases cf_gA (u := u) (z := z) (V := V) (ok := ok) k with ⟨h1, h2⟩ | ⟨r, h1, h2⟩
      · exact Or.inr ⟨_, gA_n c h1, by rw [e, h2]⟩
      · by_cases b : bet u (V k) r.1 = true
        · exact Or.inr ⟨_, gA_t c h1 b, by rw [e, h2, mmU_a, bet_t b]⟩
        · exact Or.inr ⟨_, gA_f c h1 b, by rw [e, h2, mmU_a, bet_f b]⟩
theorem gA_cg {u : Nat} {ok ok2 : Nat → Bool} {V V2 : Nat → Nat} : ∀ {k : Nat}, (∀ j, j < k → ok j = ok2 j ∧ V j = V2 j) → gA u ok V k = gA u ok2 V2 k
  | 0, _ => rfl
  | k + 1, h => by
    rw [gA, gA, gA_cg (fun j hj => h j (by omega)), (h k (Nat.lt_succ_self _)).1, (h k (Nat.lt_succ_self _)).2]
def gW (p q f u : Nat) (S : ST) (n : Nat) : Nat := gV p q f (1 - u) (comeN S n)
theorem gA_nw (p q f u : Nat) (S : ST) : gA u (gOk S) (gX p q f u S) (S 0 5) = gA u (canB S) (gW p q f u S) (S 0 5) := gA_cg (fun j hj => ⟨by
  unfold gOk
  rw [show decide (j = S 0 5) = false from decide_eq_false (by omega)]; rfl, if_neg (by omega)⟩)
theorem gX_0 (p q f u : Nat) (S : ST) : gX p q f u S (S 0 5) = gV p q f (1 - u) S := if_pos rfl
theorem gOk_0 (S : ST) : gOk S (S 0 5) = true := by unfold gOk; simp
theorem cf_V (p q f u : Nat) (S : ST) : cfN u (gV p q f (1 - u) S) (gW p q f u S) (canB S) (S 0 5) = gV p q (f + 1) u S := by
  rw [gV_s]
  unfold gR
  rcases cf_gA (u := u) (z := gV p q f (1 - u) S) (V := gW p q f u S) (ok := canB S) (S 0 5) with ⟨h1, h2⟩ | ⟨r, h1, h2⟩
  · rw [h2, gA_n (gOk_0 S) ((gA_nw p q f u S).trans h1)]
    show _ = gX p q f u S (S 0 5)
    rw [gX_0]
  · have e := (gA_nw p q f u S).trans h1
    rw [h2]
    by_cases b : bet u (gX p q f u S (S 0 5)) r.1 = true
    · rw [gA_t (gOk_0 S) e b, mmU_c, ← gX_0, bet_t b]; rfl
    · rw [gA_f (gOk_0 S) e b, mmU_c, ← gX_0, bet_f b]; rfl
theorem cfN_le {u z : Nat} {V : Nat → Nat} {ok : Nat → Bool} (hz : z ≤ 198) : ∀ {k : Nat}, (∀ j, j < k → V j ≤ 198) → cfN u z V ok k ≤ 198
  | 0, _ => hz
  | k + 1, h => by
    have h1 := cfN_le (u := u) (ok := ok) hz (k := k) (fun j hj => h j (by omega))
    have h2 := h k (Nat.lt_succ_self _)
    rw [cfN]
    split
    · unfold mmU; split <;> omega
    · exact h1
theorem cf_t {u z : Nat} {V : Nat → Nat} {ok : Nat → Bool} {k : Nat} (h : ok k = true) : cfN u z V ok (k + 1) = mmU u (cfN u z V ok k) (V k) := by rw [cfN, if_pos h]
theorem cf_f {u z : Nat} {V : Nat → Nat} {ok : Nat → Bool} {k : Nat} (h : ok k = false) : cfN u z V ok (k + 1) = cfN u z V ok k := by rw [cfN, if_neg (by rw [h]; exact Bool.false_ne_true)]
/-- from the last news back: the most and where -/
def dS (z : Nat) (V : Nat → Nat) (ok : Nat → Bool) (m : Nat) : Nat → Nat × Option Nat
  | 0 => (z, none)
  | t + 1 => if ok (m - t - 1) = true ∧ (dS z V ok m t).1 ≤ V (m - t - 1) then (V (m - t - 1), some (m - t - 1)) else dS z V ok m t
theorem dS_in {z : Nat} {V : Nat → Nat} {ok : Nat → Bool} {m : Nat} : ∀ {t : Nat}, t ≤ m → z ≤ (dS z V ok m t).1 ∧ (∀ j, m - t ≤ j → j < m → ok j = true → V j ≤ (dS z V ok m t).1) ∧ ((dS z V ok m t).2 = none → (dS z V ok m t).1 = z ∧ ∀ j, m - t ≤ j → j < m → ok j = true → V j < z) ∧ ∀ a, (dS z V ok m t).2 = some a → m - t ≤ a ∧ a < m ∧ ok a = true ∧ V a = (dS z V ok m t).1 ∧ ∀ j, m - t ≤ j → j < a → ok j = true → V j < (dS z V ok m t).1
  | 0, h => ⟨Nat.le_refl _, fun j a b _ => absurd b (by omega), fun _ => ⟨rfl, fun j a b _ => absurd b (by omega)⟩, fun a q => by cases q⟩
  | t + 1, h => by
    obtain ⟨h1, h2, h3, h4⟩ := dS_in (z := z) (V := V) (ok := ok) (m := m) (t := t) (by omega)
    by_cases c : ok (m - t - 1) = true ∧ (dS z V ok m t).1 ≤ V (m - t - 1)
    · rw [dS, if_pos c]
      refine ⟨Nat.le_trans h1 c.2, fun j a b k => ?_, fun q => (by cases q), fun a q => ?_⟩
      · by_cases e : j = m - t - 1
        · subst e; exact Nat.le_refl _
        · exact Nat.le_trans (h2 j (by omega) b k) c.2
      · cases q
        exact ⟨by omega, by omega, c.1, rfl, fun j a b k => absurd b (by omega)⟩
    · rw [dS, if_neg c]
      have new : ok (m - t - 1) = true → V (m - t - 1) < (dS z V ok m t).1 := fun k => by
        rcases Nat.lt_or_ge (V (m - t - 1)) (dS z V ok m t).1 with e | e
        · exact e
        · exact absurd ⟨k, e⟩ c
      refine ⟨h1, fun j a b k => ?_, fun q => ⟨(h3 q).1, fun j a b k => ?_⟩, fun a q => ?_⟩
      · by_cases e : j = m - t - 1
        · subst e; exact Nat.le_of_lt (new k)
        · exact h2 j (by omega) b k
      · by_cases e : j = m - t - 1
        · subst e; have := new k; rw [(h3 q).1] at this; exact this
        · exact (h3 q).2 j (by omega) b k
      · obtain ⟨g1, g2, g3, g4, g5⟩ := h4 a q
        refine ⟨by omega, g2, g3, g4, fun j a b k => ?_⟩
        by_cases e : j = m - t - 1
        · subst e; exact new k
        · exact g5 j (by omega) b k
theorem gA_no {u : Nat} {ok : Nat → Bool} {V : Nat → Nat} : ∀ {k : Nat}, gA u ok V k = none → ∀ j, j < k → ok j = false
  | 0, _, j, hj => absurd hj (Nat.not_lt_zero _)
  | k + 1, q, j, hj => by
    cases c : ok k with
    | true =>
      obtain ⟨w, hw⟩ := gA_ex (u := u) (ok := ok) (V := V) c
      rw [hw] at q; cases q
    | false =>
      rw [gA_0 c] at q
      by_cases e : j = k
      · rw [e]; exact c
      · exact gA_no q j (by omega)
theorem gA_mx {ok : Nat → Bool} {V : Nat → Nat} {r : Nat × Nat} : ∀ {k : Nat}, gA 1 ok V k = some r → (∀ j, j < k → ok j = true → V j ≤ r.1) ∧ ∀ j, j < r.2 → ok j = true → V j < r.1
  | 0, h => by cases h
  | k + 1, h => by
    cases c : ok k with
    | false =>
      rw [gA_0 c] at h
      obtain ⟨h1, h2⟩ := gA_mx h
      refine ⟨fun j hj k' => ?_, h2⟩
      by_cases e : j = k
      · subst e; rw [c] at k'; exact absurd k' Bool.false_ne_true
      · exact h1 j (by omega) k'
    | true =>
      cases e : gA 1 ok V k with
      | none =>
        rw [gA_n c e] at h; cases h
        refine ⟨fun j hj k' => ?_, fun j hj k' => absurd ((gA_no e j hj).symm.trans k') (by decide)⟩
        by_cases e2 : j = k
        · subst e2; exact Nat.le_refl _
        · exact absurd ((gA_no e j (by omega)).symm.trans k') (by decide)
      | some w =>
        obtain ⟨h1, h2⟩ := gA_mx e
        by_cases b : bet 1 (V k) w.1 = true
        · rw [gA_t c e b] at h; cases h
          have hb : w.1 < V k := of_decide_eq_true b
          refine ⟨fun j hj k' => ?_, fun j hj k' => Nat.lt_of_le_of_lt (h1 j hj k') hb⟩
          by_cases e2 : j = k
          · subst e2; exact Nat.le_refl _
          · exact Nat.le_trans (h1 j (by omega) k') (Nat.le_of_lt hb)
        · have hb : ¬ w.1 < V k := fun q => b (decide_eq_true q)
          rw [gA_f c e b] at h; cases h
          refine ⟨fun j hj k' => ?_, h2⟩
          by_cases e2 : j = k
          · subst e2; omega
          · exact h1 j (by omega) k'
/-- the first of the best first news; none where to bring none is better -/
def gMv (p q f : Nat) (S : ST) : Option Nat := if gAt (gR p q f 1 S) = S 0 5 then none else some (gAt (gR p q f 1 S))
theorem dS_mv (p q f : Nat) (S : ST) : (dS (gV p q f 0 S) (gW p q f 1 S) (canB S) (S 0 5) (S 0 5)).2 = gMv p q f S := by
  obtain ⟨d1, d2, d3, d4⟩ := dS_in (z := gV p q f 0 S) (V := gW p q f 1 S) (ok := canB S) (m := S 0 5) (Nat.le_refl _)
  obtain ⟨r, hr⟩ := gA_ex (u := 1) (ok := gOk S) (V := gX p q f 1 S) (gOk_0 S)
  obtain ⟨r1, r2, r3⟩ := gA_in hr
  obtain ⟨m1, m2⟩ := gA_mx hr
  have z0 : gX p q f 1 S (S 0 5) = gV p q f 0 S := gX_0 p q f 1 S
  have xw : ∀ j, j < S 0 5 → gX p q f 1 S j = gW p q f 1 S j := fun j hj => if_neg (by omega)
  have kw : ∀ j, j < S 0 5 → gOk S j = canB S j := fun j hj => by
    unfold gOk
    rw [show decide (j = S 0 5) = false from decide_eq_false (by omega)]; rfl
  have mz := m1 (S 0 5) (Nat.lt_succ_self _) (gOk_0 S)
  unfold gMv gR
  rw [hr]
  show _ = if r.2 = S 0 5 then none else some r.2
  generalize hD : dS (gV p q f 0 S) (gW p q f 1 S) (canB S) (S 0 5) (S 0 5) = D at *
  by_cases c : r.2 = S 0 5
  · rw [if_pos c]
    cases e : D.2 with
    | none => rfl
    | some a =>
      obtain ⟨g1, g2, g3, g4, g5⟩ := d4 a e
      have := m2 a (by omega) (by rw [kw a g2]; exact g3)
      rw [xw a g2, g4, r3, c, z0] at this
      omega
  · rw [if_neg c]
    have rl : r.2 < S 0 5 := by omega
    have k2 : canB S r.2 = true := by rw [← kw _ rl]; exact r2
    have v2 : r.1 = gW p q f 1 S r.2 := by rw [r3, xw _ rl]
    cases e : D.2 with
    | none =>
      have := (d3 e).2 r.2 (by omega) rl k2
      omega
    | some a =>
      obtain ⟨g1, g2, g3, g4, g5⟩ := d4 a e
      have q1 := m1 a (by omega) (by rw [kw a g2]; exact g3)
      rw [xw a g2] at q1
      have q2 := d2 r.2 (by omega) rl k2
      rcases Nat.lt_trichotomy a r.2 with t | t | t
      · have := m2 a t (by rw [kw a g2]; exact g3)
        rw [xw a g2] at this; omega
      · rw [t]
      · have := g5 r.2 (by omega) t k2
        omega
theorem siM_un {M : Mm} {k j : Nat} {x y : Int32} (h : M.1 k j = y) : siM (siM M k j x) k j y = M := by
  refine Prod.ext (funext fun a => funext fun b => ?_) rfl
  show (if a = k ∧ b = j then y else if a = k ∧ b = j then x else M.1 a b) = M.1 a b
  by_cases e : a = k ∧ b = j
  · rw [if_pos e, e.1, e.2, h]
  · rw [if_neg e, if_neg e]
theorem siM_id {M : Mm} {k j : Nat} {y : Int32} (h : M.1 k j = y) : siM M k j y = M := by
  refine Prod.ext (funext fun a => funext fun b => ?_) rfl
  show (if a = k ∧ b = j then y else M.1 a b) = M.1 a b
  by_cases e : a = k ∧ b = j
  · rw [if_pos e, e.1, e.2, h]
  · rw [if_neg e]
/-- the class in the midst of a game: it stands at S', its wood at S -/
def gC (S S' : ST) (p q c : Nat) (M : Mm) : Prop := VX 17 M S ∧ WF S ∧ WF S' ∧ (∀ x j, x ≠ 2 → x ≠ 11 → S' x j = S x j) ∧ M.1 130 1 = nI p ∧ M.1 130 2 = nI q ∧ (∀ j, j < S 0 2 → M.1 131 j = nI (S' 2 j)) ∧ c = bsN (fun j => S' 11 j == 1) (S 0 5) ∧ p < S 0 4 ∧ q < S 0 4
theorem gC_come {S S' : ST} {p q c : Nat} {M : Mm} (h : gC S S' p q c M) {n : Nat} (hn : n < S 0 5) : gC S (comeN S' n) p q (c ||| 2 ^ n) (siM M 131 (S 9 n) (nI (min 100 (S' 2 (S 9 n) + S 10 n)))) := by
  obtain ⟨h1, h2, h3, h4, h5, h6, h7, h8, h9, h10⟩ := h
  have e9 : S' 9 n = S 9 n := h4 9 n (by decide) (by decide)
  have e10 : S' 10 n = S 10 n := h4 10 n (by decide) (by decide)
  have e5 : S' 0 5 = S 0 5 := h4 0 5 (by decide) (by decide)
  refine ⟨VX_fr h1 (fun k j a b => siN rfl (by omega)), h2, WF_comeN h3, fun x j a b => ?_, siN h5 (by omega), siN h6 (by omega), fun j hj => ?_, ?_, h9, h10⟩
  · show (if _ then _ else _) = _
    rw [if_neg (by omega), if_neg (by omega)]; exact h4 x j a b
  · by_cases e : j = S 9 n
    · subst e
      rw [siS]
      show _ = nI (if _ then _ else _)
      rw [if_pos ⟨rfl, e9.symm⟩, e10]
    · rw [siN (h7 j hj) (by omega)]
      show _ = nI (if _ then _ else _)
      rw [if_neg (by omega), if_neg (by omega)]
  · rw [h8, ← e5, came_or S' (by omega)]

set_option maxRecDepth 100000 in
set_option maxHeartbeats 800000 in
theorem c_X1_heightOf {M : Mm} {S S' : ST} {p q c : Nat} (hg : gC S S' p q c M) {t : Nat} (ht : t < S 0 4) {Q : Option Value → Mm → Prop} (hQ : Q (some (.int (nI (hgP S' t)))) M) (d : Nat) : AMt miX1_heightOf (d + 1) [.ref 130, .ref 17, .int (nI t)] M Q := by
  refine AMt.of (by decide) (Nat.le_of_ble_eq_true rfl) ?_
  show AW miX1_heightOf (d + 1) (mxA Q) 0 [(0, some (.ref 130)), (1, some (.ref 17)), (2, some (.int (nI t)))] [] M
  obtain ⟨hV, hF, hF', h4, h5, h6, h7, h8, h9, h10⟩ := id hg
  have hm := WF_m hF
  have hh := WF_h hF
  have hs := WF_s hF
  have hn := WF_n hF
  have e5 : S' 0 5 = S 0 5 := h4 0 5 (by decide) (by decide)
  have e4 : S' 0 4 = S 0 4 := h4 0 4 (by decide) (by decide)
  have e2 : S' 0 2 = S 0 2 := h4 0 2 (by decide) (by decide)
  have hcl : c < 2 ^ S 0 5 := h8 ▸ bsN_lt _ _
  have hpn : 2 ^ S 0 5 ≤ 2 ^ 8 := Nat.pow_le_pow_right (by decide) hn
  have hfo := WF_for hF t ht
  have hcl2 := WF_clear hF' (S 7 t) (by omega)
  refine a_aload_n rfl dX1_heightOf_0 ?_
  refine a_iload_n rfl dX1_heightOf_1 ?_
  refine a_aload_n rfl dX1_heightOf_2 ?_
  refine a_geta dX1_heightOf_3 fX1_9 (by decide) rfl rfl ?_
  refine a_aload_n rfl dX1_heightOf_6 ?_
  refine a_geta dX1_heightOf_7 fX1_74 (by decide) rfl rfl ?_
  refine a_iload_n rfl dX1_heightOf_10 ?_
  refine v_iald (by omega) (VX_a9 hV (by omega)) (by decide) rfl (by decide) dX1_heightOf_11 ?_
  refine v_iald (by omega) (h7 _ (by omega)) (by decide) rfl (by decide) dX1_heightOf_12 ?_
  refine n_callV (mi' := miX6_heightBy) dX1_heightOf_13 lX1_77 mX6_heightBy (by decide) rfl rfl rfl (c_X6_heightBy isW17 hV hF (by omega) (by omega) ?_ d) rfl rfl (by omega) (by decide) (Nat.le_of_ble_eq_true rfl)
  show AW _ _ _ _ _ _ _
  refine a_iret dX1_heightOf_16 rfl ?_
  have hQ : Q (some (.int (nI (hgt (S' 6 t) (S' 2 (S' 7 t)))))) M := hQ
  rw [h4 6 t (by decide) (by decide), h4 7 t (by decide) (by decide)] at hQ
  exact hQ

set_option maxRecDepth 100000 in
set_option maxHeartbeats 800000 in
theorem c_X1_canCome {M : Mm} {S S' : ST} {p q c : Nat} (hg : gC S S' p q c M) {n : Nat} (hi : n < S 0 5) {Q : Option Value → Mm → Prop} (h1 : canB S' n = true → Q (some (.int (nI 1))) M) (h0 : canB S' n = false → Q (some (.int (nI 0))) M) (d : Nat) : AMt miX1_canCome (d) [.ref 130, .ref 17, .int (nI c), .int (nI n)] M Q := by
  refine AMt.of (by decide) (Nat.le_of_ble_eq_true rfl) ?_
  show AW miX1_canCome (d) (mxA Q) 0 [(0, some (.ref 130)), (1, some (.ref 17)), (2, some (.int (nI c))), (3, some (.int (nI n)))] [] M
  obtain ⟨hV, hF, hF', h4, h5, h6, h7, h8, h9, h10⟩ := id hg
  have hm := WF_m hF
  have hh := WF_h hF
  have hs := WF_s hF
  have hn := WF_n hF
  have e5 : S' 0 5 = S 0 5 := h4 0 5 (by decide) (by decide)
  have e4 : S' 0 4 = S 0 4 := h4 0 4 (by decide) (by decide)
  have e2 : S' 0 2 = S 0 2 := h4 0 2 (by decide) (by decide)
  have hcl : c < 2 ^ S 0 5 := h8 ▸ bsN_lt _ _
  have hpn : 2 ^ S 0 5 ≤ 2 ^ 8 := Nat.pow_le_pow_right (by decide) hn
  have hab := WF_about hF n hi
  have hcb : (if c.testBit n then 1 else 0) < 2 := by split <;> omega
  have hct : c.testBit n = false ↔ S' 11 n = 0 := by rw [h8, ← e5]; exact came_bit hF' (by omega)
  have e9 : S' 9 n = S 9 n := h4 9 n (by decide) (by decide)
  have hcl2 := WF_clear hF' (S 9 n) (by omega)
  refine a_iload_n rfl dX1_canCome_0 ?_
  refine a_iload_n rfl dX1_canCome_1 ?_
  refine n_shr (by omega) (by omega) dX1_canCome_2 ?_
  refine n_iconst 1 rfl dX1_canCome_3 ?_
  refine n_has dX1_canCome_4 ?_
  refine n_if_ne 28 (by omega) dX1_canCome_5 (by decide) (fun h_5 => ?_) (fun h_5 => ?_)
  · refine n_iconst 0 rfl dX1_canCome_28 ?_
    refine a_zret dX1_canCome_29 rfl (Or.inl rfl) ?_
    exact h0 (by unfold canB; rw [decide_eq_false (fun z => by have := hct.mpr z; rw [this] at h_5; exact absurd rfl h_5)]; simp)
  · refine a_aload_n rfl dX1_canCome_8 ?_
    refine a_geta dX1_canCome_9 fX1_9 (by decide) rfl rfl ?_
    refine a_aload_n rfl dX1_canCome_12 ?_
    refine a_geta dX1_canCome_13 fX1_55 (by decide) rfl rfl ?_
    refine a_iload_n rfl dX1_canCome_16 ?_
    refine v_iald (by omega) (VX_a11 hV (by omega)) (by decide) rfl (by decide) dX1_canCome_17 ?_
    refine v_iald (by omega) (h7 _ (by omega)) (by decide) rfl (by decide) dX1_canCome_18 ?_
    refine n_bipush 100 rfl dX1_canCome_19 ?_
    refine n_icmp_ge 28 (by omega) (by omega) dX1_canCome_21 (by decide) (fun h_21 => ?_) (fun h_21 => ?_)
    · refine n_iconst 0 rfl dX1_canCome_28 ?_
      refine a_zret dX1_canCome_29 rfl (Or.inl rfl) ?_
      exact h0 (by unfold canB; rw [e9, decide_eq_false (show ¬ S' 2 (S 9 n) < 100 by omega)]; simp)
    · refine n_iconst 1 rfl dX1_canCome_24 ?_
      refine a_goto 29 dX1_canCome_25 (by decide) ?_
      refine a_zret dX1_canCome_29 rfl (Or.inr rfl) ?_
      exact h1 (by unfold canB; rw [e9, decide_eq_true (hct.mp (by cases e : c.testBit n <;> simp [e] at h_5 ⊢)), decide_eq_true (by omega)]; rfl)

set_option maxRecDepth 100000 in
set_option maxHeartbeats 800000 in
theorem c_X1_behind {M : Mm} {S S' : ST} {p q c : Nat} (hg : gC S S' p q c M) {n f u : Nat} (hi : n < S 0 5) (hf9 : f < 100) (hu : u ≤ 1) (ih : ∀ {M : Mm} {S' : ST} {c u : Nat}, gC S S' p q c M → u ≤ 1 → ∀ {Q : Option Value → Mm → Prop}, Q (some (.int (gI (gV p q f u S')))) M → ∀ d, AMt miX1_best (d + 2 * f + 3) [.ref 130, .ref 17, .int (nI f), .int (nI u), .int (nI c)] M Q) {Q : Option Value → Mm → Prop} (hQ : Q (some (.int (gI (gW p q f u S' n)))) M) (d : Nat) : AMt miX1_behind (d + 2 * f + 4) [.ref 130, .ref 17, .int (nI n), .int (nI (f + 1)), .int (nI u), .int (nI c)] M Q := by
  refine AMt.of (by decide) (Nat.le_of_ble_eq_true rfl) ?_
  show AW miX1_behind (d + 2 * f + 4) (mxA Q) 0 [(0, some (.ref 130)), (1, some (.ref 17)), (2, some (.int (nI n))), (3, some (.int (nI (f + 1)))), (4, some (.int (nI u))), (5, some (.int (nI c)))] [] M
  obtain ⟨hV, hF, hF', h4, h5, h6, h7, h8, h9, h10⟩ := id hg
  have hm := WF_m hF
  have hh := WF_h hF
  have hs := WF_s hF
  have hn := WF_n hF
  have e5 : S' 0 5 = S 0 5 := h4 0 5 (by decide) (by decide)
  have e4 : S' 0 4 = S 0 4 := h4 0 4 (by decide) (by decide)
  have e2 : S' 0 2 = S 0 2 := h4 0 2 (by decide) (by decide)
  have hcl : c < 2 ^ S 0 5 := h8 ▸ bsN_lt _ _
  have hpn : 2 ^ S 0 5 ≤ 2 ^ 8 := Nat.pow_le_pow_right (by decide) hn
  have hab := WF_about hF n hi
  have hsz := WF_size hF n hi
  have e9 : S' 9 n = S 9 n := h4 9 n (by decide) (by decide)
  have hcl2 := WF_clear hF' (S 9 n) (by omega)
  have hgc := gC_come hg hi
  refine a_aload_n rfl dX1_behind_0 ?_
  refine a_geta dX1_behind_1 fX1_55 (by decide) rfl rfl ?_
  refine a_iload_n rfl dX1_behind_4 ?_
  refine v_iald (by omega) (VX_a11 hV (by omega)) (by decide) rfl (by decide) dX1_behind_5 ?_
  refine a_istore (by decide) rfl dX1_behind_6 ?_
  refine a_aload_n rfl dX1_behind_8 ?_
  refine a_geta dX1_behind_9 fX1_9 (by decide) rfl rfl ?_
  refine a_iload rfl dX1_behind_12 ?_
  refine v_iald (by omega) (h7 _ (by omega)) (by decide) rfl (by decide) dX1_behind_14 ?_
  refine a_istore (by decide) rfl dX1_behind_15 ?_
  refine a_aload_n rfl dX1_behind_17 ?_
  refine a_geta dX1_behind_18 fX1_9 (by decide) rfl rfl ?_
  refine a_iload rfl dX1_behind_21 ?_
  refine n_bipush 100 rfl dX1_behind_23 ?_
  refine a_iload rfl dX1_behind_25 ?_
  refine a_aload_n rfl dX1_behind_27 ?_
  refine a_geta dX1_behind_28 fX1_58 (by decide) rfl rfl ?_
  refine a_iload_n rfl dX1_behind_31 ?_
  refine v_iald (by omega) (VX_a12 hV (by omega)) (by decide) rfl (by decide) dX1_behind_32 ?_
  refine n_iadd dX1_behind_33 ?_
  refine n_min (by omega) (by omega) dX1_behind_34 lX1_61 (Nat.le_of_ble_eq_true rfl) ?_
  refine n_iast (by omega) (by decide) rfl (by decide) dX1_behind_37 ?_
  refine a_aload_n rfl dX1_behind_38 ?_
  refine a_aload_n rfl dX1_behind_39 ?_
  refine a_iload_n rfl dX1_behind_40 ?_
  refine n_iconst 1 rfl dX1_behind_41 ?_
  refine n_isub (by omega) dX1_behind_42 ?_
  refine a_eqi (y := nI f) (congrArg nI (by omega)) ?_
  refine a_iload rfl dX1_behind_43 ?_
  refine n_if_ne 52 (by omega) dX1_behind_45 (by decide) (fun h_45 => ?_) (fun h_45 => ?_)
  · refine n_iconst 0 rfl dX1_behind_52 ?_
    refine a_eqi (y := nI (1 - u)) (congrArg nI (by omega)) ?_
    refine a_iload rfl dX1_behind_53 ?_
    refine n_iconst 1 rfl dX1_behind_55 ?_
    refine a_iload_n rfl dX1_behind_56 ?_
    refine n_bit (by omega) dX1_behind_57 ?_
    refine n_ior dX1_behind_58 ?_
    refine n_callV (mi' := miX1_best) dX1_behind_59 lX1_40 mX1_best (by decide) rfl rfl rfl (ih hgc (by omega) ?_ d) rfl rfl (by omega) (by decide) (Nat.le_of_ble_eq_true rfl)
    show AW _ _ _ _ _ _ _
    refine a_istore (by decide) rfl dX1_behind_62 ?_
    refine a_aload_n rfl dX1_behind_64 ?_
    refine a_geta dX1_behind_65 fX1_9 (by decide) rfl rfl ?_
    refine a_iload rfl dX1_behind_68 ?_
    refine a_iload rfl dX1_behind_70 ?_
    refine n_iast (by omega) (by decide) rfl (by decide) dX1_behind_72 ?_
    refine a_iload rfl dX1_behind_73 ?_
    refine a_iret dX1_behind_75 rfl ?_
    rw [siM_un (h7 _ hab)]
    exact hQ
  · refine n_iconst 1 rfl dX1_behind_48 ?_
    refine a_goto 53 dX1_behind_49 (by decide) ?_
    refine a_eqi (y := nI (1 - u)) (congrArg nI (by omega)) ?_
    refine a_iload rfl dX1_behind_53 ?_
    refine n_iconst 1 rfl dX1_behind_55 ?_
    refine a_iload_n rfl dX1_behind_56 ?_
    refine n_bit (by omega) dX1_behind_57 ?_
    refine n_ior dX1_behind_58 ?_
    refine n_callV (mi' := miX1_best) dX1_behind_59 lX1_40 mX1_best (by decide) rfl rfl rfl (ih hgc (by omega) ?_ d) rfl rfl (by omega) (by decide) (Nat.le_of_ble_eq_true rfl)
    show AW _ _ _ _ _ _ _
    refine a_istore (by decide) rfl dX1_behind_62 ?_
    refine a_aload_n rfl dX1_behind_64 ?_
    refine a_geta dX1_behind_65 fX1_9 (by decide) rfl rfl ?_
    refine a_iload rfl dX1_behind_68 ?_
    refine a_iload rfl dX1_behind_70 ?_
    refine n_iast (by omega) (by decide) rfl (by decide) dX1_behind_72 ?_
    refine a_iload rfl dX1_behind_73 ?_
    refine a_iret dX1_behind_75 rfl ?_
    rw [siM_un (h7 _ hab)]
    exact hQ

set_option maxRecDepth 100000 in
set_option maxHeartbeats 800000 in
theorem c_best0 {M : Mm} {S S' : ST} {p q c : Nat} (hg : gC S S' p q c M) {u : Nat} {Q : Option Value → Mm → Prop} (hQ : Q (some (.int (gI (gV p q 0 u S')))) M) (d : Nat) : AMt miX1_best (d + 3) [.ref 130, .ref 17, .int (nI 0), .int (nI u), .int (nI c)] M Q := by
  refine AMt.of (by decide) (Nat.le_of_ble_eq_true rfl) ?_
  show AW miX1_best (d + 3) (mxA Q) 0 [(0, some (.ref 130)), (1, some (.ref 17)), (2, some (.int (nI 0))), (3, some (.int (nI u))), (4, some (.int (nI c)))] [] M
  obtain ⟨hV, hF, hF', h4, h5, h6, h7, h8, h9, h10⟩ := id hg
  have hm := WF_m hF
  have hh := WF_h hF
  have hs := WF_s hF
  have hn := WF_n hF
  have e5 : S' 0 5 = S 0 5 := h4 0 5 (by decide) (by decide)
  have e4 : S' 0 4 = S 0 4 := h4 0 4 (by decide) (by decide)
  have e2 : S' 0 2 = S 0 2 := h4 0 2 (by decide) (by decide)
  have hcl : c < 2 ^ S 0 5 := h8 ▸ bsN_lt _ _
  have hpn : 2 ^ S 0 5 ≤ 2 ^ 8 := Nat.pow_le_pow_right (by decide) hn
  have h1p := hgt_le (S' 6 p) (S' 2 (S' 7 p))
  have h1q := hgt_le (S' 6 q) (S' 2 (S' 7 q))
  have h2p := WF_tall hF' p (by omega)
  have h2q := WF_tall hF' q (by omega)
  refine a_iload_n rfl dX1_best_0 ?_
  refine n_if_gt 24 (by decide) dX1_best_1 (by decide) (fun h => absurd h (by decide)) (fun _ => ?_)
  refine a_aload_n rfl dX1_best_4 ?_
  refine a_aload_n rfl dX1_best_5 ?_
  refine a_aload_n rfl dX1_best_6 ?_
  refine g_i h6 (by decide) rfl fX1_19 rfl dX1_best_7 ?_
  refine n_callV (mi' := miX1_heightOf) dX1_best_10 lX1_67 mX1_heightOf (by decide) rfl rfl rfl (c_X1_heightOf hg (by omega) ?_ d) rfl rfl (by omega) (by decide) (Nat.le_of_ble_eq_true rfl)
  show AW _ _ _ _ _ _ _
  refine a_aload_n rfl dX1_best_13 ?_
  refine a_aload_n rfl dX1_best_14 ?_
  refine a_aload_n rfl dX1_best_15 ?_
  refine g_i h5 (by decide) rfl fX1_15 rfl dX1_best_16 ?_
  refine n_callV (mi' := miX1_heightOf) dX1_best_19 lX1_67 mX1_heightOf (by decide) rfl rfl rfl (c_X1_heightOf hg (by omega) ?_ d) rfl rfl (by omega) (by decide) (Nat.le_of_ble_eq_true rfl)
  show AW _ _ _ _ _ _ _
  refine a_isub dX1_best_22 ?_
  refine a_iret dX1_best_23 rfl ?_
  rw [gI_e (x := gV p q 0 u S') (show hgP S' q ≤ 99 by unfold hgP; omega) (show hgP S' p ≤ 99 by unfold hgP; omega) (by show 99 + hgP S' q - hgP S' p + hgP S' p = 99 + hgP S' q; unfold hgP; omega)]
  exact hQ

set_option maxRecDepth 100000 in
set_option maxHeartbeats 800000 in
theorem c_bestS {M : Mm} {S S' : ST} {p q c : Nat} (hg : gC S S' p q c M) {f u : Nat} (hf9 : f < 100) (hu : u ≤ 1) (ih : ∀ {M : Mm} {S' : ST} {c u : Nat}, gC S S' p q c M → u ≤ 1 → ∀ {Q : Option Value → Mm → Prop}, Q (some (.int (gI (gV p q f u S')))) M → ∀ d, AMt miX1_best (d + 2 * f + 3) [.ref 130, .ref 17, .int (nI f), .int (nI u), .int (nI c)] M Q) {Q : Option Value → Mm → Prop} (hQ : Q (some (.int (gI (gV p q (f + 1) u S')))) M) (d : Nat) : AMt miX1_best (d + 2 * (f + 1) + 3) [.ref 130, .ref 17, .int (nI (f + 1)), .int (nI u), .int (nI c)] M Q := by
  refine AMt.of (by decide) (Nat.le_of_ble_eq_true rfl) ?_
  show AW miX1_best (d + 2 * (f + 1) + 3) (mxA Q) 0 [(0, some (.ref 130)), (1, some (.ref 17)), (2, some (.int (nI (f + 1)))), (3, some (.int (nI u))), (4, some (.int (nI c)))] [] M
  obtain ⟨hV, hF, hF', h4, h5, h6, h7, h8, h9, h10⟩ := id hg
  have hm := WF_m hF
  have hh := WF_h hF
  have hs := WF_s hF
  have hn := WF_n hF
  have e5 : S' 0 5 = S 0 5 := h4 0 5 (by decide) (by decide)
  have e4 : S' 0 4 = S 0 4 := h4 0 4 (by decide) (by decide)
  have e2 : S' 0 2 = S 0 2 := h4 0 2 (by decide) (by decide)
  have hcl : c < 2 ^ S 0 5 := h8 ▸ bsN_lt _ _
  have hpn : 2 ^ S 0 5 ≤ 2 ^ 8 := Nat.pow_le_pow_right (by decide) hn
  have hzl : gV p q f (1 - u) S' ≤ 198 := gV_le hF' (by omega) (by omega)
  have hgw : ∀ n, gW p q f u S' n ≤ 198 := fun n => gV_le (WF_comeN hF') (show p < S' 0 4 by omega) (show q < S' 0 4 by omega)
  refine a_iload_n rfl dX1_best_0 ?_
  refine n_if_gt 24 (by omega) dX1_best_1 (by decide) (fun h_1 => ?_) (fun h_1 => absurd h_1 (by omega))
  refine a_aload_n rfl dX1_best_24 ?_
  refine a_aload_n rfl dX1_best_25 ?_
  refine a_iload_n rfl dX1_best_26 ?_
  refine n_iconst 1 rfl dX1_best_27 ?_
  refine n_isub (by omega) dX1_best_28 ?_
  refine a_eqi (y := nI f) (congrArg nI (by omega)) ?_
  refine a_iload_n rfl dX1_best_29 ?_
  refine n_if_ne 37 (by omega) dX1_best_30 (by decide) (fun h_30 => ?_) (fun h_30 => ?_)
  · refine n_iconst 0 rfl dX1_best_37 ?_
    refine a_eqi (y := nI (1 - u)) (congrArg nI (by omega)) ?_
    refine a_iload rfl dX1_best_38 ?_
    refine n_callV (mi' := miX1_best) dX1_best_40 lX1_40 mX1_best (by decide) rfl rfl rfl (ih hg (by omega) ?_ d) rfl rfl (by omega) (by decide) (Nat.le_of_ble_eq_true rfl)
    show AW _ _ _ _ _ _ _
    refine a_istore (by decide) rfl dX1_best_43 ?_
    refine n_iconst 0 rfl dX1_best_45 ?_
    refine a_istore (by decide) rfl dX1_best_46 ?_
    have loop_48 : ∀ i, i ≤ S 0 5 → AW miX1_best (d + 2 * (f + 1) + 3) (mxA Q) 48 [(0, some (.ref 130)), (1, some (.ref 17)), (2, some (.int (nI (f + 1)))), (3, some (.int (nI u))), (4, some (.int (nI c))), (5, some (.int ((gI (cfN u (gV p q f (1 - u) S') (gW p q f u S') (canB S') i))))), (6, some (.int (nI i)))] [] M := by
      refine up (S 0 5) ?_ (fun i hi_48 ih_48 => ?_)
      · refine a_iload rfl dX1_best_48 ?_
        refine a_aload_n rfl dX1_best_50 ?_
        refine g_i (VX_5 hV) (by decide) rfl fX1_44 rfl dX1_best_51 ?_
        refine n_icmp_ge 111 (by omega) (by omega) dX1_best_54 (by decide) (fun h_54 => ?_) (fun h_54 => absurd h_54 (by omega))
        refine a_iload rfl dX1_best_111 ?_
        refine a_iret dX1_best_113 rfl ?_
        rw [← e5, cf_V]
        exact hQ
      · have hcfl : cfN u (gV p q f (1 - u) S') (gW p q f u S') (canB S') i ≤ 198 := cfN_le hzl (fun j _ => hgw j)
        have hgwl : gW p q f u S' i ≤ 198 := hgw i
        refine a_iload rfl dX1_best_48 ?_
        refine a_aload_n rfl dX1_best_50 ?_
        refine g_i (VX_5 hV) (by decide) rfl fX1_44 rfl dX1_best_51 ?_
        refine n_icmp_ge 111 (by omega) (by omega) dX1_best_54 (by decide) (fun h_54 => absurd h_54 (by omega)) (fun h_54 => ?_)
        refine a_aload_n rfl dX1_best_57 ?_
        refine a_aload_n rfl dX1_best_58 ?_
        refine a_iload rfl dX1_best_59 ?_
        refine a_iload rfl dX1_best_61 ?_
        refine n_callV (mi' := miX1_canCome) dX1_best_63 lX1_47 mX1_canCome (by decide) rfl rfl rfl (c_X1_canCome hg (by omega) (fun h_63 => ?_) (fun h_63 => ?_) d) rfl rfl (by omega) (by decide) (Nat.le_of_ble_eq_true rfl)
        · show AW _ _ _ _ _ _ _
          refine n_if_eq 105 (by decide) dX1_best_66 (by decide) (fun h => absurd h (by decide)) (fun _ => ?_)
          refine a_aload_n rfl dX1_best_69 ?_
          refine a_aload_n rfl dX1_best_70 ?_
          refine a_iload rfl dX1_best_71 ?_
          refine a_iload_n rfl dX1_best_73 ?_
          refine a_iload_n rfl dX1_best_74 ?_
          refine a_iload rfl dX1_best_75 ?_
          refine n_callV (mi' := miX1_behind) dX1_best_77 lX1_51 mX1_behind (by decide) rfl rfl rfl (c_X1_behind hg (by omega) (by omega) hu ih ?_ d) rfl rfl (by omega) (by decide) (Nat.le_of_ble_eq_true rfl)
          show AW _ _ _ _ _ _ _
          refine a_istore (by decide) rfl dX1_best_80 ?_
          refine a_iload_n rfl dX1_best_82 ?_
          refine n_if_eq 96 (by omega) dX1_best_83 (by decide) (fun h_83 => ?_) (fun h_83 => ?_)
          · refine a_iload rfl dX1_best_96 ?_
            refine a_iload rfl dX1_best_98 ?_
            refine a_min dX1_best_100 lX1_61 (Nat.le_of_ble_eq_true rfl) ?_
            refine a_eqi (y := gI (cfN u (gV p q f (1 - u) S') (gW p q f u S') (canB S') (i + 1))) ((gI_min hcfl hgwl).trans (congrArg gI (by rw [cf_t h_63]; unfold mmU; rw [if_neg (by omega)]))) ?_
            refine a_istore (by decide) rfl dX1_best_103 ?_
            refine n_iinc (c := 1) rfl rfl (by decide) rfl dX1_best_105 ?_
            refine a_goto 48 dX1_best_108 (by decide) ?_
            exact a_bk ih_48 ⟨rfl, rfl, rfl, rfl, rfl, rfl, rfl, trivial⟩
          · refine a_iload rfl dX1_best_86 ?_
            refine a_iload rfl dX1_best_88 ?_
            refine a_max dX1_best_90 lX1_71 (Nat.le_of_ble_eq_true rfl) ?_
            refine a_goto 103 dX1_best_93 (by decide) ?_
            refine a_eqi (y := gI (cfN u (gV p q f (1 - u) S') (gW p q f u S') (canB S') (i + 1))) ((gI_max hcfl hgwl).trans (congrArg gI (by rw [cf_t h_63]; unfold mmU; rw [if_pos (by omega)]))) ?_
            refine a_istore (by decide) rfl dX1_best_103 ?_
            refine n_iinc (c := 1) rfl rfl (by decide) rfl dX1_best_105 ?_
            refine a_goto 48 dX1_best_108 (by decide) ?_
            exact a_bk ih_48 ⟨rfl, rfl, rfl, rfl, rfl, rfl, rfl, trivial⟩
        · show AW _ _ _ _ _ _ _
          refine n_if_eq 105 (by decide) dX1_best_66 (by decide) (fun _ => ?_) (fun h => absurd h (by decide))
          refine n_iinc (c := 1) rfl rfl (by decide) rfl dX1_best_105 ?_
          refine a_goto 48 dX1_best_108 (by decide) ?_
          rw [cf_f h_63] at ih_48
          exact a_bk ih_48 ⟨rfl, rfl, rfl, rfl, rfl, rfl, rfl, trivial⟩
    exact a_bk (loop_48 0 (by omega)) ⟨rfl, rfl, rfl, rfl, rfl, rfl, rfl, trivial⟩
  · refine n_iconst 1 rfl dX1_best_33 ?_
    refine a_goto 38 dX1_best_34 (by decide) ?_
    refine a_eqi (y := nI (1 - u)) (congrArg nI (by omega)) ?_
    refine a_iload rfl dX1_best_38 ?_
    refine n_callV (mi' := miX1_best) dX1_best_40 lX1_40 mX1_best (by decide) rfl rfl rfl (ih hg (by omega) ?_ d) rfl rfl (by omega) (by decide) (Nat.le_of_ble_eq_true rfl)
    show AW _ _ _ _ _ _ _
    refine a_istore (by decide) rfl dX1_best_43 ?_
    refine n_iconst 0 rfl dX1_best_45 ?_
    refine a_istore (by decide) rfl dX1_best_46 ?_
    have loop_48 : ∀ i, i ≤ S 0 5 → AW miX1_best (d + 2 * (f + 1) + 3) (mxA Q) 48 [(0, some (.ref 130)), (1, some (.ref 17)), (2, some (.int (nI (f + 1)))), (3, some (.int (nI u))), (4, some (.int (nI c))), (5, some (.int ((gI (cfN u (gV p q f (1 - u) S') (gW p q f u S') (canB S') i))))), (6, some (.int (nI i)))] [] M := by
      refine up (S 0 5) ?_ (fun i hi_48 ih_48 => ?_)
      · refine a_iload rfl dX1_best_48 ?_
        refine a_aload_n rfl dX1_best_50 ?_
        refine g_i (VX_5 hV) (by decide) rfl fX1_44 rfl dX1_best_51 ?_
        refine n_icmp_ge 111 (by omega) (by omega) dX1_best_54 (by decide) (fun h_54 => ?_) (fun h_54 => absurd h_54 (by omega))
        refine a_iload rfl dX1_best_111 ?_
        refine a_iret dX1_best_113 rfl ?_
        rw [← e5, cf_V]
        exact hQ
      · have hcfl : cfN u (gV p q f (1 - u) S') (gW p q f u S') (canB S') i ≤ 198 := cfN_le hzl (fun j _ => hgw j)
        have hgwl : gW p q f u S' i ≤ 198 := hgw i
        refine a_iload rfl dX1_best_48 ?_
        refine a_aload_n rfl dX1_best_50 ?_
        refine g_i (VX_5 hV) (by decide) rfl fX1_44 rfl dX1_best_51 ?_
        refine n_icmp_ge 111 (by omega) (by omega) dX1_best_54 (by decide) (fun h_54 => absurd h_54 (by omega)) (fun h_54 => ?_)
        refine a_aload_n rfl dX1_best_57 ?_
        refine a_aload_n rfl dX1_best_58 ?_
        refine a_iload rfl dX1_best_59 ?_
        refine a_iload rfl dX1_best_61 ?_
        refine n_callV (mi' := miX1_canCome) dX1_best_63 lX1_47 mX1_canCome (by decide) rfl rfl rfl (c_X1_canCome hg (by omega) (fun h_63 => ?_) (fun h_63 => ?_) d) rfl rfl (by omega) (by decide) (Nat.le_of_ble_eq_true rfl)
        · show AW _ _ _ _ _ _ _
          refine n_if_eq 105 (by decide) dX1_best_66 (by decide) (fun h => absurd h (by decide)) (fun _ => ?_)
          refine a_aload_n rfl dX1_best_69 ?_
          refine a_aload_n rfl dX1_best_70 ?_
          refine a_iload rfl dX1_best_71 ?_
          refine a_iload_n rfl dX1_best_73 ?_
          refine a_iload_n rfl dX1_best_74 ?_
          refine a_iload rfl dX1_best_75 ?_
          refine n_callV (mi' := miX1_behind) dX1_best_77 lX1_51 mX1_behind (by decide) rfl rfl rfl (c_X1_behind hg (by omega) (by omega) hu ih ?_ d) rfl rfl (by omega) (by decide) (Nat.le_of_ble_eq_true rfl)
          show AW _ _ _ _ _ _ _
          refine a_istore (by decide) rfl dX1_best_80 ?_
          refine a_iload_n rfl dX1_best_82 ?_
          refine n_if_eq 96 (by omega) dX1_best_83 (by decide) (fun h_83 => ?_) (fun h_83 => ?_)
          · refine a_iload rfl dX1_best_96 ?_
            refine a_iload rfl dX1_best_98 ?_
            refine a_min dX1_best_100 lX1_61 (Nat.le_of_ble_eq_true rfl) ?_
            refine a_eqi (y := gI (cfN u (gV p q f (1 - u) S') (gW p q f u S') (canB S') (i + 1))) ((gI_min hcfl hgwl).trans (congrArg gI (by rw [cf_t h_63]; unfold mmU; rw [if_neg (by omega)]))) ?_
            refine a_istore (by decide) rfl dX1_best_103 ?_
            refine n_iinc (c := 1) rfl rfl (by decide) rfl dX1_best_105 ?_
            refine a_goto 48 dX1_best_108 (by decide) ?_
            exact a_bk ih_48 ⟨rfl, rfl, rfl, rfl, rfl, rfl, rfl, trivial⟩
          · refine a_iload rfl dX1_best_86 ?_
            refine a_iload rfl dX1_best_88 ?_
            refine a_max dX1_best_90 lX1_71 (Nat.le_of_ble_eq_true rfl) ?_
            refine a_goto 103 dX1_best_93 (by decide) ?_
            refine a_eqi (y := gI (cfN u (gV p q f (1 - u) S') (gW p q f u S') (canB S') (i + 1))) ((gI_max hcfl hgwl).trans (congrArg gI (by rw [cf_t h_63]; unfold mmU; rw [if_pos (by omega)]))) ?_
            refine a_istore (by decide) rfl dX1_best_103 ?_
            refine n_iinc (c := 1) rfl rfl (by decide) rfl dX1_best_105 ?_
            refine a_goto 48 dX1_best_108 (by decide) ?_
            exact a_bk ih_48 ⟨rfl, rfl, rfl, rfl, rfl, rfl, rfl, trivial⟩
        · show AW _ _ _ _ _ _ _
          refine n_if_eq 105 (by decide) dX1_best_66 (by decide) (fun _ => ?_) (fun h => absurd h (by decide))
          refine n_iinc (c := 1) rfl rfl (by decide) rfl dX1_best_105 ?_
          refine a_goto 48 dX1_best_108 (by decide) ?_
          rw [cf_f h_63] at ih_48
          exact a_bk ih_48 ⟨rfl, rfl, rfl, rfl, rfl, rfl, rfl, trivial⟩
    exact a_bk (loop_48 0 (by omega)) ⟨rfl, rfl, rfl, rfl, rfl, rfl, rfl, trivial⟩

theorem c_X1_best {S : ST} {p q : Nat} : ∀ (f : Nat), f < 100 → ∀ {M : Mm} {S' : ST} {c u : Nat}, gC S S' p q c M → u ≤ 1 → ∀ {Q : Option Value → Mm → Prop}, Q (some (.int (gI (gV p q f u S')))) M → ∀ d, AMt miX1_best (d + 2 * f + 3) [.ref 130, .ref 17, .int (nI f), .int (nI u), .int (nI c)] M Q
  | 0, _, M, S', c, u, hg, hu, Q, hQ, d => c_best0 hg hQ d
  | f + 1, h, M, S', c, u, hg, hu, Q, hQ, d => c_bestS hg (by omega) hu (fun {_ _ _ _} a b {_} e d => c_X1_best f (by omega) a b e d) hQ d

abbrev FAR : Nat := 1000000
def mnN (g : Nat → Nat) : Nat → Nat
  | 0 => FAR
  | k + 1 => min (mnN g k) (g k)
theorem mn_le {g : Nat → Nat} : ∀ {k j : Nat}, j < k → mnN g k ≤ g j
  | 0, j, h => absurd h (by omega)
  | k + 1, j, h => by
    unfold mnN
    rcases (show j < k ∨ j = k by omega) with q | q
    · have := mn_le (g := g) q; omega
    · subst q; omega
theorem mn_far (g : Nat → Nat) : ∀ k, mnN g k ≤ FAR
  | 0 => Nat.le_refl _
  | k + 1 => by have := mn_far g k; unfold mnN; omega
theorem mn_at {g : Nat → Nat} : ∀ {k : Nat}, mnN g k < FAR → ∃ j, j < k ∧ g j = mnN g k
  | 0, h => absurd h (Nat.lt_irrefl _)
  | k + 1, h => by
    unfold mnN at *
    by_cases c : mnN g k ≤ g k
    · rw [Nat.min_eq_left c] at h ⊢
      obtain ⟨j, hj, e⟩ := mn_at h
      exact ⟨j, by omega, e⟩
    · rw [Nat.min_eq_right (by omega)]
      exact ⟨k, by omega, rfl⟩
theorem mn_congr {g h : Nat → Nat} : ∀ {k : Nat}, (∀ j, j < k → g j = h j) → mnN g k = mnN h k
  | 0, _ => rfl
  | k + 1, q => by unfold mnN; rw [mn_congr (fun j hj => q j (by omega)), q k (by omega)]
def ldN (S : ST) (k : Nat) : Nat := (loadN S k).getD 0
def tmN (S : ST) (set : Nat) : Nat := sumN (fun k => if set.testBit k = true then ldN S k else 0) (S 0 2)
def wgN (S : ST) (k : Nat) : Nat := sumN (fun p => if S 7 p = k then S 8 p else 0) (S 0 4)
def alwB (S : ST) (set k : Nat) : Bool := !set.testBit k && decide (hoN S 0 k ^^^ (hoN S 0 k &&& set) = 0)
def csN (S : ST) (set k : Nat) : Nat := (tmN S set + ldN S k) * wgN S k
/-- what is still to be waited, if k comes next; w: what behind that -/
def stN (S : ST) (set k w : Nat) : Nat := if alwB S set k = true then min FAR (csN S set k + w) else FAR
/-- what is still to be waited behind a set, n matters being left -/
def wF (S : ST) : Nat → Nat → Nat
  | 0, _ => 0
  | n + 1, set => mnN (fun k => stN S set k (wF S n (set ||| 2 ^ k))) (S 0 2)
def stW (S : ST) (n set k : Nat) : Nat := stN S set k (wF S n (set ||| 2 ^ k))
/-- the matter that comes next -/
def fsN (S : ST) (n set : Nat) : Nat := (fiN (fun k => stW S n set k == wF S (n + 1) set) (S 0 2)).getD 0
def ogN (S : ST) : Nat → Nat → Nat → Nat
  | 0, _, _ => 0
  | n + 1, set, 0 => fsN S n set
  | n + 1, set, j + 1 => ogN S n (set ||| 2 ^ fsN S n set) j
def cnN (S : ST) (set : Nat) : Nat := sumN (fun k => if set.testBit k = true then 1 else 0) (S 0 2)
theorem sum_bit {f : Nat → Nat} {set k : Nat} (hb : set.testBit k = false) : ∀ {m : Nat}, sumN (fun j => if (set ||| 2 ^ k).testBit j = true then f j else 0) m = sumN (fun j => if set.testBit j = true then f j else 0) m + if k < m then f k else 0
  | 0 => rfl
  | m + 1 => by
    rw [sumN, sumN, sum_bit hb (m := m), Nat.testBit_or, Nat.testBit_two_pow]
    by_cases e : k = m
    · subst e
      rw [hb]; simp
    · rw [show decide (k = m) = false by simp [e], Bool.or_false]
      by_cases c : k < m
      · rw [if_pos c, if_pos (show k < m + 1 by omega)]; omega
      · rw [if_neg c, if_neg (show ¬ k < m + 1 by omega)]; omega
theorem cn_add {S : ST} {set k : Nat} (hk : k < S 0 2) (hb : set.testBit k = false) : cnN S (set ||| 2 ^ k) = cnN S set + 1 := by
  unfold cnN; rw [sum_bit (f := fun _ => 1) hb, if_pos hk]
theorem tm_add {S : ST} {set k : Nat} (hk : k < S 0 2) (hb : set.testBit k = false) : tmN S (set ||| 2 ^ k) = tmN S set + ldN S k := by
  unfold tmN; rw [sum_bit (f := ldN S) hb, if_pos hk]
theorem cn_le (S : ST) (set : Nat) : cnN S set ≤ S 0 2 := by
  have := sumN_le (f := fun k => if set.testBit k = true then 1 else 0) (b := 1) (n := S 0 2) (fun j _ => by split <;> omega)
  unfold cnN; omega
theorem ld_le {S : ST} (hF : WF S) {k : Nat} (hk : k < S 0 2) : ldN S k ≤ 200 := by
  unfold ldN
  cases e : loadN S k with
  | none => exact Nat.zero_le _
  | some v => exact loadN_le (WF_clear hF k hk) (WF_pace hF k hk) e
theorem tm_le {S : ST} (hF : WF S) (set : Nat) : tmN S set ≤ 1200 := by
  have hm := WF_m hF
  have := sumN_le (f := fun k => if set.testBit k = true then ldN S k else 0) (b := 200) (n := S 0 2) (fun j hj => by
    have := ld_le hF hj
    split <;> omega)
  have h2 : S 0 2 * 200 ≤ 6 * 200 := Nat.mul_le_mul_right 200 hm
  unfold tmN; omega
theorem wg_le {S : ST} (hF : WF S) (k : Nat) : wgN S k ≤ 63 := by
  have hs := WF_s hF
  have := sumN_le (f := fun p => if S 7 p = k then S 8 p else 0) (b := 9) (n := S 0 4) (fun j hj => by
    have := (WF_wt hF j hj).2
    split <;> omega)
  have h2 : S 0 4 * 9 ≤ 7 * 9 := Nat.mul_le_mul_right 9 hs
  unfold wgN; omega
theorem cs_le {S : ST} (hF : WF S) {set k : Nat} (hk : k < S 0 2) (hb : set.testBit k = false) : tmN S set + ldN S k ≤ 1200 ∧ csN S set k ≤ 75600 := by
  have h1 := tm_le hF (set ||| 2 ^ k)
  rw [tm_add hk hb] at h1
  have h2 := wg_le hF k
  exact ⟨h1, Nat.mul_le_mul h1 h2⟩
theorem st_far {S : ST} (set k w : Nat) : stN S set k w ≤ FAR := by
  unfold stN; split
  · exact Nat.min_le_left _ _
  · exact Nat.le_refl _
theorem wF_far (S : ST) (n set : Nat) : wF S n set ≤ FAR := by
  cases n with
  | zero => exact Nat.zero_le _
  | succ n => exact mn_far _ _
theorem alw_b {S : ST} {set k : Nat} (h : alwB S set k = true) : set.testBit k = false := by
  unfold alwB at h
  rw [Bool.and_eq_true] at h
  cases e : set.testBit k with
  | false => rfl
  | true => rw [e] at h; exact absurd h.1 (by decide)
theorem wF_le {S : ST} (hF : WF S) : ∀ {n set : Nat}, wF S n set < FAR → wF S n set ≤ n * 75600
  | 0, _, _ => Nat.zero_le _
  | n + 1, set, h => by
    obtain ⟨k, hk, e⟩ := mn_at (show mnN (fun k => stN S set k (wF S n (set ||| 2 ^ k))) (S 0 2) < FAR from h)
    have e : stN S set k (wF S n (set ||| 2 ^ k)) = wF S (n + 1) set := e
    rw [← e] at h ⊢
    unfold stN at *
    by_cases c : alwB S set k = true
    · rw [if_pos c] at h ⊢
      have h1 := (cs_le hF hk (alw_b c)).2
      have h2 := wF_le hF (n := n) (set := set ||| 2 ^ k) (by unfold FAR at *; omega)
      rw [Nat.add_mul]; unfold FAR at *; omega
    · rw [if_neg c] at h; exact absurd h (Nat.lt_irrefl _)
/-- the least so far, as one more is weighed -/
def nbO (wl : Option Nat) (w v : Nat) : Option Nat := if v < FAR then (match wl with
  | none => some (w + v)
  | some c => if w + v < c then some (w + v) else some c) else wl
def chG (wl : Option Nat) (w v : Nat) : Prop := v < FAR ∧ ∀ c, wl = some c → w + v < c
theorem nb_t {wl : Option Nat} {w v : Nat} (h : chG wl w v) : nbO wl w v = some (w + v) := by
  unfold nbO
  rw [if_pos h.1]
  cases e : wl with
  | none => rfl
  | some c => show (if w + v < c then _ else _) = _; rw [if_pos (h.2 c e)]
theorem nb_f {wl : Option Nat} {w v : Nat} (h : ¬ chG wl w v) : nbO wl w v = wl := by
  unfold nbO
  by_cases c : v < FAR
  · rw [if_pos c]
    cases e : wl with
    | none => exact absurd ⟨c, fun c' q => by rw [e] at q; cases q⟩ h
    | some b =>
      show (if w + v < b then _ else _) = _
      rw [if_neg (fun q => h ⟨c, fun c' q' => by rw [e] at q'; cases q'; exact q⟩)]
  · rw [if_neg c]
theorem nb_some {wl : Option Nat} {w v c : Nat} (h : nbO wl w v = some c) : (chG wl w v ∧ c = w + v) ∨ (¬ chG wl w v ∧ wl = some c) := by
  by_cases q : chG wl w v
  · rw [nb_t q] at h; cases h; exact Or.inl ⟨q, rfl⟩
  · rw [nb_f q] at h; exact Or.inr ⟨q, h⟩
/-- the whole -/
def oaN (S : ST) : Bool := alN (fun k => (loadN S k).isSome) (S 0 2)
def owN (S : ST) : Option Nat := if oaN S = true ∧ wF S (S 0 2) 0 < FAR then some (wF S (S 0 2) 0) else none
def sp_waiting (T : TT) : AN := match owN (tS T) with
  | some v => (nI v, st' T 0)
  | none => (-1, st' T 8)
def sp_orderAt (k : Int32) (T : TT) : AN := if (owN (tS T)).isSome = true ∧ inN k (tS T 0 2) then (nI (ogN (tS T) (tS T 0 2) 0 (idx k)), st' T 0) else (-1, st' T 8)
/-- the model's memory behind a look at all orders from a set on: n matters left, many decided -/
def dcP (S : ST) (n many set w : Nat) (wl : Option Nat) (M M' : Mm) : Prop :=
  M'.1 132 27 = optI (nbO wl w (wF S n set)) ∧ frM (fun k j => (k = 132 ∧ j = 27) ∨ k = 141 ∨ (k = 142 ∧ many ≤ j)) M M' ∧
  (chG wl w (wF S n set) → (∀ j, j < many → M'.1 141 j = M.1 142 j) ∧ ∀ j, j < n → M'.1 141 (many + j) = nI (ogN S n set j)) ∧ (¬ chG wl w (wF S n set) → ∀ j, M'.1 141 j = M.1 141 j)
def lpP (S : ST) (n many set w : Nat) (wl : Option Nat) (M : Mm) (k : Nat) (M1 : Mm) : Prop :=
  M1.1 132 27 = optI (nbO wl w (mnN (stW S n set) k)) ∧ frM (fun k j => (k = 132 ∧ j = 27) ∨ k = 141 ∨ (k = 142 ∧ many ≤ j)) M M1 ∧
  (chG wl w (mnN (stW S n set) k) → (∀ j, j < many → M1.1 141 j = M.1 142 j) ∧ ∃ k0, k0 < k ∧ stW S n set k0 = mnN (stW S n set) k ∧ (∀ j, j < k0 → stW S n set j ≠ mnN (stW S n set) k) ∧ M1.1 141 many = nI k0 ∧ ∀ j, j < n → M1.1 141 (many + 1 + j) = nI (ogN S n (set ||| 2 ^ k0) j)) ∧ (¬ chG wl w (mnN (stW S n set) k) → ∀ j, M1.1 141 j = M.1 141 j)
theorem lp_0 {S : ST} {n many set w : Nat} {wl : Option Nat} {M : Mm} (h : M.1 132 27 = optI wl) : lpP S n many set w wl M 0 M := by
  have hn : ¬ chG wl w (mnN (stW S n set) 0) := fun q => Nat.lt_irrefl _ q.1
  exact ⟨by rw [nb_f hn]; exact h, frM.r, fun q => absurd q hn, fun _ _ => rfl⟩
theorem lp_no {S : ST} {n many set w k : Nat} {wl : Option Nat} {M M1 : Mm} (h : lpP S n many set w wl M k M1) (hs : FAR ≤ stW S n set k) : lpP S n many set w wl M (k + 1) M1 := by
  have hf := mn_far (stW S n set) k
  have e : mnN (stW S n set) (k + 1) = mnN (stW S n set) k := by
    show min _ _ = _
    exact Nat.min_eq_left (by omega)
  unfold lpP at *
  rw [e]
  refine ⟨h.1, h.2.1, fun q => ?_, h.2.2.2⟩
  obtain ⟨a, k0, h1, h2, h3⟩ := h.2.2.1 q
  exact ⟨a, k0, by omega, h2, h3⟩
theorem lp_st {S : ST} (hF : WF S) {n many set w k : Nat} {wl : Option Nat} {M M1 M2 : Mm} (hk : k < S 0 2) (hal : alwB S set k = true) (hn : n ≤ 6) (h : lpP S n many set w wl M k M1)
    (hd : dcP S n (many + 1) (set ||| 2 ^ k) (w + csN S set k) (nbO wl w (mnN (stW S n set) k)) (siM M1 142 many (nI k)) M2) : lpP S n many set w wl M (k + 1) M2 := by
  obtain ⟨h1, h2, h3, h4⟩ := h
  obtain ⟨d1, d2, d3, d4⟩ := hd
  have hcs := (cs_le hF hk (alw_b hal)).2
  have hfar := mn_far (stW S n set) k
  have hvf := wF_far S n (set ||| 2 ^ k)
  have hfr : frM (fun k j => (k = 132 ∧ j = 27) ∨ k = 141 ∨ (k = 142 ∧ many ≤ j)) M M2 := h2.t (((frM.r (M := M1)).si (k := 142) (j := many) (x := nI k) (by omega)).t (d2.mo (fun a b q => by omega)))
  have es : stW S n set k = min FAR (csN S set k + wF S n (set ||| 2 ^ k)) := by
    show stN S set k _ = _
    unfold stN; rw [if_pos hal]
  have em : mnN (stW S n set) (k + 1) = min (mnN (stW S n set) k) (stW S n set k) := rfl
  by_cases hc : chG (nbO wl w (mnN (stW S n set) k)) (w + csN S set k) (wF S n (set ||| 2 ^ k))
  · have hv := wF_le hF hc.1
    have hv2 : n * 75600 ≤ 6 * 75600 := Nat.mul_le_mul_right _ hn
    have es2 : stW S n set k = csN S set k + wF S n (set ||| 2 ^ k) := by rw [es]; unfold FAR; omega
    have hlt : stW S n set k < mnN (stW S n set) k := by
      by_cases q : mnN (stW S n set) k < FAR
      · cases e : nbO wl w (mnN (stW S n set) k) with
        | none =>
          by_cases z : chG wl w (mnN (stW S n set) k)
          · rw [nb_t z] at e; cases e
          · rw [nb_f z] at e; exact absurd ⟨q, fun c' q' => by rw [e] at q'; cases q'⟩ z
        | some c =>
          have := hc.2 c e
          rcases nb_some e with ⟨z, rfl⟩ | ⟨z, z2⟩
          · omega
          · by_cases z3 : w + mnN (stW S n set) k < c
            · exact absurd ⟨q, fun c' q' => by rw [z2] at q'; cases q'; exact z3⟩ z
            · omega
      · unfold FAR at *; omega
    have em2 : mnN (stW S n set) (k + 1) = stW S n set k := by rw [em]; omega
    have hch : chG wl w (stW S n set k) := by
      refine ⟨by omega, fun c' q' => ?_⟩
      by_cases z : chG wl w (mnN (stW S n set) k)
      · have := z.2 c' q'; omega
      · have := hc.2 c' (by rw [nb_f z]; exact q'); omega
    unfold lpP
    rw [em2]
    refine ⟨?_, hfr, fun _ => ⟨fun j hj => ?_, k, by omega, rfl, fun j hj e => ?_, ?_, fun j hj => (d3 hc).2 j hj⟩, fun q => absurd hch q⟩
    · rw [d1, nb_t hc, nb_t hch, es2]; congr 2; omega
    · rw [(d3 hc).1 j (by omega), siN rfl (by omega)]
      exact h2.1 142 j (by omega)
    · have := mn_le (g := stW S n set) hj; omega
    · rw [(d3 hc).1 many (by omega)]; exact siS
  · have hM2 : ∀ j, M2.1 141 j = M1.1 141 j := fun j => (d4 hc j).trans (siN rfl (by omega))
    have hM27 : M2.1 132 27 = optI (nbO wl w (mnN (stW S n set) k)) := by rw [d1, nb_f hc]
    by_cases z : chG wl w (mnN (stW S n set) k)
    · have hge : mnN (stW S n set) k ≤ stW S n set k := by
        rcases Nat.lt_or_ge (stW S n set k) (mnN (stW S n set) k) with q | q
        · exfalso
          refine hc ⟨?_, fun c' q' => ?_⟩
          · rw [es] at q; have := z.1; unfold FAR at *; omega
          · rw [nb_t z] at q'; cases q'
            rw [es] at q; have := z.1; unfold FAR at *; omega
        · exact q
      have em2 : mnN (stW S n set) (k + 1) = mnN (stW S n set) k := by rw [em]; omega
      unfold lpP
      rw [em2]
      obtain ⟨a, k0, q1, q2, q3, q4, q5⟩ := h3 z
      exact ⟨hM27, hfr, fun _ => ⟨fun j hj => (hM2 j).trans (a j hj), k0, by omega, q2, q3, (hM2 _).trans q4, fun j hj => (hM2 _).trans (q5 j hj)⟩, fun q => absurd z q⟩
    · have hnc : ¬ chG wl w (mnN (stW S n set) (k + 1)) := by
        intro q
        rw [em] at q
        by_cases y : mnN (stW S n set) k ≤ stW S n set k
        · rw [Nat.min_eq_left y] at q; exact z q
        · rw [Nat.min_eq_right (by omega)] at q
          refine hc ⟨?_, fun c' q' => ?_⟩
          · have := q.1; rw [es] at this; unfold FAR at *; omega
          · rw [nb_f z] at q'
            have := q.2 c' q'
            have h5 := q.1
            rw [es] at this h5; unfold FAR at *; omega
      refine ⟨?_, hfr, fun q => absurd q hnc, fun _ j => (hM2 j).trans (h4 z j)⟩
      rw [nb_f hnc, hM27, nb_f z]
theorem lp_end {S : ST} {n many set w : Nat} {wl : Option Nat} {M M1 : Mm} (h : lpP S n many set w wl M (S 0 2) M1) : dcP S (n + 1) many set w wl M M1 := by
  obtain ⟨h1, h2, h3, h4⟩ := h
  have e : mnN (stW S n set) (S 0 2) = wF S (n + 1) set := rfl
  rw [e] at h1 h3 h4
  refine ⟨h1, h2, fun q => ?_, h4⟩
  obtain ⟨a, k0, q1, q2, q3, q4, q5⟩ := h3 q
  have ef : fsN S n set = k0 := by
    unfold fsN
    rw [fiN_at (i := k0) (fun j hj => by have := q3 j hj; simpa using this) (by rw [q2]; simp) q1]; rfl
  refine ⟨a, fun j hj => ?_⟩
  cases j with
  | zero => rw [Nat.add_zero, q4]; show nI k0 = nI (fsN S n set); rw [ef]
  | succ j =>
    rw [show many + (j + 1) = many + 1 + j by omega, q5 j (by omega)]
    show _ = nI (ogN S n (set ||| 2 ^ fsN S n set) j)
    rw [ef]

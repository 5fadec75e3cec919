def updN (w : Nat → Nat) (i v : Nat) : Nat → Nat := fun j => if j = i then v else w j
/-- who is still to be served -/
def cS (all set p : Nat) : Bool := (all ^^^ (all &&& set)).testBit p
theorem cS_eq (all set p : Nat) : cS all set p = (all.testBit p && !set.testBit p) := by
  unfold cS
  rw [Nat.testBit_xor, Nat.testBit_and]
  cases all.testBit p <;> cases set.testBit p <;> rfl
theorem szN_cn {m : Nat} (hm : m ≤ 10) {a : Nat} (ha : a < 2 ^ m) : szN a = cnP m (fun p => a.testBit p) := by
  have key : ∀ n, n ≤ 10 → szP a n = cnP (min n m) (fun p => a.testBit p) := by
    intro n
    induction n with
    | zero => intro _; rw [Nat.zero_min]; rfl
    | succ n ih =>
      intro hn
      have ih := ih (by omega)
      by_cases c : n < m
      · rw [show min (n + 1) m = n + 1 by omega]
        rw [show min n m = n by omega] at ih
        show szP a n + _ = cnP n _ + _
        rw [ih]
      · rw [show min (n + 1) m = m by omega]
        rw [show min n m = m by omega] at ih
        rw [szP_f (Nat.testBit_lt_two_pow (Nat.lt_of_lt_of_le ha (Nat.pow_le_pow_right (by decide) (by omega))))]
        exact ih
  have := key 10 (Nat.le_refl _)
  rw [show min 10 m = m by omega] at this
  exact this
def rxN (all : Nat) (mi : Nat → Nat) (w : Nat → Nat) (set l so wt : Nat) : Nat → Nat → Nat
  | 0 => w
  | j + 1 => if cS all set j = true then updN (rxN all mi w set l so wt j) ((set ||| 2 ^ j) * 7 + j) (min (rxN all mi w set l so wt j ((set ||| 2 ^ j) * 7 + j)) (so + dst (mi l) (mi j) * wt)) else rxN all mi w set l so wt j
def goN (all m : Nat) (mi : Nat → Nat) (w : Nat → Nat) (set l : Nat) : Nat → Nat := if FAR ≤ w (set * 7 + l) then w else rxN all mi w set l (w (set * 7 + l)) (szN (all ^^^ (all &&& set))) m
def lsF (all m : Nat) (mi : Nat → Nat) (w : Nat → Nat) (set : Nat) : Nat → Nat → Nat
  | 0 => w
  | j + 1 => goN all m mi (lsF all m mi w set j) set j
def svF (all m : Nat) (mi : Nat → Nat) (w : Nat → Nat) : Nat → Nat → Nat
  | 0 => w
  | i + 1 => lsF all m mi (svF all m mi w i) (i + 1) m
def inW (all : Nat) (mi : Nat → Nat) (mile : Nat) : Nat → Nat → Nat
  | 0 => fun _ => FAR
  | s + 1 => if all.testBit s = true then updN (inW all mi mile s) (2 ^ s * 7 + s) (dst mile (mi s) * szN all) else inW all mi mile s
def bsF (all : Nat) (w : Nat → Nat) : Nat → Nat
  | 0 => if all = 0 then 0 else FAR
  | j + 1 => min (bsF all w j) (w (all * 7 + j))
theorem rx_a {all : Nat} {mi w : Nat → Nat} {set l so wt : Nat} : ∀ (j i : Nat), rxN all mi w set l so wt j i ≤ w i
  | 0, i => Nat.le_refl _
  | j + 1, i => by
    have ih := rx_a (all := all) (mi := mi) (w := w) (set := set) (l := l) (so := so) (wt := wt) j
    unfold rxN
    split
    · unfold updN
      split
      · rename_i e; subst e; exact Nat.le_trans (Nat.min_le_left _ _) (ih _)
      · exact ih i
    · exact ih i
theorem cS_bit {all set j : Nat} (h : cS all set j = true) : set.testBit j = false := by
  rw [cS_eq, Bool.and_eq_true] at h
  simpa using h.2
theorem rx_b {all : Nat} {mi w : Nat → Nat} {set l so wt : Nat} : ∀ {j set' l' : Nat}, j ≤ 7 → set' ≤ set → l' < 7 → rxN all mi w set l so wt j (set' * 7 + l') = w (set' * 7 + l')
  | 0, _, _, _, _, _ => rfl
  | j + 1, set', l', hj, hs, hl => by
    have ih := rx_b (all := all) (mi := mi) (w := w) (set := set) (l := l) (so := so) (wt := wt) (j := j) (set' := set') (l' := l') (by omega) hs hl
    unfold rxN
    split
    · rename_i c
      unfold updN
      rw [if_neg (fun e => by have := or_gt (cS_bit c); omega)]
      exact ih
    · exact ih
theorem rx_c {all : Nat} {mi w : Nat → Nat} {set l so wt : Nat} : ∀ {j k : Nat}, k < j → cS all set k = true → rxN all mi w set l so wt j ((set ||| 2 ^ k) * 7 + k) ≤ so + dst (mi l) (mi k) * wt
  | 0, k, h, _ => absurd h (by omega)
  | j + 1, k, h, hc => by
    unfold rxN
    by_cases e : k = j
    · subst e
      rw [if_pos hc]
      unfold updN
      rw [if_pos rfl]; exact Nat.min_le_right _ _
    · have ih := rx_c (all := all) (mi := mi) (w := w) (set := set) (l := l) (so := so) (wt := wt) (j := j) (k := k) (by omega) hc
      split
      · unfold updN
        split
        · rename_i q; rw [q] at ih; exact Nat.le_trans (Nat.min_le_left _ _) ih
        · exact ih
      · exact ih
theorem rx_d {all : Nat} {mi w : Nat → Nat} {set l so wt : Nat} : ∀ (j i : Nat), rxN all mi w set l so wt j i = w i ∨ ∃ k, k < j ∧ cS all set k = true ∧ i = (set ||| 2 ^ k) * 7 + k ∧ rxN all mi w set l so wt j i = so + dst (mi l) (mi k) * wt
  | 0, i => Or.inl rfl
  | j + 1, i => by
    have ih := rx_d (all := all) (mi := mi) (w := w) (set := set) (l := l) (so := so) (wt := wt) j i
    have lift : (rxN all mi w set l so wt j i = w i ∨ ∃ k, k < j ∧ cS all set k = true ∧ i = (set ||| 2 ^ k) * 7 + k ∧ rxN all mi w set l so wt j i = so + dst (mi l) (mi k) * wt) → (rxN all mi w set l so wt j i = w i ∨ ∃ k, k < j + 1 ∧ cS all set k = true ∧ i = (set ||| 2 ^ k) * 7 + k ∧ rxN all mi w set l so wt j i = so + dst (mi l) (mi k) * wt) := fun h => h.imp id (fun ⟨k, h1, h2⟩ => ⟨k, by omega, h2⟩)
    unfold rxN
    split
    · rename_i c
      unfold updN
      split
      · rename_i e
        by_cases q : rxN all mi w set l so wt j ((set ||| 2 ^ j) * 7 + j) ≤ so + dst (mi l) (mi j) * wt
        · rw [Nat.min_eq_left q, ← e]; exact lift ih
        · rw [Nat.min_eq_right (by omega)]
          exact Or.inr ⟨j, by omega, c, e, rfl⟩
      · exact lift ih
    · exact lift ih
/-- what holds of the table while it is made: dn: those that have been gone on from -/
def RI (all m : Nat) (mi : Nat → Nat) (mile : Nat) (w : Nat → Nat) (dn : Nat → Nat → Prop) : Prop :=
  (∀ set l, l < m → w (set * 7 + l) < FAR → set < 2 ^ m ∧ (∀ p, set.testBit p = true → all.testBit p = true) ∧ set.testBit l = true ∧ w (set * 7 + l) + 413 * cnP m (cS all set) ≤ 2891 ∧ rF mi m (cnP m (fun p => all.testBit p)) (fun p => all.testBit p) mile ≤ w (set * 7 + l) + rF mi m (cnP m (cS all set)) (cS all set) (mi l)) ∧
  (∀ set l, dn set l → l < m → w (set * 7 + l) < FAR → ∀ j, j < m → cS all set j = true → w ((set ||| 2 ^ j) * 7 + j) ≤ w (set * 7 + l) + dst (mi l) (mi j) * cnP m (cS all set)) ∧
  ∀ s, s < m → all.testBit s = true → w (2 ^ s * 7 + s) ≤ dst mile (mi s) * cnP m (fun p => all.testBit p)
def dnB' (set l a b : Nat) : Prop := a < set ∨ (a = set ∧ b < l)
theorem cS_add {all set j : Nat} (p : Nat) : cS all (set ||| 2 ^ j) p = rmP (cS all set) j p := by
  unfold rmP
  rw [cS_eq, cS_eq, Nat.testBit_or, Nat.testBit_two_pow]
  by_cases e : j = p
  · subst e; simp
  · rw [show decide (j = p) = false by simpa using e, show (p == j) = false by simpa using fun q => e q.symm]; simp
theorem cS_lt {all m set : Nat} (ha : all < 2 ^ m) : all ^^^ (all &&& set) < 2 ^ m := Nat.xor_lt_two_pow ha (Nat.lt_of_le_of_lt Nat.and_le_left ha)
theorem go_RI {all m : Nat} {mi : Nat → Nat} {mile : Nat} {w : Nat → Nat} {set l : Nat} (hB : MB mi m) (ha : all < 2 ^ m) (hl : l < m) (h : RI all m mi mile w (dnB' set l)) : RI all m mi mile (goN all m mi w set l) (dnB' set (l + 1)) := by
  obtain ⟨h1, h2, h3⟩ := h
  have hm7 := hB.1
  unfold goN
  by_cases hfar : FAR ≤ w (set * 7 + l)
  · rw [if_pos hfar]
    refine ⟨h1, fun s k hd hk hw => ?_, h3⟩
    by_cases c : s = set ∧ k = l
    · rw [c.1, c.2] at hw; omega
    · exact h2 s k (by unfold dnB' at *; omega) hk hw
  · rw [if_neg hfar]
    have hso : w (set * 7 + l) < FAR := by omega
    obtain ⟨a1, a2, a3, a4, a5⟩ := h1 set l hl hso
    have hsz : szN (all ^^^ (all &&& set)) = cnP m (cS all set) := szN_cn (by omega) (cS_lt ha)
    rw [hsz]
    have hd59 : ∀ j, j < m → dst (mi l) (mi j) ≤ 59 := fun j hj => by
      have := hB.2 l hl
      have := hB.2 j hj
      unfold dst; omega
    refine ⟨fun s k hk hw => ?_, fun s k hd hk hw j hj hc => ?_, fun s hs hb => Nat.le_trans (rx_a _ _) (h3 s hs hb)⟩
    · rcases rx_d (all := all) (mi := mi) (w := w) (set := set) (l := l) (so := w (set * 7 + l)) (wt := cnP m (cS all set)) m (s * 7 + k) with e | ⟨q, hq, hc, e, ev⟩
      · rw [e] at hw ⊢; exact h1 s k hk hw
      · have es : s = set ||| 2 ^ q ∧ k = q := by omega
        obtain ⟨rfl, rfl⟩ := es
        have hcn : cnP m (cS all set) = cnP m (cS all (set ||| 2 ^ k)) + 1 := by
          have := cnP_rm hc (m := m)
          rw [if_pos hk] at this
          rw [this, cnP_congr (fun p _ => (cS_add (all := all) (set := set) (j := k) p))]
        have h7 := cnP_le m (cS all set)
        have hdw : dst (mi l) (mi k) * cnP m (cS all set) ≤ 59 * 7 := Nat.mul_le_mul (hd59 k hk) (by omega)
        rw [cS_eq, Bool.and_eq_true] at hc
        rw [ev]
        refine ⟨or_lt2 a1 hk, fun p hp => ?_, ?_, ?_, ?_⟩
        · rw [Nat.testBit_or, Bool.or_eq_true, Nat.testBit_two_pow] at hp
          rcases hp with hp | hp
          · exact a2 p hp
          · have : k = p := by simpa using hp
            rw [← this]; exact hc.1
        · rw [Nat.testBit_or, Nat.testBit_two_pow]; simp
        · rw [hcn] at a4; omega
        · have hst := rF_step (mi := mi) (m := m) (n := cnP m (cS all (set ||| 2 ^ k))) (x := mi l) (P := cS all set) hk (by rw [cS_eq, hc.1, hc.2]; rfl) hcn
          rw [rF_congr (P := rmP (cS all set) k) (R := cS all (set ||| 2 ^ k)) (fun p _ => (cS_add p).symm)] at hst
          rw [hcn] at a5 ⊢
          omega
    · have hset : s ≤ set := by unfold dnB' at hd; omega
      rw [rx_b hm7 hset (by omega)] at hw ⊢
      by_cases c : s = set ∧ k = l
      · obtain ⟨rfl, rfl⟩ := c
        exact rx_c hj hc
      · exact Nat.le_trans (rx_a _ _) (h2 s k (by unfold dnB' at *; omega) hk hw j hj hc)
theorem ls_RI {all m : Nat} {mi : Nat → Nat} {mile : Nat} {w : Nat → Nat} {set : Nat} (hB : MB mi m) (ha : all < 2 ^ m) (h : RI all m mi mile w (dnB' set 0)) : ∀ {j : Nat}, j ≤ m → RI all m mi mile (lsF all m mi w set j) (dnB' set j)
  | 0, _ => h
  | j + 1, hj => go_RI hB ha (by omega) (ls_RI hB ha h (j := j) (by omega))
theorem sv_RI {all m : Nat} {mi : Nat → Nat} {mile : Nat} {w : Nat → Nat} (hB : MB mi m) (ha : all < 2 ^ m) (h : RI all m mi mile w (dnB' 1 0)) : ∀ (i : Nat), RI all m mi mile (svF all m mi w i) (dnB' (i + 1) 0)
  | 0 => h
  | i + 1 => by
    obtain ⟨a, b, c⟩ := ls_RI hB ha (sv_RI hB ha h i) (Nat.le_refl m)
    refine ⟨a, fun s k hd hk hw => ?_, c⟩
    exact b s k (by unfold dnB' at *; omega) hk hw
theorem in_d {all : Nat} {mi : Nat → Nat} {mile : Nat} : ∀ (j i : Nat), inW all mi mile j i = FAR ∨ ∃ k, k < j ∧ all.testBit k = true ∧ i = 2 ^ k * 7 + k ∧ inW all mi mile j i = dst mile (mi k) * szN all
  | 0, i => Or.inl rfl
  | j + 1, i => by
    have ih := in_d (all := all) (mi := mi) (mile := mile) j i
    unfold inW
    split
    · rename_i c
      unfold updN
      split
      · rename_i e; exact Or.inr ⟨j, by omega, c, e, rfl⟩
      · exact ih.imp id (fun ⟨k, h1, h2⟩ => ⟨k, by omega, h2⟩)
    · exact ih.imp id (fun ⟨k, h1, h2⟩ => ⟨k, by omega, h2⟩)
theorem in_c {all : Nat} {mi : Nat → Nat} {mile : Nat} : ∀ {j k : Nat}, j ≤ 7 → k < j → all.testBit k = true → inW all mi mile j (2 ^ k * 7 + k) = dst mile (mi k) * szN all
  | 0, k, _, h, _ => absurd h (by omega)
  | j + 1, k, h7, h, hb => by
    unfold inW
    by_cases e : k = j
    · subst e; rw [if_pos hb]; unfold updN; rw [if_pos rfl]
    · have ih := in_c (all := all) (mi := mi) (mile := mile) (j := j) (k := k) (by omega) (by omega) hb
      split
      · unfold updN; rw [if_neg (by omega)]; exact ih
      · exact ih
theorem in_RI {all m : Nat} {mi : Nat → Nat} {mile : Nat} (hB : MB mi m) (ha : all < 2 ^ m) (hmi : mile ≤ 59) : RI all m mi mile (inW all mi mile m) (dnB' 1 0) := by
  have hm7 := hB.1
  have hsz : szN all = cnP m (fun p => all.testBit p) := szN_cn (by omega) ha
  have h7 := cnP_le m (fun p => all.testBit p)
  have key : ∀ set l, l < m → inW all mi mile m (set * 7 + l) < FAR → ∃ k, k = l ∧ set = 2 ^ l ∧ all.testBit l = true ∧ inW all mi mile m (set * 7 + l) = dst mile (mi l) * cnP m (fun p => all.testBit p) := fun set l hl hw => by
    rcases in_d (all := all) (mi := mi) (mile := mile) m (set * 7 + l) with e | ⟨k, hk, hb, e, ev⟩
    · omega
    · have : set = 2 ^ k ∧ l = k := by omega
      obtain ⟨rfl, rfl⟩ := this
      exact ⟨l, rfl, rfl, hb, by rw [ev, hsz]⟩
  refine ⟨fun set l hl hw => ?_, fun set l hd hl hw => ?_, fun s hs hb => by rw [in_c hm7 hs hb, hsz]; exact Nat.le_refl _⟩
  · obtain ⟨k, rfl, rfl, hb, ev⟩ := key set l hl hw
    have hcr : ∀ p, p < m → cS all (2 ^ k) p = rmP (fun p => all.testBit p) k p := fun p _ => by
      unfold rmP
      rw [cS_eq, Nat.testBit_two_pow]
      by_cases e : k = p
      · subst e; simp
      · rw [show decide (k = p) = false by simpa using e, show (p == k) = false by simpa using fun q => e q.symm]
    have hcn : cnP m (fun p => all.testBit p) = cnP m (cS all (2 ^ k)) + 1 := by
      have := cnP_rm (P := fun p => all.testBit p) (s := k) hb (m := m)
      rw [if_pos hl] at this
      rw [this, cnP_congr hcr]
    have hd : dst mile (mi k) ≤ 59 := by have := hB.2 k hl; unfold dst; omega
    have hdw : dst mile (mi k) * cnP m (fun p => all.testBit p) ≤ 59 * 7 := Nat.mul_le_mul hd (by omega)
    rw [ev]
    refine ⟨Nat.pow_lt_pow_right (by decide) hl, fun p hp => ?_, by rw [Nat.testBit_two_pow]; simp, by omega, ?_⟩
    · rw [Nat.testBit_two_pow] at hp
      have : k = p := by simpa using hp
      rw [← this]; exact hb
    · have hst := rF_step (mi := mi) (m := m) (n := cnP m (cS all (2 ^ k))) (x := mile) (P := fun p => all.testBit p) hl hb hcn
      rw [rF_congr (P := rmP (fun p => all.testBit p) k) (R := cS all (2 ^ k)) (fun p hp => (hcr p hp).symm)] at hst
      rw [hcn]; exact hst
  · obtain ⟨k, rfl, rfl, _, _⟩ := key set l hl hw
    have := Nat.two_pow_pos k
    unfold dnB' at hd; omega
theorem bs_le {all : Nat} {w : Nat → Nat} : ∀ {n j : Nat}, j < n → bsF all w n ≤ w (all * 7 + j)
  | 0, j, h => absurd h (by omega)
  | n + 1, j, h => by
    unfold bsF
    by_cases e : j = n
    · subst e; exact Nat.min_le_right _ _
    · exact Nat.le_trans (Nat.min_le_left _ _) (bs_le (by omega))
theorem bs_ge {all : Nat} {w : Nat → Nat} {b : Nat} (h0 : b ≤ if all = 0 then 0 else FAR) : ∀ {n : Nat}, (∀ j, j < n → b ≤ w (all * 7 + j)) → b ≤ bsF all w n
  | 0, _ => h0
  | n + 1, h => by
    unfold bsF
    exact Nat.le_min.mpr ⟨bs_ge h0 (fun j hj => h j (by omega)), h n (by omega)⟩
theorem sub_le {all set : Nat} (h : ∀ p, set.testBit p = true → all.testBit p = true) : set ≤ all := by
  have e : set &&& all = set := by
    apply Nat.eq_of_testBit_eq
    intro j
    rw [Nat.testBit_and]
    cases c : set.testBit j with
    | false => rfl
    | true => rw [h j c]; rfl
  rw [← e]; exact Nat.and_le_right
theorem chain {all m : Nat} {mi : Nat → Nat} {mile : Nat} {w : Nat → Nat} {dn : Nat → Nat → Prop} (hB : MB mi m) (ha : all < 2 ^ m) (h : RI all m mi mile w dn) (hdn : ∀ s l, s ≤ all → dn s l) : ∀ {n set l : Nat}, cnP m (cS all set) = n → l < m → w (set * 7 + l) < FAR → ∃ k, k < m ∧ w (all * 7 + k) ≤ w (set * 7 + l) + rF mi m n (cS all set) (mi l)
  | 0, set, l, hc, hl, hw => by
    obtain ⟨a1, a2, _⟩ := h.1 set l hl hw
    have : set = all := by
      apply Nat.eq_of_testBit_eq
      intro j
      cases c : set.testBit j with
      | true => rw [a2 j c]
      | false =>
        cases c2 : all.testBit j with
        | false => rfl
        | true =>
          exfalso
          have hj : j < m := by
            rcases Nat.lt_or_ge j m with q | q
            · exact q
            · rw [Nat.testBit_lt_two_pow (Nat.lt_of_lt_of_le ha (Nat.pow_le_pow_right (by decide) q))] at c2; exact absurd c2 (by decide)
          have := cnP_rm (P := cS all set) (s := j) (by rw [cS_eq, c, c2]; rfl) (m := m)
          rw [if_pos hj] at this; omega
    subst this
    exact ⟨l, hl, Nat.le_add_right _ _⟩
  | n + 1, set, l, hc, hl, hw => by
    obtain ⟨a1, a2, a3, a4, _⟩ := h.1 set l hl hw
    obtain ⟨s, hs, hP, e⟩ := rF_at hB hc (hB.2 l hl)
    have hr := h.2.1 set l (hdn set l (sub_le a2)) hl hw s hs hP
    have hd : dst (mi l) (mi s) ≤ 59 := by
      have := hB.2 l hl
      have := hB.2 s hs
      unfold dst; omega
    have h7 := cnP_le m (cS all set)
    have hm7 := hB.1
    have hdw : dst (mi l) (mi s) * cnP m (cS all set) ≤ 59 * 7 := Nat.mul_le_mul hd (by omega)
    have hcn := cn_rm1 hs hP hc
    rw [cnP_congr (fun p _ => (cS_add (all := all) (set := set) (j := s) p).symm)] at hcn
    obtain ⟨k, hk, hq⟩ := chain hB ha h hdn (n := n) (set := set ||| 2 ^ s) (l := s) hcn hs (by unfold FAR; omega)
    rw [rF_congr (P := cS all (set ||| 2 ^ s)) (R := rmP (cS all set) s) (fun p _ => cS_add p)] at hq
    exact ⟨k, hk, by rw [e]; rw [hc] at hr; omega⟩
/-- the class's table tells the ROUND -/
theorem bs_eq {all m : Nat} {mi : Nat → Nat} {mile : Nat} (hB : MB mi m) (ha : all < 2 ^ m) (hmi : mile ≤ 59) : bsF all (svF all m mi (inW all mi mile m) all) m = rF mi m (cnP m (fun p => all.testBit p)) (fun p => all.testBit p) mile := by
  have hR := sv_RI hB ha (in_RI hB ha hmi) all
  have hle := rF_le hB (n := cnP m (fun p => all.testBit p)) (P := fun p => all.testBit p) (x := mile) rfl hmi
  have h7 := cnP_le m (fun p => all.testBit p)
  have hm7 := hB.1
  have hb : rF mi m (cnP m (fun p => all.testBit p)) (fun p => all.testBit p) mile ≤ 2891 := Nat.le_trans hle (Nat.mul_le_mul_right 413 (show cnP m (fun p => all.testBit p) ≤ 7 by omega))
  by_cases h0 : all = 0
  · have e0 : cnP m (fun p => all.testBit p) = 0 := by
      rw [h0]
      exact Nat.le_zero.mp (Nat.le_trans (sumN_le (f := fun p => if (fun p => Nat.testBit 0 p) p = true then 1 else 0) (b := 0) (n := m) (fun j _ => by simp)) (by simp))
    rw [e0]
    have : ∀ n, bsF all (svF all m mi (inW all mi mile m) all) n = 0 := by
      intro n
      induction n with
      | zero => unfold bsF; rw [if_pos h0]
      | succ n ih => unfold bsF; rw [ih]; exact Nat.zero_min _
    exact this m
  · apply Nat.le_antisymm
    · obtain ⟨n, hn⟩ : ∃ n, cnP m (fun p => all.testBit p) = n + 1 := by
        refine ⟨cnP m (fun p => all.testBit p) - 1, ?_⟩
        obtain ⟨j, hj⟩ := Nat.exists_testBit_of_ne_zero h0
        have hjm : j < m := by
          rcases Nat.lt_or_ge j m with q | q
          · exact q
          · rw [Nat.testBit_lt_two_pow (Nat.lt_of_lt_of_le ha (Nat.pow_le_pow_right (by decide) q))] at hj; exact absurd hj (by decide)
        have := cnP_rm (P := fun p => all.testBit p) (s := j) hj (m := m)
        rw [if_pos hjm] at this; omega
      obtain ⟨s, hs, hP, e⟩ := rF_at hB hn hmi
      have hi := hR.2.2 s hs hP
      have hd : dst mile (mi s) ≤ 59 := by have := hB.2 s hs; unfold dst; omega
      have hdw : dst mile (mi s) * cnP m (fun p => all.testBit p) ≤ 59 * 7 := Nat.mul_le_mul hd (by omega)
      have hcr : ∀ p, p < m → cS all (2 ^ s) p = rmP (fun p => all.testBit p) s p := fun p _ => by
        unfold rmP
        rw [cS_eq, Nat.testBit_two_pow]
        by_cases e : s = p
        · subst e; simp
        · rw [show decide (s = p) = false by simpa using e, show (p == s) = false by simpa using fun q => e q.symm]
      have hcn := cn_rm1 hs hP hn
      rw [cnP_congr (fun p hp => (hcr p hp).symm)] at hcn
      obtain ⟨k, hk, hq⟩ := chain hB ha hR (fun a b hab => Or.inl (by omega)) (n := n) (set := 2 ^ s) (l := s) hcn hs (by unfold FAR; omega)
      rw [rF_congr hcr] at hq
      have := bs_le (all := all) (w := svF all m mi (inW all mi mile m) all) hk
      rw [hn, e]; rw [hn] at hi; omega
    · refine bs_ge (by rw [if_neg h0]; unfold FAR; omega) (fun j hj => ?_)
      rcases Nat.lt_or_ge (svF all m mi (inW all mi mile m) all (all * 7 + j)) FAR with q | q
      · obtain ⟨_, _, _, _, a5⟩ := hR.1 all j hj q
        have e0 : cnP m (cS all all) = 0 := by
          have : ∀ p, cS all all p = false := fun p => by rw [cS_eq]; cases all.testBit p <;> rfl
          have h2 := sumN_le (f := fun p => if cS all all p = true then 1 else 0) (b := 0) (n := m) (fun j _ => by rw [this j]; simp)
          unfold cnP; omega
        rw [e0] at a5
        exact a5
      · unfold FAR at q; omega

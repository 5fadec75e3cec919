def dst (x y : Nat) : Nat := (x - y) + (y - x)
theorem dst_self (x : Nat) : dst x x = 0 := by unfold dst; omega
theorem dst_tri (x y z : Nat) : dst x z ≤ dst x y + dst y z := by unfold dst; omega
/-- how many sitters P has -/
def cnP (m : Nat) (P : Nat → Bool) : Nat := sumN (fun p => if P p = true then 1 else 0) m
theorem cnP_congr {m : Nat} {P R : Nat → Bool} (h : ∀ p, p < m → P p = R p) : cnP m P = cnP m R := sumN_congr (fun p hp => by rw [h p hp])
theorem cnP_le (m : Nat) (P : Nat → Bool) : cnP m P ≤ m := by
  have := sumN_le (f := fun p => if P p = true then 1 else 0) (b := 1) (n := m) (fun j _ => by split <;> omega)
  unfold cnP; omega
theorem sum_mono {f g : Nat → Nat} : ∀ {n : Nat}, (∀ j, j < n → f j ≤ g j) → sumN f n ≤ sumN g n
  | 0, _ => Nat.le_refl _
  | n + 1, h => Nat.add_le_add (sum_mono (fun j hj => h j (by omega))) (h n (by omega))
theorem cnP_mono {m : Nat} {P R : Nat → Bool} (h : ∀ p, p < m → P p = true → R p = true) : cnP m P ≤ cnP m R := sum_mono (fun p hp => by
  by_cases c : P p = true
  · rw [if_pos c, if_pos (h p hp c)]; exact Nat.le_refl _
  · rw [if_neg c]; exact Nat.zero_le _)
def rmP (P : Nat → Bool) (s : Nat) : Nat → Bool := fun p => P p && !(p == s)
theorem rmP_no {P : Nat → Bool} {s p : Nat} (h : p ≠ s) : rmP P s p = P p := by unfold rmP; simp [h]
theorem cnP_rm {P : Nat → Bool} {s : Nat} (hP : P s = true) : ∀ {m : Nat}, cnP m P = cnP m (rmP P s) + if s < m then 1 else 0
  | 0 => rfl
  | m + 1 => by
    have ih := cnP_rm (P := P) hP (m := m)
    unfold cnP at *
    rw [sumN, sumN, ih]
    by_cases e : m = s
    · subst e
      rw [if_neg (Nat.lt_irrefl _), if_pos (Nat.lt_succ_self _), if_pos hP, if_neg (by unfold rmP; simp)]
    · rw [rmP_no e]
      by_cases c : s < m
      · rw [if_pos c, if_pos (show s < m + 1 by omega)]; omega
      · rw [if_neg c, if_neg (show ¬ s < m + 1 by omega), Nat.add_zero, Nat.add_zero]
theorem cnP_ex {m : Nat} {P : Nat → Bool} (h : 0 < cnP m P) : ∃ p, p < m ∧ P p = true := by
  rcases Classical.em (∃ p, p < m ∧ P p = true) with q | q
  · exact q
  · exfalso
    have := sumN_le (f := fun p => if P p = true then 1 else 0) (b := 0) (n := m) (fun j hj => by rw [if_neg (fun c => q ⟨j, hj, c⟩)]; exact Nat.le_refl _)
    unfold cnP at h; omega
/-- how long they wait together: n sitters, from x on -/
def rF (mi : Nat → Nat) (m : Nat) : Nat → (Nat → Bool) → Nat → Nat
  | 0, _, _ => 0
  | n + 1, P, x => mnN (fun s => if P s = true then dst x (mi s) * cnP m P + rF mi m n (rmP P s) (mi s) else FAR) m
theorem rF_congr {mi : Nat → Nat} {m : Nat} : ∀ {n : Nat} {P R : Nat → Bool} {x : Nat}, (∀ p, p < m → P p = R p) → rF mi m n P x = rF mi m n R x
  | 0, _, _, _, _ => rfl
  | n + 1, P, R, x, h => by
    unfold rF
    apply mn_congr
    intro s hs
    show (if P s = true then _ else _) = if R s = true then _ else _
    rw [h s hs, cnP_congr h, rF_congr (n := n) (P := rmP P s) (R := rmP R s) (fun p hp => by unfold rmP; rw [h p hp])]
/-- the bounds: at most 7 sitters, miles 0 to 59 -/
def MB (mi : Nat → Nat) (m : Nat) : Prop := m ≤ 7 ∧ ∀ p, p < m → mi p ≤ 59
theorem rF_step {mi : Nat → Nat} {m n s x : Nat} {P : Nat → Bool} (hs : s < m) (hP : P s = true) (hc : cnP m P = n + 1) : rF mi m (n + 1) P x ≤ dst x (mi s) * (n + 1) + rF mi m n (rmP P s) (mi s) := by
  have h := mn_le (g := fun s => if P s = true then dst x (mi s) * cnP m P + rF mi m n (rmP P s) (mi s) else FAR) hs
  have e : (if P s = true then dst x (mi s) * cnP m P + rF mi m n (rmP P s) (mi s) else FAR) = dst x (mi s) * (n + 1) + rF mi m n (rmP P s) (mi s) := by rw [if_pos hP, hc]
  exact Nat.le_trans h (Nat.le_of_eq e)
theorem cn_rm1 {m n s : Nat} {P : Nat → Bool} (hs : s < m) (hP : P s = true) (hc : cnP m P = n + 1) : cnP m (rmP P s) = n := by
  have := cnP_rm hP (m := m)
  rw [if_pos hs] at this; omega
theorem rF_le {mi : Nat → Nat} {m : Nat} (hB : MB mi m) : ∀ {n : Nat} {P : Nat → Bool} {x : Nat}, cnP m P = n → x ≤ 59 → rF mi m n P x ≤ n * 413
  | 0, _, _, _, _ => Nat.zero_le _
  | n + 1, P, x, hc, hx => by
    obtain ⟨s, hs, hP⟩ := cnP_ex (m := m) (P := P) (by omega)
    have h1 := rF_step (mi := mi) (x := x) hs hP hc
    have h2 := rF_le hB (n := n) (P := rmP P s) (x := mi s) (cn_rm1 hs hP hc) (hB.2 s hs)
    have h3 : dst x (mi s) ≤ 59 := by have := hB.2 s hs; unfold dst; omega
    have h4 := cnP_le m P
    have h5 : dst x (mi s) * (n + 1) ≤ 59 * 7 := Nat.mul_le_mul h3 (by have := hB.1; omega)
    rw [Nat.add_mul]; omega
theorem rF_at {mi : Nat → Nat} {m n x : Nat} {P : Nat → Bool} (hB : MB mi m) (hc : cnP m P = n + 1) (hx : x ≤ 59) : ∃ s, s < m ∧ P s = true ∧ rF mi m (n + 1) P x = dst x (mi s) * (n + 1) + rF mi m n (rmP P s) (mi s) := by
  have hl := rF_le hB hc hx
  have hm := cnP_le m P
  have hb := hB.1
  have h7 : (n + 1) * 413 ≤ 7 * 413 := Nat.mul_le_mul_right _ (by omega)
  obtain ⟨s, hs, e⟩ := mn_at (show mnN (fun s => if P s = true then dst x (mi s) * cnP m P + rF mi m n (rmP P s) (mi s) else FAR) m < FAR by
    have : mnN (fun s => if P s = true then dst x (mi s) * cnP m P + rF mi m n (rmP P s) (mi s) else FAR) m = rF mi m (n + 1) P x := rfl
    rw [this]; unfold FAR; omega)
  have e : (if P s = true then dst x (mi s) * cnP m P + rF mi m n (rmP P s) (mi s) else FAR) = rF mi m (n + 1) P x := e
  by_cases c : P s = true
  · rw [if_pos c, hc] at e
    exact ⟨s, hs, c, e.symm⟩
  · rw [if_neg c] at e; unfold FAR at e; omega
def rmY (mi : Nat → Nat) (P : Nat → Bool) (y : Nat) : Nat → Bool := fun p => P p && !(mi p == y)
/-- all at one mile are served as he is there -/
theorem rF_all {mi : Nat → Nat} {m : Nat} {y : Nat} : ∀ {n k : Nat} {P : Nat → Bool} {x : Nat}, cnP m P = n → cnP m (rmY mi P y) = k → k < n → rF mi m n P x ≤ dst x y * n + rF mi m k (rmY mi P y) y
  | 0, k, P, x, _, _, h => absurd h (by omega)
  | n + 1, k, P, x, hc, hk, h => by
    have hex : ∃ s, s < m ∧ P s = true ∧ mi s = y := by
      rcases Classical.em (∃ s, s < m ∧ P s = true ∧ mi s = y) with q | q
      · exact q
      · exfalso
        have : cnP m (rmY mi P y) = cnP m P := cnP_congr (fun p hp => by
          unfold rmY
          cases c : P p with
          | false => rfl
          | true =>
            have : ¬ mi p = y := fun e => q ⟨p, hp, c, e⟩
            simp [this])
        omega
    obtain ⟨s, hs, hP, hy⟩ := hex
    have h1 := rF_step (mi := mi) (x := x) hs hP hc
    rw [hy] at h1
    have hc2 := cn_rm1 hs hP hc
    have hYe : ∀ p, p < m → rmY mi (rmP P s) y p = rmY mi P y p := fun p hp => by
      by_cases e : p = s
      · subst e
        unfold rmY; simp [hy]
      · unfold rmY; rw [rmP_no e]
    have hk2 : cnP m (rmY mi (rmP P s) y) = k := by rw [cnP_congr hYe]; exact hk
    by_cases c : k < n
    · have h2 := rF_all (n := n) (k := k) (P := rmP P s) (x := y) hc2 hk2 c
      rw [dst_self, Nat.zero_mul, Nat.zero_add, rF_congr hYe] at h2
      omega
    · have hkn : k = n := by omega
      subst hkn
      have : rF mi m k (rmP P s) y = rF mi m k (rmY mi P y) y := rF_congr (fun p hp => by
        rw [← hYe p hp]
        cases c2 : rmP P s p with
        | false => unfold rmY; rw [c2]; rfl
        | true =>
          unfold rmY
          rw [c2]
          by_cases e : mi p = y
          · exfalso
            have h3 : cnP m (rmY mi (rmP P s) y) + 1 ≤ cnP m (rmP P s) := by
              have := cnP_rm c2 (m := m)
              rw [if_pos hp] at this
              rw [this]
              apply Nat.add_le_add_right
              exact cnP_mono (fun q hq h => by
                unfold rmY at h
                rw [Bool.and_eq_true] at h
                have : q ≠ p := fun z => by subst z; rw [e] at h; simp at h
                rw [rmP_no this]; exact h.1)
            omega
          · simp [e])
      omega
/-- the miles where somebody waits, in their order: ix: the place of a sitter's mile, ml: the miles, mm: how many -/
def GX (mi : Nat → Nat) (m : Nat) (P : Nat → Bool) (ix ml : Nat → Nat) (mm : Nat) : Prop :=
  (∀ p, p < m → P p = true → ix p < mm ∧ ml (ix p) = mi p) ∧ (∀ a b, a < b → b < mm → ml a < ml b) ∧ ∀ q, q < mm → ∃ p, p < m ∧ P p = true ∧ ix p = q
def uQ (P : Nat → Bool) (ix : Nat → Nat) (lo hi : Nat) : Nat → Bool := fun p => P p && (decide (ix p < lo) || decide (hi ≤ ix p))
def reM (m : Nat) (P : Nat → Bool) (ix : Nat → Nat) (lo hi : Nat) : Nat := cnP m (uQ P ix lo hi)
/-- how long they wait together, all between two places served -/
def sV (m : Nat) (P : Nat → Bool) (ix ml : Nat → Nat) (mm : Nat) : Nat → Nat → Nat → Nat → Nat
  | 0, _, _, _ => 0
  | f + 1, lo, hi, x => if reM m P ix lo hi = 0 then 0 else
      if hi = mm then dst x (ml (lo - 1)) * reM m P ix lo hi + sV m P ix ml mm f (lo - 1) hi (ml (lo - 1))
      else if lo = 0 then dst x (ml hi) * reM m P ix lo hi + sV m P ix ml mm f lo (hi + 1) (ml hi)
      else min (dst x (ml (lo - 1)) * reM m P ix lo hi + sV m P ix ml mm f (lo - 1) hi (ml (lo - 1))) (dst x (ml hi) * reM m P ix lo hi + sV m P ix ml mm f lo (hi + 1) (ml hi))
theorem ml_mono {mi : Nat → Nat} {m : Nat} {P : Nat → Bool} {ix ml : Nat → Nat} {mm a b : Nat} (h : GX mi m P ix ml mm) (hab : a ≤ b) (hb : b < mm) : ml a ≤ ml b := by
  rcases Nat.lt_or_ge a b with q | q
  · exact Nat.le_of_lt (h.2.1 a b q hb)
  · rw [show a = b by omega]; exact Nat.le_refl _
theorem ix_eq {mi : Nat → Nat} {m : Nat} {P : Nat → Bool} {ix ml : Nat → Nat} {mm p q : Nat} (h : GX mi m P ix ml mm) (hp : p < m) (hP : P p = true) (hq : q < mm) : mi p = ml q ↔ ix p = q := by
  obtain ⟨h1, h2⟩ := h.1 p hp hP
  constructor
  · intro e
    rw [← h2] at e
    rcases Nat.lt_trichotomy (ix p) q with c | c | c
    · have := h.2.1 _ _ c hq; omega
    · exact c
    · have := h.2.1 _ _ c h1; omega
  · intro e; rw [← e, h2]
theorem re_0 {mi : Nat → Nat} {m : Nat} {P : Nat → Bool} {ix ml : Nat → Nat} {mm lo hi : Nat} (h : GX mi m P ix ml mm) (hlh : lo ≤ hi) (hh : hi ≤ mm) : reM m P ix lo hi = 0 → lo = 0 ∧ hi = mm := by
  intro e
  have key : ∀ q, q < mm → ¬ (q < lo ∨ hi ≤ q) := fun q hq c => by
    obtain ⟨p, hp, hP, rfl⟩ := h.2.2 q hq
    have : 0 < cnP m (uQ P ix lo hi) := by
      have := cnP_rm (P := uQ P ix lo hi) (s := p) (by unfold uQ; rw [hP]; simp; omega) (m := m)
      rw [if_pos hp] at this; omega
    unfold reM at e; omega
  constructor
  · rcases Nat.eq_zero_or_pos lo with c | c
    · exact c
    · exact absurd (Or.inl c) (key 0 (by omega))
  · rcases Nat.lt_or_ge hi mm with c | c
    · exact absurd (Or.inr (Nat.le_refl hi)) (key hi c)
    · omega
/-- those at the next place to the left, to the right, are served -/
theorem u_left {mi : Nat → Nat} {m : Nat} {P : Nat → Bool} {ix ml : Nat → Nat} {mm lo hi : Nat} (h : GX mi m P ix ml mm) (hlh : lo ≤ hi) (hh : hi ≤ mm) (h0 : 0 < lo) : ∀ p, p < m → rmY mi (uQ P ix lo hi) (ml (lo - 1)) p = uQ P ix (lo - 1) hi p := by
  intro p hp
  unfold rmY uQ
  cases c : P p with
  | false => rfl
  | true =>
    have e := ix_eq h hp c (show lo - 1 < mm by omega)
    by_cases q : ix p = lo - 1
    · rw [show (mi p == ml (lo - 1)) = true by simpa using e.mpr q]; simp; omega
    · rw [show (mi p == ml (lo - 1)) = false by simpa using fun z => q (e.mp z)]
      simp only [Bool.true_and, Bool.not_false, Bool.and_true]
      congr 1
      exact decide_eq_decide.mpr (by omega)
theorem u_right {mi : Nat → Nat} {m : Nat} {P : Nat → Bool} {ix ml : Nat → Nat} {mm lo hi : Nat} (h : GX mi m P ix ml mm) (hlh : lo ≤ hi) (hh : hi < mm) : ∀ p, p < m → rmY mi (uQ P ix lo hi) (ml hi) p = uQ P ix lo (hi + 1) p := by
  intro p hp
  unfold rmY uQ
  cases c : P p with
  | false => rfl
  | true =>
    have e := ix_eq h hp c hh
    by_cases q : ix p = hi
    · rw [show (mi p == ml hi) = true by simpa using e.mpr q]; simp; omega
    · rw [show (mi p == ml hi) = false by simpa using fun z => q (e.mp z)]
      simp only [Bool.true_and, Bool.not_false, Bool.and_true]
      congr 1
      exact decide_eq_decide.mpr (by omega)
theorem re_left {mi : Nat → Nat} {m : Nat} {P : Nat → Bool} {ix ml : Nat → Nat} {mm lo hi : Nat} (h : GX mi m P ix ml mm) (hlh : lo ≤ hi) (hh : hi ≤ mm) (h0 : 0 < lo) : reM m P ix (lo - 1) hi < reM m P ix lo hi := by
  obtain ⟨p, hp, hP, hi'⟩ := h.2.2 (lo - 1) (by omega)
  have hu : uQ P ix lo hi p = true := by unfold uQ; rw [hP, hi']; simp; omega
  have := cnP_rm hu (m := m)
  rw [if_pos hp] at this
  have h2 : cnP m (uQ P ix (lo - 1) hi) ≤ cnP m (rmP (uQ P ix lo hi) p) := cnP_mono (fun q hq z => by
    have : q ≠ p := fun e => by subst e; unfold uQ at z; rw [hi'] at z; simp at z; omega
    rw [rmP_no this]
    unfold uQ at z ⊢
    rw [Bool.and_eq_true] at z ⊢
    exact ⟨z.1, by have := z.2; simp at this ⊢; omega⟩)
  unfold reM; omega
theorem re_right {mi : Nat → Nat} {m : Nat} {P : Nat → Bool} {ix ml : Nat → Nat} {mm lo hi : Nat} (h : GX mi m P ix ml mm) (hlh : lo ≤ hi) (hh : hi < mm) : reM m P ix lo (hi + 1) < reM m P ix lo hi := by
  obtain ⟨p, hp, hP, hi'⟩ := h.2.2 hi hh
  have hu : uQ P ix lo hi p = true := by unfold uQ; rw [hP, hi']; simp
  have := cnP_rm hu (m := m)
  rw [if_pos hp] at this
  have h2 : cnP m (uQ P ix lo (hi + 1)) ≤ cnP m (rmP (uQ P ix lo hi) p) := cnP_mono (fun q hq z => by
    have : q ≠ p := fun e => by subst e; unfold uQ at z; rw [hi'] at z; simp at z; omega
    rw [rmP_no this]
    unfold uQ at z ⊢
    rw [Bool.and_eq_true] at z ⊢
    exact ⟨z.1, by have := z.2; simp at this ⊢; omega⟩)
  unfold reM; omega
theorem sV_A {m : Nat} {P : Nat → Bool} {ix ml : Nat → Nat} {mm f lo hi x : Nat} (h0 : 0 < lo) : sV m P ix ml mm (f + 1) lo hi x ≤ dst x (ml (lo - 1)) * reM m P ix lo hi + sV m P ix ml mm f (lo - 1) hi (ml (lo - 1)) := by
  rw [sV]
  split
  · exact Nat.zero_le _
  · split
    · exact Nat.le_refl _
    · rw [if_neg (by omega)]; exact Nat.min_le_left _ _
theorem sV_B {m : Nat} {P : Nat → Bool} {ix ml : Nat → Nat} {mm f lo hi x : Nat} (h0 : hi < mm) : sV m P ix ml mm (f + 1) lo hi x ≤ dst x (ml hi) * reM m P ix lo hi + sV m P ix ml mm f lo (hi + 1) (ml hi) := by
  rw [sV]
  split
  · exact Nat.zero_le _
  · rw [if_neg (by omega)]
    split
    · exact Nat.le_refl _
    · exact Nat.min_le_right _ _
theorem sV_lip {m : Nat} {P : Nat → Bool} {ix ml : Nat → Nat} {mm f lo hi x y : Nat} : sV m P ix ml mm f lo hi x ≤ dst x y * reM m P ix lo hi + sV m P ix ml mm f lo hi y := by
  cases f with
  | zero => exact Nat.zero_le _
  | succ f =>
    have t : ∀ z L, dst x z * L ≤ dst x y * L + dst y z * L := fun z L => by rw [← Nat.add_mul]; exact Nat.mul_le_mul_right _ (dst_tri x y z)
    rw [sV, sV]
    by_cases c : reM m P ix lo hi = 0
    · rw [if_pos c]; exact Nat.zero_le _
    · rw [if_neg c, if_neg c]
      have t1 := t (ml (lo - 1)) (reM m P ix lo hi)
      have t2 := t (ml hi) (reM m P ix lo hi)
      split
      · omega
      · split
        · omega
        · omega
def BT (ml : Nat → Nat) (mm lo hi x : Nat) : Prop := (∀ q, q < lo → ml q ≤ x) ∧ ∀ q, hi ≤ q → q < mm → x ≤ ml q
theorem sV_R {mi : Nat → Nat} {m : Nat} {P : Nat → Bool} {ix ml : Nat → Nat} {mm : Nat} (h : GX mi m P ix ml mm) : ∀ {d lo hi q x : Nat}, q = hi + d → lo ≤ hi → q < mm → BT ml mm lo hi x → sV m P ix ml mm (lo + (mm - hi)) lo hi x ≤ dst x (ml q) * reM m P ix lo hi + sV m P ix ml mm (lo + (mm - (q + 1))) lo (q + 1) (ml q)
  | 0, lo, hi, q, x, hq, hlh, hm, hb => by
    have e : q = hi := by omega
    rw [e, show lo + (mm - hi) = lo + (mm - (hi + 1)) + 1 by omega]
    exact sV_B (by omega)
  | d + 1, lo, hi, q, x, hq, hlh, hm, hb => by
    have h1 := sV_B (m := m) (P := P) (ix := ix) (ml := ml) (mm := mm) (f := lo + (mm - (hi + 1))) (lo := lo) (hi := hi) (x := x) (by omega)
    rw [show lo + (mm - (hi + 1)) + 1 = lo + (mm - hi) by omega] at h1
    have h2 := sV_R h (d := d) (lo := lo) (hi := hi + 1) (q := q) (x := ml hi) (by omega) (by omega) hm ⟨fun a ha => ml_mono h (by omega) (by omega), fun a ha hb => ml_mono h (by omega) hb⟩
    have h3 := Nat.le_of_lt (re_right h hlh (show hi < mm by omega))
    have h4 : dst (ml hi) (ml q) * reM m P ix lo (hi + 1) ≤ dst (ml hi) (ml q) * reM m P ix lo hi := Nat.mul_le_mul_left _ h3
    have h5 : dst x (ml q) = dst x (ml hi) + dst (ml hi) (ml q) := by
      have := hb.2 hi (Nat.le_refl _) (by omega)
      have := ml_mono h (show hi ≤ q by omega) hm
      unfold dst; omega
    rw [h5, Nat.add_mul]; omega
theorem sV_L {mi : Nat → Nat} {m : Nat} {P : Nat → Bool} {ix ml : Nat → Nat} {mm : Nat} (h : GX mi m P ix ml mm) : ∀ {d lo hi q x : Nat}, lo = q + 1 + d → lo ≤ hi → hi ≤ mm → BT ml mm lo hi x → sV m P ix ml mm (lo + (mm - hi)) lo hi x ≤ dst x (ml q) * reM m P ix lo hi + sV m P ix ml mm (q + (mm - hi)) q hi (ml q)
  | 0, lo, hi, q, x, hq, hlh, hm, hb => by
    have e : q = lo - 1 := by omega
    rw [e, show lo + (mm - hi) = lo - 1 + (mm - hi) + 1 by omega]
    exact sV_A (by omega)
  | d + 1, lo, hi, q, x, hq, hlh, hm, hb => by
    have h1 := sV_A (m := m) (P := P) (ix := ix) (ml := ml) (mm := mm) (f := lo - 1 + (mm - hi)) (lo := lo) (hi := hi) (x := x) (by omega)
    rw [show lo - 1 + (mm - hi) + 1 = lo + (mm - hi) by omega] at h1
    have h2 := sV_L h (d := d) (lo := lo - 1) (hi := hi) (q := q) (x := ml (lo - 1)) (by omega) (by omega) hm ⟨fun a ha => ml_mono h (by omega) (by omega), fun a ha hb => ml_mono h (by omega) hb⟩
    have h3 := Nat.le_of_lt (re_left h hlh hm (show 0 < lo by omega))
    have h4 : dst (ml (lo - 1)) (ml q) * reM m P ix (lo - 1) hi ≤ dst (ml (lo - 1)) (ml q) * reM m P ix lo hi := Nat.mul_le_mul_left _ h3
    have h5 : dst x (ml q) = dst x (ml (lo - 1)) + dst (ml (lo - 1)) (ml q) := by
      have := hb.1 (lo - 1) (by omega)
      have := ml_mono h (show q ≤ lo - 1 by omega) (by omega)
      unfold dst; omega
    rw [h5, Nat.add_mul]; omega
theorem sV_low {mi : Nat → Nat} {m : Nat} {P : Nat → Bool} {ix ml : Nat → Nat} {mm : Nat} (hB : MB mi m) (h : GX mi m P ix ml mm) : ∀ {n : Nat} {V : Nat → Bool} {lo hi x : Nat}, cnP m V = n → lo ≤ hi → hi ≤ mm → x ≤ 59 → BT ml mm lo hi x → (∀ p, p < m → uQ P ix lo hi p = true → V p = true) → (∀ p, p < m → V p = true → P p = true) → sV m P ix ml mm (lo + (mm - hi)) lo hi x ≤ rF mi m n V x
  | 0, V, lo, hi, x, hc, hlh, hh, hx, hb, hU, hV => by
    have : reM m P ix lo hi ≤ cnP m V := cnP_mono hU
    have e : reM m P ix lo hi = 0 := by omega
    obtain ⟨h1, h2⟩ := re_0 h hlh hh e
    subst h1; subst h2
    rw [Nat.sub_self]; exact Nat.le_refl _
  | n + 1, V, lo, hi, x, hc, hlh, hh, hx, hb, hU, hV => by
    obtain ⟨s, hs, hVs, e⟩ := rF_at hB hc hx
    rw [e]
    have hPs := hV s hs hVs
    obtain ⟨g1, g2⟩ := h.1 s hs hPs
    have hre : reM m P ix lo hi ≤ n + 1 := by rw [← hc]; exact cnP_mono hU
    have hms := hB.2 s hs
    have hV' : ∀ p, p < m → rmP V s p = true → P p = true := fun p hp z => hV p hp (by unfold rmP at z; rw [Bool.and_eq_true] at z; exact z.1)
    have hc' := cn_rm1 hs hVs hc
    by_cases c1 : ix s < lo
    · have k1 := sV_L h (d := lo - ix s - 1) (lo := lo) (hi := hi) (q := ix s) (x := x) (by omega) hlh hh hb
      have k2 := sV_low hB h (n := n) (V := rmP V s) (lo := ix s) (hi := hi) (x := mi s) hc' (by omega) hh hms ⟨fun a ha => by rw [← g2]; exact ml_mono h (by omega) g1, fun a ha hb => by rw [← g2]; exact ml_mono h (by omega) hb⟩ (fun p hp z => by
        have : p ≠ s := fun q => by subst q; unfold uQ at z; simp at z; omega
        rw [rmP_no this]
        exact hU p hp (by unfold uQ at z ⊢; rw [Bool.and_eq_true] at z ⊢; exact ⟨z.1, by have := z.2; simp at this ⊢; omega⟩)) hV'
      rw [g2] at k1
      have k3 : dst x (mi s) * reM m P ix lo hi ≤ dst x (mi s) * (n + 1) := Nat.mul_le_mul_left _ hre
      omega
    · by_cases c2 : hi ≤ ix s
      · have k1 := sV_R h (d := ix s - hi) (lo := lo) (hi := hi) (q := ix s) (x := x) (by omega) hlh g1 hb
        have k2 := sV_low hB h (n := n) (V := rmP V s) (lo := lo) (hi := ix s + 1) (x := mi s) hc' (by omega) (by omega) hms ⟨fun a ha => by rw [← g2]; exact ml_mono h (by omega) g1, fun a ha hb => by rw [← g2]; exact ml_mono h (by omega) hb⟩ (fun p hp z => by
          have : p ≠ s := fun q => by subst q; unfold uQ at z; simp at z; omega
          rw [rmP_no this]
          exact hU p hp (by unfold uQ at z ⊢; rw [Bool.and_eq_true] at z ⊢; exact ⟨z.1, by have := z.2; simp at this ⊢; omega⟩)) hV'
        rw [g2] at k1
        have k3 : dst x (mi s) * reM m P ix lo hi ≤ dst x (mi s) * (n + 1) := Nat.mul_le_mul_left _ hre
        omega
      · have k1 := sV_lip (m := m) (P := P) (ix := ix) (ml := ml) (mm := mm) (f := lo + (mm - hi)) (lo := lo) (hi := hi) (x := x) (y := mi s)
        have k2 := sV_low hB h (n := n) (V := rmP V s) (lo := lo) (hi := hi) (x := mi s) hc' hlh hh hms ⟨fun a ha => by rw [← g2]; exact ml_mono h (by omega) g1, fun a ha hb => by rw [← g2]; exact ml_mono h (by omega) hb⟩ (fun p hp z => by
          have : p ≠ s := fun q => by subst q; unfold uQ at z; simp at z; omega
          rw [rmP_no this]; exact hU p hp z) hV'
        have k3 : dst x (mi s) * reM m P ix lo hi ≤ dst x (mi s) * (n + 1) := Nat.mul_le_mul_left _ hre
        omega
theorem sV_up {mi : Nat → Nat} {m : Nat} {P : Nat → Bool} {ix ml : Nat → Nat} {mm : Nat} (h : GX mi m P ix ml mm) : ∀ {f lo hi x : Nat}, f = lo + (mm - hi) → lo ≤ hi → hi ≤ mm → rF mi m (reM m P ix lo hi) (uQ P ix lo hi) x ≤ sV m P ix ml mm f lo hi x
  | 0, lo, hi, x, hf, hlh, hh => by
    have e : reM m P ix lo hi = 0 := by
      rcases Nat.eq_zero_or_pos (reM m P ix lo hi) with c | c
      · exact c
      · exfalso
        obtain ⟨p, hp, hu⟩ := cnP_ex (show 0 < cnP m (uQ P ix lo hi) from c)
        unfold uQ at hu
        rw [Bool.and_eq_true] at hu
        have := (h.1 p hp hu.1).1
        have h2 := hu.2
        simp at h2; omega
    rw [e]; exact Nat.le_refl _
  | f + 1, lo, hi, x, hf, hlh, hh => by
    rw [sV]
    by_cases c : reM m P ix lo hi = 0
    · rw [if_pos c, c]; exact Nat.le_refl _
    · rw [if_neg c]
      have cA : 0 < lo → rF mi m (reM m P ix lo hi) (uQ P ix lo hi) x ≤ dst x (ml (lo - 1)) * reM m P ix lo hi + sV m P ix ml mm f (lo - 1) hi (ml (lo - 1)) := fun h0 => by
        have k1 := rF_all (mi := mi) (m := m) (y := ml (lo - 1)) (n := reM m P ix lo hi) (k := reM m P ix (lo - 1) hi) (P := uQ P ix lo hi) (x := x) rfl (cnP_congr (u_left h hlh hh h0)) (re_left h hlh hh h0)
        rw [rF_congr (u_left h hlh hh h0)] at k1
        have k2 := sV_up h (f := f) (lo := lo - 1) (hi := hi) (x := ml (lo - 1)) (by omega) (by omega) hh
        omega
      have cB : hi < mm → rF mi m (reM m P ix lo hi) (uQ P ix lo hi) x ≤ dst x (ml hi) * reM m P ix lo hi + sV m P ix ml mm f lo (hi + 1) (ml hi) := fun h0 => by
        have k1 := rF_all (mi := mi) (m := m) (y := ml hi) (n := reM m P ix lo hi) (k := reM m P ix lo (hi + 1)) (P := uQ P ix lo hi) (x := x) rfl (cnP_congr (u_right h hlh h0)) (re_right h hlh h0)
        rw [rF_congr (u_right h hlh h0)] at k1
        have k2 := sV_up h (f := f) (lo := lo) (hi := hi + 1) (x := ml hi) (by omega) (by omega) (by omega)
        omega
      split
      · exact cA (by omega)
      · split
        · exact cB (by omega)
        · have a := cA (by omega)
          have b := cB (by omega)
          exact Nat.le_min.mpr ⟨a, b⟩
/-- from within: the same -/
theorem sV_eq {mi : Nat → Nat} {m : Nat} {P : Nat → Bool} {ix ml : Nat → Nat} {mm : Nat} (hB : MB mi m) (h : GX mi m P ix ml mm) {lo x : Nat} (hl : lo ≤ mm) (hx : x ≤ 59) (hb : BT ml mm lo lo x) : sV m P ix ml mm (lo + (mm - lo)) lo lo x = rF mi m (cnP m P) P x := by
  have e : ∀ p, p < m → uQ P ix lo lo p = P p := fun p _ => by
    unfold uQ
    rw [show (decide (ix p < lo) || decide (lo ≤ ix p)) = true by simp; omega, Bool.and_true]
  have e2 : reM m P ix lo lo = cnP m P := cnP_congr e
  apply Nat.le_antisymm
  · exact sV_low hB h rfl (Nat.le_refl _) hl hx hb (fun p hp z => by rw [← e p hp]; exact z) (fun p _ z => z)
  · have := sV_up h (f := lo + (mm - lo)) (lo := lo) (hi := lo) (x := x) rfl (Nat.le_refl _) hl
    rw [e2, rF_congr e] at this
    exact this

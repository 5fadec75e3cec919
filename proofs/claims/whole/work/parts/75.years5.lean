/-- a run: what stands, the steps done, whether it is over, whether steps were left over -/
abbrev FN : Type := RN × Nat × Nat × Nat
def vIn (s : Nat → Nat) (R : RN) : RN := if s 0 = 13 then rDay (s 2) R else if s 0 = 14 then rBr (s 2) R else if s 0 = 15 then rCr (s 1) (s 2) R else if s 0 = 16 then rTu (s 1) (s 2) R else rAny R
/-- the place behind a step, or behind the end of its block -/
def nxA (s : Nat → Nat → Nat) (a : Nat) : Nat := if s a 0 = 18 ∨ s a 0 = 22 then s a 5 + 1 else a + 1
def itN (f : FN → FN) : Nat → FN → FN
  | 0, F => F
  | n + 1, F => if (itN f n F).2.2.1 = 0 then f (itN f n F) else itN f n F
def doO (rec : Nat → Nat → FN → FN) (s : Nat → Nat → Nat) (a : Nat) (F : FN) : FN :=
  if F.2.1 = 300 then (F.1, 300, 1, 1)
  else if s a 0 ≤ 17 then (vIn (s a) F.1, F.2.1 + 1, F.2.2)
  else if s a 0 = 18 then (if soN F.1.1 (s a) = true then rec (a + 1) (s a 5) (F.1, F.2.1 + 1, F.2.2) else (F.1, F.2.1 + 1, F.2.2))
  else if s a 0 = 22 then itN (rec (a + 1) (s a 5)) (s a 2) (F.1, F.2.1 + 1, F.2.2)
  else (F.1, F.2.1 + 1, 1, F.2.2.2)
def doA (s : Nat → Nat → Nat) : Nat → Nat → Nat → FN → FN
  | 0, _, _, F => F
  | g + 1, a, b, F => if a < b ∧ F.2.2.1 = 0 then doA s g (nxA s a) b (doO (doA s g) s a F) else F
/-- the run of YEARS, from a first draw -/
def runF (Y : YR) (S : ST) (seed : Nat) : FN := doA Y.2.2 (Y.2.1 + 1) 0 Y.2.1 ((S, seed, 0, 0, 0), 0, 0, 0)
/-- what holds of a run's state; S0 the wood at the start -/
def GR (S0 : ST) (R : RN) : Prop := WF R.1 ∧ R.1 0 1 ≤ 9999 ∧ S0 0 1 ≤ R.1 0 1 ∧ R.2.1 < 65536 ∧ R.1 0 2 = S0 0 2 ∧ R.1 0 4 = S0 0 4 ∧ R.1 0 5 = S0 0 5
/-- and of its counts, after n steps -/
def GN (R : RN) (n : Nat) : Prop := R.2.2.1 ≤ n ∧ R.2.2.2.1 ≤ n ∧ R.2.2.2.2 ≤ n
theorem GR_mi {S0 : ST} {R : RN} (h : GR S0 R) : GR S0 (rMi R) := h
theorem GN_mi {R : RN} {n : Nat} (h : GN R n) : GN (rMi R) (n + 1) := ⟨Nat.succ_le_succ h.1, Nat.le_succ_of_le h.2.1, Nat.le_succ_of_le h.2.2⟩
theorem GR_day {S0 : ST} {R : RN} {n : Nat} (h : GR S0 R) : GR S0 (rDay n R) := by
  unfold rDay
  split
  · rename_i c
    exact ⟨WF_day2 h.1 (by omega), c, Nat.le_trans h.2.2.1 (Nat.le_add_right _ _), h.2.2.2.1, h.2.2.2.2⟩
  · exact h
theorem GN_day {R : RN} {n k : Nat} (h : GN R n) : GN (rDay k R) (n + 1) := by
  unfold rDay
  split
  · exact ⟨Nat.le_succ_of_le h.1, Nat.le_succ_of_le h.2.1, Nat.le_succ_of_le h.2.2⟩
  · exact GN_mi h
theorem GR_br {S0 : ST} {R : RN} {k : Nat} (h : GR S0 R) : GR S0 (rBr k R) := by
  unfold rBr
  split
  · exact ⟨WF_comeN h.1, h.2⟩
  · exact h
theorem GN_br {R : RN} {n k : Nat} (h : GN R n) : GN (rBr k R) (n + 1) := by
  unfold rBr
  split
  · exact ⟨Nat.le_succ_of_le h.1, Nat.succ_le_succ h.2.1, Nat.le_succ_of_le h.2.2⟩
  · exact GN_mi h
theorem GR_cr {S0 : ST} {R : RN} {k m : Nat} (h : GR S0 R) (hk : k < S0 0 2) : GR S0 (rCr k m R) := by
  unfold rCr
  split
  · exact h
  · have := WF_clear h.1 k (by rw [h.2.2.2.2.1]; exact hk)
    exact ⟨WF_hupd h.1 (by omega), h.2⟩
theorem GN_cr {R : RN} {n k m : Nat} (h : GN R n) : GN (rCr k m R) (n + 1) := by
  unfold rCr
  split
  · exact GN_mi h
  · exact ⟨Nat.le_succ_of_le h.1, Nat.le_succ_of_le h.2.1, Nat.succ_le_succ h.2.2⟩
theorem GR_tu {S0 : ST} {R : RN} {p k : Nat} (h : GR S0 R) (hk : k < S0 0 2) : GR S0 (rTu p k R) := by
  unfold rTu
  split
  · exact h
  · exact ⟨WF_turn h.1 (by rw [h.2.2.2.2.1]; exact hk), h.2⟩
theorem GN_tu {R : RN} {n p k : Nat} (h : GN R n) : GN (rTu p k R) (n + 1) := by
  unfold rTu
  split
  · exact GN_mi h
  · exact ⟨Nat.le_succ_of_le h.1, Nat.le_succ_of_le h.2.1, Nat.le_succ_of_le h.2.2⟩
theorem GR_sd {S0 : ST} {R : RN} {d : Nat} (h : GR S0 R) (hd : d < 65536) : GR S0 (setD R d) := ⟨h.1, h.2.1, h.2.2.1, hd, h.2.2.2.2⟩
theorem GR_any {S0 : ST} {R : RN} (h : GR S0 R) : GR S0 (rAny R) := by
  unfold rAny
  split
  · exact h
  · rename_i c
    split
    · exact GR_cr (GR_sd h (drw_lt _)) (by rw [← h.2.2.2.2.1]; exact Nat.mod_lt _ (Nat.pos_of_ne_zero c))
    · exact GR_day (GR_sd h (drw_lt _))
theorem GN_sd {R : RN} {n d : Nat} (h : GN R n) : GN (setD R d) n := h
theorem GN_any {R : RN} {n : Nat} (h : GN R n) : GN (rAny R) (n + 1) := by
  unfold rAny
  split
  · exact GN_mi h
  · split
    · exact GN_cr (GN_sd h)
    · exact GN_day (GN_sd h)
/-- what is known of a step before it is done -/
def okS (S0 : ST) (s : Nat → Nat) : Prop := 13 ≤ s 0 ∧ (s 0 = 15 → s 1 < S0 0 2) ∧ (s 0 = 16 → s 2 < S0 0 2)
theorem GR_in {S0 : ST} {R : RN} {s : Nat → Nat} (h : GR S0 R) (hs : okS S0 s) : GR S0 (vIn s R) := by
  unfold vIn
  split
  · exact GR_day h
  · split
    · exact GR_br h
    · split
      · rename_i c; exact GR_cr h (hs.2.1 c)
      · split
        · rename_i c; exact GR_tu h (hs.2.2 c)
        · exact GR_any h
theorem GN_in {R : RN} {s : Nat → Nat} {n : Nat} (h : GN R n) : GN (vIn s R) (n + 1) := by
  unfold vIn
  split
  · exact GN_day h
  · split
    · exact GN_br h
    · split
      · exact GN_cr h
      · split
        · exact GN_tu h
        · exact GN_any h
def GF (S0 : ST) (F : FN) : Prop := GR S0 F.1 ∧ GN F.1 F.2.1 ∧ F.2.1 ≤ 300 ∧ F.2.2.1 ≤ 1 ∧ F.2.2.2 ≤ 1 ∧ (F.2.2.1 = 0 → F.2.2.2 = 0)
theorem GF_it {S0 : ST} {f : FN → FN} (hf : ∀ F, GF S0 F → F.2.2.1 = 0 → GF S0 (f F) ∧ F.2.1 ≤ (f F).2.1) : ∀ (n : Nat) {F : FN}, GF S0 F → GF S0 (itN f n F) ∧ F.2.1 ≤ (itN f n F).2.1
  | 0, F, h => ⟨h, Nat.le_refl _⟩
  | n + 1, F, h => by
    have ih := GF_it hf n h
    rw [itN]
    split
    · rename_i c
      have := hf _ ih.1 c
      exact ⟨this.1, Nat.le_trans ih.2 this.2⟩
    · exact ih
theorem GF_s1 {S0 : ST} {F : FN} (h : GF S0 F) (h3 : ¬ F.2.1 = 300) : GF S0 (F.1, F.2.1 + 1, F.2.2) := ⟨h.1, ⟨Nat.le_succ_of_le h.2.1.1, Nat.le_succ_of_le h.2.1.2.1, Nat.le_succ_of_le h.2.1.2.2⟩, by have := h.2.2.1; show F.2.1 + 1 ≤ 300; omega, h.2.2.2⟩
theorem GF_o {S0 : ST} {rec : Nat → Nat → FN → FN} {s : Nat → Nat → Nat} {a L : Nat} (hr : ∀ a b F, b ≤ L → GF S0 F → GF S0 (rec a b F) ∧ F.2.1 ≤ (rec a b F).2.1) (hs : okS S0 (s a)) (h5 : (s a 0 = 18 ∨ s a 0 = 22) → s a 5 ≤ L) {F : FN} (h : GF S0 F) (h0 : F.2.2.1 = 0) : GF S0 (doO rec s a F) ∧ F.2.1 ≤ (doO rec s a F).2.1 := by
  unfold doO
  by_cases c : F.2.1 = 300
  · rw [if_pos c]
    exact ⟨⟨h.1, by have := h.2.1; rw [c] at this; exact this, Nat.le_refl _, Nat.le_refl _, Nat.le_refl _, fun e => absurd (show 1 = 0 from e) (by decide)⟩, Nat.le_of_eq c⟩
  · rw [if_neg c]
    have h1 := GF_s1 h c
    split
    · exact ⟨⟨GR_in h.1 hs, GN_in h.2.1, h1.2.2⟩, Nat.le_succ _⟩
    · split
      · rename_i c18
        split
        · have := hr (a + 1) (s a 5) _ (h5 (Or.inl c18)) h1
          exact ⟨this.1, Nat.le_trans (Nat.le_succ _) this.2⟩
        · exact ⟨h1, Nat.le_succ _⟩
      · split
        · rename_i c22
          have := GF_it (f := rec (a + 1) (s a 5)) (fun F q _ => hr _ _ F (h5 (Or.inr c22)) q) (s a 2) h1
          exact ⟨this.1, Nat.le_trans (Nat.le_succ _) this.2⟩
        · exact ⟨⟨h1.1, h1.2.1, h1.2.2.1, Nat.le_refl _, h1.2.2.2.2.1, fun e => absurd (show 1 = 0 from e) (by decide)⟩, Nat.le_succ _⟩
/-- [a, b) is at one level: each end in it has its beginning there, each beginning its end -/
def lvl (s : Nat → Nat → Nat) (a b : Nat) : Prop := (∀ i, a ≤ i → i < b → s i 0 = 23 → a ≤ s i 5) ∧ ∀ i, a ≤ i → i < b → (s i 0 = 18 ∨ s i 0 = 22) → s i 5 < b
/-- beginnings and ends as WFY has them -/
def blk (s : Nat → Nat → Nat) (L : Nat) : Prop := (∀ i, i < L → (s i 0 = 18 ∨ s i 0 = 22) → i < s i 5 ∧ s i 5 < L ∧ s (s i 5) 0 = 23 ∧ s (s i 5) 5 = i ∧ ∀ k, i < k → k < s i 5 → (s k 0 = 18 ∨ s k 0 = 22) → s k 5 < s i 5) ∧ ∀ i, i < L → s i 0 = 23 → s i 5 < i ∧ (s (s i 5) 0 = 18 ∨ s (s i 5) 0 = 22) ∧ s (s i 5) 5 = i
theorem WFY_blk {S : ST} {Y : YR} (h : WFY S Y) : blk Y.2.2 Y.2.1 := ⟨fun i hi hv => (h.2.2.2.2 i hi).2.2.2.2.2.2.2.2.2.1 hv, fun i hi hv => (h.2.2.2.2 i hi).2.2.2.2.2.2.2.2.2.2 hv⟩
theorem lvl_0 {s : Nat → Nat → Nat} {L : Nat} (h : blk s L) : lvl s 0 L := ⟨fun _ _ _ _ => Nat.zero_le _, fun i _ hi hv => (h.1 i hi hv).2.1⟩
theorem lvl_no {s : Nat → Nat → Nat} {L a b : Nat} (h : blk s L) (hl : lvl s a b) (hb : b ≤ L) (ha : a < b) : s a 0 ≠ 23 := fun e => by
  have h1 := (h.2 a (by omega) e).1
  have h2 := hl.1 a (Nat.le_refl _) ha e
  omega
theorem lvl_in {s : Nat → Nat → Nat} {L p : Nat} (h : blk s L) (hp : p < L) (hv : s p 0 = 18 ∨ s p 0 = 22) : lvl s (p + 1) (s p 5) := by
  obtain ⟨h1, h2, h3, h4, h5⟩ := h.1 p hp hv
  refine ⟨fun i hi hib he => ?_, fun i hi hib hw => h5 i (by omega) hib hw⟩
  obtain ⟨q1, q2, q3⟩ := h.2 i (by omega) he
  rcases Nat.lt_trichotomy (s i 5) p with c | c | c
  · have := (h.1 (s i 5) (by omega) q2).2.2.2.2 p c (by omega) hv
    omega
  · rw [c] at q3; omega
  · exact c
theorem nx_gt {s : Nat → Nat → Nat} {L a : Nat} (h : blk s L) (ha : a < L) : a < nxA s a := by
  unfold nxA
  split
  · rename_i c; have := (h.1 a ha c).1; omega
  · omega
theorem lvl_nx {s : Nat → Nat → Nat} {L a b : Nat} (h : blk s L) (hl : lvl s a b) (hb : b ≤ L) (ha : a < b) : lvl s (nxA s a) b ∧ nxA s a ≤ b := by
  have hn := lvl_no h hl hb ha
  have hg := nx_gt (s := s) h (show a < L by omega)
  by_cases c : s a 0 = 18 ∨ s a 0 = 22
  · obtain ⟨h1, h2, h3, h4, h5⟩ := h.1 a (by omega) c
    have hx : nxA s a = s a 5 + 1 := if_pos c
    have he := hl.2 a (Nat.le_refl _) ha c
    rw [hx]
    refine ⟨⟨fun i hi hib e => ?_, fun i hi hib w => hl.2 i (by omega) hib w⟩, he⟩
    obtain ⟨q1, q2, q3⟩ := h.2 i (by omega) e
    have q4 := hl.1 i (by omega) hib e
    rcases Nat.lt_trichotomy (s i 5) (s a 5) with d | d | d
    · by_cases z : s i 5 = a
      · rw [z] at q3; omega
      · have := h5 (s i 5) (by omega) d q2
        omega
    · rw [d, h3] at q2; omega
    · exact d
  · have hx : nxA s a = a + 1 := if_neg c
    rw [hx]
    refine ⟨⟨fun i hi hib e => ?_, fun i hi hib w => hl.2 i (by omega) hib w⟩, ha⟩
    obtain ⟨q1, q2, q3⟩ := h.2 i (by omega) e
    have q4 := hl.1 i (by omega) hib e
    by_cases z : s i 5 = a
    · rw [z] at q2; exact absurd q2 c
    · omega
theorem GF_a {S0 : ST} {s : Nat → Nat → Nat} {L : Nat} (hb : blk s L) (hs : ∀ i, i < L → okS S0 (s i)) : ∀ (g a b : Nat) (F : FN), b ≤ L → GF S0 F → GF S0 (doA s g a b F) ∧ F.2.1 ≤ (doA s g a b F).2.1
  | 0, a, b, F, _, h => ⟨h, Nat.le_refl _⟩
  | g + 1, a, b, F, hl, h => by
    rw [doA]
    by_cases c : a < b ∧ F.2.2.1 = 0
    · rw [if_pos c]
      have h1 := GF_o (rec := doA s g) (L := L) (fun a b F k q => GF_a hb hs g a b F k q) (hs a (by omega)) (fun z => Nat.le_of_lt (hb.1 a (by omega) z).2.1) h c.2
      have h2 := GF_a hb hs g (nxA s a) b _ hl h1.1
      exact ⟨h2.1, Nat.le_trans h1.2 h2.2⟩
    · rw [if_neg c]; exact ⟨h, Nat.le_refl _⟩

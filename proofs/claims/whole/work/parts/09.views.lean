/-! ===== calls that go on in the caller; a wood by its numbers ===== -/
def qV (mi : MI) (d : Nat) (X : CX) (pc : Nat) (L : List (Nat × Option Value)) (st : List Value) : Option Value → Mm → Prop := fun r M' => match r with
  | some v => AW mi d X pc L (v :: st) M'
  | none => AW mi d X pc L st M'
theorem n_callV {mi mi' : MI} {d : Nat} {X : CX} {pc d' k ci n idx : Nat} {L : List (Nat × Option Value)} {st S0 : List Value} {M : Mm} {As : List Value} {fs : List (Nat × Nat)} {cq : vw_C}
    (hd : decode mi.2.1 pc = .ok (.invokevirtual idx, 3)) (hlk : Cond.methodLink mi.1.cls idx mi'.1 ∈ TB) (hm : mthV mi' n) (hk : k < nC) (hc : layC k = .inl (ci, fs)) (hcq : vwCl[ci]? = some cq) (hcl : cq.1 = mi'.1.cls)
    (hA : AMt mi' d' (.ref k :: As) M (qV mi d X (pc + 3) L st)) (hst : S0 = As.reverse ++ .ref k :: st) (hn : As.length = n) (hdd : d' < d) (hnl : mi'.2.2.1 ≤ 30) (hcat : (st.map fun v => v.category).sum ≤ 8) : AW mi d X pc L S0 M :=
  a_callV hd hlk hm hk hc hcq hcl hn hdd hnl hst hcat hA (fun r M' h => by cases r <;> exact h)
theorem n_callS {mi mi' : MI} {d : Nat} {X : CX} {pc d' n idx : Nat} {L : List (Nat × Option Value)} {st S0 : List Value} {M : Mm} {As : List Value}
    (hd : decode mi.2.1 pc = .ok (.invokestatic idx, 3)) (hlk : Cond.methodLink mi.1.cls idx mi'.1 ∈ TB) (hm : mthS mi' n)
    (hA : AMt mi' d' As M (qV mi d X (pc + 3) L st)) (hst : S0 = As.reverse ++ st) (hn : As.length = n) (hdd : d' < d) (hnl : mi'.2.2.1 ≤ 30) (hcat : (st.map fun v => v.category).sum ≤ 8) : AW mi d X pc L S0 M :=
  a_callS hd hlk hm hn hdd hnl hst hcat hA (fun r M' h => by cases r <;> exact h)
abbrev ST : Type := Nat → Nat → Nat
/-- the set of the numbers below n of which p holds -/
def bsN (p : Nat → Bool) : Nat → Nat
  | 0 => 0
  | n + 1 => if p n then bsN p n ||| 2 ^ n else bsN p n
theorem bsN_bit (p : Nat → Bool) : ∀ n j, (bsN p n).testBit j = (decide (j < n) && p j)
  | 0, j => by simp [bsN]
  | n + 1, j => by
    have ih := bsN_bit p n j
    unfold bsN
    by_cases hp : p n = true
    · rw [if_pos hp, Nat.testBit_or, ih, Nat.testBit_two_pow]
      by_cases h : j = n
      · subst h; simp [hp]
      · have h1 : ¬ n = j := fun e => h e.symm
        have h2 : (j < n + 1) = (j < n) := by apply propext; omega
        simp [h1, h2]
    · rw [if_neg hp, ih]
      by_cases h : j = n
      · subst h; simp [hp]
      · have h2 : (j < n + 1) = (j < n) := by apply propext; omega
        simp [h2]
theorem bsN_lt (p : Nat → Bool) (n : Nat) : bsN p n < 2 ^ n := by
  apply Nat.lt_pow_two_of_testBit
  intro i hi
  rw [bsN_bit]
  simp [show ¬ i < n by omega]
theorem bsN_congr {p q : Nat → Bool} {n : Nat} (h : ∀ j, j < n → p j = q j) : bsN p n = bsN q n := by
  apply Nat.eq_of_testBit_eq
  intro j
  rw [bsN_bit, bsN_bit]
  by_cases hj : j < n
  · rw [h j hj]
  · simp [hj]
theorem eq_bsN {a n : Nat} {p : Nat → Bool} (h : ∀ j, a.testBit j = (decide (j < n) && p j)) : a = bsN p n := by
  apply Nat.eq_of_testBit_eq
  intro j
  rw [h, bsN_bit]
theorem pow_le {h k : Nat} (hk : h ≤ k) : 2 ^ h ≤ 2 ^ k := Nat.pow_le_pow_right (by decide) hk
theorem or_lt {a b k : Nat} (ha : a < 2 ^ k) (hb : b < 2 ^ k) : a ||| b < 2 ^ k := Nat.or_lt_two_pow ha hb

/-- the class's wood at w holds the numbers S -/
def VX (w : Nat) (M : Mm) (S : ST) : Prop := M.1 w 0 = nI (S 0 0) ∧ M.1 w 1 = nI (S 0 1) ∧ M.1 w 2 = nI (S 0 2) ∧ M.1 w 3 = nI (S 0 3) ∧ M.1 w 4 = nI (S 0 4) ∧ M.1 w 5 = nI (S 0 5) ∧ M.1 w 6 = nI (bsN (fun j => S 11 j == 1) (S 0 5)) ∧ (∀ j, j < S 0 2 → M.1 (w + 2) j = nI (S 1 j)) ∧ (∀ j, j < S 0 2 → M.1 (w + 3) j = nI (S 2 j)) ∧ (∀ j, j < S 0 3 → M.1 (w + 4) j = nI (S 3 j)) ∧ (∀ j, j < S 0 3 → M.1 (w + 5) j = nI (S 4 j)) ∧ (∀ j, j < S 0 4 → M.1 (w + 7) j = nI (S 5 j)) ∧ (∀ j, j < S 0 4 → M.1 (w + 8) j = nI (S 6 j)) ∧ (∀ j, j < S 0 4 → M.1 (w + 9) j = nI (S 7 j)) ∧ (∀ j, j < S 0 4 → M.1 (w + 10) j = nI (S 8 j)) ∧ (∀ j, j < S 0 5 → M.1 (w + 11) j = nI (S 9 j)) ∧ (∀ j, j < S 0 5 → M.1 (w + 12) j = nI (S 10 j))
theorem VX_0 {w : Nat} {M : Mm} {S : ST} (h : VX w M S) : M.1 w 0 = nI (S 0 0) := h.1
theorem VX_1 {w : Nat} {M : Mm} {S : ST} (h : VX w M S) : M.1 w 1 = nI (S 0 1) := h.2.1
theorem VX_2 {w : Nat} {M : Mm} {S : ST} (h : VX w M S) : M.1 w 2 = nI (S 0 2) := h.2.2.1
theorem VX_3 {w : Nat} {M : Mm} {S : ST} (h : VX w M S) : M.1 w 3 = nI (S 0 3) := h.2.2.2.1
theorem VX_4 {w : Nat} {M : Mm} {S : ST} (h : VX w M S) : M.1 w 4 = nI (S 0 4) := h.2.2.2.2.1
theorem VX_5 {w : Nat} {M : Mm} {S : ST} (h : VX w M S) : M.1 w 5 = nI (S 0 5) := h.2.2.2.2.2.1
theorem VX_6 {w : Nat} {M : Mm} {S : ST} (h : VX w M S) : M.1 w 6 = nI (bsN (fun j => S 11 j == 1) (S 0 5)) := h.2.2.2.2.2.2.1
theorem VX_a2 {w : Nat} {M : Mm} {S : ST} (h : VX w M S) {j : Nat} (hj : j < S 0 2) : M.1 (w + 2) j = nI (S 1 j) := (h.2.2.2.2.2.2.2.1) j hj
theorem VX_a3 {w : Nat} {M : Mm} {S : ST} (h : VX w M S) {j : Nat} (hj : j < S 0 2) : M.1 (w + 3) j = nI (S 2 j) := (h.2.2.2.2.2.2.2.2.1) j hj
theorem VX_a4 {w : Nat} {M : Mm} {S : ST} (h : VX w M S) {j : Nat} (hj : j < S 0 3) : M.1 (w + 4) j = nI (S 3 j) := (h.2.2.2.2.2.2.2.2.2.1) j hj
theorem VX_a5 {w : Nat} {M : Mm} {S : ST} (h : VX w M S) {j : Nat} (hj : j < S 0 3) : M.1 (w + 5) j = nI (S 4 j) := (h.2.2.2.2.2.2.2.2.2.2.1) j hj
theorem VX_a7 {w : Nat} {M : Mm} {S : ST} (h : VX w M S) {j : Nat} (hj : j < S 0 4) : M.1 (w + 7) j = nI (S 5 j) := (h.2.2.2.2.2.2.2.2.2.2.2.1) j hj
theorem VX_a8 {w : Nat} {M : Mm} {S : ST} (h : VX w M S) {j : Nat} (hj : j < S 0 4) : M.1 (w + 8) j = nI (S 6 j) := (h.2.2.2.2.2.2.2.2.2.2.2.2.1) j hj
theorem VX_a9 {w : Nat} {M : Mm} {S : ST} (h : VX w M S) {j : Nat} (hj : j < S 0 4) : M.1 (w + 9) j = nI (S 7 j) := (h.2.2.2.2.2.2.2.2.2.2.2.2.2.1) j hj
theorem VX_a10 {w : Nat} {M : Mm} {S : ST} (h : VX w M S) {j : Nat} (hj : j < S 0 4) : M.1 (w + 10) j = nI (S 8 j) := (h.2.2.2.2.2.2.2.2.2.2.2.2.2.2.1) j hj
theorem VX_a11 {w : Nat} {M : Mm} {S : ST} (h : VX w M S) {j : Nat} (hj : j < S 0 5) : M.1 (w + 11) j = nI (S 9 j) := (h.2.2.2.2.2.2.2.2.2.2.2.2.2.2.2.1) j hj
theorem VX_a12 {w : Nat} {M : Mm} {S : ST} (h : VX w M S) {j : Nat} (hj : j < S 0 5) : M.1 (w + 12) j = nI (S 10 j) := (h.2.2.2.2.2.2.2.2.2.2.2.2.2.2.2.2) j hj
/-- the bounds that the document gives -/
def WF (S : ST) : Prop := (S 0 0 ≤ 16) ∧ (S 0 1 ≤ 20000) ∧ (S 0 2 ≤ 6) ∧ (S 0 3 ≤ 10) ∧ (S 0 4 ≤ 7) ∧ (S 0 5 ≤ 8) ∧ (∀ j, j < S 0 2 → S 1 j ≤ 20) ∧ (∀ j, j < S 0 2 → S 2 j ≤ 100) ∧ (∀ j, j < S 0 3 → S 3 j < S 0 2) ∧ (∀ j, j < S 0 3 → S 4 j < S 0 2) ∧ (∀ j, j < S 0 4 → S 5 j ≤ 59) ∧ (∀ j, j < S 0 4 → 1 ≤ S 6 j ∧ S 6 j ≤ 99) ∧ (∀ j, j < S 0 4 → S 7 j < S 0 2) ∧ (∀ j, j < S 0 4 → 1 ≤ S 8 j ∧ S 8 j ≤ 9) ∧ (∀ j, j < S 0 5 → S 9 j < S 0 2) ∧ (∀ j, j < S 0 5 → 1 ≤ S 10 j ∧ S 10 j ≤ 100) ∧ (∀ j, j < S 0 5 → S 11 j ≤ 1) ∧ (∀ j, j < S 0 3 → S 3 j ≠ S 4 j)
theorem WF_odds {S : ST} (h : WF S) : S 0 0 ≤ 16 := h.1
theorem WF_day {S : ST} (h : WF S) : S 0 1 ≤ 20000 := h.2.1
theorem WF_m {S : ST} (h : WF S) : S 0 2 ≤ 6 := h.2.2.1
theorem WF_h {S : ST} (h : WF S) : S 0 3 ≤ 10 := h.2.2.2.1
theorem WF_s {S : ST} (h : WF S) : S 0 4 ≤ 7 := h.2.2.2.2.1
theorem WF_n {S : ST} (h : WF S) : S 0 5 ≤ 8 := h.2.2.2.2.2.1
theorem WF_pace {S : ST} (h : WF S) : ∀ j, j < S 0 2 → S 1 j ≤ 20 := h.2.2.2.2.2.2.1
theorem WF_clear {S : ST} (h : WF S) : ∀ j, j < S 0 2 → S 2 j ≤ 100 := h.2.2.2.2.2.2.2.1
theorem WF_held {S : ST} (h : WF S) : ∀ j, j < S 0 3 → S 3 j < S 0 2 := h.2.2.2.2.2.2.2.2.1
theorem WF_by {S : ST} (h : WF S) : ∀ j, j < S 0 3 → S 4 j < S 0 2 := h.2.2.2.2.2.2.2.2.2.1
theorem WF_mile {S : ST} (h : WF S) : ∀ j, j < S 0 4 → S 5 j ≤ 59 := h.2.2.2.2.2.2.2.2.2.2.1
theorem WF_tall {S : ST} (h : WF S) : ∀ j, j < S 0 4 → 1 ≤ S 6 j ∧ S 6 j ≤ 99 := h.2.2.2.2.2.2.2.2.2.2.2.1
theorem WF_for {S : ST} (h : WF S) : ∀ j, j < S 0 4 → S 7 j < S 0 2 := h.2.2.2.2.2.2.2.2.2.2.2.2.1
theorem WF_wt {S : ST} (h : WF S) : ∀ j, j < S 0 4 → 1 ≤ S 8 j ∧ S 8 j ≤ 9 := h.2.2.2.2.2.2.2.2.2.2.2.2.2.1
theorem WF_about {S : ST} (h : WF S) : ∀ j, j < S 0 5 → S 9 j < S 0 2 := h.2.2.2.2.2.2.2.2.2.2.2.2.2.2.1
theorem WF_size {S : ST} (h : WF S) : ∀ j, j < S 0 5 → 1 ≤ S 10 j ∧ S 10 j ≤ 100 := h.2.2.2.2.2.2.2.2.2.2.2.2.2.2.2.1
theorem WF_came {S : ST} (h : WF S) : ∀ j, j < S 0 5 → S 11 j ≤ 1 := h.2.2.2.2.2.2.2.2.2.2.2.2.2.2.2.2.1
theorem WF_apart {S : ST} (h : WF S) : ∀ j, j < S 0 3 → S 3 j ≠ S 4 j := h.2.2.2.2.2.2.2.2.2.2.2.2.2.2.2.2.2
/-- HEIGHT by TALL and CLEAR -/
def hgt (t c : Nat) : Nat := t * (100 - c) / 100
theorem hgt_le (t c : Nat) : hgt t c ≤ t := by unfold hgt; exact Nat.le_trans (Nat.div_le_div_right (Nat.mul_le_mul_left t (Nat.sub_le 100 c))) (by omega)
/-- a wood's numbers with one changed -/
def upS2 (S : ST) (c j v : Nat) : ST := fun a b => if a = c ∧ b = j then v else S a b

theorem n_min {mi : MI} {d : Nat} {X : CX} {pc : Nat} {L : List (Nat × Option Value)} {st : List Value} {M : Mm} {a b idx : Nat} (ha : a < 2 ^ 31) (hb : b < 2 ^ 31) (hd : decode mi.2.1 pc = .ok (.invokestatic idx, 3)) (h1 : Cond.methodLink mi.1.cls idx Lib.Math.min.name ∈ TB) (hcat : (st.map fun v => v.category).sum ≤ 8) (kk : AW mi d X (pc + 3) L (.int (nI (min a b)) :: st) M) : AW mi d X pc L (.int (nI b) :: .int (nI a) :: st) M := by
  refine a_min hd h1 hcat ?_
  have e : (if nI b < nI a then nI b else nI a) = nI (min a b) := by
    by_cases h : b < a
    · rw [if_pos ((nI_ltI hb ha).mpr h), Nat.min_eq_right (by omega)]
    · rw [if_neg (fun q => h ((nI_ltI hb ha).mp q)), Nat.min_eq_left (by omega)]
  rw [e]; exact kk
theorem n_max {mi : MI} {d : Nat} {X : CX} {pc : Nat} {L : List (Nat × Option Value)} {st : List Value} {M : Mm} {a b idx : Nat} (ha : a < 2 ^ 31) (hb : b < 2 ^ 31) (hd : decode mi.2.1 pc = .ok (.invokestatic idx, 3)) (h1 : Cond.methodLink mi.1.cls idx Lib.Math.max.name ∈ TB) (hcat : (st.map fun v => v.category).sum ≤ 8) (kk : AW mi d X (pc + 3) L (.int (nI (max a b)) :: st) M) : AW mi d X pc L (.int (nI b) :: .int (nI a) :: st) M := by
  refine a_max hd h1 hcat ?_
  have e : (if nI a < nI b then nI b else nI a) = nI (max a b) := by
    by_cases h : a < b
    · rw [if_pos ((nI_ltI ha hb).mpr h), Nat.max_eq_right (by omega)]
    · rw [if_neg (fun q => h ((nI_ltI ha hb).mp q)), Nat.max_eq_left (by omega)]
  rw [e]; exact kk
theorem n_max0 {mi : MI} {d : Nat} {X : CX} {pc : Nat} {L : List (Nat × Option Value)} {st : List Value} {M : Mm} {a b idx : Nat} (ha : a < 2 ^ 30) (hb : b < 2 ^ 30) (hd : decode mi.2.1 pc = .ok (.invokestatic idx, 3)) (h1 : Cond.methodLink mi.1.cls idx Lib.Math.max.name ∈ TB) (hcat : (st.map fun v => v.category).sum ≤ 8) (kk : AW mi d X (pc + 3) L (.int (nI (a - b)) :: st) M) : AW mi d X pc L (.int (nI a - nI b) :: .int (nI 0) :: st) M := by
  refine a_max hd h1 hcat ?_
  have e : (if nI 0 < nI a - nI b then nI a - nI b else nI 0) = nI (a - b) := by
    have ht := pk_sub_toInt ha hb
    by_cases h : b ≤ a
    · rw [pk_sub h]
      by_cases h2 : 0 < a - b
      · rw [if_pos ((nI_ltI (by decide) (by omega)).mpr h2)]
      · rw [if_neg (fun q => h2 ((nI_ltI (by decide) (by omega)).mp q)), show a - b = 0 by omega]
    · have : ¬ nI 0 < nI a - nI b := by
        rw [Int32.lt_iff_toInt_lt, ht]
        have : (nI 0).toInt = 0 := by decide
        omega
      rw [if_neg this, show a - b = 0 by omega]
  rw [e]; exact kk
theorem a_bk {mi : MI} {d : Nat} {X : CX} {pc : Nat} {L L' : List (Nat × Option Value)} {st : List Value} {M : Mm} (kk : AW mi d X pc L' st M) (hs : subL L L') : AW mi d X pc L st M := a_sub hs kk
theorem srN {M : Mm} {k a j : Nat} {f : Nat → Int32} {v : Int32} (h : M.1 a j = v) (hne : a ≠ k) : (srM M k f).1 a j = v := by
  show (if a = k then f j else M.1 a j) = v
  rw [if_neg hne]; exact h
theorem srH {M : Mm} {k i j : Nat} {g : Nat → Int32} {v : Int32} (h : M.1 k j = v) (hij : i ≤ j) : (srM M k (fun b => if b < i then g b else M.1 k b)).1 k j = v := by
  show (if k = k then (if j < i then g j else M.1 k j) else M.1 k j) = v
  rw [if_pos rfl, if_neg (by omega)]; exact h
theorem srM_step (M : Mm) (k i : Nat) (g : Nat → Int32) {x : Int32} (hx : x = g i) : siM (srM M k (fun b => if b < i then g b else M.1 k b)) k i x = srM M k (fun b => if b < i + 1 then g b else M.1 k b) := by
  subst hx
  unfold siM srM
  refine Prod.ext (funext fun a => funext fun b => ?_) rfl
  by_cases ha : a = k
  · subst ha
    by_cases hb : b = i
    · subst hb; simp
    · have : (b < i + 1) = (b < i) := by apply propext; omega
      simp [hb, this]
  · simp [ha]
theorem srM_skip {M : Mm} {k i : Nat} {g : Nat → Int32} (h : M.1 k i = g i) : srM M k (fun b => if b < i then g b else M.1 k b) = srM M k (fun b => if b < i + 1 then g b else M.1 k b) := by
  unfold srM
  refine Prod.ext (funext fun a => funext fun b => ?_) rfl
  by_cases ha : a = k
  · subst ha
    by_cases hb : b = i
    · subst hb; simp [h]
    · have : (b < i + 1) = (b < i) := by apply propext; omega
      simp [this]
  · simp [ha]
theorem srM_0 (M : Mm) (k : Nat) (g : Nat → Int32) : srM M k (fun b => if b < 0 then g b else M.1 k b) = M := by
  unfold srM
  refine Prod.ext (funext fun a => funext fun b => ?_) rfl
  by_cases ha : a = k
  · subst ha; simp
  · simp [ha]
def orN (p : Nat → Bool) (f : Nat → Nat) : Nat → Nat
  | 0 => 0
  | n + 1 => if p n then orN p f n ||| 2 ^ f n else orN p f n
theorem orN_lt {p : Nat → Bool} {f : Nat → Nat} {k : Nat} : ∀ {n : Nat}, (∀ j, j < n → f j < k) → orN p f n < 2 ^ k
  | 0, _ => Nat.two_pow_pos k
  | n + 1, h => by
    have ih := orN_lt (p := p) (n := n) (fun j hj => h j (by omega))
    unfold orN
    by_cases hp : p n = true
    · rw [if_pos hp]; exact or_lt ih (Nat.pow_lt_pow_right (by decide) (h n (by omega)))
    · rw [if_neg hp]; exact ih
theorem orN_bit (p : Nat → Bool) (f : Nat → Nat) : ∀ n j, (orN p f n).testBit j = (List.range n).any (fun i => p i && f i == j)
  | 0, j => by simp [orN]
  | n + 1, j => by
    have ih := orN_bit p f n j
    unfold orN
    rw [List.range_succ, List.any_append]
    by_cases hp : p n = true
    · rw [if_pos hp, Nat.testBit_or, ih, Nat.testBit_two_pow]
      simp [hp]
      rfl
    · rw [if_neg hp, ih]; simp [hp]
/-- whether p holds somewhere below n, as 0 or 1 -/
def mvN (p : Nat → Bool) : Nat → Nat
  | 0 => 0
  | n + 1 => if p n then 1 else mvN p n
theorem mvN_01 (p : Nat → Bool) : ∀ n, mvN p n = 0 ∨ mvN p n = 1
  | 0 => Or.inl rfl
  | n + 1 => by unfold mvN; by_cases h : p n = true; · rw [if_pos h]; exact Or.inr rfl
                · rw [if_neg h]; exact mvN_01 p n
def stkN (S : ST) (f : Nat → Nat) : Nat := orN (fun i => decide (f (S 4 i) < 100)) (S 3) (S 0 3) ^^^ (orN (fun i => decide (f (S 4 i) < 100)) (S 3) (S 0 3) &&& bsN (fun j => decide (100 ≤ f j)) (S 0 2))
def pdB (S : ST) (f : Nat → Nat) (j : Nat) : Bool := decide (0 < S 1 j) && decide (f j < 100) && !(stkN S f).testBit j
/-- a DAY goes by -/
def pdN (S : ST) (f : Nat → Nat) (j : Nat) : Nat := if pdB S f j then min 100 (f j + S 1 j) else f j

theorem l_if_eq {mi : MI} {d : Nat} {X : CX} {pc : Nat} {L : List (Nat × Option Value)} {st : List Value} {M : Mm} {x y : Int64} {off : Int} (tgt : Nat) (hd : decode mi.2.1 pc = .ok (.ifCond .eq off, 3)) (ht : (pc : Int) + off = (tgt : Int)) (k1 : x = y → AW mi d X tgt L st M) (k2 : ¬ x = y → AW mi d X (pc + 3) L st M) : AW mi d X pc L (.int (lg_cmp x y) :: st) M :=
  a_if_eq tgt hd ht (fun h => k1 ((lg_cmp_eq x y).mp h)) (fun h => k2 (fun q => h ((lg_cmp_eq x y).mpr q)))
theorem l_if_lt {mi : MI} {d : Nat} {X : CX} {pc : Nat} {L : List (Nat × Option Value)} {st : List Value} {M : Mm} {x y : Int64} {off : Int} (tgt : Nat) (hd : decode mi.2.1 pc = .ok (.ifCond .lt off, 3)) (ht : (pc : Int) + off = (tgt : Int)) (k1 : x < y → AW mi d X tgt L st M) (k2 : ¬ x < y → AW mi d X (pc + 3) L st M) : AW mi d X pc L (.int (lg_cmp x y) :: st) M :=
  a_if_lt tgt hd ht (fun h => k1 ((lg_cmp_lt x y).mp h)) (fun h => k2 (fun q => h ((lg_cmp_lt x y).mpr q)))
theorem l_if_ge {mi : MI} {d : Nat} {X : CX} {pc : Nat} {L : List (Nat × Option Value)} {st : List Value} {M : Mm} {x y : Int64} {off : Int} (tgt : Nat) (hd : decode mi.2.1 pc = .ok (.ifCond .ge off, 3)) (ht : (pc : Int) + off = (tgt : Int)) (k1 : y ≤ x → AW mi d X tgt L st M) (k2 : ¬ y ≤ x → AW mi d X (pc + 3) L st M) : AW mi d X pc L (.int (lg_cmp x y) :: st) M :=
  a_if_ge tgt hd ht (fun h => k1 ((lg_cmp_ge x y).mp h)) (fun h => k2 (fun q => h ((lg_cmp_ge x y).mpr q)))
theorem l_if_gt {mi : MI} {d : Nat} {X : CX} {pc : Nat} {L : List (Nat × Option Value)} {st : List Value} {M : Mm} {x y : Int64} {off : Int} (tgt : Nat) (hd : decode mi.2.1 pc = .ok (.ifCond .gt off, 3)) (ht : (pc : Int) + off = (tgt : Int)) (k1 : y < x → AW mi d X tgt L st M) (k2 : ¬ y < x → AW mi d X (pc + 3) L st M) : AW mi d X pc L (.int (lg_cmp x y) :: st) M :=
  a_if_gt tgt hd ht (fun h => k1 ((lg_cmp_gt x y).mp h)) (fun h => k2 (fun q => h ((lg_cmp_gt x y).mpr q)))
theorem l_if_le {mi : MI} {d : Nat} {X : CX} {pc : Nat} {L : List (Nat × Option Value)} {st : List Value} {M : Mm} {x y : Int64} {off : Int} (tgt : Nat) (hd : decode mi.2.1 pc = .ok (.ifCond .le off, 3)) (ht : (pc : Int) + off = (tgt : Int)) (k1 : x ≤ y → AW mi d X tgt L st M) (k2 : ¬ x ≤ y → AW mi d X (pc + 3) L st M) : AW mi d X pc L (.int (lg_cmp x y) :: st) M :=
  a_if_le tgt hd ht (fun h => k1 ((lg_cmp_le x y).mp h)) (fun h => k2 (fun q => h ((lg_cmp_le x y).mpr q)))
theorem l_if_ne {mi : MI} {d : Nat} {X : CX} {pc : Nat} {L : List (Nat × Option Value)} {st : List Value} {M : Mm} {x y : Int64} {off : Int} (tgt : Nat) (hd : decode mi.2.1 pc = .ok (.ifCond .ne off, 3)) (ht : (pc : Int) + off = (tgt : Int)) (k1 : ¬ x = y → AW mi d X tgt L st M) (k2 : x = y → AW mi d X (pc + 3) L st M) : AW mi d X pc L (.int (lg_cmp x y) :: st) M :=
  a_if_ne tgt hd ht (fun h => k1 (fun q => h ((lg_cmp_eq x y).mpr q))) (fun h => k2 ((lg_cmp_eq x y).mp h))
theorem n_copyi {mi : MI} {d : Nat} {X : CX} {pc : Nat} {L : List (Nat × Option Value)} {st : List Value} {M : Mm} {k0 k1 n0 n1 sp dp n idx : Nat} {f0 f1 : Nat → Nat} (hk0 : k0 < nC) (hc0 : layC k0 = .inr (0, n0, f0)) (hk1 : k1 < nC) (hc1 : layC k1 = .inr (0, n1, f1)) (h0 : sp + n ≤ n0) (h1 : dp + n ≤ n1) (hn0 : n0 < 2 ^ 31) (hn1 : n1 < 2 ^ 31) (hcat : (st.map fun v => v.category).sum ≤ 8)
    (hd : decode mi.2.1 pc = .ok (.invokestatic idx, 3)) (hlk : Cond.methodLink mi.1.cls idx arraycopyName ∈ TB) (kk : AW mi d X (pc + 3) L st (srM M k1 (fun b => if dp ≤ b ∧ b < dp + n then M.1 k0 (sp + (b - dp)) else M.1 k1 b))) : AW mi d X pc L (.int (nI n) :: .int (nI dp) :: .ref k1 :: .int (nI sp) :: .ref k0 :: st) M := by
  intro G p l e R s m args below meth c A cells slots Qf B hX H locs ls hP hD hS hl
  have w0 := wrl_at G M hk0
  rw [hc0] at w0
  have w1 := wrl_at G M hk1
  rw [hc1] at w1
  have hts := B.2.2.2.2.2.1
  have hfr := B.2.2.2.2.2.2.2.2.2.1
  have hlo := B.2.2.2.2.2.2.2.2.2.2.1
  have cn := nI_clamp (n := n) (by omega)
  have cd := nI_clamp (n := dp) (by omega)
  have cs := nI_clamp (n := sp) (by omega)
  refine va_copyi B.1 B.2.1 (B.2.2.1.trans hl.1.symm) B.2.2.2.2.1 (hts _ hlk) (hts _ jw_copy.1) (hts _ jw_copy.2.1) (hts _ jw_copy.2.2) B.2.2.2.2.2.2.2.1 hP hD hS k0 k1 0 0 w0 w1 rfl rfl rfl (nI_pos (by omega)) (nI_pos (by omega)) (nI_pos (by omega)) (by rw [cs, cn]; exact h0) (by rw [cd, cn]; exact h1) (fun _ _ => rfl) (by omega) (by rw [map_cat]; exact Nat.le_trans (Nat.add_le_add_right hcat _) (Nat.le_trans (by decide) (Nat.le_trans (show 120 ≤ 60 * (d + 2) by omega) hlo))) hd (fun H1 locs1 hP1 hD1 hS1 => ?_)
  rw [cs, cd, cn] at hP1 hD1
  rw [wrl_set G M (srM M k1 (fun b => if dp ≤ b ∧ b < dp + n then M.1 k0 (sp + (b - dp)) else M.1 k1 b)) hk1 (by rw [hc1]; simp only [celA, srM]; rfl) (fun j hj => celA_r hj _)] at hP1 hD1
  exact kk G p l e R s m args below meth c A cells slots Qf B hX H1 locs1 ls hP1 hD1 hS1 hl
theorem n_copyl {mi : MI} {d : Nat} {X : CX} {pc : Nat} {L : List (Nat × Option Value)} {st : List Value} {M : Mm} {k0 k1 n0 n1 sp dp n idx : Nat} {f0 f1 : Nat → Nat} (hk0 : k0 < nC) (hc0 : layC k0 = .inr (2, n0, f0)) (hk1 : k1 < nC) (hc1 : layC k1 = .inr (2, n1, f1)) (h0 : sp + n ≤ n0) (h1 : dp + n ≤ n1) (hn0 : n0 < 2 ^ 31) (hn1 : n1 < 2 ^ 31) (hcat : (st.map fun v => v.category).sum ≤ 8)
    (hd : decode mi.2.1 pc = .ok (.invokestatic idx, 3)) (hlk : Cond.methodLink mi.1.cls idx arraycopyName ∈ TB) (kk : AW mi d X (pc + 3) L st (sqM M k1 (fun b => if dp ≤ b ∧ b < dp + n then M.2 k0 (sp + (b - dp)) else M.2 k1 b))) : AW mi d X pc L (.int (nI n) :: .int (nI dp) :: .ref k1 :: .int (nI sp) :: .ref k0 :: st) M := by
  intro G p l e R s m args below meth c A cells slots Qf B hX H locs ls hP hD hS hl
  have w0 := wrl_at G M hk0
  rw [hc0] at w0
  have w1 := wrl_at G M hk1
  rw [hc1] at w1
  have hts := B.2.2.2.2.2.1
  have hfr := B.2.2.2.2.2.2.2.2.2.1
  have hlo := B.2.2.2.2.2.2.2.2.2.2.1
  have cn := nI_clamp (n := n) (by omega)
  have cd := nI_clamp (n := dp) (by omega)
  have cs := nI_clamp (n := sp) (by omega)
  refine va_copyl B.1 B.2.1 (B.2.2.1.trans hl.1.symm) B.2.2.2.2.1 (hts _ hlk) (hts _ jw_copy.1) (hts _ jw_copy.2.1) (hts _ jw_copy.2.2) B.2.2.2.2.2.2.2.1 hP hD hS k0 k1 2 2 w0 w1 rfl rfl rfl (nI_pos (by omega)) (nI_pos (by omega)) (nI_pos (by omega)) (by rw [cs, cn]; exact h0) (by rw [cd, cn]; exact h1) (fun _ _ => rfl) (by omega) (by rw [map_cat]; exact Nat.le_trans (Nat.add_le_add_right hcat _) (Nat.le_trans (by decide) (Nat.le_trans (show 120 ≤ 60 * (d + 2) by omega) hlo))) hd (fun H1 locs1 hP1 hD1 hS1 => ?_)
  rw [cs, cd, cn] at hP1 hD1
  rw [wrl_set G M (sqM M k1 (fun b => if dp ≤ b ∧ b < dp + n then M.2 k0 (sp + (b - dp)) else M.2 k1 b)) hk1 (by rw [hc1]; simp only [celA, sqM]; rfl) (fun j hj => celA_q hj _)] at hP1 hD1
  exact kk G p l e R s m args below meth c A cells slots Qf B hX H1 locs1 ls hP1 hD1 hS1 hl
theorem siN {M : Mm} {k j a b : Nat} {x v : Int32} (h : M.1 a b = v) (hne : a ≠ k ∨ b ≠ j) : (siM M k j x).1 a b = v := by
  show (if a = k ∧ b = j then x else M.1 a b) = v
  rw [if_neg (fun q => by omega)]; exact h
theorem siS {M : Mm} {k j : Nat} {x : Int32} : (siM M k j x).1 k j = x := by
  show (if k = k ∧ j = j then x else M.1 k j) = x
  rw [if_pos ⟨rfl, rfl⟩]
theorem slN {M : Mm} {k j a b : Nat} {x v : Int64} (h : M.2 a b = v) (hne : a ≠ k ∨ b ≠ j) : (slM M k j x).2 a b = v := by
  show (if a = k ∧ b = j then x else M.2 a b) = v
  rw [if_neg (fun q => by omega)]; exact h
/-- what a method leaves as it was -/
def frM (Z : Nat → Nat → Prop) (M M' : Mm) : Prop := (∀ k j, ¬ Z k j → M'.1 k j = M.1 k j) ∧ M'.2 = M.2
def setC (S : ST) (f : Nat → Nat) : ST := fun a b => if a = 2 then f b else S a b
def pdI (S : ST) (f : Nat → Nat) : Nat → Nat → Nat
  | 0 => f
  | n + 1 => pdN S (pdI S f n)
def dayN (S : ST) (n : Nat) : ST := fun a b => if a = 2 then pdI S (S 2) n b else if a = 0 ∧ b = 1 then S 0 1 + n else S a b
def comeN (S : ST) (i : Nat) : ST := fun a b => if a = 2 ∧ b = S 9 i then min 100 (S 2 b + S 10 i) else if a = 11 ∧ b = i then 1 else S a b
def addMN (S : ST) (p c : Nat) : ST := fun a b => if a = 0 ∧ b = 2 then S 0 2 + 1 else if a = 1 ∧ b = S 0 2 then p else if a = 2 ∧ b = S 0 2 then c else S a b
def addHN (S : ST) (x y : Nat) : ST := fun a b => if a = 0 ∧ b = 3 then S 0 3 + 1 else if a = 3 ∧ b = S 0 3 then x else if a = 4 ∧ b = S 0 3 then y else S a b
def addSN (S : ST) (mi ta fo we : Nat) : ST := fun a b => if a = 0 ∧ b = 4 then S 0 4 + 1 else if a = 5 ∧ b = S 0 4 then mi else if a = 6 ∧ b = S 0 4 then ta else if a = 7 ∧ b = S 0 4 then fo else if a = 8 ∧ b = S 0 4 then we else S a b
def addNN (S : ST) (x z : Nat) : ST := fun a b => if a = 0 ∧ b = 5 then S 0 5 + 1 else if a = 9 ∧ b = S 0 5 then x else if a = 10 ∧ b = S 0 5 then z else if a = 11 ∧ b = S 0 5 then 0 else S a b
def dropN (S : ST) (k : Nat) : ST := fun a b => if a = 0 ∧ b = 3 then S 0 3 - 1 else if (a = 3 ∨ a = 4) ∧ k ≤ b then S a (b + 1) else S a b

theorem i32_eq_toInt (a b : Int32) : a = b ↔ a.toInt = b.toInt := Int32.toInt_inj.symm
theorem r_icmp_lt {mi : MI} {d : Nat} {X : CX} {pc : Nat} {L : List (Nat × Option Value)} {st : List Value} {M : Mm} {x : Int32} {b : Nat} {off : Int} (tgt : Nat) (hb : b < 2 ^ 31) (hd : decode mi.2.1 pc = .ok (.if_icmp .lt off, 3)) (ht : (pc : Int) + off = (tgt : Int)) (k1 : x.toInt < (b : Int) → AW mi d X tgt L st M) (k2 : ¬ x.toInt < (b : Int) → AW mi d X (pc + 3) L st M) : AW mi d X pc L (.int (nI b) :: .int x :: st) M :=
  a_icmp_lt tgt hd ht (fun h => k1 (by rw [Int32.lt_iff_toInt_lt, nI_toInt hb] at h; exact h)) (fun h => k2 (fun q => h (by rw [Int32.lt_iff_toInt_lt, nI_toInt hb]; exact q)))
theorem r_icmp_ge {mi : MI} {d : Nat} {X : CX} {pc : Nat} {L : List (Nat × Option Value)} {st : List Value} {M : Mm} {x : Int32} {b : Nat} {off : Int} (tgt : Nat) (hb : b < 2 ^ 31) (hd : decode mi.2.1 pc = .ok (.if_icmp .ge off, 3)) (ht : (pc : Int) + off = (tgt : Int)) (k1 : (b : Int) ≤ x.toInt → AW mi d X tgt L st M) (k2 : ¬ (b : Int) ≤ x.toInt → AW mi d X (pc + 3) L st M) : AW mi d X pc L (.int (nI b) :: .int x :: st) M :=
  a_icmp_ge tgt hd ht (fun h => k1 (by rw [Int32.le_iff_toInt_le, nI_toInt hb] at h; exact h)) (fun h => k2 (fun q => h (by rw [Int32.le_iff_toInt_le, nI_toInt hb]; exact q)))
theorem r_icmp_gt {mi : MI} {d : Nat} {X : CX} {pc : Nat} {L : List (Nat × Option Value)} {st : List Value} {M : Mm} {x : Int32} {b : Nat} {off : Int} (tgt : Nat) (hb : b < 2 ^ 31) (hd : decode mi.2.1 pc = .ok (.if_icmp .gt off, 3)) (ht : (pc : Int) + off = (tgt : Int)) (k1 : (b : Int) < x.toInt → AW mi d X tgt L st M) (k2 : ¬ (b : Int) < x.toInt → AW mi d X (pc + 3) L st M) : AW mi d X pc L (.int (nI b) :: .int x :: st) M :=
  a_icmp_gt tgt hd ht (fun h => k1 (by rw [Int32.lt_iff_toInt_lt, nI_toInt hb] at h; exact h)) (fun h => k2 (fun q => h (by rw [Int32.lt_iff_toInt_lt, nI_toInt hb]; exact q)))
theorem r_icmp_le {mi : MI} {d : Nat} {X : CX} {pc : Nat} {L : List (Nat × Option Value)} {st : List Value} {M : Mm} {x : Int32} {b : Nat} {off : Int} (tgt : Nat) (hb : b < 2 ^ 31) (hd : decode mi.2.1 pc = .ok (.if_icmp .le off, 3)) (ht : (pc : Int) + off = (tgt : Int)) (k1 : x.toInt ≤ (b : Int) → AW mi d X tgt L st M) (k2 : ¬ x.toInt ≤ (b : Int) → AW mi d X (pc + 3) L st M) : AW mi d X pc L (.int (nI b) :: .int x :: st) M :=
  a_icmp_le tgt hd ht (fun h => k1 (by rw [Int32.le_iff_toInt_le, nI_toInt hb] at h; exact h)) (fun h => k2 (fun q => h (by rw [Int32.le_iff_toInt_le, nI_toInt hb]; exact q)))
theorem r_icmp_eq {mi : MI} {d : Nat} {X : CX} {pc : Nat} {L : List (Nat × Option Value)} {st : List Value} {M : Mm} {x : Int32} {b : Nat} {off : Int} (tgt : Nat) (hb : b < 2 ^ 31) (hd : decode mi.2.1 pc = .ok (.if_icmp .eq off, 3)) (ht : (pc : Int) + off = (tgt : Int)) (k1 : x.toInt = (b : Int) → AW mi d X tgt L st M) (k2 : ¬ x.toInt = (b : Int) → AW mi d X (pc + 3) L st M) : AW mi d X pc L (.int (nI b) :: .int x :: st) M :=
  a_icmp_eq tgt hd ht (fun h => k1 (by rw [i32_eq_toInt, nI_toInt hb] at h; exact h)) (fun h => k2 (fun q => h (by rw [i32_eq_toInt, nI_toInt hb]; exact q)))
theorem r_icmp_ne {mi : MI} {d : Nat} {X : CX} {pc : Nat} {L : List (Nat × Option Value)} {st : List Value} {M : Mm} {x : Int32} {b : Nat} {off : Int} (tgt : Nat) (hb : b < 2 ^ 31) (hd : decode mi.2.1 pc = .ok (.if_icmp .ne off, 3)) (ht : (pc : Int) + off = (tgt : Int)) (k1 : ¬ x.toInt = (b : Int) → AW mi d X tgt L st M) (k2 : x.toInt = (b : Int) → AW mi d X (pc + 3) L st M) : AW mi d X pc L (.int (nI b) :: .int x :: st) M :=
  a_icmp_ne tgt hd ht (fun h => k1 (fun q => h (by rw [i32_eq_toInt, nI_toInt hb]; exact q))) (fun h => k2 (by rw [i32_eq_toInt, nI_toInt hb] at h; exact h))
theorem s_icmp_lt {mi : MI} {d : Nat} {X : CX} {pc : Nat} {L : List (Nat × Option Value)} {st : List Value} {M : Mm} {x : Int32} {b : Nat} {off : Int} (tgt : Nat) (hb : b < 2 ^ 31) (hd : decode mi.2.1 pc = .ok (.if_icmp .lt off, 3)) (ht : (pc : Int) + off = (tgt : Int)) (k1 : (b : Int) < x.toInt → AW mi d X tgt L st M) (k2 : ¬ (b : Int) < x.toInt → AW mi d X (pc + 3) L st M) : AW mi d X pc L (.int x :: .int (nI b) :: st) M :=
  a_icmp_lt tgt hd ht (fun h => k1 (by rw [Int32.lt_iff_toInt_lt, nI_toInt hb] at h; exact h)) (fun h => k2 (fun q => h (by rw [Int32.lt_iff_toInt_lt, nI_toInt hb]; exact q)))
theorem s_icmp_ge {mi : MI} {d : Nat} {X : CX} {pc : Nat} {L : List (Nat × Option Value)} {st : List Value} {M : Mm} {x : Int32} {b : Nat} {off : Int} (tgt : Nat) (hb : b < 2 ^ 31) (hd : decode mi.2.1 pc = .ok (.if_icmp .ge off, 3)) (ht : (pc : Int) + off = (tgt : Int)) (k1 : x.toInt ≤ (b : Int) → AW mi d X tgt L st M) (k2 : ¬ x.toInt ≤ (b : Int) → AW mi d X (pc + 3) L st M) : AW mi d X pc L (.int x :: .int (nI b) :: st) M :=
  a_icmp_ge tgt hd ht (fun h => k1 (by rw [Int32.le_iff_toInt_le, nI_toInt hb] at h; exact h)) (fun h => k2 (fun q => h (by rw [Int32.le_iff_toInt_le, nI_toInt hb]; exact q)))
theorem s_icmp_gt {mi : MI} {d : Nat} {X : CX} {pc : Nat} {L : List (Nat × Option Value)} {st : List Value} {M : Mm} {x : Int32} {b : Nat} {off : Int} (tgt : Nat) (hb : b < 2 ^ 31) (hd : decode mi.2.1 pc = .ok (.if_icmp .gt off, 3)) (ht : (pc : Int) + off = (tgt : Int)) (k1 : x.toInt < (b : Int) → AW mi d X tgt L st M) (k2 : ¬ x.toInt < (b : Int) → AW mi d X (pc + 3) L st M) : AW mi d X pc L (.int x :: .int (nI b) :: st) M :=
  a_icmp_gt tgt hd ht (fun h => k1 (by rw [Int32.lt_iff_toInt_lt, nI_toInt hb] at h; exact h)) (fun h => k2 (fun q => h (by rw [Int32.lt_iff_toInt_lt, nI_toInt hb]; exact q)))
theorem s_icmp_le {mi : MI} {d : Nat} {X : CX} {pc : Nat} {L : List (Nat × Option Value)} {st : List Value} {M : Mm} {x : Int32} {b : Nat} {off : Int} (tgt : Nat) (hb : b < 2 ^ 31) (hd : decode mi.2.1 pc = .ok (.if_icmp .le off, 3)) (ht : (pc : Int) + off = (tgt : Int)) (k1 : (b : Int) ≤ x.toInt → AW mi d X tgt L st M) (k2 : ¬ (b : Int) ≤ x.toInt → AW mi d X (pc + 3) L st M) : AW mi d X pc L (.int x :: .int (nI b) :: st) M :=
  a_icmp_le tgt hd ht (fun h => k1 (by rw [Int32.le_iff_toInt_le, nI_toInt hb] at h; exact h)) (fun h => k2 (fun q => h (by rw [Int32.le_iff_toInt_le, nI_toInt hb]; exact q)))
theorem s_icmp_eq {mi : MI} {d : Nat} {X : CX} {pc : Nat} {L : List (Nat × Option Value)} {st : List Value} {M : Mm} {x : Int32} {b : Nat} {off : Int} (tgt : Nat) (hb : b < 2 ^ 31) (hd : decode mi.2.1 pc = .ok (.if_icmp .eq off, 3)) (ht : (pc : Int) + off = (tgt : Int)) (k1 : (b : Int) = x.toInt → AW mi d X tgt L st M) (k2 : ¬ (b : Int) = x.toInt → AW mi d X (pc + 3) L st M) : AW mi d X pc L (.int x :: .int (nI b) :: st) M :=
  a_icmp_eq tgt hd ht (fun h => k1 (by rw [i32_eq_toInt, nI_toInt hb] at h; exact h)) (fun h => k2 (fun q => h (by rw [i32_eq_toInt, nI_toInt hb]; exact q)))
theorem s_icmp_ne {mi : MI} {d : Nat} {X : CX} {pc : Nat} {L : List (Nat × Option Value)} {st : List Value} {M : Mm} {x : Int32} {b : Nat} {off : Int} (tgt : Nat) (hb : b < 2 ^ 31) (hd : decode mi.2.1 pc = .ok (.if_icmp .ne off, 3)) (ht : (pc : Int) + off = (tgt : Int)) (k1 : ¬ (b : Int) = x.toInt → AW mi d X tgt L st M) (k2 : (b : Int) = x.toInt → AW mi d X (pc + 3) L st M) : AW mi d X pc L (.int x :: .int (nI b) :: st) M :=
  a_icmp_ne tgt hd ht (fun h => k1 (fun q => h (by rw [i32_eq_toInt, nI_toInt hb]; exact q))) (fun h => k2 (by rw [i32_eq_toInt, nI_toInt hb] at h; exact h))
theorem u_icmp_lt {mi : MI} {d : Nat} {X : CX} {pc : Nat} {L : List (Nat × Option Value)} {st : List Value} {M : Mm} {x y : Int32} {off : Int} (tgt : Nat) (hd : decode mi.2.1 pc = .ok (.if_icmp .lt off, 3)) (ht : (pc : Int) + off = (tgt : Int)) (k1 : x.toInt < y.toInt → AW mi d X tgt L st M) (k2 : ¬ x.toInt < y.toInt → AW mi d X (pc + 3) L st M) : AW mi d X pc L (.int y :: .int x :: st) M :=
  a_icmp_lt tgt hd ht (fun h => k1 (by rw [Int32.lt_iff_toInt_lt] at h; exact h)) (fun h => k2 (fun q => h (by rw [Int32.lt_iff_toInt_lt]; exact q)))
theorem u_icmp_ge {mi : MI} {d : Nat} {X : CX} {pc : Nat} {L : List (Nat × Option Value)} {st : List Value} {M : Mm} {x y : Int32} {off : Int} (tgt : Nat) (hd : decode mi.2.1 pc = .ok (.if_icmp .ge off, 3)) (ht : (pc : Int) + off = (tgt : Int)) (k1 : y.toInt ≤ x.toInt → AW mi d X tgt L st M) (k2 : ¬ y.toInt ≤ x.toInt → AW mi d X (pc + 3) L st M) : AW mi d X pc L (.int y :: .int x :: st) M :=
  a_icmp_ge tgt hd ht (fun h => k1 (by rw [Int32.le_iff_toInt_le] at h; exact h)) (fun h => k2 (fun q => h (by rw [Int32.le_iff_toInt_le]; exact q)))
theorem u_icmp_gt {mi : MI} {d : Nat} {X : CX} {pc : Nat} {L : List (Nat × Option Value)} {st : List Value} {M : Mm} {x y : Int32} {off : Int} (tgt : Nat) (hd : decode mi.2.1 pc = .ok (.if_icmp .gt off, 3)) (ht : (pc : Int) + off = (tgt : Int)) (k1 : y.toInt < x.toInt → AW mi d X tgt L st M) (k2 : ¬ y.toInt < x.toInt → AW mi d X (pc + 3) L st M) : AW mi d X pc L (.int y :: .int x :: st) M :=
  a_icmp_gt tgt hd ht (fun h => k1 (by rw [Int32.lt_iff_toInt_lt] at h; exact h)) (fun h => k2 (fun q => h (by rw [Int32.lt_iff_toInt_lt]; exact q)))
theorem u_icmp_le {mi : MI} {d : Nat} {X : CX} {pc : Nat} {L : List (Nat × Option Value)} {st : List Value} {M : Mm} {x y : Int32} {off : Int} (tgt : Nat) (hd : decode mi.2.1 pc = .ok (.if_icmp .le off, 3)) (ht : (pc : Int) + off = (tgt : Int)) (k1 : x.toInt ≤ y.toInt → AW mi d X tgt L st M) (k2 : ¬ x.toInt ≤ y.toInt → AW mi d X (pc + 3) L st M) : AW mi d X pc L (.int y :: .int x :: st) M :=
  a_icmp_le tgt hd ht (fun h => k1 (by rw [Int32.le_iff_toInt_le] at h; exact h)) (fun h => k2 (fun q => h (by rw [Int32.le_iff_toInt_le]; exact q)))
theorem u_icmp_eq {mi : MI} {d : Nat} {X : CX} {pc : Nat} {L : List (Nat × Option Value)} {st : List Value} {M : Mm} {x y : Int32} {off : Int} (tgt : Nat) (hd : decode mi.2.1 pc = .ok (.if_icmp .eq off, 3)) (ht : (pc : Int) + off = (tgt : Int)) (k1 : x.toInt = y.toInt → AW mi d X tgt L st M) (k2 : ¬ x.toInt = y.toInt → AW mi d X (pc + 3) L st M) : AW mi d X pc L (.int y :: .int x :: st) M :=
  a_icmp_eq tgt hd ht (fun h => k1 (by rw [i32_eq_toInt] at h; exact h)) (fun h => k2 (fun q => h (by rw [i32_eq_toInt]; exact q)))
theorem u_icmp_ne {mi : MI} {d : Nat} {X : CX} {pc : Nat} {L : List (Nat × Option Value)} {st : List Value} {M : Mm} {x y : Int32} {off : Int} (tgt : Nat) (hd : decode mi.2.1 pc = .ok (.if_icmp .ne off, 3)) (ht : (pc : Int) + off = (tgt : Int)) (k1 : ¬ x.toInt = y.toInt → AW mi d X tgt L st M) (k2 : x.toInt = y.toInt → AW mi d X (pc + 3) L st M) : AW mi d X pc L (.int y :: .int x :: st) M :=
  a_icmp_ne tgt hd ht (fun h => k1 (fun q => h (by rw [i32_eq_toInt]; exact q))) (fun h => k2 (by rw [i32_eq_toInt] at h; exact h))
theorem r_if_lt {mi : MI} {d : Nat} {X : CX} {pc : Nat} {L : List (Nat × Option Value)} {st : List Value} {M : Mm} {x : Int32} {off : Int} (tgt : Nat) (hd : decode mi.2.1 pc = .ok (.ifCond .lt off, 3)) (ht : (pc : Int) + off = (tgt : Int)) (k1 : x.toInt < 0 → AW mi d X tgt L st M) (k2 : ¬ x.toInt < 0 → AW mi d X (pc + 3) L st M) : AW mi d X pc L (.int x :: st) M :=
  a_if_lt tgt hd ht (fun h => k1 (by rw [Int32.lt_iff_toInt_lt] at h; exact h)) (fun h => k2 (fun q => h (by rw [Int32.lt_iff_toInt_lt]; exact q)))
theorem r_if_ge {mi : MI} {d : Nat} {X : CX} {pc : Nat} {L : List (Nat × Option Value)} {st : List Value} {M : Mm} {x : Int32} {off : Int} (tgt : Nat) (hd : decode mi.2.1 pc = .ok (.ifCond .ge off, 3)) (ht : (pc : Int) + off = (tgt : Int)) (k1 : 0 ≤ x.toInt → AW mi d X tgt L st M) (k2 : ¬ 0 ≤ x.toInt → AW mi d X (pc + 3) L st M) : AW mi d X pc L (.int x :: st) M :=
  a_if_ge tgt hd ht (fun h => k1 (by rw [Int32.le_iff_toInt_le] at h; exact h)) (fun h => k2 (fun q => h (by rw [Int32.le_iff_toInt_le]; exact q)))
theorem r_if_gt {mi : MI} {d : Nat} {X : CX} {pc : Nat} {L : List (Nat × Option Value)} {st : List Value} {M : Mm} {x : Int32} {off : Int} (tgt : Nat) (hd : decode mi.2.1 pc = .ok (.ifCond .gt off, 3)) (ht : (pc : Int) + off = (tgt : Int)) (k1 : 0 < x.toInt → AW mi d X tgt L st M) (k2 : ¬ 0 < x.toInt → AW mi d X (pc + 3) L st M) : AW mi d X pc L (.int x :: st) M :=
  a_if_gt tgt hd ht (fun h => k1 (by rw [Int32.lt_iff_toInt_lt] at h; exact h)) (fun h => k2 (fun q => h (by rw [Int32.lt_iff_toInt_lt]; exact q)))
theorem r_if_le {mi : MI} {d : Nat} {X : CX} {pc : Nat} {L : List (Nat × Option Value)} {st : List Value} {M : Mm} {x : Int32} {off : Int} (tgt : Nat) (hd : decode mi.2.1 pc = .ok (.ifCond .le off, 3)) (ht : (pc : Int) + off = (tgt : Int)) (k1 : x.toInt ≤ 0 → AW mi d X tgt L st M) (k2 : ¬ x.toInt ≤ 0 → AW mi d X (pc + 3) L st M) : AW mi d X pc L (.int x :: st) M :=
  a_if_le tgt hd ht (fun h => k1 (by rw [Int32.le_iff_toInt_le] at h; exact h)) (fun h => k2 (fun q => h (by rw [Int32.le_iff_toInt_le]; exact q)))
theorem r_if_eq {mi : MI} {d : Nat} {X : CX} {pc : Nat} {L : List (Nat × Option Value)} {st : List Value} {M : Mm} {x : Int32} {off : Int} (tgt : Nat) (hd : decode mi.2.1 pc = .ok (.ifCond .eq off, 3)) (ht : (pc : Int) + off = (tgt : Int)) (k1 : x.toInt = 0 → AW mi d X tgt L st M) (k2 : ¬ x.toInt = 0 → AW mi d X (pc + 3) L st M) : AW mi d X pc L (.int x :: st) M :=
  a_if_eq tgt hd ht (fun h => k1 (by rw [i32_eq_toInt] at h; exact h)) (fun h => k2 (fun q => h (by rw [i32_eq_toInt]; exact q)))
theorem r_if_ne {mi : MI} {d : Nat} {X : CX} {pc : Nat} {L : List (Nat × Option Value)} {st : List Value} {M : Mm} {x : Int32} {off : Int} (tgt : Nat) (hd : decode mi.2.1 pc = .ok (.ifCond .ne off, 3)) (ht : (pc : Int) + off = (tgt : Int)) (k1 : ¬ x.toInt = 0 → AW mi d X tgt L st M) (k2 : x.toInt = 0 → AW mi d X (pc + 3) L st M) : AW mi d X pc L (.int x :: st) M :=
  a_if_ne tgt hd ht (fun h => k1 (fun q => h (by rw [i32_eq_toInt]; exact q))) (fun h => k2 (by rw [i32_eq_toInt] at h; exact h))

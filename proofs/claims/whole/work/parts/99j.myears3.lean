theorem tk_ln {D : Nat → Nat} {n i : Nat} (h : (tkN D n i).1 ≠ 0) : i < n := by
  have key : ∀ k j, j + k = i → (tkN D n j).1 ≠ 0 := by
    intro k
    induction k with
    | zero => intro j hj; rw [show j = i by omega]; exact h
    | succ k ih => intro j hj e; exact ih (j + 1) (by omega) (tk_end2 e)
  have h1 := po_i (D := D) (n := n) i (fun j hj => key (i - j) j (by omega))
  have h2 := po_gt h
  have h3 := po_le (D := D) (n := n) (i + 1)
  omega
def yst (M : Mm) (s : Nat → Nat) (c0 : Nat) : Prop := M.1 137 c0 = nI (vkN (s 0)) ∧ (s 0 = 13 ∨ s 0 = 14 ∨ s 0 = 22 → M.1 137 (c0 + 1) = nI (s 2)) ∧ (s 0 = 15 ∨ s 0 = 16 ∨ s 0 = 18 → M.1 137 (c0 + 1) = nI (s 1)) ∧ (s 0 = 15 ∨ s 0 = 16 → M.1 137 (c0 + 2) = nI (s 2)) ∧ (s 0 = 18 → M.1 137 (c0 + 5) = nI (s 3 - 19) ∧ (s 3 = 21 → M.1 137 (c0 + 6) = nI (s 2) ∧ M.1 137 (c0 + 7) = nI (s 4)))
theorem yst_e {M M' : Mm} {s s' : Nat → Nat} {c : Nat} (h : yst M s c) (hs : ∀ j, j < 5 → s' j = s j) (he : ∀ j, j < 8 → M'.1 137 (c + j) = M.1 137 (c + j)) : yst M' s' c := by
  unfold yst at h ⊢
  rw [hs 0 (by omega), hs 1 (by omega), hs 2 (by omega), hs 3 (by omega), hs 4 (by omega)]
  obtain ⟨h0, h1, h2, h3, h4⟩ := h
  exact ⟨(he 0 (by omega)).trans h0, fun q => (he 1 (by omega)).trans (h1 q), fun q => (he 1 (by omega)).trans (h2 q), fun q => (he 2 (by omega)).trans (h3 q), fun q => ⟨(he 5 (by omega)).trans (h4 q).1, fun z => ⟨(he 6 (by omega)).trans ((h4 q).2 z).1, (he 7 (by omega)).trans ((h4 q).2 z).2⟩⟩⟩
def YZM (M : Mm) (L : Nat) (s : Nat → Nat → Nat) (D : Nat) (O : Nat → Nat) : Prop := M.1 132 25 = nI (scN s L) ∧ ∀ i, i < L → s i 0 ≠ 23 → yst M (s i) (1540 + 9 * scN s i) ∧ ((∀ j, j < D → O j ≠ i) → M.1 137 (1540 + 9 * scN s i + 8) = nI (if yOp (s i 0) then scN s (s i 5) else scN s (i + 1)))
def MYS (M : Mm) (D : Nat → Nat) (n : Nat) (S : ST) (N : NM) (R : YS) (k : Nat) (x : YS) : Prop := MU M D n x.1 ∧ (x.1.2.1 = 0 → YZM M x.2.1.1 x.2.1.2 x.2.2.1 x.2.2.2 ∧ wfS S x.2.1.1 x.2.1.2 x.2.2.1 x.2.2.2 ∧ k ≤ x.1.1 ∧ x.1.1 ≤ n) ∧ finY (tkN D n) (lpY (tkN D n) S N (300 - k) x) = R
def yext (x y : YS) : Prop := x.2.1.1 ≤ y.2.1.1 ∧ (∀ i, i < x.2.1.1 → y.2.1.2 i = x.2.1.2 i) ∧ ∀ j, j < x.2.2.1 → y.2.2.2 j = x.2.2.2 j
theorem yext_r (x : YS) : yext x x := ⟨Nat.le_refl _, fun _ _ => rfl, fun _ _ => rfl⟩
theorem yext_t {x y z : YS} (h : yext x y) (g : yext y z) (hd : x.2.2.1 ≤ y.2.2.1) : yext x z := ⟨Nat.le_trans h.1 g.1, fun i hi => (g.2.1 i (Nat.lt_of_lt_of_le hi h.1)).trans (h.2.1 i hi), fun j hj => (g.2.2 j (Nat.lt_of_lt_of_le hj hd)).trans (h.2.2 j hj)⟩
/-- a part that cannot begin -/
theorem my_bad {M M' : Mm} {D : Nat → Nat} {n : Nat} {S : ST} {N : NM} {R : YS} {k w : Nat} {x : YS} (h3 : n ≤ 300) (h : MYS M D n S N R k x) (h0 : x.1.2.1 = 0) (hw : 0 < w) (hb : (kd (tkN D n) x.1 ≠ 0 ∧ (ybG (tkN D n) (yv (tkN D n) x.1) (scN x.2.1.2 x.2.1.1) x.2.2.1 x.1) = spC (tkN D n) (flC (tkN D n) w x.1)) ∨ (kd (tkN D n) x.1 = 0 ∧ 0 < x.2.2.1 ∧ w = 2)) (hU : MU M' D n (flC (tkN D n) w x.1)) : MYS M' D n S N R (k + 1) (flC (tkN D n) w x.1, x.2) := by
  obtain ⟨h1, h2, h4⟩ := h
  have hz : ¬ (flC (tkN D n) w x.1).2.1 = 0 := fl_z hw
  refine ⟨hU, fun q => absurd q hz, ?_⟩
  rcases hb with ⟨hk, hb⟩ | ⟨hk, hd, e⟩
  · have hpos := tk_ln hk
    have hk9 := (h2 h0).2.2.1
    rw [show 300 - k = (300 - (k + 1)) + 1 by omega, lpY_s h0 hk] at h4
    rw [sp_n hz] at hb
    have e : ysT (tkN D n) S N x = (flC (tkN D n) w x.1, x.2) := by
      unfold ysT
      rw [hb, if_neg hz, end_f hz]
    rw [e] at h4
    exact h4
  · subst e
    rw [lpY_e (fun q => q.2 hk)] at h4
    rw [lpY_e (fun q => hz q.1)]
    rw [← h4]
    unfold finY
    rw [if_pos hd, if_pos (show 0 < ((flC (tkN D n) 2 x.1, x.2) : YS).2.2.1 from hd)]
    show ((flC (tkN D n) 2 (flC (tkN D n) 2 x.1), x.2) : YS) = _
    rw [fl_n hz]
theorem dp_O {v L D : Nat} {O : Nat → Nat} (h23 : v ≠ 23) : (∀ j, j < D → (yDp v L D O).2 j = O j) ∧ D ≤ (yDp v L D O).1 ∧ (yDp v L D O).1 = (if yOp v then D + 1 else D) ∧ (yOp v → (yDp v L D O).2 D = L) := by
  unfold yDp
  by_cases e : yOp v
  · rw [if_pos e, if_pos e]; exact ⟨fun j hj => if_neg (by omega), Nat.le_succ _, rfl, fun _ => if_pos rfl⟩
  · rw [if_neg e, if_neg h23, if_neg e]; exact ⟨fun j hj => rfl, Nat.le_refl _, rfl, fun q => absurd q e⟩
/-- the items of a text with one more -/
theorem my_add {M M3 : Mm} {S : ST} {L D v a b t q : Nat} {s : Nat → Nat → Nat} {O O' : Nat → Nat} {D' : Nat} (hZ : YZM M L s D O) (hw : wfS S L s D O) (hv : v ≠ 23) (hO : ∀ j, j < D → O' j = O j) (hD : D ≤ D') (hop : yOp v → ∃ j, j < D' ∧ O' j = L) (hold : ∀ j, 1540 ≤ j → j < 1540 + 9 * scN s L → M3.1 137 j = M.1 137 j) (h25 : M3.1 132 25 = nI (scN s L + 1)) (hst : yst M3 (itA L s v a b t q L) (1540 + 9 * scN s L)) (h8 : ¬ yOp v → M3.1 137 (1540 + 9 * scN s L + 8) = nI (scN s L + 1)) : YZM M3 (L + 1) (itA L s v a b t q) D' O' := by
  have e1 := it_n (L := L) (v := v) (a := a) (b := b) (t := t) (q := q) (s := s)
  have z := it_0 (L := L) (v := v) (a := a) (b := b) (t := t) (q := q) (s := s)
  have hA := sc_A (L := L) (v := v) (a := a) (b := b) (t := t) (q := q) (s := s) hv
  generalize itA L s v a b t q = s' at e1 z hst hA ⊢
  have hsc : ∀ i, i ≤ L → scN s' i = scN s i := fun i hi => sc_e (fun j hj => by rw [e1 j (by omega)])
  refine ⟨h25.trans (congrArg nI hA.symm), fun i hi h23 => ?_⟩
  rcases Nat.lt_or_ge i L with w | w
  · rw [e1 i w] at h23 ⊢
    rw [hsc i (by omega)]
    have hl := scN_lt w h23
    have y := hZ.2 i w h23
    refine ⟨yst_e y.1 (fun _ _ => rfl) (fun j hj => hold _ (by omega) (by omega)), fun hn => ?_⟩
    have hn2 : ∀ j, j < D → O j ≠ i := fun j hj => by rw [← hO j hj]; exact hn j (Nat.lt_of_lt_of_le hj hD)
    rw [hold _ (by omega) (by omega), y.2 hn2]
    by_cases ho : yOp (s i 0)
    · rw [if_pos ho, if_pos ho]
      rcases hw.2.2.2.1 i w ho with ⟨j, hj, hz⟩ | c
      · exact absurd hz (hn2 j hj)
      · rw [hsc _ (Nat.le_of_lt c.1.2.1)]
    · rw [if_neg ho, if_neg ho, hsc (i + 1) (by omega)]
  · rw [show i = L by omega, hsc L (Nat.le_refl _)]
    refine ⟨hst, fun hn => ?_⟩
    rw [z.1]
    by_cases ho : yOp v
    · obtain ⟨j, hj, hz⟩ := hop ho
      exact absurd hz (by have e : i = L := by omega
                          subst e; exact hn j hj)
    · rw [if_neg ho, hA]; exact h8 ho
theorem my_end {M M3 : Mm} {S : ST} {L D : Nat} {s : Nat → Nat → Nat} {O : Nat → Nat} (hZ : YZM M L s D O) (hw : wfS S L s D O) (hD : 0 < D) (hold : ∀ j, 1540 ≤ j → j ≠ 1540 + 9 * scN s (O (D - 1)) + 8 → M3.1 137 j = M.1 137 j) (h25 : M3.1 132 25 = M.1 132 25) (h8 : M3.1 137 (1540 + 9 * scN s (O (D - 1)) + 8) = M.1 132 25) : YZM M3 (L + 1) (itE L s (O (D - 1))) (D - 1) O := by
  have cp := hw.2.2.1 (D - 1) (by omega)
  generalize hp : O (D - 1) = p at *
  have eo : ∀ i j, i < L → ¬ (i = p ∧ j = 5) → itE L s p i j = s i j := fun i j hi hj => (if_neg (by omega)).trans (if_neg hj)
  have e0 : ∀ i, i < L → itE L s p i 0 = s i 0 := fun i hi => eo i 0 hi (by omega)
  have eL : itE L s p L 0 = 23 := (if_pos rfl).trans (if_pos rfl)
  have ep : itE L s p p 5 = L := (if_neg (by omega)).trans (if_pos ⟨rfl, rfl⟩)
  have hE := sc_E (L := L) (p := p) (s := s)
  generalize itE L s p = s' at *
  have hsc : ∀ i, i ≤ L → scN s' i = scN s i := fun i hi => sc_e (fun j hj => e0 j (by omega))
  refine ⟨(h25.trans hZ.1).trans (congrArg nI hE.symm), fun i hi h23 => ?_⟩
  have w : i < L := by
    rcases Nat.lt_or_ge i L with w | w
    · exact w
    · rw [show i = L by omega] at h23; exact absurd eL h23
  rw [e0 i w] at h23
  rw [hsc i (by omega), e0 i w]
  have y := hZ.2 i w h23
  have hpl := scN_lt cp.1 (show s p 0 ≠ 23 by have := cp.2.1; omega)
  have hne : ∀ j, j < 8 → 1540 + 9 * scN s i + j ≠ 1540 + 9 * scN s p + 8 := fun j hj => by omega
  refine ⟨yst_e y.1 (fun j hj => eo i j w (by omega)) (fun j hj => hold _ (by omega) (hne j hj)), fun hn => ?_⟩
  by_cases hip : i = p
  · subst hip
    rw [h8, hZ.1, if_pos cp.2.1, ep, hsc L (Nat.le_refl _)]
  · have hn2 : ∀ j, j < D → O j ≠ i := fun j hj => by
      by_cases hjd : j = D - 1
      · rw [hjd, hp]; exact fun q => hip q.symm
      · exact hn j (by omega)
    have hdf : scN s i ≠ scN s p := fun q => by
      rcases Nat.lt_or_ge i p with g | g
      · have := scN_lt g h23; omega
      · have := scN_lt (show p < i by omega) (show s p 0 ≠ 23 by have := cp.2.1; omega); omega
    rw [hold _ (by omega) (by omega), y.2 hn2, eo i 5 w (by omega)]
    by_cases ho : yOp (s i 0)
    · rw [if_pos ho, if_pos ho]
      rcases hw.2.2.2.1 i w ho with ⟨j, hj, hz⟩ | c
      · exact absurd hz (hn2 j hj)
      · rw [hsc _ (Nat.le_of_lt c.1.2.1)]
    · rw [if_neg ho, if_neg ho, hsc (i + 1) (by omega)]
/-- a good part: the walk of the flat text goes on -/
theorem my_fl {M : Mm} {D : Nat → Nat} {n : Nat} {S : ST} {N : NM} {R : YS} {k : Nat} {x : YS} (hn9 : n ≤ 900) (h3 : n ≤ 300) (h : MYS M D n S N R k x) (h0 : x.1.2.1 = 0) (hk : kd (tkN D n) x.1 ≠ 0) : finY (tkN D n) (lpY (tkN D n) S N (300 - (k + 1)) (ysT (tkN D n) S N x)) = R ∧ ((ysT (tkN D n) S N x).1.2.1 = 0 → wfS S (ysT (tkN D n) S N x).2.1.1 (ysT (tkN D n) S N x).2.1.2 (ysT (tkN D n) S N x).2.2.1 (ysT (tkN D n) S N x).2.2.2 ∧ k + 1 ≤ (ysT (tkN D n) S N x).1.1 ∧ (ysT (tkN D n) S N x).1.1 ≤ n) := by
  obtain ⟨h1, h2, h4⟩ := h
  have hpos := tk_ln hk
  have hk9 := (h2 h0).2.2.1
  refine ⟨by rw [show 300 - k = (300 - (k + 1)) + 1 by omega, lpY_s h0 hk] at h4; exact h4, fun q => ?_⟩
  have w := ys_wf (tkN_G hn9) q (h2 h0).2.1
  refine ⟨w.1, by omega, ?_⟩
  have y := ys_0 q
  have g : (endC (tkN D n) (yC (tkN D n) S N (yv (tkN D n) x.1) (ybG (tkN D n) (yv (tkN D n) x.1) (scN x.2.1.2 x.2.1.1) x.2.2.1 x.1))).2.1 = 0 := by rw [y.2.2] at q; exact q
  have z := end_0 g
  rw [y.2.2]
  show (endC (tkN D n) (yC (tkN D n) S N (yv (tkN D n) x.1) (ybG (tkN D n) (yv (tkN D n) x.1) (scN x.2.1.2 x.2.1.1) x.2.2.1 x.1))).1 ≤ n
  rw [z.2.2.2, show spC (tkN D n) (yC (tkN D n) S N (yv (tkN D n) x.1) (ybG (tkN D n) (yv (tkN D n) x.1) (scN x.2.1.2 x.2.1.1) x.2.2.1 x.1)) = ((yC (tkN D n) S N (yv (tkN D n) x.1) (ybG (tkN D n) (yv (tkN D n) x.1) (scN x.2.1.2 x.2.1.1) x.2.2.1 x.1)).1 + 1, (yC (tkN D n) S N (yv (tkN D n) x.1) (ybG (tkN D n) (yv (tkN D n) x.1) (scN x.2.1.2 x.2.1.1) x.2.2.1 x.1)).2) from if_pos ⟨z.1, by omega⟩]
  exact tk_ln (show (tkN D n (yC (tkN D n) S N (yv (tkN D n) x.1) (ybG (tkN D n) (yv (tkN D n) x.1) (scN x.2.1.2 x.2.1.1) x.2.2.1 x.1)).1).1 ≠ 0 by have := z.2.1; unfold kd at this; omega)

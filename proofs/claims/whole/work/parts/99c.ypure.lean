/-- in the midst of YEARS' text: place, items, open blocks -/
abbrev YS : Type := CC × (Nat × (Nat → Nat → Nat)) × (Nat × (Nat → Nat))
def yv (tk : Nat → TK) (c : CC) : Nat := if kd tk c = 1 then cd tk c else 99
abbrev yStp (v : Nat) : Prop := (13 ≤ v ∧ v ≤ 18) ∨ v = 22 ∨ v = 24
abbrev yOp (v : Nat) : Prop := v = 18 ∨ v = 22
abbrev yMay (v D : Nat) : Prop := (v = 23 ∧ 0 < D) ∨ yStp v
def ybG (tk : Nat → TK) (v n D : Nat) (c : CC) : CC := spC tk (if ¬ yMay v D then flC tk 2 c else if yStp v ∧ 30 ≤ n then flC tk 6 c else if yOp v ∧ 3 ≤ D then flC tk 7 c else c)
def yM (tk : Nat → TK) (S : ST) (N : NM) (c : CC) : CC := spC tk (refC tk (nmM tk S N c) c)
def ySi (tk : Nat → TK) (S : ST) (N : NM) (c : CC) : CC := spC tk (refC tk (nmS tk S N c) c)
def yTa (tk : Nat → TK) (c : CC) : CC := spC tk (if yv tk c = 19 ∨ yv tk c = 20 ∨ yv tk c = 21 then c else flC tk 2 c)
def yTb (tk : Nat → TK) (S : ST) (N : NM) (c : CC) : CC := if yv tk c = 20 then yM tk S N (yTa tk c) else ySi tk S N (yTa tk c)
def yTc (tk : Nat → TK) (S : ST) (N : NM) (c : CC) : CC := if yv tk c = 21 then numC tk 0 99 (cmpC tk (yTb tk S N c)) else yTb tk S N c
/-- behind a step's word -/
def yC (tk : Nat → TK) (S : ST) (N : NM) (v : Nat) (c : CC) : CC :=
  if v = 13 then numC tk 1 40 c else if v = 14 then numC tk 0 7 c else if v = 15 then numC tk 1 100 (yM tk S N c) else if v = 16 then yM tk S N (ySi tk S N c) else if v = 18 then yTc tk S N c else if v = 22 then numC tk 1 99 c else c
def yWho (tk : Nat → TK) (S : ST) (N : NM) (v : Nat) (c : CC) : Nat :=
  if v = 15 then (nmM tk S N c).getD 0 else if v = 16 then (nmS tk S N c).getD 0 else if v = 18 then (if yv tk c = 20 then (nmM tk S N (yTa tk c)).getD 0 else (nmS tk S N (yTa tk c)).getD 0) else 0
def yNum (tk : Nat → TK) (S : ST) (N : NM) (v : Nat) (c : CC) : Nat :=
  if v = 13 ∨ v = 14 ∨ v = 22 then cd tk c else if v = 15 then cd tk (yM tk S N c) else if v = 16 then (nmM tk S N (ySi tk S N c)).getD 0 else if v = 18 then (if yv tk c = 21 then cd tk (cmpC tk (yTb tk S N c)) else 0) else 0
def yTst (tk : Nat → TK) (v : Nat) (c : CC) : Nat := if v = 18 then yv tk c else 0
def yCmp (tk : Nat → TK) (S : ST) (N : NM) (v : Nat) (c : CC) : Nat := if v = 18 ∧ yv tk c = 21 then cd tk (yTb tk S N c) else 0
def itA (L : Nat) (s : Nat → Nat → Nat) (v a b t q : Nat) : Nat → Nat → Nat := fun i j => if i = L then (if j = 0 then v else if j = 1 then a else if j = 2 then b else if j = 3 then t else if j = 4 then q else L) else s i j
def itE (L : Nat) (s : Nat → Nat → Nat) (p : Nat) : Nat → Nat → Nat := fun i j => if i = L then (if j = 0 then 23 else if j = 5 then p else 0) else if i = p ∧ j = 5 then L else s i j
def yIt (tk : Nat → TK) (S : ST) (N : NM) (v : Nat) (c : CC) (L : Nat) (s : Nat → Nat → Nat) (D : Nat) (O : Nat → Nat) : Nat → Nat → Nat :=
  if v = 23 then itE L s (O (D - 1)) else itA L s v (yWho tk S N v c) (yNum tk S N v c) (yTst tk v c) (yCmp tk S N v c)
def yDp (v L D : Nat) (O : Nat → Nat) : Nat × (Nat → Nat) := if yOp v then (D + 1, fun j => if j = D then L else O j) else if v = 23 then (D - 1, O) else (D, O)
/-- a part of the text -/
def ysT (tk : Nat → TK) (S : ST) (N : NM) (x : YS) : YS := if (ybG tk (yv tk x.1) (scN x.2.1.2 x.2.1.1) x.2.2.1 x.1).2.1 = 0 then
    (endC tk (yC tk S N (yv tk x.1) (ybG tk (yv tk x.1) (scN x.2.1.2 x.2.1.1) x.2.2.1 x.1)), (x.2.1.1 + 1, yIt tk S N (yv tk x.1) (ybG tk (yv tk x.1) (scN x.2.1.2 x.2.1.1) x.2.2.1 x.1) x.2.1.1 x.2.1.2 x.2.2.1 x.2.2.2), yDp (yv tk x.1) x.2.1.1 x.2.2.1 x.2.2.2)
  else (endC tk (ybG tk (yv tk x.1) (scN x.2.1.2 x.2.1.1) x.2.2.1 x.1), x.2)
def lpY (tk : Nat → TK) (S : ST) (N : NM) : Nat → YS → YS
  | 0, x => x
  | f + 1, x => if x.1.2.1 = 0 ∧ kd tk x.1 ≠ 0 then lpY tk S N f (ysT tk S N x) else x
def finY (tk : Nat → TK) (x : YS) : YS := if 0 < x.2.2.1 then (flC tk 2 x.1, x.2) else x
def y0 : YS := ((0, 0, 0), (0, fun _ _ => 0), (0, fun _ => 0))
theorem lpY_e {tk : Nat → TK} {S : ST} {N : NM} {f : Nat} {x : YS} (h : ¬ (x.1.2.1 = 0 ∧ kd tk x.1 ≠ 0)) : lpY tk S N f x = x := by
  cases f with
  | zero => rfl
  | succ f => exact if_neg h
theorem lpY_s {tk : Nat → TK} {S : ST} {N : NM} {f : Nat} {x : YS} (h0 : x.1.2.1 = 0) (hk : kd tk x.1 ≠ 0) : lpY tk S N (f + 1) x = lpY tk S N f (ysT tk S N x) := if_pos ⟨h0, hk⟩
theorem yb_0 {tk : Nat → TK} {v n D : Nat} {c : CC} (h : (ybG tk v n D c).2.1 = 0) : c.2.1 = 0 ∧ yMay v D ∧ (yStp v → n < 30) ∧ (yOp v → D < 3) ∧ ybG tk v n D c = spC tk c := by
  unfold ybG at h ⊢
  by_cases c1 : ¬ yMay v D
  · rw [if_pos c1] at h; exact absurd (sp_0 h) (fl_z (by omega))
  · rw [if_neg c1] at h ⊢
    by_cases c2 : yStp v ∧ 30 ≤ n
    · rw [if_pos c2] at h; exact absurd (sp_0 h) (fl_z (by omega))
    · rw [if_neg c2] at h ⊢
      by_cases c3 : yOp v ∧ 3 ≤ D
      · rw [if_pos c3] at h; exact absurd (sp_0 h) (fl_z (by omega))
      · rw [if_neg c3] at h ⊢
        exact ⟨sp_0 h, Decidable.not_not.mp c1, fun q => Nat.lt_of_not_le (fun z => c2 ⟨q, z⟩), fun q => Nat.lt_of_not_le (fun z => c3 ⟨q, z⟩), rfl⟩
theorem yM_0 {tk : Nat → TK} {S : ST} {N : NM} {c : CC} (h : (yM tk S N c).2.1 = 0) : c.2.1 = 0 ∧ kd tk c = 2 ∧ nmM tk S N c ≠ none ∧ yM tk S N c = spC tk c := by
  unfold yM at h ⊢
  have q := ref_0 (sp_0 h)
  rw [q.2.2.2]; exact ⟨q.1, q.2.1, q.2.2.1, rfl⟩
theorem yS_0 {tk : Nat → TK} {S : ST} {N : NM} {c : CC} (h : (ySi tk S N c).2.1 = 0) : c.2.1 = 0 ∧ kd tk c = 2 ∧ nmS tk S N c ≠ none ∧ ySi tk S N c = spC tk c := by
  unfold ySi at h ⊢
  have q := ref_0 (sp_0 h)
  rw [q.2.2.2]; exact ⟨q.1, q.2.1, q.2.2.1, rfl⟩
theorem yTa_0 {tk : Nat → TK} {c : CC} (h : (yTa tk c).2.1 = 0) : c.2.1 = 0 ∧ (yv tk c = 19 ∨ yv tk c = 20 ∨ yv tk c = 21) ∧ yTa tk c = spC tk c := by
  unfold yTa at h ⊢
  by_cases e : yv tk c = 19 ∨ yv tk c = 20 ∨ yv tk c = 21
  · rw [if_pos e] at h ⊢; exact ⟨sp_0 h, e, rfl⟩
  · rw [if_neg e] at h; exact absurd (sp_0 h) (fl_z (by omega))
/-- what a step's numbers keep to -/
def okI (S : ST) (s : Nat → Nat) : Prop := 13 ≤ s 0 ∧ s 0 ≤ 24 ∧ (s 0 ≤ 18 ∨ 22 ≤ s 0) ∧ (s 0 = 13 → 1 ≤ s 2 ∧ s 2 ≤ 40) ∧ (s 0 = 14 → s 2 ≤ 7) ∧ (s 0 = 15 → s 1 < S 0 2 ∧ 1 ≤ s 2 ∧ s 2 ≤ 100) ∧ (s 0 = 16 → s 1 < S 0 4 ∧ s 2 < S 0 2) ∧ (s 0 = 18 → 19 ≤ s 3 ∧ s 3 ≤ 21 ∧ (s 3 = 20 → s 1 < S 0 2) ∧ (s 3 ≠ 20 → s 1 < S 0 4) ∧ (s 3 = 21 → s 2 ≤ 99 ∧ (s 4 = 60 ∨ s 4 = 61 ∨ s 4 = 62))) ∧ (s 0 = 22 → 1 ≤ s 2 ∧ s 2 ≤ 99)
def cloI (s : Nat → Nat → Nat) (L i : Nat) : Prop := i < s i 5 ∧ s i 5 < L ∧ s (s i 5) 0 = 23 ∧ s (s i 5) 5 = i ∧ ∀ k, i < k → k < s i 5 → yOp (s k 0) → s k 5 < s i 5
def wfS (S : ST) (L : Nat) (s : Nat → Nat → Nat) (D : Nat) (O : Nat → Nat) : Prop := (L + D ≤ 2 * scN s L ∧ scN s L ≤ 30 ∧ D ≤ 3) ∧ (∀ i, i < L → okI S (s i)) ∧
  (∀ j, j < D → O j < L ∧ yOp (s (O j) 0) ∧ s (O j) 5 = O j ∧ ∀ k, j < k → k < D → O j < O k) ∧
  (∀ i, i < L → yOp (s i 0) → (∃ j, j < D ∧ O j = i) ∨ (cloI s L i ∧ ∀ j, j < D → O j < i ∨ s i 5 < O j)) ∧
  (∀ i, i < L → s i 0 = 23 → s i 5 < i ∧ yOp (s (s i 5) 0) ∧ s (s i 5) 5 = i)
theorem sc_e {s s' : Nat → Nat → Nat} {L : Nat} (h : ∀ i, i < L → s' i 0 = s i 0) : scN s' L = scN s L := by
  induction L with
  | zero => rfl
  | succ n ih => show (if s' n 0 = 23 then scN s' n else scN s' n + 1) = (if s n 0 = 23 then scN s n else scN s n + 1); rw [h n (by omega), ih (fun i hi => h i (by omega))]
theorem cl_e {s s' : Nat → Nat → Nat} {L L' i : Nat} (hi : i < L) (h : cloI s L i) (he : ∀ k, k < L → s' k = s k) (hL : L ≤ L') : cloI s' L' i := by
  obtain ⟨a, b, c, d, e⟩ := h
  unfold cloI
  rw [he i hi, he _ b]
  exact ⟨a, by omega, c, d, fun k h1 h2 h3 => by rw [he k (by omega)] at h3 ⊢; exact e k h1 h2 h3⟩
theorem wf_ad {S : ST} {L : Nat} {s s' : Nat → Nat → Nat} {D : Nat} {O : Nat → Nat} (h : wfS S L s D O) (he : ∀ i, i < L → s' i = s i) (hok : okI S (s' L)) (hv : s' L 0 ≠ 23) (hs : scN s L < 30) (hn : ¬ yOp (s' L 0)) : wfS S (L + 1) s' D O := by
  obtain ⟨⟨a1, a2, a3⟩, b, c, d, e⟩ := h
  have hsc : scN s' (L + 1) = scN s L + 1 := by
    show (if s' L 0 = 23 then scN s' L else scN s' L + 1) = _
    rw [if_neg hv, sc_e (fun i hi => by rw [he i hi])]
  refine ⟨⟨by omega, by omega, a3⟩, fun i hi => ?_, fun j hj => ?_, fun i hi ho => ?_, fun i hi h3 => ?_⟩
  · rcases Nat.lt_or_ge i L with q | q
    · rw [he i q]; exact b i q
    · rw [show i = L by omega]; exact hok
  · have z := c j hj
    rw [he _ z.1]; exact ⟨by omega, z.2⟩
  · rcases Nat.lt_or_ge i L with q | q
    · rw [he i q] at ho
      rcases d i q ho with z | z
      · exact Or.inl z
      · exact Or.inr ⟨cl_e q z.1 he (by omega), fun j hj => by rw [he i q]; exact z.2 j hj⟩
    · rw [show i = L by omega] at ho; exact absurd ho hn
  · rcases Nat.lt_or_ge i L with q | q
    · rw [he i q] at h3 ⊢
      have z := e i q h3
      rw [he _ (show s i 5 < L by omega)]; exact z
    · rw [show i = L by omega] at h3; exact absurd h3 hv
theorem wf_op {S : ST} {L : Nat} {s s' : Nat → Nat → Nat} {D : Nat} {O : Nat → Nat} (h : wfS S L s D O) (he : ∀ i, i < L → s' i = s i) (hok : okI S (s' L)) (hs : scN s L < 30) (hn : yOp (s' L 0)) (h5 : s' L 5 = L) (hD : D < 3) : wfS S (L + 1) s' (D + 1) (fun j => if j = D then L else O j) := by
  obtain ⟨⟨a1, a2, a3⟩, b, c, d, e⟩ := h
  have hv : s' L 0 ≠ 23 := by omega
  have hsc : scN s' (L + 1) = scN s L + 1 := by
    show (if s' L 0 = 23 then scN s' L else scN s' L + 1) = _
    rw [if_neg hv, sc_e (fun i hi => by rw [he i hi])]
  have hO : ∀ j, j < D → (if j = D then L else O j) = O j := fun j hj => if_neg (by omega)
  refine ⟨⟨by omega, by omega, by omega⟩, fun i hi => ?_, fun j hj => ?_, fun i hi ho => ?_, fun i hi h3 => ?_⟩
  · rcases Nat.lt_or_ge i L with q | q
    · rw [he i q]; exact b i q
    · rw [show i = L by omega]; exact hok
  · show (if j = D then L else O j) < L + 1 ∧ yOp (s' (if j = D then L else O j) 0) ∧ s' (if j = D then L else O j) 5 = (if j = D then L else O j) ∧ ∀ k, j < k → k < D + 1 → (if j = D then L else O j) < (if k = D then L else O k)
    rcases Nat.lt_or_ge j D with q | q
    · rw [hO j q]
      have z := c j q
      rw [he _ z.1]
      refine ⟨by omega, z.2.1, z.2.2.1, fun k h1 h2 => ?_⟩
      rcases Nat.lt_or_ge k D with r | r
      · rw [hO k r]; exact z.2.2.2 k h1 r
      · rw [if_pos (show k = D by omega)]; exact z.1
    · rw [if_pos (show j = D by omega)]
      exact ⟨by omega, hn, h5, fun k h1 h2 => absurd h1 (by omega)⟩
  · rcases Nat.lt_or_ge i L with q | q
    · rw [he i q] at ho
      rcases d i q ho with ⟨j, hj, hz⟩ | z
      · exact Or.inl ⟨j, by omega, (hO j hj).trans hz⟩
      · refine Or.inr ⟨cl_e q z.1 he (by omega), fun j hj => ?_⟩
        show (if j = D then L else O j) < i ∨ s' i 5 < (if j = D then L else O j)
        rw [he i q]
        rcases Nat.lt_or_ge j D with r | r
        · rw [hO j r]; exact z.2 j r
        · rw [if_pos (show j = D by omega)]; exact Or.inr z.1.2.1
    · exact Or.inl ⟨D, by omega, (if_pos rfl).trans (by omega)⟩
  · rcases Nat.lt_or_ge i L with q | q
    · rw [he i q] at h3 ⊢
      have z := e i q h3
      rw [he _ (show s i 5 < L by omega)]; exact z
    · rw [show i = L by omega] at h3; exact absurd h3 hv
theorem okI_e {S : ST} {s s' : Nat → Nat} (h : okI S s) (he : ∀ j, j < 5 → s' j = s j) : okI S s' := by
  unfold okI
  rw [he 0 (by omega), he 1 (by omega), he 2 (by omega), he 3 (by omega), he 4 (by omega)]; exact h
theorem wf_en {S : ST} {L : Nat} {s : Nat → Nat → Nat} {D : Nat} {O : Nat → Nat} (h : wfS S L s D O) (hD : 0 < D) : wfS S (L + 1) (itE L s (O (D - 1))) (D - 1) O := by
  obtain ⟨⟨a1, a2, a3⟩, b, c, d, e⟩ := h
  generalize hp : O (D - 1) = p
  have cp := c (D - 1) (by omega)
  rw [hp] at cp
  have eo : ∀ i j, i < L → ¬ (i = p ∧ j = 5) → itE L s p i j = s i j := fun i j hi hj => (if_neg (by omega)).trans (if_neg hj)
  have e0 : ∀ i, i < L → itE L s p i 0 = s i 0 := fun i hi => eo i 0 hi (by omega)
  have eL : itE L s p L 0 = 23 := (if_pos rfl).trans (if_pos rfl)
  have e5 : itE L s p L 5 = p := (if_pos rfl).trans ((if_neg (by omega)).trans (if_pos rfl))
  have ep : itE L s p p 5 = L := (if_neg (by omega)).trans (if_pos ⟨rfl, rfl⟩)
  have hsc : scN (itE L s p) (L + 1) = scN s L := by
    show (if itE L s p L 0 = 23 then scN (itE L s p) L else _) = _
    rw [if_pos eL, sc_e e0]
  refine ⟨⟨by omega, by omega, by omega⟩, fun i hi => ?_, fun j hj => ?_, fun i hi ho => ?_, fun i hi h3 => ?_⟩
  · rcases Nat.lt_or_ge i L with q | q
    · exact okI_e (b i q) (fun j hj => eo i j q (by omega))
    · rw [show i = L by omega]
      unfold okI
      rw [eL]
      exact ⟨by omega, by omega, by omega, fun z => by omega, fun z => by omega, fun z => by omega, fun z => by omega, fun z => by omega, fun z => by omega⟩
  · have z := c j (by omega)
    have hlt := z.2.2.2 (D - 1) (by omega) (by omega)
    rw [hp] at hlt
    rw [e0 _ z.1, eo _ 5 z.1 (by omega)]
    exact ⟨by omega, z.2.1, z.2.2.1, fun k h1 h2 => z.2.2.2 k h1 (by omega)⟩
  · rcases Nat.lt_or_ge i L with q | q
    · rw [e0 i q] at ho
      by_cases hip : i = p
      · subst hip
        refine Or.inr ⟨⟨by omega, by omega, by rw [ep]; exact eL, by rw [ep]; exact e5, fun k h1 h2 h3 => ?_⟩, fun j hj => ?_⟩
        · rw [ep] at h2 ⊢
          rw [e0 k h2] at h3
          rw [eo k 5 h2 (by omega)]
          rcases d k h2 h3 with ⟨j, hj, hz⟩ | z
          · have hle : O j ≤ i := by
              by_cases hjd : j = D - 1
              · rw [hjd, hp]; exact Nat.le_refl _
              · have := (c j hj).2.2.2 (D - 1) (by omega) (by omega)
                omega
            omega
          · exact z.1.2.1
        · have := (c j (by omega)).2.2.2 (D - 1) (by omega) (by omega)
          exact Or.inl (by omega)
      · rcases d i q ho with ⟨j, hj, hz⟩ | ⟨⟨z1, z2, z3, z4, z5⟩, z6⟩
        · refine Or.inl ⟨j, ?_, hz⟩
          by_cases hjd : j = D - 1
          · rw [hjd, hp] at hz; omega
          · omega
        · have ei := eo i 5 q (by omega)
          have hq := z6 (D - 1) (by omega)
          rw [hp] at hq
          have hne : s i 5 ≠ p := fun z => by rw [z] at z3; have := cp.2.1; omega
          refine Or.inr ⟨⟨by omega, by omega, by rw [ei, e0 _ z2]; exact z3, by rw [ei, eo _ 5 z2 (by omega)]; exact z4, fun k h1 h2 h3 => ?_⟩, fun j hj => ?_⟩
          · rw [ei] at h2 ⊢
            rw [e0 k (by omega)] at h3
            rw [eo k 5 (by omega) (by omega)]
            exact z5 k h1 h2 h3
          · rw [ei]; exact z6 j (by omega)
    · rw [show i = L by omega, eL] at ho; omega
  · rcases Nat.lt_or_ge i L with q | q
    · rw [e0 i q] at h3
      have z := e i q h3
      have hip : i ≠ p := fun hz => by rw [hz] at h3; have := cp.2.1; omega
      rw [eo i 5 q (by omega)]
      have hsp : s i 5 ≠ p := fun hz => by have := z.2.2; rw [hz] at this; have := cp.2.2.1; omega
      rw [e0 _ (by omega), eo _ 5 (by omega) (by omega)]
      exact z
    · have : i = L := by omega
      subst this
      rw [e5, e0 p cp.1, ep]
      exact ⟨cp.1, cp.2.1, rfl⟩
theorem wf_0 {S : ST} : wfS S 0 (fun _ _ => 0) 0 (fun _ => 0) := ⟨⟨Nat.zero_le _, Nat.zero_le _, Nat.zero_le _⟩, fun i hi => absurd hi (Nat.not_lt_zero i), fun i hi => absurd hi (Nat.not_lt_zero i), fun i hi => absurd hi (Nat.not_lt_zero i), fun i hi => absurd hi (Nat.not_lt_zero i)⟩
theorem wf_Y {S : ST} {L : Nat} {s : Nat → Nat → Nat} {O : Nat → Nat} (h : wfS S L s 0 O) (hd : S 0 1 ≤ 9999) : WFY S (1, L, s) := by
  obtain ⟨⟨a1, a2, a3⟩, b, c, d, e⟩ := h
  refine ⟨Nat.le_refl _, show L ≤ 60 by omega, a2, hd, fun i hi => ?_⟩
  obtain ⟨b1, b2, b3, b4, b5, b6, b7, b8, b9⟩ := b i hi
  exact ⟨b1, b2, b3, b4, b5, b6, b7, b8, b9, fun ho => (d i hi ho).elim (fun ⟨j, hj, _⟩ => absurd hj (Nat.not_lt_zero j)) (fun z => z.1), e i hi⟩

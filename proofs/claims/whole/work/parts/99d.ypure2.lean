theorem p_sp {tk : Nat → TK} {c : CC} : c.1 ≤ (spC tk c).1 := by
  unfold spC
  split
  · exact Nat.le_succ _
  · exact Nat.le_refl _
theorem p_num {tk : Nat → TK} {lo hi : Nat} {c : CC} (h : (numC tk lo hi c).2.1 = 0) : c.1 ≤ (numC tk lo hi c).1 := by rw [(num_0 h).2.2.2.2]; exact p_sp
theorem p_yM {tk : Nat → TK} {S : ST} {N : NM} {c : CC} (h : (yM tk S N c).2.1 = 0) : c.1 ≤ (yM tk S N c).1 := by rw [(yM_0 h).2.2.2]; exact p_sp
theorem p_yS {tk : Nat → TK} {S : ST} {N : NM} {c : CC} (h : (ySi tk S N c).2.1 = 0) : c.1 ≤ (ySi tk S N c).1 := by rw [(yS_0 h).2.2.2]; exact p_sp
theorem p_yTa {tk : Nat → TK} {c : CC} (h : (yTa tk c).2.1 = 0) : c.1 ≤ (yTa tk c).1 := by rw [(yTa_0 h).2.2]; exact p_sp
theorem p_cmp {tk : Nat → TK} {c : CC} (h : (cmpC tk c).2.1 = 0) : c.1 ≤ (cmpC tk c).1 := by rw [(cmp_0 h).2.2.2]; exact p_sp
theorem it_0 {L v a b t q : Nat} {s : Nat → Nat → Nat} : itA L s v a b t q L 0 = v ∧ itA L s v a b t q L 1 = a ∧ itA L s v a b t q L 2 = b ∧ itA L s v a b t q L 3 = t ∧ itA L s v a b t q L 4 = q ∧ itA L s v a b t q L 5 = L := by
  unfold itA
  exact ⟨(if_pos rfl).trans rfl, (if_pos rfl).trans rfl, (if_pos rfl).trans rfl, (if_pos rfl).trans rfl, (if_pos rfl).trans rfl, (if_pos rfl).trans rfl⟩
theorem it_n {L v a b t q : Nat} {s : Nat → Nat → Nat} : ∀ i, i < L → itA L s v a b t q i = s i := fun i hi => funext fun j => if_neg (by omega)
theorem nmS_l {tk : Nat → TK} {S : ST} {N : NM} {c : CC} (h : nmS tk S N c ≠ none) : (nmS tk S N c).getD 0 < S 0 4 := by
  cases e : nmS tk S N c with
  | none => exact absurd e h
  | some j => exact (nmI_lt e).1
theorem yTb_0 {tk : Nat → TK} {S : ST} {N : NM} {c : CC} (h : (yTb tk S N c).2.1 = 0) : (yTa tk c).2.1 = 0 ∧ (yTa tk c).1 ≤ (yTb tk S N c).1 ∧ (yv tk c = 20 → (nmM tk S N (yTa tk c)).getD 0 < S 0 2) ∧ (¬ yv tk c = 20 → (nmS tk S N (yTa tk c)).getD 0 < S 0 4) := by
  unfold yTb at h ⊢
  by_cases e : yv tk c = 20
  · rw [if_pos e] at h ⊢
    exact ⟨(yM_0 h).1, p_yM h, fun _ => nmM_lt (yM_0 h).2.2.1, fun q => absurd e q⟩
  · rw [if_neg e] at h ⊢
    exact ⟨(yS_0 h).1, p_yS h, fun q => absurd q e, fun _ => nmS_l (yS_0 h).2.2.1⟩
theorem yTc_0 {tk : Nat → TK} {S : ST} {N : NM} {c : CC} (hK : TKG tk) (h : (yTc tk S N c).2.1 = 0) : (yTb tk S N c).2.1 = 0 ∧ (yTb tk S N c).1 ≤ (yTc tk S N c).1 ∧ (yv tk c = 21 → cd tk (cmpC tk (yTb tk S N c)) ≤ 99 ∧ (cd tk (yTb tk S N c) = 60 ∨ cd tk (yTb tk S N c) = 61 ∨ cd tk (yTb tk S N c) = 62)) := by
  unfold yTc at h ⊢
  by_cases e : yv tk c = 21
  · rw [if_pos e] at h ⊢
    have z := num_0 h
    have y := cmp_0 z.1
    have k := (hK (yTb tk S N c).1).2.2.2.2.2 y.2.1
    have y3 := y.2.2.1
    have k1 : 59 ≤ cd tk (yTb tk S N c) := k.1
    have k2 : cd tk (yTb tk S N c) ≤ 62 := k.2
    exact ⟨y.1, Nat.le_trans (p_cmp z.1) (p_num h), fun _ => ⟨z.2.2.2.1, by omega⟩⟩
  · rw [if_neg e] at h ⊢
    exact ⟨h, Nat.le_refl _, fun q => absurd q e⟩
/-- a step's rest with no fault -/
theorem yC_0 {tk : Nat → TK} {S : ST} {N : NM} {c : CC} {v D L : Nat} {s : Nat → Nat → Nat} (hK : TKG tk) (hv : yMay v D) (h : (yC tk S N v c).2.1 = 0) : c.2.1 = 0 ∧ c.1 ≤ (yC tk S N v c).1 ∧ (¬ v = 23 → okI S (itA L s v (yWho tk S N v c) (yNum tk S N v c) (yTst tk v c) (yCmp tk S N v c) L)) := by
  obtain ⟨i0, i1, i2, i3, i4, i5⟩ := it_0 (L := L) (v := v) (a := yWho tk S N v c) (b := yNum tk S N v c) (t := yTst tk v c) (q := yCmp tk S N v c) (s := s)
  unfold okI
  rw [i0, i1, i2, i3, i4]
  rcases (show v = 13 ∨ v = 14 ∨ v = 15 ∨ v = 16 ∨ v = 17 ∨ v = 18 ∨ v = 22 ∨ v = 23 ∨ v = 24 by omega) with e | e | e | e | e | e | e | e | e <;> subst e
  · have z := num_0 (show (numC tk 1 40 c).2.1 = 0 from h)
    exact ⟨z.1, p_num (show (numC tk 1 40 c).2.1 = 0 from h), fun _ => ⟨by omega, by omega, by omega, fun _ => ⟨z.2.2.1, z.2.2.2.1⟩, fun q => absurd q (by decide), fun q => absurd q (by decide), fun q => absurd q (by decide), fun q => absurd q (by decide), fun q => absurd q (by decide)⟩⟩
  · have z := num_0 (show (numC tk 0 7 c).2.1 = 0 from h)
    exact ⟨z.1, p_num (show (numC tk 0 7 c).2.1 = 0 from h), fun _ => ⟨by omega, by omega, by omega, fun q => absurd q (by decide), fun _ => z.2.2.2.1, fun q => absurd q (by decide), fun q => absurd q (by decide), fun q => absurd q (by decide), fun q => absurd q (by decide)⟩⟩
  · have h' : (numC tk 1 100 (yM tk S N c)).2.1 = 0 := h
    have z := num_0 h'
    have y := yM_0 z.1
    exact ⟨y.1, Nat.le_trans (p_yM z.1) (p_num h'), fun _ => ⟨by omega, by omega, by omega, fun q => absurd q (by decide), fun q => absurd q (by decide), fun _ => ⟨nmM_lt y.2.2.1, z.2.2.1, z.2.2.2.1⟩, fun q => absurd q (by decide), fun q => absurd q (by decide), fun q => absurd q (by decide)⟩⟩
  · have h' : (yM tk S N (ySi tk S N c)).2.1 = 0 := h
    have z := yM_0 h'
    have y := yS_0 z.1
    exact ⟨y.1, Nat.le_trans (p_yS z.1) (p_yM h'), fun _ => ⟨by omega, by omega, by omega, fun q => absurd q (by decide), fun q => absurd q (by decide), fun q => absurd q (by decide), fun _ => ⟨nmS_l y.2.2.1, nmM_lt z.2.2.1⟩, fun q => absurd q (by decide), fun q => absurd q (by decide)⟩⟩
  · exact ⟨h, Nat.le_refl _, fun _ => ⟨by omega, by omega, by omega, fun q => absurd q (by decide), fun q => absurd q (by decide), fun q => absurd q (by decide), fun q => absurd q (by decide), fun q => absurd q (by decide), fun q => absurd q (by decide)⟩⟩
  · have h' : (yTc tk S N c).2.1 = 0 := h
    have z := yTc_0 hK h'
    have y := yTb_0 z.1
    have x := yTa_0 y.1
    refine ⟨x.1, Nat.le_trans (p_yTa y.1) (Nat.le_trans y.2.1 z.2.1), fun _ => ⟨by omega, by omega, by omega, fun q => absurd q (by decide), fun q => absurd q (by decide), fun q => absurd q (by decide), fun q => absurd q (by decide), fun _ => ?_, fun q => absurd q (by decide)⟩⟩
    show 19 ≤ yv tk c ∧ yv tk c ≤ 21 ∧ (yv tk c = 20 → (if yv tk c = 20 then (nmM tk S N (yTa tk c)).getD 0 else (nmS tk S N (yTa tk c)).getD 0) < S 0 2) ∧ (yv tk c ≠ 20 → (if yv tk c = 20 then (nmM tk S N (yTa tk c)).getD 0 else (nmS tk S N (yTa tk c)).getD 0) < S 0 4) ∧ (yv tk c = 21 → (if yv tk c = 21 then cd tk (cmpC tk (yTb tk S N c)) else 0) ≤ 99 ∧ (yCmp tk S N 18 c = 60 ∨ yCmp tk S N 18 c = 61 ∨ yCmp tk S N 18 c = 62))
    refine ⟨by omega, by omega, fun q => ?_, fun q => ?_, fun q => ?_⟩
    · rw [if_pos q]; exact y.2.2.1 q
    · rw [if_neg q]; exact y.2.2.2 q
    · rw [if_pos q, show yCmp tk S N 18 c = cd tk (yTb tk S N c) from if_pos ⟨rfl, q⟩]; exact z.2.2 q
  · have z := num_0 (show (numC tk 1 99 c).2.1 = 0 from h)
    exact ⟨z.1, p_num (show (numC tk 1 99 c).2.1 = 0 from h), fun _ => ⟨by omega, by omega, by omega, fun q => absurd q (by decide), fun q => absurd q (by decide), fun q => absurd q (by decide), fun q => absurd q (by decide), fun q => absurd q (by decide), fun _ => ⟨z.2.2.1, z.2.2.2.1⟩⟩⟩
  · exact ⟨h, Nat.le_refl _, fun q => absurd rfl q⟩
  · exact ⟨h, Nat.le_refl _, fun _ => ⟨by omega, by omega, by omega, fun q => absurd q (by decide), fun q => absurd q (by decide), fun q => absurd q (by decide), fun q => absurd q (by decide), fun q => absurd q (by decide), fun q => absurd q (by decide)⟩⟩
theorem wf_it {tk : Nat → TK} {S : ST} {N : NM} {c : CC} {v L D : Nat} {s : Nat → Nat → Nat} {O : Nat → Nat} (hK : TKG tk) (h : wfS S L s D O) (hm : yMay v D) (hs : yStp v → scN s L < 30) (hd : yOp v → D < 3) (hg : (yC tk S N v c).2.1 = 0) : wfS S (L + 1) (yIt tk S N v c L s D O) (yDp v L D O).1 (yDp v L D O).2 := by
  unfold yIt yDp
  by_cases e : v = 23
  · rw [if_pos e, if_neg (show ¬ yOp v by omega), if_pos e]
    exact wf_en h (by omega)
  · rw [if_neg e]
    have hst : yStp v := by omega
    have hok := (yC_0 (L := L) (s := s) hK hm hg).2.2 e
    have z := it_0 (L := L) (v := v) (a := yWho tk S N v c) (b := yNum tk S N v c) (t := yTst tk v c) (q := yCmp tk S N v c) (s := s)
    by_cases ho : yOp v
    · rw [if_pos ho]
      exact wf_op h it_n hok (hs hst) (by rw [z.1]; exact ho) z.2.2.2.2.2 (hd ho)
    · rw [if_neg ho, if_neg e]
      exact wf_ad h it_n hok (by rw [z.1]; exact e) (hs hst) (by rw [z.1]; exact ho)
/-- a part with no fault -/
theorem ys_0 {tk : Nat → TK} {S : ST} {N : NM} {x : YS} (h : (ysT tk S N x).1.2.1 = 0) : (ybG tk (yv tk x.1) (scN x.2.1.2 x.2.1.1) x.2.2.1 x.1).2.1 = 0 ∧ (yC tk S N (yv tk x.1) (ybG tk (yv tk x.1) (scN x.2.1.2 x.2.1.1) x.2.2.1 x.1)).2.1 = 0 ∧ ysT tk S N x = (endC tk (yC tk S N (yv tk x.1) (ybG tk (yv tk x.1) (scN x.2.1.2 x.2.1.1) x.2.2.1 x.1)), (x.2.1.1 + 1, yIt tk S N (yv tk x.1) (ybG tk (yv tk x.1) (scN x.2.1.2 x.2.1.1) x.2.2.1 x.1) x.2.1.1 x.2.1.2 x.2.2.1 x.2.2.2), yDp (yv tk x.1) x.2.1.1 x.2.2.1 x.2.2.2) := by
  unfold ysT at h ⊢
  by_cases e : (ybG tk (yv tk x.1) (scN x.2.1.2 x.2.1.1) x.2.2.1 x.1).2.1 = 0
  · rw [if_pos e] at h ⊢
    exact ⟨e, (end_0 h).1, rfl⟩
  · rw [if_neg e] at h
    exact absurd (end_0 h).1 e
theorem ys_wf {tk : Nat → TK} {S : ST} {N : NM} {x : YS} (hK : TKG tk) (h : (ysT tk S N x).1.2.1 = 0) (hw : wfS S x.2.1.1 x.2.1.2 x.2.2.1 x.2.2.2) : wfS S (ysT tk S N x).2.1.1 (ysT tk S N x).2.1.2 (ysT tk S N x).2.2.1 (ysT tk S N x).2.2.2 ∧ x.1.1 < (ysT tk S N x).1.1 ∧ x.1.2.1 = 0 := by
  obtain ⟨h1, h2, h3⟩ := ys_0 h
  rw [h3] at h ⊢
  have b := yb_0 h1
  refine ⟨wf_it hK hw b.2.1 b.2.2.1 b.2.2.2.1 h2, ?_, b.1⟩
  have c := yC_0 (S := S) (N := N) (L := 0) (s := fun _ _ => 0) hK b.2.1 h2
  have d := end_0 (show (endC tk (yC tk S N (yv tk x.1) (ybG tk (yv tk x.1) (scN x.2.1.2 x.2.1.1) x.2.2.1 x.1))).2.1 = 0 from h)
  show x.1.1 < (endC tk (yC tk S N (yv tk x.1) (ybG tk (yv tk x.1) (scN x.2.1.2 x.2.1.1) x.2.2.1 x.1))).1
  rw [d.2.2.2, show spC tk (yC tk S N (yv tk x.1) (ybG tk (yv tk x.1) (scN x.2.1.2 x.2.1.1) x.2.2.1 x.1)) = ((yC tk S N (yv tk x.1) (ybG tk (yv tk x.1) (scN x.2.1.2 x.2.1.1) x.2.2.1 x.1)).1 + 1, _) from if_pos ⟨d.1, by omega⟩]
  have e : x.1.1 ≤ (ybG tk (yv tk x.1) (scN x.2.1.2 x.2.1.1) x.2.2.1 x.1).1 := by rw [b.2.2.2.2]; exact p_sp
  exact Nat.lt_succ_of_le (Nat.le_trans e c.2.1)

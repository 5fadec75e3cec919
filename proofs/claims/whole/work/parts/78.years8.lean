theorem YM_fq {M M' : Mm} {Y : YR} (h : YM 0 M Y) (hf : FQ M M') : YM 0 M' Y := by
  have e : ∀ j, 90 ≤ j → M'.1 137 j = M.1 137 j := fun j hj => (hf 137 j (by unfold fqP; omega)).1
  refine ⟨(e _ (by omega)).trans h.1, (e _ (by omega)).trans h.2.1, fun i hi hv => ?_⟩
  obtain ⟨q1, q2, q3, q4, q5, q6⟩ := h.2.2 i hi hv
  exact ⟨(e _ (by omega)).trans q1, fun q => (e _ (by omega)).trans (q2 q), fun q => (e _ (by omega)).trans (q3 q), fun q => (e _ (by omega)).trans (q4 q), fun q => ⟨(e _ (by omega)).trans (q5 q).1, fun z => ⟨(e _ (by omega)).trans ((q5 q).2 z).1, (e _ (by omega)).trans ((q5 q).2 z).2⟩⟩, (e _ (by omega)).trans q6⟩
def DAc (S0 : ST) (Y : YR) (g : Nat) : Prop := ∀ (a b : Nat) (M : Mm) (F : FN), MF M F → GF S0 F → YM 0 M Y → lvl Y.2.2 a b → a ≤ b → b ≤ Y.2.1 → b - a ≤ g → ∀ {Q : Option Value → Mm → Prop}, (∀ M', MF M' (doA Y.2.2 g a b F) → FQ M M' → Q none M') → ∀ d, AMt miX12_doAll (d + 2 * g + 9) [.ref 132, .int (nI (scN Y.2.2 a)), .int (nI (scN Y.2.2 b))] M Q
theorem WFY_ok {S0 : ST} {Y : YR} (hY : WFY S0 Y) : ∀ i, i < Y.2.1 → okS S0 (Y.2.2 i) := fun i hi => by
  obtain ⟨v1, v2, v3, v13, v14, v15, v16, v18, v22, vb, ve⟩ := hY.2.2.2.2 i hi
  exact ⟨v1, fun e => (v15 e).1, fun e => (v16 e).2⟩
theorem doO_300 {rec : Nat → Nat → FN → FN} {s : Nat → Nat → Nat} {a n : Nat} {R : RN} (c : n = 300) : doO rec s a (R, n, 0, 0) = (R, 300, 1, 1) := if_pos c
theorem doO_in {rec : Nat → Nat → FN → FN} {s : Nat → Nat → Nat} {a n : Nat} {R : RN} (c : ¬ n = 300) (h : s a 0 ≤ 17) : doO rec s a (R, n, 0, 0) = (vIn (s a) R, n + 1, 0, 0) := (if_neg c).trans (if_pos h)
theorem doO_18 {rec : Nat → Nat → FN → FN} {s : Nat → Nat → Nat} {a n : Nat} {R : RN} (c : ¬ n = 300) (h : s a 0 = 18) : doO rec s a (R, n, 0, 0) = if soN R.1 (s a) = true then rec (a + 1) (s a 5) (R, n + 1, 0, 0) else (R, n + 1, 0, 0) := (if_neg c).trans ((if_neg (by omega)).trans (if_pos h))
theorem doO_22 {rec : Nat → Nat → FN → FN} {s : Nat → Nat → Nat} {a n : Nat} {R : RN} (c : ¬ n = 300) (h : s a 0 = 22) : doO rec s a (R, n, 0, 0) = itN (rec (a + 1) (s a 5)) (s a 2) (R, n + 1, 0, 0) := (if_neg c).trans ((if_neg (by omega)).trans ((if_neg (by omega)).trans (if_pos h)))
theorem doO_24 {rec : Nat → Nat → FN → FN} {s : Nat → Nat → Nat} {a n : Nat} {R : RN} (c : ¬ n = 300) (h : s a 0 = 24) : doO rec s a (R, n, 0, 0) = (R, n + 1, 1, 0) := (if_neg c).trans ((if_neg (by omega)).trans ((if_neg (by omega)).trans (if_neg (by omega))))
theorem v24 {v : Nat} (h2 : v ≤ 24) (h3 : v ≤ 18 ∨ 22 ≤ v) (h23 : v ≠ 23) (h17 : ¬ v ≤ 17) (h18 : ¬ v = 18) (h22 : ¬ v = 22) : v = 24 := by omega

theorem c_oneA {S0 : ST} {Y : YR} {g : Nat} (hY : WFY S0 Y) (hDA : DAc S0 Y g) {a : Nat} (ha : a < Y.2.1) (hv : Y.2.2 a 0 ≠ 23) (hga : Y.2.2 a 0 = 18 ∨ Y.2.2 a 0 = 22 → Y.2.2 a 5 - (a + 1) ≤ g) {M : Mm} {S : ST} {dr mi br cr n : Nat} (hM : MF M ((S, dr, mi, br, cr), n, 0, 0)) (hG : GF S0 ((S, dr, mi, br, cr), n, 0, 0)) (hYM : YM 0 M Y) (c : n = 300) {Q : Option Value → Mm → Prop} (hQ : ∀ M', MF M' (doO (doA Y.2.2 g) Y.2.2 a ((S, dr, mi, br, cr), n, 0, 0)) → FQ M M' → Q none M') (d : Nat) : AMt miX12_doOne (d + 2 * g + 10) [.ref 132, .int (nI (scN Y.2.2 a))] M Q := by
  have hst := YM_st hYM ha hv
  have hok := WFY_ok hY a ha
  have hgs : scN Y.2.2 a ≤ 30 := Nat.le_trans (scN_mono _ _ _ (Nat.le_of_lt ha)) hY.2.2.1
  have z2 : S 0 2 = S0 0 2 := hG.1.2.2.2.2.1
  have z4 : S 0 4 = S0 0 4 := hG.1.2.2.2.2.2.1
  rw [doO_300 c] at hQ
  exact c_one300 hM hG hgs hst hok c hQ (d + 2 * g + 3)

theorem c_oneB {S0 : ST} {Y : YR} {g : Nat} (hY : WFY S0 Y) (hDA : DAc S0 Y g) {a : Nat} (ha : a < Y.2.1) (hv : Y.2.2 a 0 ≠ 23) (hga : Y.2.2 a 0 = 18 ∨ Y.2.2 a 0 = 22 → Y.2.2 a 5 - (a + 1) ≤ g) {M : Mm} {S : ST} {dr mi br cr n : Nat} (hM : MF M ((S, dr, mi, br, cr), n, 0, 0)) (hG : GF S0 ((S, dr, mi, br, cr), n, 0, 0)) (hYM : YM 0 M Y) (c : ¬ n = 300) (h17 : Y.2.2 a 0 ≤ 17) {Q : Option Value → Mm → Prop} (hQ : ∀ M', MF M' (doO (doA Y.2.2 g) Y.2.2 a ((S, dr, mi, br, cr), n, 0, 0)) → FQ M M' → Q none M') (d : Nat) : AMt miX12_doOne (d + 2 * g + 10) [.ref 132, .int (nI (scN Y.2.2 a))] M Q := by
  have hst := YM_st hYM ha hv
  have hok := WFY_ok hY a ha
  have hgs : scN Y.2.2 a ≤ 30 := Nat.le_trans (scN_mono _ _ _ (Nat.le_of_lt ha)) hY.2.2.1
  have z2 : S 0 2 = S0 0 2 := hG.1.2.2.2.2.1
  have z4 : S 0 4 = S0 0 4 := hG.1.2.2.2.2.2.1
  obtain ⟨v1, v2, v3, v13, v14, v15, v16, v18, v22, vb, ve⟩ := hY.2.2.2.2 a ha
  rw [doO_in c h17] at hQ
  exact c_oneIn hM hG hgs hst hok c h17 (fun e => (v13 e).2) v14 (fun e => ⟨z2 ▸ (v15 e).1, (v15 e).2.2⟩) (fun e => ⟨z4 ▸ (v16 e).1, z2 ▸ (v16 e).2⟩) hQ (d + 2 * g + 3)

theorem c_oneC {S0 : ST} {Y : YR} {g : Nat} (hY : WFY S0 Y) (hDA : DAc S0 Y g) {a : Nat} (ha : a < Y.2.1) (hv : Y.2.2 a 0 ≠ 23) (hga : Y.2.2 a 0 = 18 ∨ Y.2.2 a 0 = 22 → Y.2.2 a 5 - (a + 1) ≤ g) {M : Mm} {S : ST} {dr mi br cr n : Nat} (hM : MF M ((S, dr, mi, br, cr), n, 0, 0)) (hG : GF S0 ((S, dr, mi, br, cr), n, 0, 0)) (hYM : YM 0 M Y) (c : ¬ n = 300) (h24 : Y.2.2 a 0 = 24) {Q : Option Value → Mm → Prop} (hQ : ∀ M', MF M' (doO (doA Y.2.2 g) Y.2.2 a ((S, dr, mi, br, cr), n, 0, 0)) → FQ M M' → Q none M') (d : Nat) : AMt miX12_doOne (d + 2 * g + 10) [.ref 132, .int (nI (scN Y.2.2 a))] M Q := by
  have hst := YM_st hYM ha hv
  have hok := WFY_ok hY a ha
  have hgs : scN Y.2.2 a ≤ 30 := Nat.le_trans (scN_mono _ _ _ (Nat.le_of_lt ha)) hY.2.2.1
  have z2 : S 0 2 = S0 0 2 := hG.1.2.2.2.2.1
  have z4 : S 0 4 = S0 0 4 := hG.1.2.2.2.2.2.1
  rw [doO_24 c h24] at hQ
  exact c_one24 hM hG hgs hst hok c h24 hQ (d + 2 * g + 3)

theorem c_oneD {S0 : ST} {Y : YR} {g : Nat} (hY : WFY S0 Y) (hDA : DAc S0 Y g) {a : Nat} (ha : a < Y.2.1) (hv : Y.2.2 a 0 ≠ 23) (hga : Y.2.2 a 0 = 18 ∨ Y.2.2 a 0 = 22 → Y.2.2 a 5 - (a + 1) ≤ g) {M : Mm} {S : ST} {dr mi br cr n : Nat} (hM : MF M ((S, dr, mi, br, cr), n, 0, 0)) (hG : GF S0 ((S, dr, mi, br, cr), n, 0, 0)) (hYM : YM 0 M Y) (c : ¬ n = 300) (h18 : Y.2.2 a 0 = 18) {Q : Option Value → Mm → Prop} (hQ : ∀ M', MF M' (doO (doA Y.2.2 g) Y.2.2 a ((S, dr, mi, br, cr), n, 0, 0)) → FQ M M' → Q none M') (d : Nat) : AMt miX12_doOne (d + 2 * g + 10) [.ref 132, .int (nI (scN Y.2.2 a))] M Q := by
  have hst := YM_st hYM ha hv
  have hok := WFY_ok hY a ha
  have hgs : scN Y.2.2 a ≤ 30 := Nat.le_trans (scN_mono _ _ _ (Nat.le_of_lt ha)) hY.2.2.1
  have z2 : S 0 2 = S0 0 2 := hG.1.2.2.2.2.1
  have z4 : S 0 4 = S0 0 4 := hG.1.2.2.2.2.2.1
  obtain ⟨w1, w2, w3, w4, w5⟩ := (hY.2.2.2.2 a ha).2.2.2.2.2.2.2.1 h18
  have hb := WFY_blk hY
  have b2 := (hb.1 a ha (Or.inl h18)).2.1
  have b1 := (hb.1 a ha (Or.inl h18)).1
  have e1 : scN Y.2.2 (a + 1) = scN Y.2.2 a + 1 := if_neg hv
  rw [doO_18 c h18] at hQ
  rw [if_pos (Or.inl h18)] at hst
  have ih : ∀ {M2 : Mm}, MF M2 ((S, dr, mi, br, cr), n + 1, 0, 0) → FQ M M2 → ∀ {Q2 : Option Value → Mm → Prop}, (∀ M', MF M' (doA Y.2.2 g (a + 1) (Y.2.2 a 5) ((S, dr, mi, br, cr), n + 1, 0, 0)) → FQ M2 M' → Q2 none M') → ∀ d2, AMt miX12_doAll (d2 + (2 * g + 9)) [.ref 132, .int (nI (scN Y.2.2 a + 1)), .int (nI (scN Y.2.2 (Y.2.2 a 5)))] M2 Q2 := by
    intro M2 hM2 hf2 Q2 hq d2
    have := hDA (a + 1) (Y.2.2 a 5) M2 _ hM2 (GF_s1 hG c) (YM_fq hYM hf2) (lvl_in hb ha (Or.inl h18)) b1 (Nat.le_of_lt b2) (hga (Or.inl h18)) hq d2
    rw [e1] at this
    rw [← Nat.add_assoc]
    exact this
  have := c_one18 hM hG hgs hst hok c h18 ⟨w1, w2⟩ (fun e => z2 ▸ w3 e) (fun e => z4 ▸ w4 e) (fun e => (w5 e).1) (fun e => (w5 e).2) (Nat.le_add_left 9 (2 * g)) ih hQ d
  rw [show d + 2 * g + 10 = d + (2 * g + 9) + 1 by omega]
  exact this

theorem c_oneE {S0 : ST} {Y : YR} {g : Nat} (hY : WFY S0 Y) (hDA : DAc S0 Y g) {a : Nat} (ha : a < Y.2.1) (hv : Y.2.2 a 0 ≠ 23) (hga : Y.2.2 a 0 = 18 ∨ Y.2.2 a 0 = 22 → Y.2.2 a 5 - (a + 1) ≤ g) {M : Mm} {S : ST} {dr mi br cr n : Nat} (hM : MF M ((S, dr, mi, br, cr), n, 0, 0)) (hG : GF S0 ((S, dr, mi, br, cr), n, 0, 0)) (hYM : YM 0 M Y) (c : ¬ n = 300) (h22 : Y.2.2 a 0 = 22) {Q : Option Value → Mm → Prop} (hQ : ∀ M', MF M' (doO (doA Y.2.2 g) Y.2.2 a ((S, dr, mi, br, cr), n, 0, 0)) → FQ M M' → Q none M') (d : Nat) : AMt miX12_doOne (d + 2 * g + 10) [.ref 132, .int (nI (scN Y.2.2 a))] M Q := by
  have hst := YM_st hYM ha hv
  have hok := WFY_ok hY a ha
  have hgs : scN Y.2.2 a ≤ 30 := Nat.le_trans (scN_mono _ _ _ (Nat.le_of_lt ha)) hY.2.2.1
  have z2 : S 0 2 = S0 0 2 := hG.1.2.2.2.2.1
  have z4 : S 0 4 = S0 0 4 := hG.1.2.2.2.2.2.1
  have h299 := ((hY.2.2.2.2 a ha).2.2.2.2.2.2.2.2.1 h22).2
  have hb := WFY_blk hY
  have b2 := (hb.1 a ha (Or.inr h22)).2.1
  have b1 := (hb.1 a ha (Or.inr h22)).1
  have e1 : scN Y.2.2 (a + 1) = scN Y.2.2 a + 1 := if_neg hv
  rw [doO_22 c h22] at hQ
  rw [if_pos (Or.inr h22)] at hst
  have ih : ∀ {M2 : Mm} {F : FN}, MF M2 F → GF S0 F → FQ M M2 → ∀ {Q2 : Option Value → Mm → Prop}, (∀ M', MF M' (doA Y.2.2 g (a + 1) (Y.2.2 a 5) F) → FQ M2 M' → Q2 none M') → ∀ d2, AMt miX12_doAll (d2 + (2 * g + 9)) [.ref 132, .int (nI (scN Y.2.2 a + 1)), .int (nI (scN Y.2.2 (Y.2.2 a 5)))] M2 Q2 := by
    intro M2 F hM2 hG2 hf2 Q2 hq d2
    have := hDA (a + 1) (Y.2.2 a 5) M2 F hM2 hG2 (YM_fq hYM hf2) (lvl_in hb ha (Or.inr h22)) b1 (Nat.le_of_lt b2) (hga (Or.inr h22)) hq d2
    rw [e1] at this
    rw [← Nat.add_assoc]
    exact this
  have := c_one22 hM hG hgs hst hok c h22 h299 (Nat.le_add_left 9 (2 * g)) (f := doA Y.2.2 g (a + 1) (Y.2.2 a 5)) (fun F q _ => GF_a hb (WFY_ok hY) g (a + 1) (Y.2.2 a 5) F (Nat.le_of_lt b2) q) ih hQ d
  rw [show d + 2 * g + 10 = d + (2 * g + 9) + 1 by omega]
  exact this

theorem c_oneV {S0 : ST} {Y : YR} {g : Nat} (hY : WFY S0 Y) (hDA : DAc S0 Y g) {a : Nat} (ha : a < Y.2.1) (hv : Y.2.2 a 0 ≠ 23) (hga : Y.2.2 a 0 = 18 ∨ Y.2.2 a 0 = 22 → Y.2.2 a 5 - (a + 1) ≤ g) {M : Mm} {F : FN} (hM : MF M F) (hG : GF S0 F) (h0 : F.2.2.1 = 0) (hYM : YM 0 M Y) {Q : Option Value → Mm → Prop} (hQ : ∀ M', MF M' (doO (doA Y.2.2 g) Y.2.2 a F) → FQ M M' → Q none M') (d : Nat) : AMt miX12_doOne (d + 2 * g + 10) [.ref 132, .int (nI (scN Y.2.2 a))] M Q := by
  obtain ⟨⟨S, dr, mi, br, cr⟩, n, ov, le⟩ := F
  have h0 : ov = 0 := h0
  subst h0
  have hle : le = 0 := hG.2.2.2.2.2 rfl
  subst hle
  have v2 := (hY.2.2.2.2 a ha).2.1
  have v3 := (hY.2.2.2.2 a ha).2.2.1
  by_cases c : n = 300
  · exact c_oneA hY hDA ha hv hga hM hG hYM c hQ d
  · by_cases c17 : Y.2.2 a 0 ≤ 17
    · exact c_oneB hY hDA ha hv hga hM hG hYM c c17 hQ d
    · by_cases c18 : Y.2.2 a 0 = 18
      · exact c_oneD hY hDA ha hv hga hM hG hYM c c18 hQ d
      · by_cases c22 : Y.2.2 a 0 = 22
        · exact c_oneE hY hDA ha hv hga hM hG hYM c c22 hQ d
        · exact c_oneC hY hDA ha hv hga hM hG hYM c (v24 v2 v3 hv c17 c18 c22) hQ d
theorem sc_nx {Y : YR} {a : Nat} (hv : Y.2.2 a 0 ≠ 23) (hb : blk Y.2.2 Y.2.1) (ha : a < Y.2.1) : (if Y.2.2 a 0 = 18 ∨ Y.2.2 a 0 = 22 then scN Y.2.2 (Y.2.2 a 5) else scN Y.2.2 (a + 1)) = scN Y.2.2 (nxA Y.2.2 a) := by
  unfold nxA
  by_cases c : Y.2.2 a 0 = 18 ∨ Y.2.2 a 0 = 22
  · rw [if_pos c, if_pos c]
    exact (if_pos (hb.1 a ha c).2.2.1).symm
  · rw [if_neg c, if_neg c]
theorem doA_s {s : Nat → Nat → Nat} {g a b : Nat} {F : FN} (h : a < b) (h0 : F.2.2.1 = 0) : doA s (g + 1) a b F = doA s g (nxA s a) b (doO (doA s g) s a F) := by rw [doA, if_pos ⟨h, h0⟩]
theorem doA_e {s : Nat → Nat → Nat} {g a b : Nat} {F : FN} (h : ¬ a < b) : doA s g a b F = F := by
  cases g with
  | zero => rfl
  | succ g => rw [doA, if_neg (fun q => h q.1)]
theorem doA_o {s : Nat → Nat → Nat} {g a b : Nat} {F : FN} (h : ¬ F.2.2.1 = 0) : doA s g a b F = F := by
  cases g with
  | zero => rfl
  | succ g => rw [doA, if_neg (fun q => h q.2)]

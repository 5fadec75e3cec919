theorem VM_intro {M : Mm} {S : ST} (h0 : M.1 137 0 = nI (S 0 2)) (h1 : M.1 137 1 = nI (S 0 3)) (h2 : M.1 137 2 = nI (S 0 4)) (h3 : M.1 137 3 = nI (S 0 5)) (h4 : M.1 137 4 = nI (S 0 0)) (h5 : M.1 137 5 = nI (S 0 1))
    (b2 : ∀ j, j < S 0 2 → M.1 137 (6 + j) = nI (S 2 j)) (b1 : ∀ j, j < S 0 2 → M.1 137 (12 + j) = nI (S 1 j)) (b3 : ∀ j, j < S 0 3 → M.1 137 (18 + j) = nI (S 3 j)) (b4 : ∀ j, j < S 0 3 → M.1 137 (28 + j) = nI (S 4 j)) (b5 : ∀ j, j < S 0 4 → M.1 137 (38 + j) = nI (S 5 j)) (b6 : ∀ j, j < S 0 4 → M.1 137 (45 + j) = nI (S 6 j)) (b7 : ∀ j, j < S 0 4 → M.1 137 (52 + j) = nI (S 7 j)) (b8 : ∀ j, j < S 0 4 → M.1 137 (59 + j) = nI (S 8 j)) (b9 : ∀ j, j < S 0 5 → M.1 137 (66 + j) = nI (S 9 j)) (b10 : ∀ j, j < S 0 5 → M.1 137 (74 + j) = nI (S 10 j)) (b11 : ∀ j, j < S 0 5 → M.1 137 (82 + j) = nI (S 11 j)) : VM 0 M S := by
  unfold VM
  simp only [Nat.zero_add]
  exact ⟨h0, h1, h2, h3, h4, h5, b2, b1, b3, b4, b5, b6, b7, b8, b9, b10, b11⟩
theorem VM_elim {M : Mm} {S : ST} (h : VM 0 M S) : (M.1 137 0 = nI (S 0 2)) ∧ (M.1 137 1 = nI (S 0 3)) ∧ (M.1 137 2 = nI (S 0 4)) ∧ (M.1 137 3 = nI (S 0 5)) ∧ (M.1 137 4 = nI (S 0 0)) ∧ (M.1 137 5 = nI (S 0 1)) ∧
    (∀ j, j < S 0 2 → M.1 137 (6 + j) = nI (S 2 j)) ∧ (∀ j, j < S 0 2 → M.1 137 (12 + j) = nI (S 1 j)) ∧ (∀ j, j < S 0 3 → M.1 137 (18 + j) = nI (S 3 j)) ∧ (∀ j, j < S 0 3 → M.1 137 (28 + j) = nI (S 4 j)) ∧ (∀ j, j < S 0 4 → M.1 137 (38 + j) = nI (S 5 j)) ∧ (∀ j, j < S 0 4 → M.1 137 (45 + j) = nI (S 6 j)) ∧ (∀ j, j < S 0 4 → M.1 137 (52 + j) = nI (S 7 j)) ∧ (∀ j, j < S 0 4 → M.1 137 (59 + j) = nI (S 8 j)) ∧ (∀ j, j < S 0 5 → M.1 137 (66 + j) = nI (S 9 j)) ∧ (∀ j, j < S 0 5 → M.1 137 (74 + j) = nI (S 10 j)) ∧ (∀ j, j < S 0 5 → M.1 137 (82 + j) = nI (S 11 j)) := by
  unfold VM at h
  simp only [Nat.zero_add] at h
  exact h
theorem VM_e {M M' : Mm} {S : ST} (h : VM 0 M S) (he : ∀ j, j < 90 → M'.1 137 j = M.1 137 j) (hF : WF S) : VM 0 M' S := by
  have hm := WF_m hF
  have hh := WF_h hF
  have hs := WF_s hF
  have hn := WF_n hF
  obtain ⟨h0, h1, h2, h3, h4, h5, b2, b1, b3, b4, b5, b6, b7, b8, b9, b10, b11⟩ := VM_elim h
  refine VM_intro ?_ ?_ ?_ ?_ ?_ ?_ ?_ ?_ ?_ ?_ ?_ ?_ ?_ ?_ ?_ ?_ ?_
  all_goals first
    | (rw [he _ (by omega)]; assumption)
    | (intro j hj; rw [he _ (by omega)]; first | exact b2 j hj | exact b1 j hj | exact b3 j hj | exact b4 j hj | exact b5 j hj | exact b6 j hj | exact b7 j hj | exact b8 j hj | exact b9 j hj | exact b10 j hj | exact b11 j hj)
/-- the model's core -/
def coM (k j : Nat) : Prop := (k = 132 ∧ (j = 0 ∨ j = 2 ∨ j = 3 ∨ j = 8 ∨ j = 10 ∨ j = 11 ∨ j = 23 ∨ j = 38)) ∨ (133 ≤ k ∧ k ≤ 136) ∨ (k = 137 ∧ j < 1448) ∨ (k = 139 ∧ j < 52) ∨ k = 146
theorem scN_mono (It : Nat → Nat → Nat) : ∀ (n i : Nat), i ≤ n → scN It i ≤ scN It n
  | 0, i, h => by rw [show i = 0 by omega]; exact Nat.le_refl _
  | n + 1, i, h => by
    rcases (show i ≤ n ∨ i = n + 1 by omega) with h1 | h1
    · have := scN_mono It n i h1
      show scN It i ≤ (if It n 0 = 23 then scN It n else scN It n + 1)
      split <;> omega
    · subst h1; exact Nat.le_refl _
theorem scN_lt {It : Nat → Nat → Nat} {i n : Nat} (hi : i < n) (hv : It i 0 ≠ 23) : scN It i + 1 ≤ scN It n := by
  have h1 : scN It (i + 1) = scN It i + 1 := by
    show (if It i 0 = 23 then scN It i else scN It i + 1) = _
    rw [if_neg hv]
  rw [← h1]
  exact scN_mono It n (i + 1) hi
theorem WM_eq {b : Nat} {M M' : Mm} {W : WD} (h : WM b M W) (hG : WG W) (he : ∀ j, 362 * b ≤ j → j < 362 * b + 362 → M'.1 137 j = M.1 137 j) (he2 : ∀ j, 13 * b ≤ j → j < 13 * b + 13 → M'.2 139 j = M.2 139 j) : WM b M' W := by
  obtain ⟨h1, h2, h3⟩ := h
  obtain ⟨hF, hY⟩ := hG
  have hm := WF_m hF
  have hh := WF_h hF
  have hs := WF_s hF
  have hn := WF_n hF
  refine ⟨?_, ⟨fun j hj => by rw [he2 _ (by omega) (by omega)]; exact h2.1 j hj, fun j hj => by rw [he2 _ (by omega) (by omega)]; exact h2.2 j hj⟩, ?_⟩
  · obtain ⟨a0, a1, a2, a3, a4, a5, b2, b1, b3, b4, b5, b6, b7, b8, b9, b10, b11⟩ := h1
    refine ⟨?_, ?_, ?_, ?_, ?_, ?_, ?_, ?_, ?_, ?_, ?_, ?_, ?_, ?_, ?_, ?_, ?_⟩
    all_goals first
      | (rw [he _ (by omega) (by omega)]; assumption)
      | (intro j hj; rw [he _ (by omega) (by omega)]; first | exact b2 j hj | exact b1 j hj | exact b3 j hj | exact b4 j hj | exact b5 j hj | exact b6 j hj | exact b7 j hj | exact b8 j hj | exact b9 j hj | exact b10 j hj | exact b11 j hj)
  · obtain ⟨y0, y1, y2⟩ := h3
    refine ⟨by rw [he _ (by omega) (by omega)]; exact y0, by rw [he _ (by omega) (by omega)]; exact y1, fun i hi hv => ?_⟩
    have hsc : scN W.2.2.2.2 i + 1 ≤ scN W.2.2.2.2 W.2.2.2.1 := scN_lt hi hv
    have h30 := hY.2.2.1
    have q := y2 i hi hv
    refine ⟨?_, ?_, ?_, ?_, ?_, ?_⟩
    · rw [he _ (by omega) (by omega)]; exact q.1
    · rw [he _ (by omega) (by omega)]; exact q.2.1
    · rw [he _ (by omega) (by omega)]; exact q.2.2.1
    · rw [he _ (by omega) (by omega)]; exact q.2.2.2.1
    · rw [he _ (by omega) (by omega), he (362 * b + 92 + 9 * scN W.2.2.2.2 i + 6) (by omega) (by omega), he (362 * b + 92 + 9 * scN W.2.2.2.2 i + 7) (by omega) (by omega)]; exact q.2.2.2.2.1
    · rw [he _ (by omega) (by omega)]; exact q.2.2.2.2.2
theorem IM_w {M M1 : Mm} {T : TT} {S' : ST} {n : Nat} (h : IM M T) (hG : TG T) (hV : VM 0 M1 S') (c2 : S' 0 2 = tS T 0 2) (c4 : S' 0 4 = tS T 0 4) (hst : M1.1 132 0 = nI n) (he : ∀ k j, coM k j → ¬ (k = 132 ∧ j = 0) → ¬ (k = 137 ∧ j < 90) → M1.1 k j = M.1 k j) (he2 : ∀ k j, coM k j → M1.2 k j = M.2 k j) : IM M1 (st' (sS T S') n) := by
  obtain ⟨h1, h2, h3, h4, h5, h6, h7, h8⟩ := h
  have hG0 := hG.1
  have hsm : tS T 0 4 ≤ 7 := WF_s hG0.1
  have hmm : tS T 0 2 ≤ 6 := WF_m hG0.1
  have h30 : scN (tY T).2.2 (tY T).2.1 ≤ 30 := hG0.2.2.2.1
  refine ⟨⟨hV, ⟨fun j hj => ?_, fun j hj => ?_⟩, ?_⟩, fun t ht => ?_, ?_, ?_, ?_, ?_, ?_, fun i hi => ?_⟩
  · have hj : j < tS T 0 2 := by rw [← c2]; exact hj
    rw [he2 _ _ (by unfold coM; omega)]; exact h1.2.1.1 j hj
  · have hj : j < tS T 0 4 := by rw [← c4]; exact hj
    rw [he2 _ _ (by unfold coM; omega)]; exact h1.2.1.2 j hj
  · show YM (362 * 0) M1 (tY T)
    have hy : YM (362 * 0) M (tY T) := h1.2.2
    obtain ⟨y0, y1, y2⟩ := hy
    refine ⟨by rw [he _ _ (by unfold coM; omega) (by omega) (by omega)]; exact y0, by rw [he _ _ (by unfold coM; omega) (by omega) (by omega)]; exact y1, fun i hi hv => ?_⟩
    have hi : i < (tY T).2.1 := hi
    have hsc : scN (tY T).2.2 i + 1 ≤ scN (tY T).2.2 (tY T).2.1 := scN_lt hi hv
    have q := y2 i hi hv
    refine ⟨?_, ?_, ?_, ?_, ?_, ?_⟩
    · rw [he _ _ (by unfold coM; omega) (by omega) (by omega)]; exact q.1
    · rw [he _ _ (by unfold coM; omega) (by omega) (by omega)]; exact q.2.1
    · rw [he _ _ (by unfold coM; omega) (by omega) (by omega)]; exact q.2.2.1
    · rw [he _ _ (by unfold coM; omega) (by omega) (by omega)]; exact q.2.2.2.1
    · rw [he _ _ (by unfold coM; omega) (by omega) (by omega), he 137 (362 * 0 + 92 + 9 * scN (tY T).2.2 i + 6) (by unfold coM; omega) (by omega) (by omega), he 137 (362 * 0 + 92 + 9 * scN (tY T).2.2 i + 7) (by unfold coM; omega) (by omega) (by omega)]; exact q.2.2.2.2.1
    · rw [he _ _ (by unfold coM; omega) (by omega) (by omega)]; exact q.2.2.2.2.2
  · have hr : (tR T).1 t ≤ 3 ∧ ∀ n, (tR T).2.1 t = some n → n ≤ 60 := hG.2.1 t ht
    rw [he 133 t (by unfold coM; omega) (by omega) (by omega), he 134 t (by unfold coM; omega) (by omega) (by omega)]
    refine ⟨(h2 t ht).1, (h2 t ht).2.1, fun q hq => ⟨((h2 t ht).2.2 q hq).1, fun j hj => ?_⟩⟩
    have hq60 := hr.2 q hq
    rw [he2 135 _ (by unfold coM; omega)]
    exact ((h2 t ht).2.2 q hq).2 j hj
  · exact ⟨by rw [he _ _ (by unfold coM; omega) (by omega) (by omega)]; exact h3.1, fun j hj => by rw [he _ _ (by unfold coM; omega) (by omega) (by omega)]; exact h3.2 j hj⟩
  · exact ⟨hst, by rw [he2 _ _ (by unfold coM; omega)]; exact h4.2.1, by rw [he2 _ _ (by unfold coM; omega)]; exact h4.2.2⟩
  · exact ⟨by rw [he _ _ (by unfold coM; omega) (by omega) (by omega)]; exact h5.1, by rw [he _ _ (by unfold coM; omega) (by omega) (by omega)]; exact h5.2⟩
  · exact ⟨by rw [he _ _ (by unfold coM; omega) (by omega) (by omega)]; exact h6.1, fun q j hj => by rw [he _ _ (by unfold coM; omega) (by omega) (by omega)]; exact h6.2 q j hj⟩
  · rw [he _ _ (by unfold coM; omega) (by omega) (by omega)]; exact h7
  · have hk : (tK T).1 ≤ 3 := hG.2.2.2.2.2.1
    have hi : i < (tK T).1 := hi
    exact WM_eq (h8 i hi) (hG.2.2.2.2.2.2.1 i hi) (fun j a b => he 137 j (by unfold coM; omega) (by omega) (by omega)) (fun j a b => he2 139 j (by unfold coM; omega))
/-- the end of a call of the model's that changes the wood's numbers, or nothing but the STATUS -/
theorem finM {Q : Option Value → Mm → Prop} {M M1 : Mm} {T : TT} {p : AN} {v : Int32} {n : Nat} {S' : ST} (hQ : ∀ M', IM M' p.2 → keX M M' → Q (some (.int p.1)) M') (hI : IM M T) (hG : TG T) (e : p = (v, st' (sS T S') n)) (hV : VM 0 M1 S') (c2 : S' 0 2 = tS T 0 2) (c4 : S' 0 4 = tS T 0 4) (hst : M1.1 132 0 = nI n) (he : ∀ k j, coM k j → ¬ (k = 132 ∧ j = 0) → ¬ (k = 137 ∧ j < 90) → M1.1 k j = M.1 k j) (he2 : ∀ k j, coM k j → M1.2 k j = M.2 k j) (hk : keX M M1) : Q (some (.int v)) M1 := by
  subst e
  exact hQ _ (IM_w hI hG hV c2 c4 hst he he2) hk
theorem isIn4 {x : Int32} {a b : Int} {lo hi : Int64} (hlo : lo.toInt = a) (hhi : hi.toInt = b) (h : lo.toInt ≤ x.toInt64.toInt ∧ x.toInt64.toInt ≤ hi.toInt) : a ≤ x.toInt ∧ x.toInt ≤ b := by
  rw [hlo, hhi, i64_i32] at h; exact h
theorem isIn4n {x : Int32} {a b : Int} {lo hi : Int64} (hlo : lo.toInt = a) (hhi : hi.toInt = b) (h : ¬ (lo.toInt ≤ x.toInt64.toInt ∧ x.toInt64.toInt ≤ hi.toInt)) : ¬ (a ≤ x.toInt ∧ x.toInt ≤ b) := by
  rw [hlo, hhi, i64_i32] at h; exact h
theorem hi_sub {m : Nat} (h : m < 2 ^ 30) : (nI m - nI 1).toInt64.toInt = (m : Int) - 1 := by rw [i64_i32, nI_sub1 h]

set_option maxRecDepth 100000 in
set_option maxHeartbeats 800000 in
theorem c_X12_refuse {M : Mm} {n : Nat} {Q : Option Value → Mm → Prop} (hQ : Q (some (.int (-1))) (siM M 132 0 (nI n))) (d : Nat) : AMt miX12_refuse (d) [.ref 132, .int (nI n)] M Q := by
  refine AMt.of (by decide) (Nat.le_of_ble_eq_true rfl) ?_
  show AW miX12_refuse (d) (mxA Q) 0 [(0, some (.ref 132)), (1, some (.int (nI n)))] [] M
  refine a_aload_n rfl dX12_refuse_0 ?_
  refine a_iload_n rfl dX12_refuse_1 ?_
  refine a_puti dX12_refuse_2 pX12_72 (by decide) rfl rfl ?_
  refine a_iconst (-1) rfl dX12_refuse_5 ?_
  refine a_iret dX12_refuse_6 rfl ?_
  exact hQ

set_option maxRecDepth 100000 in
set_option maxHeartbeats 800000 in
theorem c_X12_no {M : Mm} {n : Nat} {Q : Option Value → Mm → Prop} (hQ : Q (some (.int (nI 0))) (siM M 132 0 (nI n))) (d : Nat) : AMt miX12_no (d) [.ref 132, .int (nI n)] M Q := by
  refine AMt.of (by decide) (Nat.le_of_ble_eq_true rfl) ?_
  show AW miX12_no (d) (mxA Q) 0 [(0, some (.ref 132)), (1, some (.int (nI n)))] [] M
  refine a_aload_n rfl dX12_no_0 ?_
  refine a_iload_n rfl dX12_no_1 ?_
  refine a_puti dX12_no_2 pX12_72 (by decide) rfl rfl ?_
  refine n_iconst 0 rfl dX12_no_5 ?_
  refine a_zret dX12_no_6 rfl (Or.inl rfl) ?_
  exact hQ

/-- the start of each call of the model's -/
def m0 (M : Mm) : Mm := siM (siM M 132 1 (nI 0)) 132 0 (nI 0)
theorem m0_o {M : Mm} {k j : Nat} (h : k ≠ 132 ∨ (j ≠ 0 ∧ j ≠ 1)) : (m0 M).1 k j = M.1 k j := siN (siN rfl (by omega)) (by omega)
theorem m0_s {M : Mm} : (m0 M).1 132 0 = nI 0 := siS
theorem m0_VM {M : Mm} {S : ST} (h : VM 0 M S) (hF : WF S) : VM 0 (m0 M) S := VM_e h (fun j _ => m0_o (by omega)) hF

theorem stk_eq {S : ST} (hF : WF S) : stkM S = stkN S (S 2) := by
  symm
  unfold stkN stkM
  apply eq_bsN
  intro k
  have hA : ∀ j, (bsN (fun j => decide (100 ≤ S 2 j)) (S 0 2)).testBit j = (decide (j < S 0 2) && decide (100 ≤ S 2 j)) := fun j => bsN_bit _ _ j
  have hB : ∀ j, (orN (fun i => decide (S 2 (S 4 i) < 100)) (S 3) (S 0 3)).testBit j = (List.range (S 0 3)).any (fun i => decide (S 2 (S 4 i) < 100) && S 3 i == j) := fun j => orN_bit _ _ _ j
  rw [Nat.testBit_xor, Nat.testBit_and, hA, hB]
  by_cases hk : k < S 0 2
  · have hc := WF_clear hF k hk
    by_cases h100 : S 2 k = 100
    · simp [hk, h100]
    · have h1 : ¬ 100 ≤ S 2 k := by omega
      have key : (List.range (S 0 3)).any (fun i => decide (S 2 (S 4 i) < 100) && S 3 i == k) = !decide (orN (fun q => S 3 q == k) (S 4) (S 0 3) ^^^ (orN (fun q => S 3 q == k) (S 4) (S 0 3) &&& bsN (fun j => decide (100 ≤ S 2 j)) (S 0 2)) = 0) := by
        by_cases hz : orN (fun q => S 3 q == k) (S 4) (S 0 3) ^^^ (orN (fun q => S 3 q == k) (S 4) (S 0 3) &&& bsN (fun j => decide (100 ≤ S 2 j)) (S 0 2)) = 0
        · rw [decide_eq_true hz]
          show _ = false
          rw [List.any_eq_false]
          intro i hi
          have hi := List.mem_range.mp hi
          have hb := WF_by hF i hi
          have := congrArg (fun z => Nat.testBit z (S 4 i)) hz
          simp only [Nat.testBit_xor, Nat.testBit_and, Nat.zero_testBit, hA, orN_bit] at this
          intro hc2
          simp only [Bool.and_eq_true, decide_eq_true_eq, beq_iff_eq] at hc2
          have ha : (List.range (S 0 3)).any (fun q => S 3 q == k && S 4 q == S 4 i) = true := by
            rw [List.any_eq_true]; exact ⟨i, List.mem_range.mpr hi, by simp [hc2.2]⟩
          rw [ha] at this
          simp [hb] at this
          omega
        · rw [decide_eq_false hz]
          show _ = true
          obtain ⟨j, hj⟩ := Nat.exists_testBit_of_ne_zero hz
          simp only [Nat.testBit_xor, Nat.testBit_and, hA, orN_bit] at hj
          rw [List.any_eq_true]
          cases ha : (List.range (S 0 3)).any (fun q => S 3 q == k && S 4 q == j) with
          | false => rw [ha] at hj; simp at hj
          | true =>
            rw [ha] at hj
            rw [List.any_eq_true] at ha
            obtain ⟨i, hi, h2⟩ := ha
            simp only [Bool.and_eq_true, beq_iff_eq] at h2
            have hb := WF_by hF i (List.mem_range.mp hi)
            rw [h2.2] at hb
            refine ⟨i, hi, ?_⟩
            simp [hb] at hj
            simp [h2.1, h2.2, hj]
      rw [key]
      simp [hk, h100, h1]
  · have hz : (List.range (S 0 3)).any (fun i => decide (S 2 (S 4 i) < 100) && S 3 i == k) = false := by
      rw [List.any_eq_false]
      intro i hi h
      simp only [Bool.and_eq_true, beq_iff_eq] at h
      have := WF_held hF i (List.mem_range.mp hi)
      omega
    simp [hk, hz]

set_option maxRecDepth 100000 in
set_option maxHeartbeats 800000 in
theorem c_X12_satFor {M : Mm} {S : ST} (hM : VM 0 M S) (hF : WF S) {k : Nat} (hk : k < S 0 2) {Q : Option Value → Mm → Prop} (hQ : Q (some (.int (nI (satN S k)))) M) (d : Nat) : AMt miX12_satFor (d) [.ref 132, .int (nI k)] M Q := by
  refine AMt.of (by decide) (Nat.le_of_ble_eq_true rfl) ?_
  show AW miX12_satFor (d) (mxA Q) 0 [(0, some (.ref 132)), (1, some (.int (nI k)))] [] M
  have hm := WF_m hF
  have hh := WF_h hF
  have hs := WF_s hF
  have hn := WF_n hF
  refine n_iconst 0 rfl dX12_satFor_0 ?_
  refine a_istore_n (by decide) rfl dX12_satFor_1 ?_
  refine n_iconst 0 rfl dX12_satFor_2 ?_
  refine a_istore_n (by decide) rfl dX12_satFor_3 ?_
  have loop_4 : ∀ i, i ≤ S 0 4 → AW miX12_satFor (d) (mxA Q) 4 [(0, some (.ref 132)), (1, some (.int (nI k))), (2, some (.int (nI (bsN (fun j => S 7 j == k) i)))), (3, some (.int (nI i)))] [] M := by
    refine up (S 0 4) ?_ (fun i hi_4 ih_4 => ?_)
    · refine a_iload_n rfl dX12_satFor_4 ?_
      refine a_aload_n rfl dX12_satFor_5 ?_
      refine a_geta dX12_satFor_6 fX12_35 (by decide) rfl rfl ?_
      refine n_iconst 2 rfl dX12_satFor_9 ?_
      refine v_iald (by omega) (VM_s2 hM) (by decide) rfl (by decide) dX12_satFor_10 ?_
      refine n_icmp_ge 43 (by omega) (by omega) dX12_satFor_11 (by decide) (fun h_11 => ?_) (fun h_11 => absurd h_11 (by omega))
      refine a_iload_n rfl dX12_satFor_43 ?_
      refine a_iret dX12_satFor_44 rfl ?_
      exact hQ
    · have h1 := WF_for hF i hi_4
      refine a_iload_n rfl dX12_satFor_4 ?_
      refine a_aload_n rfl dX12_satFor_5 ?_
      refine a_geta dX12_satFor_6 fX12_35 (by decide) rfl rfl ?_
      refine n_iconst 2 rfl dX12_satFor_9 ?_
      refine v_iald (by omega) (VM_s2 hM) (by decide) rfl (by decide) dX12_satFor_10 ?_
      refine n_icmp_ge 43 (by omega) (by omega) dX12_satFor_11 (by decide) (fun h_11 => absurd h_11 (by omega)) (fun h_11 => ?_)
      refine a_iload_n rfl dX12_satFor_14 ?_
      refine a_aload_n rfl dX12_satFor_15 ?_
      refine a_geta dX12_satFor_16 fX12_35 (by decide) rfl rfl ?_
      refine n_bipush 52 rfl dX12_satFor_19 ?_
      refine a_iload_n rfl dX12_satFor_21 ?_
      refine n_iadd dX12_satFor_22 ?_
      refine v_iald (by omega) (VM_a52 hM (j := i) (by omega)) (by decide) rfl (by decide) dX12_satFor_23 ?_
      refine a_iload_n rfl dX12_satFor_24 ?_
      refine n_icmp_ne 34 (by omega) (by omega) dX12_satFor_25 (by decide) (fun h_25 => ?_) (fun h_25 => ?_)
      · refine n_iconst 0 rfl dX12_satFor_34 ?_
        refine n_ior dX12_satFor_35 ?_
        refine a_istore_n (by decide) rfl dX12_satFor_36 ?_
        refine n_iinc (c := 1) rfl rfl (by decide) rfl dX12_satFor_37 ?_
        refine a_goto 4 dX12_satFor_40 (by decide) ?_
        rw [show bsN (fun j => S 7 j == k) (i + 1) = (bsN (fun j => S 7 j == k) i) ||| 0 by simp [bsN, h_25]] at ih_4
        exact a_bk ih_4 ⟨rfl, rfl, rfl, rfl, trivial⟩
      · refine n_iconst 1 rfl dX12_satFor_28 ?_
        refine a_iload_n rfl dX12_satFor_29 ?_
        refine n_bit (by omega) dX12_satFor_30 ?_
        refine a_goto 35 dX12_satFor_31 (by decide) ?_
        refine n_ior dX12_satFor_35 ?_
        refine a_istore_n (by decide) rfl dX12_satFor_36 ?_
        refine n_iinc (c := 1) rfl rfl (by decide) rfl dX12_satFor_37 ?_
        refine a_goto 4 dX12_satFor_40 (by decide) ?_
        rw [show bsN (fun j => S 7 j == k) (i + 1) = (bsN (fun j => S 7 j == k) i) ||| (2 ^ i) by simp [bsN, h_25]] at ih_4
        exact a_bk ih_4 ⟨rfl, rfl, rfl, rfl, trivial⟩
  exact a_bk (loop_4 0 (by omega)) ⟨rfl, rfl, rfl, rfl, trivial⟩

set_option maxRecDepth 100000 in
set_option maxHeartbeats 800000 in
theorem c_X12_cameOnes {M : Mm} {S : ST} (hM : VM 0 M S) (hF : WF S) {Q : Option Value → Mm → Prop} (hQ : Q (some (.int (nI (cameN S)))) M) (d : Nat) : AMt miX12_cameOnes (d) [.ref 132] M Q := by
  refine AMt.of (by decide) (Nat.le_of_ble_eq_true rfl) ?_
  show AW miX12_cameOnes (d) (mxA Q) 0 [(0, some (.ref 132))] [] M
  have hm := WF_m hF
  have hh := WF_h hF
  have hs := WF_s hF
  have hn := WF_n hF
  refine n_iconst 0 rfl dX12_cameOnes_0 ?_
  refine a_istore_n (by decide) rfl dX12_cameOnes_1 ?_
  refine n_iconst 0 rfl dX12_cameOnes_2 ?_
  refine a_istore_n (by decide) rfl dX12_cameOnes_3 ?_
  have loop_4 : ∀ i, i ≤ S 0 5 → AW miX12_cameOnes (d) (mxA Q) 4 [(0, some (.ref 132)), (1, some (.int (nI (bsN (fun j => S 11 j == 1) i)))), (2, some (.int (nI i)))] [] M := by
    refine up (S 0 5) ?_ (fun i hi_4 ih_4 => ?_)
    · refine a_iload_n rfl dX12_cameOnes_4 ?_
      refine a_aload_n rfl dX12_cameOnes_5 ?_
      refine a_geta dX12_cameOnes_6 fX12_35 (by decide) rfl rfl ?_
      refine n_iconst 3 rfl dX12_cameOnes_9 ?_
      refine v_iald (by omega) (VM_s3 hM) (by decide) rfl (by decide) dX12_cameOnes_10 ?_
      refine n_icmp_ge 34 (by omega) (by omega) dX12_cameOnes_11 (by decide) (fun h_11 => ?_) (fun h_11 => absurd h_11 (by omega))
      refine a_iload_n rfl dX12_cameOnes_34 ?_
      refine a_iret dX12_cameOnes_35 rfl ?_
      exact hQ
    · have hcm := WF_came hF i hi_4
      have hp8 := pow_le (show i ≤ 8 by omega)
      have hmul : S 11 i * 2 ^ i ≤ 1 * 2 ^ i := Nat.mul_le_mul_right _ hcm
      refine a_iload_n rfl dX12_cameOnes_4 ?_
      refine a_aload_n rfl dX12_cameOnes_5 ?_
      refine a_geta dX12_cameOnes_6 fX12_35 (by decide) rfl rfl ?_
      refine n_iconst 3 rfl dX12_cameOnes_9 ?_
      refine v_iald (by omega) (VM_s3 hM) (by decide) rfl (by decide) dX12_cameOnes_10 ?_
      refine n_icmp_ge 34 (by omega) (by omega) dX12_cameOnes_11 (by decide) (fun h_11 => absurd h_11 (by omega)) (fun h_11 => ?_)
      refine a_iload_n rfl dX12_cameOnes_14 ?_
      refine a_aload_n rfl dX12_cameOnes_15 ?_
      refine a_geta dX12_cameOnes_16 fX12_35 (by decide) rfl rfl ?_
      refine n_bipush 82 rfl dX12_cameOnes_19 ?_
      refine a_iload_n rfl dX12_cameOnes_21 ?_
      refine n_iadd dX12_cameOnes_22 ?_
      refine v_iald (by omega) (VM_a82 hM (j := i) (by omega)) (by decide) rfl (by decide) dX12_cameOnes_23 ?_
      refine a_iload_n rfl dX12_cameOnes_24 ?_
      have hcm := WF_came hF i (by omega)
      refine n_shl (by omega) (by omega) dX12_cameOnes_25 ?_
      refine n_ior dX12_cameOnes_26 ?_
      refine a_istore_n (by decide) rfl dX12_cameOnes_27 ?_
      refine n_iinc (c := 1) rfl rfl (by decide) rfl dX12_cameOnes_28 ?_
      refine a_goto 4 dX12_cameOnes_31 (by decide) ?_
      have e : bsN (fun j => S 11 j == 1) (i + 1) = (bsN (fun j => S 11 j == 1) i) ||| ((S 11 i) * 2 ^ i) := by
        rcases (show S 11 i = 0 ∨ S 11 i = 1 by omega) with h | h <;> simp [bsN, h]
      rw [e] at ih_4
      exact a_bk ih_4 ⟨rfl, rfl, rfl, trivial⟩
  exact a_bk (loop_4 0 (by omega)) ⟨rfl, rfl, rfl, trivial⟩

set_option maxRecDepth 100000 in
set_option maxHeartbeats 800000 in
theorem c_X12_loadOf {M : Mm} {S : ST} (hM : VM 0 M S) (hF : WF S) {k : Nat} (hk : k < S 0 2) {Q : Option Value → Mm → Prop} (hq1 : ∀ v, loadN S k = some v → Q (some (.int (nI v))) M) (hq0 : loadN S k = none → Q (some (.int (-1))) M) (d : Nat) : AMt miX12_loadOf (d) [.ref 132, .int (nI k)] M Q := by
  refine AMt.of (by decide) (Nat.le_of_ble_eq_true rfl) ?_
  show AW miX12_loadOf (d) (mxA Q) 0 [(0, some (.ref 132)), (1, some (.int (nI k)))] [] M
  have hm := WF_m hF
  have hh := WF_h hF
  have hs := WF_s hF
  have hn := WF_n hF
  have h1 := WF_clear hF k hk
  have h2 := WF_pace hF k hk
  refine n_bipush 100 rfl dX12_loadOf_0 ?_
  refine a_aload_n rfl dX12_loadOf_2 ?_
  refine a_geta dX12_loadOf_3 fX12_35 (by decide) rfl rfl ?_
  refine n_bipush 6 rfl dX12_loadOf_6 ?_
  refine a_iload_n rfl dX12_loadOf_8 ?_
  refine n_iadd dX12_loadOf_9 ?_
  refine v_iald (by omega) (VM_a6 hM (j := k) (by omega)) (by decide) rfl (by decide) dX12_loadOf_10 ?_
  refine n_isub (by omega) dX12_loadOf_11 ?_
  refine a_istore_n (by decide) rfl dX12_loadOf_12 ?_
  refine a_aload_n rfl dX12_loadOf_13 ?_
  refine a_geta dX12_loadOf_14 fX12_35 (by decide) rfl rfl ?_
  refine n_bipush 12 rfl dX12_loadOf_17 ?_
  refine a_iload_n rfl dX12_loadOf_19 ?_
  refine n_iadd dX12_loadOf_20 ?_
  refine v_iald (by omega) (VM_a12 hM (j := k) (by omega)) (by decide) rfl (by decide) dX12_loadOf_21 ?_
  refine a_istore_n (by decide) rfl dX12_loadOf_22 ?_
  refine a_iload_n rfl dX12_loadOf_23 ?_
  refine n_if_ne 29 (by omega) dX12_loadOf_24 (by decide) (fun h_24 => ?_) (fun h_24 => ?_)
  · refine a_iload_n rfl dX12_loadOf_29 ?_
    refine n_if_ne 37 (by omega) dX12_loadOf_30 (by decide) (fun h_30 => ?_) (fun h_30 => ?_)
    · refine a_iload_n rfl dX12_loadOf_37 ?_
      refine a_iload_n rfl dX12_loadOf_38 ?_
      refine n_iadd dX12_loadOf_39 ?_
      refine n_iconst 1 rfl dX12_loadOf_40 ?_
      refine n_isub (by omega) dX12_loadOf_41 ?_
      refine a_iload_n rfl dX12_loadOf_42 ?_
      refine n_idiv (by omega) (by omega) (by omega) dX12_loadOf_43 ?_
      refine a_iret dX12_loadOf_44 rfl ?_
      exact hq1 _ (by unfold loadN; rw [if_neg (by omega), if_neg (by omega)])
    · refine a_iconst (-1) rfl dX12_loadOf_33 ?_
      refine a_goto 44 dX12_loadOf_34 (by decide) ?_
      refine a_iret dX12_loadOf_44 rfl ?_
      exact hq0 (by unfold loadN; rw [if_neg (by omega), if_pos (by omega)])
  · refine n_iconst 0 rfl dX12_loadOf_27 ?_
    refine a_iret dX12_loadOf_28 rfl ?_
    exact hq1 _ (by unfold loadN; rw [if_pos (by omega)])

set_option maxRecDepth 100000 in
set_option maxHeartbeats 800000 in
theorem c_X12_many {M : Mm} {T : TT} (hI : IM M T) (hG : TG T) {x : Int32} {Q : Option Value → Mm → Prop} (hQ : ∀ M', IM M' (sp_many x T).2 → keX M M' → Q (some (.int (sp_many x T).1)) M') (d : Nat) : AMt miX12_many (d + 4) [.ref 132, .int x] M Q := by
  refine AMt.of (by decide) (Nat.le_of_ble_eq_true rfl) ?_
  show AW miX12_many (d + 4) (mxA Q) 0 [(0, some (.ref 132)), (1, some (.int x))] [] M
  have hF : WF (tS T) := hG.1.1
  have hM : VM 0 M (tS T) := hI.1.1
  have hM1 := m0_VM hM hF
  have hm := WF_m hF
  have hh := WF_h hF
  have hs := WF_s hF
  have hn := WF_n hF
  refine a_aload_n rfl dX12_many_0 ?_
  refine n_iconst 0 rfl dX12_many_1 ?_
  refine a_puti dX12_many_2 pX12_69 (by decide) rfl rfl ?_
  refine a_aload_n rfl dX12_many_5 ?_
  refine n_iconst 0 rfl dX12_many_6 ?_
  refine a_puti dX12_many_7 pX12_72 (by decide) rfl rfl ?_
  show AW miX12_many (d + 4) (mxA Q) 10 [(0, some (.ref 132)), (1, some (.int x))] [] (m0 M)
  refine a_iload_n rfl dX12_many_10 ?_
  refine a_i2l dX12_many_11 ?_
  refine a_lconst 0 rfl dX12_many_12 ?_
  refine a_ldc2 kX12_343 dX12_many_13 ?_
  refine n_callS (mi' := miX12_isIn) dX12_many_16 lX12_104 mX12_isIn (c_X12_isIn (fun h_16 => ?_) (fun h_16 => ?_) d) rfl rfl (by omega) (by decide) (Nat.le_of_ble_eq_true rfl)
  · show AW _ _ _ _ _ _ _
    have h_16 := isIn4 (x := x) (a := 0) (b := 9) (by decide) (by decide) h_16
    refine n_if_ne 28 (by decide) dX12_many_19 (by decide) (fun _ => ?_) (fun h => absurd h (by decide))
    obtain ⟨j1, hj1, rfl⟩ := inR_of (x := x) (m := 10) (by omega) (by omega) (by omega)
    have t_j1 : (nI j1).toInt = (j1 : Int) := nI_toInt (by omega)
    refine a_iload_n rfl dX12_many_28 ?_
    refine n_bipush 6 rfl dX12_many_29 ?_
    refine n_icmp_ge 41 (by omega) (by omega) dX12_many_31 (by decide) (fun h_31 => ?_) (fun h_31 => ?_)
    · refine a_iload_n rfl dX12_many_41 ?_
      refine n_bipush 6 rfl dX12_many_42 ?_
      refine n_icmp_ne 54 (by omega) (by omega) dX12_many_44 (by decide) (fun h_44 => ?_) (fun h_44 => ?_)
      · refine a_iload_n rfl dX12_many_54 ?_
        refine n_bipush 7 rfl dX12_many_55 ?_
        refine n_icmp_ne 67 (by omega) (by omega) dX12_many_57 (by decide) (fun h_57 => ?_) (fun h_57 => ?_)
        · refine a_iload_n rfl dX12_many_67 ?_
          refine n_bipush 8 rfl dX12_many_68 ?_
          refine n_icmp_ne 80 (by omega) (by omega) dX12_many_70 (by decide) (fun h_70 => ?_) (fun h_70 => ?_)
          · refine a_aload_n rfl dX12_many_80 ?_
            refine n_callV (mi' := miX12_cameOnes) dX12_many_81 lX12_354 mX12_cameOnes (by decide) rfl rfl rfl (c_X12_cameOnes hM1 hF  ?_ d) rfl rfl (by omega) (by decide) (Nat.le_of_ble_eq_true rfl)
            show AW _ _ _ _ _ _ _
            refine a_iret dX12_many_84 rfl ?_
            exact finM hQ hI hG (S' := (tS T)) (by unfold sp_many; rw [if_pos (by omega), idx_nI (show j1 < 2 ^ 31 by omega), show j1 = 9 by omega]; rfl) (VM_e hM (fun j hj => (m0_o (by omega))) hF) rfl rfl m0_s (fun k j h h0 hw => (m0_o (by unfold coM at h; omega))) (fun k j h => rfl) ⟨fun k hk => funext fun j => (m0_o (by omega)), fun k hk => funext fun j => rfl⟩
          · refine a_aload_n rfl dX12_many_73 ?_
            refine n_callV (mi' := miX12_downOnes) dX12_many_74 lX12_351 mX12_downOnes (by decide) rfl rfl rfl (c_X12_downOnes hM1 hF  ?_ d) rfl rfl (by omega) (by decide) (Nat.le_of_ble_eq_true rfl)
            show AW _ _ _ _ _ _ _
            refine a_goto 84 dX12_many_77 (by decide) ?_
            refine a_iret dX12_many_84 rfl ?_
            exact finM hQ hI hG (S' := (tS T)) (by unfold sp_many; rw [if_pos (by omega), idx_nI (show j1 < 2 ^ 31 by omega), show j1 = 8 by omega]; rfl) (VM_e hM (fun j hj => (m0_o (by omega))) hF) rfl rfl m0_s (fun k j h h0 hw => (m0_o (by unfold coM at h; omega))) (fun k j h => rfl) ⟨fun k hk => funext fun j => (m0_o (by omega)), fun k hk => funext fun j => rfl⟩
        · refine a_aload_n rfl dX12_many_60 ?_
          refine n_callV (mi' := miX12_stuckOnes) dX12_many_61 lX12_348 mX12_stuckOnes (by decide) rfl rfl rfl (c_X12_stuckOnes hM1 hF  ?_ d) rfl rfl (by omega) (by decide) (Nat.le_of_ble_eq_true rfl)
          show AW _ _ _ _ _ _ _
          refine a_goto 84 dX12_many_64 (by decide) ?_
          refine a_iret dX12_many_84 rfl ?_
          exact finM hQ hI hG (S' := (tS T)) (by unfold sp_many; rw [if_pos (by omega), idx_nI (show j1 < 2 ^ 31 by omega), show j1 = 7 by omega]; rw [stk_eq hF]; rfl) (VM_e hM (fun j hj => (m0_o (by omega))) hF) rfl rfl m0_s (fun k j h h0 hw => (m0_o (by unfold coM at h; omega))) (fun k j h => rfl) ⟨fun k hk => funext fun j => (m0_o (by omega)), fun k hk => funext fun j => rfl⟩
      · refine a_aload_n rfl dX12_many_47 ?_
        refine n_callV (mi' := miX12_settledOnes) dX12_many_48 lX12_331 mX12_settledOnes (by decide) rfl rfl rfl (c_X12_settledOnes hM1 hF  ?_ d) rfl rfl (by omega) (by decide) (Nat.le_of_ble_eq_true rfl)
        show AW _ _ _ _ _ _ _
        refine a_goto 84 dX12_many_51 (by decide) ?_
        refine a_iret dX12_many_84 rfl ?_
        exact finM hQ hI hG (S' := (tS T)) (by unfold sp_many; rw [if_pos (by omega), idx_nI (show j1 < 2 ^ 31 by omega), show j1 = 6 by omega]; rfl) (VM_e hM (fun j hj => (m0_o (by omega))) hF) rfl rfl m0_s (fun k j h h0 hw => (m0_o (by unfold coM at h; omega))) (fun k j h => rfl) ⟨fun k hk => funext fun j => (m0_o (by omega)), fun k hk => funext fun j => rfl⟩
    · refine a_aload_n rfl dX12_many_34 ?_
      refine a_geta dX12_many_35 fX12_35 (by decide) rfl rfl ?_
      refine a_iload_n rfl dX12_many_38 ?_
      rcases (show j1 = 0 ∨ j1 = 1 ∨ j1 = 2 ∨ j1 = 3 ∨ j1 = 4 ∨ j1 = 5 by omega) with hv_j1 | hv_j1 | hv_j1 | hv_j1 | hv_j1 | hv_j1
      · refine a_eqi (y := nI (0)) (congrArg nI (by omega)) ?_
        refine v_iald (by omega) (VM_s0 hM1) (by decide) rfl (by decide) dX12_many_39 ?_
        refine a_iret dX12_many_40 rfl ?_
        exact finM hQ hI hG (S' := (tS T)) (by unfold sp_many; rw [if_pos (by omega), idx_nI (show j1 < 2 ^ 31 by omega), show j1 = 0 by omega]; rfl) (VM_e hM (fun j hj => (m0_o (by omega))) hF) rfl rfl m0_s (fun k j h h0 hw => (m0_o (by unfold coM at h; omega))) (fun k j h => rfl) ⟨fun k hk => funext fun j => (m0_o (by omega)), fun k hk => funext fun j => rfl⟩
      · refine a_eqi (y := nI (1)) (congrArg nI (by omega)) ?_
        refine v_iald (by omega) (VM_s1 hM1) (by decide) rfl (by decide) dX12_many_39 ?_
        refine a_iret dX12_many_40 rfl ?_
        exact finM hQ hI hG (S' := (tS T)) (by unfold sp_many; rw [if_pos (by omega), idx_nI (show j1 < 2 ^ 31 by omega), show j1 = 1 by omega]; rfl) (VM_e hM (fun j hj => (m0_o (by omega))) hF) rfl rfl m0_s (fun k j h h0 hw => (m0_o (by unfold coM at h; omega))) (fun k j h => rfl) ⟨fun k hk => funext fun j => (m0_o (by omega)), fun k hk => funext fun j => rfl⟩
      · refine a_eqi (y := nI (2)) (congrArg nI (by omega)) ?_
        refine v_iald (by omega) (VM_s2 hM1) (by decide) rfl (by decide) dX12_many_39 ?_
        refine a_iret dX12_many_40 rfl ?_
        exact finM hQ hI hG (S' := (tS T)) (by unfold sp_many; rw [if_pos (by omega), idx_nI (show j1 < 2 ^ 31 by omega), show j1 = 2 by omega]; rfl) (VM_e hM (fun j hj => (m0_o (by omega))) hF) rfl rfl m0_s (fun k j h h0 hw => (m0_o (by unfold coM at h; omega))) (fun k j h => rfl) ⟨fun k hk => funext fun j => (m0_o (by omega)), fun k hk => funext fun j => rfl⟩
      · refine a_eqi (y := nI (3)) (congrArg nI (by omega)) ?_
        refine v_iald (by omega) (VM_s3 hM1) (by decide) rfl (by decide) dX12_many_39 ?_
        refine a_iret dX12_many_40 rfl ?_
        exact finM hQ hI hG (S' := (tS T)) (by unfold sp_many; rw [if_pos (by omega), idx_nI (show j1 < 2 ^ 31 by omega), show j1 = 3 by omega]; rfl) (VM_e hM (fun j hj => (m0_o (by omega))) hF) rfl rfl m0_s (fun k j h h0 hw => (m0_o (by unfold coM at h; omega))) (fun k j h => rfl) ⟨fun k hk => funext fun j => (m0_o (by omega)), fun k hk => funext fun j => rfl⟩
      · refine a_eqi (y := nI (4)) (congrArg nI (by omega)) ?_
        refine v_iald (by omega) (VM_s4 hM1) (by decide) rfl (by decide) dX12_many_39 ?_
        refine a_iret dX12_many_40 rfl ?_
        exact finM hQ hI hG (S' := (tS T)) (by unfold sp_many; rw [if_pos (by omega), idx_nI (show j1 < 2 ^ 31 by omega), show j1 = 4 by omega]; rfl) (VM_e hM (fun j hj => (m0_o (by omega))) hF) rfl rfl m0_s (fun k j h h0 hw => (m0_o (by unfold coM at h; omega))) (fun k j h => rfl) ⟨fun k hk => funext fun j => (m0_o (by omega)), fun k hk => funext fun j => rfl⟩
      · refine a_eqi (y := nI (5)) (congrArg nI (by omega)) ?_
        refine v_iald (by omega) (VM_s5 hM1) (by decide) rfl (by decide) dX12_many_39 ?_
        refine a_iret dX12_many_40 rfl ?_
        exact finM hQ hI hG (S' := (tS T)) (by unfold sp_many; rw [if_pos (by omega), idx_nI (show j1 < 2 ^ 31 by omega), show j1 = 5 by omega]; rfl) (VM_e hM (fun j hj => (m0_o (by omega))) hF) rfl rfl m0_s (fun k j h h0 hw => (m0_o (by unfold coM at h; omega))) (fun k j h => rfl) ⟨fun k hk => funext fun j => (m0_o (by omega)), fun k hk => funext fun j => rfl⟩
  · show AW _ _ _ _ _ _ _
    have h_16 := isIn4n (x := x) (a := 0) (b := 9) (by decide) (by decide) h_16
    refine n_if_ne 28 (by decide) dX12_many_19 (by decide) (fun h => absurd h (by decide)) (fun _ => ?_)
    refine a_aload_n rfl dX12_many_22 ?_
    refine n_iconst 5 rfl dX12_many_23 ?_
    refine n_callV (mi' := miX12_refuse) dX12_many_24 lX12_345 mX12_refuse (by decide) rfl rfl rfl (c_X12_refuse ?_ d) rfl rfl (by omega) (by decide) (Nat.le_of_ble_eq_true rfl)
    show AW _ _ _ _ _ _ _
    refine a_iret dX12_many_27 rfl ?_
    exact finM hQ hI hG (S' := (tS T)) (by unfold sp_many; rw [if_neg (by omega)]) (VM_e hM (fun j hj => (siN (m0_o (by omega)) (by omega))) hF) rfl rfl siS (fun k j h h0 hw => (siN (m0_o (by unfold coM at h; omega)) (by unfold coM at h; omega))) (fun k j h => rfl) ⟨fun k hk => funext fun j => (siN (m0_o (by omega)) (by omega)), fun k hk => funext fun j => rfl⟩

set_option maxRecDepth 100000 in
set_option maxHeartbeats 800000 in
theorem c_X12_answer {M : Mm} {v : Int32} {Q : Option Value → Mm → Prop} (h1 : 0 ≤ v.toInt → Q (some (.int v)) M) (h0 : ¬ 0 ≤ v.toInt → Q (some (.int (-1))) (siM M 132 0 (nI 8))) (d : Nat) : AMt miX12_answer (d + 1) [.ref 132, .int v] M Q := by
  refine AMt.of (by decide) (Nat.le_of_ble_eq_true rfl) ?_
  show AW miX12_answer (d + 1) (mxA Q) 0 [(0, some (.ref 132)), (1, some (.int v))] [] M
  refine a_iload_n rfl dX12_answer_0 ?_
  refine r_if_ge 13 dX12_answer_1 (by decide) (fun h_1 => ?_) (fun h_1 => ?_)
  · refine a_iload_n rfl dX12_answer_13 ?_
    refine a_iret dX12_answer_14 rfl ?_
    exact h1 h_1
  · refine a_aload_n rfl dX12_answer_4 ?_
    refine n_bipush 8 rfl dX12_answer_5 ?_
    refine n_callV (mi' := miX12_refuse) dX12_answer_7 lX12_345 mX12_refuse (by decide) rfl rfl rfl (c_X12_refuse ?_ d) rfl rfl (by omega) (by decide) (Nat.le_of_ble_eq_true rfl)
    show AW _ _ _ _ _ _ _
    refine a_goto 14 dX12_answer_10 (by decide) ?_
    refine a_iret dX12_answer_14 rfl ?_
    exact h0 h_1

set_option maxRecDepth 100000 in
set_option maxHeartbeats 800000 in
theorem c_X12_matter {M : Mm} {T : TT} (hI : IM M T) (hG : TG T) {k : Int32} {x : Int32} {Q : Option Value → Mm → Prop} (hQ : ∀ M', IM M' (sp_matter k x T).2 → keX M M' → Q (some (.int (sp_matter k x T).1)) M') (d : Nat) : AMt miX12_matter (d + 4) [.ref 132, .int k, .int x] M Q := by
  refine AMt.of (by decide) (Nat.le_of_ble_eq_true rfl) ?_
  show AW miX12_matter (d + 4) (mxA Q) 0 [(0, some (.ref 132)), (1, some (.int k)), (2, some (.int x))] [] M
  have hF : WF (tS T) := hG.1.1
  have hM : VM 0 M (tS T) := hI.1.1
  have hM1 := m0_VM hM hF
  have hm := WF_m hF
  have hh := WF_h hF
  have hs := WF_s hF
  have hn := WF_n hF
  refine a_aload_n rfl dX12_matter_0 ?_
  refine n_iconst 0 rfl dX12_matter_1 ?_
  refine a_puti dX12_matter_2 pX12_69 (by decide) rfl rfl ?_
  refine a_aload_n rfl dX12_matter_5 ?_
  refine n_iconst 0 rfl dX12_matter_6 ?_
  refine a_puti dX12_matter_7 pX12_72 (by decide) rfl rfl ?_
  show AW miX12_matter (d + 4) (mxA Q) 10 [(0, some (.ref 132)), (1, some (.int k)), (2, some (.int x))] [] (m0 M)
  refine a_aload_n rfl dX12_matter_10 ?_
  refine a_iload_n rfl dX12_matter_11 ?_
  refine n_callV (mi' := miX12_isMatterAt) dX12_matter_12 lX12_357 mX12_isMatterAt (by decide) rfl rfl rfl (c_X12_isMatterAt hM1 hF (fun j_12 h_12 e_12 => ?_) (fun h_12 => ?_) d) rfl rfl (by omega) (by decide) (Nat.le_of_ble_eq_true rfl)
  · show AW _ _ _ _ _ _ _
    subst e_12
    have t_12 : (nI j_12).toInt = (j_12 : Int) := nI_toInt (by omega)
    refine n_if_ne 24 (by decide) dX12_matter_15 (by decide) (fun _ => ?_) (fun h => absurd h (by decide))
    refine a_iload_n rfl dX12_matter_24 ?_
    refine a_i2l dX12_matter_25 ?_
    refine a_lconst 0 rfl dX12_matter_26 ?_
    refine a_ldc2 kX12_360 dX12_matter_27 ?_
    refine n_callS (mi' := miX12_isIn) dX12_matter_30 lX12_104 mX12_isIn (c_X12_isIn (fun h_30 => ?_) (fun h_30 => ?_) d) rfl rfl (by omega) (by decide) (Nat.le_of_ble_eq_true rfl)
    · show AW _ _ _ _ _ _ _
      have h_30 := isIn4 (x := x) (a := 0) (b := 4) (by decide) (by decide) h_30
      refine n_if_ne 42 (by decide) dX12_matter_33 (by decide) (fun _ => ?_) (fun h => absurd h (by decide))
      obtain ⟨j2, hj2, rfl⟩ := inR_of (x := x) (m := 5) (by omega) (by omega) (by omega)
      have t_j2 : (nI j2).toInt = (j2 : Int) := nI_toInt (by omega)
      refine a_iload_n rfl dX12_matter_42 ?_
      refine n_iconst 2 rfl dX12_matter_43 ?_
      refine n_icmp_ge 62 (by omega) (by omega) dX12_matter_44 (by decide) (fun h_44 => ?_) (fun h_44 => ?_)
      · refine a_iload_n rfl dX12_matter_62 ?_
        refine n_iconst 2 rfl dX12_matter_63 ?_
        refine n_icmp_ne 75 (by omega) (by omega) dX12_matter_64 (by decide) (fun h_64 => ?_) (fun h_64 => ?_)
        · refine a_iload_n rfl dX12_matter_75 ?_
          refine n_iconst 3 rfl dX12_matter_76 ?_
          refine n_icmp_ne 88 (by omega) (by omega) dX12_matter_77 (by decide) (fun h_77 => ?_) (fun h_77 => ?_)
          · refine a_aload_n rfl dX12_matter_88 ?_
            refine a_aload_n rfl dX12_matter_89 ?_
            refine a_iload_n rfl dX12_matter_90 ?_
            refine n_callV (mi' := miX12_loadOf) dX12_matter_91 lX12_365 mX12_loadOf (by decide) rfl rfl rfl (c_X12_loadOf hM1 hF (by omega) (fun v_91 hl_91 => ?_) (fun hl_91 => ?_) d) rfl rfl (by omega) (by decide) (Nat.le_of_ble_eq_true rfl)
            · show AW _ _ _ _ _ _ _
              have hv_91 : v_91 ≤ 200 := loadN_le (WF_clear hF j_12 (by omega)) (WF_pace hF j_12 (by omega)) hl_91
              refine n_callV (mi' := miX12_answer) dX12_matter_94 lX12_368 mX12_answer (by decide) rfl rfl rfl (c_X12_answer (fun _ => ?_) (fun e => absurd (by rw [nI_toInt (by omega)]; omega) e)  d) rfl rfl (by omega) (by decide) (Nat.le_of_ble_eq_true rfl)
              show AW _ _ _ _ _ _ _
              refine a_iret dX12_matter_97 rfl ?_
              exact finM hQ hI hG (S' := (tS T)) (by unfold sp_matter; rw [if_pos (by omega), if_pos (by omega), idx_nI (show j_12 < 2 ^ 31 by omega), idx_nI (show j2 < 2 ^ 31 by omega)]; rw [show j2 = 4 by omega]; simp [hl_91]) (VM_e hM (fun j hj => (m0_o (by omega))) hF) rfl rfl m0_s (fun k j h h0 hw => (m0_o (by unfold coM at h; omega))) (fun k j h => rfl) ⟨fun k hk => funext fun j => (m0_o (by omega)), fun k hk => funext fun j => rfl⟩
            · show AW _ _ _ _ _ _ _
              refine n_callV (mi' := miX12_answer) dX12_matter_94 lX12_368 mX12_answer (by decide) rfl rfl rfl (c_X12_answer (fun e => absurd e (by decide)) (fun _ => ?_)  d) rfl rfl (by omega) (by decide) (Nat.le_of_ble_eq_true rfl)
              show AW _ _ _ _ _ _ _
              refine a_iret dX12_matter_97 rfl ?_
              exact finM hQ hI hG (S' := (tS T)) (by unfold sp_matter; rw [if_pos (by omega), if_pos (by omega), idx_nI (show j_12 < 2 ^ 31 by omega), idx_nI (show j2 < 2 ^ 31 by omega)]; rw [show j2 = 4 by omega]; simp [hl_91]) (VM_e hM (fun j hj => (siN (m0_o (by omega)) (by omega))) hF) rfl rfl siS (fun k j h h0 hw => (siN (m0_o (by unfold coM at h; omega)) (by unfold coM at h; omega))) (fun k j h => rfl) ⟨fun k hk => funext fun j => (siN (m0_o (by omega)) (by omega)), fun k hk => funext fun j => rfl⟩
          · refine a_aload_n rfl dX12_matter_80 ?_
            refine a_iload_n rfl dX12_matter_81 ?_
            refine n_callV (mi' := miX12_satFor) dX12_matter_82 lX12_362 mX12_satFor (by decide) rfl rfl rfl (c_X12_satFor hM1 hF (by omega) ?_ d) rfl rfl (by omega) (by decide) (Nat.le_of_ble_eq_true rfl)
            show AW _ _ _ _ _ _ _
            refine a_goto 97 dX12_matter_85 (by decide) ?_
            refine a_iret dX12_matter_97 rfl ?_
            exact finM hQ hI hG (S' := (tS T)) (by unfold sp_matter; rw [if_pos (by omega), if_pos (by omega), idx_nI (show j_12 < 2 ^ 31 by omega), idx_nI (show j2 < 2 ^ 31 by omega)]; rw [show j2 = 3 by omega]; rfl) (VM_e hM (fun j hj => (m0_o (by omega))) hF) rfl rfl m0_s (fun k j h h0 hw => (m0_o (by unfold coM at h; omega))) (fun k j h => rfl) ⟨fun k hk => funext fun j => (m0_o (by omega)), fun k hk => funext fun j => rfl⟩
        · refine a_aload_n rfl dX12_matter_67 ?_
          refine a_iload_n rfl dX12_matter_68 ?_
          refine n_callV (mi' := miX12_heldBy) dX12_matter_69 lX12_334 mX12_heldBy (by decide) rfl rfl rfl (c_X12_heldBy hM1 hF (by omega) ?_ d) rfl rfl (by omega) (by decide) (Nat.le_of_ble_eq_true rfl)
          show AW _ _ _ _ _ _ _
          refine a_goto 97 dX12_matter_72 (by decide) ?_
          refine a_iret dX12_matter_97 rfl ?_
          exact finM hQ hI hG (S' := (tS T)) (by unfold sp_matter; rw [if_pos (by omega), if_pos (by omega), idx_nI (show j_12 < 2 ^ 31 by omega), idx_nI (show j2 < 2 ^ 31 by omega)]; rw [show j2 = 2 by omega]; rfl) (VM_e hM (fun j hj => (m0_o (by omega))) hF) rfl rfl m0_s (fun k j h h0 hw => (m0_o (by unfold coM at h; omega))) (fun k j h => rfl) ⟨fun k hk => funext fun j => (m0_o (by omega)), fun k hk => funext fun j => rfl⟩
      · refine a_aload_n rfl dX12_matter_47 ?_
        refine a_geta dX12_matter_48 fX12_35 (by decide) rfl rfl ?_
        refine n_bipush 6 rfl dX12_matter_51 ?_
        refine n_bipush 6 rfl dX12_matter_53 ?_
        refine a_iload_n rfl dX12_matter_55 ?_
        refine n_imul dX12_matter_56 ?_
        refine n_iadd dX12_matter_57 ?_
        refine a_iload_n rfl dX12_matter_58 ?_
        refine n_iadd dX12_matter_59 ?_
        rcases (show j2 = 0 ∨ j2 = 1 by omega) with hv_j2 | hv_j2
        · refine a_eqi (y := nI (6 + j_12)) (congrArg nI (by omega)) ?_
          refine v_iald (by omega) (VM_a6 hM1 (j := j_12) (by omega)) (by decide) rfl (by decide) dX12_matter_60 ?_
          refine a_iret dX12_matter_61 rfl ?_
          exact finM hQ hI hG (S' := (tS T)) (by unfold sp_matter; rw [if_pos (by omega), if_pos (by omega), idx_nI (show j_12 < 2 ^ 31 by omega), idx_nI (show j2 < 2 ^ 31 by omega)]; rw [show j2 = 0 by omega]; rfl) (VM_e hM (fun j hj => (m0_o (by omega))) hF) rfl rfl m0_s (fun k j h h0 hw => (m0_o (by unfold coM at h; omega))) (fun k j h => rfl) ⟨fun k hk => funext fun j => (m0_o (by omega)), fun k hk => funext fun j => rfl⟩
        · refine a_eqi (y := nI (12 + j_12)) (congrArg nI (by omega)) ?_
          refine v_iald (by omega) (VM_a12 hM1 (j := j_12) (by omega)) (by decide) rfl (by decide) dX12_matter_60 ?_
          refine a_iret dX12_matter_61 rfl ?_
          exact finM hQ hI hG (S' := (tS T)) (by unfold sp_matter; rw [if_pos (by omega), if_pos (by omega), idx_nI (show j_12 < 2 ^ 31 by omega), idx_nI (show j2 < 2 ^ 31 by omega)]; rw [show j2 = 1 by omega]; rfl) (VM_e hM (fun j hj => (m0_o (by omega))) hF) rfl rfl m0_s (fun k j h h0 hw => (m0_o (by unfold coM at h; omega))) (fun k j h => rfl) ⟨fun k hk => funext fun j => (m0_o (by omega)), fun k hk => funext fun j => rfl⟩
    · show AW _ _ _ _ _ _ _
      have h_30 := isIn4n (x := x) (a := 0) (b := 4) (by decide) (by decide) h_30
      refine n_if_ne 42 (by decide) dX12_matter_33 (by decide) (fun h => absurd h (by decide)) (fun _ => ?_)
      refine a_aload_n rfl dX12_matter_36 ?_
      refine n_iconst 5 rfl dX12_matter_37 ?_
      refine n_callV (mi' := miX12_refuse) dX12_matter_38 lX12_345 mX12_refuse (by decide) rfl rfl rfl (c_X12_refuse ?_ d) rfl rfl (by omega) (by decide) (Nat.le_of_ble_eq_true rfl)
      show AW _ _ _ _ _ _ _
      refine a_iret dX12_matter_41 rfl ?_
      exact finM hQ hI hG (S' := (tS T)) (by unfold sp_matter; rw [if_pos (by omega), if_neg (by omega)]) (VM_e hM (fun j hj => (siN (m0_o (by omega)) (by omega))) hF) rfl rfl siS (fun k j h h0 hw => (siN (m0_o (by unfold coM at h; omega)) (by unfold coM at h; omega))) (fun k j h => rfl) ⟨fun k hk => funext fun j => (siN (m0_o (by omega)) (by omega)), fun k hk => funext fun j => rfl⟩
  · show AW _ _ _ _ _ _ _
    have h_12 := not_inR h_12 (by omega)
    refine n_if_ne 24 (by decide) dX12_matter_15 (by decide) (fun h => absurd h (by decide)) (fun _ => ?_)
    refine a_aload_n rfl dX12_matter_18 ?_
    refine n_iconst 2 rfl dX12_matter_19 ?_
    refine n_callV (mi' := miX12_refuse) dX12_matter_20 lX12_345 mX12_refuse (by decide) rfl rfl rfl (c_X12_refuse ?_ d) rfl rfl (by omega) (by decide) (Nat.le_of_ble_eq_true rfl)
    show AW _ _ _ _ _ _ _
    refine a_iret dX12_matter_23 rfl ?_
    exact finM hQ hI hG (S' := (tS T)) (by unfold sp_matter; rw [if_neg (by omega)]) (VM_e hM (fun j hj => (siN (m0_o (by omega)) (by omega))) hF) rfl rfl siS (fun k j h h0 hw => (siN (m0_o (by unfold coM at h; omega)) (by unfold coM at h; omega))) (fun k j h => rfl) ⟨fun k hk => funext fun j => (siN (m0_o (by omega)) (by omega)), fun k hk => funext fun j => rfl⟩

set_option maxRecDepth 100000 in
set_option maxHeartbeats 800000 in
theorem c_X12_hold {M : Mm} {T : TT} (hI : IM M T) (hG : TG T) {k : Int32} {x : Int32} {Q : Option Value → Mm → Prop} (hQ : ∀ M', IM M' (sp_hold k x T).2 → keX M M' → Q (some (.int (sp_hold k x T).1)) M') (d : Nat) : AMt miX12_hold (d + 4) [.ref 132, .int k, .int x] M Q := by
  refine AMt.of (by decide) (Nat.le_of_ble_eq_true rfl) ?_
  show AW miX12_hold (d + 4) (mxA Q) 0 [(0, some (.ref 132)), (1, some (.int k)), (2, some (.int x))] [] M
  have hF : WF (tS T) := hG.1.1
  have hM : VM 0 M (tS T) := hI.1.1
  have hM1 := m0_VM hM hF
  have hm := WF_m hF
  have hh := WF_h hF
  have hs := WF_s hF
  have hn := WF_n hF
  refine a_aload_n rfl dX12_hold_0 ?_
  refine n_iconst 0 rfl dX12_hold_1 ?_
  refine a_puti dX12_hold_2 pX12_69 (by decide) rfl rfl ?_
  refine a_aload_n rfl dX12_hold_5 ?_
  refine n_iconst 0 rfl dX12_hold_6 ?_
  refine a_puti dX12_hold_7 pX12_72 (by decide) rfl rfl ?_
  show AW miX12_hold (d + 4) (mxA Q) 10 [(0, some (.ref 132)), (1, some (.int k)), (2, some (.int x))] [] (m0 M)
  refine a_iload_n rfl dX12_hold_10 ?_
  refine a_i2l dX12_hold_11 ?_
  refine a_lconst 0 rfl dX12_hold_12 ?_
  refine a_aload_n rfl dX12_hold_13 ?_
  refine a_geta dX12_hold_14 fX12_35 (by decide) rfl rfl ?_
  refine n_iconst 1 rfl dX12_hold_17 ?_
  refine v_iald (by omega) (VM_s1 hM1) (by decide) rfl (by decide) dX12_hold_18 ?_
  refine n_iconst 1 rfl dX12_hold_19 ?_
  refine a_isub dX12_hold_20 ?_
  refine a_i2l dX12_hold_21 ?_
  refine n_callS (mi' := miX12_isIn) dX12_hold_22 lX12_104 mX12_isIn (c_X12_isIn (fun h_22 => ?_) (fun h_22 => ?_) d) rfl rfl (by omega) (by decide) (Nat.le_of_ble_eq_true rfl)
  · show AW _ _ _ _ _ _ _
    have h_22 := isIn4 (x := k) (a := 0) (b := ((((tS T) 0 3) : Nat) : Int) - 1) (by decide) (hi_sub (by omega)) h_22
    refine n_if_ne 34 (by decide) dX12_hold_25 (by decide) (fun _ => ?_) (fun h => absurd h (by decide))
    obtain ⟨j1, hj1, rfl⟩ := inR_of (x := k) (m := 10) (by omega) (by omega) (by omega)
    have t_j1 : (nI j1).toInt = (j1 : Int) := nI_toInt (by omega)
    refine a_iload_n rfl dX12_hold_34 ?_
    refine a_i2l dX12_hold_35 ?_
    refine a_lconst 0 rfl dX12_hold_36 ?_
    refine a_lconst 1 rfl dX12_hold_37 ?_
    refine n_callS (mi' := miX12_isIn) dX12_hold_38 lX12_104 mX12_isIn (c_X12_isIn (fun h_38 => ?_) (fun h_38 => ?_) d) rfl rfl (by omega) (by decide) (Nat.le_of_ble_eq_true rfl)
    · show AW _ _ _ _ _ _ _
      have h_38 := isIn4 (x := x) (a := 0) (b := 1) (by decide) (by decide) h_38
      refine n_if_eq 61 (by decide) dX12_hold_41 (by decide) (fun h => absurd h (by decide)) (fun _ => ?_)
      obtain ⟨j2, hj2, rfl⟩ := inR_of (x := x) (m := 2) (by omega) (by omega) (by omega)
      have t_j2 : (nI j2).toInt = (j2 : Int) := nI_toInt (by omega)
      refine a_aload_n rfl dX12_hold_44 ?_
      refine a_geta dX12_hold_45 fX12_35 (by decide) rfl rfl ?_
      refine n_bipush 18 rfl dX12_hold_48 ?_
      refine n_bipush 10 rfl dX12_hold_50 ?_
      refine a_iload_n rfl dX12_hold_52 ?_
      refine n_imul dX12_hold_53 ?_
      refine n_iadd dX12_hold_54 ?_
      refine a_iload_n rfl dX12_hold_55 ?_
      refine n_iadd dX12_hold_56 ?_
      rcases (show j2 = 0 ∨ j2 = 1 by omega) with hv_j2 | hv_j2
      · refine a_eqi (y := nI (18 + j1)) (congrArg nI (by omega)) ?_
        refine v_iald (by omega) (VM_a18 hM1 (j := j1) (by omega)) (by decide) rfl (by decide) dX12_hold_57 ?_
        refine a_goto 66 dX12_hold_58 (by decide) ?_
        refine a_iret dX12_hold_66 rfl ?_
        exact finM hQ hI hG (S' := (tS T)) (by unfold sp_hold; rw [if_pos (by omega), if_pos (by omega), idx_nI (show j1 < 2 ^ 31 by omega), idx_nI (show j2 < 2 ^ 31 by omega), show j2 = 0 by omega]) (VM_e hM (fun j hj => (m0_o (by omega))) hF) rfl rfl m0_s (fun k j h h0 hw => (m0_o (by unfold coM at h; omega))) (fun k j h => rfl) ⟨fun k hk => funext fun j => (m0_o (by omega)), fun k hk => funext fun j => rfl⟩
      · refine a_eqi (y := nI (28 + j1)) (congrArg nI (by omega)) ?_
        refine v_iald (by omega) (VM_a28 hM1 (j := j1) (by omega)) (by decide) rfl (by decide) dX12_hold_57 ?_
        refine a_goto 66 dX12_hold_58 (by decide) ?_
        refine a_iret dX12_hold_66 rfl ?_
        exact finM hQ hI hG (S' := (tS T)) (by unfold sp_hold; rw [if_pos (by omega), if_pos (by omega), idx_nI (show j1 < 2 ^ 31 by omega), idx_nI (show j2 < 2 ^ 31 by omega), show j2 = 1 by omega]) (VM_e hM (fun j hj => (m0_o (by omega))) hF) rfl rfl m0_s (fun k j h h0 hw => (m0_o (by unfold coM at h; omega))) (fun k j h => rfl) ⟨fun k hk => funext fun j => (m0_o (by omega)), fun k hk => funext fun j => rfl⟩
    · show AW _ _ _ _ _ _ _
      have h_38 := isIn4n (x := x) (a := 0) (b := 1) (by decide) (by decide) h_38
      refine n_if_eq 61 (by decide) dX12_hold_41 (by decide) (fun _ => ?_) (fun h => absurd h (by decide))
      refine a_aload_n rfl dX12_hold_61 ?_
      refine n_iconst 5 rfl dX12_hold_62 ?_
      refine n_callV (mi' := miX12_refuse) dX12_hold_63 lX12_345 mX12_refuse (by decide) rfl rfl rfl (c_X12_refuse ?_ d) rfl rfl (by omega) (by decide) (Nat.le_of_ble_eq_true rfl)
      show AW _ _ _ _ _ _ _
      refine a_iret dX12_hold_66 rfl ?_
      exact finM hQ hI hG (S' := (tS T)) (by unfold sp_hold; rw [if_pos (by omega), if_neg (by omega)]) (VM_e hM (fun j hj => (siN (m0_o (by omega)) (by omega))) hF) rfl rfl siS (fun k j h h0 hw => (siN (m0_o (by unfold coM at h; omega)) (by unfold coM at h; omega))) (fun k j h => rfl) ⟨fun k hk => funext fun j => (siN (m0_o (by omega)) (by omega)), fun k hk => funext fun j => rfl⟩
  · show AW _ _ _ _ _ _ _
    have h_22 := isIn4n (x := k) (a := 0) (b := ((((tS T) 0 3) : Nat) : Int) - 1) (by decide) (hi_sub (by omega)) h_22
    refine n_if_ne 34 (by decide) dX12_hold_25 (by decide) (fun h => absurd h (by decide)) (fun _ => ?_)
    refine a_aload_n rfl dX12_hold_28 ?_
    refine n_iconst 2 rfl dX12_hold_29 ?_
    refine n_callV (mi' := miX12_refuse) dX12_hold_30 lX12_345 mX12_refuse (by decide) rfl rfl rfl (c_X12_refuse ?_ d) rfl rfl (by omega) (by decide) (Nat.le_of_ble_eq_true rfl)
    show AW _ _ _ _ _ _ _
    refine a_iret dX12_hold_33 rfl ?_
    exact finM hQ hI hG (S' := (tS T)) (by unfold sp_hold; rw [if_neg (by omega)]) (VM_e hM (fun j hj => (siN (m0_o (by omega)) (by omega))) hF) rfl rfl siS (fun k j h h0 hw => (siN (m0_o (by unfold coM at h; omega)) (by unfold coM at h; omega))) (fun k j h => rfl) ⟨fun k hk => funext fun j => (siN (m0_o (by omega)) (by omega)), fun k hk => funext fun j => rfl⟩

set_option maxRecDepth 100000 in
set_option maxHeartbeats 800000 in
theorem c_X12_sitter {M : Mm} {T : TT} (hI : IM M T) (hG : TG T) {k : Int32} {x : Int32} {Q : Option Value → Mm → Prop} (hQ : ∀ M', IM M' (sp_sitter k x T).2 → keX M M' → Q (some (.int (sp_sitter k x T).1)) M') (d : Nat) : AMt miX12_sitter (d + 4) [.ref 132, .int k, .int x] M Q := by
  refine AMt.of (by decide) (Nat.le_of_ble_eq_true rfl) ?_
  show AW miX12_sitter (d + 4) (mxA Q) 0 [(0, some (.ref 132)), (1, some (.int k)), (2, some (.int x))] [] M
  have hF : WF (tS T) := hG.1.1
  have hM : VM 0 M (tS T) := hI.1.1
  have hM1 := m0_VM hM hF
  have hm := WF_m hF
  have hh := WF_h hF
  have hs := WF_s hF
  have hn := WF_n hF
  refine a_aload_n rfl dX12_sitter_0 ?_
  refine n_iconst 0 rfl dX12_sitter_1 ?_
  refine a_puti dX12_sitter_2 pX12_69 (by decide) rfl rfl ?_
  refine a_aload_n rfl dX12_sitter_5 ?_
  refine n_iconst 0 rfl dX12_sitter_6 ?_
  refine a_puti dX12_sitter_7 pX12_72 (by decide) rfl rfl ?_
  show AW miX12_sitter (d + 4) (mxA Q) 10 [(0, some (.ref 132)), (1, some (.int k)), (2, some (.int x))] [] (m0 M)
  refine a_aload_n rfl dX12_sitter_10 ?_
  refine a_iload_n rfl dX12_sitter_11 ?_
  refine n_callV (mi' := miX12_isSitterAt) dX12_sitter_12 lX12_371 mX12_isSitterAt (by decide) rfl rfl rfl (c_X12_isSitterAt hM1 hF (fun j_12 h_12 e_12 => ?_) (fun h_12 => ?_) d) rfl rfl (by omega) (by decide) (Nat.le_of_ble_eq_true rfl)
  · show AW _ _ _ _ _ _ _
    subst e_12
    have t_12 : (nI j_12).toInt = (j_12 : Int) := nI_toInt (by omega)
    refine n_if_ne 24 (by decide) dX12_sitter_15 (by decide) (fun _ => ?_) (fun h => absurd h (by decide))
    refine a_iload_n rfl dX12_sitter_24 ?_
    refine a_i2l dX12_sitter_25 ?_
    refine a_lconst 0 rfl dX12_sitter_26 ?_
    refine a_ldc2 kX12_360 dX12_sitter_27 ?_
    refine n_callS (mi' := miX12_isIn) dX12_sitter_30 lX12_104 mX12_isIn (c_X12_isIn (fun h_30 => ?_) (fun h_30 => ?_) d) rfl rfl (by omega) (by decide) (Nat.le_of_ble_eq_true rfl)
    · show AW _ _ _ _ _ _ _
      have h_30 := isIn4 (x := x) (a := 0) (b := 4) (by decide) (by decide) h_30
      refine n_if_ne 42 (by decide) dX12_sitter_33 (by decide) (fun _ => ?_) (fun h => absurd h (by decide))
      obtain ⟨j2, hj2, rfl⟩ := inR_of (x := x) (m := 5) (by omega) (by omega) (by omega)
      have t_j2 : (nI j2).toInt = (j2 : Int) := nI_toInt (by omega)
      refine a_iload_n rfl dX12_sitter_42 ?_
      refine n_iconst 4 rfl dX12_sitter_43 ?_
      refine n_icmp_ne 55 (by omega) (by omega) dX12_sitter_44 (by decide) (fun h_44 => ?_) (fun h_44 => ?_)
      · refine a_aload_n rfl dX12_sitter_55 ?_
        refine a_geta dX12_sitter_56 fX12_35 (by decide) rfl rfl ?_
        refine n_bipush 38 rfl dX12_sitter_59 ?_
        refine n_bipush 7 rfl dX12_sitter_61 ?_
        refine a_iload_n rfl dX12_sitter_63 ?_
        refine n_imul dX12_sitter_64 ?_
        refine n_iadd dX12_sitter_65 ?_
        refine a_iload_n rfl dX12_sitter_66 ?_
        refine n_iadd dX12_sitter_67 ?_
        rcases (show j2 = 0 ∨ j2 = 1 ∨ j2 = 2 ∨ j2 = 3 by omega) with hv_j2 | hv_j2 | hv_j2 | hv_j2
        · refine a_eqi (y := nI (38 + j_12)) (congrArg nI (by omega)) ?_
          refine v_iald (by omega) (VM_a38 hM1 (j := j_12) (by omega)) (by decide) rfl (by decide) dX12_sitter_68 ?_
          refine a_iret dX12_sitter_69 rfl ?_
          exact finM hQ hI hG (S' := (tS T)) (by unfold sp_sitter; rw [if_pos (by omega), if_pos (by omega), idx_nI (show j_12 < 2 ^ 31 by omega), idx_nI (show j2 < 2 ^ 31 by omega), if_neg (by omega), show j2 = 0 by omega]) (VM_e hM (fun j hj => (m0_o (by omega))) hF) rfl rfl m0_s (fun k j h h0 hw => (m0_o (by unfold coM at h; omega))) (fun k j h => rfl) ⟨fun k hk => funext fun j => (m0_o (by omega)), fun k hk => funext fun j => rfl⟩
        · refine a_eqi (y := nI (45 + j_12)) (congrArg nI (by omega)) ?_
          refine v_iald (by omega) (VM_a45 hM1 (j := j_12) (by omega)) (by decide) rfl (by decide) dX12_sitter_68 ?_
          refine a_iret dX12_sitter_69 rfl ?_
          exact finM hQ hI hG (S' := (tS T)) (by unfold sp_sitter; rw [if_pos (by omega), if_pos (by omega), idx_nI (show j_12 < 2 ^ 31 by omega), idx_nI (show j2 < 2 ^ 31 by omega), if_neg (by omega), show j2 = 1 by omega]) (VM_e hM (fun j hj => (m0_o (by omega))) hF) rfl rfl m0_s (fun k j h h0 hw => (m0_o (by unfold coM at h; omega))) (fun k j h => rfl) ⟨fun k hk => funext fun j => (m0_o (by omega)), fun k hk => funext fun j => rfl⟩
        · refine a_eqi (y := nI (52 + j_12)) (congrArg nI (by omega)) ?_
          refine v_iald (by omega) (VM_a52 hM1 (j := j_12) (by omega)) (by decide) rfl (by decide) dX12_sitter_68 ?_
          refine a_iret dX12_sitter_69 rfl ?_
          exact finM hQ hI hG (S' := (tS T)) (by unfold sp_sitter; rw [if_pos (by omega), if_pos (by omega), idx_nI (show j_12 < 2 ^ 31 by omega), idx_nI (show j2 < 2 ^ 31 by omega), if_neg (by omega), show j2 = 2 by omega]) (VM_e hM (fun j hj => (m0_o (by omega))) hF) rfl rfl m0_s (fun k j h h0 hw => (m0_o (by unfold coM at h; omega))) (fun k j h => rfl) ⟨fun k hk => funext fun j => (m0_o (by omega)), fun k hk => funext fun j => rfl⟩
        · refine a_eqi (y := nI (59 + j_12)) (congrArg nI (by omega)) ?_
          refine v_iald (by omega) (VM_a59 hM1 (j := j_12) (by omega)) (by decide) rfl (by decide) dX12_sitter_68 ?_
          refine a_iret dX12_sitter_69 rfl ?_
          exact finM hQ hI hG (S' := (tS T)) (by unfold sp_sitter; rw [if_pos (by omega), if_pos (by omega), idx_nI (show j_12 < 2 ^ 31 by omega), idx_nI (show j2 < 2 ^ 31 by omega), if_neg (by omega), show j2 = 3 by omega]) (VM_e hM (fun j hj => (m0_o (by omega))) hF) rfl rfl m0_s (fun k j h h0 hw => (m0_o (by unfold coM at h; omega))) (fun k j h => rfl) ⟨fun k hk => funext fun j => (m0_o (by omega)), fun k hk => funext fun j => rfl⟩
      · refine a_aload_n rfl dX12_sitter_47 ?_
        refine a_iload_n rfl dX12_sitter_48 ?_
        refine n_callV (mi' := miX12_heightOf) dX12_sitter_49 lX12_340 mX12_heightOf (by decide) rfl rfl rfl (c_X12_heightOf hM1 hF (by omega) ?_ d) rfl rfl (by omega) (by decide) (Nat.le_of_ble_eq_true rfl)
        show AW _ _ _ _ _ _ _
        refine a_goto 69 dX12_sitter_52 (by decide) ?_
        refine a_iret dX12_sitter_69 rfl ?_
        exact finM hQ hI hG (S' := (tS T)) (by unfold sp_sitter; rw [if_pos (by omega), if_pos (by omega), idx_nI (show j_12 < 2 ^ 31 by omega), idx_nI (show j2 < 2 ^ 31 by omega), if_pos (by omega)]; rfl) (VM_e hM (fun j hj => (m0_o (by omega))) hF) rfl rfl m0_s (fun k j h h0 hw => (m0_o (by unfold coM at h; omega))) (fun k j h => rfl) ⟨fun k hk => funext fun j => (m0_o (by omega)), fun k hk => funext fun j => rfl⟩
    · show AW _ _ _ _ _ _ _
      have h_30 := isIn4n (x := x) (a := 0) (b := 4) (by decide) (by decide) h_30
      refine n_if_ne 42 (by decide) dX12_sitter_33 (by decide) (fun h => absurd h (by decide)) (fun _ => ?_)
      refine a_aload_n rfl dX12_sitter_36 ?_
      refine n_iconst 5 rfl dX12_sitter_37 ?_
      refine n_callV (mi' := miX12_refuse) dX12_sitter_38 lX12_345 mX12_refuse (by decide) rfl rfl rfl (c_X12_refuse ?_ d) rfl rfl (by omega) (by decide) (Nat.le_of_ble_eq_true rfl)
      show AW _ _ _ _ _ _ _
      refine a_iret dX12_sitter_41 rfl ?_
      exact finM hQ hI hG (S' := (tS T)) (by unfold sp_sitter; rw [if_pos (by omega), if_neg (by omega)]) (VM_e hM (fun j hj => (siN (m0_o (by omega)) (by omega))) hF) rfl rfl siS (fun k j h h0 hw => (siN (m0_o (by unfold coM at h; omega)) (by unfold coM at h; omega))) (fun k j h => rfl) ⟨fun k hk => funext fun j => (siN (m0_o (by omega)) (by omega)), fun k hk => funext fun j => rfl⟩
  · show AW _ _ _ _ _ _ _
    have h_12 := not_inR h_12 (by omega)
    refine n_if_ne 24 (by decide) dX12_sitter_15 (by decide) (fun h => absurd h (by decide)) (fun _ => ?_)
    refine a_aload_n rfl dX12_sitter_18 ?_
    refine n_iconst 2 rfl dX12_sitter_19 ?_
    refine n_callV (mi' := miX12_refuse) dX12_sitter_20 lX12_345 mX12_refuse (by decide) rfl rfl rfl (c_X12_refuse ?_ d) rfl rfl (by omega) (by decide) (Nat.le_of_ble_eq_true rfl)
    show AW _ _ _ _ _ _ _
    refine a_iret dX12_sitter_23 rfl ?_
    exact finM hQ hI hG (S' := (tS T)) (by unfold sp_sitter; rw [if_neg (by omega)]) (VM_e hM (fun j hj => (siN (m0_o (by omega)) (by omega))) hF) rfl rfl siS (fun k j h h0 hw => (siN (m0_o (by unfold coM at h; omega)) (by unfold coM at h; omega))) (fun k j h => rfl) ⟨fun k hk => funext fun j => (siN (m0_o (by omega)) (by omega)), fun k hk => funext fun j => rfl⟩

set_option maxRecDepth 100000 in
set_option maxHeartbeats 800000 in
theorem c_X12_news {M : Mm} {T : TT} (hI : IM M T) (hG : TG T) {k : Int32} {x : Int32} {Q : Option Value → Mm → Prop} (hQ : ∀ M', IM M' (sp_news k x T).2 → keX M M' → Q (some (.int (sp_news k x T).1)) M') (d : Nat) : AMt miX12_news (d + 4) [.ref 132, .int k, .int x] M Q := by
  refine AMt.of (by decide) (Nat.le_of_ble_eq_true rfl) ?_
  show AW miX12_news (d + 4) (mxA Q) 0 [(0, some (.ref 132)), (1, some (.int k)), (2, some (.int x))] [] M
  have hF : WF (tS T) := hG.1.1
  have hM : VM 0 M (tS T) := hI.1.1
  have hM1 := m0_VM hM hF
  have hm := WF_m hF
  have hh := WF_h hF
  have hs := WF_s hF
  have hn := WF_n hF
  refine a_aload_n rfl dX12_news_0 ?_
  refine n_iconst 0 rfl dX12_news_1 ?_
  refine a_puti dX12_news_2 pX12_69 (by decide) rfl rfl ?_
  refine a_aload_n rfl dX12_news_5 ?_
  refine n_iconst 0 rfl dX12_news_6 ?_
  refine a_puti dX12_news_7 pX12_72 (by decide) rfl rfl ?_
  show AW miX12_news (d + 4) (mxA Q) 10 [(0, some (.ref 132)), (1, some (.int k)), (2, some (.int x))] [] (m0 M)
  refine a_aload_n rfl dX12_news_10 ?_
  refine a_iload_n rfl dX12_news_11 ?_
  refine n_callV (mi' := miX12_isNewsAt) dX12_news_12 lX12_374 mX12_isNewsAt (by decide) rfl rfl rfl (c_X12_isNewsAt hM1 hF (fun j_12 h_12 e_12 => ?_) (fun h_12 => ?_) d) rfl rfl (by omega) (by decide) (Nat.le_of_ble_eq_true rfl)
  · show AW _ _ _ _ _ _ _
    subst e_12
    have t_12 : (nI j_12).toInt = (j_12 : Int) := nI_toInt (by omega)
    refine n_if_ne 24 (by decide) dX12_news_15 (by decide) (fun _ => ?_) (fun h => absurd h (by decide))
    refine a_iload_n rfl dX12_news_24 ?_
    refine a_i2l dX12_news_25 ?_
    refine a_lconst 0 rfl dX12_news_26 ?_
    refine a_ldc2 kX12_377 dX12_news_27 ?_
    refine n_callS (mi' := miX12_isIn) dX12_news_30 lX12_104 mX12_isIn (c_X12_isIn (fun h_30 => ?_) (fun h_30 => ?_) d) rfl rfl (by omega) (by decide) (Nat.le_of_ble_eq_true rfl)
    · show AW _ _ _ _ _ _ _
      have h_30 := isIn4 (x := x) (a := 0) (b := 2) (by decide) (by decide) h_30
      refine n_if_eq 53 (by decide) dX12_news_33 (by decide) (fun h => absurd h (by decide)) (fun _ => ?_)
      obtain ⟨j2, hj2, rfl⟩ := inR_of (x := x) (m := 3) (by omega) (by omega) (by omega)
      have t_j2 : (nI j2).toInt = (j2 : Int) := nI_toInt (by omega)
      refine a_aload_n rfl dX12_news_36 ?_
      refine a_geta dX12_news_37 fX12_35 (by decide) rfl rfl ?_
      refine n_bipush 66 rfl dX12_news_40 ?_
      refine n_bipush 8 rfl dX12_news_42 ?_
      refine a_iload_n rfl dX12_news_44 ?_
      refine n_imul dX12_news_45 ?_
      refine n_iadd dX12_news_46 ?_
      refine a_iload_n rfl dX12_news_47 ?_
      refine n_iadd dX12_news_48 ?_
      rcases (show j2 = 0 ∨ j2 = 1 ∨ j2 = 2 by omega) with hv_j2 | hv_j2 | hv_j2
      · refine a_eqi (y := nI (66 + j_12)) (congrArg nI (by omega)) ?_
        refine v_iald (by omega) (VM_a66 hM1 (j := j_12) (by omega)) (by decide) rfl (by decide) dX12_news_49 ?_
        refine a_goto 58 dX12_news_50 (by decide) ?_
        refine a_iret dX12_news_58 rfl ?_
        exact finM hQ hI hG (S' := (tS T)) (by unfold sp_news; rw [if_pos (by omega), if_pos (by omega), idx_nI (show j_12 < 2 ^ 31 by omega), idx_nI (show j2 < 2 ^ 31 by omega), show j2 = 0 by omega]) (VM_e hM (fun j hj => (m0_o (by omega))) hF) rfl rfl m0_s (fun k j h h0 hw => (m0_o (by unfold coM at h; omega))) (fun k j h => rfl) ⟨fun k hk => funext fun j => (m0_o (by omega)), fun k hk => funext fun j => rfl⟩
      · refine a_eqi (y := nI (74 + j_12)) (congrArg nI (by omega)) ?_
        refine v_iald (by omega) (VM_a74 hM1 (j := j_12) (by omega)) (by decide) rfl (by decide) dX12_news_49 ?_
        refine a_goto 58 dX12_news_50 (by decide) ?_
        refine a_iret dX12_news_58 rfl ?_
        exact finM hQ hI hG (S' := (tS T)) (by unfold sp_news; rw [if_pos (by omega), if_pos (by omega), idx_nI (show j_12 < 2 ^ 31 by omega), idx_nI (show j2 < 2 ^ 31 by omega), show j2 = 1 by omega]) (VM_e hM (fun j hj => (m0_o (by omega))) hF) rfl rfl m0_s (fun k j h h0 hw => (m0_o (by unfold coM at h; omega))) (fun k j h => rfl) ⟨fun k hk => funext fun j => (m0_o (by omega)), fun k hk => funext fun j => rfl⟩
      · refine a_eqi (y := nI (82 + j_12)) (congrArg nI (by omega)) ?_
        refine v_iald (by omega) (VM_a82 hM1 (j := j_12) (by omega)) (by decide) rfl (by decide) dX12_news_49 ?_
        refine a_goto 58 dX12_news_50 (by decide) ?_
        refine a_iret dX12_news_58 rfl ?_
        exact finM hQ hI hG (S' := (tS T)) (by unfold sp_news; rw [if_pos (by omega), if_pos (by omega), idx_nI (show j_12 < 2 ^ 31 by omega), idx_nI (show j2 < 2 ^ 31 by omega), show j2 = 2 by omega]) (VM_e hM (fun j hj => (m0_o (by omega))) hF) rfl rfl m0_s (fun k j h h0 hw => (m0_o (by unfold coM at h; omega))) (fun k j h => rfl) ⟨fun k hk => funext fun j => (m0_o (by omega)), fun k hk => funext fun j => rfl⟩
    · show AW _ _ _ _ _ _ _
      have h_30 := isIn4n (x := x) (a := 0) (b := 2) (by decide) (by decide) h_30
      refine n_if_eq 53 (by decide) dX12_news_33 (by decide) (fun _ => ?_) (fun h => absurd h (by decide))
      refine a_aload_n rfl dX12_news_53 ?_
      refine n_iconst 5 rfl dX12_news_54 ?_
      refine n_callV (mi' := miX12_refuse) dX12_news_55 lX12_345 mX12_refuse (by decide) rfl rfl rfl (c_X12_refuse ?_ d) rfl rfl (by omega) (by decide) (Nat.le_of_ble_eq_true rfl)
      show AW _ _ _ _ _ _ _
      refine a_iret dX12_news_58 rfl ?_
      exact finM hQ hI hG (S' := (tS T)) (by unfold sp_news; rw [if_pos (by omega), if_neg (by omega)]) (VM_e hM (fun j hj => (siN (m0_o (by omega)) (by omega))) hF) rfl rfl siS (fun k j h h0 hw => (siN (m0_o (by unfold coM at h; omega)) (by unfold coM at h; omega))) (fun k j h => rfl) ⟨fun k hk => funext fun j => (siN (m0_o (by omega)) (by omega)), fun k hk => funext fun j => rfl⟩
  · show AW _ _ _ _ _ _ _
    have h_12 := not_inR h_12 (by omega)
    refine n_if_ne 24 (by decide) dX12_news_15 (by decide) (fun h => absurd h (by decide)) (fun _ => ?_)
    refine a_aload_n rfl dX12_news_18 ?_
    refine n_iconst 2 rfl dX12_news_19 ?_
    refine n_callV (mi' := miX12_refuse) dX12_news_20 lX12_345 mX12_refuse (by decide) rfl rfl rfl (c_X12_refuse ?_ d) rfl rfl (by omega) (by decide) (Nat.le_of_ble_eq_true rfl)
    show AW _ _ _ _ _ _ _
    refine a_iret dX12_news_23 rfl ?_
    exact finM hQ hI hG (S' := (tS T)) (by unfold sp_news; rw [if_neg (by omega)]) (VM_e hM (fun j hj => (siN (m0_o (by omega)) (by omega))) hF) rfl rfl siS (fun k j h h0 hw => (siN (m0_o (by unfold coM at h; omega)) (by unfold coM at h; omega))) (fun k j h => rfl) ⟨fun k hk => funext fun j => (siN (m0_o (by omega)) (by omega)), fun k hk => funext fun j => rfl⟩

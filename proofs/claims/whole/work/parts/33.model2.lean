theorem VM_intro {M : Mm} {S : ST} (h0 : M.1 137 0 = nI (S 0 2)) (h1 : M.1 137 1 = nI (S 0 3)) (h2 : M.1 137 2 = nI (S 0 4)) (h3 : M.1 137 3 = nI (S 0 5)) (h4 : M.1 137 4 = nI (S 0 0)) (h5 : M.1 137 5 = nI (S 0 1))
    (b2 : ∀ j, j < S 0 2 → M.1 137 (6 + j) = nI (S 2 j)) (b1 : ∀ j, j < S 0 2 → M.1 137 (12 + j) = nI (S 1 j)) (b3 : ∀ j, j < S 0 3 → M.1 137 (18 + j) = nI (S 3 j)) (b4 : ∀ j, j < S 0 3 → M.1 137 (28 + j) = nI (S 4 j)) (b5 : ∀ j, j < S 0 4 → M.1 137 (38 + j) = nI (S 5 j)) (b6 : ∀ j, j < S 0 4 → M.1 137 (45 + j) = nI (S 6 j)) (b7 : ∀ j, j < S 0 4 → M.1 137 (52 + j) = nI (S 7 j)) (b8 : ∀ j, j < S 0 4 → M.1 137 (59 + j) = nI (S 8 j)) (b9 : ∀ j, j < S 0 5 → M.1 137 (66 + j) = nI (S 9 j)) (b10 : ∀ j, j < S 0 5 → M.1 137 (74 + j) = nI (S 10 j)) (b11 : ∀ j, j < S 0 5 → M.1 137 (82 + j) = nI (S 11 j)) : VM 0 M S := by
  unfold VM
  simp only [Nat.zero_add]
  exact ⟨h0, h1, h2, h3, h4, h5, b2, b1, b3, b4, b5, b6, b7, b8, b9, b10, b11⟩
theorem VM_elim {M : Mm} {S : ST} (h : VM 0 M S) : (M.1 137 0 = nI (S 0 2)) ∧ (M.1 137 1 = nI (S 0 3)) ∧ (M.1 137 2 = nI (S 0 4)) ∧ (M.1 137 3 = nI (S 0 5)) ∧ (M.1 137 4 = nI (S 0 0)) ∧ (M.1 137 5 = nI (S 0 1)) ∧
    (∀ j, j < S 0 2 → M.1 137 (6 + j) = nI (S 2 j)) ∧ (∀ j, j < S 0 2 → M.1 137 (12 + j) = nI (S 1 j)) ∧ (∀ j, j < S 0 3 → M.1 137 (18 + j) = nI (S 3 j)) ∧ (∀ j, j < S 0 3 → M.1 137 (28 + j) = nI (S 4 j)) ∧ (∀ j, j < S 0 4 → M.1 137 (38 + j) = nI (S 5 j)) ∧ (∀ j, j < S 0 4 → M.1 137 (45 + j) = nI (S 6 j)) ∧ (∀ j, j < S 0 4 → M.1 137 (52 + j) = nI (S 7 j)) ∧ (∀ j, j < S 0 4 → M.1 137 (59 + j) = nI (S 8 j)) ∧ (∀ j, j < S 0 5 → M.1 137 (66 + j) = nI (S 9 j)) ∧ (∀ j, j < S 0 5 → M.1 137 (74 + j) = nI (S 10 j)) ∧ (∀ j, j < S 0 5 → M.1 137 (82 + j) = nI (S 11 j)) := by
  unfold VM at h
  simp only [Nat.zero_add] at h
  exact h
theorem VM_e {M M' : Mm} {S : ST} (h : VM 0 M S) (he : ∀ j, j < 90 → M'.1 137 j = M.1 137 j) (hF : WF S) : VM 0 M' S := by
  have hm := WF_m hF
  have hh := WF_h hF
  have hs := WF_s hF
  have hn := WF_n hF
  obtain ⟨h0, h1, h2, h3, h4, h5, b2, b1, b3, b4, b5, b6, b7, b8, b9, b10, b11⟩ := VM_elim h
  refine VM_intro ?_ ?_ ?_ ?_ ?_ ?_ ?_ ?_ ?_ ?_ ?_ ?_ ?_ ?_ ?_ ?_ ?_
  all_goals first
    | (rw [he _ (by omega)]; assumption)
    | (intro j hj; rw [he _ (by omega)]; first | exact b2 j hj | exact b1 j hj | exact b3 j hj | exact b4 j hj | exact b5 j hj | exact b6 j hj | exact b7 j hj | exact b8 j hj | exact b9 j hj | exact b10 j hj | exact b11 j hj)
/-- the model's core -/
def coM (k j : Nat) : Prop := (k = 132 ∧ (j = 0 ∨ j = 2 ∨ j = 3 ∨ j = 8 ∨ j = 10 ∨ j = 11 ∨ j = 23 ∨ j = 38)) ∨ (133 ≤ k ∧ k ≤ 136) ∨ (k = 137 ∧ j < 1448) ∨ (k = 139 ∧ j < 52) ∨ k = 146
theorem scN_mono (It : Nat → Nat → Nat) : ∀ (n i : Nat), i ≤ n → scN It i ≤ scN It n
  | 0, i, h => by rw [show i = 0 by omega]; exact Nat.le_refl _
  | n + 1, i, h => by
    rcases (show i ≤ n ∨ i = n + 1 by omega) with h1 | h1
    · have := scN_mono It n i h1
      show scN It i ≤ (if It n 0 = 23 then scN It n else scN It n + 1)
      split <;> omega
    · subst h1; exact Nat.le_refl _
theorem scN_lt {It : Nat → Nat → Nat} {i n : Nat} (hi : i < n) (hv : It i 0 ≠ 23) : scN It i + 1 ≤ scN It n := by
  have h1 : scN It (i + 1) = scN It i + 1 := by
    show (if It i 0 = 23 then scN It i else scN It i + 1) = _
    rw [if_neg hv]
  rw [← h1]
  exact scN_mono It n (i + 1) hi
theorem WM_eq {b : Nat} {M M' : Mm} {W : WD} (h : WM b M W) (hG : WG W) (he : ∀ j, 362 * b ≤ j → j < 362 * b + 362 → M'.1 137 j = M.1 137 j) (he2 : ∀ j, 13 * b ≤ j → j < 13 * b + 13 → M'.2 139 j = M.2 139 j) : WM b M' W := by
  obtain ⟨h1, h2, h3⟩ := h
  obtain ⟨hF, hY⟩ := hG
  have hm := WF_m hF
  have hh := WF_h hF
  have hs := WF_s hF
  have hn := WF_n hF
  refine ⟨?_, ⟨fun j hj => by rw [he2 _ (by omega) (by omega)]; exact h2.1 j hj, fun j hj => by rw [he2 _ (by omega) (by omega)]; exact h2.2 j hj⟩, ?_⟩
  · obtain ⟨a0, a1, a2, a3, a4, a5, b2, b1, b3, b4, b5, b6, b7, b8, b9, b10, b11⟩ := h1
    refine ⟨?_, ?_, ?_, ?_, ?_, ?_, ?_, ?_, ?_, ?_, ?_, ?_, ?_, ?_, ?_, ?_, ?_⟩
    all_goals first
      | (rw [he _ (by omega) (by omega)]; assumption)
      | (intro j hj; rw [he _ (by omega) (by omega)]; first | exact b2 j hj | exact b1 j hj | exact b3 j hj | exact b4 j hj | exact b5 j hj | exact b6 j hj | exact b7 j hj | exact b8 j hj | exact b9 j hj | exact b10 j hj | exact b11 j hj)
  · obtain ⟨y0, y1, y2⟩ := h3
    refine ⟨by rw [he _ (by omega) (by omega)]; exact y0, by rw [he _ (by omega) (by omega)]; exact y1, fun i hi hv => ?_⟩
    have hsc : scN W.2.2.2.2 i + 1 ≤ scN W.2.2.2.2 W.2.2.2.1 := scN_lt hi hv
    have h30 := hY.2.2.1
    have q := y2 i hi hv
    refine ⟨?_, ?_, ?_, ?_, ?_, ?_⟩
    · rw [he _ (by omega) (by omega)]; exact q.1
    · rw [he _ (by omega) (by omega)]; exact q.2.1
    · rw [he _ (by omega) (by omega)]; exact q.2.2.1
    · rw [he _ (by omega) (by omega)]; exact q.2.2.2.1
    · rw [he _ (by omega) (by omega), he (362 * b + 92 + 9 * scN W.2.2.2.2 i + 6) (by omega) (by omega), he (362 * b + 92 + 9 * scN W.2.2.2.2 i + 7) (by omega) (by omega)]; exact q.2.2.2.2.1
    · rw [he _ (by omega) (by omega)]; exact q.2.2.2.2.2
theorem IM_w {M M1 : Mm} {T : TT} {S' : ST} {n : Nat} (h : IM M T) (hG : TG T) (hV : VM 0 M1 S') (c2 : S' 0 2 = tS T 0 2) (c4 : S' 0 4 = tS T 0 4) (hst : M1.1 132 0 = nI n) (he : ∀ k j, coM k j → ¬ (k = 132 ∧ j = 0) → ¬ (k = 137 ∧ j < 90) → M1.1 k j = M.1 k j) (he2 : ∀ k j, coM k j → M1.2 k j = M.2 k j) : IM M1 (st' (sS T S') n) := by
  obtain ⟨h1, h2, h3, h4, h5, h6, h7, h8⟩ := h
  have hG0 := hG.1
  have hsm : tS T 0 4 ≤ 7 := WF_s hG0.1
  have hmm : tS T 0 2 ≤ 6 := WF_m hG0.1
  have h30 : scN (tY T).2.2 (tY T).2.1 ≤ 30 := hG0.2.2.2.1
  refine ⟨⟨hV, ⟨fun j hj => ?_, fun j hj => ?_⟩, ?_⟩, fun t ht => ?_, ?_, ?_, ?_, ?_, ?_, fun i hi => ?_⟩
  · have hj : j < tS T 0 2 := by rw [← c2]; exact hj
    rw [he2 _ _ (by unfold coM; omega)]; exact h1.2.1.1 j hj
  · have hj : j < tS T 0 4 := by rw [← c4]; exact hj
    rw [he2 _ _ (by unfold coM; omega)]; exact h1.2.1.2 j hj
  · show YM (362 * 0) M1 (tY T)
    have hy : YM (362 * 0) M (tY T) := h1.2.2
    obtain ⟨y0, y1, y2⟩ := hy
    refine ⟨by rw [he _ _ (by unfold coM; omega) (by omega) (by omega)]; exact y0, by rw [he _ _ (by unfold coM; omega) (by omega) (by omega)]; exact y1, fun i hi hv => ?_⟩
    have hi : i < (tY T).2.1 := hi
    have hsc : scN (tY T).2.2 i + 1 ≤ scN (tY T).2.2 (tY T).2.1 := scN_lt hi hv
    have q := y2 i hi hv
    refine ⟨?_, ?_, ?_, ?_, ?_, ?_⟩
    · rw [he _ _ (by unfold coM; omega) (by omega) (by omega)]; exact q.1
    · rw [he _ _ (by unfold coM; omega) (by omega) (by omega)]; exact q.2.1
    · rw [he _ _ (by unfold coM; omega) (by omega) (by omega)]; exact q.2.2.1
    · rw [he _ _ (by unfold coM; omega) (by omega) (by omega)]; exact q.2.2.2.1
    · rw [he _ _ (by unfold coM; omega) (by omega) (by omega), he 137 (362 * 0 + 92 + 9 * scN (tY T).2.2 i + 6) (by unfold coM; omega) (by omega) (by omega), he 137 (362 * 0 + 92 + 9 * scN (tY T).2.2 i + 7) (by unfold coM; omega) (by omega) (by omega)]; exact q.2.2.2.2.1
    · rw [he _ _ (by unfold coM; omega) (by omega) (by omega)]; exact q.2.2.2.2.2
  · have hr : (tR T).1 t ≤ 3 ∧ ∀ n, (tR T).2.1 t = some n → n ≤ 60 := hG.2.1 t ht
    rw [he 133 t (by unfold coM; omega) (by omega) (by omega), he 134 t (by unfold coM; omega) (by omega) (by omega)]
    refine ⟨(h2 t ht).1, (h2 t ht).2.1, fun q hq => ⟨((h2 t ht).2.2 q hq).1, fun j hj => ?_⟩⟩
    have hq60 := hr.2 q hq
    rw [he2 135 _ (by unfold coM; omega)]
    exact ((h2 t ht).2.2 q hq).2 j hj
  · exact ⟨by rw [he _ _ (by unfold coM; omega) (by omega) (by omega)]; exact h3.1, fun j hj => by rw [he _ _ (by unfold coM; omega) (by omega) (by omega)]; exact h3.2 j hj⟩
  · exact ⟨hst, by rw [he2 _ _ (by unfold coM; omega)]; exact h4.2.1, by rw [he2 _ _ (by unfold coM; omega)]; exact h4.2.2⟩
  · exact ⟨by rw [he _ _ (by unfold coM; omega) (by omega) (by omega)]; exact h5.1, by rw [he _ _ (by unfold coM; omega) (by omega) (by omega)]; exact h5.2⟩
  · exact ⟨by rw [he _ _ (by unfold coM; omega) (by omega) (by omega)]; exact h6.1, fun q j hj => by rw [he _ _ (by unfold coM; omega) (by omega) (by omega)]; exact h6.2 q j hj⟩
  · rw [he _ _ (by unfold coM; omega) (by omega) (by omega)]; exact h7
  · have hk : (tK T).1 ≤ 3 := hG.2.2.2.2.2.1
    have hi : i < (tK T).1 := hi
    exact WM_eq (h8 i hi) (hG.2.2.2.2.2.2.1 i hi) (fun j a b => he 137 j (by unfold coM; omega) (by omega) (by omega)) (fun j a b => he2 139 j (by unfold coM; omega))
/-- the end of a call of the model's that changes the wood's numbers, or nothing but the STATUS -/
theorem finM {Q : Option Value → Mm → Prop} {M M1 : Mm} {T : TT} {p : AN} {v : Int32} {n : Nat} {S' : ST} (hQ : ∀ M', IM M' p.2 → keX M M' → Q (some (.int p.1)) M') (hI : IM M T) (hG : TG T) (e : p = (v, st' (sS T S') n)) (hV : VM 0 M1 S') (c2 : S' 0 2 = tS T 0 2) (c4 : S' 0 4 = tS T 0 4) (hst : M1.1 132 0 = nI n) (he : ∀ k j, coM k j → ¬ (k = 132 ∧ j = 0) → ¬ (k = 137 ∧ j < 90) → M1.1 k j = M.1 k j) (he2 : ∀ k j, coM k j → M1.2 k j = M.2 k j) (hk : keX M M1) : Q (some (.int v)) M1 := by
  subst e
  exact hQ _ (IM_w hI hG hV c2 c4 hst he he2) hk
theorem isIn4 {x : Int32} {a b : Int} {lo hi : Int64} (hlo : lo.toInt = a) (hhi : hi.toInt = b) (h : lo.toInt ≤ x.toInt64.toInt ∧ x.toInt64.toInt ≤ hi.toInt) : a ≤ x.toInt ∧ x.toInt ≤ b := by
  rw [hlo, hhi, i64_i32] at h; exact h
theorem isIn4n {x : Int32} {a b : Int} {lo hi : Int64} (hlo : lo.toInt = a) (hhi : hi.toInt = b) (h : ¬ (lo.toInt ≤ x.toInt64.toInt ∧ x.toInt64.toInt ≤ hi.toInt)) : ¬ (a ≤ x.toInt ∧ x.toInt ≤ b) := by
  rw [hlo, hhi, i64_i32] at h; exact h
theorem hi_sub {m : Nat} (h : m < 2 ^ 30) : (nI m - nI 1).toInt64.toInt = (m : Int) - 1 := by rw [i64_i32, nI_sub1 h]

set_option maxRecDepth 100000 in
set_option maxHeartbeats 800000 in
theorem c_X12_refuse {M : Mm} {n : Nat} {Q : Option Value → Mm → Prop} (hQ : Q (some (.int (-1))) (siM M 132 0 (nI n))) (d : Nat) : AMt miX12_refuse (d) [.ref 132, .int (nI n)] M Q := by
  refine AMt.of (by decide) (Nat.le_of_ble_eq_true rfl) ?_
  show AW miX12_refuse (d) (mxA Q) 0 [(0, some (.ref 132)), (1, some (.int (nI n)))] [] M
  refine a_aload_n rfl dX12_refuse_0 ?_
  refine a_iload_n rfl dX12_refuse_1 ?_
  refine a_puti dX12_refuse_2 pX12_72 (by decide) rfl rfl ?_
  refine a_iconst (-1) rfl dX12_refuse_5 ?_
  refine a_iret dX12_refuse_6 rfl ?_
  exact hQ

set_option maxRecDepth 100000 in
set_option maxHeartbeats 800000 in
theorem c_X12_no {M : Mm} {n : Nat} {Q : Option Value → Mm → Prop} (hQ : Q (some (.int (nI 0))) (siM M 132 0 (nI n))) (d : Nat) : AMt miX12_no (d) [.ref 132, .int (nI n)] M Q := by
  refine AMt.of (by decide) (Nat.le_of_ble_eq_true rfl) ?_
  show AW miX12_no (d) (mxA Q) 0 [(0, some (.ref 132)), (1, some (.int (nI n)))] [] M
  refine a_aload_n rfl dX12_no_0 ?_
  refine a_iload_n rfl dX12_no_1 ?_
  refine a_puti dX12_no_2 pX12_72 (by decide) rfl rfl ?_
  refine n_iconst 0 rfl dX12_no_5 ?_
  refine a_zret dX12_no_6 rfl (Or.inl rfl) ?_
  exact hQ

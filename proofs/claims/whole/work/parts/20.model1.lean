/-- the model's block at o holds the numbers S -/
def VM (o : Nat) (M : Mm) (S : ST) : Prop := M.1 137 (o + 0) = nI (S 0 2) ∧ M.1 137 (o + 1) = nI (S 0 3) ∧ M.1 137 (o + 2) = nI (S 0 4) ∧ M.1 137 (o + 3) = nI (S 0 5) ∧ M.1 137 (o + 4) = nI (S 0 0) ∧ M.1 137 (o + 5) = nI (S 0 1) ∧ (∀ j, j < S 0 2 → M.1 137 (o + 6 + j) = nI (S 2 j)) ∧ (∀ j, j < S 0 2 → M.1 137 (o + 12 + j) = nI (S 1 j)) ∧ (∀ j, j < S 0 3 → M.1 137 (o + 18 + j) = nI (S 3 j)) ∧ (∀ j, j < S 0 3 → M.1 137 (o + 28 + j) = nI (S 4 j)) ∧ (∀ j, j < S 0 4 → M.1 137 (o + 38 + j) = nI (S 5 j)) ∧ (∀ j, j < S 0 4 → M.1 137 (o + 45 + j) = nI (S 6 j)) ∧ (∀ j, j < S 0 4 → M.1 137 (o + 52 + j) = nI (S 7 j)) ∧ (∀ j, j < S 0 4 → M.1 137 (o + 59 + j) = nI (S 8 j)) ∧ (∀ j, j < S 0 5 → M.1 137 (o + 66 + j) = nI (S 9 j)) ∧ (∀ j, j < S 0 5 → M.1 137 (o + 74 + j) = nI (S 10 j)) ∧ (∀ j, j < S 0 5 → M.1 137 (o + 82 + j) = nI (S 11 j))
theorem VM_s0 {M : Mm} {S : ST} (h : VM 0 M S) : M.1 137 0 = nI (S 0 2) := h.1
theorem VM_s1 {M : Mm} {S : ST} (h : VM 0 M S) : M.1 137 1 = nI (S 0 3) := h.2.1
theorem VM_s2 {M : Mm} {S : ST} (h : VM 0 M S) : M.1 137 2 = nI (S 0 4) := h.2.2.1
theorem VM_s3 {M : Mm} {S : ST} (h : VM 0 M S) : M.1 137 3 = nI (S 0 5) := h.2.2.2.1
theorem VM_s4 {M : Mm} {S : ST} (h : VM 0 M S) : M.1 137 4 = nI (S 0 0) := h.2.2.2.2.1
theorem VM_s5 {M : Mm} {S : ST} (h : VM 0 M S) : M.1 137 5 = nI (S 0 1) := h.2.2.2.2.2.1
theorem VM_a6 {M : Mm} {S : ST} (h : VM 0 M S) {j : Nat} (hj : j < S 0 2) : M.1 137 (6 + j) = nI (S 2 j) := (h.2.2.2.2.2.2.1) j hj
theorem VM_a12 {M : Mm} {S : ST} (h : VM 0 M S) {j : Nat} (hj : j < S 0 2) : M.1 137 (12 + j) = nI (S 1 j) := (h.2.2.2.2.2.2.2.1) j hj
theorem VM_a18 {M : Mm} {S : ST} (h : VM 0 M S) {j : Nat} (hj : j < S 0 3) : M.1 137 (18 + j) = nI (S 3 j) := (h.2.2.2.2.2.2.2.2.1) j hj
theorem VM_a28 {M : Mm} {S : ST} (h : VM 0 M S) {j : Nat} (hj : j < S 0 3) : M.1 137 (28 + j) = nI (S 4 j) := (h.2.2.2.2.2.2.2.2.2.1) j hj
theorem VM_a38 {M : Mm} {S : ST} (h : VM 0 M S) {j : Nat} (hj : j < S 0 4) : M.1 137 (38 + j) = nI (S 5 j) := (h.2.2.2.2.2.2.2.2.2.2.1) j hj
theorem VM_a45 {M : Mm} {S : ST} (h : VM 0 M S) {j : Nat} (hj : j < S 0 4) : M.1 137 (45 + j) = nI (S 6 j) := (h.2.2.2.2.2.2.2.2.2.2.2.1) j hj
theorem VM_a52 {M : Mm} {S : ST} (h : VM 0 M S) {j : Nat} (hj : j < S 0 4) : M.1 137 (52 + j) = nI (S 7 j) := (h.2.2.2.2.2.2.2.2.2.2.2.2.1) j hj
theorem VM_a59 {M : Mm} {S : ST} (h : VM 0 M S) {j : Nat} (hj : j < S 0 4) : M.1 137 (59 + j) = nI (S 8 j) := (h.2.2.2.2.2.2.2.2.2.2.2.2.2.1) j hj
theorem VM_a66 {M : Mm} {S : ST} (h : VM 0 M S) {j : Nat} (hj : j < S 0 5) : M.1 137 (66 + j) = nI (S 9 j) := (h.2.2.2.2.2.2.2.2.2.2.2.2.2.2.1) j hj
theorem VM_a74 {M : Mm} {S : ST} (h : VM 0 M S) {j : Nat} (hj : j < S 0 5) : M.1 137 (74 + j) = nI (S 10 j) := (h.2.2.2.2.2.2.2.2.2.2.2.2.2.2.2.1) j hj
theorem VM_a82 {M : Mm} {S : ST} (h : VM 0 M S) {j : Nat} (hj : j < S 0 5) : M.1 137 (82 + j) = nI (S 11 j) := (h.2.2.2.2.2.2.2.2.2.2.2.2.2.2.2.2) j hj
theorem i64_i32 (x : Int32) : x.toInt64.toInt = x.toInt := Int32.toInt_toInt64 x
theorem nI_sub1 {m : Nat} (h : m < 2 ^ 30) : (nI m - nI 1).toInt = (m : Int) - 1 := by
  rw [pk_sub_toInt h (by decide)]; rfl
theorem nI_toI {m : Nat} (h : m < 2 ^ 31) : (nI m).toInt = (m : Int) := nI_toInt h
theorem inR_of {x : Int32} {m : Nat} (h0 : 0 ≤ x.toInt) (h1 : x.toInt < m) (hm : m < 2 ^ 31) : ∃ j, j < m ∧ x = nI j := by
  refine ⟨x.toInt.toNat, by omega, ?_⟩
  apply Int32.toInt_inj.mp
  rw [nI_toInt (by omega)]
  omega
theorem inR_to {x : Int32} {m : Nat} (h : inR x m) (hm : m < 2 ^ 31) : 0 ≤ x.toInt ∧ x.toInt < m := by
  obtain ⟨j, hj, rfl⟩ := h
  rw [nI_toInt (by omega)]
  omega
theorem isIn_idx {x : Int32} {m : Nat} (hm : m < 2 ^ 30) (h : (0 : Int64).toInt ≤ x.toInt64.toInt ∧ x.toInt64.toInt ≤ (nI m - nI 1).toInt64.toInt) : ∃ j, j < m ∧ x = nI j := by
  rw [i64_i32, i64_i32, nI_sub1 hm] at h
  exact inR_of (by simpa using h.1) (by omega) (by omega)
theorem isIn_idx' {x : Int32} {m : Nat} (hm : m < 2 ^ 30) (h : inR x m) : (0 : Int64).toInt ≤ x.toInt64.toInt ∧ x.toInt64.toInt ≤ (nI m - nI 1).toInt64.toInt := by
  have := inR_to h (by omega)
  rw [i64_i32, i64_i32, nI_sub1 hm]
  exact ⟨by simpa using this.1, by omega⟩

set_option maxRecDepth 100000 in
set_option maxHeartbeats 800000 in
theorem c_X12_isIn {M : Mm} {x lo hi : Int64} {Q : Option Value → Mm → Prop} (h1 : lo.toInt ≤ x.toInt ∧ x.toInt ≤ hi.toInt → Q (some (.int (nI 1))) M) (h0 : ¬ (lo.toInt ≤ x.toInt ∧ x.toInt ≤ hi.toInt) → Q (some (.int (nI 0))) M) (d : Nat) : AMt miX12_isIn (d) [.long x, .long lo, .long hi] M Q := by
  refine AMt.of (by decide) (Nat.le_of_ble_eq_true rfl) ?_
  show AW miX12_isIn (d) (mxA Q) 0 [(0, some (.long x)), (2, some (.long lo)), (4, some (.long hi))] [] M
  refine a_lload_n rfl dX12_isIn_0 ?_
  refine a_lload_n rfl dX12_isIn_1 ?_
  refine a_lcmp dX12_isIn_2 ?_
  refine l_if_lt 17 dX12_isIn_3 (by decide) (fun h_3 => ?_) (fun h_3 => ?_)
  · refine n_iconst 0 rfl dX12_isIn_17 ?_
    refine a_zret dX12_isIn_18 rfl (Or.inl rfl) ?_
    exact h0 (by rw [Int64.lt_iff_toInt_lt] at h_3; omega)
  · refine a_lload_n rfl dX12_isIn_6 ?_
    refine a_lload rfl dX12_isIn_7 ?_
    refine a_lcmp dX12_isIn_9 ?_
    refine l_if_gt 17 dX12_isIn_10 (by decide) (fun h_10 => ?_) (fun h_10 => ?_)
    · refine n_iconst 0 rfl dX12_isIn_17 ?_
      refine a_zret dX12_isIn_18 rfl (Or.inl rfl) ?_
      exact h0 (by rw [Int64.lt_iff_toInt_lt] at h_10; omega)
    · refine n_iconst 1 rfl dX12_isIn_13 ?_
      refine a_goto 18 dX12_isIn_14 (by decide) ?_
      refine a_zret dX12_isIn_18 rfl (Or.inr rfl) ?_
      exact h1 (by rw [Int64.lt_iff_toInt_lt] at h_3 h_10; omega)

set_option maxRecDepth 100000 in
set_option maxHeartbeats 800000 in
theorem c_X12_isMatterAt {M : Mm} {S : ST} (hM : VM 0 M S) (hF : WF S) {x : Int32} {Q : Option Value → Mm → Prop} (h1 : ∀ j, j < S 0 2 → x = nI j → Q (some (.int (nI 1))) M) (h0 : ¬ inR x (S 0 2) → Q (some (.int (nI 0))) M) (d : Nat) : AMt miX12_isMatterAt (d + 1) [.ref 132, .int x] M Q := by
  refine AMt.of (by decide) (Nat.le_of_ble_eq_true rfl) ?_
  show AW miX12_isMatterAt (d + 1) (mxA Q) 0 [(0, some (.ref 132)), (1, some (.int x))] [] M
  have hm := WF_m hF
  have hh := WF_h hF
  have hs := WF_s hF
  have hn := WF_n hF
  refine a_iload_n rfl dX12_isMatterAt_0 ?_
  refine a_i2l dX12_isMatterAt_1 ?_
  refine a_lconst 0 rfl dX12_isMatterAt_2 ?_
  refine a_aload_n rfl dX12_isMatterAt_3 ?_
  refine a_geta dX12_isMatterAt_4 fX12_35 (by decide) rfl rfl ?_
  refine n_iconst 0 rfl dX12_isMatterAt_7 ?_
  refine v_iald (by omega) (VM_s0 hM) (by decide) rfl (by decide) dX12_isMatterAt_8 ?_
  refine n_iconst 1 rfl dX12_isMatterAt_9 ?_
  refine a_isub dX12_isMatterAt_10 ?_
  refine a_i2l dX12_isMatterAt_11 ?_
  refine n_callS (mi' := miX12_isIn) dX12_isMatterAt_12 lX12_104 mX12_isIn (c_X12_isIn (fun h_12 => ?_) (fun h_12 => ?_) d) rfl rfl (by omega) (by decide) (Nat.le_of_ble_eq_true rfl)
  · show AW _ _ _ _ _ _ _
    refine a_zret dX12_isMatterAt_15 rfl (Or.inr rfl) ?_
    obtain ⟨j, hj, e⟩ := isIn_idx (by omega) h_12
    exact h1 j hj e
  · show AW _ _ _ _ _ _ _
    refine a_zret dX12_isMatterAt_15 rfl (Or.inl rfl) ?_
    exact h0 (fun q => h_12 (isIn_idx' (by omega) q))

theorem c_X12_isMatterAtN {M : Mm} {S : ST} (hM : VM 0 M S) (hF : WF S) {i : Nat} (hi31 : i < 2 ^ 31) {Q : Option Value → Mm → Prop} (h1 : i < S 0 2 → Q (some (.int (nI 1))) M) (h0 : ¬ i < S 0 2 → Q (some (.int (nI 0))) M) (d : Nat) : AMt miX12_isMatterAt (d + 1) [.ref 132, .int (nI i)] M Q := by
  have hb : S 0 2 < 2 ^ 31 := by have := WF_m hF; have := WF_h hF; have := WF_s hF; have := WF_n hF; omega
  exact c_X12_isMatterAt hM hF (fun j hj e => h1 (by have := (nI_eq hi31 (by omega)).mp e; omega)) (fun h => h0 (fun hi => h ⟨i, hi, rfl⟩)) d

set_option maxRecDepth 100000 in
set_option maxHeartbeats 800000 in
theorem c_X12_isSitterAt {M : Mm} {S : ST} (hM : VM 0 M S) (hF : WF S) {x : Int32} {Q : Option Value → Mm → Prop} (h1 : ∀ j, j < S 0 4 → x = nI j → Q (some (.int (nI 1))) M) (h0 : ¬ inR x (S 0 4) → Q (some (.int (nI 0))) M) (d : Nat) : AMt miX12_isSitterAt (d + 1) [.ref 132, .int x] M Q := by
  refine AMt.of (by decide) (Nat.le_of_ble_eq_true rfl) ?_
  show AW miX12_isSitterAt (d + 1) (mxA Q) 0 [(0, some (.ref 132)), (1, some (.int x))] [] M
  have hm := WF_m hF
  have hh := WF_h hF
  have hs := WF_s hF
  have hn := WF_n hF
  refine a_iload_n rfl dX12_isSitterAt_0 ?_
  refine a_i2l dX12_isSitterAt_1 ?_
  refine a_lconst 0 rfl dX12_isSitterAt_2 ?_
  refine a_aload_n rfl dX12_isSitterAt_3 ?_
  refine a_geta dX12_isSitterAt_4 fX12_35 (by decide) rfl rfl ?_
  refine n_iconst 2 rfl dX12_isSitterAt_7 ?_
  refine v_iald (by omega) (VM_s2 hM) (by decide) rfl (by decide) dX12_isSitterAt_8 ?_
  refine n_iconst 1 rfl dX12_isSitterAt_9 ?_
  refine a_isub dX12_isSitterAt_10 ?_
  refine a_i2l dX12_isSitterAt_11 ?_
  refine n_callS (mi' := miX12_isIn) dX12_isSitterAt_12 lX12_104 mX12_isIn (c_X12_isIn (fun h_12 => ?_) (fun h_12 => ?_) d) rfl rfl (by omega) (by decide) (Nat.le_of_ble_eq_true rfl)
  · show AW _ _ _ _ _ _ _
    refine a_zret dX12_isSitterAt_15 rfl (Or.inr rfl) ?_
    obtain ⟨j, hj, e⟩ := isIn_idx (by omega) h_12
    exact h1 j hj e
  · show AW _ _ _ _ _ _ _
    refine a_zret dX12_isSitterAt_15 rfl (Or.inl rfl) ?_
    exact h0 (fun q => h_12 (isIn_idx' (by omega) q))

theorem c_X12_isSitterAtN {M : Mm} {S : ST} (hM : VM 0 M S) (hF : WF S) {i : Nat} (hi31 : i < 2 ^ 31) {Q : Option Value → Mm → Prop} (h1 : i < S 0 4 → Q (some (.int (nI 1))) M) (h0 : ¬ i < S 0 4 → Q (some (.int (nI 0))) M) (d : Nat) : AMt miX12_isSitterAt (d + 1) [.ref 132, .int (nI i)] M Q := by
  have hb : S 0 4 < 2 ^ 31 := by have := WF_m hF; have := WF_h hF; have := WF_s hF; have := WF_n hF; omega
  exact c_X12_isSitterAt hM hF (fun j hj e => h1 (by have := (nI_eq hi31 (by omega)).mp e; omega)) (fun h => h0 (fun hi => h ⟨i, hi, rfl⟩)) d

set_option maxRecDepth 100000 in
set_option maxHeartbeats 800000 in
theorem c_X12_isNewsAt {M : Mm} {S : ST} (hM : VM 0 M S) (hF : WF S) {x : Int32} {Q : Option Value → Mm → Prop} (h1 : ∀ j, j < S 0 5 → x = nI j → Q (some (.int (nI 1))) M) (h0 : ¬ inR x (S 0 5) → Q (some (.int (nI 0))) M) (d : Nat) : AMt miX12_isNewsAt (d + 1) [.ref 132, .int x] M Q := by
  refine AMt.of (by decide) (Nat.le_of_ble_eq_true rfl) ?_
  show AW miX12_isNewsAt (d + 1) (mxA Q) 0 [(0, some (.ref 132)), (1, some (.int x))] [] M
  have hm := WF_m hF
  have hh := WF_h hF
  have hs := WF_s hF
  have hn := WF_n hF
  refine a_iload_n rfl dX12_isNewsAt_0 ?_
  refine a_i2l dX12_isNewsAt_1 ?_
  refine a_lconst 0 rfl dX12_isNewsAt_2 ?_
  refine a_aload_n rfl dX12_isNewsAt_3 ?_
  refine a_geta dX12_isNewsAt_4 fX12_35 (by decide) rfl rfl ?_
  refine n_iconst 3 rfl dX12_isNewsAt_7 ?_
  refine v_iald (by omega) (VM_s3 hM) (by decide) rfl (by decide) dX12_isNewsAt_8 ?_
  refine n_iconst 1 rfl dX12_isNewsAt_9 ?_
  refine a_isub dX12_isNewsAt_10 ?_
  refine a_i2l dX12_isNewsAt_11 ?_
  refine n_callS (mi' := miX12_isIn) dX12_isNewsAt_12 lX12_104 mX12_isIn (c_X12_isIn (fun h_12 => ?_) (fun h_12 => ?_) d) rfl rfl (by omega) (by decide) (Nat.le_of_ble_eq_true rfl)
  · show AW _ _ _ _ _ _ _
    refine a_zret dX12_isNewsAt_15 rfl (Or.inr rfl) ?_
    obtain ⟨j, hj, e⟩ := isIn_idx (by omega) h_12
    exact h1 j hj e
  · show AW _ _ _ _ _ _ _
    refine a_zret dX12_isNewsAt_15 rfl (Or.inl rfl) ?_
    exact h0 (fun q => h_12 (isIn_idx' (by omega) q))

theorem c_X12_isNewsAtN {M : Mm} {S : ST} (hM : VM 0 M S) (hF : WF S) {i : Nat} (hi31 : i < 2 ^ 31) {Q : Option Value → Mm → Prop} (h1 : i < S 0 5 → Q (some (.int (nI 1))) M) (h0 : ¬ i < S 0 5 → Q (some (.int (nI 0))) M) (d : Nat) : AMt miX12_isNewsAt (d + 1) [.ref 132, .int (nI i)] M Q := by
  have hb : S 0 5 < 2 ^ 31 := by have := WF_m hF; have := WF_h hF; have := WF_s hF; have := WF_n hF; omega
  exact c_X12_isNewsAt hM hF (fun j hj e => h1 (by have := (nI_eq hi31 (by omega)).mp e; omega)) (fun h => h0 (fun hi => h ⟨i, hi, rfl⟩)) d

set_option maxRecDepth 100000 in
set_option maxHeartbeats 800000 in
theorem c_X12_isSettled {M : Mm} {S : ST} (hM : VM 0 M S) (hF : WF S) {k : Nat} (hk : k < S 0 2) {Q : Option Value → Mm → Prop} (h1 : S 2 k = 100 → Q (some (.int (nI 1))) M) (h0 : ¬ S 2 k = 100 → Q (some (.int (nI 0))) M) (d : Nat) : AMt miX12_isSettled (d) [.ref 132, .int (nI k)] M Q := by
  refine AMt.of (by decide) (Nat.le_of_ble_eq_true rfl) ?_
  show AW miX12_isSettled (d) (mxA Q) 0 [(0, some (.ref 132)), (1, some (.int (nI k)))] [] M
  have hm := WF_m hF
  have hh := WF_h hF
  have hs := WF_s hF
  have hn := WF_n hF
  have hc := WF_clear hF k hk
  refine a_aload_n rfl dX12_isSettled_0 ?_
  refine a_geta dX12_isSettled_1 fX12_35 (by decide) rfl rfl ?_
  refine n_bipush 6 rfl dX12_isSettled_4 ?_
  refine a_iload_n rfl dX12_isSettled_6 ?_
  refine n_iadd dX12_isSettled_7 ?_
  refine v_iald (by omega) (VM_a6 hM (j := k) (by omega)) (by decide) rfl (by decide) dX12_isSettled_8 ?_
  refine n_bipush 100 rfl dX12_isSettled_9 ?_
  refine n_icmp_ne 18 (by omega) (by omega) dX12_isSettled_11 (by decide) (fun h_11 => ?_) (fun h_11 => ?_)
  · refine n_iconst 0 rfl dX12_isSettled_18 ?_
    refine a_zret dX12_isSettled_19 rfl (Or.inl rfl) ?_
    exact h0 h_11
  · refine n_iconst 1 rfl dX12_isSettled_14 ?_
    refine a_goto 19 dX12_isSettled_15 (by decide) ?_
    refine a_zret dX12_isSettled_19 rfl (Or.inr rfl) ?_
    exact h1 h_11

set_option maxRecDepth 100000 in
set_option maxHeartbeats 800000 in
theorem c_X12_has {M : Mm} {a k : Nat} (ha : a < 2 ^ 31) (hk : k < 32) {Q : Option Value → Mm → Prop} (h1 : a.testBit k = true → Q (some (.int (nI 1))) M) (h0 : a.testBit k = false → Q (some (.int (nI 0))) M) (d : Nat) : AMt miX12_has (d) [.int (nI a), .int (nI k)] M Q := by
  refine AMt.of (by decide) (Nat.le_of_ble_eq_true rfl) ?_
  show AW miX12_has (d) (mxA Q) 0 [(0, some (.int (nI a))), (1, some (.int (nI k)))] [] M
  have hb : (if a.testBit k then 1 else 0) < 2 := by split <;> omega
  refine a_iload_n rfl dX12_has_0 ?_
  refine a_iload_n rfl dX12_has_1 ?_
  refine n_shr (by omega) (by omega) dX12_has_2 ?_
  refine n_iconst 1 rfl dX12_has_3 ?_
  refine n_has dX12_has_4 ?_
  refine n_iconst 1 rfl dX12_has_5 ?_
  refine n_icmp_ne 13 (by omega) (by omega) dX12_has_6 (by decide) (fun h_6 => ?_) (fun h_6 => ?_)
  · refine n_iconst 0 rfl dX12_has_13 ?_
    refine a_zret dX12_has_14 rfl (Or.inl rfl) ?_
    exact h0 (by cases e : a.testBit k <;> simp [e] at h_6 ⊢)
  · refine n_iconst 1 rfl dX12_has_9 ?_
    refine a_goto 14 dX12_has_10 (by decide) ?_
    refine a_zret dX12_has_14 rfl (Or.inr rfl) ?_
    exact h1 (by cases e : a.testBit k <;> simp [e] at h_6 ⊢)

set_option maxRecDepth 100000 in
set_option maxHeartbeats 800000 in
theorem c_X12_heldBy {M : Mm} {S : ST} (hM : VM 0 M S) (hF : WF S) {k : Nat} (hk : k < S 0 2) {Q : Option Value → Mm → Prop} (hQ : Q (some (.int (nI (orN (fun q => S 3 q == k) (S 4) (S 0 3))))) M) (d : Nat) : AMt miX12_heldBy (d) [.ref 132, .int (nI k)] M Q := by
  refine AMt.of (by decide) (Nat.le_of_ble_eq_true rfl) ?_
  show AW miX12_heldBy (d) (mxA Q) 0 [(0, some (.ref 132)), (1, some (.int (nI k)))] [] M
  have hm := WF_m hF
  have hh := WF_h hF
  have hs := WF_s hF
  have hn := WF_n hF
  refine n_iconst 0 rfl dX12_heldBy_0 ?_
  refine a_istore_n (by decide) rfl dX12_heldBy_1 ?_
  refine n_iconst 0 rfl dX12_heldBy_2 ?_
  refine a_istore_n (by decide) rfl dX12_heldBy_3 ?_
  have loop_4 : ∀ i, i ≤ S 0 3 → AW miX12_heldBy (d) (mxA Q) 4 [(0, some (.ref 132)), (1, some (.int (nI k))), (2, some (.int (nI (orN (fun q => S 3 q == k) (S 4) i)))), (3, some (.int (nI i)))] [] M := by
    refine up (S 0 3) ?_ (fun i hi_4 ih_4 => ?_)
    · refine a_iload_n rfl dX12_heldBy_4 ?_
      refine a_aload_n rfl dX12_heldBy_5 ?_
      refine a_geta dX12_heldBy_6 fX12_35 (by decide) rfl rfl ?_
      refine n_iconst 1 rfl dX12_heldBy_9 ?_
      refine v_iald (by omega) (VM_s1 hM) (by decide) rfl (by decide) dX12_heldBy_10 ?_
      refine n_icmp_ge 51 (by omega) (by omega) dX12_heldBy_11 (by decide) (fun h_11 => ?_) (fun h_11 => absurd h_11 (by omega))
      refine a_iload_n rfl dX12_heldBy_51 ?_
      refine a_iret dX12_heldBy_52 rfl ?_
      exact hQ
    · have h1 := WF_held hF i hi_4
      have h2 := WF_by hF i hi_4
      refine a_iload_n rfl dX12_heldBy_4 ?_
      refine a_aload_n rfl dX12_heldBy_5 ?_
      refine a_geta dX12_heldBy_6 fX12_35 (by decide) rfl rfl ?_
      refine n_iconst 1 rfl dX12_heldBy_9 ?_
      refine v_iald (by omega) (VM_s1 hM) (by decide) rfl (by decide) dX12_heldBy_10 ?_
      refine n_icmp_ge 51 (by omega) (by omega) dX12_heldBy_11 (by decide) (fun h_11 => absurd h_11 (by omega)) (fun h_11 => ?_)
      refine a_iload_n rfl dX12_heldBy_14 ?_
      refine a_aload_n rfl dX12_heldBy_15 ?_
      refine a_geta dX12_heldBy_16 fX12_35 (by decide) rfl rfl ?_
      refine n_bipush 18 rfl dX12_heldBy_19 ?_
      refine a_iload_n rfl dX12_heldBy_21 ?_
      refine n_iadd dX12_heldBy_22 ?_
      refine v_iald (by omega) (VM_a18 hM (j := i) (by omega)) (by decide) rfl (by decide) dX12_heldBy_23 ?_
      refine a_iload_n rfl dX12_heldBy_24 ?_
      refine n_icmp_ne 42 (by omega) (by omega) dX12_heldBy_25 (by decide) (fun h_25 => ?_) (fun h_25 => ?_)
      · refine n_iconst 0 rfl dX12_heldBy_42 ?_
        refine n_ior dX12_heldBy_43 ?_
        refine a_istore_n (by decide) rfl dX12_heldBy_44 ?_
        refine n_iinc (c := 1) rfl rfl (by decide) rfl dX12_heldBy_45 ?_
        refine a_goto 4 dX12_heldBy_48 (by decide) ?_
        rw [show orN (fun q => S 3 q == k) (S 4) (i + 1) = (orN (fun q => S 3 q == k) (S 4) i) ||| 0 by simp [orN, bsN, h_25]] at ih_4
        exact a_bk ih_4 ⟨rfl, rfl, rfl, rfl, trivial⟩
      · refine n_iconst 1 rfl dX12_heldBy_28 ?_
        refine a_aload_n rfl dX12_heldBy_29 ?_
        refine a_geta dX12_heldBy_30 fX12_35 (by decide) rfl rfl ?_
        refine n_bipush 28 rfl dX12_heldBy_33 ?_
        refine a_iload_n rfl dX12_heldBy_35 ?_
        refine n_iadd dX12_heldBy_36 ?_
        refine v_iald (by omega) (VM_a28 hM (j := i) (by omega)) (by decide) rfl (by decide) dX12_heldBy_37 ?_
        refine n_bit (by omega) dX12_heldBy_38 ?_
        refine a_goto 43 dX12_heldBy_39 (by decide) ?_
        refine n_ior dX12_heldBy_43 ?_
        refine a_istore_n (by decide) rfl dX12_heldBy_44 ?_
        refine n_iinc (c := 1) rfl rfl (by decide) rfl dX12_heldBy_45 ?_
        refine a_goto 4 dX12_heldBy_48 (by decide) ?_
        rw [show orN (fun q => S 3 q == k) (S 4) (i + 1) = (orN (fun q => S 3 q == k) (S 4) i) ||| (2 ^ (S 4 i)) by simp [orN, bsN, h_25]] at ih_4
        exact a_bk ih_4 ⟨rfl, rfl, rfl, rfl, trivial⟩
  exact a_bk (loop_4 0 (by omega)) ⟨rfl, rfl, rfl, rfl, trivial⟩

set_option maxRecDepth 100000 in
set_option maxHeartbeats 800000 in
theorem c_X12_settledOnes {M : Mm} {S : ST} (hM : VM 0 M S) (hF : WF S) {Q : Option Value → Mm → Prop} (hQ : Q (some (.int (nI (bsN (fun j => decide (100 ≤ S 2 j)) (S 0 2))))) M) (d : Nat) : AMt miX12_settledOnes (d + 1) [.ref 132] M Q := by
  refine AMt.of (by decide) (Nat.le_of_ble_eq_true rfl) ?_
  show AW miX12_settledOnes (d + 1) (mxA Q) 0 [(0, some (.ref 132))] [] M
  have hm := WF_m hF
  have hh := WF_h hF
  have hs := WF_s hF
  have hn := WF_n hF
  refine n_iconst 0 rfl dX12_settledOnes_0 ?_
  refine a_istore_n (by decide) rfl dX12_settledOnes_1 ?_
  refine n_iconst 0 rfl dX12_settledOnes_2 ?_
  refine a_istore_n (by decide) rfl dX12_settledOnes_3 ?_
  have loop_4 : ∀ i, i ≤ S 0 2 → AW miX12_settledOnes (d + 1) (mxA Q) 4 [(0, some (.ref 132)), (1, some (.int (nI (bsN (fun j => decide (100 ≤ S 2 j)) i)))), (2, some (.int (nI i)))] [] M := by
    refine up (S 0 2) ?_ (fun i hi_4 ih_4 => ?_)
    · refine a_iload_n rfl dX12_settledOnes_4 ?_
      refine a_aload_n rfl dX12_settledOnes_5 ?_
      refine a_geta dX12_settledOnes_6 fX12_35 (by decide) rfl rfl ?_
      refine n_iconst 0 rfl dX12_settledOnes_9 ?_
      refine v_iald (by omega) (VM_s0 hM) (by decide) rfl (by decide) dX12_settledOnes_10 ?_
      refine n_icmp_ge 38 (by omega) (by omega) dX12_settledOnes_11 (by decide) (fun h_11 => ?_) (fun h_11 => absurd h_11 (by omega))
      refine a_iload_n rfl dX12_settledOnes_38 ?_
      refine a_iret dX12_settledOnes_39 rfl ?_
      exact hQ
    · have h1 := WF_clear hF i hi_4
      refine a_iload_n rfl dX12_settledOnes_4 ?_
      refine a_aload_n rfl dX12_settledOnes_5 ?_
      refine a_geta dX12_settledOnes_6 fX12_35 (by decide) rfl rfl ?_
      refine n_iconst 0 rfl dX12_settledOnes_9 ?_
      refine v_iald (by omega) (VM_s0 hM) (by decide) rfl (by decide) dX12_settledOnes_10 ?_
      refine n_icmp_ge 38 (by omega) (by omega) dX12_settledOnes_11 (by decide) (fun h_11 => absurd h_11 (by omega)) (fun h_11 => ?_)
      refine a_iload_n rfl dX12_settledOnes_14 ?_
      refine a_aload_n rfl dX12_settledOnes_15 ?_
      refine a_iload_n rfl dX12_settledOnes_16 ?_
      refine n_callV (mi' := miX12_isSettled) dX12_settledOnes_17 lX12_328 mX12_isSettled (by decide) rfl rfl rfl (c_X12_isSettled hM hF (by omega) (fun h_17 => ?_) (fun h_17 => ?_) d) rfl rfl (by omega) (by decide) (Nat.le_of_ble_eq_true rfl)
      · show AW _ _ _ _ _ _ _
        refine n_if_eq 29 (by decide) dX12_settledOnes_20 (by decide) (fun h => absurd h (by decide)) (fun _ => ?_)
        refine n_iconst 1 rfl dX12_settledOnes_23 ?_
        refine a_iload_n rfl dX12_settledOnes_24 ?_
        refine n_bit (by omega) dX12_settledOnes_25 ?_
        refine a_goto 30 dX12_settledOnes_26 (by decide) ?_
        refine n_ior dX12_settledOnes_30 ?_
        refine a_istore_n (by decide) rfl dX12_settledOnes_31 ?_
        refine n_iinc (c := 1) rfl rfl (by decide) rfl dX12_settledOnes_32 ?_
        refine a_goto 4 dX12_settledOnes_35 (by decide) ?_
        rw [show bsN (fun j => decide (100 ≤ S 2 j)) (i + 1) = (bsN (fun j => decide (100 ≤ S 2 j)) i) ||| (2 ^ i) by simp [bsN, show (100 ≤ S 2 i) = True by simp; omega]] at ih_4
        exact a_bk ih_4 ⟨rfl, rfl, rfl, trivial⟩
      · show AW _ _ _ _ _ _ _
        refine n_if_eq 29 (by decide) dX12_settledOnes_20 (by decide) (fun _ => ?_) (fun h => absurd h (by decide))
        refine n_iconst 0 rfl dX12_settledOnes_29 ?_
        refine n_ior dX12_settledOnes_30 ?_
        refine a_istore_n (by decide) rfl dX12_settledOnes_31 ?_
        refine n_iinc (c := 1) rfl rfl (by decide) rfl dX12_settledOnes_32 ?_
        refine a_goto 4 dX12_settledOnes_35 (by decide) ?_
        rw [show bsN (fun j => decide (100 ≤ S 2 j)) (i + 1) = (bsN (fun j => decide (100 ≤ S 2 j)) i) ||| 0 by simp [bsN, show (100 ≤ S 2 i) = False by simp; omega]] at ih_4
        exact a_bk ih_4 ⟨rfl, rfl, rfl, trivial⟩
  exact a_bk (loop_4 0 (by omega)) ⟨rfl, rfl, rfl, trivial⟩

/-- the STUCK ones as the model has them: those HELD by one that is not SETTLED -/
def stkM (S : ST) : Nat := bsN (fun k => !decide (S 2 k = 100) && !decide (orN (fun q => S 3 q == k) (S 4) (S 0 3) ^^^ (orN (fun q => S 3 q == k) (S 4) (S 0 3) &&& bsN (fun j => decide (100 ≤ S 2 j)) (S 0 2)) = 0)) (S 0 2)

set_option maxRecDepth 100000 in
set_option maxHeartbeats 800000 in
theorem c_X12_stuckOnes {M : Mm} {S : ST} (hM : VM 0 M S) (hF : WF S) {Q : Option Value → Mm → Prop} (hQ : Q (some (.int (nI (stkM S)))) M) (d : Nat) : AMt miX12_stuckOnes (d + 2) [.ref 132] M Q := by
  refine AMt.of (by decide) (Nat.le_of_ble_eq_true rfl) ?_
  show AW miX12_stuckOnes (d + 2) (mxA Q) 0 [(0, some (.ref 132))] [] M
  have hm := WF_m hF
  have hh := WF_h hF
  have hs := WF_s hF
  have hn := WF_n hF
  refine n_iconst 0 rfl dX12_stuckOnes_0 ?_
  refine a_istore_n (by decide) rfl dX12_stuckOnes_1 ?_
  refine a_aload_n rfl dX12_stuckOnes_2 ?_
  refine n_callV (mi' := miX12_settledOnes) dX12_stuckOnes_3 lX12_331 mX12_settledOnes (by decide) rfl rfl rfl (c_X12_settledOnes hM hF  ?_ d) rfl rfl (by omega) (by decide) (Nat.le_of_ble_eq_true rfl)
  show AW _ _ _ _ _ _ _
  refine a_istore_n (by decide) rfl dX12_stuckOnes_6 ?_
  refine n_iconst 0 rfl dX12_stuckOnes_7 ?_
  refine a_istore_n (by decide) rfl dX12_stuckOnes_8 ?_
  have loop_9 : ∀ i, i ≤ S 0 2 → AW miX12_stuckOnes (d + 2) (mxA Q) 9 [(0, some (.ref 132)), (1, some (.int (nI (bsN (fun k => !decide (S 2 k = 100) && !decide (orN (fun q => S 3 q == k) (S 4) (S 0 3) ^^^ (orN (fun q => S 3 q == k) (S 4) (S 0 3) &&& bsN (fun j => decide (100 ≤ S 2 j)) (S 0 2)) = 0)) i)))), (2, some (.int (nI (bsN (fun j => decide (100 ≤ S 2 j)) (S 0 2))))), (3, some (.int (nI i)))] [] M := by
    refine up (S 0 2) ?_ (fun i hi_9 ih_9 => ?_)
    · refine a_iload_n rfl dX12_stuckOnes_9 ?_
      refine a_aload_n rfl dX12_stuckOnes_10 ?_
      refine a_geta dX12_stuckOnes_11 fX12_35 (by decide) rfl rfl ?_
      refine n_iconst 0 rfl dX12_stuckOnes_14 ?_
      refine v_iald (by omega) (VM_s0 hM) (by decide) rfl (by decide) dX12_stuckOnes_15 ?_
      refine n_icmp_ge 55 (by omega) (by omega) dX12_stuckOnes_16 (by decide) (fun h_16 => ?_) (fun h_16 => absurd h_16 (by omega))
      refine a_iload_n rfl dX12_stuckOnes_55 ?_
      refine a_iret dX12_stuckOnes_56 rfl ?_
      exact hQ
    · have h1 := WF_clear hF i hi_9
      refine a_iload_n rfl dX12_stuckOnes_9 ?_
      refine a_aload_n rfl dX12_stuckOnes_10 ?_
      refine a_geta dX12_stuckOnes_11 fX12_35 (by decide) rfl rfl ?_
      refine n_iconst 0 rfl dX12_stuckOnes_14 ?_
      refine v_iald (by omega) (VM_s0 hM) (by decide) rfl (by decide) dX12_stuckOnes_15 ?_
      refine n_icmp_ge 55 (by omega) (by omega) dX12_stuckOnes_16 (by decide) (fun h_16 => absurd h_16 (by omega)) (fun h_16 => ?_)
      refine a_iload_n rfl dX12_stuckOnes_19 ?_
      refine a_aload_n rfl dX12_stuckOnes_20 ?_
      refine a_iload_n rfl dX12_stuckOnes_21 ?_
      refine n_callV (mi' := miX12_isSettled) dX12_stuckOnes_22 lX12_328 mX12_isSettled (by decide) rfl rfl rfl (c_X12_isSettled hM hF (by omega) (fun h_22 => ?_) (fun h_22 => ?_) d) rfl rfl (by omega) (by decide) (Nat.le_of_ble_eq_true rfl)
      · show AW _ _ _ _ _ _ _
        refine n_if_ne 46 (by decide) dX12_stuckOnes_25 (by decide) (fun _ => ?_) (fun h => absurd h (by decide))
        refine n_iconst 0 rfl dX12_stuckOnes_46 ?_
        refine n_ior dX12_stuckOnes_47 ?_
        refine a_istore_n (by decide) rfl dX12_stuckOnes_48 ?_
        refine n_iinc (c := 1) rfl rfl (by decide) rfl dX12_stuckOnes_49 ?_
        refine a_goto 9 dX12_stuckOnes_52 (by decide) ?_
        rw [show bsN (fun k => !decide (S 2 k = 100) && !decide (orN (fun q => S 3 q == k) (S 4) (S 0 3) ^^^ (orN (fun q => S 3 q == k) (S 4) (S 0 3) &&& bsN (fun j => decide (100 ≤ S 2 j)) (S 0 2)) = 0)) (i + 1) = (bsN (fun k => !decide (S 2 k = 100) && !decide (orN (fun q => S 3 q == k) (S 4) (S 0 3) ^^^ (orN (fun q => S 3 q == k) (S 4) (S 0 3) &&& bsN (fun j => decide (100 ≤ S 2 j)) (S 0 2)) = 0)) i) ||| 0 by simp [bsN, h_22]] at ih_9
        exact a_bk ih_9 ⟨rfl, rfl, rfl, rfl, trivial⟩
      · show AW _ _ _ _ _ _ _
        refine n_if_ne 46 (by decide) dX12_stuckOnes_25 (by decide) (fun h => absurd h (by decide)) (fun _ => ?_)
        refine a_aload_n rfl dX12_stuckOnes_28 ?_
        refine a_iload_n rfl dX12_stuckOnes_29 ?_
        refine n_callV (mi' := miX12_heldBy) dX12_stuckOnes_30 lX12_334 mX12_heldBy (by decide) rfl rfl rfl (c_X12_heldBy hM hF (by omega) ?_ d) rfl rfl (by omega) (by decide) (Nat.le_of_ble_eq_true rfl)
        show AW _ _ _ _ _ _ _
        refine a_iload_n rfl dX12_stuckOnes_33 ?_
        refine a_iconst (-1) rfl dX12_stuckOnes_34 ?_
        refine a_ixor dX12_stuckOnes_35 ?_
        refine n_andc dX12_stuckOnes_36 ?_
        have hor : orN (fun q => S 3 q == i) (S 4) (S 0 3) < 2 ^ 6 := Nat.lt_of_lt_of_le (orN_lt (k := S 0 2) (fun j hj => WF_by hF j hj)) (pow_le hm)
        have hxa := Nat.xor_lt_two_pow (n := 6) hor (Nat.lt_of_le_of_lt (Nat.and_le_left (m := bsN (fun j => decide (100 ≤ S 2 j)) (S 0 2))) hor)
        refine n_if_eq 46 (by omega) dX12_stuckOnes_37 (by decide) (fun h_37 => ?_) (fun h_37 => ?_)
        · refine n_iconst 0 rfl dX12_stuckOnes_46 ?_
          refine n_ior dX12_stuckOnes_47 ?_
          refine a_istore_n (by decide) rfl dX12_stuckOnes_48 ?_
          refine n_iinc (c := 1) rfl rfl (by decide) rfl dX12_stuckOnes_49 ?_
          refine a_goto 9 dX12_stuckOnes_52 (by decide) ?_
          rw [show bsN (fun k => !decide (S 2 k = 100) && !decide (orN (fun q => S 3 q == k) (S 4) (S 0 3) ^^^ (orN (fun q => S 3 q == k) (S 4) (S 0 3) &&& bsN (fun j => decide (100 ≤ S 2 j)) (S 0 2)) = 0)) (i + 1) = (bsN (fun k => !decide (S 2 k = 100) && !decide (orN (fun q => S 3 q == k) (S 4) (S 0 3) ^^^ (orN (fun q => S 3 q == k) (S 4) (S 0 3) &&& bsN (fun j => decide (100 ≤ S 2 j)) (S 0 2)) = 0)) i) ||| 0 by simp [bsN, h_37]] at ih_9
          exact a_bk ih_9 ⟨rfl, rfl, rfl, rfl, trivial⟩
        · refine n_iconst 1 rfl dX12_stuckOnes_40 ?_
          refine a_iload_n rfl dX12_stuckOnes_41 ?_
          refine n_bit (by omega) dX12_stuckOnes_42 ?_
          refine a_goto 47 dX12_stuckOnes_43 (by decide) ?_
          refine n_ior dX12_stuckOnes_47 ?_
          refine a_istore_n (by decide) rfl dX12_stuckOnes_48 ?_
          refine n_iinc (c := 1) rfl rfl (by decide) rfl dX12_stuckOnes_49 ?_
          refine a_goto 9 dX12_stuckOnes_52 (by decide) ?_
          rw [show bsN (fun k => !decide (S 2 k = 100) && !decide (orN (fun q => S 3 q == k) (S 4) (S 0 3) ^^^ (orN (fun q => S 3 q == k) (S 4) (S 0 3) &&& bsN (fun j => decide (100 ≤ S 2 j)) (S 0 2)) = 0)) (i + 1) = (bsN (fun k => !decide (S 2 k = 100) && !decide (orN (fun q => S 3 q == k) (S 4) (S 0 3) ^^^ (orN (fun q => S 3 q == k) (S 4) (S 0 3) &&& bsN (fun j => decide (100 ≤ S 2 j)) (S 0 2)) = 0)) i) ||| (2 ^ i) by simp [bsN, h_22, h_37]] at ih_9
          exact a_bk ih_9 ⟨rfl, rfl, rfl, rfl, trivial⟩
  exact a_bk (loop_9 0 (by omega)) ⟨rfl, rfl, rfl, rfl, trivial⟩

set_option maxRecDepth 100000 in
set_option maxHeartbeats 800000 in
theorem c_X12_heightBy {M : Mm} {t c : Nat} (ht : t ≤ 99) (hc : c ≤ 100) {Q : Option Value → Mm → Prop} (hQ : Q (some (.int (nI (hgt t c)))) M) (d : Nat) : AMt miX12_heightBy (d) [.int (nI t), .int (nI c)] M Q := by
  refine AMt.of (by decide) (Nat.le_of_ble_eq_true rfl) ?_
  show AW miX12_heightBy (d) (mxA Q) 0 [(0, some (.int (nI t))), (1, some (.int (nI c)))] [] M
  have hb : t * (100 - c) ≤ 99 * 100 := Nat.mul_le_mul ht (by omega)
  refine a_iload_n rfl dX12_heightBy_0 ?_
  refine n_bipush 100 rfl dX12_heightBy_1 ?_
  refine a_iload_n rfl dX12_heightBy_3 ?_
  refine n_isub (by omega) dX12_heightBy_4 ?_
  refine n_imul dX12_heightBy_5 ?_
  refine n_bipush 100 rfl dX12_heightBy_6 ?_
  refine n_idiv (by omega) (by omega) (by omega) dX12_heightBy_8 ?_
  refine a_iret dX12_heightBy_9 rfl ?_
  exact hQ

set_option maxRecDepth 100000 in
set_option maxHeartbeats 800000 in
theorem c_X12_heightOf {M : Mm} {S : ST} (hM : VM 0 M S) (hF : WF S) {p : Nat} (hp : p < S 0 4) {Q : Option Value → Mm → Prop} (hQ : Q (some (.int (nI (hgt (S 6 p) (S 2 (S 7 p)))))) M) (d : Nat) : AMt miX12_heightOf (d + 1) [.ref 132, .int (nI p)] M Q := by
  refine AMt.of (by decide) (Nat.le_of_ble_eq_true rfl) ?_
  show AW miX12_heightOf (d + 1) (mxA Q) 0 [(0, some (.ref 132)), (1, some (.int (nI p)))] [] M
  have hm := WF_m hF
  have hh := WF_h hF
  have hs := WF_s hF
  have hn := WF_n hF
  have hf := WF_for hF p hp
  have hc := WF_clear hF _ hf
  have ht := WF_tall hF p hp
  refine a_aload_n rfl dX12_heightOf_0 ?_
  refine a_geta dX12_heightOf_1 fX12_35 (by decide) rfl rfl ?_
  refine n_bipush 45 rfl dX12_heightOf_4 ?_
  refine a_iload_n rfl dX12_heightOf_6 ?_
  refine n_iadd dX12_heightOf_7 ?_
  refine v_iald (by omega) (VM_a45 hM (j := p) (by omega)) (by decide) rfl (by decide) dX12_heightOf_8 ?_
  refine a_aload_n rfl dX12_heightOf_9 ?_
  refine a_geta dX12_heightOf_10 fX12_35 (by decide) rfl rfl ?_
  refine n_bipush 6 rfl dX12_heightOf_13 ?_
  refine a_aload_n rfl dX12_heightOf_15 ?_
  refine a_geta dX12_heightOf_16 fX12_35 (by decide) rfl rfl ?_
  refine n_bipush 52 rfl dX12_heightOf_19 ?_
  refine a_iload_n rfl dX12_heightOf_21 ?_
  refine n_iadd dX12_heightOf_22 ?_
  refine v_iald (by omega) (VM_a52 hM (j := p) (by omega)) (by decide) rfl (by decide) dX12_heightOf_23 ?_
  refine n_iadd dX12_heightOf_24 ?_
  refine v_iald (by omega) (VM_a6 hM (j := (S 7 p)) (by omega)) (by decide) rfl (by decide) dX12_heightOf_25 ?_
  refine n_callS (mi' := miX12_heightBy) dX12_heightOf_26 lX12_337 mX12_heightBy (c_X12_heightBy (by omega) (by omega) ?_ d) rfl rfl (by omega) (by decide) (Nat.le_of_ble_eq_true rfl)
  show AW _ _ _ _ _ _ _
  refine a_iret dX12_heightOf_29 rfl ?_
  exact hQ

set_option maxRecDepth 100000 in
set_option maxHeartbeats 800000 in
theorem c_X12_downOnes {M : Mm} {S : ST} (hM : VM 0 M S) (hF : WF S) {Q : Option Value → Mm → Prop} (hQ : Q (some (.int (nI (bsN (fun p => hgt (S 6 p) (S 2 (S 7 p)) == 0) (S 0 4))))) M) (d : Nat) : AMt miX12_downOnes (d + 2) [.ref 132] M Q := by
  refine AMt.of (by decide) (Nat.le_of_ble_eq_true rfl) ?_
  show AW miX12_downOnes (d + 2) (mxA Q) 0 [(0, some (.ref 132))] [] M
  have hm := WF_m hF
  have hh := WF_h hF
  have hs := WF_s hF
  have hn := WF_n hF
  refine n_iconst 0 rfl dX12_downOnes_0 ?_
  refine a_istore_n (by decide) rfl dX12_downOnes_1 ?_
  refine n_iconst 0 rfl dX12_downOnes_2 ?_
  refine a_istore_n (by decide) rfl dX12_downOnes_3 ?_
  have loop_4 : ∀ i, i ≤ S 0 4 → AW miX12_downOnes (d + 2) (mxA Q) 4 [(0, some (.ref 132)), (1, some (.int (nI (bsN (fun p => hgt (S 6 p) (S 2 (S 7 p)) == 0) i)))), (2, some (.int (nI i)))] [] M := by
    refine up (S 0 4) ?_ (fun i hi_4 ih_4 => ?_)
    · refine a_iload_n rfl dX12_downOnes_4 ?_
      refine a_aload_n rfl dX12_downOnes_5 ?_
      refine a_geta dX12_downOnes_6 fX12_35 (by decide) rfl rfl ?_
      refine n_iconst 2 rfl dX12_downOnes_9 ?_
      refine v_iald (by omega) (VM_s2 hM) (by decide) rfl (by decide) dX12_downOnes_10 ?_
      refine n_icmp_ge 38 (by omega) (by omega) dX12_downOnes_11 (by decide) (fun h_11 => ?_) (fun h_11 => absurd h_11 (by omega))
      refine a_iload_n rfl dX12_downOnes_38 ?_
      refine a_iret dX12_downOnes_39 rfl ?_
      exact hQ
    · have h3 := WF_tall hF i hi_4
      have h4 := hgt_le (S 6 i) (S 2 (S 7 i))
      refine a_iload_n rfl dX12_downOnes_4 ?_
      refine a_aload_n rfl dX12_downOnes_5 ?_
      refine a_geta dX12_downOnes_6 fX12_35 (by decide) rfl rfl ?_
      refine n_iconst 2 rfl dX12_downOnes_9 ?_
      refine v_iald (by omega) (VM_s2 hM) (by decide) rfl (by decide) dX12_downOnes_10 ?_
      refine n_icmp_ge 38 (by omega) (by omega) dX12_downOnes_11 (by decide) (fun h_11 => absurd h_11 (by omega)) (fun h_11 => ?_)
      refine a_iload_n rfl dX12_downOnes_14 ?_
      refine a_aload_n rfl dX12_downOnes_15 ?_
      refine a_iload_n rfl dX12_downOnes_16 ?_
      refine n_callV (mi' := miX12_heightOf) dX12_downOnes_17 lX12_340 mX12_heightOf (by decide) rfl rfl rfl (c_X12_heightOf hM hF (by omega) ?_ d) rfl rfl (by omega) (by decide) (Nat.le_of_ble_eq_true rfl)
      show AW _ _ _ _ _ _ _
      refine n_if_ne 29 (by omega) dX12_downOnes_20 (by decide) (fun h_20 => ?_) (fun h_20 => ?_)
      · refine n_iconst 0 rfl dX12_downOnes_29 ?_
        refine n_ior dX12_downOnes_30 ?_
        refine a_istore_n (by decide) rfl dX12_downOnes_31 ?_
        refine n_iinc (c := 1) rfl rfl (by decide) rfl dX12_downOnes_32 ?_
        refine a_goto 4 dX12_downOnes_35 (by decide) ?_
        rw [show bsN (fun p => hgt (S 6 p) (S 2 (S 7 p)) == 0) (i + 1) = (bsN (fun p => hgt (S 6 p) (S 2 (S 7 p)) == 0) i) ||| 0 by simp [bsN, h_20]] at ih_4
        exact a_bk ih_4 ⟨rfl, rfl, rfl, trivial⟩
      · refine n_iconst 1 rfl dX12_downOnes_23 ?_
        refine a_iload_n rfl dX12_downOnes_24 ?_
        refine n_bit (by omega) dX12_downOnes_25 ?_
        refine a_goto 30 dX12_downOnes_26 (by decide) ?_
        refine n_ior dX12_downOnes_30 ?_
        refine a_istore_n (by decide) rfl dX12_downOnes_31 ?_
        refine n_iinc (c := 1) rfl rfl (by decide) rfl dX12_downOnes_32 ?_
        refine a_goto 4 dX12_downOnes_35 (by decide) ?_
        rw [show bsN (fun p => hgt (S 6 p) (S 2 (S 7 p)) == 0) (i + 1) = (bsN (fun p => hgt (S 6 p) (S 2 (S 7 p)) == 0) i) ||| (2 ^ i) by simp [bsN, h_20]] at ih_4
        exact a_bk ih_4 ⟨rfl, rfl, rfl, trivial⟩
  exact a_bk (loop_4 0 (by omega)) ⟨rfl, rfl, rfl, trivial⟩

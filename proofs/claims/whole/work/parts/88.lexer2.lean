theorem cd_s {D : Nat → Nat} {p i : Nat} (h : p ≤ i) : cdN D p (i - p) * 32 + (D i - 96) = cdN D p (i + 1 - p) := by
  rw [show i + 1 - p = (i - p) + 1 by omega, cdN, show p + (i - p) = i by omega]
theorem nv_s {D : Nat → Nat} {p i : Nat} (h : p ≤ i) : nvN D p (i - p) * 10 + (D i - 48) = nvN D p (i + 1 - p) := by
  rw [show i + 1 - p = (i - p) + 1 by omega, nvN, show p + (i - p) = i by omega]
theorem byI_n {v : Nat} (h : v < 128) : byI v = nI v := if_pos h
theorem byI_c : ∀ v, v < 256 → ((byI v).toInt = (v : Int) ↔ v < 128) := by decide +kernel
theorem slJ {M : Mm} {k j a b : Nat} {v : Int32} {x : Int64} (h : M.1 k j = v) : (slM M a b x).1 k j = v := h
/-- a token was put at c -/
def adT (M : Mm) (c : Nat) (t : TK) (M' : Mm) : Prop := M'.1 10 3 = nI (c + 1) ∧ M'.1 11 c = nI t.1 ∧ M'.1 12 c = nI t.2.1 ∧ ((t.1 = 1 ∨ t.1 = 2 ∨ t.1 = 4 ∨ t.1 = 5) → M'.2 13 c = lN t.2.2) ∧ fr (fun k j => (k = 10 ∧ j = 3) ∨ ((k = 11 ∨ k = 12 ∨ k = 13) ∧ j = c)) M M'
theorem adT_mk {M : Mm} {c k q v : Nat} {z : Int64} (hz : (k = 1 ∨ k = 2 ∨ k = 4 ∨ k = 5) → z = lN v) : adT M c (k, q, v) (siM (slM (siM (siM M 11 c (nI k)) 12 c (nI q)) 13 c z) 10 3 (nI (c + 1))) :=
  ⟨siS, siN (slJ (siN siS (by omega))) (by omega), siN (slJ siS) (by omega), fun h => slS.trans (hz h), (((fr.r.si (by omega)).si (by omega)).sl (by omega)).si (by omega)⟩
/-- the tokens as the class holds them -/
def TX (M : Mm) (tk : Nat → TK) (c : Nat) : Prop := M.1 10 3 = nI c ∧ 1 ≤ c ∧ c ≤ 901 ∧ (tk (c - 1)).1 = 0 ∧ (∀ i, i + 1 < c → (tk i).1 ≠ 0) ∧ ∀ i, i < c → M.1 11 i = nI (tk i).1 ∧ M.1 12 i = nI (tk i).2.1 ∧ (((tk i).1 = 1 ∨ (tk i).1 = 2 ∨ (tk i).1 = 4 ∨ (tk i).1 = 5) → M.2 13 i = lN (tk i).2.2)
def tkP (k j : Nat) : Prop := (k = 10 ∧ 3 ≤ j ∧ j ≤ 6) ∨ k = 11 ∨ k = 12 ∨ k = 13
/-- in the midst of open: at the place p, with c tokens -/
def opI (M : Mm) (D : Nat → Nat) (n p c : Nat) (M1 : Mm) : Prop := p ≤ n ∧ poN D n c ≤ p ∧ lxK D n p = lxK D n (poN D n c) ∧ c ≤ p ∧ M1.1 10 3 = nI c ∧ (∀ i, i < c → (tkN D n i).1 ≠ 0 ∧ M1.1 11 i = nI (tkN D n i).1 ∧ M1.1 12 i = nI (tkN D n i).2.1 ∧ (((tkN D n i).1 = 1 ∨ (tkN D n i).1 = 2 ∨ (tkN D n i).1 = 4 ∨ (tkN D n i).1 = 5) → M1.2 13 i = lN (tkN D n i).2.2)) ∧ fr tkP M M1
theorem op_blk {M M1 : Mm} {D : Nat → Nat} {n p c : Nat} (h : opI M D n p c M1) (hp : p < n) (hb : blkB (D p) = true) : opI M D n (p + 1) c M1 := ⟨by omega, Nat.le_succ_of_le h.2.1, (lx_blk hp hb).symm.trans h.2.2.1, Nat.le_succ_of_le h.2.2.2.1, h.2.2.2.2⟩
theorem ad_tk {k c j : Nat} (h : (k = 10 ∧ j = 3) ∨ ((k = 11 ∨ k = 12 ∨ k = 13) ∧ j = c)) : tkP k j := by unfold tkP; omega
theorem op_add {M M1 M2 : Mm} {D : Nat → Nat} {n p c r : Nat} {t : TK} (h : opI M D n p c M1) (hp : p < n) (hl : lxK D n p = (t, r)) (ht : t.1 ≠ 0) (hr : r ≤ n) (hpr : p < r) (ha : adT M1 c t M2) : opI M D n r (c + 1) M2 := by
  obtain ⟨h1, h2, h3, h4, h5, h6, h7⟩ := h
  obtain ⟨a1, a2, a3, a4, a5⟩ := ha
  have e : tkN D n c = t := by unfold tkN; rw [← h3, hl]
  have e2 : poN D n (c + 1) = r := by rw [poN, ← h3, hl]
  refine ⟨hr, by rw [e2]; exact Nat.le_refl _, by rw [e2], by omega, a1, fun i hi => ?_, h7.t (a5.mo (fun k j z => ad_tk z))⟩
  by_cases ei : i = c
  · rw [ei, e]; exact ⟨ht, a2, a3, a4⟩
  · obtain ⟨b1, b2, b3, b4⟩ := h6 i (by omega)
    exact ⟨b1, (a5 11 i (by omega)).1.trans b2, (a5 12 i (by omega)).1.trans b3, fun z => (a5 13 i (by omega)).2.trans (b4 z)⟩
theorem op_end {M M1 M2 : Mm} {D : Nat → Nat} {n c : Nat} (h : opI M D n n c M1) (hn : n ≤ 900) (ha : adT M1 c (0, n, 0) M2) : TX M2 (tkN D n) (c + 1) ∧ fr tkP M M2 := by
  obtain ⟨h1, h2, h3, h4, h5, h6, h7⟩ := h
  obtain ⟨a1, a2, a3, a4, a5⟩ := ha
  have e0 : lxK D n n = ((0, n, 0), n) := by
    unfold lxK
    rw [ruN_e (by omega)]
    unfold lxQ
    rw [if_pos (Nat.le_refl _)]
  have e : tkN D n c = (0, n, 0) := by unfold tkN; rw [← h3, e0]
  refine ⟨⟨a1, by omega, by omega, by rw [Nat.add_sub_cancel, e], fun i hi => (h6 i (by omega)).1, fun i hi => ?_⟩, h7.t (a5.mo (fun k j z => ad_tk z))⟩
  by_cases ei : i = c
  · rw [ei, e]; exact ⟨a2, a3, a4⟩
  · obtain ⟨b1, b2, b3, b4⟩ := h6 i (by omega)
    exact ⟨(a5 11 i (by omega)).1.trans b2, (a5 12 i (by omega)).1.trans b3, fun z => (a5 13 i (by omega)).2.trans (b4 z)⟩
theorem lx_let {D : Nat → Nat} {n p : Nat} (hp : p < n) (h : letB (D p) = true) : lxK D n p = (wdT D p (ruN letB D n p), ruN letB D n p) := by
  have := letB_i.mp h
  rw [lx_at (fun q => by have := blkB_i.mp q.2; omega)]
  unfold lxQ
  rw [if_neg (by omega), if_pos h]
theorem lx_dig {D : Nat → Nat} {n p : Nat} (hp : p < n) (h0 : ¬ letB (D p) = true) (h : digB (D p) = true) : lxK D n p = (nmT D p (ruN digB D n p), ruN digB D n p) := by
  have := digB_i.mp h
  rw [lx_at (fun q => by have := blkB_i.mp q.2; omega)]
  unfold lxQ
  rw [if_neg (by omega), if_neg h0, if_pos h]
theorem lx_sgn {D : Nat → Nat} {n p : Nat} (hp : p < n) (h0 : ¬ letB (D p) = true) (h1 : ¬ digB (D p) = true) (h : sgnB (D p) = true) : lxK D n p = ((5, p, D p), p + 1) := by
  have := sgnB_i.mp h
  rw [lx_at (fun q => by have := blkB_i.mp q.2; omega)]
  unfold lxQ
  rw [if_neg (by omega), if_neg h0, if_neg h1, if_pos h]
theorem lx_bad {D : Nat → Nat} {n p : Nat} (hp : p < n) (h0 : ¬ letB (D p) = true) (h1 : ¬ digB (D p) = true) (h2 : ¬ sgnB (D p) = true) (hb : ¬ blkB (D p) = true) : lxK D n p = ((6, p, 0), p + 1) := by
  rw [lx_at (fun q => hb q.2)]
  unfold lxQ
  rw [if_neg (by omega), if_neg h0, if_neg h1, if_neg h2]

set_option maxRecDepth 100000 in
set_option maxHeartbeats 800000 in
theorem c_X4_isLetter {M : Mm} {v : Nat} (hv : v < 256) {Q : Option Value → Mm → Prop} (h1 : letB v = true → Q (some (.int (nI 1))) M) (h0 : ¬ letB v = true → Q (some (.int (nI 0))) M) (d : Nat) : AMt miX4_isLetter (d) [.int ((byI v))] M Q := by
  refine AMt.of (by decide) (Nat.le_of_ble_eq_true rfl) ?_
  show AW miX4_isLetter (d) (mxA Q) 0 [(0, some (.int ((byI v))))] [] M
  have t_v := byI_t v hv
  refine a_iload_n rfl dX4_isLetter_0 ?_
  refine n_bipush 97 rfl dX4_isLetter_1 ?_
  refine r_icmp_lt 16 (by omega) dX4_isLetter_3 (by decide) (fun h_3 => ?_) (fun h_3 => ?_)
  · refine n_iconst 0 rfl dX4_isLetter_16 ?_
    refine a_zret dX4_isLetter_17 rfl (Or.inl rfl) ?_
    exact h0 (fun q => by have := letB_i.mp q; split at t_v <;> omega)
  · refine a_iload_n rfl dX4_isLetter_6 ?_
    refine n_bipush 122 rfl dX4_isLetter_7 ?_
    refine r_icmp_gt 16 (by omega) dX4_isLetter_9 (by decide) (fun h_9 => ?_) (fun h_9 => ?_)
    · refine n_iconst 0 rfl dX4_isLetter_16 ?_
      refine a_zret dX4_isLetter_17 rfl (Or.inl rfl) ?_
      exact h0 (fun q => by have := letB_i.mp q; split at t_v <;> omega)
    · refine n_iconst 1 rfl dX4_isLetter_12 ?_
      refine a_goto 17 dX4_isLetter_13 (by decide) ?_
      refine a_zret dX4_isLetter_17 rfl (Or.inr rfl) ?_
      exact h1 (letB_i.mpr (by split at t_v <;> omega))

set_option maxRecDepth 100000 in
set_option maxHeartbeats 800000 in
theorem c_X4_isDigit {M : Mm} {v : Nat} (hv : v < 256) {Q : Option Value → Mm → Prop} (h1 : digB v = true → Q (some (.int (nI 1))) M) (h0 : ¬ digB v = true → Q (some (.int (nI 0))) M) (d : Nat) : AMt miX4_isDigit (d) [.int ((byI v))] M Q := by
  refine AMt.of (by decide) (Nat.le_of_ble_eq_true rfl) ?_
  show AW miX4_isDigit (d) (mxA Q) 0 [(0, some (.int ((byI v))))] [] M
  have t_v := byI_t v hv
  refine a_iload_n rfl dX4_isDigit_0 ?_
  refine n_bipush 48 rfl dX4_isDigit_1 ?_
  refine r_icmp_lt 16 (by omega) dX4_isDigit_3 (by decide) (fun h_3 => ?_) (fun h_3 => ?_)
  · refine n_iconst 0 rfl dX4_isDigit_16 ?_
    refine a_zret dX4_isDigit_17 rfl (Or.inl rfl) ?_
    exact h0 (fun q => by have := digB_i.mp q; split at t_v <;> omega)
  · refine a_iload_n rfl dX4_isDigit_6 ?_
    refine n_bipush 57 rfl dX4_isDigit_7 ?_
    refine r_icmp_gt 16 (by omega) dX4_isDigit_9 (by decide) (fun h_9 => ?_) (fun h_9 => ?_)
    · refine n_iconst 0 rfl dX4_isDigit_16 ?_
      refine a_zret dX4_isDigit_17 rfl (Or.inl rfl) ?_
      exact h0 (fun q => by have := digB_i.mp q; split at t_v <;> omega)
    · refine n_iconst 1 rfl dX4_isDigit_12 ?_
      refine a_goto 17 dX4_isDigit_13 (by decide) ?_
      refine a_zret dX4_isDigit_17 rfl (Or.inr rfl) ?_
      exact h1 (digB_i.mpr (by split at t_v <;> omega))

set_option maxRecDepth 100000 in
set_option maxHeartbeats 800000 in
theorem c_X4_isSign {M : Mm} {v : Nat} (hv : v < 256) {Q : Option Value → Mm → Prop} (h1 : sgnB v = true → Q (some (.int (nI 1))) M) (h0 : ¬ sgnB v = true → Q (some (.int (nI 0))) M) (d : Nat) : AMt miX4_isSign (d) [.int ((byI v))] M Q := by
  refine AMt.of (by decide) (Nat.le_of_ble_eq_true rfl) ?_
  show AW miX4_isSign (d) (mxA Q) 0 [(0, some (.int ((byI v))))] [] M
  have t_v := byI_t v hv
  refine a_iload_n rfl dX4_isSign_0 ?_
  refine n_bipush 59 rfl dX4_isSign_1 ?_
  refine r_icmp_eq 24 (by omega) dX4_isSign_3 (by decide) (fun h_3 => ?_) (fun h_3 => ?_)
  · refine n_iconst 1 rfl dX4_isSign_24 ?_
    refine a_goto 29 dX4_isSign_25 (by decide) ?_
    refine a_zret dX4_isSign_29 rfl (Or.inr rfl) ?_
    exact h1 (sgnB_i.mpr (by split at t_v <;> omega))
  · refine a_iload_n rfl dX4_isSign_6 ?_
    refine n_bipush 60 rfl dX4_isSign_7 ?_
    refine r_icmp_eq 24 (by omega) dX4_isSign_9 (by decide) (fun h_9 => ?_) (fun h_9 => ?_)
    · refine n_iconst 1 rfl dX4_isSign_24 ?_
      refine a_goto 29 dX4_isSign_25 (by decide) ?_
      refine a_zret dX4_isSign_29 rfl (Or.inr rfl) ?_
      exact h1 (sgnB_i.mpr (by split at t_v <;> omega))
    · refine a_iload_n rfl dX4_isSign_12 ?_
      refine n_bipush 62 rfl dX4_isSign_13 ?_
      refine r_icmp_eq 24 (by omega) dX4_isSign_15 (by decide) (fun h_15 => ?_) (fun h_15 => ?_)
      · refine n_iconst 1 rfl dX4_isSign_24 ?_
        refine a_goto 29 dX4_isSign_25 (by decide) ?_
        refine a_zret dX4_isSign_29 rfl (Or.inr rfl) ?_
        exact h1 (sgnB_i.mpr (by split at t_v <;> omega))
      · refine a_iload_n rfl dX4_isSign_18 ?_
        refine n_bipush 61 rfl dX4_isSign_19 ?_
        refine r_icmp_ne 28 (by omega) dX4_isSign_21 (by decide) (fun h_21 => ?_) (fun h_21 => ?_)
        · refine n_iconst 0 rfl dX4_isSign_28 ?_
          refine a_zret dX4_isSign_29 rfl (Or.inl rfl) ?_
          exact h0 (fun q => by have := sgnB_i.mp q; split at t_v <;> omega)
        · refine n_iconst 1 rfl dX4_isSign_24 ?_
          refine a_goto 29 dX4_isSign_25 (by decide) ?_
          refine a_zret dX4_isSign_29 rfl (Or.inr rfl) ?_
          exact h1 (sgnB_i.mpr (by split at t_v <;> omega))

set_option maxRecDepth 100000 in
set_option maxHeartbeats 800000 in
theorem c_X8_codeWith {M : Mm} {a v : Nat} (hv : 97 ≤ v ∧ v ≤ 122) {Q : Option Value → Mm → Prop} (hQ : Q (some (.long (lN (a * 32 + (v - 96))))) M) (d : Nat) : AMt miX8_codeWith (d) [.long (lN a), .int (nI v)] M Q := by
  refine AMt.of (by decide) (Nat.le_of_ble_eq_true rfl) ?_
  show AW miX8_codeWith (d) (mxA Q) 0 [(0, some (.long (lN a))), (2, some (.int (nI v)))] [] M
  refine a_lload_n rfl dX8_codeWith_0 ?_
  refine a_ldc2 kX8_7 dX8_codeWith_1 ?_
  refine a_eql (y := lN 32) rfl ?_
  refine n_lmul dX8_codeWith_4 ?_
  refine a_iload_n rfl dX8_codeWith_5 ?_
  refine n_bipush 97 rfl dX8_codeWith_6 ?_
  refine n_isub (by omega) dX8_codeWith_8 ?_
  refine n_iconst 1 rfl dX8_codeWith_9 ?_
  refine n_iadd dX8_codeWith_10 ?_
  refine n_i2l (by omega) dX8_codeWith_11 ?_
  refine n_ladd dX8_codeWith_12 ?_
  refine a_lret dX8_codeWith_13 rfl ?_
  rw [show v - 97 + 1 = v - 96 by omega]
  exact hQ

set_option maxRecDepth 100000 in
set_option maxHeartbeats 800000 in
theorem c_X8_keywordOf {M : Mm} {x : Int64} {Q : Option Value → Mm → Prop} (h1 : ∀ k, k < 25 → lN (kwC k) = x → Q (some (.int (nI k))) M) (h0 : (∀ k, k < 25 → lN (kwC k) ≠ x) → Q (some (.int (-1))) M) (d : Nat) : AMt miX8_keywordOf (d + 4) [.long x] M Q := by
  refine AMt.of (by decide) (Nat.le_of_ble_eq_true rfl) ?_
  show AW miX8_keywordOf (d + 4) (mxA Q) 0 [(0, some (.long x))] [] M
  refine n_iconst 0 rfl dX8_keywordOf_0 ?_
  refine a_istore_n (by decide) rfl dX8_keywordOf_1 ?_
  refine a_lconst (lN 0) rfl dX8_keywordOf_2 ?_
  refine a_lstore_n (by decide) rfl dX8_keywordOf_3 ?_
  refine n_iconst 0 rfl dX8_keywordOf_4 ?_
  refine a_istore (by decide) rfl dX8_keywordOf_5 ?_
  have loop_7 : ∀ i, i ≤ 132 → (∀ k, k < wcI i → lN (kwC k) ≠ x) → AW miX8_keywordOf (d + 4) (mxA Q) 7 [(0, some (.long x)), (2, some (.int (nI (wcI i)))), (3, some (.long (lN (wdI i)))), (5, some (.int (nI i)))] [] M := by
    refine up (W := fun i => (∀ k, k < wcI i → lN (kwC k) ≠ x) → AW miX8_keywordOf (d + 4) (mxA Q) 7 [(0, some (.long x)), (2, some (.int (nI (wcI i)))), (3, some (.long (lN (wdI i)))), (5, some (.int (nI i)))] [] M) 132 (fun hI_7 => ?_) (fun i hi_7 ih_7 hI_7 => ?_)
    · refine a_iload rfl dX8_keywordOf_7 ?_
      refine a_ldcS rfl dX8_keywordOf_9 ?_
      refine n_callT (mi' := miJ0_length_8abf5) dX8_keywordOf_11 lX8_13 mJ0_length_8abf5 rfl (c_strLen ?_ d) rfl rfl (by omega) (by decide) (Nat.le_of_ble_eq_true rfl)
      show AW _ _ _ _ _ _ _
      refine n_icmp_ge 62 (by omega) (by omega) dX8_keywordOf_14 (by decide) (fun h_14 => ?_) (fun h_14 => absurd h_14 (by omega))
      refine a_iconst (-1) rfl dX8_keywordOf_62 ?_
      refine a_iret dX8_keywordOf_63 rfl ?_
      exact h0 (fun k hk => hI_7 k (by rw [wc_end]; exact hk))
    · refine a_iload rfl dX8_keywordOf_7 ?_
      refine a_ldcS rfl dX8_keywordOf_9 ?_
      refine n_callT (mi' := miJ0_length_8abf5) dX8_keywordOf_11 lX8_13 mJ0_length_8abf5 rfl (c_strLen ?_ d) rfl rfl (by omega) (by decide) (Nat.le_of_ble_eq_true rfl)
      show AW _ _ _ _ _ _ _
      refine n_icmp_ge 62 (by omega) (by omega) dX8_keywordOf_14 (by decide) (fun h_14 => absurd h_14 (by omega)) (fun h_14 => ?_)
      refine a_ldcS rfl dX8_keywordOf_17 ?_
      refine a_iload rfl dX8_keywordOf_19 ?_
      refine n_callT (mi' := miJ0_charAt_5068e) dX8_keywordOf_21 lX8_19 mJ0_charAt_5068e rfl (c_strCh (by omega) ?_ d) rfl rfl (by omega) (by decide) (Nat.le_of_ble_eq_true rfl)
      show AW _ _ _ _ _ _ _
      refine a_eqi (y := nI (chN i)) (ch_str i (by omega)).1 ?_
      have hch := (ch_str i (by omega)).2
      have hwk := wc_kw i (by omega)
      refine a_istore (by decide) rfl dX8_keywordOf_24 ?_
      refine a_iload rfl dX8_keywordOf_26 ?_
      refine n_bipush 32 rfl dX8_keywordOf_28 ?_
      refine n_icmp_eq 43 (by omega) (by omega) dX8_keywordOf_30 (by decide) (fun h_30 => ?_) (fun h_30 => ?_)
      · refine a_lload_n rfl dX8_keywordOf_43 ?_
        refine a_lload_n rfl dX8_keywordOf_44 ?_
        refine a_lcmp dX8_keywordOf_45 ?_
        refine l_if_ne 51 dX8_keywordOf_46 (by decide) (fun h_46 => ?_) (fun h_46 => ?_)
        · refine n_iinc (c := 1) rfl rfl (by decide) rfl dX8_keywordOf_51 ?_
          refine a_lconst (lN 0) rfl dX8_keywordOf_54 ?_
          refine a_lstore_n (by decide) rfl dX8_keywordOf_55 ?_
          refine n_iinc (c := 1) rfl rfl (by decide) rfl dX8_keywordOf_56 ?_
          refine a_goto 7 dX8_keywordOf_59 (by decide) ?_
          have ihx_7 := (ih_7 (fun k hk => by
                    rw [show wcI (i + 1) = wcI i + 1 from if_pos h_30] at hk
                    by_cases e : k = wcI i
                    · rw [e, hwk.2 h_30]; exact h_46
                    · exact hI_7 k (by omega)))
          rw [show wcI (i + 1) = wcI i + 1 from if_pos h_30, show wdI (i + 1) = 0 from if_pos h_30] at ihx_7
          exact a_bk ihx_7 ⟨rfl, rfl, rfl, rfl, trivial⟩
        · refine a_iload_n rfl dX8_keywordOf_49 ?_
          refine a_iret dX8_keywordOf_50 rfl ?_
          exact h1 _ hwk.1 (by rw [hwk.2 h_30]; exact h_46)
      · refine a_lload_n rfl dX8_keywordOf_33 ?_
        refine a_iload rfl dX8_keywordOf_34 ?_
        refine n_callS (mi' := miX8_codeWith) dX8_keywordOf_36 lX8_23 mX8_codeWith (c_X8_codeWith (by omega) ?_ d) rfl rfl (by omega) (by decide) (Nat.le_of_ble_eq_true rfl)
        show AW _ _ _ _ _ _ _
        refine a_lstore_n (by decide) rfl dX8_keywordOf_39 ?_
        refine a_goto 56 dX8_keywordOf_40 (by decide) ?_
        refine n_iinc (c := 1) rfl rfl (by decide) rfl dX8_keywordOf_56 ?_
        refine a_goto 7 dX8_keywordOf_59 (by decide) ?_
        have ihx_7 := (ih_7 (fun k hk => hI_7 k (by rw [show wcI (i + 1) = wcI i from if_neg h_30] at hk; exact hk)))
        rw [show wcI (i + 1) = wcI i from if_neg h_30, show wdI (i + 1) = wdI i * 32 + (chN i - 96) from if_neg h_30] at ihx_7
        exact a_bk ihx_7 ⟨rfl, rfl, rfl, rfl, trivial⟩
  exact a_bk (loop_7 0 (by omega) (fun k hk => absurd hk (Nat.not_lt_zero _))) ⟨rfl, rfl, rfl, rfl, trivial⟩

set_option maxRecDepth 100000 in
set_option maxHeartbeats 800000 in
theorem c_X4_add {M : Mm} {c k q : Nat} {z : Int64} (hc : M.1 10 3 = nI c) (hc9 : c < 901) {Q : Option Value → Mm → Prop} (hQ : Q none (siM (slM (siM (siM M 11 c (nI k)) 12 c (nI q)) 13 c z) 10 3 (nI (c + 1)))) (d : Nat) : AMt miX4_add (d) [.ref 10, .int (nI k), .int (nI q), .long z] M Q := by
  refine AMt.of (by decide) (Nat.le_of_ble_eq_true rfl) ?_
  show AW miX4_add (d) (mxA Q) 0 [(0, some (.ref 10)), (1, some (.int (nI k))), (2, some (.int (nI q))), (3, some (.long z))] [] M
  refine a_aload_n rfl dX4_add_0 ?_
  refine g_i hc (by decide) rfl fX4_38 rfl dX4_add_1 ?_
  refine n_sipush 901 rfl dX4_add_4 ?_
  refine n_icmp_ge 50 (by omega) (by omega) dX4_add_7 (by decide) (fun h_7 => absurd h_7 (by omega)) (fun h_7 => ?_)
  refine a_aload_n rfl dX4_add_10 ?_
  refine a_geta dX4_add_11 fX4_11 (by decide) rfl rfl ?_
  refine a_aload_n rfl dX4_add_14 ?_
  refine g_i hc (by decide) rfl fX4_38 rfl dX4_add_15 ?_
  refine a_iload_n rfl dX4_add_18 ?_
  refine n_iast (by omega) (by decide) rfl (by decide) dX4_add_19 ?_
  refine a_aload_n rfl dX4_add_20 ?_
  refine a_geta dX4_add_21 fX4_15 (by decide) rfl rfl ?_
  refine a_aload_n rfl dX4_add_24 ?_
  refine g_i (siN hc (by omega)) (by decide) rfl fX4_38 rfl dX4_add_25 ?_
  refine a_iload_n rfl dX4_add_28 ?_
  refine n_iast (by omega) (by decide) rfl (by decide) dX4_add_29 ?_
  refine a_aload_n rfl dX4_add_30 ?_
  refine a_geta dX4_add_31 fX4_18 (by decide) rfl rfl ?_
  refine a_aload_n rfl dX4_add_34 ?_
  refine g_i (siN (siN hc (by omega)) (by omega)) (by decide) rfl fX4_38 rfl dX4_add_35 ?_
  refine a_lload_n rfl dX4_add_38 ?_
  refine n_last (by omega) (by decide) rfl (by decide) dX4_add_39 ?_
  refine a_aload_n rfl dX4_add_40 ?_
  refine a_dup rfl dX4_add_41 ?_
  refine g_i (slJ (siN (siN hc (by omega)) (by omega))) (by decide) rfl fX4_38 rfl dX4_add_42 ?_
  refine n_iconst 1 rfl dX4_add_45 ?_
  refine n_iadd dX4_add_46 ?_
  refine a_puti dX4_add_47 pX4_38 (by decide) rfl rfl ?_
  refine a_vret dX4_add_50 rfl ?_
  exact hQ

set_option maxRecDepth 100000 in
set_option maxHeartbeats 800000 in
theorem c_X4_addWord {M : Mm} {D : Nat → Nat} {n p c : Nat} (hD : ∀ j, j < n → M.1 1 j = byI (D j)) (hDl : ∀ j, D j < 256) (hn : n ≤ 900) (hp : p < n) (hc : M.1 10 3 = nI c) (hc9 : c < 901) {Q : Option Value → Mm → Prop} (hQ : ∀ M', adT M c (wdT D p (ruN letB D n p)) M' → Q (some (.int (nI (ruN letB D n p - p)))) M') (d : Nat) : AMt miX4_addWord (d + 5) [.ref 10, .ref 1, .int (nI p), .int (nI n)] M Q := by
  refine AMt.of (by decide) (Nat.le_of_ble_eq_true rfl) ?_
  show AW miX4_addWord (d + 5) (mxA Q) 0 [(0, some (.ref 10)), (1, some (.ref 1)), (2, some (.int (nI p))), (3, some (.int (nI n)))] [] M
  refine a_lconst (lN 0) rfl dX4_addWord_0 ?_
  refine a_eql (y := lN (cdN D p (p - p))) (by rw [Nat.sub_self]; rfl) ?_
  refine a_lstore (by decide) rfl dX4_addWord_1 ?_
  refine a_iload_n rfl dX4_addWord_3 ?_
  refine a_istore (by decide) rfl dX4_addWord_4 ?_
  have loop_6 : ∀ i, i ≤ n → (p ≤ i ∧ ∀ q, p ≤ q → q < i → letB (D q) = true) → AW miX4_addWord (d + 5) (mxA Q) 6 [(0, some (.ref 10)), (1, some (.ref 1)), (2, some (.int (nI p))), (3, some (.int (nI n))), (4, some (.long (lN (cdN D p (i - p))))), (6, some (.int (nI i)))] [] M := by
    refine up (W := fun i => (p ≤ i ∧ ∀ q, p ≤ q → q < i → letB (D q) = true) → AW miX4_addWord (d + 5) (mxA Q) 6 [(0, some (.ref 10)), (1, some (.ref 1)), (2, some (.int (nI p))), (3, some (.int (nI n))), (4, some (.long (lN (cdN D p (i - p))))), (6, some (.int (nI i)))] [] M) n (fun hI_6 => ?_) (fun i hi_6 ih_6 hI_6 => ?_)
    · refine a_iload rfl dX4_addWord_6 ?_
      refine a_iload_n rfl dX4_addWord_8 ?_
      refine n_icmp_ge 39 (by omega) (by omega) dX4_addWord_9 (by decide) (fun h_9 => ?_) (fun h_9 => absurd h_9 (by omega))
      have hr : ruN letB D n p = n := ruN_at (by omega) (Nat.le_refl _) hI_6.2 (by omega)
      rw [hr] at hQ
      have hin := hI_6.2
      have hpi := hI_6.1
      refine a_lload rfl dX4_addWord_39 ?_
      refine n_callS (mi' := miX8_keywordOf) dX4_addWord_41 lX4_71 mX8_keywordOf (c_X8_keywordOf (fun k_41 hk_41 he_41 => ?_) (fun hn_41 => ?_) d) rfl rfl (by omega) (by decide) (Nat.le_of_ble_eq_true rfl)
      · show AW _ _ _ _ _ _ _
        refine a_istore (by decide) rfl dX4_addWord_44 ?_
        refine a_iload rfl dX4_addWord_46 ?_
        refine a_iload_n rfl dX4_addWord_48 ?_
        refine n_isub (by omega) dX4_addWord_49 ?_
        refine n_bipush 8 rfl dX4_addWord_50 ?_
        refine n_icmp_le 65 (by omega) (by omega) dX4_addWord_52 (by decide) (fun h_52 => ?_) (fun h_52 => ?_)
        · refine a_iload rfl dX4_addWord_65 ?_
          refine a_iconst (-1) rfl dX4_addWord_67 ?_
          refine s_icmp_eq 83 (by omega) dX4_addWord_68 (by decide) (fun h_68 => absurd h_68 (by rw [show (-1 : Int32).toInt = -1 from by decide]; omega)) (fun h_68 => ?_)
          refine a_aload_n rfl dX4_addWord_71 ?_
          refine n_iconst 1 rfl dX4_addWord_72 ?_
          refine a_iload_n rfl dX4_addWord_73 ?_
          refine a_iload rfl dX4_addWord_74 ?_
          refine n_i2l (by omega) dX4_addWord_76 ?_
          refine n_callV (mi' := miX4_add) dX4_addWord_77 lX4_58 mX4_add (by decide) rfl rfl rfl (c_X4_add hc hc9 ?_ d) rfl rfl (by omega) (by decide) (Nat.le_of_ble_eq_true rfl)
          show AW _ _ _ _ _ _ _
          refine a_goto 91 dX4_addWord_80 (by decide) ?_
          refine a_iload rfl dX4_addWord_91 ?_
          refine a_iload_n rfl dX4_addWord_93 ?_
          refine n_isub (by omega) dX4_addWord_94 ?_
          refine a_iret dX4_addWord_95 rfl ?_
          have hcl : ∀ k, k ≤ 8 → n - p = k → cdN D p (n - p) < 1099511627776 := fun k hk e => Nat.lt_of_lt_of_le (cdN_lt (fun q a c => hin q a (by omega))) (Nat.le_trans (Nat.pow_le_pow_right (by decide) (show n - p ≤ 8 by omega)) (by decide))
          have hcc := hcl (n - p) (by omega) rfl
          have hke := kw_lt k_41 hk_41
          have he := (pk_lEQ (a := kwC k_41) (b := cdN D p (n - p)) (by omega) (by omega)).mp he_41
          refine hQ _ ?_
          rw [show wdT D p n = (1, p, k_41) from (if_neg (by omega)).trans (by rw [← he, kwF_of hk_41])]
          exact adT_mk (fun _ => rfl)
        · refine a_aload_n rfl dX4_addWord_55 ?_
          refine n_iconst 3 rfl dX4_addWord_56 ?_
          refine a_iload_n rfl dX4_addWord_57 ?_
          refine a_lconst (lN 0) rfl dX4_addWord_58 ?_
          refine n_callV (mi' := miX4_add) dX4_addWord_59 lX4_58 mX4_add (by decide) rfl rfl rfl (c_X4_add hc hc9 ?_ d) rfl rfl (by omega) (by decide) (Nat.le_of_ble_eq_true rfl)
          show AW _ _ _ _ _ _ _
          refine a_goto 91 dX4_addWord_62 (by decide) ?_
          refine a_iload rfl dX4_addWord_91 ?_
          refine a_iload_n rfl dX4_addWord_93 ?_
          refine n_isub (by omega) dX4_addWord_94 ?_
          refine a_iret dX4_addWord_95 rfl ?_
          refine hQ _ ?_
          rw [show wdT D p n = (3, p, 0) from if_pos (by omega)]
          exact adT_mk (fun q => by omega)
      · show AW _ _ _ _ _ _ _
        refine a_istore (by decide) rfl dX4_addWord_44 ?_
        refine a_iload rfl dX4_addWord_46 ?_
        refine a_iload_n rfl dX4_addWord_48 ?_
        refine n_isub (by omega) dX4_addWord_49 ?_
        refine n_bipush 8 rfl dX4_addWord_50 ?_
        refine n_icmp_le 65 (by omega) (by omega) dX4_addWord_52 (by decide) (fun h_52 => ?_) (fun h_52 => ?_)
        · refine a_iload rfl dX4_addWord_65 ?_
          refine a_iconst (-1) rfl dX4_addWord_67 ?_
          refine u_icmp_eq 83 dX4_addWord_68 (by decide) (fun h_68 => ?_) (fun h_68 => absurd rfl h_68)
          refine a_aload_n rfl dX4_addWord_83 ?_
          refine n_iconst 2 rfl dX4_addWord_84 ?_
          refine a_iload_n rfl dX4_addWord_85 ?_
          refine a_lload rfl dX4_addWord_86 ?_
          refine n_callV (mi' := miX4_add) dX4_addWord_88 lX4_58 mX4_add (by decide) rfl rfl rfl (c_X4_add hc hc9 ?_ d) rfl rfl (by omega) (by decide) (Nat.le_of_ble_eq_true rfl)
          show AW _ _ _ _ _ _ _
          refine a_iload rfl dX4_addWord_91 ?_
          refine a_iload_n rfl dX4_addWord_93 ?_
          refine n_isub (by omega) dX4_addWord_94 ?_
          refine a_iret dX4_addWord_95 rfl ?_
          have hcl : ∀ k, k ≤ 8 → n - p = k → cdN D p (n - p) < 1099511627776 := fun k hk e => Nat.lt_of_lt_of_le (cdN_lt (fun q a c => hin q a (by omega))) (Nat.le_trans (Nat.pow_le_pow_right (by decide) (show n - p ≤ 8 by omega)) (by decide))
          have hcc := hcl (n - p) (by omega) rfl
          have hno : kwF (cdN D p (n - p)) = none := by
            cases hf : kwF (cdN D p (n - p)) with
            | none => rfl
            | some k => exact absurd (congrArg lN (kwF_s hf).2) (hn_41 k (kwF_s hf).1)
          refine hQ _ ?_
          rw [show wdT D p n = (2, p, cdN D p (n - p)) from (if_neg (by omega)).trans (by rw [hno])]
          exact adT_mk (fun _ => rfl)
        · refine a_aload_n rfl dX4_addWord_55 ?_
          refine n_iconst 3 rfl dX4_addWord_56 ?_
          refine a_iload_n rfl dX4_addWord_57 ?_
          refine a_lconst (lN 0) rfl dX4_addWord_58 ?_
          refine n_callV (mi' := miX4_add) dX4_addWord_59 lX4_58 mX4_add (by decide) rfl rfl rfl (c_X4_add hc hc9 ?_ d) rfl rfl (by omega) (by decide) (Nat.le_of_ble_eq_true rfl)
          show AW _ _ _ _ _ _ _
          refine a_goto 91 dX4_addWord_62 (by decide) ?_
          refine a_iload rfl dX4_addWord_91 ?_
          refine a_iload_n rfl dX4_addWord_93 ?_
          refine n_isub (by omega) dX4_addWord_94 ?_
          refine a_iret dX4_addWord_95 rfl ?_
          refine hQ _ ?_
          rw [show wdT D p n = (3, p, 0) from if_pos (by omega)]
          exact adT_mk (fun q => by omega)
    · refine a_iload rfl dX4_addWord_6 ?_
      refine a_iload_n rfl dX4_addWord_8 ?_
      refine n_icmp_ge 39 (by omega) (by omega) dX4_addWord_9 (by decide) (fun h_9 => absurd h_9 (by omega)) (fun h_9 => ?_)
      refine a_aload_n rfl dX4_addWord_12 ?_
      refine a_iload rfl dX4_addWord_13 ?_
      refine n_bald (by omega) (by decide) rfl (by decide) dX4_addWord_15 ?_
      refine a_eqi (y := byI (D i)) (hD _ (by omega)) ?_
      refine n_callS (mi' := miX4_isLetter) dX4_addWord_16 lX4_41 mX4_isLetter (c_X4_isLetter (by first | exact hDl _ | exact byN_lt _ | omega) (fun h_16 => ?_) (fun h_16 => ?_) d) rfl rfl (by omega) (by decide) (Nat.le_of_ble_eq_true rfl)
      · show AW _ _ _ _ _ _ _
        refine n_if_eq 39 (by decide) dX4_addWord_19 (by decide) (fun h => absurd h (by decide)) (fun _ => ?_)
        refine a_lload rfl dX4_addWord_22 ?_
        refine a_aload_n rfl dX4_addWord_24 ?_
        refine a_iload rfl dX4_addWord_25 ?_
        refine n_bald (by omega) (by decide) rfl (by decide) dX4_addWord_27 ?_
        have hl_i := letB_i.mp h_16
        refine a_eqi (y := nI (D i)) ((hD _ (by omega)).trans (byI_n (by omega))) ?_
        refine n_callS (mi' := miX8_codeWith) dX4_addWord_28 lX4_65 mX8_codeWith (c_X8_codeWith (by omega) ?_ d) rfl rfl (by omega) (by decide) (Nat.le_of_ble_eq_true rfl)
        show AW _ _ _ _ _ _ _
        refine a_eql (y := lN (cdN D p (i + 1 - p))) (congrArg lN (cd_s hI_6.1)) ?_
        refine a_lstore (by decide) rfl dX4_addWord_31 ?_
        refine n_iinc (c := 1) rfl rfl (by decide) rfl dX4_addWord_33 ?_
        refine a_goto 6 dX4_addWord_36 (by decide) ?_
        exact a_bk (ih_6 ⟨by omega, fun q a c => by
                    by_cases e : q = i
                    · rw [e]; exact h_16
                    · exact hI_6.2 q a (by omega)⟩) ⟨rfl, rfl, rfl, rfl, rfl, rfl, trivial⟩
      · show AW _ _ _ _ _ _ _
        refine n_if_eq 39 (by decide) dX4_addWord_19 (by decide) (fun _ => ?_) (fun h => absurd h (by decide))
        have hr : ruN letB D n p = i := ruN_at hI_6.1 (by omega) hI_6.2 (fun q => absurd q.2 h_16)
        rw [hr] at hQ
        have hin := hI_6.2
        have hpi := hI_6.1
        refine a_lload rfl dX4_addWord_39 ?_
        refine n_callS (mi' := miX8_keywordOf) dX4_addWord_41 lX4_71 mX8_keywordOf (c_X8_keywordOf (fun k_41 hk_41 he_41 => ?_) (fun hn_41 => ?_) d) rfl rfl (by omega) (by decide) (Nat.le_of_ble_eq_true rfl)
        · show AW _ _ _ _ _ _ _
          refine a_istore (by decide) rfl dX4_addWord_44 ?_
          refine a_iload rfl dX4_addWord_46 ?_
          refine a_iload_n rfl dX4_addWord_48 ?_
          refine n_isub (by omega) dX4_addWord_49 ?_
          refine n_bipush 8 rfl dX4_addWord_50 ?_
          refine n_icmp_le 65 (by omega) (by omega) dX4_addWord_52 (by decide) (fun h_52 => ?_) (fun h_52 => ?_)
          · refine a_iload rfl dX4_addWord_65 ?_
            refine a_iconst (-1) rfl dX4_addWord_67 ?_
            refine s_icmp_eq 83 (by omega) dX4_addWord_68 (by decide) (fun h_68 => absurd h_68 (by rw [show (-1 : Int32).toInt = -1 from by decide]; omega)) (fun h_68 => ?_)
            refine a_aload_n rfl dX4_addWord_71 ?_
            refine n_iconst 1 rfl dX4_addWord_72 ?_
            refine a_iload_n rfl dX4_addWord_73 ?_
            refine a_iload rfl dX4_addWord_74 ?_
            refine n_i2l (by omega) dX4_addWord_76 ?_
            refine n_callV (mi' := miX4_add) dX4_addWord_77 lX4_58 mX4_add (by decide) rfl rfl rfl (c_X4_add hc hc9 ?_ d) rfl rfl (by omega) (by decide) (Nat.le_of_ble_eq_true rfl)
            show AW _ _ _ _ _ _ _
            refine a_goto 91 dX4_addWord_80 (by decide) ?_
            refine a_iload rfl dX4_addWord_91 ?_
            refine a_iload_n rfl dX4_addWord_93 ?_
            refine n_isub (by omega) dX4_addWord_94 ?_
            refine a_iret dX4_addWord_95 rfl ?_
            have hcl : ∀ k, k ≤ 8 → i - p = k → cdN D p (i - p) < 1099511627776 := fun k hk e => Nat.lt_of_lt_of_le (cdN_lt (fun q a c => hin q a (by omega))) (Nat.le_trans (Nat.pow_le_pow_right (by decide) (show i - p ≤ 8 by omega)) (by decide))
            have hcc := hcl (i - p) (by omega) rfl
            have hke := kw_lt k_41 hk_41
            have he := (pk_lEQ (a := kwC k_41) (b := cdN D p (i - p)) (by omega) (by omega)).mp he_41
            refine hQ _ ?_
            rw [show wdT D p i = (1, p, k_41) from (if_neg (by omega)).trans (by rw [← he, kwF_of hk_41])]
            exact adT_mk (fun _ => rfl)
          · refine a_aload_n rfl dX4_addWord_55 ?_
            refine n_iconst 3 rfl dX4_addWord_56 ?_
            refine a_iload_n rfl dX4_addWord_57 ?_
            refine a_lconst (lN 0) rfl dX4_addWord_58 ?_
            refine n_callV (mi' := miX4_add) dX4_addWord_59 lX4_58 mX4_add (by decide) rfl rfl rfl (c_X4_add hc hc9 ?_ d) rfl rfl (by omega) (by decide) (Nat.le_of_ble_eq_true rfl)
            show AW _ _ _ _ _ _ _
            refine a_goto 91 dX4_addWord_62 (by decide) ?_
            refine a_iload rfl dX4_addWord_91 ?_
            refine a_iload_n rfl dX4_addWord_93 ?_
            refine n_isub (by omega) dX4_addWord_94 ?_
            refine a_iret dX4_addWord_95 rfl ?_
            refine hQ _ ?_
            rw [show wdT D p i = (3, p, 0) from if_pos (by omega)]
            exact adT_mk (fun q => by omega)
        · show AW _ _ _ _ _ _ _
          refine a_istore (by decide) rfl dX4_addWord_44 ?_
          refine a_iload rfl dX4_addWord_46 ?_
          refine a_iload_n rfl dX4_addWord_48 ?_
          refine n_isub (by omega) dX4_addWord_49 ?_
          refine n_bipush 8 rfl dX4_addWord_50 ?_
          refine n_icmp_le 65 (by omega) (by omega) dX4_addWord_52 (by decide) (fun h_52 => ?_) (fun h_52 => ?_)
          · refine a_iload rfl dX4_addWord_65 ?_
            refine a_iconst (-1) rfl dX4_addWord_67 ?_
            refine u_icmp_eq 83 dX4_addWord_68 (by decide) (fun h_68 => ?_) (fun h_68 => absurd rfl h_68)
            refine a_aload_n rfl dX4_addWord_83 ?_
            refine n_iconst 2 rfl dX4_addWord_84 ?_
            refine a_iload_n rfl dX4_addWord_85 ?_
            refine a_lload rfl dX4_addWord_86 ?_
            refine n_callV (mi' := miX4_add) dX4_addWord_88 lX4_58 mX4_add (by decide) rfl rfl rfl (c_X4_add hc hc9 ?_ d) rfl rfl (by omega) (by decide) (Nat.le_of_ble_eq_true rfl)
            show AW _ _ _ _ _ _ _
            refine a_iload rfl dX4_addWord_91 ?_
            refine a_iload_n rfl dX4_addWord_93 ?_
            refine n_isub (by omega) dX4_addWord_94 ?_
            refine a_iret dX4_addWord_95 rfl ?_
            have hcl : ∀ k, k ≤ 8 → i - p = k → cdN D p (i - p) < 1099511627776 := fun k hk e => Nat.lt_of_lt_of_le (cdN_lt (fun q a c => hin q a (by omega))) (Nat.le_trans (Nat.pow_le_pow_right (by decide) (show i - p ≤ 8 by omega)) (by decide))
            have hcc := hcl (i - p) (by omega) rfl
            have hno : kwF (cdN D p (i - p)) = none := by
              cases hf : kwF (cdN D p (i - p)) with
              | none => rfl
              | some k => exact absurd (congrArg lN (kwF_s hf).2) (hn_41 k (kwF_s hf).1)
            refine hQ _ ?_
            rw [show wdT D p i = (2, p, cdN D p (i - p)) from (if_neg (by omega)).trans (by rw [hno])]
            exact adT_mk (fun _ => rfl)
          · refine a_aload_n rfl dX4_addWord_55 ?_
            refine n_iconst 3 rfl dX4_addWord_56 ?_
            refine a_iload_n rfl dX4_addWord_57 ?_
            refine a_lconst (lN 0) rfl dX4_addWord_58 ?_
            refine n_callV (mi' := miX4_add) dX4_addWord_59 lX4_58 mX4_add (by decide) rfl rfl rfl (c_X4_add hc hc9 ?_ d) rfl rfl (by omega) (by decide) (Nat.le_of_ble_eq_true rfl)
            show AW _ _ _ _ _ _ _
            refine a_goto 91 dX4_addWord_62 (by decide) ?_
            refine a_iload rfl dX4_addWord_91 ?_
            refine a_iload_n rfl dX4_addWord_93 ?_
            refine n_isub (by omega) dX4_addWord_94 ?_
            refine a_iret dX4_addWord_95 rfl ?_
            refine hQ _ ?_
            rw [show wdT D p i = (3, p, 0) from if_pos (by omega)]
            exact adT_mk (fun q => by omega)
  have e0 : cdN D p (p - p) = 0 := by rw [Nat.sub_self]; rfl
  exact a_bk (loop_6 p (by omega) ⟨Nat.le_refl _, fun q a c => by omega⟩) ⟨rfl, rfl, rfl, rfl, rfl, rfl, trivial⟩

set_option maxRecDepth 100000 in
set_option maxHeartbeats 800000 in
theorem c_X4_addNumber {M : Mm} {D : Nat → Nat} {n p c : Nat} (hD : ∀ j, j < n → M.1 1 j = byI (D j)) (hDl : ∀ j, D j < 256) (hn : n ≤ 900) (hp : p < n) (hc : M.1 10 3 = nI c) (hc9 : c < 901) {Q : Option Value → Mm → Prop} (hQ : ∀ M', adT M c (nmT D p (ruN digB D n p)) M' → Q (some (.int (nI (ruN digB D n p - p)))) M') (d : Nat) : AMt miX4_addNumber (d + 5) [.ref 10, .ref 1, .int (nI p), .int (nI n)] M Q := by
  refine AMt.of (by decide) (Nat.le_of_ble_eq_true rfl) ?_
  show AW miX4_addNumber (d + 5) (mxA Q) 0 [(0, some (.ref 10)), (1, some (.ref 1)), (2, some (.int (nI p))), (3, some (.int (nI n)))] [] M
  refine n_iconst 0 rfl dX4_addNumber_0 ?_
  refine a_eqi (y := nI (nvN D p (p - p))) (by rw [Nat.sub_self]; rfl) ?_
  refine a_istore (by decide) rfl dX4_addNumber_1 ?_
  refine a_iload_n rfl dX4_addNumber_3 ?_
  refine a_istore (by decide) rfl dX4_addNumber_4 ?_
  have loop_6 : ∀ i, i ≤ n → (p ≤ i ∧ ∀ q, p ≤ q → q < i → digB (D q) = true) → AW miX4_addNumber (d + 5) (mxA Q) 6 [(0, some (.ref 10)), (1, some (.ref 1)), (2, some (.int (nI p))), (3, some (.int (nI n))), (4, some (.int (nI (nvN D p (i - p))))), (5, some (.int (nI i)))] [] M := by
    refine up (W := fun i => (p ≤ i ∧ ∀ q, p ≤ q → q < i → digB (D q) = true) → AW miX4_addNumber (d + 5) (mxA Q) 6 [(0, some (.ref 10)), (1, some (.ref 1)), (2, some (.int (nI p))), (3, some (.int (nI n))), (4, some (.int (nI (nvN D p (i - p))))), (5, some (.int (nI i)))] [] M) n (fun hI_6 => ?_) (fun i hi_6 ih_6 hI_6 => ?_)
    · refine a_iload rfl dX4_addNumber_6 ?_
      refine a_iload_n rfl dX4_addNumber_8 ?_
      refine n_icmp_ge 43 (by omega) (by omega) dX4_addNumber_9 (by decide) (fun h_9 => ?_) (fun h_9 => absurd h_9 (by omega))
      have hr : ruN digB D n p = n := ruN_at (by omega) (Nat.le_refl _) hI_6.2 (by omega)
      rw [hr] at hQ
      have hin := hI_6.2
      have hpi := hI_6.1
      refine a_aload_n rfl dX4_addNumber_43 ?_
      refine a_iload rfl dX4_addNumber_44 ?_
      refine a_iload_n rfl dX4_addNumber_46 ?_
      refine n_isub (by omega) dX4_addNumber_47 ?_
      refine n_iconst 4 rfl dX4_addNumber_48 ?_
      refine n_icmp_le 57 (by omega) (by omega) dX4_addNumber_49 (by decide) (fun h_49 => ?_) (fun h_49 => ?_)
      · have hcl : nvN D p (n - p) < 10000 := Nat.lt_of_lt_of_le (nvN_lt (fun q a c => hin q a (by omega))) (Nat.le_trans (Nat.pow_le_pow_right (by decide) (show n - p ≤ 4 by omega)) (by decide))
        refine n_iconst 4 rfl dX4_addNumber_57 ?_
        refine a_iload_n rfl dX4_addNumber_58 ?_
        refine a_iload rfl dX4_addNumber_59 ?_
        refine n_i2l (by omega) dX4_addNumber_61 ?_
        refine n_callV (mi' := miX4_add) dX4_addNumber_62 lX4_58 mX4_add (by decide) rfl rfl rfl (c_X4_add hc hc9 ?_ d) rfl rfl (by omega) (by decide) (Nat.le_of_ble_eq_true rfl)
        show AW _ _ _ _ _ _ _
        refine a_iload rfl dX4_addNumber_65 ?_
        refine a_iload_n rfl dX4_addNumber_67 ?_
        refine n_isub (by omega) dX4_addNumber_68 ?_
        refine a_iret dX4_addNumber_69 rfl ?_
        refine hQ _ ?_
        rw [show nmT D p n = (4, p, nvN D p (n - p)) from if_neg (by omega)]
        exact adT_mk (fun _ => rfl)
      · refine n_bipush 6 rfl dX4_addNumber_52 ?_
        refine a_goto 58 dX4_addNumber_54 (by decide) ?_
        refine a_iload_n rfl dX4_addNumber_58 ?_
        refine a_iload rfl dX4_addNumber_59 ?_
        refine a_i2l dX4_addNumber_61 ?_
        refine n_callV (mi' := miX4_add) dX4_addNumber_62 lX4_58 mX4_add (by decide) rfl rfl rfl (c_X4_add hc hc9 ?_ d) rfl rfl (by omega) (by decide) (Nat.le_of_ble_eq_true rfl)
        show AW _ _ _ _ _ _ _
        refine a_iload rfl dX4_addNumber_65 ?_
        refine a_iload_n rfl dX4_addNumber_67 ?_
        refine n_isub (by omega) dX4_addNumber_68 ?_
        refine a_iret dX4_addNumber_69 rfl ?_
        refine hQ _ ?_
        rw [show nmT D p n = (6, p, 0) from if_pos (by omega)]
        exact adT_mk (fun q => by omega)
    · refine a_iload rfl dX4_addNumber_6 ?_
      refine a_iload_n rfl dX4_addNumber_8 ?_
      refine n_icmp_ge 43 (by omega) (by omega) dX4_addNumber_9 (by decide) (fun h_9 => absurd h_9 (by omega)) (fun h_9 => ?_)
      refine a_aload_n rfl dX4_addNumber_12 ?_
      refine a_iload rfl dX4_addNumber_13 ?_
      refine n_bald (by omega) (by decide) rfl (by decide) dX4_addNumber_15 ?_
      refine a_eqi (y := byI (D i)) (hD _ (by omega)) ?_
      refine n_callS (mi' := miX4_isDigit) dX4_addNumber_16 lX4_49 mX4_isDigit (c_X4_isDigit (by first | exact hDl _ | exact byN_lt _ | omega) (fun h_16 => ?_) (fun h_16 => ?_) d) rfl rfl (by omega) (by decide) (Nat.le_of_ble_eq_true rfl)
      · show AW _ _ _ _ _ _ _
        refine n_if_eq 43 (by decide) dX4_addNumber_19 (by decide) (fun h => absurd h (by decide)) (fun _ => ?_)
        refine a_iload rfl dX4_addNumber_22 ?_
        refine n_bipush 10 rfl dX4_addNumber_24 ?_
        refine n_imul dX4_addNumber_26 ?_
        refine a_aload_n rfl dX4_addNumber_27 ?_
        refine a_iload rfl dX4_addNumber_28 ?_
        refine n_bald (by omega) (by decide) rfl (by decide) dX4_addNumber_30 ?_
        have hl_i := digB_i.mp h_16
        refine a_eqi (y := nI (D i)) ((hD _ (by omega)).trans (byI_n (by omega))) ?_
        refine n_bipush 48 rfl dX4_addNumber_31 ?_
        refine n_isub (by omega) dX4_addNumber_33 ?_
        refine n_iadd dX4_addNumber_34 ?_
        refine a_eqi (y := nI (nvN D p (i + 1 - p))) (congrArg nI (nv_s hI_6.1)) ?_
        refine a_istore (by decide) rfl dX4_addNumber_35 ?_
        refine n_iinc (c := 1) rfl rfl (by decide) rfl dX4_addNumber_37 ?_
        refine a_goto 6 dX4_addNumber_40 (by decide) ?_
        exact a_bk (ih_6 ⟨by omega, fun q a c => by
                    by_cases e : q = i
                    · rw [e]; exact h_16
                    · exact hI_6.2 q a (by omega)⟩) ⟨rfl, rfl, rfl, rfl, rfl, rfl, trivial⟩
      · show AW _ _ _ _ _ _ _
        refine n_if_eq 43 (by decide) dX4_addNumber_19 (by decide) (fun _ => ?_) (fun h => absurd h (by decide))
        have hr : ruN digB D n p = i := ruN_at hI_6.1 (by omega) hI_6.2 (fun q => absurd q.2 h_16)
        rw [hr] at hQ
        have hin := hI_6.2
        have hpi := hI_6.1
        refine a_aload_n rfl dX4_addNumber_43 ?_
        refine a_iload rfl dX4_addNumber_44 ?_
        refine a_iload_n rfl dX4_addNumber_46 ?_
        refine n_isub (by omega) dX4_addNumber_47 ?_
        refine n_iconst 4 rfl dX4_addNumber_48 ?_
        refine n_icmp_le 57 (by omega) (by omega) dX4_addNumber_49 (by decide) (fun h_49 => ?_) (fun h_49 => ?_)
        · have hcl : nvN D p (i - p) < 10000 := Nat.lt_of_lt_of_le (nvN_lt (fun q a c => hin q a (by omega))) (Nat.le_trans (Nat.pow_le_pow_right (by decide) (show i - p ≤ 4 by omega)) (by decide))
          refine n_iconst 4 rfl dX4_addNumber_57 ?_
          refine a_iload_n rfl dX4_addNumber_58 ?_
          refine a_iload rfl dX4_addNumber_59 ?_
          refine n_i2l (by omega) dX4_addNumber_61 ?_
          refine n_callV (mi' := miX4_add) dX4_addNumber_62 lX4_58 mX4_add (by decide) rfl rfl rfl (c_X4_add hc hc9 ?_ d) rfl rfl (by omega) (by decide) (Nat.le_of_ble_eq_true rfl)
          show AW _ _ _ _ _ _ _
          refine a_iload rfl dX4_addNumber_65 ?_
          refine a_iload_n rfl dX4_addNumber_67 ?_
          refine n_isub (by omega) dX4_addNumber_68 ?_
          refine a_iret dX4_addNumber_69 rfl ?_
          refine hQ _ ?_
          rw [show nmT D p i = (4, p, nvN D p (i - p)) from if_neg (by omega)]
          exact adT_mk (fun _ => rfl)
        · refine n_bipush 6 rfl dX4_addNumber_52 ?_
          refine a_goto 58 dX4_addNumber_54 (by decide) ?_
          refine a_iload_n rfl dX4_addNumber_58 ?_
          refine a_iload rfl dX4_addNumber_59 ?_
          refine a_i2l dX4_addNumber_61 ?_
          refine n_callV (mi' := miX4_add) dX4_addNumber_62 lX4_58 mX4_add (by decide) rfl rfl rfl (c_X4_add hc hc9 ?_ d) rfl rfl (by omega) (by decide) (Nat.le_of_ble_eq_true rfl)
          show AW _ _ _ _ _ _ _
          refine a_iload rfl dX4_addNumber_65 ?_
          refine a_iload_n rfl dX4_addNumber_67 ?_
          refine n_isub (by omega) dX4_addNumber_68 ?_
          refine a_iret dX4_addNumber_69 rfl ?_
          refine hQ _ ?_
          rw [show nmT D p i = (6, p, 0) from if_pos (by omega)]
          exact adT_mk (fun q => by omega)
  have e0 : nvN D p (p - p) = 0 := by rw [Nat.sub_self]; rfl
  exact a_bk (loop_6 p (by omega) ⟨Nat.le_refl _, fun q a c => by omega⟩) ⟨rfl, rfl, rfl, rfl, rfl, rfl, trivial⟩

theorem tx_cu {M : Mm} {tk : Nat → TK} {c : Nat} {x y z : Int32} (h : TX M tk c) : TX (siM (siM (siM M 10 4 x) 10 5 y) 10 6 z) tk c :=
  ⟨siN (siN (siN h.1 (by omega)) (by omega)) (by omega), h.2.1, h.2.2.1, h.2.2.2.1, h.2.2.2.2.1, fun i hi => ⟨siN (siN (siN (h.2.2.2.2.2 i hi).1 (by omega)) (by omega)) (by omega), siN (siN (siN (h.2.2.2.2.2 i hi).2.1 (by omega)) (by omega)) (by omega), (h.2.2.2.2.2 i hi).2.2⟩⟩
theorem op_0 {M : Mm} {D : Nat → Nat} {n : Nat} : opI M D n 0 0 (siM M 10 3 (nI 0)) := ⟨Nat.zero_le _, Nat.le_refl _, rfl, Nat.le_refl _, siS, fun i hi => absurd hi (Nat.not_lt_zero _), fr.r.si (by unfold tkP; omega)⟩

set_option maxRecDepth 100000 in
set_option maxHeartbeats 800000 in
theorem c_X4_open {M : Mm} {D : Nat → Nat} {n : Nat} (hD : ∀ j, j < n → M.1 1 j = byI (D j)) (hDl : ∀ j, D j < 256) (hn : n ≤ 900) {Q : Option Value → Mm → Prop} (hQ : ∀ M' c, TX M' (tkN D n) c → M'.1 10 4 = nI 0 → M'.1 10 5 = nI 0 → M'.1 10 6 = -1 → fr tkP M M' → Q none M') (d : Nat) : AMt miX4_open (d + 6) [.ref 10, .ref 1, .int (nI n)] M Q := by
  refine AMt.of (by decide) (Nat.le_of_ble_eq_true rfl) ?_
  show AW miX4_open (d + 6) (mxA Q) 0 [(0, some (.ref 10)), (1, some (.ref 1)), (2, some (.int (nI n)))] [] M
  refine n_iconst 0 rfl dX4_open_0 ?_
  refine a_iload_n rfl dX4_open_1 ?_
  refine a_aload_n rfl dX4_open_2 ?_
  refine a_alen dX4_open_3 (by decide) rfl (by decide) ?_
  refine n_sipush 900 rfl dX4_open_4 ?_
  refine n_min (by omega) (by omega) dX4_open_7 lX4_29 (Nat.le_of_ble_eq_true rfl) ?_
  refine n_min (by omega) (by omega) dX4_open_10 lX4_29 (Nat.le_of_ble_eq_true rfl) ?_
  refine n_max (by omega) (by omega) dX4_open_13 lX4_35 (Nat.le_of_ble_eq_true rfl) ?_
  refine a_eqi (y := nI n) (congrArg nI (by omega)) ?_
  refine a_istore_n (by decide) rfl dX4_open_16 ?_
  refine n_iconst 0 rfl dX4_open_17 ?_
  refine a_istore (by decide) rfl dX4_open_18 ?_
  refine a_aload_n rfl dX4_open_20 ?_
  refine n_iconst 0 rfl dX4_open_21 ?_
  refine a_puti dX4_open_22 pX4_38 (by decide) rfl rfl ?_
  have loop_25 : ∀ (f : Nat) (p : Nat) (c : Nat) (M1 : Mm), n ≤ p + f → (opI M D n p c M1) → AW miX4_open (d + 6) (mxA Q) 25 [(0, some (.ref 10)), (1, some (.ref 1)), (2, some (.int (nI n))), (3, some (.int (nI n))), (4, some (.int (nI p)))] [] M1 := by
    intro f
    induction f with
    | zero =>
      intro p c M1 hL_25 hI_25
      have hpn := hI_25.1
      have hcp := hI_25.2.2.2.1
      refine a_iload rfl dX4_open_25 ?_
      refine a_iload_n rfl dX4_open_27 ?_
      refine n_icmp_ge 133 (by omega) (by omega) dX4_open_28 (by decide) (fun h_28 => ?_) (fun h_28 => absurd h_28 (by omega))
      refine a_aload_n rfl dX4_open_133 ?_
      refine n_iconst 0 rfl dX4_open_134 ?_
      refine a_iload_n rfl dX4_open_135 ?_
      refine a_lconst (lN 0) rfl dX4_open_136 ?_
      refine n_callV (mi' := miX4_add) dX4_open_137 lX4_58 mX4_add (by decide) rfl rfl rfl (c_X4_add hI_25.2.2.2.2.1 (by omega) ?_ d) rfl rfl (by omega) (by decide) (Nat.le_of_ble_eq_true rfl)
      show AW _ _ _ _ _ _ _
      refine a_aload_n rfl dX4_open_140 ?_
      refine n_iconst 0 rfl dX4_open_141 ?_
      refine a_puti dX4_open_142 pX4_62 (by decide) rfl rfl ?_
      refine a_aload_n rfl dX4_open_145 ?_
      refine n_iconst 0 rfl dX4_open_146 ?_
      refine a_puti dX4_open_147 pX4_22 (by decide) rfl rfl ?_
      refine a_aload_n rfl dX4_open_150 ?_
      refine a_iconst (-1) rfl dX4_open_151 ?_
      refine a_puti dX4_open_152 pX4_26 (by decide) rfl rfl ?_
      refine a_vret dX4_open_155 rfl ?_
      have hen := op_end (by rw [show n = p by omega]; rw [show n = p by omega] at hI_25; exact hI_25) hn (adT_mk (k := 0) (q := n) (v := 0) (z := lN 0) (fun q => by omega))
      exact hQ _ _ (tx_cu hen.1) (siN (siN siS (by omega)) (by omega)) (siN siS (by omega)) siS ((((hen.2).si (by unfold tkP; omega)).si (by unfold tkP; omega)).si (by unfold tkP; omega))
    | succ f ih_25 =>
      intro p c M1 hL_25 hI_25
      have hpn := hI_25.1
      have hcp := hI_25.2.2.2.1
      refine a_iload rfl dX4_open_25 ?_
      refine a_iload_n rfl dX4_open_27 ?_
      refine n_icmp_ge 133 (by omega) (by omega) dX4_open_28 (by decide) (fun h_28 => ?_) (fun h_28 => ?_)
      · refine a_aload_n rfl dX4_open_133 ?_
        refine n_iconst 0 rfl dX4_open_134 ?_
        refine a_iload_n rfl dX4_open_135 ?_
        refine a_lconst (lN 0) rfl dX4_open_136 ?_
        refine n_callV (mi' := miX4_add) dX4_open_137 lX4_58 mX4_add (by decide) rfl rfl rfl (c_X4_add hI_25.2.2.2.2.1 (by omega) ?_ d) rfl rfl (by omega) (by decide) (Nat.le_of_ble_eq_true rfl)
        show AW _ _ _ _ _ _ _
        refine a_aload_n rfl dX4_open_140 ?_
        refine n_iconst 0 rfl dX4_open_141 ?_
        refine a_puti dX4_open_142 pX4_62 (by decide) rfl rfl ?_
        refine a_aload_n rfl dX4_open_145 ?_
        refine n_iconst 0 rfl dX4_open_146 ?_
        refine a_puti dX4_open_147 pX4_22 (by decide) rfl rfl ?_
        refine a_aload_n rfl dX4_open_150 ?_
        refine a_iconst (-1) rfl dX4_open_151 ?_
        refine a_puti dX4_open_152 pX4_26 (by decide) rfl rfl ?_
        refine a_vret dX4_open_155 rfl ?_
        have hen := op_end (by rw [show n = p by omega]; rw [show n = p by omega] at hI_25; exact hI_25) hn (adT_mk (k := 0) (q := n) (v := 0) (z := lN 0) (fun q => by omega))
        exact hQ _ _ (tx_cu hen.1) (siN (siN siS (by omega)) (by omega)) (siN siS (by omega)) siS ((((hen.2).si (by unfold tkP; omega)).si (by unfold tkP; omega)).si (by unfold tkP; omega))
      · refine a_aload_n rfl dX4_open_31 ?_
        refine a_iload rfl dX4_open_32 ?_
        refine n_bald (by omega) (by decide) rfl (by decide) dX4_open_34 ?_
        have hbp := byI_t _ (hDl p)
        have hdp := hDl p
        refine a_eqi (y := byI (D p)) (((hI_25.2.2.2.2.2.2 1 p (by unfold tkP; omega)).1).trans (hD p (by omega))) ?_
        refine a_istore (by decide) rfl dX4_open_35 ?_
        refine n_iconst 1 rfl dX4_open_37 ?_
        refine a_istore (by decide) rfl dX4_open_38 ?_
        refine a_iload rfl dX4_open_40 ?_
        refine n_callS (mi' := miX4_isLetter) dX4_open_42 lX4_41 mX4_isLetter (c_X4_isLetter (by first | exact hDl _ | exact byN_lt _ | omega) (fun h_42 => ?_) (fun h_42 => ?_) d) rfl rfl (by omega) (by decide) (Nat.le_of_ble_eq_true rfl)
        · show AW _ _ _ _ _ _ _
          refine n_if_eq 61 (by decide) dX4_open_45 (by decide) (fun h => absurd h (by decide)) (fun _ => ?_)
          refine a_aload_n rfl dX4_open_48 ?_
          refine a_aload_n rfl dX4_open_49 ?_
          refine a_iload rfl dX4_open_50 ?_
          refine a_iload_n rfl dX4_open_52 ?_
          refine n_callV (mi' := miX4_addWord) dX4_open_53 lX4_45 mX4_addWord (by decide) rfl rfl rfl (c_X4_addWord (fun j hj => ((hI_25.2.2.2.2.2.2 1 j (by unfold tkP; omega)).1).trans (hD j hj)) hDl hn (by omega) hI_25.2.2.2.2.1 (by omega) (fun M_53 ha_53 => ?_) d) rfl rfl (by omega) (by decide) (Nat.le_of_ble_eq_true rfl)
          show AW _ _ _ _ _ _ _
          have hlb := (ruN_b (P := letB) (D := D) (show p ≤ n by omega)).2.1
          refine a_istore (by decide) rfl dX4_open_56 ?_
          refine a_goto 119 dX4_open_58 (by decide) ?_
          refine a_iload rfl dX4_open_119 ?_
          refine n_iconst 1 rfl dX4_open_121 ?_
          refine a_iload rfl dX4_open_122 ?_
          refine n_max (by omega) (by omega) dX4_open_124 lX4_35 (Nat.le_of_ble_eq_true rfl) ?_
          refine n_iadd dX4_open_127 ?_
          refine a_istore (by decide) rfl dX4_open_128 ?_
          refine a_goto 25 dX4_open_130 (by decide) ?_
          have hg : p < ruN letB D n p := ruN_gt (by omega) h_42
          have hle := (ruN_b (P := letB) (D := D) (show p ≤ n by omega)).2.1
          have he : p + max 1 (ruN letB D n p - p) = ruN letB D n p := by omega
          have ho := op_add hI_25 (by omega) (lx_let (by omega) h_42) (by rcases wdT_k (D := D) (q := p) (r := ruN letB D n p) with e | e | e <;> (rw [e]; decide)) hle hg ha_53
          rw [← he] at ho hg hle
          exact a_bk (ih_25 (p + max 1 (ruN letB D n p - p)) (c + 1) _ (by omega) ho) ⟨rfl, rfl, rfl, rfl, rfl, trivial⟩
        · show AW _ _ _ _ _ _ _
          refine n_if_eq 61 (by decide) dX4_open_45 (by decide) (fun _ => ?_) (fun h => absurd h (by decide))
          refine a_iload rfl dX4_open_61 ?_
          refine n_callS (mi' := miX4_isDigit) dX4_open_63 lX4_49 mX4_isDigit (c_X4_isDigit (by first | exact hDl _ | exact byN_lt _ | omega) (fun h_63 => ?_) (fun h_63 => ?_) d) rfl rfl (by omega) (by decide) (Nat.le_of_ble_eq_true rfl)
          · show AW _ _ _ _ _ _ _
            refine n_if_eq 82 (by decide) dX4_open_66 (by decide) (fun h => absurd h (by decide)) (fun _ => ?_)
            refine a_aload_n rfl dX4_open_69 ?_
            refine a_aload_n rfl dX4_open_70 ?_
            refine a_iload rfl dX4_open_71 ?_
            refine a_iload_n rfl dX4_open_73 ?_
            refine n_callV (mi' := miX4_addNumber) dX4_open_74 lX4_52 mX4_addNumber (by decide) rfl rfl rfl (c_X4_addNumber (fun j hj => ((hI_25.2.2.2.2.2.2 1 j (by unfold tkP; omega)).1).trans (hD j hj)) hDl hn (by omega) hI_25.2.2.2.2.1 (by omega) (fun M_74 ha_74 => ?_) d) rfl rfl (by omega) (by decide) (Nat.le_of_ble_eq_true rfl)
            show AW _ _ _ _ _ _ _
            have hlb := (ruN_b (P := digB) (D := D) (show p ≤ n by omega)).2.1
            refine a_istore (by decide) rfl dX4_open_77 ?_
            refine a_goto 119 dX4_open_79 (by decide) ?_
            refine a_iload rfl dX4_open_119 ?_
            refine n_iconst 1 rfl dX4_open_121 ?_
            refine a_iload rfl dX4_open_122 ?_
            refine n_max (by omega) (by omega) dX4_open_124 lX4_35 (Nat.le_of_ble_eq_true rfl) ?_
            refine n_iadd dX4_open_127 ?_
            refine a_istore (by decide) rfl dX4_open_128 ?_
            refine a_goto 25 dX4_open_130 (by decide) ?_
            have hg : p < ruN digB D n p := ruN_gt (by omega) h_63
            have hle := (ruN_b (P := digB) (D := D) (show p ≤ n by omega)).2.1
            have he : p + max 1 (ruN digB D n p - p) = ruN digB D n p := by omega
            have ho := op_add hI_25 (by omega) (lx_dig (by omega) h_42 h_63) (by rcases nmT_k (D := D) (q := p) (r := ruN digB D n p) with e | e <;> (rw [e]; decide)) hle hg ha_74
            rw [← he] at ho hg hle
            exact a_bk (ih_25 (p + max 1 (ruN digB D n p - p)) (c + 1) _ (by omega) ho) ⟨rfl, rfl, rfl, rfl, rfl, trivial⟩
          · show AW _ _ _ _ _ _ _
            refine n_if_eq 82 (by decide) dX4_open_66 (by decide) (fun _ => ?_) (fun h => absurd h (by decide))
            refine a_iload rfl dX4_open_82 ?_
            refine n_bipush 32 rfl dX4_open_84 ?_
            refine r_icmp_eq 119 (by omega) dX4_open_86 (by decide) (fun h_86 => ?_) (fun h_86 => ?_)
            · refine a_iload rfl dX4_open_119 ?_
              refine n_iconst 1 rfl dX4_open_121 ?_
              refine a_iload rfl dX4_open_122 ?_
              refine n_max (by omega) (by omega) dX4_open_124 lX4_35 (Nat.le_of_ble_eq_true rfl) ?_
              refine n_iadd dX4_open_127 ?_
              refine a_istore (by decide) rfl dX4_open_128 ?_
              refine a_goto 25 dX4_open_130 (by decide) ?_
              have hbl : blkB (D p) = true := blkB_i.mpr (by split at hbp <;> omega)
              exact a_bk (ih_25 (p + max 1 1) c _ (by omega) (op_blk hI_25 (by omega) hbl)) ⟨rfl, rfl, rfl, rfl, rfl, trivial⟩
            · refine a_iload rfl dX4_open_89 ?_
              refine n_bipush 10 rfl dX4_open_91 ?_
              refine r_icmp_eq 119 (by omega) dX4_open_93 (by decide) (fun h_93 => ?_) (fun h_93 => ?_)
              · refine a_iload rfl dX4_open_119 ?_
                refine n_iconst 1 rfl dX4_open_121 ?_
                refine a_iload rfl dX4_open_122 ?_
                refine n_max (by omega) (by omega) dX4_open_124 lX4_35 (Nat.le_of_ble_eq_true rfl) ?_
                refine n_iadd dX4_open_127 ?_
                refine a_istore (by decide) rfl dX4_open_128 ?_
                refine a_goto 25 dX4_open_130 (by decide) ?_
                have hbl : blkB (D p) = true := blkB_i.mpr (by split at hbp <;> omega)
                exact a_bk (ih_25 (p + max 1 1) c _ (by omega) (op_blk hI_25 (by omega) hbl)) ⟨rfl, rfl, rfl, rfl, rfl, trivial⟩
              · refine a_aload_n rfl dX4_open_96 ?_
                refine a_iload rfl dX4_open_97 ?_
                refine n_callS (mi' := miX4_isSign) dX4_open_99 lX4_55 mX4_isSign (c_X4_isSign (by first | exact hDl _ | exact byN_lt _ | omega) (fun h_99 => ?_) (fun h_99 => ?_) d) rfl rfl (by omega) (by decide) (Nat.le_of_ble_eq_true rfl)
                · show AW _ _ _ _ _ _ _
                  refine n_if_eq 109 (by decide) dX4_open_102 (by decide) (fun h => absurd h (by decide)) (fun _ => ?_)
                  refine n_iconst 5 rfl dX4_open_105 ?_
                  refine a_goto 111 dX4_open_106 (by decide) ?_
                  refine a_iload rfl dX4_open_111 ?_
                  refine a_iload rfl dX4_open_113 ?_
                  refine a_i2l dX4_open_115 ?_
                  refine n_callV (mi' := miX4_add) dX4_open_116 lX4_58 mX4_add (by decide) rfl rfl rfl (c_X4_add hI_25.2.2.2.2.1 (by omega) ?_ d) rfl rfl (by omega) (by decide) (Nat.le_of_ble_eq_true rfl)
                  show AW _ _ _ _ _ _ _
                  refine a_iload rfl dX4_open_119 ?_
                  refine n_iconst 1 rfl dX4_open_121 ?_
                  refine a_iload rfl dX4_open_122 ?_
                  refine n_max (by omega) (by omega) dX4_open_124 lX4_35 (Nat.le_of_ble_eq_true rfl) ?_
                  refine n_iadd dX4_open_127 ?_
                  refine a_istore (by decide) rfl dX4_open_128 ?_
                  refine a_goto 25 dX4_open_130 (by decide) ?_
                  have hs := sgnB_i.mp h_99
                  have ho := op_add hI_25 (by omega) (lx_sgn (by omega) h_42 h_63 h_99) (show (5 : Nat) ≠ 0 by decide) (by omega) (Nat.lt_succ_self p) (adT_mk (k := 5) (q := p) (v := D p) (z := (byI (D p)).toInt64) (fun _ => by rw [byI_n (by omega), nI_l (by omega)]))
                  exact a_bk (ih_25 (p + max 1 1) (c + 1) _ (by omega) ho) ⟨rfl, rfl, rfl, rfl, rfl, trivial⟩
                · show AW _ _ _ _ _ _ _
                  refine n_if_eq 109 (by decide) dX4_open_102 (by decide) (fun _ => ?_) (fun h => absurd h (by decide))
                  refine n_bipush 6 rfl dX4_open_109 ?_
                  refine a_iload rfl dX4_open_111 ?_
                  refine a_iload rfl dX4_open_113 ?_
                  refine a_i2l dX4_open_115 ?_
                  refine n_callV (mi' := miX4_add) dX4_open_116 lX4_58 mX4_add (by decide) rfl rfl rfl (c_X4_add hI_25.2.2.2.2.1 (by omega) ?_ d) rfl rfl (by omega) (by decide) (Nat.le_of_ble_eq_true rfl)
                  show AW _ _ _ _ _ _ _
                  refine a_iload rfl dX4_open_119 ?_
                  refine n_iconst 1 rfl dX4_open_121 ?_
                  refine a_iload rfl dX4_open_122 ?_
                  refine n_max (by omega) (by omega) dX4_open_124 lX4_35 (Nat.le_of_ble_eq_true rfl) ?_
                  refine n_iadd dX4_open_127 ?_
                  refine a_istore (by decide) rfl dX4_open_128 ?_
                  refine a_goto 25 dX4_open_130 (by decide) ?_
                  have hnb : ¬ blkB (D p) = true := fun q => by have := blkB_i.mp q; split at hbp <;> omega
                  have ho := op_add hI_25 (by omega) (lx_bad (by omega) h_42 h_63 h_99 hnb) (show (6 : Nat) ≠ 0 by decide) (by omega) (Nat.lt_succ_self p) (adT_mk (k := 6) (q := p) (v := 0) (z := (byI (D p)).toInt64) (fun q => by omega))
                  exact a_bk (ih_25 (p + max 1 1) (c + 1) _ (by omega) ho) ⟨rfl, rfl, rfl, rfl, rfl, trivial⟩
  exact a_bk (loop_25 n 0 0 _ (by omega) op_0) ⟨rfl, rfl, rfl, rfl, rfl, trivial⟩

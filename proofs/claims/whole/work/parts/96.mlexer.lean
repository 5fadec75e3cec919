def lkN (D : Nat → Nat) (n p : Nat) : Nat := if p < n then D p else 0
theorem lk_p {D : Nat → Nat} {n p : Nat} (P : Nat → Bool) (h0 : P 0 = false) : P (lkN D n p) = true ↔ p < n ∧ P (D p) = true := by
  unfold lkN
  by_cases c : p < n
  · rw [if_pos c]; exact ⟨fun h => ⟨c, h⟩, fun h => h.2⟩
  · rw [if_neg c, h0]; exact ⟨(fun h => by cases h), fun h => absurd h.1 c⟩
theorem siJ {M : Mm} {k j a b : Nat} {x : Int32} {v : Int64} (h : M.2 a b = v) : (siM M k j x).2 a b = v := h
def avP (k j : Nat) : Prop := k = 132 ∧ 14 ≤ j ∧ j ≤ 19
/-- the text as the model has it -/
def MA (M : Mm) (D : Nat → Nat) (n : Nat) : Prop := M.1 132 9 = nI n ∧ ∀ j, j < n → M.1 136 j &&& nI 255 = nI (D j)
theorem MA_fr {M M' : Mm} {D : Nat → Nat} {n : Nat} {P : Nat → Nat → Prop} (h : MA M D n) (hf : fr P M M') (hp : ∀ k j, (k = 132 ∧ j = 9) ∨ k = 136 → ¬ P k j) : MA M' D n := ⟨(hf 132 9 (hp _ _ (by omega))).1.trans h.1, fun j hj => by rw [(hf 136 j (hp _ _ (by omega))).1]; exact h.2 j hj⟩
theorem MA_av {M M' : Mm} {D : Nat → Nat} {n : Nat} (h : MA M D n) (hf : fr avP M M') : MA M' D n := MA_fr h hf (fun k j z => by unfold avP; omega)
def mkd (k : Nat) : Nat := if k = 0 then 0 else if k ≤ 3 then 1 else k - 2
/-- a token as the model has it, nx behind it -/
def MTK (M : Mm) (t : TK) (nx : Nat) : Prop := M.1 132 14 = nI (mkd t.1) ∧ M.1 132 15 = nI t.2.1 ∧ M.1 132 16 = nI nx ∧ ((t.1 = 4 ∨ t.1 = 5) → M.1 132 17 = nI t.2.2) ∧ (t.1 = 1 → M.2 132 19 = lN (kwC t.2.2) ∧ ∃ l, l ≤ 8 ∧ M.1 132 18 = nI l) ∧ (t.1 = 2 → M.2 132 19 = lN t.2.2 ∧ ∃ l, l ≤ 8 ∧ M.1 132 18 = nI l) ∧ (t.1 = 3 → M.2 132 19 = -1 ∧ ∃ l, 8 < l ∧ l ≤ 900 ∧ M.1 132 18 = nI l)
def wwI (D : Nat → Nat) (q r : Nat) : Int64 := if r - q ≤ 8 then lN (cdN D q (r - q)) else -1
theorem lw_s {a b : Nat} (hb : 96 ≤ b) (hb2 : b < 256) : lN a * 32 + (nI b).toInt64 - 96 = lN (a * 32 + (b - 96)) := by
  rw [nI_l (by omega), show (32 : Int64) = lN 32 from rfl, lN_mul, lN_add, show (96 : Int64) = lN 96 from rfl]
  rw [show a * 32 + b = a * 32 + (b - 96) + 96 by omega, ← lN_add]
  exact Int64.add_sub_cancel _ _
theorem ww_s {D : Nat → Nat} {n q r : Nat} {w : Int64} (hw : w = wwI D q r) (h8 : r - q < 8) (hq : q ≤ r) (hl : letB (D r) = true) (hr : r < n) : w * 32 + (nI (lkN D n r)).toInt64 - 96 = wwI D q (r + 1) := by
  have := letB_i.mp hl
  rw [hw, show lkN D n r = D r from if_pos hr, show wwI D q r = lN (cdN D q (r - q)) from if_pos (by omega), lw_s (by omega) (by omega), cd_s hq]
  exact (if_pos (by omega)).symm
theorem ww_n {D : Nat → Nat} {q r : Nat} (h8 : 8 ≤ r - q) (hq : q ≤ r) : (-1 : Int64) = wwI D q (r + 1) := (if_neg (by omega)).symm
theorem MTK_w {M : Mm} {D : Nat → Nat} {q r : Nat} (h14 : M.1 132 14 = nI 1) (h15 : M.1 132 15 = nI q) (h16 : M.1 132 16 = nI r) (h19 : M.2 132 19 = wwI D q r) (h18 : M.1 132 18 = nI (r - q)) (hr : r ≤ 900) : MTK M (wdT D q r) r := by
  unfold wdT
  by_cases c : 8 < r - q
  · rw [if_pos c]
    exact ⟨h14, h15, h16, fun h => absurd (show (3 : Nat) = 4 ∨ (3 : Nat) = 5 from h) (by decide), fun h => absurd (show (3 : Nat) = 1 from h) (by decide), fun h => absurd (show (3 : Nat) = 2 from h) (by decide), fun _ => ⟨h19.trans (if_neg (by omega)), r - q, c, by omega, h18⟩⟩
  · rw [if_neg c]
    have hw : M.2 132 19 = lN (cdN D q (r - q)) := h19.trans (if_pos (by omega))
    cases hk : kwF (cdN D q (r - q)) with
    | none => exact ⟨h14, h15, h16, fun h => absurd (show (2 : Nat) = 4 ∨ (2 : Nat) = 5 from h) (by decide), fun h => absurd (show (2 : Nat) = 1 from h) (by decide), fun _ => ⟨hw, r - q, by omega, h18⟩, fun h => absurd (show (2 : Nat) = 3 from h) (by decide)⟩
    | some k => exact ⟨h14, h15, h16, fun h => absurd (show (1 : Nat) = 4 ∨ (1 : Nat) = 5 from h) (by decide), fun _ => ⟨hw.trans (congrArg lN (kwF_s hk).2.symm), r - q, by omega, h18⟩, fun h => absurd (show (1 : Nat) = 2 from h) (by decide), fun h => absurd (show (1 : Nat) = 3 from h) (by decide)⟩
theorem MTK_d {M : Mm} {D : Nat → Nat} {q r x : Nat} (h14 : M.1 132 14 = nI x) (hx : x = if 4 < r - q then 4 else 2) (h15 : M.1 132 15 = nI q) (h16 : M.1 132 16 = nI r) (h17 : M.1 132 17 = nI (nvN D q (min (r - q) 4))) : MTK M (nmT D q r) r := by
  unfold nmT
  by_cases c : 4 < r - q
  · rw [if_pos c] at hx ⊢
    subst hx
    exact ⟨h14, h15, h16, fun h => absurd (show (6 : Nat) = 4 ∨ (6 : Nat) = 5 from h) (by decide), fun h => absurd (show (6 : Nat) = 1 from h) (by decide), fun h => absurd (show (6 : Nat) = 2 from h) (by decide), fun h => absurd (show (6 : Nat) = 3 from h) (by decide)⟩
  · rw [if_neg c] at hx ⊢
    subst hx
    rw [Nat.min_eq_left (by omega)] at h17
    exact ⟨h14, h15, h16, fun _ => h17, fun h => absurd (show (4 : Nat) = 1 from h) (by decide), fun h => absurd (show (4 : Nat) = 2 from h) (by decide), fun h => absurd (show (4 : Nat) = 3 from h) (by decide)⟩
theorem MTK_s {M : Mm} {q v : Nat} (h14 : M.1 132 14 = nI 3) (h15 : M.1 132 15 = nI q) (h16 : M.1 132 16 = nI (q + 1)) (h17 : M.1 132 17 = nI v) : MTK M (5, q, v) (q + 1) := ⟨h14, h15, h16, fun _ => h17, fun h => absurd (show (5 : Nat) = 1 from h) (by decide), fun h => absurd (show (5 : Nat) = 2 from h) (by decide), fun h => absurd (show (5 : Nat) = 3 from h) (by decide)⟩
theorem MTK_b {M : Mm} {q : Nat} (h14 : M.1 132 14 = nI 4) (h15 : M.1 132 15 = nI q) (h16 : M.1 132 16 = nI (q + 1)) : MTK M (6, q, 0) (q + 1) := ⟨h14, h15, h16, fun h => absurd (show (6 : Nat) = 4 ∨ (6 : Nat) = 5 from h) (by decide), fun h => absurd (show (6 : Nat) = 1 from h) (by decide), fun h => absurd (show (6 : Nat) = 2 from h) (by decide), fun h => absurd (show (6 : Nat) = 3 from h) (by decide)⟩
theorem MTK_e {M : Mm} {q : Nat} (h14 : M.1 132 14 = nI 0) (h15 : M.1 132 15 = nI q) (h16 : M.1 132 16 = nI q) : MTK M (0, q, 0) q := ⟨h14, h15, h16, fun h => absurd (show (0 : Nat) = 4 ∨ (0 : Nat) = 5 from h) (by decide), fun h => absurd (show (0 : Nat) = 1 from h) (by decide), fun h => absurd (show (0 : Nat) = 2 from h) (by decide), fun h => absurd (show (0 : Nat) = 3 from h) (by decide)⟩
theorem nv4_s {D : Nat → Nat} {q r n : Nat} (hq : q ≤ r) (h4 : r - q < 4) (hr : r < n) (hd : digB (D r) = true) : 10 * nvN D q (min (r - q) 4) + lkN D n r - 48 = nvN D q (min (r + 1 - q) 4) := by
  have := digB_i.mp hd
  rw [show lkN D n r = D r from if_pos hr, Nat.min_eq_left (show r - q ≤ 4 by omega), Nat.min_eq_left (show r + 1 - q ≤ 4 by omega), ← nv_s hq]
  omega
theorem nv4_n {D : Nat → Nat} {q r : Nat} (h4 : 4 ≤ r - q) (hq : q ≤ r) : nvN D q (min (r - q) 4) = nvN D q (min (r + 1 - q) 4) := by rw [Nat.min_eq_right h4, Nat.min_eq_right (by omega)]

set_option maxRecDepth 100000 in
set_option maxHeartbeats 800000 in
theorem c_X12_isLetter {M : Mm} {v : Nat} (hv : v < 256) {Q : Option Value → Mm → Prop} (h1 : letB v = true → Q (some (.int (nI 1))) M) (h0 : ¬ letB v = true → Q (some (.int (nI 0))) M) (d : Nat) : AMt miX12_isLetter (d) [.int (nI v)] M Q := by
  refine AMt.of (by decide) (Nat.le_of_ble_eq_true rfl) ?_
  show AW miX12_isLetter (d) (mxA Q) 0 [(0, some (.int (nI v)))] [] M
  refine a_iload_n rfl dX12_isLetter_0 ?_
  refine n_bipush 97 rfl dX12_isLetter_1 ?_
  refine n_icmp_lt 16 (by omega) (by omega) dX12_isLetter_3 (by decide) (fun h_3 => ?_) (fun h_3 => ?_)
  · refine n_iconst 0 rfl dX12_isLetter_16 ?_
    refine a_zret dX12_isLetter_17 rfl (Or.inl rfl) ?_
    exact h0 (fun q => by have := letB_i.mp q; omega)
  · refine a_iload_n rfl dX12_isLetter_6 ?_
    refine n_bipush 122 rfl dX12_isLetter_7 ?_
    refine n_icmp_gt 16 (by omega) (by omega) dX12_isLetter_9 (by decide) (fun h_9 => ?_) (fun h_9 => ?_)
    · refine n_iconst 0 rfl dX12_isLetter_16 ?_
      refine a_zret dX12_isLetter_17 rfl (Or.inl rfl) ?_
      exact h0 (fun q => by have := letB_i.mp q; omega)
    · refine n_iconst 1 rfl dX12_isLetter_12 ?_
      refine a_goto 17 dX12_isLetter_13 (by decide) ?_
      refine a_zret dX12_isLetter_17 rfl (Or.inr rfl) ?_
      exact h1 (letB_i.mpr (by omega))

set_option maxRecDepth 100000 in
set_option maxHeartbeats 800000 in
theorem c_X12_isDigit {M : Mm} {v : Nat} (hv : v < 256) {Q : Option Value → Mm → Prop} (h1 : digB v = true → Q (some (.int (nI 1))) M) (h0 : ¬ digB v = true → Q (some (.int (nI 0))) M) (d : Nat) : AMt miX12_isDigit (d) [.int (nI v)] M Q := by
  refine AMt.of (by decide) (Nat.le_of_ble_eq_true rfl) ?_
  show AW miX12_isDigit (d) (mxA Q) 0 [(0, some (.int (nI v)))] [] M
  refine a_iload_n rfl dX12_isDigit_0 ?_
  refine n_bipush 48 rfl dX12_isDigit_1 ?_
  refine n_icmp_lt 16 (by omega) (by omega) dX12_isDigit_3 (by decide) (fun h_3 => ?_) (fun h_3 => ?_)
  · refine n_iconst 0 rfl dX12_isDigit_16 ?_
    refine a_zret dX12_isDigit_17 rfl (Or.inl rfl) ?_
    exact h0 (fun q => by have := digB_i.mp q; omega)
  · refine a_iload_n rfl dX12_isDigit_6 ?_
    refine n_bipush 57 rfl dX12_isDigit_7 ?_
    refine n_icmp_gt 16 (by omega) (by omega) dX12_isDigit_9 (by decide) (fun h_9 => ?_) (fun h_9 => ?_)
    · refine n_iconst 0 rfl dX12_isDigit_16 ?_
      refine a_zret dX12_isDigit_17 rfl (Or.inl rfl) ?_
      exact h0 (fun q => by have := digB_i.mp q; omega)
    · refine n_iconst 1 rfl dX12_isDigit_12 ?_
      refine a_goto 17 dX12_isDigit_13 (by decide) ?_
      refine a_zret dX12_isDigit_17 rfl (Or.inr rfl) ?_
      exact h1 (digB_i.mpr (by omega))

set_option maxRecDepth 100000 in
set_option maxHeartbeats 800000 in
theorem c_X12_isSignByte {M : Mm} {v : Nat} (hv : v < 256) {Q : Option Value → Mm → Prop} (h1 : sgnB v = true → Q (some (.int (nI 1))) M) (h0 : ¬ sgnB v = true → Q (some (.int (nI 0))) M) (d : Nat) : AMt miX12_isSignByte (d) [.ref 132, .int (nI v)] M Q := by
  refine AMt.of (by decide) (Nat.le_of_ble_eq_true rfl) ?_
  show AW miX12_isSignByte (d) (mxA Q) 0 [(0, some (.ref 132)), (1, some (.int (nI v)))] [] M
  refine a_iload_n rfl dX12_isSignByte_0 ?_
  refine n_bipush 59 rfl dX12_isSignByte_1 ?_
  refine n_icmp_eq 24 (by omega) (by omega) dX12_isSignByte_3 (by decide) (fun h_3 => ?_) (fun h_3 => ?_)
  · refine n_iconst 1 rfl dX12_isSignByte_24 ?_
    refine a_goto 29 dX12_isSignByte_25 (by decide) ?_
    refine a_zret dX12_isSignByte_29 rfl (Or.inr rfl) ?_
    exact h1 (sgnB_i.mpr (by omega))
  · refine a_iload_n rfl dX12_isSignByte_6 ?_
    refine n_bipush 60 rfl dX12_isSignByte_7 ?_
    refine n_icmp_eq 24 (by omega) (by omega) dX12_isSignByte_9 (by decide) (fun h_9 => ?_) (fun h_9 => ?_)
    · refine n_iconst 1 rfl dX12_isSignByte_24 ?_
      refine a_goto 29 dX12_isSignByte_25 (by decide) ?_
      refine a_zret dX12_isSignByte_29 rfl (Or.inr rfl) ?_
      exact h1 (sgnB_i.mpr (by omega))
    · refine a_iload_n rfl dX12_isSignByte_12 ?_
      refine n_bipush 62 rfl dX12_isSignByte_13 ?_
      refine n_icmp_eq 24 (by omega) (by omega) dX12_isSignByte_15 (by decide) (fun h_15 => ?_) (fun h_15 => ?_)
      · refine n_iconst 1 rfl dX12_isSignByte_24 ?_
        refine a_goto 29 dX12_isSignByte_25 (by decide) ?_
        refine a_zret dX12_isSignByte_29 rfl (Or.inr rfl) ?_
        exact h1 (sgnB_i.mpr (by omega))
      · refine a_iload_n rfl dX12_isSignByte_18 ?_
        refine n_bipush 61 rfl dX12_isSignByte_19 ?_
        refine n_icmp_ne 28 (by omega) (by omega) dX12_isSignByte_21 (by decide) (fun h_21 => ?_) (fun h_21 => ?_)
        · refine n_iconst 0 rfl dX12_isSignByte_28 ?_
          refine a_zret dX12_isSignByte_29 rfl (Or.inl rfl) ?_
          exact h0 (fun q => by have := sgnB_i.mp q; omega)
        · refine n_iconst 1 rfl dX12_isSignByte_24 ?_
          refine a_goto 29 dX12_isSignByte_25 (by decide) ?_
          refine a_zret dX12_isSignByte_29 rfl (Or.inr rfl) ?_
          exact h1 (sgnB_i.mpr (by omega))

set_option maxRecDepth 100000 in
set_option maxHeartbeats 800000 in
theorem c_X12_look2 {M : Mm} {D : Nat → Nat} {n p : Nat} (hA : MA M D n) (hn : n ≤ 900) (hp : p ≤ n) {Q : Option Value → Mm → Prop} (hQ : Q (some (.int (nI (lkN D n p)))) M) (d : Nat) : AMt miX12_look2 (d) [.ref 132, .int (nI p)] M Q := by
  refine AMt.of (by decide) (Nat.le_of_ble_eq_true rfl) ?_
  show AW miX12_look2 (d) (mxA Q) 0 [(0, some (.ref 132)), (1, some (.int (nI p)))] [] M
  refine a_iload_n rfl dX12_look2_0 ?_
  refine a_aload_n rfl dX12_look2_1 ?_
  refine g_i hA.1 (by decide) rfl fX12_112 rfl dX12_look2_2 ?_
  refine n_icmp_ge 21 (by omega) (by omega) dX12_look2_5 (by decide) (fun h_5 => ?_) (fun h_5 => ?_)
  · refine n_iconst 0 rfl dX12_look2_21 ?_
    refine a_iret dX12_look2_22 rfl ?_
    rw [show lkN D n p = 0 from if_neg (by omega)] at hQ
    exact hQ
  · refine a_aload_n rfl dX12_look2_8 ?_
    refine a_geta dX12_look2_9 fX12_24 (by decide) rfl rfl ?_
    refine a_iload_n rfl dX12_look2_12 ?_
    refine n_bald (by omega) (by decide) rfl (by decide) dX12_look2_13 ?_
    refine n_sipush 255 rfl dX12_look2_14 ?_
    refine a_iand dX12_look2_17 ?_
    refine a_eqi (y := nI (D p)) (hA.2 p (by omega)) ?_
    refine a_goto 22 dX12_look2_18 (by decide) ?_
    refine a_iret dX12_look2_22 rfl ?_
    rw [show lkN D n p = D p from if_pos (by omega)] at hQ
    exact hQ

theorem lk_lt {D : Nat → Nat} {n p : Nat} (h : ∀ j, D j < 256) : lkN D n p < 256 := by
  unfold lkN
  split
  · exact h p
  · decide
theorem lk_2 {D : Nat → Nat} {n p : Nat} (h : ∀ j, D j < 256) : lkN D n p < 2147483648 := Nat.lt_trans (lk_lt h) (by decide)

set_option maxRecDepth 100000 in
set_option maxHeartbeats 1600000 in
theorem av_58 {M : Mm} {D : Nat → Nat} {n q : Nat} (hA : MA M D n) (hDl : ∀ j, D j < 256) (hn : n ≤ 900) (hq : M.1 132 15 = nI q) (hqn : q ≤ n) {Q : Option Value → Mm → Prop} (hQ : ∀ M', MTK M' (lxQ D n q).1 (lxQ D n q).2 → fr avP M M' → Q none M') (d : Nat) : AW miX12_advance (d + 3) (mxA Q) 58 [(0, some (.ref 132))] [] M := by
  have hf0 : fr avP M M := fr.r
  refine a_aload_n rfl dX12_advance_58 ?_
  refine a_aload_n rfl dX12_advance_59 ?_
  refine g_i hq (by decide) rfl fX12_118 rfl dX12_advance_60 ?_
  refine a_puti dX12_advance_63 pX12_115 (by decide) rfl rfl ?_
  refine a_aload_n rfl dX12_advance_66 ?_
  refine g_i (siN hq (by omega)) (by decide) rfl fX12_118 rfl dX12_advance_67 ?_
  refine a_aload_n rfl dX12_advance_70 ?_
  refine g_i (siN hA.1 (by omega)) (by decide) rfl fX12_112 rfl dX12_advance_71 ?_
  refine n_icmp_lt 83 (by omega) (by omega) dX12_advance_74 (by decide) (fun h_74 => ?_) (fun h_74 => ?_)
  · refine a_aload_n rfl dX12_advance_83 ?_
    refine a_aload_n rfl dX12_advance_84 ?_
    refine g_i (siN hq (by omega)) (by decide) rfl fX12_118 rfl dX12_advance_85 ?_
    refine n_callV (mi' := miX12_look2) dX12_advance_88 lX12_121 mX12_look2 (by decide) rfl rfl rfl (c_X12_look2 (MA_fr hA (fr.r.si (P := fun k j => k = 132 ∧ j = 16) ⟨rfl, rfl⟩) (fun k j z => by omega)) hn (by omega) ?_ d) rfl rfl (by omega) (by decide) (Nat.le_of_ble_eq_true rfl)
    show AW _ _ _ _ _ _ _
    have hqn2 : q < n := by omega
    refine a_eqi (y := nI (D q)) (congrArg nI (if_pos hqn2)) ?_
    have hDq := hDl q
    refine a_istore_n (by decide) rfl dX12_advance_91 ?_
    refine a_iload_n rfl dX12_advance_92 ?_
    refine n_callS (mi' := miX12_isLetter) dX12_advance_93 lX12_127 mX12_isLetter (c_X12_isLetter (v := D q) (hDl _) (fun h_93 => ?_) (fun h_93 => ?_) d) rfl rfl (by omega) (by decide) (Nat.le_of_ble_eq_true rfl)
    · show AW _ _ _ _ _ _ _
      refine n_if_eq 198 (by decide) dX12_advance_96 (by decide) (fun h => absurd h (by decide)) (fun _ => ?_)
      refine a_aload_n rfl dX12_advance_99 ?_
      refine n_iconst 1 rfl dX12_advance_100 ?_
      refine a_puti dX12_advance_101 pX12_124 (by decide) rfl rfl ?_
      refine a_aload_n rfl dX12_advance_104 ?_
      refine a_lconst 0 rfl dX12_advance_105 ?_
      refine a_putl dX12_advance_106 pX12_130 (by decide) rfl rfl ?_
      have loop_109 : ∀ (f : Nat) (r : Nat) (M1 : Mm), n < r + f → (M1.1 132 16 = nI r ∧ q ≤ r ∧ r ≤ n ∧ (∀ k, q ≤ k → k < r → letB (D k) = true) ∧ M1.2 132 19 = wwI D q r ∧ M1.1 132 14 = nI 1 ∧ M1.1 132 15 = nI q ∧ fr avP M M1) → AW miX12_advance (d + 3) (mxA Q) 109 [(0, some (.ref 132))] [] M1 := by
        intro f
        induction f with
        | zero =>
          intro r M1 hL_109 hI_109
          have hqr := hI_109.2.1
          have hrn := hI_109.2.2.1
          exact absurd hL_109 (by omega)
        | succ f ih_109 =>
          intro r M1 hL_109 hI_109
          have hqr := hI_109.2.1
          have hrn := hI_109.2.2.1
          refine a_aload_n rfl dX12_advance_109 ?_
          refine a_aload_n rfl dX12_advance_110 ?_
          refine g_i hI_109.1 (by decide) rfl fX12_115 rfl dX12_advance_111 ?_
          refine n_callV (mi' := miX12_look2) dX12_advance_114 lX12_121 mX12_look2 (by decide) rfl rfl rfl (c_X12_look2 (MA_av hA hI_109.2.2.2.2.2.2.2) hn (by omega) ?_ d) rfl rfl (by omega) (by decide) (Nat.le_of_ble_eq_true rfl)
          show AW _ _ _ _ _ _ _
          refine n_callS (mi' := miX12_isLetter) dX12_advance_117 lX12_127 mX12_isLetter (c_X12_isLetter (v := lkN D n r) (lk_lt hDl) (fun h_117 => ?_) (fun h_117 => ?_) d) rfl rfl (by omega) (by decide) (Nat.le_of_ble_eq_true rfl)
          · show AW _ _ _ _ _ _ _
            have hlr := (lk_p letB (by decide)).mp h_117
            refine n_if_eq 182 (by decide) dX12_advance_120 (by decide) (fun h => absurd h (by decide)) (fun _ => ?_)
            refine a_aload_n rfl dX12_advance_123 ?_
            refine a_aload_n rfl dX12_advance_124 ?_
            refine g_i hI_109.1 (by decide) rfl fX12_115 rfl dX12_advance_125 ?_
            refine a_aload_n rfl dX12_advance_128 ?_
            refine g_i hI_109.2.2.2.2.2.2.1 (by decide) rfl fX12_118 rfl dX12_advance_129 ?_
            refine n_isub (by omega) dX12_advance_132 ?_
            refine n_bipush 8 rfl dX12_advance_133 ?_
            refine n_icmp_ge 163 (by omega) (by omega) dX12_advance_135 (by decide) (fun h_135 => ?_) (fun h_135 => ?_)
            · refine a_ldc2 kX12_100 dX12_advance_163 ?_
              refine a_putl dX12_advance_166 pX12_130 (by decide) rfl rfl ?_
              refine a_aload_n rfl dX12_advance_169 ?_
              refine a_dup rfl dX12_advance_170 ?_
              refine g_i (slJ hI_109.1) (by decide) rfl fX12_115 rfl dX12_advance_171 ?_
              refine n_iconst 1 rfl dX12_advance_174 ?_
              refine n_iadd dX12_advance_175 ?_
              refine a_puti dX12_advance_176 pX12_115 (by decide) rfl rfl ?_
              refine a_goto 109 dX12_advance_179 (by decide) ?_
              exact a_bk (ih_109 (r + 1) _ (by omega) ⟨siS, by omega, by have := hlr.1; omega, fun k a c => by
                    by_cases e : k = r
                    · rw [e]; exact hlr.2
                    · exact hI_109.2.2.2.1 k a (by omega), siJ (slS.trans (ww_n (by omega) hqr)), siN (slJ hI_109.2.2.2.2.2.1) (by omega), siN (slJ hI_109.2.2.2.2.2.2.1) (by omega), (hI_109.2.2.2.2.2.2.2.sl (by unfold avP; omega)).si (by unfold avP; omega)⟩) ⟨rfl, trivial⟩
            · refine a_aload_n rfl dX12_advance_138 ?_
              refine a_getl dX12_advance_139 fX12_130 (by decide) rfl rfl ?_
              refine a_ldc2 kX12_133 dX12_advance_142 ?_
              refine a_lmul dX12_advance_145 ?_
              refine a_aload_n rfl dX12_advance_146 ?_
              refine a_aload_n rfl dX12_advance_147 ?_
              refine g_i hI_109.1 (by decide) rfl fX12_115 rfl dX12_advance_148 ?_
              refine n_callV (mi' := miX12_look2) dX12_advance_151 lX12_121 mX12_look2 (by decide) rfl rfl rfl (c_X12_look2 (MA_av hA hI_109.2.2.2.2.2.2.2) hn (by omega) ?_ d) rfl rfl (by omega) (by decide) (Nat.le_of_ble_eq_true rfl)
              show AW _ _ _ _ _ _ _
              refine a_i2l dX12_advance_154 ?_
              refine a_ladd dX12_advance_155 ?_
              refine a_ldc2 kX12_135 dX12_advance_156 ?_
              refine a_lsub dX12_advance_159 ?_
              refine a_goto 166 dX12_advance_160 (by decide) ?_
              refine a_putl dX12_advance_166 pX12_130 (by decide) rfl rfl ?_
              refine a_aload_n rfl dX12_advance_169 ?_
              refine a_dup rfl dX12_advance_170 ?_
              refine g_i (slJ hI_109.1) (by decide) rfl fX12_115 rfl dX12_advance_171 ?_
              refine n_iconst 1 rfl dX12_advance_174 ?_
              refine n_iadd dX12_advance_175 ?_
              refine a_puti dX12_advance_176 pX12_115 (by decide) rfl rfl ?_
              refine a_goto 109 dX12_advance_179 (by decide) ?_
              exact a_bk (ih_109 (r + 1) _ (by omega) ⟨siS, by omega, by have := hlr.1; omega, fun k a c => by
                    by_cases e : k = r
                    · rw [e]; exact hlr.2
                    · exact hI_109.2.2.2.1 k a (by omega), siJ (slS.trans (ww_s hI_109.2.2.2.2.1 (by omega) hqr hlr.2 hlr.1)), siN (slJ hI_109.2.2.2.2.2.1) (by omega), siN (slJ hI_109.2.2.2.2.2.2.1) (by omega), (hI_109.2.2.2.2.2.2.2.sl (by unfold avP; omega)).si (by unfold avP; omega)⟩) ⟨rfl, trivial⟩
          · show AW _ _ _ _ _ _ _
            have hlr : ¬ (r < n ∧ letB (D r) = true) := fun z => h_117 ((lk_p letB (by decide)).mpr z)
            refine n_if_eq 182 (by decide) dX12_advance_120 (by decide) (fun _ => ?_) (fun h => absurd h (by decide))
            refine a_aload_n rfl dX12_advance_182 ?_
            refine a_aload_n rfl dX12_advance_183 ?_
            refine g_i hI_109.1 (by decide) rfl fX12_115 rfl dX12_advance_184 ?_
            refine a_aload_n rfl dX12_advance_187 ?_
            refine g_i hI_109.2.2.2.2.2.2.1 (by decide) rfl fX12_118 rfl dX12_advance_188 ?_
            refine n_isub (by omega) dX12_advance_191 ?_
            refine a_puti dX12_advance_192 pX12_137 (by decide) rfl rfl ?_
            refine a_goto 330 dX12_advance_195 (by decide) ?_
            refine a_vret dX12_advance_330 rfl ?_
            have hr : ruN letB D n q = r := ruN_at hqr hrn hI_109.2.2.2.1 hlr
            have e : lxQ D n q = (wdT D q r, r) := by unfold lxQ; rw [if_neg (by omega), if_pos h_93, hr]
            rw [e] at hQ
            exact hQ _ (MTK_w (siN hI_109.2.2.2.2.2.1 (by omega)) (siN hI_109.2.2.2.2.2.2.1 (by omega)) (siN hI_109.1 (by omega)) hI_109.2.2.2.2.1 siS (by omega)) (hI_109.2.2.2.2.2.2.2.si (by unfold avP; omega))
      exact a_bk (loop_109 (n + 1 - q) q _ (by omega) ⟨slJ (siN siS (by omega)), Nat.le_refl _, by omega, fun k a c => by omega, slS.trans (by unfold wwI; rw [Nat.sub_self]; rfl), slJ siS, slJ (siN (siN hq (by omega)) (by omega)), ((hf0.si (by unfold avP; omega)).si (by unfold avP; omega)).sl (by unfold avP; omega)⟩) ⟨rfl, trivial⟩
    · show AW _ _ _ _ _ _ _
      refine n_if_eq 198 (by decide) dX12_advance_96 (by decide) (fun _ => ?_) (fun h => absurd h (by decide))
      refine a_iload_n rfl dX12_advance_198 ?_
      refine n_callS (mi' := miX12_isDigit) dX12_advance_199 lX12_140 mX12_isDigit (c_X12_isDigit (v := D q) (hDl _) (fun h_199 => ?_) (fun h_199 => ?_) d) rfl rfl (by omega) (by decide) (Nat.le_of_ble_eq_true rfl)
      · show AW _ _ _ _ _ _ _
        refine n_if_eq 298 (by decide) dX12_advance_202 (by decide) (fun h => absurd h (by decide)) (fun _ => ?_)
        refine a_aload_n rfl dX12_advance_205 ?_
        refine n_iconst 0 rfl dX12_advance_206 ?_
        refine a_puti dX12_advance_207 pX12_143 (by decide) rfl rfl ?_
        have loop_210 : ∀ (f : Nat) (r : Nat) (M1 : Mm), n < r + f → (M1.1 132 16 = nI r ∧ q ≤ r ∧ r ≤ n ∧ (∀ k, q ≤ k → k < r → digB (D k) = true) ∧ M1.1 132 17 = nI (nvN D q (min (r - q) 4)) ∧ M1.1 132 15 = nI q ∧ fr avP M M1) → AW miX12_advance (d + 3) (mxA Q) 210 [(0, some (.ref 132))] [] M1 := by
          intro f
          induction f with
          | zero =>
            intro r M1 hL_210 hI_210
            have hqr := hI_210.2.1
            have hrn := hI_210.2.2.1
            exact absurd hL_210 (by omega)
          | succ f ih_210 =>
            intro r M1 hL_210 hI_210
            have hqr := hI_210.2.1
            have hrn := hI_210.2.2.1
            refine a_aload_n rfl dX12_advance_210 ?_
            refine a_aload_n rfl dX12_advance_211 ?_
            refine g_i hI_210.1 (by decide) rfl fX12_115 rfl dX12_advance_212 ?_
            refine n_callV (mi' := miX12_look2) dX12_advance_215 lX12_121 mX12_look2 (by decide) rfl rfl rfl (c_X12_look2 (MA_av hA hI_210.2.2.2.2.2.2) hn (by omega) ?_ d) rfl rfl (by omega) (by decide) (Nat.le_of_ble_eq_true rfl)
            show AW _ _ _ _ _ _ _
            refine n_callS (mi' := miX12_isDigit) dX12_advance_218 lX12_140 mX12_isDigit (c_X12_isDigit (v := lkN D n r) (lk_lt hDl) (fun h_218 => ?_) (fun h_218 => ?_) d) rfl rfl (by omega) (by decide) (Nat.le_of_ble_eq_true rfl)
            · show AW _ _ _ _ _ _ _
              have hdr := (lk_p digB (by decide)).mp h_218
              have hdg := digB_i.mp hdr.2
              have hlke : lkN D n r = D r := if_pos hdr.1
              refine n_if_eq 273 (by decide) dX12_advance_221 (by decide) (fun h => absurd h (by decide)) (fun _ => ?_)
              refine a_aload_n rfl dX12_advance_224 ?_
              refine g_i hI_210.1 (by decide) rfl fX12_115 rfl dX12_advance_225 ?_
              refine a_aload_n rfl dX12_advance_228 ?_
              refine g_i hI_210.2.2.2.2.2.1 (by decide) rfl fX12_118 rfl dX12_advance_229 ?_
              refine n_isub (by omega) dX12_advance_232 ?_
              refine n_iconst 4 rfl dX12_advance_233 ?_
              refine n_icmp_ge 260 (by omega) (by omega) dX12_advance_234 (by decide) (fun h_234 => ?_) (fun h_234 => ?_)
              · refine a_aload_n rfl dX12_advance_260 ?_
                refine a_dup rfl dX12_advance_261 ?_
                refine g_i hI_210.1 (by decide) rfl fX12_115 rfl dX12_advance_262 ?_
                refine n_iconst 1 rfl dX12_advance_265 ?_
                refine n_iadd dX12_advance_266 ?_
                refine a_puti dX12_advance_267 pX12_115 (by decide) rfl rfl ?_
                refine a_goto 210 dX12_advance_270 (by decide) ?_
                exact a_bk (ih_210 (r + 1) _ (by omega) ⟨siS, by omega, by have := hdr.1; omega, fun k a c => by
                    by_cases e : k = r
                    · rw [e]; exact hdr.2
                    · exact hI_210.2.2.2.1 k a (by omega), (siN (hI_210.2.2.2.2.1.trans (congrArg nI (nv4_n (by omega) hqr))) (by omega)), siN hI_210.2.2.2.2.2.1 (by omega), (hI_210.2.2.2.2.2.2.si (by unfold avP; omega))⟩) ⟨rfl, trivial⟩
              · refine a_aload_n rfl dX12_advance_237 ?_
                refine n_bipush 10 rfl dX12_advance_238 ?_
                refine a_aload_n rfl dX12_advance_240 ?_
                refine g_i hI_210.2.2.2.2.1 (by decide) rfl fX12_143 rfl dX12_advance_241 ?_
                refine n_imul dX12_advance_244 ?_
                refine a_aload_n rfl dX12_advance_245 ?_
                refine a_aload_n rfl dX12_advance_246 ?_
                refine g_i hI_210.1 (by decide) rfl fX12_115 rfl dX12_advance_247 ?_
                refine n_callV (mi' := miX12_look2) dX12_advance_250 lX12_121 mX12_look2 (by decide) rfl rfl rfl (c_X12_look2 (MA_av hA hI_210.2.2.2.2.2.2) hn (by omega) ?_ d) rfl rfl (by omega) (by decide) (Nat.le_of_ble_eq_true rfl)
                show AW _ _ _ _ _ _ _
                refine n_iadd dX12_advance_253 ?_
                refine n_bipush 48 rfl dX12_advance_254 ?_
                refine n_isub (by omega) dX12_advance_256 ?_
                refine a_puti dX12_advance_257 pX12_143 (by decide) rfl rfl ?_
                refine a_aload_n rfl dX12_advance_260 ?_
                refine a_dup rfl dX12_advance_261 ?_
                refine g_i (siN hI_210.1 (by omega)) (by decide) rfl fX12_115 rfl dX12_advance_262 ?_
                refine n_iconst 1 rfl dX12_advance_265 ?_
                refine n_iadd dX12_advance_266 ?_
                refine a_puti dX12_advance_267 pX12_115 (by decide) rfl rfl ?_
                refine a_goto 210 dX12_advance_270 (by decide) ?_
                exact a_bk (ih_210 (r + 1) _ (by omega) ⟨siS, by omega, by have := hdr.1; omega, fun k a c => by
                    by_cases e : k = r
                    · rw [e]; exact hdr.2
                    · exact hI_210.2.2.2.1 k a (by omega), (siN (siS.trans (congrArg nI (nv4_s hqr (by omega) hdr.1 hdr.2))) (by omega)), siN (siN hI_210.2.2.2.2.2.1 (by omega)) (by omega), ((hI_210.2.2.2.2.2.2.si (by unfold avP; omega)).si (by unfold avP; omega))⟩) ⟨rfl, trivial⟩
            · show AW _ _ _ _ _ _ _
              have hdr : ¬ (r < n ∧ digB (D r) = true) := fun z => h_218 ((lk_p digB (by decide)).mpr z)
              refine n_if_eq 273 (by decide) dX12_advance_221 (by decide) (fun _ => ?_) (fun h => absurd h (by decide))
              refine a_aload_n rfl dX12_advance_273 ?_
              refine a_aload_n rfl dX12_advance_274 ?_
              refine g_i hI_210.1 (by decide) rfl fX12_115 rfl dX12_advance_275 ?_
              refine a_aload_n rfl dX12_advance_278 ?_
              refine g_i hI_210.2.2.2.2.2.1 (by decide) rfl fX12_118 rfl dX12_advance_279 ?_
              refine n_isub (by omega) dX12_advance_282 ?_
              refine n_iconst 4 rfl dX12_advance_283 ?_
              refine n_icmp_le 291 (by omega) (by omega) dX12_advance_284 (by decide) (fun h_284 => ?_) (fun h_284 => ?_)
              · refine n_iconst 2 rfl dX12_advance_291 ?_
                refine a_puti dX12_advance_292 pX12_124 (by decide) rfl rfl ?_
                refine a_goto 330 dX12_advance_295 (by decide) ?_
                refine a_vret dX12_advance_330 rfl ?_
                have hr : ruN digB D n q = r := ruN_at hqr hrn hI_210.2.2.2.1 hdr
                have e : lxQ D n q = (nmT D q r, r) := by unfold lxQ; rw [if_neg (by omega), if_neg h_93, if_pos h_199, hr]
                rw [e] at hQ
                exact hQ _ (MTK_d siS (if_neg (by omega)).symm (siN hI_210.2.2.2.2.2.1 (by omega)) (siN hI_210.1 (by omega)) (siN hI_210.2.2.2.2.1 (by omega))) (hI_210.2.2.2.2.2.2.si (by unfold avP; omega))
              · refine n_iconst 4 rfl dX12_advance_287 ?_
                refine a_goto 292 dX12_advance_288 (by decide) ?_
                refine a_puti dX12_advance_292 pX12_124 (by decide) rfl rfl ?_
                refine a_goto 330 dX12_advance_295 (by decide) ?_
                refine a_vret dX12_advance_330 rfl ?_
                have hr : ruN digB D n q = r := ruN_at hqr hrn hI_210.2.2.2.1 hdr
                have e : lxQ D n q = (nmT D q r, r) := by unfold lxQ; rw [if_neg (by omega), if_neg h_93, if_pos h_199, hr]
                rw [e] at hQ
                exact hQ _ (MTK_d siS (if_pos (by omega)).symm (siN hI_210.2.2.2.2.2.1 (by omega)) (siN hI_210.1 (by omega)) (siN hI_210.2.2.2.2.1 (by omega))) (hI_210.2.2.2.2.2.2.si (by unfold avP; omega))
        exact a_bk (loop_210 (n + 1 - q) q _ (by omega) ⟨siN siS (by omega), Nat.le_refl _, by omega, fun k a c => by omega, siS.trans (by rw [Nat.sub_self]; rfl), siN (siN hq (by omega)) (by omega), (hf0.si (by unfold avP; omega)).si (by unfold avP; omega)⟩) ⟨rfl, trivial⟩
      · show AW _ _ _ _ _ _ _
        refine n_if_eq 298 (by decide) dX12_advance_202 (by decide) (fun _ => ?_) (fun h => absurd h (by decide))
        refine a_aload_n rfl dX12_advance_298 ?_
        refine a_aload_n rfl dX12_advance_299 ?_
        refine g_i (siN hq (by omega)) (by decide) rfl fX12_118 rfl dX12_advance_300 ?_
        refine n_iconst 1 rfl dX12_advance_303 ?_
        refine n_iadd dX12_advance_304 ?_
        refine a_puti dX12_advance_305 pX12_115 (by decide) rfl rfl ?_
        refine a_aload_n rfl dX12_advance_308 ?_
        refine a_iload_n rfl dX12_advance_309 ?_
        refine a_puti dX12_advance_310 pX12_143 (by decide) rfl rfl ?_
        refine a_aload_n rfl dX12_advance_313 ?_
        refine a_aload_n rfl dX12_advance_314 ?_
        refine a_iload_n rfl dX12_advance_315 ?_
        refine n_callV (mi' := miX12_isSignByte) dX12_advance_316 lX12_146 mX12_isSignByte (by decide) rfl rfl rfl (c_X12_isSignByte (v := D q) (hDl _) (fun h_316 => ?_) (fun h_316 => ?_) d) rfl rfl (by omega) (by decide) (Nat.le_of_ble_eq_true rfl)
        · show AW _ _ _ _ _ _ _
          refine n_if_eq 326 (by decide) dX12_advance_319 (by decide) (fun h => absurd h (by decide)) (fun _ => ?_)
          refine n_iconst 3 rfl dX12_advance_322 ?_
          refine a_goto 327 dX12_advance_323 (by decide) ?_
          refine a_puti dX12_advance_327 pX12_124 (by decide) rfl rfl ?_
          refine a_vret dX12_advance_330 rfl ?_
          have e : lxQ D n q = ((5, q, D q), q + 1) := by unfold lxQ; rw [if_neg (by omega), if_neg h_93, if_neg h_199, if_pos h_316]
          rw [e] at hQ
          exact hQ _ (MTK_s siS (siN (siN (siN (siN hq (by omega)) (by omega)) (by omega)) (by omega)) (siN (siN siS (by omega)) (by omega)) (siN siS (by omega))) ((((hf0.si (by unfold avP; omega)).si (by unfold avP; omega)).si (by unfold avP; omega)).si (by unfold avP; omega))
        · show AW _ _ _ _ _ _ _
          refine n_if_eq 326 (by decide) dX12_advance_319 (by decide) (fun _ => ?_) (fun h => absurd h (by decide))
          refine n_iconst 4 rfl dX12_advance_326 ?_
          refine a_puti dX12_advance_327 pX12_124 (by decide) rfl rfl ?_
          refine a_vret dX12_advance_330 rfl ?_
          have e : lxQ D n q = ((6, q, 0), q + 1) := by unfold lxQ; rw [if_neg (by omega), if_neg h_93, if_neg h_199, if_neg h_316]
          rw [e] at hQ
          exact hQ _ (MTK_b siS (siN (siN (siN (siN hq (by omega)) (by omega)) (by omega)) (by omega)) (siN (siN siS (by omega)) (by omega))) ((((hf0.si (by unfold avP; omega)).si (by unfold avP; omega)).si (by unfold avP; omega)).si (by unfold avP; omega))
  · refine a_aload_n rfl dX12_advance_77 ?_
    refine n_iconst 0 rfl dX12_advance_78 ?_
    refine a_puti dX12_advance_79 pX12_124 (by decide) rfl rfl ?_
    refine a_vret dX12_advance_82 rfl ?_
    have e : lxQ D n q = ((0, q, 0), q) := if_pos (by omega)
    rw [e] at hQ
    exact hQ _ (MTK_e siS (siN (siN hq (by omega)) (by omega)) (siN siS (by omega))) ((hf0.si (by unfold avP; omega)).si (by unfold avP; omega))

set_option maxRecDepth 100000 in
set_option maxHeartbeats 800000 in
theorem c_X12_advance {M : Mm} {D : Nat → Nat} {n : Nat} (hA : MA M D n) (hDl : ∀ j, D j < 256) (hn : n ≤ 900) {k : Nat} (hb : M.1 132 16 = nI (poN D n k)) {Q : Option Value → Mm → Prop} (hQ : ∀ M', MTK M' (tkN D n k) (poN D n (k + 1)) → fr avP M M' → Q none M') (d : Nat) : AMt miX12_advance (d + 3) [.ref 132] M Q := by
  refine AMt.of (by decide) (Nat.le_of_ble_eq_true rfl) ?_
  show AW miX12_advance (d + 3) (mxA Q) 0 [(0, some (.ref 132))] [] M
  have hpk := po_le (D := D) (n := n) k
  refine a_aload_n rfl dX12_advance_0 ?_
  refine a_aload_n rfl dX12_advance_1 ?_
  refine g_i hb (by decide) rfl fX12_115 rfl dX12_advance_2 ?_
  refine a_puti dX12_advance_5 pX12_118 (by decide) rfl rfl ?_
  have loop_8 : ∀ (f : Nat) (p : Nat) (M1 : Mm), n ≤ p + f → (M1.1 132 15 = nI p ∧ p ≤ n ∧ ruN blkB D n p = ruN blkB D n (poN D n k) ∧ fr avP M M1) → AW miX12_advance (d + 3) (mxA Q) 8 [(0, some (.ref 132))] [] M1 := by
    intro f
    induction f with
    | zero =>
      intro p M1 hL_8 hI_8
      have hpn := hI_8.2.1
      refine a_aload_n rfl dX12_advance_8 ?_
      refine g_i hI_8.1 (by decide) rfl fX12_118 rfl dX12_advance_9 ?_
      refine a_aload_n rfl dX12_advance_12 ?_
      refine g_i (hI_8.2.2.2.i hA.1 (by unfold avP; omega)) (by decide) rfl fX12_112 rfl dX12_advance_13 ?_
      refine n_icmp_ge 58 (by omega) (by omega) dX12_advance_16 (by decide) (fun h_16 => ?_) (fun h_16 => absurd h_16 (by omega))
      have hnb : ¬ (p < n ∧ blkB (D p) = true) := fun z => by have := blkB_i.mp z.2; omega
      have hqe : ruN blkB D n (poN D n k) = p := hI_8.2.2.1.symm.trans (ruN_e hnb)
      have hxe : lxK D n (poN D n k) = lxQ D n p := by unfold lxK; rw [hqe]
      refine a_bk (av_58 (MA_av hA hI_8.2.2.2) hDl hn hI_8.1 hpn (fun M' a b => ?_) d) ⟨rfl, trivial⟩
      rw [← hxe] at a
      exact hQ M' a (hI_8.2.2.2.t b)
    | succ f ih_8 =>
      intro p M1 hL_8 hI_8
      have hpn := hI_8.2.1
      refine a_aload_n rfl dX12_advance_8 ?_
      refine g_i hI_8.1 (by decide) rfl fX12_118 rfl dX12_advance_9 ?_
      refine a_aload_n rfl dX12_advance_12 ?_
      refine g_i (hI_8.2.2.2.i hA.1 (by unfold avP; omega)) (by decide) rfl fX12_112 rfl dX12_advance_13 ?_
      refine n_icmp_ge 58 (by omega) (by omega) dX12_advance_16 (by decide) (fun h_16 => ?_) (fun h_16 => ?_)
      · have hnb : ¬ (p < n ∧ blkB (D p) = true) := fun z => by omega
        have hqe : ruN blkB D n (poN D n k) = p := hI_8.2.2.1.symm.trans (ruN_e hnb)
        have hxe : lxK D n (poN D n k) = lxQ D n p := by unfold lxK; rw [hqe]
        refine a_bk (av_58 (MA_av hA hI_8.2.2.2) hDl hn hI_8.1 hpn (fun M' a b => ?_) d) ⟨rfl, trivial⟩
        rw [← hxe] at a
        exact hQ M' a (hI_8.2.2.2.t b)
      · refine a_aload_n rfl dX12_advance_19 ?_
        refine a_aload_n rfl dX12_advance_20 ?_
        refine g_i hI_8.1 (by decide) rfl fX12_118 rfl dX12_advance_21 ?_
        refine n_callV (mi' := miX12_look2) dX12_advance_24 lX12_121 mX12_look2 (by decide) rfl rfl rfl (c_X12_look2 (MA_av hA hI_8.2.2.2) hn hpn ?_ d) rfl rfl (by omega) (by decide) (Nat.le_of_ble_eq_true rfl)
        show AW _ _ _ _ _ _ _
        have hlk_24 : lkN D n p = D p := if_pos (by omega)
        have hlz_24 := hDl p
        refine n_bipush 10 rfl dX12_advance_27 ?_
        refine n_icmp_eq 45 (by omega) (by omega) dX12_advance_29 (by decide) (fun h_29 => ?_) (fun h_29 => ?_)
        · refine a_aload_n rfl dX12_advance_45 ?_
          refine a_dup rfl dX12_advance_46 ?_
          refine g_i hI_8.1 (by decide) rfl fX12_118 rfl dX12_advance_47 ?_
          refine n_iconst 1 rfl dX12_advance_50 ?_
          refine n_iadd dX12_advance_51 ?_
          refine a_puti dX12_advance_52 pX12_118 (by decide) rfl rfl ?_
          refine a_goto 8 dX12_advance_55 (by decide) ?_
          have hbl : blkB (D p) = true := blkB_i.mpr (by omega)
          exact a_bk (ih_8 (p + 1) _ (by omega) ⟨siS, by omega, (ruN_s (by omega) hbl).symm.trans hI_8.2.2.1, hI_8.2.2.2.si (by unfold avP; omega)⟩) ⟨rfl, trivial⟩
        · refine a_aload_n rfl dX12_advance_32 ?_
          refine a_aload_n rfl dX12_advance_33 ?_
          refine g_i hI_8.1 (by decide) rfl fX12_118 rfl dX12_advance_34 ?_
          refine n_callV (mi' := miX12_look2) dX12_advance_37 lX12_121 mX12_look2 (by decide) rfl rfl rfl (c_X12_look2 (MA_av hA hI_8.2.2.2) hn hpn ?_ d) rfl rfl (by omega) (by decide) (Nat.le_of_ble_eq_true rfl)
          show AW _ _ _ _ _ _ _
          have hlk_37 : lkN D n p = D p := if_pos (by omega)
          have hlz_37 := hDl p
          refine n_bipush 32 rfl dX12_advance_40 ?_
          refine n_icmp_ne 58 (by omega) (by omega) dX12_advance_42 (by decide) (fun h_42 => ?_) (fun h_42 => ?_)
          · have hnb : ¬ (p < n ∧ blkB (D p) = true) := fun z => by have := blkB_i.mp z.2; omega
            have hqe : ruN blkB D n (poN D n k) = p := hI_8.2.2.1.symm.trans (ruN_e hnb)
            have hxe : lxK D n (poN D n k) = lxQ D n p := by unfold lxK; rw [hqe]
            refine a_bk (av_58 (MA_av hA hI_8.2.2.2) hDl hn hI_8.1 hpn (fun M' a b => ?_) d) ⟨rfl, trivial⟩
            rw [← hxe] at a
            exact hQ M' a (hI_8.2.2.2.t b)
          · refine a_aload_n rfl dX12_advance_45 ?_
            refine a_dup rfl dX12_advance_46 ?_
            refine g_i hI_8.1 (by decide) rfl fX12_118 rfl dX12_advance_47 ?_
            refine n_iconst 1 rfl dX12_advance_50 ?_
            refine n_iadd dX12_advance_51 ?_
            refine a_puti dX12_advance_52 pX12_118 (by decide) rfl rfl ?_
            refine a_goto 8 dX12_advance_55 (by decide) ?_
            have hbl : blkB (D p) = true := blkB_i.mpr (by omega)
            exact a_bk (ih_8 (p + 1) _ (by omega) ⟨siS, by omega, (ruN_s (by omega) hbl).symm.trans hI_8.2.2.1, hI_8.2.2.2.si (by unfold avP; omega)⟩) ⟨rfl, trivial⟩
  exact a_bk (loop_8 (n - poN D n k) (poN D n k) _ (by omega) ⟨siS, po_le k, rfl, fr.r.si (by unfold avP; omega)⟩) ⟨rfl, trivial⟩

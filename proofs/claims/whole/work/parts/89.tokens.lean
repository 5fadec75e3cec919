/-- a reader: its token, its fault, the fault's place -/
abbrev CC : Type := Nat × Nat × Nat
def kd (tk : Nat → TK) (c : CC) : Nat := (tk c.1).1
def cd (tk : Nat → TK) (c : CC) : Nat := (tk c.1).2.2
def flC (tk : Nat → TK) (w : Nat) (c : CC) : CC := if c.2.1 = 0 then (c.1, (if kd tk c = 6 then 1 else w), (tk c.1).2.1) else c
def spC (tk : Nat → TK) (c : CC) : CC := if c.2.1 = 0 ∧ kd tk c ≠ 0 then (c.1 + 1, c.2) else c
/-- what holds of a text's tokens -/
def TKG (tk : Nat → TK) : Prop := ∀ i, (tk i).1 ≤ 6 ∧ (tk i).2.1 ≤ 900 ∧ ((tk i).1 = 1 → (tk i).2.2 < 25) ∧ ((tk i).1 = 2 → (tk i).2.2 < 1099511627776 ∧ kwF (tk i).2.2 = none) ∧ ((tk i).1 = 4 → (tk i).2.2 < 10000) ∧ ((tk i).1 = 5 → 59 ≤ (tk i).2.2 ∧ (tk i).2.2 ≤ 62)
theorem lxQ_G {D : Nat → Nat} {n q : Nat} (hq : q ≤ n) (hn : n ≤ 900) : (lxQ D n q).1.1 ≤ 6 ∧ (lxQ D n q).1.2.1 ≤ 900 ∧ ((lxQ D n q).1.1 = 1 → (lxQ D n q).1.2.2 < 25) ∧ ((lxQ D n q).1.1 = 2 → (lxQ D n q).1.2.2 < 1099511627776 ∧ kwF (lxQ D n q).1.2.2 = none) ∧ ((lxQ D n q).1.1 = 4 → (lxQ D n q).1.2.2 < 10000) ∧ ((lxQ D n q).1.1 = 5 → 59 ≤ (lxQ D n q).1.2.2 ∧ (lxQ D n q).1.2.2 ≤ 62) := by
  unfold lxQ
  by_cases c : n ≤ q
  · rw [if_pos c]; exact ⟨(by decide : (0 : Nat) ≤ 6), (show q ≤ 900 by omega), fun h => absurd (show (0 : Nat) = 1 from h) (by decide), fun h => absurd (show (0 : Nat) = 2 from h) (by decide), fun h => absurd (show (0 : Nat) = 4 from h) (by decide), fun h => absurd (show (0 : Nat) = 5 from h) (by decide)⟩
  · rw [if_neg c]
    by_cases c1 : letB (D q) = true
    · rw [if_pos c1]
      have hb := ruN_b (P := letB) (D := D) hq
      show (wdT D q (ruN letB D n q)).1 ≤ 6 ∧ _
      unfold wdT
      by_cases c2 : 8 < ruN letB D n q - q
      · rw [if_pos c2]; exact ⟨(by decide : (3 : Nat) ≤ 6), (show q ≤ 900 by omega), fun h => absurd (show (3 : Nat) = 1 from h) (by decide), fun h => absurd (show (3 : Nat) = 2 from h) (by decide), fun h => absurd (show (3 : Nat) = 4 from h) (by decide), fun h => absurd (show (3 : Nat) = 5 from h) (by decide)⟩
      · rw [if_neg c2]
        have hl : cdN D q (ruN letB D n q - q) < 1099511627776 := Nat.lt_of_lt_of_le (cdN_lt (fun k a b => hb.2.2.1 k a (by omega))) (Nat.le_trans (Nat.pow_le_pow_right (by decide) (show ruN letB D n q - q ≤ 8 by omega)) (by decide))
        cases hk : kwF (cdN D q (ruN letB D n q - q)) with
        | none => exact ⟨(by decide : (2 : Nat) ≤ 6), (show q ≤ 900 by omega), fun h => absurd (show (2 : Nat) = 1 from h) (by decide), fun _ => ⟨hl, hk⟩, fun h => absurd (show (2 : Nat) = 4 from h) (by decide), fun h => absurd (show (2 : Nat) = 5 from h) (by decide)⟩
        | some k => exact ⟨(by decide : (1 : Nat) ≤ 6), (show q ≤ 900 by omega), fun _ => (kwF_s hk).1, fun h => absurd (show (1 : Nat) = 2 from h) (by decide), fun h => absurd (show (1 : Nat) = 4 from h) (by decide), fun h => absurd (show (1 : Nat) = 5 from h) (by decide)⟩
    · rw [if_neg c1]
      by_cases c2 : digB (D q) = true
      · rw [if_pos c2]
        have hb := ruN_b (P := digB) (D := D) hq
        show (nmT D q (ruN digB D n q)).1 ≤ 6 ∧ _
        unfold nmT
        by_cases c3 : 4 < ruN digB D n q - q
        · rw [if_pos c3]; exact ⟨(by decide : (6 : Nat) ≤ 6), (show q ≤ 900 by omega), fun h => absurd (show (6 : Nat) = 1 from h) (by decide), fun h => absurd (show (6 : Nat) = 2 from h) (by decide), fun h => absurd (show (6 : Nat) = 4 from h) (by decide), fun h => absurd (show (6 : Nat) = 5 from h) (by decide)⟩
        · rw [if_neg c3]
          have hl : nvN D q (ruN digB D n q - q) < 10000 := Nat.lt_of_lt_of_le (nvN_lt (fun k a b => hb.2.2.1 k a (by omega))) (Nat.le_trans (Nat.pow_le_pow_right (by decide) (show ruN digB D n q - q ≤ 4 by omega)) (by decide))
          exact ⟨(by decide : (4 : Nat) ≤ 6), (show q ≤ 900 by omega), fun h => absurd (show (4 : Nat) = 1 from h) (by decide), fun h => absurd (show (4 : Nat) = 2 from h) (by decide), fun _ => hl, fun h => absurd (show (4 : Nat) = 5 from h) (by decide)⟩
      · rw [if_neg c2]
        by_cases c3 : sgnB (D q) = true
        · rw [if_pos c3]; exact ⟨(by decide : (5 : Nat) ≤ 6), (show q ≤ 900 by omega), fun h => absurd (show (5 : Nat) = 1 from h) (by decide), fun h => absurd (show (5 : Nat) = 2 from h) (by decide), fun h => absurd (show (5 : Nat) = 4 from h) (by decide), fun _ => sgnB_i.mp c3⟩
        · rw [if_neg c3]; exact ⟨(by decide : (6 : Nat) ≤ 6), (show q ≤ 900 by omega), fun h => absurd (show (6 : Nat) = 1 from h) (by decide), fun h => absurd (show (6 : Nat) = 2 from h) (by decide), fun h => absurd (show (6 : Nat) = 4 from h) (by decide), fun h => absurd (show (6 : Nat) = 5 from h) (by decide)⟩
theorem tkN_G {D : Nat → Nat} {n : Nat} (hn : n ≤ 900) : TKG (tkN D n) := fun i => lxQ_G (ruN_b (P := blkB) (D := D) (po_le (D := D) (n := n) i)).2.1 hn
/-- which of the first names is this -/
def nmI (N : Nat → Int64) (m : Nat) (x : Int64) : Option Nat := (List.range m).find? (fun j => decide (N j = x))
theorem nmI_s {N : Nat → Int64} {x : Int64} {m i : Nat} (h1 : i < m) (h2 : N i = x) (h3 : ∀ j, j < i → N j ≠ x) : nmI N m x = some i := by
  unfold nmI
  cases h : (List.range m).find? (fun j => decide (N j = x)) with
  | none => have := List.find?_eq_none.mp h i (List.mem_range.mpr h1); simp [h2] at this
  | some j =>
    have a1 := List.find?_some h
    have a2 := List.mem_of_find?_eq_some h
    have a1 : N j = x := by simpa using a1
    rcases Nat.lt_trichotomy i j with c | c | c
    · obtain ⟨as, bs, e1, e2⟩ := List.find?_eq_some_iff_append.mp h |>.2
      have hi : i ∈ as := by
        have hl : (List.range m)[i]? = some i := by rw [List.getElem?_range h1]
        have hj : (List.range m)[as.length]? = some j := by rw [e1]; simp
        have hjl : as.length = j := by
          have hlt : as.length < m := by have := (List.getElem?_eq_some_iff.mp hj).1; simpa using this
          rw [List.getElem?_range hlt] at hj; cases hj; rfl
        rw [e1] at hl
        rw [List.getElem?_append_left (by omega)] at hl
        exact List.mem_of_getElem? hl
      have := e2 i hi
      simp [h2] at this
    · rw [c]
    · exact absurd a1 (h3 j c)
theorem nmI_n {N : Nat → Int64} {x : Int64} {m : Nat} (h : ∀ j, j < m → N j ≠ x) : nmI N m x = none := by
  unfold nmI
  apply List.find?_eq_none.mpr
  intro j hj
  have := h j (List.mem_range.mp hj)
  simp [this]
theorem nmI_lt {N : Nat → Int64} {x : Int64} {m i : Nat} (h : nmI N m x = some i) : i < m ∧ N i = x := by
  unfold nmI at h
  have a1 := List.find?_some h
  have a2 := List.mem_of_find?_eq_some h
  exact ⟨List.mem_range.mp a2, by simpa using a1⟩
def bgC (tk : Nat → TK) (b : Bool) (w : Nat) (c : CC) : CC := spC tk (if b = true then flC tk w c else c)
def kwdC (tk : Nat → TK) (k : Nat) (c : CC) : CC := spC tk (if kd tk c = 1 ∧ cd tk c = k then c else flC tk 2 c)
def endC (tk : Nat → TK) (c : CC) : CC := spC tk (if kd tk c = 5 ∧ cd tk c = 59 then c else flC tk 2 c)
def cmpC (tk : Nat → TK) (c : CC) : CC := spC tk (if kd tk c = 5 ∧ cd tk c ≠ 59 then c else flC tk 2 c)
def numC (tk : Nat → TK) (lo hi : Nat) (c : CC) : CC := spC tk (if kd tk c = 4 then (if lo ≤ cd tk c ∧ cd tk c ≤ hi then c else flC tk 4 c) else flC tk 2 c)
/-- the MATTER, the SITTER of this name -/
def nmM (tk : Nat → TK) (S : ST) (N : NM) (c : CC) : Option Nat := nmI (N 0) (S 0 2) (lN (cd tk c))
def nmS (tk : Nat → TK) (S : ST) (N : NM) (c : CC) : Option Nat := nmI (N 1) (S 0 4) (lN (cd tk c))
def newC (tk : Nat → TK) (S : ST) (N : NM) (c : CC) : CC := spC tk (if kd tk c = 2 then (if nmM tk S N c = none ∧ nmS tk S N c = none then c else flC tk 3 c) else flC tk 2 c)
def refC (tk : Nat → TK) (o : Option Nat) (c : CC) : CC := if kd tk c = 2 then (if o = none then flC tk 3 c else c) else flC tk 2 c
theorem fl_z {tk : Nat → TK} {w : Nat} {c : CC} (hw : 0 < w) : (flC tk w c).2.1 ≠ 0 := by
  unfold flC
  split
  · show (if kd tk c = 6 then 1 else w) ≠ 0
    split <;> omega
  · assumption
theorem fl_n {tk : Nat → TK} {w : Nat} {c : CC} (h : ¬ c.2.1 = 0) : flC tk w c = c := if_neg h
theorem sp_n {tk : Nat → TK} {c : CC} (h : ¬ c.2.1 = 0) : spC tk c = c := if_neg (fun q => h q.1)
theorem sp_f {tk : Nat → TK} {c : CC} : (spC tk c).2 = c.2 := by unfold spC; split <;> rfl
theorem sp_fl {tk : Nat → TK} {w : Nat} {c : CC} (hw : 0 < w) : spC tk (flC tk w c) = flC tk w c := sp_n (fl_z hw)
/-- the class's reader -/
def CU (M : Mm) (n : Nat) (c : CC) : Prop := c.1 < n ∧ M.1 10 4 = nI c.1 ∧ M.1 10 5 = nI c.2.1 ∧ (M.1 10 6 = if c.2.1 = 0 then -1 else nI c.2.2) ∧ c.2.1 ≤ 7
def cuP (k j : Nat) : Prop := k = 10 ∧ 4 ≤ j ∧ j ≤ 6
theorem TX_fr {M M' : Mm} {tk : Nat → TK} {n : Nat} {P : Nat → Nat → Prop} (h : TX M tk n) (hf : fr P M M') (hp : ∀ k j, (k = 10 ∧ j = 3) ∨ k = 11 ∨ k = 12 ∨ k = 13 → ¬ P k j) : TX M' tk n :=
  ⟨(hf 10 3 (hp _ _ (by omega))).1.trans h.1, h.2.1, h.2.2.1, h.2.2.2.1, h.2.2.2.2.1, fun i hi => ⟨(hf 11 i (hp _ _ (by omega))).1.trans (h.2.2.2.2.2 i hi).1, (hf 12 i (hp _ _ (by omega))).1.trans (h.2.2.2.2.2 i hi).2.1, fun q => (hf 13 i (hp _ _ (by omega))).2.trans ((h.2.2.2.2.2 i hi).2.2 q)⟩⟩
theorem CU_fl {M : Mm} {tk : Nat → TK} {n w : Nat} {c : CC} (h : CU M n c) (h0 : c.2.1 = 0) (hw : 1 ≤ w ∧ w ≤ 7) {x : Nat} (hx : x = if kd tk c = 6 then 1 else w) : CU (siM (siM M 10 5 (nI x)) 10 6 (nI (tk c.1).2.1)) n (flC tk w c) := by
  unfold flC
  rw [if_pos h0]
  have hz : x ≠ 0 ∧ x ≤ 7 := by rw [hx]; split <;> omega
  subst hx
  exact ⟨h.1, siN (siN h.2.1 (by omega)) (by omega), siN siS (by omega), siS.trans (if_neg hz.1).symm, hz.2⟩
theorem CU_sp {M : Mm} {tk : Nat → TK} {n : Nat} {c : CC} (h : CU M n c) (h0 : c.2.1 = 0) (hk : kd tk c ≠ 0) (h1 : c.1 + 1 < n) : CU (siM M 10 4 (nI (c.1 + 1))) n (spC tk c) := by
  unfold spC
  rw [if_pos ⟨h0, hk⟩]
  exact ⟨h1, siS, siN h.2.2.1 (by omega), siN h.2.2.2.1 (by omega), h.2.2.2.2⟩
theorem tx_kd {M : Mm} {tk : Nat → TK} {n : Nat} {c : CC} (hT : TX M tk n) (hC : CU M n c) : (kd tk c ≠ 0 → c.1 + 1 < n) ∧ (kd tk c = 0 → ¬ c.1 < n - 1) := by
  refine ⟨fun h => ?_, fun h h2 => hT.2.2.2.2.1 c.1 (by omega) h⟩
  by_cases e : c.1 = n - 1
  · have := hT.2.2.2.1
    rw [← e] at this
    exact absurd this h
  · have := hC.1; omega

set_option maxRecDepth 100000 in
set_option maxHeartbeats 800000 in
theorem c_X4_fail {M : Mm} {tk : Nat → TK} {n : Nat} {c : CC} (hK : TKG tk) (hT : TX M tk n) (hC : CU M n c) {w : Nat} (hw : 1 ≤ w ∧ w ≤ 7) {Q : Option Value → Mm → Prop} (hQ : ∀ M', CU M' n (flC tk w c) → fr cuP M M' → Q none M') (d : Nat) : AMt miX4_fail (d) [.ref 10, .int (nI w)] M Q := by
  refine AMt.of (by decide) (Nat.le_of_ble_eq_true rfl) ?_
  show AW miX4_fail (d) (mxA Q) 0 [(0, some (.ref 10)), (1, some (.int (nI w)))] [] M
  have hc1 := hC.1
  have hn1 := hT.2.1
  have hn9 := hT.2.2.1
  have hf7 := hC.2.2.2.2
  have hkd : kd tk c ≤ 6 := (hK c.1).1
  have hst := (hK c.1).2.1
  have htx := tx_kd hT hC
  refine a_aload_n rfl dX4_fail_0 ?_
  refine g_i hC.2.2.1 (by decide) rfl fX4_22 rfl dX4_fail_1 ?_
  refine n_if_ne 43 (by omega) dX4_fail_4 (by decide) (fun h_4 => ?_) (fun h_4 => ?_)
  · refine a_vret dX4_fail_43 rfl ?_
    rw [fl_n h_4] at hQ
    exact hQ _ hC fr.r
  · refine a_aload_n rfl dX4_fail_7 ?_
    refine a_aload_n rfl dX4_fail_8 ?_
    refine a_geta dX4_fail_9 fX4_11 (by decide) rfl rfl ?_
    refine a_aload_n rfl dX4_fail_12 ?_
    refine g_i hC.2.1 (by decide) rfl fX4_62 rfl dX4_fail_13 ?_
    refine v_iald (by omega) (show M.1 11 c.1 = nI (kd tk c) from (hT.2.2.2.2.2 _ hC.1).1) (by decide) rfl (by decide) dX4_fail_16 ?_
    refine n_bipush 6 rfl dX4_fail_17 ?_
    refine n_icmp_ne 26 (by omega) (by omega) dX4_fail_19 (by decide) (fun h_19 => ?_) (fun h_19 => ?_)
    · refine a_iload_n rfl dX4_fail_26 ?_
      refine a_puti dX4_fail_27 pX4_22 (by decide) rfl rfl ?_
      refine a_aload_n rfl dX4_fail_30 ?_
      refine a_aload_n rfl dX4_fail_31 ?_
      refine a_geta dX4_fail_32 fX4_15 (by decide) rfl rfl ?_
      refine a_aload_n rfl dX4_fail_35 ?_
      refine g_i (siN hC.2.1 (by omega)) (by decide) rfl fX4_62 rfl dX4_fail_36 ?_
      refine v_iald (by omega) (siN (hT.2.2.2.2.2 _ hC.1).2.1 (by omega)) (by decide) rfl (by decide) dX4_fail_39 ?_
      refine a_puti dX4_fail_40 pX4_26 (by decide) rfl rfl ?_
      refine a_vret dX4_fail_43 rfl ?_
      exact hQ _ (CU_fl hC h_4 hw (if_neg h_19).symm) ((fr.r.si (by unfold cuP; omega)).si (by unfold cuP; omega))
    · refine n_iconst 1 rfl dX4_fail_22 ?_
      refine a_goto 27 dX4_fail_23 (by decide) ?_
      refine a_puti dX4_fail_27 pX4_22 (by decide) rfl rfl ?_
      refine a_aload_n rfl dX4_fail_30 ?_
      refine a_aload_n rfl dX4_fail_31 ?_
      refine a_geta dX4_fail_32 fX4_15 (by decide) rfl rfl ?_
      refine a_aload_n rfl dX4_fail_35 ?_
      refine g_i (siN hC.2.1 (by omega)) (by decide) rfl fX4_62 rfl dX4_fail_36 ?_
      refine v_iald (by omega) (siN (hT.2.2.2.2.2 _ hC.1).2.1 (by omega)) (by decide) rfl (by decide) dX4_fail_39 ?_
      refine a_puti dX4_fail_40 pX4_26 (by decide) rfl rfl ?_
      refine a_vret dX4_fail_43 rfl ?_
      exact hQ _ (CU_fl hC h_4 hw (if_pos h_19).symm) ((fr.r.si (by unfold cuP; omega)).si (by unfold cuP; omega))

set_option maxRecDepth 100000 in
set_option maxHeartbeats 800000 in
theorem c_X4_step {M : Mm} {tk : Nat → TK} {n : Nat} {c : CC} (hK : TKG tk) (hT : TX M tk n) (hC : CU M n c) {Q : Option Value → Mm → Prop} (hQ : ∀ M', CU M' n (spC tk c) → fr cuP M M' → Q none M') (d : Nat) : AMt miX4_step (d) [.ref 10] M Q := by
  refine AMt.of (by decide) (Nat.le_of_ble_eq_true rfl) ?_
  show AW miX4_step (d) (mxA Q) 0 [(0, some (.ref 10))] [] M
  have hc1 := hC.1
  have hn1 := hT.2.1
  have hn9 := hT.2.2.1
  have hf7 := hC.2.2.2.2
  have hkd : kd tk c ≤ 6 := (hK c.1).1
  have hst := (hK c.1).2.1
  have htx := tx_kd hT hC
  refine a_aload_n rfl dX4_step_0 ?_
  refine g_i hC.2.2.1 (by decide) rfl fX4_22 rfl dX4_step_1 ?_
  refine n_if_ne 30 (by omega) dX4_step_4 (by decide) (fun h_4 => ?_) (fun h_4 => ?_)
  · refine a_vret dX4_step_30 rfl ?_
    rw [sp_n h_4] at hQ
    exact hQ _ hC fr.r
  · refine a_aload_n rfl dX4_step_7 ?_
    refine g_i hC.2.1 (by decide) rfl fX4_62 rfl dX4_step_8 ?_
    refine a_aload_n rfl dX4_step_11 ?_
    refine g_i hT.1 (by decide) rfl fX4_38 rfl dX4_step_12 ?_
    refine n_iconst 1 rfl dX4_step_15 ?_
    refine n_isub (by omega) dX4_step_16 ?_
    refine n_icmp_ge 30 (by omega) (by omega) dX4_step_17 (by decide) (fun h_17 => ?_) (fun h_17 => ?_)
    · refine a_vret dX4_step_30 rfl ?_
      rw [show spC tk c = c from if_neg (fun q => absurd (htx.1 q.2) (by omega))] at hQ
      exact hQ _ hC fr.r
    · refine a_aload_n rfl dX4_step_20 ?_
      refine a_dup rfl dX4_step_21 ?_
      refine g_i hC.2.1 (by decide) rfl fX4_62 rfl dX4_step_22 ?_
      refine n_iconst 1 rfl dX4_step_25 ?_
      refine n_iadd dX4_step_26 ?_
      refine a_puti dX4_step_27 pX4_62 (by decide) rfl rfl ?_
      refine a_vret dX4_step_30 rfl ?_
      have hk0 : kd tk c ≠ 0 := fun e => htx.2 e (by omega)
      exact hQ _ (CU_sp hC h_4 hk0 (by omega)) (fr.r.si (by unfold cuP; omega))

set_option maxRecDepth 100000 in
set_option maxHeartbeats 800000 in
theorem c_X4_areGood {M : Mm} {tk : Nat → TK} {n : Nat} {c : CC} (hK : TKG tk) (hT : TX M tk n) (hC : CU M n c) {Q : Option Value → Mm → Prop} (h1 : c.2.1 = 0 → Q (some (.int (nI 1))) M) (h0 : ¬ c.2.1 = 0 → Q (some (.int (nI 0))) M) (d : Nat) : AMt miX4_areGood (d) [.ref 10] M Q := by
  refine AMt.of (by decide) (Nat.le_of_ble_eq_true rfl) ?_
  show AW miX4_areGood (d) (mxA Q) 0 [(0, some (.ref 10))] [] M
  have hc1 := hC.1
  have hn1 := hT.2.1
  have hn9 := hT.2.2.1
  have hf7 := hC.2.2.2.2
  have hkd : kd tk c ≤ 6 := (hK c.1).1
  have hst := (hK c.1).2.1
  have htx := tx_kd hT hC
  refine a_aload_n rfl dX4_areGood_0 ?_
  refine g_i hC.2.2.1 (by decide) rfl fX4_22 rfl dX4_areGood_1 ?_
  refine n_if_ne 11 (by omega) dX4_areGood_4 (by decide) (fun h_4 => ?_) (fun h_4 => ?_)
  · refine n_iconst 0 rfl dX4_areGood_11 ?_
    refine a_zret dX4_areGood_12 rfl (Or.inl rfl) ?_
    exact h0 h_4
  · refine n_iconst 1 rfl dX4_areGood_7 ?_
    refine a_goto 12 dX4_areGood_8 (by decide) ?_
    refine a_zret dX4_areGood_12 rfl (Or.inr rfl) ?_
    exact h1 h_4

set_option maxRecDepth 100000 in
set_option maxHeartbeats 800000 in
theorem c_X4_goOn {M : Mm} {tk : Nat → TK} {n : Nat} {c : CC} (hK : TKG tk) (hT : TX M tk n) (hC : CU M n c) {Q : Option Value → Mm → Prop} (h1 : c.2.1 = 0 → kd tk c ≠ 0 → Q (some (.int (nI 1))) M) (h0 : ¬ (c.2.1 = 0 ∧ kd tk c ≠ 0) → Q (some (.int (nI 0))) M) (d : Nat) : AMt miX4_goOn (d) [.ref 10] M Q := by
  refine AMt.of (by decide) (Nat.le_of_ble_eq_true rfl) ?_
  show AW miX4_goOn (d) (mxA Q) 0 [(0, some (.ref 10))] [] M
  have hc1 := hC.1
  have hn1 := hT.2.1
  have hn9 := hT.2.2.1
  have hf7 := hC.2.2.2.2
  have hkd : kd tk c ≤ 6 := (hK c.1).1
  have hst := (hK c.1).2.1
  have htx := tx_kd hT hC
  refine a_aload_n rfl dX4_goOn_0 ?_
  refine g_i hC.2.2.1 (by decide) rfl fX4_22 rfl dX4_goOn_1 ?_
  refine n_if_ne 23 (by omega) dX4_goOn_4 (by decide) (fun h_4 => ?_) (fun h_4 => ?_)
  · refine n_iconst 0 rfl dX4_goOn_23 ?_
    refine a_zret dX4_goOn_24 rfl (Or.inl rfl) ?_
    exact h0 (fun q => h_4 q.1)
  · refine a_aload_n rfl dX4_goOn_7 ?_
    refine a_geta dX4_goOn_8 fX4_11 (by decide) rfl rfl ?_
    refine a_aload_n rfl dX4_goOn_11 ?_
    refine g_i hC.2.1 (by decide) rfl fX4_62 rfl dX4_goOn_12 ?_
    refine v_iald (by omega) (show M.1 11 c.1 = nI (kd tk c) from (hT.2.2.2.2.2 _ hC.1).1) (by decide) rfl (by decide) dX4_goOn_15 ?_
    refine n_if_eq 23 (by omega) dX4_goOn_16 (by decide) (fun h_16 => ?_) (fun h_16 => ?_)
    · refine n_iconst 0 rfl dX4_goOn_23 ?_
      refine a_zret dX4_goOn_24 rfl (Or.inl rfl) ?_
      exact h0 (fun q => q.2 h_16)
    · refine n_iconst 1 rfl dX4_goOn_19 ?_
      refine a_goto 24 dX4_goOn_20 (by decide) ?_
      refine a_zret dX4_goOn_24 rfl (Or.inr rfl) ?_
      exact h1 h_4 h_16

set_option maxRecDepth 100000 in
set_option maxHeartbeats 800000 in
theorem c_X4_keyword {M : Mm} {tk : Nat → TK} {n : Nat} {c : CC} (hK : TKG tk) (hT : TX M tk n) (hC : CU M n c) {Q : Option Value → Mm → Prop} (h1 : kd tk c = 1 → cd tk c < 25 → Q (some (.int (nI (cd tk c)))) M) (h0 : ¬ kd tk c = 1 → Q (some (.int (-1))) M) (d : Nat) : AMt miX4_keyword (d) [.ref 10] M Q := by
  refine AMt.of (by decide) (Nat.le_of_ble_eq_true rfl) ?_
  show AW miX4_keyword (d) (mxA Q) 0 [(0, some (.ref 10))] [] M
  have hc1 := hC.1
  have hn1 := hT.2.1
  have hn9 := hT.2.2.1
  have hf7 := hC.2.2.2.2
  have hkd : kd tk c ≤ 6 := (hK c.1).1
  have hst := (hK c.1).2.1
  have htx := tx_kd hT hC
  refine a_aload_n rfl dX4_keyword_0 ?_
  refine a_geta dX4_keyword_1 fX4_11 (by decide) rfl rfl ?_
  refine a_aload_n rfl dX4_keyword_4 ?_
  refine g_i hC.2.1 (by decide) rfl fX4_62 rfl dX4_keyword_5 ?_
  refine v_iald (by omega) (show M.1 11 c.1 = nI (kd tk c) from (hT.2.2.2.2.2 _ hC.1).1) (by decide) rfl (by decide) dX4_keyword_8 ?_
  refine n_iconst 1 rfl dX4_keyword_9 ?_
  refine n_icmp_ne 26 (by omega) (by omega) dX4_keyword_10 (by decide) (fun h_10 => ?_) (fun h_10 => ?_)
  · refine a_iconst (-1) rfl dX4_keyword_26 ?_
    refine a_iret dX4_keyword_27 rfl ?_
    exact h0 h_10
  · refine a_aload_n rfl dX4_keyword_13 ?_
    refine a_geta dX4_keyword_14 fX4_18 (by decide) rfl rfl ?_
    refine a_aload_n rfl dX4_keyword_17 ?_
    refine g_i hC.2.1 (by decide) rfl fX4_62 rfl dX4_keyword_18 ?_
    refine n_lald (by omega) (by decide) rfl (by decide) dX4_keyword_21 ?_
    have hcd := (hK c.1).2.2.1 h_10
    refine a_eql (y := lN (cd tk c)) ((hT.2.2.2.2.2 _ hC.1).2.2 (Or.inl h_10)) ?_
    refine a_l2i dX4_keyword_22 ?_
    rw [lN_i]
    refine a_goto 27 dX4_keyword_23 (by decide) ?_
    refine a_iret dX4_keyword_27 rfl ?_
    exact h1 h_10 hcd

set_option maxRecDepth 100000 in
set_option maxHeartbeats 800000 in
theorem c_X4_takeKeyword {M : Mm} {tk : Nat → TK} {n : Nat} {c : CC} (hK : TKG tk) (hT : TX M tk n) (hC : CU M n c) {k : Nat} (hk : k < 25) {Q : Option Value → Mm → Prop} (hQ : ∀ M', CU M' n (kwdC tk k c) → fr cuP M M' → Q none M') (d : Nat) : AMt miX4_takeKeyword (d + 2) [.ref 10, .int (nI k)] M Q := by
  refine AMt.of (by decide) (Nat.le_of_ble_eq_true rfl) ?_
  show AW miX4_takeKeyword (d + 2) (mxA Q) 0 [(0, some (.ref 10)), (1, some (.int (nI k)))] [] M
  have hc1 := hC.1
  have hn1 := hT.2.1
  have hn9 := hT.2.2.1
  have hf7 := hC.2.2.2.2
  have hkd : kd tk c ≤ 6 := (hK c.1).1
  have hst := (hK c.1).2.1
  have htx := tx_kd hT hC
  refine a_aload_n rfl dX4_takeKeyword_0 ?_
  refine n_callV (mi' := miX4_keyword) dX4_takeKeyword_1 lX4_75 mX4_keyword (by decide) rfl rfl rfl (c_X4_keyword hK hT hC (fun h_1 hl_1 => ?_) (fun h_1 => ?_) d) rfl rfl (by omega) (by decide) (Nat.le_of_ble_eq_true rfl)
  · show AW _ _ _ _ _ _ _
    refine a_iload_n rfl dX4_takeKeyword_4 ?_
    refine n_icmp_eq 13 (by omega) (by omega) dX4_takeKeyword_5 (by decide) (fun h_5 => ?_) (fun h_5 => ?_)
    · refine a_aload_n rfl dX4_takeKeyword_13 ?_
      refine n_callV (mi' := miX4_step) dX4_takeKeyword_14 lX4_83 mX4_step (by decide) rfl rfl rfl (c_X4_step hK hT hC (fun M_14 hc_14 hf_14 => ?_) d) rfl rfl (by omega) (by decide) (Nat.le_of_ble_eq_true rfl)
      show AW _ _ _ _ _ _ _
      have hT_14 := TX_fr hT hf_14 (fun k j h => by unfold cuP; omega)
      refine a_vret dX4_takeKeyword_17 rfl ?_
      rw [show kwdC tk k c = spC tk c from congrArg (spC tk) (if_pos ⟨h_1, by omega⟩)] at hQ
      exact hQ _ hc_14 hf_14
    · refine a_aload_n rfl dX4_takeKeyword_8 ?_
      refine n_iconst 2 rfl dX4_takeKeyword_9 ?_
      refine n_callV (mi' := miX4_fail) dX4_takeKeyword_10 lX4_79 mX4_fail (by decide) rfl rfl rfl (c_X4_fail hK hT hC (by omega) (fun M_10 hc_10 hf_10 => ?_) d) rfl rfl (by omega) (by decide) (Nat.le_of_ble_eq_true rfl)
      show AW _ _ _ _ _ _ _
      have hT_10 := TX_fr hT hf_10 (fun k j h => by unfold cuP; omega)
      refine a_aload_n rfl dX4_takeKeyword_13 ?_
      refine n_callV (mi' := miX4_step) dX4_takeKeyword_14 lX4_83 mX4_step (by decide) rfl rfl rfl (c_X4_step hK hT_10 hc_10 (fun M_14 hc_14 hf_14 => ?_) d) rfl rfl (by omega) (by decide) (Nat.le_of_ble_eq_true rfl)
      show AW _ _ _ _ _ _ _
      have hT_14 := TX_fr hT_10 hf_14 (fun k j h => by unfold cuP; omega)
      refine a_vret dX4_takeKeyword_17 rfl ?_
      rw [show kwdC tk k c = spC tk (flC tk 2 c) from congrArg (spC tk) (if_neg (fun q => h_5 q.2))] at hQ
      exact hQ _ hc_14 (hf_10.t hf_14)
  · show AW _ _ _ _ _ _ _
    refine a_iload_n rfl dX4_takeKeyword_4 ?_
    refine r_icmp_eq 13 (by omega) dX4_takeKeyword_5 (by decide) (fun h_5 => absurd h_5 (by rw [show (-1 : Int32).toInt = -1 from by decide]; omega)) (fun h_5 => ?_)
    refine a_aload_n rfl dX4_takeKeyword_8 ?_
    refine n_iconst 2 rfl dX4_takeKeyword_9 ?_
    refine n_callV (mi' := miX4_fail) dX4_takeKeyword_10 lX4_79 mX4_fail (by decide) rfl rfl rfl (c_X4_fail hK hT hC (by omega) (fun M_10 hc_10 hf_10 => ?_) d) rfl rfl (by omega) (by decide) (Nat.le_of_ble_eq_true rfl)
    show AW _ _ _ _ _ _ _
    have hT_10 := TX_fr hT hf_10 (fun k j h => by unfold cuP; omega)
    refine a_aload_n rfl dX4_takeKeyword_13 ?_
    refine n_callV (mi' := miX4_step) dX4_takeKeyword_14 lX4_83 mX4_step (by decide) rfl rfl rfl (c_X4_step hK hT_10 hc_10 (fun M_14 hc_14 hf_14 => ?_) d) rfl rfl (by omega) (by decide) (Nat.le_of_ble_eq_true rfl)
    show AW _ _ _ _ _ _ _
    have hT_14 := TX_fr hT_10 hf_14 (fun k j h => by unfold cuP; omega)
    refine a_vret dX4_takeKeyword_17 rfl ?_
    rw [show kwdC tk k c = spC tk (flC tk 2 c) from congrArg (spC tk) (if_neg (fun q => absurd q.1 h_1))] at hQ
    exact hQ _ hc_14 (hf_10.t hf_14)

set_option maxRecDepth 100000 in
set_option maxHeartbeats 800000 in
theorem c_X4_takeEndOfPart {M : Mm} {tk : Nat → TK} {n : Nat} {c : CC} (hK : TKG tk) (hT : TX M tk n) (hC : CU M n c) {Q : Option Value → Mm → Prop} (hQ : ∀ M', CU M' n (endC tk c) → fr cuP M M' → Q none M') (d : Nat) : AMt miX4_takeEndOfPart (d + 1) [.ref 10] M Q := by
  refine AMt.of (by decide) (Nat.le_of_ble_eq_true rfl) ?_
  show AW miX4_takeEndOfPart (d + 1) (mxA Q) 0 [(0, some (.ref 10))] [] M
  have hc1 := hC.1
  have hn1 := hT.2.1
  have hn9 := hT.2.2.1
  have hf7 := hC.2.2.2.2
  have hkd : kd tk c ≤ 6 := (hK c.1).1
  have hst := (hK c.1).2.1
  have htx := tx_kd hT hC
  refine a_aload_n rfl dX4_takeEndOfPart_0 ?_
  refine a_geta dX4_takeEndOfPart_1 fX4_11 (by decide) rfl rfl ?_
  refine a_aload_n rfl dX4_takeEndOfPart_4 ?_
  refine g_i hC.2.1 (by decide) rfl fX4_62 rfl dX4_takeEndOfPart_5 ?_
  refine v_iald (by omega) (show M.1 11 c.1 = nI (kd tk c) from (hT.2.2.2.2.2 _ hC.1).1) (by decide) rfl (by decide) dX4_takeEndOfPart_8 ?_
  refine n_iconst 5 rfl dX4_takeEndOfPart_9 ?_
  refine n_icmp_ne 29 (by omega) (by omega) dX4_takeEndOfPart_10 (by decide) (fun h_10 => ?_) (fun h_10 => ?_)
  · refine a_aload_n rfl dX4_takeEndOfPart_29 ?_
    refine n_iconst 2 rfl dX4_takeEndOfPart_30 ?_
    refine n_callV (mi' := miX4_fail) dX4_takeEndOfPart_31 lX4_79 mX4_fail (by decide) rfl rfl rfl (c_X4_fail hK hT hC (by omega) (fun M_31 hc_31 hf_31 => ?_) d) rfl rfl (by omega) (by decide) (Nat.le_of_ble_eq_true rfl)
    show AW _ _ _ _ _ _ _
    have hT_31 := TX_fr hT hf_31 (fun k j h => by unfold cuP; omega)
    refine a_aload_n rfl dX4_takeEndOfPart_34 ?_
    refine n_callV (mi' := miX4_step) dX4_takeEndOfPart_35 lX4_83 mX4_step (by decide) rfl rfl rfl (c_X4_step hK hT_31 hc_31 (fun M_35 hc_35 hf_35 => ?_) d) rfl rfl (by omega) (by decide) (Nat.le_of_ble_eq_true rfl)
    show AW _ _ _ _ _ _ _
    have hT_35 := TX_fr hT_31 hf_35 (fun k j h => by unfold cuP; omega)
    refine a_vret dX4_takeEndOfPart_38 rfl ?_
    rw [show endC tk c = spC tk (flC tk 2 c) from congrArg (spC tk) (if_neg (fun q => h_10 q.1))] at hQ
    exact hQ _ hc_35 (hf_31.t hf_35)
  · refine a_aload_n rfl dX4_takeEndOfPart_13 ?_
    refine a_geta dX4_takeEndOfPart_14 fX4_18 (by decide) rfl rfl ?_
    refine a_aload_n rfl dX4_takeEndOfPart_17 ?_
    refine g_i hC.2.1 (by decide) rfl fX4_62 rfl dX4_takeEndOfPart_18 ?_
    refine n_lald (by omega) (by decide) rfl (by decide) dX4_takeEndOfPart_21 ?_
    have hcd : 59 ≤ cd tk c ∧ cd tk c ≤ 62 := (hK c.1).2.2.2.2.2 h_10
    refine a_eql (y := lN (cd tk c)) ((hT.2.2.2.2.2 _ hC.1).2.2 (Or.inr (Or.inr (Or.inr h_10)))) ?_
    refine a_ldc2 kX4_86 dX4_takeEndOfPart_22 ?_
    refine a_eql (y := lN 59) rfl ?_
    refine a_lcmp dX4_takeEndOfPart_25 ?_
    refine nl_if_eq 34 (by omega) (by omega) dX4_takeEndOfPart_26 (by decide) (fun h_26 => ?_) (fun h_26 => ?_)
    · refine a_aload_n rfl dX4_takeEndOfPart_34 ?_
      refine n_callV (mi' := miX4_step) dX4_takeEndOfPart_35 lX4_83 mX4_step (by decide) rfl rfl rfl (c_X4_step hK hT hC (fun M_35 hc_35 hf_35 => ?_) d) rfl rfl (by omega) (by decide) (Nat.le_of_ble_eq_true rfl)
      show AW _ _ _ _ _ _ _
      have hT_35 := TX_fr hT hf_35 (fun k j h => by unfold cuP; omega)
      refine a_vret dX4_takeEndOfPart_38 rfl ?_
      rw [show endC tk c = spC tk c from congrArg (spC tk) (if_pos ⟨h_10, h_26⟩)] at hQ
      exact hQ _ hc_35 hf_35
    · refine a_aload_n rfl dX4_takeEndOfPart_29 ?_
      refine n_iconst 2 rfl dX4_takeEndOfPart_30 ?_
      refine n_callV (mi' := miX4_fail) dX4_takeEndOfPart_31 lX4_79 mX4_fail (by decide) rfl rfl rfl (c_X4_fail hK hT hC (by omega) (fun M_31 hc_31 hf_31 => ?_) d) rfl rfl (by omega) (by decide) (Nat.le_of_ble_eq_true rfl)
      show AW _ _ _ _ _ _ _
      have hT_31 := TX_fr hT hf_31 (fun k j h => by unfold cuP; omega)
      refine a_aload_n rfl dX4_takeEndOfPart_34 ?_
      refine n_callV (mi' := miX4_step) dX4_takeEndOfPart_35 lX4_83 mX4_step (by decide) rfl rfl rfl (c_X4_step hK hT_31 hc_31 (fun M_35 hc_35 hf_35 => ?_) d) rfl rfl (by omega) (by decide) (Nat.le_of_ble_eq_true rfl)
      show AW _ _ _ _ _ _ _
      have hT_35 := TX_fr hT_31 hf_35 (fun k j h => by unfold cuP; omega)
      refine a_vret dX4_takeEndOfPart_38 rfl ?_
      rw [show endC tk c = spC tk (flC tk 2 c) from congrArg (spC tk) (if_neg (fun q => h_26 q.2))] at hQ
      exact hQ _ hc_35 (hf_31.t hf_35)

theorem num_0 {tk : Nat → TK} {lo hi : Nat} {c : CC} (h : (numC tk lo hi c).2.1 = 0) : c.2.1 = 0 ∧ kd tk c = 4 ∧ lo ≤ cd tk c ∧ cd tk c ≤ hi ∧ numC tk lo hi c = spC tk c := by
  unfold numC at h ⊢
  by_cases c1 : kd tk c = 4
  · rw [if_pos c1] at h ⊢
    by_cases c2 : lo ≤ cd tk c ∧ cd tk c ≤ hi
    · rw [if_pos c2] at h ⊢
      rw [sp_f] at h
      exact ⟨h, c1, c2.1, c2.2, rfl⟩
    · rw [if_neg c2, sp_f] at h
      exact absurd h (fl_z (by decide))
  · rw [if_neg c1, sp_f] at h
    exact absurd h (fl_z (by decide))
theorem cmp_0 {tk : Nat → TK} {c : CC} (h : (cmpC tk c).2.1 = 0) : c.2.1 = 0 ∧ kd tk c = 5 ∧ cd tk c ≠ 59 ∧ cmpC tk c = spC tk c := by
  unfold cmpC at h ⊢
  by_cases c1 : kd tk c = 5 ∧ cd tk c ≠ 59
  · rw [if_pos c1] at h ⊢
    rw [sp_f] at h
    exact ⟨h, c1.1, c1.2, rfl⟩
  · rw [if_neg c1, sp_f] at h
    exact absurd h (fl_z (by decide))

set_option maxRecDepth 100000 in
set_option maxHeartbeats 800000 in
theorem c_X4_takeNumber {M : Mm} {tk : Nat → TK} {n : Nat} {c : CC} (hK : TKG tk) (hT : TX M tk n) (hC : CU M n c) {lo hi : Nat} (hl : lo ≤ 100) (hh : hi ≤ 100) {Q : Option Value → Mm → Prop} (hQ : ∀ M' v, CU M' n (numC tk lo hi c) → ((numC tk lo hi c).2.1 = 0 → v = nI (cd tk c)) → fr cuP M M' → Q (some (.int v)) M') (d : Nat) : AMt miX4_takeNumber (d + 2) [.ref 10, .int (nI lo), .int (nI hi)] M Q := by
  refine AMt.of (by decide) (Nat.le_of_ble_eq_true rfl) ?_
  show AW miX4_takeNumber (d + 2) (mxA Q) 0 [(0, some (.ref 10)), (1, some (.int (nI lo))), (2, some (.int (nI hi)))] [] M
  have hc1 := hC.1
  have hn1 := hT.2.1
  have hn9 := hT.2.2.1
  have hf7 := hC.2.2.2.2
  have hkd : kd tk c ≤ 6 := (hK c.1).1
  have hst := (hK c.1).2.1
  have htx := tx_kd hT hC
  refine a_aload_n rfl dX4_takeNumber_0 ?_
  refine a_geta dX4_takeNumber_1 fX4_18 (by decide) rfl rfl ?_
  refine a_aload_n rfl dX4_takeNumber_4 ?_
  refine g_i hC.2.1 (by decide) rfl fX4_62 rfl dX4_takeNumber_5 ?_
  refine n_lald (by omega) (by decide) rfl (by decide) dX4_takeNumber_8 ?_
  generalize hx : M.2 13 c.1 = x
  have hxn : ∀ z, kd tk c = z → (z = 1 ∨ z = 2 ∨ z = 4 ∨ z = 5) → x.toInt32 = nI (cd tk c) := fun z hz h => by rw [← hx, (hT.2.2.2.2.2 _ hC.1).2.2 (by unfold kd at hz; omega)]; exact lN_i _
  refine a_l2i dX4_takeNumber_9 ?_
  refine a_istore_n (by decide) rfl dX4_takeNumber_10 ?_
  refine a_aload_n rfl dX4_takeNumber_11 ?_
  refine a_geta dX4_takeNumber_12 fX4_11 (by decide) rfl rfl ?_
  refine a_aload_n rfl dX4_takeNumber_15 ?_
  refine g_i hC.2.1 (by decide) rfl fX4_62 rfl dX4_takeNumber_16 ?_
  refine v_iald (by omega) (show M.1 11 c.1 = nI (kd tk c) from (hT.2.2.2.2.2 _ hC.1).1) (by decide) rfl (by decide) dX4_takeNumber_19 ?_
  refine n_iconst 4 rfl dX4_takeNumber_20 ?_
  refine n_icmp_eq 32 (by omega) (by omega) dX4_takeNumber_21 (by decide) (fun h_21 => ?_) (fun h_21 => ?_)
  · have hcd : cd tk c < 10000 := (hK c.1).2.2.2.2.1 h_21
    have hxe := hxn 4 h_21 (by omega)
    rw [hxe]
    refine a_iload_n rfl dX4_takeNumber_32 ?_
    refine a_iload_n rfl dX4_takeNumber_33 ?_
    refine n_icmp_lt 42 (by omega) (by omega) dX4_takeNumber_34 (by decide) (fun h_34 => ?_) (fun h_34 => ?_)
    · refine a_aload_n rfl dX4_takeNumber_42 ?_
      refine n_iconst 4 rfl dX4_takeNumber_43 ?_
      refine n_callV (mi' := miX4_fail) dX4_takeNumber_44 lX4_79 mX4_fail (by decide) rfl rfl rfl (c_X4_fail hK hT hC (by omega) (fun M_44 hc_44 hf_44 => ?_) d) rfl rfl (by omega) (by decide) (Nat.le_of_ble_eq_true rfl)
      show AW _ _ _ _ _ _ _
      have hT_44 := TX_fr hT hf_44 (fun k j h => by unfold cuP; omega)
      refine a_aload_n rfl dX4_takeNumber_47 ?_
      refine n_callV (mi' := miX4_step) dX4_takeNumber_48 lX4_83 mX4_step (by decide) rfl rfl rfl (c_X4_step hK hT_44 hc_44 (fun M_48 hc_48 hf_48 => ?_) d) rfl rfl (by omega) (by decide) (Nat.le_of_ble_eq_true rfl)
      show AW _ _ _ _ _ _ _
      have hT_48 := TX_fr hT_44 hf_48 (fun k j h => by unfold cuP; omega)
      refine a_iload_n rfl dX4_takeNumber_51 ?_
      refine a_iret dX4_takeNumber_52 rfl ?_
      rw [show numC tk lo hi c = spC tk (flC tk 4 c) from congrArg (spC tk) ((if_pos h_21).trans (if_neg (fun q => by omega)))] at hQ
      exact hQ _ _ hc_48 (fun _ => rfl) (hf_44.t hf_48)
    · refine a_iload_n rfl dX4_takeNumber_37 ?_
      refine a_iload_n rfl dX4_takeNumber_38 ?_
      refine n_icmp_le 47 (by omega) (by omega) dX4_takeNumber_39 (by decide) (fun h_39 => ?_) (fun h_39 => ?_)
      · refine a_aload_n rfl dX4_takeNumber_47 ?_
        refine n_callV (mi' := miX4_step) dX4_takeNumber_48 lX4_83 mX4_step (by decide) rfl rfl rfl (c_X4_step hK hT hC (fun M_48 hc_48 hf_48 => ?_) d) rfl rfl (by omega) (by decide) (Nat.le_of_ble_eq_true rfl)
        show AW _ _ _ _ _ _ _
        have hT_48 := TX_fr hT hf_48 (fun k j h => by unfold cuP; omega)
        refine a_iload_n rfl dX4_takeNumber_51 ?_
        refine a_iret dX4_takeNumber_52 rfl ?_
        rw [show numC tk lo hi c = spC tk c from congrArg (spC tk) ((if_pos h_21).trans (if_pos ⟨by omega, by omega⟩))] at hQ
        exact hQ _ _ hc_48 (fun _ => rfl) hf_48
      · refine a_aload_n rfl dX4_takeNumber_42 ?_
        refine n_iconst 4 rfl dX4_takeNumber_43 ?_
        refine n_callV (mi' := miX4_fail) dX4_takeNumber_44 lX4_79 mX4_fail (by decide) rfl rfl rfl (c_X4_fail hK hT hC (by omega) (fun M_44 hc_44 hf_44 => ?_) d) rfl rfl (by omega) (by decide) (Nat.le_of_ble_eq_true rfl)
        show AW _ _ _ _ _ _ _
        have hT_44 := TX_fr hT hf_44 (fun k j h => by unfold cuP; omega)
        refine a_aload_n rfl dX4_takeNumber_47 ?_
        refine n_callV (mi' := miX4_step) dX4_takeNumber_48 lX4_83 mX4_step (by decide) rfl rfl rfl (c_X4_step hK hT_44 hc_44 (fun M_48 hc_48 hf_48 => ?_) d) rfl rfl (by omega) (by decide) (Nat.le_of_ble_eq_true rfl)
        show AW _ _ _ _ _ _ _
        have hT_48 := TX_fr hT_44 hf_48 (fun k j h => by unfold cuP; omega)
        refine a_iload_n rfl dX4_takeNumber_51 ?_
        refine a_iret dX4_takeNumber_52 rfl ?_
        rw [show numC tk lo hi c = spC tk (flC tk 4 c) from congrArg (spC tk) ((if_pos h_21).trans (if_neg (fun q => by omega)))] at hQ
        exact hQ _ _ hc_48 (fun _ => rfl) (hf_44.t hf_48)
  · refine a_aload_n rfl dX4_takeNumber_24 ?_
    refine n_iconst 2 rfl dX4_takeNumber_25 ?_
    refine n_callV (mi' := miX4_fail) dX4_takeNumber_26 lX4_79 mX4_fail (by decide) rfl rfl rfl (c_X4_fail hK hT hC (by omega) (fun M_26 hc_26 hf_26 => ?_) d) rfl rfl (by omega) (by decide) (Nat.le_of_ble_eq_true rfl)
    show AW _ _ _ _ _ _ _
    have hT_26 := TX_fr hT hf_26 (fun k j h => by unfold cuP; omega)
    refine a_goto 47 dX4_takeNumber_29 (by decide) ?_
    refine a_aload_n rfl dX4_takeNumber_47 ?_
    refine n_callV (mi' := miX4_step) dX4_takeNumber_48 lX4_83 mX4_step (by decide) rfl rfl rfl (c_X4_step hK hT_26 hc_26 (fun M_48 hc_48 hf_48 => ?_) d) rfl rfl (by omega) (by decide) (Nat.le_of_ble_eq_true rfl)
    show AW _ _ _ _ _ _ _
    have hT_48 := TX_fr hT_26 hf_48 (fun k j h => by unfold cuP; omega)
    refine a_iload_n rfl dX4_takeNumber_51 ?_
    refine a_iret dX4_takeNumber_52 rfl ?_
    rw [show numC tk lo hi c = spC tk (flC tk 2 c) from congrArg (spC tk) (if_neg h_21)] at hQ
    exact hQ _ _ hc_48 (fun q => absurd (sp_f (tk := tk) (c := flC tk 2 c) ▸ q) (fl_z (by decide))) (hf_26.t hf_48)

set_option maxRecDepth 100000 in
set_option maxHeartbeats 800000 in
theorem c_X4_takeCompare {M : Mm} {tk : Nat → TK} {n : Nat} {c : CC} (hK : TKG tk) (hT : TX M tk n) (hC : CU M n c) {Q : Option Value → Mm → Prop} (hQ : ∀ M' v, CU M' n (cmpC tk c) → ((cmpC tk c).2.1 = 0 → v = nI (cd tk c)) → fr cuP M M' → Q (some (.int v)) M') (d : Nat) : AMt miX4_takeCompare (d + 2) [.ref 10] M Q := by
  refine AMt.of (by decide) (Nat.le_of_ble_eq_true rfl) ?_
  show AW miX4_takeCompare (d + 2) (mxA Q) 0 [(0, some (.ref 10))] [] M
  have hc1 := hC.1
  have hn1 := hT.2.1
  have hn9 := hT.2.2.1
  have hf7 := hC.2.2.2.2
  have hkd : kd tk c ≤ 6 := (hK c.1).1
  have hst := (hK c.1).2.1
  have htx := tx_kd hT hC
  refine a_aload_n rfl dX4_takeCompare_0 ?_
  refine a_geta dX4_takeCompare_1 fX4_18 (by decide) rfl rfl ?_
  refine a_aload_n rfl dX4_takeCompare_4 ?_
  refine g_i hC.2.1 (by decide) rfl fX4_62 rfl dX4_takeCompare_5 ?_
  refine n_lald (by omega) (by decide) rfl (by decide) dX4_takeCompare_8 ?_
  generalize hx : M.2 13 c.1 = x
  have hxn : ∀ z, kd tk c = z → (z = 1 ∨ z = 2 ∨ z = 4 ∨ z = 5) → x.toInt32 = nI (cd tk c) := fun z hz h => by rw [← hx, (hT.2.2.2.2.2 _ hC.1).2.2 (by unfold kd at hz; omega)]; exact lN_i _
  refine a_l2i dX4_takeCompare_9 ?_
  refine a_istore_n (by decide) rfl dX4_takeCompare_10 ?_
  refine a_aload_n rfl dX4_takeCompare_11 ?_
  refine a_geta dX4_takeCompare_12 fX4_11 (by decide) rfl rfl ?_
  refine a_aload_n rfl dX4_takeCompare_15 ?_
  refine g_i hC.2.1 (by decide) rfl fX4_62 rfl dX4_takeCompare_16 ?_
  refine v_iald (by omega) (show M.1 11 c.1 = nI (kd tk c) from (hT.2.2.2.2.2 _ hC.1).1) (by decide) rfl (by decide) dX4_takeCompare_19 ?_
  refine n_iconst 5 rfl dX4_takeCompare_20 ?_
  refine n_icmp_ne 30 (by omega) (by omega) dX4_takeCompare_21 (by decide) (fun h_21 => ?_) (fun h_21 => ?_)
  · refine a_aload_n rfl dX4_takeCompare_30 ?_
    refine n_iconst 2 rfl dX4_takeCompare_31 ?_
    refine n_callV (mi' := miX4_fail) dX4_takeCompare_32 lX4_79 mX4_fail (by decide) rfl rfl rfl (c_X4_fail hK hT hC (by omega) (fun M_32 hc_32 hf_32 => ?_) d) rfl rfl (by omega) (by decide) (Nat.le_of_ble_eq_true rfl)
    show AW _ _ _ _ _ _ _
    have hT_32 := TX_fr hT hf_32 (fun k j h => by unfold cuP; omega)
    refine a_aload_n rfl dX4_takeCompare_35 ?_
    refine n_callV (mi' := miX4_step) dX4_takeCompare_36 lX4_83 mX4_step (by decide) rfl rfl rfl (c_X4_step hK hT_32 hc_32 (fun M_36 hc_36 hf_36 => ?_) d) rfl rfl (by omega) (by decide) (Nat.le_of_ble_eq_true rfl)
    show AW _ _ _ _ _ _ _
    have hT_36 := TX_fr hT_32 hf_36 (fun k j h => by unfold cuP; omega)
    refine a_iload_n rfl dX4_takeCompare_39 ?_
    refine a_iret dX4_takeCompare_40 rfl ?_
    rw [show cmpC tk c = spC tk (flC tk 2 c) from congrArg (spC tk) (if_neg (fun q => h_21 q.1))] at hQ
    exact hQ _ _ hc_36 (fun q => absurd (sp_f (tk := tk) (c := flC tk 2 c) ▸ q) (fl_z (by decide))) (hf_32.t hf_36)
  · have hcd : 59 ≤ cd tk c ∧ cd tk c ≤ 62 := (hK c.1).2.2.2.2.2 h_21
    have hxe := hxn 5 h_21 (by omega)
    rw [hxe]
    refine a_iload_n rfl dX4_takeCompare_24 ?_
    refine n_bipush 59 rfl dX4_takeCompare_25 ?_
    refine n_icmp_ne 35 (by omega) (by omega) dX4_takeCompare_27 (by decide) (fun h_27 => ?_) (fun h_27 => ?_)
    · refine a_aload_n rfl dX4_takeCompare_35 ?_
      refine n_callV (mi' := miX4_step) dX4_takeCompare_36 lX4_83 mX4_step (by decide) rfl rfl rfl (c_X4_step hK hT hC (fun M_36 hc_36 hf_36 => ?_) d) rfl rfl (by omega) (by decide) (Nat.le_of_ble_eq_true rfl)
      show AW _ _ _ _ _ _ _
      have hT_36 := TX_fr hT hf_36 (fun k j h => by unfold cuP; omega)
      refine a_iload_n rfl dX4_takeCompare_39 ?_
      refine a_iret dX4_takeCompare_40 rfl ?_
      rw [show cmpC tk c = spC tk c from congrArg (spC tk) (if_pos ⟨h_21, h_27⟩)] at hQ
      exact hQ _ _ hc_36 (fun _ => rfl) hf_36
    · refine a_aload_n rfl dX4_takeCompare_30 ?_
      refine n_iconst 2 rfl dX4_takeCompare_31 ?_
      refine n_callV (mi' := miX4_fail) dX4_takeCompare_32 lX4_79 mX4_fail (by decide) rfl rfl rfl (c_X4_fail hK hT hC (by omega) (fun M_32 hc_32 hf_32 => ?_) d) rfl rfl (by omega) (by decide) (Nat.le_of_ble_eq_true rfl)
      show AW _ _ _ _ _ _ _
      have hT_32 := TX_fr hT hf_32 (fun k j h => by unfold cuP; omega)
      refine a_aload_n rfl dX4_takeCompare_35 ?_
      refine n_callV (mi' := miX4_step) dX4_takeCompare_36 lX4_83 mX4_step (by decide) rfl rfl rfl (c_X4_step hK hT_32 hc_32 (fun M_36 hc_36 hf_36 => ?_) d) rfl rfl (by omega) (by decide) (Nat.le_of_ble_eq_true rfl)
      show AW _ _ _ _ _ _ _
      have hT_36 := TX_fr hT_32 hf_36 (fun k j h => by unfold cuP; omega)
      refine a_iload_n rfl dX4_takeCompare_39 ?_
      refine a_iret dX4_takeCompare_40 rfl ?_
      rw [show cmpC tk c = spC tk (flC tk 2 c) from congrArg (spC tk) (if_neg (fun q => q.2 h_27))] at hQ
      exact hQ _ _ hc_36 (fun _ => rfl) (hf_32.t hf_36)
